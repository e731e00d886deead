/-! CALLS by their kinds and how many they are given -/
def a_cb (P' : aP) (n : Nat) : Prop := Cond.code P'.1 P'.2.1 P'.2.2.1 P'.2.2.2.1 ∈ lw_ok ∧ Cond.initialized P'.1.cls ∈ lw_ok ∧ (P'.1.cls ≠ "java/lang/invoke/MethodHandle" ∧ P'.1.cls ≠ "java/lang/invoke/VarHandle" ∧ (parseMethodDescriptor P'.1.desc).map (fun d => d.parameters.length) = some n)
def a_kV (own : String) (i : Nat) (P' : aP) (n : Nat) : Prop := a_cb P' n ∧ Cond.methodLink own i P'.1 ∈ lw_ok ∧ Cond.instanceMethod P'.1 ∈ lw_ok ∧ Cond.selects P'.1.cls P'.1 P'.1 ∈ lw_ok
def a_kS (own : String) (i : Nat) (P' : aP) (n : Nat) : Prop := a_cb P' n ∧ Cond.methodLink own i P'.1 ∈ lw_ok ∧ Cond.static P'.1 ∈ lw_ok
def a_kSN (own : String) (i : Nat) (P' : aP) (n : Nat) : Prop := a_cb P' n ∧ ∃ host : String, Cond.methodLinkNest own i P'.1 host ∈ a_nest ∧ Cond.static P'.1 ∈ lw_ok
def a_kI (own : String) (i : Nat) (P' : aP) (n : Nat) : Prop := a_cb P' n ∧ P'.2.2.2.1 = none ∧ P'.1.name = "<init>" ∧ Cond.methodLink own i P'.1 ∈ lw_ok ∧ Cond.instanceMethod P'.1 ∈ lw_ok
def a_kIN (own : String) (i : Nat) (P' : aP) (n : Nat) : Prop := a_cb P' n ∧ P'.2.2.2.1 = none ∧ P'.1.name = "<init>" ∧ (∃ host : String, Cond.methodLinkNest own i P'.1 host ∈ a_nest) ∧ Cond.instanceMethod P'.1 ∈ lw_ok
/-- the room for a call -/
def a_rm (P P' : aP) (kc ks : Nat) : Bool := Nat.ble (P'.2.2.2.2.1.frames + 1) P.2.2.2.2.1.frames && (Nat.ble (8 + (P'.2.2.1 + 11) + P'.2.2.2.2.1.locals) P.2.2.2.2.1.locals && (Nat.ble (kc + P'.2.2.2.2.1.cells) P.2.2.2.2.1.cells && Nat.ble (ks + P'.2.2.2.2.1.slots) P.2.2.2.2.1.slots))
theorem a_rm_spec {P P' : aP} {kc ks : Nat} (h : a_rm P P' kc ks = true) : (P'.2.2.2.2.1.frames + 1 ≤ P.2.2.2.2.1.frames ∧ 8 + (P'.2.2.1 + 11) + P'.2.2.2.2.1.locals ≤ P.2.2.2.2.1.locals) ∧ kc + P'.2.2.2.2.1.cells ≤ P.2.2.2.2.1.cells ∧ ks + P'.2.2.2.2.1.slots ≤ P.2.2.2.2.1.slots := by
  simp only [a_rm, Bool.and_eq_true, Nat.ble_eq] at h
  exact ⟨⟨h.1, h.2.1⟩, h.2.2⟩
theorem a_good (P' : aP) (h : Cond.code P'.1 P'.2.1 P'.2.2.1 P'.2.2.2.1 ∈ lw_ok) : GoodIn lw_ok (Cond.code P'.1 P'.2.1 P'.2.2.1 P'.2.2.2.1 :: lw_ok) := fun w hw => by
  rcases List.mem_cons.mp hw with e | e
  · rw [e]; exact ⟨h, good_of_word (lw_ok_good h)⟩
  · exact ⟨e, good_of_word (lw_ok_good e)⟩
section AX5
variable {l : Launch} {E : aE} {P : aP} {Q : aQ} {kc ks N : Nat} {S : aS} {M : aM} {pc : Nat} {lo : List (Nat × aV)} {st : List aV}
theorem a_pre {ad : Nat → Nat} {p : Program} {s : State} {m : MethodId} {args : Array Value} {meth : Method} {c : Code} {H : Heap} {locs : List Loc} {vs : List aV} (B : a_B l E P p s m args meth c) (w : a_w E ad N S M H) (hS : va_S (a_A E) s.heap H locs) :
    PreS s H (va_Pc (vs.map (a_cv E ad)) (fun U => a_w E ad N S M U.heap ∧ va_K E.1 vwCl (a_tys E) U ∧ a_st E U U.heap ∧ E.2.2.1 ≤ U.heap.size)) (vs.map (a_cv E ad)) := by
  refine ⟨a_blind, fun U hU hW => ⟨rfl, by rw [hU]; exact w, va_K.moved hW.alike B.2.2.2.2.2.2.2.1, ?_, by rw [hU]; exact Nat.le_trans B.2.2.2.2.2.2.2.2.2.2.2.2 hS.1⟩⟩
  obtain ⟨q1, q2, q3, q4, q5⟩ := B.2.2.2.2.2.2.2.2.1
  rw [hU]
  exact ⟨fun w hw => a_nestW (a_nest_in hw) hW (q1 w hw), vx_Zq.moved hW.alike (vx_Zq.kept q2 hS.2.1), vx_Zq.moved hW.alike (vx_Zq.kept q3 hS.2.1), a_ao.moved hW.alike q4, a_k.warm hW q5 hS.2.1⟩
theorem a_recv {ad : Nat → Nat} {p : Program} {s : State} {m : MethodId} {args : Array Value} {meth : Method} {c : Code} {H : Heap} {o n9 : Int} {r9 : Int → Int} {ci : Nat} {C : String} (B : a_B l E P p s m args meth c) (w : a_w E ad N S M H) (hS : S o = (ci, n9, r9)) (hcl : (vwCl[ci]?).map (fun q => q.1) = some C) :
    0 ≤ o ∧ ∃ cell : Cell, H[ad o.toNat]? = some cell ∧ cell.vm.isStatics = false ∧ s.vm.findClass C = some cell.cls := by
  obtain ⟨q9, hq9, hn9⟩ : ∃ q, vwCl[ci]? = some q ∧ q.1 = C := by
    cases hq : vwCl[ci]? with
    | none => rw [hq] at hcl; cases hcl
    | some q => rw [hq] at hcl; exact ⟨q, rfl, Option.some.inj hcl⟩
  have hci : ci < 12 := (List.getElem?_eq_some_iff.mp hq9).1
  obtain ⟨o1, o2, o3⟩ := a_in w hS (by omega)
  have hrv := va_recv B.2.2.2.2.2.2.2.1 w.1 hq9 (q0 := o.toNat) (a := ad o.toNat) (fs := a_fs E ad ci n9 r9 (M o)) (by rw [o3]; unfold a_ce; rw [if_pos hci])
  rw [hn9] at hrv
  exact ⟨o1, hrv⟩
theorem x_callV0 {P' : aP} {Q' : aQ} {i : Nat} {o : Int} {ci : Nat} {n9 : Int} {r9 : Int → Int} (hd : decode P.2.1 pc = .ok (.invokevirtual i, 3)) (hh : P.2.2.2.2.2 = []) (hk : a_kV P.1.cls i P' 0) (hm : aMt l E P' [(2, o)] N S M Q') (hS : S o = (ci, n9, r9)) (hcl : (vwCl[ci]?).map (fun q => q.1) = some P'.1.cls) (hr : a_rm P P' kc ks = true) (hlen : a_len st ≤ 8)
    (k1 : ∀ (r : Option aV) (N' : Nat) (S' : aS) (M' : aM), Q' (.inl r) N' S' M' → a_ex N N' S S' → aX l E P Q (kc + P'.2.2.2.2.1.cells) (ks + P'.2.2.2.2.1.slots) N' S' M' (pc + 3) lo (r.toList ++ st))
    (k2 : ∀ (x9 N' : Nat) (S' : aS) (M' : aM), Q' (.inr x9) N' S' M' → a_ex N N' S S' → Q (.inr x9) N' S' M') : aX l E P Q kc ks N S M pc lo ((2, o) :: st) := by
  intro p e s m args below meth c H locs ls ad0 ad N0 S0 B w x hS9 hl h1 h2
  obtain ⟨hR, hC⟩ := a_rm_spec hr
  have hst : ∀ v ∈ st, a_vok N v := fun v hv => h1 v (by simp [hv])
  have hvs : ∀ v ∈ ([(2, o)] : List aV), a_vok N v := fun v hv => h1 v (by simp at hv ⊢; rcases hv with rfl <;> simp)
  have hsz : ls.size = P.2.2.1 := hl.1
  have hmon : 2 * (F0 m pc ls ([] : List Value)).monitorRoom + ((st.map (a_cv E ad)).map fun v => v.category).sum ≤ 8 := lv_room (by rw [a_len_sum]; exact hlen)
  have hcb := hk.1
  obtain ⟨o1, hrv⟩ := a_recv B w hS hcl
  have hpre := a_pre (vs := [(2, o)]) B w hS9
  have run := vx_runV (R := P.2.2.2.2.1) (e := e) (args := args) (below := below) (meth := meth) (locs := locs) (cells := kc) (slots := ks) (g := F0 m pc ls (((2, o) :: st).map (a_cv E ad))) (b := ad o.toNat) (As := []) (rest := st.map (a_cv E ad)) ⟨B.1, B.2.1, B.2.2.2.1, B.2.2.2.2.1, fun w hw => B.2.2.2.2.2.1 w hw⟩ (hm hvs ad) (⟨callB_of 0 (fun w hw => B.2.2.2.2.2.1 w hw) (a_good P' hcb.1) rfl rfl rfl (B.2.2.2.2.2.1 _ hcb.2.1) (B.2.2.2.2.2.1 _ hk.2.1) hcb.2.2 hR, B.2.2.2.2.2.1 _ hk.2.2.1, B.2.2.2.2.2.1 _ hk.2.2.2⟩) ⟨hpre.1, hrv, fun U hU hW => by have z := hpre.2 U hU hW; rw [show ([(2, o)].map (a_cv E ad)) = Value.ref (ad o.toNat) :: [] from by rw [← a_cv_in o1]; rfl] at z ⊢; exact z⟩ rfl rfl hsz (by rw [← a_cv_in o1]; rfl) hmon hd hC
  exact a_after hh B x hS9 hl hst h2 run hC k1 k2
theorem x_callV1 {P' : aP} {Q' : aQ} {i : Nat} {v1 : aV} {o : Int} {ci : Nat} {n9 : Int} {r9 : Int → Int} (hd : decode P.2.1 pc = .ok (.invokevirtual i, 3)) (hh : P.2.2.2.2.2 = []) (hk : a_kV P.1.cls i P' 1) (hm : aMt l E P' [(2, o), v1] N S M Q') (hS : S o = (ci, n9, r9)) (hcl : (vwCl[ci]?).map (fun q => q.1) = some P'.1.cls) (hr : a_rm P P' kc ks = true) (hlen : a_len st ≤ 8)
    (k1 : ∀ (r : Option aV) (N' : Nat) (S' : aS) (M' : aM), Q' (.inl r) N' S' M' → a_ex N N' S S' → aX l E P Q (kc + P'.2.2.2.2.1.cells) (ks + P'.2.2.2.2.1.slots) N' S' M' (pc + 3) lo (r.toList ++ st))
    (k2 : ∀ (x9 N' : Nat) (S' : aS) (M' : aM), Q' (.inr x9) N' S' M' → a_ex N N' S S' → Q (.inr x9) N' S' M') : aX l E P Q kc ks N S M pc lo (v1 :: (2, o) :: st) := by
  intro p e s m args below meth c H locs ls ad0 ad N0 S0 B w x hS9 hl h1 h2
  obtain ⟨hR, hC⟩ := a_rm_spec hr
  have hst : ∀ v ∈ st, a_vok N v := fun v hv => h1 v (by simp [hv])
  have hvs : ∀ v ∈ ([(2, o), v1] : List aV), a_vok N v := fun v hv => h1 v (by simp at hv ⊢; rcases hv with rfl | rfl <;> simp)
  have hsz : ls.size = P.2.2.1 := hl.1
  have hmon : 2 * (F0 m pc ls ([] : List Value)).monitorRoom + ((st.map (a_cv E ad)).map fun v => v.category).sum ≤ 8 := lv_room (by rw [a_len_sum]; exact hlen)
  have hcb := hk.1
  obtain ⟨o1, hrv⟩ := a_recv B w hS hcl
  have hpre := a_pre (vs := [(2, o), v1]) B w hS9
  have run := vx_runV (R := P.2.2.2.2.1) (e := e) (args := args) (below := below) (meth := meth) (locs := locs) (cells := kc) (slots := ks) (g := F0 m pc ls ((v1 :: (2, o) :: st).map (a_cv E ad))) (b := ad o.toNat) (As := [a_cv E ad v1]) (rest := st.map (a_cv E ad)) ⟨B.1, B.2.1, B.2.2.2.1, B.2.2.2.2.1, fun w hw => B.2.2.2.2.2.1 w hw⟩ (hm hvs ad) (⟨callB_of 1 (fun w hw => B.2.2.2.2.2.1 w hw) (a_good P' hcb.1) rfl rfl rfl (B.2.2.2.2.2.1 _ hcb.2.1) (B.2.2.2.2.2.1 _ hk.2.1) hcb.2.2 hR, B.2.2.2.2.2.1 _ hk.2.2.1, B.2.2.2.2.2.1 _ hk.2.2.2⟩) ⟨hpre.1, hrv, fun U hU hW => by have z := hpre.2 U hU hW; rw [show ([(2, o), v1].map (a_cv E ad)) = Value.ref (ad o.toNat) :: [a_cv E ad v1] from by rw [← a_cv_in o1]; rfl] at z ⊢; exact z⟩ rfl rfl hsz (by rw [← a_cv_in o1]; rfl) hmon hd hC
  exact a_after hh B x hS9 hl hst h2 run hC k1 k2
theorem x_callV2 {P' : aP} {Q' : aQ} {i : Nat} {v1 v2 : aV} {o : Int} {ci : Nat} {n9 : Int} {r9 : Int → Int} (hd : decode P.2.1 pc = .ok (.invokevirtual i, 3)) (hh : P.2.2.2.2.2 = []) (hk : a_kV P.1.cls i P' 2) (hm : aMt l E P' [(2, o), v1, v2] N S M Q') (hS : S o = (ci, n9, r9)) (hcl : (vwCl[ci]?).map (fun q => q.1) = some P'.1.cls) (hr : a_rm P P' kc ks = true) (hlen : a_len st ≤ 8)
    (k1 : ∀ (r : Option aV) (N' : Nat) (S' : aS) (M' : aM), Q' (.inl r) N' S' M' → a_ex N N' S S' → aX l E P Q (kc + P'.2.2.2.2.1.cells) (ks + P'.2.2.2.2.1.slots) N' S' M' (pc + 3) lo (r.toList ++ st))
    (k2 : ∀ (x9 N' : Nat) (S' : aS) (M' : aM), Q' (.inr x9) N' S' M' → a_ex N N' S S' → Q (.inr x9) N' S' M') : aX l E P Q kc ks N S M pc lo (v2 :: v1 :: (2, o) :: st) := by
  intro p e s m args below meth c H locs ls ad0 ad N0 S0 B w x hS9 hl h1 h2
  obtain ⟨hR, hC⟩ := a_rm_spec hr
  have hst : ∀ v ∈ st, a_vok N v := fun v hv => h1 v (by simp [hv])
  have hvs : ∀ v ∈ ([(2, o), v1, v2] : List aV), a_vok N v := fun v hv => h1 v (by simp at hv ⊢; rcases hv with rfl | rfl | rfl <;> simp)
  have hsz : ls.size = P.2.2.1 := hl.1
  have hmon : 2 * (F0 m pc ls ([] : List Value)).monitorRoom + ((st.map (a_cv E ad)).map fun v => v.category).sum ≤ 8 := lv_room (by rw [a_len_sum]; exact hlen)
  have hcb := hk.1
  obtain ⟨o1, hrv⟩ := a_recv B w hS hcl
  have hpre := a_pre (vs := [(2, o), v1, v2]) B w hS9
  have run := vx_runV (R := P.2.2.2.2.1) (e := e) (args := args) (below := below) (meth := meth) (locs := locs) (cells := kc) (slots := ks) (g := F0 m pc ls ((v2 :: v1 :: (2, o) :: st).map (a_cv E ad))) (b := ad o.toNat) (As := [a_cv E ad v1, a_cv E ad v2]) (rest := st.map (a_cv E ad)) ⟨B.1, B.2.1, B.2.2.2.1, B.2.2.2.2.1, fun w hw => B.2.2.2.2.2.1 w hw⟩ (hm hvs ad) (⟨callB_of 2 (fun w hw => B.2.2.2.2.2.1 w hw) (a_good P' hcb.1) rfl rfl rfl (B.2.2.2.2.2.1 _ hcb.2.1) (B.2.2.2.2.2.1 _ hk.2.1) hcb.2.2 hR, B.2.2.2.2.2.1 _ hk.2.2.1, B.2.2.2.2.2.1 _ hk.2.2.2⟩) ⟨hpre.1, hrv, fun U hU hW => by have z := hpre.2 U hU hW; rw [show ([(2, o), v1, v2].map (a_cv E ad)) = Value.ref (ad o.toNat) :: [a_cv E ad v1, a_cv E ad v2] from by rw [← a_cv_in o1]; rfl] at z ⊢; exact z⟩ rfl rfl hsz (by rw [← a_cv_in o1]; rfl) hmon hd hC
  exact a_after hh B x hS9 hl hst h2 run hC k1 k2
theorem x_callV3 {P' : aP} {Q' : aQ} {i : Nat} {v1 v2 v3 : aV} {o : Int} {ci : Nat} {n9 : Int} {r9 : Int → Int} (hd : decode P.2.1 pc = .ok (.invokevirtual i, 3)) (hh : P.2.2.2.2.2 = []) (hk : a_kV P.1.cls i P' 3) (hm : aMt l E P' [(2, o), v1, v2, v3] N S M Q') (hS : S o = (ci, n9, r9)) (hcl : (vwCl[ci]?).map (fun q => q.1) = some P'.1.cls) (hr : a_rm P P' kc ks = true) (hlen : a_len st ≤ 8)
    (k1 : ∀ (r : Option aV) (N' : Nat) (S' : aS) (M' : aM), Q' (.inl r) N' S' M' → a_ex N N' S S' → aX l E P Q (kc + P'.2.2.2.2.1.cells) (ks + P'.2.2.2.2.1.slots) N' S' M' (pc + 3) lo (r.toList ++ st))
    (k2 : ∀ (x9 N' : Nat) (S' : aS) (M' : aM), Q' (.inr x9) N' S' M' → a_ex N N' S S' → Q (.inr x9) N' S' M') : aX l E P Q kc ks N S M pc lo (v3 :: v2 :: v1 :: (2, o) :: st) := by
  intro p e s m args below meth c H locs ls ad0 ad N0 S0 B w x hS9 hl h1 h2
  obtain ⟨hR, hC⟩ := a_rm_spec hr
  have hst : ∀ v ∈ st, a_vok N v := fun v hv => h1 v (by simp [hv])
  have hvs : ∀ v ∈ ([(2, o), v1, v2, v3] : List aV), a_vok N v := fun v hv => h1 v (by simp at hv ⊢; rcases hv with rfl | rfl | rfl | rfl <;> simp)
  have hsz : ls.size = P.2.2.1 := hl.1
  have hmon : 2 * (F0 m pc ls ([] : List Value)).monitorRoom + ((st.map (a_cv E ad)).map fun v => v.category).sum ≤ 8 := lv_room (by rw [a_len_sum]; exact hlen)
  have hcb := hk.1
  obtain ⟨o1, hrv⟩ := a_recv B w hS hcl
  have hpre := a_pre (vs := [(2, o), v1, v2, v3]) B w hS9
  have run := vx_runV (R := P.2.2.2.2.1) (e := e) (args := args) (below := below) (meth := meth) (locs := locs) (cells := kc) (slots := ks) (g := F0 m pc ls ((v3 :: v2 :: v1 :: (2, o) :: st).map (a_cv E ad))) (b := ad o.toNat) (As := [a_cv E ad v1, a_cv E ad v2, a_cv E ad v3]) (rest := st.map (a_cv E ad)) ⟨B.1, B.2.1, B.2.2.2.1, B.2.2.2.2.1, fun w hw => B.2.2.2.2.2.1 w hw⟩ (hm hvs ad) (⟨callB_of 3 (fun w hw => B.2.2.2.2.2.1 w hw) (a_good P' hcb.1) rfl rfl rfl (B.2.2.2.2.2.1 _ hcb.2.1) (B.2.2.2.2.2.1 _ hk.2.1) hcb.2.2 hR, B.2.2.2.2.2.1 _ hk.2.2.1, B.2.2.2.2.2.1 _ hk.2.2.2⟩) ⟨hpre.1, hrv, fun U hU hW => by have z := hpre.2 U hU hW; rw [show ([(2, o), v1, v2, v3].map (a_cv E ad)) = Value.ref (ad o.toNat) :: [a_cv E ad v1, a_cv E ad v2, a_cv E ad v3] from by rw [← a_cv_in o1]; rfl] at z ⊢; exact z⟩ rfl rfl hsz (by rw [← a_cv_in o1]; rfl) hmon hd hC
  exact a_after hh B x hS9 hl hst h2 run hC k1 k2
theorem x_callV4 {P' : aP} {Q' : aQ} {i : Nat} {v1 v2 v3 v4 : aV} {o : Int} {ci : Nat} {n9 : Int} {r9 : Int → Int} (hd : decode P.2.1 pc = .ok (.invokevirtual i, 3)) (hh : P.2.2.2.2.2 = []) (hk : a_kV P.1.cls i P' 4) (hm : aMt l E P' [(2, o), v1, v2, v3, v4] N S M Q') (hS : S o = (ci, n9, r9)) (hcl : (vwCl[ci]?).map (fun q => q.1) = some P'.1.cls) (hr : a_rm P P' kc ks = true) (hlen : a_len st ≤ 8)
    (k1 : ∀ (r : Option aV) (N' : Nat) (S' : aS) (M' : aM), Q' (.inl r) N' S' M' → a_ex N N' S S' → aX l E P Q (kc + P'.2.2.2.2.1.cells) (ks + P'.2.2.2.2.1.slots) N' S' M' (pc + 3) lo (r.toList ++ st))
    (k2 : ∀ (x9 N' : Nat) (S' : aS) (M' : aM), Q' (.inr x9) N' S' M' → a_ex N N' S S' → Q (.inr x9) N' S' M') : aX l E P Q kc ks N S M pc lo (v4 :: v3 :: v2 :: v1 :: (2, o) :: st) := by
  intro p e s m args below meth c H locs ls ad0 ad N0 S0 B w x hS9 hl h1 h2
  obtain ⟨hR, hC⟩ := a_rm_spec hr
  have hst : ∀ v ∈ st, a_vok N v := fun v hv => h1 v (by simp [hv])
  have hvs : ∀ v ∈ ([(2, o), v1, v2, v3, v4] : List aV), a_vok N v := fun v hv => h1 v (by simp at hv ⊢; rcases hv with rfl | rfl | rfl | rfl | rfl <;> simp)
  have hsz : ls.size = P.2.2.1 := hl.1
  have hmon : 2 * (F0 m pc ls ([] : List Value)).monitorRoom + ((st.map (a_cv E ad)).map fun v => v.category).sum ≤ 8 := lv_room (by rw [a_len_sum]; exact hlen)
  have hcb := hk.1
  obtain ⟨o1, hrv⟩ := a_recv B w hS hcl
  have hpre := a_pre (vs := [(2, o), v1, v2, v3, v4]) B w hS9
  have run := vx_runV (R := P.2.2.2.2.1) (e := e) (args := args) (below := below) (meth := meth) (locs := locs) (cells := kc) (slots := ks) (g := F0 m pc ls ((v4 :: v3 :: v2 :: v1 :: (2, o) :: st).map (a_cv E ad))) (b := ad o.toNat) (As := [a_cv E ad v1, a_cv E ad v2, a_cv E ad v3, a_cv E ad v4]) (rest := st.map (a_cv E ad)) ⟨B.1, B.2.1, B.2.2.2.1, B.2.2.2.2.1, fun w hw => B.2.2.2.2.2.1 w hw⟩ (hm hvs ad) (⟨callB_of 4 (fun w hw => B.2.2.2.2.2.1 w hw) (a_good P' hcb.1) rfl rfl rfl (B.2.2.2.2.2.1 _ hcb.2.1) (B.2.2.2.2.2.1 _ hk.2.1) hcb.2.2 hR, B.2.2.2.2.2.1 _ hk.2.2.1, B.2.2.2.2.2.1 _ hk.2.2.2⟩) ⟨hpre.1, hrv, fun U hU hW => by have z := hpre.2 U hU hW; rw [show ([(2, o), v1, v2, v3, v4].map (a_cv E ad)) = Value.ref (ad o.toNat) :: [a_cv E ad v1, a_cv E ad v2, a_cv E ad v3, a_cv E ad v4] from by rw [← a_cv_in o1]; rfl] at z ⊢; exact z⟩ rfl rfl hsz (by rw [← a_cv_in o1]; rfl) hmon hd hC
  exact a_after hh B x hS9 hl hst h2 run hC k1 k2
theorem x_callV5 {P' : aP} {Q' : aQ} {i : Nat} {v1 v2 v3 v4 v5 : aV} {o : Int} {ci : Nat} {n9 : Int} {r9 : Int → Int} (hd : decode P.2.1 pc = .ok (.invokevirtual i, 3)) (hh : P.2.2.2.2.2 = []) (hk : a_kV P.1.cls i P' 5) (hm : aMt l E P' [(2, o), v1, v2, v3, v4, v5] N S M Q') (hS : S o = (ci, n9, r9)) (hcl : (vwCl[ci]?).map (fun q => q.1) = some P'.1.cls) (hr : a_rm P P' kc ks = true) (hlen : a_len st ≤ 8)
    (k1 : ∀ (r : Option aV) (N' : Nat) (S' : aS) (M' : aM), Q' (.inl r) N' S' M' → a_ex N N' S S' → aX l E P Q (kc + P'.2.2.2.2.1.cells) (ks + P'.2.2.2.2.1.slots) N' S' M' (pc + 3) lo (r.toList ++ st))
    (k2 : ∀ (x9 N' : Nat) (S' : aS) (M' : aM), Q' (.inr x9) N' S' M' → a_ex N N' S S' → Q (.inr x9) N' S' M') : aX l E P Q kc ks N S M pc lo (v5 :: v4 :: v3 :: v2 :: v1 :: (2, o) :: st) := by
  intro p e s m args below meth c H locs ls ad0 ad N0 S0 B w x hS9 hl h1 h2
  obtain ⟨hR, hC⟩ := a_rm_spec hr
  have hst : ∀ v ∈ st, a_vok N v := fun v hv => h1 v (by simp [hv])
  have hvs : ∀ v ∈ ([(2, o), v1, v2, v3, v4, v5] : List aV), a_vok N v := fun v hv => h1 v (by simp at hv ⊢; rcases hv with rfl | rfl | rfl | rfl | rfl | rfl <;> simp)
  have hsz : ls.size = P.2.2.1 := hl.1
  have hmon : 2 * (F0 m pc ls ([] : List Value)).monitorRoom + ((st.map (a_cv E ad)).map fun v => v.category).sum ≤ 8 := lv_room (by rw [a_len_sum]; exact hlen)
  have hcb := hk.1
  obtain ⟨o1, hrv⟩ := a_recv B w hS hcl
  have hpre := a_pre (vs := [(2, o), v1, v2, v3, v4, v5]) B w hS9
  have run := vx_runV (R := P.2.2.2.2.1) (e := e) (args := args) (below := below) (meth := meth) (locs := locs) (cells := kc) (slots := ks) (g := F0 m pc ls ((v5 :: v4 :: v3 :: v2 :: v1 :: (2, o) :: st).map (a_cv E ad))) (b := ad o.toNat) (As := [a_cv E ad v1, a_cv E ad v2, a_cv E ad v3, a_cv E ad v4, a_cv E ad v5]) (rest := st.map (a_cv E ad)) ⟨B.1, B.2.1, B.2.2.2.1, B.2.2.2.2.1, fun w hw => B.2.2.2.2.2.1 w hw⟩ (hm hvs ad) (⟨callB_of 5 (fun w hw => B.2.2.2.2.2.1 w hw) (a_good P' hcb.1) rfl rfl rfl (B.2.2.2.2.2.1 _ hcb.2.1) (B.2.2.2.2.2.1 _ hk.2.1) hcb.2.2 hR, B.2.2.2.2.2.1 _ hk.2.2.1, B.2.2.2.2.2.1 _ hk.2.2.2⟩) ⟨hpre.1, hrv, fun U hU hW => by have z := hpre.2 U hU hW; rw [show ([(2, o), v1, v2, v3, v4, v5].map (a_cv E ad)) = Value.ref (ad o.toNat) :: [a_cv E ad v1, a_cv E ad v2, a_cv E ad v3, a_cv E ad v4, a_cv E ad v5] from by rw [← a_cv_in o1]; rfl] at z ⊢; exact z⟩ rfl rfl hsz (by rw [← a_cv_in o1]; rfl) hmon hd hC
  exact a_after hh B x hS9 hl hst h2 run hC k1 k2
theorem x_callS0 {P' : aP} {Q' : aQ} {i : Nat} (hd : decode P.2.1 pc = .ok (.invokestatic i, 3)) (hh : P.2.2.2.2.2 = []) (hk : a_kS P.1.cls i P' 0) (hm : aMt l E P' [] N S M Q') (hr : a_rm P P' kc ks = true) (hlen : a_len st ≤ 8)
    (k1 : ∀ (r : Option aV) (N' : Nat) (S' : aS) (M' : aM), Q' (.inl r) N' S' M' → a_ex N N' S S' → aX l E P Q (kc + P'.2.2.2.2.1.cells) (ks + P'.2.2.2.2.1.slots) N' S' M' (pc + 3) lo (r.toList ++ st))
    (k2 : ∀ (x9 N' : Nat) (S' : aS) (M' : aM), Q' (.inr x9) N' S' M' → a_ex N N' S S' → Q (.inr x9) N' S' M') : aX l E P Q kc ks N S M pc lo (st) := by
  intro p e s m args below meth c H locs ls ad0 ad N0 S0 B w x hS9 hl h1 h2
  obtain ⟨hR, hC⟩ := a_rm_spec hr
  have hst : ∀ v ∈ st, a_vok N v := fun v hv => h1 v (by simp [hv])
  have hvs : ∀ v ∈ ([] : List aV), a_vok N v := fun v hv => h1 v (by cases hv)
  have hsz : ls.size = P.2.2.1 := hl.1
  have hmon : 2 * (F0 m pc ls ([] : List Value)).monitorRoom + ((st.map (a_cv E ad)).map fun v => v.category).sum ≤ 8 := lv_room (by rw [a_len_sum]; exact hlen)
  have hcb := hk.1
  have run := vx_runS (R := P.2.2.2.2.1) (e := e) (args := args) (below := below) (meth := meth) (locs := locs) (cells := kc) (slots := ks) (g := F0 m pc ls ((st).map (a_cv E ad))) (As := []) (rest := st.map (a_cv E ad)) ⟨B.1, B.2.1, B.2.2.2.1, B.2.2.2.2.1, fun w hw => B.2.2.2.2.2.1 w hw⟩ (hm hvs ad) (⟨callB_of 0 (fun w hw => B.2.2.2.2.2.1 w hw) (a_good P' hcb.1) rfl rfl rfl (B.2.2.2.2.2.1 _ hcb.2.1) (B.2.2.2.2.2.1 _ hk.2.1) hcb.2.2 hR, B.2.2.2.2.2.1 _ hk.2.2⟩) (a_pre (vs := []) B w hS9) rfl rfl hsz rfl hmon hd hC
  exact a_after hh B x hS9 hl hst h2 run hC k1 k2
theorem x_callS1 {P' : aP} {Q' : aQ} {i : Nat} {v1 : aV} (hd : decode P.2.1 pc = .ok (.invokestatic i, 3)) (hh : P.2.2.2.2.2 = []) (hk : a_kS P.1.cls i P' 1) (hm : aMt l E P' [v1] N S M Q') (hr : a_rm P P' kc ks = true) (hlen : a_len st ≤ 8)
    (k1 : ∀ (r : Option aV) (N' : Nat) (S' : aS) (M' : aM), Q' (.inl r) N' S' M' → a_ex N N' S S' → aX l E P Q (kc + P'.2.2.2.2.1.cells) (ks + P'.2.2.2.2.1.slots) N' S' M' (pc + 3) lo (r.toList ++ st))
    (k2 : ∀ (x9 N' : Nat) (S' : aS) (M' : aM), Q' (.inr x9) N' S' M' → a_ex N N' S S' → Q (.inr x9) N' S' M') : aX l E P Q kc ks N S M pc lo (v1 :: st) := by
  intro p e s m args below meth c H locs ls ad0 ad N0 S0 B w x hS9 hl h1 h2
  obtain ⟨hR, hC⟩ := a_rm_spec hr
  have hst : ∀ v ∈ st, a_vok N v := fun v hv => h1 v (by simp [hv])
  have hvs : ∀ v ∈ ([v1] : List aV), a_vok N v := fun v hv => h1 v (by simp at hv ⊢; rcases hv with rfl <;> simp)
  have hsz : ls.size = P.2.2.1 := hl.1
  have hmon : 2 * (F0 m pc ls ([] : List Value)).monitorRoom + ((st.map (a_cv E ad)).map fun v => v.category).sum ≤ 8 := lv_room (by rw [a_len_sum]; exact hlen)
  have hcb := hk.1
  have run := vx_runS (R := P.2.2.2.2.1) (e := e) (args := args) (below := below) (meth := meth) (locs := locs) (cells := kc) (slots := ks) (g := F0 m pc ls ((v1 :: st).map (a_cv E ad))) (As := [a_cv E ad v1]) (rest := st.map (a_cv E ad)) ⟨B.1, B.2.1, B.2.2.2.1, B.2.2.2.2.1, fun w hw => B.2.2.2.2.2.1 w hw⟩ (hm hvs ad) (⟨callB_of 1 (fun w hw => B.2.2.2.2.2.1 w hw) (a_good P' hcb.1) rfl rfl rfl (B.2.2.2.2.2.1 _ hcb.2.1) (B.2.2.2.2.2.1 _ hk.2.1) hcb.2.2 hR, B.2.2.2.2.2.1 _ hk.2.2⟩) (a_pre (vs := [v1]) B w hS9) rfl rfl hsz rfl hmon hd hC
  exact a_after hh B x hS9 hl hst h2 run hC k1 k2
theorem x_callS2 {P' : aP} {Q' : aQ} {i : Nat} {v1 v2 : aV} (hd : decode P.2.1 pc = .ok (.invokestatic i, 3)) (hh : P.2.2.2.2.2 = []) (hk : a_kS P.1.cls i P' 2) (hm : aMt l E P' [v1, v2] N S M Q') (hr : a_rm P P' kc ks = true) (hlen : a_len st ≤ 8)
    (k1 : ∀ (r : Option aV) (N' : Nat) (S' : aS) (M' : aM), Q' (.inl r) N' S' M' → a_ex N N' S S' → aX l E P Q (kc + P'.2.2.2.2.1.cells) (ks + P'.2.2.2.2.1.slots) N' S' M' (pc + 3) lo (r.toList ++ st))
    (k2 : ∀ (x9 N' : Nat) (S' : aS) (M' : aM), Q' (.inr x9) N' S' M' → a_ex N N' S S' → Q (.inr x9) N' S' M') : aX l E P Q kc ks N S M pc lo (v2 :: v1 :: st) := by
  intro p e s m args below meth c H locs ls ad0 ad N0 S0 B w x hS9 hl h1 h2
  obtain ⟨hR, hC⟩ := a_rm_spec hr
  have hst : ∀ v ∈ st, a_vok N v := fun v hv => h1 v (by simp [hv])
  have hvs : ∀ v ∈ ([v1, v2] : List aV), a_vok N v := fun v hv => h1 v (by simp at hv ⊢; rcases hv with rfl | rfl <;> simp)
  have hsz : ls.size = P.2.2.1 := hl.1
  have hmon : 2 * (F0 m pc ls ([] : List Value)).monitorRoom + ((st.map (a_cv E ad)).map fun v => v.category).sum ≤ 8 := lv_room (by rw [a_len_sum]; exact hlen)
  have hcb := hk.1
  have run := vx_runS (R := P.2.2.2.2.1) (e := e) (args := args) (below := below) (meth := meth) (locs := locs) (cells := kc) (slots := ks) (g := F0 m pc ls ((v2 :: v1 :: st).map (a_cv E ad))) (As := [a_cv E ad v1, a_cv E ad v2]) (rest := st.map (a_cv E ad)) ⟨B.1, B.2.1, B.2.2.2.1, B.2.2.2.2.1, fun w hw => B.2.2.2.2.2.1 w hw⟩ (hm hvs ad) (⟨callB_of 2 (fun w hw => B.2.2.2.2.2.1 w hw) (a_good P' hcb.1) rfl rfl rfl (B.2.2.2.2.2.1 _ hcb.2.1) (B.2.2.2.2.2.1 _ hk.2.1) hcb.2.2 hR, B.2.2.2.2.2.1 _ hk.2.2⟩) (a_pre (vs := [v1, v2]) B w hS9) rfl rfl hsz rfl hmon hd hC
  exact a_after hh B x hS9 hl hst h2 run hC k1 k2
theorem x_callS3 {P' : aP} {Q' : aQ} {i : Nat} {v1 v2 v3 : aV} (hd : decode P.2.1 pc = .ok (.invokestatic i, 3)) (hh : P.2.2.2.2.2 = []) (hk : a_kS P.1.cls i P' 3) (hm : aMt l E P' [v1, v2, v3] N S M Q') (hr : a_rm P P' kc ks = true) (hlen : a_len st ≤ 8)
    (k1 : ∀ (r : Option aV) (N' : Nat) (S' : aS) (M' : aM), Q' (.inl r) N' S' M' → a_ex N N' S S' → aX l E P Q (kc + P'.2.2.2.2.1.cells) (ks + P'.2.2.2.2.1.slots) N' S' M' (pc + 3) lo (r.toList ++ st))
    (k2 : ∀ (x9 N' : Nat) (S' : aS) (M' : aM), Q' (.inr x9) N' S' M' → a_ex N N' S S' → Q (.inr x9) N' S' M') : aX l E P Q kc ks N S M pc lo (v3 :: v2 :: v1 :: st) := by
  intro p e s m args below meth c H locs ls ad0 ad N0 S0 B w x hS9 hl h1 h2
  obtain ⟨hR, hC⟩ := a_rm_spec hr
  have hst : ∀ v ∈ st, a_vok N v := fun v hv => h1 v (by simp [hv])
  have hvs : ∀ v ∈ ([v1, v2, v3] : List aV), a_vok N v := fun v hv => h1 v (by simp at hv ⊢; rcases hv with rfl | rfl | rfl <;> simp)
  have hsz : ls.size = P.2.2.1 := hl.1
  have hmon : 2 * (F0 m pc ls ([] : List Value)).monitorRoom + ((st.map (a_cv E ad)).map fun v => v.category).sum ≤ 8 := lv_room (by rw [a_len_sum]; exact hlen)
  have hcb := hk.1
  have run := vx_runS (R := P.2.2.2.2.1) (e := e) (args := args) (below := below) (meth := meth) (locs := locs) (cells := kc) (slots := ks) (g := F0 m pc ls ((v3 :: v2 :: v1 :: st).map (a_cv E ad))) (As := [a_cv E ad v1, a_cv E ad v2, a_cv E ad v3]) (rest := st.map (a_cv E ad)) ⟨B.1, B.2.1, B.2.2.2.1, B.2.2.2.2.1, fun w hw => B.2.2.2.2.2.1 w hw⟩ (hm hvs ad) (⟨callB_of 3 (fun w hw => B.2.2.2.2.2.1 w hw) (a_good P' hcb.1) rfl rfl rfl (B.2.2.2.2.2.1 _ hcb.2.1) (B.2.2.2.2.2.1 _ hk.2.1) hcb.2.2 hR, B.2.2.2.2.2.1 _ hk.2.2⟩) (a_pre (vs := [v1, v2, v3]) B w hS9) rfl rfl hsz rfl hmon hd hC
  exact a_after hh B x hS9 hl hst h2 run hC k1 k2
theorem x_callS4 {P' : aP} {Q' : aQ} {i : Nat} {v1 v2 v3 v4 : aV} (hd : decode P.2.1 pc = .ok (.invokestatic i, 3)) (hh : P.2.2.2.2.2 = []) (hk : a_kS P.1.cls i P' 4) (hm : aMt l E P' [v1, v2, v3, v4] N S M Q') (hr : a_rm P P' kc ks = true) (hlen : a_len st ≤ 8)
    (k1 : ∀ (r : Option aV) (N' : Nat) (S' : aS) (M' : aM), Q' (.inl r) N' S' M' → a_ex N N' S S' → aX l E P Q (kc + P'.2.2.2.2.1.cells) (ks + P'.2.2.2.2.1.slots) N' S' M' (pc + 3) lo (r.toList ++ st))
    (k2 : ∀ (x9 N' : Nat) (S' : aS) (M' : aM), Q' (.inr x9) N' S' M' → a_ex N N' S S' → Q (.inr x9) N' S' M') : aX l E P Q kc ks N S M pc lo (v4 :: v3 :: v2 :: v1 :: st) := by
  intro p e s m args below meth c H locs ls ad0 ad N0 S0 B w x hS9 hl h1 h2
  obtain ⟨hR, hC⟩ := a_rm_spec hr
  have hst : ∀ v ∈ st, a_vok N v := fun v hv => h1 v (by simp [hv])
  have hvs : ∀ v ∈ ([v1, v2, v3, v4] : List aV), a_vok N v := fun v hv => h1 v (by simp at hv ⊢; rcases hv with rfl | rfl | rfl | rfl <;> simp)
  have hsz : ls.size = P.2.2.1 := hl.1
  have hmon : 2 * (F0 m pc ls ([] : List Value)).monitorRoom + ((st.map (a_cv E ad)).map fun v => v.category).sum ≤ 8 := lv_room (by rw [a_len_sum]; exact hlen)
  have hcb := hk.1
  have run := vx_runS (R := P.2.2.2.2.1) (e := e) (args := args) (below := below) (meth := meth) (locs := locs) (cells := kc) (slots := ks) (g := F0 m pc ls ((v4 :: v3 :: v2 :: v1 :: st).map (a_cv E ad))) (As := [a_cv E ad v1, a_cv E ad v2, a_cv E ad v3, a_cv E ad v4]) (rest := st.map (a_cv E ad)) ⟨B.1, B.2.1, B.2.2.2.1, B.2.2.2.2.1, fun w hw => B.2.2.2.2.2.1 w hw⟩ (hm hvs ad) (⟨callB_of 4 (fun w hw => B.2.2.2.2.2.1 w hw) (a_good P' hcb.1) rfl rfl rfl (B.2.2.2.2.2.1 _ hcb.2.1) (B.2.2.2.2.2.1 _ hk.2.1) hcb.2.2 hR, B.2.2.2.2.2.1 _ hk.2.2⟩) (a_pre (vs := [v1, v2, v3, v4]) B w hS9) rfl rfl hsz rfl hmon hd hC
  exact a_after hh B x hS9 hl hst h2 run hC k1 k2
theorem x_callSN1 {P' : aP} {Q' : aQ} {i : Nat} {v1 : aV} (hd : decode P.2.1 pc = .ok (.invokestatic i, 3)) (hh : P.2.2.2.2.2 = []) (hk : a_kSN P.1.cls i P' 1) (hm : aMt l E P' [v1] N S M Q') (hr : a_rm P P' kc ks = true) (hlen : a_len st ≤ 8)
    (k1 : ∀ (r : Option aV) (N' : Nat) (S' : aS) (M' : aM), Q' (.inl r) N' S' M' → a_ex N N' S S' → aX l E P Q (kc + P'.2.2.2.2.1.cells) (ks + P'.2.2.2.2.1.slots) N' S' M' (pc + 3) lo (r.toList ++ st))
    (k2 : ∀ (x9 N' : Nat) (S' : aS) (M' : aM), Q' (.inr x9) N' S' M' → a_ex N N' S S' → Q (.inr x9) N' S' M') : aX l E P Q kc ks N S M pc lo (v1 :: st) := by
  intro p e s m args below meth c H locs ls ad0 ad N0 S0 B w x hS9 hl h1 h2
  obtain ⟨hR, hC⟩ := a_rm_spec hr
  have hst : ∀ v ∈ st, a_vok N v := fun v hv => h1 v (by simp [hv])
  have hvs : ∀ v ∈ ([v1] : List aV), a_vok N v := fun v hv => h1 v (by simp at hv ⊢; rcases hv with rfl <;> simp)
  have hsz : ls.size = P.2.2.1 := hl.1
  have hmon : 2 * (F0 m pc ls ([] : List Value)).monitorRoom + ((st.map (a_cv E ad)).map fun v => v.category).sum ≤ 8 := lv_room (by rw [a_len_sum]; exact hlen)
  have hcb := hk.1
  obtain ⟨host, hnl, hst9⟩ := hk.2
  have run := vx_runSN (R := P.2.2.2.2.1) (e := e) (args := args) (below := below) (meth := meth) (locs := locs) (cells := kc) (slots := ks) (g := F0 m pc ls ((v1 :: st).map (a_cv E ad))) (As := [a_cv E ad v1]) (rest := st.map (a_cv E ad)) ⟨B.1, B.2.1, B.2.2.2.1, B.2.2.2.2.1, fun w hw => B.2.2.2.2.2.1 w hw⟩ (hm hvs ad) (⟨va_cnB 1 (fun w hw => B.2.2.2.2.2.1 w hw) (a_good P' hcb.1) rfl rfl rfl (B.2.2.2.2.2.2.2.2.1.1 _ hnl) (B.2.2.2.2.2.1 _ hcb.2.1) hcb.2.2 hR, B.2.2.2.2.2.1 _ hst9, trivial⟩) (a_pre (vs := [v1]) B w hS9) rfl rfl hsz rfl hmon hd hC
  exact a_after hh B x hS9 hl hst h2 run hC k1 k2
theorem x_callSN2 {P' : aP} {Q' : aQ} {i : Nat} {v1 v2 : aV} (hd : decode P.2.1 pc = .ok (.invokestatic i, 3)) (hh : P.2.2.2.2.2 = []) (hk : a_kSN P.1.cls i P' 2) (hm : aMt l E P' [v1, v2] N S M Q') (hr : a_rm P P' kc ks = true) (hlen : a_len st ≤ 8)
    (k1 : ∀ (r : Option aV) (N' : Nat) (S' : aS) (M' : aM), Q' (.inl r) N' S' M' → a_ex N N' S S' → aX l E P Q (kc + P'.2.2.2.2.1.cells) (ks + P'.2.2.2.2.1.slots) N' S' M' (pc + 3) lo (r.toList ++ st))
    (k2 : ∀ (x9 N' : Nat) (S' : aS) (M' : aM), Q' (.inr x9) N' S' M' → a_ex N N' S S' → Q (.inr x9) N' S' M') : aX l E P Q kc ks N S M pc lo (v2 :: v1 :: st) := by
  intro p e s m args below meth c H locs ls ad0 ad N0 S0 B w x hS9 hl h1 h2
  obtain ⟨hR, hC⟩ := a_rm_spec hr
  have hst : ∀ v ∈ st, a_vok N v := fun v hv => h1 v (by simp [hv])
  have hvs : ∀ v ∈ ([v1, v2] : List aV), a_vok N v := fun v hv => h1 v (by simp at hv ⊢; rcases hv with rfl | rfl <;> simp)
  have hsz : ls.size = P.2.2.1 := hl.1
  have hmon : 2 * (F0 m pc ls ([] : List Value)).monitorRoom + ((st.map (a_cv E ad)).map fun v => v.category).sum ≤ 8 := lv_room (by rw [a_len_sum]; exact hlen)
  have hcb := hk.1
  obtain ⟨host, hnl, hst9⟩ := hk.2
  have run := vx_runSN (R := P.2.2.2.2.1) (e := e) (args := args) (below := below) (meth := meth) (locs := locs) (cells := kc) (slots := ks) (g := F0 m pc ls ((v2 :: v1 :: st).map (a_cv E ad))) (As := [a_cv E ad v1, a_cv E ad v2]) (rest := st.map (a_cv E ad)) ⟨B.1, B.2.1, B.2.2.2.1, B.2.2.2.2.1, fun w hw => B.2.2.2.2.2.1 w hw⟩ (hm hvs ad) (⟨va_cnB 2 (fun w hw => B.2.2.2.2.2.1 w hw) (a_good P' hcb.1) rfl rfl rfl (B.2.2.2.2.2.2.2.2.1.1 _ hnl) (B.2.2.2.2.2.1 _ hcb.2.1) hcb.2.2 hR, B.2.2.2.2.2.1 _ hst9, trivial⟩) (a_pre (vs := [v1, v2]) B w hS9) rfl rfl hsz rfl hmon hd hC
  exact a_after hh B x hS9 hl hst h2 run hC k1 k2
theorem x_callI0 {P' : aP} {Q' : aQ} {i : Nat} {o : Int} (hd : decode P.2.1 pc = .ok (.invokespecial i, 3)) (hh : P.2.2.2.2.2 = []) (hk : a_kI P.1.cls i P' 0) (hm : aMt l E P' [(2, o)] N S M Q') (ho : 0 ≤ o) (hr : a_rm P P' kc ks = true) (hlen : a_len st ≤ 8)
    (k1 : ∀ (r : Option aV) (N' : Nat) (S' : aS) (M' : aM), Q' (.inl r) N' S' M' → a_ex N N' S S' → aX l E P Q (kc + P'.2.2.2.2.1.cells) (ks + P'.2.2.2.2.1.slots) N' S' M' (pc + 3) lo (r.toList ++ st))
    (k2 : ∀ (x9 N' : Nat) (S' : aS) (M' : aM), Q' (.inr x9) N' S' M' → a_ex N N' S S' → Q (.inr x9) N' S' M') : aX l E P Q kc ks N S M pc lo ((2, o) :: st) := by
  intro p e s m args below meth c H locs ls ad0 ad N0 S0 B w x hS9 hl h1 h2
  obtain ⟨hR, hC⟩ := a_rm_spec hr
  have hst : ∀ v ∈ st, a_vok N v := fun v hv => h1 v (by simp [hv])
  have hvs : ∀ v ∈ ([(2, o)] : List aV), a_vok N v := fun v hv => h1 v (by simp at hv ⊢; rcases hv with rfl <;> simp)
  have hsz : ls.size = P.2.2.1 := hl.1
  have hmon : 2 * (F0 m pc ls ([] : List Value)).monitorRoom + ((st.map (a_cv E ad)).map fun v => v.category).sum ≤ 8 := lv_room (by rw [a_len_sum]; exact hlen)
  have hcb := hk.1
  have hpre := a_pre (vs := [(2, o)]) B w hS9
  have hm9 := hm hvs ad
  have hcw : Cond.code P'.1 P'.2.1 P'.2.2.1 P'.2.2.2.1 = Cond.code P'.1 P'.2.1 P'.2.2.1 none := by rw [hk.2.1]
  have hcode9 := hcb.1
  have hgd := a_good P' hcb.1
  rw [hcw] at hm9 hgd
  have run := vx_runI (R := P.2.2.2.2.1) (e := e) (args := args) (below := below) (meth := meth) (locs := locs) (cells := kc) (slots := ks) (g := F0 m pc ls (((2, o) :: st).map (a_cv E ad))) (b := ad o.toNat) (As := []) (rest := st.map (a_cv E ad)) ⟨B.1, B.2.1, B.2.2.2.1, B.2.2.2.2.1, fun w hw => B.2.2.2.2.2.1 w hw⟩ hm9 (⟨callB_of 0 (fun w hw => B.2.2.2.2.2.1 w hw) hgd rfl rfl rfl (B.2.2.2.2.2.1 _ hcb.2.1) (B.2.2.2.2.2.1 _ hk.2.2.2.1) hcb.2.2 hR, hk.2.2.1, B.2.2.2.2.2.1 _ hk.2.2.2.2⟩) ⟨hpre.1, fun U hU hW => by have z := hpre.2 U hU hW; rw [show ([(2, o)].map (a_cv E ad)) = Value.ref (ad o.toNat) :: [] from by rw [← a_cv_in ho]; rfl] at z ⊢; exact z⟩ rfl rfl hsz (by rw [← a_cv_in ho]; rfl) hmon hd hC
  exact a_after hh B x hS9 hl hst h2 run hC k1 k2
theorem x_callI1 {P' : aP} {Q' : aQ} {i : Nat} {v1 : aV} {o : Int} (hd : decode P.2.1 pc = .ok (.invokespecial i, 3)) (hh : P.2.2.2.2.2 = []) (hk : a_kI P.1.cls i P' 1) (hm : aMt l E P' [(2, o), v1] N S M Q') (ho : 0 ≤ o) (hr : a_rm P P' kc ks = true) (hlen : a_len st ≤ 8)
    (k1 : ∀ (r : Option aV) (N' : Nat) (S' : aS) (M' : aM), Q' (.inl r) N' S' M' → a_ex N N' S S' → aX l E P Q (kc + P'.2.2.2.2.1.cells) (ks + P'.2.2.2.2.1.slots) N' S' M' (pc + 3) lo (r.toList ++ st))
    (k2 : ∀ (x9 N' : Nat) (S' : aS) (M' : aM), Q' (.inr x9) N' S' M' → a_ex N N' S S' → Q (.inr x9) N' S' M') : aX l E P Q kc ks N S M pc lo (v1 :: (2, o) :: st) := by
  intro p e s m args below meth c H locs ls ad0 ad N0 S0 B w x hS9 hl h1 h2
  obtain ⟨hR, hC⟩ := a_rm_spec hr
  have hst : ∀ v ∈ st, a_vok N v := fun v hv => h1 v (by simp [hv])
  have hvs : ∀ v ∈ ([(2, o), v1] : List aV), a_vok N v := fun v hv => h1 v (by simp at hv ⊢; rcases hv with rfl | rfl <;> simp)
  have hsz : ls.size = P.2.2.1 := hl.1
  have hmon : 2 * (F0 m pc ls ([] : List Value)).monitorRoom + ((st.map (a_cv E ad)).map fun v => v.category).sum ≤ 8 := lv_room (by rw [a_len_sum]; exact hlen)
  have hcb := hk.1
  have hpre := a_pre (vs := [(2, o), v1]) B w hS9
  have hm9 := hm hvs ad
  have hcw : Cond.code P'.1 P'.2.1 P'.2.2.1 P'.2.2.2.1 = Cond.code P'.1 P'.2.1 P'.2.2.1 none := by rw [hk.2.1]
  have hcode9 := hcb.1
  have hgd := a_good P' hcb.1
  rw [hcw] at hm9 hgd
  have run := vx_runI (R := P.2.2.2.2.1) (e := e) (args := args) (below := below) (meth := meth) (locs := locs) (cells := kc) (slots := ks) (g := F0 m pc ls ((v1 :: (2, o) :: st).map (a_cv E ad))) (b := ad o.toNat) (As := [a_cv E ad v1]) (rest := st.map (a_cv E ad)) ⟨B.1, B.2.1, B.2.2.2.1, B.2.2.2.2.1, fun w hw => B.2.2.2.2.2.1 w hw⟩ hm9 (⟨callB_of 1 (fun w hw => B.2.2.2.2.2.1 w hw) hgd rfl rfl rfl (B.2.2.2.2.2.1 _ hcb.2.1) (B.2.2.2.2.2.1 _ hk.2.2.2.1) hcb.2.2 hR, hk.2.2.1, B.2.2.2.2.2.1 _ hk.2.2.2.2⟩) ⟨hpre.1, fun U hU hW => by have z := hpre.2 U hU hW; rw [show ([(2, o), v1].map (a_cv E ad)) = Value.ref (ad o.toNat) :: [a_cv E ad v1] from by rw [← a_cv_in ho]; rfl] at z ⊢; exact z⟩ rfl rfl hsz (by rw [← a_cv_in ho]; rfl) hmon hd hC
  exact a_after hh B x hS9 hl hst h2 run hC k1 k2
theorem x_callI2 {P' : aP} {Q' : aQ} {i : Nat} {v1 v2 : aV} {o : Int} (hd : decode P.2.1 pc = .ok (.invokespecial i, 3)) (hh : P.2.2.2.2.2 = []) (hk : a_kI P.1.cls i P' 2) (hm : aMt l E P' [(2, o), v1, v2] N S M Q') (ho : 0 ≤ o) (hr : a_rm P P' kc ks = true) (hlen : a_len st ≤ 8)
    (k1 : ∀ (r : Option aV) (N' : Nat) (S' : aS) (M' : aM), Q' (.inl r) N' S' M' → a_ex N N' S S' → aX l E P Q (kc + P'.2.2.2.2.1.cells) (ks + P'.2.2.2.2.1.slots) N' S' M' (pc + 3) lo (r.toList ++ st))
    (k2 : ∀ (x9 N' : Nat) (S' : aS) (M' : aM), Q' (.inr x9) N' S' M' → a_ex N N' S S' → Q (.inr x9) N' S' M') : aX l E P Q kc ks N S M pc lo (v2 :: v1 :: (2, o) :: st) := by
  intro p e s m args below meth c H locs ls ad0 ad N0 S0 B w x hS9 hl h1 h2
  obtain ⟨hR, hC⟩ := a_rm_spec hr
  have hst : ∀ v ∈ st, a_vok N v := fun v hv => h1 v (by simp [hv])
  have hvs : ∀ v ∈ ([(2, o), v1, v2] : List aV), a_vok N v := fun v hv => h1 v (by simp at hv ⊢; rcases hv with rfl | rfl | rfl <;> simp)
  have hsz : ls.size = P.2.2.1 := hl.1
  have hmon : 2 * (F0 m pc ls ([] : List Value)).monitorRoom + ((st.map (a_cv E ad)).map fun v => v.category).sum ≤ 8 := lv_room (by rw [a_len_sum]; exact hlen)
  have hcb := hk.1
  have hpre := a_pre (vs := [(2, o), v1, v2]) B w hS9
  have hm9 := hm hvs ad
  have hcw : Cond.code P'.1 P'.2.1 P'.2.2.1 P'.2.2.2.1 = Cond.code P'.1 P'.2.1 P'.2.2.1 none := by rw [hk.2.1]
  have hcode9 := hcb.1
  have hgd := a_good P' hcb.1
  rw [hcw] at hm9 hgd
  have run := vx_runI (R := P.2.2.2.2.1) (e := e) (args := args) (below := below) (meth := meth) (locs := locs) (cells := kc) (slots := ks) (g := F0 m pc ls ((v2 :: v1 :: (2, o) :: st).map (a_cv E ad))) (b := ad o.toNat) (As := [a_cv E ad v1, a_cv E ad v2]) (rest := st.map (a_cv E ad)) ⟨B.1, B.2.1, B.2.2.2.1, B.2.2.2.2.1, fun w hw => B.2.2.2.2.2.1 w hw⟩ hm9 (⟨callB_of 2 (fun w hw => B.2.2.2.2.2.1 w hw) hgd rfl rfl rfl (B.2.2.2.2.2.1 _ hcb.2.1) (B.2.2.2.2.2.1 _ hk.2.2.2.1) hcb.2.2 hR, hk.2.2.1, B.2.2.2.2.2.1 _ hk.2.2.2.2⟩) ⟨hpre.1, fun U hU hW => by have z := hpre.2 U hU hW; rw [show ([(2, o), v1, v2].map (a_cv E ad)) = Value.ref (ad o.toNat) :: [a_cv E ad v1, a_cv E ad v2] from by rw [← a_cv_in ho]; rfl] at z ⊢; exact z⟩ rfl rfl hsz (by rw [← a_cv_in ho]; rfl) hmon hd hC
  exact a_after hh B x hS9 hl hst h2 run hC k1 k2
theorem x_callI3 {P' : aP} {Q' : aQ} {i : Nat} {v1 v2 v3 : aV} {o : Int} (hd : decode P.2.1 pc = .ok (.invokespecial i, 3)) (hh : P.2.2.2.2.2 = []) (hk : a_kI P.1.cls i P' 3) (hm : aMt l E P' [(2, o), v1, v2, v3] N S M Q') (ho : 0 ≤ o) (hr : a_rm P P' kc ks = true) (hlen : a_len st ≤ 8)
    (k1 : ∀ (r : Option aV) (N' : Nat) (S' : aS) (M' : aM), Q' (.inl r) N' S' M' → a_ex N N' S S' → aX l E P Q (kc + P'.2.2.2.2.1.cells) (ks + P'.2.2.2.2.1.slots) N' S' M' (pc + 3) lo (r.toList ++ st))
    (k2 : ∀ (x9 N' : Nat) (S' : aS) (M' : aM), Q' (.inr x9) N' S' M' → a_ex N N' S S' → Q (.inr x9) N' S' M') : aX l E P Q kc ks N S M pc lo (v3 :: v2 :: v1 :: (2, o) :: st) := by
  intro p e s m args below meth c H locs ls ad0 ad N0 S0 B w x hS9 hl h1 h2
  obtain ⟨hR, hC⟩ := a_rm_spec hr
  have hst : ∀ v ∈ st, a_vok N v := fun v hv => h1 v (by simp [hv])
  have hvs : ∀ v ∈ ([(2, o), v1, v2, v3] : List aV), a_vok N v := fun v hv => h1 v (by simp at hv ⊢; rcases hv with rfl | rfl | rfl | rfl <;> simp)
  have hsz : ls.size = P.2.2.1 := hl.1
  have hmon : 2 * (F0 m pc ls ([] : List Value)).monitorRoom + ((st.map (a_cv E ad)).map fun v => v.category).sum ≤ 8 := lv_room (by rw [a_len_sum]; exact hlen)
  have hcb := hk.1
  have hpre := a_pre (vs := [(2, o), v1, v2, v3]) B w hS9
  have hm9 := hm hvs ad
  have hcw : Cond.code P'.1 P'.2.1 P'.2.2.1 P'.2.2.2.1 = Cond.code P'.1 P'.2.1 P'.2.2.1 none := by rw [hk.2.1]
  have hcode9 := hcb.1
  have hgd := a_good P' hcb.1
  rw [hcw] at hm9 hgd
  have run := vx_runI (R := P.2.2.2.2.1) (e := e) (args := args) (below := below) (meth := meth) (locs := locs) (cells := kc) (slots := ks) (g := F0 m pc ls ((v3 :: v2 :: v1 :: (2, o) :: st).map (a_cv E ad))) (b := ad o.toNat) (As := [a_cv E ad v1, a_cv E ad v2, a_cv E ad v3]) (rest := st.map (a_cv E ad)) ⟨B.1, B.2.1, B.2.2.2.1, B.2.2.2.2.1, fun w hw => B.2.2.2.2.2.1 w hw⟩ hm9 (⟨callB_of 3 (fun w hw => B.2.2.2.2.2.1 w hw) hgd rfl rfl rfl (B.2.2.2.2.2.1 _ hcb.2.1) (B.2.2.2.2.2.1 _ hk.2.2.2.1) hcb.2.2 hR, hk.2.2.1, B.2.2.2.2.2.1 _ hk.2.2.2.2⟩) ⟨hpre.1, fun U hU hW => by have z := hpre.2 U hU hW; rw [show ([(2, o), v1, v2, v3].map (a_cv E ad)) = Value.ref (ad o.toNat) :: [a_cv E ad v1, a_cv E ad v2, a_cv E ad v3] from by rw [← a_cv_in ho]; rfl] at z ⊢; exact z⟩ rfl rfl hsz (by rw [← a_cv_in ho]; rfl) hmon hd hC
  exact a_after hh B x hS9 hl hst h2 run hC k1 k2
theorem x_callIN0 {P' : aP} {Q' : aQ} {i : Nat} {o : Int} (hd : decode P.2.1 pc = .ok (.invokespecial i, 3)) (hh : P.2.2.2.2.2 = []) (hk : a_kIN P.1.cls i P' 0) (hm : aMt l E P' [(2, o)] N S M Q') (ho : 0 ≤ o) (hr : a_rm P P' kc ks = true) (hlen : a_len st ≤ 8)
    (k1 : ∀ (r : Option aV) (N' : Nat) (S' : aS) (M' : aM), Q' (.inl r) N' S' M' → a_ex N N' S S' → aX l E P Q (kc + P'.2.2.2.2.1.cells) (ks + P'.2.2.2.2.1.slots) N' S' M' (pc + 3) lo (r.toList ++ st))
    (k2 : ∀ (x9 N' : Nat) (S' : aS) (M' : aM), Q' (.inr x9) N' S' M' → a_ex N N' S S' → Q (.inr x9) N' S' M') : aX l E P Q kc ks N S M pc lo ((2, o) :: st) := by
  intro p e s m args below meth c H locs ls ad0 ad N0 S0 B w x hS9 hl h1 h2
  obtain ⟨hR, hC⟩ := a_rm_spec hr
  have hst : ∀ v ∈ st, a_vok N v := fun v hv => h1 v (by simp [hv])
  have hvs : ∀ v ∈ ([(2, o)] : List aV), a_vok N v := fun v hv => h1 v (by simp at hv ⊢; rcases hv with rfl <;> simp)
  have hsz : ls.size = P.2.2.1 := hl.1
  have hmon : 2 * (F0 m pc ls ([] : List Value)).monitorRoom + ((st.map (a_cv E ad)).map fun v => v.category).sum ≤ 8 := lv_room (by rw [a_len_sum]; exact hlen)
  have hcb := hk.1
  obtain ⟨host, hnl⟩ := hk.2.2.2.1
  have hpre := a_pre (vs := [(2, o)]) B w hS9
  have hm9 := hm hvs ad
  have hcw : Cond.code P'.1 P'.2.1 P'.2.2.1 P'.2.2.2.1 = Cond.code P'.1 P'.2.1 P'.2.2.1 none := by rw [hk.2.1]
  have hcode9 := hcb.1
  have hgd := a_good P' hcb.1
  rw [hcw] at hm9 hgd
  have run := vx_runIN (R := P.2.2.2.2.1) (e := e) (args := args) (below := below) (meth := meth) (locs := locs) (cells := kc) (slots := ks) (g := F0 m pc ls (((2, o) :: st).map (a_cv E ad))) (b := ad o.toNat) (As := []) (rest := st.map (a_cv E ad)) ⟨B.1, B.2.1, B.2.2.2.1, B.2.2.2.2.1, fun w hw => B.2.2.2.2.2.1 w hw⟩ hm9 (⟨va_cnB 0 (fun w hw => B.2.2.2.2.2.1 w hw) hgd rfl rfl rfl (B.2.2.2.2.2.2.2.2.1.1 _ hnl) (B.2.2.2.2.2.1 _ hcb.2.1) hcb.2.2 hR, hk.2.2.1, B.2.2.2.2.2.1 _ hk.2.2.2.2⟩) ⟨hpre.1, fun U hU hW => by have z := hpre.2 U hU hW; rw [show ([(2, o)].map (a_cv E ad)) = Value.ref (ad o.toNat) :: [] from by rw [← a_cv_in ho]; rfl] at z ⊢; exact z⟩ rfl rfl hsz (by rw [← a_cv_in ho]; rfl) hmon hd hC
  exact a_after hh B x hS9 hl hst h2 run hC k1 k2
end AX5
