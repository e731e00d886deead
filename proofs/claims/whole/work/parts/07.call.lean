/-! ENTRY, END, CALLS of the abstract machine -/
theorem a_cat2 (E : aE) (ad : Nat → Nat) (v : aV) : (a_cv E ad v).category = if v.1 = 1 then 2 else 1 := by
  have h := a_cat E ad v
  by_cases e : v.1 = 1
  · rw [if_pos e]
    rw [e] at h
    exact eq_of_beq h
  · rw [if_neg e]
    refine a_cat1 ?_
    rw [beq_eq_false_iff_ne]
    exact e
def a_len : List aV → Nat
  | [] => 0
  | v :: r => (if v.1 = 1 then 2 else 1) + a_len r
def a_args : Nat → List aV → List (Nat × aV)
  | _, [] => []
  | i, v :: r => (i, v) :: a_args (if v.1 = 1 then i + 2 else i + 1) r
theorem a_args_lv {E : aE} {ad : Nat → Nat} : ∀ (vs : List aV) (i : Nat), lv_args i (vs.map (a_cv E ad)) = a_lo E ad (a_args i vs)
  | [], _ => rfl
  | v :: r, i => by
    show (i, a_cv E ad v) :: lv_args _ (r.map (a_cv E ad)) = (i, a_cv E ad v) :: a_lo E ad (a_args _ r)
    rw [← a_args_lv r, a_cat2]
    by_cases e : v.1 = 1
    · simp [e]
    · simp [e]
theorem a_len_sum {E : aE} {ad : Nat → Nat} : ∀ (vs : List aV), ((vs.map (a_cv E ad)).map fun v => v.category).sum = a_len vs
  | [] => rfl
  | v :: r => by
    rw [List.map_cons, List.map_cons, List.sum_cons, a_len_sum r, a_cat2]
    rfl
theorem a_len_sl {E : aE} {ad : Nat → Nat} : ∀ (vs : List aV), (lg_sl (vs.map (a_cv E ad))).length = a_len vs
  | [] => rfl
  | v :: r => by
    have h := a_len_sl (E := E) (ad := ad) r
    unfold lg_sl at h ⊢
    rw [List.map_cons, List.flatMap_cons, List.length_append, h, a_cat2]
    show _ = (if v.1 = 1 then 2 else 1) + a_len r
    by_cases e : v.1 = 1
    · rw [if_pos e, if_pos rfl]; rfl
    · rw [if_neg e, if_neg (by decide)]; rfl
theorem a_args_ok {N : Nat} : ∀ {vs : List aV} {i : Nat}, (∀ v ∈ vs, a_vok N v) → ∀ q ∈ a_args i vs, a_vok N q.2
  | [], _, _, _, hq => by cases hq
  | v :: r, i, h, q, hq => by
    rcases List.mem_cons.mp hq with e | e
    · rw [e]; exact h v List.mem_cons_self
    · exact a_args_ok (fun u hu => h u (List.mem_cons_of_mem _ hu)) q e
/-- CONTRACT of a method over the abstract machine -/
def aMt (l : Launch) (E : aE) (P : aP) (vs : List aV) (N : Nat) (S : aS) (M : aM) (Q : aQ) : Prop := (∀ v ∈ vs, a_vok N v) → ∀ ad : Nat → Nat,
  vx_Met l P.1 (Cond.code P.1 P.2.1 P.2.2.1 P.2.2.2.1 :: lw_ok) P.2.2.2.2.1 (va_Pc (vs.map (a_cv E ad)) (fun U => a_w E ad N S M U.heap ∧ va_K E.1 vwCl (a_tys E) U ∧ a_st E U U.heap ∧ E.2.2.1 ≤ U.heap.size)) (a_Qc E ad N S Q) (a_XC E ad N S Q) P.2.2.2.2.1.cells P.2.2.2.2.1.slots (a_A E)
theorem a_met {l : Launch} {E : aE} {P : aP} {Q : aQ} {vs : List aV} {N : Nat} {S : aS} {M : aM} (hfl : l.stackTraces = false) (hh : P.2.2.2.2.2 = []) (hy : plainName P.1.cls = true) (hlen : a_len vs ≤ P.2.2.1) (hX : aX l E P Q 0 0 N S M 0 (a_args 0 vs) []) : aMt l E P vs N S M Q := by
  intro hok ad
  refine vx_ofW (cc := P.2.1) (maxL := P.2.2.1) (ret := P.2.2.2.1) hy rfl ?_
  intro p e s m args below meth c s₁ B hml htab hv
  obtain ⟨rfl, hw, hK, hst, hq⟩ := hv
  have hts := atoms_spec (ws := Cond.code P.1 P.2.1 P.2.2.1 P.2.2.2.1 :: lw_ok) B.pre
  have hl := lv_entry (vs.map (a_cv E ad)) (n := P.2.2.1) (by rw [a_len_sl]; exact hlen)
  rw [lg_entry_eq]
  generalize ((lg_sl (vs.map (a_cv E ad)) ++ List.replicate (P.2.2.1 - (lg_sl (vs.map (a_cv E ad))).length) Slot.unset).toArray) = ls at hl ⊢
  rw [a_args_lv] at hl
  have htb : c.exceptionTable.toList = tableOf P.2.2.2.2.2 := by
    rw [hh]
    cases hc : c.exceptionTable.toList with
    | nil => rfl
    | cons x r => exact (htab x (by rw [hc]; exact List.mem_cons_self)).elim
  exact hX p e s m _ below meth c s.heap [] ls ad ad N S ⟨B.exec, B.bytes, B.returns, hml, findClass_of_methodNamed B.named, fun w hw => hts w (List.mem_cons_of_mem _ hw), B.notSynchronized, hK, hst, htb, fun hn => (name_of_methodNamed B.named B.method).1.trans hn, hfl, hq⟩ hw ⟨Nat.le_refl _, fun i hi => ⟨rfl, rfl⟩⟩ va_S.rf hl (fun v hv => by cases hv) (a_args_ok hok)
def a_nestB (w : Cond) : Bool := match w with
  | .methodLinkNest .. => true
  | .fieldLinkNest .. => true
  | .castable .. => true
  | .declares _ => true
  | _ => false
theorem a_nestT {w : Cond} (h : a_nestB w = true) : w.onTables = true := by
  cases w <;> first | rfl | (unfold a_nestB at h; cases h)
theorem a_nestW {w : Cond} (h : a_nestB w = true) {s U : State} (hW : s.WarmedH U.vm) (hZ : va_Nw w s) : va_Nw w U := by
  cases w <;> first | exact va_Nw.warmM hW hZ | exact va_Nw.warmF hW hZ | exact va_Nw.warmC hW hZ | exact va_Nw.warmD hW hZ | (unfold a_nestB at h; cases h)
theorem a_nest_in {w : Cond} (h : w ∈ a_nest) : a_nestB w = true := (List.mem_filter.mp h).2
theorem a_blind {E : aE} {ad : Nat → Nat} {N : Nat} {S : aS} {M : aM} {vs : List Value} : FrameBlind (va_Pc vs (fun U => a_w E ad N S M U.heap ∧ va_K E.1 vwCl (a_tys E) U ∧ a_st E U U.heap ∧ E.2.2.1 ≤ U.heap.size)) := by
  intro a U g mk q
  obtain ⟨q0, q1, q2, ⟨q3, q4, q5, q7, q8⟩, q6⟩ := q
  exact ⟨q0, q1, va_K.moved (u := U) (U := U.calling g mk a) (Vm.Alike.refl U.vm) q2, ⟨fun w hw => va_Nw.same (u := U) (U := U.calling g mk a) (a_nestT (a_nest_in hw)) rfl (q3 w hw), vx_Zq.moved (u := U) (U := U.calling g mk a) (Vm.Alike.refl U.vm) q4, vx_Zq.moved (u := U) (U := U.calling g mk a) (Vm.Alike.refl U.vm) q5, a_ao.moved (u := U) (U := U.calling g mk a) (Vm.Alike.refl U.vm) q7, a_k.same (u := U) (U := U.calling g mk a) rfl q8⟩, q6⟩

section AX4
variable {l : Launch} {E : aE} {P : aP} {Q : aQ} {kc ks N : Nat} {S : aS} {M : aM} {pc : Nat} {lo : List (Nat × aV)} {st : List aV}
theorem x_ireturn {v : Int} (hd : decode P.2.1 pc = .ok (.ireturn, 1)) (hr : P.2.2.2.1 = some .int) (hc : kc ≤ P.2.2.2.2.1.cells ∧ ks ≤ P.2.2.2.2.1.slots) (hQ : Q (.inl (some (0, v))) N S M) : aX l E P Q kc ks N S M pc lo [(0, v)] := by
  intro p e s m args below meth c H locs ls ad0 ad N0 S0 B w x hS9 hl h1 h2
  refine W.widen hc.1 hc.2 ?_
  exact vx_ret (W.iret (v := Int32.ofInt v) B.1 B.2.1 (by rw [B.2.2.1, hr]) (fun t ht hW => ⟨⟨some (0, v), ad, N, S, M, rfl, x, by rw [ht]; exact w, fun u hu => by cases hu; exact a_hd h1, hQ⟩, hS9.F ht⟩) hS9.2.2 hd B.2.2.2.2.2.2.1)
theorem x_zreturn {v : Int} (hd : decode P.2.1 pc = .ok (.ireturn, 1)) (hr : P.2.2.2.1 = some .boolean) (hv : v = 0 ∨ v = 1) (hc : kc ≤ P.2.2.2.2.1.cells ∧ ks ≤ P.2.2.2.2.1.slots) (hQ : Q (.inl (some (0, v))) N S M) : aX l E P Q kc ks N S M pc lo [(0, v)] := by
  intro p e s m args below meth c H locs ls ad0 ad N0 S0 B w x hS9 hl h1 h2
  refine W.widen hc.1 hc.2 ?_
  exact vx_ret (W.zret (v := Int32.ofInt v) B.1 B.2.1 (by rw [B.2.2.1, hr]) (by rcases hv with rfl | rfl <;> rfl) (fun t ht hW => ⟨⟨some (0, v), ad, N, S, M, rfl, x, by rw [ht]; exact w, fun u hu => by cases hu; exact a_hd h1, hQ⟩, hS9.F ht⟩) hS9.2.2 hd B.2.2.2.2.2.2.1)
theorem x_lreturn {v : Int} (hd : decode P.2.1 pc = .ok (.lreturn, 1)) (hr : P.2.2.2.1 = some .long) (hc : kc ≤ P.2.2.2.2.1.cells ∧ ks ≤ P.2.2.2.2.1.slots) (hQ : Q (.inl (some (1, v))) N S M) : aX l E P Q kc ks N S M pc lo [(1, v)] := by
  intro p e s m args below meth c H locs ls ad0 ad N0 S0 B w x hS9 hl h1 h2
  refine W.widen hc.1 hc.2 ?_
  exact vx_ret (W.lret (v := Int64.ofInt v) B.1 B.2.1 (by rw [B.2.2.1, hr]) (fun t ht hW => ⟨⟨some (1, v), ad, N, S, M, rfl, x, by rw [ht]; exact w, fun u hu => by cases hu; exact a_hd h1, hQ⟩, hS9.F ht⟩) hS9.2.2 hd B.2.2.2.2.2.2.1)
theorem x_return (hd : decode P.2.1 pc = .ok (.return_, 1)) (hr : P.2.2.2.1 = none) (hc : kc ≤ P.2.2.2.2.1.cells ∧ ks ≤ P.2.2.2.2.1.slots) (hQ : Q (.inl none) N S M) : aX l E P Q kc ks N S M pc lo [] := by
  intro p e s m args below meth c H locs ls ad0 ad N0 S0 B w x hS9 hl h1 h2
  refine W.widen hc.1 hc.2 ?_
  exact vx_ret (W.vret B.1 B.2.1 (by rw [B.2.2.1, hr]) (fun t ht hW => ⟨⟨none, ad, N, S, M, rfl, x, by rw [ht]; exact w, (fun u hu => by cases hu), hQ⟩, hS9.F ht⟩) hS9.2.2 hd B.2.2.2.2.2.2.1)
theorem x_areturn {v : Int} {C : String} (hd : decode P.2.1 pc = .ok (.areturn, 1)) (hr : P.2.2.2.1 = some (.object C)) (hc : kc ≤ P.2.2.2.2.1.cells ∧ ks ≤ P.2.2.2.2.1.slots) (hQ : Q (.inl (some (2, v))) N S M) : aX l E P Q kc ks N S M pc lo [(2, v)] := by
  intro p e s m args below meth c H locs ls ad0 ad N0 S0 B w x hS9 hl h1 h2
  refine W.widen hc.1 hc.2 ?_
  exact vx_ret (W.aret (v := a_cv E ad (2, v)) B.1 B.2.1 (by rw [B.2.2.1, hr]) (Or.inl ⟨_, rfl⟩) (va_rf_or _) (fun t ht hW => ⟨⟨some (2, v), ad, N, S, M, rfl, x, by rw [ht]; exact w, fun u hu => by cases hu; exact a_hd h1, hQ⟩, hS9.F ht⟩) hS9.2.2 hd B.2.2.2.2.2.2.1)
/-- 'throw new E()' -/
def a_sup : List String := ["java/lang/RuntimeException", "java/lang/Exception"]
def a_th (own : String) (ik ic k : Nat) : Prop := Cond.classLink own ik (a_xn k) ∈ lw_ok ∧ Cond.initialized (a_xn k) ∈ lw_ok ∧ (∀ w ∈ vx_at0 own ic (a_xn k) a_sup, w ∈ lw_ok ∨ w ∈ a_nest) ∧ (∀ w ∈ Cond.classLink own ik (a_xn k) :: Cond.initialized (a_xn k) :: vx_at0 own ic (a_xn k) a_sup, vx_ot w = true) ∧ Bundle.fit (a_xn k) = true
theorem x_throw {ik ic x9 : Nat} (ht : a_th P.1.cls ik ic x9) (hh : P.2.2.2.2.2 = []) (hlo : True)
    (d0 : decode P.2.1 pc = .ok (.new ik, 3)) (d3 : decode P.2.1 (pc + 3) = .ok (.dup, 1)) (d4 : decode P.2.1 (pc + 4) = .ok (.invokespecial ic, 3)) (d7 : decode P.2.1 (pc + 7) = .ok (.athrow, 1))
    (hc : 6 ≤ P.2.2.2.2.1.frames ∧ 90 ≤ P.2.2.2.2.1.locals ∧ kc + 1 ≤ P.2.2.2.2.1.cells ∧ ks + 6 ≤ P.2.2.2.2.1.slots) (hQ : Q (.inr x9) N S M) : aX l E P Q kc ks N S M pc lo [] := by
  intro p e s m args below meth c H locs ls ad0 ad N0 S0 B w x hS9 hl h1 h2
  obtain ⟨t1, t2, t3, t4, t5⟩ := ht
  have hb := B.2.2.2.2.2.1
  refine vx_throw0 (A := a_A E) (names := a_sup) B.1 B.2.1 B.2.2.2.2.2.2.2.2.2.2.2.1 B.2.2.2.2.1 t5 (by decide +kernel) (hb _ t1) (hb _ t2) (fun w hw => ?_) t4 B.2.2.2.2.2.2.2.2.1.2.1 B.2.2.2.2.2.2.2.2.1.2.2.1 hS9 (hl.1.trans B.2.2.2.1.symm) d0 d3 d4 d7 ?_ ?_ ?_ hc.2.2.1 hc.2.2.2 B.2.2.2.2.2.2.1 (fun t hal hz hk => ?_) hS9.2.2 hc.2.2.1 hc.2.2.2
  · rcases t3 w hw with h | h
    · exact hb w h
    · exact va_Nw.use (a_nestT (a_nest_in h)) (B.2.2.2.2.2.2.2.2.1.1 w h)
  · intro z hz
    rw [B.2.2.2.2.2.2.2.2.2.1, hh] at hz
    cases hz
  · show 2 + 3 < _
    omega
  · show 0 + (13 * (2 + 1) + 42) ≤ _
    omega
  · refine ⟨⟨x9, ad, N, S, M, rfl, x, ⟨va_P.kept w.1 (fun k q hq => hk q.1 (va_at.lt (w.1 k q hq))), w.2⟩, hQ⟩, Nat.le_trans hS9.1 hz, fun q hq hA => ?_⟩
    rw [hk q (Nat.lt_of_lt_of_le hq hS9.1)]
    exact hS9.2.1 q hq hA
end AX4
/-! CALLS -/
def a_ex (N N' : Nat) (S S' : aS) : Prop := N ≤ N' ∧ ∀ i : Nat, i < N → (S' i).1 = (S i).1
theorem a_cv_ext {E : aE} {ad ad' : Nat → Nat} {N : Nat} {v : aV} (hv : a_vok N v) (h : ∀ i : Nat, i < N → ad' i = ad i) : a_cv E ad' v = a_cv E ad v := by
  obtain ⟨k, n⟩ := v
  match k, hv with
  | 0, _ => rfl
  | 1, _ => rfl
  | k + 2, hv =>
    have hv : n < N := hv
    show va_rf (a_ro E ad' n) = va_rf (a_ro E ad n)
    congr 1
    unfold a_ro
    by_cases e : n = -1
    · rw [if_pos e, if_pos e]
    · rw [if_neg e, if_neg e]
      by_cases e2 : 0 ≤ n
      · rw [if_pos e2, if_pos e2, h _ (by omega)]
      · rw [if_neg e2, if_neg e2]
theorem a_vok_mono {N N' : Nat} {v : aV} (h : N ≤ N') (hv : a_vok N v) : a_vok N' v := by
  obtain ⟨k, n⟩ := v
  match k, hv with
  | 0, hv => exact hv
  | 1, hv => exact hv
  | k + 2, hv =>
    have hv : n < N := hv
    show n < N'
    omega
theorem a_map_ext {E : aE} {ad ad' : Nat → Nat} {N : Nat} {st : List aV} (hv : ∀ v ∈ st, a_vok N v) (h : ∀ i : Nat, i < N → ad' i = ad i) : st.map (a_cv E ad') = st.map (a_cv E ad) := List.map_congr_left fun v hm => a_cv_ext (hv v hm) h
theorem a_lo_ext {E : aE} {ad ad' : Nat → Nat} {N : Nat} {lo : List (Nat × aV)} (hv : ∀ q ∈ lo, a_vok N q.2) (h : ∀ i : Nat, i < N → ad' i = ad i) : a_lo E ad' lo = a_lo E ad lo := List.map_congr_left fun q hm => by rw [a_cv_ext (hv q hm) h]
theorem a_ext_trans {ad0 ad ad' : Nat → Nat} {N0 N N' : Nat} {S0 S S' : aS} (h1 : a_ext ad0 ad N0 N S0 S) (h2 : a_ext ad ad' N N' S S') : a_ext ad0 ad' N0 N' S0 S' :=
  ⟨Nat.le_trans h1.1 h2.1, fun i hi => ⟨(h2.2 i (Nat.lt_of_lt_of_le hi h1.1)).1.trans (h1.2 i hi).1, (h2.2 i (Nat.lt_of_lt_of_le hi h1.1)).2.trans (h1.2 i hi).2⟩⟩
/-- behind a call that returns or throws; no handler here -/
theorem a_after {l : Launch} {E : aE} {P : aP} {Q Q' : aQ} {kc ks mc ms N : Nat} {S : aS} {pc : Nat} {lo : List (Nat × aV)} {st st0 : List aV} {p : Program} {e : Env} {s : State} {m : MethodId} {args : Array Value} {below : List Frame} {meth : Method} {c : Code} {H : Heap} {locs : List Loc} {ls : Array Slot} {ad0 ad : Nat → Nat} {N0 : Nat} {S0 : aS} {a9 : Array Value}
    (hh : P.2.2.2.2.2 = []) (B : a_B l E P p s m args meth c) (x : a_ext ad0 ad N0 N S0 S) (hS9 : va_S (a_A E) s.heap H locs) (hl : lv_has ls P.2.2.1 (a_lo E ad lo)) (h1 : ∀ v ∈ st, a_vok N v) (h2 : ∀ q ∈ lo, a_vok N q.2)
    (hr : vx_Run p l e P.2.2.2.2.1 s m args below meth c H locs kc ks mc ms (F0 m pc ls (st0.map (a_cv E ad))) (st.map (a_cv E ad)) (a_Qc E ad N S Q' a9) (a_XC E ad N S Q') (a_A E))
    (hc : kc + mc ≤ P.2.2.2.2.1.cells ∧ ks + ms ≤ P.2.2.2.2.1.slots)
    (k1 : ∀ (r : Option aV) (N' : Nat) (S' : aS) (M' : aM), Q' (.inl r) N' S' M' → a_ex N N' S S' → aX l E P Q (kc + mc) (ks + ms) N' S' M' (pc + 3) lo (r.toList ++ st))
    (k2 : ∀ (x9 N' : Nat) (S' : aS) (M' : aM), Q' (.inr x9) N' S' M' → a_ex N N' S S' → Q (.inr x9) N' S' M') :
    W p l e P.2.2.2.2.1 s m args below meth c H locs kc ks (vx_MQ below (a_Qc E ad0 N0 S0 Q) (a_XC E ad0 N0 S0 Q) args s P.2.2.2.2.1.cells P.2.2.2.2.1.slots (a_A E)) (F0 m pc ls (st0.map (a_cv E ad))) := by
  intro T hT X
  rcases hr T hT X with ⟨v, st₀, t, T', L, h0, X', hL, e1, e2, ⟨⟨r, ad', N', S', M', ho, hx, hw, hv, hq⟩, hF⟩, hst⟩ | ⟨q, st₀, t, T', L, Ex, ce, h0, X', hL, e1, e2, ⟨⟨x9, ad', N', S', M', hEx, hx, hw, hq⟩, hF⟩, hce, hcv, hcl, hst⟩
  · cases ho
    obtain ⟨-, -, g3⟩ := vx_keep h0 e1 hS9 (fun _ _ h => h) (fun _ h => h) hL hF
    have had : ∀ i : Nat, i < N → ad' i = ad i := fun i hi => (hx.2 i hi).1
    have z := k1 r N' S' M' hq ⟨hx.1, fun i hi => (hx.2 i hi).2⟩ p e s m args below meth c T'.heap (locs ++ L) ls ad0 ad' N0 S0 B (by rw [e1]; exact hw) (a_ext_trans x hx) g3 (by rw [a_lo_ext h2 had]; exact hl)
      (fun u hu => by
        rcases List.mem_append.mp hu with h | h
        · exact hv u (by cases r with
            | none => cases h
            | some r => rw [List.mem_singleton.mp h])
        · exact a_vok_mono hx.1 (h1 u h)) (fun u hu => a_vok_mono hx.1 (h2 u hu))
    rw [List.map_append, a_map_ext h1 had, show (r.toList.map (a_cv E ad')) = (r.map (a_cv E ad')).toList from by cases r <;> rfl] at z
    obtain ⟨t2, a1, b1⟩ := z T' rfl X'
    exact ⟨t2, hst t2 a1, b1⟩
  · obtain ⟨-, -, g3⟩ := vx_keep h0 e1 hS9 (fun _ _ h => h) (fun _ h => h) hL hF
    have ho := vx_out (p := p) (l := l) (e := e) (R := P.2.2.2.2.1) (below := below) (meth := meth) (c := c) (args := args) (s := s) (m := m) (H := T'.heap) (locs := locs ++ L) (cells := kc + mc) (slots := ks + ms) (pc := pc) (ls := ls) (rest := st.map (a_cv E ad)) (E := Ex) (ce := ce) (q := q) (mc := P.2.2.2.2.1.cells) (ms := P.2.2.2.2.1.slots) (Qc := a_Qc E ad0 N0 S0 Q) (XC := a_XC E ad0 N0 S0 Q) (free := a_A E)
      (fun z hz => by rw [B.2.2.2.2.2.2.2.2.2.1, hh] at hz; cases hz) B.2.2.2.2.2.2.1 (by rw [e1]; exact hce) hcv hcl (fun t9 ht9 hal9 => ⟨⟨x9, ad', N', S', M', hEx, a_ext_trans x hx, by rw [ht9, e1]; exact hw, k2 x9 N' S' M' hq ⟨hx.1, fun i hi => (hx.2 i hi).2⟩⟩, g3.F ht9⟩) g3.2.2 hc.1 hc.2
    obtain ⟨t2, a1, b1⟩ := ho T' rfl X'
    exact ⟨t2, hst.trans a1, b1⟩
