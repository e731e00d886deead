/-! THE LAW'S RULES: calls that cannot throw, calls under handlers, calls of methods with handlers, the script -/
def a_ctn : Nat → Nat
  | 13 => 0
  | 19 => 2
  | 75 => 1
  | _ => 3
def a_cts (hh : List (Nat × Nat × Nat × Nat)) : Bool := hh.all fun q => q.2.2.2 == 13 || q.2.2.2 == 19 || q.2.2.2 == 75 || q.2.2.2 == 120
def a_find : List (Nat × Nat × Nat × Nat) → Nat → Nat → Option Nat
  | [], _, _ => none
  | q :: r, pc, x9 => if (q.1 ≤ pc ∧ pc < q.2.1) ∧ a_ctn q.2.2.2 = x9 then some q.2.2.1 else a_find r pc x9
theorem a_find_at : ∀ {hh : List (Nat × Nat × Nat × Nat)} {pc x9 hp : Nat}, a_find hh pc x9 = some hp → ∃ (pre : List (Nat × Nat × Nat × Nat)) (q : Nat × Nat × Nat × Nat) (suf : List (Nat × Nat × Nat × Nat)), hh = pre ++ q :: suf ∧ q.2.2.1 = hp ∧ (q.1 ≤ pc ∧ pc < q.2.1) ∧ a_ctn q.2.2.2 = x9 ∧ ∀ z ∈ pre, ¬ (z.1 ≤ pc ∧ pc < z.2.1) ∨ a_ctn z.2.2.2 ≠ x9
  | [], _, _, _, h => by cases h
  | q :: r, pc, x9, hp, h => by
    unfold a_find at h
    by_cases e : (q.1 ≤ pc ∧ pc < q.2.1) ∧ a_ctn q.2.2.2 = x9
    · rw [if_pos e] at h
      exact ⟨[], q, r, rfl, Option.some.inj h, e.1, e.2, fun z hz => by cases hz⟩
    · rw [if_neg e] at h
      obtain ⟨pre, q9, suf, e1, e2, e3, e4, e5⟩ := a_find_at h
      refine ⟨q :: pre, q9, suf, by rw [e1]; rfl, e2, e3, e4, fun z hz => ?_⟩
      rcases List.mem_cons.mp hz with w | w
      · rw [w]
        by_cases e6 : q.1 ≤ pc ∧ pc < q.2.1
        · exact Or.inr fun e7 => e ⟨e6, e7⟩
        · exact Or.inl e6
      · exact e5 z w
theorem a_ctl : ∀ ct : Nat, (ct = 13 ∨ ct = 19 ∨ ct = 75 ∨ ct = 120) → Cond.classLink "CoalStreetLaw" ct (a_xn (a_ctn ct)) ∈ lw_ok := fun ct h => by
  rcases h with rfl | rfl | rfl | rfl
  · exact (lw_ok_in (List.mem_of_getElem? (i := 635) (by decide +kernel)) rfl)
  · exact (lw_ok_in (List.mem_of_getElem? (i := 734) (by decide +kernel)) rfl)
  · exact (lw_ok_in (List.mem_of_getElem? (i := 1183) (by decide +kernel)) rfl)
  · exact (lw_ok_in (List.mem_of_getElem? (i := 1473) (by decide +kernel)) rfl)
theorem a_csf : ∀ k, k < 4 → Cond.castable (a_xn k) (a_xn k) ∈ a_nest := fun k hk => match k, hk with
  | 0, _ => (List.mem_filter.mpr ⟨List.mem_of_getElem? (i := 650) (by decide +kernel), rfl⟩)
  | 1, _ => (List.mem_filter.mpr ⟨List.mem_of_getElem? (i := 1194) (by decide +kernel), rfl⟩)
  | 2, _ => (List.mem_filter.mpr ⟨List.mem_of_getElem? (i := 749) (by decide +kernel), rfl⟩)
  | 3, _ => (List.mem_filter.mpr ⟨List.mem_of_getElem? (i := 1484) (by decide +kernel), rfl⟩)
  | k + 4, h => absurd h (by omega)
theorem a_ncf : ∀ j : Fin 4, ∀ k : Fin 4, j ≠ k → (a_xn j, a_xn k) ∈ a_ncL := by decide +kernel
theorem a_ncp (j : Nat) (hj : j < 4) (k : Nat) (hk : k < 4) (h : j ≠ k) : (a_xn j, a_xn k) ∈ a_ncL := a_ncf ⟨j, hj⟩ ⟨k, hk⟩ fun e => h (congrArg Fin.val e)
theorem a_ctn_4 (ct : Nat) : a_ctn ct < 4 := by
  unfold a_ctn
  split <;> omega
/-- the handler for exception x9 at pc: it gives back c -/
def a_hnd (P : aP) (pc x9 : Nat) (c : Int) : Prop := ∃ (hp j w : Nat), a_find P.2.2.2.2.2 pc x9 = some hp ∧ ((decode P.2.1 hp = .ok (.astore j, 2) ∧ w = 2) ∨ (∃ kk : Fin 4, decode P.2.1 hp = .ok (.astore_n kk, 1) ∧ (kk : Nat) = j ∧ w = 1)) ∧ j < P.2.2.1 ∧ (-2147483648 ≤ c ∧ c ≤ 2147483647) ∧ decode P.2.1 (hp + w) = .ok (.iconst c, 1) ∧ decode P.2.1 (hp + w + 1) = .ok (.ireturn, 1)
/-- contract of a method with handlers -/
def aMtH (l : Launch) (E : aE) (P : aP) (vs : List aV) (N : Nat) (S : aS) (M : aM) (Q : aQ) : Prop := (∀ v ∈ vs, a_vok N v) → ∀ ad : Nat → Nat,
  vx_Met l P.1 (Cond.codeWith P.1 P.2.1 P.2.2.1 P.2.2.2.1 P.2.2.2.2.2 :: lw_ok) P.2.2.2.2.1 (va_Pc (vs.map (a_cv E ad)) (fun U => a_w E ad N S M U.heap ∧ va_K E.1 vwCl (a_tys E) U ∧ a_st E U U.heap ∧ E.2.2.1 ≤ U.heap.size)) (a_Qc E ad N S Q) (a_XC E ad N S Q) P.2.2.2.2.1.cells P.2.2.2.2.1.slots (a_A E)
theorem a_metH {l : Launch} {E : aE} {P : aP} {Q : aQ} {vs : List aV} {N : Nat} {S : aS} {M : aM} (hfl : l.stackTraces = false) (hy : plainName P.1.cls = true) (hlen : a_len vs ≤ P.2.2.1) (hX : aX l E P Q 0 0 N S M 0 (a_args 0 vs) []) : aMtH l E P vs N S M Q := by
  intro hok ad
  refine vx_ofWH (cc := P.2.1) (maxL := P.2.2.1) (ret := P.2.2.2.1) (hh := P.2.2.2.2.2) hy rfl ?_
  intro p e s m args below meth c s₁ B hml hv
  obtain ⟨rfl, hw, hK, hst, hq⟩ := hv
  have hts := atoms_spec (ws := Cond.codeWith P.1 P.2.1 P.2.2.1 P.2.2.2.1 P.2.2.2.2.2 :: lw_ok) B.pre
  have hl := lv_entry (vs.map (a_cv E ad)) (n := P.2.2.1) (by rw [a_len_sl]; exact hlen)
  rw [lg_entry_eq]
  generalize ((lg_sl (vs.map (a_cv E ad)) ++ List.replicate (P.2.2.1 - (lg_sl (vs.map (a_cv E ad))).length) Slot.unset).toArray) = ls at hl ⊢
  rw [a_args_lv] at hl
  have htb : c.exceptionTable.toList = tableOf P.2.2.2.2.2 := vx_table (x := P.1) B (hts _ List.mem_cons_self)
  exact hX p e s m _ below meth c s.heap [] ls ad ad N S ⟨B.exec, B.bytes, B.returns, hml, findClass_of_methodNamed B.named, fun w hw => hts w (List.mem_cons_of_mem _ hw), B.notSynchronized, hK, hst, htb, fun hn => (name_of_methodNamed B.named B.method).1.trans hn, hfl, hq⟩ hw ⟨Nat.le_refl _, fun i hi => ⟨rfl, rfl⟩⟩ va_S.rf hl (fun v hv => by cases hv) (a_args_ok hok)
def a_kSH (own : String) (i : Nat) (P' : aP) (n : Nat) : Prop := Cond.codeWith P'.1 P'.2.1 P'.2.2.1 P'.2.2.2.1 P'.2.2.2.2.2 ∈ lw_ok ∧ Cond.initialized P'.1.cls ∈ lw_ok ∧ (P'.1.cls ≠ "java/lang/invoke/MethodHandle" ∧ P'.1.cls ≠ "java/lang/invoke/VarHandle" ∧ (parseMethodDescriptor P'.1.desc).map (fun d => d.parameters.length) = some n) ∧ Cond.methodLink own i P'.1 ∈ lw_ok ∧ Cond.static P'.1 ∈ lw_ok
theorem a_goodH (P' : aP) (h : Cond.codeWith P'.1 P'.2.1 P'.2.2.1 P'.2.2.2.1 P'.2.2.2.2.2 ∈ lw_ok) : GoodIn lw_ok (Cond.codeWith P'.1 P'.2.1 P'.2.2.1 P'.2.2.2.1 P'.2.2.2.2.2 :: lw_ok) := fun w hw => by
  rcases List.mem_cons.mp hw with e | e
  · rw [e]; exact ⟨h, good_of_word (lw_ok_good h)⟩
  · exact ⟨e, good_of_word (lw_ok_good e)⟩
theorem a_csw {l : Launch} {E : aE} {P P' : aP} {p : Program} {s : State} {m : MethodId} {args : Array Value} {meth : Method} {c : Code} {i n : Nat} (hk : a_kSH P.1.cls i P' n) (B : a_B l E P p s m args meth c) (hR : P'.2.2.2.2.1.frames + 1 ≤ P.2.2.2.2.1.frames ∧ 8 + (P'.2.2.1 + 11) + P'.2.2.2.2.1.locals ≤ P.2.2.2.2.1.locals) :
    vx_CSW P.2.2.2.2.1 s args P.1.cls i P'.1 P'.2.1 P'.2.2.1 P'.2.2.2.1 P'.2.2.2.2.2 (Cond.codeWith P'.1 P'.2.1 P'.2.2.1 P'.2.2.2.1 P'.2.2.2.2.2 :: lw_ok) P'.2.2.2.2.1 P'.2.2.2.2.1.cells P'.2.2.2.2.1.slots n := by
  have hb := B.2.2.2.2.2.1
  refine ⟨⟨rfl, rfl, hR.1, hR.2, pay_in (fun w hw => hb w hw) (a_goodH P' hk.1), List.mem_cons_self⟩, hb _ hk.1, hb _ hk.2.1, ⟨hk.2.2.1.1, hk.2.2.1.2.1⟩, fun sig h => ?_, hb _ hk.2.2.2.1, hb _ hk.2.2.2.2⟩
  have h2 := hk.2.2.1.2.2
  rw [h] at h2
  exact (Option.some.inj h2).symm
theorem a_afterN {l : Launch} {E : aE} {P : aP} {Q Q' : aQ} {kc ks mc ms N : Nat} {S : aS} {pc : Nat} {lo : List (Nat × aV)} {st st0 : List aV} {p : Program} {e : Env} {s : State} {m : MethodId} {args : Array Value} {below : List Frame} {meth : Method} {c : Code} {H : Heap} {locs : List Loc} {ls : Array Slot} {ad0 ad : Nat → Nat} {N0 : Nat} {S0 : aS} {a9 : Array Value}
    (B : a_B l E P p s m args meth c) (x : a_ext ad0 ad N0 N S0 S) (hS9 : va_S (a_A E) s.heap H locs) (hl : lv_has ls P.2.2.1 (a_lo E ad lo)) (h1 : ∀ v ∈ st, a_vok N v) (h2 : ∀ q ∈ lo, a_vok N q.2)
    (hr : vx_Run p l e P.2.2.2.2.1 s m args below meth c H locs kc ks mc ms (F0 m pc ls (st0.map (a_cv E ad))) (st.map (a_cv E ad)) (a_Qc E ad N S Q' a9) (a_XC E ad N S Q') (a_A E))
    (hc : kc + mc ≤ P.2.2.2.2.1.cells ∧ ks + ms ≤ P.2.2.2.2.1.slots)
    (k1 : ∀ (r : Option aV) (N' : Nat) (S' : aS) (M' : aM), Q' (.inl r) N' S' M' → a_ex N N' S S' → aX l E P Q (kc + mc) (ks + ms) N' S' M' (pc + 3) lo (r.toList ++ st))
    (k2 : ∀ (x9 N' : Nat) (S' : aS) (M' : aM), ¬ Q' (.inr x9) N' S' M') :
    W p l e P.2.2.2.2.1 s m args below meth c H locs kc ks (vx_MQ below (a_Qc E ad0 N0 S0 Q) (a_XC E ad0 N0 S0 Q) args s P.2.2.2.2.1.cells P.2.2.2.2.1.slots (a_A E)) (F0 m pc ls (st0.map (a_cv E ad))) := by
  intro T hT X
  rcases hr T hT X with ⟨v, st₀, t, T', L, h0, X', hL, e1, e2, ⟨⟨r, ad', N', S', M', ho, hx, hw, hv, hq⟩, hF⟩, hst⟩ | ⟨q, st₀, t, T', L, Ex, ce, h0, X', hL, e1, e2, ⟨⟨x9, ad', N', S', M', hEx, hx, hw, hq⟩, hF⟩, hce, hcv, hcl, hst⟩
  · cases ho
    obtain ⟨-, -, g3⟩ := vx_keep h0 e1 hS9 (fun _ _ h => h) (fun _ h => h) hL hF
    have had : ∀ i : Nat, i < N → ad' i = ad i := fun i hi => (hx.2 i hi).1
    have z := k1 r N' S' M' hq ⟨hx.1, fun i hi => (hx.2 i hi).2⟩ p e s m args below meth c T'.heap (locs ++ L) ls ad0 ad' N0 S0 B (by rw [e1]; exact hw) (a_ext_trans x hx) g3 (by rw [a_lo_ext h2 had]; exact hl)
      (fun u hu => by
        rcases List.mem_append.mp hu with h | h
        · exact hv u (by cases r with
            | none => cases h
            | some r => rw [List.mem_singleton.mp h])
        · exact a_vok_mono hx.1 (h1 u h)) (fun u hu => a_vok_mono hx.1 (h2 u hu))
    rw [List.map_append, a_map_ext h1 had, show (r.toList.map (a_cv E ad')) = (r.map (a_cv E ad')).toList from by cases r <;> rfl] at z
    obtain ⟨t2, a1, b1⟩ := z T' rfl X'
    exact ⟨t2, hst t2 a1, b1⟩
  · exact absurd hq (k2 x9 N' S' M')
theorem a_afterC {l : Launch} {E : aE} {P : aP} {Q Q' : aQ} {kc ks mc ms N : Nat} {S : aS} {pc : Nat} {lo : List (Nat × aV)} {st st0 : List aV} {p : Program} {e : Env} {s : State} {m : MethodId} {args : Array Value} {below : List Frame} {meth : Method} {c : Code} {H : Heap} {locs : List Loc} {ls : Array Slot} {ad0 ad : Nat → Nat} {N0 : Nat} {S0 : aS} {a9 : Array Value}
    (hL : P.1.cls = "CoalStreetLaw") (hcs : a_cts P.2.2.2.2.2 = true) (hri : P.2.2.2.1 = some .int) (B : a_B l E P p s m args meth c) (x : a_ext ad0 ad N0 N S0 S) (hS9 : va_S (a_A E) s.heap H locs) (hl : lv_has ls P.2.2.1 (a_lo E ad lo)) (h1 : ∀ v ∈ st, a_vok N v) (h2 : ∀ q ∈ lo, a_vok N q.2)
    (hr : vx_Run p l e P.2.2.2.2.1 s m args below meth c H locs kc ks mc ms (F0 m pc ls (st0.map (a_cv E ad))) (st.map (a_cv E ad)) (a_Qc E ad N S Q' a9) (a_XC E ad N S Q') (a_A E))
    (hc : kc + mc ≤ P.2.2.2.2.1.cells ∧ ks + ms ≤ P.2.2.2.2.1.slots)
    (k1 : ∀ (r : Option aV) (N' : Nat) (S' : aS) (M' : aM), Q' (.inl r) N' S' M' → a_ex N N' S S' → aX l E P Q (kc + mc) (ks + ms) N' S' M' (pc + 3) lo (r.toList ++ st))
    (k2 : ∀ (x9 N' : Nat) (S' : aS) (M' : aM), Q' (.inr x9) N' S' M' → a_ex N N' S S' → ∃ c9 : Int, a_hnd P pc x9 c9 ∧ Q (.inl (some (0, c9))) N' S' M') :
    W p l e P.2.2.2.2.1 s m args below meth c H locs kc ks (vx_MQ below (a_Qc E ad0 N0 S0 Q) (a_XC E ad0 N0 S0 Q) args s P.2.2.2.2.1.cells P.2.2.2.2.1.slots (a_A E)) (F0 m pc ls (st0.map (a_cv E ad))) := by
  intro T hT X
  rcases hr T hT X with ⟨v, st₀, t, T', L, h0, X', hL9, e1, e2, ⟨⟨r, ad', N', S', M', ho, hx, hw, hv, hq⟩, hF⟩, hst⟩ | ⟨q, st₀, t, T', L, Ex, ce, h0, X', hL9, e1, e2, ⟨⟨x9, ad', N', S', M', hEx, hx, hw, hq⟩, hF⟩, hce, hcv, hcl, hst⟩
  · cases ho
    obtain ⟨-, -, g3⟩ := vx_keep h0 e1 hS9 (fun _ _ h => h) (fun _ h => h) hL9 hF
    have had : ∀ i : Nat, i < N → ad' i = ad i := fun i hi => (hx.2 i hi).1
    have z := k1 r N' S' M' hq ⟨hx.1, fun i hi => (hx.2 i hi).2⟩ p e s m args below meth c T'.heap (locs ++ L) ls ad0 ad' N0 S0 B (by rw [e1]; exact hw) (a_ext_trans x hx) g3 (by rw [a_lo_ext h2 had]; exact hl)
      (fun u hu => by
        rcases List.mem_append.mp hu with h | h
        · exact hv u (by cases r with
            | none => cases h
            | some r => rw [List.mem_singleton.mp h])
        · exact a_vok_mono hx.1 (h1 u h)) (fun u hu => a_vok_mono hx.1 (h2 u hu))
    rw [List.map_append, a_map_ext h1 had, show (r.toList.map (a_cv E ad')) = (r.map (a_cv E ad')).toList from by cases r <;> rfl] at z
    obtain ⟨t2, a1, b1⟩ := z T' rfl X'
    exact ⟨t2, hst t2 a1, b1⟩
  · obtain ⟨-, -, g3⟩ := vx_keep h0 e1 hS9 (fun _ _ h => h) (fun _ h => h) hL9 hF
    obtain ⟨c9, ⟨hp, j, w, f1, f2, f3, f4, f5, f6⟩, hQ9⟩ := k2 x9 N' S' M' hq ⟨hx.1, fun i hi => (hx.2 i hi).2⟩
    obtain ⟨pre, q9, suf, s1, s2, s3, s4, s5⟩ := a_find_at f1
    have hall : ∀ z ∈ P.2.2.2.2.2, z.2.2.2 = 13 ∨ z.2.2.2 = 19 ∨ z.2.2.2 = 75 ∨ z.2.2.2 = 120 := fun z hz => by
      have := List.all_eq_true.mp hcs z hz
      simpa [or_assoc] using this
    have hb := B.2.2.2.2.2.1
    have hnc := B.2.2.2.2.2.2.2.2.1.2.2.2.2.2.2.2.2
    have hx4 : x9 < 4 := by rw [← s4]; exact a_ctn_4 _
    have hqm := hall q9 (by rw [s1]; simp)
    have hown : s.vm.findClass "CoalStreetLaw" = some m.cls := by rw [← hL]; exact B.2.2.2.2.1
    have kk : W p l e P.2.2.2.2.1 s m args below meth c T'.heap (locs ++ L) (kc + mc) (ks + ms) (vx_MQ below (a_Qc E ad0 N0 S0 Q) (a_XC E ad0 N0 S0 Q) args s P.2.2.2.2.1.cells P.2.2.2.2.1.slots (a_A E)) (F0 m hp ls [.ref q]) := by
      have k3 : ∀ ls' : Array Slot, W p l e P.2.2.2.2.1 s m args below meth c T'.heap (locs ++ L) (kc + mc) (ks + ms) (vx_MQ below (a_Qc E ad0 N0 S0 Q) (a_XC E ad0 N0 S0 Q) args s P.2.2.2.2.1.cells P.2.2.2.2.1.slots (a_A E)) (F0 m (hp + w) ls' []) := fun ls' => by
        refine lv_iconst B.1 B.2.1 f5 rfl ?_
        refine W.widen hc.1 hc.2 ?_
        exact vx_ret (W.iret (v := Int32.ofInt c9) B.1 B.2.1 (by rw [B.2.2.1, hri]) (fun t9 ht hW => ⟨⟨some (0, c9), ad', N', S', M', rfl, a_ext_trans x hx, by rw [ht, e1]; exact hw, fun u hu => by cases hu; exact f4, hQ9⟩, g3.F ht⟩) g3.2.2 f6 B.2.2.2.2.2.2.1)
      rcases f2 with ⟨f2, rfl⟩ | ⟨kk9, f2, f7, rfl⟩
      · exact lv_astore B.1 B.2.1 f2 hl f3 rfl fun ls' _ => k3 ls'
      · exact lv_astore_n B.1 B.2.1 f2 f7 hl f3 rfl fun ls' _ => k3 ls'
    have ho := vx_catch (p := p) (l := l) (e := e) (R := P.2.2.2.2.1) (below := below) (meth := meth) (c := c) (args := args) (s := s) (m := m) (H := T'.heap) (locs := locs ++ L) (cells := kc + mc) (slots := ks + ms) (pc := pc) (ls := ls) (rest := st.map (a_cv E ad)) (E := Ex) (ce := ce) (q := q) (own := "CoalStreetLaw") (name := a_xn x9)
      hown (tableOf pre) ⟨q9.1, q9.2.1, q9.2.2.1, q9.2.2.2⟩ (tableOf suf) (by rw [B.2.2.2.2.2.2.2.2.2.1, s1]; unfold tableOf; rw [List.map_append, List.map_cons])
      (fun z hz => by
        obtain ⟨z9, hz9, rfl⟩ := List.mem_map.mp hz
        have hzm := hall z9 (by rw [s1]; exact List.mem_append_left _ hz9)
        rcases s5 z9 hz9 with w9 | w9
        · left
          show (decide (z9.1 ≤ pc) && decide (pc < z9.2.1)) = false
          rw [Bool.and_eq_false_iff, decide_eq_false_iff_not, decide_eq_false_iff_not]
          omega
        · right
          refine ⟨by show z9.2.2.2 ≠ 0; omega, a_xn (a_ctn z9.2.2.2), hb _ (a_ctl _ hzm), ?_⟩
          rw [hEx]
          exact hnc _ (a_ncp x9 hx4 _ (a_ctn_4 _) (fun w => w9 w.symm)))
      (by show (decide (q9.1 ≤ pc) && decide (pc < q9.2.1)) = true; rw [Bool.and_eq_true, decide_eq_true_iff, decide_eq_true_iff]; exact s3)
      (by show q9.2.2.2 ≠ 0; omega) (by rw [← s4]; exact hb _ (a_ctl _ hqm)) (by rw [hEx]; exact va_Nw.use (a_nestT (a_nest_in (a_csf x9 hx4))) (B.2.2.2.2.2.2.2.2.1.1 _ (a_csf x9 hx4))) (by rw [e1]; exact hce) hcv hcl (by rw [s2]; exact kk)
    obtain ⟨t2, a1, b1⟩ := ho T' rfl X'
    exact ⟨t2, hst.trans a1, b1⟩
section AX9
variable {l : Launch} {E : aE} {P : aP} {Q : aQ} {kc ks N : Nat} {S : aS} {M : aM} {pc : Nat} {lo : List (Nat × aV)} {st : List aV}
theorem x_callV0N {P' : aP} {Q' : aQ} {i : Nat} {o : Int} {ci : Nat} {n9 : Int} {r9 : Int → Int} (hd : decode P.2.1 pc = .ok (.invokevirtual i, 3)) (hk : a_kV P.1.cls i P' 0) (hm : aMt l E P' [(2, o)] N S M Q') (hS : S o = (ci, n9, r9)) (hcl : (vwCl[ci]?).map (fun q => q.1) = some P'.1.cls) (hr : a_rm P P' kc ks = true) (hlen : a_len st ≤ 8)
    (k1 : ∀ (r : Option aV) (N' : Nat) (S' : aS) (M' : aM), Q' (.inl r) N' S' M' → a_ex N N' S S' → aX l E P Q (kc + P'.2.2.2.2.1.cells) (ks + P'.2.2.2.2.1.slots) N' S' M' (pc + 3) lo (r.toList ++ st))
    (k2 : ∀ (x9 N' : Nat) (S' : aS) (M' : aM), ¬ Q' (.inr x9) N' S' M') : aX l E P Q kc ks N S M pc lo ((2, o) :: st) := by
  intro p e s m args below meth c H locs ls ad0 ad N0 S0 B w x hS9 hl h1 h2
  obtain ⟨hR, hC⟩ := a_rm_spec hr
  have hst : ∀ v ∈ st, a_vok N v := fun v hv => h1 v (by simp [hv])
  have hvs : ∀ v ∈ ([(2, o)] : List aV), a_vok N v := fun v hv => h1 v (by simp at hv ⊢; rcases hv with rfl <;> simp)
  have hsz : ls.size = P.2.2.1 := hl.1
  have hmon : 2 * (F0 m pc ls ([] : List Value)).monitorRoom + ((st.map (a_cv E ad)).map fun v => v.category).sum ≤ 8 := lv_room (by rw [a_len_sum]; exact hlen)
  have hcb := hk.1
  obtain ⟨o1, hrv⟩ := a_recv B w hS hcl
  have hpre := a_pre (vs := [(2, o)]) B w hS9
  have run := vx_runV (R := P.2.2.2.2.1) (e := e) (args := args) (below := below) (meth := meth) (locs := locs) (cells := kc) (slots := ks) (g := F0 m pc ls (((2, o) :: st).map (a_cv E ad))) (b := ad o.toNat) (As := []) (rest := st.map (a_cv E ad)) ⟨B.1, B.2.1, B.2.2.2.1, B.2.2.2.2.1, fun w hw => B.2.2.2.2.2.1 w hw⟩ (hm hvs ad) (⟨callB_of 0 (fun w hw => B.2.2.2.2.2.1 w hw) (a_good P' hcb.1) rfl rfl rfl (B.2.2.2.2.2.1 _ hcb.2.1) (B.2.2.2.2.2.1 _ hk.2.1) hcb.2.2 hR, B.2.2.2.2.2.1 _ hk.2.2.1, B.2.2.2.2.2.1 _ hk.2.2.2⟩) ⟨hpre.1, hrv, fun U hU hW => by have z := hpre.2 U hU hW; rw [show ([(2, o)].map (a_cv E ad)) = Value.ref (ad o.toNat) :: [] from by rw [← a_cv_in o1]; rfl] at z ⊢; exact z⟩ rfl rfl hsz (by rw [← a_cv_in o1]; rfl) hmon hd hC
  exact a_afterN B x hS9 hl hst h2 run hC k1 k2
theorem x_callV1N {P' : aP} {Q' : aQ} {i : Nat} {v1 : aV} {o : Int} {ci : Nat} {n9 : Int} {r9 : Int → Int} (hd : decode P.2.1 pc = .ok (.invokevirtual i, 3)) (hk : a_kV P.1.cls i P' 1) (hm : aMt l E P' [(2, o), v1] N S M Q') (hS : S o = (ci, n9, r9)) (hcl : (vwCl[ci]?).map (fun q => q.1) = some P'.1.cls) (hr : a_rm P P' kc ks = true) (hlen : a_len st ≤ 8)
    (k1 : ∀ (r : Option aV) (N' : Nat) (S' : aS) (M' : aM), Q' (.inl r) N' S' M' → a_ex N N' S S' → aX l E P Q (kc + P'.2.2.2.2.1.cells) (ks + P'.2.2.2.2.1.slots) N' S' M' (pc + 3) lo (r.toList ++ st))
    (k2 : ∀ (x9 N' : Nat) (S' : aS) (M' : aM), ¬ Q' (.inr x9) N' S' M') : aX l E P Q kc ks N S M pc lo (v1 :: (2, o) :: st) := by
  intro p e s m args below meth c H locs ls ad0 ad N0 S0 B w x hS9 hl h1 h2
  obtain ⟨hR, hC⟩ := a_rm_spec hr
  have hst : ∀ v ∈ st, a_vok N v := fun v hv => h1 v (by simp [hv])
  have hvs : ∀ v ∈ ([(2, o), v1] : List aV), a_vok N v := fun v hv => h1 v (by simp at hv ⊢; rcases hv with rfl | rfl <;> simp)
  have hsz : ls.size = P.2.2.1 := hl.1
  have hmon : 2 * (F0 m pc ls ([] : List Value)).monitorRoom + ((st.map (a_cv E ad)).map fun v => v.category).sum ≤ 8 := lv_room (by rw [a_len_sum]; exact hlen)
  have hcb := hk.1
  obtain ⟨o1, hrv⟩ := a_recv B w hS hcl
  have hpre := a_pre (vs := [(2, o), v1]) B w hS9
  have run := vx_runV (R := P.2.2.2.2.1) (e := e) (args := args) (below := below) (meth := meth) (locs := locs) (cells := kc) (slots := ks) (g := F0 m pc ls ((v1 :: (2, o) :: st).map (a_cv E ad))) (b := ad o.toNat) (As := [a_cv E ad v1]) (rest := st.map (a_cv E ad)) ⟨B.1, B.2.1, B.2.2.2.1, B.2.2.2.2.1, fun w hw => B.2.2.2.2.2.1 w hw⟩ (hm hvs ad) (⟨callB_of 1 (fun w hw => B.2.2.2.2.2.1 w hw) (a_good P' hcb.1) rfl rfl rfl (B.2.2.2.2.2.1 _ hcb.2.1) (B.2.2.2.2.2.1 _ hk.2.1) hcb.2.2 hR, B.2.2.2.2.2.1 _ hk.2.2.1, B.2.2.2.2.2.1 _ hk.2.2.2⟩) ⟨hpre.1, hrv, fun U hU hW => by have z := hpre.2 U hU hW; rw [show ([(2, o), v1].map (a_cv E ad)) = Value.ref (ad o.toNat) :: [a_cv E ad v1] from by rw [← a_cv_in o1]; rfl] at z ⊢; exact z⟩ rfl rfl hsz (by rw [← a_cv_in o1]; rfl) hmon hd hC
  exact a_afterN B x hS9 hl hst h2 run hC k1 k2
theorem x_callV2N {P' : aP} {Q' : aQ} {i : Nat} {v1 v2 : aV} {o : Int} {ci : Nat} {n9 : Int} {r9 : Int → Int} (hd : decode P.2.1 pc = .ok (.invokevirtual i, 3)) (hk : a_kV P.1.cls i P' 2) (hm : aMt l E P' [(2, o), v1, v2] N S M Q') (hS : S o = (ci, n9, r9)) (hcl : (vwCl[ci]?).map (fun q => q.1) = some P'.1.cls) (hr : a_rm P P' kc ks = true) (hlen : a_len st ≤ 8)
    (k1 : ∀ (r : Option aV) (N' : Nat) (S' : aS) (M' : aM), Q' (.inl r) N' S' M' → a_ex N N' S S' → aX l E P Q (kc + P'.2.2.2.2.1.cells) (ks + P'.2.2.2.2.1.slots) N' S' M' (pc + 3) lo (r.toList ++ st))
    (k2 : ∀ (x9 N' : Nat) (S' : aS) (M' : aM), ¬ Q' (.inr x9) N' S' M') : aX l E P Q kc ks N S M pc lo (v2 :: v1 :: (2, o) :: st) := by
  intro p e s m args below meth c H locs ls ad0 ad N0 S0 B w x hS9 hl h1 h2
  obtain ⟨hR, hC⟩ := a_rm_spec hr
  have hst : ∀ v ∈ st, a_vok N v := fun v hv => h1 v (by simp [hv])
  have hvs : ∀ v ∈ ([(2, o), v1, v2] : List aV), a_vok N v := fun v hv => h1 v (by simp at hv ⊢; rcases hv with rfl | rfl | rfl <;> simp)
  have hsz : ls.size = P.2.2.1 := hl.1
  have hmon : 2 * (F0 m pc ls ([] : List Value)).monitorRoom + ((st.map (a_cv E ad)).map fun v => v.category).sum ≤ 8 := lv_room (by rw [a_len_sum]; exact hlen)
  have hcb := hk.1
  obtain ⟨o1, hrv⟩ := a_recv B w hS hcl
  have hpre := a_pre (vs := [(2, o), v1, v2]) B w hS9
  have run := vx_runV (R := P.2.2.2.2.1) (e := e) (args := args) (below := below) (meth := meth) (locs := locs) (cells := kc) (slots := ks) (g := F0 m pc ls ((v2 :: v1 :: (2, o) :: st).map (a_cv E ad))) (b := ad o.toNat) (As := [a_cv E ad v1, a_cv E ad v2]) (rest := st.map (a_cv E ad)) ⟨B.1, B.2.1, B.2.2.2.1, B.2.2.2.2.1, fun w hw => B.2.2.2.2.2.1 w hw⟩ (hm hvs ad) (⟨callB_of 2 (fun w hw => B.2.2.2.2.2.1 w hw) (a_good P' hcb.1) rfl rfl rfl (B.2.2.2.2.2.1 _ hcb.2.1) (B.2.2.2.2.2.1 _ hk.2.1) hcb.2.2 hR, B.2.2.2.2.2.1 _ hk.2.2.1, B.2.2.2.2.2.1 _ hk.2.2.2⟩) ⟨hpre.1, hrv, fun U hU hW => by have z := hpre.2 U hU hW; rw [show ([(2, o), v1, v2].map (a_cv E ad)) = Value.ref (ad o.toNat) :: [a_cv E ad v1, a_cv E ad v2] from by rw [← a_cv_in o1]; rfl] at z ⊢; exact z⟩ rfl rfl hsz (by rw [← a_cv_in o1]; rfl) hmon hd hC
  exact a_afterN B x hS9 hl hst h2 run hC k1 k2
theorem x_callV3N {P' : aP} {Q' : aQ} {i : Nat} {v1 v2 v3 : aV} {o : Int} {ci : Nat} {n9 : Int} {r9 : Int → Int} (hd : decode P.2.1 pc = .ok (.invokevirtual i, 3)) (hk : a_kV P.1.cls i P' 3) (hm : aMt l E P' [(2, o), v1, v2, v3] N S M Q') (hS : S o = (ci, n9, r9)) (hcl : (vwCl[ci]?).map (fun q => q.1) = some P'.1.cls) (hr : a_rm P P' kc ks = true) (hlen : a_len st ≤ 8)
    (k1 : ∀ (r : Option aV) (N' : Nat) (S' : aS) (M' : aM), Q' (.inl r) N' S' M' → a_ex N N' S S' → aX l E P Q (kc + P'.2.2.2.2.1.cells) (ks + P'.2.2.2.2.1.slots) N' S' M' (pc + 3) lo (r.toList ++ st))
    (k2 : ∀ (x9 N' : Nat) (S' : aS) (M' : aM), ¬ Q' (.inr x9) N' S' M') : aX l E P Q kc ks N S M pc lo (v3 :: v2 :: v1 :: (2, o) :: st) := by
  intro p e s m args below meth c H locs ls ad0 ad N0 S0 B w x hS9 hl h1 h2
  obtain ⟨hR, hC⟩ := a_rm_spec hr
  have hst : ∀ v ∈ st, a_vok N v := fun v hv => h1 v (by simp [hv])
  have hvs : ∀ v ∈ ([(2, o), v1, v2, v3] : List aV), a_vok N v := fun v hv => h1 v (by simp at hv ⊢; rcases hv with rfl | rfl | rfl | rfl <;> simp)
  have hsz : ls.size = P.2.2.1 := hl.1
  have hmon : 2 * (F0 m pc ls ([] : List Value)).monitorRoom + ((st.map (a_cv E ad)).map fun v => v.category).sum ≤ 8 := lv_room (by rw [a_len_sum]; exact hlen)
  have hcb := hk.1
  obtain ⟨o1, hrv⟩ := a_recv B w hS hcl
  have hpre := a_pre (vs := [(2, o), v1, v2, v3]) B w hS9
  have run := vx_runV (R := P.2.2.2.2.1) (e := e) (args := args) (below := below) (meth := meth) (locs := locs) (cells := kc) (slots := ks) (g := F0 m pc ls ((v3 :: v2 :: v1 :: (2, o) :: st).map (a_cv E ad))) (b := ad o.toNat) (As := [a_cv E ad v1, a_cv E ad v2, a_cv E ad v3]) (rest := st.map (a_cv E ad)) ⟨B.1, B.2.1, B.2.2.2.1, B.2.2.2.2.1, fun w hw => B.2.2.2.2.2.1 w hw⟩ (hm hvs ad) (⟨callB_of 3 (fun w hw => B.2.2.2.2.2.1 w hw) (a_good P' hcb.1) rfl rfl rfl (B.2.2.2.2.2.1 _ hcb.2.1) (B.2.2.2.2.2.1 _ hk.2.1) hcb.2.2 hR, B.2.2.2.2.2.1 _ hk.2.2.1, B.2.2.2.2.2.1 _ hk.2.2.2⟩) ⟨hpre.1, hrv, fun U hU hW => by have z := hpre.2 U hU hW; rw [show ([(2, o), v1, v2, v3].map (a_cv E ad)) = Value.ref (ad o.toNat) :: [a_cv E ad v1, a_cv E ad v2, a_cv E ad v3] from by rw [← a_cv_in o1]; rfl] at z ⊢; exact z⟩ rfl rfl hsz (by rw [← a_cv_in o1]; rfl) hmon hd hC
  exact a_afterN B x hS9 hl hst h2 run hC k1 k2
theorem x_callV4N {P' : aP} {Q' : aQ} {i : Nat} {v1 v2 v3 v4 : aV} {o : Int} {ci : Nat} {n9 : Int} {r9 : Int → Int} (hd : decode P.2.1 pc = .ok (.invokevirtual i, 3)) (hk : a_kV P.1.cls i P' 4) (hm : aMt l E P' [(2, o), v1, v2, v3, v4] N S M Q') (hS : S o = (ci, n9, r9)) (hcl : (vwCl[ci]?).map (fun q => q.1) = some P'.1.cls) (hr : a_rm P P' kc ks = true) (hlen : a_len st ≤ 8)
    (k1 : ∀ (r : Option aV) (N' : Nat) (S' : aS) (M' : aM), Q' (.inl r) N' S' M' → a_ex N N' S S' → aX l E P Q (kc + P'.2.2.2.2.1.cells) (ks + P'.2.2.2.2.1.slots) N' S' M' (pc + 3) lo (r.toList ++ st))
    (k2 : ∀ (x9 N' : Nat) (S' : aS) (M' : aM), ¬ Q' (.inr x9) N' S' M') : aX l E P Q kc ks N S M pc lo (v4 :: v3 :: v2 :: v1 :: (2, o) :: st) := by
  intro p e s m args below meth c H locs ls ad0 ad N0 S0 B w x hS9 hl h1 h2
  obtain ⟨hR, hC⟩ := a_rm_spec hr
  have hst : ∀ v ∈ st, a_vok N v := fun v hv => h1 v (by simp [hv])
  have hvs : ∀ v ∈ ([(2, o), v1, v2, v3, v4] : List aV), a_vok N v := fun v hv => h1 v (by simp at hv ⊢; rcases hv with rfl | rfl | rfl | rfl | rfl <;> simp)
  have hsz : ls.size = P.2.2.1 := hl.1
  have hmon : 2 * (F0 m pc ls ([] : List Value)).monitorRoom + ((st.map (a_cv E ad)).map fun v => v.category).sum ≤ 8 := lv_room (by rw [a_len_sum]; exact hlen)
  have hcb := hk.1
  obtain ⟨o1, hrv⟩ := a_recv B w hS hcl
  have hpre := a_pre (vs := [(2, o), v1, v2, v3, v4]) B w hS9
  have run := vx_runV (R := P.2.2.2.2.1) (e := e) (args := args) (below := below) (meth := meth) (locs := locs) (cells := kc) (slots := ks) (g := F0 m pc ls ((v4 :: v3 :: v2 :: v1 :: (2, o) :: st).map (a_cv E ad))) (b := ad o.toNat) (As := [a_cv E ad v1, a_cv E ad v2, a_cv E ad v3, a_cv E ad v4]) (rest := st.map (a_cv E ad)) ⟨B.1, B.2.1, B.2.2.2.1, B.2.2.2.2.1, fun w hw => B.2.2.2.2.2.1 w hw⟩ (hm hvs ad) (⟨callB_of 4 (fun w hw => B.2.2.2.2.2.1 w hw) (a_good P' hcb.1) rfl rfl rfl (B.2.2.2.2.2.1 _ hcb.2.1) (B.2.2.2.2.2.1 _ hk.2.1) hcb.2.2 hR, B.2.2.2.2.2.1 _ hk.2.2.1, B.2.2.2.2.2.1 _ hk.2.2.2⟩) ⟨hpre.1, hrv, fun U hU hW => by have z := hpre.2 U hU hW; rw [show ([(2, o), v1, v2, v3, v4].map (a_cv E ad)) = Value.ref (ad o.toNat) :: [a_cv E ad v1, a_cv E ad v2, a_cv E ad v3, a_cv E ad v4] from by rw [← a_cv_in o1]; rfl] at z ⊢; exact z⟩ rfl rfl hsz (by rw [← a_cv_in o1]; rfl) hmon hd hC
  exact a_afterN B x hS9 hl hst h2 run hC k1 k2
theorem x_callV5N {P' : aP} {Q' : aQ} {i : Nat} {v1 v2 v3 v4 v5 : aV} {o : Int} {ci : Nat} {n9 : Int} {r9 : Int → Int} (hd : decode P.2.1 pc = .ok (.invokevirtual i, 3)) (hk : a_kV P.1.cls i P' 5) (hm : aMt l E P' [(2, o), v1, v2, v3, v4, v5] N S M Q') (hS : S o = (ci, n9, r9)) (hcl : (vwCl[ci]?).map (fun q => q.1) = some P'.1.cls) (hr : a_rm P P' kc ks = true) (hlen : a_len st ≤ 8)
    (k1 : ∀ (r : Option aV) (N' : Nat) (S' : aS) (M' : aM), Q' (.inl r) N' S' M' → a_ex N N' S S' → aX l E P Q (kc + P'.2.2.2.2.1.cells) (ks + P'.2.2.2.2.1.slots) N' S' M' (pc + 3) lo (r.toList ++ st))
    (k2 : ∀ (x9 N' : Nat) (S' : aS) (M' : aM), ¬ Q' (.inr x9) N' S' M') : aX l E P Q kc ks N S M pc lo (v5 :: v4 :: v3 :: v2 :: v1 :: (2, o) :: st) := by
  intro p e s m args below meth c H locs ls ad0 ad N0 S0 B w x hS9 hl h1 h2
  obtain ⟨hR, hC⟩ := a_rm_spec hr
  have hst : ∀ v ∈ st, a_vok N v := fun v hv => h1 v (by simp [hv])
  have hvs : ∀ v ∈ ([(2, o), v1, v2, v3, v4, v5] : List aV), a_vok N v := fun v hv => h1 v (by simp at hv ⊢; rcases hv with rfl | rfl | rfl | rfl | rfl | rfl <;> simp)
  have hsz : ls.size = P.2.2.1 := hl.1
  have hmon : 2 * (F0 m pc ls ([] : List Value)).monitorRoom + ((st.map (a_cv E ad)).map fun v => v.category).sum ≤ 8 := lv_room (by rw [a_len_sum]; exact hlen)
  have hcb := hk.1
  obtain ⟨o1, hrv⟩ := a_recv B w hS hcl
  have hpre := a_pre (vs := [(2, o), v1, v2, v3, v4, v5]) B w hS9
  have run := vx_runV (R := P.2.2.2.2.1) (e := e) (args := args) (below := below) (meth := meth) (locs := locs) (cells := kc) (slots := ks) (g := F0 m pc ls ((v5 :: v4 :: v3 :: v2 :: v1 :: (2, o) :: st).map (a_cv E ad))) (b := ad o.toNat) (As := [a_cv E ad v1, a_cv E ad v2, a_cv E ad v3, a_cv E ad v4, a_cv E ad v5]) (rest := st.map (a_cv E ad)) ⟨B.1, B.2.1, B.2.2.2.1, B.2.2.2.2.1, fun w hw => B.2.2.2.2.2.1 w hw⟩ (hm hvs ad) (⟨callB_of 5 (fun w hw => B.2.2.2.2.2.1 w hw) (a_good P' hcb.1) rfl rfl rfl (B.2.2.2.2.2.1 _ hcb.2.1) (B.2.2.2.2.2.1 _ hk.2.1) hcb.2.2 hR, B.2.2.2.2.2.1 _ hk.2.2.1, B.2.2.2.2.2.1 _ hk.2.2.2⟩) ⟨hpre.1, hrv, fun U hU hW => by have z := hpre.2 U hU hW; rw [show ([(2, o), v1, v2, v3, v4, v5].map (a_cv E ad)) = Value.ref (ad o.toNat) :: [a_cv E ad v1, a_cv E ad v2, a_cv E ad v3, a_cv E ad v4, a_cv E ad v5] from by rw [← a_cv_in o1]; rfl] at z ⊢; exact z⟩ rfl rfl hsz (by rw [← a_cv_in o1]; rfl) hmon hd hC
  exact a_afterN B x hS9 hl hst h2 run hC k1 k2
theorem x_callI0N {P' : aP} {Q' : aQ} {i : Nat} {o : Int} (hd : decode P.2.1 pc = .ok (.invokespecial i, 3)) (hk : a_kI P.1.cls i P' 0) (hm : aMt l E P' [(2, o)] N S M Q') (ho : 0 ≤ o) (hr : a_rm P P' kc ks = true) (hlen : a_len st ≤ 8)
    (k1 : ∀ (r : Option aV) (N' : Nat) (S' : aS) (M' : aM), Q' (.inl r) N' S' M' → a_ex N N' S S' → aX l E P Q (kc + P'.2.2.2.2.1.cells) (ks + P'.2.2.2.2.1.slots) N' S' M' (pc + 3) lo (r.toList ++ st))
    (k2 : ∀ (x9 N' : Nat) (S' : aS) (M' : aM), ¬ Q' (.inr x9) N' S' M') : aX l E P Q kc ks N S M pc lo ((2, o) :: st) := by
  intro p e s m args below meth c H locs ls ad0 ad N0 S0 B w x hS9 hl h1 h2
  obtain ⟨hR, hC⟩ := a_rm_spec hr
  have hst : ∀ v ∈ st, a_vok N v := fun v hv => h1 v (by simp [hv])
  have hvs : ∀ v ∈ ([(2, o)] : List aV), a_vok N v := fun v hv => h1 v (by simp at hv ⊢; rcases hv with rfl <;> simp)
  have hsz : ls.size = P.2.2.1 := hl.1
  have hmon : 2 * (F0 m pc ls ([] : List Value)).monitorRoom + ((st.map (a_cv E ad)).map fun v => v.category).sum ≤ 8 := lv_room (by rw [a_len_sum]; exact hlen)
  have hcb := hk.1
  have hpre := a_pre (vs := [(2, o)]) B w hS9
  have hm9 := hm hvs ad
  have hcw : Cond.code P'.1 P'.2.1 P'.2.2.1 P'.2.2.2.1 = Cond.code P'.1 P'.2.1 P'.2.2.1 none := by rw [hk.2.1]
  have hcode9 := hcb.1
  have hgd := a_good P' hcb.1
  rw [hcw] at hm9 hgd
  have run := vx_runI (R := P.2.2.2.2.1) (e := e) (args := args) (below := below) (meth := meth) (locs := locs) (cells := kc) (slots := ks) (g := F0 m pc ls (((2, o) :: st).map (a_cv E ad))) (b := ad o.toNat) (As := []) (rest := st.map (a_cv E ad)) ⟨B.1, B.2.1, B.2.2.2.1, B.2.2.2.2.1, fun w hw => B.2.2.2.2.2.1 w hw⟩ hm9 (⟨callB_of 0 (fun w hw => B.2.2.2.2.2.1 w hw) hgd rfl rfl rfl (B.2.2.2.2.2.1 _ hcb.2.1) (B.2.2.2.2.2.1 _ hk.2.2.2.1) hcb.2.2 hR, hk.2.2.1, B.2.2.2.2.2.1 _ hk.2.2.2.2⟩) ⟨hpre.1, fun U hU hW => by have z := hpre.2 U hU hW; rw [show ([(2, o)].map (a_cv E ad)) = Value.ref (ad o.toNat) :: [] from by rw [← a_cv_in ho]; rfl] at z ⊢; exact z⟩ rfl rfl hsz (by rw [← a_cv_in ho]; rfl) hmon hd hC
  exact a_afterN B x hS9 hl hst h2 run hC k1 k2
theorem x_callV1C {P' : aP} {Q' : aQ} {i : Nat} {v1 : aV} {o : Int} {ci : Nat} {n9 : Int} {r9 : Int → Int} (hd : decode P.2.1 pc = .ok (.invokevirtual i, 3)) (hL : P.1.cls = "CoalStreetLaw") (hcs : a_cts P.2.2.2.2.2 = true) (hri : P.2.2.2.1 = some .int) (hk : a_kV P.1.cls i P' 1) (hm : aMt l E P' [(2, o), v1] N S M Q') (hS : S o = (ci, n9, r9)) (hcl : (vwCl[ci]?).map (fun q => q.1) = some P'.1.cls) (hr : a_rm P P' kc ks = true) (hlen : a_len st ≤ 8)
    (k1 : ∀ (r : Option aV) (N' : Nat) (S' : aS) (M' : aM), Q' (.inl r) N' S' M' → a_ex N N' S S' → aX l E P Q (kc + P'.2.2.2.2.1.cells) (ks + P'.2.2.2.2.1.slots) N' S' M' (pc + 3) lo (r.toList ++ st))
    (k2 : ∀ (x9 N' : Nat) (S' : aS) (M' : aM), Q' (.inr x9) N' S' M' → a_ex N N' S S' → ∃ c : Int, a_hnd P pc x9 c ∧ Q (.inl (some (0, c))) N' S' M') : aX l E P Q kc ks N S M pc lo (v1 :: (2, o) :: st) := by
  intro p e s m args below meth c H locs ls ad0 ad N0 S0 B w x hS9 hl h1 h2
  obtain ⟨hR, hC⟩ := a_rm_spec hr
  have hst : ∀ v ∈ st, a_vok N v := fun v hv => h1 v (by simp [hv])
  have hvs : ∀ v ∈ ([(2, o), v1] : List aV), a_vok N v := fun v hv => h1 v (by simp at hv ⊢; rcases hv with rfl | rfl <;> simp)
  have hsz : ls.size = P.2.2.1 := hl.1
  have hmon : 2 * (F0 m pc ls ([] : List Value)).monitorRoom + ((st.map (a_cv E ad)).map fun v => v.category).sum ≤ 8 := lv_room (by rw [a_len_sum]; exact hlen)
  have hcb := hk.1
  obtain ⟨o1, hrv⟩ := a_recv B w hS hcl
  have hpre := a_pre (vs := [(2, o), v1]) B w hS9
  have run := vx_runV (R := P.2.2.2.2.1) (e := e) (args := args) (below := below) (meth := meth) (locs := locs) (cells := kc) (slots := ks) (g := F0 m pc ls ((v1 :: (2, o) :: st).map (a_cv E ad))) (b := ad o.toNat) (As := [a_cv E ad v1]) (rest := st.map (a_cv E ad)) ⟨B.1, B.2.1, B.2.2.2.1, B.2.2.2.2.1, fun w hw => B.2.2.2.2.2.1 w hw⟩ (hm hvs ad) (⟨callB_of 1 (fun w hw => B.2.2.2.2.2.1 w hw) (a_good P' hcb.1) rfl rfl rfl (B.2.2.2.2.2.1 _ hcb.2.1) (B.2.2.2.2.2.1 _ hk.2.1) hcb.2.2 hR, B.2.2.2.2.2.1 _ hk.2.2.1, B.2.2.2.2.2.1 _ hk.2.2.2⟩) ⟨hpre.1, hrv, fun U hU hW => by have z := hpre.2 U hU hW; rw [show ([(2, o), v1].map (a_cv E ad)) = Value.ref (ad o.toNat) :: [a_cv E ad v1] from by rw [← a_cv_in o1]; rfl] at z ⊢; exact z⟩ rfl rfl hsz (by rw [← a_cv_in o1]; rfl) hmon hd hC
  exact a_afterC hL hcs hri B x hS9 hl hst h2 run hC k1 k2
theorem x_callV2C {P' : aP} {Q' : aQ} {i : Nat} {v1 v2 : aV} {o : Int} {ci : Nat} {n9 : Int} {r9 : Int → Int} (hd : decode P.2.1 pc = .ok (.invokevirtual i, 3)) (hL : P.1.cls = "CoalStreetLaw") (hcs : a_cts P.2.2.2.2.2 = true) (hri : P.2.2.2.1 = some .int) (hk : a_kV P.1.cls i P' 2) (hm : aMt l E P' [(2, o), v1, v2] N S M Q') (hS : S o = (ci, n9, r9)) (hcl : (vwCl[ci]?).map (fun q => q.1) = some P'.1.cls) (hr : a_rm P P' kc ks = true) (hlen : a_len st ≤ 8)
    (k1 : ∀ (r : Option aV) (N' : Nat) (S' : aS) (M' : aM), Q' (.inl r) N' S' M' → a_ex N N' S S' → aX l E P Q (kc + P'.2.2.2.2.1.cells) (ks + P'.2.2.2.2.1.slots) N' S' M' (pc + 3) lo (r.toList ++ st))
    (k2 : ∀ (x9 N' : Nat) (S' : aS) (M' : aM), Q' (.inr x9) N' S' M' → a_ex N N' S S' → ∃ c : Int, a_hnd P pc x9 c ∧ Q (.inl (some (0, c))) N' S' M') : aX l E P Q kc ks N S M pc lo (v2 :: v1 :: (2, o) :: st) := by
  intro p e s m args below meth c H locs ls ad0 ad N0 S0 B w x hS9 hl h1 h2
  obtain ⟨hR, hC⟩ := a_rm_spec hr
  have hst : ∀ v ∈ st, a_vok N v := fun v hv => h1 v (by simp [hv])
  have hvs : ∀ v ∈ ([(2, o), v1, v2] : List aV), a_vok N v := fun v hv => h1 v (by simp at hv ⊢; rcases hv with rfl | rfl | rfl <;> simp)
  have hsz : ls.size = P.2.2.1 := hl.1
  have hmon : 2 * (F0 m pc ls ([] : List Value)).monitorRoom + ((st.map (a_cv E ad)).map fun v => v.category).sum ≤ 8 := lv_room (by rw [a_len_sum]; exact hlen)
  have hcb := hk.1
  obtain ⟨o1, hrv⟩ := a_recv B w hS hcl
  have hpre := a_pre (vs := [(2, o), v1, v2]) B w hS9
  have run := vx_runV (R := P.2.2.2.2.1) (e := e) (args := args) (below := below) (meth := meth) (locs := locs) (cells := kc) (slots := ks) (g := F0 m pc ls ((v2 :: v1 :: (2, o) :: st).map (a_cv E ad))) (b := ad o.toNat) (As := [a_cv E ad v1, a_cv E ad v2]) (rest := st.map (a_cv E ad)) ⟨B.1, B.2.1, B.2.2.2.1, B.2.2.2.2.1, fun w hw => B.2.2.2.2.2.1 w hw⟩ (hm hvs ad) (⟨callB_of 2 (fun w hw => B.2.2.2.2.2.1 w hw) (a_good P' hcb.1) rfl rfl rfl (B.2.2.2.2.2.1 _ hcb.2.1) (B.2.2.2.2.2.1 _ hk.2.1) hcb.2.2 hR, B.2.2.2.2.2.1 _ hk.2.2.1, B.2.2.2.2.2.1 _ hk.2.2.2⟩) ⟨hpre.1, hrv, fun U hU hW => by have z := hpre.2 U hU hW; rw [show ([(2, o), v1, v2].map (a_cv E ad)) = Value.ref (ad o.toNat) :: [a_cv E ad v1, a_cv E ad v2] from by rw [← a_cv_in o1]; rfl] at z ⊢; exact z⟩ rfl rfl hsz (by rw [← a_cv_in o1]; rfl) hmon hd hC
  exact a_afterC hL hcs hri B x hS9 hl hst h2 run hC k1 k2
theorem x_callV3C {P' : aP} {Q' : aQ} {i : Nat} {v1 v2 v3 : aV} {o : Int} {ci : Nat} {n9 : Int} {r9 : Int → Int} (hd : decode P.2.1 pc = .ok (.invokevirtual i, 3)) (hL : P.1.cls = "CoalStreetLaw") (hcs : a_cts P.2.2.2.2.2 = true) (hri : P.2.2.2.1 = some .int) (hk : a_kV P.1.cls i P' 3) (hm : aMt l E P' [(2, o), v1, v2, v3] N S M Q') (hS : S o = (ci, n9, r9)) (hcl : (vwCl[ci]?).map (fun q => q.1) = some P'.1.cls) (hr : a_rm P P' kc ks = true) (hlen : a_len st ≤ 8)
    (k1 : ∀ (r : Option aV) (N' : Nat) (S' : aS) (M' : aM), Q' (.inl r) N' S' M' → a_ex N N' S S' → aX l E P Q (kc + P'.2.2.2.2.1.cells) (ks + P'.2.2.2.2.1.slots) N' S' M' (pc + 3) lo (r.toList ++ st))
    (k2 : ∀ (x9 N' : Nat) (S' : aS) (M' : aM), Q' (.inr x9) N' S' M' → a_ex N N' S S' → ∃ c : Int, a_hnd P pc x9 c ∧ Q (.inl (some (0, c))) N' S' M') : aX l E P Q kc ks N S M pc lo (v3 :: v2 :: v1 :: (2, o) :: st) := by
  intro p e s m args below meth c H locs ls ad0 ad N0 S0 B w x hS9 hl h1 h2
  obtain ⟨hR, hC⟩ := a_rm_spec hr
  have hst : ∀ v ∈ st, a_vok N v := fun v hv => h1 v (by simp [hv])
  have hvs : ∀ v ∈ ([(2, o), v1, v2, v3] : List aV), a_vok N v := fun v hv => h1 v (by simp at hv ⊢; rcases hv with rfl | rfl | rfl | rfl <;> simp)
  have hsz : ls.size = P.2.2.1 := hl.1
  have hmon : 2 * (F0 m pc ls ([] : List Value)).monitorRoom + ((st.map (a_cv E ad)).map fun v => v.category).sum ≤ 8 := lv_room (by rw [a_len_sum]; exact hlen)
  have hcb := hk.1
  obtain ⟨o1, hrv⟩ := a_recv B w hS hcl
  have hpre := a_pre (vs := [(2, o), v1, v2, v3]) B w hS9
  have run := vx_runV (R := P.2.2.2.2.1) (e := e) (args := args) (below := below) (meth := meth) (locs := locs) (cells := kc) (slots := ks) (g := F0 m pc ls ((v3 :: v2 :: v1 :: (2, o) :: st).map (a_cv E ad))) (b := ad o.toNat) (As := [a_cv E ad v1, a_cv E ad v2, a_cv E ad v3]) (rest := st.map (a_cv E ad)) ⟨B.1, B.2.1, B.2.2.2.1, B.2.2.2.2.1, fun w hw => B.2.2.2.2.2.1 w hw⟩ (hm hvs ad) (⟨callB_of 3 (fun w hw => B.2.2.2.2.2.1 w hw) (a_good P' hcb.1) rfl rfl rfl (B.2.2.2.2.2.1 _ hcb.2.1) (B.2.2.2.2.2.1 _ hk.2.1) hcb.2.2 hR, B.2.2.2.2.2.1 _ hk.2.2.1, B.2.2.2.2.2.1 _ hk.2.2.2⟩) ⟨hpre.1, hrv, fun U hU hW => by have z := hpre.2 U hU hW; rw [show ([(2, o), v1, v2, v3].map (a_cv E ad)) = Value.ref (ad o.toNat) :: [a_cv E ad v1, a_cv E ad v2, a_cv E ad v3] from by rw [← a_cv_in o1]; rfl] at z ⊢; exact z⟩ rfl rfl hsz (by rw [← a_cv_in o1]; rfl) hmon hd hC
  exact a_afterC hL hcs hri B x hS9 hl hst h2 run hC k1 k2
theorem x_callV4C {P' : aP} {Q' : aQ} {i : Nat} {v1 v2 v3 v4 : aV} {o : Int} {ci : Nat} {n9 : Int} {r9 : Int → Int} (hd : decode P.2.1 pc = .ok (.invokevirtual i, 3)) (hL : P.1.cls = "CoalStreetLaw") (hcs : a_cts P.2.2.2.2.2 = true) (hri : P.2.2.2.1 = some .int) (hk : a_kV P.1.cls i P' 4) (hm : aMt l E P' [(2, o), v1, v2, v3, v4] N S M Q') (hS : S o = (ci, n9, r9)) (hcl : (vwCl[ci]?).map (fun q => q.1) = some P'.1.cls) (hr : a_rm P P' kc ks = true) (hlen : a_len st ≤ 8)
    (k1 : ∀ (r : Option aV) (N' : Nat) (S' : aS) (M' : aM), Q' (.inl r) N' S' M' → a_ex N N' S S' → aX l E P Q (kc + P'.2.2.2.2.1.cells) (ks + P'.2.2.2.2.1.slots) N' S' M' (pc + 3) lo (r.toList ++ st))
    (k2 : ∀ (x9 N' : Nat) (S' : aS) (M' : aM), Q' (.inr x9) N' S' M' → a_ex N N' S S' → ∃ c : Int, a_hnd P pc x9 c ∧ Q (.inl (some (0, c))) N' S' M') : aX l E P Q kc ks N S M pc lo (v4 :: v3 :: v2 :: v1 :: (2, o) :: st) := by
  intro p e s m args below meth c H locs ls ad0 ad N0 S0 B w x hS9 hl h1 h2
  obtain ⟨hR, hC⟩ := a_rm_spec hr
  have hst : ∀ v ∈ st, a_vok N v := fun v hv => h1 v (by simp [hv])
  have hvs : ∀ v ∈ ([(2, o), v1, v2, v3, v4] : List aV), a_vok N v := fun v hv => h1 v (by simp at hv ⊢; rcases hv with rfl | rfl | rfl | rfl | rfl <;> simp)
  have hsz : ls.size = P.2.2.1 := hl.1
  have hmon : 2 * (F0 m pc ls ([] : List Value)).monitorRoom + ((st.map (a_cv E ad)).map fun v => v.category).sum ≤ 8 := lv_room (by rw [a_len_sum]; exact hlen)
  have hcb := hk.1
  obtain ⟨o1, hrv⟩ := a_recv B w hS hcl
  have hpre := a_pre (vs := [(2, o), v1, v2, v3, v4]) B w hS9
  have run := vx_runV (R := P.2.2.2.2.1) (e := e) (args := args) (below := below) (meth := meth) (locs := locs) (cells := kc) (slots := ks) (g := F0 m pc ls ((v4 :: v3 :: v2 :: v1 :: (2, o) :: st).map (a_cv E ad))) (b := ad o.toNat) (As := [a_cv E ad v1, a_cv E ad v2, a_cv E ad v3, a_cv E ad v4]) (rest := st.map (a_cv E ad)) ⟨B.1, B.2.1, B.2.2.2.1, B.2.2.2.2.1, fun w hw => B.2.2.2.2.2.1 w hw⟩ (hm hvs ad) (⟨callB_of 4 (fun w hw => B.2.2.2.2.2.1 w hw) (a_good P' hcb.1) rfl rfl rfl (B.2.2.2.2.2.1 _ hcb.2.1) (B.2.2.2.2.2.1 _ hk.2.1) hcb.2.2 hR, B.2.2.2.2.2.1 _ hk.2.2.1, B.2.2.2.2.2.1 _ hk.2.2.2⟩) ⟨hpre.1, hrv, fun U hU hW => by have z := hpre.2 U hU hW; rw [show ([(2, o), v1, v2, v3, v4].map (a_cv E ad)) = Value.ref (ad o.toNat) :: [a_cv E ad v1, a_cv E ad v2, a_cv E ad v3, a_cv E ad v4] from by rw [← a_cv_in o1]; rfl] at z ⊢; exact z⟩ rfl rfl hsz (by rw [← a_cv_in o1]; rfl) hmon hd hC
  exact a_afterC hL hcs hri B x hS9 hl hst h2 run hC k1 k2
theorem x_callS2H {P' : aP} {Q' : aQ} {i : Nat} {v1 v2 : aV} (hd : decode P.2.1 pc = .ok (.invokestatic i, 3)) (hk : a_kSH P.1.cls i P' 2) (hm : aMtH l E P' [v1, v2] N S M Q') (hr : a_rm P P' kc ks = true) (hlen : a_len st ≤ 8)
    (k1 : ∀ (r : Option aV) (N' : Nat) (S' : aS) (M' : aM), Q' (.inl r) N' S' M' → a_ex N N' S S' → aX l E P Q (kc + P'.2.2.2.2.1.cells) (ks + P'.2.2.2.2.1.slots) N' S' M' (pc + 3) lo (r.toList ++ st))
    (k2 : ∀ (x9 N' : Nat) (S' : aS) (M' : aM), ¬ Q' (.inr x9) N' S' M') : aX l E P Q kc ks N S M pc lo (v2 :: v1 :: st) := by
  intro p e s m args below meth c H locs ls ad0 ad N0 S0 B w x hS9 hl h1 h2
  obtain ⟨hR, hC⟩ := a_rm_spec hr
  have hst : ∀ v ∈ st, a_vok N v := fun v hv => h1 v (by simp [hv])
  have hvs : ∀ v ∈ ([v1, v2] : List aV), a_vok N v := fun v hv => h1 v (by simp at hv ⊢; rcases hv with rfl | rfl <;> simp)
  have hsz : ls.size = P.2.2.1 := hl.1
  have hmon : 2 * (F0 m pc ls ([] : List Value)).monitorRoom + ((st.map (a_cv E ad)).map fun v => v.category).sum ≤ 8 := lv_room (by rw [a_len_sum]; exact hlen)
  have run := vx_runSX (R := P.2.2.2.2.1) (e := e) (args := args) (below := below) (meth := meth) (locs := locs) (cells := kc) (slots := ks) (g := F0 m pc ls ((v2 :: v1 :: st).map (a_cv E ad))) (As := [a_cv E ad v1, a_cv E ad v2]) (rest := st.map (a_cv E ad)) ⟨B.1, B.2.1, B.2.2.2.1, B.2.2.2.2.1, fun w hw => B.2.2.2.2.2.1 w hw⟩ (hm hvs ad) (a_csw hk B hR) (a_pre (vs := [v1, v2]) B w hS9) rfl rfl hsz rfl hmon hd hC
  exact a_afterN B x hS9 hl hst h2 run hC k1 k2
theorem x_callS3H {P' : aP} {Q' : aQ} {i : Nat} {v1 v2 v3 : aV} (hd : decode P.2.1 pc = .ok (.invokestatic i, 3)) (hk : a_kSH P.1.cls i P' 3) (hm : aMtH l E P' [v1, v2, v3] N S M Q') (hr : a_rm P P' kc ks = true) (hlen : a_len st ≤ 8)
    (k1 : ∀ (r : Option aV) (N' : Nat) (S' : aS) (M' : aM), Q' (.inl r) N' S' M' → a_ex N N' S S' → aX l E P Q (kc + P'.2.2.2.2.1.cells) (ks + P'.2.2.2.2.1.slots) N' S' M' (pc + 3) lo (r.toList ++ st))
    (k2 : ∀ (x9 N' : Nat) (S' : aS) (M' : aM), ¬ Q' (.inr x9) N' S' M') : aX l E P Q kc ks N S M pc lo (v3 :: v2 :: v1 :: st) := by
  intro p e s m args below meth c H locs ls ad0 ad N0 S0 B w x hS9 hl h1 h2
  obtain ⟨hR, hC⟩ := a_rm_spec hr
  have hst : ∀ v ∈ st, a_vok N v := fun v hv => h1 v (by simp [hv])
  have hvs : ∀ v ∈ ([v1, v2, v3] : List aV), a_vok N v := fun v hv => h1 v (by simp at hv ⊢; rcases hv with rfl | rfl | rfl <;> simp)
  have hsz : ls.size = P.2.2.1 := hl.1
  have hmon : 2 * (F0 m pc ls ([] : List Value)).monitorRoom + ((st.map (a_cv E ad)).map fun v => v.category).sum ≤ 8 := lv_room (by rw [a_len_sum]; exact hlen)
  have run := vx_runSX (R := P.2.2.2.2.1) (e := e) (args := args) (below := below) (meth := meth) (locs := locs) (cells := kc) (slots := ks) (g := F0 m pc ls ((v3 :: v2 :: v1 :: st).map (a_cv E ad))) (As := [a_cv E ad v1, a_cv E ad v2, a_cv E ad v3]) (rest := st.map (a_cv E ad)) ⟨B.1, B.2.1, B.2.2.2.1, B.2.2.2.2.1, fun w hw => B.2.2.2.2.2.1 w hw⟩ (hm hvs ad) (a_csw hk B hR) (a_pre (vs := [v1, v2, v3]) B w hS9) rfl rfl hsz rfl hmon hd hC
  exact a_afterN B x hS9 hl hst h2 run hC k1 k2
theorem x_callS4H {P' : aP} {Q' : aQ} {i : Nat} {v1 v2 v3 v4 : aV} (hd : decode P.2.1 pc = .ok (.invokestatic i, 3)) (hk : a_kSH P.1.cls i P' 4) (hm : aMtH l E P' [v1, v2, v3, v4] N S M Q') (hr : a_rm P P' kc ks = true) (hlen : a_len st ≤ 8)
    (k1 : ∀ (r : Option aV) (N' : Nat) (S' : aS) (M' : aM), Q' (.inl r) N' S' M' → a_ex N N' S S' → aX l E P Q (kc + P'.2.2.2.2.1.cells) (ks + P'.2.2.2.2.1.slots) N' S' M' (pc + 3) lo (r.toList ++ st))
    (k2 : ∀ (x9 N' : Nat) (S' : aS) (M' : aM), ¬ Q' (.inr x9) N' S' M') : aX l E P Q kc ks N S M pc lo (v4 :: v3 :: v2 :: v1 :: st) := by
  intro p e s m args below meth c H locs ls ad0 ad N0 S0 B w x hS9 hl h1 h2
  obtain ⟨hR, hC⟩ := a_rm_spec hr
  have hst : ∀ v ∈ st, a_vok N v := fun v hv => h1 v (by simp [hv])
  have hvs : ∀ v ∈ ([v1, v2, v3, v4] : List aV), a_vok N v := fun v hv => h1 v (by simp at hv ⊢; rcases hv with rfl | rfl | rfl | rfl <;> simp)
  have hsz : ls.size = P.2.2.1 := hl.1
  have hmon : 2 * (F0 m pc ls ([] : List Value)).monitorRoom + ((st.map (a_cv E ad)).map fun v => v.category).sum ≤ 8 := lv_room (by rw [a_len_sum]; exact hlen)
  have run := vx_runSX (R := P.2.2.2.2.1) (e := e) (args := args) (below := below) (meth := meth) (locs := locs) (cells := kc) (slots := ks) (g := F0 m pc ls ((v4 :: v3 :: v2 :: v1 :: st).map (a_cv E ad))) (As := [a_cv E ad v1, a_cv E ad v2, a_cv E ad v3, a_cv E ad v4]) (rest := st.map (a_cv E ad)) ⟨B.1, B.2.1, B.2.2.2.1, B.2.2.2.2.1, fun w hw => B.2.2.2.2.2.1 w hw⟩ (hm hvs ad) (a_csw hk B hR) (a_pre (vs := [v1, v2, v3, v4]) B w hS9) rfl rfl hsz rfl hmon hd hC
  exact a_afterN B x hS9 hl hst h2 run hC k1 k2
theorem x_callS5H {P' : aP} {Q' : aQ} {i : Nat} {v1 v2 v3 v4 v5 : aV} (hd : decode P.2.1 pc = .ok (.invokestatic i, 3)) (hk : a_kSH P.1.cls i P' 5) (hm : aMtH l E P' [v1, v2, v3, v4, v5] N S M Q') (hr : a_rm P P' kc ks = true) (hlen : a_len st ≤ 8)
    (k1 : ∀ (r : Option aV) (N' : Nat) (S' : aS) (M' : aM), Q' (.inl r) N' S' M' → a_ex N N' S S' → aX l E P Q (kc + P'.2.2.2.2.1.cells) (ks + P'.2.2.2.2.1.slots) N' S' M' (pc + 3) lo (r.toList ++ st))
    (k2 : ∀ (x9 N' : Nat) (S' : aS) (M' : aM), ¬ Q' (.inr x9) N' S' M') : aX l E P Q kc ks N S M pc lo (v5 :: v4 :: v3 :: v2 :: v1 :: st) := by
  intro p e s m args below meth c H locs ls ad0 ad N0 S0 B w x hS9 hl h1 h2
  obtain ⟨hR, hC⟩ := a_rm_spec hr
  have hst : ∀ v ∈ st, a_vok N v := fun v hv => h1 v (by simp [hv])
  have hvs : ∀ v ∈ ([v1, v2, v3, v4, v5] : List aV), a_vok N v := fun v hv => h1 v (by simp at hv ⊢; rcases hv with rfl | rfl | rfl | rfl | rfl <;> simp)
  have hsz : ls.size = P.2.2.1 := hl.1
  have hmon : 2 * (F0 m pc ls ([] : List Value)).monitorRoom + ((st.map (a_cv E ad)).map fun v => v.category).sum ≤ 8 := lv_room (by rw [a_len_sum]; exact hlen)
  have run := vx_runSX (R := P.2.2.2.2.1) (e := e) (args := args) (below := below) (meth := meth) (locs := locs) (cells := kc) (slots := ks) (g := F0 m pc ls ((v5 :: v4 :: v3 :: v2 :: v1 :: st).map (a_cv E ad))) (As := [a_cv E ad v1, a_cv E ad v2, a_cv E ad v3, a_cv E ad v4, a_cv E ad v5]) (rest := st.map (a_cv E ad)) ⟨B.1, B.2.1, B.2.2.2.1, B.2.2.2.2.1, fun w hw => B.2.2.2.2.2.1 w hw⟩ (hm hvs ad) (a_csw hk B hR) (a_pre (vs := [v1, v2, v3, v4, v5]) B w hS9) rfl rfl hsz rfl hmon hd hC
  exact a_afterN B x hS9 hl hst h2 run hC k1 k2
theorem x_callS6H {P' : aP} {Q' : aQ} {i : Nat} {v1 v2 v3 v4 v5 v6 : aV} (hd : decode P.2.1 pc = .ok (.invokestatic i, 3)) (hk : a_kSH P.1.cls i P' 6) (hm : aMtH l E P' [v1, v2, v3, v4, v5, v6] N S M Q') (hr : a_rm P P' kc ks = true) (hlen : a_len st ≤ 8)
    (k1 : ∀ (r : Option aV) (N' : Nat) (S' : aS) (M' : aM), Q' (.inl r) N' S' M' → a_ex N N' S S' → aX l E P Q (kc + P'.2.2.2.2.1.cells) (ks + P'.2.2.2.2.1.slots) N' S' M' (pc + 3) lo (r.toList ++ st))
    (k2 : ∀ (x9 N' : Nat) (S' : aS) (M' : aM), ¬ Q' (.inr x9) N' S' M') : aX l E P Q kc ks N S M pc lo (v6 :: v5 :: v4 :: v3 :: v2 :: v1 :: st) := by
  intro p e s m args below meth c H locs ls ad0 ad N0 S0 B w x hS9 hl h1 h2
  obtain ⟨hR, hC⟩ := a_rm_spec hr
  have hst : ∀ v ∈ st, a_vok N v := fun v hv => h1 v (by simp [hv])
  have hvs : ∀ v ∈ ([v1, v2, v3, v4, v5, v6] : List aV), a_vok N v := fun v hv => h1 v (by simp at hv ⊢; rcases hv with rfl | rfl | rfl | rfl | rfl | rfl <;> simp)
  have hsz : ls.size = P.2.2.1 := hl.1
  have hmon : 2 * (F0 m pc ls ([] : List Value)).monitorRoom + ((st.map (a_cv E ad)).map fun v => v.category).sum ≤ 8 := lv_room (by rw [a_len_sum]; exact hlen)
  have run := vx_runSX (R := P.2.2.2.2.1) (e := e) (args := args) (below := below) (meth := meth) (locs := locs) (cells := kc) (slots := ks) (g := F0 m pc ls ((v6 :: v5 :: v4 :: v3 :: v2 :: v1 :: st).map (a_cv E ad))) (As := [a_cv E ad v1, a_cv E ad v2, a_cv E ad v3, a_cv E ad v4, a_cv E ad v5, a_cv E ad v6]) (rest := st.map (a_cv E ad)) ⟨B.1, B.2.1, B.2.2.2.1, B.2.2.2.2.1, fun w hw => B.2.2.2.2.2.1 w hw⟩ (hm hvs ad) (a_csw hk B hR) (a_pre (vs := [v1, v2, v3, v4, v5, v6]) B w hS9) rfl rfl hsz rfl hmon hd hC
  exact a_afterN B x hS9 hl hst h2 run hC k1 k2
/-- the script: its length, and what it holds at i -/
def a_scr (E : aE) (i : Int) : Int := (a_sc E i.toNat).toInt
theorem a_scr_r (E : aE) (i : Int) : -2147483648 ≤ a_scr E i ∧ a_scr E i ≤ 2147483647 := a_r32 _
theorem x_slen (hd : decode P.2.1 pc = .ok (.arraylength, 1)) (kk : E.2.2.2 42 ≤ 3072 → aX l E P Q kc ks N S M (pc + 1) lo ((0, (E.2.2.2 42 : Int)) :: st)) : aX l E P Q kc ks N S M pc lo ((2, -43) :: st) := by
  intro p e s m args below meth c H locs ls ad0 ad N0 S0 B w9 x hS9 hl9 h1 h2
  have hk := B.2.2.2.2.2.2.2.2.1.2.2.2.2
  have h42 : E.2.2.2 42 ≤ 3072 := hk.2.2.2.1
  show W _ _ _ _ _ _ _ _ _ _ _ _ _ _ _ (F0 m pc ls (.ref (E.2.2.2 41) :: st.map (a_cv E ad)))
  refine va_tlen B.1 B.2.1 hk.1.2.2.2.2.2 hS9 (v := Int32.ofInt (E.2.2.2 42 : Int)) (by rw [← Int32.ofInt_eq_ofNat]) hd ?_
  exact kk h42 p e s m args below meth c H locs ls ad0 ad N0 S0 B w9 x hS9 hl9 (a_cons ⟨by show (-2147483648 : Int) ≤ (E.2.2.2 42 : Int); omega, by show (E.2.2.2 42 : Int) ≤ 2147483647; omega⟩ (a_tl h1)) h2
theorem x_sld {i : Int} (hd : decode P.2.1 pc = .ok (.iaload, 1)) (hi : 0 ≤ i ∧ i < (E.2.2.2 42 : Int)) (kk : aX l E P Q kc ks N S M (pc + 1) lo ((0, a_scr E i) :: st)) : aX l E P Q kc ks N S M pc lo ((0, i) :: (2, -43) :: st) := by
  intro p e s m args below meth c H locs ls ad0 ad N0 S0 B w9 x hS9 hl9 h1 h2
  have hk := B.2.2.2.2.2.2.2.2.1.2.2.2.2
  have hh := a_idx hi (a_hd h1)
  show W _ _ _ _ _ _ _ _ _ _ _ _ _ _ _ (F0 m pc ls (.int (Int32.ofInt i) :: .ref (E.2.2.2 41) :: st.map (a_cv E ad)))
  refine va_ti B.1 B.2.1 hk.1.2.2.2.2.2 hS9 (i := Int32.ofInt i) (by simpa using hh.1) (v := .int (Int32.ofInt (a_scr E i))) (by show Value.int (a_sc E (Int32.ofInt i).toNatClampNeg) = _; rw [hh.2]; exact congrArg Value.int (Int32.ofInt_toInt _).symm) hd ?_
  exact kk p e s m args below meth c H locs ls ad0 ad N0 S0 B w9 x hS9 hl9 (a_cons (a_scr_r E i) (a_tl (a_tl h1))) h2
end AX9
