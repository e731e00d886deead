/-! THE CLAIM: its start, and the skeleton's frame around it -/
theorem st_arr_byte {args : Array Value} {s : State} (hts : ∀ w ∈ lw_tbl, w.before args s = true) : ∃ cA : ClassId, ArrOfT s cA .byte ∧ va_RA s cA .byte := by
  obtain ⟨c, k, comp, h1, h2, h3⟩ := Cond.arrayClass_spec (show (Cond.arrayClass .byte).holds args s none s [] = true from (hts _ (List.mem_of_getElem? (i := 326) (by decide +kernel))))
  exact ⟨c, fun n z => ⟨fun k9 h => (by cases h), k, h2, comp, h3⟩, h1⟩
theorem st_arr_int {args : Array Value} {s : State} (hts : ∀ w ∈ lw_tbl, w.before args s = true) : ∃ cA : ClassId, ArrOfT s cA .int ∧ va_RA s cA .int := by
  obtain ⟨c, k, comp, h1, h2, h3⟩ := Cond.arrayClass_spec (show (Cond.arrayClass .int).holds args s none s [] = true from (hts _ (List.mem_of_getElem? (i := 226) (by decide +kernel))))
  exact ⟨c, fun n z => ⟨fun k9 h => (by cases h), k, h2, comp, h3⟩, h1⟩
theorem st_arr_long {args : Array Value} {s : State} (hts : ∀ w ∈ lw_tbl, w.before args s = true) : ∃ cA : ClassId, ArrOfT s cA .long ∧ va_RA s cA .long := by
  obtain ⟨c, k, comp, h1, h2, h3⟩ := Cond.arrayClass_spec (show (Cond.arrayClass .long).holds args s none s [] = true from (hts _ (List.mem_of_getElem? (i := 469) (by decide +kernel))))
  exact ⟨c, fun n z => ⟨fun k9 h => (by cases h), k, h2, comp, h3⟩, h1⟩
theorem st_arr_boolean {args : Array Value} {s : State} (hts : ∀ w ∈ lw_tbl, w.before args s = true) : ∃ cA : ClassId, ArrOfT s cA .boolean ∧ va_RA s cA .boolean := by
  obtain ⟨c, k, comp, h1, h2, h3⟩ := Cond.arrayClass_spec (show (Cond.arrayClass .boolean).holds args s none s [] = true from (hts _ (List.mem_of_getElem? (i := 470) (by decide +kernel))))
  exact ⟨c, fun n z => ⟨fun k9 h => (by cases h), k, h2, comp, h3⟩, h1⟩
theorem st_arr_S {args : Array Value} {s : State} (hts : ∀ w ∈ lw_tbl, w.before args s = true) : ∃ cA : ClassId, ArrOfT s cA (.object "CoalStreet$Street") ∧ va_RA s cA (.object "CoalStreet$Street") := by
  obtain ⟨comp, c, k, h1, h2, h3, h4, h5⟩ := Cond.arrayOver_spec (show (Cond.arrayOver (.object "CoalStreet$Street")).holds args s none s [] = true from (hts _ (List.mem_of_getElem? (i := 278) (by decide +kernel))))
  exact ⟨c, fun n z => ⟨fun k9 h => (by cases h), k, h3, comp, h4⟩, k, comp, h3, h4, h1, h5⟩
theorem st_arr_J {args : Array Value} {s : State} (hts : ∀ w ∈ lw_tbl, w.before args s = true) : ∃ cA : ClassId, ArrOfT s cA (.array .long) ∧ va_RA s cA (.array .long) := by
  obtain ⟨comp, c, k, h1, h2, h3, h4, h5⟩ := arrayOver_specB (show (Cond.arrayOver (.array .long)).holds args s none s [] = true from (hts _ (List.mem_of_getElem? (i := 429) (by decide +kernel))))
  exact ⟨c, fun n z => ⟨fun k9 h => (by cases h), k, h3, comp, h4⟩, h5⟩
theorem st_K {args : Array Value} {s : State} (hts : ∀ w ∈ lw_tbl, w.before args s = true) : ∃ (D : va_G) (ty : Nat → ClassId), ∀ (n : Nat) (cn : Nat → Nat), va_K D vwCl (a_tys (D, ty, n, cn)) s := by
  obtain ⟨c0, i0, k0⟩ := u_known (C := RX0) (T := TX0) (N := 4) (n := 4) hts (show ∀ w ∈ u_ws RX0 TX0 4, w ∈ lw_tbl by decide +kernel) (hts _ (List.mem_of_getElem? (i := 472) (by decide +kernel)))
  obtain ⟨c1, i1, k1⟩ := u_known (C := RX1) (T := TX1) (N := 6) (n := 6) hts (show ∀ w ∈ u_ws RX1 TX1 6, w ∈ lw_tbl by decide +kernel) (hts _ (List.mem_of_getElem? (i := 385) (by decide +kernel)))
  obtain ⟨c2, i2, k2⟩ := u_known (C := RX2) (T := TX2) (N := 12) (n := 12) hts (show ∀ w ∈ u_ws RX2 TX2 12, w ∈ lw_tbl by decide +kernel) (hts _ (List.mem_of_getElem? (i := 423) (by decide +kernel)))
  obtain ⟨c3, i3, k3⟩ := u_known (C := RX3) (T := TX3) (N := 6) (n := 6) hts (show ∀ w ∈ u_ws RX3 TX3 6, w ∈ lw_tbl by decide +kernel) (hts _ (List.mem_of_getElem? (i := 356) (by decide +kernel)))
  obtain ⟨c4, i4, k4⟩ := u_known (C := RX4) (T := TX4) (N := 6) (n := 6) hts (show ∀ w ∈ u_ws RX4 TX4 6, w ∈ lw_tbl by decide +kernel) (hts _ (List.mem_of_getElem? (i := 328) (by decide +kernel)))
  obtain ⟨c5, i5, k5⟩ := u_known (C := RX5) (T := TX5) (N := 11) (n := 11) hts (show ∀ w ∈ u_ws RX5 TX5 11, w ∈ lw_tbl by decide +kernel) (hts _ (List.mem_of_getElem? (i := 280) (by decide +kernel)))
  obtain ⟨c6, i6, k6⟩ := u_known (C := RX6) (T := TX6) (N := 12) (n := 12) hts (show ∀ w ∈ u_ws RX6 TX6 12, w ∈ lw_tbl by decide +kernel) (hts _ (List.mem_of_getElem? (i := 492) (by decide +kernel)))
  obtain ⟨c7, i7, k7⟩ := u_known (C := RX7) (T := TX7) (N := 11) (n := 11) hts (show ∀ w ∈ u_ws RX7 TX7 11, w ∈ lw_tbl by decide +kernel) (hts _ (List.mem_of_getElem? (i := 148) (by decide +kernel)))
  obtain ⟨c8, i8, k8⟩ := u_known (C := RX8) (T := TX8) (N := 13) (n := 13) hts (show ∀ w ∈ u_ws RX8 TX8 13, w ∈ lw_tbl by decide +kernel) (hts _ (List.mem_of_getElem? (i := 154) (by decide +kernel)))
  obtain ⟨c9, i9, k9⟩ := u_known (C := RX9) (T := TX9) (N := 4) (n := 4) hts (show ∀ w ∈ u_ws RX9 TX9 4, w ∈ lw_tbl by decide +kernel) (hts _ (List.mem_of_getElem? (i := 547) (by decide +kernel)))
  obtain ⟨c10, i10, k10⟩ := u_known (C := RX11) (T := TX11) (N := 12) (n := 12) hts (show ∀ w ∈ u_ws RX11 TX11 12, w ∈ lw_tbl by decide +kernel) (hts _ (List.mem_of_getElem? (i := 140) (by decide +kernel)))
  obtain ⟨c11, i11, k11⟩ := u_known (C := RX12) (T := TX12) (N := 52) (n := 52) hts (show ∀ w ∈ u_ws RX12 TX12 52, w ∈ lw_tbl by decide +kernel) (hts _ (List.mem_of_getElem? (i := 1535) (by decide +kernel)))
  obtain ⟨b12, g12⟩ := st_arr_byte hts
  obtain ⟨b13, g13⟩ := st_arr_int hts
  obtain ⟨b14, g14⟩ := st_arr_long hts
  obtain ⟨b15, g15⟩ := st_arr_boolean hts
  obtain ⟨b16, g16⟩ := st_arr_S hts
  obtain ⟨b17, g17⟩ := st_arr_J hts
  refine ⟨(fun k => if k = 0 then c0 else if k = 1 then c1 else if k = 2 then c2 else if k = 3 then c3 else if k = 4 then c4 else if k = 5 then c5 else if k = 6 then c6 else if k = 7 then c7 else if k = 8 then c8 else if k = 9 then c9 else if k = 10 then c10 else c11, fun k => if k = 0 then i0 else if k = 1 then i1 else if k = 2 then i2 else if k = 3 then i3 else if k = 4 then i4 else if k = 5 then i5 else if k = 6 then i6 else if k = 7 then i7 else if k = 8 then i8 else if k = 9 then i9 else if k = 10 then i10 else i11), fun k => if k = 12 then b12 else if k = 13 then b13 else if k = 14 then b14 else if k = 15 then b15 else if k = 16 then b16 else b17, fun n cn => ⟨fun k q hq => ?_, fun k q hq => ?_⟩⟩
  · match k, hq with
    | 0, hq => cases hq; exact k0
    | 1, hq => cases hq; exact k1
    | 2, hq => cases hq; exact k2
    | 3, hq => cases hq; exact k3
    | 4, hq => cases hq; exact k4
    | 5, hq => cases hq; exact k5
    | 6, hq => cases hq; exact k6
    | 7, hq => cases hq; exact k7
    | 8, hq => cases hq; exact k8
    | 9, hq => cases hq; exact k9
    | 10, hq => cases hq; exact k10
    | 11, hq => cases hq; exact k11
    | k + 12, hq => simp [vwCl] at hq
  · match k, hq with
    | 0, hq => cases hq; exact g12
    | 1, hq => cases hq; exact g13
    | 2, hq => cases hq; exact g14
    | 3, hq => cases hq; exact g15
    | 4, hq => cases hq; exact g16
    | 5, hq => cases hq; exact g17
    | k + 6, hq => simp [a_tys] at hq
theorem st_st {args : Array Value} {s : State} (hts : ∀ w ∈ lw_tbl, w.before args s = true) (hg : ∀ c ∈ gvL, c.before args s = true) {D : va_G} {ty : Nat → ClassId} {cn : Nat → Nat} (hL9 : ∀ a : Nat, a < s.heap.size → ¬ s.heap.size ≤ a) (hk : a_k (D, ty, s.heap.size, cn) s s.heap) : a_st (D, ty, s.heap.size, cn) s s.heap := by
  refine ⟨fun w hw => va_Nw.of (A := args) (a_nestT (a_nest_in hw)) (hts w (List.mem_filter.mp hw).1), vx_Zqof (args := args) (hts _ (List.mem_of_getElem? (i := 675) (by decide +kernel))) (hts _ (List.mem_of_getElem? (i := 124) (by decide +kernel))) (hg _ (List.mem_of_getElem? (i := 4) (by decide +kernel))) hL9, vx_Zqof (args := args) (hts _ (List.mem_of_getElem? (i := 677) (by decide +kernel))) (hts _ (List.mem_of_getElem? (i := 124) (by decide +kernel))) (hg _ (List.mem_of_getElem? (i := 5) (by decide +kernel))) hL9, ⟨va_AO.of (A := args) (hts _ (List.mem_of_getElem? (i := 278) (by decide +kernel))), ?_⟩, hk⟩
  exact (show (Cond.arrayOver (.array .long)).before args s = true from (hts _ (List.mem_of_getElem? (i := 429) (by decide +kernel))))
/-! THE CLAIM OUT OF ONE WALK OF THE LAW'S BODY. Your part is whole_start (and what it stands on); all else here is the same for every law, but numbers. -/
def R_law : String := "CoalStreetLaw"
def lw_P (b : Addr) (xs : List Int32) (args : Array Value) (s : State) : Prop := args = #[.ref b] ∧ s.IntsAt b xs ∧ xs.length ≤ 3072 ∧ (Jvm.Cond.and given_1 narrow_1).before args s = true
def lw_Q (_ : Array Value) (s : State) (o : Outcome) (t : State) : Prop := o = .returned (some (.int 1)) ∧ Framed s o t [] 601024 7293034
def lw_Z (below : List Frame) (a : Array Value) (s : State) : State → Prop := fun t => ∃ o, t.status = .running ∧ Ended t below o ∧ lw_Q a s o t
/-- the law's own end, with 1 on the stack, nothing written that was there before, its room as the claim has it -/
theorem lw_ret {p : Program} {l : Launch} {e : Env} {s : State} {m : MethodId} {below : List Frame} {meth : Method} {c : Code} {b : Nat} (hx : p.tables.exec = Jvm.exec) (hb : c.code = code) (hr : meth.sig.returnType = ret) (hlocks : meth.locks = false) {pc : Nat} {H : Heap} {ls : Array Slot} (hdg : decode code pc = .ok (.ireturn, 1)) : W p l e room_1 s m #[Value.ref b] below meth c H [] 601024 7293034 (lw_Z below #[Value.ref b] s) (F0 m pc ls [.int 1]) := by
  intro T hT X
  obtain ⟨fs, hret, hrun, hended, hW, hframe⟩ := X.leave (v := some (.int 1)) (hlocks := hlocks) (fun h => by rw [hr] at h; cases h)
  have hmeth' : T.vm.method? m = some meth := X.method'
  refine ⟨T.setFrames fs, ?_, .returned (some (.int 1)), hrun, hended, rfl, ⟨_, rfl⟩, hW, hframe⟩
  jvm_step X.here [X.here.top, hx, hb, hdg, hmeth', hr, ret, narrow_b1]
  (try refine ⟨rfl, ?_⟩); (try refine ⟨rfl, ?_⟩)
  first | (intro acts; rw [hret _ acts rfl rfl rfl]) | rw [hret _ _ rfl rfl rfl]
  exact Steps.refl _
/-- what holds at the law's entry: the machine, the code, the tables' words (any of lw_tbl by 'hts w (by decide +kernel)'), the script of L ints xs at the cell b, what the Statement gives of the start (any of its parts by flat_of_before) -/
def lw_At (p : Program) (s : State) (m : MethodId) (meth : Method) (c : Code) (b L : Nat) (xs : Nat → Int32) : Prop :=
  p.tables.exec = Jvm.exec ∧ c.code = code ∧ meth.sig.returnType = ret ∧ c.maxLocals = 8 ∧ s.vm.findClass R_law = some m.cls ∧ (∀ w ∈ lw_tbl, w.before #[Value.ref b] s = true) ∧ va_X b L xs s s.heap ∧ b < s.heap.size ∧ meth.locks = false ∧ (Jvm.Cond.and given_1 narrow_1).before #[Value.ref b] s = true
theorem whole_start {p : Program} {e : Env} {s : State} {m : MethodId} {below : List Frame} {meth : Method} {c : Code} (l : Launch) (hflags : l.flags = flags0) {b L : Nat} {xs : Nat → Int32} (hL : L ≤ 3072) (C0 : lw_At p s m meth c b L xs) : W p l e room_1 s m #[Value.ref b] below meth c s.heap [] 0 0 (lw_Z below #[Value.ref b] s) (entryFrame m ([Value.ref b] : List Value).toArray 8) := by
  obtain ⟨hx, hb, hr, hml, hown, hts, hX, hbl, hlocks, hgv⟩ := id C0
  have hg : ∀ c ∈ gvL, c.before #[Value.ref b] s = true := flat_of_before _ hgv
  have hfl : l.stackTraces = false := by
    unfold Launch.stackTraces
    rw [hflags]
    decide +kernel
  have hL9 : ∀ a : Nat, a < s.heap.size → ¬ s.heap.size ≤ a := fun a h => Nat.not_le.mpr h
  obtain ⟨cn, hc41, hk⟩ := st_k hts hg hL9 hL hX hbl
  obtain ⟨D, ty, hK⟩ := st_K hts
  have hst := st_st hts hg hL9 (hk D ty)
  have hl := lv_entry ([.ref b]) (n := 8) (Nat.le_of_ble_eq_true rfl)
  rw [lg_entry_eq]
  generalize (lg_sl ([.ref b]) ++ List.replicate (8 - (lg_sl ([.ref b])).length) Slot.unset).toArray = ls at hl ⊢
  have hl : lv_has ls 8 [(0, .ref b)] := hl
  have hcv : a_cv (D, ty, s.heap.size, cn) (fun _ => 0) (2, -43) = .ref b := by
    rw [← hc41]; exact a_cvk (E := (D, ty, s.heap.size, cn)) (k := 41) (by decide)
  have hlo : lv_has ls 8 (a_lo (D, ty, s.heap.size, cn) (fun _ => 0) [(0, (2, -43))]) := by
    show lv_has ls 8 [(0, a_cv (D, ty, s.heap.size, cn) (fun _ => 0) (2, -43))]
    rw [hcv]; exact hl
  have hB : a_B l (D, ty, s.heap.size, cn) (pL_law (c.exceptionTable.toList.map fun h => (h.startPc, h.endPc, h.handlerPc, h.catchType))) p s m #[Value.ref b] meth c :=
    ⟨hx, hb, hr, hml, hown, fun w hw => hts w (List.mem_filter.mp hw).1, hlocks, hK s.heap.size cn, hst, (table_eq _).symm, fun h => absurd (show "law" = "<init>" from h) (by decide), hfl, Nat.le_refl _⟩
  have hw : a_w (D, ty, s.heap.size, cn) (fun _ => 0) 0 (fun _ => (99, 0, fun _ => -1)) (fun _ _ => 0) s.heap :=
    ⟨fun k q h => by simp [a_ws] at h, ⟨fun i j p q h => by simp [a_ws] at h, fun k q h => by simp [a_ws] at h⟩, fun a j => by split <;> exact ⟨by show _ ≤ (0 : Int); decide, by show (0 : Int) ≤ _; decide⟩, fun i _ => rfl, fun a j => by show (-1 : Int) < 0; decide, fun a j h => by cases h⟩
  have key := law_start (l := l) (E := (D, ty, s.heap.size, cn)) (hh := c.exceptionTable.toList.map fun h => (h.startPc, h.endPc, h.handlerPc, h.catchType)) hfl p e s m #[Value.ref b] below meth c s.heap [] ls (fun _ => 0) (fun _ => 0) 0 (fun _ => (99, 0, fun _ => -1)) hB hw ⟨Nat.le_refl _, fun i hi => ⟨rfl, rfl⟩⟩ va_S.rf hlo (fun v hv => by cases hv) (fun q hq => by
    rcases List.mem_cons.mp hq with rfl | hq
    · show (-43 : Int) < 0
      decide
    · cases hq)
  intro T hT X
  obtain ⟨t, a1, o, b1, b2, b3⟩ := key T hT X
  refine ⟨t, a1, o, b1, b2, ?_⟩
  rcases b3 with ⟨⟨⟨r, ad', N', S', M', ho, -, -, -, hq⟩, -⟩, L9, hF, hfree⟩ | ⟨q, -, E9, ce, L9, ⟨⟨k9, ad', N', S', M', -, -, -, hq⟩, -⟩, -⟩
  · have hq : (Sum.inl r : aO) = .inl (some (0, 1)) := hq
    cases hq
    refine ⟨ho, hF.1, hF.2.1, ?_⟩
    exact State.sameButNew.drop_fresh (L := []) (J := L9) hF.2.2 hfree
  · have hq : (Sum.inr k9 : aO) = .inl (some (0, 1)) := hq
    cases hq
set_option maxHeartbeats 4000000 in
theorem lw_walk (l : Launch) (hflags : l.flags = flags0) (b : Addr) (xs : List Int32) : MetFree l x (headSpec (Jvm.Cond.code x code maxLocals ret :: tables_1) room_1) (lw_P b xs) (fun _ _ _ _ _ => True) lw_Q := by
  refine MetFree.of_bodyS (code := code) (maxLocals := maxLocals) (ret := ret) (by decide) ?_ ?_
  · intro args s m h hn
    obtain ⟨meth, c, h1, h2, h3, h4, h5, h6, -, -⟩ := Cond.code_spec hn (atoms_spec (ws := Jvm.Cond.code x code maxLocals ret :: tables_1) h _ List.mem_cons_self)
    exact ⟨meth, c, h1, h2, h3, h4, h5, h6⟩
  · intro p e s m args below meth c s₁ B hml0 hP _
    obtain ⟨rfl, hx, hbd, hgv⟩ := hP
    obtain ⟨scr, harrAt, hlist, hof, hsmall⟩ := hx
    obtain ⟨hcb, hkn, -, -⟩ := State.arrayAt?_spec harrAt
    have hown : s.vm.findClass R_law = some m.cls := findClass_of_methodNamed B.named
    have hts0 : ∀ c ∈ (Jvm.Cond.code x code maxLocals ret :: tables_1), c.before #[Value.ref b] s = true := atoms_spec (ws := Jvm.Cond.code x code maxLocals ret :: tables_1) B.pre
    have hts : ∀ w ∈ lw_tbl, w.before #[Value.ref b] s = true := k2_hts_sels lw_privs (fun w hw => hts0 w (List.mem_cons_of_mem _ hw)) lw_privs_ok
    have hml : c.maxLocals = 8 := B.maxLocals_eq (hts0 _ List.mem_cons_self)
    have X₀ : Stand p l e room_1 s m #[Value.ref b] below meth c s₁ [] 0 0 := Stand.of_body B
    have hh0 : s₁.heap = s.heap := by rw [B.state]; rfl
    have hsz : scr.slots.size = xs.length := by rw [← Array.length_toList, hlist, List.length_map]
    have hval : ∀ j : Nat, j < xs.length → scr.slots[j]? = some (.int (xs.getD j 0)) := fun j hj => by
      rw [← Array.getElem?_toList, hlist]
      simp [hj]
    have hbl : b < s.heap.size := (Array.getElem?_eq_some_iff.mp hcb).1
    have hX : va_X b xs.length (fun j => xs.getD j 0) s s.heap := ⟨scr, hcb, hof, hkn, hsz, hval⟩
    have K : W p l e room_1 s m #[Value.ref b] below meth c s₁.heap [] 0 0 (lw_Z below #[Value.ref b] s) (entryFrame m ([Value.ref b] : List Value).toArray 8) := by
      rw [hh0]
      exact whole_start l hflags hbd ⟨B.exec, B.bytes, B.returns, hml, hown, hts, hX, hbl, B.notSynchronized, hgv⟩
    obtain ⟨t, a1, o, b1, b2, b3⟩ := K s₁ rfl X₀
    exact ⟨t, o, a1, b1, b2, b3⟩
theorem lw_pre_spec {args : Array Value} {s : State} (h : (Jvm.Cond.and given_1 narrow_1).before args s = true) (hr : rest_1_c.before args s = true) : ∃ (b : Addr) (xs : List Int32), lw_P b xs args s := by
  have hs := flat_of_before _ h
  have hq := flat_of_before _ hr
  have hc : (Cond.count 1).before args s = true := hs _ (by decide +kernel)
  have harr : (Cond.arrayOf (.arg 0) .int).before args s = true := hs _ (by decide +kernel)
  have hle : (Cond.le (.length (.arg 0)) (.int 3072)).before args s = true := hs _ (by decide +kernel)
  have hlen : (Cond.isInt (.length (.arg 0))).before args s = true := hq _ (by decide +kernel)
  have hall : (Cond.all (.arg 0) (.isInt (.elem (.arg 0) (.index 0)))).before args s = true := hq _ (by decide +kernel)
  obtain ⟨b, xs, hb, hx⟩ := State.ints_of_pre rfl harr hlen hall
  have hsm : xs.length < 2 ^ 31 := hx.choose_spec.2.2.2
  have hev : (Term.length (.arg 0)).eval args s none [] s = some (.int xs.length.toInt32) := hx.length_eval hb
  have hv := Cond.le_ints hev (show (Term.int 3072).eval args s none [] s = some (.int 3072) from rfl)
  have hd : xs.length.toInt32 ≤ 3072 := by
    simpa [Cond.before, Cond.holds, hv] using hle
  have hN : xs.length ≤ 3072 := (Int32.ofNat_le_ofNat hsm (by decide)).mp (show Int32.ofNat xs.length ≤ Int32.ofNat 3072 from hd)
  exact ⟨b, xs, Cond.one_arg hc (show args[0]? = some (.ref b) from hb), hx, hN, h⟩
theorem lw_comes (l : Launch) (hflags : l.flags = flags0) : Comes l x (Jvm.Cond.code x code maxLocals ret :: tables_1) room_1 (fun tb e args s => Calls_1 tb e args s ∧ rest_1 tb e args s ∧ Pre_1 tb e args s)
    (fun _ _ args s o t => lw_Q args s o t) := by
  intro p e ha hc hk s m args below hf hfit hheap happ hpre
  obtain ⟨b, xs, hP⟩ := lw_pre_spec hpre.2.2 hpre.2.1
  obtain ⟨k, o, h1, h2, h3, hQ⟩ := lw_walk l hflags b xs p e ha hc hk s m args below hf ((Spec.applies_iff_loose hf).mp happ).1 hP trivial
  exact ⟨k, o, h1, h2, h3, hQ⟩
theorem lw_frame {s t : State} {o : Outcome} {args : Array Value} (h : Framed s o t [] 601024 7293034) :
    Framed s o t (fieldLocs frame_1_writes args s ++ arrayLocs frame_1_arrays args s ++ staticLocs frame_1_statics s) 601024 7293034 := h
theorem lw_limb (L : Cond) (hL : ∀ (args : Array Value) (s t : State), L.after args s (.returned (some (.int 1))) t = true) :
    ArmFor flags0 classFile x code maxLocals ret World_1 tables_1 room_1 Calls_1 rest_1 Pre_1
      (fun tb e a s o t => postC L tb e a s o t ∧ Framed s o t (fieldLocs frame_1_writes a s ++ arrayLocs frame_1_arrays a s ++ staticLocs frame_1_statics s) 601024 7293034) := by
  intro l hflags _ _ p e ha hc hk s m args below hf hfit hheap happ hpre
  obtain ⟨k, o, h1, h2, h3, rfl, hF⟩ := lw_comes l hflags p e ha hc hk s m args below hf hfit hheap happ hpre
  exact ⟨k, _, h1, h2, h3, hL args s _, lw_frame hF⟩
theorem i_vc : Claimed_1_1 ∧ Claimed_1_2 := ⟨lw_limb limb_1_1 (fun args s t => by simp [limb_1_1, Cond.after, Cond.holds, Cond.value]), lw_limb limb_1_2 (fun args s t => Cond.after_iff.mpr (by
  first | (rw [show limb_1_2 = Cond.eq .result (.int 1) from rfl, Cond.eq_ints (x := 1) (y := 1) rfl rfl]; simp; done) | (simp [limb_1_2, Cond.value, Term.eval]; done)))⟩

