/-! CONSTANTS OF OLD in the abstract machine -/
theorem a_cvk {E : aE} {ad : Nat → Nat} {k : Nat} {v : Int} (h : v = -2 - (k : Int)) : a_cv E ad (2, v) = .ref (E.2.2.2 k) := by
  subst h
  show va_rf (a_ro E ad (-2 - (k : Int))) = _
  unfold a_ro
  rw [if_neg (by omega), if_neg (by omega), show (-2 - (-2 - (k : Int))).toNat = k by omega]
  rfl
theorem a_kvc {E : aE} {ad : Nat → Nat} {w : aV} (h : w.1 = 0 ∨ w.1 = 2 ∧ w.2 < 0) : a_kv E w = a_cv E ad w := by
  obtain ⟨k, v⟩ := w
  rcases h with h | ⟨h, h2⟩
  · cases h; rfl
  · have h : k = 2 := h
    subst h
    have h2 : v < 0 := h2
    show va_rf (a_ro E _ v) = va_rf (a_ro E ad v)
    unfold a_ro
    by_cases e : v = -1
    · rw [if_pos e, if_pos e]
    · rw [if_neg e, if_neg e, if_neg (by omega), if_neg (by omega)]
/-- a constant's number or reference -/
def a_kok (w : aV) : Prop := (w.1 = 0 ∧ -2147483648 ≤ w.2 ∧ w.2 ≤ 2147483647) ∨ (w.1 = 2 ∧ w.2 < 0)
theorem a_kok.c {w : aV} (h : a_kok w) : w.1 = 0 ∨ w.1 = 2 ∧ w.2 < 0 := h.elim (fun q => Or.inl q.1) Or.inr
theorem a_kok.v {w : aV} {N : Nat} (h : a_kok w) : a_vok N w := by
  obtain ⟨k, v⟩ := w
  rcases h with ⟨h, h2⟩ | ⟨h, h2⟩
  · have h : k = 0 := h
    subst h
    exact h2
  · have h : k = 2 := h
    subst h
    have h2 : v < 0 := h2
    show v < (N : Int)
    omega
section AXK
variable {l : Launch} {E : aE} {P : aP} {Q : aQ} {kc ks N : Nat} {S : aS} {M : aM} {pc : Nat} {lo : List (Nat × aV)} {st : List aV}
theorem x_kF {i : Nat} {o n d : String} {k : Nat} {w : aV} {a : Int} (hd : decode P.2.1 pc = .ok (.getfield i, 3)) (hl : Cond.fieldLink P.1.cls i o n d ∈ lw_ok) (hq : (o, n, d, k, w) ∈ a_kF) (ha : a = -2 - (k : Int)) (hw : a_kok w)
    (kk : aX l E P Q kc ks N S M (pc + 3) lo (w :: st)) : aX l E P Q kc ks N S M pc lo ((2, a) :: st) := by
  intro p e s m args below meth c H locs ls ad0 ad N0 S0 B w9 x hS9 hl9 h1 h2
  show W _ _ _ _ _ _ _ _ _ _ _ _ _ _ _ (F0 m pc ls (a_cv E ad (2, a) :: st.map (a_cv E ad)))
  rw [a_cvk ha]
  refine vk_getf B.1 B.2.1 (B.2.2.2.2.2.2.2.2.1.2.2.2.2.1.2.1 _ hq) hS9 B.2.2.2.2.1 (B.2.2.2.2.2.1 _ hl) (fun x h => h) hd ?_
  show W _ _ _ _ _ _ _ _ _ _ _ _ _ _ _ (F0 m (pc + 3) ls (a_kv E w :: st.map (a_cv E ad)))
  rw [a_kvc (ad := ad) hw.c]
  exact kk p e s m args below meth c H locs ls ad0 ad N0 S0 B w9 x hS9 hl9 (a_cons hw.v (a_tl h1)) h2
theorem x_kZ {i : Nat} {o n d : String} {w : aV} (hd : decode P.2.1 pc = .ok (.getstatic i, 3)) (hl : Cond.fieldLink P.1.cls i o n d ∈ lw_ok) (hq : (o, n, d, w) ∈ a_kZ) (hw : a_kok w)
    (kk : aX l E P Q kc ks N S M (pc + 3) lo (w :: st)) : aX l E P Q kc ks N S M pc lo st := by
  intro p e s m args below meth c H locs ls ad0 ad N0 S0 B w9 x hS9 hl9 h1 h2
  refine va_gets B.1 B.2.1 (B.2.2.2.2.2.2.2.2.1.2.2.2.2.1.2.2.1 _ hq) hS9 B.2.2.2.2.1 (B.2.2.2.2.2.1 _ hl) (fun x h => h) hd ?_
  show W _ _ _ _ _ _ _ _ _ _ _ _ _ _ _ (F0 m (pc + 3) ls (a_kv E w :: st.map (a_cv E ad)))
  rw [a_kvc (ad := ad) hw.c]
  exact kk p e s m args below meth c H locs ls ad0 ad N0 S0 B w9 x hS9 hl9 (a_cons hw.v h1) h2
theorem x_kZN {i : Nat} {o n d host : String} {w : aV} (hd : decode P.2.1 pc = .ok (.getstatic i, 3)) (hl : Cond.fieldLinkNest P.1.cls i o n d host ∈ a_nest) (hq : (o, n, d, w) ∈ a_kZ) (hw : a_kok w)
    (kk : aX l E P Q kc ks N S M (pc + 3) lo (w :: st)) : aX l E P Q kc ks N S M pc lo st := by
  intro p e s m args below meth c H locs ls ad0 ad N0 S0 B w9 x hS9 hl9 h1 h2
  refine va_getsN B.1 B.2.1 (B.2.2.2.2.2.2.2.2.1.2.2.2.2.1.2.2.1 _ hq) hS9 B.2.2.2.2.1 (va_Nw.use rfl (B.2.2.2.2.2.2.2.2.1.1 _ hl)) (fun x h => h) hd ?_
  show W _ _ _ _ _ _ _ _ _ _ _ _ _ _ _ (F0 m (pc + 3) ls (a_kv E w :: st.map (a_cv E ad)))
  rw [a_kvc (ad := ad) hw.c]
  exact kk p e s m args below meth c H locs ls ad0 ad N0 S0 B w9 x hS9 hl9 (a_cons hw.v h1) h2
theorem x_klen {ty : FieldType} {k : Nat} {L : List aV} {a : Int} (hd : decode P.2.1 pc = .ok (.arraylength, 1)) (hq : (ty, k, L) ∈ a_kT) (ha : a = -2 - (k : Int)) (hn : L.length ≤ 100)
    (kk : aX l E P Q kc ks N S M (pc + 1) lo ((0, (L.length : Int)) :: st)) : aX l E P Q kc ks N S M pc lo ((2, a) :: st) := by
  intro p e s m args below meth c H locs ls ad0 ad N0 S0 B w9 x hS9 hl9 h1 h2
  show W _ _ _ _ _ _ _ _ _ _ _ _ _ _ _ (F0 m pc ls (a_cv E ad (2, a) :: st.map (a_cv E ad)))
  rw [a_cvk ha]
  refine va_tlen B.1 B.2.1 (B.2.2.2.2.2.2.2.2.1.2.2.2.2.1.2.2.2.1 _ hq) hS9 (v := Int32.ofInt (L.length : Int)) (by rw [← Int32.ofInt_eq_ofNat]) hd ?_
  exact kk p e s m args below meth c H locs ls ad0 ad N0 S0 B w9 x hS9 hl9 (a_cons ⟨by show (-2147483648 : Int) ≤ (L.length : Int); omega, by show (L.length : Int) ≤ 2147483647; omega⟩ (a_tl h1)) h2
theorem x_ktb {k : Nat} {L : List aV} {a i : Int} {w : aV} (hd : decode P.2.1 pc = .ok (.baload, 1)) (hq : (FieldType.byte, k, L) ∈ a_kT) (ha : a = -2 - (k : Int)) (hi : 0 ≤ i ∧ i < L.length) (hv : L.getD i.toNat (0, 0) = w) (hw : a_kok w)
    (kk : aX l E P Q kc ks N S M (pc + 1) lo (w :: st)) : aX l E P Q kc ks N S M pc lo ((0, i) :: (2, a) :: st) := by
  intro p e s m args below meth c H locs ls ad0 ad N0 S0 B w9 x hS9 hl9 h1 h2
  have hh := a_idx hi (a_hd h1)
  show W _ _ _ _ _ _ _ _ _ _ _ _ _ _ _ (F0 m pc ls (.int (Int32.ofInt i) :: a_cv E ad (2, a) :: st.map (a_cv E ad)))
  rw [a_cvk ha]
  refine va_tb B.1 B.2.1 (B.2.2.2.2.2.2.2.2.1.2.2.2.2.1.2.2.2.1 _ hq) hS9 (i := Int32.ofInt i) (by simpa using hh.1) (v := a_kv E w) (by show a_kv E (L.getD (Int32.ofInt i).toNatClampNeg (0, 0)) = _; rw [hh.2, hv]) hd ?_
  rw [a_kvc (ad := ad) hw.c]
  exact kk p e s m args below meth c H locs ls ad0 ad N0 S0 B w9 x hS9 hl9 (a_cons hw.v (a_tl (a_tl h1))) h2
theorem x_ktq {C : String} {k : Nat} {L : List aV} {a i : Int} {w : aV} (hd : decode P.2.1 pc = .ok (.aaload, 1)) (hq : (FieldType.object C, k, L) ∈ a_kT) (ha : a = -2 - (k : Int)) (hi : 0 ≤ i ∧ i < L.length) (hv : L.getD i.toNat (0, 0) = w) (hw : a_kok w)
    (kk : aX l E P Q kc ks N S M (pc + 1) lo (w :: st)) : aX l E P Q kc ks N S M pc lo ((0, i) :: (2, a) :: st) := by
  intro p e s m args below meth c H locs ls ad0 ad N0 S0 B w9 x hS9 hl9 h1 h2
  have hh := a_idx hi (a_hd h1)
  show W _ _ _ _ _ _ _ _ _ _ _ _ _ _ _ (F0 m pc ls (.int (Int32.ofInt i) :: a_cv E ad (2, a) :: st.map (a_cv E ad)))
  rw [a_cvk ha]
  refine vb_tq B.1 B.2.1 (B.2.2.2.2.2.2.2.2.1.2.2.2.2.1.2.2.2.1 _ hq) hS9 (i := Int32.ofInt i) (by simpa using hh.1) (v := a_kv E w) (by show a_kv E (L.getD (Int32.ofInt i).toNatClampNeg (0, 0)) = _; rw [hh.2, hv]) hd ?_
  rw [a_kvc (ad := ad) hw.c]
  exact kk p e s m args below meth c H locs ls ad0 ad N0 S0 B w9 x hS9 hl9 (a_cons hw.v (a_tl (a_tl h1))) h2
theorem x_ldcK {i k : Nat} {tx : String} {a : Int} (hd : decode P.2.1 pc = .ok (.ldc i, 2)) (hc : P.1.cls = "CoalStreetModel") (hq : (i, tx, k) ∈ a_kR) (ha : a = -2 - (k : Int))
    (kk : aX l E P Q kc ks N S M (pc + 2) lo ((2, a) :: st)) : aX l E P Q kc ks N S M pc lo st := by
  intro p e s m args below meth c H locs ls ad0 ad N0 S0 B w9 x hS9 hl9 h1 h2
  refine va_ldcS B.1 B.2.1 (own := "CoalStreetModel") (by rw [← hc]; exact B.2.2.2.2.1) (B.2.2.2.2.2.2.2.2.1.2.2.2.2.2.1 _ hq) hd ?_
  show W _ _ _ _ _ _ _ _ _ _ _ _ _ _ _ (F0 m (pc + 2) ls (.ref (E.2.2.2 k) :: st.map (a_cv E ad)))
  rw [← a_cvk (E := E) (ad := ad) ha]
  exact kk p e s m args below meth c H locs ls ad0 ad N0 S0 B w9 x hS9 hl9 (a_cons (by show a < (N : Int); omega) h1) h2
theorem x_i2c {a : Int} (hd : decode P.2.1 pc = .ok (.i2c, 1)) (h : 0 ≤ a ∧ a < 256) (kk : aX l E P Q kc ks N S M (pc + 1) lo ((0, a) :: st)) : aX l E P Q kc ks N S M pc lo ((0, a) :: st) := by
  refine aX.pure kk (fun h1 h2 => h1) fun p e s m args below meth c H locs ls ad Z B w hl h1 z => lv_i2c B.1 B.2.1 hd ?_ z
  have g : ∀ n : Nat, n < 256 → ((Int32.ofInt (n : Int)).toUInt32 % 65536).toInt32 = Int32.ofInt (n : Int) := by decide +kernel
  have := g a.toNat (by omega)
  rwa [Int.toNat_of_nonneg h.1] at this
theorem x_nreturn {v : Int} {ty : FieldType} (hd : decode P.2.1 pc = .ok (.ireturn, 1)) (hr : P.2.2.2.1 = some ty) (hn : narrow ty (.int (Int32.ofInt v)) = .int (Int32.ofInt v)) (hc : kc ≤ P.2.2.2.2.1.cells ∧ ks ≤ P.2.2.2.2.1.slots) (hQ : Q (.inl (some (0, v))) N S M) : aX l E P Q kc ks N S M pc lo [(0, v)] := by
  intro p e s m args below meth c H locs ls ad0 ad N0 S0 B w x hS9 hl h1 h2
  refine W.widen hc.1 hc.2 ?_
  exact vx_ret (W.zret (v := Int32.ofInt v) B.1 B.2.1 (by rw [B.2.2.1, hr]) hn (fun t ht hW => ⟨⟨some (0, v), ad, N, S, M, rfl, x, by rw [ht]; exact w, fun u hu => by cases hu; exact a_hd h1, hQ⟩, hS9.F ht⟩) hS9.2.2 hd B.2.2.2.2.2.2.1)
theorem x_callK0 {P' : aP} {Q' : aQ} {i k : Nat} {o : Int} {C : String} (hd : decode P.2.1 pc = .ok (.invokevirtual i, 3)) (hh : P.2.2.2.2.2 = []) (hk : a_kV P.1.cls i P' 0) (hm : aMt l E P' [(2, o)] N S M Q') (hq : (k, C) ∈ a_kO) (ho : o = -2 - (k : Int)) (hcl : P'.1.cls = C) (hr : a_rm P P' kc ks = true) (hlen : a_len st ≤ 8)
    (k1 : ∀ (r : Option aV) (N' : Nat) (S' : aS) (M' : aM), Q' (.inl r) N' S' M' → a_ex N N' S S' → aX l E P Q (kc + P'.2.2.2.2.1.cells) (ks + P'.2.2.2.2.1.slots) N' S' M' (pc + 3) lo (r.toList ++ st))
    (k2 : ∀ (x9 N' : Nat) (S' : aS) (M' : aM), Q' (.inr x9) N' S' M' → a_ex N N' S S' → Q (.inr x9) N' S' M') : aX l E P Q kc ks N S M pc lo ((2, o) :: st) := by
  intro p e s m args below meth c H locs ls ad0 ad N0 S0 B w x hS9 hl h1 h2
  obtain ⟨hR, hC⟩ := a_rm_spec hr
  have hst : ∀ v ∈ st, a_vok N v := fun v hv => h1 v (by simp [hv])
  have hvs : ∀ v ∈ ([(2, o)] : List aV), a_vok N v := fun v hv => h1 v (by simp at hv ⊢; rcases hv with rfl <;> simp)
  have hsz : ls.size = P.2.2.1 := hl.1
  have hmon : 2 * (F0 m pc ls ([] : List Value)).monitorRoom + ((st.map (a_cv E ad)).map fun v => v.category).sum ≤ 8 := lv_room (by rw [a_len_sum]; exact hlen)
  have hcb := hk.1
  have hrv : ∃ cell : Cell, H[E.2.2.2 k]? = some cell ∧ cell.vm.isStatics = false ∧ s.vm.findClass P'.1.cls = some cell.cls := by
    obtain ⟨cell, g1, g2, g3, -⟩ := (B.2.2.2.2.2.2.2.2.1.2.2.2.2.1.1 _ hq).kept hS9.2.1
    exact ⟨cell, g1, g2, by rw [hcl]; exact g3⟩
  have ek := a_cvk (E := E) (ad := ad) ho
  have hpre := a_pre (vs := [(2, o)]) B w hS9
  have run := vx_runV (R := P.2.2.2.2.1) (e := e) (args := args) (below := below) (meth := meth) (locs := locs) (cells := kc) (slots := ks) (g := F0 m pc ls (((2, o) :: st).map (a_cv E ad))) (b := E.2.2.2 k) (As := []) (rest := st.map (a_cv E ad)) ⟨B.1, B.2.1, B.2.2.2.1, B.2.2.2.2.1, fun w hw => B.2.2.2.2.2.1 w hw⟩ (hm hvs ad) (⟨callB_of 0 (fun w hw => B.2.2.2.2.2.1 w hw) (a_good P' hcb.1) rfl rfl rfl (B.2.2.2.2.2.1 _ hcb.2.1) (B.2.2.2.2.2.1 _ hk.2.1) hcb.2.2 hR, B.2.2.2.2.2.1 _ hk.2.2.1, B.2.2.2.2.2.1 _ hk.2.2.2⟩) ⟨hpre.1, hrv, fun U hU hW => by have z := hpre.2 U hU hW; rw [show ([(2, o)].map (a_cv E ad)) = Value.ref (E.2.2.2 k) :: [] from by rw [← ek]; rfl] at z ⊢; exact z⟩ rfl rfl hsz (by rw [← ek]; rfl) hmon hd hC
  exact a_after hh B x hS9 hl hst h2 run hC k1 k2
theorem x_callK1 {P' : aP} {Q' : aQ} {i k : Nat} {v1 : aV} {o : Int} {C : String} (hd : decode P.2.1 pc = .ok (.invokevirtual i, 3)) (hh : P.2.2.2.2.2 = []) (hk : a_kV P.1.cls i P' 1) (hm : aMt l E P' [(2, o), v1] N S M Q') (hq : (k, C) ∈ a_kO) (ho : o = -2 - (k : Int)) (hcl : P'.1.cls = C) (hr : a_rm P P' kc ks = true) (hlen : a_len st ≤ 8)
    (k1 : ∀ (r : Option aV) (N' : Nat) (S' : aS) (M' : aM), Q' (.inl r) N' S' M' → a_ex N N' S S' → aX l E P Q (kc + P'.2.2.2.2.1.cells) (ks + P'.2.2.2.2.1.slots) N' S' M' (pc + 3) lo (r.toList ++ st))
    (k2 : ∀ (x9 N' : Nat) (S' : aS) (M' : aM), Q' (.inr x9) N' S' M' → a_ex N N' S S' → Q (.inr x9) N' S' M') : aX l E P Q kc ks N S M pc lo (v1 :: (2, o) :: st) := by
  intro p e s m args below meth c H locs ls ad0 ad N0 S0 B w x hS9 hl h1 h2
  obtain ⟨hR, hC⟩ := a_rm_spec hr
  have hst : ∀ v ∈ st, a_vok N v := fun v hv => h1 v (by simp [hv])
  have hvs : ∀ v ∈ ([(2, o), v1] : List aV), a_vok N v := fun v hv => h1 v (by simp at hv ⊢; rcases hv with rfl | rfl <;> simp)
  have hsz : ls.size = P.2.2.1 := hl.1
  have hmon : 2 * (F0 m pc ls ([] : List Value)).monitorRoom + ((st.map (a_cv E ad)).map fun v => v.category).sum ≤ 8 := lv_room (by rw [a_len_sum]; exact hlen)
  have hcb := hk.1
  have hrv : ∃ cell : Cell, H[E.2.2.2 k]? = some cell ∧ cell.vm.isStatics = false ∧ s.vm.findClass P'.1.cls = some cell.cls := by
    obtain ⟨cell, g1, g2, g3, -⟩ := (B.2.2.2.2.2.2.2.2.1.2.2.2.2.1.1 _ hq).kept hS9.2.1
    exact ⟨cell, g1, g2, by rw [hcl]; exact g3⟩
  have ek := a_cvk (E := E) (ad := ad) ho
  have hpre := a_pre (vs := [(2, o), v1]) B w hS9
  have run := vx_runV (R := P.2.2.2.2.1) (e := e) (args := args) (below := below) (meth := meth) (locs := locs) (cells := kc) (slots := ks) (g := F0 m pc ls ((v1 :: (2, o) :: st).map (a_cv E ad))) (b := E.2.2.2 k) (As := [a_cv E ad v1]) (rest := st.map (a_cv E ad)) ⟨B.1, B.2.1, B.2.2.2.1, B.2.2.2.2.1, fun w hw => B.2.2.2.2.2.1 w hw⟩ (hm hvs ad) (⟨callB_of 1 (fun w hw => B.2.2.2.2.2.1 w hw) (a_good P' hcb.1) rfl rfl rfl (B.2.2.2.2.2.1 _ hcb.2.1) (B.2.2.2.2.2.1 _ hk.2.1) hcb.2.2 hR, B.2.2.2.2.2.1 _ hk.2.2.1, B.2.2.2.2.2.1 _ hk.2.2.2⟩) ⟨hpre.1, hrv, fun U hU hW => by have z := hpre.2 U hU hW; rw [show ([(2, o), v1].map (a_cv E ad)) = Value.ref (E.2.2.2 k) :: [a_cv E ad v1] from by rw [← ek]; rfl] at z ⊢; exact z⟩ rfl rfl hsz (by rw [← ek]; rfl) hmon hd hC
  exact a_after hh B x hS9 hl hst h2 run hC k1 k2
theorem a_ro_k {ad : Nat → Nat} {k : Nat} {v : Int} (h : v = -2 - (k : Int)) : a_ro E ad v = some (E.2.2.2 k) := by
  subst h
  unfold a_ro
  rw [if_neg (by omega), if_neg (by omega), show (-2 - (-2 - (k : Int))).toNat = k by omega]
/-- which constant -/
theorem x_kacmp_ne {j k : Nat} {a b : Int} {off : Int} {tgt : Nat} (hd : decode P.2.1 pc = .ok (.if_acmp .ne off, 3)) (ht : (pc : Int) + off = (tgt : Int)) (ha : a = -2 - (j : Int)) (hb : b = -2 - (k : Int)) (hj : j < 13) (hk : k < 13)
    (k1 : j ≠ k → aX l E P Q kc ks N S M tgt lo st) (k2 : j = k → aX l E P Q kc ks N S M (pc + 3) lo st) : aX l E P Q kc ks N S M pc lo ((2, b) :: (2, a) :: st) := by
  intro p e s m args below meth c H locs ls ad0 ad N0 S0 B w9 x hS9 hl9 h1 h2
  show W _ _ _ _ _ _ _ _ _ _ _ _ _ _ _ (F0 m pc ls (va_rf (a_ro E ad b) :: va_rf (a_ro E ad a) :: st.map (a_cv E ad)))
  rw [a_ro_k ha, a_ro_k hb]
  have hin := B.2.2.2.2.2.2.2.2.1.2.2.2.2.2.2.1
  refine lv_acmp_ne B.1 B.2.1 hd ht (fun q => ?_) (fun q => ?_)
  · exact k1 (fun z => q (by rw [z])) p e s m args below meth c H locs ls ad0 ad N0 S0 B w9 x hS9 hl9 (a_tl (a_tl h1)) h2
  · exact k2 (hin j k hj hk (Option.some.inj q)) p e s m args below meth c H locs ls ad0 ad N0 S0 B w9 x hS9 hl9 (a_tl (a_tl h1)) h2
end AXK
