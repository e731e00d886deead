/-! AN ABSTRACT MACHINE OVER WHOLE NUMBERS: values are (kind, number): 0 an int, 1 a long, 2 a reference (-1 null, from 0 on a cell of the world, below -1 a constant of old). S: of each cell its kind, its length, its references that stay; M: what it holds. -/
abbrev aV : Type := Nat × Int
abbrev aE : Type := va_G × (Nat → ClassId) × Nat × (Nat → Nat)
abbrev aS : Type := Int → Nat × Int × (Int → Int)
abbrev aM : Type := Int → Int → Int
abbrev aP : Type := MethodName × ByteArray × Nat × Option FieldType × Room × List (Nat × Nat × Nat × Nat)
abbrev aO : Type := Option aV ⊕ Nat
abbrev aQ : Type := aO → Nat → aS → aM → Prop
def a_ro (E : aE) (ad : Nat → Nat) (n : Int) : Option Nat := if n = -1 then none else if 0 ≤ n then some (ad n.toNat) else some (E.2.2.2 (-2 - n).toNat)
def a_cv (E : aE) (ad : Nat → Nat) (v : aV) : Value := match v.1 with
  | 0 => .int (Int32.ofInt v.2)
  | 1 => .long (Int64.ofInt v.2)
  | _ => va_rf (a_ro E ad v.2)
def a_FTL : List (List Nat) := [[2, 2, 2, 1], [2, 2, 2, 2, 2, 2], [2, 2, 2, 2, 2, 2, 2, 0, 0, 0, 1, 2], [2, 2, 2, 2, 2, 2], [2, 2, 2, 2, 2, 0], [2, 0, 0, 0, 0, 2, 0, 0, 0, 0, 0], [2, 2, 2, 2, 2, 0, 0, 0, 0, 0, 0, 0], [2, 0, 2, 2, 2, 2, 2, 0, 2, 2, 2], [0, 0, 2, 2, 0, 2, 2, 0, 0, 0, 2, 0, 0], [2, 2, 2, 2], [2, 2, 2, 2, 2, 2, 2, 2, 2, 2, 1, 1], [2, 2, 2, 0, 2, 2, 0, 0, 0, 0, 0, 0, 0, 0, 0, 0, 2, 2, 2, 0, 0, 2, 2, 2, 2, 2, 2, 2, 0, 2, 2, 2, 0, 0, 1, 1, 2, 2, 2, 2, 2, 2, 0, 0, 0, 1, 2, 2, 1, 2, 2, 2]]
def a_FT (k j : Nat) : Nat := (a_FTL.getD k []).getD j 0
def a_lg (k : Nat) (j : Int) : Bool := k == 14 || (Nat.blt k 12 && a_FT k j.toNat == 1)
def a_fs (E : aE) (ad : Nat → Nat) (k : Nat) (n : Int) (r f : Int → Int) : List Value := (List.range n.toNat).map (fun j => a_cv E ad (a_FT k j, if a_FT k j = 2 then r j else f j))
def a_arr (E : aE) (ad : Nat → Nat) (k : Nat) (r f : Int → Int) : (Nat → Int32) ⊕ (Nat → Int64) ⊕ (Nat → UInt32) ⊕ (Nat → UInt64) ⊕ (Nat → Option Nat) :=
  if k = 14 then .inr (.inl fun j => Int64.ofInt (f j)) else if k = 16 then .inr (.inr (.inr (.inr fun j => a_ro E ad (f j)))) else if k = 17 then .inr (.inr (.inr (.inr fun j => a_ro E ad (r j)))) else .inl fun j => Int32.ofInt (f j)
def a_ce (E : aE) (ad : Nat → Nat) (w : Nat × Int × (Int → Int)) (f : Int → Int) : va_E :=
  if w.1 < 12 then .inr (w.1, a_fs E ad w.1 w.2.1 w.2.2 f) else .inl (E.2.1 w.1, w.2.1.toNat, a_arr E ad w.1 w.2.2 f)
def a_ws (E : aE) (ad : Nat → Nat) (N : Nat) (S : aS) (M : aM) : va_W := (List.range N).map (fun i => (ad i, a_ce E ad (S i) (M i)))
def a_rg (S : aS) (M : aM) : Prop := ∀ a j : Int, if a_lg (S a).1 j = true then -9223372036854775808 ≤ M a j ∧ M a j ≤ 9223372036854775807 else -2147483648 ≤ M a j ∧ M a j ≤ 2147483647
def a_A (E : aE) : Nat → Prop := fun q => E.2.2.1 ≤ q
def a_w (E : aE) (ad : Nat → Nat) (N : Nat) (S : aS) (M : aM) (H : Heap) : Prop :=
  va_P E.1 vwCl (a_ws E ad N S M) H ∧ va_D (a_A E) (a_ws E ad N S M) ∧ a_rg S M ∧ ∀ i : Int, ¬ (0 ≤ i ∧ i < N) → (S i).1 = 99
def a_tys (E : aE) : List (ClassId × FieldType) := [(E.2.1 12, .byte), (E.2.1 13, .int), (E.2.1 14, .long), (E.2.1 15, .boolean), (E.2.1 16, .object "CoalStreet$Street"), (E.2.1 17, .array .long)]
/-- the words of nest mates -/
def a_nest : List Cond := lw_tbl.filter (fun w => match w with | .methodLinkNest .. => true | .fieldLinkNest .. => true | _ => false)
/-- what of the start goes on to hold -/
def a_st (E : aE) (s : State) (H : Heap) : Prop := (∀ w ∈ a_nest, va_Nw w s) ∧ vx_Zq Bundle.tN "UNASSIGNED_STACK" Bundle.steD (a_A E) s H ∧ vx_Zq Bundle.tN "SUPPRESSED_SENTINEL" Bundle.listD (a_A E) s H
def a_xn : Nat → String
  | 0 => "java/lang/IllegalArgumentException"
  | 1 => "java/lang/IllegalStateException"
  | 2 => "java/util/NoSuchElementException"
  | _ => "java/lang/IndexOutOfBoundsException"
def a_ext (ad ad' : Nat → Nat) (N N' : Nat) (S S' : aS) : Prop := N ≤ N' ∧ ∀ i : Nat, i < N → ad' i = ad i ∧ S' i = S i
def a_Qc (E : aE) (ad0 : Nat → Nat) (N0 : Nat) (S0 : aS) (Q : aQ) : Array Value → State → Outcome → State → Prop := fun _ st o t =>
  (∃ (r : Option aV) (ad' : Nat → Nat) (N' : Nat) (S' : aS) (M' : aM), o = .returned (r.map (a_cv E ad')) ∧ a_ext ad0 ad' N0 N' S0 S' ∧ a_w E ad' N' S' M' t.heap ∧ Q (.inl r) N' S' M') ∧ va_F (a_A E) st t
def a_XC (E : aE) (ad0 : Nat → Nat) (N0 : Nat) (S0 : aS) (Q : aQ) : String → State → State → Prop := fun x st t =>
  (∃ (k : Nat) (ad' : Nat → Nat) (N' : Nat) (S' : aS) (M' : aM), x = a_xn k ∧ a_ext ad0 ad' N0 N' S0 S' ∧ a_w E ad' N' S' M' t.heap ∧ Q (.inr k) N' S' M') ∧ va_F (a_A E) st t
/-- what holds all through a body -/
def a_B (l : Launch) (E : aE) (P : aP) (p : Program) (s : State) (m : MethodId) (args : Array Value) (meth : Method) (c : Code) : Prop :=
  p.tables.exec = Jvm.exec ∧ c.code = P.2.1 ∧ meth.sig.returnType = P.2.2.2.1 ∧ c.maxLocals = P.2.2.1 ∧ s.vm.findClass P.1.cls = some m.cls ∧ (∀ w ∈ lw_ok, w.before args s = true) ∧ meth.locks = false ∧ va_K E.1 vwCl (a_tys E) s ∧ a_st E s s.heap ∧ c.exceptionTable.toList = tableOf P.2.2.2.2.2 ∧ (P.1.name = "<init>" → meth.name = "<init>") ∧ l.stackTraces = false ∧ E.2.2.1 ≤ s.heap.size
def a_lo (E : aE) (ad : Nat → Nat) (lo : List (Nat × aV)) : List (Nat × Value) := lo.map (fun q => (q.1, a_cv E ad q.2))
/-- FROM HERE the body comes to an end with Q -/
def aX (l : Launch) (E : aE) (P : aP) (Q : aQ) (kc ks : Nat) (N : Nat) (S : aS) (M : aM) (pc : Nat) (lo : List (Nat × aV)) (st : List aV) : Prop :=
  ∀ (p : Program) (e : Env) (s : State) (m : MethodId) (args : Array Value) (below : List Frame) (meth : Method) (c : Code) (H : Heap) (locs : List Loc) (ls : Array Slot) (ad0 ad : Nat → Nat) (N0 : Nat) (S0 : aS),
    a_B l E P p s m args meth c → a_w E ad N S M H → a_ext ad0 ad N0 N S0 S → va_S (a_A E) s.heap H locs → lv_has ls P.2.2.1 (a_lo E ad lo) →
    W p l e P.2.2.2.2.1 s m args below meth c H locs kc ks (vx_MQ below (a_Qc E ad0 N0 S0 Q) (a_XC E ad0 N0 S0 Q) args s P.2.2.2.2.1.cells P.2.2.2.2.1.slots (a_A E)) (F0 m pc ls (st.map (a_cv E ad)))
/-- ONE STEP that touches no heap and no locals -/
theorem aX.pure {l : Launch} {E : aE} {P : aP} {Q : aQ} {kc ks N : Nat} {S : aS} {M : aM} {pc pc' : Nat} {lo : List (Nat × aV)} {st st' : List aV} (k : aX l E P Q kc ks N S M pc' lo st')
    (h : ∀ (p : Program) (e : Env) (s : State) (m : MethodId) (args : Array Value) (below : List Frame) (meth : Method) (c : Code) (H : Heap) (locs : List Loc) (ls : Array Slot) (ad : Nat → Nat) (Z : State → Prop), a_B l E P p s m args meth c → a_w E ad N S M H → lv_has ls P.2.2.1 (a_lo E ad lo) →
      W p l e P.2.2.2.2.1 s m args below meth c H locs kc ks Z (F0 m pc' ls (st'.map (a_cv E ad))) → W p l e P.2.2.2.2.1 s m args below meth c H locs kc ks Z (F0 m pc ls (st.map (a_cv E ad)))) : aX l E P Q kc ks N S M pc lo st :=
  fun p e s m args below meth c H locs ls ad0 ad N0 S0 B w x hS hl => h p e s m args below meth c H locs ls ad _ B w hl (k p e s m args below meth c H locs ls ad0 ad N0 S0 B w x hS hl)
/-! ints -/
theorem a_i32 {n : Int} (h : -2147483648 ≤ n ∧ n ≤ 2147483647) : (Int32.ofInt n).toInt = n := by
  rw [Int32.toInt_ofInt]
  show n.bmod 4294967296 = n
  exact Int.bmod_eq_of_le (by omega) (by omega)
theorem a_i64 {n : Int} (h : -9223372036854775808 ≤ n ∧ n ≤ 9223372036854775807) : (Int64.ofInt n).toInt = n := by
  rw [Int64.toInt_ofInt]
  show n.bmod 18446744073709551616 = n
  exact Int.bmod_eq_of_le (by omega) (by omega)
section AX1
variable {l : Launch} {E : aE} {P : aP} {Q : aQ} {kc ks N : Nat} {S : aS} {M : aM} {pc : Nat} {lo : List (Nat × aV)} {st : List aV}
theorem x_iconst {n : Int} (hd : decode P.2.1 pc = .ok (.iconst n, 1)) (k : aX l E P Q kc ks N S M (pc + 1) lo ((0, n) :: st)) : aX l E P Q kc ks N S M pc lo st :=
  aX.pure k fun p e s m args below meth c H locs ls ad Z B w hl z => lv_iconst B.1 B.2.1 hd rfl z
theorem x_iadd {a b : Int} (hd : decode P.2.1 pc = .ok (.iadd, 1)) (k : aX l E P Q kc ks N S M (pc + 1) lo ((0, a + b) :: st)) : aX l E P Q kc ks N S M pc lo ((0, b) :: (0, a) :: st) :=
  aX.pure k fun p e s m args below meth c H locs ls ad Z B w hl z => lv_iadd B.1 B.2.1 hd (by rw [← Int32.ofInt_add]; exact z)
theorem x_icmp_lt {a b : Int} {off : Int} {tgt : Nat} (hd : decode P.2.1 pc = .ok (.if_icmp .lt off, 3)) (ht : (pc : Int) + off = (tgt : Int)) (ha : -2147483648 ≤ a ∧ a ≤ 2147483647) (hb : -2147483648 ≤ b ∧ b ≤ 2147483647)
    (k1 : a < b → aX l E P Q kc ks N S M tgt lo st) (k2 : b ≤ a → aX l E P Q kc ks N S M (pc + 3) lo st) : aX l E P Q kc ks N S M pc lo ((0, b) :: (0, a) :: st) := by
  intro p e s m args below meth c H locs ls ad0 ad N0 S0 B w x hS hl
  refine lv_icmp_lt B.1 B.2.1 hd ht (fun q => ?_) (fun q => ?_)
  · rw [Int32.lt_iff_toInt_lt, a_i32 ha, a_i32 hb] at q
    exact k1 q p e s m args below meth c H locs ls ad0 ad N0 S0 B w x hS hl
  · rw [Int32.lt_iff_toInt_lt, a_i32 ha, a_i32 hb] at q
    exact k2 (by omega) p e s m args below meth c H locs ls ad0 ad N0 S0 B w x hS hl
end AX1
