/-! AN ABSTRACT MACHINE OVER WHOLE NUMBERS: values are (kind, number): 0 an int, 1 a long, 2 a reference (-1 null, from 0 on a cell of the world, below -1 a constant of old). S: of each cell its kind, its length, its references that stay; M: what it holds. -/
abbrev aV : Type := Nat × Int
abbrev aE : Type := va_G × (Nat → ClassId) × Nat × (Nat → Nat)
abbrev aS : Type := Int → Nat × Int × (Int → Int)
abbrev aM : Type := Int → Int → Int
abbrev aP : Type := MethodName × ByteArray × Nat × Option FieldType × Room × List (Nat × Nat × Nat × Nat)
abbrev aO : Type := Option aV ⊕ Nat
abbrev aQ : Type := aO → Nat → aS → aM → Prop
def a_ro (E : aE) (ad : Nat → Nat) (n : Int) : Option Nat := if n = -1 then none else if 0 ≤ n then some (ad n.toNat) else some (E.2.2.2 (-2 - n).toNat)
def a_cv (E : aE) (ad : Nat → Nat) (v : aV) : Value := match v.1 with
  | 0 => .int (Int32.ofInt v.2)
  | 1 => .long (Int64.ofInt v.2)
  | _ => va_rf (a_ro E ad v.2)
def a_FTL : List (List Nat) := [[2, 2, 2, 1], [2, 2, 2, 2, 2, 2], [2, 2, 2, 2, 2, 2, 2, 0, 0, 0, 1, 2], [2, 2, 2, 2, 2, 2], [2, 2, 2, 2, 2, 0], [2, 0, 0, 0, 0, 2, 0, 0, 0, 0, 0], [2, 2, 2, 2, 2, 0, 0, 0, 0, 0, 0, 0], [2, 0, 2, 2, 2, 2, 2, 0, 2, 2, 2], [0, 0, 2, 2, 0, 2, 2, 0, 0, 0, 2, 0, 0], [2, 2, 2, 2], [2, 2, 2, 2, 2, 2, 2, 2, 2, 2, 1, 1], [2, 2, 2, 0, 2, 2, 0, 0, 0, 0, 0, 0, 0, 0, 0, 0, 2, 2, 2, 0, 0, 2, 2, 2, 2, 2, 2, 2, 0, 2, 2, 2, 0, 0, 1, 1, 2, 2, 2, 2, 2, 2, 0, 0, 0, 1, 2, 2, 1, 2, 2, 2]]
def a_FT (k j : Nat) : Nat := (a_FTL.getD k []).getD j 0
def a_lg (k : Nat) (j : Int) : Bool := k == 14 || (Nat.blt k 12 && a_FT k j.toNat == 1)
def a_fs (E : aE) (ad : Nat → Nat) (k : Nat) (n : Int) (r f : Int → Int) : List Value := (List.range n.toNat).map (fun j => a_cv E ad (a_FT k j, if a_FT k j = 2 then r j else f j))
def a_arr (E : aE) (ad : Nat → Nat) (k : Nat) (r f : Int → Int) : (Nat → Int32) ⊕ (Nat → Int64) ⊕ (Nat → UInt32) ⊕ (Nat → UInt64) ⊕ (Nat → Option Nat) :=
  if k = 14 then .inr (.inl fun j => Int64.ofInt (f j)) else if k = 16 then .inr (.inr (.inr (.inr fun j => a_ro E ad (f j)))) else if k = 17 then .inr (.inr (.inr (.inr fun j => a_ro E ad (r j)))) else .inl fun j => Int32.ofInt (f j)
def a_ce (E : aE) (ad : Nat → Nat) (w : Nat × Int × (Int → Int)) (f : Int → Int) : va_E :=
  if w.1 < 12 then .inr (w.1, a_fs E ad w.1 w.2.1 w.2.2 f) else .inl (E.2.1 w.1, w.2.1.toNat, a_arr E ad w.1 w.2.2 f)
def a_ws (E : aE) (ad : Nat → Nat) (N : Nat) (S : aS) (M : aM) : va_W := (List.range N).map (fun i => (ad i, a_ce E ad (S i) (M i)))
def a_rg (S : aS) (M : aM) : Prop := ∀ a j : Int, if a_lg (S a).1 j = true then -9223372036854775808 ≤ M a j ∧ M a j ≤ 9223372036854775807 else -2147483648 ≤ M a j ∧ M a j ≤ 2147483647
def a_A (E : aE) : Nat → Prop := fun q => E.2.2.1 ≤ q
def a_w (E : aE) (ad : Nat → Nat) (N : Nat) (S : aS) (M : aM) (H : Heap) : Prop :=
  va_P E.1 vwCl (a_ws E ad N S M) H ∧ va_D (a_A E) (a_ws E ad N S M) ∧ a_rg S M ∧ (∀ i : Int, ¬ (0 ≤ i ∧ i < N) → (S i).1 = 99) ∧ (∀ a j : Int, (S a).2.2 j < N) ∧ ∀ a j : Int, (S a).1 = 16 → M a j < N
def a_tys (E : aE) : List (ClassId × FieldType) := [(E.2.1 12, .byte), (E.2.1 13, .int), (E.2.1 14, .long), (E.2.1 15, .boolean), (E.2.1 16, .object "CoalStreet$Street"), (E.2.1 17, .array .long)]
/-- the words of nest mates -/
def a_nest : List Cond := lw_tbl.filter (fun w => match w with | .methodLinkNest .. => true | .fieldLinkNest .. => true | .castable .. => true | .declares _ => true | _ => false)
/-! constants of old: 0 to 12 the words, 13 all of them, 14 to 26 their letters, 27 to 39 the bytes of these; 40 the formatter of an index out of bounds, 41 the script; at 42 not an address, but the script's length -/
def a_kv (E : aE) (v : aV) : Value := a_cv E (fun _ => 0) v
def a_kO : List (Nat × String) := [(0, "CoalStreet$Word"), (1, "CoalStreet$Word"), (2, "CoalStreet$Word"), (3, "CoalStreet$Word"), (4, "CoalStreet$Word"), (5, "CoalStreet$Word"), (6, "CoalStreet$Word"), (7, "CoalStreet$Word"), (8, "CoalStreet$Word"), (9, "CoalStreet$Word"), (10, "CoalStreet$Word"), (11, "CoalStreet$Word"), (12, "CoalStreet$Word"), (14, "java/lang/String"), (15, "java/lang/String"), (16, "java/lang/String"), (17, "java/lang/String"), (18, "java/lang/String"), (19, "java/lang/String"), (20, "java/lang/String"), (21, "java/lang/String"), (22, "java/lang/String"), (23, "java/lang/String"), (24, "java/lang/String"), (25, "java/lang/String"), (26, "java/lang/String")]
def a_kF : List (String × String × String × Nat × aV) := [("CoalStreet$Word", "numbers", "I", 0, (0, 0)), ("CoalStreet$Word", "low", "I", 0, (0, 0)), ("CoalStreet$Word", "high", "I", 0, (0, 0)), ("CoalStreet$Word", "secondLow", "I", 0, (0, 0)), ("CoalStreet$Word", "secondHigh", "I", 0, (0, 0)), ("CoalStreet$Word", "rule", "I", 0, (0, -1)), ("CoalStreet$Word", "letters", "Ljava/lang/String;", 0, (2, -16)), ("CoalStreet$Word", "numbers", "I", 1, (0, 0)), ("CoalStreet$Word", "low", "I", 1, (0, 0)), ("CoalStreet$Word", "high", "I", 1, (0, 0)), ("CoalStreet$Word", "secondLow", "I", 1, (0, 0)), ("CoalStreet$Word", "secondHigh", "I", 1, (0, 0)), ("CoalStreet$Word", "rule", "I", 1, (0, -1)), ("CoalStreet$Word", "letters", "Ljava/lang/String;", 1, (2, -17)), ("CoalStreet$Word", "numbers", "I", 2, (0, 2)), ("CoalStreet$Word", "low", "I", 2, (0, 1)), ("CoalStreet$Word", "high", "I", 2, (0, 60)), ("CoalStreet$Word", "secondLow", "I", 2, (0, 1)), ("CoalStreet$Word", "secondHigh", "I", 2, (0, 99)), ("CoalStreet$Word", "rule", "I", 2, (0, -1)), ("CoalStreet$Word", "letters", "Ljava/lang/String;", 2, (2, -18)), ("CoalStreet$Word", "numbers", "I", 3, (0, 2)), ("CoalStreet$Word", "low", "I", 3, (0, 1)), ("CoalStreet$Word", "high", "I", 3, (0, 60)), ("CoalStreet$Word", "secondLow", "I", 3, (0, 0)), ("CoalStreet$Word", "secondHigh", "I", 3, (0, 99)), ("CoalStreet$Word", "rule", "I", 3, (0, -1)), ("CoalStreet$Word", "letters", "Ljava/lang/String;", 3, (2, -19)), ("CoalStreet$Word", "numbers", "I", 4, (0, 1)), ("CoalStreet$Word", "low", "I", 4, (0, 0)), ("CoalStreet$Word", "high", "I", 4, (0, 99)), ("CoalStreet$Word", "secondLow", "I", 4, (0, 0)), ("CoalStreet$Word", "secondHigh", "I", 4, (0, 0)), ("CoalStreet$Word", "rule", "I", 4, (0, -1)), ("CoalStreet$Word", "letters", "Ljava/lang/String;", 4, (2, -20)), ("CoalStreet$Word", "numbers", "I", 5, (0, 1)), ("CoalStreet$Word", "low", "I", 5, (0, 0)), ("CoalStreet$Word", "high", "I", 5, (0, 99)), ("CoalStreet$Word", "secondLow", "I", 5, (0, 0)), ("CoalStreet$Word", "secondHigh", "I", 5, (0, 0)), ("CoalStreet$Word", "rule", "I", 5, (0, -1)), ("CoalStreet$Word", "letters", "Ljava/lang/String;", 5, (2, -21)), ("CoalStreet$Word", "numbers", "I", 6, (0, 1)), ("CoalStreet$Word", "low", "I", 6, (0, 1)), ("CoalStreet$Word", "high", "I", 6, (0, 6)), ("CoalStreet$Word", "secondLow", "I", 6, (0, 0)), ("CoalStreet$Word", "secondHigh", "I", 6, (0, 0)), ("CoalStreet$Word", "rule", "I", 6, (0, -1)), ("CoalStreet$Word", "letters", "Ljava/lang/String;", 6, (2, -22)), ("CoalStreet$Word", "numbers", "I", 7, (0, 2)), ("CoalStreet$Word", "low", "I", 7, (0, 0)), ("CoalStreet$Word", "high", "I", 7, (0, 5)), ("CoalStreet$Word", "secondLow", "I", 7, (0, 0)), ("CoalStreet$Word", "secondHigh", "I", 7, (0, 99)), ("CoalStreet$Word", "rule", "I", 7, (0, -1)), ("CoalStreet$Word", "letters", "Ljava/lang/String;", 7, (2, -23)), ("CoalStreet$Word", "numbers", "I", 8, (0, 1)), ("CoalStreet$Word", "low", "I", 8, (0, 0)), ("CoalStreet$Word", "high", "I", 8, (0, 999)), ("CoalStreet$Word", "secondLow", "I", 8, (0, 0)), ("CoalStreet$Word", "secondHigh", "I", 8, (0, 0)), ("CoalStreet$Word", "rule", "I", 8, (0, -1)), ("CoalStreet$Word", "letters", "Ljava/lang/String;", 8, (2, -24)), ("CoalStreet$Word", "numbers", "I", 9, (0, 0)), ("CoalStreet$Word", "low", "I", 9, (0, 0)), ("CoalStreet$Word", "high", "I", 9, (0, 0)), ("CoalStreet$Word", "secondLow", "I", 9, (0, 0)), ("CoalStreet$Word", "secondHigh", "I", 9, (0, 0)), ("CoalStreet$Word", "rule", "I", 9, (0, -1)), ("CoalStreet$Word", "letters", "Ljava/lang/String;", 9, (2, -25)), ("CoalStreet$Word", "numbers", "I", 10, (0, 0)), ("CoalStreet$Word", "low", "I", 10, (0, 0)), ("CoalStreet$Word", "high", "I", 10, (0, 0)), ("CoalStreet$Word", "secondLow", "I", 10, (0, 0)), ("CoalStreet$Word", "secondHigh", "I", 10, (0, 0)), ("CoalStreet$Word", "rule", "I", 10, (0, 0)), ("CoalStreet$Word", "letters", "Ljava/lang/String;", 10, (2, -26)), ("CoalStreet$Word", "numbers", "I", 11, (0, 0)), ("CoalStreet$Word", "low", "I", 11, (0, 0)), ("CoalStreet$Word", "high", "I", 11, (0, 0)), ("CoalStreet$Word", "secondLow", "I", 11, (0, 0)), ("CoalStreet$Word", "secondHigh", "I", 11, (0, 0)), ("CoalStreet$Word", "rule", "I", 11, (0, 1)), ("CoalStreet$Word", "letters", "Ljava/lang/String;", 11, (2, -27)), ("CoalStreet$Word", "numbers", "I", 12, (0, 0)), ("CoalStreet$Word", "low", "I", 12, (0, 0)), ("CoalStreet$Word", "high", "I", 12, (0, 0)), ("CoalStreet$Word", "secondLow", "I", 12, (0, 0)), ("CoalStreet$Word", "secondHigh", "I", 12, (0, 0)), ("CoalStreet$Word", "rule", "I", 12, (0, 2)), ("CoalStreet$Word", "letters", "Ljava/lang/String;", 12, (2, -28)), ("java/lang/String", "coder", "B", 14, (0, 0)), ("java/lang/String", "value", "[B", 14, (2, -29)), ("java/lang/String", "coder", "B", 15, (0, 0)), ("java/lang/String", "value", "[B", 15, (2, -30)), ("java/lang/String", "coder", "B", 16, (0, 0)), ("java/lang/String", "value", "[B", 16, (2, -31)), ("java/lang/String", "coder", "B", 17, (0, 0)), ("java/lang/String", "value", "[B", 17, (2, -32)), ("java/lang/String", "coder", "B", 18, (0, 0)), ("java/lang/String", "value", "[B", 18, (2, -33)), ("java/lang/String", "coder", "B", 19, (0, 0)), ("java/lang/String", "value", "[B", 19, (2, -34)), ("java/lang/String", "coder", "B", 20, (0, 0)), ("java/lang/String", "value", "[B", 20, (2, -35)), ("java/lang/String", "coder", "B", 21, (0, 0)), ("java/lang/String", "value", "[B", 21, (2, -36)), ("java/lang/String", "coder", "B", 22, (0, 0)), ("java/lang/String", "value", "[B", 22, (2, -37)), ("java/lang/String", "coder", "B", 23, (0, 0)), ("java/lang/String", "value", "[B", 23, (2, -38)), ("java/lang/String", "coder", "B", 24, (0, 0)), ("java/lang/String", "value", "[B", 24, (2, -39)), ("java/lang/String", "coder", "B", 25, (0, 0)), ("java/lang/String", "value", "[B", 25, (2, -40)), ("java/lang/String", "coder", "B", 26, (0, 0)), ("java/lang/String", "value", "[B", 26, (2, -41))]
def a_kZ : List (String × String × String × aV) := [("CoalStreet$Word", "WHOLE", "LCoalStreet$Word;", (2, -2)), ("CoalStreet$Word", "ABOVE", "LCoalStreet$Word;", (2, -3)), ("CoalStreet$Word", "STEP", "LCoalStreet$Word;", (2, -4)), ("CoalStreet$Word", "CART", "LCoalStreet$Word;", (2, -5)), ("CoalStreet$Word", "GATHER", "LCoalStreet$Word;", (2, -6)), ("CoalStreet$Word", "KEEP", "LCoalStreet$Word;", (2, -7)), ("CoalStreet$Word", "MONTHS", "LCoalStreet$Word;", (2, -8)), ("CoalStreet$Word", "RISE", "LCoalStreet$Word;", (2, -9)), ("CoalStreet$Word", "LATE", "LCoalStreet$Word;", (2, -10)), ("CoalStreet$Word", "RULE", "LCoalStreet$Word;", (2, -11)), ("CoalStreet$Word", "PARTS", "LCoalStreet$Word;", (2, -12)), ("CoalStreet$Word", "ALONE", "LCoalStreet$Word;", (2, -13)), ("CoalStreet$Word", "ALIKE", "LCoalStreet$Word;", (2, -14)), ("CoalStreet$Word", "ALL", "[LCoalStreet$Word;", (2, -15)), ("java/lang/String", "COMPACT_STRINGS", "Z", (0, 1))]
def a_kT : List (FieldType × Nat × List aV) := [(.object "CoalStreet$Word", 13, [(2, -2), (2, -3), (2, -4), (2, -5), (2, -6), (2, -7), (2, -8), (2, -9), (2, -10), (2, -11), (2, -12), (2, -13), (2, -14)]), (.byte, 27, [(0, 119), (0, 104), (0, 111), (0, 108), (0, 101)]), (.byte, 28, [(0, 97), (0, 98), (0, 111), (0, 118), (0, 101)]), (.byte, 29, [(0, 115), (0, 116), (0, 101), (0, 112)]), (.byte, 30, [(0, 99), (0, 97), (0, 114), (0, 116)]), (.byte, 31, [(0, 103), (0, 97), (0, 116), (0, 104), (0, 101), (0, 114)]), (.byte, 32, [(0, 107), (0, 101), (0, 101), (0, 112)]), (.byte, 33, [(0, 109), (0, 111), (0, 110), (0, 116), (0, 104), (0, 115)]), (.byte, 34, [(0, 114), (0, 105), (0, 115), (0, 101)]), (.byte, 35, [(0, 108), (0, 97), (0, 116), (0, 101)]), (.byte, 36, [(0, 114), (0, 117), (0, 108), (0, 101)]), (.byte, 37, [(0, 112), (0, 97), (0, 114), (0, 116), (0, 115)]), (.byte, 38, [(0, 97), (0, 108), (0, 111), (0, 110), (0, 101)]), (.byte, 39, [(0, 97), (0, 108), (0, 105), (0, 107), (0, 101)])]
def a_kR : List (Nat × String × Nat) := [(217, "whole", 14), (219, "above", 15), (221, "step", 16), (226, "cart", 17), (231, "gather", 18), (237, "keep", 19), (239, "months", 20), (241, "rise", 21), (246, "late", 22), (248, "rule", 23), (207, "parts", 24), (213, "alone", 25), (215, "alike", 26)]
/-- the script's numbers, in the constants from 43 on -/
def a_sc (E : aE) (j : Nat) : Int32 := Int32.ofNat (E.2.2.2 (43 + j))
def a_kh (E : aE) (s : State) (H : Heap) : Prop := (∀ q ∈ a_kO, va_O q.2 (E.2.2.2 q.1) (a_A E) s H) ∧ (∀ q ∈ a_kF, va_OF q.1 q.2.1 q.2.2.1 (a_kv E q.2.2.2.2) (E.2.2.2 q.2.2.2.1) (a_A E) s H) ∧ (∀ q ∈ a_kZ, va_Z q.1 q.2.1 q.2.2.1 (a_kv E q.2.2.2) (a_A E) s H) ∧ (∀ q ∈ a_kT, va_T q.1 (E.2.2.2 q.2.1) q.2.2.length (fun j => a_kv E (q.2.2.getD j (0, 0))) (a_A E) s H) ∧ (va_Z "jdk/internal/util/Preconditions" "SIOOBE_FORMATTER" "Ljava/util/function/BiFunction;" .null (a_A E) s H ∨ va_Z "jdk/internal/util/Preconditions" "SIOOBE_FORMATTER" "Ljava/util/function/BiFunction;" (.ref (E.2.2.2 40)) (a_A E) s H) ∧ va_T .int (E.2.2.2 41) (E.2.2.2 42) (fun j => .int (a_sc E j)) (a_A E) s H
theorem a_kh.moved {E : aE} {u U : State} {H : Heap} (hvm : u.vm.Alike U.vm) (h : a_kh E u H) : a_kh E U H := ⟨fun q w => va_O.moved hvm (h.1 q w), fun q w => va_OF.moved hvm (h.2.1 q w), fun q w => va_Z.moved hvm (h.2.2.1 q w), fun q w => va_T.moved hvm (h.2.2.2.1 q w), h.2.2.2.2.1.imp (va_Z.moved hvm) (va_Z.moved hvm), va_T.moved hvm h.2.2.2.2.2⟩
theorem a_kh.kept {E : aE} {U : State} {H H1 : Heap} (h : a_kh E U H) (hq : ∀ a : Nat, a < H.size → ¬ a_A E a → H1[a]? = H[a]?) : a_kh E U H1 := ⟨fun q w => (h.1 q w).kept hq, fun q w => (h.2.1 q w).kept hq, fun q w => (h.2.2.1 q w).kept hq, fun q w => (h.2.2.2.1 q w).kept hq, h.2.2.2.2.1.imp (fun q => q.kept hq) (fun q => q.kept hq), h.2.2.2.2.2.kept hq⟩
/-- which exceptions are none of the others -/
def a_ncL : List (String × String) := [("java/util/NoSuchElementException", "java/lang/IllegalArgumentException"), ("java/lang/IllegalStateException", "java/lang/IllegalArgumentException"), ("java/lang/IndexOutOfBoundsException", "java/lang/IllegalArgumentException"), ("java/lang/IllegalArgumentException", "java/util/NoSuchElementException"), ("java/lang/IllegalStateException", "java/util/NoSuchElementException"), ("java/lang/IndexOutOfBoundsException", "java/util/NoSuchElementException"), ("java/lang/IllegalArgumentException", "java/lang/IllegalStateException"), ("java/util/NoSuchElementException", "java/lang/IllegalStateException"), ("java/lang/IndexOutOfBoundsException", "java/lang/IllegalStateException"), ("java/lang/IllegalArgumentException", "java/lang/IndexOutOfBoundsException"), ("java/util/NoSuchElementException", "java/lang/IndexOutOfBoundsException"), ("java/lang/IllegalStateException", "java/lang/IndexOutOfBoundsException")]
def a_nc (s : State) : Prop := ∀ q ∈ a_ncL, va_Nc q.1 q.2 s
theorem a_nc.moved {u U : State} (hvm : u.vm.Alike U.vm) (h : a_nc u) : a_nc U := fun q w => va_Nc.moved hvm (h q w)
/-- the constants -/
def a_k (E : aE) (s : State) (H : Heap) : Prop := a_kh E s H ∧ (∀ q ∈ a_kR, vk_R "CoalStreetModel" q.1 q.2.1 (E.2.2.2 q.2.2) s) ∧ (∀ i j : Nat, i < 13 → j < 13 → E.2.2.2 i = E.2.2.2 j → i = j) ∧ E.2.2.2 42 ≤ 3072 ∧ a_nc s
theorem a_k.same {E : aE} {u U : State} {H : Heap} (hv : U.vm = u.vm) (h : a_k E u H) : a_k E U H := ⟨h.1.moved (by rw [hv]; exact Vm.Alike.refl _), fun q w => vk_R.same hv (h.2.1 q w), h.2.2.1, h.2.2.2.1, h.2.2.2.2.moved (by rw [hv]; exact Vm.Alike.refl _)⟩
theorem a_k.warm {E : aE} {s U : State} {H H1 : Heap} (hW : s.WarmedH U.vm) (h : a_k E s H) (hq : ∀ a : Nat, a < H.size → ¬ a_A E a → H1[a]? = H[a]?) : a_k E U H1 := ⟨(h.1.kept hq).moved hW.alike, fun q w => vk_R.warm hW (h.2.1 q w), h.2.2.1, h.2.2.2.1, h.2.2.2.2.moved hW.alike⟩
/-- what of the start goes on to hold -/
def a_st (E : aE) (s : State) (H : Heap) : Prop := (∀ w ∈ a_nest, va_Nw w s) ∧ vx_Zq Bundle.tN "UNASSIGNED_STACK" Bundle.steD (a_A E) s H ∧ vx_Zq Bundle.tN "SUPPRESSED_SENTINEL" Bundle.listD (a_A E) s H ∧ a_ao s ∧ a_k E s H
def a_vok (N : Nat) (v : aV) : Prop := match v.1 with
  | 0 => -2147483648 ≤ v.2 ∧ v.2 ≤ 2147483647
  | 1 => -9223372036854775808 ≤ v.2 ∧ v.2 ≤ 9223372036854775807
  | _ => v.2 < N
def a_xn : Nat → String
  | 0 => "java/lang/IllegalArgumentException"
  | 1 => "java/lang/IllegalStateException"
  | 2 => "java/util/NoSuchElementException"
  | _ => "java/lang/IndexOutOfBoundsException"
def a_ext (ad ad' : Nat → Nat) (N N' : Nat) (S S' : aS) : Prop := N ≤ N' ∧ ∀ i : Nat, i < N → ad' i = ad i ∧ (S' i).1 = (S i).1
def a_Qc (E : aE) (ad0 : Nat → Nat) (N0 : Nat) (S0 : aS) (Q : aQ) : Array Value → State → Outcome → State → Prop := fun _ st o t =>
  (∃ (r : Option aV) (ad' : Nat → Nat) (N' : Nat) (S' : aS) (M' : aM), o = .returned (r.map (a_cv E ad')) ∧ a_ext ad0 ad' N0 N' S0 S' ∧ a_w E ad' N' S' M' t.heap ∧ (∀ v, r = some v → a_vok N' v) ∧ Q (.inl r) N' S' M') ∧ va_F (a_A E) st t
def a_XC (E : aE) (ad0 : Nat → Nat) (N0 : Nat) (S0 : aS) (Q : aQ) : String → State → State → Prop := fun x st t =>
  (∃ (k : Nat) (ad' : Nat → Nat) (N' : Nat) (S' : aS) (M' : aM), x = a_xn k ∧ a_ext ad0 ad' N0 N' S0 S' ∧ a_w E ad' N' S' M' t.heap ∧ Q (.inr k) N' S' M') ∧ va_F (a_A E) st t
/-- what holds all through a body -/
def a_B (l : Launch) (E : aE) (P : aP) (p : Program) (s : State) (m : MethodId) (args : Array Value) (meth : Method) (c : Code) : Prop :=
  p.tables.exec = Jvm.exec ∧ c.code = P.2.1 ∧ meth.sig.returnType = P.2.2.2.1 ∧ c.maxLocals = P.2.2.1 ∧ s.vm.findClass P.1.cls = some m.cls ∧ (∀ w ∈ lw_ok, w.before args s = true) ∧ meth.locks = false ∧ va_K E.1 vwCl (a_tys E) s ∧ a_st E s s.heap ∧ c.exceptionTable.toList = tableOf P.2.2.2.2.2 ∧ (P.1.name = "<init>" → meth.name = "<init>") ∧ l.stackTraces = false ∧ E.2.2.1 ≤ s.heap.size
def a_lo (E : aE) (ad : Nat → Nat) (lo : List (Nat × aV)) : List (Nat × Value) := lo.map (fun q => (q.1, a_cv E ad q.2))
/-- FROM HERE the body comes to an end with Q -/
def aX (l : Launch) (E : aE) (P : aP) (Q : aQ) (kc ks : Nat) (N : Nat) (S : aS) (M : aM) (pc : Nat) (lo : List (Nat × aV)) (st : List aV) : Prop :=
  ∀ (p : Program) (e : Env) (s : State) (m : MethodId) (args : Array Value) (below : List Frame) (meth : Method) (c : Code) (H : Heap) (locs : List Loc) (ls : Array Slot) (ad0 ad : Nat → Nat) (N0 : Nat) (S0 : aS),
    a_B l E P p s m args meth c → a_w E ad N S M H → a_ext ad0 ad N0 N S0 S → va_S (a_A E) s.heap H locs → lv_has ls P.2.2.1 (a_lo E ad lo) → (∀ v ∈ st, a_vok N v) → (∀ q ∈ lo, a_vok N q.2) →
    W p l e P.2.2.2.2.1 s m args below meth c H locs kc ks (vx_MQ below (a_Qc E ad0 N0 S0 Q) (a_XC E ad0 N0 S0 Q) args s P.2.2.2.2.1.cells P.2.2.2.2.1.slots (a_A E)) (F0 m pc ls (st.map (a_cv E ad)))
/-- ONE STEP that touches no heap and no locals -/
theorem aX.pure {l : Launch} {E : aE} {P : aP} {Q : aQ} {kc ks N : Nat} {S : aS} {M : aM} {pc pc' : Nat} {lo : List (Nat × aV)} {st st' : List aV} (k : aX l E P Q kc ks N S M pc' lo st')
    (hst : (∀ v ∈ st, a_vok N v) → (∀ q ∈ lo, a_vok N q.2) → ∀ v ∈ st', a_vok N v)
    (h : ∀ (p : Program) (e : Env) (s : State) (m : MethodId) (args : Array Value) (below : List Frame) (meth : Method) (c : Code) (H : Heap) (locs : List Loc) (ls : Array Slot) (ad : Nat → Nat) (Z : State → Prop), a_B l E P p s m args meth c → a_w E ad N S M H → lv_has ls P.2.2.1 (a_lo E ad lo) → (∀ v ∈ st, a_vok N v) →
      W p l e P.2.2.2.2.1 s m args below meth c H locs kc ks Z (F0 m pc' ls (st'.map (a_cv E ad))) → W p l e P.2.2.2.2.1 s m args below meth c H locs kc ks Z (F0 m pc ls (st.map (a_cv E ad)))) : aX l E P Q kc ks N S M pc lo st :=
  fun p e s m args below meth c H locs ls ad0 ad N0 S0 B w x hS hl h1 h2 => h p e s m args below meth c H locs ls ad _ B w hl h1 (k p e s m args below meth c H locs ls ad0 ad N0 S0 B w x hS hl (hst h1 h2) h2)
/-! ints -/
theorem a_i32 {n : Int} (h : -2147483648 ≤ n ∧ n ≤ 2147483647) : (Int32.ofInt n).toInt = n := by
  rw [Int32.toInt_ofInt]
  show n.bmod 4294967296 = n
  exact Int.bmod_eq_of_le (by omega) (by omega)
theorem a_i64 {n : Int} (h : -9223372036854775808 ≤ n ∧ n ≤ 9223372036854775807) : (Int64.ofInt n).toInt = n := by
  rw [Int64.toInt_ofInt]
  show n.bmod 18446744073709551616 = n
  exact Int.bmod_eq_of_le (by omega) (by omega)
theorem a_r32 (x : Int32) : -2147483648 ≤ x.toInt ∧ x.toInt ≤ 2147483647 := ⟨Int32.le_toInt x, Int.lt_add_one_iff.mp (Int32.toInt_lt x)⟩
theorem a_r64 (x : Int64) : -9223372036854775808 ≤ x.toInt ∧ x.toInt ≤ 9223372036854775807 := ⟨Int64.le_toInt x, Int.lt_add_one_iff.mp (Int64.toInt_lt x)⟩
theorem a_cons {N : Nat} {v : aV} {st : List aV} (h : a_vok N v) (hs : ∀ w ∈ st, a_vok N w) : ∀ w ∈ v :: st, a_vok N w := List.forall_mem_cons.mpr ⟨h, hs⟩
theorem a_hd {N : Nat} {v : aV} {st : List aV} (hs : ∀ w ∈ v :: st, a_vok N w) : a_vok N v := hs v List.mem_cons_self
theorem a_tl {N : Nat} {v : aV} {st : List aV} (hs : ∀ w ∈ v :: st, a_vok N w) : ∀ w ∈ st, a_vok N w := fun w h => hs w (List.mem_cons_of_mem _ h)
/-! bits of ints -/
def b_and (a b : Int) : Int := (Int32.ofInt a &&& Int32.ofInt b).toInt
def b_or (a b : Int) : Int := (Int32.ofInt a ||| Int32.ofInt b).toInt
def b_xor (a b : Int) : Int := (Int32.ofInt a ^^^ Int32.ofInt b).toInt
def b_shl (a b : Int) : Int := (Int32.ofInt a <<< (Int32.ofInt b &&& 31)).toInt
def b_shr (a b : Int) : Int := (Int32.ofInt a >>> (Int32.ofInt b &&& 31)).toInt
def b_ushr (a b : Int) : Int := ((Int32.ofInt a).toUInt32 >>> ((Int32.ofInt b).toUInt32 &&& Int32.toUInt32 31)).toInt32.toInt
def b_i2b (a : Int) : Int := (Int32.ofInt a).toInt8.toInt32.toInt
def b_i2s (a : Int) : Int := (Int32.ofInt a).toInt16.toInt32.toInt
def b_l2i (a : Int) : Int := (Int64.ofInt a).toInt32.toInt
def b_land (a b : Int) : Int := (Int64.ofInt a &&& Int64.ofInt b).toInt
def b_lor (a b : Int) : Int := (Int64.ofInt a ||| Int64.ofInt b).toInt
def b_lshl (a b : Int) : Int := (Int64.ofInt a <<< ((Int32.ofInt b).toInt64 &&& 63)).toInt
def b_lshr (a b : Int) : Int := (Int64.ofInt a >>> ((Int32.ofInt b).toInt64 &&& 63)).toInt
/-! locals -/
def a_lk : List (Nat × aV) → Nat → Option aV
  | [], _ => none
  | q :: r, i => if q.1 = i then some q.2 else a_lk r i
theorem a_lk_mem : ∀ {lo : List (Nat × aV)} {i : Nat} {v : aV}, a_lk lo i = some v → (i, v) ∈ lo
  | [], _, _, h => by cases h
  | q :: r, i, v, h => by
    unfold a_lk at h
    split at h
    · rename_i e
      cases h
      subst e
      exact List.mem_cons_self
    · exact List.mem_cons_of_mem _ (a_lk_mem h)
theorem a_lk_at {E : aE} {ad : Nat → Nat} {lo : List (Nat × aV)} {i : Nat} {v : aV} {ls : Array Slot} {n : Nat} (hl : lv_has ls n (a_lo E ad lo)) (h : a_lk lo i = some v) : ls[i]? = some (.val (a_cv E ad v)) :=
  hl.2.2 (i, a_cv E ad v) (List.mem_map.mpr ⟨(i, v), a_lk_mem h, rfl⟩)
def a_s1 (i : Nat) (v : aV) (lo : List (Nat × aV)) : List (Nat × aV) := (i, v) :: lo.filter (fun q => !(q.1 == i) && !(q.1 + 1 == i && q.2.1 == 1))
def a_s2 (i : Nat) (v : aV) (lo : List (Nat × aV)) : List (Nat × aV) := (i, v) :: lo.filter (fun q => !(q.1 == i) && (!(q.1 == i + 1) && !(q.1 + 1 == i && q.2.1 == 1)))
theorem a_cat (E : aE) (ad : Nat → Nat) (v : aV) : ((a_cv E ad v).category == 2) = (v.1 == 1) := by
  obtain ⟨k, n⟩ := v
  match k with
  | 0 => rfl
  | 1 => rfl
  | k + 2 =>
    show ((va_rf (a_ro E ad n)).category == 2) = ((k + 2) == 1)
    rcases va_rf_or (a_ro E ad n) with h | ⟨a, h⟩ <;> rw [h] <;> simp [Value.category]
theorem a_lo_s1 {E : aE} {ad : Nat → Nat} {i : Nat} {v : aV} {lo : List (Nat × aV)} : (i, a_cv E ad v) :: (a_lo E ad lo).filter (fun q => !(q.1 == i) && !(q.1 + 1 == i && q.2.category == 2)) = a_lo E ad (a_s1 i v lo) := by
  unfold a_lo a_s1
  rw [List.map_cons, List.filter_map]
  congr 2
  apply List.filter_congr
  intro q _
  simp only [Function.comp, a_cat]
theorem a_lo_s2 {E : aE} {ad : Nat → Nat} {i : Nat} {v : aV} {lo : List (Nat × aV)} : (i, a_cv E ad v) :: (a_lo E ad lo).filter (fun q => !(q.1 == i) && (!(q.1 == i + 1) && !(q.1 + 1 == i && q.2.category == 2))) = a_lo E ad (a_s2 i v lo) := by
  unfold a_lo a_s2
  rw [List.map_cons, List.filter_map]
  congr 2
  apply List.filter_congr
  intro q _
  simp only [Function.comp, a_cat]
theorem a_ok_s1 {N : Nat} {i : Nat} {v : aV} {lo : List (Nat × aV)} (hv : a_vok N v) (h : ∀ q ∈ lo, a_vok N q.2) : ∀ q ∈ a_s1 i v lo, a_vok N q.2 := fun q hq => by
  rcases List.mem_cons.mp hq with e | e
  · rw [e]; exact hv
  · exact h q (List.mem_filter.mp e).1
theorem a_ok_s2 {N : Nat} {i : Nat} {v : aV} {lo : List (Nat × aV)} (hv : a_vok N v) (h : ∀ q ∈ lo, a_vok N q.2) : ∀ q ∈ a_s2 i v lo, a_vok N q.2 := fun q hq => by
  rcases List.mem_cons.mp hq with e | e
  · rw [e]; exact hv
  · exact h q (List.mem_filter.mp e).1
def a_all (lo : List (Nat × aV)) : List (Nat × aV) → Prop
  | [] => True
  | q :: r => a_lk lo q.1 = some q.2 ∧ a_all lo r
theorem a_all_mem {lo : List (Nat × aV)} : ∀ {l : List (Nat × aV)}, a_all lo l → ∀ q ∈ l, q ∈ lo
  | [], _, _, h => by cases h
  | q :: r, h, x, hx => by
    rcases List.mem_cons.mp hx with e | e
    · rw [e]; exact a_lk_mem h.1
    · exact a_all_mem h.2 x e
theorem a_z32 : (0 : Int32).toInt = 0 := rfl
theorem a_bip {n : Int} (h : -128 ≤ n ∧ n ≤ 127) : (Int8.ofInt n).toInt32 = Int32.ofInt n := by
  rw [← Int32.toInt_inj, Int8.toInt_toInt32, a_i32 ⟨by omega, by omega⟩, Int8.toInt_ofInt]
  show n.bmod 256 = n
  exact Int.bmod_eq_of_le (by omega) (by omega)
theorem a_sip {n : Int} (h : -32768 ≤ n ∧ n ≤ 32767) : (Int16.ofInt n).toInt32 = Int32.ofInt n := by
  rw [← Int32.toInt_inj, Int16.toInt_toInt32, a_i32 ⟨by omega, by omega⟩, Int16.toInt_ofInt]
  show n.bmod 65536 = n
  exact Int.bmod_eq_of_le (by omega) (by omega)
theorem a_w64 {N : Nat} {a : Int} (h : a_vok N (0, a)) : a_vok N (1, a) := by
  have h : -2147483648 ≤ a ∧ a ≤ 2147483647 := h
  show -9223372036854775808 ≤ a ∧ a ≤ 9223372036854775807
  omega
theorem a_i2l {N : Nat} {a : Int} (h : a_vok N (0, a)) : (Int32.ofInt a).toInt64 = Int64.ofInt a := by
  rw [← Int64.toInt_inj, Int32.toInt_toInt64, a_i32 h, a_i64 (a_w64 h)]
theorem a_nz32 {N : Nat} {b : Int} (h : a_vok N (0, b)) (hb : b ≠ 0) : ¬ Int32.ofInt b = 0 := fun q => hb (by
  have := congrArg Int32.toInt q
  rw [a_i32 h] at this
  exact this)
theorem a_nz64 {N : Nat} {b : Int} (h : a_vok N (1, b)) (hb : b ≠ 0) : ¬ Int64.ofInt b = 0 := fun q => hb (by
  have := congrArg Int64.toInt q
  rw [a_i64 h] at this
  exact this)
theorem a_div32 {N : Nat} {a b : Int} (ha : a_vok N (0, a)) (hb : a_vok N (0, b)) (r : -2147483648 ≤ a.tdiv b ∧ a.tdiv b ≤ 2147483647) : Int32.ofInt a / Int32.ofInt b = Int32.ofInt (a.tdiv b) := by
  rw [← Int32.toInt_inj, Int32.toInt_div, a_i32 ha, a_i32 hb, a_i32 r]
  show (a.tdiv b).bmod 4294967296 = _
  exact Int.bmod_eq_of_le (by omega) (by omega)
theorem a_div64 {N : Nat} {a b : Int} (ha : a_vok N (1, a)) (hb : a_vok N (1, b)) (r : -9223372036854775808 ≤ a.tdiv b ∧ a.tdiv b ≤ 9223372036854775807) : Int64.ofInt a / Int64.ofInt b = Int64.ofInt (a.tdiv b) := by
  rw [← Int64.toInt_inj, Int64.toInt_div, a_i64 ha, a_i64 hb, a_i64 r]
  show (a.tdiv b).bmod 18446744073709551616 = _
  exact Int.bmod_eq_of_le (by omega) (by omega)
theorem a_tmod_le (a b : Int) : (a.tmod b).natAbs ≤ a.natAbs ∧ (0 ≤ a → 0 ≤ a.tmod b) ∧ (a ≤ 0 → a.tmod b ≤ 0) := by
  refine ⟨?_, fun q => Int.tmod_nonneg _ q, fun q => ?_⟩
  · rw [Int.natAbs_tmod]
    exact Nat.mod_le _ _
  · have h : 0 ≤ (-a).tmod b := Int.tmod_nonneg _ (by omega)
    rw [Int.neg_tmod] at h
    omega
theorem a_tdiv_le {a b : Int} (hb : 0 < b) : (a.tdiv b).natAbs ≤ a.natAbs ∧ (0 ≤ a → 0 ≤ a.tdiv b) ∧ (a ≤ 0 → a.tdiv b ≤ 0) := by
  refine ⟨?_, fun q => Int.tdiv_nonneg q (by omega), fun q => ?_⟩
  · rw [Int.natAbs_tdiv]
    exact Nat.div_le_self _ _
  · have h : 0 ≤ (-a).tdiv b := Int.tdiv_nonneg (by omega) (by omega)
    rw [Int.neg_tdiv] at h
    omega
theorem a_rem32_r {N : Nat} {a b : Int} (ha : a_vok N (0, a)) : a_vok N (0, a.tmod b) := by
  have h : -2147483648 ≤ a ∧ a ≤ 2147483647 := ha
  have h1 := a_tmod_le a b
  show -2147483648 ≤ a.tmod b ∧ a.tmod b ≤ 2147483647
  omega
theorem a_rem64_r {N : Nat} {a b : Int} (ha : a_vok N (1, a)) : a_vok N (1, a.tmod b) := by
  have h : -9223372036854775808 ≤ a ∧ a ≤ 9223372036854775807 := ha
  have h1 := a_tmod_le a b
  show -9223372036854775808 ≤ a.tmod b ∧ a.tmod b ≤ 9223372036854775807
  omega
theorem a_rem32 {N : Nat} {a b : Int} (ha : a_vok N (0, a)) (hb : a_vok N (0, b)) (h0 : 0 < b) : Int32.ofInt a - Int32.ofInt a / Int32.ofInt b * Int32.ofInt b = Int32.ofInt (a.tmod b) := by
  have h : -2147483648 ≤ a ∧ a ≤ 2147483647 := ha
  have h1 := a_tdiv_le (a := a) h0
  rw [a_div32 ha hb (by omega), ← Int32.ofInt_mul, ← Int32.ofInt_sub, Int.tmod_def, Int.mul_comm]
theorem a_rem64 {N : Nat} {a b : Int} (ha : a_vok N (1, a)) (hb : a_vok N (1, b)) (h0 : 0 < b) : Int64.ofInt a - Int64.ofInt a / Int64.ofInt b * Int64.ofInt b = Int64.ofInt (a.tmod b) := by
  have h : -9223372036854775808 ≤ a ∧ a ≤ 9223372036854775807 := ha
  have h1 := a_tdiv_le (a := a) h0
  rw [a_div64 ha hb (by omega), ← Int64.ofInt_mul, ← Int64.ofInt_sub, Int.tmod_def, Int.mul_comm]
theorem a_cat1 {E : aE} {ad : Nat → Nat} {v : aV} (h : (v.1 == 1) = false) : (a_cv E ad v).category = 1 := by
  rcases lv_cat (a_cv E ad v) with q | q
  · exact q
  · have := a_cat E ad v
    rw [q, h] at this
    cases this
section AX1
variable {l : Launch} {E : aE} {P : aP} {Q : aQ} {kc ks N : Nat} {S : aS} {M : aM} {pc : Nat} {lo : List (Nat × aV)} {st : List aV}
theorem x_iconst {n : Int} (hd : decode P.2.1 pc = .ok (.iconst n, 1)) (r : -2147483648 ≤ n ∧ n ≤ 2147483647) (k : aX l E P Q kc ks N S M (pc + 1) lo ((0, n) :: st)) : aX l E P Q kc ks N S M pc lo (st) :=
  aX.pure k (fun h1 h2 => a_cons r h1) fun p e s m args below meth c H locs ls ad Z B w hl h1 z => lv_iconst B.1 B.2.1 hd rfl z
theorem x_bipush {n : Int} (hd : decode P.2.1 pc = .ok (.bipush n, 2)) (r : -128 ≤ n ∧ n ≤ 127) (k : aX l E P Q kc ks N S M (pc + 2) lo ((0, n) :: st)) : aX l E P Q kc ks N S M pc lo (st) :=
  aX.pure k (fun h1 h2 => a_cons ⟨by show -2147483648 ≤ n; omega, by show n ≤ 2147483647; omega⟩ h1) fun p e s m args below meth c H locs ls ad Z B w hl h1 z => lv_bipush B.1 B.2.1 hd (a_bip r) z
theorem x_sipush {n : Int} (hd : decode P.2.1 pc = .ok (.sipush n, 3)) (r : -32768 ≤ n ∧ n ≤ 32767) (k : aX l E P Q kc ks N S M (pc + 3) lo ((0, n) :: st)) : aX l E P Q kc ks N S M pc lo (st) :=
  aX.pure k (fun h1 h2 => a_cons ⟨by show -2147483648 ≤ n; omega, by show n ≤ 2147483647; omega⟩ h1) fun p e s m args below meth c H locs ls ad Z B w hl h1 z => lv_sipush B.1 B.2.1 hd (a_sip r) z
theorem x_lconst {n : Fin 2} (hd : decode P.2.1 pc = .ok (.lconst n, 1)) (k : aX l E P Q kc ks N S M (pc + 1) lo ((1, ((n : Nat) : Int)) :: st)) : aX l E P Q kc ks N S M pc lo (st) :=
  aX.pure k (fun h1 h2 => a_cons ⟨by show (-9223372036854775808 : Int) ≤ ((n : Nat) : Int); omega, by show ((n : Nat) : Int) ≤ 9223372036854775807; have := n.isLt; omega⟩ h1) fun p e s m args below meth c H locs ls ad Z B w hl h1 z => lv_lconst B.1 B.2.1 hd (Int64.ofInt_eq_ofNat (n := (n : Nat))).symm z
theorem x_iload {i : Nat} {n : Int} (hd : decode P.2.1 pc = .ok (.iload i, 2)) (hv : a_lk lo i = some (0, n)) (k : aX l E P Q kc ks N S M (pc + 2) lo ((0, n) :: st)) : aX l E P Q kc ks N S M pc lo (st) :=
  aX.pure k (fun h1 h2 => a_cons (h2 _ (a_lk_mem hv)) h1) fun p e s m args below meth c H locs ls ad Z B w hl h1 z => lv_iload B.1 B.2.1 hd (a_lk_at hl hv) z
theorem x_iload_n {kk : Fin 4} {i : Nat} {n : Int} (hd : decode P.2.1 pc = .ok (.iload_n kk, 1)) (hi : (kk : Nat) = i) (hv : a_lk lo i = some (0, n)) (k : aX l E P Q kc ks N S M (pc + 1) lo ((0, n) :: st)) : aX l E P Q kc ks N S M pc lo (st) :=
  aX.pure k (fun h1 h2 => a_cons (h2 _ (a_lk_mem hv)) h1) fun p e s m args below meth c H locs ls ad Z B w hl h1 z => lv_iload_n B.1 B.2.1 hd hi (a_lk_at hl hv) z
theorem x_lload {i : Nat} {n : Int} (hd : decode P.2.1 pc = .ok (.lload i, 2)) (hv : a_lk lo i = some (1, n)) (k : aX l E P Q kc ks N S M (pc + 2) lo ((1, n) :: st)) : aX l E P Q kc ks N S M pc lo (st) :=
  aX.pure k (fun h1 h2 => a_cons (h2 _ (a_lk_mem hv)) h1) fun p e s m args below meth c H locs ls ad Z B w hl h1 z => lv_lload B.1 B.2.1 hd (a_lk_at hl hv) z
theorem x_lload_n {kk : Fin 4} {i : Nat} {n : Int} (hd : decode P.2.1 pc = .ok (.lload_n kk, 1)) (hi : (kk : Nat) = i) (hv : a_lk lo i = some (1, n)) (k : aX l E P Q kc ks N S M (pc + 1) lo ((1, n) :: st)) : aX l E P Q kc ks N S M pc lo (st) :=
  aX.pure k (fun h1 h2 => a_cons (h2 _ (a_lk_mem hv)) h1) fun p e s m args below meth c H locs ls ad Z B w hl h1 z => lv_lload_n B.1 B.2.1 hd hi (a_lk_at hl hv) z
theorem x_aload {i : Nat} {n : Int} (hd : decode P.2.1 pc = .ok (.aload i, 2)) (hv : a_lk lo i = some (2, n)) (k : aX l E P Q kc ks N S M (pc + 2) lo ((2, n) :: st)) : aX l E P Q kc ks N S M pc lo (st) :=
  aX.pure k (fun h1 h2 => a_cons (h2 _ (a_lk_mem hv)) h1) fun p e s m args below meth c H locs ls ad Z B w hl h1 z => by
    have q := a_lk_at hl hv
    have z : W p l e P.2.2.2.2.1 s m args below meth c H locs kc ks Z (F0 m (pc + 2) ls (va_rf (a_ro E ad n) :: st.map (a_cv E ad))) := z
    have q : ls[i]? = some (.val (va_rf (a_ro E ad n))) := q
    cases hr : a_ro E ad n with
    | none => rw [hr] at q z; exact lv_aloadN B.1 B.2.1 hd q z
    | some a => rw [hr] at q z; exact lv_aload B.1 B.2.1 hd q z
theorem x_aload_n {kk : Fin 4} {i : Nat} {n : Int} (hd : decode P.2.1 pc = .ok (.aload_n kk, 1)) (hi : (kk : Nat) = i) (hv : a_lk lo i = some (2, n)) (k : aX l E P Q kc ks N S M (pc + 1) lo ((2, n) :: st)) : aX l E P Q kc ks N S M pc lo (st) :=
  aX.pure k (fun h1 h2 => a_cons (h2 _ (a_lk_mem hv)) h1) fun p e s m args below meth c H locs ls ad Z B w hl h1 z => by
    have q := a_lk_at hl hv
    have z : W p l e P.2.2.2.2.1 s m args below meth c H locs kc ks Z (F0 m (pc + 1) ls (va_rf (a_ro E ad n) :: st.map (a_cv E ad))) := z
    have q : ls[i]? = some (.val (va_rf (a_ro E ad n))) := q
    cases hr : a_ro E ad n with
    | none => rw [hr] at q z; exact lv_aload_nN B.1 B.2.1 hd hi q z
    | some a => rw [hr] at q z; exact lv_aload_n B.1 B.2.1 hd hi q z
theorem x_iadd {a b : Int} (hd : decode P.2.1 pc = .ok (.iadd, 1)) (r : -2147483648 ≤ a + b ∧ a + b ≤ 2147483647) (k : aX l E P Q kc ks N S M (pc + 1) lo ((0, a + b) :: st)) : aX l E P Q kc ks N S M pc lo ((0, b) :: (0, a) :: st) :=
  aX.pure k (fun h1 h2 => a_cons r (a_tl (a_tl h1))) fun p e s m args below meth c H locs ls ad Z B w hl h1 z => lv_iadd B.1 B.2.1 hd (by rw [← Int32.ofInt_add]; exact z)
theorem x_ladd {a b : Int} (hd : decode P.2.1 pc = .ok (.ladd, 1)) (r : -9223372036854775808 ≤ a + b ∧ a + b ≤ 9223372036854775807) (k : aX l E P Q kc ks N S M (pc + 1) lo ((1, a + b) :: st)) : aX l E P Q kc ks N S M pc lo ((1, b) :: (1, a) :: st) :=
  aX.pure k (fun h1 h2 => a_cons r (a_tl (a_tl h1))) fun p e s m args below meth c H locs ls ad Z B w hl h1 z => lv_ladd B.1 B.2.1 hd (by rw [← Int64.ofInt_add]; exact z)
theorem x_isub {a b : Int} (hd : decode P.2.1 pc = .ok (.isub, 1)) (r : -2147483648 ≤ a - b ∧ a - b ≤ 2147483647) (k : aX l E P Q kc ks N S M (pc + 1) lo ((0, a - b) :: st)) : aX l E P Q kc ks N S M pc lo ((0, b) :: (0, a) :: st) :=
  aX.pure k (fun h1 h2 => a_cons r (a_tl (a_tl h1))) fun p e s m args below meth c H locs ls ad Z B w hl h1 z => lv_isub B.1 B.2.1 hd (by rw [← Int32.ofInt_sub]; exact z)
theorem x_lsub {a b : Int} (hd : decode P.2.1 pc = .ok (.lsub, 1)) (r : -9223372036854775808 ≤ a - b ∧ a - b ≤ 9223372036854775807) (k : aX l E P Q kc ks N S M (pc + 1) lo ((1, a - b) :: st)) : aX l E P Q kc ks N S M pc lo ((1, b) :: (1, a) :: st) :=
  aX.pure k (fun h1 h2 => a_cons r (a_tl (a_tl h1))) fun p e s m args below meth c H locs ls ad Z B w hl h1 z => lv_lsub B.1 B.2.1 hd (by rw [← Int64.ofInt_sub]; exact z)
theorem x_imul {a b : Int} (hd : decode P.2.1 pc = .ok (.imul, 1)) (r : -2147483648 ≤ a * b ∧ a * b ≤ 2147483647) (k : aX l E P Q kc ks N S M (pc + 1) lo ((0, a * b) :: st)) : aX l E P Q kc ks N S M pc lo ((0, b) :: (0, a) :: st) :=
  aX.pure k (fun h1 h2 => a_cons r (a_tl (a_tl h1))) fun p e s m args below meth c H locs ls ad Z B w hl h1 z => lv_imul B.1 B.2.1 hd (by rw [← Int32.ofInt_mul]; exact z)
theorem x_lmul {a b : Int} (hd : decode P.2.1 pc = .ok (.lmul, 1)) (r : -9223372036854775808 ≤ a * b ∧ a * b ≤ 9223372036854775807) (k : aX l E P Q kc ks N S M (pc + 1) lo ((1, a * b) :: st)) : aX l E P Q kc ks N S M pc lo ((1, b) :: (1, a) :: st) :=
  aX.pure k (fun h1 h2 => a_cons r (a_tl (a_tl h1))) fun p e s m args below meth c H locs ls ad Z B w hl h1 z => lv_lmul B.1 B.2.1 hd (by rw [← Int64.ofInt_mul]; exact z)
theorem x_ineg {a : Int} (hd : decode P.2.1 pc = .ok (.ineg, 1)) (r : -2147483648 ≤ -a ∧ -a ≤ 2147483647) (k : aX l E P Q kc ks N S M (pc + 1) lo ((0, -a) :: st)) : aX l E P Q kc ks N S M pc lo ((0, a) :: st) :=
  aX.pure k (fun h1 h2 => a_cons r (a_tl h1)) fun p e s m args below meth c H locs ls ad Z B w hl h1 z => lv_ineg B.1 B.2.1 hd (by rw [← Int32.ofInt_neg]; exact z)
theorem x_lneg {a : Int} (hd : decode P.2.1 pc = .ok (.lneg, 1)) (r : -9223372036854775808 ≤ -a ∧ -a ≤ 9223372036854775807) (k : aX l E P Q kc ks N S M (pc + 1) lo ((1, -a) :: st)) : aX l E P Q kc ks N S M pc lo ((1, a) :: st) :=
  aX.pure k (fun h1 h2 => a_cons r (a_tl h1)) fun p e s m args below meth c H locs ls ad Z B w hl h1 z => lv_lneg B.1 B.2.1 hd (by rw [← Int64.ofInt_neg]; exact z)
theorem x_iand {a b : Int} (hd : decode P.2.1 pc = .ok (.iand, 1)) (k : aX l E P Q kc ks N S M (pc + 1) lo ((0, b_and a b) :: st)) : aX l E P Q kc ks N S M pc lo ((0, b) :: (0, a) :: st) :=
  aX.pure k (fun h1 h2 => a_cons (a_r32 _) (a_tl (a_tl h1))) fun p e s m args below meth c H locs ls ad Z B w hl h1 z => lv_iand B.1 B.2.1 hd (by rw [← Int32.ofInt_toInt (Int32.ofInt a &&& Int32.ofInt b)]; exact z)
theorem x_ior {a b : Int} (hd : decode P.2.1 pc = .ok (.ior, 1)) (k : aX l E P Q kc ks N S M (pc + 1) lo ((0, b_or a b) :: st)) : aX l E P Q kc ks N S M pc lo ((0, b) :: (0, a) :: st) :=
  aX.pure k (fun h1 h2 => a_cons (a_r32 _) (a_tl (a_tl h1))) fun p e s m args below meth c H locs ls ad Z B w hl h1 z => lv_ior B.1 B.2.1 hd (by rw [← Int32.ofInt_toInt (Int32.ofInt a ||| Int32.ofInt b)]; exact z)
theorem x_ixor {a b : Int} (hd : decode P.2.1 pc = .ok (.ixor, 1)) (k : aX l E P Q kc ks N S M (pc + 1) lo ((0, b_xor a b) :: st)) : aX l E P Q kc ks N S M pc lo ((0, b) :: (0, a) :: st) :=
  aX.pure k (fun h1 h2 => a_cons (a_r32 _) (a_tl (a_tl h1))) fun p e s m args below meth c H locs ls ad Z B w hl h1 z => lv_ixor B.1 B.2.1 hd (by rw [← Int32.ofInt_toInt (Int32.ofInt a ^^^ Int32.ofInt b)]; exact z)
theorem x_ishl {a b : Int} (hd : decode P.2.1 pc = .ok (.ishl, 1)) (k : aX l E P Q kc ks N S M (pc + 1) lo ((0, b_shl a b) :: st)) : aX l E P Q kc ks N S M pc lo ((0, b) :: (0, a) :: st) :=
  aX.pure k (fun h1 h2 => a_cons (a_r32 _) (a_tl (a_tl h1))) fun p e s m args below meth c H locs ls ad Z B w hl h1 z => lv_ishl B.1 B.2.1 hd (by rw [← Int32.ofInt_toInt (Int32.ofInt a <<< (Int32.ofInt b &&& 31))]; exact z)
theorem x_lshl {a b : Int} (hd : decode P.2.1 pc = .ok (.lshl, 1)) (k : aX l E P Q kc ks N S M (pc + 1) lo ((1, b_lshl a b) :: st)) : aX l E P Q kc ks N S M pc lo ((0, b) :: (1, a) :: st) :=
  aX.pure k (fun h1 h2 => a_cons (a_r64 _) (a_tl (a_tl h1))) fun p e s m args below meth c H locs ls ad Z B w hl h1 z => lv_lshl B.1 B.2.1 hd (Int64.ofInt_toInt _).symm z
theorem x_ishr {a b : Int} (hd : decode P.2.1 pc = .ok (.ishr, 1)) (k : aX l E P Q kc ks N S M (pc + 1) lo ((0, b_shr a b) :: st)) : aX l E P Q kc ks N S M pc lo ((0, b) :: (0, a) :: st) :=
  aX.pure k (fun h1 h2 => a_cons (a_r32 _) (a_tl (a_tl h1))) fun p e s m args below meth c H locs ls ad Z B w hl h1 z => lv_ishr B.1 B.2.1 hd (by rw [← Int32.ofInt_toInt (Int32.ofInt a >>> (Int32.ofInt b &&& 31))]; exact z)
theorem x_lshr {a b : Int} (hd : decode P.2.1 pc = .ok (.lshr, 1)) (k : aX l E P Q kc ks N S M (pc + 1) lo ((1, b_lshr a b) :: st)) : aX l E P Q kc ks N S M pc lo ((0, b) :: (1, a) :: st) :=
  aX.pure k (fun h1 h2 => a_cons (a_r64 _) (a_tl (a_tl h1))) fun p e s m args below meth c H locs ls ad Z B w hl h1 z => lv_lshr B.1 B.2.1 hd (Int64.ofInt_toInt _).symm z
theorem x_iushr {a b : Int} (hd : decode P.2.1 pc = .ok (.iushr, 1)) (k : aX l E P Q kc ks N S M (pc + 1) lo ((0, b_ushr a b) :: st)) : aX l E P Q kc ks N S M pc lo ((0, b) :: (0, a) :: st) :=
  aX.pure k (fun h1 h2 => a_cons (a_r32 _) (a_tl (a_tl h1))) fun p e s m args below meth c H locs ls ad Z B w hl h1 z => lv_iushr B.1 B.2.1 hd (Int32.ofInt_toInt _).symm z
theorem x_land {a b : Int} (hd : decode P.2.1 pc = .ok (.land, 1)) (k : aX l E P Q kc ks N S M (pc + 1) lo ((1, b_land a b) :: st)) : aX l E P Q kc ks N S M pc lo ((1, b) :: (1, a) :: st) :=
  aX.pure k (fun h1 h2 => a_cons (a_r64 _) (a_tl (a_tl h1))) fun p e s m args below meth c H locs ls ad Z B w hl h1 z => lv_land B.1 B.2.1 hd (by rw [← Int64.ofInt_toInt (Int64.ofInt a &&& Int64.ofInt b)]; exact z)
theorem x_lor {a b : Int} (hd : decode P.2.1 pc = .ok (.lor, 1)) (k : aX l E P Q kc ks N S M (pc + 1) lo ((1, b_lor a b) :: st)) : aX l E P Q kc ks N S M pc lo ((1, b) :: (1, a) :: st) :=
  aX.pure k (fun h1 h2 => a_cons (a_r64 _) (a_tl (a_tl h1))) fun p e s m args below meth c H locs ls ad Z B w hl h1 z => lv_lor B.1 B.2.1 hd (by rw [← Int64.ofInt_toInt (Int64.ofInt a ||| Int64.ofInt b)]; exact z)
theorem x_i2b {a : Int} (hd : decode P.2.1 pc = .ok (.i2b, 1)) (k : aX l E P Q kc ks N S M (pc + 1) lo ((0, b_i2b a) :: st)) : aX l E P Q kc ks N S M pc lo ((0, a) :: st) :=
  aX.pure k (fun h1 h2 => a_cons (a_r32 _) (a_tl h1)) fun p e s m args below meth c H locs ls ad Z B w hl h1 z => lv_i2b B.1 B.2.1 hd (Int32.ofInt_toInt _).symm z
theorem x_i2s {a : Int} (hd : decode P.2.1 pc = .ok (.i2s, 1)) (k : aX l E P Q kc ks N S M (pc + 1) lo ((0, b_i2s a) :: st)) : aX l E P Q kc ks N S M pc lo ((0, a) :: st) :=
  aX.pure k (fun h1 h2 => a_cons (a_r32 _) (a_tl h1)) fun p e s m args below meth c H locs ls ad Z B w hl h1 z => lv_i2s B.1 B.2.1 hd (Int32.ofInt_toInt _).symm z
theorem x_l2i {a : Int} (hd : decode P.2.1 pc = .ok (.l2i, 1)) (k : aX l E P Q kc ks N S M (pc + 1) lo ((0, b_l2i a) :: st)) : aX l E P Q kc ks N S M pc lo ((1, a) :: st) :=
  aX.pure k (fun h1 h2 => a_cons (a_r32 _) (a_tl h1)) fun p e s m args below meth c H locs ls ad Z B w hl h1 z => lv_l2i B.1 B.2.1 hd (Int32.ofInt_toInt _).symm z
theorem x_i2l {a : Int} (hd : decode P.2.1 pc = .ok (.i2l, 1)) (k : aX l E P Q kc ks N S M (pc + 1) lo ((1, a) :: st)) : aX l E P Q kc ks N S M pc lo ((0, a) :: st) :=
  aX.pure k (fun h1 h2 => a_cons (a_w64 (a_hd h1)) (a_tl h1)) fun p e s m args below meth c H locs ls ad Z B w hl h1 z => lv_i2l B.1 B.2.1 hd (a_i2l (a_hd h1)) z
theorem x_idiv {a b : Int} (hd : decode P.2.1 pc = .ok (.idiv, 1)) (hb : b ≠ 0) (r : -2147483648 ≤ a.tdiv b ∧ a.tdiv b ≤ 2147483647) (k : aX l E P Q kc ks N S M (pc + 1) lo ((0, a.tdiv b) :: st)) : aX l E P Q kc ks N S M pc lo ((0, b) :: (0, a) :: st) :=
  aX.pure k (fun h1 h2 => a_cons r (a_tl (a_tl h1))) fun p e s m args below meth c H locs ls ad Z B w hl h1 z => lv_idiv B.1 B.2.1 hd (a_nz32 (a_hd h1) hb) (by rw [a_div32 (a_hd (a_tl h1)) (a_hd h1) r]; exact z)
theorem x_irem {a b : Int} (hd : decode P.2.1 pc = .ok (.irem, 1)) (hb : 0 < b) (k : aX l E P Q kc ks N S M (pc + 1) lo ((0, a.tmod b) :: st)) : aX l E P Q kc ks N S M pc lo ((0, b) :: (0, a) :: st) :=
  aX.pure k (fun h1 h2 => a_cons (a_rem32_r (a_hd (a_tl h1))) (a_tl (a_tl h1))) fun p e s m args below meth c H locs ls ad Z B w hl h1 z => lv_irem B.1 B.2.1 hd (a_nz32 (a_hd h1) (by omega)) (by show W p l e P.2.2.2.2.1 s m args below meth c H locs kc ks Z (F0 m (pc + 1) ls (.int (Int32.ofInt a - Int32.ofInt a / Int32.ofInt b * Int32.ofInt b) :: _)); rw [a_rem32 (a_hd (a_tl h1)) (a_hd h1) hb]; exact z)
theorem x_ldiv {a b : Int} (hd : decode P.2.1 pc = .ok (.ldiv, 1)) (hb : b ≠ 0) (r : -9223372036854775808 ≤ a.tdiv b ∧ a.tdiv b ≤ 9223372036854775807) (k : aX l E P Q kc ks N S M (pc + 1) lo ((1, a.tdiv b) :: st)) : aX l E P Q kc ks N S M pc lo ((1, b) :: (1, a) :: st) :=
  aX.pure k (fun h1 h2 => a_cons r (a_tl (a_tl h1))) fun p e s m args below meth c H locs ls ad Z B w hl h1 z => lv_ldiv B.1 B.2.1 hd (a_nz64 (a_hd h1) hb) (by rw [a_div64 (a_hd (a_tl h1)) (a_hd h1) r]; exact z)
theorem x_lrem {a b : Int} (hd : decode P.2.1 pc = .ok (.lrem, 1)) (hb : 0 < b) (k : aX l E P Q kc ks N S M (pc + 1) lo ((1, a.tmod b) :: st)) : aX l E P Q kc ks N S M pc lo ((1, b) :: (1, a) :: st) :=
  aX.pure k (fun h1 h2 => a_cons (a_rem64_r (a_hd (a_tl h1))) (a_tl (a_tl h1))) fun p e s m args below meth c H locs ls ad Z B w hl h1 z => lv_lrem B.1 B.2.1 hd (a_nz64 (a_hd h1) (by omega)) (by show W p l e P.2.2.2.2.1 s m args below meth c H locs kc ks Z (F0 m (pc + 1) ls (.long (Int64.ofInt a - Int64.ofInt a / Int64.ofInt b * Int64.ofInt b) :: _)); rw [a_rem64 (a_hd (a_tl h1)) (a_hd h1) hb]; exact z)
theorem x_dup {v : aV} (hd : decode P.2.1 pc = .ok (.dup, 1)) (hv : (v.1 == 1) = false) (k : aX l E P Q kc ks N S M (pc + 1) lo (v :: v :: st)) : aX l E P Q kc ks N S M pc lo (v :: st) :=
  aX.pure k (fun h1 h2 => a_cons (a_hd h1) h1) fun p e s m args below meth c H locs ls ad Z B w hl h1 z => lv_dup B.1 B.2.1 hd (a_cat1 hv) z
theorem x_pop {v : aV} (hd : decode P.2.1 pc = .ok (.pop, 1)) (hv : (v.1 == 1) = false) (k : aX l E P Q kc ks N S M (pc + 1) lo (st)) : aX l E P Q kc ks N S M pc lo (v :: st) :=
  aX.pure k (fun h1 h2 => a_tl h1) fun p e s m args below meth c H locs ls ad Z B w hl h1 z => lv_pop B.1 B.2.1 hd (a_cat1 hv) z
theorem x_dup2 {v u : aV} (hd : decode P.2.1 pc = .ok (.dup2, 1)) (hv : (v.1 == 1) = false) (hu : (u.1 == 1) = false) (k : aX l E P Q kc ks N S M (pc + 1) lo (v :: u :: v :: u :: st)) : aX l E P Q kc ks N S M pc lo (v :: u :: st) :=
  aX.pure k (fun h1 h2 => a_cons (a_hd h1) (a_cons (a_hd (a_tl h1)) h1)) fun p e s m args below meth c H locs ls ad Z B w hl h1 z => lv_dup2_11 B.1 B.2.1 hd (a_cat1 hv) (a_cat1 hu) z
theorem x_dup2l {n : Int} (hd : decode P.2.1 pc = .ok (.dup2, 1)) (k : aX l E P Q kc ks N S M (pc + 1) lo ((1, n) :: (1, n) :: st)) : aX l E P Q kc ks N S M pc lo ((1, n) :: st) :=
  aX.pure k (fun h1 h2 => a_cons (a_hd h1) h1) fun p e s m args below meth c H locs ls ad Z B w hl h1 z => lv_dup2_2 B.1 B.2.1 hd rfl z
theorem x_dup_x1 {v u : aV} (hd : decode P.2.1 pc = .ok (.dup_x1, 1)) (hv : (v.1 == 1) = false) (hu : (u.1 == 1) = false) (k : aX l E P Q kc ks N S M (pc + 1) lo (v :: u :: v :: st)) : aX l E P Q kc ks N S M pc lo (v :: u :: st) :=
  aX.pure k (fun h1 h2 => a_cons (a_hd h1) (a_cons (a_hd (a_tl h1)) (a_cons (a_hd h1) (a_tl (a_tl h1))))) fun p e s m args below meth c H locs ls ad Z B w hl h1 z => lv_dup_x1 B.1 B.2.1 hd (a_cat1 hv) (a_cat1 hu) z
theorem x_dup_x2 {v u w9 : aV} (hd : decode P.2.1 pc = .ok (.dup_x2, 1)) (hv : (v.1 == 1) = false) (hu : (u.1 == 1) = false) (hw : (w9.1 == 1) = false) (k : aX l E P Q kc ks N S M (pc + 1) lo (v :: u :: w9 :: v :: st)) : aX l E P Q kc ks N S M pc lo (v :: u :: w9 :: st) :=
  aX.pure k (fun h1 h2 => a_cons (a_hd h1) (a_cons (a_hd (a_tl h1)) (a_cons (a_hd (a_tl (a_tl h1))) (a_cons (a_hd h1) (a_tl (a_tl (a_tl h1))))))) fun p e s m args below meth c H locs ls ad Z B w hl h1 z => lv_dup_x2 B.1 B.2.1 hd (a_cat1 hv) (a_cat1 hu) (a_cat1 hw) z
theorem x_goto {off : Int} {tgt : Nat} (hd : decode P.2.1 pc = .ok (.goto off, 3)) (ht : (pc : Int) + off = (tgt : Int)) (k : aX l E P Q kc ks N S M tgt lo st) : aX l E P Q kc ks N S M pc lo st :=
  aX.pure k (fun h1 _ => h1) fun p e s m args below meth c H locs ls ad Z B w hl h1 z => lv_goto B.1 B.2.1 hd ht z
theorem x_null (hd : decode P.2.1 pc = .ok (.aconst_null, 1)) (k : aX l E P Q kc ks N S M (pc + 1) lo ((2, -1) :: st)) : aX l E P Q kc ks N S M pc lo st :=
  aX.pure k (fun h1 _ => a_cons (by show (-1 : Int) < (N : Int); omega) h1) fun p e s m args below meth c H locs ls ad Z B w hl h1 z => lv_null B.1 B.2.1 hd z
theorem x_ldc {n : Int} {i : Nat} (hw : (Cond.constant P.1.cls i (Int32.ofInt n)) ∈ lw_ok) (r : -2147483648 ≤ n ∧ n ≤ 2147483647) (hd : decode P.2.1 pc = .ok (.ldc i, 2)) (k : aX l E P Q kc ks N S M (pc + 2) lo ((0, n) :: st)) : aX l E P Q kc ks N S M pc lo st :=
  aX.pure k (fun h1 _ => a_cons r h1) fun p e s m args below meth c H locs ls ad Z B w hl h1 z => lv_ldc B.1 B.2.1 B.2.2.2.2.1 (B.2.2.2.2.2.1 _ hw) hd z
theorem x_ldcw {n : Int} {i : Nat} (hw : (Cond.constant P.1.cls i (Int32.ofInt n)) ∈ lw_ok) (r : -2147483648 ≤ n ∧ n ≤ 2147483647) (hd : decode P.2.1 pc = .ok (.ldc_w i, 3)) (k : aX l E P Q kc ks N S M (pc + 3) lo ((0, n) :: st)) : aX l E P Q kc ks N S M pc lo st :=
  aX.pure k (fun h1 _ => a_cons r h1) fun p e s m args below meth c H locs ls ad Z B w hl h1 z => lv_ldcw B.1 B.2.1 B.2.2.2.2.1 (B.2.2.2.2.2.1 _ hw) hd z
theorem x_ldc2 {n : Int} {i : Nat} (hw : (Cond.constantLong P.1.cls i (Int64.ofInt n)) ∈ lw_ok) (r : -9223372036854775808 ≤ n ∧ n ≤ 9223372036854775807) (hd : decode P.2.1 pc = .ok (.ldc2_w i, 3)) (k : aX l E P Q kc ks N S M (pc + 3) lo ((1, n) :: st)) : aX l E P Q kc ks N S M pc lo st :=
  aX.pure k (fun h1 _ => a_cons r h1) fun p e s m args below meth c H locs ls ad Z B w hl h1 z => lv_ldc2 B.1 B.2.1 B.2.2.2.2.1 (B.2.2.2.2.2.1 _ hw) hd z
theorem x_istore_n {kk : Fin 4} {i : Nat} {n : Int} {lo' : List (Nat × aV)} (hd : decode P.2.1 pc = .ok (.istore_n kk, 1)) (hi : (kk : Nat) = i) (hn : i < P.2.2.1) (hs : a_s1 i (0, n) lo = lo') (k : aX l E P Q kc ks N S M (pc + 1) lo' st) : aX l E P Q kc ks N S M pc lo ((0, n) :: st) := by
  subst hs
  intro p e s m args below meth c H locs ls ad0 ad N0 S0 B w x hS hl h1 h2
  have kk9 : ∀ ls' : Array Slot, lv_has ls' P.2.2.1 (a_lo E ad (a_s1 i (0, n) lo)) → W p l e P.2.2.2.2.1 s m args below meth c H locs kc ks (vx_MQ below (a_Qc E ad0 N0 S0 Q) (a_XC E ad0 N0 S0 Q) args s P.2.2.2.2.1.cells P.2.2.2.2.1.slots (a_A E)) (F0 m (pc + 1) ls' (st.map (a_cv E ad))) := fun ls' hl' => k p e s m args below meth c H locs ls' ad0 ad N0 S0 B w x hS hl' (a_tl h1) (a_ok_s1 (a_hd h1) h2)
  exact lv_istore_n B.1 B.2.1 hd hi hl hn (a_lo_s1 (v := (0, n))) kk9
theorem x_istore {i : Nat} {n : Int} {lo' : List (Nat × aV)} (hd : decode P.2.1 pc = .ok (.istore i, 2)) (hn : i < P.2.2.1) (hs : a_s1 i (0, n) lo = lo') (k : aX l E P Q kc ks N S M (pc + 2) lo' st) : aX l E P Q kc ks N S M pc lo ((0, n) :: st) := by
  subst hs
  intro p e s m args below meth c H locs ls ad0 ad N0 S0 B w x hS hl h1 h2
  have kk9 : ∀ ls' : Array Slot, lv_has ls' P.2.2.1 (a_lo E ad (a_s1 i (0, n) lo)) → W p l e P.2.2.2.2.1 s m args below meth c H locs kc ks (vx_MQ below (a_Qc E ad0 N0 S0 Q) (a_XC E ad0 N0 S0 Q) args s P.2.2.2.2.1.cells P.2.2.2.2.1.slots (a_A E)) (F0 m (pc + 2) ls' (st.map (a_cv E ad))) := fun ls' hl' => k p e s m args below meth c H locs ls' ad0 ad N0 S0 B w x hS hl' (a_tl h1) (a_ok_s1 (a_hd h1) h2)
  exact lv_istore B.1 B.2.1 hd hl hn (a_lo_s1 (v := (0, n))) kk9
theorem x_lstore_n {kk : Fin 4} {i : Nat} {n : Int} {lo' : List (Nat × aV)} (hd : decode P.2.1 pc = .ok (.lstore_n kk, 1)) (hi : (kk : Nat) = i) (hn : i + 1 < P.2.2.1) (hs : a_s2 i (1, n) lo = lo') (k : aX l E P Q kc ks N S M (pc + 1) lo' st) : aX l E P Q kc ks N S M pc lo ((1, n) :: st) := by
  subst hs
  intro p e s m args below meth c H locs ls ad0 ad N0 S0 B w x hS hl h1 h2
  have kk9 : ∀ ls' : Array Slot, lv_has ls' P.2.2.1 (a_lo E ad (a_s2 i (1, n) lo)) → W p l e P.2.2.2.2.1 s m args below meth c H locs kc ks (vx_MQ below (a_Qc E ad0 N0 S0 Q) (a_XC E ad0 N0 S0 Q) args s P.2.2.2.2.1.cells P.2.2.2.2.1.slots (a_A E)) (F0 m (pc + 1) ls' (st.map (a_cv E ad))) := fun ls' hl' => k p e s m args below meth c H locs ls' ad0 ad N0 S0 B w x hS hl' (a_tl h1) (a_ok_s2 (a_hd h1) h2)
  exact lv_lstore_n B.1 B.2.1 hd hi hl hn (a_lo_s2 (v := (1, n))) kk9
theorem x_lstore {i : Nat} {n : Int} {lo' : List (Nat × aV)} (hd : decode P.2.1 pc = .ok (.lstore i, 2)) (hn : i + 1 < P.2.2.1) (hs : a_s2 i (1, n) lo = lo') (k : aX l E P Q kc ks N S M (pc + 2) lo' st) : aX l E P Q kc ks N S M pc lo ((1, n) :: st) := by
  subst hs
  intro p e s m args below meth c H locs ls ad0 ad N0 S0 B w x hS hl h1 h2
  have kk9 : ∀ ls' : Array Slot, lv_has ls' P.2.2.1 (a_lo E ad (a_s2 i (1, n) lo)) → W p l e P.2.2.2.2.1 s m args below meth c H locs kc ks (vx_MQ below (a_Qc E ad0 N0 S0 Q) (a_XC E ad0 N0 S0 Q) args s P.2.2.2.2.1.cells P.2.2.2.2.1.slots (a_A E)) (F0 m (pc + 2) ls' (st.map (a_cv E ad))) := fun ls' hl' => k p e s m args below meth c H locs ls' ad0 ad N0 S0 B w x hS hl' (a_tl h1) (a_ok_s2 (a_hd h1) h2)
  exact lv_lstore B.1 B.2.1 hd hl hn (a_lo_s2 (v := (1, n))) kk9
theorem x_astore_n {kk : Fin 4} {i : Nat} {n : Int} {lo' : List (Nat × aV)} (hd : decode P.2.1 pc = .ok (.astore_n kk, 1)) (hi : (kk : Nat) = i) (hn : i < P.2.2.1) (hs : a_s1 i (2, n) lo = lo') (k : aX l E P Q kc ks N S M (pc + 1) lo' st) : aX l E P Q kc ks N S M pc lo ((2, n) :: st) := by
  subst hs
  intro p e s m args below meth c H locs ls ad0 ad N0 S0 B w x hS hl h1 h2
  have kk9 : ∀ ls' : Array Slot, lv_has ls' P.2.2.1 (a_lo E ad (a_s1 i (2, n) lo)) → W p l e P.2.2.2.2.1 s m args below meth c H locs kc ks (vx_MQ below (a_Qc E ad0 N0 S0 Q) (a_XC E ad0 N0 S0 Q) args s P.2.2.2.2.1.cells P.2.2.2.2.1.slots (a_A E)) (F0 m (pc + 1) ls' (st.map (a_cv E ad))) := fun ls' hl' => k p e s m args below meth c H locs ls' ad0 ad N0 S0 B w x hS hl' (a_tl h1) (a_ok_s1 (a_hd h1) h2)
  rw [← a_lo_s1] at kk9
  show W p l e P.2.2.2.2.1 s m args below meth c H locs kc ks _ (F0 m pc ls (va_rf (a_ro E ad n) :: st.map (a_cv E ad)))
  have kk9 : ∀ ls' : Array Slot, lv_has ls' P.2.2.1 ((i, va_rf (a_ro E ad n)) :: (a_lo E ad lo).filter (fun q => !(q.1 == i) && !(q.1 + 1 == i && q.2.category == 2))) → _ := kk9
  cases hr : a_ro E ad n with
  | none => rw [hr] at kk9; exact lv_astore_nN B.1 B.2.1 hd hi hl hn rfl kk9
  | some a => rw [hr] at kk9; exact lv_astore_n B.1 B.2.1 hd hi hl hn rfl kk9
theorem x_astore {i : Nat} {n : Int} {lo' : List (Nat × aV)} (hd : decode P.2.1 pc = .ok (.astore i, 2)) (hn : i < P.2.2.1) (hs : a_s1 i (2, n) lo = lo') (k : aX l E P Q kc ks N S M (pc + 2) lo' st) : aX l E P Q kc ks N S M pc lo ((2, n) :: st) := by
  subst hs
  intro p e s m args below meth c H locs ls ad0 ad N0 S0 B w x hS hl h1 h2
  have kk9 : ∀ ls' : Array Slot, lv_has ls' P.2.2.1 (a_lo E ad (a_s1 i (2, n) lo)) → W p l e P.2.2.2.2.1 s m args below meth c H locs kc ks (vx_MQ below (a_Qc E ad0 N0 S0 Q) (a_XC E ad0 N0 S0 Q) args s P.2.2.2.2.1.cells P.2.2.2.2.1.slots (a_A E)) (F0 m (pc + 2) ls' (st.map (a_cv E ad))) := fun ls' hl' => k p e s m args below meth c H locs ls' ad0 ad N0 S0 B w x hS hl' (a_tl h1) (a_ok_s1 (a_hd h1) h2)
  rw [← a_lo_s1] at kk9
  show W p l e P.2.2.2.2.1 s m args below meth c H locs kc ks _ (F0 m pc ls (va_rf (a_ro E ad n) :: st.map (a_cv E ad)))
  have kk9 : ∀ ls' : Array Slot, lv_has ls' P.2.2.1 ((i, va_rf (a_ro E ad n)) :: (a_lo E ad lo).filter (fun q => !(q.1 == i) && !(q.1 + 1 == i && q.2.category == 2))) → _ := kk9
  cases hr : a_ro E ad n with
  | none => rw [hr] at kk9; exact lv_astoreN B.1 B.2.1 hd hl hn rfl kk9
  | some a => rw [hr] at kk9; exact lv_astore B.1 B.2.1 hd hl hn rfl kk9
theorem x_iinc {i : Nat} {n d : Int} {lo' : List (Nat × aV)} (hd : decode P.2.1 pc = .ok (.iinc i d, 3)) (hv : a_lk lo i = some (0, n)) (r : -2147483648 ≤ n + d ∧ n + d ≤ 2147483647) (hn : i < P.2.2.1) (hs : a_s1 i (0, n + d) lo = lo') (k : aX l E P Q kc ks N S M (pc + 3) lo' st) : aX l E P Q kc ks N S M pc lo st := by
  subst hs
  intro p e s m args below meth c H locs ls ad0 ad N0 S0 B w x hS hl h1 h2
  have hm : (i, a_cv E ad (0, n)) ∈ a_lo E ad lo := List.mem_map.mpr ⟨(i, (0, n)), a_lk_mem hv, rfl⟩
  obtain ⟨j, hj⟩ := List.getElem?_of_mem hm
  refine lv_iinc B.1 B.2.1 hd hl hj rfl hn rfl (fun ls' hl' => ?_)
  rw [← Int32.ofInt_add] at hl'
  exact k p e s m args below meth c H locs ls' ad0 ad N0 S0 B w x hS (by rw [← a_lo_s1]; exact hl') h1 (a_ok_s1 r h2)
/-- fewer locals, or the same in another order -/
theorem x_lo {lo' : List (Nat × aV)} (h : a_all lo lo') (k : aX l E P Q kc ks N S M pc lo' st) : aX l E P Q kc ks N S M pc lo st :=
  fun p e s m args below meth c H locs ls ad0 ad N0 S0 B w x hS hl h1 h2 => k p e s m args below meth c H locs ls ad0 ad N0 S0 B w x hS ⟨hl.1, hl.2.1, fun q hq => by
    obtain ⟨r, hr, e⟩ := List.mem_map.mp hq
    exact hl.2.2 q (List.mem_map.mpr ⟨r, a_all_mem h r hr, e⟩)⟩ h1 (fun q hq => h2 q (a_all_mem h q hq))
theorem x_icmp_lt {a b : Int} {off : Int} {tgt : Nat} (hd : decode P.2.1 pc = .ok (.if_icmp .lt off, 3)) (ht : (pc : Int) + off = (tgt : Int))
    (k1 : a < b → aX l E P Q kc ks N S M tgt lo st) (k2 : b ≤ a → aX l E P Q kc ks N S M (pc + 3) lo st) : aX l E P Q kc ks N S M pc lo ((0, b) :: (0, a) :: st) := by
  intro p e s m args below meth c H locs ls ad0 ad N0 S0 B w x hS hl h1 h2
  refine lv_icmp_lt B.1 B.2.1 hd ht (fun q => ?_) (fun q => ?_) <;> rw [Int32.lt_iff_toInt_lt, a_i32 (a_hd (a_tl h1)), a_i32 (a_hd h1)] at q
  · exact k1 (by omega) p e s m args below meth c H locs ls ad0 ad N0 S0 B w x hS hl (a_tl (a_tl h1)) h2
  · exact k2 (by omega) p e s m args below meth c H locs ls ad0 ad N0 S0 B w x hS hl (a_tl (a_tl h1)) h2
theorem x_icmp_ge {a b : Int} {off : Int} {tgt : Nat} (hd : decode P.2.1 pc = .ok (.if_icmp .ge off, 3)) (ht : (pc : Int) + off = (tgt : Int))
    (k1 : b ≤ a → aX l E P Q kc ks N S M tgt lo st) (k2 : a < b → aX l E P Q kc ks N S M (pc + 3) lo st) : aX l E P Q kc ks N S M pc lo ((0, b) :: (0, a) :: st) := by
  intro p e s m args below meth c H locs ls ad0 ad N0 S0 B w x hS hl h1 h2
  refine lv_icmp_ge B.1 B.2.1 hd ht (fun q => ?_) (fun q => ?_) <;> rw [Int32.le_iff_toInt_le, a_i32 (a_hd (a_tl h1)), a_i32 (a_hd h1)] at q
  · exact k1 (by omega) p e s m args below meth c H locs ls ad0 ad N0 S0 B w x hS hl (a_tl (a_tl h1)) h2
  · exact k2 (by omega) p e s m args below meth c H locs ls ad0 ad N0 S0 B w x hS hl (a_tl (a_tl h1)) h2
theorem x_icmp_gt {a b : Int} {off : Int} {tgt : Nat} (hd : decode P.2.1 pc = .ok (.if_icmp .gt off, 3)) (ht : (pc : Int) + off = (tgt : Int))
    (k1 : b < a → aX l E P Q kc ks N S M tgt lo st) (k2 : a ≤ b → aX l E P Q kc ks N S M (pc + 3) lo st) : aX l E P Q kc ks N S M pc lo ((0, b) :: (0, a) :: st) := by
  intro p e s m args below meth c H locs ls ad0 ad N0 S0 B w x hS hl h1 h2
  refine lv_icmp_gt B.1 B.2.1 hd ht (fun q => ?_) (fun q => ?_) <;> rw [Int32.lt_iff_toInt_lt, a_i32 (a_hd (a_tl h1)), a_i32 (a_hd h1)] at q
  · exact k1 (by omega) p e s m args below meth c H locs ls ad0 ad N0 S0 B w x hS hl (a_tl (a_tl h1)) h2
  · exact k2 (by omega) p e s m args below meth c H locs ls ad0 ad N0 S0 B w x hS hl (a_tl (a_tl h1)) h2
theorem x_icmp_le {a b : Int} {off : Int} {tgt : Nat} (hd : decode P.2.1 pc = .ok (.if_icmp .le off, 3)) (ht : (pc : Int) + off = (tgt : Int))
    (k1 : a ≤ b → aX l E P Q kc ks N S M tgt lo st) (k2 : b < a → aX l E P Q kc ks N S M (pc + 3) lo st) : aX l E P Q kc ks N S M pc lo ((0, b) :: (0, a) :: st) := by
  intro p e s m args below meth c H locs ls ad0 ad N0 S0 B w x hS hl h1 h2
  refine lv_icmp_le B.1 B.2.1 hd ht (fun q => ?_) (fun q => ?_) <;> rw [Int32.le_iff_toInt_le, a_i32 (a_hd (a_tl h1)), a_i32 (a_hd h1)] at q
  · exact k1 (by omega) p e s m args below meth c H locs ls ad0 ad N0 S0 B w x hS hl (a_tl (a_tl h1)) h2
  · exact k2 (by omega) p e s m args below meth c H locs ls ad0 ad N0 S0 B w x hS hl (a_tl (a_tl h1)) h2
theorem x_icmp_eq {a b : Int} {off : Int} {tgt : Nat} (hd : decode P.2.1 pc = .ok (.if_icmp .eq off, 3)) (ht : (pc : Int) + off = (tgt : Int))
    (k1 : a = b → aX l E P Q kc ks N S M tgt lo st) (k2 : a ≠ b → aX l E P Q kc ks N S M (pc + 3) lo st) : aX l E P Q kc ks N S M pc lo ((0, b) :: (0, a) :: st) := by
  intro p e s m args below meth c H locs ls ad0 ad N0 S0 B w x hS hl h1 h2
  refine lv_icmp_eq B.1 B.2.1 hd ht (fun q => ?_) (fun q => ?_) <;> rw [← Int32.toInt_inj, a_i32 (a_hd (a_tl h1)), a_i32 (a_hd h1)] at q
  · exact k1 (by omega) p e s m args below meth c H locs ls ad0 ad N0 S0 B w x hS hl (a_tl (a_tl h1)) h2
  · exact k2 (by omega) p e s m args below meth c H locs ls ad0 ad N0 S0 B w x hS hl (a_tl (a_tl h1)) h2
theorem x_icmp_ne {a b : Int} {off : Int} {tgt : Nat} (hd : decode P.2.1 pc = .ok (.if_icmp .ne off, 3)) (ht : (pc : Int) + off = (tgt : Int))
    (k1 : a ≠ b → aX l E P Q kc ks N S M tgt lo st) (k2 : a = b → aX l E P Q kc ks N S M (pc + 3) lo st) : aX l E P Q kc ks N S M pc lo ((0, b) :: (0, a) :: st) := by
  intro p e s m args below meth c H locs ls ad0 ad N0 S0 B w x hS hl h1 h2
  refine lv_icmp_ne B.1 B.2.1 hd ht (fun q => ?_) (fun q => ?_) <;> rw [← Int32.toInt_inj, a_i32 (a_hd (a_tl h1)), a_i32 (a_hd h1)] at q
  · exact k1 (by omega) p e s m args below meth c H locs ls ad0 ad N0 S0 B w x hS hl (a_tl (a_tl h1)) h2
  · exact k2 (by omega) p e s m args below meth c H locs ls ad0 ad N0 S0 B w x hS hl (a_tl (a_tl h1)) h2
theorem x_if_lt {a : Int} {off : Int} {tgt : Nat} (hd : decode P.2.1 pc = .ok (.ifCond .lt off, 3)) (ht : (pc : Int) + off = (tgt : Int))
    (k1 : a < 0 → aX l E P Q kc ks N S M tgt lo st) (k2 : 0 ≤ a → aX l E P Q kc ks N S M (pc + 3) lo st) : aX l E P Q kc ks N S M pc lo ((0, a) :: st) := by
  intro p e s m args below meth c H locs ls ad0 ad N0 S0 B w x hS hl h1 h2
  refine lv_if_lt B.1 B.2.1 hd ht (fun q => ?_) (fun q => ?_) <;> rw [Int32.lt_iff_toInt_lt, a_i32 (a_hd h1), a_z32] at q
  · exact k1 (by omega) p e s m args below meth c H locs ls ad0 ad N0 S0 B w x hS hl (a_tl h1) h2
  · exact k2 (by omega) p e s m args below meth c H locs ls ad0 ad N0 S0 B w x hS hl (a_tl h1) h2
theorem x_if_ge {a : Int} {off : Int} {tgt : Nat} (hd : decode P.2.1 pc = .ok (.ifCond .ge off, 3)) (ht : (pc : Int) + off = (tgt : Int))
    (k1 : 0 ≤ a → aX l E P Q kc ks N S M tgt lo st) (k2 : a < 0 → aX l E P Q kc ks N S M (pc + 3) lo st) : aX l E P Q kc ks N S M pc lo ((0, a) :: st) := by
  intro p e s m args below meth c H locs ls ad0 ad N0 S0 B w x hS hl h1 h2
  refine lv_if_ge B.1 B.2.1 hd ht (fun q => ?_) (fun q => ?_) <;> rw [Int32.le_iff_toInt_le, a_i32 (a_hd h1), a_z32] at q
  · exact k1 (by omega) p e s m args below meth c H locs ls ad0 ad N0 S0 B w x hS hl (a_tl h1) h2
  · exact k2 (by omega) p e s m args below meth c H locs ls ad0 ad N0 S0 B w x hS hl (a_tl h1) h2
theorem x_if_gt {a : Int} {off : Int} {tgt : Nat} (hd : decode P.2.1 pc = .ok (.ifCond .gt off, 3)) (ht : (pc : Int) + off = (tgt : Int))
    (k1 : 0 < a → aX l E P Q kc ks N S M tgt lo st) (k2 : a ≤ 0 → aX l E P Q kc ks N S M (pc + 3) lo st) : aX l E P Q kc ks N S M pc lo ((0, a) :: st) := by
  intro p e s m args below meth c H locs ls ad0 ad N0 S0 B w x hS hl h1 h2
  refine lv_if_gt B.1 B.2.1 hd ht (fun q => ?_) (fun q => ?_) <;> rw [Int32.lt_iff_toInt_lt, a_i32 (a_hd h1), a_z32] at q
  · exact k1 (by omega) p e s m args below meth c H locs ls ad0 ad N0 S0 B w x hS hl (a_tl h1) h2
  · exact k2 (by omega) p e s m args below meth c H locs ls ad0 ad N0 S0 B w x hS hl (a_tl h1) h2
theorem x_if_le {a : Int} {off : Int} {tgt : Nat} (hd : decode P.2.1 pc = .ok (.ifCond .le off, 3)) (ht : (pc : Int) + off = (tgt : Int))
    (k1 : a ≤ 0 → aX l E P Q kc ks N S M tgt lo st) (k2 : 0 < a → aX l E P Q kc ks N S M (pc + 3) lo st) : aX l E P Q kc ks N S M pc lo ((0, a) :: st) := by
  intro p e s m args below meth c H locs ls ad0 ad N0 S0 B w x hS hl h1 h2
  refine lv_if_le B.1 B.2.1 hd ht (fun q => ?_) (fun q => ?_) <;> rw [Int32.le_iff_toInt_le, a_i32 (a_hd h1), a_z32] at q
  · exact k1 (by omega) p e s m args below meth c H locs ls ad0 ad N0 S0 B w x hS hl (a_tl h1) h2
  · exact k2 (by omega) p e s m args below meth c H locs ls ad0 ad N0 S0 B w x hS hl (a_tl h1) h2
theorem x_if_eq {a : Int} {off : Int} {tgt : Nat} (hd : decode P.2.1 pc = .ok (.ifCond .eq off, 3)) (ht : (pc : Int) + off = (tgt : Int))
    (k1 : a = 0 → aX l E P Q kc ks N S M tgt lo st) (k2 : a ≠ 0 → aX l E P Q kc ks N S M (pc + 3) lo st) : aX l E P Q kc ks N S M pc lo ((0, a) :: st) := by
  intro p e s m args below meth c H locs ls ad0 ad N0 S0 B w x hS hl h1 h2
  refine lv_if_eq B.1 B.2.1 hd ht (fun q => ?_) (fun q => ?_) <;> rw [← Int32.toInt_inj, a_i32 (a_hd h1), a_z32] at q
  · exact k1 (by omega) p e s m args below meth c H locs ls ad0 ad N0 S0 B w x hS hl (a_tl h1) h2
  · exact k2 (by omega) p e s m args below meth c H locs ls ad0 ad N0 S0 B w x hS hl (a_tl h1) h2
theorem x_if_ne {a : Int} {off : Int} {tgt : Nat} (hd : decode P.2.1 pc = .ok (.ifCond .ne off, 3)) (ht : (pc : Int) + off = (tgt : Int))
    (k1 : a ≠ 0 → aX l E P Q kc ks N S M tgt lo st) (k2 : a = 0 → aX l E P Q kc ks N S M (pc + 3) lo st) : aX l E P Q kc ks N S M pc lo ((0, a) :: st) := by
  intro p e s m args below meth c H locs ls ad0 ad N0 S0 B w x hS hl h1 h2
  refine lv_if_ne B.1 B.2.1 hd ht (fun q => ?_) (fun q => ?_) <;> rw [← Int32.toInt_inj, a_i32 (a_hd h1), a_z32] at q
  · exact k1 (by omega) p e s m args below meth c H locs ls ad0 ad N0 S0 B w x hS hl (a_tl h1) h2
  · exact k2 (by omega) p e s m args below meth c H locs ls ad0 ad N0 S0 B w x hS hl (a_tl h1) h2
end AX1
