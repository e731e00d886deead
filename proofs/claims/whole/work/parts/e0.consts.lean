/-! THE LAW'S START: the constants, out of what the Statement gives -/
def gvL : List Cond := flatC (Cond.and given_1 narrow_1)
def wNm : List String := ["WHOLE", "ABOVE", "STEP", "CART", "GATHER", "KEEP", "MONTHS", "RISE", "LATE", "RULE", "PARTS", "ALONE", "ALIKE"]
def wSx : List Nat := [91, 97, 100, 106, 109, 115, 118, 121, 124, 127, 129, 135, 138]
def mIx : List Nat := [217, 219, 221, 226, 231, 237, 239, 241, 246, 248, 207, 213, 215]
def wTx : List String := ["whole", "above", "step", "cart", "gather", "keep", "months", "rise", "late", "rule", "parts", "alone", "alike"]
abbrev tW (i : Nat) : Term := .static "CoalStreet$Word" (wNm.getD i "") "LCoalStreet$Word;"
abbrev tS (i : Nat) : Term := .string "CoalStreet$Word" (wSx.getD i 0)
theorem st_lsW {args : Array Value} {s : State} (hts : ∀ w ∈ lw_tbl, w.before args s = true) (hg : ∀ c ∈ gvL, c.before args s = true) : ∀ i, i < 13 → (Cond.laysStatic "CoalStreet$Word" (wNm.getD i "") "LCoalStreet$Word;").before args s = true := fun i hi => match i, hi with
  | 0, _ => (hts _ (List.mem_of_getElem? (i := 956) (by decide +kernel)))
  | 1, _ => (hts _ (List.mem_of_getElem? (i := 958) (by decide +kernel)))
  | 2, _ => (hts _ (List.mem_of_getElem? (i := 930) (by decide +kernel)))
  | 3, _ => (hts _ (List.mem_of_getElem? (i := 932) (by decide +kernel)))
  | 4, _ => (hts _ (List.mem_of_getElem? (i := 968) (by decide +kernel)))
  | 5, _ => (hts _ (List.mem_of_getElem? (i := 970) (by decide +kernel)))
  | 6, _ => (hts _ (List.mem_of_getElem? (i := 972) (by decide +kernel)))
  | 7, _ => (hts _ (List.mem_of_getElem? (i := 974) (by decide +kernel)))
  | 8, _ => (hts _ (List.mem_of_getElem? (i := 976) (by decide +kernel)))
  | 9, _ => (hts _ (List.mem_of_getElem? (i := 934) (by decide +kernel)))
  | 10, _ => (hts _ (List.mem_of_getElem? (i := 2152) (by decide +kernel)))
  | 11, _ => (hts _ (List.mem_of_getElem? (i := 2153) (by decide +kernel)))
  | 12, _ => (hts _ (List.mem_of_getElem? (i := 2154) (by decide +kernel)))
  | i + 13, h => absurd h (by omega)
theorem st_ex {args : Array Value} {s : State} (hts : ∀ w ∈ lw_tbl, w.before args s = true) (hg : ∀ c ∈ gvL, c.before args s = true) : ∀ i, i < 13 → (Cond.exactly (tW i) "CoalStreet$Word").before args s = true := fun i hi => match i, hi with
  | 0, _ => (hg _ (List.mem_of_getElem? (i := 59) (by decide +kernel)))
  | 1, _ => (hg _ (List.mem_of_getElem? (i := 71) (by decide +kernel)))
  | 2, _ => (hg _ (List.mem_of_getElem? (i := 29) (by decide +kernel)))
  | 3, _ => (hg _ (List.mem_of_getElem? (i := 38) (by decide +kernel)))
  | 4, _ => (hg _ (List.mem_of_getElem? (i := 84) (by decide +kernel)))
  | 5, _ => (hg _ (List.mem_of_getElem? (i := 98) (by decide +kernel)))
  | 6, _ => (hg _ (List.mem_of_getElem? (i := 113) (by decide +kernel)))
  | 7, _ => (hg _ (List.mem_of_getElem? (i := 129) (by decide +kernel)))
  | 8, _ => (hg _ (List.mem_of_getElem? (i := 146) (by decide +kernel)))
  | 9, _ => (hg _ (List.mem_of_getElem? (i := 48) (by decide +kernel)))
  | 10, _ => (hg _ (List.mem_of_getElem? (i := 164) (by decide +kernel)))
  | 11, _ => (hg _ (List.mem_of_getElem? (i := 183) (by decide +kernel)))
  | 12, _ => (hg _ (List.mem_of_getElem? (i := 203) (by decide +kernel)))
  | i + 13, h => absurd h (by omega)
theorem st_f0 {args : Array Value} {s : State} (hts : ∀ w ∈ lw_tbl, w.before args s = true) (hg : ∀ c ∈ gvL, c.before args s = true) : ∀ i, i < 13 → (Cond.eq (.field (tW i) "CoalStreet$Word" "numbers" "I") (.int (Int32.ofInt (wW i 0)))).before args s = true := fun i hi => match i, hi with
  | 0, _ => (hg _ (List.mem_of_getElem? (i := 62) (by decide +kernel)))
  | 1, _ => (hg _ (List.mem_of_getElem? (i := 74) (by decide +kernel)))
  | 2, _ => (hg _ (List.mem_of_getElem? (i := 32) (by decide +kernel)))
  | 3, _ => (hg _ (List.mem_of_getElem? (i := 41) (by decide +kernel)))
  | 4, _ => (hg _ (List.mem_of_getElem? (i := 87) (by decide +kernel)))
  | 5, _ => (hg _ (List.mem_of_getElem? (i := 101) (by decide +kernel)))
  | 6, _ => (hg _ (List.mem_of_getElem? (i := 116) (by decide +kernel)))
  | 7, _ => (hg _ (List.mem_of_getElem? (i := 132) (by decide +kernel)))
  | 8, _ => (hg _ (List.mem_of_getElem? (i := 149) (by decide +kernel)))
  | 9, _ => (hg _ (List.mem_of_getElem? (i := 51) (by decide +kernel)))
  | 10, _ => (hg _ (List.mem_of_getElem? (i := 167) (by decide +kernel)))
  | 11, _ => (hg _ (List.mem_of_getElem? (i := 186) (by decide +kernel)))
  | 12, _ => (hg _ (List.mem_of_getElem? (i := 206) (by decide +kernel)))
  | i + 13, h => absurd h (by omega)
theorem st_f1 {args : Array Value} {s : State} (hts : ∀ w ∈ lw_tbl, w.before args s = true) (hg : ∀ c ∈ gvL, c.before args s = true) : ∀ i, i < 13 → (Cond.eq (.field (tW i) "CoalStreet$Word" "low" "I") (.int (Int32.ofInt (wW i 1)))).before args s = true := fun i hi => match i, hi with
  | 0, _ => (hg _ (List.mem_of_getElem? (i := 63) (by decide +kernel)))
  | 1, _ => (hg _ (List.mem_of_getElem? (i := 75) (by decide +kernel)))
  | 2, _ => (hg _ (List.mem_of_getElem? (i := 33) (by decide +kernel)))
  | 3, _ => (hg _ (List.mem_of_getElem? (i := 42) (by decide +kernel)))
  | 4, _ => (hg _ (List.mem_of_getElem? (i := 88) (by decide +kernel)))
  | 5, _ => (hg _ (List.mem_of_getElem? (i := 102) (by decide +kernel)))
  | 6, _ => (hg _ (List.mem_of_getElem? (i := 117) (by decide +kernel)))
  | 7, _ => (hg _ (List.mem_of_getElem? (i := 133) (by decide +kernel)))
  | 8, _ => (hg _ (List.mem_of_getElem? (i := 150) (by decide +kernel)))
  | 9, _ => (hg _ (List.mem_of_getElem? (i := 52) (by decide +kernel)))
  | 10, _ => (hg _ (List.mem_of_getElem? (i := 168) (by decide +kernel)))
  | 11, _ => (hg _ (List.mem_of_getElem? (i := 187) (by decide +kernel)))
  | 12, _ => (hg _ (List.mem_of_getElem? (i := 207) (by decide +kernel)))
  | i + 13, h => absurd h (by omega)
theorem st_f2 {args : Array Value} {s : State} (hts : ∀ w ∈ lw_tbl, w.before args s = true) (hg : ∀ c ∈ gvL, c.before args s = true) : ∀ i, i < 13 → (Cond.eq (.field (tW i) "CoalStreet$Word" "high" "I") (.int (Int32.ofInt (wW i 2)))).before args s = true := fun i hi => match i, hi with
  | 0, _ => (hg _ (List.mem_of_getElem? (i := 64) (by decide +kernel)))
  | 1, _ => (hg _ (List.mem_of_getElem? (i := 76) (by decide +kernel)))
  | 2, _ => (hg _ (List.mem_of_getElem? (i := 34) (by decide +kernel)))
  | 3, _ => (hg _ (List.mem_of_getElem? (i := 43) (by decide +kernel)))
  | 4, _ => (hg _ (List.mem_of_getElem? (i := 89) (by decide +kernel)))
  | 5, _ => (hg _ (List.mem_of_getElem? (i := 103) (by decide +kernel)))
  | 6, _ => (hg _ (List.mem_of_getElem? (i := 118) (by decide +kernel)))
  | 7, _ => (hg _ (List.mem_of_getElem? (i := 134) (by decide +kernel)))
  | 8, _ => (hg _ (List.mem_of_getElem? (i := 151) (by decide +kernel)))
  | 9, _ => (hg _ (List.mem_of_getElem? (i := 53) (by decide +kernel)))
  | 10, _ => (hg _ (List.mem_of_getElem? (i := 169) (by decide +kernel)))
  | 11, _ => (hg _ (List.mem_of_getElem? (i := 188) (by decide +kernel)))
  | 12, _ => (hg _ (List.mem_of_getElem? (i := 208) (by decide +kernel)))
  | i + 13, h => absurd h (by omega)
theorem st_f3 {args : Array Value} {s : State} (hts : ∀ w ∈ lw_tbl, w.before args s = true) (hg : ∀ c ∈ gvL, c.before args s = true) : ∀ i, i < 13 → (Cond.eq (.field (tW i) "CoalStreet$Word" "secondLow" "I") (.int (Int32.ofInt (wW i 3)))).before args s = true := fun i hi => match i, hi with
  | 0, _ => (hg _ (List.mem_of_getElem? (i := 65) (by decide +kernel)))
  | 1, _ => (hg _ (List.mem_of_getElem? (i := 77) (by decide +kernel)))
  | 2, _ => (hg _ (List.mem_of_getElem? (i := 35) (by decide +kernel)))
  | 3, _ => (hg _ (List.mem_of_getElem? (i := 44) (by decide +kernel)))
  | 4, _ => (hg _ (List.mem_of_getElem? (i := 90) (by decide +kernel)))
  | 5, _ => (hg _ (List.mem_of_getElem? (i := 104) (by decide +kernel)))
  | 6, _ => (hg _ (List.mem_of_getElem? (i := 119) (by decide +kernel)))
  | 7, _ => (hg _ (List.mem_of_getElem? (i := 135) (by decide +kernel)))
  | 8, _ => (hg _ (List.mem_of_getElem? (i := 152) (by decide +kernel)))
  | 9, _ => (hg _ (List.mem_of_getElem? (i := 54) (by decide +kernel)))
  | 10, _ => (hg _ (List.mem_of_getElem? (i := 170) (by decide +kernel)))
  | 11, _ => (hg _ (List.mem_of_getElem? (i := 189) (by decide +kernel)))
  | 12, _ => (hg _ (List.mem_of_getElem? (i := 209) (by decide +kernel)))
  | i + 13, h => absurd h (by omega)
theorem st_f4 {args : Array Value} {s : State} (hts : ∀ w ∈ lw_tbl, w.before args s = true) (hg : ∀ c ∈ gvL, c.before args s = true) : ∀ i, i < 13 → (Cond.eq (.field (tW i) "CoalStreet$Word" "secondHigh" "I") (.int (Int32.ofInt (wW i 4)))).before args s = true := fun i hi => match i, hi with
  | 0, _ => (hg _ (List.mem_of_getElem? (i := 66) (by decide +kernel)))
  | 1, _ => (hg _ (List.mem_of_getElem? (i := 78) (by decide +kernel)))
  | 2, _ => (hg _ (List.mem_of_getElem? (i := 36) (by decide +kernel)))
  | 3, _ => (hg _ (List.mem_of_getElem? (i := 45) (by decide +kernel)))
  | 4, _ => (hg _ (List.mem_of_getElem? (i := 91) (by decide +kernel)))
  | 5, _ => (hg _ (List.mem_of_getElem? (i := 105) (by decide +kernel)))
  | 6, _ => (hg _ (List.mem_of_getElem? (i := 120) (by decide +kernel)))
  | 7, _ => (hg _ (List.mem_of_getElem? (i := 136) (by decide +kernel)))
  | 8, _ => (hg _ (List.mem_of_getElem? (i := 153) (by decide +kernel)))
  | 9, _ => (hg _ (List.mem_of_getElem? (i := 55) (by decide +kernel)))
  | 10, _ => (hg _ (List.mem_of_getElem? (i := 171) (by decide +kernel)))
  | 11, _ => (hg _ (List.mem_of_getElem? (i := 190) (by decide +kernel)))
  | 12, _ => (hg _ (List.mem_of_getElem? (i := 210) (by decide +kernel)))
  | i + 13, h => absurd h (by omega)
theorem st_f5 {args : Array Value} {s : State} (hts : ∀ w ∈ lw_tbl, w.before args s = true) (hg : ∀ c ∈ gvL, c.before args s = true) : ∀ i, i < 13 → (Cond.eq (.field (tW i) "CoalStreet$Word" "rule" "I") (.int (Int32.ofInt (wW i 5)))).before args s = true := fun i hi => match i, hi with
  | 0, _ => (hg _ (List.mem_of_getElem? (i := 67) (by decide +kernel)))
  | 1, _ => (hg _ (List.mem_of_getElem? (i := 79) (by decide +kernel)))
  | 2, _ => (hg _ (List.mem_of_getElem? (i := 37) (by decide +kernel)))
  | 3, _ => (hg _ (List.mem_of_getElem? (i := 46) (by decide +kernel)))
  | 4, _ => (hg _ (List.mem_of_getElem? (i := 92) (by decide +kernel)))
  | 5, _ => (hg _ (List.mem_of_getElem? (i := 106) (by decide +kernel)))
  | 6, _ => (hg _ (List.mem_of_getElem? (i := 121) (by decide +kernel)))
  | 7, _ => (hg _ (List.mem_of_getElem? (i := 137) (by decide +kernel)))
  | 8, _ => (hg _ (List.mem_of_getElem? (i := 154) (by decide +kernel)))
  | 9, _ => (hg _ (List.mem_of_getElem? (i := 56) (by decide +kernel)))
  | 10, _ => (hg _ (List.mem_of_getElem? (i := 172) (by decide +kernel)))
  | 11, _ => (hg _ (List.mem_of_getElem? (i := 191) (by decide +kernel)))
  | 12, _ => (hg _ (List.mem_of_getElem? (i := 211) (by decide +kernel)))
  | i + 13, h => absurd h (by omega)
theorem st_lt {args : Array Value} {s : State} (hts : ∀ w ∈ lw_tbl, w.before args s = true) (hg : ∀ c ∈ gvL, c.before args s = true) : ∀ i, i < 13 → (Cond.eq (.field (tW i) "CoalStreet$Word" "letters" "Ljava/lang/String;") (tS i)).before args s = true := fun i hi => match i, hi with
  | 0, _ => (hg _ (List.mem_of_getElem? (i := 61) (by decide +kernel)))
  | 1, _ => (hg _ (List.mem_of_getElem? (i := 73) (by decide +kernel)))
  | 2, _ => (hg _ (List.mem_of_getElem? (i := 31) (by decide +kernel)))
  | 3, _ => (hg _ (List.mem_of_getElem? (i := 40) (by decide +kernel)))
  | 4, _ => (hg _ (List.mem_of_getElem? (i := 86) (by decide +kernel)))
  | 5, _ => (hg _ (List.mem_of_getElem? (i := 100) (by decide +kernel)))
  | 6, _ => (hg _ (List.mem_of_getElem? (i := 115) (by decide +kernel)))
  | 7, _ => (hg _ (List.mem_of_getElem? (i := 131) (by decide +kernel)))
  | 8, _ => (hg _ (List.mem_of_getElem? (i := 148) (by decide +kernel)))
  | 9, _ => (hg _ (List.mem_of_getElem? (i := 50) (by decide +kernel)))
  | 10, _ => (hg _ (List.mem_of_getElem? (i := 166) (by decide +kernel)))
  | 11, _ => (hg _ (List.mem_of_getElem? (i := 185) (by decide +kernel)))
  | 12, _ => (hg _ (List.mem_of_getElem? (i := 205) (by decide +kernel)))
  | i + 13, h => absurd h (by omega)
theorem st_n0 {args : Array Value} {s : State} (hts : ∀ w ∈ lw_tbl, w.before args s = true) (hg : ∀ c ∈ gvL, c.before args s = true) : ∀ j, 0 < j → j < 13 → (Cond.not (.eq (tW 0) (tW j))).before args s = true ∨ (Cond.not (.eq (tW j) (tW 0))).before args s = true := fun j h1 h2 => match j, h1, h2 with
  | 0, h, _ => absurd h (by decide)
  | 1, h, _ => Or.inl (hg _ (List.mem_of_getElem? (i := 83) (by decide +kernel)))
  | 2, h, _ => Or.inr (hg _ (List.mem_of_getElem? (i := 68) (by decide +kernel)))
  | 3, h, _ => Or.inr (hg _ (List.mem_of_getElem? (i := 69) (by decide +kernel)))
  | 4, h, _ => Or.inl (hg _ (List.mem_of_getElem? (i := 96) (by decide +kernel)))
  | 5, h, _ => Or.inl (hg _ (List.mem_of_getElem? (i := 110) (by decide +kernel)))
  | 6, h, _ => Or.inl (hg _ (List.mem_of_getElem? (i := 125) (by decide +kernel)))
  | 7, h, _ => Or.inl (hg _ (List.mem_of_getElem? (i := 141) (by decide +kernel)))
  | 8, h, _ => Or.inl (hg _ (List.mem_of_getElem? (i := 158) (by decide +kernel)))
  | 9, h, _ => Or.inr (hg _ (List.mem_of_getElem? (i := 70) (by decide +kernel)))
  | 10, h, _ => Or.inl (hg _ (List.mem_of_getElem? (i := 176) (by decide +kernel)))
  | 11, h, _ => Or.inl (hg _ (List.mem_of_getElem? (i := 195) (by decide +kernel)))
  | 12, h, _ => Or.inl (hg _ (List.mem_of_getElem? (i := 215) (by decide +kernel)))
  | j + 13, _, h => absurd h (by omega)
theorem st_n1 {args : Array Value} {s : State} (hts : ∀ w ∈ lw_tbl, w.before args s = true) (hg : ∀ c ∈ gvL, c.before args s = true) : ∀ j, 1 < j → j < 13 → (Cond.not (.eq (tW 1) (tW j))).before args s = true ∨ (Cond.not (.eq (tW j) (tW 1))).before args s = true := fun j h1 h2 => match j, h1, h2 with
  | 0, h, _ => absurd h (by decide)
  | 1, h, _ => absurd h (by decide)
  | 2, h, _ => Or.inr (hg _ (List.mem_of_getElem? (i := 80) (by decide +kernel)))
  | 3, h, _ => Or.inr (hg _ (List.mem_of_getElem? (i := 81) (by decide +kernel)))
  | 4, h, _ => Or.inl (hg _ (List.mem_of_getElem? (i := 97) (by decide +kernel)))
  | 5, h, _ => Or.inl (hg _ (List.mem_of_getElem? (i := 111) (by decide +kernel)))
  | 6, h, _ => Or.inl (hg _ (List.mem_of_getElem? (i := 126) (by decide +kernel)))
  | 7, h, _ => Or.inl (hg _ (List.mem_of_getElem? (i := 142) (by decide +kernel)))
  | 8, h, _ => Or.inl (hg _ (List.mem_of_getElem? (i := 159) (by decide +kernel)))
  | 9, h, _ => Or.inr (hg _ (List.mem_of_getElem? (i := 82) (by decide +kernel)))
  | 10, h, _ => Or.inl (hg _ (List.mem_of_getElem? (i := 177) (by decide +kernel)))
  | 11, h, _ => Or.inl (hg _ (List.mem_of_getElem? (i := 196) (by decide +kernel)))
  | 12, h, _ => Or.inl (hg _ (List.mem_of_getElem? (i := 216) (by decide +kernel)))
  | j + 13, _, h => absurd h (by omega)
theorem st_n2 {args : Array Value} {s : State} (hts : ∀ w ∈ lw_tbl, w.before args s = true) (hg : ∀ c ∈ gvL, c.before args s = true) : ∀ j, 2 < j → j < 13 → (Cond.not (.eq (tW 2) (tW j))).before args s = true ∨ (Cond.not (.eq (tW j) (tW 2))).before args s = true := fun j h1 h2 => match j, h1, h2 with
  | 0, h, _ => absurd h (by decide)
  | 1, h, _ => absurd h (by decide)
  | 2, h, _ => absurd h (by decide)
  | 3, h, _ => Or.inl (hg _ (List.mem_of_getElem? (i := 47) (by decide +kernel)))
  | 4, h, _ => Or.inl (hg _ (List.mem_of_getElem? (i := 93) (by decide +kernel)))
  | 5, h, _ => Or.inl (hg _ (List.mem_of_getElem? (i := 107) (by decide +kernel)))
  | 6, h, _ => Or.inl (hg _ (List.mem_of_getElem? (i := 122) (by decide +kernel)))
  | 7, h, _ => Or.inl (hg _ (List.mem_of_getElem? (i := 138) (by decide +kernel)))
  | 8, h, _ => Or.inl (hg _ (List.mem_of_getElem? (i := 155) (by decide +kernel)))
  | 9, h, _ => Or.inl (hg _ (List.mem_of_getElem? (i := 57) (by decide +kernel)))
  | 10, h, _ => Or.inl (hg _ (List.mem_of_getElem? (i := 173) (by decide +kernel)))
  | 11, h, _ => Or.inl (hg _ (List.mem_of_getElem? (i := 192) (by decide +kernel)))
  | 12, h, _ => Or.inl (hg _ (List.mem_of_getElem? (i := 212) (by decide +kernel)))
  | j + 13, _, h => absurd h (by omega)
theorem st_n3 {args : Array Value} {s : State} (hts : ∀ w ∈ lw_tbl, w.before args s = true) (hg : ∀ c ∈ gvL, c.before args s = true) : ∀ j, 3 < j → j < 13 → (Cond.not (.eq (tW 3) (tW j))).before args s = true ∨ (Cond.not (.eq (tW j) (tW 3))).before args s = true := fun j h1 h2 => match j, h1, h2 with
  | 0, h, _ => absurd h (by decide)
  | 1, h, _ => absurd h (by decide)
  | 2, h, _ => absurd h (by decide)
  | 3, h, _ => absurd h (by decide)
  | 4, h, _ => Or.inl (hg _ (List.mem_of_getElem? (i := 94) (by decide +kernel)))
  | 5, h, _ => Or.inl (hg _ (List.mem_of_getElem? (i := 108) (by decide +kernel)))
  | 6, h, _ => Or.inl (hg _ (List.mem_of_getElem? (i := 123) (by decide +kernel)))
  | 7, h, _ => Or.inl (hg _ (List.mem_of_getElem? (i := 139) (by decide +kernel)))
  | 8, h, _ => Or.inl (hg _ (List.mem_of_getElem? (i := 156) (by decide +kernel)))
  | 9, h, _ => Or.inl (hg _ (List.mem_of_getElem? (i := 58) (by decide +kernel)))
  | 10, h, _ => Or.inl (hg _ (List.mem_of_getElem? (i := 174) (by decide +kernel)))
  | 11, h, _ => Or.inl (hg _ (List.mem_of_getElem? (i := 193) (by decide +kernel)))
  | 12, h, _ => Or.inl (hg _ (List.mem_of_getElem? (i := 213) (by decide +kernel)))
  | j + 13, _, h => absurd h (by omega)
theorem st_n4 {args : Array Value} {s : State} (hts : ∀ w ∈ lw_tbl, w.before args s = true) (hg : ∀ c ∈ gvL, c.before args s = true) : ∀ j, 4 < j → j < 13 → (Cond.not (.eq (tW 4) (tW j))).before args s = true ∨ (Cond.not (.eq (tW j) (tW 4))).before args s = true := fun j h1 h2 => match j, h1, h2 with
  | 0, h, _ => absurd h (by decide)
  | 1, h, _ => absurd h (by decide)
  | 2, h, _ => absurd h (by decide)
  | 3, h, _ => absurd h (by decide)
  | 4, h, _ => absurd h (by decide)
  | 5, h, _ => Or.inl (hg _ (List.mem_of_getElem? (i := 112) (by decide +kernel)))
  | 6, h, _ => Or.inl (hg _ (List.mem_of_getElem? (i := 127) (by decide +kernel)))
  | 7, h, _ => Or.inl (hg _ (List.mem_of_getElem? (i := 143) (by decide +kernel)))
  | 8, h, _ => Or.inl (hg _ (List.mem_of_getElem? (i := 160) (by decide +kernel)))
  | 9, h, _ => Or.inr (hg _ (List.mem_of_getElem? (i := 95) (by decide +kernel)))
  | 10, h, _ => Or.inl (hg _ (List.mem_of_getElem? (i := 178) (by decide +kernel)))
  | 11, h, _ => Or.inl (hg _ (List.mem_of_getElem? (i := 197) (by decide +kernel)))
  | 12, h, _ => Or.inl (hg _ (List.mem_of_getElem? (i := 217) (by decide +kernel)))
  | j + 13, _, h => absurd h (by omega)
theorem st_n5 {args : Array Value} {s : State} (hts : ∀ w ∈ lw_tbl, w.before args s = true) (hg : ∀ c ∈ gvL, c.before args s = true) : ∀ j, 5 < j → j < 13 → (Cond.not (.eq (tW 5) (tW j))).before args s = true ∨ (Cond.not (.eq (tW j) (tW 5))).before args s = true := fun j h1 h2 => match j, h1, h2 with
  | 0, h, _ => absurd h (by decide)
  | 1, h, _ => absurd h (by decide)
  | 2, h, _ => absurd h (by decide)
  | 3, h, _ => absurd h (by decide)
  | 4, h, _ => absurd h (by decide)
  | 5, h, _ => absurd h (by decide)
  | 6, h, _ => Or.inl (hg _ (List.mem_of_getElem? (i := 128) (by decide +kernel)))
  | 7, h, _ => Or.inl (hg _ (List.mem_of_getElem? (i := 144) (by decide +kernel)))
  | 8, h, _ => Or.inl (hg _ (List.mem_of_getElem? (i := 161) (by decide +kernel)))
  | 9, h, _ => Or.inr (hg _ (List.mem_of_getElem? (i := 109) (by decide +kernel)))
  | 10, h, _ => Or.inl (hg _ (List.mem_of_getElem? (i := 179) (by decide +kernel)))
  | 11, h, _ => Or.inl (hg _ (List.mem_of_getElem? (i := 198) (by decide +kernel)))
  | 12, h, _ => Or.inl (hg _ (List.mem_of_getElem? (i := 218) (by decide +kernel)))
  | j + 13, _, h => absurd h (by omega)
theorem st_n6 {args : Array Value} {s : State} (hts : ∀ w ∈ lw_tbl, w.before args s = true) (hg : ∀ c ∈ gvL, c.before args s = true) : ∀ j, 6 < j → j < 13 → (Cond.not (.eq (tW 6) (tW j))).before args s = true ∨ (Cond.not (.eq (tW j) (tW 6))).before args s = true := fun j h1 h2 => match j, h1, h2 with
  | 0, h, _ => absurd h (by decide)
  | 1, h, _ => absurd h (by decide)
  | 2, h, _ => absurd h (by decide)
  | 3, h, _ => absurd h (by decide)
  | 4, h, _ => absurd h (by decide)
  | 5, h, _ => absurd h (by decide)
  | 6, h, _ => absurd h (by decide)
  | 7, h, _ => Or.inl (hg _ (List.mem_of_getElem? (i := 145) (by decide +kernel)))
  | 8, h, _ => Or.inl (hg _ (List.mem_of_getElem? (i := 162) (by decide +kernel)))
  | 9, h, _ => Or.inr (hg _ (List.mem_of_getElem? (i := 124) (by decide +kernel)))
  | 10, h, _ => Or.inl (hg _ (List.mem_of_getElem? (i := 180) (by decide +kernel)))
  | 11, h, _ => Or.inl (hg _ (List.mem_of_getElem? (i := 199) (by decide +kernel)))
  | 12, h, _ => Or.inl (hg _ (List.mem_of_getElem? (i := 219) (by decide +kernel)))
  | j + 13, _, h => absurd h (by omega)
theorem st_n7 {args : Array Value} {s : State} (hts : ∀ w ∈ lw_tbl, w.before args s = true) (hg : ∀ c ∈ gvL, c.before args s = true) : ∀ j, 7 < j → j < 13 → (Cond.not (.eq (tW 7) (tW j))).before args s = true ∨ (Cond.not (.eq (tW j) (tW 7))).before args s = true := fun j h1 h2 => match j, h1, h2 with
  | 0, h, _ => absurd h (by decide)
  | 1, h, _ => absurd h (by decide)
  | 2, h, _ => absurd h (by decide)
  | 3, h, _ => absurd h (by decide)
  | 4, h, _ => absurd h (by decide)
  | 5, h, _ => absurd h (by decide)
  | 6, h, _ => absurd h (by decide)
  | 7, h, _ => absurd h (by decide)
  | 8, h, _ => Or.inl (hg _ (List.mem_of_getElem? (i := 163) (by decide +kernel)))
  | 9, h, _ => Or.inr (hg _ (List.mem_of_getElem? (i := 140) (by decide +kernel)))
  | 10, h, _ => Or.inl (hg _ (List.mem_of_getElem? (i := 181) (by decide +kernel)))
  | 11, h, _ => Or.inl (hg _ (List.mem_of_getElem? (i := 200) (by decide +kernel)))
  | 12, h, _ => Or.inl (hg _ (List.mem_of_getElem? (i := 220) (by decide +kernel)))
  | j + 13, _, h => absurd h (by omega)
theorem st_n8 {args : Array Value} {s : State} (hts : ∀ w ∈ lw_tbl, w.before args s = true) (hg : ∀ c ∈ gvL, c.before args s = true) : ∀ j, 8 < j → j < 13 → (Cond.not (.eq (tW 8) (tW j))).before args s = true ∨ (Cond.not (.eq (tW j) (tW 8))).before args s = true := fun j h1 h2 => match j, h1, h2 with
  | 0, h, _ => absurd h (by decide)
  | 1, h, _ => absurd h (by decide)
  | 2, h, _ => absurd h (by decide)
  | 3, h, _ => absurd h (by decide)
  | 4, h, _ => absurd h (by decide)
  | 5, h, _ => absurd h (by decide)
  | 6, h, _ => absurd h (by decide)
  | 7, h, _ => absurd h (by decide)
  | 8, h, _ => absurd h (by decide)
  | 9, h, _ => Or.inr (hg _ (List.mem_of_getElem? (i := 157) (by decide +kernel)))
  | 10, h, _ => Or.inl (hg _ (List.mem_of_getElem? (i := 182) (by decide +kernel)))
  | 11, h, _ => Or.inl (hg _ (List.mem_of_getElem? (i := 201) (by decide +kernel)))
  | 12, h, _ => Or.inl (hg _ (List.mem_of_getElem? (i := 221) (by decide +kernel)))
  | j + 13, _, h => absurd h (by omega)
theorem st_n9 {args : Array Value} {s : State} (hts : ∀ w ∈ lw_tbl, w.before args s = true) (hg : ∀ c ∈ gvL, c.before args s = true) : ∀ j, 9 < j → j < 13 → (Cond.not (.eq (tW 9) (tW j))).before args s = true ∨ (Cond.not (.eq (tW j) (tW 9))).before args s = true := fun j h1 h2 => match j, h1, h2 with
  | 0, h, _ => absurd h (by decide)
  | 1, h, _ => absurd h (by decide)
  | 2, h, _ => absurd h (by decide)
  | 3, h, _ => absurd h (by decide)
  | 4, h, _ => absurd h (by decide)
  | 5, h, _ => absurd h (by decide)
  | 6, h, _ => absurd h (by decide)
  | 7, h, _ => absurd h (by decide)
  | 8, h, _ => absurd h (by decide)
  | 9, h, _ => absurd h (by decide)
  | 10, h, _ => Or.inl (hg _ (List.mem_of_getElem? (i := 175) (by decide +kernel)))
  | 11, h, _ => Or.inl (hg _ (List.mem_of_getElem? (i := 194) (by decide +kernel)))
  | 12, h, _ => Or.inl (hg _ (List.mem_of_getElem? (i := 214) (by decide +kernel)))
  | j + 13, _, h => absurd h (by omega)
theorem st_n10 {args : Array Value} {s : State} (hts : ∀ w ∈ lw_tbl, w.before args s = true) (hg : ∀ c ∈ gvL, c.before args s = true) : ∀ j, 10 < j → j < 13 → (Cond.not (.eq (tW 10) (tW j))).before args s = true ∨ (Cond.not (.eq (tW j) (tW 10))).before args s = true := fun j h1 h2 => match j, h1, h2 with
  | 0, h, _ => absurd h (by decide)
  | 1, h, _ => absurd h (by decide)
  | 2, h, _ => absurd h (by decide)
  | 3, h, _ => absurd h (by decide)
  | 4, h, _ => absurd h (by decide)
  | 5, h, _ => absurd h (by decide)
  | 6, h, _ => absurd h (by decide)
  | 7, h, _ => absurd h (by decide)
  | 8, h, _ => absurd h (by decide)
  | 9, h, _ => absurd h (by decide)
  | 10, h, _ => absurd h (by decide)
  | 11, h, _ => Or.inl (hg _ (List.mem_of_getElem? (i := 202) (by decide +kernel)))
  | 12, h, _ => Or.inl (hg _ (List.mem_of_getElem? (i := 222) (by decide +kernel)))
  | j + 13, _, h => absurd h (by omega)
theorem st_n11 {args : Array Value} {s : State} (hts : ∀ w ∈ lw_tbl, w.before args s = true) (hg : ∀ c ∈ gvL, c.before args s = true) : ∀ j, 11 < j → j < 13 → (Cond.not (.eq (tW 11) (tW j))).before args s = true ∨ (Cond.not (.eq (tW j) (tW 11))).before args s = true := fun j h1 h2 => match j, h1, h2 with
  | 0, h, _ => absurd h (by decide)
  | 1, h, _ => absurd h (by decide)
  | 2, h, _ => absurd h (by decide)
  | 3, h, _ => absurd h (by decide)
  | 4, h, _ => absurd h (by decide)
  | 5, h, _ => absurd h (by decide)
  | 6, h, _ => absurd h (by decide)
  | 7, h, _ => absurd h (by decide)
  | 8, h, _ => absurd h (by decide)
  | 9, h, _ => absurd h (by decide)
  | 10, h, _ => absurd h (by decide)
  | 11, h, _ => absurd h (by decide)
  | 12, h, _ => Or.inl (hg _ (List.mem_of_getElem? (i := 223) (by decide +kernel)))
  | j + 13, _, h => absurd h (by omega)
theorem st_ne {args : Array Value} {s : State} (hts : ∀ w ∈ lw_tbl, w.before args s = true) (hg : ∀ c ∈ gvL, c.before args s = true) : ∀ i, i < 13 → ∀ j, i < j → j < 13 → (Cond.not (.eq (tW i) (tW j))).before args s = true ∨ (Cond.not (.eq (tW j) (tW i))).before args s = true := fun i hi => match i, hi with
  | 0, _ => st_n0 hts hg
  | 1, _ => st_n1 hts hg
  | 2, _ => st_n2 hts hg
  | 3, _ => st_n3 hts hg
  | 4, _ => st_n4 hts hg
  | 5, _ => st_n5 hts hg
  | 6, _ => st_n6 hts hg
  | 7, _ => st_n7 hts hg
  | 8, _ => st_n8 hts hg
  | 9, _ => st_n9 hts hg
  | 10, _ => st_n10 hts hg
  | 11, _ => st_n11 hts hg
  | 12, _ => fun j h1 h2 => absurd h1 (by omega)
  | i + 13, h => absurd h (by omega)
theorem st_sx {args : Array Value} {s : State} (hts : ∀ w ∈ lw_tbl, w.before args s = true) (hg : ∀ c ∈ gvL, c.before args s = true) : ∀ i, i < 13 → (Cond.exactly (tS i) "java/lang/String").before args s = true := fun i hi => match i, hi with
  | 0, _ => (hg _ (List.mem_of_getElem? (i := 428) (by decide +kernel)))
  | 1, _ => (hg _ (List.mem_of_getElem? (i := 438) (by decide +kernel)))
  | 2, _ => (hg _ (List.mem_of_getElem? (i := 401) (by decide +kernel)))
  | 3, _ => (hg _ (List.mem_of_getElem? (i := 410) (by decide +kernel)))
  | 4, _ => (hg _ (List.mem_of_getElem? (i := 448) (by decide +kernel)))
  | 5, _ => (hg _ (List.mem_of_getElem? (i := 459) (by decide +kernel)))
  | 6, _ => (hg _ (List.mem_of_getElem? (i := 468) (by decide +kernel)))
  | 7, _ => (hg _ (List.mem_of_getElem? (i := 479) (by decide +kernel)))
  | 8, _ => (hg _ (List.mem_of_getElem? (i := 488) (by decide +kernel)))
  | 9, _ => (hg _ (List.mem_of_getElem? (i := 419) (by decide +kernel)))
  | 10, _ => (hg _ (List.mem_of_getElem? (i := 497) (by decide +kernel)))
  | 11, _ => (hg _ (List.mem_of_getElem? (i := 507) (by decide +kernel)))
  | 12, _ => (hg _ (List.mem_of_getElem? (i := 517) (by decide +kernel)))
  | i + 13, h => absurd h (by omega)
theorem st_sc {args : Array Value} {s : State} (hts : ∀ w ∈ lw_tbl, w.before args s = true) (hg : ∀ c ∈ gvL, c.before args s = true) : ∀ i, i < 13 → (Cond.eq (.field (tS i) "java/lang/String" "coder" "B") (.int 0)).before args s = true := fun i hi => match i, hi with
  | 0, _ => (hg _ (List.mem_of_getElem? (i := 429) (by decide +kernel)))
  | 1, _ => (hg _ (List.mem_of_getElem? (i := 439) (by decide +kernel)))
  | 2, _ => (hg _ (List.mem_of_getElem? (i := 402) (by decide +kernel)))
  | 3, _ => (hg _ (List.mem_of_getElem? (i := 411) (by decide +kernel)))
  | 4, _ => (hg _ (List.mem_of_getElem? (i := 449) (by decide +kernel)))
  | 5, _ => (hg _ (List.mem_of_getElem? (i := 460) (by decide +kernel)))
  | 6, _ => (hg _ (List.mem_of_getElem? (i := 469) (by decide +kernel)))
  | 7, _ => (hg _ (List.mem_of_getElem? (i := 480) (by decide +kernel)))
  | 8, _ => (hg _ (List.mem_of_getElem? (i := 489) (by decide +kernel)))
  | 9, _ => (hg _ (List.mem_of_getElem? (i := 420) (by decide +kernel)))
  | 10, _ => (hg _ (List.mem_of_getElem? (i := 498) (by decide +kernel)))
  | 11, _ => (hg _ (List.mem_of_getElem? (i := 508) (by decide +kernel)))
  | 12, _ => (hg _ (List.mem_of_getElem? (i := 518) (by decide +kernel)))
  | i + 13, h => absurd h (by omega)
theorem st_sa {args : Array Value} {s : State} (hts : ∀ w ∈ lw_tbl, w.before args s = true) (hg : ∀ c ∈ gvL, c.before args s = true) : ∀ i, i < 13 → (Cond.arrayOf (.field (tS i) "java/lang/String" "value" "[B") .byte).before args s = true := fun i hi => match i, hi with
  | 0, _ => (hg _ (List.mem_of_getElem? (i := 430) (by decide +kernel)))
  | 1, _ => (hg _ (List.mem_of_getElem? (i := 440) (by decide +kernel)))
  | 2, _ => (hg _ (List.mem_of_getElem? (i := 403) (by decide +kernel)))
  | 3, _ => (hg _ (List.mem_of_getElem? (i := 412) (by decide +kernel)))
  | 4, _ => (hg _ (List.mem_of_getElem? (i := 450) (by decide +kernel)))
  | 5, _ => (hg _ (List.mem_of_getElem? (i := 461) (by decide +kernel)))
  | 6, _ => (hg _ (List.mem_of_getElem? (i := 470) (by decide +kernel)))
  | 7, _ => (hg _ (List.mem_of_getElem? (i := 481) (by decide +kernel)))
  | 8, _ => (hg _ (List.mem_of_getElem? (i := 490) (by decide +kernel)))
  | 9, _ => (hg _ (List.mem_of_getElem? (i := 421) (by decide +kernel)))
  | 10, _ => (hg _ (List.mem_of_getElem? (i := 499) (by decide +kernel)))
  | 11, _ => (hg _ (List.mem_of_getElem? (i := 509) (by decide +kernel)))
  | 12, _ => (hg _ (List.mem_of_getElem? (i := 519) (by decide +kernel)))
  | i + 13, h => absurd h (by omega)
theorem st_sl {args : Array Value} {s : State} (hts : ∀ w ∈ lw_tbl, w.before args s = true) (hg : ∀ c ∈ gvL, c.before args s = true) : ∀ i, i < 13 → (Cond.eq (.length (.field (tS i) "java/lang/String" "value" "[B")) (.int (Int32.ofNat (wdV i).length))).before args s = true := fun i hi => match i, hi with
  | 0, _ => (hg _ (List.mem_of_getElem? (i := 431) (by decide +kernel)))
  | 1, _ => (hg _ (List.mem_of_getElem? (i := 441) (by decide +kernel)))
  | 2, _ => (hg _ (List.mem_of_getElem? (i := 404) (by decide +kernel)))
  | 3, _ => (hg _ (List.mem_of_getElem? (i := 413) (by decide +kernel)))
  | 4, _ => (hg _ (List.mem_of_getElem? (i := 451) (by decide +kernel)))
  | 5, _ => (hg _ (List.mem_of_getElem? (i := 462) (by decide +kernel)))
  | 6, _ => (hg _ (List.mem_of_getElem? (i := 471) (by decide +kernel)))
  | 7, _ => (hg _ (List.mem_of_getElem? (i := 482) (by decide +kernel)))
  | 8, _ => (hg _ (List.mem_of_getElem? (i := 491) (by decide +kernel)))
  | 9, _ => (hg _ (List.mem_of_getElem? (i := 422) (by decide +kernel)))
  | 10, _ => (hg _ (List.mem_of_getElem? (i := 500) (by decide +kernel)))
  | 11, _ => (hg _ (List.mem_of_getElem? (i := 510) (by decide +kernel)))
  | 12, _ => (hg _ (List.mem_of_getElem? (i := 520) (by decide +kernel)))
  | i + 13, h => absurd h (by omega)
theorem st_e0 {args : Array Value} {s : State} (hts : ∀ w ∈ lw_tbl, w.before args s = true) (hg : ∀ c ∈ gvL, c.before args s = true) : ∀ j, j < (wdV 0).length → (Cond.eq (.elem (.field (tS 0) "java/lang/String" "value" "[B") (.int (Int32.ofNat j))) (.int (Int32.ofInt ((wdV 0).getD j (0, 0)).2))).before args s = true := fun j hj => match j, hj with
  | 0, _ => (hg _ (List.mem_of_getElem? (i := 432) (by decide +kernel)))
  | 1, _ => (hg _ (List.mem_of_getElem? (i := 433) (by decide +kernel)))
  | 2, _ => (hg _ (List.mem_of_getElem? (i := 434) (by decide +kernel)))
  | 3, _ => (hg _ (List.mem_of_getElem? (i := 435) (by decide +kernel)))
  | 4, _ => (hg _ (List.mem_of_getElem? (i := 436) (by decide +kernel)))
  | j + 5, h => absurd (show j + 5 < 5 from h) (by omega)
theorem st_e1 {args : Array Value} {s : State} (hts : ∀ w ∈ lw_tbl, w.before args s = true) (hg : ∀ c ∈ gvL, c.before args s = true) : ∀ j, j < (wdV 1).length → (Cond.eq (.elem (.field (tS 1) "java/lang/String" "value" "[B") (.int (Int32.ofNat j))) (.int (Int32.ofInt ((wdV 1).getD j (0, 0)).2))).before args s = true := fun j hj => match j, hj with
  | 0, _ => (hg _ (List.mem_of_getElem? (i := 442) (by decide +kernel)))
  | 1, _ => (hg _ (List.mem_of_getElem? (i := 443) (by decide +kernel)))
  | 2, _ => (hg _ (List.mem_of_getElem? (i := 444) (by decide +kernel)))
  | 3, _ => (hg _ (List.mem_of_getElem? (i := 445) (by decide +kernel)))
  | 4, _ => (hg _ (List.mem_of_getElem? (i := 446) (by decide +kernel)))
  | j + 5, h => absurd (show j + 5 < 5 from h) (by omega)
theorem st_e2 {args : Array Value} {s : State} (hts : ∀ w ∈ lw_tbl, w.before args s = true) (hg : ∀ c ∈ gvL, c.before args s = true) : ∀ j, j < (wdV 2).length → (Cond.eq (.elem (.field (tS 2) "java/lang/String" "value" "[B") (.int (Int32.ofNat j))) (.int (Int32.ofInt ((wdV 2).getD j (0, 0)).2))).before args s = true := fun j hj => match j, hj with
  | 0, _ => (hg _ (List.mem_of_getElem? (i := 405) (by decide +kernel)))
  | 1, _ => (hg _ (List.mem_of_getElem? (i := 406) (by decide +kernel)))
  | 2, _ => (hg _ (List.mem_of_getElem? (i := 407) (by decide +kernel)))
  | 3, _ => (hg _ (List.mem_of_getElem? (i := 408) (by decide +kernel)))
  | j + 4, h => absurd (show j + 4 < 4 from h) (by omega)
theorem st_e3 {args : Array Value} {s : State} (hts : ∀ w ∈ lw_tbl, w.before args s = true) (hg : ∀ c ∈ gvL, c.before args s = true) : ∀ j, j < (wdV 3).length → (Cond.eq (.elem (.field (tS 3) "java/lang/String" "value" "[B") (.int (Int32.ofNat j))) (.int (Int32.ofInt ((wdV 3).getD j (0, 0)).2))).before args s = true := fun j hj => match j, hj with
  | 0, _ => (hg _ (List.mem_of_getElem? (i := 414) (by decide +kernel)))
  | 1, _ => (hg _ (List.mem_of_getElem? (i := 415) (by decide +kernel)))
  | 2, _ => (hg _ (List.mem_of_getElem? (i := 416) (by decide +kernel)))
  | 3, _ => (hg _ (List.mem_of_getElem? (i := 417) (by decide +kernel)))
  | j + 4, h => absurd (show j + 4 < 4 from h) (by omega)
theorem st_e4 {args : Array Value} {s : State} (hts : ∀ w ∈ lw_tbl, w.before args s = true) (hg : ∀ c ∈ gvL, c.before args s = true) : ∀ j, j < (wdV 4).length → (Cond.eq (.elem (.field (tS 4) "java/lang/String" "value" "[B") (.int (Int32.ofNat j))) (.int (Int32.ofInt ((wdV 4).getD j (0, 0)).2))).before args s = true := fun j hj => match j, hj with
  | 0, _ => (hg _ (List.mem_of_getElem? (i := 452) (by decide +kernel)))
  | 1, _ => (hg _ (List.mem_of_getElem? (i := 453) (by decide +kernel)))
  | 2, _ => (hg _ (List.mem_of_getElem? (i := 454) (by decide +kernel)))
  | 3, _ => (hg _ (List.mem_of_getElem? (i := 455) (by decide +kernel)))
  | 4, _ => (hg _ (List.mem_of_getElem? (i := 456) (by decide +kernel)))
  | 5, _ => (hg _ (List.mem_of_getElem? (i := 457) (by decide +kernel)))
  | j + 6, h => absurd (show j + 6 < 6 from h) (by omega)
theorem st_e5 {args : Array Value} {s : State} (hts : ∀ w ∈ lw_tbl, w.before args s = true) (hg : ∀ c ∈ gvL, c.before args s = true) : ∀ j, j < (wdV 5).length → (Cond.eq (.elem (.field (tS 5) "java/lang/String" "value" "[B") (.int (Int32.ofNat j))) (.int (Int32.ofInt ((wdV 5).getD j (0, 0)).2))).before args s = true := fun j hj => match j, hj with
  | 0, _ => (hg _ (List.mem_of_getElem? (i := 463) (by decide +kernel)))
  | 1, _ => (hg _ (List.mem_of_getElem? (i := 464) (by decide +kernel)))
  | 2, _ => (hg _ (List.mem_of_getElem? (i := 465) (by decide +kernel)))
  | 3, _ => (hg _ (List.mem_of_getElem? (i := 466) (by decide +kernel)))
  | j + 4, h => absurd (show j + 4 < 4 from h) (by omega)
theorem st_e6 {args : Array Value} {s : State} (hts : ∀ w ∈ lw_tbl, w.before args s = true) (hg : ∀ c ∈ gvL, c.before args s = true) : ∀ j, j < (wdV 6).length → (Cond.eq (.elem (.field (tS 6) "java/lang/String" "value" "[B") (.int (Int32.ofNat j))) (.int (Int32.ofInt ((wdV 6).getD j (0, 0)).2))).before args s = true := fun j hj => match j, hj with
  | 0, _ => (hg _ (List.mem_of_getElem? (i := 472) (by decide +kernel)))
  | 1, _ => (hg _ (List.mem_of_getElem? (i := 473) (by decide +kernel)))
  | 2, _ => (hg _ (List.mem_of_getElem? (i := 474) (by decide +kernel)))
  | 3, _ => (hg _ (List.mem_of_getElem? (i := 475) (by decide +kernel)))
  | 4, _ => (hg _ (List.mem_of_getElem? (i := 476) (by decide +kernel)))
  | 5, _ => (hg _ (List.mem_of_getElem? (i := 477) (by decide +kernel)))
  | j + 6, h => absurd (show j + 6 < 6 from h) (by omega)
theorem st_e7 {args : Array Value} {s : State} (hts : ∀ w ∈ lw_tbl, w.before args s = true) (hg : ∀ c ∈ gvL, c.before args s = true) : ∀ j, j < (wdV 7).length → (Cond.eq (.elem (.field (tS 7) "java/lang/String" "value" "[B") (.int (Int32.ofNat j))) (.int (Int32.ofInt ((wdV 7).getD j (0, 0)).2))).before args s = true := fun j hj => match j, hj with
  | 0, _ => (hg _ (List.mem_of_getElem? (i := 483) (by decide +kernel)))
  | 1, _ => (hg _ (List.mem_of_getElem? (i := 484) (by decide +kernel)))
  | 2, _ => (hg _ (List.mem_of_getElem? (i := 485) (by decide +kernel)))
  | 3, _ => (hg _ (List.mem_of_getElem? (i := 486) (by decide +kernel)))
  | j + 4, h => absurd (show j + 4 < 4 from h) (by omega)
theorem st_e8 {args : Array Value} {s : State} (hts : ∀ w ∈ lw_tbl, w.before args s = true) (hg : ∀ c ∈ gvL, c.before args s = true) : ∀ j, j < (wdV 8).length → (Cond.eq (.elem (.field (tS 8) "java/lang/String" "value" "[B") (.int (Int32.ofNat j))) (.int (Int32.ofInt ((wdV 8).getD j (0, 0)).2))).before args s = true := fun j hj => match j, hj with
  | 0, _ => (hg _ (List.mem_of_getElem? (i := 492) (by decide +kernel)))
  | 1, _ => (hg _ (List.mem_of_getElem? (i := 493) (by decide +kernel)))
  | 2, _ => (hg _ (List.mem_of_getElem? (i := 494) (by decide +kernel)))
  | 3, _ => (hg _ (List.mem_of_getElem? (i := 495) (by decide +kernel)))
  | j + 4, h => absurd (show j + 4 < 4 from h) (by omega)
theorem st_e9 {args : Array Value} {s : State} (hts : ∀ w ∈ lw_tbl, w.before args s = true) (hg : ∀ c ∈ gvL, c.before args s = true) : ∀ j, j < (wdV 9).length → (Cond.eq (.elem (.field (tS 9) "java/lang/String" "value" "[B") (.int (Int32.ofNat j))) (.int (Int32.ofInt ((wdV 9).getD j (0, 0)).2))).before args s = true := fun j hj => match j, hj with
  | 0, _ => (hg _ (List.mem_of_getElem? (i := 423) (by decide +kernel)))
  | 1, _ => (hg _ (List.mem_of_getElem? (i := 424) (by decide +kernel)))
  | 2, _ => (hg _ (List.mem_of_getElem? (i := 425) (by decide +kernel)))
  | 3, _ => (hg _ (List.mem_of_getElem? (i := 426) (by decide +kernel)))
  | j + 4, h => absurd (show j + 4 < 4 from h) (by omega)
theorem st_e10 {args : Array Value} {s : State} (hts : ∀ w ∈ lw_tbl, w.before args s = true) (hg : ∀ c ∈ gvL, c.before args s = true) : ∀ j, j < (wdV 10).length → (Cond.eq (.elem (.field (tS 10) "java/lang/String" "value" "[B") (.int (Int32.ofNat j))) (.int (Int32.ofInt ((wdV 10).getD j (0, 0)).2))).before args s = true := fun j hj => match j, hj with
  | 0, _ => (hg _ (List.mem_of_getElem? (i := 501) (by decide +kernel)))
  | 1, _ => (hg _ (List.mem_of_getElem? (i := 502) (by decide +kernel)))
  | 2, _ => (hg _ (List.mem_of_getElem? (i := 503) (by decide +kernel)))
  | 3, _ => (hg _ (List.mem_of_getElem? (i := 504) (by decide +kernel)))
  | 4, _ => (hg _ (List.mem_of_getElem? (i := 505) (by decide +kernel)))
  | j + 5, h => absurd (show j + 5 < 5 from h) (by omega)
theorem st_e11 {args : Array Value} {s : State} (hts : ∀ w ∈ lw_tbl, w.before args s = true) (hg : ∀ c ∈ gvL, c.before args s = true) : ∀ j, j < (wdV 11).length → (Cond.eq (.elem (.field (tS 11) "java/lang/String" "value" "[B") (.int (Int32.ofNat j))) (.int (Int32.ofInt ((wdV 11).getD j (0, 0)).2))).before args s = true := fun j hj => match j, hj with
  | 0, _ => (hg _ (List.mem_of_getElem? (i := 511) (by decide +kernel)))
  | 1, _ => (hg _ (List.mem_of_getElem? (i := 512) (by decide +kernel)))
  | 2, _ => (hg _ (List.mem_of_getElem? (i := 513) (by decide +kernel)))
  | 3, _ => (hg _ (List.mem_of_getElem? (i := 514) (by decide +kernel)))
  | 4, _ => (hg _ (List.mem_of_getElem? (i := 515) (by decide +kernel)))
  | j + 5, h => absurd (show j + 5 < 5 from h) (by omega)
theorem st_e12 {args : Array Value} {s : State} (hts : ∀ w ∈ lw_tbl, w.before args s = true) (hg : ∀ c ∈ gvL, c.before args s = true) : ∀ j, j < (wdV 12).length → (Cond.eq (.elem (.field (tS 12) "java/lang/String" "value" "[B") (.int (Int32.ofNat j))) (.int (Int32.ofInt ((wdV 12).getD j (0, 0)).2))).before args s = true := fun j hj => match j, hj with
  | 0, _ => (hg _ (List.mem_of_getElem? (i := 521) (by decide +kernel)))
  | 1, _ => (hg _ (List.mem_of_getElem? (i := 522) (by decide +kernel)))
  | 2, _ => (hg _ (List.mem_of_getElem? (i := 523) (by decide +kernel)))
  | 3, _ => (hg _ (List.mem_of_getElem? (i := 524) (by decide +kernel)))
  | 4, _ => (hg _ (List.mem_of_getElem? (i := 525) (by decide +kernel)))
  | j + 5, h => absurd (show j + 5 < 5 from h) (by omega)
theorem st_se {args : Array Value} {s : State} (hts : ∀ w ∈ lw_tbl, w.before args s = true) (hg : ∀ c ∈ gvL, c.before args s = true) : ∀ i, i < 13 → ∀ j, j < (wdV i).length → (Cond.eq (.elem (.field (tS i) "java/lang/String" "value" "[B") (.int (Int32.ofNat j))) (.int (Int32.ofInt ((wdV i).getD j (0, 0)).2))).before args s = true := fun i hi => match i, hi with
  | 0, _ => st_e0 hts hg
  | 1, _ => st_e1 hts hg
  | 2, _ => st_e2 hts hg
  | 3, _ => st_e3 hts hg
  | 4, _ => st_e4 hts hg
  | 5, _ => st_e5 hts hg
  | 6, _ => st_e6 hts hg
  | 7, _ => st_e7 hts hg
  | 8, _ => st_e8 hts hg
  | 9, _ => st_e9 hts hg
  | 10, _ => st_e10 hts hg
  | 11, _ => st_e11 hts hg
  | 12, _ => st_e12 hts hg
  | i + 13, h => absurd h (by omega)
theorem st_mr {args : Array Value} {s : State} (hts : ∀ w ∈ lw_tbl, w.before args s = true) (hg : ∀ c ∈ gvL, c.before args s = true) : ∀ i, i < 13 → (Cond.stringRef "CoalStreetModel" (mIx.getD i 0) (wTx.getD i "")).before args s = true := fun i hi => match i, hi with
  | 0, _ => (hts _ (List.mem_of_getElem? (i := 1795) (by decide +kernel)))
  | 1, _ => (hts _ (List.mem_of_getElem? (i := 1802) (by decide +kernel)))
  | 2, _ => (hts _ (List.mem_of_getElem? (i := 1803) (by decide +kernel)))
  | 3, _ => (hts _ (List.mem_of_getElem? (i := 1821) (by decide +kernel)))
  | 4, _ => (hts _ (List.mem_of_getElem? (i := 1826) (by decide +kernel)))
  | 5, _ => (hts _ (List.mem_of_getElem? (i := 1831) (by decide +kernel)))
  | 6, _ => (hts _ (List.mem_of_getElem? (i := 1832) (by decide +kernel)))
  | 7, _ => (hts _ (List.mem_of_getElem? (i := 1833) (by decide +kernel)))
  | 8, _ => (hts _ (List.mem_of_getElem? (i := 1838) (by decide +kernel)))
  | 9, _ => (hts _ (List.mem_of_getElem? (i := 1839) (by decide +kernel)))
  | 10, _ => (hts _ (List.mem_of_getElem? (i := 1844) (by decide +kernel)))
  | 11, _ => (hts _ (List.mem_of_getElem? (i := 1845) (by decide +kernel)))
  | 12, _ => (hts _ (List.mem_of_getElem? (i := 1846) (by decide +kernel)))
  | i + 13, h => absurd h (by omega)
theorem st_ms {args : Array Value} {s : State} (hts : ∀ w ∈ lw_tbl, w.before args s = true) (hg : ∀ c ∈ gvL, c.before args s = true) : ∀ i, i < 13 → (Cond.eq (.string "CoalStreetModel" (mIx.getD i 0)) (tS i)).before args s = true := fun i hi => match i, hi with
  | 0, _ => (hg _ (List.mem_of_getElem? (i := 437) (by decide +kernel)))
  | 1, _ => (hg _ (List.mem_of_getElem? (i := 447) (by decide +kernel)))
  | 2, _ => (hg _ (List.mem_of_getElem? (i := 409) (by decide +kernel)))
  | 3, _ => (hg _ (List.mem_of_getElem? (i := 418) (by decide +kernel)))
  | 4, _ => (hg _ (List.mem_of_getElem? (i := 458) (by decide +kernel)))
  | 5, _ => (hg _ (List.mem_of_getElem? (i := 467) (by decide +kernel)))
  | 6, _ => (hg _ (List.mem_of_getElem? (i := 478) (by decide +kernel)))
  | 7, _ => (hg _ (List.mem_of_getElem? (i := 487) (by decide +kernel)))
  | 8, _ => (hg _ (List.mem_of_getElem? (i := 496) (by decide +kernel)))
  | 9, _ => (hg _ (List.mem_of_getElem? (i := 427) (by decide +kernel)))
  | 10, _ => (hg _ (List.mem_of_getElem? (i := 506) (by decide +kernel)))
  | 11, _ => (hg _ (List.mem_of_getElem? (i := 516) (by decide +kernel)))
  | 12, _ => (hg _ (List.mem_of_getElem? (i := 526) (by decide +kernel)))
  | i + 13, h => absurd h (by omega)
theorem st_ae {args : Array Value} {s : State} (hts : ∀ w ∈ lw_tbl, w.before args s = true) (hg : ∀ c ∈ gvL, c.before args s = true) : ∀ i, i < 13 → (Cond.eq (.elem (.static "CoalStreet$Word" "ALL" "[LCoalStreet$Word;") (.int (Int32.ofNat i))) (tW i)).before args s = true := fun i hi => match i, hi with
  | 0, _ => (hg _ (List.mem_of_getElem? (i := 11) (by decide +kernel)))
  | 1, _ => (hg _ (List.mem_of_getElem? (i := 12) (by decide +kernel)))
  | 2, _ => (hg _ (List.mem_of_getElem? (i := 13) (by decide +kernel)))
  | 3, _ => (hg _ (List.mem_of_getElem? (i := 14) (by decide +kernel)))
  | 4, _ => (hg _ (List.mem_of_getElem? (i := 15) (by decide +kernel)))
  | 5, _ => (hg _ (List.mem_of_getElem? (i := 16) (by decide +kernel)))
  | 6, _ => (hg _ (List.mem_of_getElem? (i := 17) (by decide +kernel)))
  | 7, _ => (hg _ (List.mem_of_getElem? (i := 18) (by decide +kernel)))
  | 8, _ => (hg _ (List.mem_of_getElem? (i := 19) (by decide +kernel)))
  | 9, _ => (hg _ (List.mem_of_getElem? (i := 20) (by decide +kernel)))
  | 10, _ => (hg _ (List.mem_of_getElem? (i := 21) (by decide +kernel)))
  | 11, _ => (hg _ (List.mem_of_getElem? (i := 22) (by decide +kernel)))
  | 12, _ => (hg _ (List.mem_of_getElem? (i := 23) (by decide +kernel)))
  | i + 13, h => absurd h (by omega)
theorem st_nc {args : Array Value} {s : State} (hts : ∀ w ∈ lw_tbl, w.before args s = true) (hg : ∀ c ∈ gvL, c.before args s = true) : a_nc s := by
  unfold a_nc a_ncL
  intro q hq
  simp only [List.mem_cons, List.not_mem_nil, or_false] at hq
  rcases hq with rfl | rfl | rfl | rfl | rfl | rfl | rfl | rfl | rfl | rfl | rfl | rfl
  · exact va_Nc.of (args := args) (hg _ (List.mem_of_getElem? (i := 236) (by decide +kernel)))
  · exact va_Nc.of (args := args) (hg _ (List.mem_of_getElem? (i := 238) (by decide +kernel)))
  · exact va_Nc.of (args := args) (hg _ (List.mem_of_getElem? (i := 239) (by decide +kernel)))
  · exact va_Nc.of (args := args) (hg _ (List.mem_of_getElem? (i := 252) (by decide +kernel)))
  · exact va_Nc.of (args := args) (hg _ (List.mem_of_getElem? (i := 254) (by decide +kernel)))
  · exact va_Nc.of (args := args) (hg _ (List.mem_of_getElem? (i := 255) (by decide +kernel)))
  · exact va_Nc.of (args := args) (hg _ (List.mem_of_getElem? (i := 268) (by decide +kernel)))
  · exact va_Nc.of (args := args) (hg _ (List.mem_of_getElem? (i := 269) (by decide +kernel)))
  · exact va_Nc.of (args := args) (hg _ (List.mem_of_getElem? (i := 271) (by decide +kernel)))
  · exact va_Nc.of (args := args) (hg _ (List.mem_of_getElem? (i := 284) (by decide +kernel)))
  · exact va_Nc.of (args := args) (hg _ (List.mem_of_getElem? (i := 285) (by decide +kernel)))
  · exact va_Nc.of (args := args) (hg _ (List.mem_of_getElem? (i := 287) (by decide +kernel)))
def kFw (k : Nat) : List (String × String × String × Nat × aV) := [("CoalStreet$Word", "numbers", "I", k, (0, wW k 0)), ("CoalStreet$Word", "low", "I", k, (0, wW k 1)), ("CoalStreet$Word", "high", "I", k, (0, wW k 2)), ("CoalStreet$Word", "secondLow", "I", k, (0, wW k 3)), ("CoalStreet$Word", "secondHigh", "I", k, (0, wW k 4)), ("CoalStreet$Word", "rule", "I", k, (0, wW k 5)), ("CoalStreet$Word", "letters", "Ljava/lang/String;", k, (2, -16 - (k : Int)))]
def kFs (k : Nat) : List (String × String × String × Nat × aV) := [("java/lang/String", "coder", "B", 14 + k, (0, 0)), ("java/lang/String", "value", "[B", 14 + k, (2, -29 - (k : Int)))]
theorem a_kF_eq : a_kF = (List.range 13).flatMap kFw ++ (List.range 13).flatMap kFs := by decide +kernel
theorem a_kO_eq : a_kO = (List.range 13).map (fun k => (k, "CoalStreet$Word")) ++ (List.range 13).map (fun k => (14 + k, "java/lang/String")) := by decide +kernel
theorem a_kZ_eq : a_kZ = (List.range 13).map (fun k => ("CoalStreet$Word", wNm.getD k "", "LCoalStreet$Word;", ((2 : Nat), -2 - (k : Int)))) ++ [("CoalStreet$Word", "ALL", "[LCoalStreet$Word;", (2, -15)), ("java/lang/String", "COMPACT_STRINGS", "Z", (0, 1))] := by decide +kernel
theorem a_kT_eq : a_kT = (FieldType.object "CoalStreet$Word", 13, (List.range 13).map (fun k : Nat => ((2 : Nat), -2 - (k : Int)))) :: (List.range 13).map (fun k => (FieldType.byte, 27 + k, wdV k)) := by decide +kernel
theorem a_kR_eq : a_kR = (List.range 13).map (fun k => (mIx.getD k 0, wTx.getD k "", 14 + k)) := by decide +kernel
theorem st_k {args : Array Value} {s : State} (hts : ∀ w ∈ lw_tbl, w.before args s = true) (hg : ∀ c ∈ gvL, c.before args s = true) (hL9 : ∀ a : Nat, a < s.heap.size → ¬ s.heap.size ≤ a) {b L : Nat} {xs : Nat → Int32} (hL : L ≤ 3072) (hX : va_X b L xs s s.heap) (hb : b < s.heap.size) : ∃ cn : Nat → Nat, cn 41 = b ∧ ∀ (D : va_G) (ty : Nat → ClassId), a_k (D, ty, s.heap.size, cn) s s.heap := by
  have hA : ∀ a : Nat, a < s.heap.size → ¬ (fun q : Nat => s.heap.size ≤ q) a := hL9
  have w0 : ∀ i : Nat, ∃ t : Nat, i < 13 → (tW i).eval args s none [] s = some (.ref t) ∧ va_O "CoalStreet$Word" t (fun q : Nat => s.heap.size ≤ q) s s.heap := by
    intro i
    by_cases hi : i < 13
    · obtain ⟨a, c, cell, k, q1, q2, q3, q4, q5, q6, -⟩ := Cond.exactly_spec (st_ex hts hg i hi)
      exact ⟨a, fun _ => ⟨q1, va_Oof (st_ex hts hg i hi) q1 hA⟩⟩
    · exact ⟨0, fun h => absurd h hi⟩
  obtain ⟨adW, hadW⟩ := Classical.axiomOfChoice w0
  have s0 : ∀ i : Nat, ∃ q : Nat × Nat, i < 13 → (tS i).eval args s none [] s = some (.ref q.1) ∧ va_O "java/lang/String" q.1 (fun q : Nat => s.heap.size ≤ q) s s.heap ∧ va_OF "java/lang/String" "coder" "B" (.int 0) q.1 (fun q : Nat => s.heap.size ≤ q) s s.heap ∧ va_OF "java/lang/String" "value" "[B" (.ref q.2) q.1 (fun q : Nat => s.heap.size ≤ q) s s.heap ∧ va_T .byte q.2 (wdV i).length (fun j => .int (Int32.ofInt ((wdV i).getD j (0, 0)).2)) (fun q : Nat => s.heap.size ≤ q) s s.heap := by
    intro i
    by_cases hi : i < 13
    · obtain ⟨a, c, cell, k, q1, q2, q3, q4, q5, q6, -⟩ := Cond.exactly_spec (st_sx hts hg i hi)
      obtain ⟨t, ht, hT⟩ := va_Tof (f := fun j => .int (Int32.ofInt ((wdV i).getD j (0, 0)).2)) (A := fun q : Nat => s.heap.size ≤ q) (by have := (hkS i hi).2.1; omega) (st_sa hts hg i hi) (va_eqt (st_sl hts hg i hi)) (fun j hj => va_eqt (st_se hts hg i hi j hj)) hA
      exact ⟨(a, t), fun _ => ⟨q1, va_Oof (st_sx hts hg i hi) q1 hA, vk_OFof q1 (va_eqt (st_sc hts hg i hi)) hA, vk_OFof q1 ht hA, hT⟩⟩
    · exact ⟨(0, 0), fun h => absurd h hi⟩
  obtain ⟨adS, hadS⟩ := Classical.axiomOfChoice s0
  obtain ⟨tA, hAev, hAT⟩ := va_Tof (tm := .static "CoalStreet$Word" "ALL" "[LCoalStreet$Word;") (ty := .object "CoalStreet$Word") (N := 13) (f := fun j => .ref (adW j)) (A := fun q : Nat => s.heap.size ≤ q) (by decide) (hg _ (List.mem_of_getElem? (i := 8) (by decide +kernel))) (va_eqt (hg _ (List.mem_of_getElem? (i := 9) (by decide +kernel)))) (fun j hj => va_eqv (st_ae hts hg j hj) (hadW j hj).1) hA
  have hini : (Cond.initialized "CoalStreet$Word").before args s = true := (hts _ (List.mem_of_getElem? (i := 131) (by decide +kernel)))
  have hAZ : va_Z "CoalStreet$Word" "ALL" "[LCoalStreet$Word;" (.ref tA) (fun q : Nat => s.heap.size ≤ q) s s.heap := va_Zref (hts _ (List.mem_of_getElem? (i := 872) (by decide +kernel))) hini hAev hA
  have hCS : va_Z "java/lang/String" "COMPACT_STRINGS" "Z" (.int 1) (fun q : Nat => s.heap.size ≤ q) s s.heap := va_Zof (hts _ (List.mem_of_getElem? (i := 886) (by decide +kernel))) (hts _ (List.mem_of_getElem? (i := 132) (by decide +kernel))) (va_eqt (hg _ (List.mem_of_getElem? (i := 24) (by decide +kernel)))) hA
  have hFM : ∃ f40 : Nat, va_Z "jdk/internal/util/Preconditions" "SIOOBE_FORMATTER" "Ljava/util/function/BiFunction;" .null (fun q : Nat => s.heap.size ≤ q) s s.heap ∨ va_Z "jdk/internal/util/Preconditions" "SIOOBE_FORMATTER" "Ljava/util/function/BiFunction;" (.ref f40) (fun q : Nat => s.heap.size ≤ q) s s.heap := by
    rcases va_Zqof (C := "jdk/internal/util/Preconditions") (n := "SIOOBE_FORMATTER") (d := "Ljava/util/function/BiFunction;") (A := fun q : Nat => s.heap.size ≤ q) (hts _ (List.mem_of_getElem? (i := 902) (by decide +kernel))) (hts _ (List.mem_of_getElem? (i := 134) (by decide +kernel))) (hg _ (List.mem_of_getElem? (i := 25) (by decide +kernel))) hA with h | ⟨t, h⟩
    · exact ⟨0, Or.inl h⟩
    · exact ⟨t, Or.inr h⟩
  obtain ⟨f40, hFM⟩ := hFM
  obtain ⟨cn, hcn⟩ : ∃ cn : Nat → Nat, cn = fun k => if k < 13 then adW k else if k = 13 then tA else if k < 27 then (adS (k - 14)).1 else if k < 40 then (adS (k - 27)).2 else if k = 40 then f40 else if k = 41 then b else if k = 42 then L else (xs (k - 43)).toBitVec.toNat := ⟨_, rfl⟩
  have c0 : ∀ k, k < 13 → cn k = adW k := fun k h => by rw [hcn]; exact if_pos h
  have c13 : cn 13 = tA := by rw [hcn]; rfl
  have c14 : ∀ k, k < 13 → cn (14 + k) = (adS k).1 := fun k h => by
    rw [hcn]
    show (if 14 + k < 13 then _ else _) = _
    rw [if_neg (by omega), if_neg (by omega), if_pos (by omega), show 14 + k - 14 = k by omega]
  have c27 : ∀ k, k < 13 → cn (27 + k) = (adS k).2 := fun k h => by
    rw [hcn]
    show (if 27 + k < 13 then _ else _) = _
    rw [if_neg (by omega), if_neg (by omega), if_neg (by omega), if_pos (by omega), show 27 + k - 27 = k by omega]
  have c40 : cn 40 = f40 := by rw [hcn]; rfl
  have c41 : cn 41 = b := by rw [hcn]; rfl
  have c42 : cn 42 = L := by rw [hcn]; rfl
  have c43 : ∀ j, cn (43 + j) = (xs j).toBitVec.toNat := fun j => by
    rw [hcn]
    show (if 43 + j < 13 then _ else _) = _
    rw [if_neg (by omega), if_neg (by omega), if_neg (by omega), if_neg (by omega), if_neg (by omega), if_neg (by omega), if_neg (by omega), show 43 + j - 43 = j by omega]
  clear hcn
  refine ⟨cn, c41, fun D ty => ⟨⟨fun q hq => ?_, fun q hq => ?_, fun q hq => ?_, fun q hq => ?_, ?_, ?_⟩, fun q hq => ?_, fun i j hi hj h => ?_, ?_, st_nc hts hg⟩⟩
  · rw [a_kO_eq] at hq
    rcases List.mem_append.mp hq with h | h
    · obtain ⟨k, hk, rfl⟩ := List.mem_map.mp h
      have hk := List.mem_range.mp hk
      show va_O "CoalStreet$Word" (cn k) _ s s.heap
      rw [c0 k hk]; exact (hadW k hk).2
    · obtain ⟨k, hk, rfl⟩ := List.mem_map.mp h
      have hk := List.mem_range.mp hk
      show va_O "java/lang/String" (cn (14 + k)) _ s s.heap
      rw [c14 k hk]; exact (hadS k hk).2.1
  · rw [a_kF_eq] at hq
    rcases List.mem_append.mp hq with h | h
    · obtain ⟨k, hk, hq⟩ := List.mem_flatMap.mp h
      have hk := List.mem_range.mp hk
      have e : ∀ n d v, (Term.field (tW k) "CoalStreet$Word" n d).eval args s none [] s = some v → va_OF "CoalStreet$Word" n d v (cn k) (fun q : Nat => s.heap.size ≤ q) s s.heap := fun n d v h => by
        rw [c0 k hk]; exact vk_OFof (hadW k hk).1 h hA
      unfold kFw at hq
      simp only [List.mem_cons, List.not_mem_nil, or_false] at hq
      rcases hq with rfl | rfl | rfl | rfl | rfl | rfl | rfl
      · exact e _ _ _ (va_eqt (st_f0 hts hg k hk))
      · exact e _ _ _ (va_eqt (st_f1 hts hg k hk))
      · exact e _ _ _ (va_eqt (st_f2 hts hg k hk))
      · exact e _ _ _ (va_eqt (st_f3 hts hg k hk))
      · exact e _ _ _ (va_eqt (st_f4 hts hg k hk))
      · exact e _ _ _ (va_eqt (st_f5 hts hg k hk))
      · have e2 : a_kv (D, ty, s.heap.size, cn) (2, -16 - (k : Int)) = .ref (adS k).1 := by
          rw [← c14 k hk]; exact a_cvk (E := (D, ty, s.heap.size, cn)) (k := 14 + k) (by omega)
        show va_OF "CoalStreet$Word" "letters" "Ljava/lang/String;" (a_kv (D, ty, s.heap.size, cn) (2, -16 - (k : Int))) (cn k) _ s s.heap
        rw [e2]; exact e _ _ _ (va_eqv (st_lt hts hg k hk) (hadS k hk).1)
    · obtain ⟨k, hk, hq⟩ := List.mem_flatMap.mp h
      have hk := List.mem_range.mp hk
      unfold kFs at hq
      simp only [List.mem_cons, List.not_mem_nil, or_false] at hq
      rcases hq with rfl | rfl
      · show va_OF "java/lang/String" "coder" "B" (.int 0) (cn (14 + k)) _ s s.heap
        rw [c14 k hk]; exact (hadS k hk).2.2.1
      · have e2 : a_kv (D, ty, s.heap.size, cn) (2, -29 - (k : Int)) = .ref (adS k).2 := by
          rw [← c27 k hk]; exact a_cvk (E := (D, ty, s.heap.size, cn)) (k := 27 + k) (by omega)
        show va_OF "java/lang/String" "value" "[B" (a_kv (D, ty, s.heap.size, cn) (2, -29 - (k : Int))) (cn (14 + k)) _ s s.heap
        rw [e2, c14 k hk]; exact (hadS k hk).2.2.2.1
  · rw [a_kZ_eq] at hq
    rcases List.mem_append.mp hq with h | h
    · obtain ⟨k, hk, rfl⟩ := List.mem_map.mp h
      have hk := List.mem_range.mp hk
      have e2 : a_kv (D, ty, s.heap.size, cn) (2, -2 - (k : Int)) = .ref (adW k) := by
        rw [← c0 k hk]; exact a_cvk (E := (D, ty, s.heap.size, cn)) (k := k) rfl
      show va_Z "CoalStreet$Word" (wNm.getD k "") "LCoalStreet$Word;" (a_kv (D, ty, s.heap.size, cn) (2, -2 - (k : Int))) _ s s.heap
      rw [e2]; exact va_Zref (st_lsW hts hg k hk) hini (hadW k hk).1 hA
    · simp only [List.mem_cons, List.not_mem_nil, or_false] at h
      rcases h with rfl | rfl
      · have e2 : a_kv (D, ty, s.heap.size, cn) (2, -15) = .ref tA := by
          rw [← c13]; exact a_cvk (E := (D, ty, s.heap.size, cn)) (k := 13) (by decide)
        show va_Z "CoalStreet$Word" "ALL" "[LCoalStreet$Word;" (a_kv (D, ty, s.heap.size, cn) (2, -15)) _ s s.heap
        rw [e2]; exact hAZ
      · exact hCS
  · rw [a_kT_eq] at hq
    rcases List.mem_cons.mp hq with rfl | h
    · show va_T (.object "CoalStreet$Word") (cn 13) 13 _ _ s s.heap
      rw [c13]
      obtain ⟨cell, h1, h2, h3, h4, h5, h6, h7⟩ := hAT
      refine ⟨cell, h1, h2, h3, h4, h5, fun j hj => (h6 j hj).trans (congrArg some ?_), h7⟩
      have e3 : ((List.range 13).map (fun k : Nat => ((2 : Nat), -2 - (k : Int)))).getD j (0, 0) = (2, -2 - (j : Int)) := (show ∀ j, j < 13 → ((List.range 13).map (fun k : Nat => ((2 : Nat), -2 - (k : Int)))).getD j (0, 0) = (2, -2 - (j : Int)) by decide +kernel) j hj
      show Value.ref (adW j) = a_kv (D, ty, s.heap.size, cn) (((List.range 13).map (fun k : Nat => ((2 : Nat), -2 - (k : Int)))).getD j (0, 0))
      rw [e3, ← c0 j hj]; exact (a_cvk (E := (D, ty, s.heap.size, cn)) (k := j) rfl).symm
    · obtain ⟨k, hk, rfl⟩ := List.mem_map.mp h
      have hk := List.mem_range.mp hk
      show va_T .byte (cn (27 + k)) (wdV k).length _ _ s s.heap
      rw [c27 k hk]
      obtain ⟨cell, h1, h2, h3, h4, h5, h6, h7⟩ := (hadS k hk).2.2.2.2
      refine ⟨cell, h1, h2, h3, h4, h5, fun j hj => (h6 j hj).trans (congrArg some ?_), h7⟩
      have hb9 := (hkB k hk j (by rw [← (hkS k hk).2.2]; exact hj)).1
      show Value.int (Int32.ofInt ((wdV k).getD j (0, 0)).2) = a_kv (D, ty, s.heap.size, cn) ((wdV k).getD j (0, 0))
      rw [hb9]; rfl
  · show _ ∨ va_Z _ _ _ (.ref (cn 40)) _ s s.heap
    rw [c40]; exact hFM
  · show va_T .int (cn 41) (cn 42) _ _ s s.heap
    rw [c41, c42]
    obtain ⟨scr, h1, h2, h3, h4, h5⟩ := hX
    refine ⟨scr, h1, h2, h3, Nat.le_of_eq h4.symm, by rw [h4], fun j hj => (h5 j hj).trans (congrArg some (congrArg Value.int ?_)), hA b hb⟩
    show xs j = Int32.ofNat (cn (43 + j))
    rw [c43]
    refine Int32.toBitVec_inj.mp ?_
    show _ = BitVec.ofNat 32 (xs j).toBitVec.toNat
    rw [BitVec.ofNat_toNat, BitVec.setWidth_eq]
  · rw [a_kR_eq] at hq
    obtain ⟨k, hk, rfl⟩ := List.mem_map.mp hq
    have hk := List.mem_range.mp hk
    show vk_R "CoalStreetModel" (mIx.getD k 0) (wTx.getD k "") (cn (14 + k)) s
    rw [c14 k hk]; exact vk_R.of (A := args) (st_mr hts hg k hk) (va_eqv (st_ms hts hg k hk) (hadS k hk).1)
  · have h : cn i = cn j := h
    rw [c0 i hi, c0 j hj] at h
    rcases Nat.lt_trichotomy i j with q | q | q
    · rcases st_ne hts hg i hi j q hj with z | z
      · exact absurd h (va_neR z (hadW i hi).1 (hadW j hj).1)
      · exact absurd h.symm (va_neR z (hadW j hj).1 (hadW i hi).1)
    · exact q
    · rcases st_ne hts hg j hj i q hi with z | z
      · exact absurd h.symm (va_neR z (hadW j hj).1 (hadW i hi).1)
      · exact absurd h (va_neR z (hadW i hi).1 (hadW j hj).1)
  · show cn 42 ≤ 3072
    rw [c42]; exact hL
