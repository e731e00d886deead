/-! WHAT THE ANSWERS ARE (2): groups of a set, by the cost c of each set; sellers -/
def onesV (s : Int) : Int := sumN (fun h => if hb s h = 1 then b_shl 1 ((6 - h) * 3) else 0) 7
def lowV (s : Int) : Int := firstB (fun h => decide (hb s h = 1)) 7
/-- what s costs if g is the group of its least one, with the row of numbers: nxt of the rest -/
def grpC (c nxt : Int → Int) (s g : Int) : Int := if 0 < g ∧ b_and g (b_xor s (-1)) = 0 ∧ hb g (lowV s) = 1 ∧ c g ≠ -1 ∧ nxt (b_xor s g) ≠ -1 then c g * 2097152 + (nxt (b_xor s g) + onesV (b_xor s g)) else -1
def totF (c : Int → Int) : Nat → Int → Int
  | 0 => fun _ => 0
  | n + 1 => fun s => if s = 0 then 0 else bestL (grpC c (totF c n) s) 128
/-- TOTAL times 8^7 and the row of numbers of GROUPS -/
def totE (c : Int → Int) (s : Int) : Int := totF c 7 s
def totV (c : Int → Int) (s : Int) : Int := if totE c s = -1 then -1 else totE c s / 2097152
/-- the number of the group of h -/
def digE (e h : Int) : Int := b_and (b_shr (e % 2097152) ((6 - h) * 3)) 7
def digV (c : Int → Int) (s h : Int) : Int := digE (totE c s) h
/-- the group of the least one -/
def firstG (c : Int → Int) (s : Int) : Int := orN (fun h => decide (hb s h = 1 ∧ digV c s h = 0)) 7
/-- what is left behind n groups -/
def restF (c : Int → Int) (s : Int) : Nat → Int
  | 0 => s
  | n + 1 => b_xor (restF c s n) (firstG c (restF c s n))
def manyF (c : Int → Int) : Nat → Int → Int
  | 0, _ => 0
  | n + 1, s => if s = 0 then 0 else 1 + manyF c n (b_xor s (firstG c s))
def sackF (c w : Int → Int) : Nat → Int → Int
  | 0, _ => 0
  | n + 1, s => if s = 0 then 0 else w (firstG c s) + sackF c w n (b_xor s (firstG c s))
/-- a seller's steps -/
def stepT (t : Int → Int) (p n r : Int) : Int → Int := fun j => if j = 220 then (if n = 0 then 1 else 2) else if j = 221 then 1 else if j = 222 then n else if j = 227 then p else if j = 228 then r else t j
def gainT (t : Int → Int) (s k : Int) : Int := if totE (costV t) s = -1 then -1000000 else totV (costV t) s - k * sackF (costV t) (fun g => allV t g % 512) 7 s
def upG (x : Int × Int × Int) (n r v : Int) : Int × Int × Int := if x.2.2 < v then (n, r, v) else x
def selR (t : Int → Int) (s p k n : Int) : Nat → Int × Int × Int → Int × Int × Int
  | 0, x => x
  | j + 1, x => upG (selR t s p k n j x) n (j + 1) (gainT (stepT t p n (j + 1)) s k)
def selN (t : Int → Int) (s p k : Int) : Nat → Int × Int × Int
  | 0 => (-1, -1, -1000000)
  | i + 1 => selR t s p k (i + 2) (p - 1).toNat (selN t s p k i)
def selV (t : Int → Int) (s p k : Int) : Int × Int × Int := selN t s p k 11
def plainG (t : Int → Int) (s p k : Int) : Int := gainT (stepT t p 0 0) s k
