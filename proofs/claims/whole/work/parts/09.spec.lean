/-! the numbers of a LOOP at work -/
def mxI (a b : Int32) : Int32 := if a < b then b else a
def mnI (a b : Int32) : Int32 := if b < a then b else a
def abI (a : Int32) : Int32 := if 0 ≤ a then a else -a
/-- OUT of Q -/
def valF (three q : Int32) : Int32 := if three = 0 then (if q < 0 then -1 else 1) else (if q < 500 then (if -500 < q then 0 else -1) else 1)
/-- the REGISTER's step -/
def regF (r : Int32) : Int32 := r / 2 + 32768 * ((((r ^^^ (r >>> ((2 : Int32) &&& 31))) ^^^ (r >>> ((3 : Int32) &&& 31))) ^^^ (r >>> ((5 : Int32) &&& 31))) &&& 1)
/-- Z -/
def stiF (noise r : Int32) : Int32 := if noise = 0 then 0 else if regF r &&& 1 = 1 then noise else -noise
def stiR (noise r : Int32) : Int32 := if noise = 0 then r else regF r
def hldF (bd x : Int32) : Int32 := mxI (-bd) (mnI bd x)
def hldC (bd x c : Int32) : Int32 := if hldF bd x = x then c else c + 1
def lstF (n : Nat) (sums : Nat → Int32) : Int32 := if n = 0 then 0 else sums (n - 1)
/-- the STAGES up to k: the sums, the clips, what goes into the next -/
def stgF (fac : Nat → Int32) (bd out v : Int32) (sums : Nat → Int32) (clips : Int32) : Nat → (Nat → Int32) × Int32 × Int32
  | 0 => (sums, clips, v)
  | k + 1 =>
    let p := stgF fac bd out v sums clips k
    let x := p.1 k + ((fac k * (p.2.2 - 1000 * out)) >>> ((4 : Int32) &&& 31))
    (upd p.1 k (hldF bd x), hldC bd x p.2.1, hldF bd x)
/-- a CLOCK's OUT -/
def clkO (n : Nat) (three noise : Int32) (sums : Nat → Int32) (r : Int32) : Int32 := valF three (lstF n sums + stiF noise r)
theorem vp_in_lit {k N : Nat} (h : Nat.ble (k + 1) N = true) (hN : Nat.ble (N + 1) 2147483648 = true) : vp_in (nI k) N := vp_in_nI (Nat.le_of_ble_eq_true h) (Nat.le_of_ble_eq_true hN)
theorem nI_lit0 : (0 : Int32) = nI 0 := nI_0.symm
theorem cl_nI {n : Nat} (h : n < 2 ^ 31) : (nI n).toNatClampNeg = n := nI_clamp h
/-- Math.floorDiv, Math.floorMod -/
def fdvI (x y : Int32) : Int32 := if 0 ≤ x ^^^ y then x / y else if x / y * y = x then x / y else x / y - 1
def fmdI (x y : Int32) : Int32 := if 0 ≤ x ^^^ y then x - x / y * y else if x - x / y * y = 0 then x - x / y * y else x - x / y * y + y
/-- a loop's numbers: stages, factors, bound, three -/
abbrev lP : Type := Nat × (Nat → Int32) × Int32 × Int32
/-- a core's numbers: sums, register, clips -/
abbrev cS : Type := (Nat → Int32) × Int32 × Int32
def cOut (L : lP) (cn : Int32) (s : cS) : Int32 := clkO L.1 L.2.2.2 cn s.1 s.2.1
def cStp (L : lP) (cn v : Int32) (s : cS) : cS := ((stgF L.2.1 L.2.2.1 (cOut L cn s) v s.1 s.2.2 L.1).1, stiR cn s.2.1, (stgF L.2.1 L.2.2.1 (cOut L cn s) v s.1 s.2.2 L.1).2.1)
def cItr (L : lP) (cn v : Int32) : Nat → cS → cS
  | 0, s => s
  | k + 1, s => cStp L cn v (cItr L cn v k s)
def eqS (a b : Nat → Int32) : Int32 := if a 0 = b 0 ∧ a 1 = b 1 ∧ a 2 = b 2 then 1 else 0
