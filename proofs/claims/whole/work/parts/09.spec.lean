/-! the numbers of a LOOP at work -/
def mxI (a b : Int32) : Int32 := if a < b then b else a
def mnI (a b : Int32) : Int32 := if b < a then b else a
def abI (a : Int32) : Int32 := if 0 ≤ a then a else -a
/-- OUT of Q -/
def valF (three q : Int32) : Int32 := if three = 0 then (if q < 0 then -1 else 1) else (if q < 500 then (if -500 < q then 0 else -1) else 1)
/-- the REGISTER's step -/
def regF (r : Int32) : Int32 := r / 2 + 32768 * ((((r ^^^ (r >>> ((2 : Int32) &&& 31))) ^^^ (r >>> ((3 : Int32) &&& 31))) ^^^ (r >>> ((5 : Int32) &&& 31))) &&& 1)
/-- Z -/
def stiF (noise r : Int32) : Int32 := if noise = 0 then 0 else if regF r &&& 1 = 1 then noise else -noise
def stiR (noise r : Int32) : Int32 := if noise = 0 then r else regF r
def hldF (bd x : Int32) : Int32 := mxI (-bd) (mnI bd x)
def hldC (bd x c : Int32) : Int32 := if hldF bd x = x then c else c + 1
def lstF (n : Nat) (sums : Nat → Int32) : Int32 := if n = 0 then 0 else sums (n - 1)
/-- the STAGES up to k: the sums, the clips, what goes into the next -/
def stgF (fac : Nat → Int32) (bd out v : Int32) (sums : Nat → Int32) (clips : Int32) : Nat → (Nat → Int32) × Int32 × Int32
  | 0 => (sums, clips, v)
  | k + 1 =>
    let p := stgF fac bd out v sums clips k
    let x := p.1 k + ((fac k * (p.2.2 - 1000 * out)) >>> ((4 : Int32) &&& 31))
    (upd p.1 k (hldF bd x), hldC bd x p.2.1, hldF bd x)
/-- a CLOCK's OUT -/
def clkO (n : Nat) (three noise : Int32) (sums : Nat → Int32) (r : Int32) : Int32 := valF three (lstF n sums + stiF noise r)
theorem vp_in_lit {k N : Nat} (h : Nat.ble (k + 1) N = true) (hN : Nat.ble (N + 1) 2147483648 = true) : vp_in (nI k) N := vp_in_nI (Nat.le_of_ble_eq_true h) (Nat.le_of_ble_eq_true hN)
theorem nI_lit0 : (0 : Int32) = nI 0 := nI_0.symm
theorem cl_nI {n : Nat} (h : n < 2 ^ 31) : (nI n).toNatClampNeg = n := nI_clamp h
/-- Math.floorDiv, Math.floorMod -/
def fdvI (x y : Int32) : Int32 := if 0 ≤ x ^^^ y then x / y else if x / y * y = x then x / y else x / y - 1
def fmdI (x y : Int32) : Int32 := if 0 ≤ x ^^^ y then x - x / y * y else if x - x / y * y = 0 then x - x / y * y else x - x / y * y + y
/-- a loop's numbers: stages, factors, bound, three -/
abbrev lP : Type := Nat × (Nat → Int32) × Int32 × Int32
/-- a core's numbers: sums, register, clips -/
abbrev cS : Type := (Nat → Int32) × Int32 × Int32
def cOut (L : lP) (cn : Int32) (s : cS) : Int32 := clkO L.1 L.2.2.2 cn s.1 s.2.1
def cStp (L : lP) (cn v : Int32) (s : cS) : cS := ((stgF L.2.1 L.2.2.1 (cOut L cn s) v s.1 s.2.2 L.1).1, stiR cn s.2.1, (stgF L.2.1 L.2.2.1 (cOut L cn s) v s.1 s.2.2 L.1).2.1)
def cItr (L : lP) (cn v : Int32) : Nat → cS → cS
  | 0, s => s
  | k + 1, s => cStp L cn v (cItr L cn v k s)
def eqS (a b : Nat → Int32) : Int32 := if a 0 = b 0 ∧ a 1 = b 1 ∧ a 2 = b 2 then 1 else 0
/-- a sum, a count .. over clocks a, a + 1 .. -/
def fld {α : Type} (f : Nat → α → α) (a : Nat) : Nat → α → α
  | 0, s => s
  | n + 1, s => f (a + n) (fld f a n s)
/-- a wave's numbers: kinds, firsts, seconds, lengths, pieces, clocks -/
abbrev wP : Type := (Nat → Int32) × (Nat → Int32) × (Nat → Int32) × (Nat → Int32) × Nat × Nat
def lvlI (kd a b ln k : Int32) : Int32 := if kd = 1 ∧ 0 < ln then a + fdvI ((b - a) * k) ln else if kd = 2 ∧ 0 < b then fdvI (a * (b - 4 * mnI (k - k / b * b) (b - (k - k / b * b)))) b else a
def lvlG (W : wP) : Nat → Nat → Int32 → Int32
  | 0, _, _ => 0
  | n + 1, p, k => if k < W.2.2.2.1 p then lvlI (W.1 p) (W.2.1 p) (W.2.2.1 p) (W.2.2.2.1 p) k else lvlG W n (p + 1) (k - W.2.2.2.1 p)
def lvlT (W : wP) (t : Int32) : Int32 := lvlG W W.2.2.2.2.1 0 (if 0 < W.2.2.2.2.2 then fmdI t (nI W.2.2.2.2.2) else 0)
def lowF (W : wP) (c : Nat) : Int32 := fld (fun t s => mnI s (lvlT W (nI t))) 0 c 1000
def topF (W : wP) (c : Nat) : Int32 := fld (fun t s => mxI s (lvlT W (nI t))) 0 c (-1000)
/-- the weights of one clock, order by order -/
def wgtS (r : Nat → Int32) (by_ j : Nat) : Int32 := fld (fun i s => s + r (j - i)) 0 (min by_ (j + 1)) 0
def wgtF (by_ : Nat) : Nat → Nat → Int32
  | 0, j => if j = 0 then 1 else 0
  | k + 1, j => if j < 1 + (k + 1) * (by_ - 1) then wgtS (wgtF by_ k) by_ j else wgtF by_ k j
