/-! methods on any state that keeps the invariant -/
/-! the ground: walls, lines of sight, the order of landmarks -/
def wB (w : Int64) (x : Int32) : Bool := decide (lg_cmp ((w >>> (Int32.toInt64 x &&& 63)) &&& 1) 1 = 0)
def cdR : Nat → Int32 → Int32 → Int32
  | 0, u, _ => u
  | q + 1, u, v => if v = 0 then u else cdR q v (u - u / v * v)
def absI (x : Int32) : Int32 := if 0 ≤ x then x else 0 - x
def gS (x y : Int32) : Int32 := cdR 64 (absI x) (absI y)
/-- no wall on the way: at the places 1 .. n - 1 -/
def nwB (w : Int64) (p : Int32 → Int32) : Nat → Bool
  | 0 => true
  | n + 1 => nwB w p n && (decide (n = 0) || !wB w (p (nI n)))
abbrev dXt (a b : Int32) : Int32 := (b - b / 8 * 8) - (a - a / 8 * 8)
abbrev dYt (a b : Int32) : Int32 := (b / 8) - (a / 8)
def gAB (a b : Int32) : Int32 := gS (dXt a b) (dYt a b)
/-- the way as the class goes it, and as the reference does -/
def pC (a b : Int32) : Int32 → Int32 := fun i => a + (i * ((8 * (dYt a b / gAB a b)) + (dXt a b / gAB a b)))
def seesB (w : Int64) (a b : Int32) : Bool := nwB w (pC a b) (gAB a b).toNatClampNeg
/-- left of, as seen from a -/
def lofB (a b c : Int32) : Bool := decide (0 < ((((b - b / 8 * 8) - (a - a / 8 * 8)) * ((c / 8) - (a / 8))) - (((b / 8) - (a / 8)) * ((c - c / 8 * 8) - (a - a / 8 * 8)))))
/-- the landmarks of a view, by their cells: all in order, from the one side on -/
def ordB (k : Int32) (L : Int32 → Int32) : Nat → Bool
  | 0 => true
  | n + 1 => ordB k L n && lofB k (L (nI n)) (L ((nI n) + 1))
def saB (w : Int64) (k : Int32) (L : Int32 → Int32) : Nat → Bool
  | 0 => true
  | n + 1 => saB w k L n && seesB w k (L (nI n))
def LC (σ : Sg) (c : Int32) : Int32 → Int32 := fun i => σ.2.2.1 94 (Int32.toNatClampNeg (σ.2.2.1 (96 + (Int32.toNatClampNeg c)) (Int32.toNatClampNeg i)))
def ordT (k : Int32) (L : Int32 → Int32) (n : Int32) : Bool := ordB k L (Int32.toNatClampNeg (n - 1)) && (decide (n - 1 < 1) || lofB k (L 0) (L (n - 1)))
def fC (σ : Sg) (c : Int32) (o : Int64) : Nat → Bool := fun n => decide (lg_cmp ((o >>> (Int32.toInt64 (nI n) &&& 63)) &&& 1) 1 = 0) && (ordT (nI n) (LC σ c) (σ.2.2.1 116 (Int32.toNatClampNeg c)) && saB (σ.2.1 9301) (nI n) (LC σ c) (Int32.toNatClampNeg (σ.2.2.1 116 (Int32.toNatClampNeg c))))
