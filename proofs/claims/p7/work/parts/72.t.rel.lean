/-- where a relation leads from a set -/
def zmn (s r : Int) : Nat → Int
  | 0 => 0
  | n + 1 => if zand (zshr s (n : Int)) 1 = 1 then zor (zmn s r n) (zand (zshr r ((3 * n : Nat) : Int)) 7) else zmn s r n
def zmZ (s r n : Int) : Int := zmn s r n.toNat
/-! what leads over a call and its return -/
def zov (K : Int → Int) (c l x : Int) : Nat → Int
  | 0 => 0
  | g + 1 => zor (zov K c l x g) (thnZ (thnZ (K (3 * c + (g : Int))) x 9) (K (3 * l + (g : Int))) 9)
def zovZ (K : Int → Int) (c l x n : Int) : Int := zov K c l x n.toNat
