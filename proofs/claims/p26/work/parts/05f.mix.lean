def mrB (fm : Nat → Int32) (x : Nat) (d : Int64) : Nat → Int64
  | 0 => d
  | t + 1 => mrB fm x d t * 31 + (fm (x * 10 + (x + 1 + t))).toInt64
theorem mrB_s {fm : Nat → Int32} {x y : Nat} {d : Int64} (h : x + 1 ≤ y) : mrB fm x d (y + 1 - (x + 1)) = mrB fm x d (y - (x + 1)) * 31 + (fm (x * 10 + y)).toInt64 := by
  rw [show y + 1 - (x + 1) = (y - (x + 1)) + 1 by omega, mrB, show x + 1 + (y - (x + 1)) = y by omega]
def mrA (fm : Nat → Int32) (pl : Nat) (d : Int64) : Nat → Int64
  | 0 => d
  | x + 1 => mrB fm x (mrA fm pl d x) (pl - (x + 1))
def mrT (ft : Nat → Int32) (d : Int64) : Nat → Int64
  | 0 => d
  | q + 1 => mrT ft d q * 31 + (ft q).toInt64
def mixR (fm ft : Nat → Int32) (pl : Nat) (d : Int64) : Int64 := mrT ft (mrA fm pl (d * 31 + (nI pl).toInt64) pl) pl
def mbW (b : Nat → Int32) (d : Int64) : Nat → Int64
  | 0 => d
  | w + 1 => mbW b d w * 31 + (fct b w).toInt64
def mbA (B : Nat → Nat → Int32) (d : Int64) : Nat → Int64
  | 0 => d
  | i + 1 => mbW (B i) (mbA B d i) 8
def mixB (B : Nat → Nat → Int32) (n : Nat) (d : Int64) : Int64 := mbA B (d * 31 + (nI n).toInt64) n
def mtW (tf : Nat → Int64) (kd : Nat) (d : Int64) : Nat → Int64
  | 0 => d
  | w + 1 => mtW tf kd d w * 31 + tf (kd * 4 + w)
def mtA (tf wf : Nat → Int64) (d : Int64) : Nat → Int64
  | 0 => d
  | kd + 1 => mtW tf kd (mtA tf wf d kd) 4 * 31 + wf kd
def dgst (fm ft : Nat → Int32) (pl dy n : Nat) (B : Nat → Nat → Int32) (tf wf : Nat → Int64) : Int64 := mtA tf wf (mixB B n (mixR fm ft pl (197 * 31 + (nI dy).toInt64))) 3


