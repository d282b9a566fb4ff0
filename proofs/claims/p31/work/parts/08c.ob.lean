/-! what the reference's methods answer, in its own words -/
def mGd (f : Nat → Nat → Int32) (a : Nat) (d : Int32) : Bool := decide (¬ f 16 a < d)
def thX (a b d : Int32) : Bool := decide (¬ d < a ∧ (b = -1 ∨ ¬ b < d))
def mNd (x y t mg sl : Int32) : Int32 := if 2 * (1 + x / 10) < iabs y then 0 else if ¬ sl = -1 ∧ ¬ x * sl < t then 0 else if ¬ 1 + x / 10 < iabs y then t + mg else t + mg * (2 * (1 + x / 10) - iabs y) / (1 + x / 10)
def mAb (t x h : Int32) : Int32 := t - (h - 30 - 25 * x)
