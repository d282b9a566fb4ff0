/-! the checksum, in the class's words -/
def sd (d : Int64) (v : Int32) : Int64 := d * 31 + v.toInt64
def dg1 (f : Nat → Nat → Int32) (g : Nat → Nat) : Int64 := fl 20 (fun j d => sd d (mny f g (nI j))) 4815
def dg2 (f : Nat → Nat → Int32) (g : Nat → Nat) : Int64 := fl (g 1) (fun i d => fl 5 (fun w d => sd d (ofOb f (nI i) (nI w))) d) (dg1 f g)
def dg3P (f : Nat → Nat → Int32) (g : Nat → Nat) (p : Int32) (d : Int64) : Int64 := sd (sd (sd (sd (sd (sd (sd d (lH f g p (nI (g 0)) (-1) + 10 * 0)) (fCat (hIF f g p (nI (g 0))) 0)) (hOn f p (nI (g 0)) (g 4))) (hOn f p 399 (g 4))) (dcd f g p (nI (g 0)))) (uOn f g p (400 - g 0) 0)) (rFo f g p)
def dg3 (f : Nat → Nat → Int32) (g : Nat → Nat) : Int64 := fl (g 3) (fun p d => dg3P f g (nI p) d) (dg2 f g)
def dg4 (f : Nat → Nat → Int32) (g : Nat → Nat) : Int64 := fl (g 5) (fun i d => fl 6 (fun w d => sd d (ofNo f g (nI i) (nI w))) d) (dg3 f g)
def dg5 (f : Nat → Nat → Int32) (g : Nat → Nat) : Int64 := fl 4 (fun c d => fl (g 3) (fun p d => sd d (fCat (hBl f g (nI c) (nI p) (nI (g 0))) 1)) (sd d (mis f g (nI c)))) (dg4 f g)
theorem kOr2 {a b : Option String} (h1 : a = none) (h2 : b = none) : kOr a b = none := by rw [h1]; exact h2
/-- the mean of what is demanded, as a double -/
def mnD (f : Nat → Nat → Int32) (g : Nat → Nat) (d : Int32) : UInt64 := if 0 < nI (g 3) then FP.ddiv (FP.i2d (suD f g d)) (FP.i2d (nI (g 3))) else 0
