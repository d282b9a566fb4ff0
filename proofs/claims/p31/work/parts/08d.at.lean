/-! .. of obstacles, charts, notices -/
def mTh (f : Nat → Nat → Int32) (i : Nat) (d : Int32) : Bool := thX (f 13 i) (f 14 i) d
def mKi (f : Nat → Nat → Int32) (i : Nat) : Int32 := f 15 (cnt (f 17 i))
def mSl (f : Nat → Nat → Int32) (i : Nat) : Int32 := if mKi f i = 0 then f 18 i else -1
def mMg (f : Nat → Nat → Int32) (i : Nat) : Int32 := margins (cnt (mKi f i))
/-- what is demanded: with the obstacles' rows fx, of which those below n are told; with w left out -/
def dmH (fx : Nat → Nat → Int32) (f : Nat → Nat → Int32) (i N : Nat) (P : Nat → Bool) : Int32 := fl N (fun j h => if P j = true ∧ ¬ fx 10 j < 0 then imax h (mNd (fx 10 j) (fx 11 j) (fx 12 j) (mMg f i) (mSl f i)) else h) (bases (cnt (mKi f i)))
def dmA (fx : Nat → Nat → Int32) (N : Nat) (P : Nat → Bool) (h1 : Int32) : Int32 := fl N (fun j a => if P j = true ∧ fx 10 j < 0 then imax a (mAb (fx 12 j) (fx 10 j) h1) else a) 0
def dmd (fx : Nat → Nat → Int32) (f : Nat → Nat → Int32) (i N : Nat) (P : Nat → Bool) : Int32 := rUp (dmH fx f i N P + dmA fx N P (dmH fx f i N P))
/-- who is there: of the told ones -/
def pN (f : Nat → Nat → Int32) (g : Nat → Nat) (d w : Int32) (j : Nat) : Bool := decide (j < g 1 ∧ ¬ nI j = w ∧ mTh f j d = true)
def mCh (f : Nat → Nat → Int32) (g : Nat → Nat) (i : Nat) (d : Int32) : Int32 := fl (amL f i (g 4)).length (fun j h => if ¬ d < f 20 ((amL f i (g 4)).getD j 0) then f 21 ((amL f i (g 4)).getD j 0) else h) (-1)
def mCo (f : Nat → Nat → Int32) (i : Nat) (d : Int32) : Nat → Nat → Bool
  | 0, _ => true
  | n + 1, k => if f 22 k = 3 ∧ f 23 k = nI i ∧ ¬ d < f 25 k then false else mCo f i d n (k + 1)
def mCt (f : Nat → Nat → Int32) (i : Nat) (d : Int32) (B : Nat) : Bool := if f 22 i = 3 ∨ d < f 25 i ∨ f 26 i < d then false else mCo f i d (B - (i + 1)) (i + 1)
def mNL (f : Nat → Nat → Int32) (i : Nat) (d ch : Int32) (B : Nat) : Nat → Nat → Int32 → Int32
  | 0, _, r => if ch = -1 then -1 else ch + r
  | n + 1, k, r => if mCt f k d B = true then (if (f 22 k = 1 ∧ f 23 k = f 17 i) ∨ (f 22 k = 2 ∧ f 23 k = nI i) then -1 else if f 22 k = 0 ∧ f 23 k = nI i then mNL f i d ch B n (k + 1) (imax r (f 24 k)) else mNL f i d ch B n (k + 1) r) else mNL f i d ch B n (k + 1) r
def mNo (f : Nat → Nat → Int32) (i : Nat) (d ch : Int32) (B : Nat) : Int32 := mNL f i d ch B B 0 0
def mIF (f : Nat → Nat → Int32) (g : Nat → Nat) (i : Nat) (d : Int32) : Int32 := if mGd f (cnt (f 17 i)) d = true then mNo f i d (mCh f g i d) (g 5) else -1
def mLH (f : Nat → Nat → Int32) (g : Nat → Nat) (i : Nat) (d w : Int32) : Int32 := dmd f f i (g 1 + 1) (pN f g d w)
def mUn (f : Nat → Nat → Int32) (g : Nat → Nat) (i : Nat) (d : Int32) : Bool := decide (¬ mIF f g i d = -1 ∧ mIF f g i d < mLH f g i d (-1))
