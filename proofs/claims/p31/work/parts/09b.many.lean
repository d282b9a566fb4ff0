/-! how many there are, in the reference -/
theorem vs_new {D : Nat → Prop} {H H1 H2 : Heap} {L : List Loc} (h : va_S D H H1 L) (hx : ext H1 H2) : va_S D H H2 L :=
  ⟨Nat.le_trans h.1 hx.1, fun q hq hn => (hx.2 q (Nat.lt_of_lt_of_le hq h.1)).trans (h.2.1 q hq hn), h.2.2⟩
def mBa (f : Nat → Nat → Int32) (g : Nat → Nat) : Int32 := fl (g 3) (fun j s => if mUn f g j (nI (g 0)) = true then s ||| (1 <<< (nI j &&& 31)) else s) 0
