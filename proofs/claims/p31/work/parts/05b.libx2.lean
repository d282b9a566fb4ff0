/-! ===== my own library, more: throws in a heap H; what the calls of the class refuse; what they answer ===== -/
section QY
variable {p : Program} {l : Launch} {e : Env} {R : Room} {s : State} {m : MethodId} {args : Array Value} {below : List Frame} {meth : Method} {c : Code} {H : Heap} {locs : List Loc} {cells slots : Nat} {Q : State → Prop}
variable {Ts ws ws' : List Cond} {cc bytes : ByteArray} {nL maxL index n : Nat} {own C : String} {y : MethodName} {ret : Option FieldType} {rm : Room} {b a pc : Nat} {As rest st0 : List Value} {ls : Array Slot} {G : GT} {v : Option Value} {av : List Value} {ko ko' : Option String} {mc ms : Nat} {free : Addr → Prop} {Qc : Array Value → State → Outcome → State → Prop} {XC : String → State → State → Prop}
theorem rx_thW {cls text : String} {ik is ic : Nat} (S : CallFix p m c cc nL s args Ts RX7) (hH : s.heap = H) (hlf : l.stackTraces = false) (hG : GK G H s) (hsz : ls.size = nL) (hout : ∀ x ∈ c.exceptionTable.toList, False) (hlocks : meth.locks = false)
    (hk : Cond.classLink RX7 ik cls ∈ Ts) (hi : Cond.initialized cls ∈ Ts) (hcls : Bundle.fit cls = true) (hs : (is, text) ∈ gk_strs) (h1 : ∀ w ∈ (vx_atS RX7 ic cls xUp).filter goodWord, w ∈ Ts) (h2 : ∀ w ∈ (vx_atS RX7 ic cls xUp).filter (fun w => !goodWord w), w ∈ tables_1 ∧ gk_ok w = true)
    (hgood : ∀ w ∈ Cond.classLink RX7 ik cls :: Cond.initialized cls :: vx_atS RX7 ic cls xUp, vx_ot w = true)
    (d0 : decode cc pc = .ok (.new ik, 3)) (d3 : decode cc (pc + 3) = .ok (.dup, 1)) (d4 : decode cc (pc + 4) = .ok (.ldc_w is, 3)) (d7 : decode cc (pc + 7) = .ok (.invokespecial ic, 3)) (d10 : decode cc (pc + 10) = .ok (.athrow, 1))
    (hR : rx_rm R rest) (hmc : 1 ≤ mc ∧ 6 ≤ ms) (hx : ∀ t : State, ext H t.heap → XC cls s t) :
    W p l e R s m args below meth c H [] 0 0 (vx_MQ below Qc XC args s mc ms free) (F0 m pc ls rest) := by
  subst hH
  exact rx_throwW S hlf hG hsz hout hlocks hk hi hcls hs h1 h2 hgood d0 d3 d4 d7 d10 hR hmc hx
theorem rx_thS {cls text : String} {ik is ic : Nat} (S : CallFix p m c cc nL s args Ts RX7) (hH : s.heap = H) (hlf : l.stackTraces = false) (hG : GK G H s) (hsz : ls.size = nL) (hout : ∀ x ∈ c.exceptionTable.toList, False) (hlocks : meth.locks = false)
    (hk : Cond.classLink RX7 ik cls ∈ Ts) (hi : Cond.initialized cls ∈ Ts) (hcls : Bundle.fit cls = true) (hs : (is, text) ∈ gk_strs) (h1 : ∀ w ∈ (vx_atS RX7 ic cls xUp).filter goodWord, w ∈ Ts) (h2 : ∀ w ∈ (vx_atS RX7 ic cls xUp).filter (fun w => !goodWord w), w ∈ tables_1 ∧ gk_ok w = true)
    (hgood : ∀ w ∈ Cond.classLink RX7 ik cls :: Cond.initialized cls :: vx_atS RX7 ic cls xUp, vx_ot w = true)
    (d0 : decode cc pc = .ok (.new ik, 3)) (d3 : decode cc (pc + 3) = .ok (.dup, 1)) (d4 : decode cc (pc + 4) = .ok (.ldc is, 2)) (d6 : decode cc (pc + 6) = .ok (.invokespecial ic, 3)) (d9 : decode cc (pc + 9) = .ok (.athrow, 1))
    (hR : rx_rm R rest) (hmc : 1 ≤ mc ∧ 6 ≤ ms) (hx : ∀ t : State, ext H t.heap → XC cls s t) :
    W p l e R s m args below meth c H [] 0 0 (vx_MQ below Qc XC args s mc ms free) (F0 m pc ls rest) := by
  subst hH
  exact rx_throwS S hlf hG hsz hout hlocks hk hi hcls hs h1 h2 hgood d0 d3 d4 d6 d9 hR hmc hx
theorem rx_lret {x : Int64} (S : CallFix p m c cc nL s av.toArray Ts own) (hr : meth.sig.returnType = some .long) (hlocks : meth.locks = false) (hdg : decode cc pc = .ok (.lreturn, 1)) (hk : ko = none) (hv : v = some (.long x)) :
    W p l e R s m av.toArray below meth c H [] 0 0 (rx_Q below H av s ko v) (F0 m pc ls [.long x]) :=
  W.widen (k := 1) (n := 6) (Nat.le_of_ble_eq_true rfl) (Nat.le_of_ble_eq_true rfl) (vx_ret (W.lret S.1 S.2.1 hr (fun t ht _ => ⟨hk, by rw [hv], ht⟩) (fun _ h => nomatch h) hdg hlocks))
theorem rx_dret {x : UInt64} (S : CallFix p m c cc nL s av.toArray Ts own) (hr : meth.sig.returnType = some .double) (hlocks : meth.locks = false) (hdg : decode cc pc = .ok (.dreturn, 1)) (hk : ko = none) (hv : v = some (.double x)) :
    W p l e R s m av.toArray below meth c H [] 0 0 (rx_Q below H av s ko v) (F0 m pc ls [.double x]) :=
  W.widen (k := 1) (n := 6) (Nat.le_of_ble_eq_true rfl) (Nat.le_of_ble_eq_true rfl) (vx_ret (W.dret S.1 S.2.1 hr (fun t ht _ => ⟨hk, by rw [hv], ht⟩) (fun _ h => nomatch h) hdg hlocks))
end QY
def kOr : Option String → Option String → Option String
  | none, b => b
  | some e, _ => some e
def koArg (v lo hi : Int32) : Option String := if v < lo then some xIAE else if hi < v then some xIAE else none
def koIx (i : Int32) (n : Nat) : Option String := if i < 0 then some xIOB else if nI n ≤ i then some xIOB else none
def koNL (g : Nat → Nat) : Option String := if 16 ≤ nI (g 5) then some xISE else none
def koTime (g : Nat → Nat) (a b : Int32) : Option String := kOr (koArg a (nI (g 0)) 399) (koArg b a 399)
def koPl (x y a b : Int32) : Option String := kOr (koArg x (-20) 60) (kOr (koArg y (-9) 9) (kOr (koArg a 0 399) (if b = -1 then none else koArg b a 399)))
theorem koArg_n {v lo hi : Int32} (h : koArg v lo hi = none) : ¬ v < lo ∧ ¬ hi < v := by
  unfold koArg at h
  by_cases h1 : v < lo
  · rw [if_pos h1] at h; cases h
  · by_cases h2 : hi < v
    · rw [if_neg h1, if_pos h2] at h; cases h
    · exact ⟨h1, h2⟩
theorem koOr_n {a b : Option String} (h : kOr a b = none) : a = none ∧ b = none := by
  cases a with
  | none => exact ⟨rfl, h⟩
  | some e => cases h
/-- a day that isn't refused -/
theorem koDay_n {v : Int32} (h : koArg v 0 399 = none) : ∃ d : Nat, d ≤ 399 ∧ v = nI d :=
  nI_of2 (M := 399) (n := 399) (by decide) (koArg_n h).1 (Int32.not_lt.mp (koArg_n h).2)
theorem imax_nI {a b : Nat} (ha : a < 2 ^ 31) (hb : b < 2 ^ 31) : imax (nI a) (nI b) = nI (max a b) := by
  unfold imax
  by_cases h : a < b
  · rw [if_pos (nI_lt h hb), Nat.max_eq_right (by omega)]
  · rw [if_neg (nI_nlt (by omega) ha), Nat.max_eq_left (by omega)]
def ofOb (f : Nat → Nat → Int32) (i w : Int32) : Int32 := if w = 0 then rowAt 12 (f 10) i else if w = 1 then rowAt 12 (f 11) i else if w = 2 then rowAt 12 (f 12) i else if w = 3 then rowAt 12 (f 13) i else rowAt 12 (f 14) i
def ofNo (f : Nat → Nat → Int32) (g : Nat → Nat) (i w : Int32) : Int32 := if w = 0 then rowAt 16 (f 22) i else if w = 1 then rowAt 16 (f 23) i else if w = 2 then rowAt 16 (f 24) i else if w = 3 then rowAt 16 (f 25) i else if w = 4 then rowAt 16 (f 26) i else if rowAt 16 (f 22) i = 3 ∨ isAc f i (nI (g 0)) (nI (g 5)) = true then 1 else 0
def dcF (f : Nat → Nat → Int32) (g : Nat → Nat) (p d : Int32) (j : Nat) (st : Int32 × Int32) : Int32 × Int32 := if lH f g p d (nI j) < st.1 then (lH f g p d (nI j), nI j) else st
def dcd (f : Nat → Nat → Int32) (g : Nat → Nat) (p d : Int32) : Int32 := (fl (g 1) (dcF f g p d) (lH f g p d (-1), -1)).2
def mis (f : Nat → Nat → Int32) (g : Nat → Nat) (c : Int32) : Int32 := fl (g 3) (fun j s => if ¬ hBl f g c (nI j) (nI (g 0)) = -1 ∧ (hIF f g (nI j) (nI (g 0)) = -1 ∨ hBl f g c (nI j) (nI (g 0)) < hIF f g (nI j) (nI (g 0))) then s ||| (1 <<< (nI j &&& 31)) else s) 0
def mny (f : Nat → Nat → Int32) (g : Nat → Nat) (w : Int32) : Int32 :=
  if ¬ w < 16 then rowAt 4 (f 29) (w - 16) else if ¬ w < 12 then rowAt 4 (f 28) (w - 12) else if ¬ w < 9 then rowAt 3 (f 16) (w - 9)
  else if w = 0 then nI (g 1) else if w = 1 then nI (g 0) else if w = 2 then nI (g 3) else if w = 3 then nI (g 4) else if w = 4 then nI (g 5) else if w = 5 then acOn f (g 5) (nI (g 0)) else if w = 6 then goOn f (nI (g 0)) else if w = 7 then uSet f g else nI (g 7)
def suD (f : Nat → Nat → Int32) (g : Nat → Nat) (d : Int32) : Int32 := fl (g 3) (fun j s => s + lH f g (nI j) d (-1)) 0
def uOn (f : Nat → Nat → Int32) (g : Nat → Nat) (p : Int32) : Nat → Nat → Int32
  | 0, _ => -1
  | n + 1, k => if isUn f g p (nI (g 0 + k)) = true then nI (g 0 + k) else uOn f g p n (k + 1)
def rFL (f : Nat → Nat → Int32) (g : Nat → Nat) (p : Int32) : Int32 := fl (400 - g 0) (fun j by_ => if isUn f g p (nI (g 0 + j)) = true then imax by_ (lH f g p (nI (g 0 + j)) (-1) - hOn f p (nI (g 0 + j)) (g 4)) else by_) 0
def rFo (f : Nat → Nat → Int32) (g : Nat → Nat) (p : Int32) : Int32 := if 500 < rFL f g p then -1 else rFL f g p
def laOf (b : Int32) : Nat := if b = -1 then 399 else cnt b
theorem laOf_t {b : Int32} (h : b = -1) : (399 : Int32) = nI (laOf b) := by rw [laOf, if_pos h]; rfl
theorem laOf_f {b : Int32} (h : ¬ b = -1) (hb : b = nI (cnt b)) : b = nI (laOf b) := by rw [laOf, if_neg h]; exact hb
theorem imax_c {a : Int32} {n : Nat} (ha : a = nI (cnt a)) (hn : n < 2 ^ 31) : imax a (nI n) = nI (max (cnt a) n) := by
  have h := imax_nI (cnt_lt a) hn
  rw [← ha] at h
  exact h
theorem koDay_c {v : Int32} (h : koArg v 0 399 = none) : v = nI (cnt v) ∧ cnt v ≤ 399 := by
  obtain ⟨d, h1, rfl⟩ := koDay_n h
  rw [cnt_nI (by omega)]
  exact ⟨rfl, h1⟩
theorem koTo_c {a b : Int32} (ha : koArg a 0 399 = none) (hb : koArg b a 399 = none) : b = nI (cnt b) ∧ cnt b ≤ 399 := by
  refine koDay_c ?_
  have h1 := koArg_n ha
  have h2 := koArg_n hb
  have h3 : ¬ b < 0 := by
    rw [Int32.lt_iff_toInt_lt] at h1 h2 ⊢
    omega
  unfold koArg
  rw [if_neg h3, if_neg h2.2]
/-- what a place that isn't refused is -/
theorem koPl_c {x y a b : Int32} (h : koPl x y a b = none) : (a = nI (cnt a) ∧ cnt a ≤ 399) ∧ (¬ b = -1 → b = nI (cnt b)) ∧ laOf b ≤ 399 := by
  obtain ⟨-, h⟩ := koOr_n h
  obtain ⟨-, h⟩ := koOr_n h
  obtain ⟨h1, h2⟩ := koOr_n h
  refine ⟨koDay_c h1, ?_⟩
  by_cases hb : b = -1
  · exact ⟨fun q => absurd hb q, by rw [laOf, if_pos hb]; exact Nat.le_refl _⟩
  · rw [if_neg hb] at h2
    exact ⟨fun _ => (koTo_c h1 h2).1, by rw [laOf, if_neg hb]; exact (koTo_c h1 h2).2⟩
def prm (f : Nat → Nat → Int32) (g : Nat → Nat) (x y t a b : Int32) : Int32 := fl (g 3) (fun j s => if hTK f g (nI j) (cnt a) (laOf b) < nWB f (nI j) x y t then s ||| (1 <<< (nI j &&& 31)) else s) 0
def hiW (f : Nat → Nat → Int32) (p x y kp : Int32) : Nat → Nat
  | 0 => 0
  | t + 1 => if kp < nWB f p x y (nI (t + 1)) then hiW f p x y kp t else t + 1
def hiT (f : Nat → Nat → Int32) (g : Nat → Nat) (x y a b : Int32) : Nat := fl (g 3) (fun j t => hiW f (nI j) x y (hTK f g (nI j) (cnt a) (laOf b)) t) 999
theorem hiW_le (f : Nat → Nat → Int32) (p x y kp : Int32) : ∀ t, hiW f p x y kp t ≤ t
  | 0 => Nat.le_refl _
  | t + 1 => by
    unfold hiW
    split
    · exact Nat.le_succ_of_le (hiW_le f p x y kp t)
    · exact Nat.le_refl _
theorem hiF_le (f : Nat → Nat → Int32) (g : Nat → Nat) (x y a b : Int32) : ∀ n, fl n (fun j t => hiW f (nI j) x y (hTK f g (nI j) (cnt a) (laOf b)) t) 999 ≤ 999
  | 0 => Nat.le_refl _
  | n + 1 => Nat.le_trans (hiW_le ..) (hiF_le f g x y a b n)
theorem koArg_nI {k lo hi : Nat} (h1 : lo ≤ k) (h2 : k ≤ hi) (h3 : hi < 2 ^ 31) : koArg (nI k) (nI lo) (nI hi) = none := by
  unfold koArg
  rw [if_neg (nI_nlt h1 (by omega)), if_neg (nI_nlt h2 h3)]
theorem koIx_nI {k n : Nat} (h : k < n) (hn : n < 2 ^ 31) : koIx (nI k) n = none := by
  unfold koIx
  rw [if_neg (nI_pos (by omega)), if_neg (nI_ge h hn)]
def MXI : Int32 := 1000000
