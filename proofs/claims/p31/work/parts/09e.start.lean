/-! ===== writes to the reference's own cells ===== -/
section QMP
variable {p : Program} {l : Launch} {e : Env} {R : Room} {s : State} {m : MethodId} {args : Array Value} {below : List Frame} {meth : Method} {c : Code} {H H1 : Heap} {locs : List Loc} {cells slots : Nat} {Q : State → Prop}
variable {Ts ws ws' : List Cond} {cc bytes : ByteArray} {nL maxL index n : Nat} {own C : String} {y : MethodName} {ret : Option FieldType} {rm : Room} {b a pc nc ns ncc nss : Nat} {As rest st0 : List Value} {ls : Array Slot} {G : GT} {v : Option Value} {av : List Value} {D D1 : Nat → Prop} {P : Option Value → Heap → Prop}
theorem mw_putf {T : u_T} {N ci : Nat} {fs : List Value} {ty : FieldType} {x : Value} (S : CallFix p m c cc nL s args Ts own) (hD : DP G D H.size) (hG : GK G H1 s) (hS : va_S D H H1 locs) (hda : D a) (hin : ∀ w ∈ u_ws C T N, w ∈ Ts) (ty0 : Nat → FieldType) (hty : ∀ k, k < N → parseFieldDescriptor (T k).2.2.1 = some (ty0 k)) (hnm : ∀ a, a < N → ∀ b, b < N → a ≠ b → (T a).2.1 ≠ (T b).2.1)
    (hat : va_at G.1 vwCl (a, .inr (ci, fs)) H1) (k : Nat) (hc : vwCl[ci]? = some (C, T, N)) (hk : k < N) (hlink : (Cond.fieldLink own index (T k).1 (T k).2.1 (T k).2.2.1).before args s = true) (hfin : (T k).2.2.2 = false) (hd : parseFieldDescriptor (T k).2.2.1 = some ty) (hn : narrow ty x = x) (hfit : fits ty x = true) (hl : k < fs.length)
    (hdg : decode cc pc = .ok (.putfield index, 3)) (kk : ∀ (H2 : Heap) (locs2 : List Loc), va_at G.1 vwCl (a, .inr (ci, fs.set k x)) H2 → H2.size = H1.size → (∀ q : Nat, q ≠ a → H2[q]? = H1[q]?) → va_S D H H2 locs2 → GK G H2 s → W p l e R s m args below meth c H2 locs2 cells slots Q (F0 m (pc + 3) ls rest)) : W p l e R s m args below meth c H1 locs cells slots Q (F0 m pc ls (x :: .ref a :: rest)) := by
  refine wr_putf S hG.1 hin ty0 hty hnm hat k hc hk hlink hfin hd hn hfit hl hdg fun H2 z hz hn2 e2 e3 => ?_
  refine kk H2 _ hn2 e2 e3 ⟨Nat.le_trans hS.1 (Nat.le_of_eq e2.symm), fun q hq hnq => (e3 q fun e => hnq (by rw [e]; exact hda)).trans (hS.2.1 q hq hnq), fun q hq => ?_⟩ (hG.heap fun q _ hzq => e3 q fun e => hzq (by rw [e]; exact hD.2 a hda))
  rcases List.mem_append.mp hq with h | h
  · exact hS.2.2 q h
  · rw [List.mem_singleton.mp h, hz]; exact hda
end QMP
