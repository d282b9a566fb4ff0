/-! what the reference answers, against the class's numbers -/
theorem imin_comm (a b : Int32) : imin a b = imin b a := by
  unfold imin
  by_cases h1 : b < a
  · rw [if_pos h1, if_neg (fun h2 => by have := zlt.mp h1; have := zlt.mp h2; omega)]
  · by_cases h2 : a < b
    · rw [if_neg h1, if_pos h2]
    · rw [if_neg h1, if_neg h2]
      exact Int32.toInt_inj.mp (by have := zle.mp (Int32.not_lt.mp h1); have := zle.mp (Int32.not_lt.mp h2); omega)
theorem ecd_z {L : List String} {ko : Option String} (hL : L.length < 1000) : ecd L ko = 0 ↔ ko = none := by
  cases ko with
  | none => exact ⟨fun _ => rfl, fun _ => rfl⟩
  | some E =>
    refine ⟨fun h => ?_, fun h => by cases h⟩
    exfalso
    have h1 : L.idxOf E ≤ L.length := List.idxOf_le_length
    have h2 := (nI_eq (a := L.idxOf E + 1) (b := 0) (by omega) (by decide)).mp h
    omega
abbrev qLP (G : GT) (D : Nat → Prop) (r0 : Nat) (ko : Option String) (k x : Int32) (f : Nat → Nat → Int32) (g : Nat → Nat) (f' : Nat → Nat → Int32) (g' : Nat → Nat) (v : Option Value) (t : Heap) : Prop := ∃ va : Int32, v = some (.int va) ∧ (ko = none → va = x ∧ MX G D r0 k f' g' t) ∧ (ko ≠ none → MX G D r0 k f g t)
theorem lp_of {G : GT} {D : Nat → Prop} {r0 : Nat} {ko : Option String} {L : List String} {f fm f' : Nat → Nat → Int32} {g gm g' : Nat → Nat} {x a : Int32} {v : Option Value} {t : Heap} {tw mt : Int32} (hL : L.length < 1000) (hk : ecd L ko = tw) (hm : mt = tw) (hv : v = some (.int (if mt = 0 then a else 0))) (hX : MX G D r0 mt (if mt = 0 then fm else f) (if mt = 0 then gm else g) t) (ha : ko = none → a = x) (hf : ko = none → ∀ k, MX G D r0 k fm gm t → MX G D r0 k f' g' t) : qLP G D r0 ko (ecd L ko) x f g f' g' v t := by
  have he : mt = ecd L ko := hm.trans hk.symm
  subst he
  refine ⟨_, hv, fun h => ?_, fun h => ?_⟩
  · have h0 := (ecd_z hL).mpr h
    rw [if_pos h0]
    rw [if_pos h0, if_pos h0] at hX
    exact ⟨ha h, hf h _ hX⟩
  · have h0 : ¬ ecd L ko = 0 := fun z => h ((ecd_z hL).mp z)
    rw [if_neg h0, if_neg h0] at hX
    exact hX
theorem mx_if {G : GT} {D : Nat → Prop} {B : Nat → Nat} {mc : Nat → Int32} {cp : Nat → Nat} {f : Nat → Nat → Int32} {g : Nat → Nat} {t : Heap} {mt : Int32} (hM : MP G B mt mc cp f g t) (hB : DB D B cp g) (hcp : CG cp) : MX G D (B 0) mt f (if mt = 0 then g else g) t := by
  rw [ite_self]
  exact ⟨B, mc, cp, hM, hB, hcp, rfl⟩
theorem mx_ff {G : GT} {D : Nat → Prop} {r0 : Nat} {f : Nat → Nat → Int32} {g : Nat → Nat} {t : Heap} {mt : Int32} (h : MX G D r0 mt f g t) : MX G D r0 mt (if mt = 0 then f else f) (if mt = 0 then g else g) t := by
  rw [ite_self, ite_self]; exact h

theorem lm_obstacle (l : Launch) (G : GT) (D : Nat → Prop) (B : Nat → Nat) (mc : Nat → Int32) (cp : Nat → Nat) (th : Int32) (f : Nat → Nat → Int32) (g : Nat → Nat) (H : Heap) (hLI : LI f g) (hM : MP G B th mc cp f g H) (hD : DP G D H.size) (hB : DB D B cp g) (hcp : CG cp) (x y t a b : Int32) : MwV l G D H yX11_obstacle wsX11_obstacle { frames := 8, cells := 2, slots := 45, locals := 211 } [.ref (B 0), .int x, .int y, .int t, .int a, .int b] 2 45 (qLP G D (B 0) (kOr (koPl x y a b) (kOr (koArg t 0 999) (if 12 ≤ nI (g 1) then some xISE else none))) (ecd [xIAE, xISE] (kOr (koPl x y a b) (kOr (koArg t 0 999) (if 12 ≤ nI (g 1) then some xISE else none)))) (nI (g 1)) f g (obAdd f g x y t a b) (gset g 1 (g 1 + 1))) := by
  refine mw_mono (c_X11_obstacle l G B th mc cp f g H hM D hD hB hcp x y t a b) (fun q h => h) (fun v u hP => ?_)
  obtain ⟨mt, hmt, hv, hX⟩ := hP
  refine lp_of (by decide) (k_obstacle hLI.1.2.1 x y t a b) hmt hv hX (fun hk => ?_) (fun hk k9 h => ?_)
  · rfl
  · exact h
theorem lm_end (l : Launch) (G : GT) (D : Nat → Prop) (B : Nat → Nat) (mc : Nat → Int32) (cp : Nat → Nat) (th : Int32) (f : Nat → Nat → Int32) (g : Nat → Nat) (H : Heap) (hLI : LI f g) (hM : MP G B th mc cp f g H) (hD : DP G D H.size) (hB : DB D B cp g) (hcp : CG cp) (i : Int32) : MwV l G D H yX11_end wsX11_end { frames := 3, cells := 0, slots := 0, locals := 64 } [.ref (B 0), .int i] 0 0 (qLP G D (B 0) (kOr (koIx i (g 1)) (if ¬ rowAt 12 (f 14) i = -1 ∧ ¬ nI (g 0) < rowAt 12 (f 14) i then some xISE else none)) (ecd [xIOB, xISE] (kOr (koIx i (g 1)) (if ¬ rowAt 12 (f 14) i = -1 ∧ ¬ nI (g 0) < rowAt 12 (f 14) i then some xISE else none))) (rowAt 12 (f 14) i) f g (rowPut f 14 i (imax (nI (g 0)) (rowAt 12 (f 13) i))) (g)) := by
  refine mw_mono (c_X11_end l G B th mc cp f g H hM D hD hB i) (fun q h => h) (fun v u hP => ?_)
  obtain ⟨mt, hmt, hv, hX⟩ := hP
  refine lp_of (by decide) (k_end hLI.1.2.1 i) hmt hv (mx_if hX hB hcp) (fun hk => ?_) (fun hk k9 h => ?_)
  · have h1 := hLI.1.2.1
    have h3 := hLI.1.2.2.1
    have h4 := hLI.1.2.2.2.1
    have h5 := hLI.1.2.2.2.2.1
    have h0 := hLI.1.1
    obtain ⟨q, hq, rfl⟩ := koIx_n (n := g 1) (by omega) ((koOr_n hk).1)
    rw [cnt_nI (by omega), rowAt_in (show q < 12 by omega) (by decide)]
  · have h1 := hLI.1.2.1
    have h3 := hLI.1.2.2.1
    have h4 := hLI.1.2.2.2.1
    have h5 := hLI.1.2.2.2.2.1
    have h0 := hLI.1.1
    obtain ⟨q, hq, rfl⟩ := koIx_n (n := g 1) (by omega) ((koOr_n hk).1)
    rw [rowPut_fS (k := 14) (show q < 12 by omega), rowAt_in (show q < 12 by omega) (by decide)]
    rw [cnt_nI (by omega)] at h
    exact h
theorem lm_aid (l : Launch) (G : GT) (D : Nat → Prop) (B : Nat → Nat) (mc : Nat → Int32) (cp : Nat → Nat) (th : Int32) (f : Nat → Nat → Int32) (g : Nat → Nat) (H : Heap) (hLI : LI f g) (hM : MP G B th mc cp f g H) (hD : DP G D H.size) (hB : DB D B cp g) (hcp : CG cp) (i k : Int32) : MwV l G D H yX11_aid wsX11_aid { frames := 2, cells := 0, slots := 0, locals := 44 } [.ref (B 0), .int i, .int k] 0 0 (qLP G D (B 0) (kOr (koIx i 3) (koArg k 0 2)) (ecd [xIOB, xIAE] (kOr (koIx i 3) (koArg k 0 2))) (rowAt 3 (f 15) i) f g (rowPut f 15 i k) (g)) := by
  refine mw_mono (c_X11_aid l G B th mc cp f g H hM D hD hB i k) (fun q h => h) (fun v u hP => ?_)
  obtain ⟨mt, hmt, hv, hX⟩ := hP
  refine lp_of (by decide) (k_aid i k) hmt hv (mx_if hX hB hcp) (fun hk => ?_) (fun hk k9 h => ?_)
  · have h1 := hLI.1.2.1
    have h3 := hLI.1.2.2.1
    have h4 := hLI.1.2.2.2.1
    have h5 := hLI.1.2.2.2.2.1
    have h0 := hLI.1.1
    obtain ⟨q, hq, rfl⟩ := koIx_n (n := 3) (by omega) ((koOr_n hk).1)
    rw [cnt_nI (by omega), rowAt_in hq (by decide)]
  · have h1 := hLI.1.2.1
    have h3 := hLI.1.2.2.1
    have h4 := hLI.1.2.2.2.1
    have h5 := hLI.1.2.2.2.2.1
    have h0 := hLI.1.1
    obtain ⟨q, hq, rfl⟩ := koIx_n (n := 3) (by omega) ((koOr_n hk).1)
    rw [rowPut_fS (k := 15) hq]
    rw [cnt_nI (by omega)] at h
    exact h
theorem lm_check (l : Launch) (G : GT) (D : Nat → Prop) (B : Nat → Nat) (mc : Nat → Int32) (cp : Nat → Nat) (th : Int32) (f : Nat → Nat → Int32) (g : Nat → Nat) (H : Heap) (hLI : LI f g) (hM : MP G B th mc cp f g H) (hD : DP G D H.size) (hB : DB D B cp g) (hcp : CG cp) (i d : Int32) : MwV l G D H yX11_check wsX11_check { frames := 2, cells := 0, slots := 0, locals := 44 } [.ref (B 0), .int i, .int d] 0 0 (qLP G D (B 0) (kOr (koIx i 3) (koArg d 0 200)) (ecd [xIOB, xIAE] (kOr (koIx i 3) (koArg d 0 200))) (imin (nI (g 0) + d) 399) f g (rowPut f 16 i (imin (nI (g 0) + d) 399)) (g)) := by
  refine mw_mono (c_X11_check l G B th mc cp f g H hM D hD hB i d) (fun q h => h) (fun v u hP => ?_)
  obtain ⟨mt, hmt, hv, hX⟩ := hP
  refine lp_of (by decide) (k_check i d) hmt hv (mx_if hX hB hcp) (fun hk => ?_) (fun hk k9 h => ?_)
  · exact imin_comm _ _
  · have h1 := hLI.1.2.1
    have h3 := hLI.1.2.2.1
    have h4 := hLI.1.2.2.2.1
    have h5 := hLI.1.2.2.2.2.1
    have h0 := hLI.1.1
    obtain ⟨q, hq, rfl⟩ := koIx_n (n := 3) (by omega) ((koOr_n hk).1)
    rw [rowPut_fS (k := 16) hq, imin_comm]
    rw [cnt_nI (by omega)] at h
    exact h
theorem lm_procedure (l : Launch) (G : GT) (D : Nat → Prop) (B : Nat → Nat) (mc : Nat → Int32) (cp : Nat → Nat) (th : Int32) (f : Nat → Nat → Int32) (g : Nat → Nat) (H : Heap) (hLI : LI f g) (hM : MP G B th mc cp f g H) (hD : DP G D H.size) (hB : DB D B cp g) (hcp : CG cp) (i v9 : Int32) : MwV l G D H yX11_procedure wsX11_procedure { frames := 8, cells := 3, slots := 46, locals := 211 } [.ref (B 0), .int i, .int v9] 3 46 (qLP G D (B 0) (kOr (koIx i 3) (kOr (koArg v9 10 40) (if 4 ≤ nI (g 3) then some xISE else none))) (ecd [xIOB, xIAE, xISE] (kOr (koIx i 3) (kOr (koArg v9 10 40) (if 4 ≤ nI (g 3) then some xISE else none)))) (nI (g 3)) f g (prAdd f g i v9) (gset g 3 (g 3 + 1))) := by
  refine mw_mono (c_X11_procedure l G B th mc cp f g H hM D hD hB hcp i v9 hLI.2.2.2.2.1) (fun q h => h) (fun v u hP => ?_)
  obtain ⟨mt, hmt, hv, hX⟩ := hP
  refine lp_of (by decide) (k_procedure hLI.1.2.2.1 i v9) hmt hv hX (fun hk => ?_) (fun hk k9 h => ?_)
  · rfl
  · exact h
theorem lm_pass (l : Launch) (G : GT) (D : Nat → Prop) (B : Nat → Nat) (mc : Nat → Int32) (cp : Nat → Nat) (th : Int32) (f : Nat → Nat → Int32) (g : Nat → Nat) (H : Heap) (hLI : LI f g) (hM : MP G B th mc cp f g H) (hD : DP G D H.size) (hB : DB D B cp g) (hcp : CG cp) (d : Int32) : MwV l G D H yX11_pass wsX11_pass { frames := 7, cells := 0, slots := 0, locals := 165 } [.ref (B 0), .int d] 0 0 (qLP G D (B 0) (kOr (koArg d 1 60) (if 399 < nI (g 0) + d then some xISE else none)) (ecd [xIAE, xISE] (kOr (koArg d 1 60) (if 399 < nI (g 0) + d then some xISE else none))) (nI (psT f g (cnt d))) f g f (gset (gset g 0 (g 0 + cnt d)) 7 (g 7 + psT f g (cnt d)))) := by
  refine mw_mono (c_X11_pass l G B th mc cp f g H hM D hD hB hLI.1.2.2.2.2.2 d) (fun q h => h) (fun v u hP => ?_)
  obtain ⟨mt, hmt, hv, hX⟩ := hP
  have hX2 : MX G D (B 0) mt (if mt = 0 then f else f) (if mt = 0 then gset (gset g 0 (g 0 + cnt d)) 7 (g 7 + mPs f g (cnt d)) else g) u := by
    rw [ite_self]
    refine ⟨B, mc, cp, hX, ?_, hcp, rfl⟩
    split
    · exact hB
    · exact hB
  refine lp_of (by decide) (k_pass d) hmt hv hX2 (fun hk => ?_) (fun hk k9 h => ?_)
  · have hd := koArg_c1 (koOr_n hk).1
    have hs := pas_le hd.1 hLI.1.1 (by omega) (Int32.not_lt.mp (koIf_n (koOr_n hk).2))
    rw [psT_eq hLI _ hs]
  · have hd := koArg_c1 (koOr_n hk).1
    have hs := pas_le hd.1 hLI.1.1 (by omega) (Int32.not_lt.mp (koIf_n (koOr_n hk).2))
    rw [psT_eq hLI _ hs]
    exact h
theorem lm_amend (l : Launch) (G : GT) (D : Nat → Prop) (B : Nat → Nat) (mc : Nat → Int32) (cp : Nat → Nat) (th : Int32) (f : Nat → Nat → Int32) (g : Nat → Nat) (H : Heap) (hLI : LI f g) (hM : MP G B th mc cp f g H) (hD : DP G D H.size) (hB : DB D B cp g) (hcp : CG cp) (i : Int32) : MwV l G D H yX11_amend wsX11_amend { frames := 8, cells := 2, slots := 42, locals := 211 } [.ref (B 0), .int i] 2 42 (qLP G D (B 0) (kOr (koIx i (g 3)) (if 20 ≤ nI (g 4) ∨ 399 < nI (frN g) then some xISE else none)) (ecd [xIOB, xISE] (kOr (koIx i (g 3)) (if 20 ≤ nI (g 4) ∨ 399 < nI (frN g) then some xISE else none))) (amH f g i) f g (amAdd f g i (nI (frN g)) (amH f g i)) (gset g 4 (g 4 + 1))) := by
  refine mw_mono (c_X11_amend l G B th mc cp f g H hM D hD hB hcp i) (fun q h => h) (fun v u hP => ?_)
  obtain ⟨mt, hmt, hv, hX⟩ := hP
  refine lp_of (by decide) (k_amend hLI.1.2.2.1 hLI.1.2.2.2.1 i) hmt hv hX (fun hk => ?_) (fun hk k9 h => ?_)
  · have h1 := hLI.1.2.1
    have h3 := hLI.1.2.2.1
    have h4 := hLI.1.2.2.2.1
    have h5 := hLI.1.2.2.2.2.1
    have h0 := hLI.1.1
    obtain ⟨q, hq, rfl⟩ := koIx_n (n := g 3) (by omega) ((koOr_n hk).1)
    rw [cnt_nI (by omega), amH_eq hLI hq]
  · have h1 := hLI.1.2.1
    have h3 := hLI.1.2.2.1
    have h4 := hLI.1.2.2.2.1
    have h5 := hLI.1.2.2.2.2.1
    have h0 := hLI.1.1
    obtain ⟨q, hq, rfl⟩ := koIx_n (n := g 3) (by omega) ((koOr_n hk).1)
    rw [amH_eq hLI hq]
    rw [cnt_nI (by omega)] at h
    exact h
theorem lm_raise (l : Launch) (G : GT) (D : Nat → Prop) (B : Nat → Nat) (mc : Nat → Int32) (cp : Nat → Nat) (th : Int32) (f : Nat → Nat → Int32) (g : Nat → Nat) (H : Heap) (hLI : LI f g) (hM : MP G B th mc cp f g H) (hD : DP G D H.size) (hB : DB D B cp g) (hcp : CG cp) (i r a b : Int32) : MwV l G D H yX11_raise wsX11_raise { frames := 9, cells := 2, slots := 45, locals := 236 } [.ref (B 0), .int i, .int r, .int a, .int b] 2 45 (qLP G D (B 0) (kOr (koIx i (g 3)) (kOr (koArg r 1 500) (kOr (koTime g a b) (koNL g)))) (ecd [xIOB, xIAE, xISE] (kOr (koIx i (g 3)) (kOr (koArg r 1 500) (kOr (koTime g a b) (koNL g))))) (nI (g 5)) f g (noAdd f g 0 i r a b) (gset g 5 (g 5 + 1))) := by
  refine mw_mono (c_X11_raise l G B th mc cp f g H hM D hD hB hcp i r a b) (fun q h => h) (fun v u hP => ?_)
  obtain ⟨mt, hmt, hv, hX⟩ := hP
  refine lp_of (by decide) (k_raise hLI.1.2.2.1 hLI.1.2.2.2.2.1 i r a b) hmt hv hX (fun hk => ?_) (fun hk k9 h => ?_)
  · rfl
  · exact h
theorem lm_out (l : Launch) (G : GT) (D : Nat → Prop) (B : Nat → Nat) (mc : Nat → Int32) (cp : Nat → Nat) (th : Int32) (f : Nat → Nat → Int32) (g : Nat → Nat) (H : Heap) (hLI : LI f g) (hM : MP G B th mc cp f g H) (hD : DP G D H.size) (hB : DB D B cp g) (hcp : CG cp) (i a b : Int32) : MwV l G D H yX11_out wsX11_out { frames := 9, cells := 2, slots := 45, locals := 236 } [.ref (B 0), .int i, .int a, .int b] 2 45 (qLP G D (B 0) (kOr (koIx i 3) (kOr (koTime g a b) (koNL g))) (ecd [xIOB, xIAE, xISE] (kOr (koIx i 3) (kOr (koTime g a b) (koNL g)))) (nI (g 5)) f g (noAdd f g 1 i 0 a b) (gset g 5 (g 5 + 1))) := by
  refine mw_mono (c_X11_out l G B th mc cp f g H hM D hD hB hcp i a b) (fun q h => h) (fun v u hP => ?_)
  obtain ⟨mt, hmt, hv, hX⟩ := hP
  refine lp_of (by decide) (k_out hLI.1.2.2.2.2.1 i a b) hmt hv hX (fun hk => ?_) (fun hk k9 h => ?_)
  · rfl
  · exact h
theorem lm_close (l : Launch) (G : GT) (D : Nat → Prop) (B : Nat → Nat) (mc : Nat → Int32) (cp : Nat → Nat) (th : Int32) (f : Nat → Nat → Int32) (g : Nat → Nat) (H : Heap) (hLI : LI f g) (hM : MP G B th mc cp f g H) (hD : DP G D H.size) (hB : DB D B cp g) (hcp : CG cp) (i a b : Int32) : MwV l G D H yX11_close wsX11_close { frames := 9, cells := 2, slots := 45, locals := 236 } [.ref (B 0), .int i, .int a, .int b] 2 45 (qLP G D (B 0) (kOr (koIx i (g 3)) (kOr (koTime g a b) (koNL g))) (ecd [xIOB, xIAE, xISE] (kOr (koIx i (g 3)) (kOr (koTime g a b) (koNL g)))) (nI (g 5)) f g (noAdd f g 2 i 0 a b) (gset g 5 (g 5 + 1))) := by
  refine mw_mono (c_X11_close l G B th mc cp f g H hM D hD hB hcp i a b) (fun q h => h) (fun v u hP => ?_)
  obtain ⟨mt, hmt, hv, hX⟩ := hP
  refine lp_of (by decide) (k_close hLI.1.2.2.1 hLI.1.2.2.2.2.1 i a b) hmt hv hX (fun hk => ?_) (fun hk k9 h => ?_)
  · rfl
  · exact h
theorem lm_cancel (l : Launch) (G : GT) (D : Nat → Prop) (B : Nat → Nat) (mc : Nat → Int32) (cp : Nat → Nat) (th : Int32) (f : Nat → Nat → Int32) (g : Nat → Nat) (H : Heap) (hLI : LI f g) (hM : MP G B th mc cp f g H) (hD : DP G D H.size) (hB : DB D B cp g) (hcp : CG cp) (i : Int32) : MwV l G D H yX11_cancel wsX11_cancel { frames := 9, cells := 2, slots := 45, locals := 236 } [.ref (B 0), .int i] 2 45 (qLP G D (B 0) (kOr (koIx i (g 5)) (kOr (if rowAt 16 (f 22) i = 3 then some xISE else none) (koNL g))) (ecd [xIOB, xISE] (kOr (koIx i (g 5)) (kOr (if rowAt 16 (f 22) i = 3 then some xISE else none) (koNL g)))) (nI (g 5)) f g (caAdd f g i (nI (g 0))) (gset g 5 (g 5 + 1))) := by
  refine mw_mono (c_X11_cancel l G B th mc cp f g H hM D hD hB hcp i) (fun q h => h) (fun v u hP => ?_)
  obtain ⟨mt, hmt, hv, hX⟩ := hP
  refine lp_of (by decide) (k_cancel hLI.1.2.2.2.2.1 i) hmt hv hX (fun hk => ?_) (fun hk k9 h => ?_)
  · rfl
  · obtain ⟨B2, mc2, cp2, m1, m2⟩ := h
    exact ⟨B2, mc2, cp2, mp_27 m1 (fun k hk9 => caAdd_ne hk9), m2⟩
theorem lm_load (l : Launch) (G : GT) (D : Nat → Prop) (B : Nat → Nat) (mc : Nat → Int32) (cp : Nat → Nat) (th : Int32) (f : Nat → Nat → Int32) (g : Nat → Nat) (H : Heap) (hLI : LI f g) (hM : MP G B th mc cp f g H) (hD : DP G D H.size) (hB : DB D B cp g) (hcp : CG cp) (c : Int32) : MwV l G D H yX11_load wsX11_load { frames := 2, cells := 0, slots := 0, locals := 44 } [.ref (B 0), .int c] 0 0 (qLP G D (B 0) (koIx c 4) (ecd [xIOB] (koIx c 4)) (rowAt 4 (f 28) c) f g (rowPut f 28 c (nI (g 0))) (g)) := by
  refine mw_mono (c_X11_load l G B th mc cp f g H hM D hD hB c) (fun q h => h) (fun v u hP => ?_)
  obtain ⟨mt, hmt, hv, hX⟩ := hP
  refine lp_of (by decide) (k_crew c) hmt hv (mx_if hX hB hcp) (fun hk => ?_) (fun hk k9 h => ?_)
  · have h1 := hLI.1.2.1
    have h3 := hLI.1.2.2.1
    have h4 := hLI.1.2.2.2.1
    have h5 := hLI.1.2.2.2.2.1
    have h0 := hLI.1.1
    obtain ⟨q, hq, rfl⟩ := koIx_n (n := 4) (by omega) (hk)
    rw [cnt_nI (by omega), rowAt_in hq (by decide)]
  · have h1 := hLI.1.2.1
    have h3 := hLI.1.2.2.1
    have h4 := hLI.1.2.2.2.1
    have h5 := hLI.1.2.2.2.2.1
    have h0 := hLI.1.1
    obtain ⟨q, hq, rfl⟩ := koIx_n (n := 4) (by omega) (hk)
    rw [rowPut_fS (k := 28) hq]
    rw [cnt_nI (by omega)] at h
    exact h
theorem lm_read (l : Launch) (G : GT) (D : Nat → Prop) (B : Nat → Nat) (mc : Nat → Int32) (cp : Nat → Nat) (th : Int32) (f : Nat → Nat → Int32) (g : Nat → Nat) (H : Heap) (hLI : LI f g) (hM : MP G B th mc cp f g H) (hD : DP G D H.size) (hB : DB D B cp g) (hcp : CG cp) (c : Int32) : MwV l G D H yX11_read wsX11_read { frames := 2, cells := 0, slots := 0, locals := 44 } [.ref (B 0), .int c] 0 0 (qLP G D (B 0) (koIx c 4) (ecd [xIOB] (koIx c 4)) (nI (g 5) - rowAt 4 (f 29) c) f g (rowPut f 29 c (nI (g 5))) (g)) := by
  refine mw_mono (c_X11_read l G B th mc cp f g H hM D hD hB c) (fun q h => h) (fun v u hP => ?_)
  obtain ⟨mt, hmt, hv, hX⟩ := hP
  refine lp_of (by decide) (k_crew c) hmt hv (mx_if hX hB hcp) (fun hk => ?_) (fun hk k9 h => ?_)
  · have h1 := hLI.1.2.1
    have h3 := hLI.1.2.2.1
    have h4 := hLI.1.2.2.2.1
    have h5 := hLI.1.2.2.2.2.1
    have h0 := hLI.1.1
    obtain ⟨q, hq, rfl⟩ := koIx_n (n := 4) (by omega) (hk)
    rw [cnt_nI (by omega), rowAt_in hq (by decide)]
  · have h1 := hLI.1.2.1
    have h3 := hLI.1.2.2.1
    have h4 := hLI.1.2.2.2.1
    have h5 := hLI.1.2.2.2.2.1
    have h0 := hLI.1.1
    obtain ⟨q, hq, rfl⟩ := koIx_n (n := 4) (by omega) (hk)
    rw [rowPut_fS (k := 29) hq]
    rw [cnt_nI (by omega)] at h
    exact h
theorem lm_ofObstacle (l : Launch) (G : GT) (D : Nat → Prop) (B : Nat → Nat) (mc : Nat → Int32) (cp : Nat → Nat) (th : Int32) (f : Nat → Nat → Int32) (g : Nat → Nat) (H : Heap) (hLI : LI f g) (hM : MP G B th mc cp f g H) (hD : DP G D H.size) (hB : DB D B cp g) (hcp : CG cp) (i w : Int32) : MwV l G D H yX11_ofObstacle wsX11_ofObstacle { frames := 4, cells := 0, slots := 0, locals := 87 } [.ref (B 0), .int i, .int w] 0 0 (qLP G D (B 0) (kOr (koIx i (g 1)) (koArg w 0 4)) (ecd [xIOB, xIAE] (kOr (koIx i (g 1)) (koArg w 0 4))) (ofOb f i w) f g (f) (g)) := by
  refine mw_mono (c_X11_ofObstacle l G B th mc cp f g H hM D hD hB i w) (fun q h => h) (fun v u hP => ?_)
  obtain ⟨mt, hmt, hv, hX⟩ := hP
  refine lp_of (by decide) (k_ofObstacle hLI.1.2.1 i w) hmt hv (mx_ff ⟨B, mc, cp, hX, hB, hcp, rfl⟩) (fun hk => ?_) (fun hk k9 h => ?_)
  · have h1 := hLI.1.2.1
    have h3 := hLI.1.2.2.1
    have h4 := hLI.1.2.2.2.1
    have h5 := hLI.1.2.2.2.2.1
    have h0 := hLI.1.1
    obtain ⟨q, hq, rfl⟩ := koIx_n (n := g 1) (by omega) ((koOr_n hk).1)
    rw [cnt_nI (by omega), ofOb_eq hLI hq]
  · exact h
theorem lm_demanded (l : Launch) (G : GT) (D : Nat → Prop) (B : Nat → Nat) (mc : Nat → Int32) (cp : Nat → Nat) (th : Int32) (f : Nat → Nat → Int32) (g : Nat → Nat) (H : Heap) (hLI : LI f g) (hM : MP G B th mc cp f g H) (hD : DP G D H.size) (hB : DB D B cp g) (hcp : CG cp) (i d ca : Int32) : MwV l G D H yX11_demanded wsX11_demanded { frames := 6, cells := 0, slots := 0, locals := 142 } [.ref (B 0), .int i, .int d, .int ca] 0 0 (qLP G D (B 0) (kOr (koIx i (g 3)) (kOr (koArg d 0 399) (koArg ca 0 3))) (ecd [xIOB, xIAE] (kOr (koIx i (g 3)) (kOr (koArg d 0 399) (koArg ca 0 3)))) (lH f g i d (-1) + 10 * ca) f g (f) (g)) := by
  refine mw_mono (c_X11_demanded l G B th mc cp f g H hM D hD hB i d ca) (fun q h => h) (fun v u hP => ?_)
  obtain ⟨mt, hmt, hv, hX⟩ := hP
  refine lp_of (by decide) (k_asked hLI.1.2.2.1 i d ca) hmt hv (mx_ff ⟨B, mc, cp, hX, hB, hcp, rfl⟩) (fun hk => ?_) (fun hk k9 h => ?_)
  · have h1 := hLI.1.2.1
    have h3 := hLI.1.2.2.1
    have h4 := hLI.1.2.2.2.1
    have h5 := hLI.1.2.2.2.2.1
    have h0 := hLI.1.1
    obtain ⟨q, hq, rfl⟩ := koIx_n (n := g 3) (by omega) ((koOr_n hk).1)
    have hb := mLH_b (d := d) (w := -1) hLI hq
    have hm : (-1 : Int32).toInt = -1 := by decide
    rw [cnt_nI (by omega), lH_eq hLI hq]
    exact if_neg (fun z => by rw [z, hm] at hb; omega)
  · exact h
theorem lm_decides (l : Launch) (G : GT) (D : Nat → Prop) (B : Nat → Nat) (mc : Nat → Int32) (cp : Nat → Nat) (th : Int32) (f : Nat → Nat → Int32) (g : Nat → Nat) (H : Heap) (hLI : LI f g) (hM : MP G B th mc cp f g H) (hD : DP G D H.size) (hB : DB D B cp g) (hcp : CG cp) (i d : Int32) : MwV l G D H yX11_decides wsX11_decides { frames := 7, cells := 0, slots := 0, locals := 168 } [.ref (B 0), .int i, .int d] 0 0 (qLP G D (B 0) (kOr (koIx i (g 3)) (koArg d 0 399)) (ecd [xIOB, xIAE] (kOr (koIx i (g 3)) (koArg d 0 399))) (dcd f g i d) f g (f) (g)) := by
  refine mw_mono (c_X11_decides l G B th mc cp f g H hM D hD hB i d) (fun q h => h) (fun v u hP => ?_)
  obtain ⟨mt, hmt, hv, hX⟩ := hP
  refine lp_of (by decide) (k_asked0 hLI.1.2.2.1 i d) hmt hv (mx_ff ⟨B, mc, cp, hX, hB, hcp, rfl⟩) (fun hk => ?_) (fun hk k9 h => ?_)
  · have h1 := hLI.1.2.1
    have h3 := hLI.1.2.2.1
    have h4 := hLI.1.2.2.2.1
    have h5 := hLI.1.2.2.2.2.1
    have h0 := hLI.1.1
    obtain ⟨q, hq, rfl⟩ := koIx_n (n := g 3) (by omega) ((koOr_n hk).1)
    rw [cnt_nI (by omega), dcd_eq hLI hq]
  · exact h
theorem lm_chart (l : Launch) (G : GT) (D : Nat → Prop) (B : Nat → Nat) (mc : Nat → Int32) (cp : Nat → Nat) (th : Int32) (f : Nat → Nat → Int32) (g : Nat → Nat) (H : Heap) (hLI : LI f g) (hM : MP G B th mc cp f g H) (hD : DP G D H.size) (hB : DB D B cp g) (hcp : CG cp) (i d : Int32) : MwV l G D H yX11_chart wsX11_chart { frames := 4, cells := 0, slots := 0, locals := 87 } [.ref (B 0), .int i, .int d] 0 0 (qLP G D (B 0) (kOr (koIx i (g 3)) (koArg d 0 399)) (ecd [xIOB, xIAE] (kOr (koIx i (g 3)) (koArg d 0 399))) (hOn f i d (g 4)) f g (f) (g)) := by
  refine mw_mono (c_X11_chart l G B th mc cp f g H hM D hD hB i d) (fun q h => h) (fun v u hP => ?_)
  obtain ⟨mt, hmt, hv, hX⟩ := hP
  refine lp_of (by decide) (k_asked0 hLI.1.2.2.1 i d) hmt hv (mx_ff ⟨B, mc, cp, hX, hB, hcp, rfl⟩) (fun hk => ?_) (fun hk k9 h => ?_)
  · have h1 := hLI.1.2.1
    have h3 := hLI.1.2.2.1
    have h4 := hLI.1.2.2.2.1
    have h5 := hLI.1.2.2.2.2.1
    have h0 := hLI.1.1
    obtain ⟨q, hq, rfl⟩ := koIx_n (n := g 3) (by omega) ((koOr_n hk).1)
    rw [cnt_nI (by omega), hOn_eq hLI]
  · exact h
theorem lm_inForce (l : Launch) (G : GT) (D : Nat → Prop) (B : Nat → Nat) (mc : Nat → Int32) (cp : Nat → Nat) (th : Int32) (f : Nat → Nat → Int32) (g : Nat → Nat) (H : Heap) (hLI : LI f g) (hM : MP G B th mc cp f g H) (hD : DP G D H.size) (hB : DB D B cp g) (hcp : CG cp) (i d ca : Int32) : MwV l G D H yX11_inForce wsX11_inForce { frames := 6, cells := 0, slots := 0, locals := 138 } [.ref (B 0), .int i, .int d, .int ca] 0 0 (qLP G D (B 0) (kOr (koIx i (g 3)) (kOr (koArg d 0 399) (koArg ca 0 3))) (ecd [xIOB, xIAE] (kOr (koIx i (g 3)) (kOr (koArg d 0 399) (koArg ca 0 3)))) (fCat (hIF f g i d) ca) f g (f) (g)) := by
  refine mw_mono (c_X11_inForce l G B th mc cp f g H hM D hD hB i d ca) (fun q h => h) (fun v u hP => ?_)
  obtain ⟨mt, hmt, hv, hX⟩ := hP
  refine lp_of (by decide) (k_asked hLI.1.2.2.1 i d ca) hmt hv (mx_ff ⟨B, mc, cp, hX, hB, hcp, rfl⟩) (fun hk => ?_) (fun hk k9 h => ?_)
  · have h1 := hLI.1.2.1
    have h3 := hLI.1.2.2.1
    have h4 := hLI.1.2.2.2.1
    have h5 := hLI.1.2.2.2.2.1
    have h0 := hLI.1.1
    obtain ⟨q, hq, rfl⟩ := koIx_n (n := g 3) (by omega) ((koOr_n hk).1)
    rw [cnt_nI (by omega), hIF_eq hLI hq]
  · exact h
theorem lm_ofNotice (l : Launch) (G : GT) (D : Nat → Prop) (B : Nat → Nat) (mc : Nat → Int32) (cp : Nat → Nat) (th : Int32) (f : Nat → Nat → Int32) (g : Nat → Nat) (H : Heap) (hLI : LI f g) (hM : MP G B th mc cp f g H) (hD : DP G D H.size) (hB : DB D B cp g) (hcp : CG cp) (i w : Int32) : MwV l G D H yX11_ofNotice wsX11_ofNotice { frames := 5, cells := 0, slots := 0, locals := 112 } [.ref (B 0), .int i, .int w] 0 0 (qLP G D (B 0) (kOr (koIx i (g 5)) (koArg w 0 5)) (ecd [xIOB, xIAE] (kOr (koIx i (g 5)) (koArg w 0 5))) (ofNo f g i w) f g (f) (g)) := by
  refine mw_mono (c_X11_ofNotice l G B th mc cp f g H hM D hD hB i w) (fun q h => h) (fun v u hP => ?_)
  obtain ⟨mt, hmt, hv, hX⟩ := hP
  refine lp_of (by decide) (k_ofNotice hLI.1.2.2.2.2.1 i w) hmt hv (mx_ff ⟨B, mc, cp, hX, hB, hcp, rfl⟩) (fun hk => ?_) (fun hk k9 h => ?_)
  · have h1 := hLI.1.2.1
    have h3 := hLI.1.2.2.1
    have h4 := hLI.1.2.2.2.1
    have h5 := hLI.1.2.2.2.2.1
    have h0 := hLI.1.1
    obtain ⟨q, hq, rfl⟩ := koIx_n (n := g 5) (by omega) ((koOr_n hk).1)
    rw [cnt_nI (by omega), ofNo_eq hLI hq]
  · exact h
theorem lm_believes (l : Launch) (G : GT) (D : Nat → Prop) (B : Nat → Nat) (mc : Nat → Int32) (cp : Nat → Nat) (th : Int32) (f : Nat → Nat → Int32) (g : Nat → Nat) (H : Heap) (hLI : LI f g) (hM : MP G B th mc cp f g H) (hD : DP G D H.size) (hB : DB D B cp g) (hcp : CG cp) (c i d ca : Int32) : MwV l G D H yX11_believes wsX11_believes { frames := 6, cells := 0, slots := 0, locals := 139 } [.ref (B 0), .int c, .int i, .int d, .int ca] 0 0 (qLP G D (B 0) (kOr (koIx c 4) (kOr (koIx i (g 3)) (kOr (koArg d (nI (g 0)) 399) (koArg ca 0 3)))) (ecd [xIOB, xIAE] (kOr (koIx c 4) (kOr (koIx i (g 3)) (kOr (koArg d (nI (g 0)) 399) (koArg ca 0 3))))) (fCat (hBl f g c i d) ca) f g (f) (g)) := by
  refine mw_mono (c_X11_believes l G B th mc cp f g H hM D hD hB c i d ca hLI.2.2.2.2.2.1) (fun q h => h) (fun v u hP => ?_)
  obtain ⟨mt, hmt, hv, hX⟩ := hP
  refine lp_of (by decide) (k_believes hLI.1.2.2.1 c i d ca) hmt hv (mx_ff ⟨B, mc, cp, hX, hB, hcp, rfl⟩) (fun hk => ?_) (fun hk k9 h => ?_)
  · have h1 := hLI.1.2.1
    have h3 := hLI.1.2.2.1
    have h4 := hLI.1.2.2.2.1
    have h5 := hLI.1.2.2.2.2.1
    have h0 := hLI.1.1
    obtain ⟨j, hj, rfl⟩ := koIx_n (n := 4) (by omega) (koOr_n hk).1
    obtain ⟨q, hq, rfl⟩ := koIx_n (n := g 3) (by omega) (koOr_n (koOr_n hk).2).1
    rw [cnt_nI (by omega), cnt_nI (by omega), hBl_eq hLI hq hj]
  · exact h
theorem lm_misled (l : Launch) (G : GT) (D : Nat → Prop) (B : Nat → Nat) (mc : Nat → Int32) (cp : Nat → Nat) (th : Int32) (f : Nat → Nat → Int32) (g : Nat → Nat) (H : Heap) (hLI : LI f g) (hM : MP G B th mc cp f g H) (hD : DP G D H.size) (hB : DB D B cp g) (hcp : CG cp) (c : Int32) : MwV l G D H yX11_misled wsX11_misled { frames := 7, cells := 0, slots := 0, locals := 164 } [.ref (B 0), .int c] 0 0 (qLP G D (B 0) (koIx c 4) (ecd [xIOB] (koIx c 4)) (mis f g c) f g (f) (g)) := by
  refine mw_mono (c_X11_misled l G B th mc cp f g H hM D hD hB c hLI.2.2.2.2.2.1) (fun q h => h) (fun v u hP => ?_)
  obtain ⟨mt, hmt, hv, hX⟩ := hP
  refine lp_of (by decide) (k_crew c) hmt hv (mx_ff ⟨B, mc, cp, hX, hB, hcp, rfl⟩) (fun hk => ?_) (fun hk k9 h => ?_)
  · have h1 := hLI.1.2.1
    have h3 := hLI.1.2.2.1
    have h4 := hLI.1.2.2.2.1
    have h5 := hLI.1.2.2.2.2.1
    have h0 := hLI.1.1
    obtain ⟨q, hq, rfl⟩ := koIx_n (n := 4) (by omega) (hk)
    rw [cnt_nI (by omega), mis_eq hLI hq]
  · exact h
theorem lm_many (l : Launch) (G : GT) (D : Nat → Prop) (B : Nat → Nat) (mc : Nat → Int32) (cp : Nat → Nat) (th : Int32) (f : Nat → Nat → Int32) (g : Nat → Nat) (H : Heap) (hLI : LI f g) (hM : MP G B th mc cp f g H) (hD : DP G D H.size) (hB : DB D B cp g) (hcp : CG cp) (w : Int32) : MwV l G D H yX11_many wsX11_many { frames := 8, cells := 1, slots := 9, locals := 190 } [.ref (B 0), .int w] 1 9 (qLP G D (B 0) (koArg w 0 19) (ecd [xIAE] (koArg w 0 19)) (mny f g w) f g (f) (g)) := by
  refine mw_mono (c_X11_many l G B th mc cp f g H hM D hD hB w) (fun q h => h) (fun v u hP => ?_)
  obtain ⟨mt, hmt, hv, hX⟩ := hP
  refine lp_of (by decide) (k_many w) hmt hv (mx_ff ⟨B, mc, cp, hX, hB, hcp, rfl⟩) (fun hk => ?_) (fun hk k9 h => ?_)
  · have h1 := hLI.1.2.1
    have h3 := hLI.1.2.2.1
    have h4 := hLI.1.2.2.2.1
    have h5 := hLI.1.2.2.2.2.1
    have h0 := hLI.1.1
    obtain ⟨q, hq, rfl⟩ := koArg_s (M := 19) (m := 19) (by decide) (by decide) hk
    rw [cnt_nI (by omega), mny_eq hLI (by omega)]
  · exact h
theorem lm_permit (l : Launch) (G : GT) (D : Nat → Prop) (B : Nat → Nat) (mc : Nat → Int32) (cp : Nat → Nat) (th : Int32) (f : Nat → Nat → Int32) (g : Nat → Nat) (H : Heap) (hLI : LI f g) (hM : MP G B th mc cp f g H) (hD : DP G D H.size) (hB : DB D B cp g) (hcp : CG cp) (x y t a b : Int32) : MwV l G D H yX11_permit wsX11_permit { frames := 8, cells := 6, slots := 1609, locals := 190 } [.ref (B 0), .int x, .int y, .int t, .int a, .int b] 6 1609 (qLP G D (B 0) (kOr (koPl x y a b) (koArg t 0 999)) (ecd [xIAE] (kOr (koPl x y a b) (koArg t 0 999))) (prm f g x y t a b) f g (f) (g)) := by
  refine mw_mono (c_X11_permit l G B th mc cp f g H hM D hD hB x y t a b) (fun q h => h) (fun v u hP => ?_)
  obtain ⟨mt, hmt, hv, hX⟩ := hP
  refine lp_of (by decide) (k_permit x y t a b) hmt hv (mx_ff ⟨B, mc, cp, hX, hB, hcp, rfl⟩) (fun hk => ?_) (fun hk k9 h => ?_)
  · have hp := (koOr_n hk).1
    have hz := koPl_z hp
    have hy := koPl_c hp
    exact (prm_eq hLI hz.1 hz.2 (koTop_z (koOr_n hk).2) hy).symm
  · exact h
theorem lm_unsafeOn (l : Launch) (G : GT) (D : Nat → Prop) (B : Nat → Nat) (mc : Nat → Int32) (cp : Nat → Nat) (th : Int32) (f : Nat → Nat → Int32) (g : Nat → Nat) (H : Heap) (hLI : LI f g) (hM : MP G B th mc cp f g H) (hD : DP G D H.size) (hB : DB D B cp g) (hcp : CG cp) (i : Int32) : MwV l G D H yX11_unsafeOn wsX11_unsafeOn { frames := 8, cells := 0, slots := 0, locals := 187 } [.ref (B 0), .int i] 0 0 (qLP G D (B 0) (koIx i (g 3)) (ecd [xIOB] (koIx i (g 3))) (uOn f g i (400 - g 0) 0) f g (f) (g)) := by
  refine mw_mono (c_X11_unsafeOn l G B th mc cp f g H hM D hD hB i) (fun q h => h) (fun v u hP => ?_)
  obtain ⟨mt, hmt, hv, hX⟩ := hP
  refine lp_of (by decide) (k_proc hLI.1.2.2.1 i) hmt hv (mx_ff ⟨B, mc, cp, hX, hB, hcp, rfl⟩) (fun hk => ?_) (fun hk k9 h => ?_)
  · have h1 := hLI.1.2.1
    have h3 := hLI.1.2.2.1
    have h4 := hLI.1.2.2.2.1
    have h5 := hLI.1.2.2.2.2.1
    have h0 := hLI.1.1
    obtain ⟨q, hq, rfl⟩ := koIx_n (n := g 3) (by omega) (hk)
    rw [cnt_nI (by omega), uOn_eq hLI hq]
  · exact h
theorem lm_raiseFor (l : Launch) (G : GT) (D : Nat → Prop) (B : Nat → Nat) (mc : Nat → Int32) (cp : Nat → Nat) (th : Int32) (f : Nat → Nat → Int32) (g : Nat → Nat) (H : Heap) (hLI : LI f g) (hM : MP G B th mc cp f g H) (hD : DP G D H.size) (hB : DB D B cp g) (hcp : CG cp) (i : Int32) : MwV l G D H yX11_raiseFor wsX11_raiseFor { frames := 8, cells := 0, slots := 0, locals := 188 } [.ref (B 0), .int i] 0 0 (qLP G D (B 0) (koIx i (g 3)) (ecd [xIOB] (koIx i (g 3))) (rFo f g i) f g (f) (g)) := by
  refine mw_mono (c_X11_raiseFor l G B th mc cp f g H hM D hD hB i) (fun q h => h) (fun v u hP => ?_)
  obtain ⟨mt, hmt, hv, hX⟩ := hP
  refine lp_of (by decide) (k_proc hLI.1.2.2.1 i) hmt hv (mx_ff ⟨B, mc, cp, hX, hB, hcp, rfl⟩) (fun hk => ?_) (fun hk k9 h => ?_)
  · have h1 := hLI.1.2.1
    have h3 := hLI.1.2.2.1
    have h4 := hLI.1.2.2.2.1
    have h5 := hLI.1.2.2.2.2.1
    have h0 := hLI.1.1
    obtain ⟨q, hq, rfl⟩ := koIx_n (n := g 3) (by omega) (hk)
    rw [cnt_nI (by omega), rFo_eq hLI hq]
  · exact h
theorem lm_highest (l : Launch) (G : GT) (D : Nat → Prop) (B : Nat → Nat) (mc : Nat → Int32) (cp : Nat → Nat) (th : Int32) (f : Nat → Nat → Int32) (g : Nat → Nat) (H : Heap) (hLI : LI f g) (hM : MP G B th mc cp f g H) (hD : DP G D H.size) (hB : DB D B cp g) (hcp : CG cp) (x y a b : Int32) : MwV l G D H yX11_highest wsX11_highest { frames := 8, cells := 15, slots := 1654, locals := 190 } [.ref (B 0), .int x, .int y, .int a, .int b] 15 1654 (qLP G D (B 0) (koPl x y a b) (ecd [xIAE] (koPl x y a b)) (nI (hiT f g x y a b)) f g f g) := by
  refine mw_mono (c_X11_highest l G B th mc cp f g H hM D hD hB x y a b) (fun q h => h) (fun v u hP => ?_)
  obtain ⟨mt, hmt, hv1, hv2, hX⟩ := hP
  have he : mt = ecd [xIAE] (koPl x y a b) := hmt.trans (k_highest x y a b).symm
  subst he
  have hXX : MX G D (B 0) (ecd [xIAE] (koPl x y a b)) f g u := ⟨B, mc, cp, hX, hB, hcp, rfl⟩
  by_cases hk : koPl x y a b = none
  · obtain ⟨r, hr, hv, h1, h2⟩ := hv1 ((ecd_z (by decide)).mpr hk)
    have hz := koPl_z hk
    exact ⟨_, hv, fun _ => ⟨high_eq hLI hz.1 hz.2 (koPl_c hk) hr h1 h2, hXX⟩, fun z => absurd hk z⟩
  · exact ⟨_, hv2 (fun z => hk ((ecd_z (by decide)).mp z)), fun z => absurd z hk, fun _ => hXX⟩
theorem lm_meanDemanded (l : Launch) (G : GT) (D : Nat → Prop) (B : Nat → Nat) (mc : Nat → Int32) (cp : Nat → Nat) (th : Int32) (f : Nat → Nat → Int32) (g : Nat → Nat) (H : Heap) (hLI : LI f g) (hM : MP G B th mc cp f g H) (hD : DP G D H.size) (hB : DB D B cp g) (hcp : CG cp) (d : Int32) : MwV l G D H yX11_meanDemanded wsX11_meanDemanded { frames := 6, cells := 0, slots := 0, locals := 142 } [.ref (B 0), .int d] 0 0 (fun v t => ∃ va : UInt64, v = some (.double va) ∧ (koArg d 0 399 = none → va = mnD f g d) ∧ MX G D (B 0) (ecd [xIAE] (koArg d 0 399)) f g t) := by
  refine mw_mono (c_X11_meanDemanded l G B th mc cp f g H hM D hD hB d) (fun q h => h) (fun v u hP => ?_)
  obtain ⟨mt, hmt, hv, hX⟩ := hP
  have he : mt = ecd [xIAE] (koArg d 0 399) := hmt.trans (k_mean d).symm
  subst he
  refine ⟨_, hv, fun hk => ?_, B, mc, cp, hX, hB, hcp, rfl⟩
  rw [if_pos ((ecd_z (by decide)).mpr hk)]
  have h3 := hLI.1.2.2.1
  have hc : 0 < nI (g 3) ↔ ¬ nI (g 3) = 0 := by
    rw [zlt, z0, znI (by omega)]
    have h9 := nI_eq (a := g 3) (b := 0) (by omega) (by decide)
    constructor
    · intro h z
      have := h9.mp z
      omega
    · intro h
      by_cases z : g 3 = 0
      · exact absurd (h9.mpr z) h
      · omega
  unfold mMe mnD
  rw [suD_eq hLI]
  by_cases h0 : nI (g 3) = 0
  · rw [if_pos h0, if_neg (fun z => hc.mp z h0)]
    rfl
  · rw [if_neg h0, if_pos (hc.mpr h0)]
theorem lm_digest (l : Launch) (G : GT) (D : Nat → Prop) (B : Nat → Nat) (mc : Nat → Int32) (cp : Nat → Nat) (th : Int32) (f : Nat → Nat → Int32) (g : Nat → Nat) (H : Heap) (hLI : LI f g) (hM : MP G B th mc cp f g H) (hD : DP G D H.size) (hB : DB D B cp g) (hcp : CG cp) : MwV l G D H yX11_digest wsX11_digest { frames := 8, cells := 20, slots := 180, locals := 190 } [.ref (B 0)] 20 180 (fun v t => v = some (.long (dg5 f g)) ∧ MX G D (B 0) 0 f g t) := by
  refine mw_mono (c_X11_digest l G B th mc cp f g H hM D hD hB hLI.2.2.2.2.2.1) (fun q h => h) (fun v u hP => ?_)
  rw [dg_eq hLI]
  exact ⟨hP.1, B, mc, cp, hP.2, hB, hcp, rfl⟩

