/-! the law, case by case -/
section QCA
variable {p : Program} {l : Launch} {e : Env} {s : State} {m : MethodId} {args : Array Value} {below : List Frame} {meth : Method} {c : Code} {H : Heap} {locs : List Loc} {cells slots : Nat} {Q : State → Prop} {G : GT} {f : Nat → Nat → Int32} {g : Nat → Nat} {th : Int32} {b Lx i : Nat} {xs : Nat → Int32} {ls : Array Slot}
set_option maxHeartbeats 1000000 in
set_option maxRecDepth 100000 in
theorem lc_close (S : CallFix p m c cL_law 9 s args wsL_law RL) (hlf : l.stackTraces = false) (hz : G.2.2.1 = s.heap.size) (hG : GK G s.heap s) (hN : GN s) (hX : GX s) (hXs : va_X b Lx xs s s.heap) (hbl : b < s.heap.size) (hi : i + 5 < Lx) (hLx : Lx ≤ 3072) (hI : qLW G s th f g H locs) (hc : cells + 30 ≤ 1063676 ∧ slots + 2000 ≤ 5905075) (hl : lv_has ls 9 [(5, .int (nI i)), (0, .ref b), (1, .ref s.heap.size), (2, .ref (s.heap.size + 47)), (3, .ref (s.heap.size + 55)), (4, .ref (s.heap.size + 56))])   (kk : ∀ (th2 : Int32) (f2 : Nat → Nat → Int32) (g2 : Nat → Nat) (H2 : Heap) (locs2 : List Loc) (cells2 slots2 : Nat) (ls2 : Array Slot), qLW G s th2 f2 g2 H2 locs2 → cells2 ≤ cells + 21 → slots2 ≤ slots + 1660 → lv_has ls2 9 [(5, .int (nI i)), (0, .ref b), (1, .ref s.heap.size), (2, .ref (s.heap.size + 47)), (3, .ref (s.heap.size + 55)), (4, .ref (s.heap.size + 56))] → W p l e room_1 s m args below meth c H2 locs2 cells2 slots2 Q (F0 m 2103 ls2 [])) : W p l e room_1 s m args below meth c H locs cells slots Q (F0 m 820 ls []) := by
  have hx := S.1
  have hb := S.2.1
  have h0 := lv_at hl 1 rfl
  have h5 := lv_at hl 0 rfl
  refine lv_aload_n hx hb dL_law_820 rfl (lv_at hl 2 rfl) ?_
  refine law_arg (j := 1) S hXs hbl hI.2.2.2.2.2.2 rfl (by omega) hLx h0 h5 dL_law_821 dL_law_822 dL_law_824 dL_law_825 dL_law_826 ?_
  refine law_arg (j := 2) S hXs hbl hI.2.2.2.2.2.2 rfl (by omega) hLx h0 h5 dL_law_827 dL_law_828 dL_law_830 dL_law_831 dL_law_832 ?_
  refine law_arg (j := 3) S hXs hbl hI.2.2.2.2.2.2 rfl (by omega) hLx h0 h5 dL_law_833 dL_law_834 dL_law_836 dL_law_837 dL_law_838 ?_
  refine lv_aload_n hx hb dL_law_839 rfl (lv_at hl 4 rfl) ?_
  refine law_W (As := [.ref s.heap.size, .int (xs (i + 1)), .int (xs (i + 2)), .int (xs (i + 3)), .ref (s.heap.size + 55)]) (rest := []) S hz hG hN hI (fun r hr => c_L_close l G hlf (A0 s.heap.size) f g H hI.1 (ra_0 (Nat.le_of_eq hz)) (s.heap.size + 55) r hr (fun j hj => by have := A0_lt (z := s.heap.size) hj; omega) (xs (i + 1)) (xs (i + 2)) (xs (i + 3))) gL_law_L_close rfl ⟨rfl, rfl⟩ nmL_close ⟨Nat.le_of_ble_eq_true rfl, Nat.le_of_ble_eq_true rfl⟩ rfl hl.1 rfl (Nat.le_of_ble_eq_true rfl) ⟨by show cells + 1 ≤ 1063676; omega, by show slots + 6 ≤ 5905075; omega⟩ dL_law_840 (fun H2 locs2 hA2 => ?_)
  refine lv_istore (lv' := (6, _) :: [(5, .int (nI i)), (0, .ref b), (1, .ref s.heap.size), (2, .ref (s.heap.size + 47)), (3, .ref (s.heap.size + 55)), (4, .ref (s.heap.size + 56))]) hx hb dL_law_843 hl (by decide) rfl (fun ls hl => ?_)
  have h0 := lv_at hl 2 rfl
  have h5 := lv_at hl 1 rfl
  refine lv_aload_n hx hb dL_law_845 rfl (lv_at hl 4 rfl) ?_
  refine law_arg (j := 1) S hXs hbl hA2.2.2.2.2.2 rfl (by omega) hLx h0 h5 dL_law_846 dL_law_847 dL_law_849 dL_law_850 dL_law_851 ?_
  refine law_arg (j := 2) S hXs hbl hA2.2.2.2.2.2 rfl (by omega) hLx h0 h5 dL_law_852 dL_law_853 dL_law_855 dL_law_856 dL_law_857 ?_
  refine law_arg (j := 3) S hXs hbl hA2.2.2.2.2.2 rfl (by omega) hLx h0 h5 dL_law_858 dL_law_859 dL_law_861 dL_law_862 dL_law_863 ?_
  refine law_M (As := [.int (xs (i + 1)), .int (xs (i + 2)), .int (xs (i + 3))]) (rest := []) S hz hG hX hA2 (fun B mc cp m1 m2 m3 m4 => lm_close l G (qlD s.heap.size) B mc cp th f g H2 hI.2.1 m1 m2 m3 m4 (xs (i + 1)) (xs (i + 2)) (xs (i + 3))) gL_law_X11_close rfl ⟨rfl, rfl⟩ nmX11_close ⟨Nat.le_of_ble_eq_true rfl, Nat.le_of_ble_eq_true rfl⟩ rfl hl.1 rfl (Nat.le_of_ble_eq_true rfl) ⟨by show cells + 1 + 2 ≤ 1063676; omega, by show slots + 6 + 45 ≤ 5905075; omega⟩ dL_law_864 (fun H3 locs3 va hB3 => ?_)
  refine lv_istore (lv' := (7, _) :: (6, _) :: [(5, .int (nI i)), (0, .ref b), (1, .ref s.heap.size), (2, .ref (s.heap.size + 47)), (3, .ref (s.heap.size + 55)), (4, .ref (s.heap.size + 56))]) hx hb dL_law_867 hl (by decide) rfl (fun ls hl => ?_)
  exact law_tail (t := 869) S hz hG hB3 (by decide) hI.2.1 (fun hk => ll_close hI.2.1 hk) ⟨Nat.le_of_ble_eq_true rfl, Nat.le_of_ble_eq_true rfl⟩ ⟨by show cells + 1 + 2 ≤ 1063676; omega, by show slots + 6 + 45 ≤ 5905075; omega⟩ hl dL_law_869 dL_law_870 dL_law_873 dL_law_875 dL_law_880 dL_law_882 dL_law_885 dL_law_886 dL_law_887 dL_law_888 dL_law_890 dL_law_891 dL_law_892 dL_law_897 (by decide) (fun f2 g2 ls2 hW hl2 => kk _ f2 g2 H3 locs3 _ _ ls2 hW (by omega) (by omega) hl2)
set_option maxHeartbeats 1000000 in
set_option maxRecDepth 100000 in
theorem lc_cancel (S : CallFix p m c cL_law 9 s args wsL_law RL) (hlf : l.stackTraces = false) (hz : G.2.2.1 = s.heap.size) (hG : GK G s.heap s) (hN : GN s) (hX : GX s) (hXs : va_X b Lx xs s s.heap) (hbl : b < s.heap.size) (hi : i + 5 < Lx) (hLx : Lx ≤ 3072) (hI : qLW G s th f g H locs) (hc : cells + 30 ≤ 1063676 ∧ slots + 2000 ≤ 5905075) (hl : lv_has ls 9 [(5, .int (nI i)), (0, .ref b), (1, .ref s.heap.size), (2, .ref (s.heap.size + 47)), (3, .ref (s.heap.size + 55)), (4, .ref (s.heap.size + 56))])   (kk : ∀ (th2 : Int32) (f2 : Nat → Nat → Int32) (g2 : Nat → Nat) (H2 : Heap) (locs2 : List Loc) (cells2 slots2 : Nat) (ls2 : Array Slot), qLW G s th2 f2 g2 H2 locs2 → cells2 ≤ cells + 21 → slots2 ≤ slots + 1660 → lv_has ls2 9 [(5, .int (nI i)), (0, .ref b), (1, .ref s.heap.size), (2, .ref (s.heap.size + 47)), (3, .ref (s.heap.size + 55)), (4, .ref (s.heap.size + 56))] → W p l e room_1 s m args below meth c H2 locs2 cells2 slots2 Q (F0 m 2103 ls2 [])) : W p l e room_1 s m args below meth c H locs cells slots Q (F0 m 900 ls []) := by
  have hx := S.1
  have hb := S.2.1
  have h0 := lv_at hl 1 rfl
  have h5 := lv_at hl 0 rfl
  refine lv_aload_n hx hb dL_law_900 rfl (lv_at hl 2 rfl) ?_
  refine law_arg (j := 1) S hXs hbl hI.2.2.2.2.2.2 rfl (by omega) hLx h0 h5 dL_law_901 dL_law_902 dL_law_904 dL_law_905 dL_law_906 ?_
  refine lv_aload_n hx hb dL_law_907 rfl (lv_at hl 4 rfl) ?_
  refine law_W (As := [.ref s.heap.size, .int (xs (i + 1)), .ref (s.heap.size + 55)]) (rest := []) S hz hG hN hI (fun r hr => c_L_cancel l G hlf (A0 s.heap.size) f g H hI.1 (ra_0 (Nat.le_of_eq hz)) (s.heap.size + 55) r hr (fun j hj => by have := A0_lt (z := s.heap.size) hj; omega) (xs (i + 1))) gL_law_L_cancel rfl ⟨rfl, rfl⟩ nmL_cancel ⟨Nat.le_of_ble_eq_true rfl, Nat.le_of_ble_eq_true rfl⟩ rfl hl.1 rfl (Nat.le_of_ble_eq_true rfl) ⟨by show cells + 1 ≤ 1063676; omega, by show slots + 6 ≤ 5905075; omega⟩ dL_law_908 (fun H2 locs2 hA2 => ?_)
  refine lv_istore (lv' := (6, _) :: [(5, .int (nI i)), (0, .ref b), (1, .ref s.heap.size), (2, .ref (s.heap.size + 47)), (3, .ref (s.heap.size + 55)), (4, .ref (s.heap.size + 56))]) hx hb dL_law_911 hl (by decide) rfl (fun ls hl => ?_)
  have h0 := lv_at hl 2 rfl
  have h5 := lv_at hl 1 rfl
  refine lv_aload_n hx hb dL_law_913 rfl (lv_at hl 4 rfl) ?_
  refine law_arg (j := 1) S hXs hbl hA2.2.2.2.2.2 rfl (by omega) hLx h0 h5 dL_law_914 dL_law_915 dL_law_917 dL_law_918 dL_law_919 ?_
  refine law_M (As := [.int (xs (i + 1))]) (rest := []) S hz hG hX hA2 (fun B mc cp m1 m2 m3 m4 => lm_cancel l G (qlD s.heap.size) B mc cp th f g H2 hI.2.1 m1 m2 m3 m4 (xs (i + 1))) gL_law_X11_cancel rfl ⟨rfl, rfl⟩ nmX11_cancel ⟨Nat.le_of_ble_eq_true rfl, Nat.le_of_ble_eq_true rfl⟩ rfl hl.1 rfl (Nat.le_of_ble_eq_true rfl) ⟨by show cells + 1 + 2 ≤ 1063676; omega, by show slots + 6 + 45 ≤ 5905075; omega⟩ dL_law_920 (fun H3 locs3 va hB3 => ?_)
  refine lv_istore (lv' := (7, _) :: (6, _) :: [(5, .int (nI i)), (0, .ref b), (1, .ref s.heap.size), (2, .ref (s.heap.size + 47)), (3, .ref (s.heap.size + 55)), (4, .ref (s.heap.size + 56))]) hx hb dL_law_923 hl (by decide) rfl (fun ls hl => ?_)
  exact law_tail (t := 925) S hz hG hB3 (by decide) hI.2.1 (fun hk => ll_cancel hI.2.1 hk) ⟨Nat.le_of_ble_eq_true rfl, Nat.le_of_ble_eq_true rfl⟩ ⟨by show cells + 1 + 2 ≤ 1063676; omega, by show slots + 6 + 45 ≤ 5905075; omega⟩ hl dL_law_925 dL_law_926 dL_law_929 dL_law_931 dL_law_936 dL_law_938 dL_law_941 dL_law_942 dL_law_943 dL_law_944 dL_law_946 dL_law_947 dL_law_948 dL_law_953 (by decide) (fun f2 g2 ls2 hW hl2 => kk _ f2 g2 H3 locs3 _ _ ls2 hW (by omega) (by omega) hl2)
set_option maxHeartbeats 1000000 in
set_option maxRecDepth 100000 in
theorem lc_load (S : CallFix p m c cL_law 9 s args wsL_law RL) (hlf : l.stackTraces = false) (hz : G.2.2.1 = s.heap.size) (hG : GK G s.heap s) (hN : GN s) (hX : GX s) (hXs : va_X b Lx xs s s.heap) (hbl : b < s.heap.size) (hi : i + 5 < Lx) (hLx : Lx ≤ 3072) (hI : qLW G s th f g H locs) (hc : cells + 30 ≤ 1063676 ∧ slots + 2000 ≤ 5905075) (hl : lv_has ls 9 [(5, .int (nI i)), (0, .ref b), (1, .ref s.heap.size), (2, .ref (s.heap.size + 47)), (3, .ref (s.heap.size + 55)), (4, .ref (s.heap.size + 56))])   (kk : ∀ (th2 : Int32) (f2 : Nat → Nat → Int32) (g2 : Nat → Nat) (H2 : Heap) (locs2 : List Loc) (cells2 slots2 : Nat) (ls2 : Array Slot), qLW G s th2 f2 g2 H2 locs2 → cells2 ≤ cells + 21 → slots2 ≤ slots + 1660 → lv_has ls2 9 [(5, .int (nI i)), (0, .ref b), (1, .ref s.heap.size), (2, .ref (s.heap.size + 47)), (3, .ref (s.heap.size + 55)), (4, .ref (s.heap.size + 56))] → W p l e room_1 s m args below meth c H2 locs2 cells2 slots2 Q (F0 m 2103 ls2 [])) : W p l e room_1 s m args below meth c H locs cells slots Q (F0 m 956 ls []) := by
  have hx := S.1
  have hb := S.2.1
  have h0 := lv_at hl 1 rfl
  have h5 := lv_at hl 0 rfl
  refine lv_aload_n hx hb dL_law_956 rfl (lv_at hl 2 rfl) ?_
  refine law_arg (j := 1) S hXs hbl hI.2.2.2.2.2.2 rfl (by omega) hLx h0 h5 dL_law_957 dL_law_958 dL_law_960 dL_law_961 dL_law_962 ?_
  refine lv_aload_n hx hb dL_law_963 rfl (lv_at hl 4 rfl) ?_
  refine law_W (As := [.ref s.heap.size, .int (xs (i + 1)), .ref (s.heap.size + 55)]) (rest := []) S hz hG hN hI (fun r hr => c_L_load l G hlf (A0 s.heap.size) f g H hI.1 (ra_0 (Nat.le_of_eq hz)) (s.heap.size + 55) r hr (fun j hj => by have := A0_lt (z := s.heap.size) hj; omega) (xs (i + 1))) gL_law_L_load rfl ⟨rfl, rfl⟩ nmL_load ⟨Nat.le_of_ble_eq_true rfl, Nat.le_of_ble_eq_true rfl⟩ rfl hl.1 rfl (Nat.le_of_ble_eq_true rfl) ⟨by show cells + 1 ≤ 1063676; omega, by show slots + 6 ≤ 5905075; omega⟩ dL_law_964 (fun H2 locs2 hA2 => ?_)
  refine lv_istore (lv' := (6, _) :: [(5, .int (nI i)), (0, .ref b), (1, .ref s.heap.size), (2, .ref (s.heap.size + 47)), (3, .ref (s.heap.size + 55)), (4, .ref (s.heap.size + 56))]) hx hb dL_law_967 hl (by decide) rfl (fun ls hl => ?_)
  have h0 := lv_at hl 2 rfl
  have h5 := lv_at hl 1 rfl
  refine lv_aload_n hx hb dL_law_969 rfl (lv_at hl 4 rfl) ?_
  refine law_arg (j := 1) S hXs hbl hA2.2.2.2.2.2 rfl (by omega) hLx h0 h5 dL_law_970 dL_law_971 dL_law_973 dL_law_974 dL_law_975 ?_
  refine law_M (As := [.int (xs (i + 1))]) (rest := []) S hz hG hX hA2 (fun B mc cp m1 m2 m3 m4 => lm_load l G (qlD s.heap.size) B mc cp th f g H2 hI.2.1 m1 m2 m3 m4 (xs (i + 1))) gL_law_X11_load rfl ⟨rfl, rfl⟩ nmX11_load ⟨Nat.le_of_ble_eq_true rfl, Nat.le_of_ble_eq_true rfl⟩ rfl hl.1 rfl (Nat.le_of_ble_eq_true rfl) ⟨by show cells + 1 + 0 ≤ 1063676; omega, by show slots + 6 + 0 ≤ 5905075; omega⟩ dL_law_976 (fun H3 locs3 va hB3 => ?_)
  refine lv_istore (lv' := (7, _) :: (6, _) :: [(5, .int (nI i)), (0, .ref b), (1, .ref s.heap.size), (2, .ref (s.heap.size + 47)), (3, .ref (s.heap.size + 55)), (4, .ref (s.heap.size + 56))]) hx hb dL_law_979 hl (by decide) rfl (fun ls hl => ?_)
  exact law_tail (t := 981) S hz hG hB3 (by decide) hI.2.1 (fun hk => ll_load hI.2.1 hk) ⟨Nat.le_of_ble_eq_true rfl, Nat.le_of_ble_eq_true rfl⟩ ⟨by show cells + 1 + 0 ≤ 1063676; omega, by show slots + 6 + 0 ≤ 5905075; omega⟩ hl dL_law_981 dL_law_982 dL_law_985 dL_law_987 dL_law_992 dL_law_994 dL_law_997 dL_law_998 dL_law_999 dL_law_1000 dL_law_1002 dL_law_1003 dL_law_1004 dL_law_1009 (by decide) (fun f2 g2 ls2 hW hl2 => kk _ f2 g2 H3 locs3 _ _ ls2 hW (by omega) (by omega) hl2)
set_option maxHeartbeats 1000000 in
set_option maxRecDepth 100000 in
theorem lc_read (S : CallFix p m c cL_law 9 s args wsL_law RL) (hlf : l.stackTraces = false) (hz : G.2.2.1 = s.heap.size) (hG : GK G s.heap s) (hN : GN s) (hX : GX s) (hXs : va_X b Lx xs s s.heap) (hbl : b < s.heap.size) (hi : i + 5 < Lx) (hLx : Lx ≤ 3072) (hI : qLW G s th f g H locs) (hc : cells + 30 ≤ 1063676 ∧ slots + 2000 ≤ 5905075) (hl : lv_has ls 9 [(5, .int (nI i)), (0, .ref b), (1, .ref s.heap.size), (2, .ref (s.heap.size + 47)), (3, .ref (s.heap.size + 55)), (4, .ref (s.heap.size + 56))])   (kk : ∀ (th2 : Int32) (f2 : Nat → Nat → Int32) (g2 : Nat → Nat) (H2 : Heap) (locs2 : List Loc) (cells2 slots2 : Nat) (ls2 : Array Slot), qLW G s th2 f2 g2 H2 locs2 → cells2 ≤ cells + 21 → slots2 ≤ slots + 1660 → lv_has ls2 9 [(5, .int (nI i)), (0, .ref b), (1, .ref s.heap.size), (2, .ref (s.heap.size + 47)), (3, .ref (s.heap.size + 55)), (4, .ref (s.heap.size + 56))] → W p l e room_1 s m args below meth c H2 locs2 cells2 slots2 Q (F0 m 2103 ls2 [])) : W p l e room_1 s m args below meth c H locs cells slots Q (F0 m 1012 ls []) := by
  have hx := S.1
  have hb := S.2.1
  have h0 := lv_at hl 1 rfl
  have h5 := lv_at hl 0 rfl
  refine lv_aload_n hx hb dL_law_1012 rfl (lv_at hl 2 rfl) ?_
  refine law_arg (j := 1) S hXs hbl hI.2.2.2.2.2.2 rfl (by omega) hLx h0 h5 dL_law_1013 dL_law_1014 dL_law_1016 dL_law_1017 dL_law_1018 ?_
  refine lv_aload_n hx hb dL_law_1019 rfl (lv_at hl 4 rfl) ?_
  refine law_W (As := [.ref s.heap.size, .int (xs (i + 1)), .ref (s.heap.size + 55)]) (rest := []) S hz hG hN hI (fun r hr => c_L_read l G hlf (A0 s.heap.size) f g H hI.1 (ra_0 (Nat.le_of_eq hz)) (s.heap.size + 55) r hr (fun j hj => by have := A0_lt (z := s.heap.size) hj; omega) (xs (i + 1))) gL_law_L_read rfl ⟨rfl, rfl⟩ nmL_read ⟨Nat.le_of_ble_eq_true rfl, Nat.le_of_ble_eq_true rfl⟩ rfl hl.1 rfl (Nat.le_of_ble_eq_true rfl) ⟨by show cells + 1 ≤ 1063676; omega, by show slots + 6 ≤ 5905075; omega⟩ dL_law_1020 (fun H2 locs2 hA2 => ?_)
  refine lv_istore (lv' := (6, _) :: [(5, .int (nI i)), (0, .ref b), (1, .ref s.heap.size), (2, .ref (s.heap.size + 47)), (3, .ref (s.heap.size + 55)), (4, .ref (s.heap.size + 56))]) hx hb dL_law_1023 hl (by decide) rfl (fun ls hl => ?_)
  have h0 := lv_at hl 2 rfl
  have h5 := lv_at hl 1 rfl
  refine lv_aload_n hx hb dL_law_1025 rfl (lv_at hl 4 rfl) ?_
  refine law_arg (j := 1) S hXs hbl hA2.2.2.2.2.2 rfl (by omega) hLx h0 h5 dL_law_1026 dL_law_1027 dL_law_1029 dL_law_1030 dL_law_1031 ?_
  refine law_M (As := [.int (xs (i + 1))]) (rest := []) S hz hG hX hA2 (fun B mc cp m1 m2 m3 m4 => lm_read l G (qlD s.heap.size) B mc cp th f g H2 hI.2.1 m1 m2 m3 m4 (xs (i + 1))) gL_law_X11_read rfl ⟨rfl, rfl⟩ nmX11_read ⟨Nat.le_of_ble_eq_true rfl, Nat.le_of_ble_eq_true rfl⟩ rfl hl.1 rfl (Nat.le_of_ble_eq_true rfl) ⟨by show cells + 1 + 0 ≤ 1063676; omega, by show slots + 6 + 0 ≤ 5905075; omega⟩ dL_law_1032 (fun H3 locs3 va hB3 => ?_)
  refine lv_istore (lv' := (7, _) :: (6, _) :: [(5, .int (nI i)), (0, .ref b), (1, .ref s.heap.size), (2, .ref (s.heap.size + 47)), (3, .ref (s.heap.size + 55)), (4, .ref (s.heap.size + 56))]) hx hb dL_law_1035 hl (by decide) rfl (fun ls hl => ?_)
  exact law_tail (t := 1037) S hz hG hB3 (by decide) hI.2.1 (fun hk => ll_read hI.2.1 hk) ⟨Nat.le_of_ble_eq_true rfl, Nat.le_of_ble_eq_true rfl⟩ ⟨by show cells + 1 + 0 ≤ 1063676; omega, by show slots + 6 + 0 ≤ 5905075; omega⟩ hl dL_law_1037 dL_law_1038 dL_law_1041 dL_law_1043 dL_law_1048 dL_law_1050 dL_law_1053 dL_law_1054 dL_law_1055 dL_law_1056 dL_law_1058 dL_law_1059 dL_law_1060 dL_law_1065 (by decide) (fun f2 g2 ls2 hW hl2 => kk _ f2 g2 H3 locs3 _ _ ls2 hW (by omega) (by omega) hl2)
set_option maxHeartbeats 1000000 in
set_option maxRecDepth 100000 in
theorem lc_ofObstacle (S : CallFix p m c cL_law 9 s args wsL_law RL) (hlf : l.stackTraces = false) (hz : G.2.2.1 = s.heap.size) (hG : GK G s.heap s) (hN : GN s) (hX : GX s) (hXs : va_X b Lx xs s s.heap) (hbl : b < s.heap.size) (hi : i + 5 < Lx) (hLx : Lx ≤ 3072) (hI : qLW G s th f g H locs) (hc : cells + 30 ≤ 1063676 ∧ slots + 2000 ≤ 5905075) (hl : lv_has ls 9 [(5, .int (nI i)), (0, .ref b), (1, .ref s.heap.size), (2, .ref (s.heap.size + 47)), (3, .ref (s.heap.size + 55)), (4, .ref (s.heap.size + 56))])   (kk : ∀ (th2 : Int32) (f2 : Nat → Nat → Int32) (g2 : Nat → Nat) (H2 : Heap) (locs2 : List Loc) (cells2 slots2 : Nat) (ls2 : Array Slot), qLW G s th2 f2 g2 H2 locs2 → cells2 ≤ cells + 21 → slots2 ≤ slots + 1660 → lv_has ls2 9 [(5, .int (nI i)), (0, .ref b), (1, .ref s.heap.size), (2, .ref (s.heap.size + 47)), (3, .ref (s.heap.size + 55)), (4, .ref (s.heap.size + 56))] → W p l e room_1 s m args below meth c H2 locs2 cells2 slots2 Q (F0 m 2103 ls2 [])) : W p l e room_1 s m args below meth c H locs cells slots Q (F0 m 1068 ls []) := by
  have hx := S.1
  have hb := S.2.1
  have h0 := lv_at hl 1 rfl
  have h5 := lv_at hl 0 rfl
  refine lv_aload_n hx hb dL_law_1068 rfl (lv_at hl 2 rfl) ?_
  refine law_arg (j := 1) S hXs hbl hI.2.2.2.2.2.2 rfl (by omega) hLx h0 h5 dL_law_1069 dL_law_1070 dL_law_1072 dL_law_1073 dL_law_1074 ?_
  refine law_arg (j := 2) S hXs hbl hI.2.2.2.2.2.2 rfl (by omega) hLx h0 h5 dL_law_1075 dL_law_1076 dL_law_1078 dL_law_1079 dL_law_1080 ?_
  refine lv_aload_n hx hb dL_law_1081 rfl (lv_at hl 4 rfl) ?_
  refine law_W (As := [.ref s.heap.size, .int (xs (i + 1)), .int (xs (i + 2)), .ref (s.heap.size + 55)]) (rest := []) S hz hG hN hI (fun r hr => c_L_ofObstacle l G hlf (A0 s.heap.size) f g H hI.1 (ra_0 (Nat.le_of_eq hz)) (s.heap.size + 55) r hr (fun j hj => by have := A0_lt (z := s.heap.size) hj; omega) (xs (i + 1)) (xs (i + 2))) gL_law_L_ofObstacle rfl ⟨rfl, rfl⟩ nmL_ofObstacle ⟨Nat.le_of_ble_eq_true rfl, Nat.le_of_ble_eq_true rfl⟩ rfl hl.1 rfl (Nat.le_of_ble_eq_true rfl) ⟨by show cells + 1 ≤ 1063676; omega, by show slots + 6 ≤ 5905075; omega⟩ dL_law_1082 (fun H2 locs2 hA2 => ?_)
  refine lv_istore (lv' := (6, _) :: [(5, .int (nI i)), (0, .ref b), (1, .ref s.heap.size), (2, .ref (s.heap.size + 47)), (3, .ref (s.heap.size + 55)), (4, .ref (s.heap.size + 56))]) hx hb dL_law_1085 hl (by decide) rfl (fun ls hl => ?_)
  have h0 := lv_at hl 2 rfl
  have h5 := lv_at hl 1 rfl
  refine lv_aload_n hx hb dL_law_1087 rfl (lv_at hl 4 rfl) ?_
  refine law_arg (j := 1) S hXs hbl hA2.2.2.2.2.2 rfl (by omega) hLx h0 h5 dL_law_1088 dL_law_1089 dL_law_1091 dL_law_1092 dL_law_1093 ?_
  refine law_arg (j := 2) S hXs hbl hA2.2.2.2.2.2 rfl (by omega) hLx h0 h5 dL_law_1094 dL_law_1095 dL_law_1097 dL_law_1098 dL_law_1099 ?_
  refine law_M (As := [.int (xs (i + 1)), .int (xs (i + 2))]) (rest := []) S hz hG hX hA2 (fun B mc cp m1 m2 m3 m4 => lm_ofObstacle l G (qlD s.heap.size) B mc cp th f g H2 hI.2.1 m1 m2 m3 m4 (xs (i + 1)) (xs (i + 2))) gL_law_X11_ofObstacle rfl ⟨rfl, rfl⟩ nmX11_ofObstacle ⟨Nat.le_of_ble_eq_true rfl, Nat.le_of_ble_eq_true rfl⟩ rfl hl.1 rfl (Nat.le_of_ble_eq_true rfl) ⟨by show cells + 1 + 0 ≤ 1063676; omega, by show slots + 6 + 0 ≤ 5905075; omega⟩ dL_law_1100 (fun H3 locs3 va hB3 => ?_)
  refine lv_istore (lv' := (7, _) :: (6, _) :: [(5, .int (nI i)), (0, .ref b), (1, .ref s.heap.size), (2, .ref (s.heap.size + 47)), (3, .ref (s.heap.size + 55)), (4, .ref (s.heap.size + 56))]) hx hb dL_law_1103 hl (by decide) rfl (fun ls hl => ?_)
  exact law_tail (t := 1105) S hz hG hB3 (by decide) hI.2.1 (fun _ => hI.2.1) ⟨Nat.le_of_ble_eq_true rfl, Nat.le_of_ble_eq_true rfl⟩ ⟨by show cells + 1 + 0 ≤ 1063676; omega, by show slots + 6 + 0 ≤ 5905075; omega⟩ hl dL_law_1105 dL_law_1106 dL_law_1109 dL_law_1111 dL_law_1116 dL_law_1118 dL_law_1121 dL_law_1122 dL_law_1123 dL_law_1124 dL_law_1126 dL_law_1127 dL_law_1128 dL_law_1133 (by decide) (fun f2 g2 ls2 hW hl2 => kk _ f2 g2 H3 locs3 _ _ ls2 hW (by omega) (by omega) hl2)
set_option maxHeartbeats 1000000 in
set_option maxRecDepth 100000 in
theorem lc_demanded (S : CallFix p m c cL_law 9 s args wsL_law RL) (hlf : l.stackTraces = false) (hz : G.2.2.1 = s.heap.size) (hG : GK G s.heap s) (hN : GN s) (hX : GX s) (hXs : va_X b Lx xs s s.heap) (hbl : b < s.heap.size) (hi : i + 5 < Lx) (hLx : Lx ≤ 3072) (hI : qLW G s th f g H locs) (hc : cells + 30 ≤ 1063676 ∧ slots + 2000 ≤ 5905075) (hl : lv_has ls 9 [(5, .int (nI i)), (0, .ref b), (1, .ref s.heap.size), (2, .ref (s.heap.size + 47)), (3, .ref (s.heap.size + 55)), (4, .ref (s.heap.size + 56))])   (kk : ∀ (th2 : Int32) (f2 : Nat → Nat → Int32) (g2 : Nat → Nat) (H2 : Heap) (locs2 : List Loc) (cells2 slots2 : Nat) (ls2 : Array Slot), qLW G s th2 f2 g2 H2 locs2 → cells2 ≤ cells + 21 → slots2 ≤ slots + 1660 → lv_has ls2 9 [(5, .int (nI i)), (0, .ref b), (1, .ref s.heap.size), (2, .ref (s.heap.size + 47)), (3, .ref (s.heap.size + 55)), (4, .ref (s.heap.size + 56))] → W p l e room_1 s m args below meth c H2 locs2 cells2 slots2 Q (F0 m 2103 ls2 [])) : W p l e room_1 s m args below meth c H locs cells slots Q (F0 m 1136 ls []) := by
  have hx := S.1
  have hb := S.2.1
  have h0 := lv_at hl 1 rfl
  have h5 := lv_at hl 0 rfl
  refine lv_aload_n hx hb dL_law_1136 rfl (lv_at hl 2 rfl) ?_
  refine law_arg (j := 1) S hXs hbl hI.2.2.2.2.2.2 rfl (by omega) hLx h0 h5 dL_law_1137 dL_law_1138 dL_law_1140 dL_law_1141 dL_law_1142 ?_
  refine law_arg (j := 2) S hXs hbl hI.2.2.2.2.2.2 rfl (by omega) hLx h0 h5 dL_law_1143 dL_law_1144 dL_law_1146 dL_law_1147 dL_law_1148 ?_
  refine law_arg (j := 3) S hXs hbl hI.2.2.2.2.2.2 rfl (by omega) hLx h0 h5 dL_law_1149 dL_law_1150 dL_law_1152 dL_law_1153 dL_law_1154 ?_
  refine lv_aload_n hx hb dL_law_1155 rfl (lv_at hl 4 rfl) ?_
  refine law_W (As := [.ref s.heap.size, .int (xs (i + 1)), .int (xs (i + 2)), .int (xs (i + 3)), .ref (s.heap.size + 55)]) (rest := []) S hz hG hN hI (fun r hr => c_L_demanded l G hlf (A0 s.heap.size) f g H hI.1 (ra_0 (Nat.le_of_eq hz)) (s.heap.size + 55) r hr (fun j hj => by have := A0_lt (z := s.heap.size) hj; omega) (xs (i + 1)) (xs (i + 2)) (xs (i + 3))) gL_law_L_demanded rfl ⟨rfl, rfl⟩ nmL_demanded ⟨Nat.le_of_ble_eq_true rfl, Nat.le_of_ble_eq_true rfl⟩ rfl hl.1 rfl (Nat.le_of_ble_eq_true rfl) ⟨by show cells + 1 ≤ 1063676; omega, by show slots + 6 ≤ 5905075; omega⟩ dL_law_1156 (fun H2 locs2 hA2 => ?_)
  refine lv_istore (lv' := (6, _) :: [(5, .int (nI i)), (0, .ref b), (1, .ref s.heap.size), (2, .ref (s.heap.size + 47)), (3, .ref (s.heap.size + 55)), (4, .ref (s.heap.size + 56))]) hx hb dL_law_1159 hl (by decide) rfl (fun ls hl => ?_)
  have h0 := lv_at hl 2 rfl
  have h5 := lv_at hl 1 rfl
  refine lv_aload_n hx hb dL_law_1161 rfl (lv_at hl 4 rfl) ?_
  refine law_arg (j := 1) S hXs hbl hA2.2.2.2.2.2 rfl (by omega) hLx h0 h5 dL_law_1162 dL_law_1163 dL_law_1165 dL_law_1166 dL_law_1167 ?_
  refine law_arg (j := 2) S hXs hbl hA2.2.2.2.2.2 rfl (by omega) hLx h0 h5 dL_law_1168 dL_law_1169 dL_law_1171 dL_law_1172 dL_law_1173 ?_
  refine law_arg (j := 3) S hXs hbl hA2.2.2.2.2.2 rfl (by omega) hLx h0 h5 dL_law_1174 dL_law_1175 dL_law_1177 dL_law_1178 dL_law_1179 ?_
  refine law_M (As := [.int (xs (i + 1)), .int (xs (i + 2)), .int (xs (i + 3))]) (rest := []) S hz hG hX hA2 (fun B mc cp m1 m2 m3 m4 => lm_demanded l G (qlD s.heap.size) B mc cp th f g H2 hI.2.1 m1 m2 m3 m4 (xs (i + 1)) (xs (i + 2)) (xs (i + 3))) gL_law_X11_demanded rfl ⟨rfl, rfl⟩ nmX11_demanded ⟨Nat.le_of_ble_eq_true rfl, Nat.le_of_ble_eq_true rfl⟩ rfl hl.1 rfl (Nat.le_of_ble_eq_true rfl) ⟨by show cells + 1 + 0 ≤ 1063676; omega, by show slots + 6 + 0 ≤ 5905075; omega⟩ dL_law_1180 (fun H3 locs3 va hB3 => ?_)
  refine lv_istore (lv' := (7, _) :: (6, _) :: [(5, .int (nI i)), (0, .ref b), (1, .ref s.heap.size), (2, .ref (s.heap.size + 47)), (3, .ref (s.heap.size + 55)), (4, .ref (s.heap.size + 56))]) hx hb dL_law_1183 hl (by decide) rfl (fun ls hl => ?_)
  exact law_tail (t := 1185) S hz hG hB3 (by decide) hI.2.1 (fun _ => hI.2.1) ⟨Nat.le_of_ble_eq_true rfl, Nat.le_of_ble_eq_true rfl⟩ ⟨by show cells + 1 + 0 ≤ 1063676; omega, by show slots + 6 + 0 ≤ 5905075; omega⟩ hl dL_law_1185 dL_law_1186 dL_law_1189 dL_law_1191 dL_law_1196 dL_law_1198 dL_law_1201 dL_law_1202 dL_law_1203 dL_law_1204 dL_law_1206 dL_law_1207 dL_law_1208 dL_law_1213 (by decide) (fun f2 g2 ls2 hW hl2 => kk _ f2 g2 H3 locs3 _ _ ls2 hW (by omega) (by omega) hl2)
set_option maxHeartbeats 1000000 in
set_option maxRecDepth 100000 in
theorem lc_decides (S : CallFix p m c cL_law 9 s args wsL_law RL) (hlf : l.stackTraces = false) (hz : G.2.2.1 = s.heap.size) (hG : GK G s.heap s) (hN : GN s) (hX : GX s) (hXs : va_X b Lx xs s s.heap) (hbl : b < s.heap.size) (hi : i + 5 < Lx) (hLx : Lx ≤ 3072) (hI : qLW G s th f g H locs) (hc : cells + 30 ≤ 1063676 ∧ slots + 2000 ≤ 5905075) (hl : lv_has ls 9 [(5, .int (nI i)), (0, .ref b), (1, .ref s.heap.size), (2, .ref (s.heap.size + 47)), (3, .ref (s.heap.size + 55)), (4, .ref (s.heap.size + 56))])   (kk : ∀ (th2 : Int32) (f2 : Nat → Nat → Int32) (g2 : Nat → Nat) (H2 : Heap) (locs2 : List Loc) (cells2 slots2 : Nat) (ls2 : Array Slot), qLW G s th2 f2 g2 H2 locs2 → cells2 ≤ cells + 21 → slots2 ≤ slots + 1660 → lv_has ls2 9 [(5, .int (nI i)), (0, .ref b), (1, .ref s.heap.size), (2, .ref (s.heap.size + 47)), (3, .ref (s.heap.size + 55)), (4, .ref (s.heap.size + 56))] → W p l e room_1 s m args below meth c H2 locs2 cells2 slots2 Q (F0 m 2103 ls2 [])) : W p l e room_1 s m args below meth c H locs cells slots Q (F0 m 1216 ls []) := by
  have hx := S.1
  have hb := S.2.1
  have h0 := lv_at hl 1 rfl
  have h5 := lv_at hl 0 rfl
  refine lv_aload_n hx hb dL_law_1216 rfl (lv_at hl 2 rfl) ?_
  refine law_arg (j := 1) S hXs hbl hI.2.2.2.2.2.2 rfl (by omega) hLx h0 h5 dL_law_1217 dL_law_1218 dL_law_1220 dL_law_1221 dL_law_1222 ?_
  refine law_arg (j := 2) S hXs hbl hI.2.2.2.2.2.2 rfl (by omega) hLx h0 h5 dL_law_1223 dL_law_1224 dL_law_1226 dL_law_1227 dL_law_1228 ?_
  refine lv_aload_n hx hb dL_law_1229 rfl (lv_at hl 4 rfl) ?_
  refine law_W (As := [.ref s.heap.size, .int (xs (i + 1)), .int (xs (i + 2)), .ref (s.heap.size + 55)]) (rest := []) S hz hG hN hI (fun r hr => c_L_decides l G hlf (A0 s.heap.size) f g H hI.1 (ra_0 (Nat.le_of_eq hz)) (s.heap.size + 55) r hr (fun j hj => by have := A0_lt (z := s.heap.size) hj; omega) (xs (i + 1)) (xs (i + 2))) gL_law_L_decides rfl ⟨rfl, rfl⟩ nmL_decides ⟨Nat.le_of_ble_eq_true rfl, Nat.le_of_ble_eq_true rfl⟩ rfl hl.1 rfl (Nat.le_of_ble_eq_true rfl) ⟨by show cells + 1 ≤ 1063676; omega, by show slots + 6 ≤ 5905075; omega⟩ dL_law_1230 (fun H2 locs2 hA2 => ?_)
  refine lv_istore (lv' := (6, _) :: [(5, .int (nI i)), (0, .ref b), (1, .ref s.heap.size), (2, .ref (s.heap.size + 47)), (3, .ref (s.heap.size + 55)), (4, .ref (s.heap.size + 56))]) hx hb dL_law_1233 hl (by decide) rfl (fun ls hl => ?_)
  have h0 := lv_at hl 2 rfl
  have h5 := lv_at hl 1 rfl
  refine lv_aload_n hx hb dL_law_1235 rfl (lv_at hl 4 rfl) ?_
  refine law_arg (j := 1) S hXs hbl hA2.2.2.2.2.2 rfl (by omega) hLx h0 h5 dL_law_1236 dL_law_1237 dL_law_1239 dL_law_1240 dL_law_1241 ?_
  refine law_arg (j := 2) S hXs hbl hA2.2.2.2.2.2 rfl (by omega) hLx h0 h5 dL_law_1242 dL_law_1243 dL_law_1245 dL_law_1246 dL_law_1247 ?_
  refine law_M (As := [.int (xs (i + 1)), .int (xs (i + 2))]) (rest := []) S hz hG hX hA2 (fun B mc cp m1 m2 m3 m4 => lm_decides l G (qlD s.heap.size) B mc cp th f g H2 hI.2.1 m1 m2 m3 m4 (xs (i + 1)) (xs (i + 2))) gL_law_X11_decides rfl ⟨rfl, rfl⟩ nmX11_decides ⟨Nat.le_of_ble_eq_true rfl, Nat.le_of_ble_eq_true rfl⟩ rfl hl.1 rfl (Nat.le_of_ble_eq_true rfl) ⟨by show cells + 1 + 0 ≤ 1063676; omega, by show slots + 6 + 0 ≤ 5905075; omega⟩ dL_law_1248 (fun H3 locs3 va hB3 => ?_)
  refine lv_istore (lv' := (7, _) :: (6, _) :: [(5, .int (nI i)), (0, .ref b), (1, .ref s.heap.size), (2, .ref (s.heap.size + 47)), (3, .ref (s.heap.size + 55)), (4, .ref (s.heap.size + 56))]) hx hb dL_law_1251 hl (by decide) rfl (fun ls hl => ?_)
  exact law_tail (t := 1253) S hz hG hB3 (by decide) hI.2.1 (fun _ => hI.2.1) ⟨Nat.le_of_ble_eq_true rfl, Nat.le_of_ble_eq_true rfl⟩ ⟨by show cells + 1 + 0 ≤ 1063676; omega, by show slots + 6 + 0 ≤ 5905075; omega⟩ hl dL_law_1253 dL_law_1254 dL_law_1257 dL_law_1259 dL_law_1264 dL_law_1266 dL_law_1269 dL_law_1270 dL_law_1271 dL_law_1272 dL_law_1274 dL_law_1275 dL_law_1276 dL_law_1281 (by decide) (fun f2 g2 ls2 hW hl2 => kk _ f2 g2 H3 locs3 _ _ ls2 hW (by omega) (by omega) hl2)
set_option maxHeartbeats 1000000 in
set_option maxRecDepth 100000 in
theorem lc_chart (S : CallFix p m c cL_law 9 s args wsL_law RL) (hlf : l.stackTraces = false) (hz : G.2.2.1 = s.heap.size) (hG : GK G s.heap s) (hN : GN s) (hX : GX s) (hXs : va_X b Lx xs s s.heap) (hbl : b < s.heap.size) (hi : i + 5 < Lx) (hLx : Lx ≤ 3072) (hI : qLW G s th f g H locs) (hc : cells + 30 ≤ 1063676 ∧ slots + 2000 ≤ 5905075) (hl : lv_has ls 9 [(5, .int (nI i)), (0, .ref b), (1, .ref s.heap.size), (2, .ref (s.heap.size + 47)), (3, .ref (s.heap.size + 55)), (4, .ref (s.heap.size + 56))])   (kk : ∀ (th2 : Int32) (f2 : Nat → Nat → Int32) (g2 : Nat → Nat) (H2 : Heap) (locs2 : List Loc) (cells2 slots2 : Nat) (ls2 : Array Slot), qLW G s th2 f2 g2 H2 locs2 → cells2 ≤ cells + 21 → slots2 ≤ slots + 1660 → lv_has ls2 9 [(5, .int (nI i)), (0, .ref b), (1, .ref s.heap.size), (2, .ref (s.heap.size + 47)), (3, .ref (s.heap.size + 55)), (4, .ref (s.heap.size + 56))] → W p l e room_1 s m args below meth c H2 locs2 cells2 slots2 Q (F0 m 2103 ls2 [])) : W p l e room_1 s m args below meth c H locs cells slots Q (F0 m 1284 ls []) := by
  have hx := S.1
  have hb := S.2.1
  have h0 := lv_at hl 1 rfl
  have h5 := lv_at hl 0 rfl
  refine lv_aload_n hx hb dL_law_1284 rfl (lv_at hl 2 rfl) ?_
  refine law_arg (j := 1) S hXs hbl hI.2.2.2.2.2.2 rfl (by omega) hLx h0 h5 dL_law_1285 dL_law_1286 dL_law_1288 dL_law_1289 dL_law_1290 ?_
  refine law_arg (j := 2) S hXs hbl hI.2.2.2.2.2.2 rfl (by omega) hLx h0 h5 dL_law_1291 dL_law_1292 dL_law_1294 dL_law_1295 dL_law_1296 ?_
  refine lv_aload_n hx hb dL_law_1297 rfl (lv_at hl 4 rfl) ?_
  refine law_W (As := [.ref s.heap.size, .int (xs (i + 1)), .int (xs (i + 2)), .ref (s.heap.size + 55)]) (rest := []) S hz hG hN hI (fun r hr => c_L_chart l G hlf (A0 s.heap.size) f g H hI.1 (ra_0 (Nat.le_of_eq hz)) (s.heap.size + 55) r hr (fun j hj => by have := A0_lt (z := s.heap.size) hj; omega) (xs (i + 1)) (xs (i + 2))) gL_law_L_chart rfl ⟨rfl, rfl⟩ nmL_chart ⟨Nat.le_of_ble_eq_true rfl, Nat.le_of_ble_eq_true rfl⟩ rfl hl.1 rfl (Nat.le_of_ble_eq_true rfl) ⟨by show cells + 1 ≤ 1063676; omega, by show slots + 6 ≤ 5905075; omega⟩ dL_law_1298 (fun H2 locs2 hA2 => ?_)
  refine lv_istore (lv' := (6, _) :: [(5, .int (nI i)), (0, .ref b), (1, .ref s.heap.size), (2, .ref (s.heap.size + 47)), (3, .ref (s.heap.size + 55)), (4, .ref (s.heap.size + 56))]) hx hb dL_law_1301 hl (by decide) rfl (fun ls hl => ?_)
  have h0 := lv_at hl 2 rfl
  have h5 := lv_at hl 1 rfl
  refine lv_aload_n hx hb dL_law_1303 rfl (lv_at hl 4 rfl) ?_
  refine law_arg (j := 1) S hXs hbl hA2.2.2.2.2.2 rfl (by omega) hLx h0 h5 dL_law_1304 dL_law_1305 dL_law_1307 dL_law_1308 dL_law_1309 ?_
  refine law_arg (j := 2) S hXs hbl hA2.2.2.2.2.2 rfl (by omega) hLx h0 h5 dL_law_1310 dL_law_1311 dL_law_1313 dL_law_1314 dL_law_1315 ?_
  refine law_M (As := [.int (xs (i + 1)), .int (xs (i + 2))]) (rest := []) S hz hG hX hA2 (fun B mc cp m1 m2 m3 m4 => lm_chart l G (qlD s.heap.size) B mc cp th f g H2 hI.2.1 m1 m2 m3 m4 (xs (i + 1)) (xs (i + 2))) gL_law_X11_chart rfl ⟨rfl, rfl⟩ nmX11_chart ⟨Nat.le_of_ble_eq_true rfl, Nat.le_of_ble_eq_true rfl⟩ rfl hl.1 rfl (Nat.le_of_ble_eq_true rfl) ⟨by show cells + 1 + 0 ≤ 1063676; omega, by show slots + 6 + 0 ≤ 5905075; omega⟩ dL_law_1316 (fun H3 locs3 va hB3 => ?_)
  refine lv_istore (lv' := (7, _) :: (6, _) :: [(5, .int (nI i)), (0, .ref b), (1, .ref s.heap.size), (2, .ref (s.heap.size + 47)), (3, .ref (s.heap.size + 55)), (4, .ref (s.heap.size + 56))]) hx hb dL_law_1319 hl (by decide) rfl (fun ls hl => ?_)
  exact law_tail (t := 1321) S hz hG hB3 (by decide) hI.2.1 (fun _ => hI.2.1) ⟨Nat.le_of_ble_eq_true rfl, Nat.le_of_ble_eq_true rfl⟩ ⟨by show cells + 1 + 0 ≤ 1063676; omega, by show slots + 6 + 0 ≤ 5905075; omega⟩ hl dL_law_1321 dL_law_1322 dL_law_1325 dL_law_1327 dL_law_1332 dL_law_1334 dL_law_1337 dL_law_1338 dL_law_1339 dL_law_1340 dL_law_1342 dL_law_1343 dL_law_1344 dL_law_1349 (by decide) (fun f2 g2 ls2 hW hl2 => kk _ f2 g2 H3 locs3 _ _ ls2 hW (by omega) (by omega) hl2)
set_option maxHeartbeats 1000000 in
set_option maxRecDepth 100000 in
theorem lc_inForce (S : CallFix p m c cL_law 9 s args wsL_law RL) (hlf : l.stackTraces = false) (hz : G.2.2.1 = s.heap.size) (hG : GK G s.heap s) (hN : GN s) (hX : GX s) (hXs : va_X b Lx xs s s.heap) (hbl : b < s.heap.size) (hi : i + 5 < Lx) (hLx : Lx ≤ 3072) (hI : qLW G s th f g H locs) (hc : cells + 30 ≤ 1063676 ∧ slots + 2000 ≤ 5905075) (hl : lv_has ls 9 [(5, .int (nI i)), (0, .ref b), (1, .ref s.heap.size), (2, .ref (s.heap.size + 47)), (3, .ref (s.heap.size + 55)), (4, .ref (s.heap.size + 56))])   (kk : ∀ (th2 : Int32) (f2 : Nat → Nat → Int32) (g2 : Nat → Nat) (H2 : Heap) (locs2 : List Loc) (cells2 slots2 : Nat) (ls2 : Array Slot), qLW G s th2 f2 g2 H2 locs2 → cells2 ≤ cells + 21 → slots2 ≤ slots + 1660 → lv_has ls2 9 [(5, .int (nI i)), (0, .ref b), (1, .ref s.heap.size), (2, .ref (s.heap.size + 47)), (3, .ref (s.heap.size + 55)), (4, .ref (s.heap.size + 56))] → W p l e room_1 s m args below meth c H2 locs2 cells2 slots2 Q (F0 m 2103 ls2 [])) : W p l e room_1 s m args below meth c H locs cells slots Q (F0 m 1352 ls []) := by
  have hx := S.1
  have hb := S.2.1
  have h0 := lv_at hl 1 rfl
  have h5 := lv_at hl 0 rfl
  refine lv_aload_n hx hb dL_law_1352 rfl (lv_at hl 2 rfl) ?_
  refine law_arg (j := 1) S hXs hbl hI.2.2.2.2.2.2 rfl (by omega) hLx h0 h5 dL_law_1353 dL_law_1354 dL_law_1356 dL_law_1357 dL_law_1358 ?_
  refine law_arg (j := 2) S hXs hbl hI.2.2.2.2.2.2 rfl (by omega) hLx h0 h5 dL_law_1359 dL_law_1360 dL_law_1362 dL_law_1363 dL_law_1364 ?_
  refine law_arg (j := 3) S hXs hbl hI.2.2.2.2.2.2 rfl (by omega) hLx h0 h5 dL_law_1365 dL_law_1366 dL_law_1368 dL_law_1369 dL_law_1370 ?_
  refine lv_aload_n hx hb dL_law_1371 rfl (lv_at hl 4 rfl) ?_
  refine law_W (As := [.ref s.heap.size, .int (xs (i + 1)), .int (xs (i + 2)), .int (xs (i + 3)), .ref (s.heap.size + 55)]) (rest := []) S hz hG hN hI (fun r hr => c_L_inForce l G hlf (A0 s.heap.size) f g H hI.1 (ra_0 (Nat.le_of_eq hz)) (s.heap.size + 55) r hr (fun j hj => by have := A0_lt (z := s.heap.size) hj; omega) (xs (i + 1)) (xs (i + 2)) (xs (i + 3))) gL_law_L_inForce rfl ⟨rfl, rfl⟩ nmL_inForce ⟨Nat.le_of_ble_eq_true rfl, Nat.le_of_ble_eq_true rfl⟩ rfl hl.1 rfl (Nat.le_of_ble_eq_true rfl) ⟨by show cells + 1 ≤ 1063676; omega, by show slots + 6 ≤ 5905075; omega⟩ dL_law_1372 (fun H2 locs2 hA2 => ?_)
  refine lv_istore (lv' := (6, _) :: [(5, .int (nI i)), (0, .ref b), (1, .ref s.heap.size), (2, .ref (s.heap.size + 47)), (3, .ref (s.heap.size + 55)), (4, .ref (s.heap.size + 56))]) hx hb dL_law_1375 hl (by decide) rfl (fun ls hl => ?_)
  have h0 := lv_at hl 2 rfl
  have h5 := lv_at hl 1 rfl
  refine lv_aload_n hx hb dL_law_1377 rfl (lv_at hl 4 rfl) ?_
  refine law_arg (j := 1) S hXs hbl hA2.2.2.2.2.2 rfl (by omega) hLx h0 h5 dL_law_1378 dL_law_1379 dL_law_1381 dL_law_1382 dL_law_1383 ?_
  refine law_arg (j := 2) S hXs hbl hA2.2.2.2.2.2 rfl (by omega) hLx h0 h5 dL_law_1384 dL_law_1385 dL_law_1387 dL_law_1388 dL_law_1389 ?_
  refine law_arg (j := 3) S hXs hbl hA2.2.2.2.2.2 rfl (by omega) hLx h0 h5 dL_law_1390 dL_law_1391 dL_law_1393 dL_law_1394 dL_law_1395 ?_
  refine law_M (As := [.int (xs (i + 1)), .int (xs (i + 2)), .int (xs (i + 3))]) (rest := []) S hz hG hX hA2 (fun B mc cp m1 m2 m3 m4 => lm_inForce l G (qlD s.heap.size) B mc cp th f g H2 hI.2.1 m1 m2 m3 m4 (xs (i + 1)) (xs (i + 2)) (xs (i + 3))) gL_law_X11_inForce rfl ⟨rfl, rfl⟩ nmX11_inForce ⟨Nat.le_of_ble_eq_true rfl, Nat.le_of_ble_eq_true rfl⟩ rfl hl.1 rfl (Nat.le_of_ble_eq_true rfl) ⟨by show cells + 1 + 0 ≤ 1063676; omega, by show slots + 6 + 0 ≤ 5905075; omega⟩ dL_law_1396 (fun H3 locs3 va hB3 => ?_)
  refine lv_istore (lv' := (7, _) :: (6, _) :: [(5, .int (nI i)), (0, .ref b), (1, .ref s.heap.size), (2, .ref (s.heap.size + 47)), (3, .ref (s.heap.size + 55)), (4, .ref (s.heap.size + 56))]) hx hb dL_law_1399 hl (by decide) rfl (fun ls hl => ?_)
  exact law_tail (t := 1401) S hz hG hB3 (by decide) hI.2.1 (fun _ => hI.2.1) ⟨Nat.le_of_ble_eq_true rfl, Nat.le_of_ble_eq_true rfl⟩ ⟨by show cells + 1 + 0 ≤ 1063676; omega, by show slots + 6 + 0 ≤ 5905075; omega⟩ hl dL_law_1401 dL_law_1402 dL_law_1405 dL_law_1407 dL_law_1412 dL_law_1414 dL_law_1417 dL_law_1418 dL_law_1419 dL_law_1420 dL_law_1422 dL_law_1423 dL_law_1424 dL_law_1429 (by decide) (fun f2 g2 ls2 hW hl2 => kk _ f2 g2 H3 locs3 _ _ ls2 hW (by omega) (by omega) hl2)
end QCA
