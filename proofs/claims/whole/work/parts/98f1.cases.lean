set_option maxRecDepth 100000 in
set_option maxHeartbeats 4000000 in
theorem k_case12 {p : Program} {l : Launch} {e : Env} {s : State} {m : MethodId} {args : Array Value} {below : List Frame} {meth : Method} {c : Code} {H : Heap} {locs : List Loc} {cells slots : Nat} {Q : State → Prop} {ls : Array Slot} {K : KG} {b N i n : Nat} {xs : Nat → Int32} {mc mm : Mem} {adC adM : Nat → Nat → Nat} (C : Cx p s m args meth c cL_law 4 "GlassPalaceLaw" ret) (g : LG K s) (hX : va_X b N xs s s.heap) (hbl : b < s.heap.size) (hN : N ≤ 3072) (hi : i + 6 ≤ N) (hn : n < 100000) (hc : cells + 1 ≤ 600000) (hsl : slots + 11 ≤ 7302250) (J : JJ K n mc mm adC adM H) (hS : va_S (lA s) s.heap H locs) (hl : lv_has ls 4 [(0, .ref b), (1, .ref (kB K)), (2, .ref (adM 0 0)), (3, .int (nI i))]) (kk : ∀ (mc2 mm2 : Mem) (adC2 : Nat → Nat → Nat) (H2 : Heap) (locs2 : List Loc), JJ K (n + 1) mc2 mm2 adC2 adM H2 → va_S (lA s) s.heap H2 locs2 → W p l e room_1 s m args below meth c H2 locs2 (cells + 1) (slots + 11) Q (F0 m 1880 ls [])) : W p l e room_1 s m args below meth c H locs cells slots Q (F0 m 648 ls []) := by
  obtain ⟨T1, T2, T3⟩ := turnC J.1 J.2.2.1
  have T4 := J.apart
  have T5 := J.home
  obtain ⟨r, mc1, mm1, e1, e2, e3⟩ := pairS (mc := mcT K mc (adT K mc adC H.size)) (mm := mm) (fC := f_X11_down FL (xs (i + 1)) (xs (i + 2))) (fM := f_X12_down FL (xs (i + 1)) (xs (i + 2))) (fun v => sim_down T2.w98 (xs (i + 1)) (xs (i + 2)))
  refine lv_aload_n C.x C.b dL_law_648 rfl (lv_at hl 1 rfl) ?_
  refine l_arg (k := 1) C hX hbl hS hl hN (by omega) (by decide) dL_law_649 dL_law_650 dL_law_651 dL_law_652 dL_law_653 ?_
  refine l_arg (k := 2) C hX hbl hS hl hN (by omega) (by decide) dL_law_654 dL_law_655 dL_law_656 dL_law_657 dL_law_658 ?_
  refine l_calV (As := [.int (xs (i + 1)), .int (xs (i + 2))]) (rest := []) C g T1 hS mw_X11_down mv_X11_down kl_644 (by decide) ⟨Nat.le_of_ble_eq_true rfl, Nat.le_of_ble_eq_true rfl⟩ (lvC0 Nat.zero_lt_one) kC0 zc11 (c_X11_down (l := l) (K := K) (ad := adT K mc adC H.size) e1) rfl hl.1 (by rw [T5]; rfl) (Nat.le_of_ble_eq_true rfl) dL_law_659 ⟨by show (_ : Nat) ≤ 600000; omega, by show (_ : Nat) ≤ 7302250; omega⟩ (fun H1 locs1 Z1 S1 F1 => ?_)
  have M1 := J.mid T4 Z1 F1
  refine lv_aload_n C.x C.b dL_law_662 rfl (lv_at hl 2 rfl) ?_
  refine l_arg (k := 1) C hX hbl S1 hl hN (by omega) (by decide) dL_law_663 dL_law_664 dL_law_665 dL_law_666 dL_law_667 ?_
  refine l_arg (k := 2) C hX hbl S1 hl hN (by omega) (by decide) dL_law_668 dL_law_669 dL_law_670 dL_law_671 dL_law_672 ?_
  refine l_calV (As := [.int (xs (i + 1)), .int (xs (i + 2))]) (rest := [.int r]) C g M1 S1 mw_X12_down mv_X12_down kl_1557 (by decide) ⟨Nat.le_of_ble_eq_true rfl, Nat.le_of_ble_eq_true rfl⟩ (lvM0 Nat.zero_lt_one) kM0 zc12 (c_X12_down (l := l) (K := K) (ad := adM) e2) rfl hl.1 rfl (Nat.le_of_ble_eq_true rfl) dL_law_673 ⟨by show (_ : Nat) ≤ 600000; omega, by show (_ : Nat) ≤ 7302250; omega⟩ (fun H2 locs2 Z2 S2 F2 => ?_)
  refine lv_icmp_eq (tgt := 1880) C.x C.b dL_law_676 (by decide) (fun _ => ?_) (fun w => absurd rfl w)
  exact W.widen (by omega) (by omega) (kk _ _ _ _ _ (J.fin T4 T5 Z1 Z2 F2 e3) S2)
set_option maxRecDepth 100000 in
set_option maxHeartbeats 4000000 in
theorem k_case13 {p : Program} {l : Launch} {e : Env} {s : State} {m : MethodId} {args : Array Value} {below : List Frame} {meth : Method} {c : Code} {H : Heap} {locs : List Loc} {cells slots : Nat} {Q : State → Prop} {ls : Array Slot} {K : KG} {b N i n : Nat} {xs : Nat → Int32} {mc mm : Mem} {adC adM : Nat → Nat → Nat} (C : Cx p s m args meth c cL_law 4 "GlassPalaceLaw" ret) (g : LG K s) (hX : va_X b N xs s s.heap) (hbl : b < s.heap.size) (hN : N ≤ 3072) (hi : i + 6 ≤ N) (hn : n < 100000) (hc : cells + 1 ≤ 600000) (hsl : slots + 11 ≤ 7302250) (J : JJ K n mc mm adC adM H) (hS : va_S (lA s) s.heap H locs) (hl : lv_has ls 4 [(0, .ref b), (1, .ref (kB K)), (2, .ref (adM 0 0)), (3, .int (nI i))]) (kk : ∀ (mc2 mm2 : Mem) (adC2 : Nat → Nat → Nat) (H2 : Heap) (locs2 : List Loc), JJ K (n + 1) mc2 mm2 adC2 adM H2 → va_S (lA s) s.heap H2 locs2 → W p l e room_1 s m args below meth c H2 locs2 (cells + 1) (slots + 11) Q (F0 m 1880 ls [])) : W p l e room_1 s m args below meth c H locs cells slots Q (F0 m 681 ls []) := by
  obtain ⟨T1, T2, T3⟩ := turnC J.1 J.2.2.1
  have T4 := J.apart
  have T5 := J.home
  obtain ⟨r, mc1, mm1, e1, e2, e3⟩ := pairS (mc := mcT K mc (adT K mc adC H.size)) (mm := mm) (fC := f_X11_cut FL (xs (i + 1))) (fM := f_X12_cut FL (xs (i + 1))) (fun v => sim_cut T2.w98 (xs (i + 1)))
  refine lv_aload_n C.x C.b dL_law_681 rfl (lv_at hl 1 rfl) ?_
  refine l_arg (k := 1) C hX hbl hS hl hN (by omega) (by decide) dL_law_682 dL_law_683 dL_law_684 dL_law_685 dL_law_686 ?_
  refine l_calV (As := [.int (xs (i + 1))]) (rest := []) C g T1 hS mw_X11_cut mv_X11_cut kl_660 (by decide) ⟨Nat.le_of_ble_eq_true rfl, Nat.le_of_ble_eq_true rfl⟩ (lvC0 Nat.zero_lt_one) kC0 zc11 (c_X11_cut (l := l) (K := K) (ad := adT K mc adC H.size) e1) rfl hl.1 (by rw [T5]; rfl) (Nat.le_of_ble_eq_true rfl) dL_law_687 ⟨by show (_ : Nat) ≤ 600000; omega, by show (_ : Nat) ≤ 7302250; omega⟩ (fun H1 locs1 Z1 S1 F1 => ?_)
  have M1 := J.mid T4 Z1 F1
  refine lv_aload_n C.x C.b dL_law_690 rfl (lv_at hl 2 rfl) ?_
  refine l_arg (k := 1) C hX hbl S1 hl hN (by omega) (by decide) dL_law_691 dL_law_692 dL_law_693 dL_law_694 dL_law_695 ?_
  refine l_calV (As := [.int (xs (i + 1))]) (rest := [.int r]) C g M1 S1 mw_X12_cut mv_X12_cut kl_1561 (by decide) ⟨Nat.le_of_ble_eq_true rfl, Nat.le_of_ble_eq_true rfl⟩ (lvM0 Nat.zero_lt_one) kM0 zc12 (c_X12_cut (l := l) (K := K) (ad := adM) e2) rfl hl.1 rfl (Nat.le_of_ble_eq_true rfl) dL_law_696 ⟨by show (_ : Nat) ≤ 600000; omega, by show (_ : Nat) ≤ 7302250; omega⟩ (fun H2 locs2 Z2 S2 F2 => ?_)
  refine lv_icmp_eq (tgt := 1880) C.x C.b dL_law_699 (by decide) (fun _ => ?_) (fun w => absurd rfl w)
  exact W.widen (by omega) (by omega) (kk _ _ _ _ _ (J.fin T4 T5 Z1 Z2 F2 e3) S2)
set_option maxRecDepth 100000 in
set_option maxHeartbeats 4000000 in
theorem k_case14 {p : Program} {l : Launch} {e : Env} {s : State} {m : MethodId} {args : Array Value} {below : List Frame} {meth : Method} {c : Code} {H : Heap} {locs : List Loc} {cells slots : Nat} {Q : State → Prop} {ls : Array Slot} {K : KG} {b N i n : Nat} {xs : Nat → Int32} {mc mm : Mem} {adC adM : Nat → Nat → Nat} (C : Cx p s m args meth c cL_law 4 "GlassPalaceLaw" ret) (g : LG K s) (hX : va_X b N xs s s.heap) (hbl : b < s.heap.size) (hN : N ≤ 3072) (hi : i + 6 ≤ N) (hn : n < 100000) (hc : cells + 1 ≤ 600000) (hsl : slots + 11 ≤ 7302250) (J : JJ K n mc mm adC adM H) (hS : va_S (lA s) s.heap H locs) (hl : lv_has ls 4 [(0, .ref b), (1, .ref (kB K)), (2, .ref (adM 0 0)), (3, .int (nI i))]) (kk : ∀ (mc2 mm2 : Mem) (adC2 : Nat → Nat → Nat) (H2 : Heap) (locs2 : List Loc), JJ K (n + 1) mc2 mm2 adC2 adM H2 → va_S (lA s) s.heap H2 locs2 → W p l e room_1 s m args below meth c H2 locs2 (cells + 1) (slots + 11) Q (F0 m 1880 ls [])) : W p l e room_1 s m args below meth c H locs cells slots Q (F0 m 704 ls []) := by
  obtain ⟨T1, T2, T3⟩ := turnC J.1 J.2.2.1
  have T4 := J.apart
  have T5 := J.home
  obtain ⟨r, mc1, mm1, e1, e2, e3⟩ := pairS (mc := mcT K mc (adT K mc adC H.size)) (mm := mm) (fC := f_X11_feed FL (xs (i + 1)) (xs (i + 2))) (fM := f_X12_feed FL (xs (i + 1)) (xs (i + 2))) (fun v => sim_feed (fl := FL) FL_ge T2.w98 (xs (i + 1)) (xs (i + 2)))
  refine lv_aload_n C.x C.b dL_law_704 rfl (lv_at hl 1 rfl) ?_
  refine l_arg (k := 1) C hX hbl hS hl hN (by omega) (by decide) dL_law_705 dL_law_706 dL_law_707 dL_law_708 dL_law_709 ?_
  refine l_arg (k := 2) C hX hbl hS hl hN (by omega) (by decide) dL_law_710 dL_law_711 dL_law_712 dL_law_713 dL_law_714 ?_
  refine l_calV (As := [.int (xs (i + 1)), .int (xs (i + 2))]) (rest := []) C g T1 hS mw_X11_feed mv_X11_feed kl_673 (by decide) ⟨Nat.le_of_ble_eq_true rfl, Nat.le_of_ble_eq_true rfl⟩ (lvC0 Nat.zero_lt_one) kC0 zc11 (c_X11_feed (l := l) (K := K) (ad := adT K mc adC H.size) e1) rfl hl.1 (by rw [T5]; rfl) (Nat.le_of_ble_eq_true rfl) dL_law_715 ⟨by show (_ : Nat) ≤ 600000; omega, by show (_ : Nat) ≤ 7302250; omega⟩ (fun H1 locs1 Z1 S1 F1 => ?_)
  have M1 := J.mid T4 Z1 F1
  refine lv_aload_n C.x C.b dL_law_718 rfl (lv_at hl 2 rfl) ?_
  refine l_arg (k := 1) C hX hbl S1 hl hN (by omega) (by decide) dL_law_719 dL_law_720 dL_law_721 dL_law_722 dL_law_723 ?_
  refine l_arg (k := 2) C hX hbl S1 hl hN (by omega) (by decide) dL_law_724 dL_law_725 dL_law_726 dL_law_727 dL_law_728 ?_
  refine l_calV (As := [.int (xs (i + 1)), .int (xs (i + 2))]) (rest := [.int r]) C g M1 S1 mw_X12_feed mv_X12_feed kl_1569 (by decide) ⟨Nat.le_of_ble_eq_true rfl, Nat.le_of_ble_eq_true rfl⟩ (lvM0 Nat.zero_lt_one) kM0 zc12 (c_X12_feed (l := l) (K := K) (ad := adM) e2) rfl hl.1 rfl (Nat.le_of_ble_eq_true rfl) dL_law_729 ⟨by show (_ : Nat) ≤ 600000; omega, by show (_ : Nat) ≤ 7302250; omega⟩ (fun H2 locs2 Z2 S2 F2 => ?_)
  refine lv_icmp_eq (tgt := 1880) C.x C.b dL_law_732 (by decide) (fun _ => ?_) (fun w => absurd rfl w)
  exact W.widen (by omega) (by omega) (kk _ _ _ _ _ (J.fin T4 T5 Z1 Z2 F2 e3) S2)
set_option maxRecDepth 100000 in
set_option maxHeartbeats 4000000 in
theorem k_case15 {p : Program} {l : Launch} {e : Env} {s : State} {m : MethodId} {args : Array Value} {below : List Frame} {meth : Method} {c : Code} {H : Heap} {locs : List Loc} {cells slots : Nat} {Q : State → Prop} {ls : Array Slot} {K : KG} {b N i n : Nat} {xs : Nat → Int32} {mc mm : Mem} {adC adM : Nat → Nat → Nat} (C : Cx p s m args meth c cL_law 4 "GlassPalaceLaw" ret) (g : LG K s) (hX : va_X b N xs s s.heap) (hbl : b < s.heap.size) (hN : N ≤ 3072) (hi : i + 6 ≤ N) (hn : n < 100000) (hc : cells + 1 ≤ 600000) (hsl : slots + 11 ≤ 7302250) (J : JJ K n mc mm adC adM H) (hS : va_S (lA s) s.heap H locs) (hl : lv_has ls 4 [(0, .ref b), (1, .ref (kB K)), (2, .ref (adM 0 0)), (3, .int (nI i))]) (kk : ∀ (mc2 mm2 : Mem) (adC2 : Nat → Nat → Nat) (H2 : Heap) (locs2 : List Loc), JJ K (n + 1) mc2 mm2 adC2 adM H2 → va_S (lA s) s.heap H2 locs2 → W p l e room_1 s m args below meth c H2 locs2 (cells + 1) (slots + 11) Q (F0 m 1880 ls [])) : W p l e room_1 s m args below meth c H locs cells slots Q (F0 m 737 ls []) := by
  obtain ⟨T1, T2, T3⟩ := turnC J.1 J.2.2.1
  have T4 := J.apart
  have T5 := J.home
  obtain ⟨r, mc1, mm1, e1, e2, e3⟩ := pairS (mc := mcT K mc (adT K mc adC H.size)) (mm := mm) (fC := f_X11_law FL (xs (i + 1))) (fM := f_X12_law FL (xs (i + 1))) (fun v => sim_law T2.w98 (xs (i + 1)))
  refine lv_aload_n C.x C.b dL_law_737 rfl (lv_at hl 1 rfl) ?_
  refine l_arg (k := 1) C hX hbl hS hl hN (by omega) (by decide) dL_law_738 dL_law_739 dL_law_740 dL_law_741 dL_law_742 ?_
  refine l_calV (As := [.int (xs (i + 1))]) (rest := []) C g T1 hS mw_X11_law mv_X11_law kl_681 (by decide) ⟨Nat.le_of_ble_eq_true rfl, Nat.le_of_ble_eq_true rfl⟩ (lvC0 Nat.zero_lt_one) kC0 zc11 (c_X11_law (l := l) (K := K) (ad := adT K mc adC H.size) e1) rfl hl.1 (by rw [T5]; rfl) (Nat.le_of_ble_eq_true rfl) dL_law_743 ⟨by show (_ : Nat) ≤ 600000; omega, by show (_ : Nat) ≤ 7302250; omega⟩ (fun H1 locs1 Z1 S1 F1 => ?_)
  have M1 := J.mid T4 Z1 F1
  refine lv_aload_n C.x C.b dL_law_746 rfl (lv_at hl 2 rfl) ?_
  refine l_arg (k := 1) C hX hbl S1 hl hN (by omega) (by decide) dL_law_747 dL_law_748 dL_law_749 dL_law_750 dL_law_751 ?_
  refine l_calV (As := [.int (xs (i + 1))]) (rest := [.int r]) C g M1 S1 mw_X12_law mv_X12_law kl_1573 (by decide) ⟨Nat.le_of_ble_eq_true rfl, Nat.le_of_ble_eq_true rfl⟩ (lvM0 Nat.zero_lt_one) kM0 zc12 (c_X12_law (l := l) (K := K) (ad := adM) e2) rfl hl.1 rfl (Nat.le_of_ble_eq_true rfl) dL_law_752 ⟨by show (_ : Nat) ≤ 600000; omega, by show (_ : Nat) ≤ 7302250; omega⟩ (fun H2 locs2 Z2 S2 F2 => ?_)
  refine lv_icmp_eq (tgt := 1880) C.x C.b dL_law_755 (by decide) (fun _ => ?_) (fun w => absurd rfl w)
  exact W.widen (by omega) (by omega) (kk _ _ _ _ _ (J.fin T4 T5 Z1 Z2 F2 e3) S2)
set_option maxRecDepth 100000 in
set_option maxHeartbeats 4000000 in
theorem k_case16 {p : Program} {l : Launch} {e : Env} {s : State} {m : MethodId} {args : Array Value} {below : List Frame} {meth : Method} {c : Code} {H : Heap} {locs : List Loc} {cells slots : Nat} {Q : State → Prop} {ls : Array Slot} {K : KG} {b N i n : Nat} {xs : Nat → Int32} {mc mm : Mem} {adC adM : Nat → Nat → Nat} (C : Cx p s m args meth c cL_law 4 "GlassPalaceLaw" ret) (g : LG K s) (hX : va_X b N xs s s.heap) (hbl : b < s.heap.size) (hN : N ≤ 3072) (hi : i + 6 ≤ N) (hn : n < 100000) (hc : cells + 1 ≤ 600000) (hsl : slots + 11 ≤ 7302250) (J : JJ K n mc mm adC adM H) (hS : va_S (lA s) s.heap H locs) (hl : lv_has ls 4 [(0, .ref b), (1, .ref (kB K)), (2, .ref (adM 0 0)), (3, .int (nI i))]) (kk : ∀ (mc2 mm2 : Mem) (adC2 : Nat → Nat → Nat) (H2 : Heap) (locs2 : List Loc), JJ K (n + 1) mc2 mm2 adC2 adM H2 → va_S (lA s) s.heap H2 locs2 → W p l e room_1 s m args below meth c H2 locs2 (cells + 1) (slots + 11) Q (F0 m 1880 ls [])) : W p l e room_1 s m args below meth c H locs cells slots Q (F0 m 760 ls []) := by
  obtain ⟨T1, T2, T3⟩ := turnC J.1 J.2.2.1
  have T4 := J.apart
  have T5 := J.home
  obtain ⟨r, mc1, mm1, e1, e2, e3⟩ := pairS (mc := mcT K mc (adT K mc adC H.size)) (mm := mm) (fC := f_X11_force FL (xs (i + 1)) (xs (i + 2)) (xs (i + 3))) (fM := f_X12_force FL (xs (i + 1)) (xs (i + 2)) (xs (i + 3))) (fun v => sim_force T2.w98 (xs (i + 1)) (xs (i + 2)) (xs (i + 3)))
  refine lv_aload_n C.x C.b dL_law_760 rfl (lv_at hl 1 rfl) ?_
  refine l_arg (k := 1) C hX hbl hS hl hN (by omega) (by decide) dL_law_761 dL_law_762 dL_law_763 dL_law_764 dL_law_765 ?_
  refine l_arg (k := 2) C hX hbl hS hl hN (by omega) (by decide) dL_law_766 dL_law_767 dL_law_768 dL_law_769 dL_law_770 ?_
  refine l_arg (k := 3) C hX hbl hS hl hN (by omega) (by decide) dL_law_771 dL_law_772 dL_law_773 dL_law_774 dL_law_775 ?_
  refine l_calV (As := [.int (xs (i + 1)), .int (xs (i + 2)), .int (xs (i + 3))]) (rest := []) C g T1 hS mw_X11_force mv_X11_force kl_808 (by decide) ⟨Nat.le_of_ble_eq_true rfl, Nat.le_of_ble_eq_true rfl⟩ (lvC0 Nat.zero_lt_one) kC0 zc11 (c_X11_force (l := l) (K := K) (ad := adT K mc adC H.size) e1) rfl hl.1 (by rw [T5]; rfl) (Nat.le_of_ble_eq_true rfl) dL_law_776 ⟨by show (_ : Nat) ≤ 600000; omega, by show (_ : Nat) ≤ 7302250; omega⟩ (fun H1 locs1 Z1 S1 F1 => ?_)
  have M1 := J.mid T4 Z1 F1
  refine lv_aload_n C.x C.b dL_law_779 rfl (lv_at hl 2 rfl) ?_
  refine l_arg (k := 1) C hX hbl S1 hl hN (by omega) (by decide) dL_law_780 dL_law_781 dL_law_782 dL_law_783 dL_law_784 ?_
  refine l_arg (k := 2) C hX hbl S1 hl hN (by omega) (by decide) dL_law_785 dL_law_786 dL_law_787 dL_law_788 dL_law_789 ?_
  refine l_arg (k := 3) C hX hbl S1 hl hN (by omega) (by decide) dL_law_790 dL_law_791 dL_law_792 dL_law_793 dL_law_794 ?_
  refine l_calV (As := [.int (xs (i + 1)), .int (xs (i + 2)), .int (xs (i + 3))]) (rest := [.int r]) C g M1 S1 mw_X12_force mv_X12_force kl_1581 (by decide) ⟨Nat.le_of_ble_eq_true rfl, Nat.le_of_ble_eq_true rfl⟩ (lvM0 Nat.zero_lt_one) kM0 zc12 (c_X12_force (l := l) (K := K) (ad := adM) e2) rfl hl.1 rfl (Nat.le_of_ble_eq_true rfl) dL_law_795 ⟨by show (_ : Nat) ≤ 600000; omega, by show (_ : Nat) ≤ 7302250; omega⟩ (fun H2 locs2 Z2 S2 F2 => ?_)
  refine lv_icmp_eq (tgt := 1880) C.x C.b dL_law_798 (by decide) (fun _ => ?_) (fun w => absurd rfl w)
  exact W.widen (by omega) (by omega) (kk _ _ _ _ _ (J.fin T4 T5 Z1 Z2 F2 e3) S2)
set_option maxRecDepth 100000 in
set_option maxHeartbeats 4000000 in
theorem k_case17 {p : Program} {l : Launch} {e : Env} {s : State} {m : MethodId} {args : Array Value} {below : List Frame} {meth : Method} {c : Code} {H : Heap} {locs : List Loc} {cells slots : Nat} {Q : State → Prop} {ls : Array Slot} {K : KG} {b N i n : Nat} {xs : Nat → Int32} {mc mm : Mem} {adC adM : Nat → Nat → Nat} (C : Cx p s m args meth c cL_law 4 "GlassPalaceLaw" ret) (g : LG K s) (hX : va_X b N xs s s.heap) (hbl : b < s.heap.size) (hN : N ≤ 3072) (hi : i + 6 ≤ N) (hn : n < 100000) (hc : cells + 1 ≤ 600000) (hsl : slots + 11 ≤ 7302250) (J : JJ K n mc mm adC adM H) (hS : va_S (lA s) s.heap H locs) (hl : lv_has ls 4 [(0, .ref b), (1, .ref (kB K)), (2, .ref (adM 0 0)), (3, .int (nI i))]) (kk : ∀ (mc2 mm2 : Mem) (adC2 : Nat → Nat → Nat) (H2 : Heap) (locs2 : List Loc), JJ K (n + 1) mc2 mm2 adC2 adM H2 → va_S (lA s) s.heap H2 locs2 → W p l e room_1 s m args below meth c H2 locs2 (cells + 1) (slots + 11) Q (F0 m 1880 ls [])) : W p l e room_1 s m args below meth c H locs cells slots Q (F0 m 803 ls []) := by
  obtain ⟨T1, T2, T3⟩ := turnC J.1 J.2.2.1
  have T4 := J.apart
  have T5 := J.home
  obtain ⟨r, mc1, mm1, e1, e2, e3⟩ := pairS (mc := mcT K mc (adT K mc adC H.size)) (mm := mm) (fC := f_X11_why FL (xs (i + 1)) (xs (i + 2))) (fM := f_X12_why FL (xs (i + 1)) (xs (i + 2))) (fun v => sim_why T2.w98 (xs (i + 1)) (xs (i + 2)))
  refine lv_aload_n C.x C.b dL_law_803 rfl (lv_at hl 1 rfl) ?_
  refine l_arg (k := 1) C hX hbl hS hl hN (by omega) (by decide) dL_law_804 dL_law_805 dL_law_806 dL_law_807 dL_law_808 ?_
  refine l_arg (k := 2) C hX hbl hS hl hN (by omega) (by decide) dL_law_809 dL_law_810 dL_law_811 dL_law_812 dL_law_813 ?_
  refine l_calV (As := [.int (xs (i + 1)), .int (xs (i + 2))]) (rest := []) C g T1 hS mw_X11_why mv_X11_why kl_815 (by decide) ⟨Nat.le_of_ble_eq_true rfl, Nat.le_of_ble_eq_true rfl⟩ (lvC0 Nat.zero_lt_one) kC0 zc11 (c_X11_why (l := l) (K := K) (ad := adT K mc adC H.size) e1) rfl hl.1 (by rw [T5]; rfl) (Nat.le_of_ble_eq_true rfl) dL_law_814 ⟨by show (_ : Nat) ≤ 600000; omega, by show (_ : Nat) ≤ 7302250; omega⟩ (fun H1 locs1 Z1 S1 F1 => ?_)
  have M1 := J.mid T4 Z1 F1
  refine lv_aload_n C.x C.b dL_law_817 rfl (lv_at hl 2 rfl) ?_
  refine l_arg (k := 1) C hX hbl S1 hl hN (by omega) (by decide) dL_law_818 dL_law_819 dL_law_820 dL_law_821 dL_law_822 ?_
  refine l_arg (k := 2) C hX hbl S1 hl hN (by omega) (by decide) dL_law_823 dL_law_824 dL_law_825 dL_law_826 dL_law_827 ?_
  refine l_calV (As := [.int (xs (i + 1)), .int (xs (i + 2))]) (rest := [.int r]) C g M1 S1 mw_X12_why mv_X12_why kl_1585 (by decide) ⟨Nat.le_of_ble_eq_true rfl, Nat.le_of_ble_eq_true rfl⟩ (lvM0 Nat.zero_lt_one) kM0 zc12 (c_X12_why (l := l) (K := K) (ad := adM) e2) rfl hl.1 rfl (Nat.le_of_ble_eq_true rfl) dL_law_828 ⟨by show (_ : Nat) ≤ 600000; omega, by show (_ : Nat) ≤ 7302250; omega⟩ (fun H2 locs2 Z2 S2 F2 => ?_)
  refine lv_icmp_eq (tgt := 1880) C.x C.b dL_law_831 (by decide) (fun _ => ?_) (fun w => absurd rfl w)
  exact W.widen (by omega) (by omega) (kk _ _ _ _ _ (J.fin T4 T5 Z1 Z2 F2 e3) S2)
set_option maxRecDepth 100000 in
set_option maxHeartbeats 4000000 in
theorem k_case18 {p : Program} {l : Launch} {e : Env} {s : State} {m : MethodId} {args : Array Value} {below : List Frame} {meth : Method} {c : Code} {H : Heap} {locs : List Loc} {cells slots : Nat} {Q : State → Prop} {ls : Array Slot} {K : KG} {b N i n : Nat} {xs : Nat → Int32} {mc mm : Mem} {adC adM : Nat → Nat → Nat} (C : Cx p s m args meth c cL_law 4 "GlassPalaceLaw" ret) (g : LG K s) (hX : va_X b N xs s s.heap) (hbl : b < s.heap.size) (hN : N ≤ 3072) (hi : i + 6 ≤ N) (hn : n < 100000) (hc : cells + 1 ≤ 600000) (hsl : slots + 11 ≤ 7302250) (J : JJ K n mc mm adC adM H) (hS : va_S (lA s) s.heap H locs) (hl : lv_has ls 4 [(0, .ref b), (1, .ref (kB K)), (2, .ref (adM 0 0)), (3, .int (nI i))]) (kk : ∀ (mc2 mm2 : Mem) (adC2 : Nat → Nat → Nat) (H2 : Heap) (locs2 : List Loc), JJ K (n + 1) mc2 mm2 adC2 adM H2 → va_S (lA s) s.heap H2 locs2 → W p l e room_1 s m args below meth c H2 locs2 (cells + 1) (slots + 11) Q (F0 m 1880 ls [])) : W p l e room_1 s m args below meth c H locs cells slots Q (F0 m 836 ls []) := by
  obtain ⟨T1, T2, T3⟩ := turnC J.1 J.2.2.1
  have T4 := J.apart
  have T5 := J.home
  obtain ⟨r, mc1, mm1, e1, e2, e3⟩ := pairS (mc := mcT K mc (adT K mc adC H.size)) (mm := mm) (fC := f_X11_people FL (xs (i + 1)) (xs (i + 2))) (fM := f_X12_people FL (xs (i + 1)) (xs (i + 2))) (fun v => sim_people (fl := FL) T2.w98 (xs (i + 1)) (xs (i + 2)))
  refine lv_aload_n C.x C.b dL_law_836 rfl (lv_at hl 1 rfl) ?_
  refine l_arg (k := 1) C hX hbl hS hl hN (by omega) (by decide) dL_law_837 dL_law_838 dL_law_839 dL_law_840 dL_law_841 ?_
  refine l_arg (k := 2) C hX hbl hS hl hN (by omega) (by decide) dL_law_842 dL_law_843 dL_law_844 dL_law_845 dL_law_846 ?_
  refine l_calV (As := [.int (xs (i + 1)), .int (xs (i + 2))]) (rest := []) C g T1 hS mw_X11_people mv_X11_people kl_822 (by decide) ⟨Nat.le_of_ble_eq_true rfl, Nat.le_of_ble_eq_true rfl⟩ (lvC0 Nat.zero_lt_one) kC0 zc11 (c_X11_people (l := l) (K := K) (ad := adT K mc adC H.size) e1) rfl hl.1 (by rw [T5]; rfl) (Nat.le_of_ble_eq_true rfl) dL_law_847 ⟨by show (_ : Nat) ≤ 600000; omega, by show (_ : Nat) ≤ 7302250; omega⟩ (fun H1 locs1 Z1 S1 F1 => ?_)
  have M1 := J.mid T4 Z1 F1
  refine lv_aload_n C.x C.b dL_law_850 rfl (lv_at hl 2 rfl) ?_
  refine l_arg (k := 1) C hX hbl S1 hl hN (by omega) (by decide) dL_law_851 dL_law_852 dL_law_853 dL_law_854 dL_law_855 ?_
  refine l_arg (k := 2) C hX hbl S1 hl hN (by omega) (by decide) dL_law_856 dL_law_857 dL_law_858 dL_law_859 dL_law_860 ?_
  refine l_calV (As := [.int (xs (i + 1)), .int (xs (i + 2))]) (rest := [.int r]) C g M1 S1 mw_X12_people mv_X12_people kl_1589 (by decide) ⟨Nat.le_of_ble_eq_true rfl, Nat.le_of_ble_eq_true rfl⟩ (lvM0 Nat.zero_lt_one) kM0 zc12 (c_X12_people (l := l) (K := K) (ad := adM) e2) rfl hl.1 rfl (Nat.le_of_ble_eq_true rfl) dL_law_861 ⟨by show (_ : Nat) ≤ 600000; omega, by show (_ : Nat) ≤ 7302250; omega⟩ (fun H2 locs2 Z2 S2 F2 => ?_)
  refine lv_icmp_eq (tgt := 1880) C.x C.b dL_law_864 (by decide) (fun _ => ?_) (fun w => absurd rfl w)
  exact W.widen (by omega) (by omega) (kk _ _ _ _ _ (J.fin T4 T5 Z1 Z2 F2 e3) S2)
set_option maxRecDepth 100000 in
set_option maxHeartbeats 4000000 in
theorem k_case19 {p : Program} {l : Launch} {e : Env} {s : State} {m : MethodId} {args : Array Value} {below : List Frame} {meth : Method} {c : Code} {H : Heap} {locs : List Loc} {cells slots : Nat} {Q : State → Prop} {ls : Array Slot} {K : KG} {b N i n : Nat} {xs : Nat → Int32} {mc mm : Mem} {adC adM : Nat → Nat → Nat} (C : Cx p s m args meth c cL_law 4 "GlassPalaceLaw" ret) (g : LG K s) (hX : va_X b N xs s s.heap) (hbl : b < s.heap.size) (hN : N ≤ 3072) (hi : i + 6 ≤ N) (hn : n < 100000) (hc : cells + 1 ≤ 600000) (hsl : slots + 11 ≤ 7302250) (J : JJ K n mc mm adC adM H) (hS : va_S (lA s) s.heap H locs) (hl : lv_has ls 4 [(0, .ref b), (1, .ref (kB K)), (2, .ref (adM 0 0)), (3, .int (nI i))]) (kk : ∀ (mc2 mm2 : Mem) (adC2 : Nat → Nat → Nat) (H2 : Heap) (locs2 : List Loc), JJ K (n + 1) mc2 mm2 adC2 adM H2 → va_S (lA s) s.heap H2 locs2 → W p l e room_1 s m args below meth c H2 locs2 (cells + 1) (slots + 11) Q (F0 m 1880 ls [])) : W p l e room_1 s m args below meth c H locs cells slots Q (F0 m 869 ls []) := by
  obtain ⟨T1, T2, T3⟩ := turnC J.1 J.2.2.1
  have T4 := J.apart
  have T5 := J.home
  obtain ⟨r, mc1, mm1, e1, e2, e3⟩ := pairS (mc := mcT K mc (adT K mc adC H.size)) (mm := mm) (fC := f_X11_bears FL (xs (i + 1)) (xs (i + 2))) (fM := f_X12_bears FL (xs (i + 1)) (xs (i + 2))) (fun v => sim_bears T2.w98 (xs (i + 1)) (xs (i + 2)))
  refine lv_aload_n C.x C.b dL_law_869 rfl (lv_at hl 1 rfl) ?_
  refine l_arg (k := 1) C hX hbl hS hl hN (by omega) (by decide) dL_law_870 dL_law_871 dL_law_872 dL_law_873 dL_law_874 ?_
  refine l_arg (k := 2) C hX hbl hS hl hN (by omega) (by decide) dL_law_875 dL_law_876 dL_law_877 dL_law_878 dL_law_879 ?_
  refine l_calV (As := [.int (xs (i + 1)), .int (xs (i + 2))]) (rest := []) C g T1 hS mw_X11_bears mv_X11_bears kl_826 (by decide) ⟨Nat.le_of_ble_eq_true rfl, Nat.le_of_ble_eq_true rfl⟩ (lvC0 Nat.zero_lt_one) kC0 zc11 (c_X11_bears (l := l) (K := K) (ad := adT K mc adC H.size) e1) rfl hl.1 (by rw [T5]; rfl) (Nat.le_of_ble_eq_true rfl) dL_law_880 ⟨by show (_ : Nat) ≤ 600000; omega, by show (_ : Nat) ≤ 7302250; omega⟩ (fun H1 locs1 Z1 S1 F1 => ?_)
  have M1 := J.mid T4 Z1 F1
  refine lv_aload_n C.x C.b dL_law_883 rfl (lv_at hl 2 rfl) ?_
  refine l_arg (k := 1) C hX hbl S1 hl hN (by omega) (by decide) dL_law_884 dL_law_885 dL_law_886 dL_law_887 dL_law_888 ?_
  refine l_arg (k := 2) C hX hbl S1 hl hN (by omega) (by decide) dL_law_889 dL_law_890 dL_law_891 dL_law_892 dL_law_893 ?_
  refine l_calV (As := [.int (xs (i + 1)), .int (xs (i + 2))]) (rest := [.int r]) C g M1 S1 mw_X12_bears mv_X12_bears kl_1593 (by decide) ⟨Nat.le_of_ble_eq_true rfl, Nat.le_of_ble_eq_true rfl⟩ (lvM0 Nat.zero_lt_one) kM0 zc12 (c_X12_bears (l := l) (K := K) (ad := adM) e2) rfl hl.1 rfl (Nat.le_of_ble_eq_true rfl) dL_law_894 ⟨by show (_ : Nat) ≤ 600000; omega, by show (_ : Nat) ≤ 7302250; omega⟩ (fun H2 locs2 Z2 S2 F2 => ?_)
  refine lv_icmp_eq (tgt := 1880) C.x C.b dL_law_897 (by decide) (fun _ => ?_) (fun w => absurd rfl w)
  exact W.widen (by omega) (by omega) (kk _ _ _ _ _ (J.fin T4 T5 Z1 Z2 F2 e3) S2)
set_option maxRecDepth 100000 in
set_option maxHeartbeats 4000000 in
theorem k_case20 {p : Program} {l : Launch} {e : Env} {s : State} {m : MethodId} {args : Array Value} {below : List Frame} {meth : Method} {c : Code} {H : Heap} {locs : List Loc} {cells slots : Nat} {Q : State → Prop} {ls : Array Slot} {K : KG} {b N i n : Nat} {xs : Nat → Int32} {mc mm : Mem} {adC adM : Nat → Nat → Nat} (C : Cx p s m args meth c cL_law 4 "GlassPalaceLaw" ret) (g : LG K s) (hX : va_X b N xs s s.heap) (hbl : b < s.heap.size) (hN : N ≤ 3072) (hi : i + 6 ≤ N) (hn : n < 100000) (hc : cells + 1 ≤ 600000) (hsl : slots + 11 ≤ 7302250) (J : JJ K n mc mm adC adM H) (hS : va_S (lA s) s.heap H locs) (hl : lv_has ls 4 [(0, .ref b), (1, .ref (kB K)), (2, .ref (adM 0 0)), (3, .int (nI i))]) (kk : ∀ (mc2 mm2 : Mem) (adC2 : Nat → Nat → Nat) (H2 : Heap) (locs2 : List Loc), JJ K (n + 1) mc2 mm2 adC2 adM H2 → va_S (lA s) s.heap H2 locs2 → W p l e room_1 s m args below meth c H2 locs2 (cells + 1) (slots + 11) Q (F0 m 1880 ls [])) : W p l e room_1 s m args below meth c H locs cells slots Q (F0 m 902 ls []) := by
  obtain ⟨T1, T2, T3⟩ := turnC J.1 J.2.2.1
  have T4 := J.apart
  have T5 := J.home
  obtain ⟨r, mc1, mm1, e1, e2, e3⟩ := pairS (mc := mcT K mc (adT K mc adC H.size)) (mm := mm) (fC := f_X11_breaks FL) (fM := f_X12_breaks FL) (fun v => sim_breaks T2.w98)
  refine lv_aload_n C.x C.b dL_law_902 rfl (lv_at hl 1 rfl) ?_
  refine l_calV (As := []) (rest := []) C g T1 hS mw_X11_breaks mv_X11_breaks kl_846 (by decide) ⟨Nat.le_of_ble_eq_true rfl, Nat.le_of_ble_eq_true rfl⟩ (lvC0 Nat.zero_lt_one) kC0 zc11 (c_X11_breaks (l := l) (K := K) (ad := adT K mc adC H.size) e1) rfl hl.1 (by rw [T5]; rfl) (Nat.le_of_ble_eq_true rfl) dL_law_903 ⟨by show (_ : Nat) ≤ 600000; omega, by show (_ : Nat) ≤ 7302250; omega⟩ (fun H1 locs1 Z1 S1 F1 => ?_)
  have M1 := J.mid T4 Z1 F1
  refine lv_aload_n C.x C.b dL_law_906 rfl (lv_at hl 2 rfl) ?_
  refine l_calV (As := []) (rest := [.int r]) C g M1 S1 mw_X12_breaks mv_X12_breaks kl_1613 (by decide) ⟨Nat.le_of_ble_eq_true rfl, Nat.le_of_ble_eq_true rfl⟩ (lvM0 Nat.zero_lt_one) kM0 zc12 (c_X12_breaks (l := l) (K := K) (ad := adM) e2) rfl hl.1 rfl (Nat.le_of_ble_eq_true rfl) dL_law_907 ⟨by show (_ : Nat) ≤ 600000; omega, by show (_ : Nat) ≤ 7302250; omega⟩ (fun H2 locs2 Z2 S2 F2 => ?_)
  refine lv_icmp_eq (tgt := 1880) C.x C.b dL_law_910 (by decide) (fun _ => ?_) (fun w => absurd rfl w)
  exact W.widen (by omega) (by omega) (kk _ _ _ _ _ (J.fin T4 T5 Z1 Z2 F2 e3) S2)
set_option maxRecDepth 100000 in
set_option maxHeartbeats 4000000 in
theorem k_case21 {p : Program} {l : Launch} {e : Env} {s : State} {m : MethodId} {args : Array Value} {below : List Frame} {meth : Method} {c : Code} {H : Heap} {locs : List Loc} {cells slots : Nat} {Q : State → Prop} {ls : Array Slot} {K : KG} {b N i n : Nat} {xs : Nat → Int32} {mc mm : Mem} {adC adM : Nat → Nat → Nat} (C : Cx p s m args meth c cL_law 4 "GlassPalaceLaw" ret) (g : LG K s) (hX : va_X b N xs s s.heap) (hbl : b < s.heap.size) (hN : N ≤ 3072) (hi : i + 6 ≤ N) (hn : n < 100000) (hc : cells + 1 ≤ 600000) (hsl : slots + 11 ≤ 7302250) (J : JJ K n mc mm adC adM H) (hS : va_S (lA s) s.heap H locs) (hl : lv_has ls 4 [(0, .ref b), (1, .ref (kB K)), (2, .ref (adM 0 0)), (3, .int (nI i))]) (kk : ∀ (mc2 mm2 : Mem) (adC2 : Nat → Nat → Nat) (H2 : Heap) (locs2 : List Loc), JJ K (n + 1) mc2 mm2 adC2 adM H2 → va_S (lA s) s.heap H2 locs2 → W p l e room_1 s m args below meth c H2 locs2 (cells + 1) (slots + 11) Q (F0 m 1880 ls [])) : W p l e room_1 s m args below meth c H locs cells slots Q (F0 m 915 ls []) := by
  obtain ⟨T1, T2, T3⟩ := turnC J.1 J.2.2.1
  have T4 := J.apart
  have T5 := J.home
  obtain ⟨r, mc1, mm1, e1, e2, e3⟩ := pairS (mc := mcT K mc (adT K mc adC H.size)) (mm := mm) (fC := f_X11_rain FL (xs (i + 1)) (xs (i + 2))) (fM := f_X12_rain FL (xs (i + 1)) (xs (i + 2))) (fun v => sim_rain (fl := FL) T2.w98 (xs (i + 1)) (xs (i + 2)))
  refine lv_aload_n C.x C.b dL_law_915 rfl (lv_at hl 1 rfl) ?_
  refine l_arg (k := 1) C hX hbl hS hl hN (by omega) (by decide) dL_law_916 dL_law_917 dL_law_918 dL_law_919 dL_law_920 ?_
  refine l_arg (k := 2) C hX hbl hS hl hN (by omega) (by decide) dL_law_921 dL_law_922 dL_law_923 dL_law_924 dL_law_925 ?_
  refine l_calV (As := [.int (xs (i + 1)), .int (xs (i + 2))]) (rest := []) C g T1 hS mw_X11_rain mv_X11_rain kl_850 (by decide) ⟨Nat.le_of_ble_eq_true rfl, Nat.le_of_ble_eq_true rfl⟩ (lvC0 Nat.zero_lt_one) kC0 zc11 (c_X11_rain (l := l) (K := K) (ad := adT K mc adC H.size) e1) rfl hl.1 (by rw [T5]; rfl) (Nat.le_of_ble_eq_true rfl) dL_law_926 ⟨by show (_ : Nat) ≤ 600000; omega, by show (_ : Nat) ≤ 7302250; omega⟩ (fun H1 locs1 Z1 S1 F1 => ?_)
  have M1 := J.mid T4 Z1 F1
  refine lv_aload_n C.x C.b dL_law_929 rfl (lv_at hl 2 rfl) ?_
  refine l_arg (k := 1) C hX hbl S1 hl hN (by omega) (by decide) dL_law_930 dL_law_931 dL_law_932 dL_law_933 dL_law_934 ?_
  refine l_arg (k := 2) C hX hbl S1 hl hN (by omega) (by decide) dL_law_935 dL_law_936 dL_law_937 dL_law_938 dL_law_939 ?_
  refine l_calV (As := [.int (xs (i + 1)), .int (xs (i + 2))]) (rest := [.int r]) C g M1 S1 mw_X12_rain mv_X12_rain kl_1617 (by decide) ⟨Nat.le_of_ble_eq_true rfl, Nat.le_of_ble_eq_true rfl⟩ (lvM0 Nat.zero_lt_one) kM0 zc12 (c_X12_rain (l := l) (K := K) (ad := adM) e2) rfl hl.1 rfl (Nat.le_of_ble_eq_true rfl) dL_law_940 ⟨by show (_ : Nat) ≤ 600000; omega, by show (_ : Nat) ≤ 7302250; omega⟩ (fun H2 locs2 Z2 S2 F2 => ?_)
  refine lv_icmp_eq (tgt := 1880) C.x C.b dL_law_943 (by decide) (fun _ => ?_) (fun w => absurd rfl w)
  exact W.widen (by omega) (by omega) (kk _ _ _ _ _ (J.fin T4 T5 Z1 Z2 F2 e3) S2)
set_option maxRecDepth 100000 in
set_option maxHeartbeats 4000000 in
theorem k_case22 {p : Program} {l : Launch} {e : Env} {s : State} {m : MethodId} {args : Array Value} {below : List Frame} {meth : Method} {c : Code} {H : Heap} {locs : List Loc} {cells slots : Nat} {Q : State → Prop} {ls : Array Slot} {K : KG} {b N i n : Nat} {xs : Nat → Int32} {mc mm : Mem} {adC adM : Nat → Nat → Nat} (C : Cx p s m args meth c cL_law 4 "GlassPalaceLaw" ret) (g : LG K s) (hX : va_X b N xs s s.heap) (hbl : b < s.heap.size) (hN : N ≤ 3072) (hi : i + 6 ≤ N) (hn : n < 100000) (hc : cells + 1 ≤ 600000) (hsl : slots + 11 ≤ 7302250) (J : JJ K n mc mm adC adM H) (hS : va_S (lA s) s.heap H locs) (hl : lv_has ls 4 [(0, .ref b), (1, .ref (kB K)), (2, .ref (adM 0 0)), (3, .int (nI i))]) (kk : ∀ (mc2 mm2 : Mem) (adC2 : Nat → Nat → Nat) (H2 : Heap) (locs2 : List Loc), JJ K (n + 1) mc2 mm2 adC2 adM H2 → va_S (lA s) s.heap H2 locs2 → W p l e room_1 s m args below meth c H2 locs2 (cells + 1) (slots + 11) Q (F0 m 1880 ls [])) : W p l e room_1 s m args below meth c H locs cells slots Q (F0 m 948 ls []) := by
  obtain ⟨T1, T2, T3⟩ := turnC J.1 J.2.2.1
  have T4 := J.apart
  have T5 := J.home
  obtain ⟨r, mc1, mm1, e1, e2, e3⟩ := pairS (mc := mcT K mc (adT K mc adC H.size)) (mm := mm) (fC := f_X11_leads FL (xs (i + 1)) (xs (i + 2))) (fM := f_X12_leads FL (xs (i + 1)) (xs (i + 2))) (fun v => sim_leads (fl := FL) T2.w98 (xs (i + 1)) (xs (i + 2)))
  refine lv_aload_n C.x C.b dL_law_948 rfl (lv_at hl 1 rfl) ?_
  refine l_arg (k := 1) C hX hbl hS hl hN (by omega) (by decide) dL_law_949 dL_law_950 dL_law_951 dL_law_952 dL_law_953 ?_
  refine l_arg (k := 2) C hX hbl hS hl hN (by omega) (by decide) dL_law_954 dL_law_955 dL_law_956 dL_law_957 dL_law_958 ?_
  refine l_calV (As := [.int (xs (i + 1)), .int (xs (i + 2))]) (rest := []) C g T1 hS mw_X11_leads mv_X11_leads kl_857 (by decide) ⟨Nat.le_of_ble_eq_true rfl, Nat.le_of_ble_eq_true rfl⟩ (lvC0 Nat.zero_lt_one) kC0 zc11 (c_X11_leads (l := l) (K := K) (ad := adT K mc adC H.size) e1) rfl hl.1 (by rw [T5]; rfl) (Nat.le_of_ble_eq_true rfl) dL_law_959 ⟨by show (_ : Nat) ≤ 600000; omega, by show (_ : Nat) ≤ 7302250; omega⟩ (fun H1 locs1 Z1 S1 F1 => ?_)
  have M1 := J.mid T4 Z1 F1
  refine lv_aload_n C.x C.b dL_law_962 rfl (lv_at hl 2 rfl) ?_
  refine l_arg (k := 1) C hX hbl S1 hl hN (by omega) (by decide) dL_law_963 dL_law_964 dL_law_965 dL_law_966 dL_law_967 ?_
  refine l_arg (k := 2) C hX hbl S1 hl hN (by omega) (by decide) dL_law_968 dL_law_969 dL_law_970 dL_law_971 dL_law_972 ?_
  refine l_calV (As := [.int (xs (i + 1)), .int (xs (i + 2))]) (rest := [.int r]) C g M1 S1 mw_X12_leads mv_X12_leads kl_1621 (by decide) ⟨Nat.le_of_ble_eq_true rfl, Nat.le_of_ble_eq_true rfl⟩ (lvM0 Nat.zero_lt_one) kM0 zc12 (c_X12_leads (l := l) (K := K) (ad := adM) e2) rfl hl.1 rfl (Nat.le_of_ble_eq_true rfl) dL_law_973 ⟨by show (_ : Nat) ≤ 600000; omega, by show (_ : Nat) ≤ 7302250; omega⟩ (fun H2 locs2 Z2 S2 F2 => ?_)
  refine lv_icmp_eq (tgt := 1880) C.x C.b dL_law_976 (by decide) (fun _ => ?_) (fun w => absurd rfl w)
  exact W.widen (by omega) (by omega) (kk _ _ _ _ _ (J.fin T4 T5 Z1 Z2 F2 e3) S2)
set_option maxRecDepth 100000 in
set_option maxHeartbeats 4000000 in
theorem k_case23 {p : Program} {l : Launch} {e : Env} {s : State} {m : MethodId} {args : Array Value} {below : List Frame} {meth : Method} {c : Code} {H : Heap} {locs : List Loc} {cells slots : Nat} {Q : State → Prop} {ls : Array Slot} {K : KG} {b N i n : Nat} {xs : Nat → Int32} {mc mm : Mem} {adC adM : Nat → Nat → Nat} (C : Cx p s m args meth c cL_law 4 "GlassPalaceLaw" ret) (g : LG K s) (hX : va_X b N xs s s.heap) (hbl : b < s.heap.size) (hN : N ≤ 3072) (hi : i + 6 ≤ N) (hn : n < 100000) (hc : cells + 1 ≤ 600000) (hsl : slots + 11 ≤ 7302250) (J : JJ K n mc mm adC adM H) (hS : va_S (lA s) s.heap H locs) (hl : lv_has ls 4 [(0, .ref b), (1, .ref (kB K)), (2, .ref (adM 0 0)), (3, .int (nI i))]) (kk : ∀ (mc2 mm2 : Mem) (adC2 : Nat → Nat → Nat) (H2 : Heap) (locs2 : List Loc), JJ K (n + 1) mc2 mm2 adC2 adM H2 → va_S (lA s) s.heap H2 locs2 → W p l e room_1 s m args below meth c H2 locs2 (cells + 1) (slots + 11) Q (F0 m 1880 ls [])) : W p l e room_1 s m args below meth c H locs cells slots Q (F0 m 981 ls []) := by
  obtain ⟨T1, T2, T3⟩ := turnC J.1 J.2.2.1
  have T4 := J.apart
  have T5 := J.home
  obtain ⟨r, mc1, mm1, e1, e2, e3⟩ := pairS (mc := mcT K mc (adT K mc adC H.size)) (mm := mm) (fC := f_X11_stands FL (xs (i + 1)) (xs (i + 2))) (fM := f_X12_stands FL (xs (i + 1)) (xs (i + 2))) (fun v => sim_stands (fl := FL) FL_ge T2.w98 (xs (i + 1)) (xs (i + 2)))
  refine lv_aload_n C.x C.b dL_law_981 rfl (lv_at hl 1 rfl) ?_
  refine l_arg (k := 1) C hX hbl hS hl hN (by omega) (by decide) dL_law_982 dL_law_983 dL_law_984 dL_law_985 dL_law_986 ?_
  refine l_arg (k := 2) C hX hbl hS hl hN (by omega) (by decide) dL_law_987 dL_law_988 dL_law_989 dL_law_990 dL_law_991 ?_
  refine l_calV (As := [.int (xs (i + 1)), .int (xs (i + 2))]) (rest := []) C g T1 hS mw_X11_stands mv_X11_stands kl_867 (by decide) ⟨Nat.le_of_ble_eq_true rfl, Nat.le_of_ble_eq_true rfl⟩ (lvC0 Nat.zero_lt_one) kC0 zc11 (c_X11_stands (l := l) (K := K) (ad := adT K mc adC H.size) e1) rfl hl.1 (by rw [T5]; rfl) (Nat.le_of_ble_eq_true rfl) dL_law_992 ⟨by show (_ : Nat) ≤ 600000; omega, by show (_ : Nat) ≤ 7302250; omega⟩ (fun H1 locs1 Z1 S1 F1 => ?_)
  have M1 := J.mid T4 Z1 F1
  refine lv_aload_n C.x C.b dL_law_995 rfl (lv_at hl 2 rfl) ?_
  refine l_arg (k := 1) C hX hbl S1 hl hN (by omega) (by decide) dL_law_996 dL_law_997 dL_law_998 dL_law_999 dL_law_1000 ?_
  refine l_arg (k := 2) C hX hbl S1 hl hN (by omega) (by decide) dL_law_1001 dL_law_1002 dL_law_1003 dL_law_1004 dL_law_1005 ?_
  refine l_calV (As := [.int (xs (i + 1)), .int (xs (i + 2))]) (rest := [.int r]) C g M1 S1 mw_X12_stands mv_X12_stands kl_1633 (by decide) ⟨Nat.le_of_ble_eq_true rfl, Nat.le_of_ble_eq_true rfl⟩ (lvM0 Nat.zero_lt_one) kM0 zc12 (c_X12_stands (l := l) (K := K) (ad := adM) e2) rfl hl.1 rfl (Nat.le_of_ble_eq_true rfl) dL_law_1006 ⟨by show (_ : Nat) ≤ 600000; omega, by show (_ : Nat) ≤ 7302250; omega⟩ (fun H2 locs2 Z2 S2 F2 => ?_)
  refine lv_icmp_eq (tgt := 1880) C.x C.b dL_law_1009 (by decide) (fun _ => ?_) (fun w => absurd rfl w)
  exact W.widen (by omega) (by omega) (kk _ _ _ _ _ (J.fin T4 T5 Z1 Z2 F2 e3) S2)
