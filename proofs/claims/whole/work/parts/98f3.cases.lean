set_option maxRecDepth 100000 in
set_option maxHeartbeats 4000000 in
theorem k_case36 {p : Program} {l : Launch} {e : Env} {s : State} {m : MethodId} {args : Array Value} {below : List Frame} {meth : Method} {c : Code} {H : Heap} {locs : List Loc} {cells slots : Nat} {Q : State → Prop} {ls : Array Slot} {K : KG} {b N i n : Nat} {xs : Nat → Int32} {mc mm : Mem} {adC adM : Nat → Nat → Nat} (C : Cx p s m args meth c cL_law 4 "GlassPalaceLaw" ret) (g : LG K s) (hX : va_X b N xs s s.heap) (hbl : b < s.heap.size) (hN : N ≤ 3072) (hi : i + 6 ≤ N) (hn : n < 100000) (hc : cells + 1 ≤ 600000) (hsl : slots + 11 ≤ 7302250) (J : JJ K n mc mm adC adM H) (hS : va_S (lA s) s.heap H locs) (hl : lv_has ls 4 [(0, .ref b), (1, .ref (kB K)), (2, .ref (adM 0 0)), (3, .int (nI i))]) (kk : ∀ (mc2 mm2 : Mem) (adC2 : Nat → Nat → Nat) (H2 : Heap) (locs2 : List Loc), JJ K (n + 1) mc2 mm2 adC2 adM H2 → va_S (lA s) s.heap H2 locs2 → W p l e room_1 s m args below meth c H2 locs2 (cells + 1) (slots + 11) Q (F0 m 1880 ls [])) : W p l e room_1 s m args below meth c H locs cells slots Q (F0 m 1452 ls []) := by
  obtain ⟨T1, T2, T3⟩ := turnC J.1 J.2.2.1
  have T4 := J.apart
  have T5 := J.home
  by_cases hz : xs (i + 2) = 0
  · obtain ⟨r, mc1, mm1, e1, e2, e3⟩ := pairS (mc := mcT K mc (adT K mc adC H.size)) (mm := mm) (fC := f_X11_known FL (xs (i + 1)) 0) (fM := f_X12_known FL (xs (i + 1)) 0) (fun v => sim_known (fl := FL) FL_ge T2.w98 (xs (i + 1)) 0)
    refine lv_aload_n C.x C.b dL_law_1452 rfl (lv_at hl 1 rfl) ?_
    refine l_arg (k := 1) C hX hbl hS hl hN (by omega) (by decide) dL_law_1453 dL_law_1454 dL_law_1455 dL_law_1456 dL_law_1457 ?_
    refine l_arg (k := 2) C hX hbl hS hl hN (by omega) (by decide) dL_law_1458 dL_law_1459 dL_law_1460 dL_law_1461 dL_law_1462 ?_
    refine lv_if_eq (tgt := 1470) C.x C.b dL_law_1463 (by decide) (fun _ => ?_) (fun w => absurd hz w)
    refine lv_iconst (v := 0) C.x C.b dL_law_1470 (by decide) ?_
    refine l_calV (As := [.int (xs (i + 1)), .int 0]) (rest := []) C g T1 hS mw_X11_known mv_X11_known kl_1052 (by decide) ⟨Nat.le_of_ble_eq_true rfl, Nat.le_of_ble_eq_true rfl⟩ (lvC0 Nat.zero_lt_one) kC0 zc11 (c_X11_known (l := l) (K := K) (ad := adT K mc adC H.size) e1) rfl hl.1 (by rw [T5]; rfl) (Nat.le_of_ble_eq_true rfl) dL_law_1471 ⟨by show (_ : Nat) ≤ 600000; omega, by show (_ : Nat) ≤ 7302250; omega⟩ (fun H1 locs1 Z1 S1 F1 => ?_)
    have M1 := J.mid T4 Z1 F1
    refine lv_aload_n C.x C.b dL_law_1474 rfl (lv_at hl 2 rfl) ?_
    refine l_arg (k := 1) C hX hbl S1 hl hN (by omega) (by decide) dL_law_1475 dL_law_1476 dL_law_1477 dL_law_1478 dL_law_1479 ?_
    refine l_arg (k := 2) C hX hbl S1 hl hN (by omega) (by decide) dL_law_1480 dL_law_1481 dL_law_1482 dL_law_1483 dL_law_1484 ?_
    refine lv_if_eq (tgt := 1492) C.x C.b dL_law_1485 (by decide) (fun _ => ?_) (fun w => absurd hz w)
    refine lv_iconst (v := 0) C.x C.b dL_law_1492 (by decide) ?_
    refine l_calV (As := [.int (xs (i + 1)), .int 0]) (rest := [.int r]) C g M1 S1 mw_X12_known mv_X12_known kl_1725 (by decide) ⟨Nat.le_of_ble_eq_true rfl, Nat.le_of_ble_eq_true rfl⟩ (lvM0 Nat.zero_lt_one) kM0 zc12 (c_X12_known (l := l) (K := K) (ad := adM) e2) rfl hl.1 rfl (Nat.le_of_ble_eq_true rfl) dL_law_1493 ⟨by show (_ : Nat) ≤ 600000; omega, by show (_ : Nat) ≤ 7302250; omega⟩ (fun H2 locs2 Z2 S2 F2 => ?_)
    refine lv_icmp_eq (tgt := 1880) C.x C.b dL_law_1496 (by decide) (fun _ => ?_) (fun w => absurd rfl w)
    exact W.widen (by omega) (by omega) (kk _ _ _ _ _ (J.fin T4 T5 Z1 Z2 F2 e3) S2)
  · obtain ⟨r, mc1, mm1, e1, e2, e3⟩ := pairS (mc := mcT K mc (adT K mc adC H.size)) (mm := mm) (fC := f_X11_known FL (xs (i + 1)) 1) (fM := f_X12_known FL (xs (i + 1)) 1) (fun v => sim_known (fl := FL) FL_ge T2.w98 (xs (i + 1)) 1)
    refine lv_aload_n C.x C.b dL_law_1452 rfl (lv_at hl 1 rfl) ?_
    refine l_arg (k := 1) C hX hbl hS hl hN (by omega) (by decide) dL_law_1453 dL_law_1454 dL_law_1455 dL_law_1456 dL_law_1457 ?_
    refine l_arg (k := 2) C hX hbl hS hl hN (by omega) (by decide) dL_law_1458 dL_law_1459 dL_law_1460 dL_law_1461 dL_law_1462 ?_
    refine lv_if_eq (tgt := 1470) C.x C.b dL_law_1463 (by decide) (fun w => absurd w hz) (fun _ => ?_)
    refine lv_iconst (v := 1) C.x C.b dL_law_1466 (by decide) ?_
    refine lv_goto (tgt := 1471) C.x C.b dL_law_1467 (by decide) ?_
    refine l_calV (As := [.int (xs (i + 1)), .int 1]) (rest := []) C g T1 hS mw_X11_known mv_X11_known kl_1052 (by decide) ⟨Nat.le_of_ble_eq_true rfl, Nat.le_of_ble_eq_true rfl⟩ (lvC0 Nat.zero_lt_one) kC0 zc11 (c_X11_known (l := l) (K := K) (ad := adT K mc adC H.size) e1) rfl hl.1 (by rw [T5]; rfl) (Nat.le_of_ble_eq_true rfl) dL_law_1471 ⟨by show (_ : Nat) ≤ 600000; omega, by show (_ : Nat) ≤ 7302250; omega⟩ (fun H1 locs1 Z1 S1 F1 => ?_)
    have M1 := J.mid T4 Z1 F1
    refine lv_aload_n C.x C.b dL_law_1474 rfl (lv_at hl 2 rfl) ?_
    refine l_arg (k := 1) C hX hbl S1 hl hN (by omega) (by decide) dL_law_1475 dL_law_1476 dL_law_1477 dL_law_1478 dL_law_1479 ?_
    refine l_arg (k := 2) C hX hbl S1 hl hN (by omega) (by decide) dL_law_1480 dL_law_1481 dL_law_1482 dL_law_1483 dL_law_1484 ?_
    refine lv_if_eq (tgt := 1492) C.x C.b dL_law_1485 (by decide) (fun w => absurd w hz) (fun _ => ?_)
    refine lv_iconst (v := 1) C.x C.b dL_law_1488 (by decide) ?_
    refine lv_goto (tgt := 1493) C.x C.b dL_law_1489 (by decide) ?_
    refine l_calV (As := [.int (xs (i + 1)), .int 1]) (rest := [.int r]) C g M1 S1 mw_X12_known mv_X12_known kl_1725 (by decide) ⟨Nat.le_of_ble_eq_true rfl, Nat.le_of_ble_eq_true rfl⟩ (lvM0 Nat.zero_lt_one) kM0 zc12 (c_X12_known (l := l) (K := K) (ad := adM) e2) rfl hl.1 rfl (Nat.le_of_ble_eq_true rfl) dL_law_1493 ⟨by show (_ : Nat) ≤ 600000; omega, by show (_ : Nat) ≤ 7302250; omega⟩ (fun H2 locs2 Z2 S2 F2 => ?_)
    refine lv_icmp_eq (tgt := 1880) C.x C.b dL_law_1496 (by decide) (fun _ => ?_) (fun w => absurd rfl w)
    exact W.widen (by omega) (by omega) (kk _ _ _ _ _ (J.fin T4 T5 Z1 Z2 F2 e3) S2)
set_option maxRecDepth 100000 in
set_option maxHeartbeats 4000000 in
theorem k_case37 {p : Program} {l : Launch} {e : Env} {s : State} {m : MethodId} {args : Array Value} {below : List Frame} {meth : Method} {c : Code} {H : Heap} {locs : List Loc} {cells slots : Nat} {Q : State → Prop} {ls : Array Slot} {K : KG} {b N i n : Nat} {xs : Nat → Int32} {mc mm : Mem} {adC adM : Nat → Nat → Nat} (C : Cx p s m args meth c cL_law 4 "GlassPalaceLaw" ret) (g : LG K s) (hX : va_X b N xs s s.heap) (hbl : b < s.heap.size) (hN : N ≤ 3072) (hi : i + 6 ≤ N) (hn : n < 100000) (hc : cells + 1 ≤ 600000) (hsl : slots + 11 ≤ 7302250) (J : JJ K n mc mm adC adM H) (hS : va_S (lA s) s.heap H locs) (hl : lv_has ls 4 [(0, .ref b), (1, .ref (kB K)), (2, .ref (adM 0 0)), (3, .int (nI i))]) (kk : ∀ (mc2 mm2 : Mem) (adC2 : Nat → Nat → Nat) (H2 : Heap) (locs2 : List Loc), JJ K (n + 1) mc2 mm2 adC2 adM H2 → va_S (lA s) s.heap H2 locs2 → W p l e room_1 s m args below meth c H2 locs2 (cells + 1) (slots + 11) Q (F0 m 1880 ls [])) : W p l e room_1 s m args below meth c H locs cells slots Q (F0 m 1501 ls []) := by
  obtain ⟨T1, T2, T3⟩ := turnC J.1 J.2.2.1
  have T4 := J.apart
  have T5 := J.home
  obtain ⟨r, mc1, mm1, e1, e2, e3⟩ := pairS (mc := mcT K mc (adT K mc adC H.size)) (mm := mm) (fC := f_X11_act FL (xs (i + 1)) (xs (i + 2)) (xs (i + 3))) (fM := f_X12_act FL (xs (i + 1)) (xs (i + 2)) (xs (i + 3))) (fun v => sim_act (fl := FL) T2.w98 (xs (i + 1)) (xs (i + 2)) (xs (i + 3)))
  refine lv_aload_n C.x C.b dL_law_1501 rfl (lv_at hl 1 rfl) ?_
  refine l_arg (k := 1) C hX hbl hS hl hN (by omega) (by decide) dL_law_1502 dL_law_1503 dL_law_1504 dL_law_1505 dL_law_1506 ?_
  refine l_arg (k := 2) C hX hbl hS hl hN (by omega) (by decide) dL_law_1507 dL_law_1508 dL_law_1509 dL_law_1510 dL_law_1511 ?_
  refine l_arg (k := 3) C hX hbl hS hl hN (by omega) (by decide) dL_law_1512 dL_law_1513 dL_law_1514 dL_law_1515 dL_law_1516 ?_
  refine l_calV (As := [.int (xs (i + 1)), .int (xs (i + 2)), .int (xs (i + 3))]) (rest := []) C g T1 hS mw_X11_act mv_X11_act kl_1056 (by decide) ⟨Nat.le_of_ble_eq_true rfl, Nat.le_of_ble_eq_true rfl⟩ (lvC0 Nat.zero_lt_one) kC0 zc11 (c_X11_act (l := l) (K := K) (ad := adT K mc adC H.size) e1) rfl hl.1 (by rw [T5]; rfl) (Nat.le_of_ble_eq_true rfl) dL_law_1517 ⟨by show (_ : Nat) ≤ 600000; omega, by show (_ : Nat) ≤ 7302250; omega⟩ (fun H1 locs1 Z1 S1 F1 => ?_)
  have M1 := J.mid T4 Z1 F1
  refine lv_aload_n C.x C.b dL_law_1520 rfl (lv_at hl 2 rfl) ?_
  refine l_arg (k := 1) C hX hbl S1 hl hN (by omega) (by decide) dL_law_1521 dL_law_1522 dL_law_1523 dL_law_1524 dL_law_1525 ?_
  refine l_arg (k := 2) C hX hbl S1 hl hN (by omega) (by decide) dL_law_1526 dL_law_1527 dL_law_1528 dL_law_1529 dL_law_1530 ?_
  refine l_arg (k := 3) C hX hbl S1 hl hN (by omega) (by decide) dL_law_1531 dL_law_1532 dL_law_1533 dL_law_1534 dL_law_1535 ?_
  refine l_calV (As := [.int (xs (i + 1)), .int (xs (i + 2)), .int (xs (i + 3))]) (rest := [.int r]) C g M1 S1 mw_X12_act mv_X12_act kl_1729 (by decide) ⟨Nat.le_of_ble_eq_true rfl, Nat.le_of_ble_eq_true rfl⟩ (lvM0 Nat.zero_lt_one) kM0 zc12 (c_X12_act (l := l) (K := K) (ad := adM) e2) rfl hl.1 rfl (Nat.le_of_ble_eq_true rfl) dL_law_1536 ⟨by show (_ : Nat) ≤ 600000; omega, by show (_ : Nat) ≤ 7302250; omega⟩ (fun H2 locs2 Z2 S2 F2 => ?_)
  refine lv_icmp_eq (tgt := 1880) C.x C.b dL_law_1539 (by decide) (fun _ => ?_) (fun w => absurd rfl w)
  exact W.widen (by omega) (by omega) (kk _ _ _ _ _ (J.fin T4 T5 Z1 Z2 F2 e3) S2)
set_option maxRecDepth 100000 in
set_option maxHeartbeats 4000000 in
theorem k_case38 {p : Program} {l : Launch} {e : Env} {s : State} {m : MethodId} {args : Array Value} {below : List Frame} {meth : Method} {c : Code} {H : Heap} {locs : List Loc} {cells slots : Nat} {Q : State → Prop} {ls : Array Slot} {K : KG} {b N i n : Nat} {xs : Nat → Int32} {mc mm : Mem} {adC adM : Nat → Nat → Nat} (C : Cx p s m args meth c cL_law 4 "GlassPalaceLaw" ret) (g : LG K s) (hX : va_X b N xs s s.heap) (hbl : b < s.heap.size) (hN : N ≤ 3072) (hi : i + 6 ≤ N) (hn : n < 100000) (hc : cells + 1 ≤ 600000) (hsl : slots + 11 ≤ 7302250) (J : JJ K n mc mm adC adM H) (hS : va_S (lA s) s.heap H locs) (hl : lv_has ls 4 [(0, .ref b), (1, .ref (kB K)), (2, .ref (adM 0 0)), (3, .int (nI i))]) (kk : ∀ (mc2 mm2 : Mem) (adC2 : Nat → Nat → Nat) (H2 : Heap) (locs2 : List Loc), JJ K (n + 1) mc2 mm2 adC2 adM H2 → va_S (lA s) s.heap H2 locs2 → W p l e room_1 s m args below meth c H2 locs2 (cells + 1) (slots + 11) Q (F0 m 1880 ls [])) : W p l e room_1 s m args below meth c H locs cells slots Q (F0 m 1544 ls []) := by
  obtain ⟨T1, T2, T3⟩ := turnC J.1 J.2.2.1
  have T4 := J.apart
  have T5 := J.home
  obtain ⟨r, mc1, mm1, e1, e2, e3⟩ := pairS (mc := mcT K mc (adT K mc adC H.size)) (mm := mm) (fC := f_X11_trace FL (xs (i + 1))) (fM := f_X12_trace FL (xs (i + 1))) (fun v => sim_trace (fl := FL) T2.w98 (xs (i + 1)))
  refine lv_aload_n C.x C.b dL_law_1544 rfl (lv_at hl 1 rfl) ?_
  refine l_arg (k := 1) C hX hbl hS hl hN (by omega) (by decide) dL_law_1545 dL_law_1546 dL_law_1547 dL_law_1548 dL_law_1549 ?_
  refine l_calV (As := [.int (xs (i + 1))]) (rest := []) C g T1 hS mw_X11_trace mv_X11_trace kl_1080 (by decide) ⟨Nat.le_of_ble_eq_true rfl, Nat.le_of_ble_eq_true rfl⟩ (lvC0 Nat.zero_lt_one) kC0 zc11 (c_X11_trace (l := l) (K := K) (ad := adT K mc adC H.size) e1) rfl hl.1 (by rw [T5]; rfl) (Nat.le_of_ble_eq_true rfl) dL_law_1550 ⟨by show (_ : Nat) ≤ 600000; omega, by show (_ : Nat) ≤ 7302250; omega⟩ (fun H1 locs1 Z1 S1 F1 => ?_)
  have M1 := J.mid T4 Z1 F1
  refine lv_aload_n C.x C.b dL_law_1553 rfl (lv_at hl 2 rfl) ?_
  refine l_arg (k := 1) C hX hbl S1 hl hN (by omega) (by decide) dL_law_1554 dL_law_1555 dL_law_1556 dL_law_1557 dL_law_1558 ?_
  refine l_calV (As := [.int (xs (i + 1))]) (rest := [.int r]) C g M1 S1 mw_X12_trace mv_X12_trace kl_1765 (by decide) ⟨Nat.le_of_ble_eq_true rfl, Nat.le_of_ble_eq_true rfl⟩ (lvM0 Nat.zero_lt_one) kM0 zc12 (c_X12_trace (l := l) (K := K) (ad := adM) e2) rfl hl.1 rfl (Nat.le_of_ble_eq_true rfl) dL_law_1559 ⟨by show (_ : Nat) ≤ 600000; omega, by show (_ : Nat) ≤ 7302250; omega⟩ (fun H2 locs2 Z2 S2 F2 => ?_)
  refine lv_icmp_eq (tgt := 1880) C.x C.b dL_law_1562 (by decide) (fun _ => ?_) (fun w => absurd rfl w)
  exact W.widen (by omega) (by omega) (kk _ _ _ _ _ (J.fin T4 T5 Z1 Z2 F2 e3) S2)
set_option maxRecDepth 100000 in
set_option maxHeartbeats 4000000 in
theorem k_case39 {p : Program} {l : Launch} {e : Env} {s : State} {m : MethodId} {args : Array Value} {below : List Frame} {meth : Method} {c : Code} {H : Heap} {locs : List Loc} {cells slots : Nat} {Q : State → Prop} {ls : Array Slot} {K : KG} {b N i n : Nat} {xs : Nat → Int32} {mc mm : Mem} {adC adM : Nat → Nat → Nat} (C : Cx p s m args meth c cL_law 4 "GlassPalaceLaw" ret) (g : LG K s) (hX : va_X b N xs s s.heap) (hbl : b < s.heap.size) (hN : N ≤ 3072) (hi : i + 6 ≤ N) (hn : n < 100000) (hc : cells + 1 ≤ 600000) (hsl : slots + 11 ≤ 7302250) (J : JJ K n mc mm adC adM H) (hS : va_S (lA s) s.heap H locs) (hl : lv_has ls 4 [(0, .ref b), (1, .ref (kB K)), (2, .ref (adM 0 0)), (3, .int (nI i))]) (kk : ∀ (mc2 mm2 : Mem) (adC2 : Nat → Nat → Nat) (H2 : Heap) (locs2 : List Loc), JJ K (n + 1) mc2 mm2 adC2 adM H2 → va_S (lA s) s.heap H2 locs2 → W p l e room_1 s m args below meth c H2 locs2 (cells + 1) (slots + 11) Q (F0 m 1880 ls [])) : W p l e room_1 s m args below meth c H locs cells slots Q (F0 m 1567 ls []) := by
  obtain ⟨T1, T2, T3⟩ := turnC J.1 J.2.2.1
  have T4 := J.apart
  have T5 := J.home
  obtain ⟨r, mc1, mm1, e1, e2, e3⟩ := pairS (mc := mcT K mc (adT K mc adC H.size)) (mm := mm) (fC := f_X11_taken FL (xs (i + 1)) (xs (i + 2))) (fM := f_X12_taken FL (xs (i + 1)) (xs (i + 2))) (fun v => sim_taken (fl := FL) T2.w98 (xs (i + 1)) (xs (i + 2)))
  refine lv_aload_n C.x C.b dL_law_1567 rfl (lv_at hl 1 rfl) ?_
  refine l_arg (k := 1) C hX hbl hS hl hN (by omega) (by decide) dL_law_1568 dL_law_1569 dL_law_1570 dL_law_1571 dL_law_1572 ?_
  refine l_arg (k := 2) C hX hbl hS hl hN (by omega) (by decide) dL_law_1573 dL_law_1574 dL_law_1575 dL_law_1576 dL_law_1577 ?_
  refine l_calV (As := [.int (xs (i + 1)), .int (xs (i + 2))]) (rest := []) C g T1 hS mw_X11_taken mv_X11_taken kl_1088 (by decide) ⟨Nat.le_of_ble_eq_true rfl, Nat.le_of_ble_eq_true rfl⟩ (lvC0 Nat.zero_lt_one) kC0 zc11 (c_X11_taken (l := l) (K := K) (ad := adT K mc adC H.size) e1) rfl hl.1 (by rw [T5]; rfl) (Nat.le_of_ble_eq_true rfl) dL_law_1578 ⟨by show (_ : Nat) ≤ 600000; omega, by show (_ : Nat) ≤ 7302250; omega⟩ (fun H1 locs1 Z1 S1 F1 => ?_)
  have M1 := J.mid T4 Z1 F1
  refine lv_aload_n C.x C.b dL_law_1581 rfl (lv_at hl 2 rfl) ?_
  refine l_arg (k := 1) C hX hbl S1 hl hN (by omega) (by decide) dL_law_1582 dL_law_1583 dL_law_1584 dL_law_1585 dL_law_1586 ?_
  refine l_arg (k := 2) C hX hbl S1 hl hN (by omega) (by decide) dL_law_1587 dL_law_1588 dL_law_1589 dL_law_1590 dL_law_1591 ?_
  refine l_calV (As := [.int (xs (i + 1)), .int (xs (i + 2))]) (rest := [.int r]) C g M1 S1 mw_X12_taken mv_X12_taken kl_1769 (by decide) ⟨Nat.le_of_ble_eq_true rfl, Nat.le_of_ble_eq_true rfl⟩ (lvM0 Nat.zero_lt_one) kM0 zc12 (c_X12_taken (l := l) (K := K) (ad := adM) e2) rfl hl.1 rfl (Nat.le_of_ble_eq_true rfl) dL_law_1592 ⟨by show (_ : Nat) ≤ 600000; omega, by show (_ : Nat) ≤ 7302250; omega⟩ (fun H2 locs2 Z2 S2 F2 => ?_)
  refine lv_icmp_eq (tgt := 1880) C.x C.b dL_law_1595 (by decide) (fun _ => ?_) (fun w => absurd rfl w)
  exact W.widen (by omega) (by omega) (kk _ _ _ _ _ (J.fin T4 T5 Z1 Z2 F2 e3) S2)
set_option maxRecDepth 100000 in
set_option maxHeartbeats 4000000 in
theorem k_case40 {p : Program} {l : Launch} {e : Env} {s : State} {m : MethodId} {args : Array Value} {below : List Frame} {meth : Method} {c : Code} {H : Heap} {locs : List Loc} {cells slots : Nat} {Q : State → Prop} {ls : Array Slot} {K : KG} {b N i n : Nat} {xs : Nat → Int32} {mc mm : Mem} {adC adM : Nat → Nat → Nat} (C : Cx p s m args meth c cL_law 4 "GlassPalaceLaw" ret) (g : LG K s) (hX : va_X b N xs s s.heap) (hbl : b < s.heap.size) (hN : N ≤ 3072) (hi : i + 6 ≤ N) (hn : n < 100000) (hc : cells + 1 ≤ 600000) (hsl : slots + 11 ≤ 7302250) (J : JJ K n mc mm adC adM H) (hS : va_S (lA s) s.heap H locs) (hl : lv_has ls 4 [(0, .ref b), (1, .ref (kB K)), (2, .ref (adM 0 0)), (3, .int (nI i))]) (kk : ∀ (mc2 mm2 : Mem) (adC2 : Nat → Nat → Nat) (H2 : Heap) (locs2 : List Loc), JJ K (n + 1) mc2 mm2 adC2 adM H2 → va_S (lA s) s.heap H2 locs2 → W p l e room_1 s m args below meth c H2 locs2 (cells + 1) (slots + 11) Q (F0 m 1880 ls [])) : W p l e room_1 s m args below meth c H locs cells slots Q (F0 m 1600 ls []) := by
  obtain ⟨T1, T2, T3⟩ := turnC J.1 J.2.2.1
  have T4 := J.apart
  have T5 := J.home
  obtain ⟨r, mc1, mm1, e1, e2, e3⟩ := pairS (mc := mcT K mc (adT K mc adC H.size)) (mm := mm) (fC := f_X11_list FL (xs (i + 1)) (xs (i + 2)) (xs (i + 3))) (fM := f_X12_list FL (xs (i + 1)) (xs (i + 2)) (xs (i + 3))) (fun v => sim_list (fl := FL) FL_ge T2.w98 (xs (i + 1)) (xs (i + 2)) (xs (i + 3)))
  refine lv_aload_n C.x C.b dL_law_1600 rfl (lv_at hl 1 rfl) ?_
  refine l_arg (k := 1) C hX hbl hS hl hN (by omega) (by decide) dL_law_1601 dL_law_1602 dL_law_1603 dL_law_1604 dL_law_1605 ?_
  refine l_arg (k := 2) C hX hbl hS hl hN (by omega) (by decide) dL_law_1606 dL_law_1607 dL_law_1608 dL_law_1609 dL_law_1610 ?_
  refine l_arg (k := 3) C hX hbl hS hl hN (by omega) (by decide) dL_law_1611 dL_law_1612 dL_law_1613 dL_law_1614 dL_law_1615 ?_
  refine l_calV (As := [.int (xs (i + 1)), .int (xs (i + 2)), .int (xs (i + 3))]) (rest := []) C g T1 hS mw_X11_list mv_X11_list kl_1096 (by decide) ⟨Nat.le_of_ble_eq_true rfl, Nat.le_of_ble_eq_true rfl⟩ (lvC0 Nat.zero_lt_one) kC0 zc11 (c_X11_list (l := l) (K := K) (ad := adT K mc adC H.size) e1) rfl hl.1 (by rw [T5]; rfl) (Nat.le_of_ble_eq_true rfl) dL_law_1616 ⟨by show (_ : Nat) ≤ 600000; omega, by show (_ : Nat) ≤ 7302250; omega⟩ (fun H1 locs1 Z1 S1 F1 => ?_)
  have M1 := J.mid T4 Z1 F1
  refine lv_aload_n C.x C.b dL_law_1619 rfl (lv_at hl 2 rfl) ?_
  refine l_arg (k := 1) C hX hbl S1 hl hN (by omega) (by decide) dL_law_1620 dL_law_1621 dL_law_1622 dL_law_1623 dL_law_1624 ?_
  refine l_arg (k := 2) C hX hbl S1 hl hN (by omega) (by decide) dL_law_1625 dL_law_1626 dL_law_1627 dL_law_1628 dL_law_1629 ?_
  refine l_arg (k := 3) C hX hbl S1 hl hN (by omega) (by decide) dL_law_1630 dL_law_1631 dL_law_1632 dL_law_1633 dL_law_1634 ?_
  refine l_calV (As := [.int (xs (i + 1)), .int (xs (i + 2)), .int (xs (i + 3))]) (rest := [.long r]) C g M1 S1 mw_X12_list mv_X12_list kl_1781 (by decide) ⟨Nat.le_of_ble_eq_true rfl, Nat.le_of_ble_eq_true rfl⟩ (lvM0 Nat.zero_lt_one) kM0 zc12 (c_X12_list (l := l) (K := K) (ad := adM) e2) rfl hl.1 rfl (Nat.le_of_ble_eq_true rfl) dL_law_1635 ⟨by show (_ : Nat) ≤ 600000; omega, by show (_ : Nat) ≤ 7302250; omega⟩ (fun H2 locs2 Z2 S2 F2 => ?_)
  refine W.lcmp C.x C.b dL_law_1638 ?_
  have el : lg_cmp r r = 0 := by unfold lg_cmp; simp
  rw [el]
  refine lv_if_eq (tgt := 1880) C.x C.b dL_law_1639 (by decide) (fun _ => ?_) (fun w => absurd rfl w)
  exact W.widen (by omega) (by omega) (kk _ _ _ _ _ (J.fin T4 T5 Z1 Z2 F2 e3) S2)
set_option maxRecDepth 100000 in
set_option maxHeartbeats 4000000 in
theorem k_case41 {p : Program} {l : Launch} {e : Env} {s : State} {m : MethodId} {args : Array Value} {below : List Frame} {meth : Method} {c : Code} {H : Heap} {locs : List Loc} {cells slots : Nat} {Q : State → Prop} {ls : Array Slot} {K : KG} {b N i n : Nat} {xs : Nat → Int32} {mc mm : Mem} {adC adM : Nat → Nat → Nat} (C : Cx p s m args meth c cL_law 4 "GlassPalaceLaw" ret) (g : LG K s) (hX : va_X b N xs s s.heap) (hbl : b < s.heap.size) (hN : N ≤ 3072) (hi : i + 6 ≤ N) (hn : n < 100000) (hc : cells + 1 ≤ 600000) (hsl : slots + 11 ≤ 7302250) (J : JJ K n mc mm adC adM H) (hS : va_S (lA s) s.heap H locs) (hl : lv_has ls 4 [(0, .ref b), (1, .ref (kB K)), (2, .ref (adM 0 0)), (3, .int (nI i))]) (kk : ∀ (mc2 mm2 : Mem) (adC2 : Nat → Nat → Nat) (H2 : Heap) (locs2 : List Loc), JJ K (n + 1) mc2 mm2 adC2 adM H2 → va_S (lA s) s.heap H2 locs2 → W p l e room_1 s m args below meth c H2 locs2 (cells + 1) (slots + 11) Q (F0 m 1880 ls [])) : W p l e room_1 s m args below meth c H locs cells slots Q (F0 m 1644 ls []) := by
  obtain ⟨T1, T2, T3⟩ := turnC J.1 J.2.2.1
  have T4 := J.apart
  have T5 := J.home
  obtain ⟨r, mc1, mm1, e1, e2, e3⟩ := pairS (mc := mcT K mc (adT K mc adC H.size)) (mm := mm) (fC := f_X11_count FL (xs (i + 1))) (fM := f_X12_count FL (xs (i + 1))) (fun v => sim_count (fl := FL) FL_ge T2.w98 (xs (i + 1)))
  refine lv_aload_n C.x C.b dL_law_1644 rfl (lv_at hl 1 rfl) ?_
  refine l_arg (k := 1) C hX hbl hS hl hN (by omega) (by decide) dL_law_1645 dL_law_1646 dL_law_1647 dL_law_1648 dL_law_1649 ?_
  refine l_calV (As := [.int (xs (i + 1))]) (rest := []) C g T1 hS mw_X11_count mv_X11_count kl_1123 (by decide) ⟨Nat.le_of_ble_eq_true rfl, Nat.le_of_ble_eq_true rfl⟩ (lvC0 Nat.zero_lt_one) kC0 zc11 (c_X11_count (l := l) (K := K) (ad := adT K mc adC H.size) e1) rfl hl.1 (by rw [T5]; rfl) (Nat.le_of_ble_eq_true rfl) dL_law_1650 ⟨by show (_ : Nat) ≤ 600000; omega, by show (_ : Nat) ≤ 7302250; omega⟩ (fun H1 locs1 Z1 S1 F1 => ?_)
  have M1 := J.mid T4 Z1 F1
  refine lv_aload_n C.x C.b dL_law_1653 rfl (lv_at hl 2 rfl) ?_
  refine l_arg (k := 1) C hX hbl S1 hl hN (by omega) (by decide) dL_law_1654 dL_law_1655 dL_law_1656 dL_law_1657 dL_law_1658 ?_
  refine l_calV (As := [.int (xs (i + 1))]) (rest := [.int r]) C g M1 S1 mw_X12_count mv_X12_count kl_1773 (by decide) ⟨Nat.le_of_ble_eq_true rfl, Nat.le_of_ble_eq_true rfl⟩ (lvM0 Nat.zero_lt_one) kM0 zc12 (c_X12_count (l := l) (K := K) (ad := adM) e2) rfl hl.1 rfl (Nat.le_of_ble_eq_true rfl) dL_law_1659 ⟨by show (_ : Nat) ≤ 600000; omega, by show (_ : Nat) ≤ 7302250; omega⟩ (fun H2 locs2 Z2 S2 F2 => ?_)
  refine lv_icmp_eq (tgt := 1880) C.x C.b dL_law_1662 (by decide) (fun _ => ?_) (fun w => absurd rfl w)
  exact W.widen (by omega) (by omega) (kk _ _ _ _ _ (J.fin T4 T5 Z1 Z2 F2 e3) S2)
set_option maxRecDepth 100000 in
set_option maxHeartbeats 4000000 in
theorem k_case42 {p : Program} {l : Launch} {e : Env} {s : State} {m : MethodId} {args : Array Value} {below : List Frame} {meth : Method} {c : Code} {H : Heap} {locs : List Loc} {cells slots : Nat} {Q : State → Prop} {ls : Array Slot} {K : KG} {b N i n : Nat} {xs : Nat → Int32} {mc mm : Mem} {adC adM : Nat → Nat → Nat} (C : Cx p s m args meth c cL_law 4 "GlassPalaceLaw" ret) (g : LG K s) (hX : va_X b N xs s s.heap) (hbl : b < s.heap.size) (hN : N ≤ 3072) (hi : i + 6 ≤ N) (hn : n < 100000) (hc : cells + 1 ≤ 600000) (hsl : slots + 11 ≤ 7302250) (J : JJ K n mc mm adC adM H) (hS : va_S (lA s) s.heap H locs) (hl : lv_has ls 4 [(0, .ref b), (1, .ref (kB K)), (2, .ref (adM 0 0)), (3, .int (nI i))]) (kk : ∀ (mc2 mm2 : Mem) (adC2 : Nat → Nat → Nat) (H2 : Heap) (locs2 : List Loc), JJ K (n + 1) mc2 mm2 adC2 adM H2 → va_S (lA s) s.heap H2 locs2 → W p l e room_1 s m args below meth c H2 locs2 (cells + 1) (slots + 11) Q (F0 m 1880 ls [])) : W p l e room_1 s m args below meth c H locs cells slots Q (F0 m 1667 ls []) := by
  obtain ⟨T1, T2, T3⟩ := turnC J.1 J.2.2.1
  have T4 := J.apart
  have T5 := J.home
  obtain ⟨r, mc1, mm1, e1, e2, e3⟩ := pairS (mc := mcT K mc (adT K mc adC H.size)) (mm := mm) (fC := f_X11_tape FL (xs (i + 1)) (xs (i + 2)) (xs (i + 3))) (fM := f_X12_tape FL (xs (i + 1)) (xs (i + 2)) (xs (i + 3))) (fun v => sim_tape (fl := FL) FL_ge T2.w98 (xs (i + 1)) (xs (i + 2)) (xs (i + 3)))
  refine lv_aload_n C.x C.b dL_law_1667 rfl (lv_at hl 1 rfl) ?_
  refine l_arg (k := 1) C hX hbl hS hl hN (by omega) (by decide) dL_law_1668 dL_law_1669 dL_law_1670 dL_law_1671 dL_law_1672 ?_
  refine l_arg (k := 2) C hX hbl hS hl hN (by omega) (by decide) dL_law_1673 dL_law_1674 dL_law_1675 dL_law_1676 dL_law_1677 ?_
  refine l_arg (k := 3) C hX hbl hS hl hN (by omega) (by decide) dL_law_1678 dL_law_1679 dL_law_1680 dL_law_1681 dL_law_1682 ?_
  refine l_calV (As := [.int (xs (i + 1)), .int (xs (i + 2)), .int (xs (i + 3))]) (rest := []) C g T1 hS mw_X11_tape mv_X11_tape kl_1135 (by decide) ⟨Nat.le_of_ble_eq_true rfl, Nat.le_of_ble_eq_true rfl⟩ (lvC0 Nat.zero_lt_one) kC0 zc11 (c_X11_tape (l := l) (K := K) (ad := adT K mc adC H.size) e1) rfl hl.1 (by rw [T5]; rfl) (Nat.le_of_ble_eq_true rfl) dL_law_1683 ⟨by show (_ : Nat) ≤ 600000; omega, by show (_ : Nat) ≤ 7302250; omega⟩ (fun H1 locs1 Z1 S1 F1 => ?_)
  have M1 := J.mid T4 Z1 F1
  refine lv_aload_n C.x C.b dL_law_1686 rfl (lv_at hl 2 rfl) ?_
  refine l_arg (k := 1) C hX hbl S1 hl hN (by omega) (by decide) dL_law_1687 dL_law_1688 dL_law_1689 dL_law_1690 dL_law_1691 ?_
  refine l_arg (k := 2) C hX hbl S1 hl hN (by omega) (by decide) dL_law_1692 dL_law_1693 dL_law_1694 dL_law_1695 dL_law_1696 ?_
  refine l_arg (k := 3) C hX hbl S1 hl hN (by omega) (by decide) dL_law_1697 dL_law_1698 dL_law_1699 dL_law_1700 dL_law_1701 ?_
  refine l_calV (As := [.int (xs (i + 1)), .int (xs (i + 2)), .int (xs (i + 3))]) (rest := [.int r]) C g M1 S1 mw_X12_tape mv_X12_tape kl_1793 (by decide) ⟨Nat.le_of_ble_eq_true rfl, Nat.le_of_ble_eq_true rfl⟩ (lvM0 Nat.zero_lt_one) kM0 zc12 (c_X12_tape (l := l) (K := K) (ad := adM) e2) rfl hl.1 rfl (Nat.le_of_ble_eq_true rfl) dL_law_1702 ⟨by show (_ : Nat) ≤ 600000; omega, by show (_ : Nat) ≤ 7302250; omega⟩ (fun H2 locs2 Z2 S2 F2 => ?_)
  refine lv_icmp_eq (tgt := 1880) C.x C.b dL_law_1705 (by decide) (fun _ => ?_) (fun w => absurd rfl w)
  exact W.widen (by omega) (by omega) (kk _ _ _ _ _ (J.fin T4 T5 Z1 Z2 F2 e3) S2)
set_option maxRecDepth 100000 in
set_option maxHeartbeats 4000000 in
theorem k_case43 {p : Program} {l : Launch} {e : Env} {s : State} {m : MethodId} {args : Array Value} {below : List Frame} {meth : Method} {c : Code} {H : Heap} {locs : List Loc} {cells slots : Nat} {Q : State → Prop} {ls : Array Slot} {K : KG} {b N i n : Nat} {xs : Nat → Int32} {mc mm : Mem} {adC adM : Nat → Nat → Nat} (C : Cx p s m args meth c cL_law 4 "GlassPalaceLaw" ret) (g : LG K s) (hX : va_X b N xs s s.heap) (hbl : b < s.heap.size) (hN : N ≤ 3072) (hi : i + 6 ≤ N) (hn : n < 100000) (hc : cells + 1 ≤ 600000) (hsl : slots + 11 ≤ 7302250) (J : JJ K n mc mm adC adM H) (hS : va_S (lA s) s.heap H locs) (hl : lv_has ls 4 [(0, .ref b), (1, .ref (kB K)), (2, .ref (adM 0 0)), (3, .int (nI i))]) (kk : ∀ (mc2 mm2 : Mem) (adC2 : Nat → Nat → Nat) (H2 : Heap) (locs2 : List Loc), JJ K (n + 1) mc2 mm2 adC2 adM H2 → va_S (lA s) s.heap H2 locs2 → W p l e room_1 s m args below meth c H2 locs2 (cells + 1) (slots + 11) Q (F0 m 1880 ls [])) : W p l e room_1 s m args below meth c H locs cells slots Q (F0 m 1710 ls []) := by
  obtain ⟨T1, T2, T3⟩ := turnC J.1 J.2.2.1
  have T4 := J.apart
  have T5 := J.home
  obtain ⟨r, mc1, mm1, e1, e2, e3⟩ := pairS (mc := mcT K mc (adT K mc adC H.size)) (mm := mm) (fC := f_X11_item FL (xs (i + 1)) (xs (i + 2)) (Int32.toInt64 (xs (i + 3)) <<< (Int32.toInt64 32 &&& 63) ||| Int32.toInt64 (xs (i + 4)) &&& 4294967295)) (fM := f_X12_item FL (xs (i + 1)) (xs (i + 2)) (Int32.toInt64 (xs (i + 3)) <<< (Int32.toInt64 32 &&& 63) ||| Int32.toInt64 (xs (i + 4)) &&& 4294967295)) (fun v => sim_item (fl := FL) T2.w98 (xs (i + 1)) (xs (i + 2)) (Int32.toInt64 (xs (i + 3)) <<< (Int32.toInt64 32 &&& 63) ||| Int32.toInt64 (xs (i + 4)) &&& 4294967295))
  refine lv_aload_n C.x C.b dL_law_1710 rfl (lv_at hl 1 rfl) ?_
  refine l_arg (k := 1) C hX hbl hS hl hN (by omega) (by decide) dL_law_1711 dL_law_1712 dL_law_1713 dL_law_1714 dL_law_1715 ?_
  refine l_arg (k := 2) C hX hbl hS hl hN (by omega) (by decide) dL_law_1716 dL_law_1717 dL_law_1718 dL_law_1719 dL_law_1720 ?_
  refine l_arg (k := 3) C hX hbl hS hl hN (by omega) (by decide) dL_law_1721 dL_law_1722 dL_law_1723 dL_law_1724 dL_law_1725 ?_
  refine lv_i2l C.x C.b dL_law_1726 rfl ?_
  refine lv_bipush (v := 32) C.x C.b dL_law_1727 (by decide) ?_
  refine lv_lshl C.x C.b dL_law_1729 rfl ?_
  refine l_arg (k := 4) C hX hbl hS hl hN (by omega) (by decide) dL_law_1730 dL_law_1731 dL_law_1732 dL_law_1733 dL_law_1734 ?_
  refine lv_i2l C.x C.b dL_law_1735 rfl ?_
  refine lv_ldc2 (v := 4294967295) C.x C.b C.o (C.w kl_1813) dL_law_1736 ?_
  refine lv_land C.x C.b dL_law_1739 ?_
  refine lv_lor C.x C.b dL_law_1740 ?_
  refine l_calV (As := [.int (xs (i + 1)), .int (xs (i + 2)), .long (Int32.toInt64 (xs (i + 3)) <<< (Int32.toInt64 32 &&& 63) ||| Int32.toInt64 (xs (i + 4)) &&& 4294967295)]) (rest := []) C g T1 hS mw_X11_item mv_X11_item kl_1143 (by decide) ⟨Nat.le_of_ble_eq_true rfl, Nat.le_of_ble_eq_true rfl⟩ (lvC0 Nat.zero_lt_one) kC0 zc11 (c_X11_item (l := l) (K := K) (ad := adT K mc adC H.size) e1) rfl hl.1 (by rw [T5]; rfl) (Nat.le_of_ble_eq_true rfl) dL_law_1741 ⟨by show (_ : Nat) ≤ 600000; omega, by show (_ : Nat) ≤ 7302250; omega⟩ (fun H1 locs1 Z1 S1 F1 => ?_)
  have M1 := J.mid T4 Z1 F1
  refine lv_aload_n C.x C.b dL_law_1744 rfl (lv_at hl 2 rfl) ?_
  refine l_arg (k := 1) C hX hbl S1 hl hN (by omega) (by decide) dL_law_1745 dL_law_1746 dL_law_1747 dL_law_1748 dL_law_1749 ?_
  refine l_arg (k := 2) C hX hbl S1 hl hN (by omega) (by decide) dL_law_1750 dL_law_1751 dL_law_1752 dL_law_1753 dL_law_1754 ?_
  refine l_arg (k := 3) C hX hbl S1 hl hN (by omega) (by decide) dL_law_1755 dL_law_1756 dL_law_1757 dL_law_1758 dL_law_1759 ?_
  refine lv_i2l C.x C.b dL_law_1760 rfl ?_
  refine lv_bipush (v := 32) C.x C.b dL_law_1761 (by decide) ?_
  refine lv_lshl C.x C.b dL_law_1763 rfl ?_
  refine l_arg (k := 4) C hX hbl S1 hl hN (by omega) (by decide) dL_law_1764 dL_law_1765 dL_law_1766 dL_law_1767 dL_law_1768 ?_
  refine lv_i2l C.x C.b dL_law_1769 rfl ?_
  refine lv_ldc2 (v := 4294967295) C.x C.b C.o (C.w kl_1813) dL_law_1770 ?_
  refine lv_land C.x C.b dL_law_1773 ?_
  refine lv_lor C.x C.b dL_law_1774 ?_
  refine l_calV (As := [.int (xs (i + 1)), .int (xs (i + 2)), .long (Int32.toInt64 (xs (i + 3)) <<< (Int32.toInt64 32 &&& 63) ||| Int32.toInt64 (xs (i + 4)) &&& 4294967295)]) (rest := [.int r]) C g M1 S1 mw_X12_item mv_X12_item kl_1797 (by decide) ⟨Nat.le_of_ble_eq_true rfl, Nat.le_of_ble_eq_true rfl⟩ (lvM0 Nat.zero_lt_one) kM0 zc12 (c_X12_item (l := l) (K := K) (ad := adM) e2) rfl hl.1 rfl (Nat.le_of_ble_eq_true rfl) dL_law_1775 ⟨by show (_ : Nat) ≤ 600000; omega, by show (_ : Nat) ≤ 7302250; omega⟩ (fun H2 locs2 Z2 S2 F2 => ?_)
  refine lv_icmp_eq (tgt := 1880) C.x C.b dL_law_1778 (by decide) (fun _ => ?_) (fun w => absurd rfl w)
  exact W.widen (by omega) (by omega) (kk _ _ _ _ _ (J.fin T4 T5 Z1 Z2 F2 e3) S2)
set_option maxRecDepth 100000 in
set_option maxHeartbeats 4000000 in
theorem k_case44 {p : Program} {l : Launch} {e : Env} {s : State} {m : MethodId} {args : Array Value} {below : List Frame} {meth : Method} {c : Code} {H : Heap} {locs : List Loc} {cells slots : Nat} {Q : State → Prop} {ls : Array Slot} {K : KG} {b N i n : Nat} {xs : Nat → Int32} {mc mm : Mem} {adC adM : Nat → Nat → Nat} (C : Cx p s m args meth c cL_law 4 "GlassPalaceLaw" ret) (g : LG K s) (hX : va_X b N xs s s.heap) (hbl : b < s.heap.size) (hN : N ≤ 3072) (hi : i + 6 ≤ N) (hn : n < 100000) (hc : cells + 1 ≤ 600000) (hsl : slots + 11 ≤ 7302250) (J : JJ K n mc mm adC adM H) (hS : va_S (lA s) s.heap H locs) (hl : lv_has ls 4 [(0, .ref b), (1, .ref (kB K)), (2, .ref (adM 0 0)), (3, .int (nI i))]) (kk : ∀ (mc2 mm2 : Mem) (adC2 : Nat → Nat → Nat) (H2 : Heap) (locs2 : List Loc), JJ K (n + 1) mc2 mm2 adC2 adM H2 → va_S (lA s) s.heap H2 locs2 → W p l e room_1 s m args below meth c H2 locs2 (cells + 1) (slots + 11) Q (F0 m 1880 ls [])) : W p l e room_1 s m args below meth c H locs cells slots Q (F0 m 1783 ls []) := by
  obtain ⟨T1, T2, T3⟩ := turnC J.1 J.2.2.1
  have T4 := J.apart
  have T5 := J.home
  obtain ⟨r, mc1, mm1, e1, e2, e3⟩ := pairS (mc := mcT K mc (adT K mc adC H.size)) (mm := mm) (fC := f_X11_read FL (xs (i + 1)) (xs (i + 2))) (fM := f_X12_read FL (xs (i + 1)) (xs (i + 2))) (fun v => sim_read (fl := FL) T2.w98 (xs (i + 1)) (xs (i + 2)))
  refine lv_aload_n C.x C.b dL_law_1783 rfl (lv_at hl 1 rfl) ?_
  refine l_arg (k := 1) C hX hbl hS hl hN (by omega) (by decide) dL_law_1784 dL_law_1785 dL_law_1786 dL_law_1787 dL_law_1788 ?_
  refine l_arg (k := 2) C hX hbl hS hl hN (by omega) (by decide) dL_law_1789 dL_law_1790 dL_law_1791 dL_law_1792 dL_law_1793 ?_
  refine l_calV (As := [.int (xs (i + 1)), .int (xs (i + 2))]) (rest := []) C g T1 hS mw_X11_read mv_X11_read kl_1155 (by decide) ⟨Nat.le_of_ble_eq_true rfl, Nat.le_of_ble_eq_true rfl⟩ (lvC0 Nat.zero_lt_one) kC0 zc11 (c_X11_read (l := l) (K := K) (ad := adT K mc adC H.size) e1) rfl hl.1 (by rw [T5]; rfl) (Nat.le_of_ble_eq_true rfl) dL_law_1794 ⟨by show (_ : Nat) ≤ 600000; omega, by show (_ : Nat) ≤ 7302250; omega⟩ (fun H1 locs1 Z1 S1 F1 => ?_)
  have M1 := J.mid T4 Z1 F1
  refine lv_aload_n C.x C.b dL_law_1797 rfl (lv_at hl 2 rfl) ?_
  refine l_arg (k := 1) C hX hbl S1 hl hN (by omega) (by decide) dL_law_1798 dL_law_1799 dL_law_1800 dL_law_1801 dL_law_1802 ?_
  refine l_arg (k := 2) C hX hbl S1 hl hN (by omega) (by decide) dL_law_1803 dL_law_1804 dL_law_1805 dL_law_1806 dL_law_1807 ?_
  refine l_calV (As := [.int (xs (i + 1)), .int (xs (i + 2))]) (rest := [.long r]) C g M1 S1 mw_X12_read mv_X12_read kl_1805 (by decide) ⟨Nat.le_of_ble_eq_true rfl, Nat.le_of_ble_eq_true rfl⟩ (lvM0 Nat.zero_lt_one) kM0 zc12 (c_X12_read (l := l) (K := K) (ad := adM) e2) rfl hl.1 rfl (Nat.le_of_ble_eq_true rfl) dL_law_1808 ⟨by show (_ : Nat) ≤ 600000; omega, by show (_ : Nat) ≤ 7302250; omega⟩ (fun H2 locs2 Z2 S2 F2 => ?_)
  refine W.lcmp C.x C.b dL_law_1811 ?_
  have el : lg_cmp r r = 0 := by unfold lg_cmp; simp
  rw [el]
  refine lv_if_eq (tgt := 1880) C.x C.b dL_law_1812 (by decide) (fun _ => ?_) (fun w => absurd rfl w)
  exact W.widen (by omega) (by omega) (kk _ _ _ _ _ (J.fin T4 T5 Z1 Z2 F2 e3) S2)
set_option maxRecDepth 100000 in
set_option maxHeartbeats 4000000 in
theorem k_case45 {p : Program} {l : Launch} {e : Env} {s : State} {m : MethodId} {args : Array Value} {below : List Frame} {meth : Method} {c : Code} {H : Heap} {locs : List Loc} {cells slots : Nat} {Q : State → Prop} {ls : Array Slot} {K : KG} {b N i n : Nat} {xs : Nat → Int32} {mc mm : Mem} {adC adM : Nat → Nat → Nat} (C : Cx p s m args meth c cL_law 4 "GlassPalaceLaw" ret) (g : LG K s) (hX : va_X b N xs s s.heap) (hbl : b < s.heap.size) (hN : N ≤ 3072) (hi : i + 6 ≤ N) (hn : n < 100000) (hc : cells + 1 ≤ 600000) (hsl : slots + 11 ≤ 7302250) (J : JJ K n mc mm adC adM H) (hS : va_S (lA s) s.heap H locs) (hl : lv_has ls 4 [(0, .ref b), (1, .ref (kB K)), (2, .ref (adM 0 0)), (3, .int (nI i))]) (kk : ∀ (mc2 mm2 : Mem) (adC2 : Nat → Nat → Nat) (H2 : Heap) (locs2 : List Loc), JJ K (n + 1) mc2 mm2 adC2 adM H2 → va_S (lA s) s.heap H2 locs2 → W p l e room_1 s m args below meth c H2 locs2 (cells + 1) (slots + 11) Q (F0 m 1880 ls [])) : W p l e room_1 s m args below meth c H locs cells slots Q (F0 m 1817 ls []) := by
  obtain ⟨T1, T2, T3⟩ := turnC J.1 J.2.2.1
  have T4 := J.apart
  have T5 := J.home
  obtain ⟨r, mc1, mm1, e1, e2, e3⟩ := pairS (mc := mcT K mc (adT K mc adC H.size)) (mm := mm) (fC := f_X11_shift FL (xs (i + 1)) (xs (i + 2)) (xs (i + 3)) (xs (i + 4)) (xs (i + 5))) (fM := f_X12_shift FL (xs (i + 1)) (xs (i + 2)) (xs (i + 3)) (xs (i + 4)) (xs (i + 5))) (fun v => sim_shift (fl := FL) FL_ge T2.w98 (xs (i + 1)) (xs (i + 2)) (xs (i + 3)) (xs (i + 4)) (xs (i + 5)))
  refine lv_aload_n C.x C.b dL_law_1817 rfl (lv_at hl 1 rfl) ?_
  refine l_arg (k := 1) C hX hbl hS hl hN (by omega) (by decide) dL_law_1818 dL_law_1819 dL_law_1820 dL_law_1821 dL_law_1822 ?_
  refine l_arg (k := 2) C hX hbl hS hl hN (by omega) (by decide) dL_law_1823 dL_law_1824 dL_law_1825 dL_law_1826 dL_law_1827 ?_
  refine l_arg (k := 3) C hX hbl hS hl hN (by omega) (by decide) dL_law_1828 dL_law_1829 dL_law_1830 dL_law_1831 dL_law_1832 ?_
  refine l_arg (k := 4) C hX hbl hS hl hN (by omega) (by decide) dL_law_1833 dL_law_1834 dL_law_1835 dL_law_1836 dL_law_1837 ?_
  refine l_arg (k := 5) C hX hbl hS hl hN (by omega) (by decide) dL_law_1838 dL_law_1839 dL_law_1840 dL_law_1841 dL_law_1842 ?_
  refine l_calV (As := [.int (xs (i + 1)), .int (xs (i + 2)), .int (xs (i + 3)), .int (xs (i + 4)), .int (xs (i + 5))]) (rest := []) C g T1 hS mw_X11_shift mv_X11_shift kl_1159 (by decide) ⟨Nat.le_of_ble_eq_true rfl, Nat.le_of_ble_eq_true rfl⟩ (lvC0 Nat.zero_lt_one) kC0 zc11 (c_X11_shift (l := l) (K := K) (ad := adT K mc adC H.size) e1) rfl hl.1 (by rw [T5]; rfl) (Nat.le_of_ble_eq_true rfl) dL_law_1843 ⟨by show (_ : Nat) ≤ 600000; omega, by show (_ : Nat) ≤ 7302250; omega⟩ (fun H1 locs1 Z1 S1 F1 => ?_)
  have M1 := J.mid T4 Z1 F1
  refine lv_aload_n C.x C.b dL_law_1846 rfl (lv_at hl 2 rfl) ?_
  refine l_arg (k := 1) C hX hbl S1 hl hN (by omega) (by decide) dL_law_1847 dL_law_1848 dL_law_1849 dL_law_1850 dL_law_1851 ?_
  refine l_arg (k := 2) C hX hbl S1 hl hN (by omega) (by decide) dL_law_1852 dL_law_1853 dL_law_1854 dL_law_1855 dL_law_1856 ?_
  refine l_arg (k := 3) C hX hbl S1 hl hN (by omega) (by decide) dL_law_1857 dL_law_1858 dL_law_1859 dL_law_1860 dL_law_1861 ?_
  refine l_arg (k := 4) C hX hbl S1 hl hN (by omega) (by decide) dL_law_1862 dL_law_1863 dL_law_1864 dL_law_1865 dL_law_1866 ?_
  refine l_arg (k := 5) C hX hbl S1 hl hN (by omega) (by decide) dL_law_1867 dL_law_1868 dL_law_1869 dL_law_1870 dL_law_1871 ?_
  refine l_calV (As := [.int (xs (i + 1)), .int (xs (i + 2)), .int (xs (i + 3)), .int (xs (i + 4)), .int (xs (i + 5))]) (rest := [.int r]) C g M1 S1 mw_X12_shift mv_X12_shift kl_1809 (by decide) ⟨Nat.le_of_ble_eq_true rfl, Nat.le_of_ble_eq_true rfl⟩ (lvM0 Nat.zero_lt_one) kM0 zc12 (c_X12_shift (l := l) (K := K) (ad := adM) e2) rfl hl.1 rfl (Nat.le_of_ble_eq_true rfl) dL_law_1872 ⟨by show (_ : Nat) ≤ 600000; omega, by show (_ : Nat) ≤ 7302250; omega⟩ (fun H2 locs2 Z2 S2 F2 => ?_)
  refine lv_icmp_eq (tgt := 1880) C.x C.b dL_law_1875 (by decide) (fun _ => ?_) (fun w => absurd rfl w)
  exact W.widen (by omega) (by omega) (kk _ _ _ _ _ (J.fin T4 T5 Z1 Z2 F2 e3) S2)
