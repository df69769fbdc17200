set_option maxRecDepth 100000 in
set_option maxHeartbeats 4000000 in
theorem k_case24 {p : Program} {l : Launch} {e : Env} {s : State} {m : MethodId} {args : Array Value} {below : List Frame} {meth : Method} {c : Code} {H : Heap} {locs : List Loc} {cells slots : Nat} {Q : State → Prop} {ls : Array Slot} {K : KG} {b N i n : Nat} {xs : Nat → Int32} {mc mm : Mem} {adC adM : Nat → Nat → Nat} (C : Cx p s m args meth c cL_law 4 "GlassPalaceLaw" ret) (g : LG K s) (hX : va_X b N xs s s.heap) (hbl : b < s.heap.size) (hN : N ≤ 3072) (hi : i + 6 ≤ N) (hn : n < 100000) (hc : cells + 1 ≤ 600000) (hsl : slots + 11 ≤ 7302250) (J : JJ K n mc mm adC adM H) (hS : va_S (lA s) s.heap H locs) (hl : lv_has ls 4 [(0, .ref b), (1, .ref (kB K)), (2, .ref (adM 0 0)), (3, .int (nI i))]) (kk : ∀ (mc2 mm2 : Mem) (adC2 : Nat → Nat → Nat) (H2 : Heap) (locs2 : List Loc), JJ K (n + 1) mc2 mm2 adC2 adM H2 → va_S (lA s) s.heap H2 locs2 → W p l e room_1 s m args below meth c H2 locs2 (cells + 1) (slots + 11) Q (F0 m 1880 ls [])) : W p l e room_1 s m args below meth c H locs cells slots Q (F0 m 1014 ls []) := by
  obtain ⟨T1, T2, T3⟩ := turnC J.1 J.2.2.1
  have T4 := J.apart
  have T5 := J.home
  obtain ⟨r, mc1, mm1, e1, e2, e3⟩ := pairS (mc := mcT K mc (adT K mc adC H.size)) (mm := mm) (fC := f_X11_leaks FL (xs (i + 1))) (fM := f_X12_leaks FL (xs (i + 1))) (fun v => sim_leaks (fl := FL) FL_ge T2.w98 (xs (i + 1)))
  refine lv_aload_n C.x C.b dL_law_1014 rfl (lv_at hl 1 rfl) ?_
  refine l_arg (k := 1) C hX hbl hS hl hN (by omega) (by decide) dL_law_1015 dL_law_1016 dL_law_1017 dL_law_1018 dL_law_1019 ?_
  refine l_calV (As := [.int (xs (i + 1))]) (rest := []) C g T1 hS mw_X11_leaks mv_X11_leaks kl_888 (by decide) ⟨Nat.le_of_ble_eq_true rfl, Nat.le_of_ble_eq_true rfl⟩ (lvC0 Nat.zero_lt_one) kC0 zc11 (c_X11_leaks (l := l) (K := K) (ad := adT K mc adC H.size) e1) rfl hl.1 (by rw [T5]; rfl) (Nat.le_of_ble_eq_true rfl) dL_law_1020 ⟨by show (_ : Nat) ≤ 600000; omega, by show (_ : Nat) ≤ 7302250; omega⟩ (fun H1 locs1 Z1 S1 F1 => ?_)
  have M1 := J.mid T4 Z1 F1
  refine lv_aload_n C.x C.b dL_law_1023 rfl (lv_at hl 2 rfl) ?_
  refine l_arg (k := 1) C hX hbl S1 hl hN (by omega) (by decide) dL_law_1024 dL_law_1025 dL_law_1026 dL_law_1027 dL_law_1028 ?_
  refine l_calV (As := [.int (xs (i + 1))]) (rest := [.int r]) C g M1 S1 mw_X12_leaks mv_X12_leaks kl_1641 (by decide) ⟨Nat.le_of_ble_eq_true rfl, Nat.le_of_ble_eq_true rfl⟩ (lvM0 Nat.zero_lt_one) kM0 zc12 (c_X12_leaks (l := l) (K := K) (ad := adM) e2) rfl hl.1 rfl (Nat.le_of_ble_eq_true rfl) dL_law_1029 ⟨by show (_ : Nat) ≤ 600000; omega, by show (_ : Nat) ≤ 7302250; omega⟩ (fun H2 locs2 Z2 S2 F2 => ?_)
  refine lv_icmp_eq (tgt := 1880) C.x C.b dL_law_1032 (by decide) (fun _ => ?_) (fun w => absurd rfl w)
  exact W.widen (by omega) (by omega) (kk _ _ _ _ _ (J.fin T4 T5 Z1 Z2 F2 e3) S2)
set_option maxRecDepth 100000 in
set_option maxHeartbeats 4000000 in
theorem k_case25 {p : Program} {l : Launch} {e : Env} {s : State} {m : MethodId} {args : Array Value} {below : List Frame} {meth : Method} {c : Code} {H : Heap} {locs : List Loc} {cells slots : Nat} {Q : State → Prop} {ls : Array Slot} {K : KG} {b N i n : Nat} {xs : Nat → Int32} {mc mm : Mem} {adC adM : Nat → Nat → Nat} (C : Cx p s m args meth c cL_law 4 "GlassPalaceLaw" ret) (g : LG K s) (hX : va_X b N xs s s.heap) (hbl : b < s.heap.size) (hN : N ≤ 3072) (hi : i + 6 ≤ N) (hn : n < 100000) (hc : cells + 1 ≤ 600000) (hsl : slots + 11 ≤ 7302250) (J : JJ K n mc mm adC adM H) (hS : va_S (lA s) s.heap H locs) (hl : lv_has ls 4 [(0, .ref b), (1, .ref (kB K)), (2, .ref (adM 0 0)), (3, .int (nI i))]) (kk : ∀ (mc2 mm2 : Mem) (adC2 : Nat → Nat → Nat) (H2 : Heap) (locs2 : List Loc), JJ K (n + 1) mc2 mm2 adC2 adM H2 → va_S (lA s) s.heap H2 locs2 → W p l e room_1 s m args below meth c H2 locs2 (cells + 1) (slots + 11) Q (F0 m 1880 ls [])) : W p l e room_1 s m args below meth c H locs cells slots Q (F0 m 1037 ls []) := by
  obtain ⟨T1, T2, T3⟩ := turnC J.1 J.2.2.1
  have T4 := J.apart
  have T5 := J.home
  obtain ⟨r, mc1, mm1, e1, e2, e3⟩ := pairS (mc := mcT K mc (adT K mc adC H.size)) (mm := mm) (fC := f_X11_gang FL (xs (i + 1)) (xs (i + 2))) (fM := f_X12_gang FL (xs (i + 1)) (xs (i + 2))) (fun v => sim_gang (fl := FL) T2.w98 T3 (xs (i + 1)) (xs (i + 2)))
  refine lv_aload_n C.x C.b dL_law_1037 rfl (lv_at hl 1 rfl) ?_
  refine l_arg (k := 1) C hX hbl hS hl hN (by omega) (by decide) dL_law_1038 dL_law_1039 dL_law_1040 dL_law_1041 dL_law_1042 ?_
  refine l_arg (k := 2) C hX hbl hS hl hN (by omega) (by decide) dL_law_1043 dL_law_1044 dL_law_1045 dL_law_1046 dL_law_1047 ?_
  refine l_calV (As := [.int (xs (i + 1)), .int (xs (i + 2))]) (rest := []) C g T1 hS mw_X11_gang mv_X11_gang kl_896 (by decide) ⟨Nat.le_of_ble_eq_true rfl, Nat.le_of_ble_eq_true rfl⟩ (lvC0 Nat.zero_lt_one) kC0 zc11 (c_X11_gang (l := l) (K := K) (ad := adT K mc adC H.size) e1) rfl hl.1 (by rw [T5]; rfl) (Nat.le_of_ble_eq_true rfl) dL_law_1048 ⟨by show (_ : Nat) ≤ 600000; omega, by show (_ : Nat) ≤ 7302250; omega⟩ (fun H1 locs1 Z1 S1 F1 => ?_)
  have M1 := J.mid T4 Z1 F1
  refine lv_aload_n C.x C.b dL_law_1051 rfl (lv_at hl 2 rfl) ?_
  refine l_arg (k := 1) C hX hbl S1 hl hN (by omega) (by decide) dL_law_1052 dL_law_1053 dL_law_1054 dL_law_1055 dL_law_1056 ?_
  refine l_arg (k := 2) C hX hbl S1 hl hN (by omega) (by decide) dL_law_1057 dL_law_1058 dL_law_1059 dL_law_1060 dL_law_1061 ?_
  refine l_calV (As := [.int (xs (i + 1)), .int (xs (i + 2))]) (rest := [.int r]) C g M1 S1 mw_X12_gang mv_X12_gang kl_1645 (by decide) ⟨Nat.le_of_ble_eq_true rfl, Nat.le_of_ble_eq_true rfl⟩ (lvM0 Nat.zero_lt_one) kM0 zc12 (c_X12_gang (l := l) (K := K) (ad := adM) e2) rfl hl.1 rfl (Nat.le_of_ble_eq_true rfl) dL_law_1062 ⟨by show (_ : Nat) ≤ 600000; omega, by show (_ : Nat) ≤ 7302250; omega⟩ (fun H2 locs2 Z2 S2 F2 => ?_)
  refine lv_icmp_eq (tgt := 1880) C.x C.b dL_law_1065 (by decide) (fun _ => ?_) (fun w => absurd rfl w)
  exact W.widen (by omega) (by omega) (kk _ _ _ _ _ (J.fin T4 T5 Z1 Z2 F2 e3) S2)
set_option maxRecDepth 100000 in
set_option maxHeartbeats 4000000 in
theorem k_case26 {p : Program} {l : Launch} {e : Env} {s : State} {m : MethodId} {args : Array Value} {below : List Frame} {meth : Method} {c : Code} {H : Heap} {locs : List Loc} {cells slots : Nat} {Q : State → Prop} {ls : Array Slot} {K : KG} {b N i n : Nat} {xs : Nat → Int32} {mc mm : Mem} {adC adM : Nat → Nat → Nat} (C : Cx p s m args meth c cL_law 4 "GlassPalaceLaw" ret) (g : LG K s) (hX : va_X b N xs s s.heap) (hbl : b < s.heap.size) (hN : N ≤ 3072) (hi : i + 6 ≤ N) (hn : n < 100000) (hc : cells + 1 ≤ 600000) (hsl : slots + 11 ≤ 7302250) (J : JJ K n mc mm adC adM H) (hS : va_S (lA s) s.heap H locs) (hl : lv_has ls 4 [(0, .ref b), (1, .ref (kB K)), (2, .ref (adM 0 0)), (3, .int (nI i))]) (kk : ∀ (mc2 mm2 : Mem) (adC2 : Nat → Nat → Nat) (H2 : Heap) (locs2 : List Loc), JJ K (n + 1) mc2 mm2 adC2 adM H2 → va_S (lA s) s.heap H2 locs2 → W p l e room_1 s m args below meth c H2 locs2 (cells + 1) (slots + 11) Q (F0 m 1880 ls [])) : W p l e room_1 s m args below meth c H locs cells slots Q (F0 m 1070 ls []) := by
  obtain ⟨T1, T2, T3⟩ := turnC J.1 J.2.2.1
  have T4 := J.apart
  have T5 := J.home
  obtain ⟨r, mc1, mm1, e1, e2, e3⟩ := pairS (mc := mcT K mc (adT K mc adC H.size)) (mm := mm) (fC := f_X11_work FL (xs (i + 1)) (xs (i + 2)) (xs (i + 3))) (fM := f_X12_work FL (xs (i + 1)) (xs (i + 2)) (xs (i + 3))) (fun v => sim_work hn T2.w98 (xs (i + 1)) (xs (i + 2)) (xs (i + 3)))
  refine lv_aload_n C.x C.b dL_law_1070 rfl (lv_at hl 1 rfl) ?_
  refine l_arg (k := 1) C hX hbl hS hl hN (by omega) (by decide) dL_law_1071 dL_law_1072 dL_law_1073 dL_law_1074 dL_law_1075 ?_
  refine l_arg (k := 2) C hX hbl hS hl hN (by omega) (by decide) dL_law_1076 dL_law_1077 dL_law_1078 dL_law_1079 dL_law_1080 ?_
  refine l_arg (k := 3) C hX hbl hS hl hN (by omega) (by decide) dL_law_1081 dL_law_1082 dL_law_1083 dL_law_1084 dL_law_1085 ?_
  refine l_calV (As := [.int (xs (i + 1)), .int (xs (i + 2)), .int (xs (i + 3))]) (rest := []) C g T1 hS mw_X11_work mv_X11_work kl_924 (by decide) ⟨Nat.le_of_ble_eq_true rfl, Nat.le_of_ble_eq_true rfl⟩ (lvC0 Nat.zero_lt_one) kC0 zc11 (c_X11_work (l := l) (K := K) (ad := adT K mc adC H.size) e1) rfl hl.1 (by rw [T5]; rfl) (Nat.le_of_ble_eq_true rfl) dL_law_1086 ⟨by show (_ : Nat) ≤ 600000; omega, by show (_ : Nat) ≤ 7302250; omega⟩ (fun H1 locs1 Z1 S1 F1 => ?_)
  have M1 := J.mid T4 Z1 F1
  refine lv_aload_n C.x C.b dL_law_1089 rfl (lv_at hl 2 rfl) ?_
  refine l_arg (k := 1) C hX hbl S1 hl hN (by omega) (by decide) dL_law_1090 dL_law_1091 dL_law_1092 dL_law_1093 dL_law_1094 ?_
  refine l_arg (k := 2) C hX hbl S1 hl hN (by omega) (by decide) dL_law_1095 dL_law_1096 dL_law_1097 dL_law_1098 dL_law_1099 ?_
  refine l_arg (k := 3) C hX hbl S1 hl hN (by omega) (by decide) dL_law_1100 dL_law_1101 dL_law_1102 dL_law_1103 dL_law_1104 ?_
  refine l_calV (As := [.int (xs (i + 1)), .int (xs (i + 2)), .int (xs (i + 3))]) (rest := [.int r]) C g M1 S1 mw_X12_work mv_X12_work kl_1661 (by decide) ⟨Nat.le_of_ble_eq_true rfl, Nat.le_of_ble_eq_true rfl⟩ (lvM0 Nat.zero_lt_one) kM0 zc12 (c_X12_work (l := l) (K := K) (ad := adM) e2) rfl hl.1 rfl (Nat.le_of_ble_eq_true rfl) dL_law_1105 ⟨by show (_ : Nat) ≤ 600000; omega, by show (_ : Nat) ≤ 7302250; omega⟩ (fun H2 locs2 Z2 S2 F2 => ?_)
  refine lv_icmp_eq (tgt := 1880) C.x C.b dL_law_1108 (by decide) (fun _ => ?_) (fun w => absurd rfl w)
  exact W.widen (by omega) (by omega) (kk _ _ _ _ _ (J.fin T4 T5 Z1 Z2 F2 e3) S2)
set_option maxRecDepth 100000 in
set_option maxHeartbeats 4000000 in
theorem k_case27 {p : Program} {l : Launch} {e : Env} {s : State} {m : MethodId} {args : Array Value} {below : List Frame} {meth : Method} {c : Code} {H : Heap} {locs : List Loc} {cells slots : Nat} {Q : State → Prop} {ls : Array Slot} {K : KG} {b N i n : Nat} {xs : Nat → Int32} {mc mm : Mem} {adC adM : Nat → Nat → Nat} (C : Cx p s m args meth c cL_law 4 "GlassPalaceLaw" ret) (g : LG K s) (hX : va_X b N xs s s.heap) (hbl : b < s.heap.size) (hN : N ≤ 3072) (hi : i + 6 ≤ N) (hn : n < 100000) (hc : cells + 1 ≤ 600000) (hsl : slots + 11 ≤ 7302250) (J : JJ K n mc mm adC adM H) (hS : va_S (lA s) s.heap H locs) (hl : lv_has ls 4 [(0, .ref b), (1, .ref (kB K)), (2, .ref (adM 0 0)), (3, .int (nI i))]) (kk : ∀ (mc2 mm2 : Mem) (adC2 : Nat → Nat → Nat) (H2 : Heap) (locs2 : List Loc), JJ K (n + 1) mc2 mm2 adC2 adM H2 → va_S (lA s) s.heap H2 locs2 → W p l e room_1 s m args below meth c H2 locs2 (cells + 1) (slots + 11) Q (F0 m 1880 ls [])) : W p l e room_1 s m args below meth c H locs cells slots Q (F0 m 1113 ls []) := by
  obtain ⟨T1, T2, T3⟩ := turnC J.1 J.2.2.1
  have T4 := J.apart
  have T5 := J.home
  obtain ⟨r, mc1, mm1, e1, e2, e3⟩ := pairS (mc := mcT K mc (adT K mc adC H.size)) (mm := mm) (fC := f_X11_pace FL (xs (i + 1))) (fM := f_X12_pace FL (xs (i + 1))) (fun v => sim_pace T2.w98 (xs (i + 1)))
  refine lv_aload_n C.x C.b dL_law_1113 rfl (lv_at hl 1 rfl) ?_
  refine l_arg (k := 1) C hX hbl hS hl hN (by omega) (by decide) dL_law_1114 dL_law_1115 dL_law_1116 dL_law_1117 dL_law_1118 ?_
  refine l_calV (As := [.int (xs (i + 1))]) (rest := []) C g T1 hS mw_X11_pace mv_X11_pace kl_946 (by decide) ⟨Nat.le_of_ble_eq_true rfl, Nat.le_of_ble_eq_true rfl⟩ (lvC0 Nat.zero_lt_one) kC0 zc11 (c_X11_pace (l := l) (K := K) (ad := adT K mc adC H.size) e1) rfl hl.1 (by rw [T5]; rfl) (Nat.le_of_ble_eq_true rfl) dL_law_1119 ⟨by show (_ : Nat) ≤ 600000; omega, by show (_ : Nat) ≤ 7302250; omega⟩ (fun H1 locs1 Z1 S1 F1 => ?_)
  have M1 := J.mid T4 Z1 F1
  refine lv_aload_n C.x C.b dL_law_1122 rfl (lv_at hl 2 rfl) ?_
  refine l_arg (k := 1) C hX hbl S1 hl hN (by omega) (by decide) dL_law_1123 dL_law_1124 dL_law_1125 dL_law_1126 dL_law_1127 ?_
  refine l_calV (As := [.int (xs (i + 1))]) (rest := [.int r]) C g M1 S1 mw_X12_pace mv_X12_pace kl_1649 (by decide) ⟨Nat.le_of_ble_eq_true rfl, Nat.le_of_ble_eq_true rfl⟩ (lvM0 Nat.zero_lt_one) kM0 zc12 (c_X12_pace (l := l) (K := K) (ad := adM) e2) rfl hl.1 rfl (Nat.le_of_ble_eq_true rfl) dL_law_1128 ⟨by show (_ : Nat) ≤ 600000; omega, by show (_ : Nat) ≤ 7302250; omega⟩ (fun H2 locs2 Z2 S2 F2 => ?_)
  refine lv_icmp_eq (tgt := 1880) C.x C.b dL_law_1131 (by decide) (fun _ => ?_) (fun w => absurd rfl w)
  exact W.widen (by omega) (by omega) (kk _ _ _ _ _ (J.fin T4 T5 Z1 Z2 F2 e3) S2)
set_option maxRecDepth 100000 in
set_option maxHeartbeats 4000000 in
theorem k_case28 {p : Program} {l : Launch} {e : Env} {s : State} {m : MethodId} {args : Array Value} {below : List Frame} {meth : Method} {c : Code} {H : Heap} {locs : List Loc} {cells slots : Nat} {Q : State → Prop} {ls : Array Slot} {K : KG} {b N i n : Nat} {xs : Nat → Int32} {mc mm : Mem} {adC adM : Nat → Nat → Nat} (C : Cx p s m args meth c cL_law 4 "GlassPalaceLaw" ret) (g : LG K s) (hX : va_X b N xs s s.heap) (hbl : b < s.heap.size) (hN : N ≤ 3072) (hi : i + 6 ≤ N) (hn : n < 100000) (hc : cells + 1 ≤ 600000) (hsl : slots + 11 ≤ 7302250) (J : JJ K n mc mm adC adM H) (hS : va_S (lA s) s.heap H locs) (hl : lv_has ls 4 [(0, .ref b), (1, .ref (kB K)), (2, .ref (adM 0 0)), (3, .int (nI i))]) (kk : ∀ (mc2 mm2 : Mem) (adC2 : Nat → Nat → Nat) (H2 : Heap) (locs2 : List Loc), JJ K (n + 1) mc2 mm2 adC2 adM H2 → va_S (lA s) s.heap H2 locs2 → W p l e room_1 s m args below meth c H2 locs2 (cells + 1) (slots + 11) Q (F0 m 1880 ls [])) : W p l e room_1 s m args below meth c H locs cells slots Q (F0 m 1136 ls []) := by
  obtain ⟨T1, T2, T3⟩ := turnC J.1 J.2.2.1
  have T4 := J.apart
  have T5 := J.home
  obtain ⟨r, mc1, mm1, e1, e2, e3⟩ := pairS (mc := mcT K mc (adT K mc adC H.size)) (mm := mm) (fC := f_X11_want FL (xs (i + 1)) (xs (i + 2)) (xs (i + 3))) (fM := f_X12_want FL (xs (i + 1)) (xs (i + 2)) (xs (i + 3))) (fun v => sim_want (fl := FL) T2.w98 (xs (i + 1)) (xs (i + 2)) (xs (i + 3)))
  refine lv_aload_n C.x C.b dL_law_1136 rfl (lv_at hl 1 rfl) ?_
  refine l_arg (k := 1) C hX hbl hS hl hN (by omega) (by decide) dL_law_1137 dL_law_1138 dL_law_1139 dL_law_1140 dL_law_1141 ?_
  refine l_arg (k := 2) C hX hbl hS hl hN (by omega) (by decide) dL_law_1142 dL_law_1143 dL_law_1144 dL_law_1145 dL_law_1146 ?_
  refine l_arg (k := 3) C hX hbl hS hl hN (by omega) (by decide) dL_law_1147 dL_law_1148 dL_law_1149 dL_law_1150 dL_law_1151 ?_
  refine l_calV (As := [.int (xs (i + 1)), .int (xs (i + 2)), .int (xs (i + 3))]) (rest := []) C g T1 hS mw_X11_want mv_X11_want kl_950 (by decide) ⟨Nat.le_of_ble_eq_true rfl, Nat.le_of_ble_eq_true rfl⟩ (lvC0 Nat.zero_lt_one) kC0 zc11 (c_X11_want (l := l) (K := K) (ad := adT K mc adC H.size) e1) rfl hl.1 (by rw [T5]; rfl) (Nat.le_of_ble_eq_true rfl) dL_law_1152 ⟨by show (_ : Nat) ≤ 600000; omega, by show (_ : Nat) ≤ 7302250; omega⟩ (fun H1 locs1 Z1 S1 F1 => ?_)
  have M1 := J.mid T4 Z1 F1
  refine lv_aload_n C.x C.b dL_law_1155 rfl (lv_at hl 2 rfl) ?_
  refine l_arg (k := 1) C hX hbl S1 hl hN (by omega) (by decide) dL_law_1156 dL_law_1157 dL_law_1158 dL_law_1159 dL_law_1160 ?_
  refine l_arg (k := 2) C hX hbl S1 hl hN (by omega) (by decide) dL_law_1161 dL_law_1162 dL_law_1163 dL_law_1164 dL_law_1165 ?_
  refine l_arg (k := 3) C hX hbl S1 hl hN (by omega) (by decide) dL_law_1166 dL_law_1167 dL_law_1168 dL_law_1169 dL_law_1170 ?_
  refine l_calV (As := [.int (xs (i + 1)), .int (xs (i + 2)), .int (xs (i + 3))]) (rest := [.int r]) C g M1 S1 mw_X12_want mv_X12_want kl_1665 (by decide) ⟨Nat.le_of_ble_eq_true rfl, Nat.le_of_ble_eq_true rfl⟩ (lvM0 Nat.zero_lt_one) kM0 zc12 (c_X12_want (l := l) (K := K) (ad := adM) e2) rfl hl.1 rfl (Nat.le_of_ble_eq_true rfl) dL_law_1171 ⟨by show (_ : Nat) ≤ 600000; omega, by show (_ : Nat) ≤ 7302250; omega⟩ (fun H2 locs2 Z2 S2 F2 => ?_)
  refine lv_icmp_eq (tgt := 1880) C.x C.b dL_law_1174 (by decide) (fun _ => ?_) (fun w => absurd rfl w)
  exact W.widen (by omega) (by omega) (kk _ _ _ _ _ (J.fin T4 T5 Z1 Z2 F2 e3) S2)
set_option maxRecDepth 100000 in
set_option maxHeartbeats 4000000 in
theorem k_case29 {p : Program} {l : Launch} {e : Env} {s : State} {m : MethodId} {args : Array Value} {below : List Frame} {meth : Method} {c : Code} {H : Heap} {locs : List Loc} {cells slots : Nat} {Q : State → Prop} {ls : Array Slot} {K : KG} {b N i n : Nat} {xs : Nat → Int32} {mc mm : Mem} {adC adM : Nat → Nat → Nat} (C : Cx p s m args meth c cL_law 4 "GlassPalaceLaw" ret) (g : LG K s) (hX : va_X b N xs s s.heap) (hbl : b < s.heap.size) (hN : N ≤ 3072) (hi : i + 6 ≤ N) (hn : n < 100000) (hc : cells + 1 ≤ 600000) (hsl : slots + 11 ≤ 7302250) (J : JJ K n mc mm adC adM H) (hS : va_S (lA s) s.heap H locs) (hl : lv_has ls 4 [(0, .ref b), (1, .ref (kB K)), (2, .ref (adM 0 0)), (3, .int (nI i))]) (kk : ∀ (mc2 mm2 : Mem) (adC2 : Nat → Nat → Nat) (H2 : Heap) (locs2 : List Loc), JJ K (n + 1) mc2 mm2 adC2 adM H2 → va_S (lA s) s.heap H2 locs2 → W p l e room_1 s m args below meth c H2 locs2 (cells + 1) (slots + 11) Q (F0 m 1880 ls [])) : W p l e room_1 s m args below meth c H locs cells slots Q (F0 m 1179 ls []) := by
  obtain ⟨T1, T2, T3⟩ := turnC J.1 J.2.2.1
  have T4 := J.apart
  have T5 := J.home
  by_cases hz : xs (i + 3) = 0
  · obtain ⟨r, mc1, mm1, e1, e2, e3⟩ := pairS (mc := mcT K mc (adT K mc adC H.size)) (mm := mm) (fC := f_X11_ahead FL (xs (i + 1)) (xs (i + 2)) 0) (fM := f_X12_ahead FL (xs (i + 1)) (xs (i + 2)) 0) (fun v => sim_ahead (fl := FL) FL_ge T2.w98 (xs (i + 1)) (xs (i + 2)) 0)
    refine lv_aload_n C.x C.b dL_law_1179 rfl (lv_at hl 1 rfl) ?_
    refine l_arg (k := 1) C hX hbl hS hl hN (by omega) (by decide) dL_law_1180 dL_law_1181 dL_law_1182 dL_law_1183 dL_law_1184 ?_
    refine l_arg (k := 2) C hX hbl hS hl hN (by omega) (by decide) dL_law_1185 dL_law_1186 dL_law_1187 dL_law_1188 dL_law_1189 ?_
    refine l_arg (k := 3) C hX hbl hS hl hN (by omega) (by decide) dL_law_1190 dL_law_1191 dL_law_1192 dL_law_1193 dL_law_1194 ?_
    refine lv_if_eq (tgt := 1202) C.x C.b dL_law_1195 (by decide) (fun _ => ?_) (fun w => absurd hz w)
    refine lv_iconst (v := 0) C.x C.b dL_law_1202 (by decide) ?_
    refine l_calV (As := [.int (xs (i + 1)), .int (xs (i + 2)), .int 0]) (rest := []) C g T1 hS mw_X11_ahead mv_X11_ahead kl_958 (by decide) ⟨Nat.le_of_ble_eq_true rfl, Nat.le_of_ble_eq_true rfl⟩ (lvC0 Nat.zero_lt_one) kC0 zc11 (c_X11_ahead (l := l) (K := K) (ad := adT K mc adC H.size) e1) rfl hl.1 (by rw [T5]; rfl) (Nat.le_of_ble_eq_true rfl) dL_law_1203 ⟨by show (_ : Nat) ≤ 600000; omega, by show (_ : Nat) ≤ 7302250; omega⟩ (fun H1 locs1 Z1 S1 F1 => ?_)
    have M1 := J.mid T4 Z1 F1
    refine lv_aload_n C.x C.b dL_law_1206 rfl (lv_at hl 2 rfl) ?_
    refine l_arg (k := 1) C hX hbl S1 hl hN (by omega) (by decide) dL_law_1207 dL_law_1208 dL_law_1209 dL_law_1210 dL_law_1211 ?_
    refine l_arg (k := 2) C hX hbl S1 hl hN (by omega) (by decide) dL_law_1212 dL_law_1213 dL_law_1214 dL_law_1215 dL_law_1216 ?_
    refine l_arg (k := 3) C hX hbl S1 hl hN (by omega) (by decide) dL_law_1217 dL_law_1218 dL_law_1219 dL_law_1220 dL_law_1221 ?_
    refine lv_if_eq (tgt := 1229) C.x C.b dL_law_1222 (by decide) (fun _ => ?_) (fun w => absurd hz w)
    refine lv_iconst (v := 0) C.x C.b dL_law_1229 (by decide) ?_
    refine l_calV (As := [.int (xs (i + 1)), .int (xs (i + 2)), .int 0]) (rest := [.int r]) C g M1 S1 mw_X12_ahead mv_X12_ahead kl_1673 (by decide) ⟨Nat.le_of_ble_eq_true rfl, Nat.le_of_ble_eq_true rfl⟩ (lvM0 Nat.zero_lt_one) kM0 zc12 (c_X12_ahead (l := l) (K := K) (ad := adM) e2) rfl hl.1 rfl (Nat.le_of_ble_eq_true rfl) dL_law_1230 ⟨by show (_ : Nat) ≤ 600000; omega, by show (_ : Nat) ≤ 7302250; omega⟩ (fun H2 locs2 Z2 S2 F2 => ?_)
    refine lv_icmp_eq (tgt := 1880) C.x C.b dL_law_1233 (by decide) (fun _ => ?_) (fun w => absurd rfl w)
    exact W.widen (by omega) (by omega) (kk _ _ _ _ _ (J.fin T4 T5 Z1 Z2 F2 e3) S2)
  · obtain ⟨r, mc1, mm1, e1, e2, e3⟩ := pairS (mc := mcT K mc (adT K mc adC H.size)) (mm := mm) (fC := f_X11_ahead FL (xs (i + 1)) (xs (i + 2)) 1) (fM := f_X12_ahead FL (xs (i + 1)) (xs (i + 2)) 1) (fun v => sim_ahead (fl := FL) FL_ge T2.w98 (xs (i + 1)) (xs (i + 2)) 1)
    refine lv_aload_n C.x C.b dL_law_1179 rfl (lv_at hl 1 rfl) ?_
    refine l_arg (k := 1) C hX hbl hS hl hN (by omega) (by decide) dL_law_1180 dL_law_1181 dL_law_1182 dL_law_1183 dL_law_1184 ?_
    refine l_arg (k := 2) C hX hbl hS hl hN (by omega) (by decide) dL_law_1185 dL_law_1186 dL_law_1187 dL_law_1188 dL_law_1189 ?_
    refine l_arg (k := 3) C hX hbl hS hl hN (by omega) (by decide) dL_law_1190 dL_law_1191 dL_law_1192 dL_law_1193 dL_law_1194 ?_
    refine lv_if_eq (tgt := 1202) C.x C.b dL_law_1195 (by decide) (fun w => absurd w hz) (fun _ => ?_)
    refine lv_iconst (v := 1) C.x C.b dL_law_1198 (by decide) ?_
    refine lv_goto (tgt := 1203) C.x C.b dL_law_1199 (by decide) ?_
    refine l_calV (As := [.int (xs (i + 1)), .int (xs (i + 2)), .int 1]) (rest := []) C g T1 hS mw_X11_ahead mv_X11_ahead kl_958 (by decide) ⟨Nat.le_of_ble_eq_true rfl, Nat.le_of_ble_eq_true rfl⟩ (lvC0 Nat.zero_lt_one) kC0 zc11 (c_X11_ahead (l := l) (K := K) (ad := adT K mc adC H.size) e1) rfl hl.1 (by rw [T5]; rfl) (Nat.le_of_ble_eq_true rfl) dL_law_1203 ⟨by show (_ : Nat) ≤ 600000; omega, by show (_ : Nat) ≤ 7302250; omega⟩ (fun H1 locs1 Z1 S1 F1 => ?_)
    have M1 := J.mid T4 Z1 F1
    refine lv_aload_n C.x C.b dL_law_1206 rfl (lv_at hl 2 rfl) ?_
    refine l_arg (k := 1) C hX hbl S1 hl hN (by omega) (by decide) dL_law_1207 dL_law_1208 dL_law_1209 dL_law_1210 dL_law_1211 ?_
    refine l_arg (k := 2) C hX hbl S1 hl hN (by omega) (by decide) dL_law_1212 dL_law_1213 dL_law_1214 dL_law_1215 dL_law_1216 ?_
    refine l_arg (k := 3) C hX hbl S1 hl hN (by omega) (by decide) dL_law_1217 dL_law_1218 dL_law_1219 dL_law_1220 dL_law_1221 ?_
    refine lv_if_eq (tgt := 1229) C.x C.b dL_law_1222 (by decide) (fun w => absurd w hz) (fun _ => ?_)
    refine lv_iconst (v := 1) C.x C.b dL_law_1225 (by decide) ?_
    refine lv_goto (tgt := 1230) C.x C.b dL_law_1226 (by decide) ?_
    refine l_calV (As := [.int (xs (i + 1)), .int (xs (i + 2)), .int 1]) (rest := [.int r]) C g M1 S1 mw_X12_ahead mv_X12_ahead kl_1673 (by decide) ⟨Nat.le_of_ble_eq_true rfl, Nat.le_of_ble_eq_true rfl⟩ (lvM0 Nat.zero_lt_one) kM0 zc12 (c_X12_ahead (l := l) (K := K) (ad := adM) e2) rfl hl.1 rfl (Nat.le_of_ble_eq_true rfl) dL_law_1230 ⟨by show (_ : Nat) ≤ 600000; omega, by show (_ : Nat) ≤ 7302250; omega⟩ (fun H2 locs2 Z2 S2 F2 => ?_)
    refine lv_icmp_eq (tgt := 1880) C.x C.b dL_law_1233 (by decide) (fun _ => ?_) (fun w => absurd rfl w)
    exact W.widen (by omega) (by omega) (kk _ _ _ _ _ (J.fin T4 T5 Z1 Z2 F2 e3) S2)
set_option maxRecDepth 100000 in
set_option maxHeartbeats 4000000 in
theorem k_case30 {p : Program} {l : Launch} {e : Env} {s : State} {m : MethodId} {args : Array Value} {below : List Frame} {meth : Method} {c : Code} {H : Heap} {locs : List Loc} {cells slots : Nat} {Q : State → Prop} {ls : Array Slot} {K : KG} {b N i n : Nat} {xs : Nat → Int32} {mc mm : Mem} {adC adM : Nat → Nat → Nat} (C : Cx p s m args meth c cL_law 4 "GlassPalaceLaw" ret) (g : LG K s) (hX : va_X b N xs s s.heap) (hbl : b < s.heap.size) (hN : N ≤ 3072) (hi : i + 6 ≤ N) (hn : n < 100000) (hc : cells + 1 ≤ 600000) (hsl : slots + 11 ≤ 7302250) (J : JJ K n mc mm adC adM H) (hS : va_S (lA s) s.heap H locs) (hl : lv_has ls 4 [(0, .ref b), (1, .ref (kB K)), (2, .ref (adM 0 0)), (3, .int (nI i))]) (kk : ∀ (mc2 mm2 : Mem) (adC2 : Nat → Nat → Nat) (H2 : Heap) (locs2 : List Loc), JJ K (n + 1) mc2 mm2 adC2 adM H2 → va_S (lA s) s.heap H2 locs2 → W p l e room_1 s m args below meth c H2 locs2 (cells + 1) (slots + 11) Q (F0 m 1880 ls [])) : W p l e room_1 s m args below meth c H locs cells slots Q (F0 m 1238 ls []) := by
  obtain ⟨T1, T2, T3⟩ := turnC J.1 J.2.2.1
  have T4 := J.apart
  have T5 := J.home
  by_cases hz : xs (i + 3) = 0
  · obtain ⟨r, mc1, mm1, e1, e2, e3⟩ := pairS (mc := mcT K mc (adT K mc adC H.size)) (mm := mm) (fC := f_X11_lack FL (xs (i + 1)) (xs (i + 2)) 0) (fM := f_X12_lack FL (xs (i + 1)) (xs (i + 2)) 0) (fun v => sim_lack (fl := FL) FL_ge T2.w98 (xs (i + 1)) (xs (i + 2)) 0)
    refine lv_aload_n C.x C.b dL_law_1238 rfl (lv_at hl 1 rfl) ?_
    refine l_arg (k := 1) C hX hbl hS hl hN (by omega) (by decide) dL_law_1239 dL_law_1240 dL_law_1241 dL_law_1242 dL_law_1243 ?_
    refine l_arg (k := 2) C hX hbl hS hl hN (by omega) (by decide) dL_law_1244 dL_law_1245 dL_law_1246 dL_law_1247 dL_law_1248 ?_
    refine l_arg (k := 3) C hX hbl hS hl hN (by omega) (by decide) dL_law_1249 dL_law_1250 dL_law_1251 dL_law_1252 dL_law_1253 ?_
    refine lv_if_eq (tgt := 1261) C.x C.b dL_law_1254 (by decide) (fun _ => ?_) (fun w => absurd hz w)
    refine lv_iconst (v := 0) C.x C.b dL_law_1261 (by decide) ?_
    refine l_calV (As := [.int (xs (i + 1)), .int (xs (i + 2)), .int 0]) (rest := []) C g T1 hS mw_X11_lack mv_X11_lack kl_970 (by decide) ⟨Nat.le_of_ble_eq_true rfl, Nat.le_of_ble_eq_true rfl⟩ (lvC0 Nat.zero_lt_one) kC0 zc11 (c_X11_lack (l := l) (K := K) (ad := adT K mc adC H.size) e1) rfl hl.1 (by rw [T5]; rfl) (Nat.le_of_ble_eq_true rfl) dL_law_1262 ⟨by show (_ : Nat) ≤ 600000; omega, by show (_ : Nat) ≤ 7302250; omega⟩ (fun H1 locs1 Z1 S1 F1 => ?_)
    have M1 := J.mid T4 Z1 F1
    refine lv_aload_n C.x C.b dL_law_1265 rfl (lv_at hl 2 rfl) ?_
    refine l_arg (k := 1) C hX hbl S1 hl hN (by omega) (by decide) dL_law_1266 dL_law_1267 dL_law_1268 dL_law_1269 dL_law_1270 ?_
    refine l_arg (k := 2) C hX hbl S1 hl hN (by omega) (by decide) dL_law_1271 dL_law_1272 dL_law_1273 dL_law_1274 dL_law_1275 ?_
    refine l_arg (k := 3) C hX hbl S1 hl hN (by omega) (by decide) dL_law_1276 dL_law_1277 dL_law_1278 dL_law_1279 dL_law_1280 ?_
    refine lv_if_eq (tgt := 1288) C.x C.b dL_law_1281 (by decide) (fun _ => ?_) (fun w => absurd hz w)
    refine lv_iconst (v := 0) C.x C.b dL_law_1288 (by decide) ?_
    refine l_calV (As := [.int (xs (i + 1)), .int (xs (i + 2)), .int 0]) (rest := [.int r]) C g M1 S1 mw_X12_lack mv_X12_lack kl_1681 (by decide) ⟨Nat.le_of_ble_eq_true rfl, Nat.le_of_ble_eq_true rfl⟩ (lvM0 Nat.zero_lt_one) kM0 zc12 (c_X12_lack (l := l) (K := K) (ad := adM) e2) rfl hl.1 rfl (Nat.le_of_ble_eq_true rfl) dL_law_1289 ⟨by show (_ : Nat) ≤ 600000; omega, by show (_ : Nat) ≤ 7302250; omega⟩ (fun H2 locs2 Z2 S2 F2 => ?_)
    refine lv_icmp_eq (tgt := 1880) C.x C.b dL_law_1292 (by decide) (fun _ => ?_) (fun w => absurd rfl w)
    exact W.widen (by omega) (by omega) (kk _ _ _ _ _ (J.fin T4 T5 Z1 Z2 F2 e3) S2)
  · obtain ⟨r, mc1, mm1, e1, e2, e3⟩ := pairS (mc := mcT K mc (adT K mc adC H.size)) (mm := mm) (fC := f_X11_lack FL (xs (i + 1)) (xs (i + 2)) 1) (fM := f_X12_lack FL (xs (i + 1)) (xs (i + 2)) 1) (fun v => sim_lack (fl := FL) FL_ge T2.w98 (xs (i + 1)) (xs (i + 2)) 1)
    refine lv_aload_n C.x C.b dL_law_1238 rfl (lv_at hl 1 rfl) ?_
    refine l_arg (k := 1) C hX hbl hS hl hN (by omega) (by decide) dL_law_1239 dL_law_1240 dL_law_1241 dL_law_1242 dL_law_1243 ?_
    refine l_arg (k := 2) C hX hbl hS hl hN (by omega) (by decide) dL_law_1244 dL_law_1245 dL_law_1246 dL_law_1247 dL_law_1248 ?_
    refine l_arg (k := 3) C hX hbl hS hl hN (by omega) (by decide) dL_law_1249 dL_law_1250 dL_law_1251 dL_law_1252 dL_law_1253 ?_
    refine lv_if_eq (tgt := 1261) C.x C.b dL_law_1254 (by decide) (fun w => absurd w hz) (fun _ => ?_)
    refine lv_iconst (v := 1) C.x C.b dL_law_1257 (by decide) ?_
    refine lv_goto (tgt := 1262) C.x C.b dL_law_1258 (by decide) ?_
    refine l_calV (As := [.int (xs (i + 1)), .int (xs (i + 2)), .int 1]) (rest := []) C g T1 hS mw_X11_lack mv_X11_lack kl_970 (by decide) ⟨Nat.le_of_ble_eq_true rfl, Nat.le_of_ble_eq_true rfl⟩ (lvC0 Nat.zero_lt_one) kC0 zc11 (c_X11_lack (l := l) (K := K) (ad := adT K mc adC H.size) e1) rfl hl.1 (by rw [T5]; rfl) (Nat.le_of_ble_eq_true rfl) dL_law_1262 ⟨by show (_ : Nat) ≤ 600000; omega, by show (_ : Nat) ≤ 7302250; omega⟩ (fun H1 locs1 Z1 S1 F1 => ?_)
    have M1 := J.mid T4 Z1 F1
    refine lv_aload_n C.x C.b dL_law_1265 rfl (lv_at hl 2 rfl) ?_
    refine l_arg (k := 1) C hX hbl S1 hl hN (by omega) (by decide) dL_law_1266 dL_law_1267 dL_law_1268 dL_law_1269 dL_law_1270 ?_
    refine l_arg (k := 2) C hX hbl S1 hl hN (by omega) (by decide) dL_law_1271 dL_law_1272 dL_law_1273 dL_law_1274 dL_law_1275 ?_
    refine l_arg (k := 3) C hX hbl S1 hl hN (by omega) (by decide) dL_law_1276 dL_law_1277 dL_law_1278 dL_law_1279 dL_law_1280 ?_
    refine lv_if_eq (tgt := 1288) C.x C.b dL_law_1281 (by decide) (fun w => absurd w hz) (fun _ => ?_)
    refine lv_iconst (v := 1) C.x C.b dL_law_1284 (by decide) ?_
    refine lv_goto (tgt := 1289) C.x C.b dL_law_1285 (by decide) ?_
    refine l_calV (As := [.int (xs (i + 1)), .int (xs (i + 2)), .int 1]) (rest := [.int r]) C g M1 S1 mw_X12_lack mv_X12_lack kl_1681 (by decide) ⟨Nat.le_of_ble_eq_true rfl, Nat.le_of_ble_eq_true rfl⟩ (lvM0 Nat.zero_lt_one) kM0 zc12 (c_X12_lack (l := l) (K := K) (ad := adM) e2) rfl hl.1 rfl (Nat.le_of_ble_eq_true rfl) dL_law_1289 ⟨by show (_ : Nat) ≤ 600000; omega, by show (_ : Nat) ≤ 7302250; omega⟩ (fun H2 locs2 Z2 S2 F2 => ?_)
    refine lv_icmp_eq (tgt := 1880) C.x C.b dL_law_1292 (by decide) (fun _ => ?_) (fun w => absurd rfl w)
    exact W.widen (by omega) (by omega) (kk _ _ _ _ _ (J.fin T4 T5 Z1 Z2 F2 e3) S2)
set_option maxRecDepth 100000 in
set_option maxHeartbeats 4000000 in
theorem k_case31 {p : Program} {l : Launch} {e : Env} {s : State} {m : MethodId} {args : Array Value} {below : List Frame} {meth : Method} {c : Code} {H : Heap} {locs : List Loc} {cells slots : Nat} {Q : State → Prop} {ls : Array Slot} {K : KG} {b N i n : Nat} {xs : Nat → Int32} {mc mm : Mem} {adC adM : Nat → Nat → Nat} (C : Cx p s m args meth c cL_law 4 "GlassPalaceLaw" ret) (g : LG K s) (hX : va_X b N xs s s.heap) (hbl : b < s.heap.size) (hN : N ≤ 3072) (hi : i + 6 ≤ N) (hn : n < 100000) (hc : cells + 1 ≤ 600000) (hsl : slots + 11 ≤ 7302250) (J : JJ K n mc mm adC adM H) (hS : va_S (lA s) s.heap H locs) (hl : lv_has ls 4 [(0, .ref b), (1, .ref (kB K)), (2, .ref (adM 0 0)), (3, .int (nI i))]) (kk : ∀ (mc2 mm2 : Mem) (adC2 : Nat → Nat → Nat) (H2 : Heap) (locs2 : List Loc), JJ K (n + 1) mc2 mm2 adC2 adM H2 → va_S (lA s) s.heap H2 locs2 → W p l e room_1 s m args below meth c H2 locs2 (cells + 1) (slots + 11) Q (F0 m 1880 ls [])) : W p l e room_1 s m args below meth c H locs cells slots Q (F0 m 1297 ls []) := by
  obtain ⟨T1, T2, T3⟩ := turnC J.1 J.2.2.1
  have T4 := J.apart
  have T5 := J.home
  obtain ⟨r, mc1, mm1, e1, e2, e3⟩ := pairS (mc := mcT K mc (adT K mc adC H.size)) (mm := mm) (fC := f_X11_more FL (xs (i + 1)) (xs (i + 2)) (xs (i + 3)) (xs (i + 4))) (fM := f_X12_more FL (xs (i + 1)) (xs (i + 2)) (xs (i + 3)) (xs (i + 4))) (fun v => sim_more (fl := FL) T2.w98 (xs (i + 1)) (xs (i + 2)) (xs (i + 3)) (xs (i + 4)))
  refine lv_aload_n C.x C.b dL_law_1297 rfl (lv_at hl 1 rfl) ?_
  refine l_arg (k := 1) C hX hbl hS hl hN (by omega) (by decide) dL_law_1298 dL_law_1299 dL_law_1300 dL_law_1301 dL_law_1302 ?_
  refine l_arg (k := 2) C hX hbl hS hl hN (by omega) (by decide) dL_law_1303 dL_law_1304 dL_law_1305 dL_law_1306 dL_law_1307 ?_
  refine l_arg (k := 3) C hX hbl hS hl hN (by omega) (by decide) dL_law_1308 dL_law_1309 dL_law_1310 dL_law_1311 dL_law_1312 ?_
  refine l_arg (k := 4) C hX hbl hS hl hN (by omega) (by decide) dL_law_1313 dL_law_1314 dL_law_1315 dL_law_1316 dL_law_1317 ?_
  refine l_calV (As := [.int (xs (i + 1)), .int (xs (i + 2)), .int (xs (i + 3)), .int (xs (i + 4))]) (rest := []) C g T1 hS mw_X11_more mv_X11_more kl_994 (by decide) ⟨Nat.le_of_ble_eq_true rfl, Nat.le_of_ble_eq_true rfl⟩ (lvC0 Nat.zero_lt_one) kC0 zc11 (c_X11_more (l := l) (K := K) (ad := adT K mc adC H.size) e1) rfl hl.1 (by rw [T5]; rfl) (Nat.le_of_ble_eq_true rfl) dL_law_1318 ⟨by show (_ : Nat) ≤ 600000; omega, by show (_ : Nat) ≤ 7302250; omega⟩ (fun H1 locs1 Z1 S1 F1 => ?_)
  have M1 := J.mid T4 Z1 F1
  refine lv_aload_n C.x C.b dL_law_1321 rfl (lv_at hl 2 rfl) ?_
  refine l_arg (k := 1) C hX hbl S1 hl hN (by omega) (by decide) dL_law_1322 dL_law_1323 dL_law_1324 dL_law_1325 dL_law_1326 ?_
  refine l_arg (k := 2) C hX hbl S1 hl hN (by omega) (by decide) dL_law_1327 dL_law_1328 dL_law_1329 dL_law_1330 dL_law_1331 ?_
  refine l_arg (k := 3) C hX hbl S1 hl hN (by omega) (by decide) dL_law_1332 dL_law_1333 dL_law_1334 dL_law_1335 dL_law_1336 ?_
  refine l_arg (k := 4) C hX hbl S1 hl hN (by omega) (by decide) dL_law_1337 dL_law_1338 dL_law_1339 dL_law_1340 dL_law_1341 ?_
  refine l_calV (As := [.int (xs (i + 1)), .int (xs (i + 2)), .int (xs (i + 3)), .int (xs (i + 4))]) (rest := [.int r]) C g M1 S1 mw_X12_more mv_X12_more kl_1693 (by decide) ⟨Nat.le_of_ble_eq_true rfl, Nat.le_of_ble_eq_true rfl⟩ (lvM0 Nat.zero_lt_one) kM0 zc12 (c_X12_more (l := l) (K := K) (ad := adM) e2) rfl hl.1 rfl (Nat.le_of_ble_eq_true rfl) dL_law_1342 ⟨by show (_ : Nat) ≤ 600000; omega, by show (_ : Nat) ≤ 7302250; omega⟩ (fun H2 locs2 Z2 S2 F2 => ?_)
  refine lv_icmp_eq (tgt := 1880) C.x C.b dL_law_1345 (by decide) (fun _ => ?_) (fun w => absurd rfl w)
  exact W.widen (by omega) (by omega) (kk _ _ _ _ _ (J.fin T4 T5 Z1 Z2 F2 e3) S2)
set_option maxRecDepth 100000 in
set_option maxHeartbeats 4000000 in
theorem k_case32 {p : Program} {l : Launch} {e : Env} {s : State} {m : MethodId} {args : Array Value} {below : List Frame} {meth : Method} {c : Code} {H : Heap} {locs : List Loc} {cells slots : Nat} {Q : State → Prop} {ls : Array Slot} {K : KG} {b N i n : Nat} {xs : Nat → Int32} {mc mm : Mem} {adC adM : Nat → Nat → Nat} (C : Cx p s m args meth c cL_law 4 "GlassPalaceLaw" ret) (g : LG K s) (hX : va_X b N xs s s.heap) (hbl : b < s.heap.size) (hN : N ≤ 3072) (hi : i + 6 ≤ N) (hn : n < 100000) (hc : cells + 1 ≤ 600000) (hsl : slots + 11 ≤ 7302250) (J : JJ K n mc mm adC adM H) (hS : va_S (lA s) s.heap H locs) (hl : lv_has ls 4 [(0, .ref b), (1, .ref (kB K)), (2, .ref (adM 0 0)), (3, .int (nI i))]) (kk : ∀ (mc2 mm2 : Mem) (adC2 : Nat → Nat → Nat) (H2 : Heap) (locs2 : List Loc), JJ K (n + 1) mc2 mm2 adC2 adM H2 → va_S (lA s) s.heap H2 locs2 → W p l e room_1 s m args below meth c H2 locs2 (cells + 1) (slots + 11) Q (F0 m 1880 ls [])) : W p l e room_1 s m args below meth c H locs cells slots Q (F0 m 1350 ls []) := by
  obtain ⟨T1, T2, T3⟩ := turnC J.1 J.2.2.1
  have T4 := J.apart
  have T5 := J.home
  obtain ⟨r, mc1, mm1, e1, e2, e3⟩ := pairS (mc := mcT K mc (adT K mc adC H.size)) (mm := mm) (fC := f_X11_best FL) (fM := f_X12_best FL) (fun v => sim_best (fl := FL) FL_ge T2.w98)
  refine lv_aload_n C.x C.b dL_law_1350 rfl (lv_at hl 1 rfl) ?_
  refine l_calV (As := []) (rest := []) C g T1 hS mw_X11_best mv_X11_best kl_1002 (by decide) ⟨Nat.le_of_ble_eq_true rfl, Nat.le_of_ble_eq_true rfl⟩ (lvC0 Nat.zero_lt_one) kC0 zc11 (c_X11_best (l := l) (K := K) (ad := adT K mc adC H.size) e1) rfl hl.1 (by rw [T5]; rfl) (Nat.le_of_ble_eq_true rfl) dL_law_1351 ⟨by show (_ : Nat) ≤ 600000; omega, by show (_ : Nat) ≤ 7302250; omega⟩ (fun H1 locs1 Z1 S1 F1 => ?_)
  have M1 := J.mid T4 Z1 F1
  refine lv_aload_n C.x C.b dL_law_1354 rfl (lv_at hl 2 rfl) ?_
  refine l_calV (As := []) (rest := [.int r]) C g M1 S1 mw_X12_best mv_X12_best kl_1697 (by decide) ⟨Nat.le_of_ble_eq_true rfl, Nat.le_of_ble_eq_true rfl⟩ (lvM0 Nat.zero_lt_one) kM0 zc12 (c_X12_best (l := l) (K := K) (ad := adM) e2) rfl hl.1 rfl (Nat.le_of_ble_eq_true rfl) dL_law_1355 ⟨by show (_ : Nat) ≤ 600000; omega, by show (_ : Nat) ≤ 7302250; omega⟩ (fun H2 locs2 Z2 S2 F2 => ?_)
  refine lv_icmp_eq (tgt := 1880) C.x C.b dL_law_1358 (by decide) (fun _ => ?_) (fun w => absurd rfl w)
  exact W.widen (by omega) (by omega) (kk _ _ _ _ _ (J.fin T4 T5 Z1 Z2 F2 e3) S2)
set_option maxRecDepth 100000 in
set_option maxHeartbeats 4000000 in
theorem k_case33 {p : Program} {l : Launch} {e : Env} {s : State} {m : MethodId} {args : Array Value} {below : List Frame} {meth : Method} {c : Code} {H : Heap} {locs : List Loc} {cells slots : Nat} {Q : State → Prop} {ls : Array Slot} {K : KG} {b N i n : Nat} {xs : Nat → Int32} {mc mm : Mem} {adC adM : Nat → Nat → Nat} (C : Cx p s m args meth c cL_law 4 "GlassPalaceLaw" ret) (g : LG K s) (hX : va_X b N xs s s.heap) (hbl : b < s.heap.size) (hN : N ≤ 3072) (hi : i + 6 ≤ N) (hn : n < 100000) (hc : cells + 1 ≤ 600000) (hsl : slots + 11 ≤ 7302250) (J : JJ K n mc mm adC adM H) (hS : va_S (lA s) s.heap H locs) (hl : lv_has ls 4 [(0, .ref b), (1, .ref (kB K)), (2, .ref (adM 0 0)), (3, .int (nI i))]) (kk : ∀ (mc2 mm2 : Mem) (adC2 : Nat → Nat → Nat) (H2 : Heap) (locs2 : List Loc), JJ K (n + 1) mc2 mm2 adC2 adM H2 → va_S (lA s) s.heap H2 locs2 → W p l e room_1 s m args below meth c H2 locs2 (cells + 1) (slots + 11) Q (F0 m 1880 ls [])) : W p l e room_1 s m args below meth c H locs cells slots Q (F0 m 1363 ls []) := by
  obtain ⟨T1, T2, T3⟩ := turnC J.1 J.2.2.1
  have T4 := J.apart
  have T5 := J.home
  obtain ⟨r, mc1, mm1, e1, e2, e3⟩ := pairS (mc := mcT K mc (adT K mc adC H.size)) (mm := mm) (fC := f_X11_let FL (xs (i + 1)) (xs (i + 2))) (fM := f_X12_let FL (xs (i + 1)) (xs (i + 2))) (fun v => sim_let (fl := FL) FL_ge T2.w98 (xs (i + 1)) (xs (i + 2)))
  refine lv_aload_n C.x C.b dL_law_1363 rfl (lv_at hl 1 rfl) ?_
  refine l_arg (k := 1) C hX hbl hS hl hN (by omega) (by decide) dL_law_1364 dL_law_1365 dL_law_1366 dL_law_1367 dL_law_1368 ?_
  refine l_arg (k := 2) C hX hbl hS hl hN (by omega) (by decide) dL_law_1369 dL_law_1370 dL_law_1371 dL_law_1372 dL_law_1373 ?_
  refine l_calV (As := [.int (xs (i + 1)), .int (xs (i + 2))]) (rest := []) C g T1 hS mw_X11_let mv_X11_let kl_1021 (by decide) ⟨Nat.le_of_ble_eq_true rfl, Nat.le_of_ble_eq_true rfl⟩ (lvC0 Nat.zero_lt_one) kC0 zc11 (c_X11_let (l := l) (K := K) (ad := adT K mc adC H.size) e1) rfl hl.1 (by rw [T5]; rfl) (Nat.le_of_ble_eq_true rfl) dL_law_1374 ⟨by show (_ : Nat) ≤ 600000; omega, by show (_ : Nat) ≤ 7302250; omega⟩ (fun H1 locs1 Z1 S1 F1 => ?_)
  have M1 := J.mid T4 Z1 F1
  refine lv_aload_n C.x C.b dL_law_1377 rfl (lv_at hl 2 rfl) ?_
  refine l_arg (k := 1) C hX hbl S1 hl hN (by omega) (by decide) dL_law_1378 dL_law_1379 dL_law_1380 dL_law_1381 dL_law_1382 ?_
  refine l_arg (k := 2) C hX hbl S1 hl hN (by omega) (by decide) dL_law_1383 dL_law_1384 dL_law_1385 dL_law_1386 dL_law_1387 ?_
  refine l_calV (As := [.int (xs (i + 1)), .int (xs (i + 2))]) (rest := [.int r]) C g M1 S1 mw_X12_let mv_X12_let kl_1701 (by decide) ⟨Nat.le_of_ble_eq_true rfl, Nat.le_of_ble_eq_true rfl⟩ (lvM0 Nat.zero_lt_one) kM0 zc12 (c_X12_let (l := l) (K := K) (ad := adM) e2) rfl hl.1 rfl (Nat.le_of_ble_eq_true rfl) dL_law_1388 ⟨by show (_ : Nat) ≤ 600000; omega, by show (_ : Nat) ≤ 7302250; omega⟩ (fun H2 locs2 Z2 S2 F2 => ?_)
  refine lv_icmp_eq (tgt := 1880) C.x C.b dL_law_1391 (by decide) (fun _ => ?_) (fun w => absurd rfl w)
  exact W.widen (by omega) (by omega) (kk _ _ _ _ _ (J.fin T4 T5 Z1 Z2 F2 e3) S2)
set_option maxRecDepth 100000 in
set_option maxHeartbeats 4000000 in
theorem k_case34 {p : Program} {l : Launch} {e : Env} {s : State} {m : MethodId} {args : Array Value} {below : List Frame} {meth : Method} {c : Code} {H : Heap} {locs : List Loc} {cells slots : Nat} {Q : State → Prop} {ls : Array Slot} {K : KG} {b N i n : Nat} {xs : Nat → Int32} {mc mm : Mem} {adC adM : Nat → Nat → Nat} (C : Cx p s m args meth c cL_law 4 "GlassPalaceLaw" ret) (g : LG K s) (hX : va_X b N xs s s.heap) (hbl : b < s.heap.size) (hN : N ≤ 3072) (hi : i + 6 ≤ N) (hn : n < 100000) (hc : cells + 1 ≤ 600000) (hsl : slots + 11 ≤ 7302250) (J : JJ K n mc mm adC adM H) (hS : va_S (lA s) s.heap H locs) (hl : lv_has ls 4 [(0, .ref b), (1, .ref (kB K)), (2, .ref (adM 0 0)), (3, .int (nI i))]) (kk : ∀ (mc2 mm2 : Mem) (adC2 : Nat → Nat → Nat) (H2 : Heap) (locs2 : List Loc), JJ K (n + 1) mc2 mm2 adC2 adM H2 → va_S (lA s) s.heap H2 locs2 → W p l e room_1 s m args below meth c H2 locs2 (cells + 1) (slots + 11) Q (F0 m 1880 ls [])) : W p l e room_1 s m args below meth c H locs cells slots Q (F0 m 1396 ls []) := by
  obtain ⟨T1, T2, T3⟩ := turnC J.1 J.2.2.1
  have T4 := J.apart
  have T5 := J.home
  obtain ⟨r, mc1, mm1, e1, e2, e3⟩ := pairS (mc := mcT K mc (adT K mc adC H.size)) (mm := mm) (fC := f_X11_nation FL (xs (i + 1)) (xs (i + 2))) (fM := f_X12_nation FL (xs (i + 1)) (xs (i + 2))) (fun v => sim_nation (fl := FL) T2.w98 (xs (i + 1)) (xs (i + 2)))
  refine lv_aload_n C.x C.b dL_law_1396 rfl (lv_at hl 1 rfl) ?_
  refine l_arg (k := 1) C hX hbl hS hl hN (by omega) (by decide) dL_law_1397 dL_law_1398 dL_law_1399 dL_law_1400 dL_law_1401 ?_
  refine l_arg (k := 2) C hX hbl hS hl hN (by omega) (by decide) dL_law_1402 dL_law_1403 dL_law_1404 dL_law_1405 dL_law_1406 ?_
  refine l_calV (As := [.int (xs (i + 1)), .int (xs (i + 2))]) (rest := []) C g T1 hS mw_X11_nation mv_X11_nation kl_1044 (by decide) ⟨Nat.le_of_ble_eq_true rfl, Nat.le_of_ble_eq_true rfl⟩ (lvC0 Nat.zero_lt_one) kC0 zc11 (c_X11_nation (l := l) (K := K) (ad := adT K mc adC H.size) e1) rfl hl.1 (by rw [T5]; rfl) (Nat.le_of_ble_eq_true rfl) dL_law_1407 ⟨by show (_ : Nat) ≤ 600000; omega, by show (_ : Nat) ≤ 7302250; omega⟩ (fun H1 locs1 Z1 S1 F1 => ?_)
  have M1 := J.mid T4 Z1 F1
  refine lv_aload_n C.x C.b dL_law_1410 rfl (lv_at hl 2 rfl) ?_
  refine l_arg (k := 1) C hX hbl S1 hl hN (by omega) (by decide) dL_law_1411 dL_law_1412 dL_law_1413 dL_law_1414 dL_law_1415 ?_
  refine l_arg (k := 2) C hX hbl S1 hl hN (by omega) (by decide) dL_law_1416 dL_law_1417 dL_law_1418 dL_law_1419 dL_law_1420 ?_
  refine l_calV (As := [.int (xs (i + 1)), .int (xs (i + 2))]) (rest := [.int r]) C g M1 S1 mw_X12_nation mv_X12_nation kl_1709 (by decide) ⟨Nat.le_of_ble_eq_true rfl, Nat.le_of_ble_eq_true rfl⟩ (lvM0 Nat.zero_lt_one) kM0 zc12 (c_X12_nation (l := l) (K := K) (ad := adM) e2) rfl hl.1 rfl (Nat.le_of_ble_eq_true rfl) dL_law_1421 ⟨by show (_ : Nat) ≤ 600000; omega, by show (_ : Nat) ≤ 7302250; omega⟩ (fun H2 locs2 Z2 S2 F2 => ?_)
  refine lv_icmp_eq (tgt := 1880) C.x C.b dL_law_1424 (by decide) (fun _ => ?_) (fun w => absurd rfl w)
  exact W.widen (by omega) (by omega) (kk _ _ _ _ _ (J.fin T4 T5 Z1 Z2 F2 e3) S2)
set_option maxRecDepth 100000 in
set_option maxHeartbeats 4000000 in
theorem k_case35 {p : Program} {l : Launch} {e : Env} {s : State} {m : MethodId} {args : Array Value} {below : List Frame} {meth : Method} {c : Code} {H : Heap} {locs : List Loc} {cells slots : Nat} {Q : State → Prop} {ls : Array Slot} {K : KG} {b N i n : Nat} {xs : Nat → Int32} {mc mm : Mem} {adC adM : Nat → Nat → Nat} (C : Cx p s m args meth c cL_law 4 "GlassPalaceLaw" ret) (g : LG K s) (hX : va_X b N xs s s.heap) (hbl : b < s.heap.size) (hN : N ≤ 3072) (hi : i + 6 ≤ N) (hn : n < 100000) (hc : cells + 1 ≤ 600000) (hsl : slots + 11 ≤ 7302250) (J : JJ K n mc mm adC adM H) (hS : va_S (lA s) s.heap H locs) (hl : lv_has ls 4 [(0, .ref b), (1, .ref (kB K)), (2, .ref (adM 0 0)), (3, .int (nI i))]) (kk : ∀ (mc2 mm2 : Mem) (adC2 : Nat → Nat → Nat) (H2 : Heap) (locs2 : List Loc), JJ K (n + 1) mc2 mm2 adC2 adM H2 → va_S (lA s) s.heap H2 locs2 → W p l e room_1 s m args below meth c H2 locs2 (cells + 1) (slots + 11) Q (F0 m 1880 ls [])) : W p l e room_1 s m args below meth c H locs cells slots Q (F0 m 1429 ls []) := by
  obtain ⟨T1, T2, T3⟩ := turnC J.1 J.2.2.1
  have T4 := J.apart
  have T5 := J.home
  obtain ⟨r, mc1, mm1, e1, e2, e3⟩ := pairS (mc := mcT K mc (adT K mc adC H.size)) (mm := mm) (fC := f_X11_unbuild FL (xs (i + 1))) (fM := f_X12_unbuild FL (xs (i + 1))) (fun v => sim_unbuild (fl := FL) FL_ge T2.w98 (xs (i + 1)))
  refine lv_aload_n C.x C.b dL_law_1429 rfl (lv_at hl 1 rfl) ?_
  refine l_arg (k := 1) C hX hbl hS hl hN (by omega) (by decide) dL_law_1430 dL_law_1431 dL_law_1432 dL_law_1433 dL_law_1434 ?_
  refine l_calV (As := [.int (xs (i + 1))]) (rest := []) C g T1 hS mw_X11_unbuild mv_X11_unbuild kl_1048 (by decide) ⟨Nat.le_of_ble_eq_true rfl, Nat.le_of_ble_eq_true rfl⟩ (lvC0 Nat.zero_lt_one) kC0 zc11 (c_X11_unbuild (l := l) (K := K) (ad := adT K mc adC H.size) e1) rfl hl.1 (by rw [T5]; rfl) (Nat.le_of_ble_eq_true rfl) dL_law_1435 ⟨by show (_ : Nat) ≤ 600000; omega, by show (_ : Nat) ≤ 7302250; omega⟩ (fun H1 locs1 Z1 S1 F1 => ?_)
  have M1 := J.mid T4 Z1 F1
  refine lv_aload_n C.x C.b dL_law_1438 rfl (lv_at hl 2 rfl) ?_
  refine l_arg (k := 1) C hX hbl S1 hl hN (by omega) (by decide) dL_law_1439 dL_law_1440 dL_law_1441 dL_law_1442 dL_law_1443 ?_
  refine l_calV (As := [.int (xs (i + 1))]) (rest := [.int r]) C g M1 S1 mw_X12_unbuild mv_X12_unbuild kl_1713 (by decide) ⟨Nat.le_of_ble_eq_true rfl, Nat.le_of_ble_eq_true rfl⟩ (lvM0 Nat.zero_lt_one) kM0 zc12 (c_X12_unbuild (l := l) (K := K) (ad := adM) e2) rfl hl.1 rfl (Nat.le_of_ble_eq_true rfl) dL_law_1444 ⟨by show (_ : Nat) ≤ 600000; omega, by show (_ : Nat) ≤ 7302250; omega⟩ (fun H2 locs2 Z2 S2 F2 => ?_)
  refine lv_icmp_eq (tgt := 1880) C.x C.b dL_law_1447 (by decide) (fun _ => ?_) (fun w => absurd rfl w)
  exact W.widen (by omega) (by omega) (kk _ _ _ _ _ (J.fin T4 T5 Z1 Z2 F2 e3) S2)
