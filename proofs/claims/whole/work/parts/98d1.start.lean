/-! the start: what the Statement gives of classes, rows, statics -/
section LS
variable {s : State} {args : Array Value}
theorem s_low : ∀ a : Nat, a < s.heap.size → ¬ lA s a := fun a h w => by
  have w : s.heap.size ≤ a := w
  omega
theorem s_obj {C : String} (h : (Cond.arrayOver (.object C)).before args s = true) : ∃ cA, ArrOfT s cA (.object C) ∧ va_RA s cA (.object C) := by
  obtain ⟨comp, cA, kA, h1, h2, h3, h4, h5⟩ := Cond.arrayOver_spec h
  exact ⟨cA, fun n z => ⟨fun k h => (by cases h), kA, h3, comp, h4⟩, kA, comp, h3, h4, h1, h5⟩
theorem s_int (h : (Cond.arrayClass .int).before args s = true) : ∃ cA, ArrOfT s cA .int ∧ va_RA s cA .int := by
  obtain ⟨cA, kA, comp, h1, h2, h3⟩ := Cond.arrayClass_spec h
  exact ⟨cA, fun n z => ⟨fun k h => (by cases h), kA, h2, comp, h3⟩, h1⟩
theorem s_long (h : (Cond.arrayClass .long).before args s = true) : ∃ cA, ArrOfT s cA .long ∧ va_RA s cA .long := by
  obtain ⟨cA, kA, comp, h1, h2, h3⟩ := Cond.arrayClass_spec h
  exact ⟨cA, fun n z => ⟨fun k h => (by cases h), kA, h2, comp, h3⟩, h1⟩
theorem s_boolean (h : (Cond.arrayClass .boolean).before args s = true) : ∃ cA, ArrOfT s cA .boolean ∧ va_RA s cA .boolean := by
  obtain ⟨cA, kA, comp, h1, h2, h3⟩ := Cond.arrayClass_spec h
  exact ⟨cA, fun n z => ⟨fun k h => (by cases h), kA, h2, comp, h3⟩, h1⟩
theorem s_tys (hts : ∀ w ∈ lw_tbl, w.before args s = true) : ∃ f : FieldType → ClassId, ∀ (k : Nat) (q : ClassId × FieldType), (ztys.map fun t => (f t, t))[k]? = some q → ArrOfT s q.1 q.2 ∧ va_RA s q.1 q.2 := by
  have h : ∀ t : FieldType, ∃ cA : ClassId, t ∈ ztys → ArrOfT s cA t ∧ va_RA s cA t := by
    intro t
    by_cases ht : t ∈ ztys
    · have h2 : ∃ cA, ArrOfT s cA t ∧ va_RA s cA t := by
        simp only [ztys, List.mem_cons, List.not_mem_nil, or_false] at ht
        rcases ht with rfl | rfl | rfl | rfl | rfl | rfl | rfl | rfl
        · exact s_int (args := args) (hts _ (List.mem_of_getElem? (i := 155) (by decide +kernel)))
        · exact s_long (args := args) (hts _ (List.mem_of_getElem? (i := 361) (by decide +kernel)))
        · exact s_boolean (args := args) (hts _ (List.mem_of_getElem? (i := 1393) (by decide +kernel)))
        · exact s_obj (args := args) (C := RX4) (hts _ (List.mem_of_getElem? (i := 132) (by decide +kernel)))
        · exact s_obj (args := args) (C := RX1) (hts _ (List.mem_of_getElem? (i := 134) (by decide +kernel)))
        · exact s_obj (args := args) (C := RX9) (hts _ (List.mem_of_getElem? (i := 163) (by decide +kernel)))
        · exact s_obj (args := args) (C := RX2) (hts _ (List.mem_of_getElem? (i := 227) (by decide +kernel)))
        · exact s_obj (args := args) (C := RX8) (hts _ (List.mem_of_getElem? (i := 304) (by decide +kernel)))
      obtain ⟨cA, h2⟩ := h2
      exact ⟨cA, fun _ => h2⟩
    · exact ⟨0, fun q => absurd q ht⟩
  obtain ⟨f, hf⟩ := Classical.axiomOfChoice h
  refine ⟨f, fun k q hq => ?_⟩
  rw [List.getElem?_map] at hq
  obtain ⟨t, ht, rfl⟩ := Option.map_eq_some_iff.mp hq
  exact hf t (List.mem_of_getElem? ht)
theorem s_cls (hts : ∀ w ∈ lw_tbl, w.before args s = true) : ∃ D : va_G, ∀ (c : Nat) (q : vw_C), zcl[c]? = some q → u_Kn s q.1 q.2.1 q.2.2 (D.1 c) (D.2 c) := by
  have hz : ∀ w ∈ ztb, w.before args s = true := fun w hw => hts w (List.mem_filter.mp hw).1
  have h : ∀ i : Nat, ∃ x : ClassId × (Nat → Nat), ∀ q, zcl[i]? = some q → u_Kn s q.1 q.2.1 q.2.2 x.1 x.2 := by
    intro i
    by_cases hi : i < 13
    · rcases (show i = 0 ∨ i = 1 ∨ i = 2 ∨ i = 3 ∨ i = 4 ∨ i = 5 ∨ i = 6 ∨ i = 7 ∨ i = 8 ∨ i = 9 ∨ i = 10 ∨ i = 11 ∨ i = 12 by omega) with rfl | rfl | rfl | rfl | rfl | rfl | rfl | rfl | rfl | rfl | rfl | rfl | rfl
      · obtain ⟨a, b, h⟩ := u_known (ws := ztb) (C := RX0) (T := TX0) (N := 2) (n := 2) hz zin0 (hts (.instantiable RX0 2) (List.mem_of_getElem? (i := 290) (by decide +kernel)))
        exact ⟨(a, b), fun q hq => by
          cases (zc0.symm.trans hq)
          exact h⟩
      · obtain ⟨a, b, h⟩ := u_known (ws := ztb) (C := RX1) (T := TX1) (N := 8) (n := 8) hz zin1 (hts (.instantiable RX1 8) (List.mem_of_getElem? (i := 305) (by decide +kernel)))
        exact ⟨(a, b), fun q hq => by
          cases (zc1.symm.trans hq)
          exact h⟩
      · obtain ⟨a, b, h⟩ := u_known (ws := ztb) (C := RX2) (T := TX2) (N := 5) (n := 5) hz zin2 (hts (.instantiable RX2 5) (List.mem_of_getElem? (i := 900) (by decide +kernel)))
        exact ⟨(a, b), fun q hq => by
          cases (zc2.symm.trans hq)
          exact h⟩
      · obtain ⟨a, b, h⟩ := u_known (ws := ztb) (C := RX3) (T := TX3) (N := 3) (n := 3) hz zin3 (hts (.instantiable RX3 3) (List.mem_of_getElem? (i := 157) (by decide +kernel)))
        exact ⟨(a, b), fun q hq => by
          cases (zc3.symm.trans hq)
          exact h⟩
      · obtain ⟨a, b, h⟩ := u_known (ws := ztb) (C := RX4) (T := TX4) (N := 11) (n := 11) hz zin4 (hts (.instantiable RX4 11) (List.mem_of_getElem? (i := 452) (by decide +kernel)))
        exact ⟨(a, b), fun q hq => by
          cases (zc4.symm.trans hq)
          exact h⟩
      · obtain ⟨a, b, h⟩ := u_known (ws := ztb) (C := RX5) (T := TX5) (N := 3) (n := 3) hz zin5 (hts (.instantiable RX5 3) (List.mem_of_getElem? (i := 271) (by decide +kernel)))
        exact ⟨(a, b), fun q hq => by
          cases (zc5.symm.trans hq)
          exact h⟩
      · obtain ⟨a, b, h⟩ := u_known (ws := ztb) (C := RX6) (T := TX6) (N := 10) (n := 10) hz zin6 (hts (.instantiable RX6 10) (List.mem_of_getElem? (i := 229) (by decide +kernel)))
        exact ⟨(a, b), fun q hq => by
          cases (zc6.symm.trans hq)
          exact h⟩
      · obtain ⟨a, b, h⟩ := u_known (ws := ztb) (C := RX7) (T := TX7) (N := 4) (n := 4) hz zin7 (hts (.instantiable RX7 4) (List.mem_of_getElem? (i := 136) (by decide +kernel)))
        exact ⟨(a, b), fun q hq => by
          cases (zc7.symm.trans hq)
          exact h⟩
      · obtain ⟨a, b, h⟩ := u_known (ws := ztb) (C := RX8) (T := TX8) (N := 3) (n := 3) hz zin8 (hts (.instantiable RX8 3) (List.mem_of_getElem? (i := 344) (by decide +kernel)))
        exact ⟨(a, b), fun q hq => by
          cases (zc8.symm.trans hq)
          exact h⟩
      · obtain ⟨a, b, h⟩ := u_known (ws := ztb) (C := RX9) (T := TX9) (N := 6) (n := 6) hz zin9 (hts (.instantiable RX9 6) (List.mem_of_getElem? (i := 164) (by decide +kernel)))
        exact ⟨(a, b), fun q hq => by
          cases (zc9.symm.trans hq)
          exact h⟩
      · obtain ⟨a, b, h⟩ := u_known (ws := ztb) (C := RX10) (T := TX10) (N := 5) (n := 5) hz zin10 (hts (.instantiable RX10 5) (List.mem_of_getElem? (i := 202) (by decide +kernel)))
        exact ⟨(a, b), fun q hq => by
          cases (zc10.symm.trans hq)
          exact h⟩
      · obtain ⟨a, b, h⟩ := u_known (ws := ztb) (C := RX11) (T := TX11) (N := 15) (n := 15) hz zin11 (hts (.instantiable RX11 15) (List.mem_of_getElem? (i := 124) (by decide +kernel)))
        exact ⟨(a, b), fun q hq => by
          cases (zc11.symm.trans hq)
          exact h⟩
      · obtain ⟨a, b, h⟩ := u_known (ws := ztb) (C := RX12) (T := TX12) (N := 72) (n := 72) hz zin12 (hts (.instantiable RX12 72) (List.mem_of_getElem? (i := 1171) (by decide +kernel)))
        exact ⟨(a, b), fun q hq => by
          cases (zc12.symm.trans hq)
          exact h⟩
    · exact ⟨(0, fun _ => 0), fun q hq => by
        have e : zcl[i]? = none := List.getElem?_eq_none (by show 13 ≤ i; omega)
        rw [e] at hq
        cases hq⟩
  obtain ⟨f, hf⟩ := Classical.axiomOfChoice h
  exact ⟨(fun i => (f i).1, fun i => (f i).2), fun c q hq => hf c q hq⟩
set_option maxRecDepth 100000 in
theorem s_stat (hts : ∀ w ∈ lw_tbl, w.before args s = true) (hgv : (Jvm.Cond.and given_1 narrow_1).before args s = true) : ∃ (a b q v : Nat) (x : Value), (va_Z "GlassPalace$Laws" "WITHOUT" "[I" (.ref a) (lA s) s s.heap ∧ va_T .int a 4 (fun j => .int (tWo j)) (lA s) s s.heap) ∧ (va_Z "GlassPalace$Script" "STARTS" "[I" (.ref b) (lA s) s s.heap ∧ va_T .int b 7 (fun j => .int (tSt j)) (lA s) s s.heap) ∧ vk_R "GlassPalace$Script" 74 "pack pay load snow cut bar " q s ∧ vk_S 1 [27] [lSp] (fun _ => q) (fun _ => v) (lA s) s s.heap ∧ va_Z "java/lang/String" "COMPACT_STRINGS" "Z" (.int 1) (lA s) s s.heap ∧ va_Z "jdk/internal/util/Preconditions" "SIOOBE_FORMATTER" "Ljava/util/function/BiFunction;" x (lA s) s s.heap ∧ (x = .null ∨ ∃ t, x = .ref t) := by
  have hs := flat_of_before _ hgv
  obtain ⟨a, a1, a2⟩ := va_Tof (args := args) (tm := .static "GlassPalace$Laws" "WITHOUT" "[I") (ty := .int) (N := 4) (f := fun j => .int (tWo j)) (A := lA s) (by decide) (hs _ (by decide +kernel)) (va_eqt (hs (.eq (.length (.static "GlassPalace$Laws" "WITHOUT" "[I")) (.int 4)) (by decide +kernel))) (fun j hj => by
    rcases (show j = 0 ∨ j = 1 ∨ j = 2 ∨ j = 3 by omega) with rfl | rfl | rfl | rfl
    · exact va_eqt (hs (.eq (.elem (.static "GlassPalace$Laws" "WITHOUT" "[I") (.int 0)) (.int 0)) (by decide +kernel))
    · exact va_eqt (hs (.eq (.elem (.static "GlassPalace$Laws" "WITHOUT" "[I") (.int 1)) (.int 10)) (by decide +kernel))
    · exact va_eqt (hs (.eq (.elem (.static "GlassPalace$Laws" "WITHOUT" "[I") (.int 2)) (.int 3)) (by decide +kernel))
    · exact va_eqt (hs (.eq (.elem (.static "GlassPalace$Laws" "WITHOUT" "[I") (.int 3)) (.int 2)) (by decide +kernel))) s_low
  obtain ⟨b, b1, b2⟩ := va_Tof (args := args) (tm := .static "GlassPalace$Script" "STARTS" "[I") (ty := .int) (N := 7) (f := fun j => .int (tSt j)) (A := lA s) (by decide) (hs _ (by decide +kernel)) (va_eqt (hs (.eq (.length (.static "GlassPalace$Script" "STARTS" "[I")) (.int 7)) (by decide +kernel))) (fun j hj => by
    rcases (show j = 0 ∨ j = 1 ∨ j = 2 ∨ j = 3 ∨ j = 4 ∨ j = 5 ∨ j = 6 by omega) with rfl | rfl | rfl | rfl | rfl | rfl | rfl
    · exact va_eqt (hs (.eq (.elem (.static "GlassPalace$Script" "STARTS" "[I") (.int 0)) (.int 0)) (by decide +kernel))
    · exact va_eqt (hs (.eq (.elem (.static "GlassPalace$Script" "STARTS" "[I") (.int 1)) (.int 5)) (by decide +kernel))
    · exact va_eqt (hs (.eq (.elem (.static "GlassPalace$Script" "STARTS" "[I") (.int 2)) (.int 9)) (by decide +kernel))
    · exact va_eqt (hs (.eq (.elem (.static "GlassPalace$Script" "STARTS" "[I") (.int 3)) (.int 14)) (by decide +kernel))
    · exact va_eqt (hs (.eq (.elem (.static "GlassPalace$Script" "STARTS" "[I") (.int 4)) (.int 19)) (by decide +kernel))
    · exact va_eqt (hs (.eq (.elem (.static "GlassPalace$Script" "STARTS" "[I") (.int 5)) (.int 23)) (by decide +kernel))
    · exact va_eqt (hs (.eq (.elem (.static "GlassPalace$Script" "STARTS" "[I") (.int 6)) (.int 27)) (by decide +kernel))) s_low
  obtain ⟨adK, adV, S1, S2⟩ := vk_Sof (args := args) (s := s) (N := 1) (tm := fun _ => .string "GlassPalace$Script" 74) (len := [27]) (byt := [lSp]) (A := lA s) (fun i hi => by
    obtain rfl : i = 0 := by omega
    decide) (fun i _ => hs (.exactly (.string "GlassPalace$Script" 74) "java/lang/String") (by decide +kernel)) (fun i _ => hs (.eq (.field (.string "GlassPalace$Script" 74) "java/lang/String" "coder" "B") (.int 0)) (by decide +kernel)) (fun i _ => hs (.arrayOf (.field (.string "GlassPalace$Script" 74) "java/lang/String" "value" "[B") .byte) (by decide +kernel)) (fun i hi => by
    obtain rfl : i = 0 := by omega
    exact hs (.eq (.length (.field (.string "GlassPalace$Script" 74) "java/lang/String" "value" "[B")) (.int 27)) (by decide +kernel)) (fun i hi j hj => by
    obtain rfl : i = 0 := by omega
    have hj : j < 27 := hj
    rcases (show j = 0 ∨ j = 1 ∨ j = 2 ∨ j = 3 ∨ j = 4 ∨ j = 5 ∨ j = 6 ∨ j = 7 ∨ j = 8 ∨ j = 9 ∨ j = 10 ∨ j = 11 ∨ j = 12 ∨ j = 13 ∨ j = 14 ∨ j = 15 ∨ j = 16 ∨ j = 17 ∨ j = 18 ∨ j = 19 ∨ j = 20 ∨ j = 21 ∨ j = 22 ∨ j = 23 ∨ j = 24 ∨ j = 25 ∨ j = 26 by omega) with rfl | rfl | rfl | rfl | rfl | rfl | rfl | rfl | rfl | rfl | rfl | rfl | rfl | rfl | rfl | rfl | rfl | rfl | rfl | rfl | rfl | rfl | rfl | rfl | rfl | rfl | rfl
    · exact hs (.eq (.elem (.field (.string "GlassPalace$Script" 74) "java/lang/String" "value" "[B") (.int 0)) (.int 112)) (by decide +kernel)
    · exact hs (.eq (.elem (.field (.string "GlassPalace$Script" 74) "java/lang/String" "value" "[B") (.int 1)) (.int 97)) (by decide +kernel)
    · exact hs (.eq (.elem (.field (.string "GlassPalace$Script" 74) "java/lang/String" "value" "[B") (.int 2)) (.int 99)) (by decide +kernel)
    · exact hs (.eq (.elem (.field (.string "GlassPalace$Script" 74) "java/lang/String" "value" "[B") (.int 3)) (.int 107)) (by decide +kernel)
    · exact hs (.eq (.elem (.field (.string "GlassPalace$Script" 74) "java/lang/String" "value" "[B") (.int 4)) (.int 32)) (by decide +kernel)
    · exact hs (.eq (.elem (.field (.string "GlassPalace$Script" 74) "java/lang/String" "value" "[B") (.int 5)) (.int 112)) (by decide +kernel)
    · exact hs (.eq (.elem (.field (.string "GlassPalace$Script" 74) "java/lang/String" "value" "[B") (.int 6)) (.int 97)) (by decide +kernel)
    · exact hs (.eq (.elem (.field (.string "GlassPalace$Script" 74) "java/lang/String" "value" "[B") (.int 7)) (.int 121)) (by decide +kernel)
    · exact hs (.eq (.elem (.field (.string "GlassPalace$Script" 74) "java/lang/String" "value" "[B") (.int 8)) (.int 32)) (by decide +kernel)
    · exact hs (.eq (.elem (.field (.string "GlassPalace$Script" 74) "java/lang/String" "value" "[B") (.int 9)) (.int 108)) (by decide +kernel)
    · exact hs (.eq (.elem (.field (.string "GlassPalace$Script" 74) "java/lang/String" "value" "[B") (.int 10)) (.int 111)) (by decide +kernel)
    · exact hs (.eq (.elem (.field (.string "GlassPalace$Script" 74) "java/lang/String" "value" "[B") (.int 11)) (.int 97)) (by decide +kernel)
    · exact hs (.eq (.elem (.field (.string "GlassPalace$Script" 74) "java/lang/String" "value" "[B") (.int 12)) (.int 100)) (by decide +kernel)
    · exact hs (.eq (.elem (.field (.string "GlassPalace$Script" 74) "java/lang/String" "value" "[B") (.int 13)) (.int 32)) (by decide +kernel)
    · exact hs (.eq (.elem (.field (.string "GlassPalace$Script" 74) "java/lang/String" "value" "[B") (.int 14)) (.int 115)) (by decide +kernel)
    · exact hs (.eq (.elem (.field (.string "GlassPalace$Script" 74) "java/lang/String" "value" "[B") (.int 15)) (.int 110)) (by decide +kernel)
    · exact hs (.eq (.elem (.field (.string "GlassPalace$Script" 74) "java/lang/String" "value" "[B") (.int 16)) (.int 111)) (by decide +kernel)
    · exact hs (.eq (.elem (.field (.string "GlassPalace$Script" 74) "java/lang/String" "value" "[B") (.int 17)) (.int 119)) (by decide +kernel)
    · exact hs (.eq (.elem (.field (.string "GlassPalace$Script" 74) "java/lang/String" "value" "[B") (.int 18)) (.int 32)) (by decide +kernel)
    · exact hs (.eq (.elem (.field (.string "GlassPalace$Script" 74) "java/lang/String" "value" "[B") (.int 19)) (.int 99)) (by decide +kernel)
    · exact hs (.eq (.elem (.field (.string "GlassPalace$Script" 74) "java/lang/String" "value" "[B") (.int 20)) (.int 117)) (by decide +kernel)
    · exact hs (.eq (.elem (.field (.string "GlassPalace$Script" 74) "java/lang/String" "value" "[B") (.int 21)) (.int 116)) (by decide +kernel)
    · exact hs (.eq (.elem (.field (.string "GlassPalace$Script" 74) "java/lang/String" "value" "[B") (.int 22)) (.int 32)) (by decide +kernel)
    · exact hs (.eq (.elem (.field (.string "GlassPalace$Script" 74) "java/lang/String" "value" "[B") (.int 23)) (.int 98)) (by decide +kernel)
    · exact hs (.eq (.elem (.field (.string "GlassPalace$Script" 74) "java/lang/String" "value" "[B") (.int 24)) (.int 97)) (by decide +kernel)
    · exact hs (.eq (.elem (.field (.string "GlassPalace$Script" 74) "java/lang/String" "value" "[B") (.int 25)) (.int 114)) (by decide +kernel)
    · exact hs (.eq (.elem (.field (.string "GlassPalace$Script" 74) "java/lang/String" "value" "[B") (.int 26)) (.int 32)) (by decide +kernel)) (fun i j hi hj hne => absurd (show i = j by omega) hne) s_low
  obtain ⟨x, x1, x2⟩ := Cond.isRef_spec (hs (.isRef (.static "jdk/internal/util/Preconditions" "SIOOBE_FORMATTER" "Ljava/util/function/BiFunction;")) (by decide +kernel))
  refine ⟨a, b, adK 0, adV 0, x, ⟨va_Zof (hts _ (List.mem_of_getElem? (i := 576) (by decide +kernel))) (hts (.initialized "GlassPalace$Laws") (List.mem_of_getElem? (i := 105) (by decide +kernel))) a1 s_low, a2⟩, ⟨va_Zof (hts _ (List.mem_of_getElem? (i := 709) (by decide +kernel))) (hts (.initialized "GlassPalace$Script") (List.mem_of_getElem? (i := 104) (by decide +kernel))) b1 s_low, b2⟩, vk_R.of (hts _ (List.mem_of_getElem? (i := 714) (by decide +kernel))) (S2 0 (by decide)), ⟨fun i hi => ?_, fun i j hi hj _ => by omega⟩, va_Zof (hts _ (List.mem_of_getElem? (i := 724) (by decide +kernel))) (hts (.initialized "java/lang/String") (List.mem_of_getElem? (i := 116) (by decide +kernel))) (va_eqt (hs (.eq (.static "java/lang/String" "COMPACT_STRINGS" "Z") (.int 1)) (by decide +kernel))) s_low, va_Zof (hts _ (List.mem_of_getElem? (i := 740) (by decide +kernel))) (hts (.initialized "jdk/internal/util/Preconditions") (List.mem_of_getElem? (i := 118) (by decide +kernel))) x1 s_low, ?_⟩
  · obtain rfl : i = 0 := by omega
    exact S1.1 0 (by decide)
  · cases x with
    | null => exact Or.inl rfl
    | ref t => exact Or.inr ⟨t, rfl⟩
    | _ => cases x2
theorem s_start (hts : ∀ w ∈ lw_tbl, w.before args s = true) (hgv : (Jvm.Cond.and given_1 narrow_1).before args s = true) : ∃ K : KG, LG K s := by
  obtain ⟨D, hD⟩ := s_cls hts
  obtain ⟨f, hf⟩ := s_tys hts
  obtain ⟨a, b, q, v, x, ⟨h1, h2⟩, ⟨h3, h4⟩, h5, h6, h7, h8, h9⟩ := s_stat hts hgv
  refine ⟨(D, f, a, b, q, v, x, s.heap.size), rfl, ⟨hD, hf⟩, ⟨va_AO.of (hts _ (List.mem_of_getElem? (i := 132) (by decide +kernel))), va_AO.of (hts _ (List.mem_of_getElem? (i := 134) (by decide +kernel))), va_AO.of (hts _ (List.mem_of_getElem? (i := 163) (by decide +kernel))), va_AO.of (hts _ (List.mem_of_getElem? (i := 227) (by decide +kernel))), va_AO.of (hts _ (List.mem_of_getElem? (i := 304) (by decide +kernel)))⟩, fun ad hA => ?_⟩
  exact ⟨⟨h1.narrow hA, h2.narrow hA⟩, ⟨h3.narrow hA, h4.narrow hA⟩, h5, h6.narrow hA, h7.narrow hA, h8.narrow hA, h9⟩
end LS
