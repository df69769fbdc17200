theorem RR.st1 {n k : Nat} {mc mm : Mem} (h : RR n mc mm) (hk : k < 8) : RR n (sI mc 39 0 k 0) (sI mm 47 0 k (-1)) := by
  obtain ⟨hT, hF, hL0, hL, hLc, hLg, hSb, hSs, hB, hP, hN, hG0, hG, hGd, hGw, hPw, hPa, hNa, hA, hTa, hR, hS, hW0, hW⟩ := h
  refine ⟨hT, hF, hL0, hL, hLc, hLg, hSb, hSs, hB, hP, hN, hG0, hG, hGd, hGw, hPw, hPa, ?_, hA, hTa, hR, hS, hW0, hW⟩
  intro j hj
  obtain ⟨h1, h2⟩ := hNa j hj
  by_cases c : j = k
  · subst c
    exact ⟨by simpa [gI_sI] using h1, Or.inl ⟨by simp [gI_sI], by simp [gI_sI]⟩⟩
  · simpa [gI_sI, c] using hNa j hj
theorem RR.st2 {n k : Nat} {mc mm : Mem} (h : RR n mc mm) (hk : k < 8) : RR n (sI mc 40 0 k (gI mc 40 0 k + 1)) (sI mm 49 0 k (gI mm 49 0 k + 1)) := by
  obtain ⟨hT, hF, hL0, hL, hLc, hLg, hSb, hSs, hB, hP, hN, hG0, hG, hGd, hGw, hPw, hPa, hNa, hA, hTa, hR, hS, hW0, hW⟩ := h
  refine ⟨hT, hF, hL0, hL, hLc, hLg, hSb, hSs, hB, hP, hN, hG0, hG, hGd, hGw, hPw, hPa, ?_, hA, hTa, hR, hS, hW0, hW⟩
  intro j hj
  obtain ⟨h1, h2⟩ := hNa j hj
  by_cases c : j = k
  · subst c
    exact ⟨by simp [gI_sI, h1], by simpa [gI_sI] using h2⟩
  · simpa [gI_sI, c] using hNa j hj
theorem RR.st3 {n k : Nat} {mc mm : Mem} (h : RR n mc mm) (hk : k < 8) {x y : Int32} (hx : rg x 0 29) (hy : rg y 1 6) : RR n (sI (sI mc 38 0 k x) 39 0 k y) (sI (sI mm 47 0 k x) 48 0 k y) := by
  obtain ⟨hT, hF, hL0, hL, hLc, hLg, hSb, hSs, hB, hP, hN, hG0, hG, hGd, hGw, hPw, hPa, hNa, hA, hTa, hR, hS, hW0, hW⟩ := h
  refine ⟨hT, hF, hL0, hL, hLc, hLg, hSb, hSs, hB, hP, hN, hG0, hG, hGd, hGw, hPw, hPa, ?_, hA, hTa, hR, hS, hW0, hW⟩
  intro j hj
  obtain ⟨h1, h2⟩ := hNa j hj
  by_cases c : j = k
  · subst c
    exact ⟨by simpa [gI_sI] using h1, Or.inr ⟨by simp [gI_sI], by simp [gI_sI], by simpa [gI_sI] using hy, by simpa [gI_sI] using hx⟩⟩
  · simpa [gI_sI, c] using hNa j hj
theorem RR.na {n : Nat} {mc mm : Mem} (h : RR n mc mm) : r_Na mc mm := h.2.2.2.2.2.2.2.2.2.2.2.2.2.2.2.2.2.1
theorem clear_l {fl n : Nat} {g1 x y : Int32} (hx : rg x 0 29) (hy : rg y 1 6) : ∀ (N k : Nat) (mc mm : Mem), RR n mc mm → k ≤ 8 → 9 ≤ N + k → ∃ mc' mm', f_X5_clear_l2 fl x y N (nI k) mc = some mc' ∧ f_X12_let_l132 fl g1 y x N (nI k) mm = some mm' ∧ RR n mc' mm' := by
  intro N
  induction N with
  | zero => intro k mc mm h h1 h2; omega
  | succ N ih =>
    intro k mc mm h h1 h2
    have e := nI_toInt (n := k) (by omega)
    have e2 := nI_clamp (n := k) (by omega)
    by_cases c : k = 8
    · subst c
      exact ⟨mc, mm, by unfold f_X5_clear_l2 f_X5_clear_l2_b; simp (disch := omega) only [Int32.lt_iff_toInt_lt, Int32.le_iff_toInt_le, t_n14, t_n13, t_n12, t_n11, t_n10, t_n5, t_n4, t_n3, t_n2, t_n1, t_0, t_1, t_2, t_3, t_4, t_5, t_6, t_7, t_8, t_9, t_10, t_11, t_12, t_13, t_14, t_15, t_16, t_17, t_18, t_19, t_20, t_21, t_22, t_23, t_24, t_25, t_26, t_27, t_28, t_29, t_30, t_31, t_32, t_33, t_34, t_37, t_38, t_39, t_40, t_41, t_44, t_48, t_50, t_51, t_52, t_57, t_59, t_60, t_61, t_62, t_66, t_98, t_99, t_100, t_101, t_102, t_103, t_104, t_105, t_106, t_107, t_108, t_109, t_110, t_111, t_112, t_113, t_114, t_115, t_116, t_121, t_124, t_150, t_200, t_399, t_999, t_2000, vq_i, if_pos, if_neg, bn2_e, bn1_e, lt1_e, asr_t, drf_e, asr_T, gI_sI, gL_sI, gR_sI, gI_sL, gL_sL, gR_sL, gI_sR, gL_sR, gR_sR, eq_self, i32_eq, or_true, true_or, and_true, true_and, or_false, false_or, and_false, false_and, not_true, not_false_iff, if_true, if_false, e], by unfold f_X12_let_l132 f_X12_let_l132_b; simp (disch := omega) only [Int32.lt_iff_toInt_lt, Int32.le_iff_toInt_le, t_n14, t_n13, t_n12, t_n11, t_n10, t_n5, t_n4, t_n3, t_n2, t_n1, t_0, t_1, t_2, t_3, t_4, t_5, t_6, t_7, t_8, t_9, t_10, t_11, t_12, t_13, t_14, t_15, t_16, t_17, t_18, t_19, t_20, t_21, t_22, t_23, t_24, t_25, t_26, t_27, t_28, t_29, t_30, t_31, t_32, t_33, t_34, t_37, t_38, t_39, t_40, t_41, t_44, t_48, t_50, t_51, t_52, t_57, t_59, t_60, t_61, t_62, t_66, t_98, t_99, t_100, t_101, t_102, t_103, t_104, t_105, t_106, t_107, t_108, t_109, t_110, t_111, t_112, t_113, t_114, t_115, t_116, t_121, t_124, t_150, t_200, t_399, t_999, t_2000, vq_i, if_pos, if_neg, bn2_e, bn1_e, lt1_e, asr_t, drf_e, asr_T, gI_sI, gL_sI, gR_sI, gI_sL, gL_sL, gR_sL, gI_sR, gL_sR, gR_sR, eq_self, i32_eq, or_true, true_or, and_true, true_and, or_false, false_or, and_false, false_and, not_true, not_false_iff, if_true, if_false, e], h⟩
    · have m1 := meets_11 (fl := fl) (x := x) (y := y) (mc := mc) (show k < 8 by omega)
      have m2 := meet_12 (fl := fl) (x := x) (y := y) h.na hx hy (show k < 8 by omega)
      rcases mt01 mc x y k with q | q
      · rw [q] at m1 m2
        obtain ⟨mc', mm', x1, x2, x3⟩ := ih (k + 1) mc mm h (by omega) (by omega)
        rw [← nI_1] at x1 x2
        exact ⟨mc', mm', by unfold f_X5_clear_l2 f_X5_clear_l2_b; simp (disch := omega) only [Int32.lt_iff_toInt_lt, Int32.le_iff_toInt_le, t_n14, t_n13, t_n12, t_n11, t_n10, t_n5, t_n4, t_n3, t_n2, t_n1, t_0, t_1, t_2, t_3, t_4, t_5, t_6, t_7, t_8, t_9, t_10, t_11, t_12, t_13, t_14, t_15, t_16, t_17, t_18, t_19, t_20, t_21, t_22, t_23, t_24, t_25, t_26, t_27, t_28, t_29, t_30, t_31, t_32, t_33, t_34, t_37, t_38, t_39, t_40, t_41, t_44, t_48, t_50, t_51, t_52, t_57, t_59, t_60, t_61, t_62, t_66, t_98, t_99, t_100, t_101, t_102, t_103, t_104, t_105, t_106, t_107, t_108, t_109, t_110, t_111, t_112, t_113, t_114, t_115, t_116, t_121, t_124, t_150, t_200, t_399, t_999, t_2000, vq_i, if_pos, if_neg, bn2_e, bn1_e, lt1_e, asr_t, drf_e, asr_T, gI_sI, gL_sI, gR_sI, gI_sL, gL_sL, gR_sL, gI_sR, gL_sR, gR_sR, eq_self, i32_eq, or_true, true_or, and_true, true_and, or_false, false_or, and_false, false_and, not_true, not_false_iff, if_true, if_false, e, m1, x1], by unfold f_X12_let_l132 f_X12_let_l132_b; simp (disch := omega) only [Int32.lt_iff_toInt_lt, Int32.le_iff_toInt_le, t_n14, t_n13, t_n12, t_n11, t_n10, t_n5, t_n4, t_n3, t_n2, t_n1, t_0, t_1, t_2, t_3, t_4, t_5, t_6, t_7, t_8, t_9, t_10, t_11, t_12, t_13, t_14, t_15, t_16, t_17, t_18, t_19, t_20, t_21, t_22, t_23, t_24, t_25, t_26, t_27, t_28, t_29, t_30, t_31, t_32, t_33, t_34, t_37, t_38, t_39, t_40, t_41, t_44, t_48, t_50, t_51, t_52, t_57, t_59, t_60, t_61, t_62, t_66, t_98, t_99, t_100, t_101, t_102, t_103, t_104, t_105, t_106, t_107, t_108, t_109, t_110, t_111, t_112, t_113, t_114, t_115, t_116, t_121, t_124, t_150, t_200, t_399, t_999, t_2000, vq_i, if_pos, if_neg, bn2_e, bn1_e, lt1_e, asr_t, drf_e, asr_T, gI_sI, gL_sI, gR_sI, gI_sL, gL_sL, gR_sL, gI_sR, gL_sR, gR_sR, eq_self, i32_eq, or_true, true_or, and_true, true_and, or_false, false_or, and_false, false_and, not_true, not_false_iff, if_true, if_false, e, m2, x2], x3⟩
      · rw [q] at m1 m2
        obtain ⟨mc', mm', x1, x2, x3⟩ := ih (k + 1) _ _ ((h.st1 (k := k) (by omega)).st2 (k := k) (by omega)) (by omega) (by omega)
        rw [← nI_1] at x1 x2
        simp (disch := omega) only [gI_sI, eq_self, true_and, false_and, if_false, and_false, if_neg] at x1 x2
        exact ⟨mc', mm', by unfold f_X5_clear_l2 f_X5_clear_l2_b; simp (disch := omega) only [Int32.lt_iff_toInt_lt, Int32.le_iff_toInt_le, t_n14, t_n13, t_n12, t_n11, t_n10, t_n5, t_n4, t_n3, t_n2, t_n1, t_0, t_1, t_2, t_3, t_4, t_5, t_6, t_7, t_8, t_9, t_10, t_11, t_12, t_13, t_14, t_15, t_16, t_17, t_18, t_19, t_20, t_21, t_22, t_23, t_24, t_25, t_26, t_27, t_28, t_29, t_30, t_31, t_32, t_33, t_34, t_37, t_38, t_39, t_40, t_41, t_44, t_48, t_50, t_51, t_52, t_57, t_59, t_60, t_61, t_62, t_66, t_98, t_99, t_100, t_101, t_102, t_103, t_104, t_105, t_106, t_107, t_108, t_109, t_110, t_111, t_112, t_113, t_114, t_115, t_116, t_121, t_124, t_150, t_200, t_399, t_999, t_2000, vq_i, if_pos, if_neg, bn2_e, bn1_e, lt1_e, asr_t, drf_e, asr_T, gI_sI, gL_sI, gR_sI, gI_sL, gL_sL, gR_sL, gI_sR, gL_sR, gR_sR, eq_self, i32_eq, or_true, true_or, and_true, true_and, or_false, false_or, and_false, false_and, not_true, not_false_iff, if_true, if_false, e, e2, m1, x1], by unfold f_X12_let_l132 f_X12_let_l132_b; simp (disch := omega) only [Int32.lt_iff_toInt_lt, Int32.le_iff_toInt_le, t_n14, t_n13, t_n12, t_n11, t_n10, t_n5, t_n4, t_n3, t_n2, t_n1, t_0, t_1, t_2, t_3, t_4, t_5, t_6, t_7, t_8, t_9, t_10, t_11, t_12, t_13, t_14, t_15, t_16, t_17, t_18, t_19, t_20, t_21, t_22, t_23, t_24, t_25, t_26, t_27, t_28, t_29, t_30, t_31, t_32, t_33, t_34, t_37, t_38, t_39, t_40, t_41, t_44, t_48, t_50, t_51, t_52, t_57, t_59, t_60, t_61, t_62, t_66, t_98, t_99, t_100, t_101, t_102, t_103, t_104, t_105, t_106, t_107, t_108, t_109, t_110, t_111, t_112, t_113, t_114, t_115, t_116, t_121, t_124, t_150, t_200, t_399, t_999, t_2000, vq_i, if_pos, if_neg, bn2_e, bn1_e, lt1_e, asr_t, drf_e, asr_T, gI_sI, gL_sI, gR_sI, gI_sL, gL_sL, gR_sL, gI_sR, gL_sR, gR_sR, eq_self, i32_eq, or_true, true_or, and_true, true_and, or_false, false_or, and_false, false_and, not_true, not_false_iff, if_true, if_false, e, e2, m2, x2], x3⟩
theorem place_0 {fl : Nat} (hfl : 1000 ≤ fl) {g1 y : Int32} {mc mm : Mem} (h : r_Na mc mm) (hy : rg y 1 6) : ∃ r, rg r 0 29 ∧ f_X5_place_l28 fl g1 y fl 0 8 0 mc = some (r, mc) ∧ f_X12_let_l43 fl g1 y fl (-1) 9 0 mm = some (r, mm) := by
  obtain ⟨N, hN⟩ := Nat.exists_eq_succ_of_ne_zero (show fl ≠ 0 by omega)
  have h0 : rg (0 : Int32) 0 29 := ⟨by decide, by decide⟩
  have w1 := way_11 (fl := fl) hfl (x := 0) (y := y) (mc := mc)
  have w2 := fun g3 g4 => way_12 (fl := fl) hfl (g1 := g1) (g3 := g3) (g4 := g4) h h0 hy
  obtain ⟨b1, b2⟩ := sum01 (f := mt mc 0 y) (mt01 mc 0 y) 8 (by omega)
  have hy' := rg_i hy
  have j0 : (jrem 0 6 + y).toInt = y.toInt := by
    rw [show jrem 0 6 = 0 from rfl, Int32.zero_add]
  have key : ∀ u4 : Int32, ∃ r, rg r 0 29 ∧ f_X5_place_l28 fl g1 y N 0 u4 (0 + 1) mc = some (r, mc) ∧ f_X12_let_l43 fl g1 y N 0 u4 (0 + 1) mm = some (r, mm) := fun u4 => place_l (fl := fl) hfl h hy N 1 0 u4 (by omega) (by omega) h0
  have x1 : ∀ r, f_X5_place_l28 fl g1 y N 0 (if (sumI (mt mc 0 y) 8).toInt < 8 then sumI (mt mc 0 y) 8 else 8) (0 + 1) mc = r → f_X5_place_l28 fl g1 y (N + 1) 0 8 0 mc = r := by
    intro r hr
    rw [← hr]
    conv => lhs; unfold f_X5_place_l28 f_X5_place_l28_b
    by_cases q : (sumI (mt mc 0 y) 8).toInt < 8 <;> simp (disch := omega) only [Int32.lt_iff_toInt_lt, Int32.le_iff_toInt_le, t_n14, t_n13, t_n12, t_n11, t_n10, t_n5, t_n4, t_n3, t_n2, t_n1, t_0, t_1, t_2, t_3, t_4, t_5, t_6, t_7, t_8, t_9, t_10, t_11, t_12, t_13, t_14, t_15, t_16, t_17, t_18, t_19, t_20, t_21, t_22, t_23, t_24, t_25, t_26, t_27, t_28, t_29, t_30, t_31, t_32, t_33, t_34, t_37, t_38, t_39, t_40, t_41, t_44, t_48, t_50, t_51, t_52, t_57, t_59, t_60, t_61, t_62, t_66, t_98, t_99, t_100, t_101, t_102, t_103, t_104, t_105, t_106, t_107, t_108, t_109, t_110, t_111, t_112, t_113, t_114, t_115, t_116, t_121, t_124, t_150, t_200, t_399, t_999, t_2000, vq_i, if_pos, if_neg, bn2_e, bn1_e, lt1_e, asr_t, drf_e, asr_T, gI_sI, gL_sI, gR_sI, gI_sL, gL_sL, gR_sL, gI_sR, gL_sR, gR_sR, eq_self, i32_eq, or_true, true_or, and_true, true_and, or_false, false_or, and_false, false_and, not_true, not_false_iff, if_true, if_false, w1, j0]
  have x2 : ∀ r, f_X12_let_l43 fl g1 y N 0 (sumI (mt mc 0 y) 8) (0 + 1) mm = r → f_X12_let_l43 fl g1 y (N + 1) (-1) 9 0 mm = r := by
    intro r hr
    rw [← hr]
    conv => lhs; unfold f_X12_let_l43 f_X12_let_l43_b
    simp (disch := omega) only [Int32.lt_iff_toInt_lt, Int32.le_iff_toInt_le, t_n14, t_n13, t_n12, t_n11, t_n10, t_n5, t_n4, t_n3, t_n2, t_n1, t_0, t_1, t_2, t_3, t_4, t_5, t_6, t_7, t_8, t_9, t_10, t_11, t_12, t_13, t_14, t_15, t_16, t_17, t_18, t_19, t_20, t_21, t_22, t_23, t_24, t_25, t_26, t_27, t_28, t_29, t_30, t_31, t_32, t_33, t_34, t_37, t_38, t_39, t_40, t_41, t_44, t_48, t_50, t_51, t_52, t_57, t_59, t_60, t_61, t_62, t_66, t_98, t_99, t_100, t_101, t_102, t_103, t_104, t_105, t_106, t_107, t_108, t_109, t_110, t_111, t_112, t_113, t_114, t_115, t_116, t_121, t_124, t_150, t_200, t_399, t_999, t_2000, vq_i, if_pos, if_neg, bn2_e, bn1_e, lt1_e, asr_t, drf_e, asr_T, gI_sI, gL_sI, gR_sI, gI_sL, gL_sL, gR_sL, gI_sR, gL_sR, gR_sR, eq_self, i32_eq, or_true, true_or, and_true, true_and, or_false, false_or, and_false, false_and, not_true, not_false_iff, if_true, if_false, w2, j0]
  have e8 : (if (sumI (mt mc 0 y) 8).toInt < 8 then sumI (mt mc 0 y) 8 else 8) = sumI (mt mc 0 y) 8 := by
    split
    · rfl
    · exact i32_eq.mpr (by rw [t_8]; omega)
  obtain ⟨r, r1, r2, r3⟩ := key (sumI (mt mc 0 y) 8)
  refine ⟨r, r1, ?_, ?_⟩
  · have := x1 (some (r, mc)) (by rw [e8]; exact r2)
    rw [← Nat.succ_eq_add_one, ← hN] at this
    exact this
  · have := x2 (some (r, mm)) r3
    rw [← Nat.succ_eq_add_one, ← hN] at this
    exact this
theorem sim_let {fl n : Nat} (hfl : 1000 ≤ fl) {mc mm : Mem} (h : RR n mc mm) (a1 a2 : Int32) : Sim (n + 1) (f_X11_let fl a1 a2 mc) (f_X12_let fl a1 a2 mm) := by
  by_cases c : 0 ≤ a1.toInt ∧ a1.toInt ≤ 7
  · by_cases d : 1 ≤ a2.toInt ∧ a2.toInt ≤ 6
    · obtain ⟨a, ha, rfl⟩ : ∃ q : Nat, q < 8 ∧ a1 = nI q := by
        rcases inr (x := a1) 8 (by omega) with q | q
        · omega
        · exact q
      have e1 := nI_toInt (n := a) (by omega)
      have e2 := nI_clamp (n := a) (by omega)
      have h1 := h.st1 (k := a) ha
      obtain ⟨r, r1, r2, r3⟩ := place_0 (fl := fl) hfl (g1 := nI a) (y := a2) h1.na d
      obtain ⟨mc', mm', x1, x2, x3⟩ := clear_l (fl := fl) (g1 := nI a) (x := r) (y := a2) r1 d fl 0 _ _ h1 (by omega) (by omega)
      rw [show nI 0 = 0 from rfl] at x1 x2
      have x4 : f_X5_clear fl r a2 (sI mc 39 0 a 0) = some mc' := by
        unfold f_X5_clear
        rw [x1, bn1_e]
      refine ⟨r, sI (sI mc' 38 0 a r) 39 0 a a2, sI (sI mm' 47 0 a r) 48 0 a a2, ?_, ?_, (x3.st3 ha r1 d).up⟩
      · unfold f_X11_let f_X5_place; simp (disch := omega) only [Int32.lt_iff_toInt_lt, Int32.le_iff_toInt_le, t_n14, t_n13, t_n12, t_n11, t_n10, t_n5, t_n4, t_n3, t_n2, t_n1, t_0, t_1, t_2, t_3, t_4, t_5, t_6, t_7, t_8, t_9, t_10, t_11, t_12, t_13, t_14, t_15, t_16, t_17, t_18, t_19, t_20, t_21, t_22, t_23, t_24, t_25, t_26, t_27, t_28, t_29, t_30, t_31, t_32, t_33, t_34, t_37, t_38, t_39, t_40, t_41, t_44, t_48, t_50, t_51, t_52, t_57, t_59, t_60, t_61, t_62, t_66, t_98, t_99, t_100, t_101, t_102, t_103, t_104, t_105, t_106, t_107, t_108, t_109, t_110, t_111, t_112, t_113, t_114, t_115, t_116, t_121, t_124, t_150, t_200, t_399, t_999, t_2000, vq_i, if_pos, if_neg, bn2_e, bn1_e, lt1_e, asr_t, drf_e, asr_T, gI_sI, gL_sI, gR_sI, gI_sL, gL_sL, gR_sL, gI_sR, gL_sR, gR_sR, eq_self, i32_eq, or_true, true_or, and_true, true_and, or_false, false_or, and_false, false_and, not_true, not_false_iff, if_true, if_false, isNation_11, e1, e2, r2, x4]
      · unfold f_X12_let; simp (disch := omega) only [Int32.lt_iff_toInt_lt, Int32.le_iff_toInt_le, t_n14, t_n13, t_n12, t_n11, t_n10, t_n5, t_n4, t_n3, t_n2, t_n1, t_0, t_1, t_2, t_3, t_4, t_5, t_6, t_7, t_8, t_9, t_10, t_11, t_12, t_13, t_14, t_15, t_16, t_17, t_18, t_19, t_20, t_21, t_22, t_23, t_24, t_25, t_26, t_27, t_28, t_29, t_30, t_31, t_32, t_33, t_34, t_37, t_38, t_39, t_40, t_41, t_44, t_48, t_50, t_51, t_52, t_57, t_59, t_60, t_61, t_62, t_66, t_98, t_99, t_100, t_101, t_102, t_103, t_104, t_105, t_106, t_107, t_108, t_109, t_110, t_111, t_112, t_113, t_114, t_115, t_116, t_121, t_124, t_150, t_200, t_399, t_999, t_2000, vq_i, if_pos, if_neg, bn2_e, bn1_e, lt1_e, asr_t, drf_e, asr_T, gI_sI, gL_sI, gR_sI, gI_sL, gL_sL, gR_sL, gI_sR, gL_sR, gR_sR, eq_self, i32_eq, or_true, true_or, and_true, true_and, or_false, false_or, and_false, false_and, not_true, not_false_iff, if_true, if_false, in_12, e1, e2, r3, x2]
    · refine Sim.same h (-2) ?_ (by unfold f_X12_let; simp (disch := omega) only [Int32.lt_iff_toInt_lt, Int32.le_iff_toInt_le, t_n14, t_n13, t_n12, t_n11, t_n10, t_n5, t_n4, t_n3, t_n2, t_n1, t_0, t_1, t_2, t_3, t_4, t_5, t_6, t_7, t_8, t_9, t_10, t_11, t_12, t_13, t_14, t_15, t_16, t_17, t_18, t_19, t_20, t_21, t_22, t_23, t_24, t_25, t_26, t_27, t_28, t_29, t_30, t_31, t_32, t_33, t_34, t_37, t_38, t_39, t_40, t_41, t_44, t_48, t_50, t_51, t_52, t_57, t_59, t_60, t_61, t_62, t_66, t_98, t_99, t_100, t_101, t_102, t_103, t_104, t_105, t_106, t_107, t_108, t_109, t_110, t_111, t_112, t_113, t_114, t_115, t_116, t_121, t_124, t_150, t_200, t_399, t_999, t_2000, vq_i, if_pos, if_neg, bn2_e, bn1_e, lt1_e, asr_t, drf_e, asr_T, gI_sI, gL_sI, gR_sI, gI_sL, gL_sL, gR_sL, gI_sR, gL_sR, gR_sR, eq_self, i32_eq, or_true, true_or, and_true, true_and, or_false, false_or, and_false, false_and, not_true, not_false_iff, if_true, if_false, in_12])
      unfold f_X11_let
      by_cases d1 : a2.toInt < 1 <;> simp (disch := omega) only [Int32.lt_iff_toInt_lt, Int32.le_iff_toInt_le, t_n14, t_n13, t_n12, t_n11, t_n10, t_n5, t_n4, t_n3, t_n2, t_n1, t_0, t_1, t_2, t_3, t_4, t_5, t_6, t_7, t_8, t_9, t_10, t_11, t_12, t_13, t_14, t_15, t_16, t_17, t_18, t_19, t_20, t_21, t_22, t_23, t_24, t_25, t_26, t_27, t_28, t_29, t_30, t_31, t_32, t_33, t_34, t_37, t_38, t_39, t_40, t_41, t_44, t_48, t_50, t_51, t_52, t_57, t_59, t_60, t_61, t_62, t_66, t_98, t_99, t_100, t_101, t_102, t_103, t_104, t_105, t_106, t_107, t_108, t_109, t_110, t_111, t_112, t_113, t_114, t_115, t_116, t_121, t_124, t_150, t_200, t_399, t_999, t_2000, vq_i, if_pos, if_neg, bn2_e, bn1_e, lt1_e, asr_t, drf_e, asr_T, gI_sI, gL_sI, gR_sI, gI_sL, gL_sL, gR_sL, gI_sR, gL_sR, gR_sR, eq_self, i32_eq, or_true, true_or, and_true, true_and, or_false, false_or, and_false, false_and, not_true, not_false_iff, if_true, if_false, isNation_11]
  · exact Sim.same h (-1) (by unfold f_X11_let; simp (disch := omega) only [Int32.lt_iff_toInt_lt, Int32.le_iff_toInt_le, t_n14, t_n13, t_n12, t_n11, t_n10, t_n5, t_n4, t_n3, t_n2, t_n1, t_0, t_1, t_2, t_3, t_4, t_5, t_6, t_7, t_8, t_9, t_10, t_11, t_12, t_13, t_14, t_15, t_16, t_17, t_18, t_19, t_20, t_21, t_22, t_23, t_24, t_25, t_26, t_27, t_28, t_29, t_30, t_31, t_32, t_33, t_34, t_37, t_38, t_39, t_40, t_41, t_44, t_48, t_50, t_51, t_52, t_57, t_59, t_60, t_61, t_62, t_66, t_98, t_99, t_100, t_101, t_102, t_103, t_104, t_105, t_106, t_107, t_108, t_109, t_110, t_111, t_112, t_113, t_114, t_115, t_116, t_121, t_124, t_150, t_200, t_399, t_999, t_2000, vq_i, if_pos, if_neg, bn2_e, bn1_e, lt1_e, asr_t, drf_e, asr_T, gI_sI, gL_sI, gR_sI, gI_sL, gL_sL, gR_sL, gI_sR, gL_sR, gR_sR, eq_self, i32_eq, or_true, true_or, and_true, true_and, or_false, false_or, and_false, false_and, not_true, not_false_iff, if_true, if_false, isNation_11]) (by unfold f_X12_let; simp (disch := omega) only [Int32.lt_iff_toInt_lt, Int32.le_iff_toInt_le, t_n14, t_n13, t_n12, t_n11, t_n10, t_n5, t_n4, t_n3, t_n2, t_n1, t_0, t_1, t_2, t_3, t_4, t_5, t_6, t_7, t_8, t_9, t_10, t_11, t_12, t_13, t_14, t_15, t_16, t_17, t_18, t_19, t_20, t_21, t_22, t_23, t_24, t_25, t_26, t_27, t_28, t_29, t_30, t_31, t_32, t_33, t_34, t_37, t_38, t_39, t_40, t_41, t_44, t_48, t_50, t_51, t_52, t_57, t_59, t_60, t_61, t_62, t_66, t_98, t_99, t_100, t_101, t_102, t_103, t_104, t_105, t_106, t_107, t_108, t_109, t_110, t_111, t_112, t_113, t_114, t_115, t_116, t_121, t_124, t_150, t_200, t_399, t_999, t_2000, vq_i, if_pos, if_neg, bn2_e, bn1_e, lt1_e, asr_t, drf_e, asr_T, gI_sI, gL_sI, gR_sI, gI_sL, gL_sL, gR_sL, gI_sR, gL_sR, gR_sR, eq_self, i32_eq, or_true, true_or, and_true, true_and, or_false, false_or, and_false, false_and, not_true, not_false_iff, if_true, if_false, in_12])
