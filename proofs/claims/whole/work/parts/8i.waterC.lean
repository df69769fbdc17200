theorem init_11 {fl n : Nat} {g : Int32} {mm : Mem} {pn : Nat → Nat} {gt : Nat → Option Nat} {vv ld R : Nat → Int32} : ∀ (N k : Nat) (mc : Mem), RR n mc mm → wfx mc mm pn gt vv ld → k ≤ 30 → 31 ≤ N + k → (∀ j, j < 24 → gI mc 25 0 j = R j) → (∀ j, j < k → gI mc 26 0 j = 0 ∧ gI mc 28 0 j = 0 ∧ gI mc 27 0 j = 0) →
    ∃ mc', f_X10_runThrough_l2 fl g N (nI k) mc = some mc' ∧ RR n mc' mm ∧ wfx mc' mm pn gt vv ld ∧ (∀ j, j < 24 → gI mc' 25 0 j = R j) ∧ ∀ j, j < 30 → gI mc' 26 0 j = 0 ∧ gI mc' 28 0 j = 0 ∧ gI mc' 27 0 j = 0 := by
  intro N
  induction N with
  | zero => intro k mc h0 hw h1 h2; omega
  | succ N ih =>
    intro k mc h0 hw h1 h2 h25 hst
    have e1 := nI_toInt (n := k) (by omega)
    have e2 := nI_clamp (n := k) (by omega)
    show ∃ mc', f_X10_runThrough_l2_b (f_X10_runThrough_l2 fl g N) fl g (nI k) mc = some mc' ∧ _
    unfold f_X10_runThrough_l2_b
    by_cases c : k = 30
    · subst c
      exact ⟨mc, by rw [if_pos (by rw [Int32.le_iff_toInt_le, e1]; decide)], h0, hw, h25, hst⟩
    · have av : vq (nI k) 30 := by rw [vq_i, e1]; omega
      obtain ⟨mc', y⟩ := ih (k + 1) (sI (sI (sI mc 26 0 k 0) 28 0 k 0) 27 0 k 0) h0.w26.w28.w27 hw (by omega) (by omega) h25 (by
        intro j hj
        simp only [gI_sI, show ¬ (26 : Nat) = 28 by decide, show ¬ (26 : Nat) = 27 by decide, show ¬ (28 : Nat) = 27 by decide, show ¬ (28 : Nat) = 26 by decide, show ¬ (27 : Nat) = 28 by decide, show ¬ (27 : Nat) = 26 by decide, false_and, if_false, true_and]
        by_cases g : j = k
        · simp only [g, if_true, and_self]
        · simp only [g, if_false]; exact hst j (by omega))
      rw [← nI_1] at y
      refine ⟨mc', ?_, y.2⟩
      rw [if_neg (by rw [Int32.le_iff_toInt_le, e1]; show ¬ (30 : Int) ≤ k; omega)]
      simp only [asr_t av, e2, lt1_e]
      exact y.1
theorem init_12 {fl n : Nat} {g : Int32} {mc : Mem} {pn : Nat → Nat} {gt : Nat → Option Nat} {vv ld R : Nat → Int32} : ∀ (N k : Nat) (mm : Mem), RR n mc mm → wfx mc mm pn gt vv ld → k ≤ 30 → 31 ≤ N + k → (∀ j, j < 24 → gI mm 28 0 j = R j) → (∀ j, j < k → gI mm 29 0 j = 0 ∧ gI mm 30 0 j = 0 ∧ gI mm 31 0 j = 0) →
    ∃ mm', f_X12_flow_l2 fl g N (nI k) mm = some mm' ∧ RR n mc mm' ∧ wfx mc mm' pn gt vv ld ∧ (∀ j, j < 24 → gI mm' 28 0 j = R j) ∧ ∀ j, j < 30 → gI mm' 29 0 j = 0 ∧ gI mm' 30 0 j = 0 ∧ gI mm' 31 0 j = 0 := by
  intro N
  induction N with
  | zero => intro k mm h0 hw h1 h2; omega
  | succ N ih =>
    intro k mm h0 hw h1 h2 h28 hst
    have e1 := nI_toInt (n := k) (by omega)
    have e2 := nI_clamp (n := k) (by omega)
    show ∃ mm', f_X12_flow_l2_b (f_X12_flow_l2 fl g N) fl g (nI k) mm = some mm' ∧ _
    unfold f_X12_flow_l2_b
    by_cases c : k = 30
    · subst c
      exact ⟨mm, by rw [if_pos (by rw [Int32.le_iff_toInt_le, e1]; decide)], h0, hw, h28, hst⟩
    · have av : vq (nI k) 30 := by rw [vq_i, e1]; omega
      obtain ⟨mm', y⟩ := ih (k + 1) (sI (sI (sI mm 29 0 k 0) 30 0 k 0) 31 0 k 0) h0.v29.v30.v31 hw (by omega) (by omega) h28 (by
        intro j hj
        simp only [gI_sI, show ¬ (29 : Nat) = 30 by decide, show ¬ (29 : Nat) = 31 by decide, show ¬ (30 : Nat) = 31 by decide, show ¬ (30 : Nat) = 29 by decide, show ¬ (31 : Nat) = 30 by decide, show ¬ (31 : Nat) = 29 by decide, false_and, if_false, true_and]
        by_cases g : j = k
        · simp only [g, if_true, and_self]
        · simp only [g, if_false]; exact hst j (by omega))
      rw [← nI_1] at y
      refine ⟨mm', ?_, y.2⟩
      rw [if_neg (by rw [Int32.le_iff_toInt_le, e1]; show ¬ (30 : Int) ≤ k; omega)]
      simp only [asr_t av, e2, lt1_e]
      exact y.1
theorem run_both {fl n la : Nat} (hfl : 1000 ≤ fl) (hla : la < 24) {mc mm : Mem} (h : RR n mc mm) : ∃ mc' mm', f_X10_runThrough fl (nI la) mc = some mc' ∧ f_X12_flow fl (nI la) mm = some mm' ∧ RR n mc' mm' ∧ ∀ j, j < 30 → gI mc' 26 0 j = gI mm' 29 0 j ∧ gI mc' 27 0 j = gI mm' 31 0 j := by
  obtain ⟨pn, gt, vv, ld, hw⟩ := h.wfx
  have hr : r_R mc mm := h.2.2.2.2.2.2.2.2.2.2.2.2.2.2.2.2.2.2.2.2.1
  have hR : ∀ j, j < 24 → ∃ r, r ≤ 99 ∧ gI mm 28 0 j = nI r := fun j hj => by
    obtain ⟨r, -, r1, r2⟩ := rg_n (lo := 0) 99 (by omega) (hr j hj).2
    exact ⟨r, r1, r2⟩
  obtain ⟨m1, a1, a2, a3, a4, a5⟩ := init_11 (fl := fl) (n := n) (g := nI la) (R := gI mm 28 0) fl 0 mc h hw (by omega) (by omega) (fun j hj => (hr j hj).1) (fun j hj => by omega)
  obtain ⟨m2, b1, b2, b3, b4, b5⟩ := init_12 (fl := fl) (n := n) (g := nI la) (R := gI mm 28 0) fl 0 mm a2 a3 (by omega) (by omega) (fun j hj => rfl) (fun j hj => by omega)
  obtain ⟨mc', mm', y1, y2, y3⟩ := hours_l (fl := fl) (n := n) hfl hla hR fl 0 m1 m2 (fun _ => 0) (fun _ => 0) (fun _ => 0) b2 b3 a4 b4 (fun j hj => ⟨rg_0 _ (by omega), rg_0 _ (by omega), fun _ => rfl⟩) (by omega) (by omega) a5 b5
  rw [show nI 0 = 0 from rfl] at a1 b1 y1 y2
  refine ⟨mc', mm', ?_, ?_, y3⟩
  · unfold f_X10_runThrough; rw [a1, bn1_e, y1, bn1_e]
  · unfold f_X12_flow; rw [b1, bn1_e, y2, bn1_e]
theorem sim_stands {fl n : Nat} (hfl : 1000 ≤ fl) {mc mm : Mem} (h : RR n mc mm) (a1 a2 : Int32) : Sim (n + 1) (f_X11_stands fl a1 a2 mc) (f_X12_stands fl a1 a2 mm) := by
  rcases bay_cases a1 fl mc mm with ⟨c1, c2, c3, -⟩ | ⟨b, hb, rfl, e1, e2, c1, c2, c3⟩
  · exact Sim.same h (-1) (by unfold f_X11_stands; simp (disch := omega) only [Int32.lt_iff_toInt_lt, Int32.le_iff_toInt_le, t_n14, t_n13, t_n12, t_n11, t_n10, t_n5, t_n4, t_n3, t_n2, t_n1, t_0, t_1, t_2, t_3, t_4, t_5, t_6, t_7, t_8, t_9, t_10, t_11, t_12, t_13, t_14, t_15, t_16, t_17, t_18, t_19, t_20, t_21, t_22, t_23, t_24, t_25, t_26, t_27, t_28, t_29, t_30, t_31, t_32, t_33, t_34, t_37, t_38, t_39, t_40, t_41, t_44, t_48, t_50, t_51, t_52, t_57, t_59, t_60, t_61, t_62, t_66, t_98, t_99, t_100, t_101, t_102, t_103, t_104, t_105, t_106, t_107, t_108, t_109, t_110, t_111, t_112, t_113, t_114, t_115, t_116, t_121, t_124, t_150, t_200, t_399, t_999, t_2000, vq_i, if_pos, if_neg, bn2_e, bn1_e, lt1_e, asr_t, drf_e, asr_T, gI_sI, gL_sI, gR_sI, gI_sL, gL_sL, gR_sL, gI_sR, gL_sR, gR_sR, eq_self, i32_eq, or_true, true_or, and_true, true_and, or_false, false_or, and_false, false_and, not_true, not_false_iff, if_true, if_false, c3]) (by unfold f_X12_stands; simp (disch := omega) only [Int32.lt_iff_toInt_lt, Int32.le_iff_toInt_le, t_n14, t_n13, t_n12, t_n11, t_n10, t_n5, t_n4, t_n3, t_n2, t_n1, t_0, t_1, t_2, t_3, t_4, t_5, t_6, t_7, t_8, t_9, t_10, t_11, t_12, t_13, t_14, t_15, t_16, t_17, t_18, t_19, t_20, t_21, t_22, t_23, t_24, t_25, t_26, t_27, t_28, t_29, t_30, t_31, t_32, t_33, t_34, t_37, t_38, t_39, t_40, t_41, t_44, t_48, t_50, t_51, t_52, t_57, t_59, t_60, t_61, t_62, t_66, t_98, t_99, t_100, t_101, t_102, t_103, t_104, t_105, t_106, t_107, t_108, t_109, t_110, t_111, t_112, t_113, t_114, t_115, t_116, t_121, t_124, t_150, t_200, t_399, t_999, t_2000, vq_i, if_pos, if_neg, bn2_e, bn1_e, lt1_e, asr_t, drf_e, asr_T, gI_sI, gL_sI, gR_sI, gI_sL, gL_sL, gR_sL, gI_sR, gL_sR, gR_sR, eq_self, i32_eq, or_true, true_or, and_true, true_and, or_false, false_or, and_false, false_and, not_true, not_false_iff, if_true, if_false, c2])
  · rcases inr (x := a2) 24 (by decide) with q | ⟨la, hla, rfl⟩
    · exact Sim.same h (-1) (by unfold f_X11_stands; simp (disch := omega) only [Int32.lt_iff_toInt_lt, Int32.le_iff_toInt_le, t_n14, t_n13, t_n12, t_n11, t_n10, t_n5, t_n4, t_n3, t_n2, t_n1, t_0, t_1, t_2, t_3, t_4, t_5, t_6, t_7, t_8, t_9, t_10, t_11, t_12, t_13, t_14, t_15, t_16, t_17, t_18, t_19, t_20, t_21, t_22, t_23, t_24, t_25, t_26, t_27, t_28, t_29, t_30, t_31, t_32, t_33, t_34, t_37, t_38, t_39, t_40, t_41, t_44, t_48, t_50, t_51, t_52, t_57, t_59, t_60, t_61, t_62, t_66, t_98, t_99, t_100, t_101, t_102, t_103, t_104, t_105, t_106, t_107, t_108, t_109, t_110, t_111, t_112, t_113, t_114, t_115, t_116, t_121, t_124, t_150, t_200, t_399, t_999, t_2000, vq_i, if_pos, if_neg, bn2_e, bn1_e, lt1_e, asr_t, drf_e, asr_T, gI_sI, gL_sI, gR_sI, gI_sL, gL_sL, gR_sL, gI_sR, gL_sR, gR_sR, eq_self, i32_eq, or_true, true_or, and_true, true_and, or_false, false_or, and_false, false_and, not_true, not_false_iff, if_true, if_false, c3, isHour_11]) (by unfold f_X12_stands; simp (disch := omega) only [Int32.lt_iff_toInt_lt, Int32.le_iff_toInt_le, t_n14, t_n13, t_n12, t_n11, t_n10, t_n5, t_n4, t_n3, t_n2, t_n1, t_0, t_1, t_2, t_3, t_4, t_5, t_6, t_7, t_8, t_9, t_10, t_11, t_12, t_13, t_14, t_15, t_16, t_17, t_18, t_19, t_20, t_21, t_22, t_23, t_24, t_25, t_26, t_27, t_28, t_29, t_30, t_31, t_32, t_33, t_34, t_37, t_38, t_39, t_40, t_41, t_44, t_48, t_50, t_51, t_52, t_57, t_59, t_60, t_61, t_62, t_66, t_98, t_99, t_100, t_101, t_102, t_103, t_104, t_105, t_106, t_107, t_108, t_109, t_110, t_111, t_112, t_113, t_114, t_115, t_116, t_121, t_124, t_150, t_200, t_399, t_999, t_2000, vq_i, if_pos, if_neg, bn2_e, bn1_e, lt1_e, asr_t, drf_e, asr_T, gI_sI, gL_sI, gR_sI, gI_sL, gL_sL, gR_sL, gI_sR, gL_sR, gR_sR, eq_self, i32_eq, or_true, true_or, and_true, true_and, or_false, false_or, and_false, false_and, not_true, not_false_iff, if_true, if_false, c2, in_12])
    · have e3 := nI_toInt (n := la) (by omega)
      obtain ⟨mc', mm', y1, y2, y3, y4⟩ := run_both hfl hla h
      refine ⟨gI mm' 29 0 b, mc', mm', ?_, ?_, y3.up⟩
      · unfold f_X11_stands; simp (disch := omega) only [Int32.lt_iff_toInt_lt, Int32.le_iff_toInt_le, t_n14, t_n13, t_n12, t_n11, t_n10, t_n5, t_n4, t_n3, t_n2, t_n1, t_0, t_1, t_2, t_3, t_4, t_5, t_6, t_7, t_8, t_9, t_10, t_11, t_12, t_13, t_14, t_15, t_16, t_17, t_18, t_19, t_20, t_21, t_22, t_23, t_24, t_25, t_26, t_27, t_28, t_29, t_30, t_31, t_32, t_33, t_34, t_37, t_38, t_39, t_40, t_41, t_44, t_48, t_50, t_51, t_52, t_57, t_59, t_60, t_61, t_62, t_66, t_98, t_99, t_100, t_101, t_102, t_103, t_104, t_105, t_106, t_107, t_108, t_109, t_110, t_111, t_112, t_113, t_114, t_115, t_116, t_121, t_124, t_150, t_200, t_399, t_999, t_2000, vq_i, if_pos, if_neg, bn2_e, bn1_e, lt1_e, asr_t, drf_e, asr_T, gI_sI, gL_sI, gR_sI, gI_sL, gL_sL, gR_sL, gI_sR, gL_sR, gR_sR, eq_self, i32_eq, or_true, true_or, and_true, true_and, or_false, false_or, and_false, false_and, not_true, not_false_iff, if_true, if_false, c3, isHour_11, e3, y1, e1, e2, (y4 b hb).1]
      · unfold f_X12_stands; simp (disch := omega) only [Int32.lt_iff_toInt_lt, Int32.le_iff_toInt_le, t_n14, t_n13, t_n12, t_n11, t_n10, t_n5, t_n4, t_n3, t_n2, t_n1, t_0, t_1, t_2, t_3, t_4, t_5, t_6, t_7, t_8, t_9, t_10, t_11, t_12, t_13, t_14, t_15, t_16, t_17, t_18, t_19, t_20, t_21, t_22, t_23, t_24, t_25, t_26, t_27, t_28, t_29, t_30, t_31, t_32, t_33, t_34, t_37, t_38, t_39, t_40, t_41, t_44, t_48, t_50, t_51, t_52, t_57, t_59, t_60, t_61, t_62, t_66, t_98, t_99, t_100, t_101, t_102, t_103, t_104, t_105, t_106, t_107, t_108, t_109, t_110, t_111, t_112, t_113, t_114, t_115, t_116, t_121, t_124, t_150, t_200, t_399, t_999, t_2000, vq_i, if_pos, if_neg, bn2_e, bn1_e, lt1_e, asr_t, drf_e, asr_T, gI_sI, gL_sI, gR_sI, gI_sL, gL_sL, gR_sL, gI_sR, gL_sR, gR_sR, eq_self, i32_eq, or_true, true_or, and_true, true_and, or_false, false_or, and_false, false_and, not_true, not_false_iff, if_true, if_false, c2, in_12, e3, y2, e1, e2]
theorem all_l {fl : Nat} {m : Mem} : ∀ (N k : Nat), k ≤ 30 → 31 ≤ N + k → f_X10_leaksOfAll_l4 fl N (sumI (gI m 27 0) k) (nI k) m = some (sumI (gI m 27 0) 30, m) := by
  intro N
  induction N with
  | zero => intro k h1 h2; omega
  | succ N ih =>
    intro k h1 h2
    have e1 := nI_toInt (n := k) (by omega)
    have e2 := nI_clamp (n := k) (by omega)
    unfold f_X10_leaksOfAll_l4 f_X10_leaksOfAll_l4_b
    by_cases c : k = 30
    · subst c; simp (disch := omega) only [Int32.lt_iff_toInt_lt, Int32.le_iff_toInt_le, t_n14, t_n13, t_n12, t_n11, t_n10, t_n5, t_n4, t_n3, t_n2, t_n1, t_0, t_1, t_2, t_3, t_4, t_5, t_6, t_7, t_8, t_9, t_10, t_11, t_12, t_13, t_14, t_15, t_16, t_17, t_18, t_19, t_20, t_21, t_22, t_23, t_24, t_25, t_26, t_27, t_28, t_29, t_30, t_31, t_32, t_33, t_34, t_37, t_38, t_39, t_40, t_41, t_44, t_48, t_50, t_51, t_52, t_57, t_59, t_60, t_61, t_62, t_66, t_98, t_99, t_100, t_101, t_102, t_103, t_104, t_105, t_106, t_107, t_108, t_109, t_110, t_111, t_112, t_113, t_114, t_115, t_116, t_121, t_124, t_150, t_200, t_399, t_999, t_2000, vq_i, if_pos, if_neg, bn2_e, bn1_e, lt1_e, asr_t, drf_e, asr_T, gI_sI, gL_sI, gR_sI, gI_sL, gL_sL, gR_sL, gI_sR, gL_sR, gR_sR, eq_self, i32_eq, or_true, true_or, and_true, true_and, or_false, false_or, and_false, false_and, not_true, not_false_iff, if_true, if_false, e1]
    · have y := ih (k + 1) (by omega) (by omega)
      rw [← nI_1, show sumI (gI m 27 0) (k + 1) = sumI (gI m 27 0) k + gI m 27 0 k from rfl] at y
      simp (disch := omega) only [Int32.lt_iff_toInt_lt, Int32.le_iff_toInt_le, t_n14, t_n13, t_n12, t_n11, t_n10, t_n5, t_n4, t_n3, t_n2, t_n1, t_0, t_1, t_2, t_3, t_4, t_5, t_6, t_7, t_8, t_9, t_10, t_11, t_12, t_13, t_14, t_15, t_16, t_17, t_18, t_19, t_20, t_21, t_22, t_23, t_24, t_25, t_26, t_27, t_28, t_29, t_30, t_31, t_32, t_33, t_34, t_37, t_38, t_39, t_40, t_41, t_44, t_48, t_50, t_51, t_52, t_57, t_59, t_60, t_61, t_62, t_66, t_98, t_99, t_100, t_101, t_102, t_103, t_104, t_105, t_106, t_107, t_108, t_109, t_110, t_111, t_112, t_113, t_114, t_115, t_116, t_121, t_124, t_150, t_200, t_399, t_999, t_2000, vq_i, if_pos, if_neg, bn2_e, bn1_e, lt1_e, asr_t, drf_e, asr_T, gI_sI, gL_sI, gR_sI, gI_sL, gL_sL, gR_sL, gI_sR, gL_sR, gR_sR, eq_self, i32_eq, or_true, true_or, and_true, true_and, or_false, false_or, and_false, false_and, not_true, not_false_iff, if_true, if_false, e1, e2, y]
theorem all_l2 {fl : Nat} {m : Mem} : ∀ (N k : Nat), k ≤ 30 → 31 ≤ N + k → f_X12_leaks_l26 fl (-1) N (sumI (gI m 31 0) k) (nI k) m = some (sumI (gI m 31 0) 30, m) := by
  intro N
  induction N with
  | zero => intro k h1 h2; omega
  | succ N ih =>
    intro k h1 h2
    have e1 := nI_toInt (n := k) (by omega)
    have e2 := nI_clamp (n := k) (by omega)
    unfold f_X12_leaks_l26 f_X12_leaks_l26_b
    by_cases c : k = 30
    · subst c; simp (disch := omega) only [Int32.lt_iff_toInt_lt, Int32.le_iff_toInt_le, t_n14, t_n13, t_n12, t_n11, t_n10, t_n5, t_n4, t_n3, t_n2, t_n1, t_0, t_1, t_2, t_3, t_4, t_5, t_6, t_7, t_8, t_9, t_10, t_11, t_12, t_13, t_14, t_15, t_16, t_17, t_18, t_19, t_20, t_21, t_22, t_23, t_24, t_25, t_26, t_27, t_28, t_29, t_30, t_31, t_32, t_33, t_34, t_37, t_38, t_39, t_40, t_41, t_44, t_48, t_50, t_51, t_52, t_57, t_59, t_60, t_61, t_62, t_66, t_98, t_99, t_100, t_101, t_102, t_103, t_104, t_105, t_106, t_107, t_108, t_109, t_110, t_111, t_112, t_113, t_114, t_115, t_116, t_121, t_124, t_150, t_200, t_399, t_999, t_2000, vq_i, if_pos, if_neg, bn2_e, bn1_e, lt1_e, asr_t, drf_e, asr_T, gI_sI, gL_sI, gR_sI, gI_sL, gL_sL, gR_sL, gI_sR, gL_sR, gR_sR, eq_self, i32_eq, or_true, true_or, and_true, true_and, or_false, false_or, and_false, false_and, not_true, not_false_iff, if_true, if_false, e1]
    · have y := ih (k + 1) (by omega) (by omega)
      rw [← nI_1, show sumI (gI m 31 0) (k + 1) = sumI (gI m 31 0) k + gI m 31 0 k from rfl] at y
      simp (disch := omega) only [Int32.lt_iff_toInt_lt, Int32.le_iff_toInt_le, t_n14, t_n13, t_n12, t_n11, t_n10, t_n5, t_n4, t_n3, t_n2, t_n1, t_0, t_1, t_2, t_3, t_4, t_5, t_6, t_7, t_8, t_9, t_10, t_11, t_12, t_13, t_14, t_15, t_16, t_17, t_18, t_19, t_20, t_21, t_22, t_23, t_24, t_25, t_26, t_27, t_28, t_29, t_30, t_31, t_32, t_33, t_34, t_37, t_38, t_39, t_40, t_41, t_44, t_48, t_50, t_51, t_52, t_57, t_59, t_60, t_61, t_62, t_66, t_98, t_99, t_100, t_101, t_102, t_103, t_104, t_105, t_106, t_107, t_108, t_109, t_110, t_111, t_112, t_113, t_114, t_115, t_116, t_121, t_124, t_150, t_200, t_399, t_999, t_2000, vq_i, if_pos, if_neg, bn2_e, bn1_e, lt1_e, asr_t, drf_e, asr_T, gI_sI, gL_sI, gR_sI, gI_sL, gL_sL, gR_sL, gI_sR, gL_sR, gR_sR, eq_self, i32_eq, or_true, true_or, and_true, true_and, or_false, false_or, and_false, false_and, not_true, not_false_iff, if_true, if_false, e1, e2, y]
theorem one_l2 {fl b : Nat} {m : Mem} (hb : b < 30) : ∀ (N k : Nat), k ≤ 30 → 31 ≤ N + k → f_X12_leaks_l26 fl (nI b) N (if b < k then gI m 31 0 b else 0) (nI k) m = some (gI m 31 0 b, m) := by
  intro N
  have i1 := nI_toInt (n := b) (by omega)
  induction N with
  | zero => intro k h1 h2; omega
  | succ N ih =>
    intro k h1 h2
    have e1 := nI_toInt (n := k) (by omega)
    have e2 := nI_clamp (n := k) (by omega)
    unfold f_X12_leaks_l26 f_X12_leaks_l26_b
    by_cases c : k = 30
    · subst c
      rw [if_pos hb]
      simp (disch := omega) only [Int32.lt_iff_toInt_lt, Int32.le_iff_toInt_le, t_n14, t_n13, t_n12, t_n11, t_n10, t_n5, t_n4, t_n3, t_n2, t_n1, t_0, t_1, t_2, t_3, t_4, t_5, t_6, t_7, t_8, t_9, t_10, t_11, t_12, t_13, t_14, t_15, t_16, t_17, t_18, t_19, t_20, t_21, t_22, t_23, t_24, t_25, t_26, t_27, t_28, t_29, t_30, t_31, t_32, t_33, t_34, t_37, t_38, t_39, t_40, t_41, t_44, t_48, t_50, t_51, t_52, t_57, t_59, t_60, t_61, t_62, t_66, t_98, t_99, t_100, t_101, t_102, t_103, t_104, t_105, t_106, t_107, t_108, t_109, t_110, t_111, t_112, t_113, t_114, t_115, t_116, t_121, t_124, t_150, t_200, t_399, t_999, t_2000, vq_i, if_pos, if_neg, bn2_e, bn1_e, lt1_e, asr_t, drf_e, asr_T, gI_sI, gL_sI, gR_sI, gI_sL, gL_sL, gR_sL, gI_sR, gL_sR, gR_sR, eq_self, i32_eq, or_true, true_or, and_true, true_and, or_false, false_or, and_false, false_and, not_true, not_false_iff, if_true, if_false, e1]
    · have y := ih (k + 1) (by omega) (by omega)
      rw [← nI_1] at y
      by_cases d : b = k
      · subst d
        rw [if_pos (by omega)] at y
        rw [if_neg (show ¬ b < b by omega)]
        simp (disch := omega) only [Int32.lt_iff_toInt_lt, Int32.le_iff_toInt_le, t_n14, t_n13, t_n12, t_n11, t_n10, t_n5, t_n4, t_n3, t_n2, t_n1, t_0, t_1, t_2, t_3, t_4, t_5, t_6, t_7, t_8, t_9, t_10, t_11, t_12, t_13, t_14, t_15, t_16, t_17, t_18, t_19, t_20, t_21, t_22, t_23, t_24, t_25, t_26, t_27, t_28, t_29, t_30, t_31, t_32, t_33, t_34, t_37, t_38, t_39, t_40, t_41, t_44, t_48, t_50, t_51, t_52, t_57, t_59, t_60, t_61, t_62, t_66, t_98, t_99, t_100, t_101, t_102, t_103, t_104, t_105, t_106, t_107, t_108, t_109, t_110, t_111, t_112, t_113, t_114, t_115, t_116, t_121, t_124, t_150, t_200, t_399, t_999, t_2000, vq_i, if_pos, if_neg, bn2_e, bn1_e, lt1_e, asr_t, drf_e, asr_T, gI_sI, gL_sI, gR_sI, gI_sL, gL_sL, gR_sL, gI_sR, gL_sR, gR_sR, eq_self, i32_eq, or_true, true_or, and_true, true_and, or_false, false_or, and_false, false_and, not_true, not_false_iff, if_true, if_false, e1, e2, i1, y, Int32.zero_add]
      · by_cases g : b < k
        · rw [if_pos (by omega)] at y
          rw [if_pos (show b < k from g)]
          simp (disch := omega) only [Int32.lt_iff_toInt_lt, Int32.le_iff_toInt_le, t_n14, t_n13, t_n12, t_n11, t_n10, t_n5, t_n4, t_n3, t_n2, t_n1, t_0, t_1, t_2, t_3, t_4, t_5, t_6, t_7, t_8, t_9, t_10, t_11, t_12, t_13, t_14, t_15, t_16, t_17, t_18, t_19, t_20, t_21, t_22, t_23, t_24, t_25, t_26, t_27, t_28, t_29, t_30, t_31, t_32, t_33, t_34, t_37, t_38, t_39, t_40, t_41, t_44, t_48, t_50, t_51, t_52, t_57, t_59, t_60, t_61, t_62, t_66, t_98, t_99, t_100, t_101, t_102, t_103, t_104, t_105, t_106, t_107, t_108, t_109, t_110, t_111, t_112, t_113, t_114, t_115, t_116, t_121, t_124, t_150, t_200, t_399, t_999, t_2000, vq_i, if_pos, if_neg, bn2_e, bn1_e, lt1_e, asr_t, drf_e, asr_T, gI_sI, gL_sI, gR_sI, gI_sL, gL_sL, gR_sL, gI_sR, gL_sR, gR_sR, eq_self, i32_eq, or_true, true_or, and_true, true_and, or_false, false_or, and_false, false_and, not_true, not_false_iff, if_true, if_false, e1, e2, i1, y, Int32.add_zero]
        · rw [if_neg (by omega)] at y
          rw [if_neg (show ¬ b < k from g)]
          simp (disch := omega) only [Int32.lt_iff_toInt_lt, Int32.le_iff_toInt_le, t_n14, t_n13, t_n12, t_n11, t_n10, t_n5, t_n4, t_n3, t_n2, t_n1, t_0, t_1, t_2, t_3, t_4, t_5, t_6, t_7, t_8, t_9, t_10, t_11, t_12, t_13, t_14, t_15, t_16, t_17, t_18, t_19, t_20, t_21, t_22, t_23, t_24, t_25, t_26, t_27, t_28, t_29, t_30, t_31, t_32, t_33, t_34, t_37, t_38, t_39, t_40, t_41, t_44, t_48, t_50, t_51, t_52, t_57, t_59, t_60, t_61, t_62, t_66, t_98, t_99, t_100, t_101, t_102, t_103, t_104, t_105, t_106, t_107, t_108, t_109, t_110, t_111, t_112, t_113, t_114, t_115, t_116, t_121, t_124, t_150, t_200, t_399, t_999, t_2000, vq_i, if_pos, if_neg, bn2_e, bn1_e, lt1_e, asr_t, drf_e, asr_T, gI_sI, gL_sI, gR_sI, gI_sL, gL_sL, gR_sL, gI_sR, gL_sR, gR_sR, eq_self, i32_eq, or_true, true_or, and_true, true_and, or_false, false_or, and_false, false_and, not_true, not_false_iff, if_true, if_false, e1, e2, i1, y, Int32.add_zero]
theorem sim_leaks {fl n : Nat} (hfl : 1000 ≤ fl) {mc mm : Mem} (h : RR n mc mm) (a1 : Int32) : Sim (n + 1) (f_X11_leaks fl a1 mc) (f_X12_leaks fl a1 mm) := by
  obtain ⟨mc', mm', y1, y2, y3, y4⟩ := run_both (la := 23) hfl (by decide) h
  rw [show nI 23 = 23 from rfl] at y1 y2
  by_cases e : a1 = -1
  · subst e
    have s : sumI (gI mc' 27 0) 30 = sumI (gI mm' 31 0) 30 := sumI_congr (fun j hj => (y4 j hj).2)
    have x1 := all_l (fl := fl) (m := mc') fl 0 (by omega) (by omega)
    have x2 := all_l2 (fl := fl) (m := mm') fl 0 (by omega) (by omega)
    rw [show nI 0 = 0 from rfl, show sumI (gI mc' 27 0) 0 = 0 from rfl, s] at x1
    rw [show nI 0 = 0 from rfl, show sumI (gI mm' 31 0) 0 = 0 from rfl] at x2
    refine ⟨sumI (gI mm' 31 0) 30, mc', mm', ?_, ?_, y3.up⟩
    · unfold f_X11_leaks f_X11_leaks_b15 f_X10_leaksOfAll
      rw [if_pos rfl, y1, bn1_e, if_pos rfl, x1, bn2_e, bn2_e]
    · unfold f_X12_leaks f_X12_leaks_b16
      rw [if_pos rfl, y2, bn1_e, x2, bn2_e]
  · rcases bay_cases a1 fl mc mm with ⟨c1, c2, c3, -⟩ | ⟨b, hb, rfl, e1, e2, c1, c2, c3⟩
    · refine Sim.same h (-5) ?_ ?_
      · unfold f_X11_leaks; rw [if_neg e, c3, bn2_e, if_pos rfl]
      · unfold f_X12_leaks; rw [if_neg e, c2, bn2_e, if_pos rfl]
    · have x2 := one_l2 (fl := fl) (m := mm') hb fl 0 (by omega) (by omega)
      rw [show nI 0 = 0 from rfl, if_neg (by omega)] at x2
      refine ⟨gI mm' 31 0 b, mc', mm', ?_, ?_, y3.up⟩
      · unfold f_X11_leaks f_X11_leaks_b15
        rw [if_neg e, c3, bn2_e, if_neg (by decide), y1, bn1_e, if_neg e, asr_t (by rw [vq_i, e1]; omega), e2, (y4 b hb).2]
      · unfold f_X12_leaks f_X12_leaks_b16
        rw [if_neg e, c2, bn2_e, if_neg (by decide), y2, bn1_e, x2, bn2_e]
