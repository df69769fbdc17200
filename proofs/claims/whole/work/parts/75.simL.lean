theorem lot_null {mc mm : Mem} (h : r_L0 mc mm) {k : Nat} (hk : k < 60) : (nl mc ≤ k ∧ gR mc 3 0 k = 0) ∨ (k < nl mc ∧ gR mc 3 0 k = k + 1) := by
  have := h.2.2.2 k hk
  by_cases c : k < nl mc
  · right; rw [if_pos c] at this; exact ⟨c, this⟩
  · left; rw [if_neg c] at this; exact ⟨by omega, this⟩
theorem standing_l1 {fl n : Nat} {mc mm : Mem} (h : r_L0 mc mm) (hg : r_Lg n mc mm) : ∀ (N k : Nat), k ≤ 60 → 61 ≤ N + k → f_X11_standingPieces_l13 fl 60 N (sumI (fun l => gI mc 23 l 8) k) (nI k) mc = some (sumI (fun l => gI mc 23 l 8) 60, mc) := by
  intro N
  induction N with
  | zero => intro k h1 h2; omega
  | succ N ih =>
    intro k h1 h2
    have e := nI_toInt (n := k) (by omega)
    have e2 := nI_clamp (n := k) (by omega)
    unfold f_X11_standingPieces_l13 f_X11_standingPieces_l13_b
    by_cases c : k = 60
    · subst c; simp (disch := omega) only [Int32.lt_iff_toInt_lt, Int32.le_iff_toInt_le, t_n14, t_n13, t_n12, t_n11, t_n10, t_n5, t_n4, t_n3, t_n2, t_n1, t_0, t_1, t_2, t_3, t_4, t_5, t_6, t_7, t_8, t_9, t_10, t_11, t_12, t_13, t_14, t_15, t_16, t_17, t_18, t_19, t_20, t_21, t_22, t_23, t_24, t_25, t_26, t_27, t_28, t_29, t_30, t_31, t_32, t_33, t_34, t_37, t_38, t_39, t_40, t_41, t_44, t_48, t_50, t_51, t_52, t_57, t_59, t_60, t_61, t_62, t_66, t_98, t_99, t_100, t_101, t_102, t_103, t_104, t_105, t_106, t_107, t_108, t_109, t_110, t_111, t_112, t_113, t_114, t_115, t_116, t_121, t_124, t_150, t_200, t_399, t_999, t_2000, vq_i, if_pos, if_neg, bn2_e, bn1_e, lt1_e, asr_t, drf_e, asr_T, gI_sI, gL_sI, gR_sI, gI_sL, gL_sL, gR_sL, gI_sR, gL_sR, gR_sR, eq_self, i32_eq, or_true, true_or, and_true, true_and, or_false, false_or, and_false, false_and, not_true, not_false_iff, if_true, if_false, e]
    · have y := ih (k + 1) (by omega) (by omega)
      rw [← nI_1] at y
      rcases lot_null h (show k < 60 by omega) with ⟨q1, q2⟩ | ⟨q1, q2⟩
      · have z : sumI (fun l => gI mc 23 l 8) (k + 1) = sumI (fun l => gI mc 23 l 8) k + 0 := by
          show _ + gI mc 23 k 8 = _
          rw [((hg k (by omega)).2.2.2 q1).1]
        rw [z] at y
        simp (disch := omega) only [Int32.lt_iff_toInt_lt, Int32.le_iff_toInt_le, t_n14, t_n13, t_n12, t_n11, t_n10, t_n5, t_n4, t_n3, t_n2, t_n1, t_0, t_1, t_2, t_3, t_4, t_5, t_6, t_7, t_8, t_9, t_10, t_11, t_12, t_13, t_14, t_15, t_16, t_17, t_18, t_19, t_20, t_21, t_22, t_23, t_24, t_25, t_26, t_27, t_28, t_29, t_30, t_31, t_32, t_33, t_34, t_37, t_38, t_39, t_40, t_41, t_44, t_48, t_50, t_51, t_52, t_57, t_59, t_60, t_61, t_62, t_66, t_98, t_99, t_100, t_101, t_102, t_103, t_104, t_105, t_106, t_107, t_108, t_109, t_110, t_111, t_112, t_113, t_114, t_115, t_116, t_121, t_124, t_150, t_200, t_399, t_999, t_2000, vq_i, if_pos, if_neg, bn2_e, bn1_e, lt1_e, asr_t, drf_e, asr_T, gI_sI, gL_sI, gR_sI, gI_sL, gL_sL, gR_sL, gI_sR, gL_sR, gR_sR, eq_self, i32_eq, or_true, true_or, and_true, true_and, or_false, false_or, and_false, false_and, not_true, not_false_iff, if_true, if_false, e, e2, q2, y]
      · have z : sumI (fun l => gI mc 23 l 8) (k + 1) = sumI (fun l => gI mc 23 l 8) k + gI mc 23 k 8 := rfl
        rw [z] at y
        have q3 : k < gR mc 999 23 0 := q1
        simp (disch := omega) only [Int32.lt_iff_toInt_lt, Int32.le_iff_toInt_le, t_n14, t_n13, t_n12, t_n11, t_n10, t_n5, t_n4, t_n3, t_n2, t_n1, t_0, t_1, t_2, t_3, t_4, t_5, t_6, t_7, t_8, t_9, t_10, t_11, t_12, t_13, t_14, t_15, t_16, t_17, t_18, t_19, t_20, t_21, t_22, t_23, t_24, t_25, t_26, t_27, t_28, t_29, t_30, t_31, t_32, t_33, t_34, t_37, t_38, t_39, t_40, t_41, t_44, t_48, t_50, t_51, t_52, t_57, t_59, t_60, t_61, t_62, t_66, t_98, t_99, t_100, t_101, t_102, t_103, t_104, t_105, t_106, t_107, t_108, t_109, t_110, t_111, t_112, t_113, t_114, t_115, t_116, t_121, t_124, t_150, t_200, t_399, t_999, t_2000, vq_i, if_pos, if_neg, bn2_e, bn1_e, lt1_e, asr_t, drf_e, asr_T, gI_sI, gL_sI, gR_sI, gI_sL, gL_sL, gR_sL, gI_sR, gL_sR, gR_sR, eq_self, i32_eq, or_true, true_or, and_true, true_and, or_false, false_or, and_false, false_and, not_true, not_false_iff, if_true, if_false, e, e2, q2, y]
theorem standing_11 {fl n : Nat} {mc mm : Mem} (hfl : 1000 ≤ fl) (h : r_L0 mc mm) (hg : r_Lg n mc mm) : f_X11_standingPieces fl mc = some (sumI (fun l => gI mc 23 l 8) 60, mc) := by
  have := standing_l1 (fl := fl) h hg fl 0 (by omega) (by omega)
  unfold f_X11_standingPieces
  rw [show (0 : Int32) = sumI (fun l => gI mc 23 l 8) 0 from rfl, show sumI (fun l => gI mc 23 l 8) 0 = nI 0 from rfl] at *
  rw [this]; rfl
theorem broken_l1 {fl n : Nat} {mc mm : Mem} (h : r_L0 mc mm) (hg : r_Lg n mc mm) : ∀ (N k : Nat), k ≤ 60 → 61 ≤ N + k → f_X11_brokenPieces_l13 fl 60 N (sumI (fun l => gI mc 23 l 9) k) (nI k) mc = some (sumI (fun l => gI mc 23 l 9) 60, mc) := by
  intro N
  induction N with
  | zero => intro k h1 h2; omega
  | succ N ih =>
    intro k h1 h2
    have e := nI_toInt (n := k) (by omega)
    have e2 := nI_clamp (n := k) (by omega)
    unfold f_X11_brokenPieces_l13 f_X11_brokenPieces_l13_b
    by_cases c : k = 60
    · subst c; simp (disch := omega) only [Int32.lt_iff_toInt_lt, Int32.le_iff_toInt_le, t_n14, t_n13, t_n12, t_n11, t_n10, t_n5, t_n4, t_n3, t_n2, t_n1, t_0, t_1, t_2, t_3, t_4, t_5, t_6, t_7, t_8, t_9, t_10, t_11, t_12, t_13, t_14, t_15, t_16, t_17, t_18, t_19, t_20, t_21, t_22, t_23, t_24, t_25, t_26, t_27, t_28, t_29, t_30, t_31, t_32, t_33, t_34, t_37, t_38, t_39, t_40, t_41, t_44, t_48, t_50, t_51, t_52, t_57, t_59, t_60, t_61, t_62, t_66, t_98, t_99, t_100, t_101, t_102, t_103, t_104, t_105, t_106, t_107, t_108, t_109, t_110, t_111, t_112, t_113, t_114, t_115, t_116, t_121, t_124, t_150, t_200, t_399, t_999, t_2000, vq_i, if_pos, if_neg, bn2_e, bn1_e, lt1_e, asr_t, drf_e, asr_T, gI_sI, gL_sI, gR_sI, gI_sL, gL_sL, gR_sL, gI_sR, gL_sR, gR_sR, eq_self, i32_eq, or_true, true_or, and_true, true_and, or_false, false_or, and_false, false_and, not_true, not_false_iff, if_true, if_false, e]
    · have y := ih (k + 1) (by omega) (by omega)
      rw [← nI_1] at y
      rcases lot_null h (show k < 60 by omega) with ⟨q1, q2⟩ | ⟨q1, q2⟩
      · have z : sumI (fun l => gI mc 23 l 9) (k + 1) = sumI (fun l => gI mc 23 l 9) k + 0 := by
          show _ + gI mc 23 k 9 = _
          rw [((hg k (by omega)).2.2.2 q1).2.1]
        rw [z] at y
        simp (disch := omega) only [Int32.lt_iff_toInt_lt, Int32.le_iff_toInt_le, t_n14, t_n13, t_n12, t_n11, t_n10, t_n5, t_n4, t_n3, t_n2, t_n1, t_0, t_1, t_2, t_3, t_4, t_5, t_6, t_7, t_8, t_9, t_10, t_11, t_12, t_13, t_14, t_15, t_16, t_17, t_18, t_19, t_20, t_21, t_22, t_23, t_24, t_25, t_26, t_27, t_28, t_29, t_30, t_31, t_32, t_33, t_34, t_37, t_38, t_39, t_40, t_41, t_44, t_48, t_50, t_51, t_52, t_57, t_59, t_60, t_61, t_62, t_66, t_98, t_99, t_100, t_101, t_102, t_103, t_104, t_105, t_106, t_107, t_108, t_109, t_110, t_111, t_112, t_113, t_114, t_115, t_116, t_121, t_124, t_150, t_200, t_399, t_999, t_2000, vq_i, if_pos, if_neg, bn2_e, bn1_e, lt1_e, asr_t, drf_e, asr_T, gI_sI, gL_sI, gR_sI, gI_sL, gL_sL, gR_sL, gI_sR, gL_sR, gR_sR, eq_self, i32_eq, or_true, true_or, and_true, true_and, or_false, false_or, and_false, false_and, not_true, not_false_iff, if_true, if_false, e, e2, q2, y]
      · have z : sumI (fun l => gI mc 23 l 9) (k + 1) = sumI (fun l => gI mc 23 l 9) k + gI mc 23 k 9 := rfl
        rw [z] at y
        have q3 : k < gR mc 999 23 0 := q1
        simp (disch := omega) only [Int32.lt_iff_toInt_lt, Int32.le_iff_toInt_le, t_n14, t_n13, t_n12, t_n11, t_n10, t_n5, t_n4, t_n3, t_n2, t_n1, t_0, t_1, t_2, t_3, t_4, t_5, t_6, t_7, t_8, t_9, t_10, t_11, t_12, t_13, t_14, t_15, t_16, t_17, t_18, t_19, t_20, t_21, t_22, t_23, t_24, t_25, t_26, t_27, t_28, t_29, t_30, t_31, t_32, t_33, t_34, t_37, t_38, t_39, t_40, t_41, t_44, t_48, t_50, t_51, t_52, t_57, t_59, t_60, t_61, t_62, t_66, t_98, t_99, t_100, t_101, t_102, t_103, t_104, t_105, t_106, t_107, t_108, t_109, t_110, t_111, t_112, t_113, t_114, t_115, t_116, t_121, t_124, t_150, t_200, t_399, t_999, t_2000, vq_i, if_pos, if_neg, bn2_e, bn1_e, lt1_e, asr_t, drf_e, asr_T, gI_sI, gL_sI, gR_sI, gI_sL, gL_sL, gR_sL, gI_sR, gL_sR, gR_sR, eq_self, i32_eq, or_true, true_or, and_true, true_and, or_false, false_or, and_false, false_and, not_true, not_false_iff, if_true, if_false, e, e2, q2, y]
theorem broken_11 {fl n : Nat} {mc mm : Mem} (hfl : 1000 ≤ fl) (h : r_L0 mc mm) (hg : r_Lg n mc mm) : f_X11_brokenPieces fl mc = some (sumI (fun l => gI mc 23 l 9) 60, mc) := by
  have := broken_l1 (fl := fl) h hg fl 0 (by omega) (by omega)
  unfold f_X11_brokenPieces
  rw [show (0 : Int32) = sumI (fun l => gI mc 23 l 9) 0 from rfl, show sumI (fun l => gI mc 23 l 9) 0 = nI 0 from rfl] at *
  rw [this]; rfl
theorem standing_l2 {fl : Nat} {mm : Mem} : ∀ (N k : Nat), k ≤ 150 → 151 ≤ N + k → f_X12_standing_l4 fl N (sumI (fun k => if 0 ≤ (gI mm 14 0 k).toInt then 1 else 0) k) (nI k) mm = some (sumI (fun k => if 0 ≤ (gI mm 14 0 k).toInt then 1 else 0) 150, mm) := by
  intro N
  induction N with
  | zero => intro k h1 h2; omega
  | succ N ih =>
    intro k h1 h2
    have e := nI_toInt (n := k) (by omega)
    have e2 := nI_clamp (n := k) (by omega)
    unfold f_X12_standing_l4 f_X12_standing_l4_b
    by_cases c : k = 150
    · subst c; simp (disch := omega) only [Int32.lt_iff_toInt_lt, Int32.le_iff_toInt_le, t_n14, t_n13, t_n12, t_n11, t_n10, t_n5, t_n4, t_n3, t_n2, t_n1, t_0, t_1, t_2, t_3, t_4, t_5, t_6, t_7, t_8, t_9, t_10, t_11, t_12, t_13, t_14, t_15, t_16, t_17, t_18, t_19, t_20, t_21, t_22, t_23, t_24, t_25, t_26, t_27, t_28, t_29, t_30, t_31, t_32, t_33, t_34, t_37, t_38, t_39, t_40, t_41, t_44, t_48, t_50, t_51, t_52, t_57, t_59, t_60, t_61, t_62, t_66, t_98, t_99, t_100, t_101, t_102, t_103, t_104, t_105, t_106, t_107, t_108, t_109, t_110, t_111, t_112, t_113, t_114, t_115, t_116, t_121, t_124, t_150, t_200, t_399, t_999, t_2000, vq_i, if_pos, if_neg, bn2_e, bn1_e, lt1_e, asr_t, drf_e, asr_T, gI_sI, gL_sI, gR_sI, gI_sL, gL_sL, gR_sL, gI_sR, gL_sR, gR_sR, eq_self, i32_eq, or_true, true_or, and_true, true_and, or_false, false_or, and_false, false_and, not_true, not_false_iff, if_true, if_false, e]
    · have y := ih (k + 1) (by omega) (by omega)
      rw [← nI_1] at y
      by_cases q1 : 0 ≤ (gI mm 14 0 k).toInt
      · rw [show sumI (fun k => if 0 ≤ (gI mm 14 0 k).toInt then 1 else 0) (k + 1) = sumI (fun k => if 0 ≤ (gI mm 14 0 k).toInt then 1 else 0) k + 1 by show _ + (if 0 ≤ (gI mm 14 0 k).toInt then (1 : Int32) else 0) = _; rw [if_pos q1]] at y
        simp (disch := omega) only [Int32.lt_iff_toInt_lt, Int32.le_iff_toInt_le, t_n14, t_n13, t_n12, t_n11, t_n10, t_n5, t_n4, t_n3, t_n2, t_n1, t_0, t_1, t_2, t_3, t_4, t_5, t_6, t_7, t_8, t_9, t_10, t_11, t_12, t_13, t_14, t_15, t_16, t_17, t_18, t_19, t_20, t_21, t_22, t_23, t_24, t_25, t_26, t_27, t_28, t_29, t_30, t_31, t_32, t_33, t_34, t_37, t_38, t_39, t_40, t_41, t_44, t_48, t_50, t_51, t_52, t_57, t_59, t_60, t_61, t_62, t_66, t_98, t_99, t_100, t_101, t_102, t_103, t_104, t_105, t_106, t_107, t_108, t_109, t_110, t_111, t_112, t_113, t_114, t_115, t_116, t_121, t_124, t_150, t_200, t_399, t_999, t_2000, vq_i, if_pos, if_neg, bn2_e, bn1_e, lt1_e, asr_t, drf_e, asr_T, gI_sI, gL_sI, gR_sI, gI_sL, gL_sL, gR_sL, gI_sR, gL_sR, gR_sR, eq_self, i32_eq, or_true, true_or, and_true, true_and, or_false, false_or, and_false, false_and, not_true, not_false_iff, if_true, if_false, e, e2, y]
      · rw [show sumI (fun k => if 0 ≤ (gI mm 14 0 k).toInt then 1 else 0) (k + 1) = sumI (fun k => if 0 ≤ (gI mm 14 0 k).toInt then 1 else 0) k + 0 by show _ + (if 0 ≤ (gI mm 14 0 k).toInt then (1 : Int32) else 0) = _; rw [if_neg q1]] at y
        simp (disch := omega) only [Int32.lt_iff_toInt_lt, Int32.le_iff_toInt_le, t_n14, t_n13, t_n12, t_n11, t_n10, t_n5, t_n4, t_n3, t_n2, t_n1, t_0, t_1, t_2, t_3, t_4, t_5, t_6, t_7, t_8, t_9, t_10, t_11, t_12, t_13, t_14, t_15, t_16, t_17, t_18, t_19, t_20, t_21, t_22, t_23, t_24, t_25, t_26, t_27, t_28, t_29, t_30, t_31, t_32, t_33, t_34, t_37, t_38, t_39, t_40, t_41, t_44, t_48, t_50, t_51, t_52, t_57, t_59, t_60, t_61, t_62, t_66, t_98, t_99, t_100, t_101, t_102, t_103, t_104, t_105, t_106, t_107, t_108, t_109, t_110, t_111, t_112, t_113, t_114, t_115, t_116, t_121, t_124, t_150, t_200, t_399, t_999, t_2000, vq_i, if_pos, if_neg, bn2_e, bn1_e, lt1_e, asr_t, drf_e, asr_T, gI_sI, gL_sI, gR_sI, gI_sL, gL_sL, gR_sL, gI_sR, gL_sR, gR_sR, eq_self, i32_eq, or_true, true_or, and_true, true_and, or_false, false_or, and_false, false_and, not_true, not_false_iff, if_true, if_false, e, e2, y]
theorem standing_l3 {fl : Nat} {mm : Mem} {c0 : Int32} : ∀ (N k : Nat), k ≤ 30 → 31 ≤ N + k → f_X12_standing_l36 fl N (c0 + sumI (fun b => gI mm 15 0 b) k) (nI k) mm = some (c0 + sumI (fun b => gI mm 15 0 b) 30, mm) := by
  intro N
  induction N with
  | zero => intro k h1 h2; omega
  | succ N ih =>
    intro k h1 h2
    have e := nI_toInt (n := k) (by omega)
    have e2 := nI_clamp (n := k) (by omega)
    unfold f_X12_standing_l36 f_X12_standing_l36_b
    by_cases c : k = 30
    · subst c; simp (disch := omega) only [Int32.lt_iff_toInt_lt, Int32.le_iff_toInt_le, t_n14, t_n13, t_n12, t_n11, t_n10, t_n5, t_n4, t_n3, t_n2, t_n1, t_0, t_1, t_2, t_3, t_4, t_5, t_6, t_7, t_8, t_9, t_10, t_11, t_12, t_13, t_14, t_15, t_16, t_17, t_18, t_19, t_20, t_21, t_22, t_23, t_24, t_25, t_26, t_27, t_28, t_29, t_30, t_31, t_32, t_33, t_34, t_37, t_38, t_39, t_40, t_41, t_44, t_48, t_50, t_51, t_52, t_57, t_59, t_60, t_61, t_62, t_66, t_98, t_99, t_100, t_101, t_102, t_103, t_104, t_105, t_106, t_107, t_108, t_109, t_110, t_111, t_112, t_113, t_114, t_115, t_116, t_121, t_124, t_150, t_200, t_399, t_999, t_2000, vq_i, if_pos, if_neg, bn2_e, bn1_e, lt1_e, asr_t, drf_e, asr_T, gI_sI, gL_sI, gR_sI, gI_sL, gL_sL, gR_sL, gI_sR, gL_sR, gR_sR, eq_self, i32_eq, or_true, true_or, and_true, true_and, or_false, false_or, and_false, false_and, not_true, not_false_iff, if_true, if_false, e]
    · have y := ih (k + 1) (by omega) (by omega)
      rw [← nI_1, show c0 + sumI (fun b => gI mm 15 0 b) (k + 1) = c0 + sumI (fun b => gI mm 15 0 b) k + gI mm 15 0 k from (Int32.add_assoc _ _ _).symm] at y
      simp (disch := omega) only [Int32.lt_iff_toInt_lt, Int32.le_iff_toInt_le, t_n14, t_n13, t_n12, t_n11, t_n10, t_n5, t_n4, t_n3, t_n2, t_n1, t_0, t_1, t_2, t_3, t_4, t_5, t_6, t_7, t_8, t_9, t_10, t_11, t_12, t_13, t_14, t_15, t_16, t_17, t_18, t_19, t_20, t_21, t_22, t_23, t_24, t_25, t_26, t_27, t_28, t_29, t_30, t_31, t_32, t_33, t_34, t_37, t_38, t_39, t_40, t_41, t_44, t_48, t_50, t_51, t_52, t_57, t_59, t_60, t_61, t_62, t_66, t_98, t_99, t_100, t_101, t_102, t_103, t_104, t_105, t_106, t_107, t_108, t_109, t_110, t_111, t_112, t_113, t_114, t_115, t_116, t_121, t_124, t_150, t_200, t_399, t_999, t_2000, vq_i, if_pos, if_neg, bn2_e, bn1_e, lt1_e, asr_t, drf_e, asr_T, gI_sI, gL_sI, gR_sI, gI_sL, gL_sL, gR_sL, gI_sR, gL_sR, gR_sR, eq_self, i32_eq, or_true, true_or, and_true, true_and, or_false, false_or, and_false, false_and, not_true, not_false_iff, if_true, if_false, e, e2, y]
theorem standing_12 {fl : Nat} {mc mm : Mem} (hfl : 1000 ≤ fl) (hs : r_Ss mc mm) : f_X12_standing fl mm = some (sumI (fun l => gI mc 23 l 8) 60, mm) := by
  have x := standing_l2 (fl := fl) (mm := mm) fl 0 (by omega) (by omega)
  have y := standing_l3 (fl := fl) (mm := mm) (c0 := sumI (fun k => if 0 ≤ (gI mm 14 0 k).toInt then 1 else 0) 150) fl 0 (by omega) (by omega)
  have hs' : sumI (fun l => gI mc 23 l 8) 60 = _ := hs
  unfold f_X12_standing
  rw [show sumI (fun k => if 0 ≤ (gI mm 14 0 k).toInt then 1 else 0) 0 = 0 from rfl, show nI 0 = 0 from rfl] at x
  rw [show sumI (fun b => gI mm 15 0 b) 0 = 0 from rfl, show nI 0 = 0 from rfl, Int32.add_zero] at y
  rw [x, bn2_e, y, bn2_e, hs']
theorem sim_count {fl n : Nat} (hfl : 1000 ≤ fl) {mc mm : Mem} (h : RR n mc mm) (a1 : Int32) : Sim (n + 1) (f_X11_count fl a1 mc) (f_X12_count fl a1 mm) := by
  have h0 := h
  obtain ⟨hT, hF, hL0, hL, hLc, hLg, hSb, hSs, hB, hP, hN, hG0, hG, hGd, hGw, ⟨w, w1, w2, w3, w4⟩, ⟨a, b1, b2, b3, b4⟩, hNa, hA, hTa, hR, ⟨z, z1, z2, z3, z4⟩, ⟨y, y1, y2, y3, y4⟩, hW⟩ := h
  unfold f_X11_count f_X12_count
  by_cases c : a1 = 0
  · exact Sim.same h0 _ (by rw [if_pos c]) (by rw [if_pos c, hT.1])
  rw [if_neg c, if_neg c]
  by_cases c : a1 = 1
  · exact Sim.same h0 _ (by rw [if_pos c]) (by rw [if_pos c, hL0.2.1, hL0.2.2.1])
  rw [if_neg c, if_neg c]
  by_cases c : a1 = 2
  · exact Sim.same h0 _ (by rw [if_pos c]) (by rw [if_pos c, y2, y3])
  rw [if_neg c, if_neg c]
  by_cases c : a1 = 3
  · exact Sim.same h0 _ (by rw [if_pos c]) (by rw [if_pos c, z2, z3])
  rw [if_neg c, if_neg c]
  by_cases c : a1 = 4
  · exact Sim.same h0 _ (by rw [if_pos c]) (by rw [if_pos c, hG0.2.1, hG0.2.2.1])
  rw [if_neg c, if_neg c]
  by_cases c : a1 = 5
  · exact Sim.same h0 _ (by rw [if_pos c]) (by rw [if_pos c, w2, w3])
  rw [if_neg c, if_neg c]
  by_cases c : a1 = 6
  · exact Sim.same h0 _ (by rw [if_pos c]) (by rw [if_pos c, b2, b3])
  rw [if_neg c, if_neg c]
  by_cases c : a1 = 7
  · exact Sim.same h0 (sumI (fun l => gI mc 23 l 8) 60) (by rw [if_pos c, standing_11 hfl hL0 hLg]; rfl) (by rw [if_pos c, standing_12 hfl hSs]; rfl)
  rw [if_neg c, if_neg c]
  by_cases c : a1 = 8
  · have e : gI mm 0 0 15 = sumI (fun l => gI mc 23 l 9) 60 := hSb
    exact Sim.same h0 (sumI (fun l => gI mc 23 l 9) 60) (by rw [if_pos c, broken_11 hfl hL0 hLg]; rfl) (by rw [if_pos c, e])
  rw [if_neg c, if_neg c]
  by_cases c : a1 = 9
  · exact Sim.same h0 _ (by rw [if_pos c]) (by rw [if_pos c, hA.1])
  rw [if_neg c, if_neg c]
  exact Sim.same h0 _ rfl rfl
def kn (mc : Mem) (d e : Int32) (l : Nat) : Int32 := if gI mc 23 l 6 = -5 then 0 else if d < (if e = 0 then gI mc 23 l 7 else gI mc 23 l 6) then 0 else 1
def kz (mc : Mem) (d e : Int32) (l : Nat) : Int32 := if l < nl mc then kn mc d e l else 0
theorem known_l1 {fl : Nat} {mc mm : Mem} {d e : Int32} (h : r_L0 mc mm) : ∀ (N k : Nat), k ≤ 60 → 61 ≤ N + k → f_X11_known_l26 fl d e 60 N (sumI (kz mc d e) k) (nI k) mc = some (sumI (kz mc d e) 60, mc) := by
  intro N
  induction N with
  | zero => intro k h1 h2; omega
  | succ N ih =>
    intro k h1 h2
    have e1 := nI_toInt (n := k) (by omega)
    have e2 := nI_clamp (n := k) (by omega)
    unfold f_X11_known_l26 f_X11_known_l26_b
    by_cases c : k = 60
    · subst c; simp (disch := omega) only [Int32.lt_iff_toInt_lt, Int32.le_iff_toInt_le, t_n14, t_n13, t_n12, t_n11, t_n10, t_n5, t_n4, t_n3, t_n2, t_n1, t_0, t_1, t_2, t_3, t_4, t_5, t_6, t_7, t_8, t_9, t_10, t_11, t_12, t_13, t_14, t_15, t_16, t_17, t_18, t_19, t_20, t_21, t_22, t_23, t_24, t_25, t_26, t_27, t_28, t_29, t_30, t_31, t_32, t_33, t_34, t_37, t_38, t_39, t_40, t_41, t_44, t_48, t_50, t_51, t_52, t_57, t_59, t_60, t_61, t_62, t_66, t_98, t_99, t_100, t_101, t_102, t_103, t_104, t_105, t_106, t_107, t_108, t_109, t_110, t_111, t_112, t_113, t_114, t_115, t_116, t_121, t_124, t_150, t_200, t_399, t_999, t_2000, vq_i, if_pos, if_neg, bn2_e, bn1_e, lt1_e, asr_t, drf_e, asr_T, gI_sI, gL_sI, gR_sI, gI_sL, gL_sL, gR_sL, gI_sR, gL_sR, gR_sR, eq_self, i32_eq, or_true, true_or, and_true, true_and, or_false, false_or, and_false, false_and, not_true, not_false_iff, if_true, if_false, e1]
    · have y := ih (k + 1) (by omega) (by omega)
      have z : sumI (kz mc d e) (k + 1) = sumI (kz mc d e) k + kz mc d e k := rfl
      rw [← nI_1, z] at y
      rcases lot_null h (show k < 60 by omega) with ⟨q1, q2⟩ | ⟨q1, q2⟩
      · rw [show kz mc d e k = 0 by rw [kz, if_neg (by omega)], Int32.add_zero] at y
        simp (disch := omega) only [Int32.lt_iff_toInt_lt, Int32.le_iff_toInt_le, t_n14, t_n13, t_n12, t_n11, t_n10, t_n5, t_n4, t_n3, t_n2, t_n1, t_0, t_1, t_2, t_3, t_4, t_5, t_6, t_7, t_8, t_9, t_10, t_11, t_12, t_13, t_14, t_15, t_16, t_17, t_18, t_19, t_20, t_21, t_22, t_23, t_24, t_25, t_26, t_27, t_28, t_29, t_30, t_31, t_32, t_33, t_34, t_37, t_38, t_39, t_40, t_41, t_44, t_48, t_50, t_51, t_52, t_57, t_59, t_60, t_61, t_62, t_66, t_98, t_99, t_100, t_101, t_102, t_103, t_104, t_105, t_106, t_107, t_108, t_109, t_110, t_111, t_112, t_113, t_114, t_115, t_116, t_121, t_124, t_150, t_200, t_399, t_999, t_2000, vq_i, if_pos, if_neg, bn2_e, bn1_e, lt1_e, asr_t, drf_e, asr_T, gI_sI, gL_sI, gR_sI, gI_sL, gL_sL, gR_sL, gI_sR, gL_sR, gR_sR, eq_self, i32_eq, or_true, true_or, and_true, true_and, or_false, false_or, and_false, false_and, not_true, not_false_iff, if_true, if_false, e1, e2, q2, y]
      · have q3 : k < gR mc 999 23 0 := q1
        rw [show kz mc d e k = kn mc d e k by rw [kz, if_pos q1]] at y
        by_cases t : gI mc 23 k 6 = -5
        · rw [show kn mc d e k = 0 by rw [kn, if_pos t], Int32.add_zero] at y
          have t2 : f_X4_isTold fl k mc = some (0, mc) := by rw [isTold_11, if_pos t]
          simp (disch := omega) only [Int32.lt_iff_toInt_lt, Int32.le_iff_toInt_le, t_n14, t_n13, t_n12, t_n11, t_n10, t_n5, t_n4, t_n3, t_n2, t_n1, t_0, t_1, t_2, t_3, t_4, t_5, t_6, t_7, t_8, t_9, t_10, t_11, t_12, t_13, t_14, t_15, t_16, t_17, t_18, t_19, t_20, t_21, t_22, t_23, t_24, t_25, t_26, t_27, t_28, t_29, t_30, t_31, t_32, t_33, t_34, t_37, t_38, t_39, t_40, t_41, t_44, t_48, t_50, t_51, t_52, t_57, t_59, t_60, t_61, t_62, t_66, t_98, t_99, t_100, t_101, t_102, t_103, t_104, t_105, t_106, t_107, t_108, t_109, t_110, t_111, t_112, t_113, t_114, t_115, t_116, t_121, t_124, t_150, t_200, t_399, t_999, t_2000, vq_i, if_pos, if_neg, bn2_e, bn1_e, lt1_e, asr_t, drf_e, asr_T, gI_sI, gL_sI, gR_sI, gI_sL, gL_sL, gR_sL, gI_sR, gL_sR, gR_sR, eq_self, i32_eq, or_true, true_or, and_true, true_and, or_false, false_or, and_false, false_and, not_true, not_false_iff, if_true, if_false, e1, e2, q2, y, t2]
        · have t2 : f_X4_isTold fl k mc = some (1, mc) := by rw [isTold_11, if_neg t]
          by_cases s : e.toInt = 0
          · have s2 : e = 0 := i32_eq.mpr s
            subst s2
            by_cases r : d.toInt < (gI mc 23 k 7).toInt
            · rw [show kn mc d 0 k = 0 by rw [kn, if_neg t, if_pos rfl, if_pos (Int32.lt_iff_toInt_lt.mpr r)], Int32.add_zero] at y
              simp (disch := omega) only [Int32.lt_iff_toInt_lt, Int32.le_iff_toInt_le, t_n14, t_n13, t_n12, t_n11, t_n10, t_n5, t_n4, t_n3, t_n2, t_n1, t_0, t_1, t_2, t_3, t_4, t_5, t_6, t_7, t_8, t_9, t_10, t_11, t_12, t_13, t_14, t_15, t_16, t_17, t_18, t_19, t_20, t_21, t_22, t_23, t_24, t_25, t_26, t_27, t_28, t_29, t_30, t_31, t_32, t_33, t_34, t_37, t_38, t_39, t_40, t_41, t_44, t_48, t_50, t_51, t_52, t_57, t_59, t_60, t_61, t_62, t_66, t_98, t_99, t_100, t_101, t_102, t_103, t_104, t_105, t_106, t_107, t_108, t_109, t_110, t_111, t_112, t_113, t_114, t_115, t_116, t_121, t_124, t_150, t_200, t_399, t_999, t_2000, vq_i, if_pos, if_neg, bn2_e, bn1_e, lt1_e, asr_t, drf_e, asr_T, gI_sI, gL_sI, gR_sI, gI_sL, gL_sL, gR_sL, gI_sR, gL_sR, gR_sR, eq_self, i32_eq, or_true, true_or, and_true, true_and, or_false, false_or, and_false, false_and, not_true, not_false_iff, if_true, if_false, e1, e2, q2, y, t2]
            · rw [show kn mc d 0 k = 1 by rw [kn, if_neg t, if_pos rfl, if_neg (fun q => r (Int32.lt_iff_toInt_lt.mp q))]] at y
              simp (disch := omega) only [Int32.lt_iff_toInt_lt, Int32.le_iff_toInt_le, t_n14, t_n13, t_n12, t_n11, t_n10, t_n5, t_n4, t_n3, t_n2, t_n1, t_0, t_1, t_2, t_3, t_4, t_5, t_6, t_7, t_8, t_9, t_10, t_11, t_12, t_13, t_14, t_15, t_16, t_17, t_18, t_19, t_20, t_21, t_22, t_23, t_24, t_25, t_26, t_27, t_28, t_29, t_30, t_31, t_32, t_33, t_34, t_37, t_38, t_39, t_40, t_41, t_44, t_48, t_50, t_51, t_52, t_57, t_59, t_60, t_61, t_62, t_66, t_98, t_99, t_100, t_101, t_102, t_103, t_104, t_105, t_106, t_107, t_108, t_109, t_110, t_111, t_112, t_113, t_114, t_115, t_116, t_121, t_124, t_150, t_200, t_399, t_999, t_2000, vq_i, if_pos, if_neg, bn2_e, bn1_e, lt1_e, asr_t, drf_e, asr_T, gI_sI, gL_sI, gR_sI, gI_sL, gL_sL, gR_sL, gI_sR, gL_sR, gR_sR, eq_self, i32_eq, or_true, true_or, and_true, true_and, or_false, false_or, and_false, false_and, not_true, not_false_iff, if_true, if_false, e1, e2, q2, y, t2]
          · have s2 : ¬ e = 0 := fun q => s (i32_eq.mp q)
            by_cases r : d.toInt < (gI mc 23 k 6).toInt
            · rw [show kn mc d e k = 0 by rw [kn, if_neg t, if_neg s2, if_pos (Int32.lt_iff_toInt_lt.mpr r)], Int32.add_zero] at y
              simp (disch := omega) only [Int32.lt_iff_toInt_lt, Int32.le_iff_toInt_le, t_n14, t_n13, t_n12, t_n11, t_n10, t_n5, t_n4, t_n3, t_n2, t_n1, t_0, t_1, t_2, t_3, t_4, t_5, t_6, t_7, t_8, t_9, t_10, t_11, t_12, t_13, t_14, t_15, t_16, t_17, t_18, t_19, t_20, t_21, t_22, t_23, t_24, t_25, t_26, t_27, t_28, t_29, t_30, t_31, t_32, t_33, t_34, t_37, t_38, t_39, t_40, t_41, t_44, t_48, t_50, t_51, t_52, t_57, t_59, t_60, t_61, t_62, t_66, t_98, t_99, t_100, t_101, t_102, t_103, t_104, t_105, t_106, t_107, t_108, t_109, t_110, t_111, t_112, t_113, t_114, t_115, t_116, t_121, t_124, t_150, t_200, t_399, t_999, t_2000, vq_i, if_pos, if_neg, bn2_e, bn1_e, lt1_e, asr_t, drf_e, asr_T, gI_sI, gL_sI, gR_sI, gI_sL, gL_sL, gR_sL, gI_sR, gL_sR, gR_sR, eq_self, i32_eq, or_true, true_or, and_true, true_and, or_false, false_or, and_false, false_and, not_true, not_false_iff, if_true, if_false, e1, e2, q2, y, t2]
            · rw [show kn mc d e k = 1 by rw [kn, if_neg t, if_neg s2, if_neg (fun q => r (Int32.lt_iff_toInt_lt.mp q))]] at y
              simp (disch := omega) only [Int32.lt_iff_toInt_lt, Int32.le_iff_toInt_le, t_n14, t_n13, t_n12, t_n11, t_n10, t_n5, t_n4, t_n3, t_n2, t_n1, t_0, t_1, t_2, t_3, t_4, t_5, t_6, t_7, t_8, t_9, t_10, t_11, t_12, t_13, t_14, t_15, t_16, t_17, t_18, t_19, t_20, t_21, t_22, t_23, t_24, t_25, t_26, t_27, t_28, t_29, t_30, t_31, t_32, t_33, t_34, t_37, t_38, t_39, t_40, t_41, t_44, t_48, t_50, t_51, t_52, t_57, t_59, t_60, t_61, t_62, t_66, t_98, t_99, t_100, t_101, t_102, t_103, t_104, t_105, t_106, t_107, t_108, t_109, t_110, t_111, t_112, t_113, t_114, t_115, t_116, t_121, t_124, t_150, t_200, t_399, t_999, t_2000, vq_i, if_pos, if_neg, bn2_e, bn1_e, lt1_e, asr_t, drf_e, asr_T, gI_sI, gL_sI, gR_sI, gI_sL, gL_sL, gR_sL, gI_sR, gL_sR, gR_sR, eq_self, i32_eq, or_true, true_or, and_true, true_and, or_false, false_or, and_false, false_and, not_true, not_false_iff, if_true, if_false, e1, e2, q2, y, t2]
theorem known_l2 {fl : Nat} {mc mm : Mem} {d e : Int32} (h : r_L0 mc mm) (hc : r_Lc mc mm) : ∀ (N k : Nat), k ≤ nl mc → 61 ≤ N + k → f_X12_known_l16 fl d e N (sumI (kn mc d e) k) (nI k) mm = some (sumI (kn mc d e) (nl mc), mm) := by
  intro N
  have h60 := h.1
  have x0 := h.2.2.1
  have x1 := nI_toInt (n := nl mc) (by omega)
  induction N with
  | zero => intro k h1 h2; omega
  | succ N ih =>
    intro k h1 h2
    have e1 := nI_toInt (n := k) (by omega)
    have e2 := nI_clamp (n := k) (by omega)
    unfold f_X12_known_l16 f_X12_known_l16_b
    by_cases c : k = nl mc
    · subst c; simp (disch := omega) only [Int32.lt_iff_toInt_lt, Int32.le_iff_toInt_le, t_n14, t_n13, t_n12, t_n11, t_n10, t_n5, t_n4, t_n3, t_n2, t_n1, t_0, t_1, t_2, t_3, t_4, t_5, t_6, t_7, t_8, t_9, t_10, t_11, t_12, t_13, t_14, t_15, t_16, t_17, t_18, t_19, t_20, t_21, t_22, t_23, t_24, t_25, t_26, t_27, t_28, t_29, t_30, t_31, t_32, t_33, t_34, t_37, t_38, t_39, t_40, t_41, t_44, t_48, t_50, t_51, t_52, t_57, t_59, t_60, t_61, t_62, t_66, t_98, t_99, t_100, t_101, t_102, t_103, t_104, t_105, t_106, t_107, t_108, t_109, t_110, t_111, t_112, t_113, t_114, t_115, t_116, t_121, t_124, t_150, t_200, t_399, t_999, t_2000, vq_i, if_pos, if_neg, bn2_e, bn1_e, lt1_e, asr_t, drf_e, asr_T, gI_sI, gL_sI, gR_sI, gI_sL, gL_sL, gR_sL, gI_sR, gL_sR, gR_sR, eq_self, i32_eq, or_true, true_or, and_true, true_and, or_false, false_or, and_false, false_and, not_true, not_false_iff, if_true, if_false, x0, e1]
    · have y := ih (k + 1) (by omega) (by omega)
      have z : sumI (kn mc d e) (k + 1) = sumI (kn mc d e) k + kn mc d e k := rfl
      rw [← nI_1, z] at y
      rcases hc k (by omega) with ⟨t, u⟩ | ⟨u1, u2, u3, u4⟩
      · rw [show kn mc d e k = 0 by rw [kn, if_pos t]] at y
        have u2 : (gI mm 10 0 k).toInt = -1 := by rw [u]; rfl
        simp (disch := omega) only [Int32.lt_iff_toInt_lt, Int32.le_iff_toInt_le, t_n14, t_n13, t_n12, t_n11, t_n10, t_n5, t_n4, t_n3, t_n2, t_n1, t_0, t_1, t_2, t_3, t_4, t_5, t_6, t_7, t_8, t_9, t_10, t_11, t_12, t_13, t_14, t_15, t_16, t_17, t_18, t_19, t_20, t_21, t_22, t_23, t_24, t_25, t_26, t_27, t_28, t_29, t_30, t_31, t_32, t_33, t_34, t_37, t_38, t_39, t_40, t_41, t_44, t_48, t_50, t_51, t_52, t_57, t_59, t_60, t_61, t_62, t_66, t_98, t_99, t_100, t_101, t_102, t_103, t_104, t_105, t_106, t_107, t_108, t_109, t_110, t_111, t_112, t_113, t_114, t_115, t_116, t_121, t_124, t_150, t_200, t_399, t_999, t_2000, vq_i, if_pos, if_neg, bn2_e, bn1_e, lt1_e, asr_t, drf_e, asr_T, gI_sI, gL_sI, gR_sI, gI_sL, gL_sL, gR_sL, gI_sR, gL_sR, gR_sR, eq_self, i32_eq, or_true, true_or, and_true, true_and, or_false, false_or, and_false, false_and, not_true, not_false_iff, if_true, if_false, e1, e2, x0, x1, y]
      · have t : ¬ gI mc 23 k 6 = -5 := by rw [u1]; exact i32_m5 u3
        have u5 := rg_i u3
        by_cases s : e.toInt = 0
        · have s2 : e = 0 := i32_eq.mpr s
          subst s2
          by_cases r : d.toInt < (gI mc 23 k 7).toInt
          · rw [show kn mc d 0 k = 0 by rw [kn, if_neg t, if_pos rfl, if_pos (Int32.lt_iff_toInt_lt.mpr r)]] at y
            rw [u2] at r
            simp (disch := omega) only [Int32.lt_iff_toInt_lt, Int32.le_iff_toInt_le, t_n14, t_n13, t_n12, t_n11, t_n10, t_n5, t_n4, t_n3, t_n2, t_n1, t_0, t_1, t_2, t_3, t_4, t_5, t_6, t_7, t_8, t_9, t_10, t_11, t_12, t_13, t_14, t_15, t_16, t_17, t_18, t_19, t_20, t_21, t_22, t_23, t_24, t_25, t_26, t_27, t_28, t_29, t_30, t_31, t_32, t_33, t_34, t_37, t_38, t_39, t_40, t_41, t_44, t_48, t_50, t_51, t_52, t_57, t_59, t_60, t_61, t_62, t_66, t_98, t_99, t_100, t_101, t_102, t_103, t_104, t_105, t_106, t_107, t_108, t_109, t_110, t_111, t_112, t_113, t_114, t_115, t_116, t_121, t_124, t_150, t_200, t_399, t_999, t_2000, vq_i, if_pos, if_neg, bn2_e, bn1_e, lt1_e, asr_t, drf_e, asr_T, gI_sI, gL_sI, gR_sI, gI_sL, gL_sL, gR_sL, gI_sR, gL_sR, gR_sR, eq_self, i32_eq, or_true, true_or, and_true, true_and, or_false, false_or, and_false, false_and, not_true, not_false_iff, if_true, if_false, e1, e2, x0, x1, y]
          · rw [show kn mc d 0 k = 1 by rw [kn, if_neg t, if_pos rfl, if_neg (fun q => r (Int32.lt_iff_toInt_lt.mp q))]] at y
            rw [u2] at r
            simp (disch := omega) only [Int32.lt_iff_toInt_lt, Int32.le_iff_toInt_le, t_n14, t_n13, t_n12, t_n11, t_n10, t_n5, t_n4, t_n3, t_n2, t_n1, t_0, t_1, t_2, t_3, t_4, t_5, t_6, t_7, t_8, t_9, t_10, t_11, t_12, t_13, t_14, t_15, t_16, t_17, t_18, t_19, t_20, t_21, t_22, t_23, t_24, t_25, t_26, t_27, t_28, t_29, t_30, t_31, t_32, t_33, t_34, t_37, t_38, t_39, t_40, t_41, t_44, t_48, t_50, t_51, t_52, t_57, t_59, t_60, t_61, t_62, t_66, t_98, t_99, t_100, t_101, t_102, t_103, t_104, t_105, t_106, t_107, t_108, t_109, t_110, t_111, t_112, t_113, t_114, t_115, t_116, t_121, t_124, t_150, t_200, t_399, t_999, t_2000, vq_i, if_pos, if_neg, bn2_e, bn1_e, lt1_e, asr_t, drf_e, asr_T, gI_sI, gL_sI, gR_sI, gI_sL, gL_sL, gR_sL, gI_sR, gL_sR, gR_sR, eq_self, i32_eq, or_true, true_or, and_true, true_and, or_false, false_or, and_false, false_and, not_true, not_false_iff, if_true, if_false, e1, e2, x0, x1, y]
        · have s2 : ¬ e = 0 := fun q => s (i32_eq.mp q)
          by_cases r : d.toInt < (gI mc 23 k 6).toInt
          · rw [show kn mc d e k = 0 by rw [kn, if_neg t, if_neg s2, if_pos (Int32.lt_iff_toInt_lt.mpr r)]] at y
            rw [u1] at r
            simp (disch := omega) only [Int32.lt_iff_toInt_lt, Int32.le_iff_toInt_le, t_n14, t_n13, t_n12, t_n11, t_n10, t_n5, t_n4, t_n3, t_n2, t_n1, t_0, t_1, t_2, t_3, t_4, t_5, t_6, t_7, t_8, t_9, t_10, t_11, t_12, t_13, t_14, t_15, t_16, t_17, t_18, t_19, t_20, t_21, t_22, t_23, t_24, t_25, t_26, t_27, t_28, t_29, t_30, t_31, t_32, t_33, t_34, t_37, t_38, t_39, t_40, t_41, t_44, t_48, t_50, t_51, t_52, t_57, t_59, t_60, t_61, t_62, t_66, t_98, t_99, t_100, t_101, t_102, t_103, t_104, t_105, t_106, t_107, t_108, t_109, t_110, t_111, t_112, t_113, t_114, t_115, t_116, t_121, t_124, t_150, t_200, t_399, t_999, t_2000, vq_i, if_pos, if_neg, bn2_e, bn1_e, lt1_e, asr_t, drf_e, asr_T, gI_sI, gL_sI, gR_sI, gI_sL, gL_sL, gR_sL, gI_sR, gL_sR, gR_sR, eq_self, i32_eq, or_true, true_or, and_true, true_and, or_false, false_or, and_false, false_and, not_true, not_false_iff, if_true, if_false, e1, e2, x0, x1, y]
          · rw [show kn mc d e k = 1 by rw [kn, if_neg t, if_neg s2, if_neg (fun q => r (Int32.lt_iff_toInt_lt.mp q))]] at y
            rw [u1] at r
            simp (disch := omega) only [Int32.lt_iff_toInt_lt, Int32.le_iff_toInt_le, t_n14, t_n13, t_n12, t_n11, t_n10, t_n5, t_n4, t_n3, t_n2, t_n1, t_0, t_1, t_2, t_3, t_4, t_5, t_6, t_7, t_8, t_9, t_10, t_11, t_12, t_13, t_14, t_15, t_16, t_17, t_18, t_19, t_20, t_21, t_22, t_23, t_24, t_25, t_26, t_27, t_28, t_29, t_30, t_31, t_32, t_33, t_34, t_37, t_38, t_39, t_40, t_41, t_44, t_48, t_50, t_51, t_52, t_57, t_59, t_60, t_61, t_62, t_66, t_98, t_99, t_100, t_101, t_102, t_103, t_104, t_105, t_106, t_107, t_108, t_109, t_110, t_111, t_112, t_113, t_114, t_115, t_116, t_121, t_124, t_150, t_200, t_399, t_999, t_2000, vq_i, if_pos, if_neg, bn2_e, bn1_e, lt1_e, asr_t, drf_e, asr_T, gI_sI, gL_sI, gR_sI, gI_sL, gL_sL, gR_sL, gI_sR, gL_sR, gR_sR, eq_self, i32_eq, or_true, true_or, and_true, true_and, or_false, false_or, and_false, false_and, not_true, not_false_iff, if_true, if_false, e1, e2, x0, x1, y]
theorem sim_known {fl n : Nat} (hfl : 1000 ≤ fl) {mc mm : Mem} (h : RR n mc mm) (a1 a2 : Int32) : Sim (n + 1) (f_X11_known fl a1 a2 mc) (f_X12_known fl a1 a2 mm) := by
  have h0 := h
  obtain ⟨hT, hF, hL0, hL, hLc, hr⟩ := h
  by_cases c : 0 ≤ a1.toInt ∧ a1.toInt ≤ 399
  · have x := known_l1 (fl := fl) (d := a1) (e := a2) hL0 fl 0 (by omega) (by omega)
    have y := known_l2 (fl := fl) (d := a1) (e := a2) hL0 hLc fl 0 (by omega) (by omega)
    have z : sumI (kz mc a1 a2) 60 = sumI (kn mc a1 a2) (nl mc) := sumI_cut hL0.1
    rw [show sumI (kz mc a1 a2) 0 = 0 from rfl, show nI 0 = 0 from rfl, z] at x
    rw [show sumI (kn mc a1 a2) 0 = 0 from rfl, show nI 0 = 0 from rfl] at y
    exact Sim.same h0 (sumI (kn mc a1 a2) (nl mc)) (by unfold f_X11_known; simp (disch := omega) only [Int32.lt_iff_toInt_lt, Int32.le_iff_toInt_le, t_n14, t_n13, t_n12, t_n11, t_n10, t_n5, t_n4, t_n3, t_n2, t_n1, t_0, t_1, t_2, t_3, t_4, t_5, t_6, t_7, t_8, t_9, t_10, t_11, t_12, t_13, t_14, t_15, t_16, t_17, t_18, t_19, t_20, t_21, t_22, t_23, t_24, t_25, t_26, t_27, t_28, t_29, t_30, t_31, t_32, t_33, t_34, t_37, t_38, t_39, t_40, t_41, t_44, t_48, t_50, t_51, t_52, t_57, t_59, t_60, t_61, t_62, t_66, t_98, t_99, t_100, t_101, t_102, t_103, t_104, t_105, t_106, t_107, t_108, t_109, t_110, t_111, t_112, t_113, t_114, t_115, t_116, t_121, t_124, t_150, t_200, t_399, t_999, t_2000, vq_i, if_pos, if_neg, bn2_e, bn1_e, lt1_e, asr_t, drf_e, asr_T, gI_sI, gL_sI, gR_sI, gI_sL, gL_sL, gR_sL, gI_sR, gL_sR, gR_sR, eq_self, i32_eq, or_true, true_or, and_true, true_and, or_false, false_or, and_false, false_and, not_true, not_false_iff, if_true, if_false, isDay_11, x]) (by unfold f_X12_known; simp (disch := omega) only [Int32.lt_iff_toInt_lt, Int32.le_iff_toInt_le, t_n14, t_n13, t_n12, t_n11, t_n10, t_n5, t_n4, t_n3, t_n2, t_n1, t_0, t_1, t_2, t_3, t_4, t_5, t_6, t_7, t_8, t_9, t_10, t_11, t_12, t_13, t_14, t_15, t_16, t_17, t_18, t_19, t_20, t_21, t_22, t_23, t_24, t_25, t_26, t_27, t_28, t_29, t_30, t_31, t_32, t_33, t_34, t_37, t_38, t_39, t_40, t_41, t_44, t_48, t_50, t_51, t_52, t_57, t_59, t_60, t_61, t_62, t_66, t_98, t_99, t_100, t_101, t_102, t_103, t_104, t_105, t_106, t_107, t_108, t_109, t_110, t_111, t_112, t_113, t_114, t_115, t_116, t_121, t_124, t_150, t_200, t_399, t_999, t_2000, vq_i, if_pos, if_neg, bn2_e, bn1_e, lt1_e, asr_t, drf_e, asr_T, gI_sI, gL_sI, gR_sI, gI_sL, gL_sL, gR_sL, gI_sR, gL_sR, gR_sR, eq_self, i32_eq, or_true, true_or, and_true, true_and, or_false, false_or, and_false, false_and, not_true, not_false_iff, if_true, if_false, isDay_12, y])
  · exact Sim.same h0 (-2) (by unfold f_X11_known; simp (disch := omega) only [Int32.lt_iff_toInt_lt, Int32.le_iff_toInt_le, t_n14, t_n13, t_n12, t_n11, t_n10, t_n5, t_n4, t_n3, t_n2, t_n1, t_0, t_1, t_2, t_3, t_4, t_5, t_6, t_7, t_8, t_9, t_10, t_11, t_12, t_13, t_14, t_15, t_16, t_17, t_18, t_19, t_20, t_21, t_22, t_23, t_24, t_25, t_26, t_27, t_28, t_29, t_30, t_31, t_32, t_33, t_34, t_37, t_38, t_39, t_40, t_41, t_44, t_48, t_50, t_51, t_52, t_57, t_59, t_60, t_61, t_62, t_66, t_98, t_99, t_100, t_101, t_102, t_103, t_104, t_105, t_106, t_107, t_108, t_109, t_110, t_111, t_112, t_113, t_114, t_115, t_116, t_121, t_124, t_150, t_200, t_399, t_999, t_2000, vq_i, if_pos, if_neg, bn2_e, bn1_e, lt1_e, asr_t, drf_e, asr_T, gI_sI, gL_sI, gR_sI, gI_sL, gL_sL, gR_sL, gI_sR, gL_sR, gR_sR, eq_self, i32_eq, or_true, true_or, and_true, true_and, or_false, false_or, and_false, false_and, not_true, not_false_iff, if_true, if_false, isDay_11]) (by unfold f_X12_known; simp (disch := omega) only [Int32.lt_iff_toInt_lt, Int32.le_iff_toInt_le, t_n14, t_n13, t_n12, t_n11, t_n10, t_n5, t_n4, t_n3, t_n2, t_n1, t_0, t_1, t_2, t_3, t_4, t_5, t_6, t_7, t_8, t_9, t_10, t_11, t_12, t_13, t_14, t_15, t_16, t_17, t_18, t_19, t_20, t_21, t_22, t_23, t_24, t_25, t_26, t_27, t_28, t_29, t_30, t_31, t_32, t_33, t_34, t_37, t_38, t_39, t_40, t_41, t_44, t_48, t_50, t_51, t_52, t_57, t_59, t_60, t_61, t_62, t_66, t_98, t_99, t_100, t_101, t_102, t_103, t_104, t_105, t_106, t_107, t_108, t_109, t_110, t_111, t_112, t_113, t_114, t_115, t_116, t_121, t_124, t_150, t_200, t_399, t_999, t_2000, vq_i, if_pos, if_neg, bn2_e, bn1_e, lt1_e, asr_t, drf_e, asr_T, gI_sI, gL_sI, gR_sI, gI_sL, gL_sL, gR_sL, gI_sR, gL_sR, gR_sR, eq_self, i32_eq, or_true, true_or, and_true, true_and, or_false, false_or, and_false, false_and, not_true, not_false_iff, if_true, if_false, isDay_12])
