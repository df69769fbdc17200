theorem sI_same {m : Mem} {r b k : Nat} {v w : Int32} : sI (sI m r b k v) r b k w = sI m r b k w := by
  refine Prod.ext ?_ rfl
  funext r' b' k'
  show gI (sI (sI m r b k v) r b k w) r' b' k' = gI (sI m r b k w) r' b' k'
  rw [gI_sI, gI_sI, gI_sI]
  split <;> rfl
def wn (mm : Mem) (r j : Nat) : Int32 := if gI mm 38 0 j = gI mm 38 0 r then (if gI mm 40 0 r < gI mm 40 0 j then 0 else gI mm 39 0 j) else 0
theorem wanted_l {fl r w : Nat} {mc mm : Mem} (hr : r < w) (hw : w ≤ 20) (w1 : gI mc 9 0 0 = nI w) (w3 : ∀ r, r < w → gI mc 30 0 r = gI mm 38 0 r ∧ gI mc 33 0 r = gI mm 39 0 r ∧ gI mc 31 0 r = gI mm 40 0 r ∧ rg (gI mm 38 0 r) 1 5 ∧ rg (gI mm 39 0 r) 1 999 ∧ rg (gI mm 40 0 r) 0 399) : ∀ (N k : Nat), k ≤ w → 21 ≤ N + k → f_X6_wantedWith_l4 fl (nI r) N (sumI (wn mm r) k) (nI k) mc = some (sumI (wn mm r) w, mc) := by
  intro N
  have x1 := nI_toInt (n := w) (by omega)
  have x2 := nI_toInt (n := r) (by omega)
  have x3 := nI_clamp (n := r) (by omega)
  obtain ⟨r1, r2, r3, -⟩ := w3 r hr
  induction N with
  | zero => intro k h1 h2; omega
  | succ N ih =>
    intro k h1 h2
    have e1 := nI_toInt (n := k) (by omega)
    have e2 := nI_clamp (n := k) (by omega)
    unfold f_X6_wantedWith_l4 f_X6_wantedWith_l4_b
    by_cases c : k = w
    · subst c; simp (disch := omega) only [Int32.lt_iff_toInt_lt, Int32.le_iff_toInt_le, t_n14, t_n13, t_n12, t_n11, t_n10, t_n5, t_n4, t_n3, t_n2, t_n1, t_0, t_1, t_2, t_3, t_4, t_5, t_6, t_7, t_8, t_9, t_10, t_11, t_12, t_13, t_14, t_15, t_16, t_17, t_18, t_19, t_20, t_21, t_22, t_23, t_24, t_25, t_26, t_27, t_28, t_29, t_30, t_31, t_32, t_33, t_34, t_37, t_38, t_39, t_40, t_41, t_44, t_48, t_50, t_51, t_52, t_57, t_59, t_60, t_61, t_62, t_66, t_98, t_99, t_100, t_101, t_102, t_103, t_104, t_105, t_106, t_107, t_108, t_109, t_110, t_111, t_112, t_113, t_114, t_115, t_116, t_121, t_124, t_150, t_200, t_399, t_999, t_2000, vq_i, if_pos, if_neg, bn2_e, bn1_e, lt1_e, asr_t, drf_e, asr_T, gI_sI, gL_sI, gR_sI, gI_sL, gL_sL, gR_sL, gI_sR, gL_sR, gR_sR, eq_self, i32_eq, or_true, true_or, and_true, true_and, or_false, false_or, and_false, false_and, not_true, not_false_iff, if_true, if_false, w1, e1, x2]
    · have y := ih (k + 1) (by omega) (by omega)
      have z : sumI (wn mm r) (k + 1) = sumI (wn mm r) k + wn mm r k := rfl
      rw [← nI_1, z] at y
      obtain ⟨k1, k2, k3, -⟩ := w3 k (by omega)
      by_cases d1 : gI mm 38 0 k = gI mm 38 0 r
      · have d2 : (gI mm 38 0 k).toInt = (gI mm 38 0 r).toInt := by rw [d1]
        by_cases d3 : (gI mm 40 0 r).toInt < (gI mm 40 0 k).toInt
        · rw [show wn mm r k = 0 by rw [wn, if_pos d1, if_pos (Int32.lt_iff_toInt_lt.mpr d3)], Int32.add_zero] at y
          simp (disch := omega) only [Int32.lt_iff_toInt_lt, Int32.le_iff_toInt_le, t_n14, t_n13, t_n12, t_n11, t_n10, t_n5, t_n4, t_n3, t_n2, t_n1, t_0, t_1, t_2, t_3, t_4, t_5, t_6, t_7, t_8, t_9, t_10, t_11, t_12, t_13, t_14, t_15, t_16, t_17, t_18, t_19, t_20, t_21, t_22, t_23, t_24, t_25, t_26, t_27, t_28, t_29, t_30, t_31, t_32, t_33, t_34, t_37, t_38, t_39, t_40, t_41, t_44, t_48, t_50, t_51, t_52, t_57, t_59, t_60, t_61, t_62, t_66, t_98, t_99, t_100, t_101, t_102, t_103, t_104, t_105, t_106, t_107, t_108, t_109, t_110, t_111, t_112, t_113, t_114, t_115, t_116, t_121, t_124, t_150, t_200, t_399, t_999, t_2000, vq_i, if_pos, if_neg, bn2_e, bn1_e, lt1_e, asr_t, drf_e, asr_T, gI_sI, gL_sI, gR_sI, gI_sL, gL_sL, gR_sL, gI_sR, gL_sR, gR_sR, eq_self, i32_eq, or_true, true_or, and_true, true_and, or_false, false_or, and_false, false_and, not_true, not_false_iff, if_true, if_false, w1, e1, e2, x1, x2, x3, k1, k2, k3, r1, r3, y]
        · rw [show wn mm r k = gI mm 39 0 k by rw [wn, if_pos d1, if_neg (fun q => d3 (Int32.lt_iff_toInt_lt.mp q))]] at y
          simp (disch := omega) only [Int32.lt_iff_toInt_lt, Int32.le_iff_toInt_le, t_n14, t_n13, t_n12, t_n11, t_n10, t_n5, t_n4, t_n3, t_n2, t_n1, t_0, t_1, t_2, t_3, t_4, t_5, t_6, t_7, t_8, t_9, t_10, t_11, t_12, t_13, t_14, t_15, t_16, t_17, t_18, t_19, t_20, t_21, t_22, t_23, t_24, t_25, t_26, t_27, t_28, t_29, t_30, t_31, t_32, t_33, t_34, t_37, t_38, t_39, t_40, t_41, t_44, t_48, t_50, t_51, t_52, t_57, t_59, t_60, t_61, t_62, t_66, t_98, t_99, t_100, t_101, t_102, t_103, t_104, t_105, t_106, t_107, t_108, t_109, t_110, t_111, t_112, t_113, t_114, t_115, t_116, t_121, t_124, t_150, t_200, t_399, t_999, t_2000, vq_i, if_pos, if_neg, bn2_e, bn1_e, lt1_e, asr_t, drf_e, asr_T, gI_sI, gL_sI, gR_sI, gI_sL, gL_sL, gR_sL, gI_sR, gL_sR, gR_sR, eq_self, i32_eq, or_true, true_or, and_true, true_and, or_false, false_or, and_false, false_and, not_true, not_false_iff, if_true, if_false, w1, e1, e2, x1, x2, x3, k1, k2, k3, r1, r3, y]
      · have d2 : ¬ (gI mm 38 0 k).toInt = (gI mm 38 0 r).toInt := fun q => d1 (i32_eq.mpr q)
        rw [show wn mm r k = 0 by rw [wn, if_neg d1], Int32.add_zero] at y
        simp (disch := omega) only [Int32.lt_iff_toInt_lt, Int32.le_iff_toInt_le, t_n14, t_n13, t_n12, t_n11, t_n10, t_n5, t_n4, t_n3, t_n2, t_n1, t_0, t_1, t_2, t_3, t_4, t_5, t_6, t_7, t_8, t_9, t_10, t_11, t_12, t_13, t_14, t_15, t_16, t_17, t_18, t_19, t_20, t_21, t_22, t_23, t_24, t_25, t_26, t_27, t_28, t_29, t_30, t_31, t_32, t_33, t_34, t_37, t_38, t_39, t_40, t_41, t_44, t_48, t_50, t_51, t_52, t_57, t_59, t_60, t_61, t_62, t_66, t_98, t_99, t_100, t_101, t_102, t_103, t_104, t_105, t_106, t_107, t_108, t_109, t_110, t_111, t_112, t_113, t_114, t_115, t_116, t_121, t_124, t_150, t_200, t_399, t_999, t_2000, vq_i, if_pos, if_neg, bn2_e, bn1_e, lt1_e, asr_t, drf_e, asr_T, gI_sI, gL_sI, gR_sI, gI_sL, gL_sL, gR_sL, gI_sR, gL_sR, gR_sR, eq_self, i32_eq, or_true, true_or, and_true, true_and, or_false, false_or, and_false, false_and, not_true, not_false_iff, if_true, if_false, w1, e1, e2, x1, x2, x3, k1, k2, k3, r1, r3, y]
theorem needs_l {fl r w : Nat} {g1 : Int32} {mm : Mem} (hr : r < w) (hw : w ≤ 20) (w2 : gI mm 0 0 51 = nI w) : ∀ (N k : Nat), k ≤ w → 21 ≤ N + k → f_X12_findNeeds_l19 fl g1 (nI r) N (nI k) (sI mm 45 0 r (sumI (wn mm r) k)) = some (sI mm 45 0 r (sumI (wn mm r) w)) := by
  intro N
  have x1 := nI_toInt (n := w) (by omega)
  have x2 := nI_toInt (n := r) (by omega)
  have x3 := nI_clamp (n := r) (by omega)
  induction N with
  | zero => intro k h1 h2; omega
  | succ N ih =>
    intro k h1 h2
    have e1 := nI_toInt (n := k) (by omega)
    have e2 := nI_clamp (n := k) (by omega)
    unfold f_X12_findNeeds_l19 f_X12_findNeeds_l19_b
    by_cases c : k = w
    · subst c; simp (disch := omega) only [Int32.lt_iff_toInt_lt, Int32.le_iff_toInt_le, t_n14, t_n13, t_n12, t_n11, t_n10, t_n5, t_n4, t_n3, t_n2, t_n1, t_0, t_1, t_2, t_3, t_4, t_5, t_6, t_7, t_8, t_9, t_10, t_11, t_12, t_13, t_14, t_15, t_16, t_17, t_18, t_19, t_20, t_21, t_22, t_23, t_24, t_25, t_26, t_27, t_28, t_29, t_30, t_31, t_32, t_33, t_34, t_37, t_38, t_39, t_40, t_41, t_44, t_48, t_50, t_51, t_52, t_57, t_59, t_60, t_61, t_62, t_66, t_98, t_99, t_100, t_101, t_102, t_103, t_104, t_105, t_106, t_107, t_108, t_109, t_110, t_111, t_112, t_113, t_114, t_115, t_116, t_121, t_124, t_150, t_200, t_399, t_999, t_2000, vq_i, if_pos, if_neg, bn2_e, bn1_e, lt1_e, asr_t, drf_e, asr_T, gI_sI, gL_sI, gR_sI, gI_sL, gL_sL, gR_sL, gI_sR, gL_sR, gR_sR, eq_self, i32_eq, or_true, true_or, and_true, true_and, or_false, false_or, and_false, false_and, not_true, not_false_iff, if_true, if_false, w2, e1]
    · have y := ih (k + 1) (by omega) (by omega)
      have z : sumI (wn mm r) (k + 1) = sumI (wn mm r) k + wn mm r k := rfl
      rw [← nI_1, z] at y
      by_cases d1 : gI mm 38 0 k = gI mm 38 0 r
      · have d2 : (gI mm 38 0 k).toInt = (gI mm 38 0 r).toInt := by rw [d1]
        by_cases d3 : (gI mm 40 0 r).toInt < (gI mm 40 0 k).toInt
        · rw [show wn mm r k = 0 by rw [wn, if_pos d1, if_pos (Int32.lt_iff_toInt_lt.mpr d3)]] at y
          simp (disch := omega) only [Int32.lt_iff_toInt_lt, Int32.le_iff_toInt_le, t_n14, t_n13, t_n12, t_n11, t_n10, t_n5, t_n4, t_n3, t_n2, t_n1, t_0, t_1, t_2, t_3, t_4, t_5, t_6, t_7, t_8, t_9, t_10, t_11, t_12, t_13, t_14, t_15, t_16, t_17, t_18, t_19, t_20, t_21, t_22, t_23, t_24, t_25, t_26, t_27, t_28, t_29, t_30, t_31, t_32, t_33, t_34, t_37, t_38, t_39, t_40, t_41, t_44, t_48, t_50, t_51, t_52, t_57, t_59, t_60, t_61, t_62, t_66, t_98, t_99, t_100, t_101, t_102, t_103, t_104, t_105, t_106, t_107, t_108, t_109, t_110, t_111, t_112, t_113, t_114, t_115, t_116, t_121, t_124, t_150, t_200, t_399, t_999, t_2000, vq_i, if_pos, if_neg, bn2_e, bn1_e, lt1_e, asr_t, drf_e, asr_T, gI_sI, gL_sI, gR_sI, gI_sL, gL_sL, gR_sL, gI_sR, gL_sR, gR_sR, eq_self, i32_eq, or_true, true_or, and_true, true_and, or_false, false_or, and_false, false_and, not_true, not_false_iff, if_true, if_false, w2, e1, e2, x1, x2, x3, sI_same, y]
        · rw [show wn mm r k = gI mm 39 0 k by rw [wn, if_pos d1, if_neg (fun q => d3 (Int32.lt_iff_toInt_lt.mp q))]] at y
          simp (disch := omega) only [Int32.lt_iff_toInt_lt, Int32.le_iff_toInt_le, t_n14, t_n13, t_n12, t_n11, t_n10, t_n5, t_n4, t_n3, t_n2, t_n1, t_0, t_1, t_2, t_3, t_4, t_5, t_6, t_7, t_8, t_9, t_10, t_11, t_12, t_13, t_14, t_15, t_16, t_17, t_18, t_19, t_20, t_21, t_22, t_23, t_24, t_25, t_26, t_27, t_28, t_29, t_30, t_31, t_32, t_33, t_34, t_37, t_38, t_39, t_40, t_41, t_44, t_48, t_50, t_51, t_52, t_57, t_59, t_60, t_61, t_62, t_66, t_98, t_99, t_100, t_101, t_102, t_103, t_104, t_105, t_106, t_107, t_108, t_109, t_110, t_111, t_112, t_113, t_114, t_115, t_116, t_121, t_124, t_150, t_200, t_399, t_999, t_2000, vq_i, if_pos, if_neg, bn2_e, bn1_e, lt1_e, asr_t, drf_e, asr_T, gI_sI, gL_sI, gR_sI, gI_sL, gL_sL, gR_sL, gI_sR, gL_sR, gR_sR, eq_self, i32_eq, or_true, true_or, and_true, true_and, or_false, false_or, and_false, false_and, not_true, not_false_iff, if_true, if_false, w2, e1, e2, x1, x2, x3, sI_same, y]
      · have d2 : ¬ (gI mm 38 0 k).toInt = (gI mm 38 0 r).toInt := fun q => d1 (i32_eq.mpr q)
        rw [show wn mm r k = 0 by rw [wn, if_neg d1]] at y
        simp (disch := omega) only [Int32.lt_iff_toInt_lt, Int32.le_iff_toInt_le, t_n14, t_n13, t_n12, t_n11, t_n10, t_n5, t_n4, t_n3, t_n2, t_n1, t_0, t_1, t_2, t_3, t_4, t_5, t_6, t_7, t_8, t_9, t_10, t_11, t_12, t_13, t_14, t_15, t_16, t_17, t_18, t_19, t_20, t_21, t_22, t_23, t_24, t_25, t_26, t_27, t_28, t_29, t_30, t_31, t_32, t_33, t_34, t_37, t_38, t_39, t_40, t_41, t_44, t_48, t_50, t_51, t_52, t_57, t_59, t_60, t_61, t_62, t_66, t_98, t_99, t_100, t_101, t_102, t_103, t_104, t_105, t_106, t_107, t_108, t_109, t_110, t_111, t_112, t_113, t_114, t_115, t_116, t_121, t_124, t_150, t_200, t_399, t_999, t_2000, vq_i, if_pos, if_neg, bn2_e, bn1_e, lt1_e, asr_t, drf_e, asr_T, gI_sI, gL_sI, gR_sI, gI_sL, gL_sL, gR_sL, gI_sR, gL_sR, gR_sR, eq_self, i32_eq, or_true, true_or, and_true, true_and, or_false, false_or, and_false, false_and, not_true, not_false_iff, if_true, if_false, w2, e1, e2, x1, x2, x3, sI_same, y]
