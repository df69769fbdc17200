def fI (m : Mem) (r b lo hi : Nat) (v : Int32) : Mem := (fun r' b' k' => if r' = r ∧ b' = b ∧ lo ≤ k' ∧ k' < hi then v else m.1 r' b' k', m.2.1, m.2.2)
def fL (m : Mem) (r b lo hi : Nat) (v : Int64) : Mem := (m.1, fun r' b' k' => if r' = r ∧ b' = b ∧ lo ≤ k' ∧ k' < hi then v else m.2.1 r' b' k', m.2.2)
theorem gI_fI (m : Mem) (r b lo hi : Nat) (v : Int32) (r' b' k' : Nat) : gI (fI m r b lo hi v) r' b' k' = if r' = r ∧ b' = b ∧ lo ≤ k' ∧ k' < hi then v else gI m r' b' k' := rfl
theorem gL_fI (m : Mem) (r b lo hi : Nat) (v : Int32) (r' b' k' : Nat) : gL (fI m r b lo hi v) r' b' k' = gL m r' b' k' := rfl
theorem gR_fI (m : Mem) (r b lo hi : Nat) (v : Int32) (r' b' k' : Nat) : gR (fI m r b lo hi v) r' b' k' = gR m r' b' k' := rfl
theorem gL_fL (m : Mem) (r b lo hi : Nat) (v : Int64) (r' b' k' : Nat) : gL (fL m r b lo hi v) r' b' k' = if r' = r ∧ b' = b ∧ lo ≤ k' ∧ k' < hi then v else gL m r' b' k' := rfl
theorem gI_fL (m : Mem) (r b lo hi : Nat) (v : Int64) (r' b' k' : Nat) : gI (fL m r b lo hi v) r' b' k' = gI m r' b' k' := rfl
theorem gR_fL (m : Mem) (r b lo hi : Nat) (v : Int64) (r' b' k' : Nat) : gR (fL m r b lo hi v) r' b' k' = gR m r' b' k' := rfl
theorem fI_end {m : Mem} {r b lo hi : Nat} {v : Int32} (h : hi ≤ lo) : fI m r b lo hi v = m := by
  unfold fI
  refine Prod.ext ?_ rfl
  funext r' b' k'
  exact if_neg (fun q => by omega)
theorem fL_end {m : Mem} {r b lo hi : Nat} {v : Int64} (h : hi ≤ lo) : fL m r b lo hi v = m := by
  unfold fL
  refine Prod.ext rfl (Prod.ext ?_ rfl)
  funext r' b' k'
  exact if_neg (fun q => by omega)
theorem fI_step {m : Mem} {r b lo hi : Nat} {v : Int32} (h : lo < hi) : fI (sI m r b lo v) r b (lo + 1) hi v = fI m r b lo hi v := by
  unfold fI sI
  refine Prod.ext ?_ rfl
  funext r' b' k'
  by_cases e : r' = r ∧ b' = b
  · obtain ⟨rfl, rfl⟩ := e
    by_cases c : k' = lo
    · subst c; simp; omega
    · by_cases d : lo + 1 ≤ k' ∧ k' < hi
      · simp [d]; omega
      · have d2 : ¬ (lo ≤ k' ∧ k' < hi) := by omega
        simp [d, d2, c]
  · simp only [← and_assoc, e, false_and, if_false]
theorem fL_step {m : Mem} {r b lo hi : Nat} {v : Int64} (h : lo < hi) : fL (sL m r b lo v) r b (lo + 1) hi v = fL m r b lo hi v := by
  unfold fL sL
  refine Prod.ext rfl (Prod.ext ?_ rfl)
  funext r' b' k'
  by_cases e : r' = r ∧ b' = b
  · obtain ⟨rfl, rfl⟩ := e
    by_cases c : k' = lo
    · subst c; simp; omega
    · by_cases d : lo + 1 ≤ k' ∧ k' < hi
      · simp [d]; omega
      · have d2 : ¬ (lo ≤ k' ∧ k' < hi) := by omega
        simp [d, d2, c]
  · simp only [← and_assoc, e, false_and, if_false]
theorem become_l {fl t : Nat} : ∀ (n k : Nat) (m : Mem), k ≤ 60 → 61 ≤ n + k → f_X8_become_l12 fl t n (nI k) m = some (fL m 43 t k 60 0) := by
  intro n
  induction n with
  | zero => intro k m h1 h2; omega
  | succ n ih =>
    intro k m h1 h2
    show f_X8_become_l12_b (f_X8_become_l12 fl t n) fl t (nI k) m = _
    have i1 := nI_toInt (n := k) (by omega)
    have i2 := nI_clamp (n := k) (by omega)
    unfold f_X8_become_l12_b
    by_cases c : k = 60
    · rw [fL_end (by omega)]
      simp (disch := omega) only [Int32.lt_iff_toInt_lt, Int32.le_iff_toInt_le, t_n14, t_n13, t_n12, t_n11, t_n10, t_n5, t_n4, t_n3, t_n2, t_n1, t_0, t_1, t_2, t_3, t_4, t_5, t_6, t_7, t_8, t_9, t_10, t_11, t_12, t_13, t_14, t_15, t_16, t_17, t_18, t_19, t_20, t_21, t_22, t_23, t_24, t_25, t_26, t_27, t_28, t_29, t_30, t_31, t_32, t_33, t_34, t_37, t_38, t_39, t_40, t_41, t_44, t_48, t_50, t_51, t_52, t_57, t_59, t_60, t_61, t_62, t_66, t_98, t_99, t_100, t_101, t_102, t_103, t_104, t_105, t_106, t_107, t_108, t_109, t_110, t_111, t_112, t_113, t_114, t_115, t_116, t_121, t_124, t_150, t_200, t_399, t_999, t_2000, vq_i, if_pos, if_neg, bn2_e, bn1_e, lt1_e, asr_t, drf_e, asr_T, gI_sI, gL_sI, gR_sI, gI_sL, gL_sL, gR_sL, gI_sR, gL_sR, gR_sR, eq_self, i32_eq, or_true, true_or, and_true, true_and, or_false, false_or, and_false, false_and, not_true, not_false_iff, if_true, if_false, i1]
    · simp (disch := omega) only [Int32.lt_iff_toInt_lt, Int32.le_iff_toInt_le, t_n14, t_n13, t_n12, t_n11, t_n10, t_n5, t_n4, t_n3, t_n2, t_n1, t_0, t_1, t_2, t_3, t_4, t_5, t_6, t_7, t_8, t_9, t_10, t_11, t_12, t_13, t_14, t_15, t_16, t_17, t_18, t_19, t_20, t_21, t_22, t_23, t_24, t_25, t_26, t_27, t_28, t_29, t_30, t_31, t_32, t_33, t_34, t_37, t_38, t_39, t_40, t_41, t_44, t_48, t_50, t_51, t_52, t_57, t_59, t_60, t_61, t_62, t_66, t_98, t_99, t_100, t_101, t_102, t_103, t_104, t_105, t_106, t_107, t_108, t_109, t_110, t_111, t_112, t_113, t_114, t_115, t_116, t_121, t_124, t_150, t_200, t_399, t_999, t_2000, vq_i, if_pos, if_neg, bn2_e, bn1_e, lt1_e, asr_t, drf_e, asr_T, gI_sI, gL_sI, gR_sI, gI_sL, gL_sL, gR_sL, gI_sR, gL_sR, gR_sR, eq_self, i32_eq, or_true, true_or, and_true, true_and, or_false, false_or, and_false, false_and, not_true, not_false_iff, if_true, if_false, i1, i2]
      rw [nI_1, ih (k + 1) _ (by omega) (by omega), fL_step (by omega)]
theorem m60 (t : Nat) : (60 : Int32) * nI t = nI (60 * t) := pk_mul 60 t
theorem tape_l {fl t : Nat} (ht : t < 6) : ∀ (n k : Nat) (m : Mem), k ≤ 60 → 61 ≤ n + k → f_X12_tape_l69 fl (nI t) n (nI k) m = some (fL m 54 0 (60 * t + k) (60 * t + 60) 0) := by
  intro n
  induction n with
  | zero => intro k m h1 h2; omega
  | succ n ih =>
    intro k m h1 h2
    show f_X12_tape_l69_b (f_X12_tape_l69 fl (nI t) n) fl (nI t) (nI k) m = _
    have i1 := nI_toInt (n := k) (by omega)
    have i3 := nI_toInt (n := 60 * t + k) (by omega)
    have i4 := nI_clamp (n := 60 * t + k) (by omega)
    unfold f_X12_tape_l69_b
    rw [m60, nI_add]
    by_cases c : k = 60
    · rw [fL_end (by omega)]
      simp (disch := omega) only [Int32.lt_iff_toInt_lt, Int32.le_iff_toInt_le, t_n14, t_n13, t_n12, t_n11, t_n10, t_n5, t_n4, t_n3, t_n2, t_n1, t_0, t_1, t_2, t_3, t_4, t_5, t_6, t_7, t_8, t_9, t_10, t_11, t_12, t_13, t_14, t_15, t_16, t_17, t_18, t_19, t_20, t_21, t_22, t_23, t_24, t_25, t_26, t_27, t_28, t_29, t_30, t_31, t_32, t_33, t_34, t_37, t_38, t_39, t_40, t_41, t_44, t_48, t_50, t_51, t_52, t_57, t_59, t_60, t_61, t_62, t_66, t_98, t_99, t_100, t_101, t_102, t_103, t_104, t_105, t_106, t_107, t_108, t_109, t_110, t_111, t_112, t_113, t_114, t_115, t_116, t_121, t_124, t_150, t_200, t_399, t_999, t_2000, vq_i, if_pos, if_neg, bn2_e, bn1_e, lt1_e, asr_t, drf_e, asr_T, gI_sI, gL_sI, gR_sI, gI_sL, gL_sL, gR_sL, gI_sR, gL_sR, gR_sR, eq_self, i32_eq, or_true, true_or, and_true, true_and, or_false, false_or, and_false, false_and, not_true, not_false_iff, if_true, if_false, i1]
    · simp (disch := omega) only [Int32.lt_iff_toInt_lt, Int32.le_iff_toInt_le, t_n14, t_n13, t_n12, t_n11, t_n10, t_n5, t_n4, t_n3, t_n2, t_n1, t_0, t_1, t_2, t_3, t_4, t_5, t_6, t_7, t_8, t_9, t_10, t_11, t_12, t_13, t_14, t_15, t_16, t_17, t_18, t_19, t_20, t_21, t_22, t_23, t_24, t_25, t_26, t_27, t_28, t_29, t_30, t_31, t_32, t_33, t_34, t_37, t_38, t_39, t_40, t_41, t_44, t_48, t_50, t_51, t_52, t_57, t_59, t_60, t_61, t_62, t_66, t_98, t_99, t_100, t_101, t_102, t_103, t_104, t_105, t_106, t_107, t_108, t_109, t_110, t_111, t_112, t_113, t_114, t_115, t_116, t_121, t_124, t_150, t_200, t_399, t_999, t_2000, vq_i, if_pos, if_neg, bn2_e, bn1_e, lt1_e, asr_t, drf_e, asr_T, gI_sI, gL_sI, gR_sI, gI_sL, gL_sL, gR_sL, gI_sR, gL_sR, gR_sR, eq_self, i32_eq, or_true, true_or, and_true, true_and, or_false, false_or, and_false, false_and, not_true, not_false_iff, if_true, if_false, i1, i3, i4]
      rw [nI_1, ih (k + 1) _ (by omega) (by omega)]
      rw [show 60 * t + (k + 1) = 60 * t + k + 1 by omega, fL_step (by omega)]
theorem pass_l1 {fl c : Nat} (hc : c ≤ 10) : ∀ (n k : Nat) (m : Mem), gI m 0 0 44 = nI c → k ≤ c → c + 1 ≤ n + k → f_X12_pass_l38 fl n (nI k) m = some (fI m 35 0 k c (-1)) := by
  intro n
  induction n with
  | zero => intro k m h0 h1 h2; omega
  | succ n ih =>
    intro k m h0 h1 h2
    show f_X12_pass_l38_b (f_X12_pass_l38 fl n) fl (nI k) m = _
    have i1 := nI_toInt (n := k) (by omega)
    have i2 := nI_clamp (n := k) (by omega)
    have i3 := nI_toInt (n := c) (by omega)
    unfold f_X12_pass_l38_b
    by_cases e : k = c
    · rw [fI_end (by omega)]
      simp (disch := omega) only [Int32.lt_iff_toInt_lt, Int32.le_iff_toInt_le, t_n14, t_n13, t_n12, t_n11, t_n10, t_n5, t_n4, t_n3, t_n2, t_n1, t_0, t_1, t_2, t_3, t_4, t_5, t_6, t_7, t_8, t_9, t_10, t_11, t_12, t_13, t_14, t_15, t_16, t_17, t_18, t_19, t_20, t_21, t_22, t_23, t_24, t_25, t_26, t_27, t_28, t_29, t_30, t_31, t_32, t_33, t_34, t_37, t_38, t_39, t_40, t_41, t_44, t_48, t_50, t_51, t_52, t_57, t_59, t_60, t_61, t_62, t_66, t_98, t_99, t_100, t_101, t_102, t_103, t_104, t_105, t_106, t_107, t_108, t_109, t_110, t_111, t_112, t_113, t_114, t_115, t_116, t_121, t_124, t_150, t_200, t_399, t_999, t_2000, vq_i, if_pos, if_neg, bn2_e, bn1_e, lt1_e, asr_t, drf_e, asr_T, gI_sI, gL_sI, gR_sI, gI_sL, gL_sL, gR_sL, gI_sR, gL_sR, gR_sR, eq_self, i32_eq, or_true, true_or, and_true, true_and, or_false, false_or, and_false, false_and, not_true, not_false_iff, if_true, if_false, i1, h0, i3]
    · simp (disch := omega) only [Int32.lt_iff_toInt_lt, Int32.le_iff_toInt_le, t_n14, t_n13, t_n12, t_n11, t_n10, t_n5, t_n4, t_n3, t_n2, t_n1, t_0, t_1, t_2, t_3, t_4, t_5, t_6, t_7, t_8, t_9, t_10, t_11, t_12, t_13, t_14, t_15, t_16, t_17, t_18, t_19, t_20, t_21, t_22, t_23, t_24, t_25, t_26, t_27, t_28, t_29, t_30, t_31, t_32, t_33, t_34, t_37, t_38, t_39, t_40, t_41, t_44, t_48, t_50, t_51, t_52, t_57, t_59, t_60, t_61, t_62, t_66, t_98, t_99, t_100, t_101, t_102, t_103, t_104, t_105, t_106, t_107, t_108, t_109, t_110, t_111, t_112, t_113, t_114, t_115, t_116, t_121, t_124, t_150, t_200, t_399, t_999, t_2000, vq_i, if_pos, if_neg, bn2_e, bn1_e, lt1_e, asr_t, drf_e, asr_T, gI_sI, gL_sI, gR_sI, gI_sL, gL_sL, gR_sL, gI_sR, gL_sR, gR_sR, eq_self, i32_eq, or_true, true_or, and_true, true_and, or_false, false_or, and_false, false_and, not_true, not_false_iff, if_true, if_false, i1, i2, h0, i3]
      rw [nI_1, ih (k + 1) _ (by simpa [gI_sI] using h0) (by omega) (by omega), fI_step (by omega)]
theorem fI2_step {m : Mem} {r r2 b lo hi : Nat} {v : Int32} (h : lo < hi) (hr : r ≠ r2) : fI (fI (sI (sI m r b lo v) r2 b lo v) r b (lo + 1) hi v) r2 b (lo + 1) hi v = fI (fI m r b lo hi v) r2 b lo hi v := by
  rw [show fI (sI (sI m r b lo v) r2 b lo v) r b (lo + 1) hi v = sI (fI (sI m r b lo v) r b (lo + 1) hi v) r2 b lo v from ?_, fI_step h, fI_step h]
  unfold fI sI
  refine Prod.ext ?_ rfl
  funext r' b' k'
  by_cases e : r' = r
  · subst e; simp [hr]
  · simp [e]
theorem pass_l2 {fl : Nat} : ∀ (n k : Nat) (m : Mem), k ≤ 30 → 31 ≤ n + k → f_X12_pass_l61 fl n (nI k) m = some (fI (fI m 36 0 k 30 0) 37 0 k 30 0) := by
  intro n
  induction n with
  | zero => intro k m h1 h2; omega
  | succ n ih =>
    intro k m h1 h2
    show f_X12_pass_l61_b (f_X12_pass_l61 fl n) fl (nI k) m = _
    have i1 := nI_toInt (n := k) (by omega)
    have i2 := nI_clamp (n := k) (by omega)
    unfold f_X12_pass_l61_b
    by_cases e : k = 30
    · rw [fI_end (by omega), fI_end (by omega)]
      simp (disch := omega) only [Int32.lt_iff_toInt_lt, Int32.le_iff_toInt_le, t_n14, t_n13, t_n12, t_n11, t_n10, t_n5, t_n4, t_n3, t_n2, t_n1, t_0, t_1, t_2, t_3, t_4, t_5, t_6, t_7, t_8, t_9, t_10, t_11, t_12, t_13, t_14, t_15, t_16, t_17, t_18, t_19, t_20, t_21, t_22, t_23, t_24, t_25, t_26, t_27, t_28, t_29, t_30, t_31, t_32, t_33, t_34, t_37, t_38, t_39, t_40, t_41, t_44, t_48, t_50, t_51, t_52, t_57, t_59, t_60, t_61, t_62, t_66, t_98, t_99, t_100, t_101, t_102, t_103, t_104, t_105, t_106, t_107, t_108, t_109, t_110, t_111, t_112, t_113, t_114, t_115, t_116, t_121, t_124, t_150, t_200, t_399, t_999, t_2000, vq_i, if_pos, if_neg, bn2_e, bn1_e, lt1_e, asr_t, drf_e, asr_T, gI_sI, gL_sI, gR_sI, gI_sL, gL_sL, gR_sL, gI_sR, gL_sR, gR_sR, eq_self, i32_eq, or_true, true_or, and_true, true_and, or_false, false_or, and_false, false_and, not_true, not_false_iff, if_true, if_false, i1]
    · simp (disch := omega) only [Int32.lt_iff_toInt_lt, Int32.le_iff_toInt_le, t_n14, t_n13, t_n12, t_n11, t_n10, t_n5, t_n4, t_n3, t_n2, t_n1, t_0, t_1, t_2, t_3, t_4, t_5, t_6, t_7, t_8, t_9, t_10, t_11, t_12, t_13, t_14, t_15, t_16, t_17, t_18, t_19, t_20, t_21, t_22, t_23, t_24, t_25, t_26, t_27, t_28, t_29, t_30, t_31, t_32, t_33, t_34, t_37, t_38, t_39, t_40, t_41, t_44, t_48, t_50, t_51, t_52, t_57, t_59, t_60, t_61, t_62, t_66, t_98, t_99, t_100, t_101, t_102, t_103, t_104, t_105, t_106, t_107, t_108, t_109, t_110, t_111, t_112, t_113, t_114, t_115, t_116, t_121, t_124, t_150, t_200, t_399, t_999, t_2000, vq_i, if_pos, if_neg, bn2_e, bn1_e, lt1_e, asr_t, drf_e, asr_T, gI_sI, gL_sI, gR_sI, gI_sL, gL_sL, gR_sL, gI_sR, gL_sR, gR_sR, eq_self, i32_eq, or_true, true_or, and_true, true_and, or_false, false_or, and_false, false_and, not_true, not_false_iff, if_true, if_false, i1, i2, nz0]
      rw [nI_1, ih (k + 1) _ (by omega) (by omega), fI2_step (by omega) (by decide)]
