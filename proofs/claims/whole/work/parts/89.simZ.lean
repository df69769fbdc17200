/-! unbuild: the places in the order of the going down, q = 5 b + (5 - p) -/
def prs (mm : Mem) (q : Nat) : Bool := if q % 5 = 2 then decide (0 < (gI mm 15 0 (q / 5)).toInt) else decide (0 ≤ (gI mm 14 0 (5 * (q / 5) + (4 - q % 5))).toInt)
def cnt (f : Nat → Bool) : Nat → Nat
  | 0 => 0
  | q + 1 => cnt f q + if f q then 1 else 0
theorem cnt_le (f : Nat → Bool) (q : Nat) : cnt f q ≤ q := by
  induction q with
  | zero => exact Nat.le_refl _
  | succ q ih =>
    show cnt f q + (if f q then 1 else 0) ≤ q + 1
    split <;> omega
theorem cnt_mono (f : Nat → Bool) {q r : Nat} (h : q ≤ r) : cnt f q ≤ cnt f r := by
  induction r with
  | zero => have : q = 0 := by omega
            rw [this]; exact Nat.le_refl _
  | succ r ih =>
    by_cases e : q = r + 1
    · rw [e]; exact Nat.le_refl _
    · have := ih (by omega)
      show cnt f q ≤ cnt f r + _
      omega
theorem cnt_lt (f : Nat → Bool) {q r : Nat} (h : q < r) (hq : f q = true) : cnt f q < cnt f r := by
  have := cnt_mono f (show q + 1 ≤ r by omega)
  have e : cnt f (q + 1) = cnt f q + 1 := by show cnt f q + (if f q then 1 else 0) = _; rw [hq]; rfl
  omega
theorem cnt_has (f : Nat → Bool) {i n : Nat} (h : i < cnt f n) : ∃ q, q < n ∧ f q = true ∧ cnt f q = i := by
  induction n with
  | zero => exact absurd h (Nat.not_lt_zero _)
  | succ n ih =>
    have e : cnt f (n + 1) = cnt f n + (if f n then 1 else 0) := rfl
    by_cases c : i < cnt f n
    · obtain ⟨q, q1, q2⟩ := ih c
      exact ⟨q, by omega, q2⟩
    · by_cases d : f n = true
      · rw [d] at e
        exact ⟨n, by omega, d, by simp at e; omega⟩
      · rw [Bool.not_eq_true] at d
        rw [d] at e
        simp at e
        omega
theorem pr_11 {fl n b p : Nat} {mc mm : Mem} (h : RR n mc mm) (hb : b < 30) (h1 : 1 ≤ p) (h5 : p ≤ 5) : f_X1_has fl b (nI p) mc = some (if prs mm (5 * b + (5 - p)) then 1 else 0, mc) := by
  obtain ⟨hT, hF, hL0, hL, hLc, hLg, hSb, hSs, hB, hP, hN, hG0, hG, hGd, hGw, hPw, hPa, hNa, hA, hTa, hR, hS, hW0, hW⟩ := h
  have e1 := nI_toInt (n := p) (by omega)
  have e2 := nI_clamp (n := p) (by omega)
  have d1 : (5 * b + (5 - p)) / 5 = b := by omega
  have d2 : (5 * b + (5 - p)) % 5 = 5 - p := by omega
  have d3 : 4 - (5 - p) = p - 1 := by omega
  unfold prs
  rw [d1, d2, d3]
  by_cases c : p = 3
  · subst c
    obtain ⟨np, n1, n2, n3, n4⟩ := hN b hb
    have i1 := nI_toInt (n := np) (by omega)
    rw [n3, i1]
    by_cases z : np = 0
    · subst z
      unfold f_X1_has f_X1_latestAt
      simp (disch := omega) only [Int32.lt_iff_toInt_lt, Int32.le_iff_toInt_le, t_n14, t_n13, t_n12, t_n11, t_n10, t_n5, t_n4, t_n3, t_n2, t_n1, t_0, t_1, t_2, t_3, t_4, t_5, t_6, t_7, t_8, t_9, t_10, t_11, t_12, t_13, t_14, t_15, t_16, t_17, t_18, t_19, t_20, t_21, t_22, t_23, t_24, t_25, t_26, t_27, t_28, t_29, t_30, t_31, t_32, t_33, t_34, t_37, t_38, t_39, t_40, t_41, t_44, t_48, t_50, t_51, t_52, t_57, t_59, t_60, t_61, t_62, t_66, t_98, t_99, t_100, t_101, t_102, t_103, t_104, t_105, t_106, t_107, t_108, t_109, t_110, t_111, t_112, t_113, t_114, t_115, t_116, t_121, t_124, t_150, t_200, t_399, t_999, t_2000, vq_i, if_pos, if_neg, bn2_e, bn1_e, lt1_e, asr_t, drf_e, asr_T, gI_sI, gL_sI, gR_sI, gI_sL, gL_sL, gR_sL, gI_sR, gL_sR, gR_sR, eq_self, i32_eq, or_true, true_or, and_true, true_and, or_false, false_or, and_false, false_and, not_true, not_false_iff, if_true, if_false, e1, n2, i1]
      simp
    · have i3 : nI np - 1 = nI (np - 1) := pk_sub (b := 1) (by omega)
      have i4 := nI_toInt (n := np - 1) (by omega)
      have i5 := nI_clamp (n := np - 1) (by omega)
      obtain ⟨l, l1, l2, -⟩ := n4 (np - 1) (by omega)
      unfold f_X1_has f_X1_latestAt
      simp (disch := omega) only [Int32.lt_iff_toInt_lt, Int32.le_iff_toInt_le, t_n14, t_n13, t_n12, t_n11, t_n10, t_n5, t_n4, t_n3, t_n2, t_n1, t_0, t_1, t_2, t_3, t_4, t_5, t_6, t_7, t_8, t_9, t_10, t_11, t_12, t_13, t_14, t_15, t_16, t_17, t_18, t_19, t_20, t_21, t_22, t_23, t_24, t_25, t_26, t_27, t_28, t_29, t_30, t_31, t_32, t_33, t_34, t_37, t_38, t_39, t_40, t_41, t_44, t_48, t_50, t_51, t_52, t_57, t_59, t_60, t_61, t_62, t_66, t_98, t_99, t_100, t_101, t_102, t_103, t_104, t_105, t_106, t_107, t_108, t_109, t_110, t_111, t_112, t_113, t_114, t_115, t_116, t_121, t_124, t_150, t_200, t_399, t_999, t_2000, vq_i, if_pos, if_neg, bn2_e, bn1_e, lt1_e, asr_t, drf_e, asr_T, gI_sI, gL_sI, gR_sI, gI_sL, gL_sL, gR_sL, gI_sR, gL_sR, gR_sR, eq_self, i32_eq, or_true, true_or, and_true, true_and, or_false, false_or, and_false, false_and, not_true, not_false_iff, if_true, if_false, e1, n2, i1, i3, i4, i5, l2]
      simp; omega
  · obtain ⟨-, -, -, hp⟩ := hP b hb
    obtain ⟨g1, g2, -⟩ := hp p (by omega) (by omega) c
    rw [show 5 * b + (p - 1) = 5 * b + p - 1 by omega, if_neg (show ¬ 5 - p = 2 by omega)]
    have hnl : nl mc ≤ 60 := hL0.1
    unfold f_X1_has f_X1_latestAt
    cases hz : gR mc 14 b p with
    | zero =>
      have g3 : (gI mm 14 0 (5 * b + p - 1)).toInt = -1 := by rw [g1, hz]; rfl
      simp (disch := omega) only [Int32.lt_iff_toInt_lt, Int32.le_iff_toInt_le, t_n14, t_n13, t_n12, t_n11, t_n10, t_n5, t_n4, t_n3, t_n2, t_n1, t_0, t_1, t_2, t_3, t_4, t_5, t_6, t_7, t_8, t_9, t_10, t_11, t_12, t_13, t_14, t_15, t_16, t_17, t_18, t_19, t_20, t_21, t_22, t_23, t_24, t_25, t_26, t_27, t_28, t_29, t_30, t_31, t_32, t_33, t_34, t_37, t_38, t_39, t_40, t_41, t_44, t_48, t_50, t_51, t_52, t_57, t_59, t_60, t_61, t_62, t_66, t_98, t_99, t_100, t_101, t_102, t_103, t_104, t_105, t_106, t_107, t_108, t_109, t_110, t_111, t_112, t_113, t_114, t_115, t_116, t_121, t_124, t_150, t_200, t_399, t_999, t_2000, vq_i, if_pos, if_neg, bn2_e, bn1_e, lt1_e, asr_t, drf_e, asr_T, gI_sI, gL_sI, gR_sI, gI_sL, gL_sL, gR_sL, gI_sR, gL_sR, gR_sR, eq_self, i32_eq, or_true, true_or, and_true, true_and, or_false, false_or, and_false, false_and, not_true, not_false_iff, if_true, if_false, e1, e2, hz]
      simp [g3]
    | succ l =>
      have g3 : (gI mm 14 0 (5 * b + p - 1)).toInt = l := by rw [g1, hz]; exact nI_toInt (by omega)
      simp (disch := omega) only [Int32.lt_iff_toInt_lt, Int32.le_iff_toInt_le, t_n14, t_n13, t_n12, t_n11, t_n10, t_n5, t_n4, t_n3, t_n2, t_n1, t_0, t_1, t_2, t_3, t_4, t_5, t_6, t_7, t_8, t_9, t_10, t_11, t_12, t_13, t_14, t_15, t_16, t_17, t_18, t_19, t_20, t_21, t_22, t_23, t_24, t_25, t_26, t_27, t_28, t_29, t_30, t_31, t_32, t_33, t_34, t_37, t_38, t_39, t_40, t_41, t_44, t_48, t_50, t_51, t_52, t_57, t_59, t_60, t_61, t_62, t_66, t_98, t_99, t_100, t_101, t_102, t_103, t_104, t_105, t_106, t_107, t_108, t_109, t_110, t_111, t_112, t_113, t_114, t_115, t_116, t_121, t_124, t_150, t_200, t_399, t_999, t_2000, vq_i, if_pos, if_neg, bn2_e, bn1_e, lt1_e, asr_t, drf_e, asr_T, gI_sI, gL_sI, gR_sI, gI_sL, gL_sL, gR_sL, gI_sR, gL_sR, gR_sR, eq_self, i32_eq, or_true, true_or, and_true, true_and, or_false, false_or, and_false, false_and, not_true, not_false_iff, if_true, if_false, e1, e2, hz]
      simp [g3]
theorem pr_12 {fl n b p : Nat} {mc mm : Mem} (h : RR n mc mm) (hb : b < 30) (h1 : 1 ≤ p) (h5 : p ≤ 5) : f_X12_has fl (nI b) (nI p) mm = some (if prs mm (5 * b + (5 - p)) then 1 else 0, mm) := by
  have e1 := nI_toInt (n := p) (by omega)
  have e3 := nI_toInt (n := b) (by omega)
  have e4 := nI_clamp (n := b) (by omega)
  have d1 : (5 * b + (5 - p)) / 5 = b := by omega
  have d2 : (5 * b + (5 - p)) % 5 = 5 - p := by omega
  have d3 : 4 - (5 - p) = p - 1 := by omega
  have e5 : (5 : Int32) * nI b + nI p - 1 = nI (5 * b + p - 1) := by
    rw [show (5 : Int32) * nI b = nI (5 * b) from pk_mul 5 b, nI_add]
    exact pk_sub (b := 1) (by omega)
  have e6 := nI_toInt (n := 5 * b + p - 1) (by omega)
  have e7 := nI_clamp (n := 5 * b + p - 1) (by omega)
  unfold prs f_X12_has
  rw [d1, d2, d3, e5]
  by_cases c : p = 3
  · subst c
    by_cases z : 0 < (gI mm 15 0 b).toInt
    · simp (disch := omega) only [Int32.lt_iff_toInt_lt, Int32.le_iff_toInt_le, t_n14, t_n13, t_n12, t_n11, t_n10, t_n5, t_n4, t_n3, t_n2, t_n1, t_0, t_1, t_2, t_3, t_4, t_5, t_6, t_7, t_8, t_9, t_10, t_11, t_12, t_13, t_14, t_15, t_16, t_17, t_18, t_19, t_20, t_21, t_22, t_23, t_24, t_25, t_26, t_27, t_28, t_29, t_30, t_31, t_32, t_33, t_34, t_37, t_38, t_39, t_40, t_41, t_44, t_48, t_50, t_51, t_52, t_57, t_59, t_60, t_61, t_62, t_66, t_98, t_99, t_100, t_101, t_102, t_103, t_104, t_105, t_106, t_107, t_108, t_109, t_110, t_111, t_112, t_113, t_114, t_115, t_116, t_121, t_124, t_150, t_200, t_399, t_999, t_2000, vq_i, if_pos, if_neg, bn2_e, bn1_e, lt1_e, asr_t, drf_e, asr_T, gI_sI, gL_sI, gR_sI, gI_sL, gL_sL, gR_sL, gI_sR, gL_sR, gR_sR, eq_self, i32_eq, or_true, true_or, and_true, true_and, or_false, false_or, and_false, false_and, not_true, not_false_iff, if_true, if_false, e1, e3, e4]; simp [z]
    · simp (disch := omega) only [Int32.lt_iff_toInt_lt, Int32.le_iff_toInt_le, t_n14, t_n13, t_n12, t_n11, t_n10, t_n5, t_n4, t_n3, t_n2, t_n1, t_0, t_1, t_2, t_3, t_4, t_5, t_6, t_7, t_8, t_9, t_10, t_11, t_12, t_13, t_14, t_15, t_16, t_17, t_18, t_19, t_20, t_21, t_22, t_23, t_24, t_25, t_26, t_27, t_28, t_29, t_30, t_31, t_32, t_33, t_34, t_37, t_38, t_39, t_40, t_41, t_44, t_48, t_50, t_51, t_52, t_57, t_59, t_60, t_61, t_62, t_66, t_98, t_99, t_100, t_101, t_102, t_103, t_104, t_105, t_106, t_107, t_108, t_109, t_110, t_111, t_112, t_113, t_114, t_115, t_116, t_121, t_124, t_150, t_200, t_399, t_999, t_2000, vq_i, if_pos, if_neg, bn2_e, bn1_e, lt1_e, asr_t, drf_e, asr_T, gI_sI, gL_sI, gR_sI, gI_sL, gL_sL, gR_sL, gI_sR, gL_sR, gR_sR, eq_self, i32_eq, or_true, true_or, and_true, true_and, or_false, false_or, and_false, false_and, not_true, not_false_iff, if_true, if_false, e1, e3, e4]; simp [z]
  · rw [show 5 * b + (p - 1) = 5 * b + p - 1 by omega, if_neg (show ¬ 5 - p = 2 by omega)]
    by_cases z : 0 ≤ (gI mm 14 0 (5 * b + p - 1)).toInt
    · simp (disch := omega) only [Int32.lt_iff_toInt_lt, Int32.le_iff_toInt_le, t_n14, t_n13, t_n12, t_n11, t_n10, t_n5, t_n4, t_n3, t_n2, t_n1, t_0, t_1, t_2, t_3, t_4, t_5, t_6, t_7, t_8, t_9, t_10, t_11, t_12, t_13, t_14, t_15, t_16, t_17, t_18, t_19, t_20, t_21, t_22, t_23, t_24, t_25, t_26, t_27, t_28, t_29, t_30, t_31, t_32, t_33, t_34, t_37, t_38, t_39, t_40, t_41, t_44, t_48, t_50, t_51, t_52, t_57, t_59, t_60, t_61, t_62, t_66, t_98, t_99, t_100, t_101, t_102, t_103, t_104, t_105, t_106, t_107, t_108, t_109, t_110, t_111, t_112, t_113, t_114, t_115, t_116, t_121, t_124, t_150, t_200, t_399, t_999, t_2000, vq_i, if_pos, if_neg, bn2_e, bn1_e, lt1_e, asr_t, drf_e, asr_T, gI_sI, gL_sI, gR_sI, gI_sL, gL_sL, gR_sL, gI_sR, gL_sR, gR_sR, eq_self, i32_eq, or_true, true_or, and_true, true_and, or_false, false_or, and_false, false_and, not_true, not_false_iff, if_true, if_false, e1, e6, e7]; simp [z]
    · simp (disch := omega) only [Int32.lt_iff_toInt_lt, Int32.le_iff_toInt_le, t_n14, t_n13, t_n12, t_n11, t_n10, t_n5, t_n4, t_n3, t_n2, t_n1, t_0, t_1, t_2, t_3, t_4, t_5, t_6, t_7, t_8, t_9, t_10, t_11, t_12, t_13, t_14, t_15, t_16, t_17, t_18, t_19, t_20, t_21, t_22, t_23, t_24, t_25, t_26, t_27, t_28, t_29, t_30, t_31, t_32, t_33, t_34, t_37, t_38, t_39, t_40, t_41, t_44, t_48, t_50, t_51, t_52, t_57, t_59, t_60, t_61, t_62, t_66, t_98, t_99, t_100, t_101, t_102, t_103, t_104, t_105, t_106, t_107, t_108, t_109, t_110, t_111, t_112, t_113, t_114, t_115, t_116, t_121, t_124, t_150, t_200, t_399, t_999, t_2000, vq_i, if_pos, if_neg, bn2_e, bn1_e, lt1_e, asr_t, drf_e, asr_T, gI_sI, gL_sI, gR_sI, gI_sL, gL_sL, gR_sL, gI_sR, gL_sR, gR_sR, eq_self, i32_eq, or_true, true_or, and_true, true_and, or_false, false_or, and_false, false_and, not_true, not_false_iff, if_true, if_false, e1, e6, e7]; simp [z]
/-! the class's walk over the places -/
theorem unb_in {fl n b : Nat} {g1 : Int32} {mc mm : Mem} (h : RR n mc mm) (hb : b < 30) : ∀ (N j : Nat), j ≤ 5 → 6 ≤ N + j → (∀ q, 5 * b + j ≤ q → q < 5 * b + 5 → prs mm q = true → ¬ nI (cnt (prs mm) q) = g1) → f_X11_unbuild_l30 fl g1 30 (nI b) b N (nI (cnt (prs mm) (5 * b + j))) (nI (5 - j)) mc = some ((1, nI (cnt (prs mm) (5 * b + 5)), 0), mc) := by
  intro N
  induction N with
  | zero => intro j h1 h2; omega
  | succ N ih =>
    intro j h1 h2 hno
    have e1 := nI_toInt (n := 5 - j) (by omega)
    show f_X11_unbuild_l30_b (f_X11_unbuild_l30 fl g1 30 (nI b) b N) fl g1 30 (nI b) b _ _ _ = _
    unfold f_X11_unbuild_l30_b
    by_cases c : j = 5
    · subst c
      simp (disch := omega) only [Int32.lt_iff_toInt_lt, Int32.le_iff_toInt_le, t_n14, t_n13, t_n12, t_n11, t_n10, t_n5, t_n4, t_n3, t_n2, t_n1, t_0, t_1, t_2, t_3, t_4, t_5, t_6, t_7, t_8, t_9, t_10, t_11, t_12, t_13, t_14, t_15, t_16, t_17, t_18, t_19, t_20, t_21, t_22, t_23, t_24, t_25, t_26, t_27, t_28, t_29, t_30, t_31, t_32, t_33, t_34, t_37, t_38, t_39, t_40, t_41, t_44, t_48, t_50, t_51, t_52, t_57, t_59, t_60, t_61, t_62, t_66, t_98, t_99, t_100, t_101, t_102, t_103, t_104, t_105, t_106, t_107, t_108, t_109, t_110, t_111, t_112, t_113, t_114, t_115, t_116, t_121, t_124, t_150, t_200, t_399, t_999, t_2000, vq_i, if_pos, if_neg, bn2_e, bn1_e, lt1_e, asr_t, drf_e, asr_T, gI_sI, gL_sI, gR_sI, gI_sL, gL_sL, gR_sL, gI_sR, gL_sR, gR_sR, eq_self, i32_eq, or_true, true_or, and_true, true_and, or_false, false_or, and_false, false_and, not_true, not_false_iff, if_true, if_false, e1]
      rfl
    · have hp := pr_11 (fl := fl) h hb (show 1 ≤ 5 - j by omega) (show 5 - j ≤ 5 by omega)
      rw [show 5 - (5 - j) = j by omega] at hp
      have y := ih (j + 1) (by omega) (by omega) (fun q q1 q2 q3 => hno q (by omega) q2 q3)
      have e2 : nI (5 - j) + (-1) = nI (5 - (j + 1)) := by
        rw [show 5 - j = (5 - (j + 1)) + 1 by omega]; exact pk_m1 _
      have e3 : cnt (prs mm) (5 * b + (j + 1)) = cnt (prs mm) (5 * b + j) + if prs mm (5 * b + j) then 1 else 0 := rfl
      rw [e3] at y
      rw [if_neg (by rw [Int32.lt_iff_toInt_lt, e1, t_1]; omega), hp, bn2_e]
      by_cases d : prs mm (5 * b + j) = true
      · have := hno (5 * b + j) (by omega) (by omega) d
        rw [if_pos d, if_neg (by decide), if_neg this, lt1_e, lt1_e, e2, nI_1]
        rw [if_pos d] at y
        exact y
      · rw [if_neg d, if_pos rfl, lt1_e, e2]
        rw [if_neg d] at y
        exact y
theorem unb_at {fl n b q : Nat} {g1 : Int32} {mc mm : Mem} (h : RR n mc mm) (hb : b < 30) (hq : 5 * b ≤ q ∧ q < 5 * b + 5) (hp : prs mm q = true) (hg : g1 = nI (cnt (prs mm) q)) : ∀ (N j : Nat), 5 * b + j ≤ q → 6 ≤ N + j → ∃ x, f_X11_unbuild_l30 fl g1 30 (nI b) b N (nI (cnt (prs mm) (5 * b + j))) (nI (5 - j)) mc = some ((0, x, nI (5 - (q - 5 * b))), mc) := by
  intro N
  induction N with
  | zero => intro j h1 h2; omega
  | succ N ih =>
    intro j h1 h2
    have e1 := nI_toInt (n := 5 - j) (by omega)
    have hpr := pr_11 (fl := fl) h hb (show 1 ≤ 5 - j by omega) (show 5 - j ≤ 5 by omega)
    rw [show 5 - (5 - j) = j by omega] at hpr
    show ∃ x, f_X11_unbuild_l30_b (f_X11_unbuild_l30 fl g1 30 (nI b) b N) fl g1 30 (nI b) b _ _ _ = _
    unfold f_X11_unbuild_l30_b
    rw [if_neg (by rw [Int32.lt_iff_toInt_lt, e1, t_1]; omega), hpr, bn2_e]
    by_cases c : 5 * b + j = q
    · rw [c, if_pos hp, if_neg (by decide), if_pos hg.symm, show q - 5 * b = j by omega]
      exact ⟨_, rfl⟩
    · obtain ⟨x, y⟩ := ih (j + 1) (by omega) (by omega)
      have e2 : nI (5 - j) + (-1) = nI (5 - (j + 1)) := by
        rw [show 5 - j = (5 - (j + 1)) + 1 by omega]; exact pk_m1 _
      have e3 : cnt (prs mm) (5 * b + (j + 1)) = cnt (prs mm) (5 * b + j) + if prs mm (5 * b + j) then 1 else 0 := rfl
      rw [e3] at y
      refine ⟨x, ?_⟩
      by_cases d : prs mm (5 * b + j) = true
      · have l1 := cnt_lt (prs mm) (show 5 * b + j < q by omega) d
        have l2 := cnt_le (prs mm) q
        have : ¬ nI (cnt (prs mm) (5 * b + j)) = g1 := by
          rw [hg]
          intro w
          have := (nI_eq (by omega) (by omega)).mp w
          omega
        rw [if_pos d, if_neg (by decide), if_neg this, lt1_e, lt1_e, e2, nI_1]
        rw [if_pos d] at y
        exact y
      · rw [if_neg d, if_pos rfl, lt1_e, e2]
        rw [if_neg d] at y
        exact y
theorem unb_out {fl n : Nat} (hfl : 1000 ≤ fl) {g1 : Int32} {mc mm : Mem} (h : RR n mc mm) (hno : ∀ q, q < 150 → prs mm q = true → ¬ nI (cnt (prs mm) q) = g1) : ∀ (N b : Nat), b ≤ 30 → 31 ≤ N + b → f_X11_unbuild_l14 fl g1 30 N (nI (cnt (prs mm) (5 * b))) (nI b) mc = some ((1, nI (cnt (prs mm) 150), 0, 0), mc) := by
  intro N
  induction N with
  | zero => intro b h1 h2; omega
  | succ N ih =>
    intro b h1 h2
    have e1 := nI_toInt (n := b) (by omega)
    have e2 := nI_clamp (n := b) (by omega)
    show f_X11_unbuild_l14_b (f_X11_unbuild_l14 fl g1 30 N) fl g1 30 _ _ _ = _
    unfold f_X11_unbuild_l14_b
    by_cases c : b = 30
    · subst c
      simp (disch := omega) only [Int32.lt_iff_toInt_lt, Int32.le_iff_toInt_le, t_n14, t_n13, t_n12, t_n11, t_n10, t_n5, t_n4, t_n3, t_n2, t_n1, t_0, t_1, t_2, t_3, t_4, t_5, t_6, t_7, t_8, t_9, t_10, t_11, t_12, t_13, t_14, t_15, t_16, t_17, t_18, t_19, t_20, t_21, t_22, t_23, t_24, t_25, t_26, t_27, t_28, t_29, t_30, t_31, t_32, t_33, t_34, t_37, t_38, t_39, t_40, t_41, t_44, t_48, t_50, t_51, t_52, t_57, t_59, t_60, t_61, t_62, t_66, t_98, t_99, t_100, t_101, t_102, t_103, t_104, t_105, t_106, t_107, t_108, t_109, t_110, t_111, t_112, t_113, t_114, t_115, t_116, t_121, t_124, t_150, t_200, t_399, t_999, t_2000, vq_i, if_pos, if_neg, bn2_e, bn1_e, lt1_e, asr_t, drf_e, asr_T, gI_sI, gL_sI, gR_sI, gI_sL, gL_sL, gR_sL, gI_sR, gL_sR, gR_sR, eq_self, i32_eq, or_true, true_or, and_true, true_and, or_false, false_or, and_false, false_and, not_true, not_false_iff, if_true, if_false, e1]
    · have y := unb_in (fl := fl) (g1 := g1) h (show b < 30 by omega) fl 0 (by omega) (by omega) (fun q q1 q2 q3 => hno q (by omega) q3)
      rw [Nat.add_zero, show nI (5 - 0) = 5 from rfl] at y
      have z := ih (b + 1) (by omega) (by omega)
      rw [show 5 * (b + 1) = 5 * b + 5 by omega, ← nI_1] at z
      simp (disch := omega) only [Int32.lt_iff_toInt_lt, Int32.le_iff_toInt_le, t_n14, t_n13, t_n12, t_n11, t_n10, t_n5, t_n4, t_n3, t_n2, t_n1, t_0, t_1, t_2, t_3, t_4, t_5, t_6, t_7, t_8, t_9, t_10, t_11, t_12, t_13, t_14, t_15, t_16, t_17, t_18, t_19, t_20, t_21, t_22, t_23, t_24, t_25, t_26, t_27, t_28, t_29, t_30, t_31, t_32, t_33, t_34, t_37, t_38, t_39, t_40, t_41, t_44, t_48, t_50, t_51, t_52, t_57, t_59, t_60, t_61, t_62, t_66, t_98, t_99, t_100, t_101, t_102, t_103, t_104, t_105, t_106, t_107, t_108, t_109, t_110, t_111, t_112, t_113, t_114, t_115, t_116, t_121, t_124, t_150, t_200, t_399, t_999, t_2000, vq_i, if_pos, if_neg, bn2_e, bn1_e, lt1_e, asr_t, drf_e, asr_T, gI_sI, gL_sI, gR_sI, gI_sL, gL_sL, gR_sL, gI_sR, gL_sR, gR_sR, eq_self, i32_eq, or_true, true_or, and_true, true_and, or_false, false_or, and_false, false_and, not_true, not_false_iff, if_true, if_false, e1, e2, y, z]
theorem unb_hit {fl n q : Nat} (hfl : 1000 ≤ fl) {g1 : Int32} {mc mm : Mem} (h : RR n mc mm) (hq : q < 150) (hp : prs mm q = true) (hg : g1 = nI (cnt (prs mm) q)) : ∀ (N b : Nat), b ≤ q / 5 → 31 ≤ N + b → f_X11_unbuild_l14 fl g1 30 N (nI (cnt (prs mm) (5 * b))) (nI b) mc = some ((0, 0, q / 5 + 1, nI (5 - q % 5)), mc) := by
  intro N
  induction N with
  | zero => intro b h1 h2; omega
  | succ N ih =>
    intro b h1 h2
    have e1 := nI_toInt (n := b) (by omega)
    have e2 := nI_clamp (n := b) (by omega)
    show f_X11_unbuild_l14_b (f_X11_unbuild_l14 fl g1 30 N) fl g1 30 _ _ _ = _
    unfold f_X11_unbuild_l14_b
    by_cases c : b = q / 5
    · obtain ⟨x, y⟩ := unb_at (fl := fl) (b := b) h (by omega) (q := q) (by omega) hp hg fl 0 (by omega) (by omega)
      rw [Nat.add_zero, show nI (5 - 0) = 5 from rfl, show q - 5 * b = q % 5 by omega] at y
      simp (disch := omega) only [Int32.lt_iff_toInt_lt, Int32.le_iff_toInt_le, t_n14, t_n13, t_n12, t_n11, t_n10, t_n5, t_n4, t_n3, t_n2, t_n1, t_0, t_1, t_2, t_3, t_4, t_5, t_6, t_7, t_8, t_9, t_10, t_11, t_12, t_13, t_14, t_15, t_16, t_17, t_18, t_19, t_20, t_21, t_22, t_23, t_24, t_25, t_26, t_27, t_28, t_29, t_30, t_31, t_32, t_33, t_34, t_37, t_38, t_39, t_40, t_41, t_44, t_48, t_50, t_51, t_52, t_57, t_59, t_60, t_61, t_62, t_66, t_98, t_99, t_100, t_101, t_102, t_103, t_104, t_105, t_106, t_107, t_108, t_109, t_110, t_111, t_112, t_113, t_114, t_115, t_116, t_121, t_124, t_150, t_200, t_399, t_999, t_2000, vq_i, if_pos, if_neg, bn2_e, bn1_e, lt1_e, asr_t, drf_e, asr_T, gI_sI, gL_sI, gR_sI, gI_sL, gL_sL, gR_sL, gI_sR, gL_sR, gR_sR, eq_self, i32_eq, or_true, true_or, and_true, true_and, or_false, false_or, and_false, false_and, not_true, not_false_iff, if_true, if_false, e1, e2, y]
      rw [c]
    · have y := unb_in (fl := fl) (g1 := g1) h (show b < 30 by omega) fl 0 (by omega) (by omega) (fun r r1 r2 r3 w => by
        have l1 := cnt_lt (prs mm) (show r < q by omega) r3
        have l2 := cnt_le (prs mm) q
        rw [hg] at w
        have := (nI_eq (by omega) (by omega)).mp w
        omega)
      rw [Nat.add_zero, show nI (5 - 0) = 5 from rfl] at y
      have z := ih (b + 1) (by omega) (by omega)
      rw [show 5 * (b + 1) = 5 * b + 5 by omega, ← nI_1] at z
      simp (disch := omega) only [Int32.lt_iff_toInt_lt, Int32.le_iff_toInt_le, t_n14, t_n13, t_n12, t_n11, t_n10, t_n5, t_n4, t_n3, t_n2, t_n1, t_0, t_1, t_2, t_3, t_4, t_5, t_6, t_7, t_8, t_9, t_10, t_11, t_12, t_13, t_14, t_15, t_16, t_17, t_18, t_19, t_20, t_21, t_22, t_23, t_24, t_25, t_26, t_27, t_28, t_29, t_30, t_31, t_32, t_33, t_34, t_37, t_38, t_39, t_40, t_41, t_44, t_48, t_50, t_51, t_52, t_57, t_59, t_60, t_61, t_62, t_66, t_98, t_99, t_100, t_101, t_102, t_103, t_104, t_105, t_106, t_107, t_108, t_109, t_110, t_111, t_112, t_113, t_114, t_115, t_116, t_121, t_124, t_150, t_200, t_399, t_999, t_2000, vq_i, if_pos, if_neg, bn2_e, bn1_e, lt1_e, asr_t, drf_e, asr_T, gI_sI, gL_sI, gR_sI, gI_sL, gL_sL, gR_sL, gI_sR, gL_sR, gR_sR, eq_self, i32_eq, or_true, true_or, and_true, true_and, or_false, false_or, and_false, false_and, not_true, not_false_iff, if_true, if_false, e1, e2, y, z]
