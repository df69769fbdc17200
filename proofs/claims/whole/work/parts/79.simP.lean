theorem cmp_gt {x y : Int64} : 0 < (lg_cmp x y).toInt ↔ y.toInt < x.toInt := by
  have h1 := cmp_ge (x := x) (y := y)
  have h2 := cmp_eq (x := x) (y := y)
  constructor
  · intro h
    have a := h1.mp (by omega)
    have b : ¬ x.toInt = y.toInt := fun q => by
      have := h2.mpr (Int64.toInt_inj.mp q)
      omega
    omega
  · intro h
    have a := h1.mpr (by omega)
    have b : ¬ (lg_cmp x y).toInt = 0 := fun q => by
      rw [h2.mp q] at h
      omega
    omega
theorem hasItems_11 {fl t z : Nat} {a b : Int32} {m : Mem} (hz : z ≤ 60) (h : gI m 42 t 2 = nI z) : f_X8_hasItems fl t a b m = some (if 0 ≤ a.toInt ∧ 0 ≤ b.toInt ∧ a.toInt + b.toInt ≤ z then 1 else 0, m) := by
  have i1 : (Int32.toInt64 (nI z)).toInt = z := by rw [Int32.toInt_toInt64, nI_toInt (by omega)]
  have r1 := a.le_toInt
  have r2 := a.toInt_lt
  have r3 := b.le_toInt
  have r4 := b.toInt_lt
  have i2 : (Int32.toInt64 a + Int32.toInt64 b).toInt = a.toInt + b.toInt := by
    rw [add64 (by rw [Int32.toInt_toInt64]; omega) (by rw [Int32.toInt_toInt64]; omega), Int32.toInt_toInt64, Int32.toInt_toInt64]
  unfold f_X8_hasItems
  by_cases c1 : a.toInt < 0 <;> by_cases c2 : b.toInt < 0 <;> by_cases c3 : z < a.toInt + b.toInt <;> first | omega | simp (disch := omega) only [Int32.lt_iff_toInt_lt, Int32.le_iff_toInt_le, t_n14, t_n13, t_n12, t_n11, t_n10, t_n5, t_n4, t_n3, t_n2, t_n1, t_0, t_1, t_2, t_3, t_4, t_5, t_6, t_7, t_8, t_9, t_10, t_11, t_12, t_13, t_14, t_15, t_16, t_17, t_18, t_19, t_20, t_21, t_22, t_23, t_24, t_25, t_26, t_27, t_28, t_29, t_30, t_31, t_32, t_33, t_34, t_37, t_38, t_39, t_40, t_41, t_44, t_48, t_50, t_51, t_52, t_57, t_59, t_60, t_61, t_62, t_66, t_98, t_99, t_100, t_101, t_102, t_103, t_104, t_105, t_106, t_107, t_108, t_109, t_110, t_111, t_112, t_113, t_114, t_115, t_116, t_121, t_124, t_150, t_200, t_399, t_999, t_2000, vq_i, if_pos, if_neg, bn2_e, bn1_e, lt1_e, asr_t, drf_e, asr_T, gI_sI, gL_sI, gR_sI, gI_sL, gL_sL, gR_sL, gI_sR, gL_sR, gR_sR, eq_self, i32_eq, or_true, true_or, and_true, true_and, or_false, false_or, and_false, false_and, not_true, not_false_iff, if_true, if_false, cmp_gt, h, i1, i2]
theorem sCL_step {m : Mem} {r1 b1 r2 b2 sp dp n : Nat} (h : r1 ≠ r2) : sCL (sL m r2 b2 dp (gL m r1 b1 sp)) r1 b1 r2 b2 (sp + 1) (dp + 1) n = sCL m r1 b1 r2 b2 sp dp (n + 1) := by
  refine Prod.ext rfl (Prod.ext ?_ rfl)
  funext r b k
  show gL (sCL (sL m r2 b2 dp (gL m r1 b1 sp)) r1 b1 r2 b2 (sp + 1) (dp + 1) n) r b k = gL (sCL m r1 b1 r2 b2 sp dp (n + 1)) r b k
  rw [gL_sCL, gL_sCL, gL_sL, gL_sL, if_neg (show ¬ (r1 = r2 ∧ b1 = b2 ∧ sp + 1 + (k - (dp + 1)) = dp) from fun q => h q.1)]
  by_cases c : r = r2 ∧ b = b2
  · by_cases d : k = dp
    · rw [if_neg (show ¬ (r = r2 ∧ b = b2 ∧ dp + 1 ≤ k ∧ k < dp + 1 + n) by omega), if_pos ⟨c.1, c.2, d⟩, if_pos ⟨c.1, c.2, by omega, by omega⟩, d, Nat.sub_self, Nat.add_zero]
    · by_cases e : dp + 1 ≤ k ∧ k < dp + 1 + n
      · rw [if_pos ⟨c.1, c.2, e⟩, if_pos ⟨c.1, c.2, by omega, by omega⟩, show sp + 1 + (k - (dp + 1)) = sp + (k - dp) by omega]
      · rw [if_neg (fun q => e q.2.2), if_neg (fun q => d q.2.2), if_neg (show ¬ (r = r2 ∧ b = b2 ∧ dp ≤ k ∧ k < dp + (n + 1)) by omega)]
  · rw [if_neg (fun q => c ⟨q.1, q.2.1⟩), if_neg (fun q => c ⟨q.1, q.2.1⟩), if_neg (fun q => c ⟨q.1, q.2.1⟩)]
theorem sCL_0 {m : Mem} {r1 b1 r2 b2 sp dp : Nat} : sCL m r1 b1 r2 b2 sp dp 0 = m := by
  refine Prod.ext rfl (Prod.ext ?_ rfl)
  funext r b k
  show gL (sCL m r1 b1 r2 b2 sp dp 0) r b k = gL m r b k
  rw [gL_sCL, if_neg (by omega)]
theorem shift_l1 {fl t q w : Nat} {x y : Int32} (ht : t < 6) (hq : q + w ≤ 60) : ∀ (d N k : Nat) (m : Mem), k + d = w → d < N → f_X12_shift_l104 fl (nI t) (nI q) x y (nI w) N (nI k) m = some (sCL m 54 0 55 0 (60 * t + q + k) k d) := by
  intro d
  induction d with
  | zero =>
    intro N k m h1 h2
    obtain ⟨N, rfl⟩ := Nat.exists_eq_succ_of_ne_zero (show N ≠ 0 by omega)
    unfold f_X12_shift_l104 f_X12_shift_l104_b
    rw [if_pos (by rw [show w = k by omega]; exact Int32.le_refl _), sCL_0]
  | succ d ih =>
    intro N k m h1 h2
    obtain ⟨N, rfl⟩ := Nat.exists_eq_succ_of_ne_zero (show N ≠ 0 by omega)
    have e1 := nI_toInt (n := k) (by omega)
    have e2 := nI_toInt (n := w) (by omega)
    have e3 := nI_clamp (n := k) (by omega)
    have e4 := nI_toInt (n := 60 * t + q + k) (by omega)
    have e5 := nI_clamp (n := 60 * t + q + k) (by omega)
    have s1 : (60 : Int32) * nI t + nI q + nI k = nI (60 * t + q + k) := by rw [m60, nI_add, nI_add]
    have y := ih N (k + 1) (sL m 55 0 k (gL m 54 0 (60 * t + q + k))) (by omega) (by omega)
    rw [← nI_1, ← Nat.add_assoc, sCL_step (by decide)] at y
    unfold f_X12_shift_l104 f_X12_shift_l104_b
    simp (disch := omega) only [Int32.lt_iff_toInt_lt, Int32.le_iff_toInt_le, t_n14, t_n13, t_n12, t_n11, t_n10, t_n5, t_n4, t_n3, t_n2, t_n1, t_0, t_1, t_2, t_3, t_4, t_5, t_6, t_7, t_8, t_9, t_10, t_11, t_12, t_13, t_14, t_15, t_16, t_17, t_18, t_19, t_20, t_21, t_22, t_23, t_24, t_25, t_26, t_27, t_28, t_29, t_30, t_31, t_32, t_33, t_34, t_37, t_38, t_39, t_40, t_41, t_44, t_48, t_50, t_51, t_52, t_57, t_59, t_60, t_61, t_62, t_66, t_98, t_99, t_100, t_101, t_102, t_103, t_104, t_105, t_106, t_107, t_108, t_109, t_110, t_111, t_112, t_113, t_114, t_115, t_116, t_121, t_124, t_150, t_200, t_399, t_999, t_2000, vq_i, if_pos, if_neg, bn2_e, bn1_e, lt1_e, asr_t, drf_e, asr_T, gI_sI, gL_sI, gR_sI, gI_sL, gL_sL, gR_sL, gI_sR, gL_sR, gR_sR, eq_self, i32_eq, or_true, true_or, and_true, true_and, or_false, false_or, and_false, false_and, not_true, not_false_iff, if_true, if_false, e1, e2, e3, e4, e5, s1, y]
theorem shift_l2 {fl t q w : Nat} (ht : t < 6) (hq : q + w ≤ 60) : ∀ (d N k : Nat) (m : Mem), k + d = w → d < N → f_X12_shift_l141 fl (nI t) (nI q) (nI w) N (nI k) m = some (sCL m 55 0 54 0 k (60 * t + q + k) d) := by
  intro d
  induction d with
  | zero =>
    intro N k m h1 h2
    obtain ⟨N, rfl⟩ := Nat.exists_eq_succ_of_ne_zero (show N ≠ 0 by omega)
    unfold f_X12_shift_l141 f_X12_shift_l141_b
    rw [if_pos (by rw [show w = k by omega]; exact Int32.le_refl _), sCL_0]
  | succ d ih =>
    intro N k m h1 h2
    obtain ⟨N, rfl⟩ := Nat.exists_eq_succ_of_ne_zero (show N ≠ 0 by omega)
    have e1 := nI_toInt (n := k) (by omega)
    have e2 := nI_toInt (n := w) (by omega)
    have e3 := nI_clamp (n := k) (by omega)
    have e4 := nI_toInt (n := 60 * t + q + k) (by omega)
    have e5 := nI_clamp (n := 60 * t + q + k) (by omega)
    have s1 : (60 : Int32) * nI t + nI q + nI k = nI (60 * t + q + k) := by rw [m60, nI_add, nI_add]
    have y := ih N (k + 1) (sL m 54 0 (60 * t + q + k) (gL m 55 0 k)) (by omega) (by omega)
    rw [← nI_1, ← Nat.add_assoc, sCL_step (by decide)] at y
    unfold f_X12_shift_l141 f_X12_shift_l141_b
    simp (disch := omega) only [Int32.lt_iff_toInt_lt, Int32.le_iff_toInt_le, t_n14, t_n13, t_n12, t_n11, t_n10, t_n5, t_n4, t_n3, t_n2, t_n1, t_0, t_1, t_2, t_3, t_4, t_5, t_6, t_7, t_8, t_9, t_10, t_11, t_12, t_13, t_14, t_15, t_16, t_17, t_18, t_19, t_20, t_21, t_22, t_23, t_24, t_25, t_26, t_27, t_28, t_29, t_30, t_31, t_32, t_33, t_34, t_37, t_38, t_39, t_40, t_41, t_44, t_48, t_50, t_51, t_52, t_57, t_59, t_60, t_61, t_62, t_66, t_98, t_99, t_100, t_101, t_102, t_103, t_104, t_105, t_106, t_107, t_108, t_109, t_110, t_111, t_112, t_113, t_114, t_115, t_116, t_121, t_124, t_150, t_200, t_399, t_999, t_2000, vq_i, if_pos, if_neg, bn2_e, bn1_e, lt1_e, asr_t, drf_e, asr_T, gI_sI, gL_sI, gR_sI, gI_sL, gL_sL, gR_sL, gI_sR, gL_sR, gR_sR, eq_self, i32_eq, or_true, true_or, and_true, true_and, or_false, false_or, and_false, false_and, not_true, not_false_iff, if_true, if_false, e1, e2, e3, e4, e5, s1, y]
theorem sim_shift {fl n : Nat} (hfl : 1000 ≤ fl) {mc mm : Mem} (h : RR n mc mm) (a1 a2 a3 a4 a5 : Int32) : Sim (n + 1) (f_X11_shift fl a1 a2 a3 a4 a5 mc) (f_X12_shift fl a1 a2 a3 a4 a5 mm) := by
  have h0 := h
  obtain ⟨hT, hF, hL0, hL, hLc, hLg, hSb, hSs, hB, hP, hN, hG0, hG, hGd, hGw, hPw, hPa, hNa, hA, hTa, hR, hS, hW0, hW⟩ := h
  rcases tape_cases a1 fl mc mm with ⟨e1, e2⟩ | ⟨t, ht, rfl, i1, i2, e1, e2⟩
  · refine Sim.same h0 (-1) ?_ (by unfold f_X12_shift; rw [e2]; rfl)
    unfold f_X11_shift
    rcases tape_cases a3 fl mc mm with ⟨e3, e4⟩ | ⟨d, hd, rfl, j1, j2, e3, e4⟩ <;> (rw [e1, bn2_e, e3]; rfl)
  · rcases tape_cases a3 fl mc mm with ⟨e3, e4⟩ | ⟨d, hd, rfl, j1, j2, e3, e4⟩
    · exact Sim.same h0 (-1) (by unfold f_X11_shift; rw [e1, bn2_e, e3, bn2_e, if_neg (Nat.succ_ne_zero t), if_pos rfl]) (by unfold f_X12_shift; rw [e2, bn2_e, if_neg (by decide), e4]; rfl)
    · obtain ⟨t1, t2, ⟨z, hz, z1, z2, z3⟩, t3⟩ := hTa t ht
      obtain ⟨d1, d2, ⟨y, hy, y1, y2, y3⟩, d3⟩ := hTa d hd
      have t4 := rg_i t2
      have d4 := rg_i d2
      by_cases c : (gI mm 52 0 t).toInt = -1
      · exact Sim.same h0 (-11) (by unfold f_X11_shift; rw [e1, bn2_e, e3, bn2_e, if_neg (Nat.succ_ne_zero t), if_neg (Nat.succ_ne_zero d), drf_e ht, t1]; simp (disch := omega) only [Int32.lt_iff_toInt_lt, Int32.le_iff_toInt_le, t_n14, t_n13, t_n12, t_n11, t_n10, t_n5, t_n4, t_n3, t_n2, t_n1, t_0, t_1, t_2, t_3, t_4, t_5, t_6, t_7, t_8, t_9, t_10, t_11, t_12, t_13, t_14, t_15, t_16, t_17, t_18, t_19, t_20, t_21, t_22, t_23, t_24, t_25, t_26, t_27, t_28, t_29, t_30, t_31, t_32, t_33, t_34, t_37, t_38, t_39, t_40, t_41, t_44, t_48, t_50, t_51, t_52, t_57, t_59, t_60, t_61, t_62, t_66, t_98, t_99, t_100, t_101, t_102, t_103, t_104, t_105, t_106, t_107, t_108, t_109, t_110, t_111, t_112, t_113, t_114, t_115, t_116, t_121, t_124, t_150, t_200, t_399, t_999, t_2000, vq_i, if_pos, if_neg, bn2_e, bn1_e, lt1_e, asr_t, drf_e, asr_T, gI_sI, gL_sI, gR_sI, gI_sL, gL_sL, gR_sL, gI_sR, gL_sR, gR_sR, eq_self, i32_eq, or_true, true_or, and_true, true_and, or_false, false_or, and_false, false_and, not_true, not_false_iff, if_true, if_false, d1]) (by unfold f_X12_shift; rw [e2, bn2_e, if_neg (by decide), e4, bn2_e, if_neg (by decide)]; simp only [i2, j2]; simp (disch := omega) only [Int32.lt_iff_toInt_lt, Int32.le_iff_toInt_le, t_n14, t_n13, t_n12, t_n11, t_n10, t_n5, t_n4, t_n3, t_n2, t_n1, t_0, t_1, t_2, t_3, t_4, t_5, t_6, t_7, t_8, t_9, t_10, t_11, t_12, t_13, t_14, t_15, t_16, t_17, t_18, t_19, t_20, t_21, t_22, t_23, t_24, t_25, t_26, t_27, t_28, t_29, t_30, t_31, t_32, t_33, t_34, t_37, t_38, t_39, t_40, t_41, t_44, t_48, t_50, t_51, t_52, t_57, t_59, t_60, t_61, t_62, t_66, t_98, t_99, t_100, t_101, t_102, t_103, t_104, t_105, t_106, t_107, t_108, t_109, t_110, t_111, t_112, t_113, t_114, t_115, t_116, t_121, t_124, t_150, t_200, t_399, t_999, t_2000, vq_i, if_pos, if_neg, bn2_e, bn1_e, lt1_e, asr_t, drf_e, asr_T, gI_sI, gL_sI, gR_sI, gI_sL, gL_sL, gR_sL, gI_sR, gL_sR, gR_sR, eq_self, i32_eq, or_true, true_or, and_true, true_and, or_false, false_or, and_false, false_and, not_true, not_false_iff, if_true, if_false, i1, j1])
      · by_cases c2 : (gI mm 52 0 d).toInt = -1
        · exact Sim.same h0 (-11) (by unfold f_X11_shift; rw [e1, bn2_e, e3, bn2_e, if_neg (Nat.succ_ne_zero t), if_neg (Nat.succ_ne_zero d), drf_e ht, t1]; simp (disch := omega) only [Int32.lt_iff_toInt_lt, Int32.le_iff_toInt_le, t_n14, t_n13, t_n12, t_n11, t_n10, t_n5, t_n4, t_n3, t_n2, t_n1, t_0, t_1, t_2, t_3, t_4, t_5, t_6, t_7, t_8, t_9, t_10, t_11, t_12, t_13, t_14, t_15, t_16, t_17, t_18, t_19, t_20, t_21, t_22, t_23, t_24, t_25, t_26, t_27, t_28, t_29, t_30, t_31, t_32, t_33, t_34, t_37, t_38, t_39, t_40, t_41, t_44, t_48, t_50, t_51, t_52, t_57, t_59, t_60, t_61, t_62, t_66, t_98, t_99, t_100, t_101, t_102, t_103, t_104, t_105, t_106, t_107, t_108, t_109, t_110, t_111, t_112, t_113, t_114, t_115, t_116, t_121, t_124, t_150, t_200, t_399, t_999, t_2000, vq_i, if_pos, if_neg, bn2_e, bn1_e, lt1_e, asr_t, drf_e, asr_T, gI_sI, gL_sI, gR_sI, gI_sL, gL_sL, gR_sL, gI_sR, gL_sR, gR_sR, eq_self, i32_eq, or_true, true_or, and_true, true_and, or_false, false_or, and_false, false_and, not_true, not_false_iff, if_true, if_false, d1]) (by unfold f_X12_shift; rw [e2, bn2_e, if_neg (by decide), e4, bn2_e, if_neg (by decide)]; simp only [i2, j2]; simp (disch := omega) only [Int32.lt_iff_toInt_lt, Int32.le_iff_toInt_le, t_n14, t_n13, t_n12, t_n11, t_n10, t_n5, t_n4, t_n3, t_n2, t_n1, t_0, t_1, t_2, t_3, t_4, t_5, t_6, t_7, t_8, t_9, t_10, t_11, t_12, t_13, t_14, t_15, t_16, t_17, t_18, t_19, t_20, t_21, t_22, t_23, t_24, t_25, t_26, t_27, t_28, t_29, t_30, t_31, t_32, t_33, t_34, t_37, t_38, t_39, t_40, t_41, t_44, t_48, t_50, t_51, t_52, t_57, t_59, t_60, t_61, t_62, t_66, t_98, t_99, t_100, t_101, t_102, t_103, t_104, t_105, t_106, t_107, t_108, t_109, t_110, t_111, t_112, t_113, t_114, t_115, t_116, t_121, t_124, t_150, t_200, t_399, t_999, t_2000, vq_i, if_pos, if_neg, bn2_e, bn1_e, lt1_e, asr_t, drf_e, asr_T, gI_sI, gL_sI, gR_sI, gI_sL, gL_sL, gR_sL, gI_sR, gL_sR, gR_sR, eq_self, i32_eq, or_true, true_or, and_true, true_and, or_false, false_or, and_false, false_and, not_true, not_false_iff, if_true, if_false, i1, j1])
        · by_cases c3 : (gI mm 52 0 t).toInt = (gI mm 52 0 d).toInt
          · have zi := nI_toInt (n := z) (by omega)
            have yi := nI_toInt (n := y) (by omega)
            have hz' := hasItems_11 (fl := fl) (a := a2) (b := a5) hz z1
            have hy' := hasItems_11 (fl := fl) (a := a4) (b := a5) hy y1
            have r1 := a5.toInt_lt
            have sz : 0 ≤ a5.toInt → (nI z - a5).toInt = z - a5.toInt := fun q => by
              rw [Int32.toInt_sub, zi]
              exact Int.bmod_eq_of_le (by simp; omega) (by simp; omega)
            have sy : 0 ≤ a5.toInt → (nI y - a5).toInt = y - a5.toInt := fun q => by
              rw [Int32.toInt_sub, yi]
              exact Int.bmod_eq_of_le (by simp; omega) (by simp; omega)
            by_cases c4 : (0 ≤ a2.toInt ∧ 0 ≤ a5.toInt ∧ a2.toInt + a5.toInt ≤ z) ∧ (0 ≤ a4.toInt ∧ 0 ≤ a5.toInt ∧ a4.toInt + a5.toInt ≤ y)
            · obtain ⟨q, hq, rfl⟩ : ∃ q : Nat, q < 61 ∧ a2 = nI q := by
                rcases inr (x := a2) 61 (by omega) with q | q
                · omega
                · exact q
              obtain ⟨p, hp, rfl⟩ : ∃ q : Nat, q < 61 ∧ a4 = nI q := by
                rcases inr (x := a4) 61 (by omega) with q | q
                · omega
                · exact q
              obtain ⟨w, hw, rfl⟩ : ∃ q : Nat, q < 61 ∧ a5 = nI q := by
                rcases inr (x := a5) 61 (by omega) with q | q
                · omega
                · exact q
              have q1 := nI_toInt (n := q) (by omega)
              have q2 := nI_clamp (n := q) (by omega)
              have p1 := nI_toInt (n := p) (by omega)
              have p2 := nI_clamp (n := p) (by omega)
              have w1 := nI_toInt (n := w) (by omega)
              have w2 := nI_clamp (n := w) (by omega)
              have hw0 : (nI w).toInt < 61 := by omega
              have l1 := shift_l1 (fl := fl) (q := q) (w := w) (x := nI d) (y := nI p) ht (by omega) w fl 0 mm (by omega) (by omega)
              have l2 := fun m => shift_l2 (fl := fl) (q := p) (w := w) hd (by omega) w fl 0 m (by omega) (by omega)
              rw [show nI 0 = 0 from rfl] at l1
              have l2' : ∀ m, f_X12_shift_l141 fl (nI d) (nI p) (nI w) fl 0 m = some (sCL m 55 0 54 0 0 (60 * d + p + 0) w) := l2
              have sz' := sz (by omega)
              have sy' := sy (by omega)
              refine ⟨nI w, sCL mc 43 t 43 d q p w, sCL (sCL mm 54 0 55 0 (60 * t + q + 0) 0 w) 55 0 54 0 0 (60 * d + p + 0) w, ?_, ?_, ?_⟩
              · unfold f_X11_shift; rw [e1, bn2_e, e3, bn2_e, if_neg (Nat.succ_ne_zero t), if_neg (Nat.succ_ne_zero d), drf_e ht, t1]; simp (disch := omega) only [Int32.lt_iff_toInt_lt, Int32.le_iff_toInt_le, t_n14, t_n13, t_n12, t_n11, t_n10, t_n5, t_n4, t_n3, t_n2, t_n1, t_0, t_1, t_2, t_3, t_4, t_5, t_6, t_7, t_8, t_9, t_10, t_11, t_12, t_13, t_14, t_15, t_16, t_17, t_18, t_19, t_20, t_21, t_22, t_23, t_24, t_25, t_26, t_27, t_28, t_29, t_30, t_31, t_32, t_33, t_34, t_37, t_38, t_39, t_40, t_41, t_44, t_48, t_50, t_51, t_52, t_57, t_59, t_60, t_61, t_62, t_66, t_98, t_99, t_100, t_101, t_102, t_103, t_104, t_105, t_106, t_107, t_108, t_109, t_110, t_111, t_112, t_113, t_114, t_115, t_116, t_121, t_124, t_150, t_200, t_399, t_999, t_2000, vq_i, if_pos, if_neg, bn2_e, bn1_e, lt1_e, asr_t, drf_e, asr_T, gI_sI, gL_sI, gR_sI, gI_sL, gL_sL, gR_sL, gI_sR, gL_sR, gR_sR, eq_self, i32_eq, or_true, true_or, and_true, true_and, or_false, false_or, and_false, false_and, not_true, not_false_iff, if_true, if_false, d1, hz', hy', q1, q2, p1, p2, w1, w2]
              · unfold f_X12_shift; rw [e2, bn2_e, if_neg (by decide), e4, bn2_e, if_neg (by decide)]; simp only [i2, j2]; simp (disch := omega) only [Int32.lt_iff_toInt_lt, Int32.le_iff_toInt_le, t_n14, t_n13, t_n12, t_n11, t_n10, t_n5, t_n4, t_n3, t_n2, t_n1, t_0, t_1, t_2, t_3, t_4, t_5, t_6, t_7, t_8, t_9, t_10, t_11, t_12, t_13, t_14, t_15, t_16, t_17, t_18, t_19, t_20, t_21, t_22, t_23, t_24, t_25, t_26, t_27, t_28, t_29, t_30, t_31, t_32, t_33, t_34, t_37, t_38, t_39, t_40, t_41, t_44, t_48, t_50, t_51, t_52, t_57, t_59, t_60, t_61, t_62, t_66, t_98, t_99, t_100, t_101, t_102, t_103, t_104, t_105, t_106, t_107, t_108, t_109, t_110, t_111, t_112, t_113, t_114, t_115, t_116, t_121, t_124, t_150, t_200, t_399, t_999, t_2000, vq_i, if_pos, if_neg, bn2_e, bn1_e, lt1_e, asr_t, drf_e, asr_T, gI_sI, gL_sI, gR_sI, gI_sL, gL_sL, gR_sL, gI_sR, gL_sR, gR_sR, eq_self, i32_eq, or_true, true_or, and_true, true_and, or_false, false_or, and_false, false_and, not_true, not_false_iff, if_true, if_false, i1, j1, z2, y2, sz', sy', q1, p1, w1, l1, l2']
              · refine ⟨hT, hF, hL0, hL, hLc, hLg.up, hSb, hSs, hB, hP, hN, hG0, hG, hGd.up, hGw, hPw, hPa, hNa, hA, ?_, hR, hS, hW0, hW⟩
                intro g hg
                obtain ⟨g1, g2, g3, g4⟩ := hTa g hg
                refine ⟨g1, g2, g3, fun k hk => ?_⟩
                rw [gI_sCL, gI_sCL, gL_sCL, gL_sCL, gL_sCL, gL_sCL]
                rw [if_neg (show ¬ (54 = 55 ∧ 0 = 0 ∧ 0 ≤ 60 * g + k ∧ 60 * g + k < 0 + w) by omega)]
                by_cases e : g = d ∧ p ≤ k ∧ k < p + w
                · obtain ⟨rfl, e5, e6⟩ := e
                  rw [if_pos ⟨rfl, rfl, e5, e6⟩, if_pos ⟨rfl, rfl, by omega, by omega⟩, if_pos ⟨rfl, rfl, by omega, by omega⟩]
                  obtain ⟨b1, b2⟩ := t3 (q + (k - p)) (by omega)
                  rw [show 60 * t + q + 0 + (0 + (60 * g + k - (60 * g + p + 0)) - 0) = 60 * t + (q + (k - p)) by omega]
                  exact ⟨b1, fun s => b2 (by rw [← s]; exact i32_eq.mpr c3)⟩
                · rw [if_neg (show ¬ (43 = 43 ∧ g = d ∧ p ≤ k ∧ k < p + w) from fun s => e s.2), if_neg (show ¬ (54 = 54 ∧ 0 = 0 ∧ 60 * d + p + 0 ≤ 60 * g + k ∧ 60 * g + k < 60 * d + p + 0 + w) by omega)]
                  exact g4 k hk
            · refine Sim.same h0 (-13) ?_ ?_
              · unfold f_X11_shift; rw [e1, bn2_e, e3, bn2_e, if_neg (Nat.succ_ne_zero t), if_neg (Nat.succ_ne_zero d), drf_e ht, t1]; 
                by_cases c5 : 0 ≤ a2.toInt ∧ 0 ≤ a5.toInt ∧ a2.toInt + a5.toInt ≤ z <;> simp (disch := omega) only [Int32.lt_iff_toInt_lt, Int32.le_iff_toInt_le, t_n14, t_n13, t_n12, t_n11, t_n10, t_n5, t_n4, t_n3, t_n2, t_n1, t_0, t_1, t_2, t_3, t_4, t_5, t_6, t_7, t_8, t_9, t_10, t_11, t_12, t_13, t_14, t_15, t_16, t_17, t_18, t_19, t_20, t_21, t_22, t_23, t_24, t_25, t_26, t_27, t_28, t_29, t_30, t_31, t_32, t_33, t_34, t_37, t_38, t_39, t_40, t_41, t_44, t_48, t_50, t_51, t_52, t_57, t_59, t_60, t_61, t_62, t_66, t_98, t_99, t_100, t_101, t_102, t_103, t_104, t_105, t_106, t_107, t_108, t_109, t_110, t_111, t_112, t_113, t_114, t_115, t_116, t_121, t_124, t_150, t_200, t_399, t_999, t_2000, vq_i, if_pos, if_neg, bn2_e, bn1_e, lt1_e, asr_t, drf_e, asr_T, gI_sI, gL_sI, gR_sI, gI_sL, gL_sL, gR_sL, gI_sR, gL_sR, gR_sR, eq_self, i32_eq, or_true, true_or, and_true, true_and, or_false, false_or, and_false, false_and, not_true, not_false_iff, if_true, if_false, d1, hz', hy']
              · unfold f_X12_shift; rw [e2, bn2_e, if_neg (by decide), e4, bn2_e, if_neg (by decide)]; simp only [i2, j2]; 
                by_cases c5 : a5.toInt < 0
                · simp (disch := omega) only [Int32.lt_iff_toInt_lt, Int32.le_iff_toInt_le, t_n14, t_n13, t_n12, t_n11, t_n10, t_n5, t_n4, t_n3, t_n2, t_n1, t_0, t_1, t_2, t_3, t_4, t_5, t_6, t_7, t_8, t_9, t_10, t_11, t_12, t_13, t_14, t_15, t_16, t_17, t_18, t_19, t_20, t_21, t_22, t_23, t_24, t_25, t_26, t_27, t_28, t_29, t_30, t_31, t_32, t_33, t_34, t_37, t_38, t_39, t_40, t_41, t_44, t_48, t_50, t_51, t_52, t_57, t_59, t_60, t_61, t_62, t_66, t_98, t_99, t_100, t_101, t_102, t_103, t_104, t_105, t_106, t_107, t_108, t_109, t_110, t_111, t_112, t_113, t_114, t_115, t_116, t_121, t_124, t_150, t_200, t_399, t_999, t_2000, vq_i, if_pos, if_neg, bn2_e, bn1_e, lt1_e, asr_t, drf_e, asr_T, gI_sI, gL_sI, gR_sI, gI_sL, gL_sL, gR_sL, gI_sR, gL_sR, gR_sR, eq_self, i32_eq, or_true, true_or, and_true, true_and, or_false, false_or, and_false, false_and, not_true, not_false_iff, if_true, if_false, i1, j1]
                · have sz' := sz (by omega)
                  have sy' := sy (by omega)
                  by_cases c6 : a2.toInt < 0 <;> by_cases c7 : a4.toInt < 0 <;> by_cases c8 : z - a5.toInt < a2.toInt <;> simp (disch := omega) only [Int32.lt_iff_toInt_lt, Int32.le_iff_toInt_le, t_n14, t_n13, t_n12, t_n11, t_n10, t_n5, t_n4, t_n3, t_n2, t_n1, t_0, t_1, t_2, t_3, t_4, t_5, t_6, t_7, t_8, t_9, t_10, t_11, t_12, t_13, t_14, t_15, t_16, t_17, t_18, t_19, t_20, t_21, t_22, t_23, t_24, t_25, t_26, t_27, t_28, t_29, t_30, t_31, t_32, t_33, t_34, t_37, t_38, t_39, t_40, t_41, t_44, t_48, t_50, t_51, t_52, t_57, t_59, t_60, t_61, t_62, t_66, t_98, t_99, t_100, t_101, t_102, t_103, t_104, t_105, t_106, t_107, t_108, t_109, t_110, t_111, t_112, t_113, t_114, t_115, t_116, t_121, t_124, t_150, t_200, t_399, t_999, t_2000, vq_i, if_pos, if_neg, bn2_e, bn1_e, lt1_e, asr_t, drf_e, asr_T, gI_sI, gL_sI, gR_sI, gI_sL, gL_sL, gR_sL, gI_sR, gL_sR, gR_sR, eq_self, i32_eq, or_true, true_or, and_true, true_and, or_false, false_or, and_false, false_and, not_true, not_false_iff, if_true, if_false, i1, j1, z2, y2, sz', sy']
          · exact Sim.same h0 (-12) (by unfold f_X11_shift; rw [e1, bn2_e, e3, bn2_e, if_neg (Nat.succ_ne_zero t), if_neg (Nat.succ_ne_zero d), drf_e ht, t1]; simp (disch := omega) only [Int32.lt_iff_toInt_lt, Int32.le_iff_toInt_le, t_n14, t_n13, t_n12, t_n11, t_n10, t_n5, t_n4, t_n3, t_n2, t_n1, t_0, t_1, t_2, t_3, t_4, t_5, t_6, t_7, t_8, t_9, t_10, t_11, t_12, t_13, t_14, t_15, t_16, t_17, t_18, t_19, t_20, t_21, t_22, t_23, t_24, t_25, t_26, t_27, t_28, t_29, t_30, t_31, t_32, t_33, t_34, t_37, t_38, t_39, t_40, t_41, t_44, t_48, t_50, t_51, t_52, t_57, t_59, t_60, t_61, t_62, t_66, t_98, t_99, t_100, t_101, t_102, t_103, t_104, t_105, t_106, t_107, t_108, t_109, t_110, t_111, t_112, t_113, t_114, t_115, t_116, t_121, t_124, t_150, t_200, t_399, t_999, t_2000, vq_i, if_pos, if_neg, bn2_e, bn1_e, lt1_e, asr_t, drf_e, asr_T, gI_sI, gL_sI, gR_sI, gI_sL, gL_sL, gR_sL, gI_sR, gL_sR, gR_sR, eq_self, i32_eq, or_true, true_or, and_true, true_and, or_false, false_or, and_false, false_and, not_true, not_false_iff, if_true, if_false, d1]) (by unfold f_X12_shift; rw [e2, bn2_e, if_neg (by decide), e4, bn2_e, if_neg (by decide)]; simp only [i2, j2]; simp (disch := omega) only [Int32.lt_iff_toInt_lt, Int32.le_iff_toInt_le, t_n14, t_n13, t_n12, t_n11, t_n10, t_n5, t_n4, t_n3, t_n2, t_n1, t_0, t_1, t_2, t_3, t_4, t_5, t_6, t_7, t_8, t_9, t_10, t_11, t_12, t_13, t_14, t_15, t_16, t_17, t_18, t_19, t_20, t_21, t_22, t_23, t_24, t_25, t_26, t_27, t_28, t_29, t_30, t_31, t_32, t_33, t_34, t_37, t_38, t_39, t_40, t_41, t_44, t_48, t_50, t_51, t_52, t_57, t_59, t_60, t_61, t_62, t_66, t_98, t_99, t_100, t_101, t_102, t_103, t_104, t_105, t_106, t_107, t_108, t_109, t_110, t_111, t_112, t_113, t_114, t_115, t_116, t_121, t_124, t_150, t_200, t_399, t_999, t_2000, vq_i, if_pos, if_neg, bn2_e, bn1_e, lt1_e, asr_t, drf_e, asr_T, gI_sI, gL_sI, gR_sI, gI_sL, gL_sL, gR_sL, gI_sR, gL_sR, gR_sR, eq_self, i32_eq, or_true, true_or, and_true, true_and, or_false, false_or, and_false, false_and, not_true, not_false_iff, if_true, if_false, i1, j1])
