theorem ji2b_and (x : Int32) : ji2b (x &&& 255) = ji2b x := by
  unfold ji2b
  rw [Int32.toInt8_and, show (255 : Int32).toInt8 = -1 from rfl, Int8.and_neg_one]
theorem byte_rg (x : Int32) : rg (x &&& 255) 0 255 := by
  obtain ⟨j, h1, h2⟩ := pk_andE x (m := 255) 8 rfl
  rw [h2]
  have := nI_toInt (n := j) (by omega)
  exact ⟨by omega, by omega⟩
theorem feed_step {n : Nat} {mc mm : Mem} (h : RR n mc mm) {z : Nat} (hz : z < 100) (hs : gI mc 5 0 0 = nI z) (v : Int32) : RR n (sI (sI mc 16 0 z (v &&& 255)) 5 0 0 (nI z + 1)) (sI (sI mm 20 0 (1000 + z) (ji2b v)) 0 0 22 (nI z + 1)) := by
  obtain ⟨hT, hF, hL0, hL, hLc, hLg, hSb, hSs, hB, hP, hN, hG0, hG, hGd, hGw, hPw, hPa, hNa, hA, hTa, hR, ⟨y, y1, y2, y3, y4⟩, hW0, hW⟩ := h
  have e : y = z := by
    rw [y2] at hs
    exact (nI_eq (by omega) (by omega)).mp hs
  subst e
  have hW' : r_W (sI (sI mc 16 0 y (v &&& 255)) 5 0 0 (nI y + 1)) (sI (sI mm 20 0 (1000 + y) (ji2b v)) 0 0 22 (nI y + 1)) := by
    obtain ⟨z, z1, z2, z3⟩ := hW
    refine ⟨z, z1, z2, fun k hk => ?_⟩
    obtain ⟨U, m, cs, l1, l2, l3, l4, l5, l6⟩ := z3 k hk
    refine ⟨U, m, cs, l1, l2, l3, l4, fun j hj => ?_, l6⟩
    show gI (sI mm 20 0 (1000 + y) (ji2b v)) 20 0 (100 * k + j) = _
    rw [gI_sI, if_neg (fun q => by have := q.2.2; omega)]
    exact l5 j hj
  refine ⟨hT, hF, hL0, hL, hLc, hLg, hSb, hSs, hB, hP, hN, hG0, hG, hGd, hGw, hPw, hPa, hNa, hA, hTa, hR, ⟨y + 1, by omega, by simp [gI_sI, nI_1], by simp [gI_sI, nI_1], ?_⟩, hW0, hW'⟩
  intro k hk
  by_cases c : k = y
  · subst c
    simp [gI_sI, ji2b_and, byte_rg]
  · have := y4 k (by omega)
    simpa [gI_sI, c] using this
theorem feed_l {fl n : Nat} {a1 : Int32} : ∀ (k N z : Nat) (mc mm : Mem), RR n mc mm → gI mc 5 0 0 = nI z → z + k ≤ 100 → k < N → ∃ mc' mm', f_X11_feed_l33 fl a1 N (nI k - 1) mc = some mc' ∧ f_X12_feed_l31 fl a1 N (nI k - 1) mm = some mm' ∧ RR n mc' mm' := by
  intro k
  induction k with
  | zero =>
    intro N z mc mm h hz h1 h2
    obtain ⟨N, rfl⟩ := Nat.exists_eq_succ_of_ne_zero (show N ≠ 0 by omega)
    refine ⟨mc, mm, ?_, ?_, h⟩
    · unfold f_X11_feed_l33 f_X11_feed_l33_b
      exact if_pos (by decide)
    · unfold f_X12_feed_l31 f_X12_feed_l31_b
      exact if_pos (by decide)
  | succ k ih =>
    intro N z mc mm h hz h1 h2
    obtain ⟨N, rfl⟩ := Nat.exists_eq_succ_of_ne_zero (show N ≠ 0 by omega)
    have e := nI_toInt (n := k) (by omega)
    have e1 := nI_toInt (n := z) (by omega)
    have e2 := nI_clamp (n := z) (by omega)
    have e3 := nI_clamp (n := 1000 + z) (by omega)
    have e4 := nI_toInt (n := 1000 + z) (by omega)
    have hz2 : gI mm 0 0 22 = nI z := by
      obtain ⟨y, y1, y2, y3, y4⟩ := h.2.2.2.2.2.2.2.2.2.2.2.2.2.2.2.2.2.2.2.2.2.1
      rw [y3, ← y2, hz]
    have e9 : nI k + -1 = nI k - 1 := (Int32.sub_eq_add_neg _ _).symm
    have st := feed_step h (show z < 100 by omega) hz (jshr a1 (8 * nI k))
    obtain ⟨mc', mm', x1, x2, x3⟩ := ih N (z + 1) _ _ st (by simp [gI_sI, nI_1]) (by omega) (by omega)
    refine ⟨mc', mm', ?_, ?_, x3⟩
    · unfold f_X11_feed_l33 f_X11_feed_l33_b f_X7_append
      rw [nI_pred]
      simp (disch := omega) only [Int32.lt_iff_toInt_lt, Int32.le_iff_toInt_le, t_n14, t_n13, t_n12, t_n11, t_n10, t_n5, t_n4, t_n3, t_n2, t_n1, t_0, t_1, t_2, t_3, t_4, t_5, t_6, t_7, t_8, t_9, t_10, t_11, t_12, t_13, t_14, t_15, t_16, t_17, t_18, t_19, t_20, t_21, t_22, t_23, t_24, t_25, t_26, t_27, t_28, t_29, t_30, t_31, t_32, t_33, t_34, t_37, t_38, t_39, t_40, t_41, t_44, t_48, t_50, t_51, t_52, t_57, t_59, t_60, t_61, t_62, t_66, t_98, t_99, t_100, t_101, t_102, t_103, t_104, t_105, t_106, t_107, t_108, t_109, t_110, t_111, t_112, t_113, t_114, t_115, t_116, t_121, t_124, t_150, t_200, t_399, t_999, t_2000, vq_i, if_pos, if_neg, bn2_e, bn1_e, lt1_e, asr_t, drf_e, asr_T, gI_sI, gL_sI, gR_sI, gI_sL, gL_sL, gR_sL, gI_sR, gL_sR, gR_sR, eq_self, i32_eq, or_true, true_or, and_true, true_and, or_false, false_or, and_false, false_and, not_true, not_false_iff, if_true, if_false, e, hz, e1, e2, e9, x1]
    · unfold f_X12_feed_l31 f_X12_feed_l31_b
      rw [nI_pred]
      have hz3 : (1000 : Int32) + nI z = nI (1000 + z) := nI_add 1000 z
      simp (disch := omega) only [Int32.lt_iff_toInt_lt, Int32.le_iff_toInt_le, t_n14, t_n13, t_n12, t_n11, t_n10, t_n5, t_n4, t_n3, t_n2, t_n1, t_0, t_1, t_2, t_3, t_4, t_5, t_6, t_7, t_8, t_9, t_10, t_11, t_12, t_13, t_14, t_15, t_16, t_17, t_18, t_19, t_20, t_21, t_22, t_23, t_24, t_25, t_26, t_27, t_28, t_29, t_30, t_31, t_32, t_33, t_34, t_37, t_38, t_39, t_40, t_41, t_44, t_48, t_50, t_51, t_52, t_57, t_59, t_60, t_61, t_62, t_66, t_98, t_99, t_100, t_101, t_102, t_103, t_104, t_105, t_106, t_107, t_108, t_109, t_110, t_111, t_112, t_113, t_114, t_115, t_116, t_121, t_124, t_150, t_200, t_399, t_999, t_2000, vq_i, if_pos, if_neg, bn2_e, bn1_e, lt1_e, asr_t, drf_e, asr_T, gI_sI, gL_sI, gR_sI, gI_sL, gL_sL, gR_sL, gI_sR, gL_sR, gR_sR, eq_self, i32_eq, or_true, true_or, and_true, true_and, or_false, false_or, and_false, false_and, not_true, not_false_iff, if_true, if_false, e, hz2, hz3, e1, e2, e3, e4, e9, x2]
theorem sim_feed {fl n : Nat} (hfl : 1000 ≤ fl) {mc mm : Mem} (h : RR n mc mm) (a1 a2 : Int32) : Sim (n + 1) (f_X11_feed fl a1 a2 mc) (f_X12_feed fl a1 a2 mm) := by
  have h0 := h
  obtain ⟨y, y1, y2, y3, y4⟩ := h.2.2.2.2.2.2.2.2.2.2.2.2.2.2.2.2.2.2.2.2.2.1
  by_cases c : 0 ≤ a2.toInt ∧ a2.toInt ≤ 4
  · obtain ⟨k, hk, rfl⟩ : ∃ k : Nat, k < 5 ∧ a2 = nI k := by
      rcases inr (x := a2) 5 (by omega) with q | q
      · omega
      · exact q
    have e := nI_toInt (n := k) (by omega)
    have e1 := nI_toInt (n := y) (by omega)
    have e3 := nI_toInt (n := y + k) (by omega)
    have e4 : (100 - nI y).toInt = 100 - (y : Int) := by
      have := pk_sub_toInt (a := 100) (b := y) (by omega) (by omega)
      exact this
    by_cases d : y + k ≤ 100
    · obtain ⟨mc', mm', x1, x2, x3⟩ := feed_l (fl := fl) (a1 := a1) k fl y mc mm h y2 d (by omega)
      have hz : gI mc' 5 0 0 = gI mm' 0 0 22 := by
        obtain ⟨w, w1, w2, w3, w4⟩ := x3.2.2.2.2.2.2.2.2.2.2.2.2.2.2.2.2.2.2.2.2.2.1
        rw [w2, w3]
      refine ⟨gI mm' 0 0 22, mc', mm', ?_, ?_, x3.up⟩
      · unfold f_X11_feed
        simp (disch := omega) only [Int32.lt_iff_toInt_lt, Int32.le_iff_toInt_le, t_n14, t_n13, t_n12, t_n11, t_n10, t_n5, t_n4, t_n3, t_n2, t_n1, t_0, t_1, t_2, t_3, t_4, t_5, t_6, t_7, t_8, t_9, t_10, t_11, t_12, t_13, t_14, t_15, t_16, t_17, t_18, t_19, t_20, t_21, t_22, t_23, t_24, t_25, t_26, t_27, t_28, t_29, t_30, t_31, t_32, t_33, t_34, t_37, t_38, t_39, t_40, t_41, t_44, t_48, t_50, t_51, t_52, t_57, t_59, t_60, t_61, t_62, t_66, t_98, t_99, t_100, t_101, t_102, t_103, t_104, t_105, t_106, t_107, t_108, t_109, t_110, t_111, t_112, t_113, t_114, t_115, t_116, t_121, t_124, t_150, t_200, t_399, t_999, t_2000, vq_i, if_pos, if_neg, bn2_e, bn1_e, lt1_e, asr_t, drf_e, asr_T, gI_sI, gL_sI, gR_sI, gI_sL, gL_sL, gR_sL, gI_sR, gL_sR, gR_sR, eq_self, i32_eq, or_true, true_or, and_true, true_and, or_false, false_or, and_false, false_and, not_true, not_false_iff, if_true, if_false, y2, e, e4, x1, hz]
      · unfold f_X12_feed
        simp (disch := omega) only [Int32.lt_iff_toInt_lt, Int32.le_iff_toInt_le, t_n14, t_n13, t_n12, t_n11, t_n10, t_n5, t_n4, t_n3, t_n2, t_n1, t_0, t_1, t_2, t_3, t_4, t_5, t_6, t_7, t_8, t_9, t_10, t_11, t_12, t_13, t_14, t_15, t_16, t_17, t_18, t_19, t_20, t_21, t_22, t_23, t_24, t_25, t_26, t_27, t_28, t_29, t_30, t_31, t_32, t_33, t_34, t_37, t_38, t_39, t_40, t_41, t_44, t_48, t_50, t_51, t_52, t_57, t_59, t_60, t_61, t_62, t_66, t_98, t_99, t_100, t_101, t_102, t_103, t_104, t_105, t_106, t_107, t_108, t_109, t_110, t_111, t_112, t_113, t_114, t_115, t_116, t_121, t_124, t_150, t_200, t_399, t_999, t_2000, vq_i, if_pos, if_neg, bn2_e, bn1_e, lt1_e, asr_t, drf_e, asr_T, gI_sI, gL_sI, gR_sI, gI_sL, gL_sL, gR_sL, gI_sR, gL_sR, gR_sR, eq_self, i32_eq, or_true, true_or, and_true, true_and, or_false, false_or, and_false, false_and, not_true, not_false_iff, if_true, if_false, in_12, y3, nI_add, e, e3, x2]
    · refine Sim.same h0 (-4) ?_ ?_
      · unfold f_X11_feed
        simp (disch := omega) only [Int32.lt_iff_toInt_lt, Int32.le_iff_toInt_le, t_n14, t_n13, t_n12, t_n11, t_n10, t_n5, t_n4, t_n3, t_n2, t_n1, t_0, t_1, t_2, t_3, t_4, t_5, t_6, t_7, t_8, t_9, t_10, t_11, t_12, t_13, t_14, t_15, t_16, t_17, t_18, t_19, t_20, t_21, t_22, t_23, t_24, t_25, t_26, t_27, t_28, t_29, t_30, t_31, t_32, t_33, t_34, t_37, t_38, t_39, t_40, t_41, t_44, t_48, t_50, t_51, t_52, t_57, t_59, t_60, t_61, t_62, t_66, t_98, t_99, t_100, t_101, t_102, t_103, t_104, t_105, t_106, t_107, t_108, t_109, t_110, t_111, t_112, t_113, t_114, t_115, t_116, t_121, t_124, t_150, t_200, t_399, t_999, t_2000, vq_i, if_pos, if_neg, bn2_e, bn1_e, lt1_e, asr_t, drf_e, asr_T, gI_sI, gL_sI, gR_sI, gI_sL, gL_sL, gR_sL, gI_sR, gL_sR, gR_sR, eq_self, i32_eq, or_true, true_or, and_true, true_and, or_false, false_or, and_false, false_and, not_true, not_false_iff, if_true, if_false, y2, e, e4]
      · unfold f_X12_feed
        simp (disch := omega) only [Int32.lt_iff_toInt_lt, Int32.le_iff_toInt_le, t_n14, t_n13, t_n12, t_n11, t_n10, t_n5, t_n4, t_n3, t_n2, t_n1, t_0, t_1, t_2, t_3, t_4, t_5, t_6, t_7, t_8, t_9, t_10, t_11, t_12, t_13, t_14, t_15, t_16, t_17, t_18, t_19, t_20, t_21, t_22, t_23, t_24, t_25, t_26, t_27, t_28, t_29, t_30, t_31, t_32, t_33, t_34, t_37, t_38, t_39, t_40, t_41, t_44, t_48, t_50, t_51, t_52, t_57, t_59, t_60, t_61, t_62, t_66, t_98, t_99, t_100, t_101, t_102, t_103, t_104, t_105, t_106, t_107, t_108, t_109, t_110, t_111, t_112, t_113, t_114, t_115, t_116, t_121, t_124, t_150, t_200, t_399, t_999, t_2000, vq_i, if_pos, if_neg, bn2_e, bn1_e, lt1_e, asr_t, drf_e, asr_T, gI_sI, gL_sI, gR_sI, gI_sL, gL_sL, gR_sL, gI_sR, gL_sR, gR_sR, eq_self, i32_eq, or_true, true_or, and_true, true_and, or_false, false_or, and_false, false_and, not_true, not_false_iff, if_true, if_false, in_12, y3, nI_add, e, e3]
  · refine Sim.same h0 (-2) ?_ (by unfold f_X12_feed; simp (disch := omega) only [Int32.lt_iff_toInt_lt, Int32.le_iff_toInt_le, t_n14, t_n13, t_n12, t_n11, t_n10, t_n5, t_n4, t_n3, t_n2, t_n1, t_0, t_1, t_2, t_3, t_4, t_5, t_6, t_7, t_8, t_9, t_10, t_11, t_12, t_13, t_14, t_15, t_16, t_17, t_18, t_19, t_20, t_21, t_22, t_23, t_24, t_25, t_26, t_27, t_28, t_29, t_30, t_31, t_32, t_33, t_34, t_37, t_38, t_39, t_40, t_41, t_44, t_48, t_50, t_51, t_52, t_57, t_59, t_60, t_61, t_62, t_66, t_98, t_99, t_100, t_101, t_102, t_103, t_104, t_105, t_106, t_107, t_108, t_109, t_110, t_111, t_112, t_113, t_114, t_115, t_116, t_121, t_124, t_150, t_200, t_399, t_999, t_2000, vq_i, if_pos, if_neg, bn2_e, bn1_e, lt1_e, asr_t, drf_e, asr_T, gI_sI, gL_sI, gR_sI, gI_sL, gL_sL, gR_sL, gI_sR, gL_sR, gR_sR, eq_self, i32_eq, or_true, true_or, and_true, true_and, or_false, false_or, and_false, false_and, not_true, not_false_iff, if_true, if_false, in_12])
    unfold f_X11_feed
    by_cases d : a2.toInt < 0 <;> simp (disch := omega) only [Int32.lt_iff_toInt_lt, Int32.le_iff_toInt_le, t_n14, t_n13, t_n12, t_n11, t_n10, t_n5, t_n4, t_n3, t_n2, t_n1, t_0, t_1, t_2, t_3, t_4, t_5, t_6, t_7, t_8, t_9, t_10, t_11, t_12, t_13, t_14, t_15, t_16, t_17, t_18, t_19, t_20, t_21, t_22, t_23, t_24, t_25, t_26, t_27, t_28, t_29, t_30, t_31, t_32, t_33, t_34, t_37, t_38, t_39, t_40, t_41, t_44, t_48, t_50, t_51, t_52, t_57, t_59, t_60, t_61, t_62, t_66, t_98, t_99, t_100, t_101, t_102, t_103, t_104, t_105, t_106, t_107, t_108, t_109, t_110, t_111, t_112, t_113, t_114, t_115, t_116, t_121, t_124, t_150, t_200, t_399, t_999, t_2000, vq_i, if_pos, if_neg, bn2_e, bn1_e, lt1_e, asr_t, drf_e, asr_T, gI_sI, gL_sI, gR_sI, gI_sL, gL_sL, gR_sL, gI_sR, gL_sR, gR_sR, eq_self, i32_eq, or_true, true_or, and_true, true_and, or_false, false_or, and_false, false_and, not_true, not_false_iff, if_true, if_false]
