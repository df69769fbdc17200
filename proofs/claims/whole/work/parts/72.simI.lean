def PR (mc : Mem) : Prop := gR mc 997 23 (gR mc 999 23 0) = gR mc 998 0 0 ∧ gR mc 997 24 (gR mc 999 24 0) = gR mc 998 0 0
theorem sumI_cut {f : Nat → Int32} {k N : Nat} (h : k ≤ N) : sumI (fun j => if j < k then f j else 0) N = sumI f k := by
  induction N with
  | zero =>
    have : k = 0 := by omega
    subst this; rfl
  | succ N ih =>
    show sumI _ N + _ = _
    by_cases e : k = N + 1
    · subst e
      simp only [Nat.lt_succ_self, if_true]
      show _ = sumI f N + f N
      rw [sumI_congr (g := f) (fun j hj => by simp [Nat.lt_succ_of_lt hj])]
    · rw [ih (by omega)]
      simp only [show ¬ N < k by omega, if_false]
      grind
theorem sim_order {fl n : Nat} {mc mm : Mem} (h : RR n mc mm) (hp : PR mc) (a1 a2 a3 a4 : Int32) : Sim (n + 1) (f_X11_order fl a1 a2 a3 a4 mc) (f_X12_order fl a1 a2 a3 a4 mm) := by
  have h0 := h
  obtain ⟨⟨t1, t2⟩, hF, ⟨z0, z1, z2, z3⟩, hL, hLc, hLg, hSb, hSs, hB, hP, hN, hG0, hG, hGd, hGw, hPw, hPa, hNa, hA, hTa, hR, hS, hW0, hW⟩ := h
  by_cases c : (0 ≤ a1.toInt ∧ a1.toInt ≤ 6) ∧ (0 ≤ a2.toInt ∧ a2.toInt ≤ 7)
  · by_cases d : (1 ≤ a3.toInt ∧ a3.toInt ≤ 999) ∧ (0 ≤ a4.toInt ∧ a4.toInt ≤ 999)
    · have i1 := nI_toInt (n := nl mc) (by omega)
      have i2 := nI_clamp (n := nl mc) (by omega)
      by_cases e : nl mc = 60
      · exact Sim.same h0 (-4) (by unfold f_X11_order; simp (disch := omega) only [Int32.lt_iff_toInt_lt, Int32.le_iff_toInt_le, t_n14, t_n13, t_n12, t_n11, t_n10, t_n5, t_n4, t_n3, t_n2, t_n1, t_0, t_1, t_2, t_3, t_4, t_5, t_6, t_7, t_8, t_9, t_10, t_11, t_12, t_13, t_14, t_15, t_16, t_17, t_18, t_19, t_20, t_21, t_22, t_23, t_24, t_25, t_26, t_27, t_28, t_29, t_30, t_31, t_32, t_33, t_34, t_37, t_38, t_39, t_40, t_41, t_44, t_48, t_50, t_51, t_52, t_57, t_59, t_60, t_61, t_62, t_66, t_98, t_99, t_100, t_101, t_102, t_103, t_104, t_105, t_106, t_107, t_108, t_109, t_110, t_111, t_112, t_113, t_114, t_115, t_116, t_121, t_124, t_150, t_200, t_399, t_999, t_2000, vq_i, if_pos, if_neg, bn2_e, bn1_e, lt1_e, asr_t, drf_e, asr_T, gI_sI, gL_sI, gR_sI, gI_sL, gL_sL, gR_sL, gI_sR, gL_sR, gR_sR, eq_self, i32_eq, or_true, true_or, and_true, true_and, or_false, false_or, and_false, false_and, not_true, not_false_iff, if_true, if_false, isKind_11, isFoundry_11, isNumberOfPieces_11, z1, i1]) (by unfold f_X12_order; simp (disch := omega) only [Int32.lt_iff_toInt_lt, Int32.le_iff_toInt_le, t_n14, t_n13, t_n12, t_n11, t_n10, t_n5, t_n4, t_n3, t_n2, t_n1, t_0, t_1, t_2, t_3, t_4, t_5, t_6, t_7, t_8, t_9, t_10, t_11, t_12, t_13, t_14, t_15, t_16, t_17, t_18, t_19, t_20, t_21, t_22, t_23, t_24, t_25, t_26, t_27, t_28, t_29, t_30, t_31, t_32, t_33, t_34, t_37, t_38, t_39, t_40, t_41, t_44, t_48, t_50, t_51, t_52, t_57, t_59, t_60, t_61, t_62, t_66, t_98, t_99, t_100, t_101, t_102, t_103, t_104, t_105, t_106, t_107, t_108, t_109, t_110, t_111, t_112, t_113, t_114, t_115, t_116, t_121, t_124, t_150, t_200, t_399, t_999, t_2000, vq_i, if_pos, if_neg, bn2_e, bn1_e, lt1_e, asr_t, drf_e, asr_T, gI_sI, gL_sI, gR_sI, gI_sL, gL_sL, gR_sL, gI_sR, gL_sR, gR_sR, eq_self, i32_eq, or_true, true_or, and_true, true_and, or_false, false_or, and_false, false_and, not_true, not_false_iff, if_true, if_false, isFoundry_12, in_12, z2, i1])
      · have hp1 : gR mc 997 23 (gR mc 999 23 0) = gR mc 998 0 0 := hp.1
        have y1 : gI (sN mc 23) 0 0 4 = nI (nl mc) := z1
        have y2 : gI (sN mc 23) 0 0 0 = gI mm 0 0 0 := t1
        refine ⟨nI (nl mc) + 1 - 1, sI (sR (sI (sI (sI (sI (sI (sI (sI (sI (sN mc 23) 23 (nl mc) 6 (-5)) 23 (nl mc) 7 (-5)) 23 (nl mc) 0 (nI (nl mc))) 23 (nl mc) 1 a1) 23 (nl mc) 2 a2) 23 (nl mc) 3 a3) 23 (nl mc) 4 a4) 23 (nl mc) 5 (gI mm 0 0 0)) 3 0 (nl mc) (nl mc + 1)) 0 0 4 (nI (nl mc) + 1),
          sI (sI (sI (sI (sI (sI (sI (sI mm 5 0 (nl mc) a1) 6 0 (nl mc) a2) 7 0 (nl mc) a3) 8 0 (nl mc) a4) 9 0 (nl mc) (gI mm 0 0 0)) 10 0 (nl mc) (-1)) 11 0 (nl mc) (-1)) 0 0 1 (nI (nl mc) + 1), ?_, ?_, ?_⟩
        · unfold f_X11_order f_X4_init
          simp (disch := omega) only [Int32.lt_iff_toInt_lt, Int32.le_iff_toInt_le, t_n14, t_n13, t_n12, t_n11, t_n10, t_n5, t_n4, t_n3, t_n2, t_n1, t_0, t_1, t_2, t_3, t_4, t_5, t_6, t_7, t_8, t_9, t_10, t_11, t_12, t_13, t_14, t_15, t_16, t_17, t_18, t_19, t_20, t_21, t_22, t_23, t_24, t_25, t_26, t_27, t_28, t_29, t_30, t_31, t_32, t_33, t_34, t_37, t_38, t_39, t_40, t_41, t_44, t_48, t_50, t_51, t_52, t_57, t_59, t_60, t_61, t_62, t_66, t_98, t_99, t_100, t_101, t_102, t_103, t_104, t_105, t_106, t_107, t_108, t_109, t_110, t_111, t_112, t_113, t_114, t_115, t_116, t_121, t_124, t_150, t_200, t_399, t_999, t_2000, vq_i, if_pos, if_neg, bn2_e, bn1_e, lt1_e, asr_t, drf_e, asr_T, gI_sI, gL_sI, gR_sI, gI_sL, gL_sL, gR_sL, gI_sR, gL_sR, gR_sR, eq_self, i32_eq, or_true, true_or, and_true, true_and, or_false, false_or, and_false, false_and, not_true, not_false_iff, if_true, if_false, isKind_11, isFoundry_11, isNumberOfPieces_11, z1, i1, i2, hp1, y1, y2]
          rw [asr_t (by simp [gR_sN])]
          rfl
        · unfold f_X12_order; simp (disch := omega) only [Int32.lt_iff_toInt_lt, Int32.le_iff_toInt_le, t_n14, t_n13, t_n12, t_n11, t_n10, t_n5, t_n4, t_n3, t_n2, t_n1, t_0, t_1, t_2, t_3, t_4, t_5, t_6, t_7, t_8, t_9, t_10, t_11, t_12, t_13, t_14, t_15, t_16, t_17, t_18, t_19, t_20, t_21, t_22, t_23, t_24, t_25, t_26, t_27, t_28, t_29, t_30, t_31, t_32, t_33, t_34, t_37, t_38, t_39, t_40, t_41, t_44, t_48, t_50, t_51, t_52, t_57, t_59, t_60, t_61, t_62, t_66, t_98, t_99, t_100, t_101, t_102, t_103, t_104, t_105, t_106, t_107, t_108, t_109, t_110, t_111, t_112, t_113, t_114, t_115, t_116, t_121, t_124, t_150, t_200, t_399, t_999, t_2000, vq_i, if_pos, if_neg, bn2_e, bn1_e, lt1_e, asr_t, drf_e, asr_T, gI_sI, gL_sI, gR_sI, gI_sL, gL_sL, gR_sL, gI_sR, gL_sR, gR_sR, eq_self, i32_eq, or_true, true_or, and_true, true_and, or_false, false_or, and_false, false_and, not_true, not_false_iff, if_true, if_false, isFoundry_12, in_12, z2, i1, i2]
        · have nl' : nl (sI (sR (sI (sI (sI (sI (sI (sI (sI (sI (sN mc 23) 23 (nl mc) 6 (-5)) 23 (nl mc) 7 (-5)) 23 (nl mc) 0 (nI (nl mc))) 23 (nl mc) 1 a1) 23 (nl mc) 2 a2) 23 (nl mc) 3 a3) 23 (nl mc) 4 a4) 23 (nl mc) 5 (gI mm 0 0 0)) 3 0 (nl mc) (nl mc + 1)) 0 0 4 (nI (nl mc) + 1)) = nl mc + 1 := by
            simp [nl, gR_sI, gR_sR, gR_sN]
          have ngh : gR mc 999 23 0 = nl mc := rfl
          refine ⟨⟨by simpa [gI_sI, gI_sR, gI_sN] using t1, by simpa [gI_sI] using t2⟩, hF, ⟨by rw [nl']; omega, by rw [nl']; simp [gI_sI, nI_1], by rw [nl']; simp [gI_sI, nI_1], ?_⟩, ?_, ?_, ?_, ?_, ?_, hB, ?_, ?_, hG0, hG, hGd.up, hGw, hPw, hPa, hNa, hA, hTa, hR, hS, hW0, hW⟩
          · intro g hg
            rw [nl']
            have := z3 g hg
            by_cases q : g = nl mc
            · simp [gR_sI, gR_sR, q]
            · simp [gR_sI, gR_sR, gR_sN, q, this]
              by_cases q2 : g < nl mc
              · simp [q2, show g < nl mc + 1 by omega]
              · simp [q2, show ¬ g < nl mc + 1 by omega]
          · intro g hg
            rw [nl'] at hg
            by_cases q : g = nl mc
            · subst q
              simp [gI_sI, gI_sR, rg]
              have := rg_i t2
              omega
            · have := hL g (by omega)
              simpa [gI_sI, gI_sR, gI_sN, ngh, q] using this
          · intro g hg
            rw [nl'] at hg
            by_cases q : g = nl mc
            · subst q
              exact Or.inl ⟨by simp [gI_sI, gI_sR], by simp [gI_sI]⟩
            · have := hLc g (by omega)
              simpa [gI_sI, gI_sR, gI_sN, ngh, q] using this
          · intro g hg
            rw [nl']
            obtain ⟨q1, q2, q3, q5⟩ := hLg.up g hg
            by_cases q : g = nl mc
            · subst q
              obtain ⟨q6, q7, q8⟩ := q5 (Nat.le_refl _)
              rw [q6, q7, q8] at q1
              rw [q7] at q2 q3
              simp [gI_sI, gI_sR, gI_sN, ngh, q1, q3]
              have q2b := q2.2
              exact ⟨by decide, by omega⟩
            · refine ⟨by simpa [gI_sI, gI_sR, gI_sN, ngh, q] using q1, by simpa [gI_sI, gI_sR, gI_sN, ngh, q] using q2, by simpa [gI_sI, gI_sR, gI_sN, ngh, q] using q3, fun q9 => ?_⟩
              simpa [gI_sI, gI_sR, gI_sN, ngh, q] using q5 (by omega)
          · have e1 : sumI (fun l => gI (sN mc 23) 23 l 9) 60 = sumI (fun l => gI mc 23 l 9) 60 := sumI_congr (fun j hj => by
              rw [gI_sN]
              by_cases q : j = nl mc
              · rw [if_pos ⟨rfl, q⟩]; exact ((hLg j hj).2.2.2 (by omega)).2.1.symm
              · rw [if_neg (fun q2 => q q2.2)])
            have e2 : gI mm 0 0 15 = _ := hSb
            rw [← e1] at e2
            simpa [r_Sb, gI_sI, gI_sR] using e2
          · have e1 : sumI (fun l => gI (sN mc 23) 23 l 8) 60 = sumI (fun l => gI mc 23 l 8) 60 := sumI_congr (fun j hj => by
              rw [gI_sN]
              by_cases q : j = nl mc
              · rw [if_pos ⟨rfl, q⟩]; exact ((hLg j hj).2.2.2 (by omega)).1.symm
              · rw [if_neg (fun q2 => q q2.2)])
            have e2 : sumI (fun l => gI mc 23 l 8) 60 = _ := hSs
            rw [← e1] at e2
            simpa [r_Ss, gI_sI, gI_sR] using e2
          · intro b hb
            obtain ⟨q1, q2, q3, q4⟩ := hP b hb
            refine ⟨⟨q1.1, fun k => by rw [nl']; exact Nat.le_succ_of_le (q1.2 k)⟩, q2, q3, fun p hp hp0 hp3 => ?_⟩
            obtain ⟨q5, q6, q7⟩ := q4 p hp hp0 hp3
            refine ⟨q5, by rw [nl']; exact Nat.le_succ_of_le q6, fun l hl => ?_⟩
            have q8 := q7 l hl
            have q9 : l ≠ nl mc := by
              have : gR mc 14 b p = l + 1 := hl
              omega
            simpa [gI_sI, q9] using q8
          · intro b hb
            obtain ⟨np, q1, q2, q3, q4⟩ := hN b hb
            refine ⟨np, q1, q2, q3, fun k hk => ?_⟩
            obtain ⟨l, q5, q6, q7, q8⟩ := q4 k hk
            refine ⟨l, by rw [nl']; omega, q6, q7, ?_⟩
            simpa [gI_sI, show l ≠ nl mc by omega] using q8
    · refine Sim.same h0 (-2) ?_ ?_
      · unfold f_X11_order
        by_cases c1 : 1 ≤ a3.toInt ∧ a3.toInt ≤ 999 <;> by_cases c2 : a4.toInt < 0 <;> simp (disch := omega) only [Int32.lt_iff_toInt_lt, Int32.le_iff_toInt_le, t_n14, t_n13, t_n12, t_n11, t_n10, t_n5, t_n4, t_n3, t_n2, t_n1, t_0, t_1, t_2, t_3, t_4, t_5, t_6, t_7, t_8, t_9, t_10, t_11, t_12, t_13, t_14, t_15, t_16, t_17, t_18, t_19, t_20, t_21, t_22, t_23, t_24, t_25, t_26, t_27, t_28, t_29, t_30, t_31, t_32, t_33, t_34, t_37, t_38, t_39, t_40, t_41, t_44, t_48, t_50, t_51, t_52, t_57, t_59, t_60, t_61, t_62, t_66, t_98, t_99, t_100, t_101, t_102, t_103, t_104, t_105, t_106, t_107, t_108, t_109, t_110, t_111, t_112, t_113, t_114, t_115, t_116, t_121, t_124, t_150, t_200, t_399, t_999, t_2000, vq_i, if_pos, if_neg, bn2_e, bn1_e, lt1_e, asr_t, drf_e, asr_T, gI_sI, gL_sI, gR_sI, gI_sL, gL_sL, gR_sL, gI_sR, gL_sR, gR_sR, eq_self, i32_eq, or_true, true_or, and_true, true_and, or_false, false_or, and_false, false_and, not_true, not_false_iff, if_true, if_false, isKind_11, isFoundry_11, isNumberOfPieces_11]
      · unfold f_X12_order
        by_cases c1 : 1 ≤ a3.toInt ∧ a3.toInt ≤ 999 <;> simp (disch := omega) only [Int32.lt_iff_toInt_lt, Int32.le_iff_toInt_le, t_n14, t_n13, t_n12, t_n11, t_n10, t_n5, t_n4, t_n3, t_n2, t_n1, t_0, t_1, t_2, t_3, t_4, t_5, t_6, t_7, t_8, t_9, t_10, t_11, t_12, t_13, t_14, t_15, t_16, t_17, t_18, t_19, t_20, t_21, t_22, t_23, t_24, t_25, t_26, t_27, t_28, t_29, t_30, t_31, t_32, t_33, t_34, t_37, t_38, t_39, t_40, t_41, t_44, t_48, t_50, t_51, t_52, t_57, t_59, t_60, t_61, t_62, t_66, t_98, t_99, t_100, t_101, t_102, t_103, t_104, t_105, t_106, t_107, t_108, t_109, t_110, t_111, t_112, t_113, t_114, t_115, t_116, t_121, t_124, t_150, t_200, t_399, t_999, t_2000, vq_i, if_pos, if_neg, bn2_e, bn1_e, lt1_e, asr_t, drf_e, asr_T, gI_sI, gL_sI, gR_sI, gI_sL, gL_sL, gR_sL, gI_sR, gL_sR, gR_sR, eq_self, i32_eq, or_true, true_or, and_true, true_and, or_false, false_or, and_false, false_and, not_true, not_false_iff, if_true, if_false, isFoundry_12, in_12]
  · refine Sim.same h0 (-1) ?_ ?_
    · unfold f_X11_order
      by_cases c1 : 0 ≤ a1.toInt ∧ a1.toInt ≤ 6 <;> simp (disch := omega) only [Int32.lt_iff_toInt_lt, Int32.le_iff_toInt_le, t_n14, t_n13, t_n12, t_n11, t_n10, t_n5, t_n4, t_n3, t_n2, t_n1, t_0, t_1, t_2, t_3, t_4, t_5, t_6, t_7, t_8, t_9, t_10, t_11, t_12, t_13, t_14, t_15, t_16, t_17, t_18, t_19, t_20, t_21, t_22, t_23, t_24, t_25, t_26, t_27, t_28, t_29, t_30, t_31, t_32, t_33, t_34, t_37, t_38, t_39, t_40, t_41, t_44, t_48, t_50, t_51, t_52, t_57, t_59, t_60, t_61, t_62, t_66, t_98, t_99, t_100, t_101, t_102, t_103, t_104, t_105, t_106, t_107, t_108, t_109, t_110, t_111, t_112, t_113, t_114, t_115, t_116, t_121, t_124, t_150, t_200, t_399, t_999, t_2000, vq_i, if_pos, if_neg, bn2_e, bn1_e, lt1_e, asr_t, drf_e, asr_T, gI_sI, gL_sI, gR_sI, gI_sL, gL_sL, gR_sL, gI_sR, gL_sR, gR_sR, eq_self, i32_eq, or_true, true_or, and_true, true_and, or_false, false_or, and_false, false_and, not_true, not_false_iff, if_true, if_false, isKind_11, isFoundry_11]
    · unfold f_X12_order
      by_cases c1 : 0 ≤ a1.toInt ∧ a1.toInt ≤ 6 <;> simp (disch := omega) only [Int32.lt_iff_toInt_lt, Int32.le_iff_toInt_le, t_n14, t_n13, t_n12, t_n11, t_n10, t_n5, t_n4, t_n3, t_n2, t_n1, t_0, t_1, t_2, t_3, t_4, t_5, t_6, t_7, t_8, t_9, t_10, t_11, t_12, t_13, t_14, t_15, t_16, t_17, t_18, t_19, t_20, t_21, t_22, t_23, t_24, t_25, t_26, t_27, t_28, t_29, t_30, t_31, t_32, t_33, t_34, t_37, t_38, t_39, t_40, t_41, t_44, t_48, t_50, t_51, t_52, t_57, t_59, t_60, t_61, t_62, t_66, t_98, t_99, t_100, t_101, t_102, t_103, t_104, t_105, t_106, t_107, t_108, t_109, t_110, t_111, t_112, t_113, t_114, t_115, t_116, t_121, t_124, t_150, t_200, t_399, t_999, t_2000, vq_i, if_pos, if_neg, bn2_e, bn1_e, lt1_e, asr_t, drf_e, asr_T, gI_sI, gL_sI, gR_sI, gI_sL, gL_sL, gR_sL, gI_sR, gL_sR, gR_sR, eq_self, i32_eq, or_true, true_or, and_true, true_and, or_false, false_or, and_false, false_and, not_true, not_false_iff, if_true, if_false, isFoundry_12, in_12]
theorem sim_taken {fl n : Nat} {mc mm : Mem} (h : RR n mc mm) (a1 a2 : Int32) : Sim (n + 1) (f_X11_taken fl a1 a2 mc) (f_X12_taken fl a1 a2 mm) := by
  have h0 := h
  obtain ⟨hT, hF, hL0, hL, hr⟩ := h
  by_cases c : 0 ≤ a2.toInt ∧ a2.toInt ≤ 6
  · rcases lot_cases hL0 a1 fl with ⟨e1, e2⟩ | ⟨l, hl, h60, rfl, i1, i2, e1, e2⟩
    · exact Sim.same h0 (-11) (by unfold f_X11_taken; simp (disch := omega) only [Int32.lt_iff_toInt_lt, Int32.le_iff_toInt_le, t_n14, t_n13, t_n12, t_n11, t_n10, t_n5, t_n4, t_n3, t_n2, t_n1, t_0, t_1, t_2, t_3, t_4, t_5, t_6, t_7, t_8, t_9, t_10, t_11, t_12, t_13, t_14, t_15, t_16, t_17, t_18, t_19, t_20, t_21, t_22, t_23, t_24, t_25, t_26, t_27, t_28, t_29, t_30, t_31, t_32, t_33, t_34, t_37, t_38, t_39, t_40, t_41, t_44, t_48, t_50, t_51, t_52, t_57, t_59, t_60, t_61, t_62, t_66, t_98, t_99, t_100, t_101, t_102, t_103, t_104, t_105, t_106, t_107, t_108, t_109, t_110, t_111, t_112, t_113, t_114, t_115, t_116, t_121, t_124, t_150, t_200, t_399, t_999, t_2000, vq_i, if_pos, if_neg, bn2_e, bn1_e, lt1_e, asr_t, drf_e, asr_T, gI_sI, gL_sI, gR_sI, gI_sL, gL_sL, gR_sL, gI_sR, gL_sR, gR_sR, eq_self, i32_eq, or_true, true_or, and_true, true_and, or_false, false_or, and_false, false_and, not_true, not_false_iff, if_true, if_false, isKind_11, e1]) (by unfold f_X12_taken; simp (disch := omega) only [Int32.lt_iff_toInt_lt, Int32.le_iff_toInt_le, t_n14, t_n13, t_n12, t_n11, t_n10, t_n5, t_n4, t_n3, t_n2, t_n1, t_0, t_1, t_2, t_3, t_4, t_5, t_6, t_7, t_8, t_9, t_10, t_11, t_12, t_13, t_14, t_15, t_16, t_17, t_18, t_19, t_20, t_21, t_22, t_23, t_24, t_25, t_26, t_27, t_28, t_29, t_30, t_31, t_32, t_33, t_34, t_37, t_38, t_39, t_40, t_41, t_44, t_48, t_50, t_51, t_52, t_57, t_59, t_60, t_61, t_62, t_66, t_98, t_99, t_100, t_101, t_102, t_103, t_104, t_105, t_106, t_107, t_108, t_109, t_110, t_111, t_112, t_113, t_114, t_115, t_116, t_121, t_124, t_150, t_200, t_399, t_999, t_2000, vq_i, if_pos, if_neg, bn2_e, bn1_e, lt1_e, asr_t, drf_e, asr_T, gI_sI, gL_sI, gR_sI, gI_sL, gL_sL, gR_sL, gI_sR, gL_sR, gR_sR, eq_self, i32_eq, or_true, true_or, and_true, true_and, or_false, false_or, and_false, false_and, not_true, not_false_iff, if_true, if_false, in_12, e2])
    · have hl' : l < gR mc 999 23 0 := hl
      obtain ⟨l0, l1, -⟩ := hL l hl
      by_cases d : a2.toInt = 0 ∨ (gI mm 5 0 l).toInt = a2.toInt ∨ (a2.toInt = 1 ∧ (gI mm 5 0 l).toInt = 6)
      · refine Sim.same h0 (gI mm 5 0 l) ?_ ?_
        · unfold f_X11_taken f_X4_isUnder
          by_cases d1 : (gI mm 5 0 l).toInt = a2.toInt <;> by_cases d2 : a2.toInt = 0 <;> simp (disch := omega) only [Int32.lt_iff_toInt_lt, Int32.le_iff_toInt_le, t_n14, t_n13, t_n12, t_n11, t_n10, t_n5, t_n4, t_n3, t_n2, t_n1, t_0, t_1, t_2, t_3, t_4, t_5, t_6, t_7, t_8, t_9, t_10, t_11, t_12, t_13, t_14, t_15, t_16, t_17, t_18, t_19, t_20, t_21, t_22, t_23, t_24, t_25, t_26, t_27, t_28, t_29, t_30, t_31, t_32, t_33, t_34, t_37, t_38, t_39, t_40, t_41, t_44, t_48, t_50, t_51, t_52, t_57, t_59, t_60, t_61, t_62, t_66, t_98, t_99, t_100, t_101, t_102, t_103, t_104, t_105, t_106, t_107, t_108, t_109, t_110, t_111, t_112, t_113, t_114, t_115, t_116, t_121, t_124, t_150, t_200, t_399, t_999, t_2000, vq_i, if_pos, if_neg, bn2_e, bn1_e, lt1_e, asr_t, drf_e, asr_T, gI_sI, gL_sI, gR_sI, gI_sL, gL_sL, gR_sL, gI_sR, gL_sR, gR_sR, eq_self, i32_eq, or_true, true_or, and_true, true_and, or_false, false_or, and_false, false_and, not_true, not_false_iff, if_true, if_false, isKind_11, e1, l1]
        · unfold f_X12_taken
          by_cases d1 : (gI mm 5 0 l).toInt = a2.toInt <;> by_cases d2 : a2.toInt = 0 <;> simp (disch := omega) only [Int32.lt_iff_toInt_lt, Int32.le_iff_toInt_le, t_n14, t_n13, t_n12, t_n11, t_n10, t_n5, t_n4, t_n3, t_n2, t_n1, t_0, t_1, t_2, t_3, t_4, t_5, t_6, t_7, t_8, t_9, t_10, t_11, t_12, t_13, t_14, t_15, t_16, t_17, t_18, t_19, t_20, t_21, t_22, t_23, t_24, t_25, t_26, t_27, t_28, t_29, t_30, t_31, t_32, t_33, t_34, t_37, t_38, t_39, t_40, t_41, t_44, t_48, t_50, t_51, t_52, t_57, t_59, t_60, t_61, t_62, t_66, t_98, t_99, t_100, t_101, t_102, t_103, t_104, t_105, t_106, t_107, t_108, t_109, t_110, t_111, t_112, t_113, t_114, t_115, t_116, t_121, t_124, t_150, t_200, t_399, t_999, t_2000, vq_i, if_pos, if_neg, bn2_e, bn1_e, lt1_e, asr_t, drf_e, asr_T, gI_sI, gL_sI, gR_sI, gI_sL, gL_sL, gR_sL, gI_sR, gL_sR, gR_sR, eq_self, i32_eq, or_true, true_or, and_true, true_and, or_false, false_or, and_false, false_and, not_true, not_false_iff, if_true, if_false, in_12, e2, i1, i2]
      · refine Sim.same h0 (-12) ?_ ?_
        · unfold f_X11_taken f_X4_isUnder
          by_cases d1 : a2.toInt = 1 <;> simp (disch := omega) only [Int32.lt_iff_toInt_lt, Int32.le_iff_toInt_le, t_n14, t_n13, t_n12, t_n11, t_n10, t_n5, t_n4, t_n3, t_n2, t_n1, t_0, t_1, t_2, t_3, t_4, t_5, t_6, t_7, t_8, t_9, t_10, t_11, t_12, t_13, t_14, t_15, t_16, t_17, t_18, t_19, t_20, t_21, t_22, t_23, t_24, t_25, t_26, t_27, t_28, t_29, t_30, t_31, t_32, t_33, t_34, t_37, t_38, t_39, t_40, t_41, t_44, t_48, t_50, t_51, t_52, t_57, t_59, t_60, t_61, t_62, t_66, t_98, t_99, t_100, t_101, t_102, t_103, t_104, t_105, t_106, t_107, t_108, t_109, t_110, t_111, t_112, t_113, t_114, t_115, t_116, t_121, t_124, t_150, t_200, t_399, t_999, t_2000, vq_i, if_pos, if_neg, bn2_e, bn1_e, lt1_e, asr_t, drf_e, asr_T, gI_sI, gL_sI, gR_sI, gI_sL, gL_sL, gR_sL, gI_sR, gL_sR, gR_sR, eq_self, i32_eq, or_true, true_or, and_true, true_and, or_false, false_or, and_false, false_and, not_true, not_false_iff, if_true, if_false, isKind_11, e1, l1]
        · unfold f_X12_taken
          by_cases d1 : a2.toInt = 1 <;> simp (disch := omega) only [Int32.lt_iff_toInt_lt, Int32.le_iff_toInt_le, t_n14, t_n13, t_n12, t_n11, t_n10, t_n5, t_n4, t_n3, t_n2, t_n1, t_0, t_1, t_2, t_3, t_4, t_5, t_6, t_7, t_8, t_9, t_10, t_11, t_12, t_13, t_14, t_15, t_16, t_17, t_18, t_19, t_20, t_21, t_22, t_23, t_24, t_25, t_26, t_27, t_28, t_29, t_30, t_31, t_32, t_33, t_34, t_37, t_38, t_39, t_40, t_41, t_44, t_48, t_50, t_51, t_52, t_57, t_59, t_60, t_61, t_62, t_66, t_98, t_99, t_100, t_101, t_102, t_103, t_104, t_105, t_106, t_107, t_108, t_109, t_110, t_111, t_112, t_113, t_114, t_115, t_116, t_121, t_124, t_150, t_200, t_399, t_999, t_2000, vq_i, if_pos, if_neg, bn2_e, bn1_e, lt1_e, asr_t, drf_e, asr_T, gI_sI, gL_sI, gR_sI, gI_sL, gL_sL, gR_sL, gI_sR, gL_sR, gR_sR, eq_self, i32_eq, or_true, true_or, and_true, true_and, or_false, false_or, and_false, false_and, not_true, not_false_iff, if_true, if_false, in_12, e2, i1, i2]
  · exact Sim.same h0 (-2) (by unfold f_X11_taken; simp (disch := omega) only [Int32.lt_iff_toInt_lt, Int32.le_iff_toInt_le, t_n14, t_n13, t_n12, t_n11, t_n10, t_n5, t_n4, t_n3, t_n2, t_n1, t_0, t_1, t_2, t_3, t_4, t_5, t_6, t_7, t_8, t_9, t_10, t_11, t_12, t_13, t_14, t_15, t_16, t_17, t_18, t_19, t_20, t_21, t_22, t_23, t_24, t_25, t_26, t_27, t_28, t_29, t_30, t_31, t_32, t_33, t_34, t_37, t_38, t_39, t_40, t_41, t_44, t_48, t_50, t_51, t_52, t_57, t_59, t_60, t_61, t_62, t_66, t_98, t_99, t_100, t_101, t_102, t_103, t_104, t_105, t_106, t_107, t_108, t_109, t_110, t_111, t_112, t_113, t_114, t_115, t_116, t_121, t_124, t_150, t_200, t_399, t_999, t_2000, vq_i, if_pos, if_neg, bn2_e, bn1_e, lt1_e, asr_t, drf_e, asr_T, gI_sI, gL_sI, gR_sI, gI_sL, gL_sL, gR_sL, gI_sR, gL_sR, gR_sR, eq_self, i32_eq, or_true, true_or, and_true, true_and, or_false, false_or, and_false, false_and, not_true, not_false_iff, if_true, if_false, isKind_11]) (by unfold f_X12_taken; simp (disch := omega) only [Int32.lt_iff_toInt_lt, Int32.le_iff_toInt_le, t_n14, t_n13, t_n12, t_n11, t_n10, t_n5, t_n4, t_n3, t_n2, t_n1, t_0, t_1, t_2, t_3, t_4, t_5, t_6, t_7, t_8, t_9, t_10, t_11, t_12, t_13, t_14, t_15, t_16, t_17, t_18, t_19, t_20, t_21, t_22, t_23, t_24, t_25, t_26, t_27, t_28, t_29, t_30, t_31, t_32, t_33, t_34, t_37, t_38, t_39, t_40, t_41, t_44, t_48, t_50, t_51, t_52, t_57, t_59, t_60, t_61, t_62, t_66, t_98, t_99, t_100, t_101, t_102, t_103, t_104, t_105, t_106, t_107, t_108, t_109, t_110, t_111, t_112, t_113, t_114, t_115, t_116, t_121, t_124, t_150, t_200, t_399, t_999, t_2000, vq_i, if_pos, if_neg, bn2_e, bn1_e, lt1_e, asr_t, drf_e, asr_T, gI_sI, gL_sI, gR_sI, gI_sL, gL_sL, gR_sL, gI_sR, gL_sR, gR_sR, eq_self, i32_eq, or_true, true_or, and_true, true_and, or_false, false_or, and_false, false_and, not_true, not_false_iff, if_true, if_false, in_12])
