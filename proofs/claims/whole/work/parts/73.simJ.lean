theorem sim_gang {fl n : Nat} {mc mm : Mem} (h : RR n mc mm) (hp : PR mc) (a1 a2 : Int32) : Sim (n + 1) (f_X11_gang fl a1 a2 mc) (f_X12_gang fl a1 a2 mm) := by
  have h0 := h
  obtain ⟨⟨t1, t2⟩, hF, hL0, hL, hLc, hLg, hSb, hSs, hB, hP, hN, ⟨z0, z1, z2, z3⟩, hG, hGd, ⟨w1, w2, w3⟩, hPw, hPa, hNa, hA, hTa, hR, hS, hW0, hW⟩ := h
  by_cases c : 1 ≤ a1.toInt ∧ a1.toInt ≤ 4
  · by_cases d : 1 ≤ a2.toInt ∧ a2.toInt ≤ 20
    · have i1 := nI_toInt (n := ng mc) (by omega)
      have i2 := nI_clamp (n := ng mc) (by omega)
      by_cases e : ng mc = 10
      · exact Sim.same h0 (-4) (by unfold f_X11_gang; simp (disch := omega) only [Int32.lt_iff_toInt_lt, Int32.le_iff_toInt_le, t_n14, t_n13, t_n12, t_n11, t_n10, t_n5, t_n4, t_n3, t_n2, t_n1, t_0, t_1, t_2, t_3, t_4, t_5, t_6, t_7, t_8, t_9, t_10, t_11, t_12, t_13, t_14, t_15, t_16, t_17, t_18, t_19, t_20, t_21, t_22, t_23, t_24, t_25, t_26, t_27, t_28, t_29, t_30, t_31, t_32, t_33, t_34, t_37, t_38, t_39, t_40, t_41, t_44, t_48, t_50, t_51, t_52, t_57, t_59, t_60, t_61, t_62, t_66, t_98, t_99, t_100, t_101, t_102, t_103, t_104, t_105, t_106, t_107, t_108, t_109, t_110, t_111, t_112, t_113, t_114, t_115, t_116, t_121, t_124, t_150, t_200, t_399, t_999, t_2000, vq_i, if_pos, if_neg, bn2_e, bn1_e, lt1_e, asr_t, drf_e, asr_T, gI_sI, gL_sI, gR_sI, gI_sL, gL_sL, gR_sL, gI_sR, gL_sR, gR_sR, eq_self, i32_eq, or_true, true_or, and_true, true_and, or_false, false_or, and_false, false_and, not_true, not_false_iff, if_true, if_false, z1, i1]) (by unfold f_X12_gang; simp (disch := omega) only [Int32.lt_iff_toInt_lt, Int32.le_iff_toInt_le, t_n14, t_n13, t_n12, t_n11, t_n10, t_n5, t_n4, t_n3, t_n2, t_n1, t_0, t_1, t_2, t_3, t_4, t_5, t_6, t_7, t_8, t_9, t_10, t_11, t_12, t_13, t_14, t_15, t_16, t_17, t_18, t_19, t_20, t_21, t_22, t_23, t_24, t_25, t_26, t_27, t_28, t_29, t_30, t_31, t_32, t_33, t_34, t_37, t_38, t_39, t_40, t_41, t_44, t_48, t_50, t_51, t_52, t_57, t_59, t_60, t_61, t_62, t_66, t_98, t_99, t_100, t_101, t_102, t_103, t_104, t_105, t_106, t_107, t_108, t_109, t_110, t_111, t_112, t_113, t_114, t_115, t_116, t_121, t_124, t_150, t_200, t_399, t_999, t_2000, vq_i, if_pos, if_neg, bn2_e, bn1_e, lt1_e, asr_t, drf_e, asr_T, gI_sI, gL_sI, gR_sI, gI_sL, gL_sL, gR_sL, gI_sR, gL_sR, gR_sR, eq_self, i32_eq, or_true, true_or, and_true, true_and, or_false, false_or, and_false, false_and, not_true, not_false_iff, if_true, if_false, in_12, z2, i1])
      · have hp1 : gR mc 997 24 (gR mc 999 24 0) = gR mc 998 0 0 := hp.2
        have y1 : gI (sN mc 24) 0 0 10 = nI (ng mc) := z1
        refine ⟨nI (ng mc) + 1 - 1, sI (sR (sI (sI (sI (sI (sN mc 24) 24 (ng mc) 1 (-5)) 24 (ng mc) 2 (-5)) 24 (ng mc) 0 a1) 24 (ng mc) 3 a2) 8 0 (ng mc) (ng mc + 1)) 0 0 10 (nI (ng mc) + 1),
          sI (sI (sI mm 32 0 (ng mc) a1) 33 0 (ng mc) a2) 0 0 44 (nI (ng mc) + 1), ?_, ?_, ?_⟩
        · unfold f_X11_gang f_X2_init
          simp (disch := omega) only [Int32.lt_iff_toInt_lt, Int32.le_iff_toInt_le, t_n14, t_n13, t_n12, t_n11, t_n10, t_n5, t_n4, t_n3, t_n2, t_n1, t_0, t_1, t_2, t_3, t_4, t_5, t_6, t_7, t_8, t_9, t_10, t_11, t_12, t_13, t_14, t_15, t_16, t_17, t_18, t_19, t_20, t_21, t_22, t_23, t_24, t_25, t_26, t_27, t_28, t_29, t_30, t_31, t_32, t_33, t_34, t_37, t_38, t_39, t_40, t_41, t_44, t_48, t_50, t_51, t_52, t_57, t_59, t_60, t_61, t_62, t_66, t_98, t_99, t_100, t_101, t_102, t_103, t_104, t_105, t_106, t_107, t_108, t_109, t_110, t_111, t_112, t_113, t_114, t_115, t_116, t_121, t_124, t_150, t_200, t_399, t_999, t_2000, vq_i, if_pos, if_neg, bn2_e, bn1_e, lt1_e, asr_t, drf_e, asr_T, gI_sI, gL_sI, gR_sI, gI_sL, gL_sL, gR_sL, gI_sR, gL_sR, gR_sR, eq_self, i32_eq, or_true, true_or, and_true, true_and, or_false, false_or, and_false, false_and, not_true, not_false_iff, if_true, if_false, z1, i1, i2, hp1, y1]
          rw [asr_t (by simp [gR_sN])]
          rfl
        · unfold f_X12_gang; simp (disch := omega) only [Int32.lt_iff_toInt_lt, Int32.le_iff_toInt_le, t_n14, t_n13, t_n12, t_n11, t_n10, t_n5, t_n4, t_n3, t_n2, t_n1, t_0, t_1, t_2, t_3, t_4, t_5, t_6, t_7, t_8, t_9, t_10, t_11, t_12, t_13, t_14, t_15, t_16, t_17, t_18, t_19, t_20, t_21, t_22, t_23, t_24, t_25, t_26, t_27, t_28, t_29, t_30, t_31, t_32, t_33, t_34, t_37, t_38, t_39, t_40, t_41, t_44, t_48, t_50, t_51, t_52, t_57, t_59, t_60, t_61, t_62, t_66, t_98, t_99, t_100, t_101, t_102, t_103, t_104, t_105, t_106, t_107, t_108, t_109, t_110, t_111, t_112, t_113, t_114, t_115, t_116, t_121, t_124, t_150, t_200, t_399, t_999, t_2000, vq_i, if_pos, if_neg, bn2_e, bn1_e, lt1_e, asr_t, drf_e, asr_T, gI_sI, gL_sI, gR_sI, gI_sL, gL_sL, gR_sL, gI_sR, gL_sR, gR_sR, eq_self, i32_eq, or_true, true_or, and_true, true_and, or_false, false_or, and_false, false_and, not_true, not_false_iff, if_true, if_false, in_12, z2, i1, i2]
        · have ng' : ng (sI (sR (sI (sI (sI (sI (sN mc 24) 24 (ng mc) 1 (-5)) 24 (ng mc) 2 (-5)) 24 (ng mc) 0 a1) 24 (ng mc) 3 a2) 8 0 (ng mc) (ng mc + 1)) 0 0 10 (nI (ng mc) + 1)) = ng mc + 1 := by
            simp [ng, gR_sI, gR_sR, gR_sN]
          have ngh : gR mc 999 24 0 = ng mc := rfl
          refine ⟨⟨by simpa [gI_sI, gI_sR, gI_sN] using t1, by simpa [gI_sI] using t2⟩, hF, hL0, hL, hLc, hLg.up, ?_, ?_, hB, hP, hN, ⟨by rw [ng']; omega, by rw [ng']; simp [gI_sI, nI_1], by rw [ng']; simp [gI_sI, nI_1], ?_⟩, ?_, ?_, ⟨?_, ?_, ?_⟩, hPw, hPa, hNa, hA, hTa, hR, hS, hW0, hW⟩
          · simpa [r_Sb, gI_sI, gI_sR, gI_sN] using hSb
          · simpa [r_Ss, gI_sI, gI_sR, gI_sN] using hSs
          · intro g hg
            rw [ng']
            have := z3 g hg
            by_cases q : g = ng mc
            · simp [gR_sI, gR_sR, q]
            · simp [gR_sI, gR_sR, gR_sN, q, this]
              by_cases q2 : g < ng mc
              · simp [q2, show g < ng mc + 1 by omega]
              · simp [q2, show ¬ g < ng mc + 1 by omega]
          · intro g hg
            rw [ng'] at hg
            by_cases q : g = ng mc
            · subst q
              simp [gI_sI, gI_sR, rg]
              omega
            · have := hG g (by omega)
              simpa [gI_sI, gI_sR, gI_sN, ngh, q] using this
          · intro g hg
            rw [ng']
            obtain ⟨q1, q2, q3⟩ := hGd.up g hg
            by_cases q : g = ng mc
            · subst q
              have q6 := q3 (Nat.le_refl _)
              rw [q6] at q1
              refine ⟨by simp [gI_sI, gI_sR, gI_sN, ngh, ← q1], by simpa [gI_sI] using q2, fun q7 => by omega⟩
            · exact ⟨by simpa [gI_sI, gI_sR, gI_sN, ngh, q] using q1, by simpa [gI_sI] using q2, fun q9 => by simpa [gI_sI, gI_sR, gI_sN, ngh, q] using q3 (by omega)⟩
          · intro g hg
            rw [ng'] at hg
            have t3 := rg_i t2
            rw [← t1] at t3
            by_cases q : g = ng mc
            · subst q
              have t4 : gI mc 0 0 0 ≠ -5 := fun q => by rw [q] at t3; exact absurd t3 (by decide)
              have t5 := w2 (ng mc) (Nat.le_refl _) (by omega)
              simp [gI_sI, gI_sR, gI_sN, t5, t4, Ne.symm t4]
              omega
            · have := w1 g (by omega)
              simpa [gI_sI, gI_sR, gI_sN, ngh, q] using this
          · intro g hg hg2
            rw [ng'] at hg
            simpa [gI_sI] using w2 g (by omega) hg2
          · intro b hb
            have t3 := rg_i t2
            rw [← t1] at t3
            have t4 : gI mc 0 0 0 ≠ -5 := fun q => by rw [q] at t3; exact absurd t3 (by decide)
            obtain ⟨q1, q2, q3, q4⟩ := w3 b hb
            refine ⟨q1, ?_, q3, ?_⟩
            · refine Iff.trans q2 ⟨fun ⟨g, g1, g2, g3⟩ => ⟨g, by rw [ng']; omega, ?_⟩, fun ⟨g, g1, g2⟩ => ⟨g, ?_⟩⟩
              · simpa [gI_sI, gI_sR, gI_sN, ngh, show g ≠ ng mc by omega] using And.intro g2 g3
              · rw [ng'] at g1
                by_cases q : g = ng mc
                · subst q
                  simp [gI_sI, gI_sR, gI_sN, Ne.symm t4] at g2
                · refine ⟨by omega, ?_⟩
                  simpa [gI_sI, gI_sR, gI_sN, ngh, q] using g2
            · refine Iff.trans q4 ⟨fun ⟨g, g1, g2, g3⟩ => ⟨g, by rw [ng']; omega, ?_⟩, fun ⟨g, g1, g2⟩ => ⟨g, ?_⟩⟩
              · simpa [gI_sI, gI_sR, gI_sN, ngh, show g ≠ ng mc by omega] using And.intro g2 g3
              · rw [ng'] at g1
                by_cases q : g = ng mc
                · subst q
                  simp [gI_sI, gI_sR, gI_sN, Ne.symm t4] at g2
                · refine ⟨by omega, ?_⟩
                  simpa [gI_sI, gI_sR, gI_sN, ngh, q] using g2
    · refine Sim.same h0 (-2) ?_ ?_
      · unfold f_X11_gang
        by_cases c1 : a2.toInt < 1 <;> simp (disch := omega) only [Int32.lt_iff_toInt_lt, Int32.le_iff_toInt_le, t_n14, t_n13, t_n12, t_n11, t_n10, t_n5, t_n4, t_n3, t_n2, t_n1, t_0, t_1, t_2, t_3, t_4, t_5, t_6, t_7, t_8, t_9, t_10, t_11, t_12, t_13, t_14, t_15, t_16, t_17, t_18, t_19, t_20, t_21, t_22, t_23, t_24, t_25, t_26, t_27, t_28, t_29, t_30, t_31, t_32, t_33, t_34, t_37, t_38, t_39, t_40, t_41, t_44, t_48, t_50, t_51, t_52, t_57, t_59, t_60, t_61, t_62, t_66, t_98, t_99, t_100, t_101, t_102, t_103, t_104, t_105, t_106, t_107, t_108, t_109, t_110, t_111, t_112, t_113, t_114, t_115, t_116, t_121, t_124, t_150, t_200, t_399, t_999, t_2000, vq_i, if_pos, if_neg, bn2_e, bn1_e, lt1_e, asr_t, drf_e, asr_T, gI_sI, gL_sI, gR_sI, gI_sL, gL_sL, gR_sL, gI_sR, gL_sR, gR_sR, eq_self, i32_eq, or_true, true_or, and_true, true_and, or_false, false_or, and_false, false_and, not_true, not_false_iff, if_true, if_false]
      · unfold f_X12_gang
        by_cases c1 : a2.toInt < 1 <;> simp (disch := omega) only [Int32.lt_iff_toInt_lt, Int32.le_iff_toInt_le, t_n14, t_n13, t_n12, t_n11, t_n10, t_n5, t_n4, t_n3, t_n2, t_n1, t_0, t_1, t_2, t_3, t_4, t_5, t_6, t_7, t_8, t_9, t_10, t_11, t_12, t_13, t_14, t_15, t_16, t_17, t_18, t_19, t_20, t_21, t_22, t_23, t_24, t_25, t_26, t_27, t_28, t_29, t_30, t_31, t_32, t_33, t_34, t_37, t_38, t_39, t_40, t_41, t_44, t_48, t_50, t_51, t_52, t_57, t_59, t_60, t_61, t_62, t_66, t_98, t_99, t_100, t_101, t_102, t_103, t_104, t_105, t_106, t_107, t_108, t_109, t_110, t_111, t_112, t_113, t_114, t_115, t_116, t_121, t_124, t_150, t_200, t_399, t_999, t_2000, vq_i, if_pos, if_neg, bn2_e, bn1_e, lt1_e, asr_t, drf_e, asr_T, gI_sI, gL_sI, gR_sI, gI_sL, gL_sL, gR_sL, gI_sR, gL_sR, gR_sR, eq_self, i32_eq, or_true, true_or, and_true, true_and, or_false, false_or, and_false, false_and, not_true, not_false_iff, if_true, if_false, in_12]
  · refine Sim.same h0 (-1) ?_ ?_
    · unfold f_X11_gang
      by_cases c1 : a1.toInt < 1 <;> simp (disch := omega) only [Int32.lt_iff_toInt_lt, Int32.le_iff_toInt_le, t_n14, t_n13, t_n12, t_n11, t_n10, t_n5, t_n4, t_n3, t_n2, t_n1, t_0, t_1, t_2, t_3, t_4, t_5, t_6, t_7, t_8, t_9, t_10, t_11, t_12, t_13, t_14, t_15, t_16, t_17, t_18, t_19, t_20, t_21, t_22, t_23, t_24, t_25, t_26, t_27, t_28, t_29, t_30, t_31, t_32, t_33, t_34, t_37, t_38, t_39, t_40, t_41, t_44, t_48, t_50, t_51, t_52, t_57, t_59, t_60, t_61, t_62, t_66, t_98, t_99, t_100, t_101, t_102, t_103, t_104, t_105, t_106, t_107, t_108, t_109, t_110, t_111, t_112, t_113, t_114, t_115, t_116, t_121, t_124, t_150, t_200, t_399, t_999, t_2000, vq_i, if_pos, if_neg, bn2_e, bn1_e, lt1_e, asr_t, drf_e, asr_T, gI_sI, gL_sI, gR_sI, gI_sL, gL_sL, gR_sL, gI_sR, gL_sR, gR_sR, eq_self, i32_eq, or_true, true_or, and_true, true_and, or_false, false_or, and_false, false_and, not_true, not_false_iff, if_true, if_false]
    · unfold f_X12_gang
      by_cases c1 : a1.toInt < 1 <;> simp (disch := omega) only [Int32.lt_iff_toInt_lt, Int32.le_iff_toInt_le, t_n14, t_n13, t_n12, t_n11, t_n10, t_n5, t_n4, t_n3, t_n2, t_n1, t_0, t_1, t_2, t_3, t_4, t_5, t_6, t_7, t_8, t_9, t_10, t_11, t_12, t_13, t_14, t_15, t_16, t_17, t_18, t_19, t_20, t_21, t_22, t_23, t_24, t_25, t_26, t_27, t_28, t_29, t_30, t_31, t_32, t_33, t_34, t_37, t_38, t_39, t_40, t_41, t_44, t_48, t_50, t_51, t_52, t_57, t_59, t_60, t_61, t_62, t_66, t_98, t_99, t_100, t_101, t_102, t_103, t_104, t_105, t_106, t_107, t_108, t_109, t_110, t_111, t_112, t_113, t_114, t_115, t_116, t_121, t_124, t_150, t_200, t_399, t_999, t_2000, vq_i, if_pos, if_neg, bn2_e, bn1_e, lt1_e, asr_t, drf_e, asr_T, gI_sI, gL_sI, gR_sI, gI_sL, gL_sL, gR_sL, gI_sR, gL_sR, gR_sR, eq_self, i32_eq, or_true, true_or, and_true, true_and, or_false, false_or, and_false, false_and, not_true, not_false_iff, if_true, if_false, in_12]
