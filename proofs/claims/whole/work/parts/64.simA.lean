def RR (n : Nat) (mc mm : Mem) : Prop := r_T mc mm ∧ r_F mc mm ∧ r_L0 mc mm ∧ r_L mc mm ∧ r_Lc mc mm ∧ r_Lg n mc mm ∧ r_Sb mc mm ∧ r_Ss mc mm ∧ r_B mc mm ∧ r_P mc mm ∧ r_N mc mm ∧ r_G0 mc mm ∧ r_G n mc mm ∧ r_Gw mc mm ∧ r_Pw mc mm ∧ r_Pa mc mm ∧ r_Na mc mm ∧ r_A mc mm ∧ r_Ta mc mm ∧ r_R mc mm ∧ r_S mc mm ∧ r_W0 mc mm ∧ r_W mc mm
def Sim {α : Type} (n : Nat) (x y : Option (α × Mem)) : Prop := ∃ (r : α) (mc mm : Mem), x = some (r, mc) ∧ y = some (r, mm) ∧ RR n mc mm
theorem r_Lg.up {n : Nat} {mc mm : Mem} (h : r_Lg n mc mm) : r_Lg (n + 1) mc mm := fun l hl => ⟨(h l hl).1, ⟨(h l hl).2.1.1, Int.le_trans (h l hl).2.1.2 (by omega)⟩, (h l hl).2.2⟩
theorem r_G.up {n : Nat} {mc mm : Mem} (h : r_G n mc mm) : r_G (n + 1) mc mm := fun g hg => by
  obtain ⟨a, b, c, d, e, f⟩ := h g hg
  exact ⟨a, b, c, d, e, f.1, Int.le_trans f.2 (by omega)⟩
theorem RR.up {n : Nat} {mc mm : Mem} (h : RR n mc mm) : RR (n + 1) mc mm := by
  obtain ⟨hT, hF, hL0, hL, hLc, hLg, hSb, hSs, hB, hP, hN, hG0, hG, hGw, hPw, hPa, hNa, hA, hTa, hR, hS, hW0, hW⟩ := h
  exact ⟨hT, hF, hL0, hL, hLc, hLg.up, hSb, hSs, hB, hP, hN, hG0, hG.up, hGw, hPw, hPa, hNa, hA, hTa, hR, hS, hW0, hW⟩
theorem Sim.same {α : Type} {n : Nat} {x y : Option (α × Mem)} {mc mm : Mem} (h : RR n mc mm) (r : α) (hx : x = some (r, mc)) (hy : y = some (r, mm)) : Sim (n + 1) x y := ⟨r, mc, mm, hx, hy, h.up⟩
theorem rg_i {x : Int32} {a b : Int} (h : rg x a b) : a ≤ x.toInt ∧ x.toInt ≤ b := h
theorem rg_n {x : Int32} {lo : Nat} (hi : Nat) (hh : hi < 2147483647) (h : rg x lo hi) : ∃ j : Nat, lo ≤ j ∧ j ≤ hi ∧ x = nI j := by
  obtain ⟨h1, h2⟩ := h
  rcases inr (x := x) (hi + 1) (by omega) with q | ⟨j, hj, e⟩
  · omega
  · have := nI_toInt (n := j) (by omega)
    rw [e, this] at h1
    exact ⟨j, by omega, by omega, e⟩
theorem sim_foundry {fl n : Nat} {mc mm : Mem} (h : RR n mc mm) (a1 a2 a3 : Int32) : Sim (n + 1) (f_X11_foundry fl a1 a2 a3 mc) (f_X12_foundry fl a1 a2 a3 mm) := by
  rcases inr (x := a1) 8 (by decide) with q | ⟨f, hf, rfl⟩
  · refine Sim.same h (-1) ?_ ?_
    · unfold f_X11_foundry; simp (disch := omega) only [Int32.lt_iff_toInt_lt, Int32.le_iff_toInt_le, t_n14, t_n13, t_n12, t_n11, t_n10, t_n5, t_n4, t_n3, t_n2, t_n1, t_0, t_1, t_2, t_3, t_4, t_5, t_6, t_7, t_8, t_9, t_10, t_11, t_12, t_13, t_14, t_15, t_16, t_17, t_18, t_19, t_20, t_21, t_22, t_23, t_24, t_25, t_26, t_27, t_28, t_29, t_30, t_31, t_32, t_33, t_34, t_37, t_38, t_39, t_40, t_41, t_44, t_48, t_50, t_51, t_52, t_57, t_59, t_60, t_61, t_62, t_66, t_98, t_99, t_100, t_101, t_102, t_103, t_104, t_105, t_106, t_107, t_108, t_109, t_110, t_111, t_112, t_113, t_114, t_115, t_116, t_121, t_124, t_150, t_200, t_399, t_999, t_2000, vq_i, if_pos, if_neg, bn2_e, bn1_e, lt1_e, asr_t, drf_e, asr_T, gI_sI, gL_sI, gR_sI, gI_sL, gL_sL, gR_sL, gI_sR, gL_sR, gR_sR, eq_self, i32_eq, or_true, true_or, and_true, true_and, or_false, false_or, and_false, false_and, not_true, not_false_iff, if_true, if_false, isFoundry_11]
    · unfold f_X12_foundry; simp (disch := omega) only [Int32.lt_iff_toInt_lt, Int32.le_iff_toInt_le, t_n14, t_n13, t_n12, t_n11, t_n10, t_n5, t_n4, t_n3, t_n2, t_n1, t_0, t_1, t_2, t_3, t_4, t_5, t_6, t_7, t_8, t_9, t_10, t_11, t_12, t_13, t_14, t_15, t_16, t_17, t_18, t_19, t_20, t_21, t_22, t_23, t_24, t_25, t_26, t_27, t_28, t_29, t_30, t_31, t_32, t_33, t_34, t_37, t_38, t_39, t_40, t_41, t_44, t_48, t_50, t_51, t_52, t_57, t_59, t_60, t_61, t_62, t_66, t_98, t_99, t_100, t_101, t_102, t_103, t_104, t_105, t_106, t_107, t_108, t_109, t_110, t_111, t_112, t_113, t_114, t_115, t_116, t_121, t_124, t_150, t_200, t_399, t_999, t_2000, vq_i, if_pos, if_neg, bn2_e, bn1_e, lt1_e, asr_t, drf_e, asr_T, gI_sI, gL_sI, gR_sI, gI_sL, gL_sL, gR_sL, gI_sR, gL_sR, gR_sR, eq_self, i32_eq, or_true, true_or, and_true, true_and, or_false, false_or, and_false, false_and, not_true, not_false_iff, if_true, if_false, isFoundry_12]
  · have i1 := nI_toInt (n := f) (by omega)
    have i2 := nI_clamp (n := f) (by omega)
    by_cases hc : 1 ≤ a2.toInt ∧ a2.toInt ≤ a3.toInt ∧ a3.toInt ≤ 60
    · refine ⟨1, sI (sI mc 1 0 f a2) 2 0 f a3, sI (sI mm 3 0 f a2) 4 0 f a3, ?_, ?_, ?_⟩
      · unfold f_X11_foundry; simp (disch := omega) only [Int32.lt_iff_toInt_lt, Int32.le_iff_toInt_le, t_n14, t_n13, t_n12, t_n11, t_n10, t_n5, t_n4, t_n3, t_n2, t_n1, t_0, t_1, t_2, t_3, t_4, t_5, t_6, t_7, t_8, t_9, t_10, t_11, t_12, t_13, t_14, t_15, t_16, t_17, t_18, t_19, t_20, t_21, t_22, t_23, t_24, t_25, t_26, t_27, t_28, t_29, t_30, t_31, t_32, t_33, t_34, t_37, t_38, t_39, t_40, t_41, t_44, t_48, t_50, t_51, t_52, t_57, t_59, t_60, t_61, t_62, t_66, t_98, t_99, t_100, t_101, t_102, t_103, t_104, t_105, t_106, t_107, t_108, t_109, t_110, t_111, t_112, t_113, t_114, t_115, t_116, t_121, t_124, t_150, t_200, t_399, t_999, t_2000, vq_i, if_pos, if_neg, bn2_e, bn1_e, lt1_e, asr_t, drf_e, asr_T, gI_sI, gL_sI, gR_sI, gI_sL, gL_sL, gR_sL, gI_sR, gL_sR, gR_sR, eq_self, i32_eq, or_true, true_or, and_true, true_and, or_false, false_or, and_false, false_and, not_true, not_false_iff, if_true, if_false, isFoundry_11, i1, i2]
      · unfold f_X12_foundry; simp (disch := omega) only [Int32.lt_iff_toInt_lt, Int32.le_iff_toInt_le, t_n14, t_n13, t_n12, t_n11, t_n10, t_n5, t_n4, t_n3, t_n2, t_n1, t_0, t_1, t_2, t_3, t_4, t_5, t_6, t_7, t_8, t_9, t_10, t_11, t_12, t_13, t_14, t_15, t_16, t_17, t_18, t_19, t_20, t_21, t_22, t_23, t_24, t_25, t_26, t_27, t_28, t_29, t_30, t_31, t_32, t_33, t_34, t_37, t_38, t_39, t_40, t_41, t_44, t_48, t_50, t_51, t_52, t_57, t_59, t_60, t_61, t_62, t_66, t_98, t_99, t_100, t_101, t_102, t_103, t_104, t_105, t_106, t_107, t_108, t_109, t_110, t_111, t_112, t_113, t_114, t_115, t_116, t_121, t_124, t_150, t_200, t_399, t_999, t_2000, vq_i, if_pos, if_neg, bn2_e, bn1_e, lt1_e, asr_t, drf_e, asr_T, gI_sI, gL_sI, gR_sI, gI_sL, gL_sL, gR_sL, gI_sR, gL_sR, gR_sR, eq_self, i32_eq, or_true, true_or, and_true, true_and, or_false, false_or, and_false, false_and, not_true, not_false_iff, if_true, if_false, isFoundry_12, in_12, i1, i2]
      · obtain ⟨hT, hF, hL0, hL, hLc, hLg, hSb, hSs, hB, hP, hN, hG0, hG, hGw, hPw, hPa, hNa, hA, hTa, hR, hS, hW0, hW⟩ := h.up
        refine ⟨hT, ?_, hL0, hL, hLc, hLg, hSb, hSs, hB, hP, hN, hG0, hG, hGw, hPw, hPa, hNa, hA, hTa, hR, hS, hW0, hW⟩
        intro g hg
        by_cases e : g = f
        · subst e
          simp [gI_sI, rg]
          omega
        · have := hF g hg
          simpa [gI_sI, e] using this
    · refine Sim.same h (-2) ?_ ?_
      · unfold f_X11_foundry
        by_cases c1 : a2.toInt < 1 <;> by_cases c2 : 60 < a3.toInt <;> simp (disch := omega) only [Int32.lt_iff_toInt_lt, Int32.le_iff_toInt_le, t_n14, t_n13, t_n12, t_n11, t_n10, t_n5, t_n4, t_n3, t_n2, t_n1, t_0, t_1, t_2, t_3, t_4, t_5, t_6, t_7, t_8, t_9, t_10, t_11, t_12, t_13, t_14, t_15, t_16, t_17, t_18, t_19, t_20, t_21, t_22, t_23, t_24, t_25, t_26, t_27, t_28, t_29, t_30, t_31, t_32, t_33, t_34, t_37, t_38, t_39, t_40, t_41, t_44, t_48, t_50, t_51, t_52, t_57, t_59, t_60, t_61, t_62, t_66, t_98, t_99, t_100, t_101, t_102, t_103, t_104, t_105, t_106, t_107, t_108, t_109, t_110, t_111, t_112, t_113, t_114, t_115, t_116, t_121, t_124, t_150, t_200, t_399, t_999, t_2000, vq_i, if_pos, if_neg, bn2_e, bn1_e, lt1_e, asr_t, drf_e, asr_T, gI_sI, gL_sI, gR_sI, gI_sL, gL_sL, gR_sL, gI_sR, gL_sR, gR_sR, eq_self, i32_eq, or_true, true_or, and_true, true_and, or_false, false_or, and_false, false_and, not_true, not_false_iff, if_true, if_false, isFoundry_11, i1, i2]
      · unfold f_X12_foundry
        by_cases c1 : 1 ≤ a2.toInt ∧ a2.toInt ≤ 60 <;> simp (disch := omega) only [Int32.lt_iff_toInt_lt, Int32.le_iff_toInt_le, t_n14, t_n13, t_n12, t_n11, t_n10, t_n5, t_n4, t_n3, t_n2, t_n1, t_0, t_1, t_2, t_3, t_4, t_5, t_6, t_7, t_8, t_9, t_10, t_11, t_12, t_13, t_14, t_15, t_16, t_17, t_18, t_19, t_20, t_21, t_22, t_23, t_24, t_25, t_26, t_27, t_28, t_29, t_30, t_31, t_32, t_33, t_34, t_37, t_38, t_39, t_40, t_41, t_44, t_48, t_50, t_51, t_52, t_57, t_59, t_60, t_61, t_62, t_66, t_98, t_99, t_100, t_101, t_102, t_103, t_104, t_105, t_106, t_107, t_108, t_109, t_110, t_111, t_112, t_113, t_114, t_115, t_116, t_121, t_124, t_150, t_200, t_399, t_999, t_2000, vq_i, if_pos, if_neg, bn2_e, bn1_e, lt1_e, asr_t, drf_e, asr_T, gI_sI, gL_sI, gR_sI, gI_sL, gL_sL, gR_sL, gI_sR, gL_sR, gR_sR, eq_self, i32_eq, or_true, true_or, and_true, true_and, or_false, false_or, and_false, false_and, not_true, not_false_iff, if_true, if_false, isFoundry_12, in_12, i1, i2]
