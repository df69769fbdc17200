def cdv (mc : Mem) (e : Int32) (l : Nat) : Int32 := if gI mc 23 l 6 = -5 then gI mc 23 l 5 + (if e = 0 then gI mc 1 0 (gI mc 23 l 2).toNatClampNeg else gI mc 2 0 (gI mc 23 l 2).toNatClampNeg) else gI mc 23 l 6
theorem comingDay_11 {fl l : Nat} {e : Int32} {mc mm : Mem} (hl : l < nl mc) (hL : r_L mc mm) : f_X11_comingDay fl (l + 1) e mc = some (cdv mc e l, mc) := by
  have hl' : l < gR mc 999 23 0 := hl
  obtain ⟨l0, l1, l2, l3, l4, l5, l6, l7, l8⟩ := hL l hl
  have l7 := rg_i l7
  have v : vq (gI mc 23 l 2) 8 := by rw [vq_i, l2]; omega
  have fo : ∀ m, f_X11_isFoundry fl (gI mc 23 l 2) m = some (1, m) := fun m => by rw [isFoundry_11, l2, if_pos (by omega)]
  unfold f_X11_comingDay cdv
  rw [drf_e hl', isTold_11, bn2_e]
  by_cases c : gI mc 23 l 6 = -5
  · rw [if_pos c, if_pos rfl, if_pos c, asr_t hl', fo, bn2_e, if_neg (by decide), asr_t hl']
    by_cases d : e = 0
    · rw [if_pos d, if_pos d, asr_t v]
    · rw [if_neg d, if_neg d, asr_t v]
  · rw [if_neg c, if_neg (by decide), if_neg c, asr_t hl']
theorem cdv_12 {mc mm : Mem} {e : Int32} {l : Nat} (hl : l < nl mc) (h60 : l < 60) (hF : r_F mc mm) (hL : r_L mc mm) (hLc : r_Lc mc mm) : (if gI mm 10 0 l < 0 then (asr (vq (nI l) 60) <| if e = 0 then asr (vq (nI l) 60) <| asr (vq (gI mm 6 0 l) 8) <| some (gI mm 9 0 l + gI mm 3 0 (gI mm 6 0 l).toNatClampNeg, mm) else asr (vq (nI l) 60) <| asr (vq (gI mm 6 0 l) 8) <| some (gI mm 9 0 l + gI mm 4 0 (gI mm 6 0 l).toNatClampNeg, mm)) else asr (vq (nI l) 60) <| some (gI mm 10 0 l, mm)) = some (cdv mc e l, mm) := by
  obtain ⟨l0, l1, l2, l3, l4, l5, l6, l7, l8⟩ := hL l hl
  have l7 := rg_i l7
  have v : vq (nI l) 60 := by rw [vq_i, nI_toInt (by omega)]; omega
  have v2 : vq (gI mm 6 0 l) 8 := by rw [vq_i]; omega
  obtain ⟨f, hf, ef⟩ : ∃ q : Nat, q < 8 ∧ gI mm 6 0 l = nI q := by
    rcases inr (x := gI mm 6 0 l) 8 (by omega) with q | q
    · omega
    · exact q
  obtain ⟨f1, f2, -⟩ := hF f hf
  unfold cdv
  rw [l2, l5]
  rcases hLc l hl with ⟨t, u⟩ | ⟨u1, u2, u3, u4⟩
  · rw [if_pos (by rw [u]; decide), if_pos t, asr_t v, asr_t v, asr_t v2, asr_t v2, ef, nI_clamp (by omega), f1, f2]
    by_cases d : e = 0
    · rw [if_pos d, if_pos d]
    · rw [if_neg d, if_neg d, asr_t v]
  · have t : ¬ gI mc 23 l 6 = -5 := by rw [u1]; exact i32_m5 u3
    have u5 := rg_i u3
    rw [if_neg (by rw [Int32.lt_iff_toInt_lt, t_0]; omega), if_neg t, asr_t v, u1]
def aw (mc : Mem) (g d e : Int32) (l : Nat) : Int32 := if gI mc 23 l 1 = g then (if d < cdv mc e l then 0 else gI mc 23 l 3) else 0
def az (mc : Mem) (g d e : Int32) (l : Nat) : Int32 := if l < nl mc then aw mc g d e l else 0
theorem will_l {fl : Nat} {mc mm : Mem} {g d e : Int32} (h : r_L0 mc mm) (hL : r_L mc mm) : ∀ (N k : Nat), k ≤ 60 → 61 ≤ N + k → f_X11_willHaveCome_l17 fl g d e 60 N (sumI (az mc g d e) k) (nI k) mc = some (sumI (az mc g d e) 60, mc) := by
  intro N
  induction N with
  | zero => intro k h1 h2; omega
  | succ N ih =>
    intro k h1 h2
    have e1 := nI_toInt (n := k) (by omega)
    have e2 := nI_clamp (n := k) (by omega)
    unfold f_X11_willHaveCome_l17 f_X11_willHaveCome_l17_b
    by_cases c : k = 60
    · subst c; simp (disch := omega) only [Int32.lt_iff_toInt_lt, Int32.le_iff_toInt_le, t_n14, t_n13, t_n12, t_n11, t_n10, t_n5, t_n4, t_n3, t_n2, t_n1, t_0, t_1, t_2, t_3, t_4, t_5, t_6, t_7, t_8, t_9, t_10, t_11, t_12, t_13, t_14, t_15, t_16, t_17, t_18, t_19, t_20, t_21, t_22, t_23, t_24, t_25, t_26, t_27, t_28, t_29, t_30, t_31, t_32, t_33, t_34, t_37, t_38, t_39, t_40, t_41, t_44, t_48, t_50, t_51, t_52, t_57, t_59, t_60, t_61, t_62, t_66, t_98, t_99, t_100, t_101, t_102, t_103, t_104, t_105, t_106, t_107, t_108, t_109, t_110, t_111, t_112, t_113, t_114, t_115, t_116, t_121, t_124, t_150, t_200, t_399, t_999, t_2000, vq_i, if_pos, if_neg, bn2_e, bn1_e, lt1_e, asr_t, drf_e, asr_T, gI_sI, gL_sI, gR_sI, gI_sL, gL_sL, gR_sL, gI_sR, gL_sR, gR_sR, eq_self, i32_eq, or_true, true_or, and_true, true_and, or_false, false_or, and_false, false_and, not_true, not_false_iff, if_true, if_false, e1]
    · have y := ih (k + 1) (by omega) (by omega)
      have z : sumI (az mc g d e) (k + 1) = sumI (az mc g d e) k + az mc g d e k := rfl
      rw [← nI_1, z] at y
      rcases lot_null h (show k < 60 by omega) with ⟨q1, q2⟩ | ⟨q1, q2⟩
      · rw [show az mc g d e k = 0 by rw [az, if_neg (by omega)], Int32.add_zero] at y
        simp (disch := omega) only [Int32.lt_iff_toInt_lt, Int32.le_iff_toInt_le, t_n14, t_n13, t_n12, t_n11, t_n10, t_n5, t_n4, t_n3, t_n2, t_n1, t_0, t_1, t_2, t_3, t_4, t_5, t_6, t_7, t_8, t_9, t_10, t_11, t_12, t_13, t_14, t_15, t_16, t_17, t_18, t_19, t_20, t_21, t_22, t_23, t_24, t_25, t_26, t_27, t_28, t_29, t_30, t_31, t_32, t_33, t_34, t_37, t_38, t_39, t_40, t_41, t_44, t_48, t_50, t_51, t_52, t_57, t_59, t_60, t_61, t_62, t_66, t_98, t_99, t_100, t_101, t_102, t_103, t_104, t_105, t_106, t_107, t_108, t_109, t_110, t_111, t_112, t_113, t_114, t_115, t_116, t_121, t_124, t_150, t_200, t_399, t_999, t_2000, vq_i, if_pos, if_neg, bn2_e, bn1_e, lt1_e, asr_t, drf_e, asr_T, gI_sI, gL_sI, gR_sI, gI_sL, gL_sL, gR_sL, gI_sR, gL_sR, gR_sR, eq_self, i32_eq, or_true, true_or, and_true, true_and, or_false, false_or, and_false, false_and, not_true, not_false_iff, if_true, if_false, e1, e2, q2, y]
      · have q3 : k < gR mc 999 23 0 := q1
        have cd := comingDay_11 (fl := fl) (e := e) q1 hL
        rw [show az mc g d e k = aw mc g d e k by rw [az, if_pos q1]] at y
        by_cases t : gI mc 23 k 1 = g
        · have t1 : (gI mc 23 k 1).toInt = g.toInt := by rw [t]
          by_cases r : d.toInt < (cdv mc e k).toInt
          · rw [show aw mc g d e k = 0 by rw [aw, if_pos t, if_pos (Int32.lt_iff_toInt_lt.mpr r)], Int32.add_zero] at y
            simp (disch := omega) only [Int32.lt_iff_toInt_lt, Int32.le_iff_toInt_le, t_n14, t_n13, t_n12, t_n11, t_n10, t_n5, t_n4, t_n3, t_n2, t_n1, t_0, t_1, t_2, t_3, t_4, t_5, t_6, t_7, t_8, t_9, t_10, t_11, t_12, t_13, t_14, t_15, t_16, t_17, t_18, t_19, t_20, t_21, t_22, t_23, t_24, t_25, t_26, t_27, t_28, t_29, t_30, t_31, t_32, t_33, t_34, t_37, t_38, t_39, t_40, t_41, t_44, t_48, t_50, t_51, t_52, t_57, t_59, t_60, t_61, t_62, t_66, t_98, t_99, t_100, t_101, t_102, t_103, t_104, t_105, t_106, t_107, t_108, t_109, t_110, t_111, t_112, t_113, t_114, t_115, t_116, t_121, t_124, t_150, t_200, t_399, t_999, t_2000, vq_i, if_pos, if_neg, bn2_e, bn1_e, lt1_e, asr_t, drf_e, asr_T, gI_sI, gL_sI, gR_sI, gI_sL, gL_sL, gR_sL, gI_sR, gL_sR, gR_sR, eq_self, i32_eq, or_true, true_or, and_true, true_and, or_false, false_or, and_false, false_and, not_true, not_false_iff, if_true, if_false, e1, e2, q2, y, cd]
          · rw [show aw mc g d e k = gI mc 23 k 3 by rw [aw, if_pos t, if_neg (fun q => r (Int32.lt_iff_toInt_lt.mp q))]] at y
            simp (disch := omega) only [Int32.lt_iff_toInt_lt, Int32.le_iff_toInt_le, t_n14, t_n13, t_n12, t_n11, t_n10, t_n5, t_n4, t_n3, t_n2, t_n1, t_0, t_1, t_2, t_3, t_4, t_5, t_6, t_7, t_8, t_9, t_10, t_11, t_12, t_13, t_14, t_15, t_16, t_17, t_18, t_19, t_20, t_21, t_22, t_23, t_24, t_25, t_26, t_27, t_28, t_29, t_30, t_31, t_32, t_33, t_34, t_37, t_38, t_39, t_40, t_41, t_44, t_48, t_50, t_51, t_52, t_57, t_59, t_60, t_61, t_62, t_66, t_98, t_99, t_100, t_101, t_102, t_103, t_104, t_105, t_106, t_107, t_108, t_109, t_110, t_111, t_112, t_113, t_114, t_115, t_116, t_121, t_124, t_150, t_200, t_399, t_999, t_2000, vq_i, if_pos, if_neg, bn2_e, bn1_e, lt1_e, asr_t, drf_e, asr_T, gI_sI, gL_sI, gR_sI, gI_sL, gL_sL, gR_sL, gI_sR, gL_sR, gR_sR, eq_self, i32_eq, or_true, true_or, and_true, true_and, or_false, false_or, and_false, false_and, not_true, not_false_iff, if_true, if_false, e1, e2, q2, y, cd]
        · have t1 : ¬ (gI mc 23 k 1).toInt = g.toInt := fun q => t (i32_eq.mpr q)
          rw [show aw mc g d e k = 0 by rw [aw, if_neg t], Int32.add_zero] at y
          simp (disch := omega) only [Int32.lt_iff_toInt_lt, Int32.le_iff_toInt_le, t_n14, t_n13, t_n12, t_n11, t_n10, t_n5, t_n4, t_n3, t_n2, t_n1, t_0, t_1, t_2, t_3, t_4, t_5, t_6, t_7, t_8, t_9, t_10, t_11, t_12, t_13, t_14, t_15, t_16, t_17, t_18, t_19, t_20, t_21, t_22, t_23, t_24, t_25, t_26, t_27, t_28, t_29, t_30, t_31, t_32, t_33, t_34, t_37, t_38, t_39, t_40, t_41, t_44, t_48, t_50, t_51, t_52, t_57, t_59, t_60, t_61, t_62, t_66, t_98, t_99, t_100, t_101, t_102, t_103, t_104, t_105, t_106, t_107, t_108, t_109, t_110, t_111, t_112, t_113, t_114, t_115, t_116, t_121, t_124, t_150, t_200, t_399, t_999, t_2000, vq_i, if_pos, if_neg, bn2_e, bn1_e, lt1_e, asr_t, drf_e, asr_T, gI_sI, gL_sI, gR_sI, gI_sL, gL_sL, gR_sL, gI_sR, gL_sR, gR_sR, eq_self, i32_eq, or_true, true_or, and_true, true_and, or_false, false_or, and_false, false_and, not_true, not_false_iff, if_true, if_false, e1, e2, q2, y]
theorem comes_l {fl : Nat} {mc mm : Mem} {g d e : Int32} (h : r_L0 mc mm) (hF : r_F mc mm) (hL : r_L mc mm) (hLc : r_Lc mc mm) : ∀ (N k : Nat), k ≤ nl mc → 61 ≤ N + k → f_X12_comes_l6 fl g d e N (sumI (aw mc g d e) k) (nI k) mm = some (sumI (aw mc g d e) (nl mc), mm) := by
  intro N
  have h60 := h.1
  have x0 := h.2.2.1
  have x1 := nI_toInt (n := nl mc) (by omega)
  induction N with
  | zero => intro k h1 h2; omega
  | succ N ih =>
    intro k h1 h2
    have e1 := nI_toInt (n := k) (by omega)
    have e2 := nI_clamp (n := k) (by omega)
    have v : vq (nI k) 60 ∨ k = nl mc := by
      by_cases c : k = nl mc
      · exact Or.inr c
      · exact Or.inl (by rw [vq_i]; omega)
    unfold f_X12_comes_l6 f_X12_comes_l6_b
    by_cases c : k = nl mc
    · subst c; simp (disch := omega) only [Int32.lt_iff_toInt_lt, Int32.le_iff_toInt_le, t_n14, t_n13, t_n12, t_n11, t_n10, t_n5, t_n4, t_n3, t_n2, t_n1, t_0, t_1, t_2, t_3, t_4, t_5, t_6, t_7, t_8, t_9, t_10, t_11, t_12, t_13, t_14, t_15, t_16, t_17, t_18, t_19, t_20, t_21, t_22, t_23, t_24, t_25, t_26, t_27, t_28, t_29, t_30, t_31, t_32, t_33, t_34, t_37, t_38, t_39, t_40, t_41, t_44, t_48, t_50, t_51, t_52, t_57, t_59, t_60, t_61, t_62, t_66, t_98, t_99, t_100, t_101, t_102, t_103, t_104, t_105, t_106, t_107, t_108, t_109, t_110, t_111, t_112, t_113, t_114, t_115, t_116, t_121, t_124, t_150, t_200, t_399, t_999, t_2000, vq_i, if_pos, if_neg, bn2_e, bn1_e, lt1_e, asr_t, drf_e, asr_T, gI_sI, gL_sI, gR_sI, gI_sL, gL_sL, gR_sL, gI_sR, gL_sR, gR_sR, eq_self, i32_eq, or_true, true_or, and_true, true_and, or_false, false_or, and_false, false_and, not_true, not_false_iff, if_true, if_false, x0, e1]
    · have v : vq (nI k) 60 := v.resolve_right c
      have y := ih (k + 1) (by omega) (by omega)
      have z : sumI (aw mc g d e) (k + 1) = sumI (aw mc g d e) k + aw mc g d e k := rfl
      rw [← nI_1, z] at y
      have cd := cdv_12 (e := e) (l := k) (by omega) (by omega) hF hL hLc
      obtain ⟨l0, l1, l2, l3, -⟩ := hL k (by omega)
      rw [if_neg (by rw [x0, Int32.le_iff_toInt_le]; omega), asr_t v]
      simp only [e2]
      by_cases t : gI mm 5 0 k = g
      · rw [if_pos t, asr_t v, cd, bn2_e]
        by_cases r : d < cdv mc e k
        · rw [show aw mc g d e k = 0 by rw [aw, if_pos (by rw [l1]; exact t), if_pos r]] at y
          rw [if_pos r]
          exact y
        · rw [show aw mc g d e k = gI mm 7 0 k by rw [aw, if_pos (by rw [l1]; exact t), if_neg r, l3]] at y
          rw [if_neg r, asr_t v]
          exact y
      · rw [show aw mc g d e k = 0 by rw [aw, if_neg (by rw [l1]; exact t)], Int32.add_zero] at y
        rw [if_neg t]
        exact y
theorem sim_ahead {fl n : Nat} (hfl : 1000 ≤ fl) {mc mm : Mem} (h : RR n mc mm) (a1 a2 a3 : Int32) : Sim (n + 1) (f_X11_ahead fl a1 a2 a3 mc) (f_X12_ahead fl a1 a2 a3 mm) := by
  have h0 := h
  obtain ⟨hT, hF, hL0, hL, hLc, hr⟩ := h
  by_cases c : 1 ≤ a1.toInt ∧ a1.toInt ≤ 5
  · by_cases d : 0 ≤ a2.toInt ∧ a2.toInt ≤ 399
    · have x := will_l (fl := fl) (g := a1) (d := a2) (e := a3) hL0 hL fl 0 (by omega) (by omega)
      have y := comes_l (fl := fl) (g := a1) (d := a2) (e := a3) hL0 hF hL hLc fl 0 (by omega) (by omega)
      have z : sumI (az mc a1 a2 a3) 60 = sumI (aw mc a1 a2 a3) (nl mc) := sumI_cut hL0.1
      rw [show sumI (az mc a1 a2 a3) 0 = 0 from rfl, show nI 0 = 0 from rfl, z] at x
      rw [show sumI (aw mc a1 a2 a3) 0 = 0 from rfl, show nI 0 = 0 from rfl] at y
      exact Sim.same h0 (sumI (aw mc a1 a2 a3) (nl mc)) (by unfold f_X11_ahead f_X11_willHaveCome; simp (disch := omega) only [Int32.lt_iff_toInt_lt, Int32.le_iff_toInt_le, t_n14, t_n13, t_n12, t_n11, t_n10, t_n5, t_n4, t_n3, t_n2, t_n1, t_0, t_1, t_2, t_3, t_4, t_5, t_6, t_7, t_8, t_9, t_10, t_11, t_12, t_13, t_14, t_15, t_16, t_17, t_18, t_19, t_20, t_21, t_22, t_23, t_24, t_25, t_26, t_27, t_28, t_29, t_30, t_31, t_32, t_33, t_34, t_37, t_38, t_39, t_40, t_41, t_44, t_48, t_50, t_51, t_52, t_57, t_59, t_60, t_61, t_62, t_66, t_98, t_99, t_100, t_101, t_102, t_103, t_104, t_105, t_106, t_107, t_108, t_109, t_110, t_111, t_112, t_113, t_114, t_115, t_116, t_121, t_124, t_150, t_200, t_399, t_999, t_2000, vq_i, if_pos, if_neg, bn2_e, bn1_e, lt1_e, asr_t, drf_e, asr_T, gI_sI, gL_sI, gR_sI, gI_sL, gL_sL, gR_sL, gI_sR, gL_sR, gR_sR, eq_self, i32_eq, or_true, true_or, and_true, true_and, or_false, false_or, and_false, false_and, not_true, not_false_iff, if_true, if_false, isPlace_11, isDay_11, x]) (by unfold f_X12_ahead f_X12_comes; simp (disch := omega) only [Int32.lt_iff_toInt_lt, Int32.le_iff_toInt_le, t_n14, t_n13, t_n12, t_n11, t_n10, t_n5, t_n4, t_n3, t_n2, t_n1, t_0, t_1, t_2, t_3, t_4, t_5, t_6, t_7, t_8, t_9, t_10, t_11, t_12, t_13, t_14, t_15, t_16, t_17, t_18, t_19, t_20, t_21, t_22, t_23, t_24, t_25, t_26, t_27, t_28, t_29, t_30, t_31, t_32, t_33, t_34, t_37, t_38, t_39, t_40, t_41, t_44, t_48, t_50, t_51, t_52, t_57, t_59, t_60, t_61, t_62, t_66, t_98, t_99, t_100, t_101, t_102, t_103, t_104, t_105, t_106, t_107, t_108, t_109, t_110, t_111, t_112, t_113, t_114, t_115, t_116, t_121, t_124, t_150, t_200, t_399, t_999, t_2000, vq_i, if_pos, if_neg, bn2_e, bn1_e, lt1_e, asr_t, drf_e, asr_T, gI_sI, gL_sI, gR_sI, gI_sL, gL_sL, gR_sL, gI_sR, gL_sR, gR_sR, eq_self, i32_eq, or_true, true_or, and_true, true_and, or_false, false_or, and_false, false_and, not_true, not_false_iff, if_true, if_false, isKind_12, isDay_12, y])
    · exact Sim.same h0 (-2) (by unfold f_X11_ahead; simp (disch := omega) only [Int32.lt_iff_toInt_lt, Int32.le_iff_toInt_le, t_n14, t_n13, t_n12, t_n11, t_n10, t_n5, t_n4, t_n3, t_n2, t_n1, t_0, t_1, t_2, t_3, t_4, t_5, t_6, t_7, t_8, t_9, t_10, t_11, t_12, t_13, t_14, t_15, t_16, t_17, t_18, t_19, t_20, t_21, t_22, t_23, t_24, t_25, t_26, t_27, t_28, t_29, t_30, t_31, t_32, t_33, t_34, t_37, t_38, t_39, t_40, t_41, t_44, t_48, t_50, t_51, t_52, t_57, t_59, t_60, t_61, t_62, t_66, t_98, t_99, t_100, t_101, t_102, t_103, t_104, t_105, t_106, t_107, t_108, t_109, t_110, t_111, t_112, t_113, t_114, t_115, t_116, t_121, t_124, t_150, t_200, t_399, t_999, t_2000, vq_i, if_pos, if_neg, bn2_e, bn1_e, lt1_e, asr_t, drf_e, asr_T, gI_sI, gL_sI, gR_sI, gI_sL, gL_sL, gR_sL, gI_sR, gL_sR, gR_sR, eq_self, i32_eq, or_true, true_or, and_true, true_and, or_false, false_or, and_false, false_and, not_true, not_false_iff, if_true, if_false, isPlace_11, isDay_11]) (by unfold f_X12_ahead; simp (disch := omega) only [Int32.lt_iff_toInt_lt, Int32.le_iff_toInt_le, t_n14, t_n13, t_n12, t_n11, t_n10, t_n5, t_n4, t_n3, t_n2, t_n1, t_0, t_1, t_2, t_3, t_4, t_5, t_6, t_7, t_8, t_9, t_10, t_11, t_12, t_13, t_14, t_15, t_16, t_17, t_18, t_19, t_20, t_21, t_22, t_23, t_24, t_25, t_26, t_27, t_28, t_29, t_30, t_31, t_32, t_33, t_34, t_37, t_38, t_39, t_40, t_41, t_44, t_48, t_50, t_51, t_52, t_57, t_59, t_60, t_61, t_62, t_66, t_98, t_99, t_100, t_101, t_102, t_103, t_104, t_105, t_106, t_107, t_108, t_109, t_110, t_111, t_112, t_113, t_114, t_115, t_116, t_121, t_124, t_150, t_200, t_399, t_999, t_2000, vq_i, if_pos, if_neg, bn2_e, bn1_e, lt1_e, asr_t, drf_e, asr_T, gI_sI, gL_sI, gR_sI, gI_sL, gL_sL, gR_sL, gI_sR, gL_sR, gR_sR, eq_self, i32_eq, or_true, true_or, and_true, true_and, or_false, false_or, and_false, false_and, not_true, not_false_iff, if_true, if_false, isKind_12, isDay_12])
  · exact Sim.same h0 (-1) (by unfold f_X11_ahead; simp (disch := omega) only [Int32.lt_iff_toInt_lt, Int32.le_iff_toInt_le, t_n14, t_n13, t_n12, t_n11, t_n10, t_n5, t_n4, t_n3, t_n2, t_n1, t_0, t_1, t_2, t_3, t_4, t_5, t_6, t_7, t_8, t_9, t_10, t_11, t_12, t_13, t_14, t_15, t_16, t_17, t_18, t_19, t_20, t_21, t_22, t_23, t_24, t_25, t_26, t_27, t_28, t_29, t_30, t_31, t_32, t_33, t_34, t_37, t_38, t_39, t_40, t_41, t_44, t_48, t_50, t_51, t_52, t_57, t_59, t_60, t_61, t_62, t_66, t_98, t_99, t_100, t_101, t_102, t_103, t_104, t_105, t_106, t_107, t_108, t_109, t_110, t_111, t_112, t_113, t_114, t_115, t_116, t_121, t_124, t_150, t_200, t_399, t_999, t_2000, vq_i, if_pos, if_neg, bn2_e, bn1_e, lt1_e, asr_t, drf_e, asr_T, gI_sI, gL_sI, gR_sI, gI_sL, gL_sL, gR_sL, gI_sR, gL_sR, gR_sR, eq_self, i32_eq, or_true, true_or, and_true, true_and, or_false, false_or, and_false, false_and, not_true, not_false_iff, if_true, if_false, isPlace_11]) (by unfold f_X12_ahead; simp (disch := omega) only [Int32.lt_iff_toInt_lt, Int32.le_iff_toInt_le, t_n14, t_n13, t_n12, t_n11, t_n10, t_n5, t_n4, t_n3, t_n2, t_n1, t_0, t_1, t_2, t_3, t_4, t_5, t_6, t_7, t_8, t_9, t_10, t_11, t_12, t_13, t_14, t_15, t_16, t_17, t_18, t_19, t_20, t_21, t_22, t_23, t_24, t_25, t_26, t_27, t_28, t_29, t_30, t_31, t_32, t_33, t_34, t_37, t_38, t_39, t_40, t_41, t_44, t_48, t_50, t_51, t_52, t_57, t_59, t_60, t_61, t_62, t_66, t_98, t_99, t_100, t_101, t_102, t_103, t_104, t_105, t_106, t_107, t_108, t_109, t_110, t_111, t_112, t_113, t_114, t_115, t_116, t_121, t_124, t_150, t_200, t_399, t_999, t_2000, vq_i, if_pos, if_neg, bn2_e, bn1_e, lt1_e, asr_t, drf_e, asr_T, gI_sI, gL_sI, gR_sI, gI_sL, gL_sL, gR_sL, gI_sR, gL_sR, gR_sR, eq_self, i32_eq, or_true, true_or, and_true, true_and, or_false, false_or, and_false, false_and, not_true, not_false_iff, if_true, if_false, isKind_12])
