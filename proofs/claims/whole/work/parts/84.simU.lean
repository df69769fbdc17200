theorem sum_rg {f : Nat → Int32} {n : Nat} (hn : n ≤ 60) (h : ∀ k, k < n → rg (f k) 0 999) : rg (sumI f n) 0 (999 * n) := by
  induction n with
  | zero => exact ⟨by show 0 ≤ Int32.toInt 0; decide, by show Int32.toInt 0 ≤ 999 * ((0 : Nat) : Int); decide⟩
  | succ n ih =>
    obtain ⟨h1, h2⟩ := ih (by omega) (fun k hk => h k (by omega))
    obtain ⟨h3, h4⟩ := h n (by omega)
    have e : (sumI f (n + 1)).toInt = (sumI f n).toInt + (f n).toInt := add_rg (by omega) (by omega)
    exact ⟨by rw [e]; omega, by rw [e]; omega⟩
theorem rg_0 (n : Int) (h : 0 ≤ n) : rg 0 0 n := ⟨by decide, by rw [t_0]; exact h⟩
theorem wn_rg {mm : Mem} {r w : Nat} (hw : w ≤ 20) (h : ∀ k, k < w → rg (gI mm 39 0 k) 1 999) : rg (sumI (wn mm r) w) 0 20000 := by
  have := sum_rg (f := wn mm r) (n := w) (by omega) (fun k hk => by
    have := rg_i (h k hk)
    unfold wn
    split
    · split
      · exact rg_0 _ (by omega)
      · exact ⟨by omega, by omega⟩
    · exact rg_0 _ (by omega))
  exact ⟨this.1, Int.le_trans this.2 (by omega)⟩
theorem aw_rg {mc mm : Mem} {g d e : Int32} (h : r_L0 mc mm) (hL : r_L mc mm) : rg (sumI (aw mc g d e) (nl mc)) 0 60000 := by
  have h1 := h.1
  have := sum_rg (f := aw mc g d e) (n := nl mc) h1 (fun k hk => by
    obtain ⟨l0, l1, l2, l3, l4, l5, l6, l7, l8, -⟩ := hL k hk
    have := rg_i l8
    unfold aw
    split
    · split
      · exact rg_0 _ (by omega)
      · rw [l3]; exact ⟨by omega, by omega⟩
    · exact rg_0 _ (by omega))
  exact ⟨this.1, Int.le_trans this.2 (by omega)⟩
def nd (mc mm : Mem) (k : Nat) : Prop := ∀ r, r < k → ∃ a b : Int32, gI mc 32 0 r = a - b ∧ gI mm 45 0 r = a ∧ gI mm 46 0 r = b ∧ rg a 0 20000 ∧ rg b 0 60000
theorem RR.nd1 {n k : Nat} {mc mm : Mem} {a b c : Int32} (h : RR n mc mm) : RR n (sI mc 32 0 k a) (sI (sI mm 45 0 k b) 46 0 k c) := by
  obtain ⟨hT, hF, hL0, hL, hLc, hLg, hSb, hSs, hB, hP, hN, hG0, hG, hGd, hGw, hPw, hPa, hNa, hA, hTa, hR, hS, hW0, hW⟩ := h
  exact ⟨hT, hF, hL0, hL, hLc, hLg, hSb, hSs, hB, hP, hN, hG0, hG, hGd, hGw, hPw, hPa, hNa, hA, hTa, hR, hS, hW0, hW⟩
theorem look_l {fl n w : Nat} (hfl : 1000 ≤ fl) {g1 : Int32} (hw : w ≤ 20) : ∀ (N k : Nat) (mc mm : Mem), RR n mc mm → gI mc 9 0 0 = nI w → nd mc mm k → k ≤ w → 21 ≤ N + k → ∃ mc' mm', f_X11_lookAhead_l2 fl g1 N (nI k) mc = some mc' ∧ f_X12_findNeeds_l2 fl g1 N (nI k) mm = some mm' ∧ RR n mc' mm' ∧ nd mc' mm' w ∧ gI mc' 9 0 0 = nI w := by
  intro N
  have x1 := nI_toInt (n := w) (by omega)
  induction N with
  | zero => intro k mc mm h h0 h1 h2 h3; omega
  | succ N ih =>
    intro k mc mm h w1 hnd h1 h2
    have h0 := h
    obtain ⟨hT, hF, hL0, hL, hLc, hLg, hSb, hSs, hB, hP, hN, hG0, hG, hGd, hGw, ⟨v, v1, v2, v3, v4⟩, hr⟩ := h
    have ev : v = w := by
      rw [v2] at w1
      exact (nI_eq (by omega) (by omega)).mp w1
    subst ev
    have e1 := nI_toInt (n := k) (by omega)
    have e2 := nI_clamp (n := k) (by omega)
    by_cases c : k = v
    · subst c
      exact ⟨mc, mm, by unfold f_X11_lookAhead_l2 f_X11_lookAhead_l2_b; simp (disch := omega) only [Int32.lt_iff_toInt_lt, Int32.le_iff_toInt_le, t_n14, t_n13, t_n12, t_n11, t_n10, t_n5, t_n4, t_n3, t_n2, t_n1, t_0, t_1, t_2, t_3, t_4, t_5, t_6, t_7, t_8, t_9, t_10, t_11, t_12, t_13, t_14, t_15, t_16, t_17, t_18, t_19, t_20, t_21, t_22, t_23, t_24, t_25, t_26, t_27, t_28, t_29, t_30, t_31, t_32, t_33, t_34, t_37, t_38, t_39, t_40, t_41, t_44, t_48, t_50, t_51, t_52, t_57, t_59, t_60, t_61, t_62, t_66, t_98, t_99, t_100, t_101, t_102, t_103, t_104, t_105, t_106, t_107, t_108, t_109, t_110, t_111, t_112, t_113, t_114, t_115, t_116, t_121, t_124, t_150, t_200, t_399, t_999, t_2000, vq_i, if_pos, if_neg, bn2_e, bn1_e, lt1_e, asr_t, drf_e, asr_T, gI_sI, gL_sI, gR_sI, gI_sL, gL_sL, gR_sL, gI_sR, gL_sR, gR_sR, eq_self, i32_eq, or_true, true_or, and_true, true_and, or_false, false_or, and_false, false_and, not_true, not_false_iff, if_true, if_false, w1, e1], by unfold f_X12_findNeeds_l2 f_X12_findNeeds_l2_b; simp (disch := omega) only [Int32.lt_iff_toInt_lt, Int32.le_iff_toInt_le, t_n14, t_n13, t_n12, t_n11, t_n10, t_n5, t_n4, t_n3, t_n2, t_n1, t_0, t_1, t_2, t_3, t_4, t_5, t_6, t_7, t_8, t_9, t_10, t_11, t_12, t_13, t_14, t_15, t_16, t_17, t_18, t_19, t_20, t_21, t_22, t_23, t_24, t_25, t_26, t_27, t_28, t_29, t_30, t_31, t_32, t_33, t_34, t_37, t_38, t_39, t_40, t_41, t_44, t_48, t_50, t_51, t_52, t_57, t_59, t_60, t_61, t_62, t_66, t_98, t_99, t_100, t_101, t_102, t_103, t_104, t_105, t_106, t_107, t_108, t_109, t_110, t_111, t_112, t_113, t_114, t_115, t_116, t_121, t_124, t_150, t_200, t_399, t_999, t_2000, vq_i, if_pos, if_neg, bn2_e, bn1_e, lt1_e, asr_t, drf_e, asr_T, gI_sI, gL_sI, gR_sI, gI_sL, gL_sL, gR_sL, gI_sR, gL_sR, gR_sR, eq_self, i32_eq, or_true, true_or, and_true, true_and, or_false, false_or, and_false, false_and, not_true, not_false_iff, if_true, if_false, v3, e1], h0, hnd, w1⟩
    · obtain ⟨k1, k2, k3, -⟩ := v4 k (by omega)
      have p1 := wanted_l (fl := fl) (r := k) (w := v) (mc := mc) (mm := mm) (by omega) hw w1 v4 fl 0 (by omega) (by omega)
      have p2 := needs_l (fl := fl) (r := k) (w := v) (g1 := g1) (mm := mm) (by omega) hw v3 fl 0 (by omega) (by omega)
      have q1 := will_l (fl := fl) (mc := mc) (mm := mm) (g := gI mm 38 0 k) (d := gI mm 40 0 k) (e := g1) hL0 hL fl 0 (by omega) (by omega)
      have q2 := comes_l (fl := fl) (mc := mc) (mm := sI mm 45 0 k (sumI (wn mm k) v)) (g := gI mm 38 0 k) (d := gI mm 40 0 k) (e := g1) hL0 hF hL hLc fl 0 (by omega) (by omega)
      have z : sumI (az mc (gI mm 38 0 k) (gI mm 40 0 k) g1) 60 = sumI (aw mc (gI mm 38 0 k) (gI mm 40 0 k) g1) (nl mc) := sumI_cut hL0.1
      rw [show sumI (az mc (gI mm 38 0 k) (gI mm 40 0 k) g1) 0 = 0 from rfl, show nI 0 = 0 from rfl, z] at q1
      rw [show sumI (aw mc (gI mm 38 0 k) (gI mm 40 0 k) g1) 0 = 0 from rfl, show nI 0 = 0 from rfl] at q2
      rw [show sumI (wn mm k) 0 = 0 from rfl, show nI 0 = 0 from rfl] at p1 p2
      have r1 := wn_rg (mm := mm) (r := k) hw (fun j hj => (v4 j hj).2.2.2.2.1)
      have r2 := aw_rg (g := gI mm 38 0 k) (d := gI mm 40 0 k) (e := g1) hL0 hL
      clear z
      generalize sumI (aw mc (gI mm 38 0 k) (gI mm 40 0 k) g1) (nl mc) = C at q1 q2 r2
      generalize sumI (wn mm k) v = W at p1 p2 q2 r1
      obtain ⟨mc', mm', y1, y2, y3, y4, y5⟩ := ih (k + 1) _ _ (h0.nd1 (k := k) (a := W - C) (b := W) (c := C)) (by simpa [gI_sI] using w1) (by
        intro r hr'
        by_cases e : r = k
        · rw [e]
          refine ⟨W, C, ?_, ?_, ?_, r1, r2⟩
          · rw [gI_sI, if_pos ⟨rfl, rfl, rfl⟩]
          · rw [gI_sI, if_neg (fun q => absurd q.1 (by decide)), gI_sI, if_pos ⟨rfl, rfl, rfl⟩]
          · rw [gI_sI, if_pos ⟨rfl, rfl, rfl⟩]
        · obtain ⟨a, b, u1, u2, u3, u4, u5⟩ := hnd r (Nat.lt_of_le_of_ne (Nat.le_of_lt_succ hr') e)
          refine ⟨a, b, ?_, ?_, ?_, u4, u5⟩
          · rw [gI_sI, if_neg (fun q => e q.2.2)]; exact u1
          · rw [gI_sI, if_neg (fun q => absurd q.1 (by decide)), gI_sI, if_neg (fun q => e q.2.2)]; exact u2
          · rw [gI_sI, if_neg (fun q => e q.2.2), gI_sI, if_neg (fun q => absurd q.1 (by decide))]; exact u3) (by omega) (by omega)
      rw [← nI_1] at y1 y2
      refine ⟨mc', mm', ?_, ?_, y3, y4, y5⟩
      · unfold f_X11_lookAhead_l2 f_X11_lookAhead_l2_b f_X11_willHaveCome f_X6_wantedWith
        simp (disch := omega) only [Int32.lt_iff_toInt_lt, Int32.le_iff_toInt_le, t_n14, t_n13, t_n12, t_n11, t_n10, t_n5, t_n4, t_n3, t_n2, t_n1, t_0, t_1, t_2, t_3, t_4, t_5, t_6, t_7, t_8, t_9, t_10, t_11, t_12, t_13, t_14, t_15, t_16, t_17, t_18, t_19, t_20, t_21, t_22, t_23, t_24, t_25, t_26, t_27, t_28, t_29, t_30, t_31, t_32, t_33, t_34, t_37, t_38, t_39, t_40, t_41, t_44, t_48, t_50, t_51, t_52, t_57, t_59, t_60, t_61, t_62, t_66, t_98, t_99, t_100, t_101, t_102, t_103, t_104, t_105, t_106, t_107, t_108, t_109, t_110, t_111, t_112, t_113, t_114, t_115, t_116, t_121, t_124, t_150, t_200, t_399, t_999, t_2000, vq_i, if_pos, if_neg, bn2_e, bn1_e, lt1_e, asr_t, drf_e, asr_T, gI_sI, gL_sI, gR_sI, gI_sL, gL_sL, gR_sL, gI_sR, gL_sR, gR_sR, eq_self, i32_eq, or_true, true_or, and_true, true_and, or_false, false_or, and_false, false_and, not_true, not_false_iff, if_true, if_false, w1, e1, e2, x1, k1, k3, q1, p1, y1]
      · unfold f_X12_findNeeds_l2 f_X12_findNeeds_l2_b f_X12_comes
        simp (disch := omega) only [Int32.lt_iff_toInt_lt, Int32.le_iff_toInt_le, t_n14, t_n13, t_n12, t_n11, t_n10, t_n5, t_n4, t_n3, t_n2, t_n1, t_0, t_1, t_2, t_3, t_4, t_5, t_6, t_7, t_8, t_9, t_10, t_11, t_12, t_13, t_14, t_15, t_16, t_17, t_18, t_19, t_20, t_21, t_22, t_23, t_24, t_25, t_26, t_27, t_28, t_29, t_30, t_31, t_32, t_33, t_34, t_37, t_38, t_39, t_40, t_41, t_44, t_48, t_50, t_51, t_52, t_57, t_59, t_60, t_61, t_62, t_66, t_98, t_99, t_100, t_101, t_102, t_103, t_104, t_105, t_106, t_107, t_108, t_109, t_110, t_111, t_112, t_113, t_114, t_115, t_116, t_121, t_124, t_150, t_200, t_399, t_999, t_2000, vq_i, if_pos, if_neg, bn2_e, bn1_e, lt1_e, asr_t, drf_e, asr_T, gI_sI, gL_sI, gR_sI, gI_sL, gL_sL, gR_sL, gI_sR, gL_sR, gR_sR, eq_self, i32_eq, or_true, true_or, and_true, true_and, or_false, false_or, and_false, false_and, not_true, not_false_iff, if_true, if_false, v3, e1, e2, x1, q2, p2, y2]
