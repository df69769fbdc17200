theorem RR.f29 {n lo hi : Nat} {mc mm : Mem} {v : Int32} (h : RR n mc mm) : RR n (fI mc 29 0 lo hi v) mm := by
  obtain ⟨hT, hF, hL0, hL, hLc, hLg, hSb, hSs, hB, hP, hN, hG0, hG, hGd, hGw, hPw, hPa, hNa, hA, hTa, hR, hS, hW0, hW⟩ := h
  exact ⟨hT, hF, hL0, hL, hLc, hLg, hSb, hSs, hB, hP, hN, hG0, hG, hGd, hGw, hPw, hPa, hNa, hA, hTa, hR, hS, hW0, hW⟩
theorem runh0_l {fl : Nat} {g : Int32} : ∀ (N k : Nat) (m : Mem), k ≤ 30 → 31 ≤ N + k → f_X10_runHour_l2 fl g N (nI k) m = some (fI m 29 0 k 30 0) := by
  intro N
  induction N with
  | zero => intro k m h1 h2; omega
  | succ N ih =>
    intro k m h1 h2
    show f_X10_runHour_l2_b (f_X10_runHour_l2 fl g N) fl g (nI k) m = _
    have i1 := nI_toInt (n := k) (by omega)
    have i2 := nI_clamp (n := k) (by omega)
    unfold f_X10_runHour_l2_b
    by_cases e : k = 30
    · rw [fI_end (by omega)]
      simp (disch := omega) only [Int32.lt_iff_toInt_lt, Int32.le_iff_toInt_le, t_n14, t_n13, t_n12, t_n11, t_n10, t_n5, t_n4, t_n3, t_n2, t_n1, t_0, t_1, t_2, t_3, t_4, t_5, t_6, t_7, t_8, t_9, t_10, t_11, t_12, t_13, t_14, t_15, t_16, t_17, t_18, t_19, t_20, t_21, t_22, t_23, t_24, t_25, t_26, t_27, t_28, t_29, t_30, t_31, t_32, t_33, t_34, t_37, t_38, t_39, t_40, t_41, t_44, t_48, t_50, t_51, t_52, t_57, t_59, t_60, t_61, t_62, t_66, t_98, t_99, t_100, t_101, t_102, t_103, t_104, t_105, t_106, t_107, t_108, t_109, t_110, t_111, t_112, t_113, t_114, t_115, t_116, t_121, t_124, t_150, t_200, t_399, t_999, t_2000, vq_i, if_pos, if_neg, bn2_e, bn1_e, lt1_e, asr_t, drf_e, asr_T, gI_sI, gL_sI, gR_sI, gI_sL, gL_sL, gR_sL, gI_sR, gL_sR, gR_sR, eq_self, i32_eq, or_true, true_or, and_true, true_and, or_false, false_or, and_false, false_and, not_true, not_false_iff, if_true, if_false, i1]
    · simp (disch := omega) only [Int32.lt_iff_toInt_lt, Int32.le_iff_toInt_le, t_n14, t_n13, t_n12, t_n11, t_n10, t_n5, t_n4, t_n3, t_n2, t_n1, t_0, t_1, t_2, t_3, t_4, t_5, t_6, t_7, t_8, t_9, t_10, t_11, t_12, t_13, t_14, t_15, t_16, t_17, t_18, t_19, t_20, t_21, t_22, t_23, t_24, t_25, t_26, t_27, t_28, t_29, t_30, t_31, t_32, t_33, t_34, t_37, t_38, t_39, t_40, t_41, t_44, t_48, t_50, t_51, t_52, t_57, t_59, t_60, t_61, t_62, t_66, t_98, t_99, t_100, t_101, t_102, t_103, t_104, t_105, t_106, t_107, t_108, t_109, t_110, t_111, t_112, t_113, t_114, t_115, t_116, t_121, t_124, t_150, t_200, t_399, t_999, t_2000, vq_i, if_pos, if_neg, bn2_e, bn1_e, lt1_e, asr_t, drf_e, asr_T, gI_sI, gL_sI, gR_sI, gI_sL, gL_sL, gR_sL, gI_sR, gL_sR, gR_sR, eq_self, i32_eq, or_true, true_or, and_true, true_and, or_false, false_or, and_false, false_and, not_true, not_false_iff, if_true, if_false, i1, i2]
      rw [nI_1, ih (k + 1) _ (by omega) (by omega), fI_step (by omega)]
theorem runh2_l {fl n : Nat} {mm : Mem} {pn : Nat → Nat} {gt : Nat → Option Nat} {vv ld W C K R S : Nat → Int32} : ∀ (N k : Nat) (mc : Mem), RR n mc mm → wfx mc mm pn gt vv ld → k ≤ 30 → 31 ≤ N + k → (∀ j, j < 24 → gI mc 25 0 j = R j) →
    (∀ j, j < 30 → gI mc 26 0 j = W j ∧ gI mc 28 0 j = (if j < k then S j else C j) ∧ gI mc 27 0 j = K j ∧ gI mc 29 0 j = S j) →
    ∃ mc', f_X10_runHour_l116 fl N (nI k) mc = some mc' ∧ RR n mc' mm ∧ wfx mc' mm pn gt vv ld ∧ (∀ j, j < 24 → gI mc' 25 0 j = R j) ∧ ∀ j, j < 30 → gI mc' 26 0 j = W j ∧ gI mc' 28 0 j = S j ∧ gI mc' 27 0 j = K j := by
  intro N
  induction N with
  | zero => intro k mc h0 hw h1 h2; omega
  | succ N ih =>
    intro k mc h0 hw h1 h2 h25 hst
    have e1 := nI_toInt (n := k) (by omega)
    have e2 := nI_clamp (n := k) (by omega)
    show ∃ mc', f_X10_runHour_l116_b (f_X10_runHour_l116 fl N) fl (nI k) mc = some mc' ∧ _
    unfold f_X10_runHour_l116_b
    by_cases c : k = 30
    · subst c
      refine ⟨mc, by rw [if_pos (by rw [Int32.le_iff_toInt_le, e1]; decide)], h0, hw, h25, fun j hj => ?_⟩
      obtain ⟨q1, q2, q3, q4⟩ := hst j hj
      rw [if_pos hj] at q2
      exact ⟨q1, q2, q3⟩
    · have av : vq (nI k) 30 := by rw [vq_i, e1]; omega
      obtain ⟨mc', y⟩ := ih (k + 1) (sI mc 28 0 k (S k)) h0.w28 hw (by omega) (by omega) h25 (by
        intro j hj
        obtain ⟨q1, q2, q3, q4⟩ := hst j hj
        simp only [gI_sI, show ¬ (26 : Nat) = 28 by decide, show ¬ (27 : Nat) = 28 by decide, show ¬ (29 : Nat) = 28 by decide, false_and, if_false, true_and]
        refine ⟨q1, ?_, q3, q4⟩
        by_cases g : j = k
        · subst g
          rw [if_pos rfl, if_pos (by omega)]
        · rw [if_neg g, q2]
          by_cases g2 : j < k
          · rw [if_pos g2, if_pos (by omega)]
          · rw [if_neg g2, if_neg (by omega)])
      rw [← nI_1] at y
      refine ⟨mc', ?_, y.2⟩
      rw [if_neg (by rw [Int32.le_iff_toInt_le, e1]; show ¬ (30 : Int) ≤ k; omega), asr_t av, asr_t av]
      simp only [e2, (hst k (by omega)).2.2.2]
      rw [lt1_e, lt1_e]
      exact y.1
theorem hour_11 {fl n r h : Nat} (hfl : 1000 ≤ fl) {mc mm : Mem} {pn : Nat → Nat} {gt : Nat → Option Nat} {vv ld W C K R : Nat → Int32} (hr : r ≤ 99) (hh : h < 24) (hwr : wrg pn W C h) (h0 : RR n mc mm) (hw : wfx mc mm pn gt vv ld) (h25 : ∀ j, j < 24 → gI mc 25 0 j = R j) (hst : ∀ j, j < 30 → gI mc 26 0 j = W j ∧ gI mc 28 0 j = C j ∧ gI mc 27 0 j = K j) :
    ∃ mc', f_X10_runHour fl (nI r) mc = some mc' ∧ RR n mc' mm ∧ wfx mc' mm pn gt vv ld ∧ (∀ j, j < 24 → gI mc' 25 0 j = R j) ∧ ∀ j, j < 30 → gI mc' 26 0 j = w2 pn gt vv (nI r) W C j ∧ gI mc' 28 0 j = snt pn gt vv ld (nI r) W C 30 j ∧ gI mc' 27 0 j = k2 pn gt vv (nI r) W C K j := by
  have y1 := runh0_l (fl := fl) (g := nI r) fl 0 mc (by omega) (by omega)
  obtain ⟨m2, z1, z2, z3, z4, z5⟩ := runH_l (fl := fl) (n := n) (K := K) (R := R) hr hh hwr fl 0 (fI mc 29 0 0 30 0) h0.f29 hw (by omega) (by omega) h25 (by
    intro j hj
    obtain ⟨q1, q2, q3⟩ := hst j hj
    refine ⟨by rw [if_neg (by omega)]; exact q1, q2, by rw [if_neg (by omega)]; exact q3, ?_⟩
    rw [gI_fI, if_pos ⟨rfl, rfl, by omega, by omega⟩]; rfl)
  obtain ⟨m3, x1, x2, x3, x4, x5⟩ := runh2_l (fl := fl) (n := n) (W := w2 pn gt vv (nI r) W C) (C := C) (K := k2 pn gt vv (nI r) W C K) (R := R) (S := snt pn gt vv ld (nI r) W C 30) fl 0 m2 z2 z3 (by omega) (by omega) z4 (fun j hj => by
    obtain ⟨q1, q2, q3, q4⟩ := z5 j hj
    exact ⟨q1, by rw [if_neg (by omega)]; exact q2, q3, q4⟩)
  rw [show nI 0 = 0 from rfl] at y1 z1 x1
  refine ⟨m3, ?_, x2, x3, x4, x5⟩
  unfold f_X10_runHour f_X10_runHour_b114
  rw [y1, bn1_e, z1, bn1_e, x1, bn1_e]
/-! the reference's three rounds -/
theorem flow1_l {fl n r h : Nat} {g1 : Int32} {mc : Mem} {pn : Nat → Nat} {gt : Nat → Option Nat} {vv ld W C K R : Nat → Int32} (hr : R h = nI r) (hh : h < 24) : ∀ (N k : Nat) (mm : Mem), RR n mc mm → wfx mc mm pn gt vv ld → k ≤ 30 → 31 ≤ N + k → (∀ j, j < 24 → gI mm 28 0 j = R j) →
    (∀ j, j < 30 → gI mm 29 0 j = (if j < k then w1 pn (nI r) W C j else W j) ∧ gI mm 30 0 j = (if j < k then 0 else C j) ∧ gI mm 31 0 j = K j) →
    ∃ mm', f_X12_flow_l44 fl g1 (nI h) N (nI k) mm = some mm' ∧ RR n mc mm' ∧ wfx mc mm' pn gt vv ld ∧ (∀ j, j < 24 → gI mm' 28 0 j = R j) ∧ ∀ j, j < 30 → gI mm' 29 0 j = w1 pn (nI r) W C j ∧ gI mm' 30 0 j = 0 ∧ gI mm' 31 0 j = K j := by
  intro N
  induction N with
  | zero => intro k mm h0 hw h1 h2; omega
  | succ N ih =>
    intro k mm h0 hw h1 h2 h28 hst
    have e1 := nI_toInt (n := k) (by omega)
    have e2 := nI_clamp (n := k) (by omega)
    have e3 := nI_toInt (n := h) (by omega)
    have e4 := nI_clamp (n := h) (by omega)
    show ∃ mm', f_X12_flow_l44_b (f_X12_flow_l44 fl g1 (nI h) N) fl g1 (nI h) (nI k) mm = some mm' ∧ _
    unfold f_X12_flow_l44_b
    by_cases c : k = 30
    · subst c
      refine ⟨mm, by rw [if_pos (by rw [Int32.le_iff_toInt_le, e1]; decide)], h0, hw, h28, fun j hj => ?_⟩
      obtain ⟨q1, q2, q3⟩ := hst j hj
      rw [if_pos hj] at q1 q2
      exact ⟨q1, q2, q3⟩
    · have av : vq (nI k) 30 := by rw [vq_i, e1]; omega
      have av2 : vq (nI h) 24 := by rw [vq_i, e3]; omega
      obtain ⟨x1, x2, x3, -⟩ := hw k (by omega)
      have ip := nI_toInt (n := pn k) (by omega)
      obtain ⟨s1, s2, s3⟩ := hst k (by omega)
      rw [if_neg (by omega)] at s1 s2
      rw [if_neg (by rw [Int32.le_iff_toInt_le, e1]; show ¬ (30 : Int) ≤ k; omega)]
      simp only [asr_t av, asr_t av2, e2, e4, x2]
      by_cases z : pn k = 0
      · obtain ⟨mm', y⟩ := ih (k + 1) (sI mm 30 0 k 0) h0.v30 hw (by omega) (by omega) h28 (by
          intro j hj
          obtain ⟨q1, q2, q3⟩ := hst j hj
          simp only [gI_sI, show ¬ (29 : Nat) = 30 by decide, show ¬ (31 : Nat) = 30 by decide, false_and, if_false, true_and]
          by_cases g : j = k
          · subst g
            rw [if_pos (by omega), if_pos rfl, if_pos (by omega), w1_0 z]
            exact ⟨s1, rfl, q3⟩
          · rw [if_neg g, q1, q2]
            by_cases g2 : j < k
            · rw [if_pos g2, if_pos g2, if_pos (by omega), if_pos (by omega)]; exact ⟨rfl, rfl, q3⟩
            · rw [if_neg g2, if_neg g2, if_neg (by omega), if_neg (by omega)]; exact ⟨rfl, rfl, q3⟩)
        rw [← nI_1] at y
        refine ⟨mm', ?_, y.2⟩
        rw [z, if_pos (by decide), bn1_e, lt1_e, lt1_e]
        exact y.1
      · have ew : gI mm 29 0 k + (gI mm 28 0 h * nI (pn k) / 8 + gI mm 30 0 k) = w1 pn (nI r) W C k := by
          unfold w1
          rw [if_neg z, s1, s2, h28 h hh, hr]
        obtain ⟨mm', y⟩ := ih (k + 1) (sI (sI mm 29 0 k (w1 pn (nI r) W C k)) 30 0 k 0) h0.v29.v30 hw (by omega) (by omega) h28 (by
          intro j hj
          obtain ⟨q1, q2, q3⟩ := hst j hj
          simp only [gI_sI, show ¬ (29 : Nat) = 30 by decide, show ¬ (31 : Nat) = 30 by decide, show ¬ (31 : Nat) = 29 by decide, show ¬ (30 : Nat) = 29 by decide, false_and, if_false, true_and]
          by_cases g : j = k
          · subst g
            rw [if_pos rfl, if_pos (by omega), if_pos rfl, if_pos (by omega)]
            exact ⟨rfl, rfl, q3⟩
          · rw [if_neg g, if_neg g, q1, q2]
            by_cases g2 : j < k
            · rw [if_pos g2, if_pos g2, if_pos (by omega), if_pos (by omega)]; exact ⟨rfl, rfl, q3⟩
            · rw [if_neg g2, if_neg g2, if_neg (by omega), if_neg (by omega)]; exact ⟨rfl, rfl, q3⟩)
        rw [← nI_1] at y
        refine ⟨mm', ?_, y.2⟩
        rw [if_neg (by rw [Int32.le_iff_toInt_le, ip, t_0]; omega), lt1_e, ew, bn1_e, lt1_e, lt1_e]
        exact y.1
theorem hasg_12 {fl b : Nat} {mc mm : Mem} {pn : Nat → Nat} {gt : Nat → Option Nat} {vv ld : Nat → Int32} (hb : b < 30) (hw : wfx mc mm pn gt vv ld) : f_X12_has fl (nI b) 4 mm = some (match gt b with | none => 0 | some _ => 1, mm) := by
  obtain ⟨x1, x2, x3, x4, x5, x6, x7, x8⟩ := hw b hb
  have e5 : (5 : Int32) * nI b + 4 - 1 = nI (5 * b + 3) := by
    rw [show (5 : Int32) * nI b = nI (5 * b) from pk_mul 5 b, show nI (5 * b) + 4 = nI (5 * b + 4) from nI_add _ 4]
    exact pk_sub (b := 1) (by omega)
  have e6 := nI_toInt (n := 5 * b + 3) (by omega)
  have e7 := nI_clamp (n := 5 * b + 3) (by omega)
  unfold f_X12_has
  rw [if_neg (by decide), e5, asr_t (by rw [vq_i, e6]; omega), e7]
  cases hg : gt b with
  | none =>
    rw [hg] at x8
    rw [if_pos (by rw [Int32.lt_iff_toInt_lt, x8.2]; decide)]
  | some l =>
    rw [hg] at x8
    obtain ⟨y1, y2, y3, y4, y5, y6⟩ := x8
    have := nI_toInt (n := l) (by omega)
    rw [if_neg (by rw [Int32.lt_iff_toInt_lt, y4, this, t_0]; omega)]
theorem flow2_l {fl n r : Nat} {g1 g2 : Int32} {mc : Mem} {pn : Nat → Nat} {gt : Nat → Option Nat} {vv ld W C K R : Nat → Int32} : ∀ (N k : Nat) (mm : Mem), RR n mc mm → wfx mc mm pn gt vv ld → k ≤ 30 → 31 ≤ N + k → (∀ j, j < 24 → gI mm 28 0 j = R j) →
    (∀ j, j < 30 → gI mm 29 0 j = (if j < k then w2 pn gt vv (nI r) W C j else w1 pn (nI r) W C j) ∧ gI mm 30 0 j = snt pn gt vv ld (nI r) W C k j ∧ gI mm 31 0 j = K j) →
    ∃ mm', f_X12_flow_l106 fl g1 g2 N (nI k) mm = some mm' ∧ RR n mc mm' ∧ wfx mc mm' pn gt vv ld ∧ (∀ j, j < 24 → gI mm' 28 0 j = R j) ∧ ∀ j, j < 30 → gI mm' 29 0 j = w2 pn gt vv (nI r) W C j ∧ gI mm' 30 0 j = snt pn gt vv ld (nI r) W C 30 j ∧ gI mm' 31 0 j = K j := by
  intro N
  induction N with
  | zero => intro k mm h0 hw h1 h2; omega
  | succ N ih =>
    intro k mm h0 hw h1 h2 h28 hst
    have e1 := nI_toInt (n := k) (by omega)
    have e2 := nI_clamp (n := k) (by omega)
    show ∃ mm', f_X12_flow_l106_b (f_X12_flow_l106 fl g1 g2 N) fl g1 g2 (nI k) mm = some mm' ∧ _
    unfold f_X12_flow_l106_b
    by_cases c : k = 30
    · subst c
      refine ⟨mm, by rw [if_pos (by rw [Int32.le_iff_toInt_le, e1]; decide)], h0, hw, h28, fun j hj => ?_⟩
      obtain ⟨q1, q2, q3⟩ := hst j hj
      rw [if_pos hj] at q1
      exact ⟨q1, q2, q3⟩
    · have av : vq (nI k) 30 := by rw [vq_i, e1]; omega
      obtain ⟨x1, x2, x3, x4, x5, x6, x7, x8⟩ := hw k (by omega)
      have ip := nI_toInt (n := pn k) (by omega)
      obtain ⟨s1, s2, s3⟩ := hst k (by omega)
      rw [if_neg (by omega)] at s1
      have skip : tk pn gt vv (nI r) W C k = 0 → ∃ mm', f_X12_flow_l106 fl g1 g2 N (nI k + 1) mm = some mm' ∧ RR n mc mm' ∧ wfx mc mm' pn gt vv ld ∧ (∀ j, j < 24 → gI mm' 28 0 j = R j) ∧ ∀ j, j < 30 → gI mm' 29 0 j = w2 pn gt vv (nI r) W C j ∧ gI mm' 30 0 j = snt pn gt vv ld (nI r) W C 30 j ∧ gI mm' 31 0 j = K j := by
        intro zt
        obtain ⟨mm', y⟩ := ih (k + 1) mm h0 hw (by omega) (by omega) h28 (by
          intro j hj
          obtain ⟨q1, q2, q3⟩ := hst j hj
          rw [snt_0 zt]
          refine ⟨?_, q2, q3⟩
          by_cases g : j = k
          · subst g
            rw [if_pos (by omega), s1]
            unfold w2
            rw [zt, Int32.sub_zero]
          · rw [q1]
            by_cases g2 : j < k
            · rw [if_pos g2, if_pos (by omega)]
            · rw [if_neg g2, if_neg (by omega)])
        rw [← nI_1] at y
        exact ⟨mm', y⟩
      rw [if_neg (by rw [Int32.le_iff_toInt_le, e1]; show ¬ (30 : Int) ≤ k; omega)]
      simp only [asr_t av, e2, x2]
      by_cases z : pn k = 0
      · rw [z, if_pos (by decide), lt1_e]
        exact skip (by unfold tk; rw [if_pos z])
      · rw [if_neg (fun q => by rw [i32_eq, ip, t_0] at q; omega), hasg_12 (by omega) hw, bn2_e]
        cases hg : gt k with
        | none =>
          show ∃ mm', (if (0 : Int32) = 0 then _ else _) = some mm' ∧ _
          rw [if_pos rfl, lt1_e]
          exact skip (by unfold tk; rw [if_neg z, hg])
        | some l =>
          show ∃ mm', (if (1 : Int32) = 0 then _ else _) = some mm' ∧ _
          rw [hg] at x8
          obtain ⟨y1, y2, y3, y4, y5, y6⟩ := x8
          have e5 : (5 : Int32) * nI k + 3 = nI (5 * k + 3) := by
            rw [show (5 : Int32) * nI k = nI (5 * k) from pk_mul 5 k]; exact nI_add _ 3
          have e6 := nI_toInt (n := 5 * k + 3) (by omega)
          have e7 := nI_clamp (n := 5 * k + 3) (by omega)
          have e8 := nI_toInt (n := l) (by omega)
          have e9 := nI_clamp (n := l) (by omega)
          have et : tk pn gt vv (nI r) W C k = jmin (w1 pn (nI r) W C k) (vv k) := by
            unfold tk
            rw [if_neg z, hg]
          rw [if_neg (by decide), e5, asr_t (by rw [vq_i, e6]; omega)]
          simp only [e7, y4, e9, y6, s1]
          rw [asr_t (by rw [vq_i, e8]; omega), lt1_e]
          have sel : (if w1 pn (nI r) W C k ≤ vv k then some (w1 pn (nI r) W C k, mm) else some (vv k, mm)) = some (tk pn gt vv (nI r) W C k, mm) := by
            rw [et]
            unfold jmin
            by_cases g : w1 pn (nI r) W C k ≤ vv k
            · rw [if_pos g, if_neg (fun q => by rw [Int32.lt_iff_toInt_lt] at q; rw [Int32.le_iff_toInt_le] at g; omega)]
            · rw [if_neg g, if_pos (by rw [Int32.lt_iff_toInt_lt]; rw [Int32.le_iff_toInt_le] at g; omega)]
          rw [sel, bn2_e]
          rw [lt1_e, s1, show w1 pn (nI r) W C k - tk pn gt vv (nI r) W C k = w2 pn gt vv (nI r) W C k from rfl]
          have g17 : gI (sI mm 29 0 k (w2 pn gt vv (nI r) W C k)) 17 0 k = ld k := x5 (by rw [hg]; exact fun q => by cases q)
          rw [g17]
          rcases ld_c x6 with dn | ⟨d, d1, d2⟩
          · rw [if_pos (Int32.lt_iff_toInt_lt.mpr (by rw [t_0]; exact dn)), lt1_e]
            obtain ⟨mm', y⟩ := ih (k + 1) (sI mm 29 0 k (w2 pn gt vv (nI r) W C k)) h0.v29 hw (by omega) (by omega) h28 (by
              intro j hj
              obtain ⟨q1, q2, q3⟩ := hst j hj
              have sn := snt_n (pn := pn) (gt := gt) (vv := vv) (rn := nI r) (W := W) (C := C) dn (f := snt pn gt vv ld (nI r) W C k) (fun _ _ => rfl) j hj
              simp only [gI_sI, show ¬ (30 : Nat) = 29 by decide, show ¬ (31 : Nat) = 29 by decide, false_and, if_false, true_and]
              refine ⟨?_, by rw [← sn]; exact q2, q3⟩
              by_cases g : j = k
              · subst g; rw [if_pos rfl, if_pos (by omega)]
              · rw [if_neg g, q1]
                by_cases g2 : j < k
                · rw [if_pos g2, if_pos (by omega)]
                · rw [if_neg g2, if_neg (by omega)])
            rw [← nI_1] at y
            exact ⟨mm', y⟩
          · have f1 := nI_toInt (n := d) (by omega)
            have f2 := nI_clamp (n := d) (by omega)
            have av3 : vq (ld k) 30 := by rw [d2, vq_i, f1]; omega
            rw [if_neg (fun q => by rw [Int32.lt_iff_toInt_lt, d2, f1, t_0] at q; omega), asr_t av3, asr_t av3, lt1_e, d2, f2]
            have g30 : gI (sI mm 29 0 k (w2 pn gt vv (nI r) W C k)) 30 0 d = gI mm 30 0 d := rfl
            rw [g30, lt1_e]
            obtain ⟨mm', y⟩ := ih (k + 1) (sI (sI mm 29 0 k (w2 pn gt vv (nI r) W C k)) 30 0 d (gI mm 30 0 d + tk pn gt vv (nI r) W C k)) h0.v29.v30 hw (by omega) (by omega) h28 (by
              intro j hj
              obtain ⟨q1, q2, q3⟩ := hst j hj
              have sn := snt_u (pn := pn) (gt := gt) (vv := vv) (rn := nI r) (W := W) (C := C) d1 d2 (f := gI mm 30 0) (fun j hj => (hst j hj).2.1) j hj
              simp only [gI_sI, show ¬ (29 : Nat) = 30 by decide, show ¬ (30 : Nat) = 29 by decide, show ¬ (31 : Nat) = 30 by decide, show ¬ (31 : Nat) = 29 by decide, false_and, if_false, true_and]
              refine ⟨?_, sn, q3⟩
              by_cases g : j = k
              · subst g; rw [if_pos rfl, if_pos (by omega)]
              · rw [if_neg g, q1]
                by_cases g2 : j < k
                · rw [if_pos g2, if_pos (by omega)]
                · rw [if_neg g2, if_neg (by omega)])
            rw [← nI_1] at y
            exact ⟨mm', y⟩
theorem flow3_l {fl n r : Nat} {g1 g2 : Int32} {mc : Mem} {pn : Nat → Nat} {gt : Nat → Option Nat} {vv ld W C K R S : Nat → Int32} : ∀ (N k : Nat) (mm : Mem), RR n mc mm → wfx mc mm pn gt vv ld → k ≤ 30 → 31 ≤ N + k → (∀ j, j < 24 → gI mm 28 0 j = R j) →
    (∀ j, j < 30 → gI mm 29 0 j = w2 pn gt vv (nI r) W C j ∧ gI mm 30 0 j = S j ∧ gI mm 31 0 j = (if j < k then k2 pn gt vv (nI r) W C K j else K j)) →
    ∃ mm', f_X12_flow_l218 fl g1 g2 N (nI k) mm = some mm' ∧ RR n mc mm' ∧ wfx mc mm' pn gt vv ld ∧ (∀ j, j < 24 → gI mm' 28 0 j = R j) ∧ ∀ j, j < 30 → gI mm' 29 0 j = w2 pn gt vv (nI r) W C j ∧ gI mm' 30 0 j = S j ∧ gI mm' 31 0 j = k2 pn gt vv (nI r) W C K j := by
  intro N
  induction N with
  | zero => intro k mm h0 hw h1 h2; omega
  | succ N ih =>
    intro k mm h0 hw h1 h2 h28 hst
    have e1 := nI_toInt (n := k) (by omega)
    have e2 := nI_clamp (n := k) (by omega)
    show ∃ mm', f_X12_flow_l218_b (f_X12_flow_l218 fl g1 g2 N) fl g1 g2 (nI k) mm = some mm' ∧ _
    unfold f_X12_flow_l218_b
    by_cases c : k = 30
    · subst c
      refine ⟨mm, by rw [if_pos (by rw [Int32.le_iff_toInt_le, e1]; decide)], h0, hw, h28, fun j hj => ?_⟩
      obtain ⟨q1, q2, q3⟩ := hst j hj
      rw [if_pos hj] at q3
      exact ⟨q1, q2, q3⟩
    · have av : vq (nI k) 30 := by rw [vq_i, e1]; omega
      obtain ⟨s1, s2, s3⟩ := hst k (by omega)
      rw [if_neg (by omega)] at s3
      obtain ⟨mm', y⟩ := ih (k + 1) (sI mm 31 0 k (k2 pn gt vv (nI r) W C K k)) h0.v31 hw (by omega) (by omega) h28 (by
        intro j hj
        obtain ⟨q1, q2, q3⟩ := hst j hj
        simp only [gI_sI, show ¬ (29 : Nat) = 31 by decide, show ¬ (30 : Nat) = 31 by decide, false_and, if_false, true_and]
        refine ⟨q1, q2, ?_⟩
        by_cases g : j = k
        · subst g; rw [if_pos rfl, if_pos (by omega)]
        · rw [if_neg g, q3]
          by_cases g2 : j < k
          · rw [if_pos g2, if_pos (by omega)]
          · rw [if_neg g2, if_neg (by omega)])
      rw [← nI_1] at y
      refine ⟨mm', ?_, y.2⟩
      rw [if_neg (by rw [Int32.le_iff_toInt_le, e1]; show ¬ (30 : Int) ≤ k; omega)]
      simp only [asr_t av, e2, s1, s3]
      have hk : k2 pn gt vv (nI r) W C K k = if (w2 pn gt vv (nI r) W C k).toInt ≤ 50 then K k else K k + (w2 pn gt vv (nI r) W C k - 50) := rfl
      by_cases g : (w2 pn gt vv (nI r) W C k).toInt ≤ 50
      · rw [if_pos g] at hk
        rw [if_pos (Int32.le_iff_toInt_le.mpr (by rw [t_50]; exact g)), lt1_e, lt1_e, Int32.add_zero, ← hk]
        exact y.1
      · rw [if_neg g] at hk
        rw [if_neg (fun q => g (by rw [Int32.le_iff_toInt_le, t_50] at q; exact q)), lt1_e, lt1_e, ← hk]
        exact y.1
theorem hours_l {fl n la : Nat} (hfl : 1000 ≤ fl) (hla : la < 24) {pn : Nat → Nat} {gt : Nat → Option Nat} {vv ld R : Nat → Int32} (hR : ∀ j, j < 24 → ∃ r, r ≤ 99 ∧ R j = nI r) : ∀ (N h : Nat) (mc mm : Mem) (W C K : Nat → Int32), RR n mc mm → wfx mc mm pn gt vv ld → (∀ j, j < 24 → gI mc 25 0 j = R j) → (∀ j, j < 24 → gI mm 28 0 j = R j) → wrg pn W C h → h ≤ la + 1 → 26 ≤ N + h →
    (∀ j, j < 30 → gI mc 26 0 j = W j ∧ gI mc 28 0 j = C j ∧ gI mc 27 0 j = K j) → (∀ j, j < 30 → gI mm 29 0 j = W j ∧ gI mm 30 0 j = C j ∧ gI mm 31 0 j = K j) →
    ∃ mc' mm', f_X10_runThrough_l37 fl (nI la) N (nI h) mc = some mc' ∧ f_X12_flow_l37 fl (nI la) N (nI h) mm = some mm' ∧ RR n mc' mm' ∧ ∀ j, j < 30 → gI mc' 26 0 j = gI mm' 29 0 j ∧ gI mc' 27 0 j = gI mm' 31 0 j := by
  intro N
  induction N with
  | zero => intro h mc mm W C K a1 a2 a3 a4 a5 a6 a7; omega
  | succ N ih =>
    intro h mc mm W C K a1 a2 a3 a4 a5 a6 a7 a8 a9
    have e1 := nI_toInt (n := h) (by omega)
    have e2 := nI_clamp (n := h) (by omega)
    have e3 := nI_toInt (n := la) (by omega)
    show ∃ mc' mm', f_X10_runThrough_l37_b (f_X10_runThrough_l37 fl (nI la) N) fl (nI la) (nI h) mc = some mc' ∧ f_X12_flow_l37_b (f_X12_flow_l37 fl (nI la) N) fl (nI la) (nI h) mm = some mm' ∧ _
    unfold f_X10_runThrough_l37_b f_X12_flow_l37_b
    by_cases c : h = la + 1
    · have hc : nI la < nI h := by rw [Int32.lt_iff_toInt_lt, e1, e3]; omega
      refine ⟨mc, mm, by rw [if_pos hc], by rw [if_pos hc], a1, fun j hj => ?_⟩
      exact ⟨(a8 j hj).1.trans (a9 j hj).1.symm, (a8 j hj).2.2.trans (a9 j hj).2.2.symm⟩
    · have hc : ¬ nI la < nI h := by rw [Int32.lt_iff_toInt_lt, e1, e3]; omega
      obtain ⟨r, r1, r2⟩ := hR h (by omega)
      obtain ⟨mc1, b1, b2, b3, b4, b5⟩ := hour_11 (fl := fl) (n := n) (K := K) (R := R) hfl r1 (show h < 24 by omega) a5 a1 a2 a3 a8
      obtain ⟨mm1, c1, c2, c3, c4, c5⟩ := flow1_l (fl := fl) (n := n) (g1 := nI la) (C := C) (K := K) r2 (show h < 24 by omega) fl 0 mm b2 b3 (by omega) (by omega) a4 (fun j hj => by
        rw [if_neg (by omega), if_neg (by omega)]; exact a9 j hj)
      obtain ⟨mm2, d1, d2, d3, d4, d5⟩ := flow2_l (fl := fl) (n := n) (r := r) (g1 := nI la) (g2 := nI h) (W := W) (C := C) (K := K) (R := R) fl 0 mm1 c2 c3 (by omega) (by omega) c4 (fun j hj => by
        rw [if_neg (by omega)]; exact c5 j hj)
      obtain ⟨mm3, f1, f2, f3, f4, f5⟩ := flow3_l (fl := fl) (n := n) (r := r) (g1 := nI la) (g2 := nI h) (W := W) (C := C) (K := K) (R := R) (S := snt pn gt vv ld (nI r) W C 30) fl 0 mm2 d2 d3 (by omega) (by omega) d4 (fun j hj => by
        rw [if_neg (by omega)]; exact d5 j hj)
      rw [show nI 0 = 0 from rfl] at c1 d1 f1
      obtain ⟨mc', mm', y1, y2, y3⟩ := ih (h + 1) mc1 mm3 _ _ _ f2 f3 b4 f4 (wrg_next (fun j hj => (a2 j hj).2.2.1) (fun j hj => (a2 j hj).2.2.2.2.2.2.1) r1 (by omega) a5) (by omega) (by omega) b5 f5
      rw [← nI_1] at y1 y2
      refine ⟨mc', mm', ?_, ?_, y3⟩
      · rw [if_neg hc, if_neg (by rw [Int32.le_iff_toInt_le, e1]; show ¬ (24 : Int) ≤ h; omega), asr_t (by rw [vq_i, e1]; omega), e2, a3 h (by omega), r2, b1, bn1_e, lt1_e]
        exact y1
      · rw [if_neg hc, c1, bn1_e, d1, bn1_e, f1, bn1_e, lt1_e]
        exact y2
