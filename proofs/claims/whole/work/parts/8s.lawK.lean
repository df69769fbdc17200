/-! fit -/
theorem hs01 {n b p : Nat} {mc mm : Mem} (h : RR n mc mm) (hb : b < 30) : hsv mc b p = 0 ∨ hsv mc b p = 1 := by
  rcases lat_hs (p := p) (h.2.2.2.2.2.2.2.2.2.2.1) hb with ⟨-, q⟩ | ⟨-, q⟩
  · exact Or.inl q
  · exact Or.inr q
theorem hasC {n b p : Nat} {mc mm : Mem} (h : RR n mc mm) (hb : b < 30) (h1 : 1 ≤ p) (h5 : p ≤ 5) : f_X1_has FL b (nI p) mc = some (hsv mc b p, mc) := has_11 h.2.2.2.2.2.2.2.2.2.2.1 hb h1 h5
theorem hasM {n b p : Nat} {mc mm : Mem} (h : RR n mc mm) (hb : b < 30) (h1 : 1 ≤ p) (h5 : p ≤ 5) : f_X12_has FL (nI b) (nI p) mm = some (hsv mc b p, mm) := has_12 h.2.2.1 h.2.2.2.2.2.2.2.2.2.1 h.2.2.2.2.2.2.2.2.2.2.1 hb h1 h5
theorem right_11 {n b : Nat} {mc mm : Mem} (h : RR n mc mm) (hb : b < 30) : f_X11_rightOf FL (b + 1) mc = some (if b % 6 = 5 then 0 else b + 2, mc) := by
  obtain ⟨b0, -⟩ := h.2.2.2.2.2.2.2.2.1 b hb
  have jr : jrem (nI b) 6 = nI (b % 6) := pk_rem (by omega) (by decide) (by decide)
  have i1 := nI_toInt (n := b % 6) (by omega)
  unfold f_X11_rightOf f_X1_column
  rw [drf_e hb, bn2_e, b0, jr]
  by_cases c : b % 6 = 5
  · rw [if_pos (by rw [c]; rfl), if_pos c]
  · rw [if_neg (fun q => by rw [i32_eq, i1, t_5] at q; omega), if_neg c, nI_1, bayOf_11 (by omega), bn2_e]
theorem left_11 {n b : Nat} {mc mm : Mem} (h : RR n mc mm) (hb : b < 30) : f_X11_leftOf FL (b + 1) mc = some (if b % 6 = 0 then 0 else b, mc) := by
  obtain ⟨b0, -⟩ := h.2.2.2.2.2.2.2.2.1 b hb
  have jr : jrem (nI b) 6 = nI (b % 6) := pk_rem (by omega) (by decide) (by decide)
  have i1 := nI_toInt (n := b % 6) (by omega)
  unfold f_X11_leftOf f_X1_column
  rw [drf_e hb, bn2_e, b0, jr]
  by_cases c : b % 6 = 0
  · rw [if_pos (by rw [c]; rfl), if_pos c]
  · rw [if_neg (fun q => by rw [i32_eq, i1, t_0] at q; omega), if_neg c, show nI b - 1 = nI (b - 1) from pk_sub (b := 1) (by omega), bayOf_11 (by omega), bn2_e, show b - 1 + 1 = b by omega]
theorem ground_both {n b p : Nat} {mc mm : Mem} (h : RR n mc mm) (hb : b < 30) (h1 : 1 ≤ p) (h5 : p ≤ 5) : ∃ g, (g = 1 ∨ g = -7) ∧ f_X11_hindrance_b80 FL (b + 1) (nI p) mc = some (g, mc) ∧ f_X12_fits_b132 FL (nI b) (nI p) mm = some (g, mm) := by
  have h2c := hasC h hb (show 1 ≤ 2 by decide) (by decide)
  have h2m := hasM h hb (show 1 ≤ 2 by decide) (by decide)
  have h1c := hasC h hb (show 1 ≤ 1 by decide) (by decide)
  have h1m := hasM h hb (show 1 ≤ 1 by decide) (by decide)
  rw [show nI 2 = 2 from rfl] at h2c h2m
  rw [show nI 1 = 1 from rfl] at h1c h1m
  have rt := right_11 h hb
  have e1 := nI_toInt (n := b) (by omega)
  have jr : jrem (nI b) 6 = nI (b % 6) := pk_rem (by omega) (by decide) (by decide)
  have i1 := nI_toInt (n := b % 6) (by omega)
  have g34 : ∀ q : Int32, (q = 3 ∨ q = 4) → ∃ g, (g = 1 ∨ g = -7) ∧ f_X11_hindrance_b80 FL (b + 1) q mc = some (g, mc) ∧ f_X12_fits_b132 FL (nI b) q mm = some (g, mm) := by
    intro q hq
    have x1 : f_X11_hasGroundFor FL (b + 1) q mc = some (hsv mc b 2, mc) := by
      have y : f_X11_hasGroundFor_b10 FL (b + 1) mc = some (hsv mc b 2, mc) := by
        unfold f_X11_hasGroundFor_b10
        rw [drf_e hb, h2c, bn2_e, asr_t (hs01 h hb)]
      unfold f_X11_hasGroundFor
      rcases hq with rfl | rfl
      · rw [if_pos rfl, y]
      · rw [if_neg (by decide), if_pos rfl, y]
    have x2 : f_X12_fits_b132 FL (nI b) q mm = f_X12_fits_b181 FL (nI b) mm := by
      unfold f_X12_fits_b132 f_X12_fits_b169
      rcases hq with rfl | rfl
      · rw [if_neg (by decide), if_pos rfl]
      · rw [if_neg (by decide), if_neg (by decide), if_pos rfl]
    unfold f_X11_hindrance_b80
    rw [x1, x2, bn2_e]
    unfold f_X12_fits_b181
    rw [h2m, bn2_e]
    rcases hs01 (p := 2) h hb with q | q
    · rw [q]; exact ⟨-7, Or.inr rfl, rfl, rfl⟩
    · rw [q]; exact ⟨1, Or.inl rfl, rfl, rfl⟩
  have g15 : ∀ q : Int32, (q = 1 ∨ q = 5) → ∃ g, (g = 1 ∨ g = -7) ∧ f_X11_hindrance_b80 FL (b + 1) q mc = some (g, mc) ∧ f_X12_fits_b132 FL (nI b) q mm = some (g, mm) := by
    intro q hq
    refine ⟨1, Or.inl rfl, ?_, ?_⟩
    · unfold f_X11_hindrance_b80 f_X11_hasGroundFor
      rcases hq with rfl | rfl
      · rw [if_neg (by decide), if_neg (by decide), rt, bn2_e, if_neg (by decide), bn2_e, if_neg (by decide)]
      · rw [if_neg (by decide), if_neg (by decide), rt, bn2_e, if_neg (by decide), bn2_e, if_neg (by decide)]
    · unfold f_X12_fits_b132 f_X12_fits_b169
      rcases hq with rfl | rfl
      · rw [if_neg (by decide), if_neg (by decide), if_neg (by decide)]
      · rw [if_neg (by decide), if_neg (by decide), if_neg (by decide)]
  rcases (show p = 1 ∨ p = 2 ∨ p = 3 ∨ p = 4 ∨ p = 5 by omega) with rfl | rfl | rfl | rfl | rfl
  · exact g15 _ (Or.inl rfl)
  · show ∃ g, (g = 1 ∨ g = -7) ∧ f_X11_hindrance_b80 FL (b + 1) 2 mc = some (g, mc) ∧ f_X12_fits_b132 FL (nI b) 2 mm = some (g, mm)
    unfold f_X11_hindrance_b80 f_X11_hasGroundFor f_X12_fits_b132
    rw [if_neg (by decide), if_neg (by decide), rt, bn2_e, if_pos rfl, drf_e hb, h1c, bn2_e, if_pos rfl, h1m, bn2_e, jr]
    have b169 : ∀ M, f_X12_fits_b169 FL (nI b) 2 M = some (1, M) := fun M => by
      unfold f_X12_fits_b169
      rw [if_neg (by decide), if_neg (by decide)]
    rcases hs01 (p := 1) h hb with q | q
    · rw [q]; exact ⟨-7, Or.inr rfl, rfl, rfl⟩
    · rw [q, if_neg (show ¬ (1 : Int32) = 0 by decide), if_neg (show ¬ (1 : Int32) = 0 by decide)]
      by_cases c : b % 6 = 5
      · rw [if_pos c, if_pos rfl, bn2_e, if_neg (by decide), if_pos (show 5 ≤ nI (b % 6) by rw [Int32.le_iff_toInt_le, i1, t_5]; omega), b169]
        exact ⟨1, Or.inl rfl, rfl, rfl⟩
      · have h1c' := hasC h (show b + 1 < 30 by omega) (show 1 ≤ 1 by decide) (by decide)
        have h1m' := hasM h (show b + 1 < 30 by omega) (show 1 ≤ 1 by decide) (by decide)
        rw [show nI 1 = 1 from rfl] at h1c' h1m'
        rw [if_neg c, if_neg (by omega), drf_e (show b + 1 < 30 by omega), h1c', bn2_e, if_neg (show ¬ 5 ≤ nI (b % 6) by rw [Int32.le_iff_toInt_le, i1, t_5]; omega), nI_1, h1m', bn2_e]
        rcases hs01 (p := 1) h (show b + 1 < 30 by omega) with q2 | q2
        · rw [q2]; exact ⟨-7, Or.inr rfl, rfl, rfl⟩
        · rw [q2, b169]; exact ⟨1, Or.inl rfl, rfl, rfl⟩
  · exact g34 _ (Or.inl rfl)
  · exact g34 _ (Or.inr rfl)
  · exact g15 _ (Or.inr rfl)
/-- room for one piece more at a place -/
def roomy (mc : Mem) (b p : Nat) : Prop := if p = 3 then (gI mc 13 b 4).toInt < 24 else hsv mc b p = 0
/-- the rest of what hinders, once there is stock, nothing barred, a place, room -/
theorem rest_both {n l b p : Nat} {mc mm : Mem} (h : RR n mc mm) (hl : l < nl mc) (hb : b < 30) (h1 : 1 ≤ p) (h5 : p ≤ 5) : ∃ g mm', f_X12_fits_b76 FL (nI l) (nI b) (nI p) mm = some (g, mm') ∧ RR n mc mm' ∧ kM mm mm' ∧
    (if nI p = 1 then
            asr (l < gR mc 999 23 0) <|
            bn2 (f_X11_hasLengthFor FL (b + 1) (gI mc 23 l 4) mc) fun v31 m30 =>
            if v31 = 0 then
              some ((-5), m30)
            else
              f_X11_hindrance_b65 FL (b + 1) (nI p) m30
          else
            f_X11_hindrance_b65 FL (b + 1) (nI p) mc) = some (g, mc) := by
  have hn : nl mc ≤ 60 := h.2.2.1.1
  have il := nI_toInt (n := l) (by omega)
  have cl := nI_clamp (n := l) (by omega)
  have e1 := nI_toInt (n := b) (by omega)
  have e2 := nI_clamp (n := b) (by omega)
  have ip := nI_toInt (n := p) (by omega)
  obtain ⟨b0, b1, b2, -⟩ := h.2.2.2.2.2.2.2.2.1 b hb
  obtain ⟨-, -, -, -, l4, -⟩ := h.2.2.2.1 l hl
  have t1 : gI mc 0 0 0 = gI mm 0 0 0 := h.1.1
  -- tree and ground
  have tg : ∀ mm1, RR n mc mm1 → kM mm mm1 → ∃ g, f_X11_hindrance_b65 FL (b + 1) (nI p) mc = some (g, mc) ∧ f_X12_fits_b114 FL (nI b) (nI p) mm1 = some (g, mm1) := by
    intro mm1 r1 k1
    obtain ⟨g, -, g1, g2⟩ := ground_both r1 hb h1 h5
    have m2 : gI mm1 2 0 b = gI mc 13 b 2 := by rw [k1.2 _ _ _ (Or.inl (by decide)) (Or.inl (by decide)), b2]
    unfold f_X11_hindrance_b65 f_X12_fits_b114
    by_cases p1 : nI p = 1
    · rw [if_pos p1, if_pos p1, drf_e hb, asr_t (by rw [vq_i, e1]; omega), e2, m2]
      by_cases tr : gI mc 13 b 2 ≤ 0
      · rw [if_pos tr, if_pos tr]; exact ⟨g, g1, g2⟩
      · rw [if_neg tr, if_neg tr]; exact ⟨-6, rfl, rfl⟩
    · rw [if_neg p1, if_neg p1]; exact ⟨g, g1, g2⟩
  unfold f_X12_fits_b76
  by_cases p1 : nI p = 1
  · obtain ⟨r, mm1, y1, y2, y3, y4⟩ := number_both (w := 0) (d := gI mm 0 0 0) (by decide) h
    rw [show nI 0 = 0 from rfl] at y1 y2
    obtain ⟨g, g1, g2⟩ := tg mm1 y3 y4
    have l4' : gI mm 8 0 l = gI mc 23 l 4 := l4.symm
    have x : 100 - 2 * gI mm 1 0 b - gI mm 8 0 l = 100 - 2 * gI mc 13 b 1 - gI mc 23 l 4 := by rw [b1, l4]
    rw [if_pos p1, if_pos p1]
    unfold f_X12_wantsOf
    rw [asr_t (by rw [vq_i, e1]; omega), e2, bn2_e, asr_t (by rw [vq_i, il]; omega), y2, bn2_e, cl, x, in_12, bn2_e, asr_t (show l < gR mc 999 23 0 from hl)]
    unfold f_X11_hasLengthFor f_X1_wantedLength
    rw [drf_e hb, bn2_e, lt1_e, t1]
    generalize 100 - 2 * gI mc 13 b 1 - gI mc 23 l 4 = X
    by_cases c1 : X.toInt < 0
    · rw [if_neg (show ¬ ((0 : Int32).toInt ≤ X.toInt ∧ X.toInt ≤ r.toInt) by rw [t_0]; omega), if_pos rfl, if_pos (show X < 0 by rw [Int32.lt_iff_toInt_lt, t_0]; exact c1), bn2_e, if_pos rfl]
      exact ⟨-5, mm1, rfl, y3, y4, rfl⟩
    · rw [if_neg (show ¬ X < 0 by rw [Int32.lt_iff_toInt_lt, t_0]; exact c1), y1, bn2_e]
      by_cases c2 : r.toInt < X.toInt
      · rw [if_neg (show ¬ ((0 : Int32).toInt ≤ X.toInt ∧ X.toInt ≤ r.toInt) by rw [t_0]; omega), if_pos rfl, if_pos (show r < X from Int32.lt_iff_toInt_lt.mpr c2), bn2_e, if_pos rfl]
        exact ⟨-5, mm1, rfl, y3, y4, rfl⟩
      · rw [if_pos (show (0 : Int32).toInt ≤ X.toInt ∧ X.toInt ≤ r.toInt by rw [t_0]; omega), if_neg (show ¬ (1 : Int32) = 0 by decide), if_neg (show ¬ r < X from fun q => c2 (Int32.lt_iff_toInt_lt.mp q)), bn2_e, if_neg (show ¬ (1 : Int32) = 0 by decide), g1, g2]
        exact ⟨g, mm1, rfl, y3, y4, rfl⟩
  · obtain ⟨g, g1, g2⟩ := tg mm h (kM.refl _)
    rw [if_neg p1, if_neg p1, g1, g2]
    exact ⟨g, mm, rfl, h, kM.refl _, rfl⟩
