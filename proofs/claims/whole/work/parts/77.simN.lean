theorem agr_11 {fl l n : Nat} {mc mm : Mem} (hl : l < nl mc) (hL : r_L mc mm) (hLc : r_Lc mc mm) {a1 a2 : Int64} (h : f_X11_lotOf fl (Int64.toInt32 a1) mc = some (l + 1, mc)) (h2 : Int32.toInt64 (Int64.toInt32 a2) = a2) : f_X11_agrees fl a1 a2 mc = some (if (gI mm 10 0 l).toInt < 0 then 0 else if gI mm 7 0 l = Int64.toInt32 a2 then 1 else 0, mc) := by
  obtain ⟨l0, l1, l2, l3, l4⟩ := hL l hl
  have hl' : l < gR mc 999 23 0 := hl
  unfold f_X11_agrees
  rw [h, bn2_e, if_neg (by omega), drf_e hl', isTold_11, bn2_e]
  rcases hLc l hl with ⟨t, u⟩ | ⟨u1, u2, u3, u4⟩
  · rw [if_pos t, u, if_pos rfl, if_pos (by decide)]
  · have t : ¬ gI mc 23 l 6 = -5 := by rw [u1]; exact i32_m5 u3
    have u5 := rg_i u3
    rw [if_neg t, if_neg (by decide), asr_t hl', if_neg (show ¬ (gI mm 10 0 l).toInt < 0 by omega), l3]
    have e : (lg_cmp (Int32.toInt64 (gI mm 7 0 l)) a2 = 0) ↔ gI mm 7 0 l = Int64.toInt32 a2 := by
      rw [i32_eq, t_0, cmp_eq]
      constructor
      · intro q; rw [← q]; simp
      · intro q; rw [q, h2]
    by_cases c : gI mm 7 0 l = Int64.toInt32 a2
    · rw [if_pos (e.mpr c), if_pos c]
    · rw [if_neg (fun q => c (e.mp q)), if_neg c]
theorem list_out {fl : Nat} {g2 g3 : Int32} {t N z : Nat} {u : Int64} {k : Int32} {mc : Mem} (ht : t < 6) (hz : z ≤ 60) (z1 : gI mc 42 t 2 = nI z) (h0 : k.toInt < g3.toInt) (h : ∀ y : Int64, y = Int32.toInt64 g2 + 2 * Int32.toInt64 k → ¬ (0 ≤ y.toInt ∧ y.toInt < z) ∨ ¬ (0 ≤ (y + 1).toInt ∧ (y + 1).toInt < z)) : f_X11_list_l55 fl g2 g3 (t + 1) (N + 1) u k mc = some ((0, u), mc) := by
  unfold f_X11_list_l55 f_X11_list_l55_b
  rw [if_neg (by rw [Int32.le_iff_toInt_le]; omega), lt1_e, drf_e ht, hasItem_11 hz z1, bn2_e]
  have := h _ rfl
  by_cases c : 0 ≤ (Int32.toInt64 g2 + 2 * Int32.toInt64 k).toInt ∧ (Int32.toInt64 g2 + 2 * Int32.toInt64 k).toInt < z
  · rw [if_pos c, if_neg (by decide), hasItem_11 hz z1, bn2_e, if_neg (show ¬ (0 ≤ (Int32.toInt64 g2 + 2 * Int32.toInt64 k + 1).toInt ∧ (Int32.toInt64 g2 + 2 * Int32.toInt64 k + 1).toInt < z) from this.elim (fun q => absurd c q) id), if_pos rfl]
  · rw [if_neg c, if_pos rfl]
theorem add64 {x y : Int64} (h1 : -8589934592 ≤ x.toInt ∧ x.toInt ≤ 8589934592) (h2 : -8589934592 ≤ y.toInt ∧ y.toInt ≤ 8589934592) : (x + y).toInt = x.toInt + y.toInt := by
  rw [Int64.toInt_add]
  exact Int.bmod_eq_of_le (by simp; omega) (by simp; omega)
theorem y_of {g2 : Int32} {k : Nat} (hk : k ≤ 20) : (Int32.toInt64 g2 + 2 * Int32.toInt64 (nI k)).toInt = g2.toInt + 2 * k ∧ (Int32.toInt64 g2 + 2 * Int32.toInt64 (nI k) + 1).toInt = g2.toInt + 2 * k + 1 := by
  have e : (2 : Int64) * Int32.toInt64 (nI k) = lN (2 * k) := by
    rw [nI_l (by omega)]
    exact lN_mul 2 k
  have e2 := lN_toInt (n := 2 * k) (by omega)
  have r1 := g2.le_toInt
  have r2 := g2.toInt_lt
  have e3 : (Int32.toInt64 g2 + lN (2 * k)).toInt = g2.toInt + 2 * k := by
    rw [add64 (by rw [Int32.toInt_toInt64]; omega) (by omega), Int32.toInt_toInt64, e2]
    omega
  rw [e]
  refine ⟨e3, ?_⟩
  rw [add64 (by rw [e3]; omega) (by decide), e3]
  rfl
theorem list_l {fl n : Nat} {mc mm : Mem} (h : RR n mc mm) {t : Nat} (ht : t < 6) (sh : gI mm 52 0 t = -1 ∨ gI mm 52 0 t = 2) {q w : Nat} (hq : q ≤ 60) (hw : w ≤ 20) : ∀ (N k : Nat) (u : Int64), k ≤ w → w < N + k → ∃ r, f_X11_list_l55 fl (nI q) (nI w) (t + 1) N u (nI k) mc = some (r, mc) ∧ f_X12_list_l52 fl (nI t) (nI q) (nI w) N u (nI k) mm = some (r, mm) := by
  obtain ⟨hT, hF, hL0, hL, hLc, hLg, hSb, hSs, hB, hP, hN, hG0, hG, hGd, hGw, hPw, hPa, hNa, hA, hTa, hR, hS, hW0, hW⟩ := h
  obtain ⟨t1, t2, ⟨z, hz, z1, z2, z3⟩, t3⟩ := hTa t ht
  have i1 := nI_toInt (n := t) (by omega)
  have i2 := nI_clamp (n := t) (by omega)
  have j1 := nI_toInt (n := q) (by omega)
  have j2 := nI_toInt (n := w) (by omega)
  have j3 := nI_toInt (n := z) (by omega)
  have t4 := rg_i t2
  intro N
  induction N with
  | zero => intro k u h1 h2; omega
  | succ N ih =>
    intro k u h1 h2
    have e := nI_toInt (n := k) (by omega)
    by_cases c : k = w
    · subst c
      exact ⟨(1, u), by unfold f_X11_list_l55 f_X11_list_l55_b; rw [if_pos (Int32.le_refl _)], by unfold f_X12_list_l52 f_X12_list_l52_b; rw [if_pos (Int32.le_refl _)]⟩
    · have cw : (nI k).toInt < (nI w).toInt := by omega
      have sz : (nI z - 2 * nI k - 2).toInt = (z : Int) - 2 * k - 2 := by
        rw [show (2 : Int32) * nI k = nI (2 * k) from pk_mul 2 k]
        have a1 := nI_toInt (n := 2 * k) (by omega)
        have a2 : (nI z - nI (2 * k)).toInt = (z : Int) - 2 * k := by rw [sub_rg (by omega) (by omega), a1, j3]; omega
        rw [sub_rg (by omega) (by decide), a2]
        rfl
      by_cases d : q + 2 * k + 1 < z
      · have sh2 : gI mm 52 0 t = 2 := by
          rcases sh with s | s
          · have := z3 s; omega
          · exact s
        have sh3 : (gI mm 52 0 t).toInt = 2 := by rw [sh2]; rfl
        have y := y_of (g2 := nI q) (k := k) (by omega)
        have yl : Int32.toInt64 (nI q) + 2 * Int32.toInt64 (nI k) = lN (q + 2 * k) := by
          rw [nI_l (by omega), nI_l (by omega)]
          show lN q + lN 2 * lN k = _
          rw [lN_mul, lN_add]
        obtain ⟨b1, b2⟩ := t3 (q + 2 * k) (by omega)
        obtain ⟨b3, b4⟩ := t3 (q + 2 * k + 1) (by omega)
        have k1 := nI_toInt (n := q + 2 * k) (by omega)
        have k2 := nI_clamp (n := q + 2 * k) (by omega)
        have k3 := nI_toInt (n := q + 2 * k + 1) (by omega)
        have k4 := nI_clamp (n := q + 2 * k + 1) (by omega)
        have s1 : (60 : Int32) * nI t + nI q + 2 * nI k = nI (60 * t + (q + 2 * k)) := by
          rw [m60, show (2 : Int32) * nI k = nI (2 * k) from pk_mul 2 k, nI_add, nI_add, Nat.add_assoc]
        have k5 := nI_toInt (n := 60 * t + (q + 2 * k)) (by omega)
        have k6 := nI_clamp (n := 60 * t + (q + 2 * k)) (by omega)
        have k7 := nI_toInt (n := 60 * t + (q + 2 * k + 1)) (by omega)
        have k8 := nI_clamp (n := 60 * t + (q + 2 * k + 1)) (by omega)
        have hA : f_X8_hasItem fl t (lN (q + 2 * k)) mc = some (1, mc) := by
          rw [hasItem_11 hz z1, if_pos (by rw [lN_toInt (by omega)]; omega)]
        have hB : f_X8_hasItem fl t (lN (q + 2 * k + 1)) mc = some (1, mc) := by
          rw [hasItem_11 hz z1, if_pos (by rw [lN_toInt (by omega)]; omega)]
        have iA : f_X8_itemAt fl t (lN (q + 2 * k)) mc = some (gL mm 54 0 (60 * t + (q + 2 * k)), mc) := by
          unfold f_X8_itemAt
          rw [hA, bn2_e, if_neg (by decide), lN_i, asr_t (by rw [vq_i]; omega), k2, b1]
        have iB : f_X8_itemAt fl t (lN (q + 2 * k + 1)) mc = some (gL mm 54 0 (60 * t + (q + 2 * k + 1)), mc) := by
          unfold f_X8_itemAt
          rw [hB, bn2_e, if_neg (by decide), lN_i, asr_t (by rw [vq_i]; omega), k4, b3]
        have key : ∀ g : Int32, (g = 0 ∨ g = 1) → f_X11_agrees fl (gL mm 54 0 (60 * t + (q + 2 * k))) (gL mm 54 0 (60 * t + (q + 2 * k + 1))) mc = some (g, mc) → f_X11_list_l55 fl (nI q) (nI w) (t + 1) (N + 1) u (nI k) mc = f_X11_list_l55 fl (nI q) (nI w) (t + 1) N (if g = 0 then u + 1 else u + 1000) (nI (k + 1)) mc := by
          intro g hg ha
          conv => lhs; unfold f_X11_list_l55 f_X11_list_l55_b
          rw [if_neg (by rw [Int32.le_iff_toInt_le]; omega), lt1_e, drf_e ht, yl, lN_1, hA, bn2_e, if_neg (by decide), hB, bn2_e, if_neg (by decide), iA, bn2_e, iB, bn2_e, ha, bn2_e, ← nI_1]
          rcases hg with rfl | rfl <;> rfl
        have pre : ∀ X : Option ((Nat × Int64) × Mem), (X = bn2 (f_X12_isLot fl (Int64.toInt32 (gL mm 54 0 (60 * t + (q + 2 * k)))) mm) fun v20 m19 =>
          if v20 = 0 then f_X12_list_l52 fl (nI t) (nI q) (nI w) N (u + 1) (nI k + 1) m19
          else
            asr (vq (Int64.toInt32 (gL mm 54 0 (60 * t + (q + 2 * k)))) 60) <|
            if (gI m19 10 0 (Int32.toNatClampNeg (Int64.toInt32 (gL mm 54 0 (60 * t + (q + 2 * k)))))) < 0 then f_X12_list_l52 fl (nI t) (nI q) (nI w) N (u + 1) (nI k + 1) m19
            else
              asr (vq (Int64.toInt32 (gL mm 54 0 (60 * t + (q + 2 * k)))) 60) <|
              if (gI m19 7 0 (Int32.toNatClampNeg (Int64.toInt32 (gL mm 54 0 (60 * t + (q + 2 * k)))))) = Int64.toInt32 (gL mm 54 0 (60 * t + (q + 2 * k + 1))) then f_X12_list_l52 fl (nI t) (nI q) (nI w) N (u + 1000) (nI k + 1) m19
              else f_X12_list_l52 fl (nI t) (nI q) (nI w) N (u + 1) (nI k + 1) m19) → f_X12_list_l52 fl (nI t) (nI q) (nI w) (N + 1) u (nI k) mm = X := by
          intro X hX
          rw [hX]
          conv => lhs; unfold f_X12_list_l52 f_X12_list_l52_b
          have s2 : nI (60 * t + (q + 2 * k)) + 1 = nI (60 * t + (q + 2 * k + 1)) := nI_1 _
          simp (disch := omega) only [Int32.lt_iff_toInt_lt, Int32.le_iff_toInt_le, t_n14, t_n13, t_n12, t_n11, t_n10, t_n5, t_n4, t_n3, t_n2, t_n1, t_0, t_1, t_2, t_3, t_4, t_5, t_6, t_7, t_8, t_9, t_10, t_11, t_12, t_13, t_14, t_15, t_16, t_17, t_18, t_19, t_20, t_21, t_22, t_23, t_24, t_25, t_26, t_27, t_28, t_29, t_30, t_31, t_32, t_33, t_34, t_37, t_38, t_39, t_40, t_41, t_44, t_48, t_50, t_51, t_52, t_57, t_59, t_60, t_61, t_62, t_66, t_98, t_99, t_100, t_101, t_102, t_103, t_104, t_105, t_106, t_107, t_108, t_109, t_110, t_111, t_112, t_113, t_114, t_115, t_116, t_121, t_124, t_150, t_200, t_399, t_999, t_2000, vq_i, if_pos, if_neg, bn2_e, bn1_e, lt1_e, asr_t, drf_e, asr_T, gI_sI, gL_sI, gR_sI, gI_sL, gL_sL, gR_sL, gI_sR, gL_sR, gR_sR, eq_self, i32_eq, or_true, true_or, and_true, true_and, or_false, false_or, and_false, false_and, not_true, not_false_iff, if_true, if_false, i1, i2, sh3, j1, j2, e, z2, sz, s1, s2, k5, k6, k7, k8]
        rcases lot_cases hL0 (Int64.toInt32 (gL mm 54 0 (60 * t + (q + 2 * k)))) fl with ⟨e1, e2⟩ | ⟨l, hl, h60, el, g1, g2, e1, e2⟩
        · have ag : f_X11_agrees fl (gL mm 54 0 (60 * t + (q + 2 * k))) (gL mm 54 0 (60 * t + (q + 2 * k + 1))) mc = some (0, mc) := by
            unfold f_X11_agrees
            rw [e1, bn2_e, if_pos rfl]
          obtain ⟨r, x1, x2⟩ := ih (k + 1) (u + 1) (by omega) (by omega)
          refine ⟨r, by rw [key 0 (Or.inl rfl) ag]; exact x1, ?_⟩
          refine pre _ ?_
          rw [e2, bn2_e, if_pos rfl, nI_1, x2]
        · have ag := agr_11 (fl := fl) (n := n) hl hL hLc (a1 := gL mm 54 0 (60 * t + (q + 2 * k))) (a2 := gL mm 54 0 (60 * t + (q + 2 * k + 1))) (by rw [el]; exact e1) (b4 sh2)
          rw [el] at pre
          by_cases c1 : (gI mm 10 0 l).toInt < 0
          · rw [if_pos c1] at ag
            obtain ⟨r, x1, x2⟩ := ih (k + 1) (u + 1) (by omega) (by omega)
            refine ⟨r, by rw [key 0 (Or.inl rfl) ag]; exact x1, ?_⟩
            refine pre _ ?_
            rw [e2, bn2_e, if_neg (by decide), asr_t (by rw [vq_i]; omega)]
            simp only [g2]
            rw [if_pos (by rw [Int32.lt_iff_toInt_lt]; exact c1), nI_1, x2]
          · rw [if_neg c1] at ag
            by_cases c2 : gI mm 7 0 l = Int64.toInt32 (gL mm 54 0 (60 * t + (q + 2 * k + 1)))
            · rw [if_pos c2] at ag
              obtain ⟨r, x1, x2⟩ := ih (k + 1) (u + 1000) (by omega) (by omega)
              refine ⟨r, by rw [key 1 (Or.inr rfl) ag]; exact x1, ?_⟩
              refine pre _ ?_
              rw [e2, bn2_e, if_neg (by decide), asr_t (by rw [vq_i]; omega)]
              simp only [g2]
              rw [if_neg (by rw [Int32.lt_iff_toInt_lt]; exact c1), asr_t (by rw [vq_i]; omega), if_pos c2, nI_1, x2]
            · rw [if_neg c2] at ag
              obtain ⟨r, x1, x2⟩ := ih (k + 1) (u + 1) (by omega) (by omega)
              refine ⟨r, by rw [key 0 (Or.inl rfl) ag]; exact x1, ?_⟩
              refine pre _ ?_
              rw [e2, bn2_e, if_neg (by decide), asr_t (by rw [vq_i]; omega)]
              simp only [g2]
              rw [if_neg (by rw [Int32.lt_iff_toInt_lt]; exact c1), asr_t (by rw [vq_i]; omega), if_neg c2, nI_1, x2]
      · refine ⟨(0, u), list_out ht hz z1 cw (fun y hy => Or.inr ?_), ?_⟩
        · subst hy
          have := y_of (g2 := nI q) (k := k) (by omega)
          omega
        · unfold f_X12_list_l52 f_X12_list_l52_b
          rw [if_neg (by rw [Int32.le_iff_toInt_le]; omega), asr_t (by rw [vq_i]; omega)]
          simp only [i2]
          by_cases s : (gI mm 52 0 t).toInt < 0
          · rw [if_pos (by rw [Int32.lt_iff_toInt_lt]; exact s)]
          · rw [if_neg (by rw [Int32.lt_iff_toInt_lt]; exact s), if_neg (by rw [Int32.lt_iff_toInt_lt, t_0]; omega), asr_t (by rw [vq_i]; omega), z2, if_neg (by rw [Int32.le_iff_toInt_le, sz]; omega)]
