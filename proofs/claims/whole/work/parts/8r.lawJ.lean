/-! what is barred; of, cut -/
theorem barT_l {l : Nat} {mc mm : Mem} (h : r_L0 mc mm) : ∀ (N k : Nat), nl mc ≤ k → k ≤ 60 → 61 ≤ N + k → f_X11_isBarred_l31 FL l 60 N (nI k) mc = some (1, mc) := by
  intro N
  induction N with
  | zero => intro k h1 h2 h3; omega
  | succ N ih =>
    intro k h1 h2 h3
    have e1 := nI_toInt (n := k) (by omega)
    have e2 := nI_clamp (n := k) (by omega)
    show f_X11_isBarred_l31_b (f_X11_isBarred_l31 FL l 60 N) FL l 60 (nI k) mc = _
    unfold f_X11_isBarred_l31_b
    by_cases c : k = 60
    · subst c
      rw [if_pos (by decide)]
    · have z : gR mc 3 0 k = 0 := by
        rw [h.2.2.2 k (by omega), if_neg (by omega)]
      rw [if_neg (fun q => by rw [Int32.le_iff_toInt_le, e1] at q; have q : (60 : Int) ≤ k := q; omega), asr_t (by rw [vq_i, e1]; omega), e2, lt1_e, z, if_pos rfl, lt1_e, nI_1]
      exact ih (k + 1) (by omega) (by omega) (by omega)
theorem bar_l {n l : Nat} {mc mm : Mem} (h : RR n mc mm) (hl : l < nl mc) : ∀ (N k : Nat), k ≤ nl mc → 61 ≤ N + k → ∃ t, (t = 0 ∨ t = 1) ∧ f_X11_isBarred_l31 FL (l + 1) 60 N (nI k) mc = some (t, mc) ∧ f_X12_isBarred_l21 FL (nI l) N (nI k) mm = some (t, mm) := by
  have h0 : r_L0 mc mm := h.2.2.1
  have hL : r_L mc mm := h.2.2.2.1
  have hLg : r_Lg n mc mm := h.2.2.2.2.2.1
  have hn : nl mc ≤ 60 := h0.1
  have il := nI_toInt (n := l) (by omega)
  have cl := nI_clamp (n := l) (by omega)
  have inl := nI_toInt (n := nl mc) (by omega)
  obtain ⟨a0, a1, a2, a3, a4, a5, -⟩ := hL l hl
  have avl : vq (nI l) 60 := by rw [vq_i, il]; omega
  intro N
  induction N with
  | zero => intro k h1 h2; omega
  | succ N ih =>
    intro k h1 h2
    have e1 := nI_toInt (n := k) (by omega)
    have e2 := nI_clamp (n := k) (by omega)
    by_cases c : k = nl mc
    · refine ⟨1, Or.inr rfl, barT_l h0 (N + 1) k (by omega) (by omega) (by omega), ?_⟩
      show f_X12_isBarred_l21_b (f_X12_isBarred_l21 FL (nI l) N) FL (nI l) (nI k) mm = _
      unfold f_X12_isBarred_l21_b
      rw [h0.2.2.1, c, if_pos (Int32.le_iff_toInt_le.mpr (Int.le_refl _))]
    · obtain ⟨t, t0, t1, t2⟩ := ih (k + 1) (by omega) (by omega)
      obtain ⟨b0, b1, b2, b3, b4, b5, -⟩ := hL k (by omega)
      obtain ⟨-, g1, g2, -⟩ := hLg k (by omega)
      have avk : vq (nI k) 60 := by rw [vq_i, e1]; omega
      have z : gR mc 3 0 k = k + 1 := by
        rw [h0.2.2.2 k (by omega), if_pos (by omega)]
      have hk : k < gR mc 999 23 0 := show k < nl mc by omega
      have hl' : l < gR mc 999 23 0 := hl
      rw [← nI_1] at t1 t2
      have cgo : f_X11_isBarred_l31 FL (l + 1) 60 (N + 1) (nI k) mc = if (gI mc 23 k 9).toInt ≤ 0 then some (t, mc) else if gI mm 5 0 k = gI mm 5 0 l then (if gI mm 6 0 k = gI mm 6 0 l then (if gI mm 9 0 k = gI mm 9 0 l then some (0, mc) else some (t, mc)) else some (t, mc)) else some (t, mc) := by
        show f_X11_isBarred_l31_b (f_X11_isBarred_l31 FL (l + 1) 60 N) FL (l + 1) 60 (nI k) mc = _
        unfold f_X11_isBarred_l31_b f_X4_isOrderedLike
        rw [if_neg (fun q => by rw [Int32.le_iff_toInt_le, e1] at q; have q : (60 : Int) ≤ k := q; omega), asr_t avk, e2, lt1_e, z, if_neg (by omega), drf_e hk]
        by_cases w : (gI mc 23 k 9).toInt ≤ 0
        · rw [if_pos w, if_pos (by rw [Int32.le_iff_toInt_le, t_0]; exact w), lt1_e, t1]
        · rw [if_neg w, if_neg (by rw [Int32.le_iff_toInt_le, t_0]; exact w), drf_e hl', b1, b2, b5, a1, a2, a5]
          by_cases w1 : gI mm 5 0 k = gI mm 5 0 l
          · rw [if_pos w1, if_pos w1]
            by_cases w2 : gI mm 6 0 k = gI mm 6 0 l
            · rw [if_pos w2, if_pos w2]
              by_cases w3 : gI mm 9 0 k = gI mm 9 0 l
              · rw [if_pos w3, if_pos w3, bn2_e, if_neg (by decide)]
              · rw [if_neg w3, if_neg w3, bn2_e, if_pos rfl, lt1_e, t1]
            · rw [if_neg w2, if_neg w2, bn2_e, if_pos rfl, lt1_e, t1]
          · rw [if_neg w1, if_neg w1, bn2_e, if_pos rfl, lt1_e, t1]
      have mgo : f_X12_isBarred_l21 FL (nI l) (N + 1) (nI k) mm = if (gI mc 23 k 9).toInt ≤ 0 then some (t, mm) else if gI mm 5 0 k = gI mm 5 0 l then (if gI mm 6 0 k = gI mm 6 0 l then (if gI mm 9 0 k = gI mm 9 0 l then some (0, mm) else some (t, mm)) else some (t, mm)) else some (t, mm) := by
        show f_X12_isBarred_l21_b (f_X12_isBarred_l21 FL (nI l) N) FL (nI l) (nI k) mm = _
        unfold f_X12_isBarred_l21_b
        rw [h0.2.2.1, if_neg (by rw [Int32.le_iff_toInt_le, e1, inl]; omega), asr_t avk]
        simp only [asr_t avk, asr_t avl, e2, cl, g2]
        by_cases w : (gI mc 23 k 9).toInt ≤ 0
        · rw [if_pos w, if_neg (show ¬ 0 < (gI mc 23 k 9).toInt by omega), if_pos rfl, lt1_e, t2]
        · rw [if_neg w, if_pos (show 0 < (gI mc 23 k 9).toInt by omega), if_neg (by decide)]
          simp only [lt1_e, t2]
      rw [cgo, mgo]
      by_cases w : (gI mc 23 k 9).toInt ≤ 0
      · rw [if_pos w, if_pos w]; exact ⟨t, t0, rfl, rfl⟩
      · rw [if_neg w, if_neg w]
        by_cases w1 : gI mm 5 0 k = gI mm 5 0 l
        · rw [if_pos w1, if_pos w1]
          by_cases w2 : gI mm 6 0 k = gI mm 6 0 l
          · rw [if_pos w2, if_pos w2]
            by_cases w3 : gI mm 9 0 k = gI mm 9 0 l
            · rw [if_pos w3, if_pos w3]; exact ⟨0, Or.inl rfl, rfl, rfl⟩
            · rw [if_neg w3, if_neg w3]; exact ⟨t, t0, rfl, rfl⟩
          · rw [if_neg w2, if_neg w2]; exact ⟨t, t0, rfl, rfl⟩
        · rw [if_neg w1, if_neg w1]; exact ⟨t, t0, rfl, rfl⟩
theorem kC.nl {mc mc' : Mem} (h : kC mc mc') : nl mc' = nl mc := by
  show gR mc' 999 23 0 = gR mc 999 23 0
  unfold gR
  rw [h.1]
theorem kC.ng {mc mc' : Mem} (h : kC mc mc') : ng mc' = ng mc := by
  show gR mc' 999 24 0 = gR mc 999 24 0
  unfold gR
  rw [h.1]
theorem barred_both {n l : Nat} {mc mm : Mem} (h : RR n mc mm) (hl : l < nl mc) : ∃ v mc' mm', f_X11_isBarred FL (l + 1) mc = some (bI v, mc') ∧ f_X12_isBarred FL (nI l) mm = some (bI v, mm') ∧ RR n mc' mm' ∧ kC mc mc' ∧ kM mm mm' := by
  have hn : nl mc ≤ 60 := h.2.2.1.1
  have il := nI_toInt (n := l) (by omega)
  have cl := nI_clamp (n := l) (by omega)
  obtain ⟨a0, a1, a2, a3, a4, a5, a6, a7, -⟩ := h.2.2.2.1 l hl
  obtain ⟨f, -, f1, f2⟩ := rg_n (lo := 0) 7 (by omega) a7
  have t1 : gI mc 0 0 0 = gI mm 0 0 0 := h.1.1
  obtain ⟨v, mc', mm', y1, y2, y3, y4, y5⟩ := bars_both (d := gI mm 0 0 0) (show f < 8 by omega) h
  have hl2 : l < nl mc' := by rw [y4.nl]; exact hl
  obtain ⟨t, t0, z1, z2⟩ := bar_l y3 hl2 FL 0 (by omega) (by have := FL_ge; omega)
  rw [show nI 0 = 0 from rfl] at z1 z2
  have c1 : f_X11_isBarred FL (l + 1) mc = some (if v then 1 else if t = 0 then 1 else 0, mc') := by
    unfold f_X11_isBarred
    rw [drf_e (show l < gR mc 999 23 0 from hl), a2, f2, t1, y1, bn2_e]
    cases v with
    | true => rw [if_neg (show ¬ bI true = 0 by decide)]; rfl
    | false =>
      rw [if_pos (show bI false = 0 from rfl), z1, bn2_e]
      rcases t0 with rfl | rfl <;> rfl
  have c2 : f_X12_isBarred FL (nI l) mm = some (if v then 1 else if t = 0 then 1 else 0, mm') := by
    unfold f_X12_isBarred
    rw [asr_t (by rw [vq_i, il]; omega), cl, f2, y2, bn2_e]
    cases v with
    | true => rw [if_neg (show ¬ bI true = 0 by decide)]; rfl
    | false =>
      rw [if_pos (show bI false = 0 from rfl), z2, bn2_e]
      rcases t0 with rfl | rfl <;> rfl
  refine ⟨v || decide (t = 0), mc', mm', ?_, ?_, y3, y4, y5⟩
  · rw [c1]; cases v <;> rcases t0 with rfl | rfl <;> rfl
  · rw [c2]; cases v <;> rcases t0 with rfl | rfl <;> rfl
theorem sim_of {n : Nat} {mc mm : Mem} (h : RR n mc mm) (a1 a2 : Int32) : Sim (n + 1) (f_X11_of FL a1 a2 mc) (f_X12_of FL a1 a2 mm) := by
  rcases lot_cases h.2.2.1 a1 FL with ⟨c1, c2⟩ | ⟨l, l1, l2, rfl, l4, l5, c1, c2⟩
  · refine Sim.same h (-1) ?_ ?_
    · unfold f_X11_of; rw [c1, bn2_e, if_pos rfl]
    · unfold f_X12_of; rw [c2, bn2_e, if_pos rfl]
  · have hd : l < gR mc 999 23 0 := l1
    have av : vq (nI l) 60 := by rw [vq_i, l4]; omega
    obtain ⟨b0, b1, b2, b3, b4, b5, -, -, -, -, b6⟩ := h.2.2.2.1 l l1
    have lc := h.2.2.2.2.1 l l1
    have s1 := stock_11 (fl := FL) l1
    have s2 := stock_12 (fl := FL) l1 l2 h.2.2.2.1 h.2.2.2.2.1 h.2.2.2.2.2.1
    have x1 : ∀ r, (if a2 = 0 then drf (gR mc 999 23 0) (l + 1) fun j5 => some ((gI mc 23 j5 1), mc)
      else if a2 = 1 then drf (gR mc 999 23 0) (l + 1) fun j9 => some ((gI mc 23 j9 2), mc)
      else if a2 = 2 then drf (gR mc 999 23 0) (l + 1) fun j13 => some ((gI mc 23 j13 3), mc)
      else if a2 = 3 then drf (gR mc 999 23 0) (l + 1) fun j17 => some ((gI mc 23 j17 4), mc)
      else if a2 = 4 then drf (gR mc 999 23 0) (l + 1) fun j21 => some ((gI mc 23 j21 5), mc)
      else if a2 = 5 then drf (gR mc 999 23 0) (l + 1) fun j25 => some ((gI mc 23 j25 6), mc)
      else if a2 = 6 then drf (gR mc 999 23 0) (l + 1) fun j29 => bn2 (f_X4_stock FL j29 mc) fun v33 m32 => some (v33, m32)
      else if a2 = 7 then bn2 (f_X11_isBarred FL (l + 1) mc) fun v36 m35 => if v36 = 0 then some (0, m35) else some (1, m35)
      else if a2 = 8 then drf (gR mc 999 23 0) (l + 1) fun j39 => bn2 (f_X3_numberFor FL 1 (gI mc 23 j39 5) mc) fun v43 m42 => some (((gI mc 23 j39 3) * v43), m42)
      else some ((-1), mc)) = r → f_X11_of FL (nI l) a2 mc = r := by
      intro r hr
      unfold f_X11_of
      rw [c1, bn2_e, if_neg (by omega)]
      exact hr
    have x2 : ∀ r, (if a2 = 0 then some ((gI mm 5 0 l), mm)
      else if a2 = 1 then some ((gI mm 6 0 l), mm)
      else if a2 = 2 then some ((gI mm 7 0 l), mm)
      else if a2 = 3 then some ((gI mm 8 0 l), mm)
      else if a2 = 4 then some ((gI mm 9 0 l), mm)
      else if a2 = 5 then (if 0 ≤ gI mm 10 0 l then some (gI mm 10 0 l, mm) else some (-5, mm))
      else if a2 = 6 then bn2 (f_X12_stock FL (nI l) mm) fun v20 m19 => some (v20, m19)
      else if a2 = 7 then bn2 (f_X12_isBarred FL (nI l) mm) fun v23 m22 => if v23 = 0 then some (0, m22) else some (1, m22)
      else if a2 = 8 then bn2 (f_X12_number FL 1 (gI mm 9 0 l) mm) fun v29 m28 => some (((gI mm 7 0 l) * v29), m28)
      else some ((-1), mm)) = r → f_X12_of FL (nI l) a2 mm = r := by
      intro r hr
      unfold f_X12_of
      rw [c2, bn2_e, if_neg (by decide)]
      simp only [asr_t av, l5]
      exact hr
    by_cases d0 : a2 = 0
    · exact Sim.same h (gI mm 5 0 l) (x1 _ (by rw [if_pos d0, drf_e hd, b1])) (x2 _ (by rw [if_pos d0]))
    · by_cases d1 : a2 = 1
      · exact Sim.same h (gI mm 6 0 l) (x1 _ (by rw [if_neg d0, if_pos d1, drf_e hd, b2])) (x2 _ (by rw [if_neg d0, if_pos d1]))
      · by_cases d2 : a2 = 2
        · exact Sim.same h (gI mm 7 0 l) (x1 _ (by rw [if_neg d0, if_neg d1, if_pos d2, drf_e hd, b3])) (x2 _ (by rw [if_neg d0, if_neg d1, if_pos d2]))
        · by_cases d3 : a2 = 3
          · exact Sim.same h (gI mm 8 0 l) (x1 _ (by rw [if_neg d0, if_neg d1, if_neg d2, if_pos d3, drf_e hd, b4])) (x2 _ (by rw [if_neg d0, if_neg d1, if_neg d2, if_pos d3]))
          · by_cases d4 : a2 = 4
            · exact Sim.same h (gI mm 9 0 l) (x1 _ (by rw [if_neg d0, if_neg d1, if_neg d2, if_neg d3, if_pos d4, drf_e hd, b5])) (x2 _ (by rw [if_neg d0, if_neg d1, if_neg d2, if_neg d3, if_pos d4]))
            · by_cases d5 : a2 = 5
              · refine Sim.same h (gI mc 23 l 6) (x1 _ (by rw [if_neg d0, if_neg d1, if_neg d2, if_neg d3, if_neg d4, if_pos d5, drf_e hd])) (x2 _ ?_)
                rw [if_neg d0, if_neg d1, if_neg d2, if_neg d3, if_neg d4, if_pos d5]
                rcases lc with ⟨p1, p2⟩ | ⟨p1, -, p2, -⟩
                · rw [p2, p1, if_neg (by decide)]
                · rw [p1, if_pos (by rw [Int32.le_iff_toInt_le, t_0]; exact p2.1)]
              · by_cases d6 : a2 = 6
                · exact Sim.same h (stk mc l) (x1 _ (by rw [if_neg d0, if_neg d1, if_neg d2, if_neg d3, if_neg d4, if_neg d5, if_pos d6, drf_e hd, s1, bn2_e])) (x2 _ (by rw [if_neg d0, if_neg d1, if_neg d2, if_neg d3, if_neg d4, if_neg d5, if_pos d6, s2, bn2_e]))
                · by_cases d7 : a2 = 7
                  · obtain ⟨v, mc', mm', y1, y2, y3, -, -⟩ := barred_both h l1
                    refine ⟨bI v, mc', mm', x1 _ ?_, x2 _ ?_, y3.up⟩
                    · rw [if_neg d0, if_neg d1, if_neg d2, if_neg d3, if_neg d4, if_neg d5, if_neg d6, if_pos d7, y1, bn2_e]
                      cases v <;> rfl
                    · rw [if_neg d0, if_neg d1, if_neg d2, if_neg d3, if_neg d4, if_neg d5, if_neg d6, if_pos d7, y2, bn2_e]
                      cases v <;> rfl
                  · by_cases d8 : a2 = 8
                    · obtain ⟨r, mm', y1, y2, y3, y4⟩ := number_both (w := 1) (d := gI mm 9 0 l) (by decide) h
                      rw [show nI 1 = 1 from rfl] at y1 y2
                      refine ⟨gI mm 7 0 l * r, mc, mm', x1 _ ?_, x2 _ ?_, y3.up⟩
                      · rw [if_neg d0, if_neg d1, if_neg d2, if_neg d3, if_neg d4, if_neg d5, if_neg d6, if_neg d7, if_pos d8, drf_e hd, b5, y1, bn2_e, b3]
                      · rw [if_neg d0, if_neg d1, if_neg d2, if_neg d3, if_neg d4, if_neg d5, if_neg d6, if_neg d7, if_pos d8, y2, bn2_e]
                    · exact Sim.same h (-1) (x1 _ (by rw [if_neg d0, if_neg d1, if_neg d2, if_neg d3, if_neg d4, if_neg d5, if_neg d6, if_neg d7, if_neg d8])) (x2 _ (by rw [if_neg d0, if_neg d1, if_neg d2, if_neg d3, if_neg d4, if_neg d5, if_neg d6, if_neg d7, if_neg d8]))
theorem RR.cut1 {n b : Nat} {mc mm : Mem} (h : RR n mc mm) : RR n (sI mc 13 b 2 0) (sI mm 2 0 b 0) := by
  obtain ⟨hT, hF, hL0, hL, hLc, hLg, hSb, hSs, hB, hP, hN, hG0, hG, hGd, hGw, hPw, hPa, hNa, hA, hTa, hR, hS, hW0, hW⟩ := h
  have hN' : r_N (sI mc 13 b 2 0) (sI mm 2 0 b 0) := fun j hj => by
    obtain ⟨np, n1, n2, n3, n4⟩ := hN j hj
    exact ⟨np, n1, by rw [gI_sI, if_neg (fun q => by have := q.2.2; omega)]; exact n2, n3, n4⟩
  refine ⟨hT, hF, hL0, hL, hLc, hLg, hSb, hSs, ?_, hP, hN', hG0, hG, hGd, hGw, hPw, hPa, hNa, hA, hTa, hR, hS, hW0, hW⟩
  intro j hj
  have := hB j hj
  by_cases e : j = b
  · subst e
    obtain ⟨p1, p2, p3, p4, p5, p6, p7, p8, p9⟩ := this
    have q : ∀ k, k ≠ 2 → gI (sI mc 13 j 2 0) 13 j k = gI mc 13 j k := fun k hk => by rw [gI_sI, if_neg (fun w => hk w.2.2)]
    have q2 : gI (sI mm 2 0 j 0) 2 0 j = 0 := by rw [gI_sI, if_pos ⟨rfl, rfl, rfl⟩]
    refine ⟨(q 0 (by decide)).trans p1, (q 1 (by decide)).trans p2, ?_, (q 3 (by decide)).trans p4, fun z => (q 5 (by decide)).trans (p5 z), p6, ?_, p8, by rw [q 5 (by decide)]; exact p9⟩
    · rw [q2, gI_sI, if_pos ⟨rfl, rfl, rfl⟩]
    · rw [q2]; exact rg_0 60 (by omega)
  · simpa [gI_sI, gR_sI, e] using this
theorem sim_cut {n : Nat} {mc mm : Mem} (h : RR n mc mm) (a1 : Int32) : Sim (n + 1) (f_X11_cut FL a1 mc) (f_X12_cut FL a1 mm) := by
  rcases bay_cases a1 FL mc mm with ⟨c1, c2, c3, -⟩ | ⟨b, hb, rfl, e1, e2, c1, c2, c3⟩
  · refine Sim.same h (-1) ?_ ?_
    · unfold f_X11_cut; rw [c1, bn2_e, if_pos rfl]
    · unfold f_X12_cut; rw [c2, bn2_e, if_pos rfl]
  · have av : vq (nI b) 30 := by rw [vq_i, e1]; omega
    obtain ⟨b0, b1, b2, -⟩ := h.2.2.2.2.2.2.2.2.1 b hb
    have t1 : gI mc 0 0 0 = gI mm 0 0 0 := h.1.1
    by_cases z : gI mm 2 0 b = 0
    · refine Sim.same h (-3) ?_ ?_
      · unfold f_X11_cut; rw [c1, bn2_e, if_neg (by omega), drf_e hb, b2, if_pos z]
      · unfold f_X12_cut; rw [c2, bn2_e, if_neg (by decide), asr_t av]; simp only [e2]; rw [if_pos z]
    · obtain ⟨v, mc', mm', y1, y2, y3, y4, y5⟩ := may_both (d := gI mm 0 0 0) hb h
      have x1 : f_X11_cut FL (nI b) mc = if bI v = 0 then some (-3, mc') else some (gI mc' 13 b 2, sI mc' 13 b 2 0) := by
        unfold f_X11_cut
        rw [c1, bn2_e, if_neg (by omega), drf_e hb, b2, if_neg z, t1, y1, bn2_e]
        rfl
      have x2 : f_X12_cut FL (nI b) mm = if bI v = 0 then some (-3, mm') else some (gI mm' 2 0 b, sI mm' 2 0 b 0) := by
        unfold f_X12_cut
        rw [c2, bn2_e, if_neg (by decide), asr_t av]
        simp only [e2]
        rw [if_neg z, y2, bn2_e, asr_t av, lt1_e, asr_t av, lt1_e]
      rw [x1, x2]
      cases v with
      | false => exact ⟨-3, mc', mm', rfl, rfl, y3.up⟩
      | true =>
        obtain ⟨-, -, b3, -⟩ := y3.2.2.2.2.2.2.2.2.1 b hb
        exact ⟨gI mm' 2 0 b, sI mc' 13 b 2 0, sI mm' 2 0 b 0, by rw [if_neg (by decide), b3], by rw [if_neg (by decide)], y3.cut1.up⟩
