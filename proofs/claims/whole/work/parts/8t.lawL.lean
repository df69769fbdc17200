theorem kC_stk {mc mc' : Mem} (h : kC mc mc') (l : Nat) : stk mc' l = stk mc l := by
  have e : ∀ k, gI mc' 23 l k = gI mc 23 l k := fun k => h.2 23 l k (by decide)
  show (if gI mc' 23 l 6 = -5 then 0 else gI mc' 23 l 3 - gI mc' 23 l 8 - gI mc' 23 l 9 - gI mc' 23 l 10) = (if gI mc 23 l 6 = -5 then 0 else gI mc 23 l 3 - gI mc 23 l 8 - gI mc 23 l 9 - gI mc 23 l 10)
  rw [e, e, e, e, e]
theorem kC_hsv {mc mc' : Mem} (h : kC mc mc') (b p : Nat) : hsv mc' b p = hsv mc b p := by
  have e : gI mc' 13 b 4 = gI mc 13 b 4 := h.2 13 b 4 (by decide)
  have e2 : gR mc' 14 b p = gR mc 14 b p := by
    show mc'.2.2 14 b p = mc.2.2 14 b p
    rw [h.1]
  show (if p = 3 then (if (gI mc' 13 b 4).toInt ≤ 0 then 0 else 1) else (if gR mc' 14 b p = 0 then 0 else 1)) = (if p = 3 then (if (gI mc 13 b 4).toInt ≤ 0 then 0 else 1) else (if gR mc 14 b p = 0 then 0 else 1))
  rw [e, e2]
theorem kC_roomy {mc mc' : Mem} (h : kC mc mc') {b p : Nat} (hr : roomy mc b p) : roomy mc' b p := by
  have e : gI mc' 13 b 4 = gI mc 13 b 4 := h.2 13 b 4 (by decide)
  have e2 := kC_hsv h b p
  show (if p = 3 then (gI mc' 13 b 4).toInt < 24 else hsv mc' b p = 0)
  rw [e, e2]
  exact hr
theorem plc_k {n l : Nat} {mc mm : Mem} (h : RR n mc mm) (hl : l < nl mc) : ∃ k p, k ≤ 6 ∧ gI mm 5 0 l = nI k ∧ p = (if k = 6 then 1 else k) ∧ p ≤ 5 ∧ plc (gI mm 5 0 l) = nI p ∧ f_X4_place FL l mc = some (nI p, mc) := by
  obtain ⟨l0, l1, l2, l3, l4, l5, l6, -⟩ := h.2.2.2.1 l hl
  obtain ⟨k, -, k1, k2⟩ := rg_n (lo := 0) 6 (by omega) l6
  have ik := nI_toInt (n := k) (by omega)
  refine ⟨k, if k = 6 then 1 else k, k1, k2, rfl, ?_, ?_, ?_⟩
  · by_cases c : k = 6
    · rw [if_pos c]; omega
    · rw [if_neg c]; omega
  · unfold plc
    rw [k2]
    by_cases c : k = 6
    · rw [if_pos c, if_pos (by rw [c]; rfl)]; rfl
    · rw [if_neg c, if_neg (fun q => by rw [i32_eq, ik, t_6] at q; omega)]
  · unfold f_X4_place
    rw [l1, k2]
    by_cases c : k = 6
    · rw [if_pos c, if_pos (by rw [c]; rfl)]; rfl
    · rw [if_neg c, if_neg (fun q => by rw [i32_eq, ik, t_6] at q; omega)]
theorem place_12 {fl : Nat} {x : Int32} {m : Mem} : f_X12_placeOf fl x m = some (plc x, m) := by
  unfold f_X12_placeOf plc
  by_cases c : x = 6
  · rw [if_pos c, if_pos c]
  · rw [if_neg c, if_neg c]
theorem hind_both {n l b : Nat} {mc mm : Mem} (h : RR n mc mm) (hl : l < nl mc) (hb : b < 30) : ∃ r mc' mm', f_X11_hindrance FL (l + 1) (b + 1) mc = some (r, mc') ∧ f_X12_fits FL (nI l) (nI b) mm = some (r, mm') ∧ RR n mc' mm' ∧ kC mc mc' ∧ kM mm mm' ∧
    (r = 1 → ∃ p, 1 ≤ p ∧ p ≤ 5 ∧ plc (gI mm 5 0 l) = nI p ∧ 1 ≤ (stk mc l).toInt ∧ roomy mc b p) := by
  have hn : nl mc ≤ 60 := h.2.2.1.1
  have il := nI_toInt (n := l) (by omega)
  have cl := nI_clamp (n := l) (by omega)
  have e1 := nI_toInt (n := b) (by omega)
  have e2 := nI_clamp (n := b) (by omega)
  have avl : vq (nI l) 60 := by rw [vq_i, il]; omega
  have avb : vq (nI b) 30 := by rw [vq_i, e1]; omega
  have hl' : l < gR mc 999 23 0 := hl
  obtain ⟨k, p, k1, k2, k3, k4, k5, k6⟩ := plc_k h hl
  have ik := nI_toInt (n := k) (by omega)
  have ip := nI_toInt (n := p) (by omega)
  have s1 := stock_11 (fl := FL) hl
  have s2 := stock_12 (fl := FL) hl (by omega) h.2.2.2.1 h.2.2.2.2.1 h.2.2.2.2.2.1
  unfold f_X11_hindrance f_X12_fits
  rw [drf_e hl', k6, bn2_e, asr_t hl', s1, bn2_e, asr_t avl, cl, lt1_e, place_12, bn2_e, s2, bn2_e, k5]
  by_cases c1 : 1 ≤ stk mc l
  · obtain ⟨v, mc1, mm1, y1, y2, y3, y4, y5⟩ := barred_both h hl
    have hl1 : l < nl mc1 := by rw [y4.nl]; exact hl
    rw [if_pos c1, if_pos c1, y1, bn2_e, y2, bn2_e]
    cases v with
    | true =>
      exact ⟨-2, mc1, mm1, rfl, rfl, y3, y4, y5, fun q => by cases q⟩
    | false =>
      rw [if_pos (show bI false = 0 from rfl), if_pos (show bI false = 0 from rfl), k2]
      by_cases c2 : k = 0
      · have p0 : p = 0 := by rw [k3, c2]; rfl
        rw [c2, p0, if_pos (show nI 0 = 0 from rfl), if_pos (show nI 0 = 0 from rfl)]
        exact ⟨-3, mc1, mm1, rfl, rfl, y3, y4, y5, fun q => by cases q⟩
      · have p1 : 1 ≤ p := by
          rw [k3]
          split <;> omega
        rw [if_neg (show ¬ nI p = 0 from fun q => by rw [i32_eq, ip, t_0] at q; omega), if_neg (show ¬ nI k = 0 from fun q => by rw [i32_eq, ik, t_0] at q; omega), drf_e hb]
        obtain ⟨g, mm2, z1, z2, z3, z4⟩ := rest_both y3 hl1 hb p1 k4
        have fin : roomy mc b p → ∃ r mc' mm', (some (g, mc1) : Option (Int32 × Mem)) = some (r, mc') ∧ f_X12_fits_b76 FL (nI l) (nI b) (nI p) mm1 = some (r, mm') ∧ RR n mc' mm' ∧ kC mc mc' ∧ kM mm mm' ∧ (r = 1 → ∃ p, 1 ≤ p ∧ p ≤ 5 ∧ nI k = gI mm 5 0 l ∧ plc (gI mm 5 0 l) = nI p ∧ 1 ≤ (stk mc l).toInt ∧ roomy mc b p) := fun hr => ⟨g, mc1, mm2, rfl, z1, z2, y4, y5.tr z3, fun _ => ⟨p, p1, k4, k2.symm, k5, by rw [Int32.le_iff_toInt_le, t_1] at c1; exact c1, hr⟩⟩
        obtain ⟨np, n1, n2, n3, -⟩ := y3.2.2.2.2.2.2.2.2.2.2.1 b hb
        have inp := nI_toInt (n := np) (by omega)
        have pan : gI mc 13 b 4 = nI np := by rw [← y4.2 13 b 4 (by decide)]; exact n2
        by_cases p3 : p = 3
        · have e3 : nI p = 3 := by rw [p3]; rfl
          unfold f_X1_room
          rw [if_pos e3, bn2_e, if_pos e3, asr_t avb]
          simp only [e2]
          rw [n2, n3]
          by_cases r0 : np = 24
          · rw [if_neg (show ¬ 1 ≤ 24 - nI np by rw [r0]; decide), if_pos (show nI np = 24 by rw [r0]; rfl)]
            exact ⟨-4, mc1, mm1, rfl, rfl, y3, y4, y5, fun q => by cases q⟩
          · have e24 : (24 - nI np : Int32) = nI (24 - np) := pk_sub (a := 24) (by omega)
            have i24 := nI_toInt (n := 24 - np) (by omega)
            rw [if_pos (show 1 ≤ 24 - nI np by rw [e24, Int32.le_iff_toInt_le, i24, t_1]; omega), if_neg (show ¬ nI np = 24 from fun q => by rw [i32_eq, inp, t_24] at q; omega)]
            rw [z4]
            have hr : roomy mc b p := by
              show (if p = 3 then (gI mc 13 b 4).toInt < 24 else hsv mc b p = 0)
              rw [if_pos p3, pan, inp]; omega
            obtain ⟨r, mc', mm', q1, q2, q3, q4, q5, q6⟩ := fin hr
            exact ⟨r, mc', mm', q1, q2, q3, q4, q5, fun u => by
              obtain ⟨p', u1, u2, -, u4, u5⟩ := q6 u
              exact ⟨p', u1, u2, k5.symm.trans u4, u5⟩⟩
        · have e3 : ¬ nI p = 3 := fun q => by rw [i32_eq, ip, t_3] at q; omega
          unfold f_X1_room
          rw [if_neg e3, hasC y3 hb p1 k4, bn2_e, if_neg e3, hasM y3 hb p1 k4, bn2_e]
          rcases hs01 (p := p) y3 hb with q | q
          · rw [q, if_pos rfl, bn2_e, if_pos (show (1 : Int32) ≤ 1 by decide), if_pos rfl, z4]
            have hr : roomy mc b p := by
              show (if p = 3 then (gI mc 13 b 4).toInt < 24 else hsv mc b p = 0)
              rw [if_neg p3, ← kC_hsv y4 b p]; exact q
            obtain ⟨r, mc', mm', q1, q2, q3, q4, q5, q6⟩ := fin hr
            exact ⟨r, mc', mm', q1, q2, q3, q4, q5, fun u => by
              obtain ⟨p', u1, u2, -, u4, u5⟩ := q6 u
              exact ⟨p', u1, u2, k5.symm.trans u4, u5⟩⟩
          · rw [q, if_neg (show ¬ (1 : Int32) = 0 by decide), bn2_e, if_neg (show ¬ (1 : Int32) ≤ 0 by decide), if_neg (show ¬ (1 : Int32) = 0 by decide)]
            exact ⟨-4, mc1, mm1, rfl, rfl, y3, y4, y5, fun q => by cases q⟩
  · rw [if_neg c1, if_neg c1]
    exact ⟨0, mc, mm, rfl, rfl, h, kC.refl _, kM.refl _, fun q => by cases q⟩
theorem sim_fit {n : Nat} {mc mm : Mem} (h : RR n mc mm) (a1 a2 : Int32) : Sim (n + 1) (f_X11_fit FL a1 a2 mc) (f_X12_fit FL a1 a2 mm) := by
  unfold f_X11_fit f_X12_fit
  rcases lot_cases h.2.2.1 a1 FL with ⟨c1, c2⟩ | ⟨l, l1, l2, rfl, l4, l5, c1, c2⟩
  · rcases bay_cases a2 FL mc mm with ⟨d1, d2, d3, -⟩ | ⟨b, hb, rfl, e1, e2, d1, d2, d3⟩
    · exact Sim.same h (-1) (by rw [c1, bn2_e, d1, bn2_e, if_pos rfl]) (by rw [c2, bn2_e, if_pos rfl])
    · exact Sim.same h (-1) (by rw [c1, bn2_e, d1, bn2_e, if_pos rfl]) (by rw [c2, bn2_e, if_pos rfl])
  · rcases bay_cases a2 FL mc mm with ⟨d1, d2, d3, -⟩ | ⟨b, hb, rfl, e1, e2, d1, d2, d3⟩
    · exact Sim.same h (-1) (by rw [c1, bn2_e, d1, bn2_e, if_neg (by omega), if_pos rfl]) (by rw [c2, bn2_e, if_neg (by decide), d2, bn2_e, if_pos rfl])
    · obtain ⟨r, mc', mm', y1, y2, y3, -⟩ := hind_both h l1 hb
      exact ⟨r, mc', mm', by rw [c1, bn2_e, d1, bn2_e, if_neg (by omega), if_neg (by omega), y1, bn2_e], by rw [c2, bn2_e, if_neg (by decide), d2, bn2_e, if_neg (by decide), y2, bn2_e], y3.up⟩
