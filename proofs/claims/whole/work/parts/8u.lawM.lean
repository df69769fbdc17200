/-! loads: bears, breaks -/
theorem load_both {n b : Nat} {mc mm : Mem} (h : RR n mc mm) (hb : b < 30) : ∃ r mm', f_X11_girderLoad FL (b + 1) mc = some (r, mc) ∧ f_X12_loadOf FL (nI b) mm = some (r, mm') ∧ RR n mc mm' := by
  have e1 := nI_toInt (n := b) (by omega)
  have e2 := nI_clamp (n := b) (by omega)
  have avb : vq (nI b) 30 := by rw [vq_i, e1]; omega
  have h2c := hasC h hb (show 1 ≤ 2 by decide) (by decide)
  have h2m := hasM h hb (show 1 ≤ 2 by decide) (by decide)
  rw [show nI 2 = 2 from rfl] at h2c h2m
  have t1 : gI mc 0 0 0 = gI mm 0 0 0 := h.1.1
  unfold f_X11_girderLoad f_X12_loadOf
  rw [drf_e hb, h2c, bn2_e, h2m, bn2_e]
  rcases hs01 (p := 2) h hb with q | q
  · rw [q]; exact ⟨0, mm, rfl, rfl, h⟩
  · obtain ⟨r1, mm1, y1, y2, y3, y4⟩ := number_both (w := 2) (d := gI mm 0 0 0) (by decide) h
    obtain ⟨r2, mm2, z1, z2, z3, z4⟩ := number_both (w := 3) (d := gI mm 0 0 0) (by decide) y3
    rw [show nI 2 = 2 from rfl] at y1 y2
    rw [show nI 3 = 3 from rfl] at z1 z2
    have t2 : gI mm1 0 0 0 = gI mm 0 0 0 := y4.2 _ _ _ (Or.inr (Or.inl (by decide))) (Or.inl (by decide))
    obtain ⟨-, -, -, b3, -⟩ := y3.2.2.2.2.2.2.2.2.1 b hb
    obtain ⟨np, n1, n2, n3, -⟩ := z3.2.2.2.2.2.2.2.2.2.2.1 b hb
    refine ⟨r1 * gI mm1 18 0 b + r2 * nI np, mm2, ?_, ?_, z3⟩
    · rw [q, if_neg (show ¬ (1 : Int32) = 0 by decide), t1, y1, bn2_e, t1, z1, bn2_e, b3, n2]
    · rw [q, if_neg (show ¬ (1 : Int32) = 0 by decide), y2, bn2_e, asr_t avb, t2, z2, bn2_e, asr_t avb, e2, n3]
theorem borne_both {n b : Nat} {mc mm : Mem} (h : RR n mc mm) (hb : b < 30) : ∃ r mm', f_X11_columnLoad FL (b + 1) mc = some (r, mc) ∧ f_X12_borne FL (nI b) mm = some (r, mm') ∧ RR n mc mm' := by
  have lf := left_11 h hb
  have jr : jrem (nI b) 6 = nI (b % 6) := pk_rem (by omega) (by decide) (by decide)
  have i1 := nI_toInt (n := b % 6) (by omega)
  obtain ⟨r1, mm1, y1, y2, y3⟩ := load_both h hb
  unfold f_X11_columnLoad f_X12_borne
  rw [lf, bn2_e, y1, bn2_e, y2, bn2_e, jr]
  by_cases c : b % 6 = 0
  · rw [if_pos c, if_pos rfl, if_pos (show nI (b % 6) ≤ 0 by rw [c]; decide)]
    exact ⟨r1 + 0, mm1, rfl, rfl, y3⟩
  · obtain ⟨r2, mm2, z1, z2, z3⟩ := load_both y3 (show b - 1 < 30 by omega)
    rw [show b - 1 + 1 = b by omega] at z1
    rw [if_neg c, if_neg (show ¬ b = 0 by omega), z1, bn2_e, if_neg (show ¬ nI (b % 6) ≤ 0 by rw [Int32.le_iff_toInt_le, i1, t_0]; omega), show nI b - 1 = nI (b - 1) from pk_sub (b := 1) (by omega), z2, bn2_e]
    exact ⟨r1 + r2, mm2, rfl, rfl, z3⟩
theorem piece {n b p : Nat} {mc mm : Mem} (h : RR n mc mm) (hb : b < 30) (h1 : 1 ≤ p) (h5 : p ≤ 5) (h3 : p ≠ 3) (hs : hsv mc b p = 1) : ∃ l, l < nl mc ∧ l < 60 ∧ gR mc 14 b p = l + 1 ∧ gI mm 14 0 (5 * b + p - 1) = nI l ∧ gI mc 23 l 4 = gI mm 8 0 l ∧ (nI l).toInt = l ∧ (nI l).toNatClampNeg = l := by
  have hn : nl mc ≤ 60 := h.2.2.1.1
  obtain ⟨-, -, -, hp⟩ := h.2.2.2.2.2.2.2.2.2.1 b hb
  obtain ⟨g1, g2, g3⟩ := hp p (by omega) (by omega) h3
  have hs' : (if gR mc 14 b p = 0 then (0 : Int32) else 1) = 1 := by
    have : hsv mc b p = (if p = 3 then (if (gI mc 13 b 4).toInt ≤ 0 then 0 else 1) else (if gR mc 14 b p = 0 then 0 else 1)) := rfl
    rw [this, if_neg h3] at hs
    exact hs
  cases hz : gR mc 14 b p with
  | zero => rw [hz] at hs'; exact absurd hs' (by decide)
  | succ l =>
    have hl : l < nl mc := by omega
    obtain ⟨l0, l1, l2, l3, l4, -⟩ := h.2.2.2.1 l hl
    exact ⟨l, hl, by omega, rfl, by rw [g1, hz]; rfl, l4, nI_toInt (by omega), nI_clamp (by omega)⟩
theorem lat_0 {n b p : Nat} {mc mm : Mem} (h : RR n mc mm) (hb : b < 30) (h3 : p ≠ 3) (hs : hsv mc b p = 0) : gR mc 14 b p = 0 := by
  have : hsv mc b p = (if p = 3 then (if (gI mc 13 b 4).toInt ≤ 0 then 0 else 1) else (if gR mc 14 b p = 0 then 0 else 1)) := rfl
  rw [this, if_neg h3] at hs
  by_cases c : gR mc 14 b p = 0
  · exact c
  · rw [if_neg c] at hs; exact absurd hs (by decide)
theorem lat_p {b : Nat} {mc : Mem} : f_X1_latestAt FL b 2 mc = some (gR mc 14 b 2, mc) ∧ f_X1_latestAt FL b 1 mc = some (gR mc 14 b 1, mc) := by
  constructor
  · unfold f_X1_latestAt
    rw [if_neg (by decide), if_neg (by decide), if_neg (by decide), asr_t (by decide)]
    rfl
  · unfold f_X1_latestAt
    rw [if_neg (by decide), if_neg (by decide), if_neg (by decide), asr_t (by decide)]
    rfl
theorem gh0 {n b : Nat} {mc mm : Mem} (h : RR n mc mm) (hb : b < 30) (hs : hsv mc b 2 = 0) : f_X11_girderHolds FL (b + 1) mc = some (1, mc) := by
  unfold f_X11_girderHolds
  rw [drf_e hb, lat_p.1, bn2_e, lat_0 h hb (by decide) hs, if_pos rfl]
theorem ch0 {n b : Nat} {mc mm : Mem} (h : RR n mc mm) (hb : b < 30) (hs : hsv mc b 1 = 0) : f_X11_columnHolds FL (b + 1) mc = some (1, mc) := by
  unfold f_X11_columnHolds
  rw [drf_e hb, lat_p.2, bn2_e, lat_0 h hb (by decide) hs, if_pos rfl]
theorem gh_both {n b : Nat} {mc mm : Mem} (h : RR n mc mm) (hb : b < 30) (hs : hsv mc b 2 = 1) : ∃ v mm', f_X11_girderHolds FL (b + 1) mc = some (bI v, mc) ∧ f_X12_girderHolds FL (nI b) mm = some (bI v, mm') ∧ RR n mc mm' := by
  obtain ⟨r, mm1, y1, y2, y3⟩ := load_both h hb
  obtain ⟨l, l1, l2, l3, l4, l5, l6, l7⟩ := piece y3 hb (show 1 ≤ 2 by decide) (by decide) (by decide) hs
  have e5 : (5 : Int32) * nI b + 1 = nI (5 * b + 1) := by
    rw [show (5 : Int32) * nI b = nI (5 * b) from pk_mul 5 b]; exact nI_add _ 1
  have e6 := nI_toInt (n := 5 * b + 1) (by omega)
  have e7 := nI_clamp (n := 5 * b + 1) (by omega)
  have l4' : gI mm1 14 0 (5 * b + 1) = nI l := l4
  unfold f_X11_girderHolds f_X12_girderHolds
  rw [drf_e hb, lat_p.1, bn2_e, l3, if_neg (by omega), y1, bn2_e, drf_e (show l < gR mc 999 23 0 from l1), y2, bn2_e, e5, asr_t (by rw [vq_i, e6]; omega)]
  simp only [e7, l4', l7, l5]
  rw [asr_t (by rw [vq_i, l6]; omega)]
  by_cases c : gI mm1 8 0 l < r
  · rw [if_pos c, if_pos c]; exact ⟨false, mm1, rfl, rfl, y3⟩
  · rw [if_neg c, if_neg c]; exact ⟨true, mm1, rfl, rfl, y3⟩
theorem ch_both {n b : Nat} {mc mm : Mem} (h : RR n mc mm) (hb : b < 30) (hs : hsv mc b 1 = 1) : ∃ v mm', f_X11_columnHolds FL (b + 1) mc = some (bI v, mc) ∧ f_X12_columnHolds FL (nI b) mm = some (bI v, mm') ∧ RR n mc mm' := by
  obtain ⟨r, mm1, y1, y2, y3⟩ := borne_both h hb
  obtain ⟨l, l1, l2, l3, l4, l5, l6, l7⟩ := piece y3 hb (show 1 ≤ 1 by decide) (by decide) (by decide) hs
  have e5 : (5 : Int32) * nI b = nI (5 * b) := pk_mul 5 b
  have e6 := nI_toInt (n := 5 * b) (by omega)
  have e7 := nI_clamp (n := 5 * b) (by omega)
  have l4' : gI mm1 14 0 (5 * b) = nI l := l4
  unfold f_X11_columnHolds f_X12_columnHolds
  rw [drf_e hb, lat_p.2, bn2_e, l3, if_neg (by omega), y1, bn2_e, drf_e (show l < gR mc 999 23 0 from l1), y2, bn2_e, e5, asr_t (by rw [vq_i, e6]; omega)]
  simp only [e7, l4', l7, l5]
  rw [asr_t (by rw [vq_i, l6]; omega)]
  by_cases c : 600 - 3 * gI mm1 8 0 l < r
  · rw [if_pos c, if_pos c]; exact ⟨false, mm1, rfl, rfl, y3⟩
  · rw [if_neg c, if_neg c]; exact ⟨true, mm1, rfl, rfl, y3⟩
theorem sim_bears {n : Nat} {mc mm : Mem} (h : RR n mc mm) (a1 a2 : Int32) : Sim (n + 1) (f_X11_bears FL a1 a2 mc) (f_X12_bears FL a1 a2 mm) := by
  rcases bay_cases a1 FL mc mm with ⟨d1, d2, d3, -⟩ | ⟨b, hb, rfl, e1, e2, d1, d2, d3⟩
  · exact Sim.same h (-1) (by unfold f_X11_bears; rw [d1, bn2_e, if_pos rfl]) (by unfold f_X12_bears; rw [d2, bn2_e, if_pos rfl])
  · rcases inr (x := a2) 4 (by decide) with q | ⟨w, hw, rfl⟩
    · refine Sim.same h (-1) ?_ ?_
      · unfold f_X11_bears
        rw [d1, bn2_e, if_neg (by omega)]
        by_cases c : a2 < 0
        · rw [if_pos c]
        · rw [if_neg c, if_neg (show ¬ a2 ≤ 3 from fun z => by rw [Int32.le_iff_toInt_le, t_3] at z; rw [Int32.lt_iff_toInt_lt, t_0] at c; omega)]
      · unfold f_X12_bears
        rw [d2, bn2_e, if_neg (by decide), in_12, if_neg (show ¬ ((0 : Int32).toInt ≤ a2.toInt ∧ a2.toInt ≤ (3 : Int32).toInt) by rw [t_0, t_3]; omega), bn2_e, if_pos rfl]
    · have h2c := hasC h hb (show 1 ≤ 2 by decide) (by decide)
      have h2m := hasM h hb (show 1 ≤ 2 by decide) (by decide)
      have h1c := hasC h hb (show 1 ≤ 1 by decide) (by decide)
      have h1m := hasM h hb (show 1 ≤ 1 by decide) (by decide)
      rw [show nI 2 = 2 from rfl] at h2c h2m
      rw [show nI 1 = 1 from rfl] at h1c h1m
      have iw := nI_toInt (n := w) (by omega)
      have x1 : f_X11_bears FL (nI b) (nI w) mc = f_X11_bears_b48 FL (nI w) (b + 1) (b + 1) (if w % 2 = 0 then 2 else 1) mc := by
        unfold f_X11_bears f_X11_bears_b35
        rw [d1, bn2_e, if_neg (by omega)]
        rcases (show w = 0 ∨ w = 1 ∨ w = 2 ∨ w = 3 by omega) with rfl | rfl | rfl | rfl <;> rfl
      have x2 : f_X12_bears FL (nI b) (nI w) mm = f_X12_bears_b33 FL (nI b) (nI w) (nI b) (if w % 2 = 0 then 2 else 1) mm := by
        unfold f_X12_bears
        rw [d2, bn2_e, if_neg (by decide), in_12, if_pos (show (0 : Int32).toInt ≤ (nI w).toInt ∧ (nI w).toInt ≤ (3 : Int32).toInt by rw [t_0, t_3]; omega), bn2_e, if_neg (by decide)]
        rcases (show w = 0 ∨ w = 1 ∨ w = 2 ∨ w = 3 by omega) with rfl | rfl | rfl | rfl <;> rfl
      rw [x1, x2]
      unfold f_X11_bears_b48 f_X12_bears_b33
      rw [drf_e hb]
      rcases (show w = 0 ∨ w = 1 ∨ w = 2 ∨ w = 3 by omega) with rfl | rfl | rfl | rfl
      · rw [if_pos (show 0 % 2 = 0 by decide), h2c, bn2_e, h2m, bn2_e]
        rcases hs01 (p := 2) h hb with q | q
        · rw [q]; exact Sim.same h (-5) rfl rfl
        · obtain ⟨r, mm1, y1, y2, y3⟩ := load_both h hb
          rw [q, if_neg (show ¬ (1 : Int32) = 0 by decide), if_neg (show ¬ (1 : Int32) = 0 by decide), if_pos (show nI 0 = 0 from rfl), if_pos (show nI 0 = 0 from rfl), y1, y2]
          exact ⟨r, mc, mm1, rfl, rfl, y3.up⟩
      · rw [if_neg (show ¬ 1 % 2 = 0 by decide), h1c, bn2_e, h1m, bn2_e]
        rcases hs01 (p := 1) h hb with q | q
        · rw [q]; exact Sim.same h (-5) rfl rfl
        · obtain ⟨r, mm1, y1, y2, y3⟩ := borne_both h hb
          rw [q, if_neg (show ¬ (1 : Int32) = 0 by decide), if_neg (show ¬ (1 : Int32) = 0 by decide), if_neg (show ¬ nI 1 = 0 by decide), if_neg (show ¬ nI 1 = 0 by decide), if_pos (show nI 1 = 1 from rfl), if_pos (show nI 1 = 1 from rfl), y1, y2]
          exact ⟨r, mc, mm1, rfl, rfl, y3.up⟩
      · rw [if_pos (show 2 % 2 = 0 by decide), h2c, bn2_e, h2m, bn2_e]
        rcases hs01 (p := 2) h hb with q | q
        · rw [q]; exact Sim.same h (-5) rfl rfl
        · obtain ⟨v, mm1, y1, y2, y3⟩ := gh_both h hb q
          rw [q, if_neg (show ¬ (1 : Int32) = 0 by decide), if_neg (show ¬ (1 : Int32) = 0 by decide), if_neg (show ¬ nI 2 = 0 by decide), if_neg (show ¬ nI 2 = 0 by decide), if_neg (show ¬ nI 2 = 1 by decide), if_neg (show ¬ nI 2 = 1 by decide), if_pos (show nI 2 = 2 from rfl), if_pos (show nI 2 = 2 from rfl), y1, y2]
          exact ⟨bI v, mc, mm1, by cases v <;> rfl, by cases v <;> rfl, y3.up⟩
      · rw [if_neg (show ¬ 3 % 2 = 0 by decide), h1c, bn2_e, h1m, bn2_e]
        rcases hs01 (p := 1) h hb with q | q
        · rw [q]; exact Sim.same h (-5) rfl rfl
        · obtain ⟨v, mm1, y1, y2, y3⟩ := ch_both h hb q
          rw [q, if_neg (show ¬ (1 : Int32) = 0 by decide), if_neg (show ¬ (1 : Int32) = 0 by decide), if_neg (show ¬ nI 3 = 0 by decide), if_neg (show ¬ nI 3 = 0 by decide), if_neg (show ¬ nI 3 = 1 by decide), if_neg (show ¬ nI 3 = 1 by decide), if_neg (show ¬ nI 3 = 2 by decide), if_neg (show ¬ nI 3 = 2 by decide), y1, y2]
          exact ⟨bI v, mc, mm1, by cases v <;> rfl, by cases v <;> rfl, y3.up⟩
theorem breaks_l {n : Nat} {mc : Mem} : ∀ (N b : Nat) (u : Int32) (mm : Mem), RR n mc mm → b ≤ 30 → 31 ≤ N + b → ∃ r mm', f_X11_breaks_l13 FL 30 N u (nI b) mc = some (r, mc) ∧ f_X12_breaks_l4 FL N u (nI b) mm = some (r, mm') ∧ RR n mc mm' := by
  intro N
  induction N with
  | zero => intro b u mm h h1 h2; omega
  | succ N ih =>
    intro b u mm h h1 h2
    have e1 := nI_toInt (n := b) (by omega)
    have e2 := nI_clamp (n := b) (by omega)
    show ∃ r mm', f_X11_breaks_l13_b (f_X11_breaks_l13 FL 30 N) FL 30 u (nI b) mc = some (r, mc) ∧ f_X12_breaks_l4_b (f_X12_breaks_l4 FL N) FL u (nI b) mm = some (r, mm') ∧ _
    unfold f_X11_breaks_l13_b f_X12_breaks_l4_b
    by_cases c : b = 30
    · subst c
      exact ⟨u, mm, by rw [if_pos (by decide)], by rw [if_pos (by decide)], h⟩
    · have hb : b < 30 := by omega
      have h30 : ¬ 30 ≤ nI b := fun q => by rw [Int32.le_iff_toInt_le, e1] at q; have q : (30 : Int) ≤ b := q; omega
      have h2m := hasM h hb (show 1 ≤ 2 by decide) (by decide)
      rw [show nI 2 = 2 from rfl] at h2m
      have b0 : gI mc 13 b 0 = nI b := (h.2.2.2.2.2.2.2.2.1 b hb).1
      rw [if_neg h30, asr_t (by rw [vq_i, e1]; omega), if_neg h30, h2m, bn2_e]
      simp only [e2]
      rcases hs01 (p := 2) h hb with q2 | q2
      · have h1m := hasM h hb (show 1 ≤ 1 by decide) (by decide)
        rw [show nI 1 = 1 from rfl] at h1m
        rw [gh0 h hb q2, bn2_e, if_neg (show ¬ (1 : Int32) = 0 by decide), q2, if_pos rfl, h1m, bn2_e]
        rcases hs01 (p := 1) h hb with q1 | q1
        · obtain ⟨r, mm', z1, z2, z3⟩ := ih (b + 1) u mm h (by omega) (by omega)
          rw [← nI_1] at z1 z2
          rw [ch0 h hb q1, bn2_e, if_neg (show ¬ (1 : Int32) = 0 by decide), lt1_e, q1, if_pos rfl, lt1_e]
          exact ⟨r, mm', z1, z2, z3⟩
        · obtain ⟨v, mm1, y1, y2, y3⟩ := ch_both h hb q1
          rw [y1, bn2_e, q1, if_neg (show ¬ (1 : Int32) = 0 by decide), y2, bn2_e]
          cases v with
          | false =>
            obtain ⟨r, mm', z1, z2, z3⟩ := ih (b + 1) (u ||| jshl 1 (nI b)) mm1 y3 (by omega) (by omega)
            rw [← nI_1] at z1 z2
            rw [if_pos (show bI false = 0 from rfl), if_pos (show bI false = 0 from rfl), b0, lt1_e, lt1_e, lt1_e, lt1_e]
            exact ⟨r, mm', z1, z2, z3⟩
          | true =>
            obtain ⟨r, mm', z1, z2, z3⟩ := ih (b + 1) u mm1 y3 (by omega) (by omega)
            rw [← nI_1] at z1 z2
            rw [if_neg (show ¬ bI true = 0 by decide), if_neg (show ¬ bI true = 0 by decide), lt1_e, lt1_e]
            exact ⟨r, mm', z1, z2, z3⟩
      · obtain ⟨v, mm1, y1, y2, y3⟩ := gh_both h hb q2
        rw [y1, bn2_e, q2, if_neg (show ¬ (1 : Int32) = 0 by decide), y2, bn2_e]
        cases v with
        | false =>
          obtain ⟨r, mm', z1, z2, z3⟩ := ih (b + 1) (u ||| jshl 1 (nI b)) mm1 y3 (by omega) (by omega)
          rw [← nI_1] at z1 z2
          rw [if_pos (show bI false = 0 from rfl), if_pos (show bI false = 0 from rfl), b0, lt1_e, lt1_e, lt1_e, lt1_e]
          exact ⟨r, mm', z1, z2, z3⟩
        | true =>
          have h1m := hasM y3 hb (show 1 ≤ 1 by decide) (by decide)
          rw [show nI 1 = 1 from rfl] at h1m
          rw [if_neg (show ¬ bI true = 0 by decide), if_neg (show ¬ bI true = 0 by decide), h1m, bn2_e]
          rcases hs01 (p := 1) h hb with q1 | q1
          · obtain ⟨r, mm', z1, z2, z3⟩ := ih (b + 1) u mm1 y3 (by omega) (by omega)
            rw [← nI_1] at z1 z2
            rw [ch0 h hb q1, bn2_e, if_neg (show ¬ (1 : Int32) = 0 by decide), lt1_e, q1, if_pos rfl, lt1_e]
            exact ⟨r, mm', z1, z2, z3⟩
          · obtain ⟨v, mm2, w1, w2, w3⟩ := ch_both y3 hb q1
            rw [w1, bn2_e, q1, if_neg (show ¬ (1 : Int32) = 0 by decide), w2, bn2_e]
            cases v with
            | false =>
              obtain ⟨r, mm', z1, z2, z3⟩ := ih (b + 1) (u ||| jshl 1 (nI b)) mm2 w3 (by omega) (by omega)
              rw [← nI_1] at z1 z2
              rw [if_pos (show bI false = 0 from rfl), if_pos (show bI false = 0 from rfl), b0, lt1_e, lt1_e, lt1_e, lt1_e]
              exact ⟨r, mm', z1, z2, z3⟩
            | true =>
              obtain ⟨r, mm', z1, z2, z3⟩ := ih (b + 1) u mm2 w3 (by omega) (by omega)
              rw [← nI_1] at z1 z2
              rw [if_neg (show ¬ bI true = 0 by decide), if_neg (show ¬ bI true = 0 by decide), lt1_e, lt1_e]
              exact ⟨r, mm', z1, z2, z3⟩
theorem sim_breaks {n : Nat} {mc mm : Mem} (h : RR n mc mm) : Sim (n + 1) (f_X11_breaks FL mc) (f_X12_breaks FL mm) := by
  obtain ⟨r, mm', y1, y2, y3⟩ := breaks_l FL 0 0 mm h (by omega) (by have := FL_ge; omega)
  rw [show nI 0 = 0 from rfl] at y1 y2
  exact ⟨r, mc, mm', by unfold f_X11_breaks; rw [y1, bn2_e], by unfold f_X12_breaks; rw [y2, bn2_e], y3.up⟩
