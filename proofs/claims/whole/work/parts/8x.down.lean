/-! pace, down -/
theorem nn_i {x : Int32} (h : 0 ≤ x.toInt) : ∃ t : Nat, t < 2 ^ 31 ∧ x = nI t := by
  have lt : x.toInt < 2 ^ 31 := x.toInt_lt
  refine ⟨x.toInt.toNat, by omega, ?_⟩
  rw [i32_eq, nI_toInt (by omega)]
  omega
theorem pace_both {n g : Nat} {mc mm : Mem} (h : RR n mc mm) (hg : g < ng mc) : ∃ P, 1 ≤ P ∧ P ≤ 20 ∧ f_X2_pieces FL g mc = some (nI P, mc) ∧ f_X12_paceOf FL (nI g) mm = some (nI P, mm) := by
  have hn : ng mc ≤ 10 := h.2.2.2.2.2.2.2.2.2.2.2.1.1
  obtain ⟨g0, g1, g2, g3⟩ := h.2.2.2.2.2.2.2.2.2.2.2.2.1 g hg
  obtain ⟨d0, d1, -⟩ := h.2.2.2.2.2.2.2.2.2.2.2.2.2.1 g (by omega)
  have ig := nI_toInt (n := g) (by omega)
  have cg := nI_clamp (n := g) (by omega)
  have avg : vq (nI g) 10 := by rw [vq_i, ig]; omega
  obtain ⟨s, s1, s2, s3⟩ := rg_n (lo := 1) 20 (by omega) g3
  obtain ⟨t, t1, t2⟩ := nn_i d1.1
  have e : nI s + nI t / 10 = nI (s + t / 10) := by
    rw [show nI t / 10 = nI (t / 10) from pk_div (d := 10) t1 (by decide) (by decide), nI_add]
  have ie := nI_toInt (n := s + t / 10) (by omega)
  refine ⟨if s + t / 10 ≤ 20 then s + t / 10 else 20, ?_, ?_, ?_, ?_⟩
  · by_cases c : s + t / 10 ≤ 20
    · rw [if_pos c]; omega
    · rw [if_neg c]; omega
  · by_cases c : s + t / 10 ≤ 20
    · rw [if_pos c]; omega
    · rw [if_neg c]; omega
  · unfold f_X2_pieces jmin
    rw [g1, d0, s3, t2, e]
    by_cases c : s + t / 10 < 20
    · rw [if_pos (show nI (s + t / 10) < 20 by rw [Int32.lt_iff_toInt_lt, ie, t_20]; omega), if_pos (by omega)]
    · rw [if_neg (show ¬ nI (s + t / 10) < 20 by rw [Int32.lt_iff_toInt_lt, ie, t_20]; omega)]
      by_cases c2 : s + t / 10 ≤ 20
      · rw [if_pos c2, show s + t / 10 = 20 by omega]; rfl
      · rw [if_neg c2]; rfl
  · unfold f_X12_paceOf
    simp only [cg]
    rw [asr_t avg, asr_t avg, lt1_e, s3, t2, e]
    by_cases c2 : s + t / 10 ≤ 20
    · rw [if_pos (show nI (s + t / 10) ≤ 20 by rw [Int32.le_iff_toInt_le, ie, t_20]; omega), if_pos c2]
    · rw [if_neg (show ¬ nI (s + t / 10) ≤ 20 by rw [Int32.le_iff_toInt_le, ie, t_20]; omega), if_neg c2]; rfl
theorem sim_pace {n : Nat} {mc mm : Mem} (h : RR n mc mm) (a1 : Int32) : Sim (n + 1) (f_X11_pace FL a1 mc) (f_X12_pace FL a1 mm) := by
  unfold f_X11_pace f_X12_pace
  rcases gang_cases h.2.2.2.2.2.2.2.2.2.2.2.1 a1 FL with ⟨c1, c2⟩ | ⟨g, g1, g2, rfl, g4, g5, c1, c2⟩
  · exact Sim.same h (-1) (by rw [c1, bn2_e, if_pos rfl]) (by rw [c2, bn2_e, if_pos rfl])
  · obtain ⟨P, -, -, p1, p2⟩ := pace_both h g1
    exact Sim.same h (nI P) (by rw [c1, bn2_e, if_neg (by omega), drf_e (show g < gR mc 999 24 0 from g1), p1, bn2_e]) (by rw [c2, bn2_e, if_neg (by decide), p2, bn2_e])
theorem need_both {n b p : Nat} {mc mm : Mem} (h : RR n mc mm) (hb : b < 30) (p1 : 1 ≤ p) (p5 : p ≤ 5) : ∃ v : Bool, f_X11_isNeeded FL (b + 1) (nI p) mc = some (bI v, mc) ∧
    (if nI p = 1 then
          bn2 (f_X12_has FL (nI b) 2 mm) fun v36 m35 =>
          if v36 = 0 then
            if (jrem (nI b) 6) ≤ 0 then
              f_X12_down_b65 FL (nI b) (nI p) m35
            else
              bn2 (f_X12_has FL (nI b - 1) 2 m35) fun v40 m39 =>
              if v40 = 0 then
                f_X12_down_b65 FL (nI b) (nI p) m39
              else
                some ((-3), m39)
          else
            some ((-3), m35)
        else
          f_X12_down_b65 FL (nI b) (nI p) mm) = if v then some (-3, mm) else f_X12_down_b91 FL (nI b) (nI p) mm := by
  have h2c := hasC h hb (show 1 ≤ 2 by decide) (by decide)
  have h2m := hasM h hb (show 1 ≤ 2 by decide) (by decide)
  have h3c := hasC h hb (show 1 ≤ 3 by decide) (by decide)
  have h3m := hasM h hb (show 1 ≤ 3 by decide) (by decide)
  have h4c := hasC h hb (show 1 ≤ 4 by decide) (by decide)
  have h4m := hasM h hb (show 1 ≤ 4 by decide) (by decide)
  rw [show nI 2 = 2 from rfl] at h2c h2m
  rw [show nI 3 = 3 from rfl] at h3c h3m
  rw [show nI 4 = 4 from rfl] at h4c h4m
  have lf := left_11 h hb
  have jr : jrem (nI b) 6 = nI (b % 6) := pk_rem (by omega) (by decide) (by decide)
  have i1 := nI_toInt (n := b % 6) (by omega)
  have ip := nI_toInt (n := p) (by omega)
  by_cases q2 : p = 2
  · subst q2
    have b65 : f_X12_down_b65 FL (nI b) (nI 2) mm = if hsv mc b 3 = 0 then (if hsv mc b 4 = 0 then f_X12_down_b91 FL (nI b) (nI 2) mm else some (-3, mm)) else some (-3, mm) := by
      unfold f_X12_down_b65
      rw [if_pos (show nI 2 = 2 from rfl), h3m, bn2_e, h4m, bn2_e]
    rw [if_neg (show ¬ nI 2 = 1 by decide), b65]
    unfold f_X11_isNeeded
    rw [if_pos (show nI 2 = 2 from rfl), drf_e hb, h3c, bn2_e, h4c, bn2_e]
    rcases hs01 (p := 3) h hb with q | q
    · rw [q, if_pos rfl, if_pos rfl]
      rcases hs01 (p := 4) h hb with r | r
      · rw [r, if_pos rfl, if_pos rfl]; exact ⟨false, rfl, rfl⟩
      · rw [r]; exact ⟨true, rfl, rfl⟩
    · rw [q]; exact ⟨true, rfl, rfl⟩
  · have n2 : ¬ nI p = 2 := fun q => by rw [i32_eq, ip, t_2] at q; omega
    have b65 : ∀ M, f_X12_down_b65 FL (nI b) (nI p) M = f_X12_down_b91 FL (nI b) (nI p) M := fun M => by
      unfold f_X12_down_b65
      rw [if_neg n2]
    simp only [b65]
    unfold f_X11_isNeeded
    rw [if_neg n2, lf, bn2_e]
    by_cases q1 : p = 1
    · have e1 : nI p = 1 := by rw [q1]; rfl
      rw [if_pos e1, if_pos e1, drf_e hb, h2c, bn2_e, h2m, bn2_e, jr]
      rcases hs01 (p := 2) h hb with q | q
      · rw [q, if_pos rfl, if_pos rfl]
        by_cases c : b % 6 = 0
        · rw [if_pos c, if_pos rfl, if_pos (show nI (b % 6) ≤ 0 by rw [c]; decide)]
          exact ⟨false, rfl, rfl⟩
        · have hl2c := hasC h (show b - 1 < 30 by omega) (show 1 ≤ 2 by decide) (by decide)
          have hl2m := hasM h (show b - 1 < 30 by omega) (show 1 ≤ 2 by decide) (by decide)
          rw [show nI 2 = 2 from rfl] at hl2c hl2m
          rw [if_neg c, if_neg (show ¬ nI (b % 6) ≤ 0 by rw [Int32.le_iff_toInt_le, i1, t_0]; omega), if_neg (show ¬ b = 0 by omega), show nI b - 1 = nI (b - 1) from pk_sub (b := 1) (by omega), hl2m, bn2_e]
          rw [show b = (b - 1) + 1 by omega, drf_e (show b - 1 < 30 by omega), show b - 1 + 1 - 1 = b - 1 by omega, hl2c, bn2_e]
          rcases hs01 (p := 2) h (show b - 1 < 30 by omega) with r | r
          · rw [r]; exact ⟨false, rfl, rfl⟩
          · rw [r]; exact ⟨true, rfl, rfl⟩
      · rw [q]; exact ⟨true, rfl, rfl⟩
    · have n1 : ¬ nI p = 1 := fun q => by rw [i32_eq, ip, t_1] at q; omega
      rw [if_neg n1, if_neg n1]
      exact ⟨false, rfl, rfl⟩
theorem rem_p3 {n b : Nat} {mc mm : Mem} (h : RR n mc mm) (hb : b < 30) (hs : hsv mc b 3 = 1) : ∃ l mc' mm', lat mc b 3 = l + 1 ∧ l < nl mc ∧ f_X1_remove FL b (l + 1) mc = some mc' ∧ f_X12_down_b91 FL (nI b) 3 mm = some (nI l, mm') ∧ RR n mc' mm' ∧ nl mc' = nl mc ∧ gI mc' 23 l 0 = nI l := by
  have hn : nl mc ≤ 60 := h.2.2.1.1
  obtain ⟨np, n1, n2, n3, n4⟩ := h.2.2.2.2.2.2.2.2.2.2.1 b hb
  have inp := nI_toInt (n := np) (by omega)
  have hp : 1 ≤ np := by
    have q : (if (3 : Nat) = 3 then (if (gI mc 13 b 4).toInt ≤ 0 then 0 else 1) else (if gR mc 14 b 3 = 0 then 0 else 1)) = (1 : Int32) := hs
    rw [if_pos rfl, n2, inp] at q
    by_cases c : (np : Int) ≤ 0
    · rw [if_pos c] at q; exact absurd q (by decide)
    · omega
  obtain ⟨l, l1, l2, l3, l4⟩ := n4 (np - 1) (by omega)
  have il := nI_toInt (n := l) (by omega)
  have cl := nI_clamp (n := l) (by omega)
  have e1 := nI_toInt (n := b) (by omega)
  have e2 := nI_clamp (n := b) (by omega)
  have avl : vq (nI l) 60 := by rw [vq_i, il]; omega
  have avb : vq (nI b) 30 := by rw [vq_i, e1]; omega
  have s1 : nI np - 1 = nI (np - 1) := pk_sub (b := 1) hp
  have c1 := nI_clamp (n := np - 1) (by omega)
  have e5 : (24 : Int32) * nI b + nI np - 1 = nI (24 * b + (np - 1)) := by
    rw [show (24 : Int32) * nI b = nI (24 * b) from pk_mul 24 b, nI_add, show 24 * b + (np - 1) = 24 * b + np - 1 by omega]
    exact pk_sub (b := 1) (by omega)
  have e6 := nI_toInt (n := 24 * b + (np - 1)) (by omega)
  have e7 := nI_clamp (n := 24 * b + (np - 1)) (by omega)
  have hl' : l < gR mc 999 23 0 := l1
  have kp : f_X4_place FL l mc = some (3, mc) := (kind3 h l1 (by rw [l4]; rfl)).2
  have l0 : gI mc 23 l 0 = nI l := (h.2.2.2.1 l l1).1
  refine ⟨l, _, _, ?_, l1, ?_, ?_, h.rem3 l1 hb n2 hp n1, rfl, ?_⟩
  · show (if (3 : Nat) = 3 then (if (gI mc 13 b 4).toInt ≤ 0 then 0 else gR mc 15 b (gI mc 13 b 4 - 1).toNatClampNeg) else gR mc 14 b 3) = l + 1
    rw [if_pos rfl, n2, inp, if_neg (by omega), s1, c1]
    exact l2
  · unfold f_X1_remove f_X1_remove_b40
    rw [drf_e hl', kp, bn2_e, if_pos rfl, n2, s1, lt1_e, bn1_e, drf_e (j := l) (n := gR (sI mc 13 b 4 (nI (np - 1))) 999 23 0) hl', lt1_e]
    rfl
  · unfold f_X12_down_b91 f_X12_down_b129 f_X12_down_b161
    rw [if_pos rfl, asr_t avb]
    simp only [e2, n3, e5, e7]
    rw [asr_t (by rw [vq_i, e6]; omega), bn2_e, l3, if_pos trivial, asr_t avb, asr_t avb, n3, s1, lt1_e, bn1_e, asr_t avl, asr_t avl, cl, lt1_e]
    rfl
  · rw [gI_sI, if_neg (fun q => by have := q.2.2; omega)]
    exact l0
theorem rem_pN {n b p : Nat} {mc mm : Mem} (h : RR n mc mm) (hb : b < 30) (p1 : 1 ≤ p) (p5 : p ≤ 5) (p3 : p ≠ 3) (hs : hsv mc b p = 1) : ∃ l mc' mm', lat mc b p = l + 1 ∧ l < nl mc ∧ f_X1_remove FL b (l + 1) mc = some mc' ∧ f_X12_down_b91 FL (nI b) (nI p) mm = some (nI l, mm') ∧ RR n mc' mm' ∧ nl mc' = nl mc ∧ gI mc' 23 l 0 = nI l := by
  have hn : nl mc ≤ 60 := h.2.2.1.1
  obtain ⟨l, l1, l2, l3, l4, l5, il, cl⟩ := piece h hb p1 p5 p3 hs
  have e1 := nI_toInt (n := b) (by omega)
  have e2 := nI_clamp (n := b) (by omega)
  have ip := nI_toInt (n := p) (by omega)
  have cp := nI_clamp (n := p) (by omega)
  have avl : vq (nI l) 60 := by rw [vq_i, il]; omega
  have e5 : (5 : Int32) * nI b + nI p - 1 = nI (5 * b + p - 1) := by
    rw [show (5 : Int32) * nI b = nI (5 * b) from pk_mul 5 b, nI_add]
    exact pk_sub (b := 1) (by omega)
  have e6 := nI_toInt (n := 5 * b + p - 1) (by omega)
  have e7 := nI_clamp (n := 5 * b + p - 1) (by omega)
  have hl' : l < gR mc 999 23 0 := l1
  have n3 : ¬ nI p = 3 := fun q => by rw [i32_eq, ip, t_3] at q; omega
  have n1 : ¬ nI p < 1 := by rw [Int32.lt_iff_toInt_lt, ip, t_1]; omega
  have n5 : ¬ 5 < nI p := fun q => by rw [Int32.lt_iff_toInt_lt, ip, t_5] at q; omega
  have l0 : gI mc 23 l 0 = nI l := (h.2.2.2.1 l l1).1
  have kp : f_X4_place FL l mc = some (nI p, mc) := by
    obtain ⟨k, p', k1, k2, k3, k4, k5, k6⟩ := plc_k h l1
    obtain ⟨-, -, -, hp⟩ := h.2.2.2.2.2.2.2.2.2.1 b hb
    rw [k6, ← k5, (hp p (by omega) (by omega) p3).2.2 l l3]
  refine ⟨l, _, _, ?_, l1, ?_, ?_, h.remN l1 hb p1 p5 p3 l3, rfl, ?_⟩
  · show (if p = 3 then (if (gI mc 13 b 4).toInt ≤ 0 then 0 else gR mc 15 b (gI mc 13 b 4 - 1).toNatClampNeg) else gR mc 14 b p) = l + 1
    rw [if_neg p3]
    exact l3
  · unfold f_X1_remove f_X1_remove_b40
    rw [drf_e hl', kp, bn2_e, if_neg n3, if_neg n1, if_neg n5, asr_t (by rw [vq_i, ip]; omega), asr_t (Nat.zero_le _), cp, lt1_e, bn1_e, drf_e (j := l) (n := gR (sR mc 14 b p 0) 999 23 0) hl', lt1_e]
    rfl
  · unfold f_X12_down_b91 f_X12_down_b129 f_X12_down_b161
    simp only [e5, e7]
    rw [if_neg n3, asr_t (by rw [vq_i, e6]; omega), bn2_e, l4, if_neg n3, asr_t (by rw [vq_i, e6]; omega), lt1_e, bn1_e, asr_t avl, asr_t avl, cl, lt1_e]
    rfl
  · rw [gI_sI, if_neg (fun q => by have := q.2.2; omega)]
    exact l0
theorem sim_down {n : Nat} {mc mm : Mem} (h : RR n mc mm) (a1 a2 : Int32) : Sim (n + 1) (f_X11_down FL a1 a2 mc) (f_X12_down FL a1 a2 mm) := by
  unfold f_X11_down f_X12_down
  rcases bay_cases a1 FL mc mm with ⟨d1, d2, d3, -⟩ | ⟨b, hb, rfl, e1, e2, d1, d2, d3⟩
  · exact Sim.same h (-1) (by rw [d1, bn2_e, if_pos rfl]) (by rw [d2, bn2_e, if_pos rfl])
  · rw [d1, bn2_e, if_neg (show ¬ b + 1 = 0 by omega), d2, bn2_e, if_neg (show ¬ (1 : Int32) = 0 by decide)]
    by_cases c : 1 ≤ a2.toInt ∧ a2.toInt ≤ 5
    · obtain ⟨p, hp, rfl⟩ : ∃ p : Nat, p < 6 ∧ a2 = nI p := by
        rcases inr (x := a2) 6 (by omega) with q | q
        · omega
        · exact q
      have ip := nI_toInt (n := p) (by omega)
      rw [ip] at c
      have hN := h.2.2.2.2.2.2.2.2.2.2.1
      have ll := lat_11 (fl := FL) (p := p) hN hb (by omega) (by omega)
      have hm := hasM h hb (show 1 ≤ p by omega) (by omega)
      have pc : f_X11_isPlace FL (nI p) mc = some (1, mc) := by
        unfold f_X11_isPlace
        rw [if_neg (show ¬ nI p < 1 by rw [Int32.lt_iff_toInt_lt, ip, t_1]; omega), if_neg (show ¬ 5 < nI p by rw [Int32.lt_iff_toInt_lt, ip, t_5]; omega)]
      have pm : f_X12_isPlace FL (nI p) mm = some (1, mm) := by
        unfold f_X12_isPlace
        rw [in_12, if_pos (show (1 : Int32).toInt ≤ (nI p).toInt ∧ (nI p).toInt ≤ (5 : Int32).toInt by rw [ip, t_1, t_5]; omega), bn2_e, asr_t (Or.inr rfl)]
      rw [pc, bn2_e, if_neg (show ¬ (1 : Int32) = 0 by decide), drf_e hb, ll, bn2_e, pm, bn2_e, if_neg (show ¬ (1 : Int32) = 0 by decide), hm, bn2_e]
      rcases lat_hs (p := p) hN hb with ⟨q1, q2⟩ | ⟨q1, q2⟩
      · rw [q1, q2, if_pos rfl, if_pos rfl]
        exact ⟨-3, _, _, rfl, rfl, h.up⟩
      · obtain ⟨v, v1, v2⟩ := need_both h hb (show 1 ≤ p by omega) (by omega)
        rw [if_neg q1, q2, if_neg (show ¬ (1 : Int32) = 0 by decide), v1, bn2_e, v2]
        cases v with
        | true =>
          rw [if_neg (show ¬ bI true = 0 by decide), if_pos rfl]
          exact ⟨-3, _, _, rfl, rfl, h.up⟩
        | false =>
          rw [if_pos (show bI false = 0 from rfl), if_neg (by decide)]
          have fin : (∃ l mc' mm', lat mc b p = l + 1 ∧ l < nl mc ∧ f_X1_remove FL b (l + 1) mc = some mc' ∧ f_X12_down_b91 FL (nI b) (nI p) mm = some (nI l, mm') ∧ RR n mc' mm' ∧ nl mc' = nl mc ∧ gI mc' 23 l 0 = nI l) → Sim (n + 1) (bn1 (f_X1_remove FL b (lat mc b p) mc) fun m16 => drf (gR m16 999 23 0) (lat mc b p) fun j17 => some ((gI m16 23 j17 0), m16)) (f_X12_down_b91 FL (nI b) (nI p) mm) := by
            rintro ⟨l, mc', mm', w1, w2, w3, w4, w5, w6, w7⟩
            rw [w1, w3, bn1_e, drf_e (show l < gR mc' 999 23 0 from by rw [show gR mc' 999 23 0 = nl mc from w6]; exact w2), w4, w7]
            exact ⟨nI l, mc', mm', rfl, rfl, w5.up⟩
          by_cases p3 : p = 3
          · subst p3
            exact fin (rem_p3 h hb q2)
          · exact fin (rem_pN h hb (by omega) (by omega) p3 q2)
    · have pc : f_X11_isPlace FL a2 mc = some (0, mc) := by
        unfold f_X11_isPlace
        by_cases c1 : a2 < 1
        · rw [if_pos c1]
        · rw [if_neg c1, if_pos (show 5 < a2 by rw [Int32.lt_iff_toInt_lt, t_1] at c1; rw [Int32.lt_iff_toInt_lt, t_5]; omega)]
      have pm : f_X12_isPlace FL a2 mm = some (0, mm) := by
        unfold f_X12_isPlace
        rw [in_12, if_neg (show ¬ ((1 : Int32).toInt ≤ a2.toInt ∧ a2.toInt ≤ (5 : Int32).toInt) by rw [t_1, t_5]; exact c), bn2_e, asr_t (Or.inl rfl)]
      rw [pc, bn2_e, if_pos rfl, pm, bn2_e, if_pos rfl]
      exact ⟨-1, _, _, rfl, rfl, h.up⟩
