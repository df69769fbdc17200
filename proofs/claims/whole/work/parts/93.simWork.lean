theorem jmin_n {a b : Nat} (ha : a < 2 ^ 31) (hb : b < 2 ^ 31) : jmin (nI a) (nI b) = nI (min a b) := by
  have ia := nI_toInt ha
  have ib := nI_toInt hb
  unfold jmin
  by_cases c : b < a
  · rw [if_pos (by rw [Int32.lt_iff_toInt_lt, ia, ib]; omega), Nat.min_eq_right (by omega)]
  · rw [if_neg (by rw [Int32.lt_iff_toInt_lt, ia, ib]; omega), Nat.min_eq_left (by omega)]
theorem wk_end {n g b X : Nat} {mc mm : Mem} (hn : n < 100000) (h : RR n mc mm) (hg : g < ng mc) (hb : b < 30) (hX : X ≤ 20) (h1 : ¬ wkt mc g) (h2 : ∀ u, u < ng mc → wkt mc u → gI mc 24 u 2 ≠ nI b) :
    Sim (n + 1) (drf (gR mc 999 24 0) (g + 1) fun j43 => bn1 (f_X2_worked FL j43 (gI mc 0 0 0) (nI b) (nI X) mc) fun m46 => some (nI X, m46)) (f_X12_work_b214 FL (nI g) (nI b) (nI X) mm) := by
  have hn10 : ng mc ≤ 10 := h.2.2.2.2.2.2.2.2.2.2.2.1.1
  have ig := nI_toInt (n := g) (by omega)
  have cg := nI_clamp (n := g) (by omega)
  have ib := nI_toInt (n := b) (by omega)
  have cb := nI_clamp (n := b) (by omega)
  have avg : vq (nI g) 10 := by rw [vq_i, ig]; omega
  have avb : vq (nI b) 30 := by rw [vq_i, ib]; omega
  refine ⟨nI X, _, _, ?_, ?_, RR.wkd hn h hg hb hX h1 h2⟩
  · unfold f_X2_worked
    rw [drf_e (show g < gR mc 999 24 0 from hg), lt1_e, lt1_e, lt1_e, bn1_e]
    have : gI (sI (sI mc 24 g 1 (gI mc 0 0 0)) 24 g 2 (nI b)) 24 g 4 = gI mc 24 g 4 := by
      rw [gI_sI, if_neg (fun q => by have := q.2.2; omega), gI_sI, if_neg (fun q => by have := q.2.2; omega)]
    rw [this]
  · unfold f_X12_work_b214 f_X12_work_b248
    simp only [cg, cb]
    rw [asr_t avg, lt1_e, asr_t avb, lt1_e, asr_t avg]
    have e32 : gI (sI (sI mm 35 0 g (nI b)) 36 0 b (vp_nar .boolean 1)) 32 0 g = gI mm 32 0 g := rfl
    rw [e32, nz1]
    by_cases c : gI mm 32 0 g = 2
    · rw [if_pos c, bn2_e, asr_t avb, lt1_e, asr_t avg, asr_t avg, lt1_e, nz1, if_pos c]
      rfl
    · rw [if_neg c, bn2_e, asr_t avb, lt1_e, asr_t avg, asr_t avg, lt1_e, nz0, if_neg c]
      rfl
theorem sim_work {n : Nat} (hn : n < 100000) {mc mm : Mem} (h : RR n mc mm) (a1 a2 a3 : Int32) : Sim (n + 1) (f_X11_work FL a1 a2 a3 mc) (f_X12_work FL a1 a2 a3 mm) := by
  unfold f_X11_work f_X12_work
  rcases gang_cases h.2.2.2.2.2.2.2.2.2.2.2.1 a1 FL with ⟨c1, c2⟩ | ⟨g, g1, g2, rfl, ig, cg, c1, c2⟩
  · rcases bay_cases a2 FL mc mm with ⟨d1, d2, d3, -⟩ | ⟨b, hb, rfl, e1, e2, d1, d2, d3⟩ <;> rcases lot_cases h.2.2.1 a3 FL with ⟨f1, f2⟩ | ⟨l, l1, l2, rfl, il, cl, f1, f2⟩ <;>
    exact Sim.same h (-1) (by rw [c1, bn2_e, d1, bn2_e, f1, bn2_e, if_pos rfl]) (by rw [c2, bn2_e, if_pos rfl])
  · rcases bay_cases a2 FL mc mm with ⟨d1, d2, d3, -⟩ | ⟨b, hb, rfl, e1, e2, d1, d2, d3⟩
    · rcases lot_cases h.2.2.1 a3 FL with ⟨f1, f2⟩ | ⟨l, l1, l2, rfl, il, cl, f1, f2⟩ <;>
      exact Sim.same h (-1) (by rw [c1, bn2_e, d1, bn2_e, f1, bn2_e, if_neg (show ¬ g + 1 = 0 by omega), if_pos rfl]) (by rw [c2, bn2_e, if_neg (show ¬ (1 : Int32) = 0 by decide), d2, bn2_e, if_pos rfl])
    · rcases lot_cases h.2.2.1 a3 FL with ⟨f1, f2⟩ | ⟨l, l1, l2, rfl, il, cl, f1, f2⟩
      · exact Sim.same h (-1) (by rw [c1, bn2_e, d1, bn2_e, f1, bn2_e, if_neg (show ¬ g + 1 = 0 by omega), if_neg (show ¬ b + 1 = 0 by omega), if_pos rfl]) (by rw [c2, bn2_e, if_neg (show ¬ (1 : Int32) = 0 by decide), d2, bn2_e, if_neg (show ¬ (1 : Int32) = 0 by decide), f2, bn2_e, if_pos rfl])
      · have avg : vq (nI g) 10 := by rw [vq_i, ig]; omega
        have avb : vq (nI b) 30 := by rw [vq_i, e1]; omega
        have avl : vq (nI l) 60 := by rw [vq_i, il]; omega
        obtain ⟨t0, t1, t2, t3⟩ := h.2.2.2.2.2.2.2.2.2.2.2.2.1 g g1
        obtain ⟨tr, tr1, tr4, trE⟩ := rg_n (lo := 1) 4 (by omega) t2
        have itr := nI_toInt (n := tr) (by omega)
        obtain ⟨k, p, k1, k2, k3, k4, k5, k6⟩ := plc_k h l1
        have ik := nI_toInt (n := k) (by omega)
        have ip := nI_toInt (n := p) (by omega)
        rw [c1, bn2_e, d1, bn2_e, f1, bn2_e, if_neg (show ¬ g + 1 = 0 by omega), if_neg (show ¬ b + 1 = 0 by omega), if_neg (show ¬ l + 1 = 0 by omega), drf_e (show l < gR mc 999 23 0 from l1), k6, bn2_e, drf_e (show g < gR mc 999 24 0 from g1), t0, trE]
        rw [c2, bn2_e, if_neg (show ¬ (1 : Int32) = 0 by decide), d2, bn2_e, if_neg (show ¬ (1 : Int32) = 0 by decide), f2, bn2_e, if_neg (show ¬ (1 : Int32) = 0 by decide), asr_t avl, asr_t avl]
        simp only [cl, cg, e2]
        rw [place_12, bn2_e, asr_t avg, k5, trE]
        by_cases c : nI p = nI tr
        · have pe : p = tr := (nI_eq (by omega) (by omega)).mp c
          have kn : ¬ gI mm 5 0 l = 0 := fun q => by
            rw [k2, i32_eq, ik, t_0] at q
            have : k = 0 := by omega
            rw [this] at k3
            have : p = 0 := k3
            omega
          rw [if_pos c, if_neg kn, if_pos c, asr_t avg]
          obtain ⟨v, z0, v1, v2, v3, v4⟩ := kept_both (a3 := nI l) h g1 hb
          rw [v1, bn2_e, v2, bn2_e]
          unfold f_X12_work_b80
          rw [v3, bn2_e]
          cases v with
          | true =>
            rw [if_neg (show ¬ bI true = 0 by decide), if_neg (show ¬ bI true = 0 by decide)]
            exact ⟨-3, _, _, rfl, rfl, h.up⟩
          | false =>
            obtain ⟨v5, v6⟩ := v4 rfl
            rw [if_pos (show bI false = 0 from rfl), if_pos (show bI false = 0 from rfl)]
            obtain ⟨r, mc1, mm1, y1, y2, y3, y4, y5, y6⟩ := hind_both h l1 hb
            have h1 : RR n mc mm1 := kCl y4 y3
            obtain ⟨r', mc1', mm2, x1, x2, x3, x4, x5, x6⟩ := hind_both h1 l1 hb
            obtain ⟨er, em⟩ := Prod.mk.inj (Option.some.inj (y1.symm.trans x1))
            rw [← er] at x2
            rw [← em] at x3
            rw [y1, bn2_e, y2, bn2_e]
            by_cases cr : r = 1
            · obtain ⟨p', u1, u5, u6, u7, u8⟩ := y6 cr
              have ep : p' = p := by
                rw [k5] at u6
                exact ((nI_eq (by omega) (by omega)).mp u6).symm
              rw [ep] at u8 u1 u5
              have ngk : ng mc1 = ng mc := y4.ng
              have g1' : g < ng mc1 := by rw [ngk]; exact g1
              have l1' : l < nl mc1 := by rw [y4.nl]; exact l1
              obtain ⟨P, P1, P20, pc, pm⟩ := pace_both y3 g1'
              have tr' : gI mc1 24 g 0 = nI tr := by
                rw [y4.2 24 g 0 (by decide), t0, trE]
              have hk1 : plc (gI mm1 5 0 l) = nI p := by rw [y5.2 5 0 l (Or.inl (by decide)) (Or.inl (by decide))]; exact k5
              have hk2 : plc (gI mm2 5 0 l) = nI p := by rw [x5.2 5 0 l (Or.inl (by decide)) (Or.inl (by decide))]; exact hk1
              have u7' : 1 ≤ (stk mc1 l).toInt := by rw [kC_stk y4]; exact u7
              obtain ⟨S, S1, S2⟩ := nn_i (x := stk mc1 l) (by omega)
              have iS := nI_toInt S1
              have u8' := kC_roomy y4 u8
              -- what is left to show, once the loops are run
              have fin : ∀ (R X : Nat) (mc' mm' : Mem), f_X1_room FL b (nI tr) mc1 = some (nI R, mc1) → jmin (nI P) (jmin (nI S) (nI R)) = nI X → X ≤ 20 → f_X11_work_l117 FL (nI b) (g + 1) b (l + 1) (nI X) FL 0 mc1 = some mc' → f_X12_work_l185 FL (nI g) (nI b) (nI l) (nI P) FL 0 mm1 = some (nI X, mm') → RR n mc' mm' → K24 mc1 mc' →
                  Sim (n + 1) (if r = 1 then
              asr (g < gR mc1 999 24 0) <|
              bn2 (f_X2_pieces FL g mc1) fun v27 m26 =>
              asr (l < gR m26 999 23 0) <|
              bn2 (f_X4_stock FL l m26) fun v30 m29 =>
              asr (g < gR m29 999 24 0) <|
              drf 30 (b + 1) fun j32 =>
              bn2 (f_X1_room FL j32 (gI m29 24 g 0) m29) fun v36 m35 =>
              lt1 (jmin v27 (jmin v30 v36)) fun (x37 : Int32) =>
              bn1 (f_X11_work_l117 FL (nI b) (g + 1) j32 (l + 1) x37 FL 0 m35) fun m42 =>
              drf (gR m42 999 24 0) (g + 1) fun j43 =>
              bn1 (f_X2_worked FL j43 (gI m42 0 0 0) (nI b) x37 m42) fun m46 =>
              some (x37, m46)
            else
              some (r, mc1)) (if r = 1 then
      bn2 (f_X12_paceOf FL (nI g) mm1) fun v44 m43 =>
      bn2 (f_X12_work_l185 FL (nI g) (nI b) (nI l) v44 FL 0 m43) fun (q51 : Int32) m52 =>
      f_X12_work_b214 FL (nI g) (nI b) q51 m52
    else
      bn2 (f_X12_fits FL (nI l) (nI b) mm1) fun v67 m66 =>
      some (v67, m66)) := by
                intro R X mc' mm' w1 w2 w3 w4 w5 w6 w7
                rw [if_pos cr, if_pos cr, asr_t (show g < gR mc1 999 24 0 from g1'), pc, bn2_e, asr_t (show l < gR mc1 999 23 0 from l1'), stock_11 l1', bn2_e, asr_t (show g < gR mc1 999 24 0 from g1'), drf_e hb, tr', w1, bn2_e, lt1_e, S2, w2, w4, bn1_e, pm, bn2_e, w5, bn2_e]
                have wk : ∀ u, wkt mc' u → wkt mc u := fun u hu => by
                  have hu : gI mc' 24 u 1 = gI mc' 0 0 0 := hu
                  rw [w7.2 24 u 1 (Or.inr rfl), w7.2 0 0 0 (Or.inl rfl), y4.2 24 u 1 (by decide), y4.2 0 0 0 (by decide)] at hu
                  exact hu
                refine wk_end hn w6 (by rw [w7.1]; exact g1') hb w3 (fun q => v5 (wk g q)) (fun u hu q => ?_)
                rw [w7.2 24 u 2 (Or.inr rfl), y4.2 24 u 2 (by decide)]
                exact v6 u (by rw [w7.1, ngk] at hu; exact hu) (wk u q)
              by_cases p3 : p = 3
              · have hr24 : (gI mc1 13 b 4).toInt < 24 := by
                  have q : (if p = 3 then (gI mc1 13 b 4).toInt < 24 else hsv mc1 b p = 0) := u8'
                  rw [if_pos p3] at q
                  exact q
                obtain ⟨np, n1, n2, n3, -⟩ := y3.2.2.2.2.2.2.2.2.2.2.1 b hb
                have inp := nI_toInt (n := np) (by omega)
                rw [n2, inp] at hr24
                have k5' : plc (gI mm 5 0 l) = 3 := by rw [k5, p3]; rfl
                have hf : free3 mc1 l b := free_k y4 (free_1 h l1 hb k5' (by rw [← cr]; exact y1))
                have e24 : (24 - nI np : Int32) = nI (24 - np) := pk_sub (a := 24) (by omega)
                obtain ⟨mc', mm', w1, w2, w3, w4⟩ := loop3 (n := n) (l := l) (b := b) (g := g) (P := P) (X := min P (min S (24 - np))) hb P20 (by omega) (min P (min S (24 - np))) FL FL 0 np mc1 mm1 (by omega) (by have := FL_ge; omega) (by have := FL_ge; omega) y3 l1' (by rw [hk1, p3]; rfl) hf n2 (by rw [S2, iS]; omega) (by omega) (by rw [S2, iS]; omega)
                refine fin (24 - np) (min P (min S (24 - np))) mc' mm' ?_ ?_ (by omega) w1 w2 w3 w4
                · unfold f_X1_room
                  rw [if_pos (show nI tr = 3 by rw [← pe, p3]; rfl), n2, e24]
                · rw [jmin_n S1 (by omega), jmin_n (by omega) (by omega)]
              · have hr0 : hsv mc1 b p = 0 := by
                  have q : (if p = 3 then (gI mc1 13 b 4).toInt < 24 else hsv mc1 b p = 0) := u8'
                  rw [if_neg p3] at q
                  exact q
                obtain ⟨mc', mm', w1, w2, w3, w4⟩ := loopN (g := g) hb P1 P20 y3 l1' u1 u5 p3 hk1 hr0 (by rw [← cr]; exact x2) x3 hk2
                refine fin 1 1 mc' mm' ?_ ?_ (by omega) w1 w2 w3 w4
                · unfold f_X1_room
                  rw [← c, if_neg (show ¬ nI p = 3 from fun q => by rw [i32_eq, ip, t_3] at q; omega), hasC y3 hb u1 u5, bn2_e, hr0, if_pos rfl]
                  rfl
                · rw [jmin_n S1 (by omega), jmin_n (by omega) (by omega)]
                  rw [S2, iS] at u7'
                  rw [show min P (min S 1) = 1 by omega]
            · rw [if_neg cr, if_neg cr, x2, bn2_e]
              exact ⟨r, mc1, mm2, rfl, rfl, x3.up⟩
        · rw [if_neg c, if_neg c]
          by_cases kn : gI mm 5 0 l = 0
          · rw [if_pos kn]; exact ⟨-12, _, _, rfl, rfl, h.up⟩
          · rw [if_neg kn]; exact ⟨-12, _, _, rfl, rfl, h.up⟩
