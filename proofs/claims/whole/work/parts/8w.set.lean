/-! set: one piece put -/
theorem RR.leadm {n b : Nat} {mc mm : Mem} (h : RR n mc mm) : RR n (sI mc 13 b 5 (-1)) (sI mm 17 0 b (-1)) := by
  obtain ⟨hT, hF, hL0, hL, hLc, hLg, hSb, hSs, hB, hP, hN, hG0, hG, hGd, hGw, hPw, hPa, hNa, hA, hTa, hR, hS, hW0, hW⟩ := h
  have q : ∀ j k, k ≠ 5 → gI (sI mc 13 b 5 (-1)) 13 j k = gI mc 13 j k := fun j k hk => by rw [gI_sI, if_neg (fun w => hk w.2.2)]
  have pN : r_N (sI mc 13 b 5 (-1)) (sI mm 17 0 b (-1)) := fun j hj => by
    obtain ⟨np, n1, n2, n3, n4⟩ := hN j hj
    exact ⟨np, n1, (q j 4 (by decide)).trans n2, n3, n4⟩
  refine ⟨hT, hF, hL0, hL, hLc, hLg, hSb, hSs, ?_, hP, pN, hG0, hG, hGd, hGw, hPw, hPa, hNa, hA, hTa, hR, hS, hW0, hW⟩
  intro j hj
  obtain ⟨p1, p2, p3, p4, p5, p6, p7, p8, p9⟩ := hB j hj
  refine ⟨(q j 0 (by decide)).trans p1, (q j 1 (by decide)).trans p2, (q j 2 (by decide)).trans p3, (q j 3 (by decide)).trans p4, ?_, p6, p7, p8, ?_⟩
  · intro z
    by_cases e : j = b
    · rw [e, gI_sI, if_pos ⟨rfl, rfl, rfl⟩, gI_sI, if_pos ⟨rfl, rfl, rfl⟩]
    · rw [gI_sI, if_neg (fun w => e w.2.1), gI_sI, if_neg (fun w => e w.2.2)]; exact p5 z
  · by_cases e : j = b
    · rw [e, gI_sI, if_pos ⟨rfl, rfl, rfl⟩]; exact ⟨by decide, by decide⟩
    · rw [gI_sI, if_neg (fun w => e w.2.1)]; exact p9
theorem sI_cm {M : Mem} {r r' x x' k k' : Nat} {v v' : Int32} (h : r ≠ r') : sI (sI M r x k v) r' x' k' v' = sI (sI M r' x' k' v') r x k v := by
  have e : ∀ a b c, gI (sI (sI M r x k v) r' x' k' v') a b c = gI (sI (sI M r' x' k' v') r x k v) a b c := fun a b c => by
    rw [gI_sI, gI_sI, gI_sI, gI_sI]
    by_cases c1 : a = r ∧ b = x ∧ c = k
    · rw [if_pos c1, if_pos c1, if_neg (fun q => h (c1.1.symm.trans q.1))]
    · rw [if_neg c1, if_neg c1]
  have e1 : (sI (sI M r x k v) r' x' k' v').1 = (sI (sI M r' x' k' v') r x k v).1 := by
    funext a b c
    exact e a b c
  exact Prod.ext e1 rfl
theorem kind3 {n l : Nat} {mc mm : Mem} (h : RR n mc mm) (hl : l < nl mc) (hk : plc (gI mm 5 0 l) = 3) : gI mm 5 0 l = 3 ∧ f_X4_place FL l mc = some (3, mc) := by
  obtain ⟨k, p, k1, k2, k3, k4, k5, k6⟩ := plc_k h hl
  rw [k5] at hk
  refine ⟨?_, by rw [k6, hk]⟩
  unfold plc at k5
  by_cases c : gI mm 5 0 l = 6
  · rw [if_pos c] at k5
    rw [← k5] at hk
    exact absurd hk (by decide)
  · rw [if_neg c] at k5
    rw [k5]; exact hk
theorem put_p3 {n l b : Nat} {mc mm : Mem} (h : RR n mc mm) (hl : l < nl mc) (hb : b < 30) (hk : plc (gI mm 5 0 l) = 3) (hr : (gI mc 13 b 4).toInt < 24) : ∃ np, np < 24 ∧ gI mc 13 b 4 = nI np ∧
    f_X1_put FL b (l + 1) mc = some (sI (sI (sR mc 15 b np (l + 1)) 13 b 4 (nI (np + 1))) 23 l 8 (gI mc 23 l 8 + 1)) ∧
    f_X12_put FL (nI l) (nI b) mm = some (sI (sI (sI mm 12 0 l (gI mm 12 0 l + 1)) 16 0 (24 * b + np) (nI l)) 15 0 b (nI (np + 1))) ∧
    RR n (sI (sI (sR mc 15 b np (l + 1)) 13 b 4 (nI (np + 1))) 23 l 8 (gI mc 23 l 8 + 1)) (sI (sI (sI mm 12 0 l (gI mm 12 0 l + 1)) 16 0 (24 * b + np) (nI l)) 15 0 b (nI (np + 1))) := by
  have hn : nl mc ≤ 60 := h.2.2.1.1
  obtain ⟨kk, pl⟩ := kind3 h hl hk
  obtain ⟨np, n1, n2, n3, -⟩ := h.2.2.2.2.2.2.2.2.2.2.1 b hb
  have inp := nI_toInt (n := np) (by omega)
  have cnp := nI_clamp (n := np) (by omega)
  have il := nI_toInt (n := l) (by omega)
  have cl := nI_clamp (n := l) (by omega)
  have e1 := nI_toInt (n := b) (by omega)
  have e2 := nI_clamp (n := b) (by omega)
  have e5 : (24 : Int32) * nI b = nI (24 * b) := pk_mul 24 b
  have e6 := nI_toInt (n := 24 * b + np) (by omega)
  have e7 := nI_clamp (n := 24 * b + np) (by omega)
  have avl : vq (nI l) 60 := by rw [vq_i, il]; omega
  have avb : vq (nI b) 30 := by rw [vq_i, e1]; omega
  rw [n2, inp] at hr
  have h24 : np < 24 := by omega
  have e24 : (24 - nI np : Int32) = nI (24 - np) := pk_sub (a := 24) (by omega)
  have i24 := nI_toInt (n := 24 - np) (by omega)
  have hl' : l < gR mc 999 23 0 := hl
  refine ⟨np, h24, n2, ?_, ?_, h.put3 hl hb n2 h24 kk⟩
  · unfold f_X1_put f_X1_room
    rw [drf_e hl', pl, bn2_e, if_pos rfl, bn2_e, n2, if_pos (show 1 ≤ 24 - nI np by rw [e24, Int32.le_iff_toInt_le, i24, t_1]; omega), if_pos rfl, if_neg (show ¬ nI np < 0 by rw [Int32.lt_iff_toInt_lt, inp, t_0]; omega), asr_t (by rw [vq_i, inp]; omega), asr_t (show l + 1 ≤ gR mc 999 23 0 from hl), lt1_e, lt1_e, bn1_e, cnp]
    unfold f_X1_put_b67 f_X1_put_b77
    rw [if_neg (by decide), bn1_e, show gI (sR mc 15 b np (l + 1)) 13 b 4 = nI np from n2, nI_1, drf_e (j := l) (n := gR (sI (sR mc 15 b np (l + 1)) 13 b 4 (nI (np + 1))) 999 23 0) hl', lt1_e]
    rfl
  · have q15 : gI (sI mm 12 0 l (gI mm 12 0 l + 1)) 15 0 b = nI np := n3
    have q15b : gI (sI (sI mm 12 0 l (gI mm 12 0 l + 1)) 16 0 (24 * b + np) (nI l)) 15 0 b = nI np := n3
    unfold f_X12_put f_X12_put_b69
    simp only [cl]
    rw [asr_t avl, place_12, bn2_e, asr_t avl, asr_t avl, lt1_e, hk, if_pos rfl, asr_t avb]
    simp only [e2, q15, e5, nI_add, e7]
    rw [asr_t (by rw [vq_i, e6]; omega), lt1_e, asr_t avb, asr_t avb, lt1_e, bn1_e, if_neg (by decide), q15b, nI_1]
theorem put_pN {n l b p : Nat} {mc mm : Mem} (h : RR n mc mm) (hl : l < nl mc) (hb : b < 30) (p1 : 1 ≤ p) (p5 : p ≤ 5) (p3 : p ≠ 3) (hk : plc (gI mm 5 0 l) = nI p) (hr : hsv mc b p = 0) : ∃ mc' mm', f_X1_put FL b (l + 1) mc = some mc' ∧ f_X12_put FL (nI l) (nI b) mm = some mm' ∧ RR n mc' mm' ∧ hsv mc' b p = 1 ∧ nl mc' = nl mc ∧ ng mc' = ng mc ∧ (∀ r x k, (r = 0 ∨ r = 24) → gI mc' r x k = gI mc r x k) ∧ ∀ r x k, (r = 0 ∨ 30 ≤ r ∨ r = 5) → gI mm' r x k = gI mm r x k := by
  have hn : nl mc ≤ 60 := h.2.2.1.1
  have il := nI_toInt (n := l) (by omega)
  have cl := nI_clamp (n := l) (by omega)
  have e1 := nI_toInt (n := b) (by omega)
  have e2 := nI_clamp (n := b) (by omega)
  have ip := nI_toInt (n := p) (by omega)
  have cp := nI_clamp (n := p) (by omega)
  have e5 : (5 : Int32) * nI b + nI p - 1 = nI (5 * b + p - 1) := by
    rw [show (5 : Int32) * nI b = nI (5 * b) from pk_mul 5 b, nI_add]
    exact pk_sub (b := 1) (by omega)
  have e6 := nI_toInt (n := 5 * b + p - 1) (by omega)
  have e7 := nI_clamp (n := 5 * b + p - 1) (by omega)
  have avl : vq (nI l) 60 := by rw [vq_i, il]; omega
  have avb : vq (nI b) 30 := by rw [vq_i, e1]; omega
  have hl' : l < gR mc 999 23 0 := hl
  obtain ⟨k, p', k1, k2, k3, k4, k5, k6⟩ := plc_k h hl
  have k6 : f_X4_place FL l mc = some (nI p, mc) := by rw [k6, ← k5, hk]
  have n3 : ¬ nI p = 3 := fun q => by rw [i32_eq, ip, t_3] at q; omega
  have n1 : ¬ nI p < 1 := by rw [Int32.lt_iff_toInt_lt, ip, t_1]; omega
  have n5 : ¬ 5 < nI p := fun q => by rw [Int32.lt_iff_toInt_lt, ip, t_5] at q; omega
  have z := lat_0 h hb p3 hr
  have c1 : f_X1_put FL b (l + 1) mc = f_X1_put_b67 FL b (l + 1) (nI p) (sR mc 14 b p (l + 1)) := by
    unfold f_X1_put f_X1_room
    rw [drf_e hl', k6, bn2_e, if_neg n3, hasC h hb p1 p5, bn2_e, hr, if_pos rfl, bn2_e, if_pos (by decide), if_neg n3, if_neg n1, if_neg n5, asr_t (by rw [vq_i, ip]; omega), asr_t (show l + 1 ≤ gR mc 999 23 0 from hl), lt1_e, bn1_e, cp]
  have c2 : f_X12_put FL (nI l) (nI b) mm = f_X12_put_b69 FL (nI b) (nI p) (sI (sI mm 12 0 l (gI mm 12 0 l + 1)) 14 0 (5 * b + p - 1) (nI l)) := by
    unfold f_X12_put
    simp only [cl]
    rw [asr_t avl, place_12, bn2_e, asr_t avl, asr_t avl, lt1_e, hk, if_neg n3]
    simp only [e5, e7]
    rw [asr_t (by rw [vq_i, e6]; omega), lt1_e, bn1_e]
  have hv : ∀ M : Mem, M.2 = (sR mc 14 b p (l + 1)).2 → hsv M b p = 1 := fun M hM => by
    show (if p = 3 then (if (gI M 13 b 4).toInt ≤ 0 then 0 else 1) else (if gR M 14 b p = 0 then 0 else 1)) = (1 : Int32)
    have : gR M 14 b p = l + 1 := by
      show M.2.2 14 b p = l + 1
      rw [hM]
      show gR (sR mc 14 b p (l + 1)) 14 b p = l + 1
      rw [gR_sR, if_pos ⟨rfl, rfl, rfl⟩]
    rw [if_neg p3, this, if_neg (by omega)]
  rw [c1, c2]
  by_cases p4 : p = 4
  · have e4 : nI p = 4 := by rw [p4]; rfl
    have d1 : f_X1_put_b67 FL b (l + 1) (nI p) (sR mc 14 b p (l + 1)) = some (sI (sI (sR mc 14 b p (l + 1)) 13 b 5 (-1)) 23 l 8 (gI mc 23 l 8 + 1)) := by
      unfold f_X1_put_b67 f_X1_put_b77
      rw [if_pos e4, lt1_e, bn1_e, drf_e (j := l) (n := gR (sI (sR mc 14 b p (l + 1)) 13 b 5 (-1)) 999 23 0) hl', lt1_e]
      rfl
    have d2 : f_X12_put_b69 FL (nI b) (nI p) (sI (sI mm 12 0 l (gI mm 12 0 l + 1)) 14 0 (5 * b + p - 1) (nI l)) = some (sI (sI (sI mm 12 0 l (gI mm 12 0 l + 1)) 14 0 (5 * b + p - 1) (nI l)) 17 0 b (-1)) := by
      unfold f_X12_put_b69
      rw [if_pos e4, asr_t avb, lt1_e, e2]
    refine ⟨_, _, d1, d2, ?_, hv _ rfl, rfl, rfl, ?_, ?_⟩
    · have q5 : gI (sI mc 13 b 5 (-1)) 13 b 5 = gI (sI mm 17 0 b (-1)) 17 0 b := by
        rw [gI_sI, if_pos ⟨rfl, rfl, rfl⟩, gI_sI, if_pos ⟨rfl, rfl, rfl⟩]
      have := (h.leadm (b := b)).putN hl hb p1 p5 p3 z hk (fun _ => q5)
      rw [sI_cm (r := 17) (r' := 12) (by decide), sI_cm (r := 17) (r' := 14) (by decide)] at this
      exact this
    · intro r x k hr
      rw [gI_sI, if_neg (fun q => by omega), gI_sI, if_neg (fun q => by omega)]; rfl
    · intro r x k hr
      rw [gI_sI, if_neg (fun q => by omega), gI_sI, if_neg (fun q => by omega), gI_sI, if_neg (fun q => by omega)]
  · have e4 : ¬ nI p = 4 := fun q => by rw [i32_eq, ip, t_4] at q; omega
    have d1 : f_X1_put_b67 FL b (l + 1) (nI p) (sR mc 14 b p (l + 1)) = some (sI (sR mc 14 b p (l + 1)) 23 l 8 (gI mc 23 l 8 + 1)) := by
      unfold f_X1_put_b67 f_X1_put_b77
      rw [if_neg e4, bn1_e, drf_e (j := l) (n := gR (sR mc 14 b p (l + 1)) 999 23 0) hl', lt1_e]
      rfl
    have d2 : f_X12_put_b69 FL (nI b) (nI p) (sI (sI mm 12 0 l (gI mm 12 0 l + 1)) 14 0 (5 * b + p - 1) (nI l)) = some (sI (sI mm 12 0 l (gI mm 12 0 l + 1)) 14 0 (5 * b + p - 1) (nI l)) := by
      unfold f_X12_put_b69
      rw [if_neg e4]
    refine ⟨_, _, d1, d2, h.putN hl hb p1 p5 p3 z hk (fun q => absurd q p4), hv _ rfl, rfl, rfl, ?_, ?_⟩
    · intro r x k hr
      rw [gI_sI, if_neg (fun q => by omega)]; rfl
    · intro r x k hr
      rw [gI_sI, if_neg (fun q => by omega), gI_sI, if_neg (fun q => by omega)]
theorem sim_set {n : Nat} {mc mm : Mem} (h : RR n mc mm) (a1 a2 : Int32) : Sim (n + 1) (f_X11_set FL a1 a2 mc) (f_X12_set FL a1 a2 mm) := by
  unfold f_X11_set f_X12_set
  rcases lot_cases h.2.2.1 a1 FL with ⟨c1, c2⟩ | ⟨l, l1, l2, rfl, l4, l5, c1, c2⟩
  · rcases bay_cases a2 FL mc mm with ⟨d1, d2, d3, -⟩ | ⟨b, hb, rfl, e1, e2, d1, d2, d3⟩
    · exact Sim.same h (-1) (by rw [c1, bn2_e, d1, bn2_e, if_pos rfl]) (by rw [c2, bn2_e, if_pos rfl])
    · exact Sim.same h (-1) (by rw [c1, bn2_e, d1, bn2_e, if_pos rfl]) (by rw [c2, bn2_e, if_pos rfl])
  · rcases bay_cases a2 FL mc mm with ⟨d1, d2, d3, -⟩ | ⟨b, hb, rfl, e1, e2, d1, d2, d3⟩
    · exact Sim.same h (-1) (by rw [c1, bn2_e, d1, bn2_e, if_neg (by omega), if_pos rfl]) (by rw [c2, bn2_e, if_neg (by decide), d2, bn2_e, if_pos rfl])
    · obtain ⟨r, mc', mm', y1, y2, y3, y4, y5, y6⟩ := hind_both h l1 hb
      rw [c1, bn2_e, d1, bn2_e, if_neg (show ¬ l + 1 = 0 by omega), if_neg (show ¬ b + 1 = 0 by omega), y1, bn2_e, c2, bn2_e, if_neg (show ¬ (1 : Int32) = 0 by decide), d2, bn2_e, if_neg (show ¬ (1 : Int32) = 0 by decide), y2, bn2_e]
      by_cases c : r = 1
      · obtain ⟨p, p1, p5, p6, p7, p8⟩ := y6 c
        have p8' := kC_roomy y4 p8
        have hl' : l < nl mc' := by rw [y4.nl]; exact l1
        have p6' : plc (gI mm' 5 0 l) = nI p := by rw [y5.2 _ _ _ (Or.inl (by decide)) (Or.inl (by decide))]; exact p6
        rw [if_pos c, if_pos c, drf_e hb]
        by_cases p3 : p = 3
        · have hr : (gI mc' 13 b 4).toInt < 24 := by
            have q : (if p = 3 then (gI mc' 13 b 4).toInt < 24 else hsv mc' b p = 0) := p8'
            rw [if_pos p3] at q
            exact q
          obtain ⟨np, -, -, z1, z2, z3⟩ := put_p3 y3 hl' hb (by rw [p6', p3]; rfl) hr
          rw [z1, bn1_e, z2, bn1_e]
          exact ⟨1, _, _, rfl, rfl, z3.up⟩
        · have hr : hsv mc' b p = 0 := by
            have q : (if p = 3 then (gI mc' 13 b 4).toInt < 24 else hsv mc' b p = 0) := p8'
            rw [if_neg p3] at q
            exact q
          obtain ⟨mc2, mm2, z1, z2, z3, -⟩ := put_pN y3 hl' hb p1 p5 p3 p6' hr
          rw [z1, bn1_e, z2, bn1_e]
          exact ⟨1, _, _, rfl, rfl, z3.up⟩
      · rw [if_neg c, if_neg c]
        exact ⟨-3, mc', mm', rfl, rfl, y3.up⟩
