/-! law -/
def TM (m : Mem) (tx : Nat → Int32) : Mem := (fun r x k => if r = 20 ∧ x = 0 then tx k else m.1 r x k, m.2.1, m.2.2)
theorem TM_of (m : Mem) : m = TM m (gI m 20 0) := by
  unfold TM gI
  refine Prod.ext ?_ rfl
  funext r x k
  show m.1 r x k = (if r = 20 ∧ x = 0 then m.1 20 0 k else m.1 r x k)
  split
  · rename_i q; rw [q.1, q.2]
  · rfl
theorem sI_T {m : Mem} {tx : Nat → Int32} {j : Nat} {v : Int32} : sI (TM m tx) 20 0 j v = TM m (uw tx j v) := by
  unfold sI TM uw
  refine Prod.ext ?_ rfl
  funext r x k
  by_cases h : r = 20 ∧ x = 0
  · obtain ⟨rfl, rfl⟩ := h; simp
  · simp only [← and_assoc, h, false_and, if_false]
def txc (tx : Nat → Int32) (z k : Nat) : Nat → Int32 := fun i => if 100 * z ≤ i ∧ i < 100 * z + k then tx (i - 100 * z + 1000) else tx i
theorem txc_0 {tx : Nat → Int32} {z : Nat} : txc tx z 0 = tx := by
  funext i
  exact if_neg (by omega)
theorem txc_s {tx : Nat → Int32} {z k : Nat} (hz : z < 10) (hk : k < 100) : uw (txc tx z k) (100 * z + k) (txc tx z k (1000 + k)) = txc tx z (k + 1) := by
  funext i
  unfold uw txc
  by_cases h : i = 100 * z + k
  · rw [if_pos h, if_neg (by omega), if_pos (by omega), show i - 100 * z + 1000 = 1000 + k by omega]
  · rw [if_neg h]
    by_cases g : 100 * z ≤ i ∧ i < 100 * z + k
    · rw [if_pos g, if_pos (by omega)]
    · rw [if_neg g, if_neg (by omega)]
theorem copy_l {fl z y : Nat} {a : Int32} {m : Mem} {tx : Nat → Int32} (hz : z < 10) (hy : y ≤ 100) (h1 : gI m 21 0 10 = nI y) (h2 : gI m 0 0 21 = nI z) : ∀ (N k : Nat), k ≤ y → 102 ≤ N + k → f_X12_law_l74 fl a N (nI k) (TM m (txc tx z k)) = some (TM m (txc tx z y)) := by
  have iy := nI_toInt (n := y) (by omega)
  intro N
  induction N with
  | zero => intro k g1 g2; omega
  | succ N ih =>
    intro k g1 g2
    have e1 := nI_toInt (n := k) (by omega)
    have e3 := nI_toInt (n := 1000 + k) (by omega)
    have e4 := nI_clamp (n := 1000 + k) (by omega)
    have e5 := nI_toInt (n := 100 * z + k) (by omega)
    have e6 := nI_clamp (n := 100 * z + k) (by omega)
    have r1 : gI (TM m (txc tx z k)) 21 0 (Int32.toNatClampNeg 10) = nI y := h1
    have r2 : gI (TM m (txc tx z k)) 0 0 21 = nI z := h2
    have r3 : gI (TM m (txc tx z k)) 20 0 (1000 + k) = txc tx z k (1000 + k) := rfl
    show f_X12_law_l74_b (f_X12_law_l74 fl a N) fl a (nI k) (TM m (txc tx z k)) = _
    unfold f_X12_law_l74_b
    rw [asr_t (by decide), r1, r2]
    by_cases c : k = y
    · subst c
      rw [if_pos (Int32.le_iff_toInt_le.mpr (Int.le_refl _))]
    · rw [if_neg (by rw [Int32.le_iff_toInt_le, e1, iy]; omega), show (1000 : Int32) + nI k = nI (1000 + k) from nI_add 1000 k, show (100 : Int32) * nI z = nI (100 * z) from pk_mul 100 z, nI_add, asr_t (by rw [vq_i, e3]; omega), asr_t (by rw [vq_i, e5]; omega), e4, e6, r3, sI_T, txc_s hz (by omega), lt1_e, lt1_e, nI_1]
      exact ih (k + 1) (by omega) (by omega)
theorem gI_P19 {m : Mem} {b k j : Nat} {p f cc cl : Int32} {ws vs cd : Nat → Int32} (h : k ≠ b ∨ (j ≠ 1 ∧ j ≠ 2)) : gI (PM m b p f cc cl ws vs cd) 19 k j = gI m 19 k j := by
  show (if (19 : Nat) = 5 ∧ k = 0 ∧ j = 2 then p else if (19 : Nat) = 5 ∧ k = 0 ∧ j = 3 then f else if (19 : Nat) = 19 ∧ k = b ∧ j = 1 then cc else if (19 : Nat) = 19 ∧ k = b ∧ j = 2 then cl else if (19 : Nat) = 20 ∧ k = b then ws j else if (19 : Nat) = 21 ∧ k = b then vs j else if (19 : Nat) = 22 ∧ k = b then cd j else gI m 19 k j) = gI m 19 k j
  rw [if_neg (by omega), if_neg (by omega), if_neg (by omega), if_neg (by omega), if_neg (by omega), if_neg (by omega), if_neg (by omega)]
theorem gI_P2x {m : Mem} {r b k j : Nat} {p f cc cl : Int32} {ws vs cd : Nat → Int32} (hr : r = 20 ∨ r = 21 ∨ r = 22) (h : k ≠ b) : gI (PM m b p f cc cl ws vs cd) r k j = gI m r k j := by
  show (if r = 5 ∧ k = 0 ∧ j = 2 then p else if r = 5 ∧ k = 0 ∧ j = 3 then f else if r = 19 ∧ k = b ∧ j = 1 then cc else if r = 19 ∧ k = b ∧ j = 2 then cl else if r = 20 ∧ k = b then ws j else if r = 21 ∧ k = b then vs j else if r = 22 ∧ k = b then cd j else gI m r k j) = gI m r k j
  rw [if_neg (by omega), if_neg (by omega), if_neg (by omega), if_neg (by omega), if_neg (by omega), if_neg (by omega), if_neg (by omega)]
theorem RR.law1 {n b : Nat} {mc mm : Mem} {p f cc cl x y w ap cl2 dg wt pl op : Int32} {ws vs cd wa pi pa na ha : Nat → Int32} (h : RR n mc mm) (h1 : r_W0 (sI (PM mc b p f cc cl ws vs cd) 5 0 0 0) (GM (sI (sI (sI (sI mm 21 0 10 x) 0 0 22 0) 0 0 30 y) 0 0 31 w) ap cl2 dg wt pl op wa pi pa na ha)) (h2 : r_W (sI (PM mc b p f cc cl ws vs cd) 5 0 0 0) (GM (sI (sI (sI (sI mm 21 0 10 x) 0 0 22 0) 0 0 30 y) 0 0 31 w) ap cl2 dg wt pl op wa pi pa na ha)) : RR n (sI (PM mc b p f cc cl ws vs cd) 5 0 0 0) (GM (sI (sI (sI (sI mm 21 0 10 x) 0 0 22 0) 0 0 30 y) 0 0 31 w) ap cl2 dg wt pl op wa pi pa na ha) := by
  obtain ⟨hT, hF, hL0, hL, hLc, hLg, hSb, hSs, hB, hP, hN, hG0, hG, hGd, hGw, hPw, hPa, hNa, hA, hTa, hR, hS, hW0, hW⟩ := h
  exact ⟨hT, hF, hL0, hL, hLc, hLg, hSb, hSs, hB, hP, hN, hG0, hG, hGd, hGw, hPw, hPa, hNa, hA, hTa, hR, ⟨0, by omega, rfl, rfl, fun k hk => by omega⟩, h1, h2⟩
theorem RR.law2 {n b z : Nat} {mc mm : Mem} {a u v t : Int32} {tx : Nat → Int32} (h : RR n mc mm) (h1 : r_W0 (sI (sI mc 19 b 0 a) 6 0 0 u) (sI (sI (TM (sI mm 21 0 z t) tx) 19 0 z a) 0 0 21 v)) (h2 : r_W (sI (sI mc 19 b 0 a) 6 0 0 u) (sI (sI (TM (sI mm 21 0 z t) tx) 19 0 z a) 0 0 21 v)) (h3 : ∀ k, k < 100 → tx (1000 + k) = gI mm 20 0 (1000 + k)) : RR n (sI (sI mc 19 b 0 a) 6 0 0 u) (sI (sI (TM (sI mm 21 0 z t) tx) 19 0 z a) 0 0 21 v) := by
  obtain ⟨hT, hF, hL0, hL, hLc, hLg, hSb, hSs, hB, hP, hN, hG0, hG, hGd, hGw, hPw, hPa, hNa, hA, hTa, hR, ⟨y, y1, y2, y3, y4⟩, hW0, hW⟩ := h
  exact ⟨hT, hF, hL0, hL, hLc, hLg, hSb, hSs, hB, hP, hN, hG0, hG, hGd, hGw, hPw, hPa, hNa, hA, hTa, hR, ⟨y, y1, y2, y3, fun k hk => ⟨(y4 k hk).1, (h3 k (by omega)).trans (y4 k hk).2⟩⟩, h1, h2⟩
theorem sim_law {n : Nat} {mc mm : Mem} (h : RR n mc mm) (a1 : Int32) : Sim (n + 1) (f_X11_law FL a1 mc) (f_X12_law FL a1 mm) := by
  by_cases d : 0 ≤ a1.toInt ∧ a1.toInt ≤ 399
  · have d1 : f_X11_isDay FL a1 mc = some (1, mc) := by rw [isDay_11, if_pos d]
    have d2 : f_X12_isDay FL a1 mm = some (1, mm) := by rw [isDay_12, if_pos d]
    obtain ⟨z, z1, z2, z3, z4, z5⟩ := h.txt
    have iz := nI_toInt (n := z) (by omega)
    have cz := nI_clamp (n := z) (by omega)
    have cz1 := nI_clamp (n := z) (by omega)
    by_cases f : z = 10
    · subst f
      refine Sim.same h (-4) ?_ ?_
      · unfold f_X11_law f_X3_nextText
        rw [d1, bn2_e, if_neg (by decide), z2, if_neg (by decide), if_pos (by decide), bn2_e, if_pos rfl]
      · unfold f_X12_law
        rw [d2, bn2_e, if_neg (by decide), z3, if_pos (by decide)]
    · have nt : f_X3_nextText FL mc = some (z + 1, mc) := by
        unfold f_X3_nextText
        rw [z2, if_neg (by rw [Int32.lt_iff_toInt_lt, iz, t_0]; omega), if_neg (fun q => by rw [Int32.le_iff_toInt_le, iz] at q; have q : (10 : Int) ≤ z := q; omega), asr_t (by rw [vq_i, iz]; omega), cz]
      have hS := h.2.2.2.2.2.2.2.2.2.2.2.2.2.2.2.2.2.2.2.2.2.1
      obtain ⟨y, y1, y2, y3, y4⟩ := hS
      have iy := nI_toInt (n := y) (by omega)
      have hb : byt (gI mc 16 0) y := fun j hj => (y4 j hj).1
      obtain ⟨ws, vs, cd, r⟩ := into_P (b := z) (m := mc) (U := gI mc 16 0) (n := y) (fl := FL) FL_ge (by omega) ⟨y1, y2, fun _ _ => rfl, hb⟩
      have g := goes_M (fl := FL) (U := gI mc 16 0) FL_ge (M := sI (sI mm 21 0 10 (nI y)) 0 0 22 0) (k := 10) (by omega) y1 rfl (fun j hj => (y4 j hj).2) hb
      rw [show nI 10 = 10 from rfl] at g
      -- the texts of before stay law
      have old : ∀ (p f cc cl : Int32) (ws vs cd : Nat → Int32) (k : Nat), k < z → ∀ U m cs, ltx mc mm k U m cs → ltx (sI (PM mc z p f cc cl ws vs cd) 5 0 0 0) mm k U m cs := by
        intro p f cc cl ws vs cd k hk U m cs hl
        obtain ⟨l1, l2, l3, l4, l5, l6, l7, l8, l9, l10, l11⟩ := hl
        refine ⟨l1, l2, l3, l4, l5, l6, l7, ?_, ?_, fun i hi => ⟨?_, ?_⟩, fun i hi => ?_⟩
        · exact (gI_P19 (p := p) (f := f) (cc := cc) (cl := cl) (ws := ws) (vs := vs) (cd := cd) (Or.inl (by omega))).trans l8
        · exact (gI_P19 (p := p) (f := f) (cc := cc) (cl := cl) (ws := ws) (vs := vs) (cd := cd) (Or.inl (by omega))).trans l9
        · exact (gI_P2x (p := p) (f := f) (cc := cc) (cl := cl) (ws := ws) (vs := vs) (cd := cd) (Or.inl rfl) (by omega)).trans (l10 i hi).1
        · exact (gI_P2x (p := p) (f := f) (cc := cc) (cl := cl) (ws := ws) (vs := vs) (cd := cd) (Or.inr (Or.inl rfl)) (by omega)).trans (l10 i hi).2
        · exact (gI_P2x (p := p) (f := f) (cc := cc) (cl := cl) (ws := ws) (vs := vs) (cd := cd) (Or.inr (Or.inr rfl)) (by omega)).trans (l11 i hi)
      cases hx : pText (gI mc 16 0) y FL with
      | inl q =>
        rw [hx] at r g
        obtain ⟨r1, p', cc', cl', ws', vs', cd', r2⟩ := r
        obtain ⟨cl, dg, wt, pl, op, wa, pi, pa, na, ha, g1⟩ := g
        have iq := nI_toInt (n := q) (by omega)
        refine ⟨-10 - nI q, sI (PM mc z p' (nI q) cc' cl' ws' vs' cd') 5 0 0 0, GM (sI (sI (sI (sI mm 21 0 10 (nI y)) 0 0 22 0) 0 0 30 (nI (100 * 10))) 0 0 31 (nI y)) (nI q) cl dg wt pl op wa pi pa na ha, ?_, ?_, (RR.law1 h ?_ ?_).up⟩
        · unfold f_X11_law
          rw [d1, bn2_e, if_neg (by decide), nt, bn2_e, if_neg (by omega), r2, bn2_e, lt1_e, if_neg (by rw [Int32.lt_iff_toInt_lt, iq, t_0]; omega)]
        · unfold f_X12_law
          rw [d2, bn2_e, if_neg (by decide), z3, if_neg (fun w => by rw [i32_eq, iz, t_10] at w; omega), asr_t (by decide), y3, lt1_e, lt1_e]
          show bn2 (f_X12_goes FL 10 (sI (sI mm 21 0 10 (nI y)) 0 0 22 0)) _ = _
          rw [g1, bn2_e, if_pos rfl]
          rfl
        · exact ⟨z, z1, z2, z3, fun k hk => ⟨(gI_P19 (p := p') (f := nI q) (Or.inr ⟨by decide, by decide⟩)).trans (z4 k hk).1, (z4 k hk).2⟩⟩
        · refine ⟨z, z1, z3, fun k hk => ?_⟩
          obtain ⟨U, m, cs, hl⟩ := z5 k hk
          obtain ⟨l1, l2, l3, l4, l5, l6⟩ := old p' (nI q) cc' cl' ws' vs' cd' k hk U m cs hl
          exact ⟨U, m, cs, l1, l2, l3, by
            show gI (sI mm 21 0 10 (nI y)) 21 0 k = nI m
            rw [gI_sI, if_neg (fun w => by have := w.2.2; omega)]; exact l4, l5, l6⟩
      | inr ds =>
        rw [hx] at r g
        obtain ⟨r1, r2, p', r3⟩ := r
        obtain ⟨ap, cl, dg, wt, pl, op, wa, pi, pa, na, ha, g1, -⟩ := g
        have h1 : RR n (sI (stC mc z ws vs cd p' ds) 5 0 0 0) (GM (sI (sI (sI (sI mm 21 0 10 (nI y)) 0 0 22 0) 0 0 30 (nI (100 * 10))) 0 0 31 (nI y)) ap cl dg wt pl op wa pi pa na ha) := by
          refine RR.law1 h ?_ ?_
          · exact ⟨z, z1, z2, z3, fun k hk => ⟨(gI_P19 (p := nI p') (f := -1) (Or.inr ⟨by decide, by decide⟩)).trans (z4 k hk).1, (z4 k hk).2⟩⟩
          · refine ⟨z, z1, z3, fun k hk => ?_⟩
            obtain ⟨U, m, cs, hl⟩ := z5 k hk
            obtain ⟨l1, l2, l3, l4, l5, l6⟩ := old (nI p') (-1) (nI (flt ds).length) (nI ds.length) (wr ws 0 (wds ds)) (wr vs 0 (vlf 0 ds)) (wr cd 0 (flt ds)) k hk U m cs hl
            exact ⟨U, m, cs, l1, l2, l3, by
              show gI (sI mm 21 0 10 (nI y)) 21 0 k = nI m
              rw [gI_sI, if_neg (fun w => by have := w.2.2; omega)]; exact l4, l5, l6⟩
        have tm : gI (GM (sI (sI (sI (sI mm 21 0 10 (nI y)) 0 0 22 0) 0 0 30 (nI (100 * 10))) 0 0 31 (nI y)) ap cl dg wt pl op wa pi pa na ha) 20 0 = gI mm 20 0 := rfl
        have f21 : gI (GM (sI (sI (sI (sI mm 21 0 10 (nI y)) 0 0 22 0) 0 0 30 (nI (100 * 10))) 0 0 31 (nI y)) ap cl dg wt pl op wa pi pa na ha) 0 0 21 = nI z := z3
        have f2110 : gI (GM (sI (sI (sI (sI mm 21 0 10 (nI y)) 0 0 22 0) 0 0 30 (nI (100 * 10))) 0 0 31 (nI y)) ap cl dg wt pl op wa pi pa na ha) 21 0 (Int32.toNatClampNeg 10) = nI y := rfl
        have f21k : ∀ k, k ≠ 10 → gI (GM (sI (sI (sI (sI mm 21 0 10 (nI y)) 0 0 22 0) 0 0 30 (nI (100 * 10))) 0 0 31 (nI y)) ap cl dg wt pl op wa pi pa na ha) 21 0 k = gI mm 21 0 k := fun k hk => by
          show gI (sI mm 21 0 10 (nI y)) 21 0 k = _
          rw [gI_sI, if_neg (fun w => hk w.2.2)]
        have f19 : gI (GM (sI (sI (sI (sI mm 21 0 10 (nI y)) 0 0 22 0) 0 0 30 (nI (100 * 10))) 0 0 31 (nI y)) ap cl dg wt pl op wa pi pa na ha) 19 0 = gI mm 19 0 := rfl
        generalize GM (sI (sI (sI (sI mm 21 0 10 (nI y)) 0 0 22 0) 0 0 30 (nI (100 * 10))) 0 0 31 (nI y)) ap cl dg wt pl op wa pi pa na ha = MM at *
        have tmof := TM_of (sI MM 21 0 z (nI y))
        have c0 : gI (sI MM 21 0 z (nI y)) 20 0 = gI mm 20 0 := tm
        rw [c0] at tmof
        have cp := copy_l (fl := FL) (a := a1) (m := sI MM 21 0 z (nI y)) (tx := gI mm 20 0) (show z < 10 by omega) y1 (by rw [gI_sI, if_neg (fun w => by have := w.2.2; omega)]; exact f2110) (by show gI MM 0 0 21 = nI z; exact f21) FL 0 (by omega) (by have := FL_ge; omega)
        rw [txc_0, ← tmof, show nI 0 = 0 from rfl] at cp
        have b19 : gI (TM (sI MM 21 0 z (nI y)) (txc (gI mm 20 0) z y)) 0 0 21 = nI z := f21
        refine ⟨nI (z + 1) - 1, sI (sI (sI (stC mc z ws vs cd p' ds) 5 0 0 0) 19 z 0 a1) 6 0 0 (nI (z + 1)), sI (sI (TM (sI MM 21 0 z (nI y)) (txc (gI mm 20 0) z y)) 19 0 z a1) 0 0 21 (nI (z + 1)), ?_, ?_, (RR.law2 (b := z) (z := z) (a := a1) (u := nI (z + 1)) (v := nI (z + 1)) (t := nI y) (tx := txc (gI mm 20 0) z y) h1 ?_ ?_ ?_).up⟩
        · unfold f_X11_law
          rw [d1, bn2_e, if_neg (by decide), nt, bn2_e, if_neg (by omega), r3, bn2_e, lt1_e, if_pos (by decide), drf_e (by omega), lt1_e]
          have e6 : gI (sI (sI (stC mc z ws vs cd p' ds) 5 0 0 0) 19 z 0 a1) 6 0 0 = nI z := z2
          rw [e6, nI_1, lt1_e]
          rfl
        · unfold f_X12_law
          rw [d2, bn2_e, if_neg (by decide), z3, if_neg (fun w => by rw [i32_eq, iz, t_10] at w; omega), asr_t (by decide), y3, lt1_e, lt1_e]
          show bn2 (f_X12_goes FL 10 (sI (sI mm 21 0 10 (nI y)) 0 0 22 0)) _ = _
          rw [g1, bn2_e, if_neg (by decide), asr_t (by decide), f21, asr_t (by rw [vq_i, iz]; omega), cz, f2110, lt1_e, cp, bn1_e, b19, asr_t (by rw [vq_i, iz]; omega), cz, lt1_e]
          show lt1 (sI (sI (TM (sI MM 21 0 z (nI y)) (txc (gI mm 20 0) z y)) 19 0 z a1) 0 0 21 (gI (TM (sI MM 21 0 z (nI y)) (txc (gI mm 20 0) z y)) 0 0 21 + 1)) _ = _
          rw [b19, nI_1, lt1_e]
          rfl
        · refine ⟨z + 1, by omega, rfl, rfl, fun k hk => ?_⟩
          show gI (sI (sI (stC mc z ws vs cd p' ds) 5 0 0 0) 19 z 0 a1) 19 k 0 = gI (sI (TM (sI MM 21 0 z (nI y)) (txc (gI mm 20 0) z y)) 19 0 z a1) 19 0 k ∧ rg (gI (sI (TM (sI MM 21 0 z (nI y)) (txc (gI mm 20 0) z y)) 19 0 z a1) 19 0 k) 0 399
          have qc : ∀ M : Mem, gI (sI M 19 z 0 a1) 19 k 0 = if k = z then a1 else gI M 19 k 0 := fun M => by
            rw [gI_sI]; by_cases e : k = z <;> simp [e]
          have qm : ∀ M : Mem, gI (sI M 19 0 z a1) 19 0 k = if k = z then a1 else gI M 19 0 k := fun M => by
            rw [gI_sI]; by_cases e : k = z <;> simp [e]
          rw [qc, qm]
          by_cases e : k = z
          · rw [if_pos e, if_pos e]
            exact ⟨rfl, d⟩
          · rw [if_neg e, if_neg e]
            have q1 := z4 k (by omega)
            have q2 : gI (sI (stC mc z ws vs cd p' ds) 5 0 0 0) 19 k 0 = gI mc 19 k 0 := gI_P19 (p := nI p') (f := -1) (Or.inr ⟨by decide, by decide⟩)
            have q3 : gI (TM (sI MM 21 0 z (nI y)) (txc (gI mm 20 0) z y)) 19 0 k = gI mm 19 0 k := congrFun f19 k
            rw [q2, q3]
            exact q1
        · refine ⟨z + 1, by omega, rfl, fun k hk => ?_⟩
          by_cases e : k = z
          · subst e
            refine ⟨gI mc 16 0, y, ds, y1, hb, hx, ?_, fun j hj => ?_, r1, by omega, ?_, ?_, fun i hi => ⟨?_, ?_⟩, fun i hi => ?_⟩
            · show gI (sI MM 21 0 k (nI y)) 21 0 k = nI y
              rw [gI_sI, if_pos ⟨rfl, rfl, rfl⟩]
            · show txc (gI mm 20 0) k y (100 * k + j) = ji2b (gI mc 16 0 j)
              unfold txc
              rw [if_pos (by omega), show 100 * k + j - 100 * k + 1000 = 1000 + j by omega]
              exact (y4 j hj).2
            · show gI (sI (sI (stC mc k ws vs cd p' ds) 5 0 0 0) 19 k 0 a1) 19 k 2 = _
              rw [gI_sI, if_neg (fun w => by have := w.2.2; omega)]
              exact gI_Pcl (p := nI p') (f := -1)
            · show gI (sI (sI (stC mc k ws vs cd p' ds) 5 0 0 0) 19 k 0 a1) 19 k 1 = _
              rw [gI_sI, if_neg (fun w => by have := w.2.2; omega)]
              exact gI_Pcc (p := nI p') (f := -1)
            · show gI (stC mc k ws vs cd p' ds) 20 k i = _
              refine (gI_Pws (p := nI p') (f := -1)).trans ?_
              unfold wr
              rw [if_pos (by rw [wds_len]; omega), Nat.sub_zero]
            · show gI (stC mc k ws vs cd p' ds) 21 k i = _
              refine (gI_Pvs (p := nI p') (f := -1)).trans ?_
              unfold wr
              rw [if_pos (by rw [vlf_len]; omega), Nat.sub_zero]
            · show gI (stC mc k ws vs cd p' ds) 22 k i = _
              refine (gI_Pcd (p := nI p') (f := -1)).trans ?_
              unfold wr
              rw [if_pos (by omega), Nat.sub_zero]
          · obtain ⟨U, m, cs, hl⟩ := z5 k (by omega)
            obtain ⟨l1, l2, l3, l4, l5, l6, l7, l8, l9, l10, l11⟩ := old (nI p') (-1) (nI (flt ds).length) (nI ds.length) (wr ws 0 (wds ds)) (wr vs 0 (vlf 0 ds)) (wr cd 0 (flt ds)) k (by omega) U m cs hl
            refine ⟨U, m, cs, l1, l2, l3, ?_, fun j hj => ?_, l6, l7, ?_, ?_, l10, l11⟩
            · show gI (sI MM 21 0 z (nI y)) 21 0 k = nI m
              rw [gI_sI, if_neg (fun w => e w.2.2), f21k k (by omega)]; exact l4
            · show txc (gI mm 20 0) z y (100 * k + j) = ji2b (U j)
              unfold txc
              rw [if_neg (by omega)]
              exact l5 j hj
            · show gI (sI (sI (stC mc z ws vs cd p' ds) 5 0 0 0) 19 z 0 a1) 19 k 2 = _
              rw [gI_sI, if_neg (fun w => e w.2.1)]
              exact l8
            · show gI (sI (sI (stC mc z ws vs cd p' ds) 5 0 0 0) 19 z 0 a1) 19 k 1 = _
              rw [gI_sI, if_neg (fun w => e w.2.1)]
              exact l9
        · intro k hk
          show txc (gI mm 20 0) z y (1000 + k) = gI MM 20 0 (1000 + k)
          rw [tm]
          unfold txc
          rw [if_neg (by omega)]
  · refine Sim.same h (-2) ?_ ?_
    · unfold f_X11_law
      rw [isDay_11, if_neg d, bn2_e, if_pos rfl]
    · unfold f_X12_law
      rw [isDay_12, if_neg d, bn2_e, if_pos rfl]
