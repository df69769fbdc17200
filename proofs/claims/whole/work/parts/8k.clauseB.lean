/-! the class reads clauses -/
def cresC (m : Mem) (b : Nat) (i cc : Nat) (ws vs cd : Nat → Int32) (x : Nat ⊕ (Nat × Cl)) (y : Option Mem) : Prop := match x with
  | .inl q => ∃ p' cc' cl' ws' vs' cd', y = some (PM m b p' (nI q) cc' cl' ws' vs' cd')
  | .inr r => y = some (PM m b (nI r.1) (-1) (nI (cc + (cdc r.2).length)) (nI (i + 1)) (uw ws i (nI r.2.1)) (uw vs i (if r.2.1 < 4 then nI r.2.2.1 else nI cc)) (wr cd cc (cdc r.2)))
section CD
variable {fl b n : Nat} {m : Mem} {U : Nat → Int32}
theorem clause_F {c v pp f cc cl : Int32} {ws vs cd : Nat → Int32} : ∃ cl' ws' vs', f_X9_addClause fl b c v (PM m b pp f cc cl ws vs cd) = some (PM m b pp f cc cl' ws' vs' cd) := by
  unfold f_X9_addClause
  by_cases h1 : cl.toInt < 0
  · exact ⟨cl, ws, vs, by simp (disch := omega) only [Int32.lt_iff_toInt_lt, Int32.le_iff_toInt_le, t_n14, t_n13, t_n12, t_n11, t_n10, t_n5, t_n4, t_n3, t_n2, t_n1, t_0, t_1, t_2, t_3, t_4, t_5, t_6, t_7, t_8, t_9, t_10, t_11, t_12, t_13, t_14, t_15, t_16, t_17, t_18, t_19, t_20, t_21, t_22, t_23, t_24, t_25, t_26, t_27, t_28, t_29, t_30, t_31, t_32, t_33, t_34, t_37, t_38, t_39, t_40, t_41, t_44, t_48, t_50, t_51, t_52, t_57, t_59, t_60, t_61, t_62, t_66, t_98, t_99, t_100, t_101, t_102, t_103, t_104, t_105, t_106, t_107, t_108, t_109, t_110, t_111, t_112, t_113, t_114, t_115, t_116, t_121, t_124, t_150, t_200, t_399, t_999, t_2000, vq_i, if_pos, if_neg, bn2_e, bn1_e, lt1_e, asr_t, drf_e, asr_T, gI_sI, gL_sI, gR_sI, gI_sL, gL_sL, gR_sL, gI_sR, gL_sR, gR_sR, eq_self, i32_eq, or_true, true_or, and_true, true_and, or_false, false_or, and_false, false_and, not_true, not_false_iff, if_true, if_false, gI_Pp, gI_Pf, gI_P0, gI_P16, gI_Pcc, gI_Pcl, gI_Pws, gI_Pvs, gI_Pcd, sI_Pp, sI_Pf, sI_Pcc, sI_Pcl, sI_Pws, sI_Pvs, sI_Pcd]⟩
  · by_cases h2 : 8 ≤ cl.toInt
    · exact ⟨cl, ws, vs, by simp (disch := omega) only [Int32.lt_iff_toInt_lt, Int32.le_iff_toInt_le, t_n14, t_n13, t_n12, t_n11, t_n10, t_n5, t_n4, t_n3, t_n2, t_n1, t_0, t_1, t_2, t_3, t_4, t_5, t_6, t_7, t_8, t_9, t_10, t_11, t_12, t_13, t_14, t_15, t_16, t_17, t_18, t_19, t_20, t_21, t_22, t_23, t_24, t_25, t_26, t_27, t_28, t_29, t_30, t_31, t_32, t_33, t_34, t_37, t_38, t_39, t_40, t_41, t_44, t_48, t_50, t_51, t_52, t_57, t_59, t_60, t_61, t_62, t_66, t_98, t_99, t_100, t_101, t_102, t_103, t_104, t_105, t_106, t_107, t_108, t_109, t_110, t_111, t_112, t_113, t_114, t_115, t_116, t_121, t_124, t_150, t_200, t_399, t_999, t_2000, vq_i, if_pos, if_neg, bn2_e, bn1_e, lt1_e, asr_t, drf_e, asr_T, gI_sI, gL_sI, gR_sI, gI_sL, gL_sL, gR_sL, gI_sR, gL_sR, gR_sR, eq_self, i32_eq, or_true, true_or, and_true, true_and, or_false, false_or, and_false, false_and, not_true, not_false_iff, if_true, if_false, gI_Pp, gI_Pf, gI_P0, gI_P16, gI_Pcc, gI_Pcl, gI_Pws, gI_Pvs, gI_Pcd, sI_Pp, sI_Pf, sI_Pcc, sI_Pcl, sI_Pws, sI_Pvs, sI_Pcd]⟩
    · exact ⟨cl + 1, uw ws cl.toNatClampNeg c, uw vs cl.toNatClampNeg v, by simp (disch := omega) only [Int32.lt_iff_toInt_lt, Int32.le_iff_toInt_le, t_n14, t_n13, t_n12, t_n11, t_n10, t_n5, t_n4, t_n3, t_n2, t_n1, t_0, t_1, t_2, t_3, t_4, t_5, t_6, t_7, t_8, t_9, t_10, t_11, t_12, t_13, t_14, t_15, t_16, t_17, t_18, t_19, t_20, t_21, t_22, t_23, t_24, t_25, t_26, t_27, t_28, t_29, t_30, t_31, t_32, t_33, t_34, t_37, t_38, t_39, t_40, t_41, t_44, t_48, t_50, t_51, t_52, t_57, t_59, t_60, t_61, t_62, t_66, t_98, t_99, t_100, t_101, t_102, t_103, t_104, t_105, t_106, t_107, t_108, t_109, t_110, t_111, t_112, t_113, t_114, t_115, t_116, t_121, t_124, t_150, t_200, t_399, t_999, t_2000, vq_i, if_pos, if_neg, bn2_e, bn1_e, lt1_e, asr_t, drf_e, asr_T, gI_sI, gL_sI, gR_sI, gI_sL, gL_sL, gR_sL, gI_sR, gL_sR, gR_sR, eq_self, i32_eq, or_true, true_or, and_true, true_and, or_false, false_or, and_false, false_and, not_true, not_false_iff, if_true, if_false, gI_Pp, gI_Pf, gI_P0, gI_P16, gI_Pcc, gI_Pcl, gI_Pws, gI_Pvs, gI_Pcd, sI_Pp, sI_Pf, sI_Pcc, sI_Pcl, sI_Pws, sI_Pvs, sI_Pcd]⟩
theorem clause_P {c v pp f cc : Int32} {ws vs cd : Nat → Int32} {i : Nat} (hi : i < 8) : f_X9_addClause fl b c v (PM m b pp f cc (nI i) ws vs cd) = some (PM m b pp f cc (nI (i + 1)) (uw ws i c) (uw vs i v) cd) := by
  have i1 := nI_toInt (n := i) (by omega)
  have i2 := nI_clamp (n := i) (by omega)
  unfold f_X9_addClause
  simp (disch := omega) only [Int32.lt_iff_toInt_lt, Int32.le_iff_toInt_le, t_n14, t_n13, t_n12, t_n11, t_n10, t_n5, t_n4, t_n3, t_n2, t_n1, t_0, t_1, t_2, t_3, t_4, t_5, t_6, t_7, t_8, t_9, t_10, t_11, t_12, t_13, t_14, t_15, t_16, t_17, t_18, t_19, t_20, t_21, t_22, t_23, t_24, t_25, t_26, t_27, t_28, t_29, t_30, t_31, t_32, t_33, t_34, t_37, t_38, t_39, t_40, t_41, t_44, t_48, t_50, t_51, t_52, t_57, t_59, t_60, t_61, t_62, t_66, t_98, t_99, t_100, t_101, t_102, t_103, t_104, t_105, t_106, t_107, t_108, t_109, t_110, t_111, t_112, t_113, t_114, t_115, t_116, t_121, t_124, t_150, t_200, t_399, t_999, t_2000, vq_i, if_pos, if_neg, bn2_e, bn1_e, lt1_e, asr_t, drf_e, asr_T, gI_sI, gL_sI, gR_sI, gI_sL, gL_sL, gR_sL, gI_sR, gL_sR, gR_sR, eq_self, i32_eq, or_true, true_or, and_true, true_and, or_false, false_or, and_false, false_and, not_true, not_false_iff, if_true, if_false, gI_Pp, gI_Pf, gI_P0, gI_P16, gI_Pcc, gI_Pcl, gI_Pws, gI_Pvs, gI_Pcd, sI_Pp, sI_Pf, sI_Pcc, sI_Pcl, sI_Pws, sI_Pvs, sI_Pcd, i1, i2, nI_1]
theorem rdc_P (hfl : 1000 ≤ fl) (hb : b < 10) (h : fed m U n) {p i cc : Nat} {ws vs cd : Nat → Int32} (hp : p ≤ n) (hi : i < 8) (hc : cc ≤ p) : cresC m b i cc ws vs cd (pClause U n fl p) (f_X7_readClause fl (b + 1) (PM m b (nI p) (-1) (nI cc) (nI i) ws vs cd)) := by
  have hn := h.1
  have hw := pW_n (U := U) (n := n) hp 6 0 0 hp
  have e : pWord U n p = pW U n p 6 0 0 := rfl
  have y := word_P (fl := fl) (b := b) (cc := nI cc) (cl := nI i) (ws := ws) (vs := vs) (cd := cd) hfl h hp
  unfold pClause f_X7_readClause
  rw [y, e]
  cases hx : pW U n p 6 0 0 with
  | inl q =>
    rw [hx] at hw
    have hq : q ≤ n := hw.2
    have iq := nI_toInt (n := q) (by omega)
    obtain ⟨cl', ws', vs', z⟩ := clause_F (fl := fl) (m := m) (b := b) (c := -1) (v := 0) (pp := nI q) (f := nI q) (cc := nI cc) (cl := nI i) (ws := ws) (vs := vs) (cd := cd)
    refine ⟨nI q, nI cc, cl', ws', vs', cd, ?_⟩
    show (bn2 (some ((-1 : Int32), PM m b (nI q) (nI q) (nI cc) (nI i) ws vs cd)) _) = _
    rw [bn2_e, if_neg (by decide), if_neg (by decide), num_F hfl (by omega), bn2_e, drf_e hb, z]
    rfl
  | inr w =>
    rw [hx] at hw
    obtain ⟨w1, w2⟩ := hw
    have wl := wdl_le w
    have iw := nI_toInt (n := w) (by omega)
    show cresC m b i cc ws vs cd (if w < 4 then (if (pnm U n (p + (wdl w).length)).1 = 0 then .inl (p + (wdl w).length) else .inr (p + (wdl w).length + (pnm U n (p + (wdl w).length)).1, w, (pnm U n (p + (wdl w).length)).2, []))
      else (match pE U n (pOne U n fl 8 0) fl false false (p + (wdl w).length) [] with
      | .inl q => .inl q
      | .inr r => .inr (r.1, w, 0, r.2))) (bn2 (some (nI w, PM m b (nI (p + (wdl w).length)) (-1) (nI cc) (nI i) ws vs cd)) _)
    rw [bn2_e]
    generalize hP : p + (wdl w).length = P at w2
    by_cases c : w < 4
    · rw [if_pos c, if_neg (show ¬ nI w = 4 from fun q => by rw [i32_eq, iw, t_4] at q; omega), if_neg (show ¬ nI w = 5 from fun q => by rw [i32_eq, iw, t_5] at q; omega), num_P hfl h (by omega)]
      by_cases d : (pnm U n P).1 = 0
      · rw [if_pos d, if_pos d, bn2_e, drf_e hb]
        obtain ⟨cl', ws', vs', z⟩ := clause_F (fl := fl) (m := m) (b := b) (c := nI w) (v := 0) (pp := nI P) (f := nI P) (cc := nI cc) (cl := nI i) (ws := ws) (vs := vs) (cd := cd)
        exact ⟨nI P, nI cc, cl', ws', vs', cd, by rw [z]; rfl⟩
      · rw [if_neg d, if_neg d, bn2_e, drf_e hb, clause_P hi]
        have e0 : cdc (w, (pnm U n P).2, []) = [] := if_pos c
        show some _ = some (PM m b (nI (P + (pnm U n P).1)) (-1) (nI (cc + (cdc (w, (pnm U n P).2, [])).length)) (nI (i + 1)) (uw ws i (nI w)) (uw vs i (if w < 4 then nI (pnm U n P).2 else nI cc)) (wr cd cc (cdc (w, (pnm U n P).2, []))))
        rw [e0, wr_nil, if_pos c]
        rfl
    · rw [if_neg c]
      have hb15 : (if nI w = 4 then f_X7_readClause_b15 fl (b + 1) (nI w) (PM m b (nI P) (-1) (nI cc) (nI i) ws vs cd) else if nI w = 5 then f_X7_readClause_b15 fl (b + 1) (nI w) (PM m b (nI P) (-1) (nI cc) (nI i) ws vs cd) else bn2 (f_X7_readNumber fl (PM m b (nI P) (-1) (nI cc) (nI i) ws vs cd)) fun v12 m11 => drf 10 (b + 1) fun j13 => bn1 (f_X9_addClause fl j13 (nI w) v12 m11) fun m16 => some m16) = f_X7_readClause_b15 fl (b + 1) (nI w) (PM m b (nI P) (-1) (nI cc) (nI i) ws vs cd) := by
        rcases (show w = 4 ∨ w = 5 by omega) with g | g
        · subst g; rfl
        · subst g; rfl
      rw [hb15]
      unfold f_X7_readClause_b15 f_X7_readEither
      rw [drf_e hb, gI_Pcc, clause_P hi, bn1_e]
      have y2 := E_P (fl := fl) (cl := nI (i + 1)) (ws := uw ws i (nI w)) (vs := uw vs i (nI cc)) hb h (one := pOne U n fl 8 0) (rk := f_X7_readOne fl 8) (g2 := nI 0) (fun pp f ccc cd hf => one_F hfl hb hf) (fun p cc cd g2 g3 => one_P hfl hb h 8 0 p cc cd (by omega) (by omega) g2 g3) (fun p hp => adv_one 8 0 p hp) fl 0 false false P [] cc cd (by omega) (by omega) (by omega) (by show cc + 0 + 0 + 0 ≤ P; omega)
      rw [wr_nil] at y2
      have ya := adv_E (U := U) (fun p hp => adv_one (U := U) (n := n) (fl := fl) 8 0 p hp) fl false false P P [] (by omega) (Nat.le_refl _) (by show 0 + 0 + 0 + P ≤ P; omega)
      cases hy : pE U n (pOne U n fl 8 0) fl false false P [] with
      | inl q =>
        rw [hy] at y2 ya
        obtain ⟨p', cc', cd', y2⟩ := y2
        have y3 : f_X7_readEither_l11 fl (f_X7_readOne fl 8) (b + 1) 0 fl 0 0 1 0 (PM m b (nI P) (-1) (nI cc) (nI (i + 1)) (uw ws i (nI w)) (uw vs i (nI cc)) cd) = _ := y2
        rw [y3, bn1_e, bn1_e]
        obtain ⟨c2, d2, z⟩ := code_F (fl := fl) (m := m) (b := b) (pp := p') (f := nI q) (ccc := cc') (cl := nI (i + 1)) (ws := uw ws i (nI w)) (vs := uw vs i (nI cc)) (cd := cd') (c := -4)
        exact ⟨p', c2, _, _, _, d2, by rw [z]; rfl⟩
      | inr r =>
        rw [hy] at y2 ya
        obtain ⟨r1, L⟩ := r
        obtain ⟨a1, a2, a3⟩ := ya
        replace a2 : r1 ≤ n := a2
        replace a3 : L.length + P ≤ r1 := a3
        have y3 : f_X7_readEither_l11 fl (f_X7_readOne fl 8) (b + 1) 0 fl 0 0 1 0 (PM m b (nI P) (-1) (nI cc) (nI (i + 1)) (uw ws i (nI w)) (uw vs i (nI cc)) cd) = some (PM m b (nI r1) (-1) (nI (cc + L.length)) (nI (i + 1)) (uw ws i (nI w)) (uw vs i (nI cc)) (wr cd cc L)) := y2
        rw [y3, bn1_e, bn1_e, code_P (by omega), bn1_e, wr_snoc]
        have e0 : cdc (w, 0, L) = L ++ [-4] := if_neg c
        show some _ = some (PM m b (nI r1) (-1) (nI (cc + (cdc (w, 0, L)).length)) (nI (i + 1)) (uw ws i (nI w)) (uw vs i (if w < 4 then nI 0 else nI cc)) (wr cd cc (cdc (w, 0, L))))
        rw [e0, List.length_append, if_neg c, Nat.add_assoc]
        rfl
/-- the text's clauses, as the class holds them -/
def hdc (ws vs cd : Nat → Int32) (cs : List Cl) : (Nat → Int32) × (Nat → Int32) × (Nat → Int32) := (wr ws 0 (wds cs), wr vs 0 (vlf 0 cs), wr cd 0 (flt cs))
theorem uw_snoc {f : Nat → Int32} {A : List Int32} {x : Int32} : uw (wr f 0 A) A.length x = wr f 0 (A ++ [x]) := by
  have := wr_snoc (f := f) (c := 0) (A := A) (x := x)
  rw [Nat.zero_add] at this
  exact this
def stC (m : Mem) (b : Nat) (ws vs cd : Nat → Int32) (p : Nat) (cs : List Cl) : Mem := PM m b (nI p) (-1) (nI (flt cs).length) (nI cs.length) (wr ws 0 (wds cs)) (wr vs 0 (vlf 0 cs)) (wr cd 0 (flt cs))
theorem stC_s {ws vs cd : Nat → Int32} {p : Nat} {cs : List Cl} {c : Cl} : PM m b (nI p) (-1) (nI ((flt cs).length + (cdc c).length)) (nI (cs.length + 1)) (uw (wr ws 0 (wds cs)) cs.length (nI c.1)) (uw (wr vs 0 (vlf 0 cs)) cs.length (if c.1 < 4 then nI c.2.1 else nI (flt cs).length)) (wr (wr cd 0 (flt cs)) (flt cs).length (cdc c)) = stC m b ws vs cd p (cs ++ [c]) := by
  unfold stC
  have e1 : flt (cs ++ [c]) = flt cs ++ cdc c := by
    rw [flt_app]; show flt cs ++ (cdc c ++ []) = _; rw [List.append_nil]
  have e2 : wds (cs ++ [c]) = wds cs ++ [nI c.1] := List.map_append
  have e3 := vlf_snoc c cs 0
  rw [Nat.zero_add] at e3
  have u1 := uw_snoc (f := ws) (A := wds cs) (x := nI c.1)
  rw [wds_len] at u1
  have u2 := uw_snoc (f := vs) (A := vlf 0 cs) (x := if c.1 < 4 then nI c.2.1 else nI (flt cs).length)
  rw [vlf_len] at u2
  have u3 := wr_app (f := cd) (c := 0) (A := flt cs) (B := cdc c)
  rw [Nat.zero_add] at u3
  rw [e1, e2, e3, u1, u2, u3, List.length_append, List.length_append]
  rfl
theorem into_s (hfl : 1000 ≤ fl) (hb : b < 10) (h : fed m U n) {ws vs cd : Nat → Int32} {N N2 p : Nat} {cs : List Cl} (hN : N ≤ 7) (hcs : cs.length + N = 7) (hp : p ≤ n) (hf : (flt cs).length ≤ p) : match pClause U n fl p with
    | .inl q => ∃ p' cc' cl' ws' vs' cd', f_X7_readInto_l18 fl b (N2 + 2) 1 (nI (8 - N)) (stC m b ws vs cd p cs) = some (PM m b p' (nI q) cc' cl' ws' vs' cd')
    | .inr r => f_X7_readInto_l18 fl b (N2 + 2) 1 (nI (8 - N)) (stC m b ws vs cd p cs) = if lk U n r.1 = 59 ∧ N ≠ 0 then f_X7_readInto_l18 fl b (N2 + 1) 1 (nI (9 - N)) (stC m b ws vs cd (r.1 + 1) (cs ++ [r.2])) else some (stC m b ws vs cd r.1 (cs ++ [r.2])) := by
  have hn := h.1
  have ik := nI_toInt (n := 8 - N) (by omega)
  have y := rdc_P (fl := fl) (ws := wr ws 0 (wds cs)) (vs := wr vs 0 (vlf 0 cs)) (cd := wr cd 0 (flt cs)) hfl hb h hp (show cs.length < 8 by omega) hf
  have ya := adv_C (U := U) (fl := fl) hp
  have step : f_X7_readInto_l18 fl b (N2 + 2) 1 (nI (8 - N)) (stC m b ws vs cd p cs) = f_X7_readInto_l18_b (f_X7_readInto_l18 fl b (N2 + 1)) fl b 1 (nI (8 - N)) (stC m b ws vs cd p cs) := rfl
  have done : ∀ (u : Int32) (M : Mem), f_X7_readInto_l18 fl b (N2 + 1) 0 u M = some M := fun u M => rfl
  generalize hS : f_X7_readInto_l18 fl b (N2 + 2) 1 (nI (8 - N)) (stC m b ws vs cd p cs) = S at *
  unfold f_X7_readInto_l18_b at step
  rw [if_neg (by decide), if_neg (fun q => by rw [Int32.lt_iff_toInt_lt, ik] at q; have q : (8 : Int) < (8 - N : Nat) := q; omega)] at step
  unfold stC at step
  cases hx : pClause U n fl p with
  | inl q =>
    rw [hx] at y ya
    obtain ⟨p', cc', cl', ws', vs', cd', y⟩ := y
    have hq : q ≤ n := ya
    have iq := nI_toInt (n := q) (by omega)
    rw [y, bn1_e, look_F (by omega), bn2_e, if_neg (by decide), bn2_e, if_pos rfl, lt1_e, done] at step
    exact ⟨p', cc', cl', ws', vs', cd', step⟩
  | inr r =>
    rw [hx] at y ya
    obtain ⟨r1, c⟩ := r
    obtain ⟨a1, a2, a3, a4⟩ := ya
    replace a2 : r1 ≤ n := a2
    replace y : f_X7_readClause fl (b + 1) (PM m b (nI p) (-1) (nI (flt cs).length) (nI cs.length) (wr ws 0 (wds cs)) (wr vs 0 (vlf 0 cs)) (wr cd 0 (flt cs))) = some (PM m b (nI r1) (-1) (nI ((flt cs).length + (cdc c).length)) (nI (cs.length + 1)) (uw (wr ws 0 (wds cs)) cs.length (nI c.1)) (uw (wr vs 0 (vlf 0 cs)) cs.length (if c.1 < 4 then nI c.2.1 else nI (flt cs).length)) (wr (wr cd 0 (flt cs)) (flt cs).length (cdc c))) := y
    rw [stC_s] at y
    have e1 : f_X7_look fl (stC m b ws vs cd r1 (cs ++ [c])) = some (ck U n r1, stC m b ws vs cd r1 (cs ++ [c])) := look_P h (by omega)
    have e2 : (ck U n r1).toInt = lk U n r1 := rfl
    have e59 : ck U n r1 = 59 ↔ lk U n r1 = 59 := by
      rw [i32_eq, e2]; exact Iff.rfl
    rw [y, bn1_e, e1, bn2_e] at step
    show S = if lk U n r1 = 59 ∧ N ≠ 0 then f_X7_readInto_l18 fl b (N2 + 1) 1 (nI (9 - N)) (stC m b ws vs cd (r1 + 1) (cs ++ [c])) else some (stC m b ws vs cd r1 (cs ++ [c]))
    by_cases g : lk U n r1 = 59
    · rw [if_pos (e59.mpr g)] at step
      by_cases g2 : N = 0
      · rw [if_neg (fun q => q.2 g2)]
        rw [if_pos (by rw [Int32.le_iff_toInt_le, ik]; show (8 : Int) ≤ (8 - N : Nat); omega), bn2_e, if_pos rfl, lt1_e, done] at step
        exact step
      · rw [if_pos ⟨g, g2⟩]
        rw [if_neg (fun q => by rw [Int32.le_iff_toInt_le, ik] at q; have q : (8 : Int) ≤ (8 - N : Nat) := q; omega), bn2_e, if_neg (by decide), lt1_e, lt1_e, nI_1, show 8 - N + 1 = 9 - N by omega] at step
        rw [step]
        unfold stC
        rw [gI_Pp, sI_Pp, nI_1]
    · rw [if_neg (fun q => g (e59.mp q)), bn2_e, if_pos rfl, lt1_e, done] at step
      rw [if_neg (fun q => g q.1)]
      exact step
theorem b74_P (h : fed m U n) {ws vs cd : Nat → Int32} {p : Nat} {cs : List Cl} (hp : p ≤ n) : f_X7_readInto_b74 fl (stC m b ws vs cd p cs) = if p < n then some (nI p, PM m b (nI p) (nI p) (nI (flt cs).length) (nI cs.length) (wr ws 0 (wds cs)) (wr vs 0 (vlf 0 cs)) (wr cd 0 (flt cs))) else some (-1, stC m b ws vs cd p cs) := by
  obtain ⟨h1, h2, -⟩ := h
  have i1 := nI_toInt (n := p) (by omega)
  have i2 := nI_toInt (n := n) (by omega)
  unfold f_X7_readInto_b74 stC
  rw [gI_P0, gI_Pp, gI_Pf, h2]
  by_cases c : p < n
  · rw [if_pos c, if_neg (by rw [Int32.le_iff_toInt_le, i1, i2]; omega), fail_P, bn1_e, gI_Pf]
  · rw [if_neg c, if_pos (by rw [Int32.le_iff_toInt_le, i1, i2]; omega)]
theorem b74_F (h : fed m U n) {pp f cc cl : Int32} {ws vs cd : Nat → Int32} (hf : ¬ f.toInt = -1) : f_X7_readInto_b74 fl (PM m b pp f cc cl ws vs cd) = some (f, PM m b pp f cc cl ws vs cd) := by
  unfold f_X7_readInto_b74
  rw [gI_Pf]
  by_cases c : gI (PM m b pp f cc cl ws vs cd) 5 0 0 ≤ gI (PM m b pp f cc cl ws vs cd) 5 0 2
  · rw [if_pos c]
  · rw [if_neg c, fail_F hf, bn1_e, gI_Pf]
/-- what reading a whole text comes to, for the class -/
def cresT (m : Mem) (b n : Nat) (ws vs cd : Nat → Int32) (S : Option (Int32 × Mem)) : Nat ⊕ List Cl → Prop
  | .inl q => q ≤ n ∧ ∃ p' cc' cl' ws' vs' cd', S = some (nI q, PM m b p' (nI q) cc' cl' ws' vs' cd')
  | .inr ds => ds.length ≤ 8 ∧ (flt ds).length ≤ n ∧ ∃ p', S = some (-1, stC m b ws vs cd p' ds)
theorem into_l (hfl : 1000 ≤ fl) (hb : b < 10) (h : fed m U n) {ws vs cd : Nat → Int32} : ∀ (N N2 p : Nat) (cs : List Cl), N ≤ 7 → N + 3 ≤ N2 → cs.length + N = 7 → p ≤ n → (flt cs).length ≤ p → cresT m b n ws vs cd (bn1 (f_X7_readInto_l18 fl b N2 1 (nI (8 - N)) (stC m b ws vs cd p cs)) fun m21 => f_X7_readInto_b74 fl m21) (pT U n fl (N + 1) p cs) := by
  have hn := h.1
  intro N
  induction N with
  | zero =>
    intro N2 p cs h1 h2 h3 h4 h5
    obtain ⟨N3, rfl⟩ : ∃ N3, N2 = N3 + 2 := ⟨N2 - 2, by omega⟩
    have y := into_s (N2 := N3) (ws := ws) (vs := vs) (cd := cd) hfl hb h h1 h3 h4 h5
    have ya := adv_C (U := U) (fl := fl) h4
    show cresT m b n ws vs cd _ (match pClause U n fl p with
      | .inl q => .inl q
      | .inr r => if lk U n r.1 = 59 ∧ 0 ≠ 0 then pT U n fl 0 (r.1 + 1) (cs ++ [r.2]) else if r.1 < n then .inl r.1 else .inr (cs ++ [r.2]))
    cases hx : pClause U n fl p with
    | inl q =>
      rw [hx] at y ya
      obtain ⟨p', cc', cl', ws', vs', cd', y⟩ := y
      have hq : q ≤ n := ya
      have iq := nI_toInt (n := q) (by omega)
      exact ⟨hq, p', cc', cl', ws', vs', cd', by rw [y, bn1_e, b74_F h (by omega)]⟩
    | inr r =>
      rw [hx] at y ya
      obtain ⟨a1, a2, a3, a4⟩ := ya
      show cresT m b n ws vs cd _ (if lk U n r.1 = 59 ∧ 0 ≠ 0 then pT U n fl 0 (r.1 + 1) (cs ++ [r.2]) else if r.1 < n then .inl r.1 else .inr (cs ++ [r.2]))
      replace y : f_X7_readInto_l18 fl b (N3 + 2) 1 (nI (8 - 0)) (stC m b ws vs cd p cs) = if lk U n r.1 = 59 ∧ 0 ≠ 0 then f_X7_readInto_l18 fl b (N3 + 1) 1 (nI (9 - 0)) (stC m b ws vs cd (r.1 + 1) (cs ++ [r.2])) else some (stC m b ws vs cd r.1 (cs ++ [r.2])) := y
      rw [if_neg (fun q => q.2 rfl)] at y
      rw [y, if_neg (fun q => q.2 rfl), bn1_e, b74_P h a2]
      have e1 : flt (cs ++ [r.2]) = flt cs ++ cdc r.2 := by
        rw [flt_app]; show flt cs ++ (cdc r.2 ++ []) = _; rw [List.append_nil]
      by_cases g : r.1 < n
      · rw [if_pos g, if_pos g]
        exact ⟨a2, _, _, _, _, _, _, rfl⟩
      · rw [if_neg g, if_neg g]
        exact ⟨by rw [List.length_append]; show cs.length + 1 ≤ 8; omega, by rw [e1, List.length_append]; omega, _, rfl⟩
  | succ N ih =>
    intro N2 p cs h1 h2 h3 h4 h5
    obtain ⟨N3, rfl⟩ : ∃ N3, N2 = N3 + 2 := ⟨N2 - 2, by omega⟩
    have y := into_s (N2 := N3) (ws := ws) (vs := vs) (cd := cd) hfl hb h h1 h3 h4 h5
    have ya := adv_C (U := U) (fl := fl) h4
    show cresT m b n ws vs cd _ (match pClause U n fl p with
      | .inl q => .inl q
      | .inr r => if lk U n r.1 = 59 ∧ N + 1 ≠ 0 then pT U n fl (N + 1) (r.1 + 1) (cs ++ [r.2]) else if r.1 < n then .inl r.1 else .inr (cs ++ [r.2]))
    cases hx : pClause U n fl p with
    | inl q =>
      rw [hx] at y ya
      obtain ⟨p', cc', cl', ws', vs', cd', y⟩ := y
      have hq : q ≤ n := ya
      have iq := nI_toInt (n := q) (by omega)
      exact ⟨hq, p', cc', cl', ws', vs', cd', by rw [y, bn1_e, b74_F h (by omega)]⟩
    | inr r =>
      rw [hx] at y ya
      obtain ⟨a1, a2, a3, a4⟩ := ya
      show cresT m b n ws vs cd _ (if lk U n r.1 = 59 ∧ N + 1 ≠ 0 then pT U n fl (N + 1) (r.1 + 1) (cs ++ [r.2]) else if r.1 < n then .inl r.1 else .inr (cs ++ [r.2]))
      replace y : f_X7_readInto_l18 fl b (N3 + 2) 1 (nI (8 - (N + 1))) (stC m b ws vs cd p cs) = if lk U n r.1 = 59 ∧ N + 1 ≠ 0 then f_X7_readInto_l18 fl b (N3 + 1) 1 (nI (9 - (N + 1))) (stC m b ws vs cd (r.1 + 1) (cs ++ [r.2])) else some (stC m b ws vs cd r.1 (cs ++ [r.2])) := y
      have e1 : flt (cs ++ [r.2]) = flt cs ++ cdc r.2 := by
        rw [flt_app]; show flt cs ++ (cdc r.2 ++ []) = _; rw [List.append_nil]
      by_cases g : lk U n r.1 = 59
      · rw [if_pos ⟨g, by omega⟩] at y
        have hlt := lk_lt (U := U) (n := n) (p := r.1) (by omega)
        rw [y, if_pos ⟨g, by omega⟩, show 9 - (N + 1) = 8 - N by omega]
        exact ih (N3 + 1) (r.1 + 1) (cs ++ [r.2]) (by omega) (by omega) (by rw [List.length_append]; show cs.length + 1 + N = 7; omega) hlt (by rw [e1, List.length_append]; omega)
      · rw [if_neg (fun q => g q.1)] at y
        rw [y, if_neg (fun q => g q.1), bn1_e, b74_P h a2]
        by_cases g2 : r.1 < n
        · rw [if_pos g2, if_pos g2]
          exact ⟨a2, _, _, _, _, _, _, rfl⟩
        · rw [if_neg g2, if_neg g2]
          exact ⟨by rw [List.length_append]; show cs.length + 1 ≤ 8; omega, by rw [e1, List.length_append]; omega, _, rfl⟩
/-- the class's memory, seen so -/
theorem PM_of (M : Mem) : M = PM M b (gI M 5 0 2) (gI M 5 0 3) (gI M 19 b 1) (gI M 19 b 2) (gI M 20 b) (gI M 21 b) (gI M 22 b) := by
  unfold PM gI
  refine Prod.ext ?_ rfl
  funext r x k
  show M.1 r x k = (if r = 5 ∧ x = 0 ∧ k = 2 then M.1 5 0 2 else if r = 5 ∧ x = 0 ∧ k = 3 then M.1 5 0 3 else if r = 19 ∧ x = b ∧ k = 1 then M.1 19 b 1 else if r = 19 ∧ x = b ∧ k = 2 then M.1 19 b 2 else if r = 20 ∧ x = b then M.1 20 b k else if r = 21 ∧ x = b then M.1 21 b k else if r = 22 ∧ x = b then M.1 22 b k else M.1 r x k)
  split
  · rename_i q; rw [q.1, q.2.1, q.2.2]
  · split
    · rename_i q; rw [q.1, q.2.1, q.2.2]
    · split
      · rename_i q; rw [q.1, q.2.1, q.2.2]
      · split
        · rename_i q; rw [q.1, q.2.1, q.2.2]
        · split
          · rename_i q; rw [q.1, q.2]
          · split
            · rename_i q; rw [q.1, q.2]
            · split
              · rename_i q; rw [q.1, q.2]
              · rfl
theorem into_P (hfl : 1000 ≤ fl) (hb : b < 10) (h : fed m U n) : ∃ ws vs cd, cresT m b n ws vs cd (f_X7_readInto fl (b + 1) m) (pText U n fl) := by
  refine ⟨gI m 20 b, gI m 21 b, gI m 22 b, ?_⟩
  have y := into_l (b := b) (ws := gI m 20 b) (vs := gI m 21 b) (cd := gI m 22 b) hfl hb h 7 fl 0 [] (by omega) (by omega) rfl (by omega) (Nat.le_refl _)
  have e : f_X7_readInto fl (b + 1) m = (bn1 (f_X7_readInto_l18 fl b fl 1 (nI (8 - 7)) (stC m b (gI m 20 b) (gI m 21 b) (gI m 22 b) 0 [])) fun m21 => f_X7_readInto_b74 fl m21) := ?_
  · rw [e]; exact y
  have w0 : ∀ f : Nat → Int32, wr f 0 [] = f := fun f => wr_nil
  have st0 : stC m b (gI m 20 b) (gI m 21 b) (gI m 22 b) 0 [] = PM m b 0 (-1) 0 0 (gI m 20 b) (gI m 21 b) (gI m 22 b) := by
    show PM m b (nI 0) (-1) (nI 0) (nI 0) (wr (gI m 20 b) 0 []) (wr (gI m 21 b) 0 []) (wr (gI m 22 b) 0 []) = _
    rw [w0, w0, w0]; rfl
  rw [st0]
  have pm := PM_of (b := b) m
  unfold f_X7_readInto
  rw [lt1_e, lt1_e]
  conv => lhs; rw [pm]
  rw [sI_Pp, sI_Pf, drf_e hb]
  unfold f_X9_empty
  rw [lt1_e, lt1_e, sI_Pcl, sI_Pcc, bn1_e]
  rfl
end CD
