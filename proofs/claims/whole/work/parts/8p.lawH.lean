/-! conditions, laws, on both sides -/
theorem flt_len_app (A : List Cl) (c : Cl) (B : List Cl) : (flt (A ++ c :: B)) = flt A ++ (cdc c ++ flt B) := by
  rw [flt_app]; rfl
theorem holds_both {n w : Nat} {d : Int32} {mc mm : Mem} (hw : w = 4 ∨ w = 5) (h : RR n mc mm) (hlt : ∀ j, j < 6 → gI mc 18 0 j = gI mm 22 0 j) : ∃ v r mm', f_X3_holdsFor FL (nI w) d mc = some (bI v, mc) ∧ f_X12_ruler FL (nI w) d mm = some (r, mm') ∧ RR n mc mm' ∧ kM mm mm' ∧ ((r.toInt < 0 ∧ v = false) ∨ (0 ≤ r.toInt ∧ gI mm' 25 0 w = bI v)) := by
  obtain ⟨r, mm', y1, y2, y3, y4, y5, y6⟩ := rul_both (d := d) (show w < 6 by omega) h
  rcases y6 with rfl | ⟨q, U, nn, cs, x, q1, rfl, q3, q4, q5, q6, q7, q8⟩
  · refine ⟨false, -1, mm', ?_, y2, y3, y4, Or.inl ⟨by decide, rfl⟩⟩
    unfold f_X3_holdsFor
    rw [y1, bn2_e, textOf_m1, bn2_e, if_pos rfl]
    rfl
  · have iq := nI_toInt (n := q) (by omega)
    obtain ⟨v1, v2, A, B, v3, v4, v5⟩ := value_P (fl := FL) q4 q5
    have ls := last_P FL_ge q4 (show w < 6 by omega)
    rw [q5] at ls
    rw [if_neg (by omega)] at v5
    obtain ⟨v, g1, g2⟩ := q8 (by omega)
    have hok : okl x.2.2.2 := q4.ok x.2 (by rw [v3]; exact List.mem_append_right _ List.mem_cons_self)
    obtain ⟨l1, l2, l3, l4, l5, l6, l7, l8, l9, l10, l11⟩ := q4
    have hf : flt cs = flt A ++ ((x.2.2.2 ++ [-4]) ++ flt B) := by
      rw [v3, flt_len_app]
      have : cdc x.2 = x.2.2.2 ++ [-4] := if_neg (by omega)
      rw [this]
    have hlen : (flt cs).length = (flt A).length + (x.2.2.2.length + 1 + (flt B).length) := by
      rw [hf, List.length_append, List.length_append, List.length_append]; rfl
    have hv : says (gI mc 18 0) 11 x.2.2.2 v := fun S hS => by
      rw [r32_cong hlt _ _ hok]; exact g2 S hS
    have hh := hold_P (fl := FL) FL_ge (b := q) (m := mc) (cc := (flt cs).length) (k := (flt A).length) (L := x.2.2.2) l9 l7 (by omega) hok (fun i hi => by
      rw [l11 _ (by omega), hf, gd_r (by omega), show (flt A).length + i - (flt A).length = i by omega, gd_l (by rw [List.length_append]; show i < x.2.2.2.length + 1; omega), gd_l hi]) (by
      rw [l11 _ (by omega), hf, gd_r (by omega), show (flt A).length + x.2.2.2.length - (flt A).length = x.2.2.2.length by omega, gd_l (by rw [List.length_append]; show x.2.2.2.length < x.2.2.2.length + 1; omega), gd_r (Nat.le_refl _), Nat.sub_self]
      rfl) hv
    refine ⟨v, nI q, mm', ?_, y2, y3, y4, Or.inr ⟨by rw [iq]; omega, g1⟩⟩
    unfold f_X3_holdsFor
    rw [y1, bn2_e, q3, bn2_e, if_neg (by omega), drf_e q1, ls, bn2_e]
    show (bn2 (f_X9_valueOf FL q (nI x.1) mc) _) = _
    rw [v1, bn2_e, v5, hh, bn2_e]
    cases v <;> rfl
theorem asr_b {β : Type} {v : Bool} {k : Option β} : asr (bI v = 0 ∨ bI v = 1) k = k := by
  apply asr_t
  cases v
  · exact Or.inl rfl
  · exact Or.inr rfl
theorem may_both {n b : Nat} {d : Int32} {mc mm : Mem} (hb : b < 30) (h : RR n mc mm) : ∃ v mc' mm', f_X3_mayCut FL (b + 1) d mc = some (bI v, mc') ∧ f_X12_mayCut FL (nI b) d mm = some (bI v, mm') ∧ RR n mc' mm' ∧ kC mc mc' ∧ kM mm mm' := by
  have e1 := nI_toInt (n := b) (by omega)
  have e2 := nI_clamp (n := b) (by omega)
  obtain ⟨b0, b1, b2, -⟩ := h.2.2.2.2.2.2.2.2.1 b hb
  have av : vq (nI b) 30 := by rw [vq_i, e1]; omega
  have z0 : Int32.toNatClampNeg 0 = 0 := rfl
  have z1 : Int32.toNatClampNeg 1 = 1 := rfl
  have z2 : Int32.toNatClampNeg 2 = 2 := rfl
  have z3 : Int32.toNatClampNeg 3 = 3 := rfl
  have z4 : Int32.toNatClampNeg 4 = 4 := rfl
  have z5 : Int32.toNatClampNeg 5 = 5 := rfl
  have hc : RR n (sI (sI (sI (sI (sI (sI mc 18 0 0 (gI mc 13 b 2)) 18 0 1 (gI mc 13 b 1)) 18 0 2 (jrem (nI b) 6)) 18 0 3 (nI b / 6)) 18 0 4 (jrem d 7)) 18 0 5 0) (sI (sI (sI (sI (sI (sI mm 22 0 0 (gI mm 2 0 b)) 22 0 1 (gI mm 1 0 b)) 22 0 2 (jrem (nI b) 6)) 22 0 3 (nI b / 6)) 22 0 4 (jrem d 7)) 22 0 5 0) := h.c18.c18.c18.c18.c18.c18.m22.m22.m22.m22.m22.m22
  obtain ⟨v, r, mm', y1, y2, y3, y4, y5⟩ := holds_both (d := d) (Or.inl rfl) hc (fun j hj => by
    rw [b1, b2]
    rcases (show j = 0 ∨ j = 1 ∨ j = 2 ∨ j = 3 ∨ j = 4 ∨ j = 5 by omega) with rfl | rfl | rfl | rfl | rfl | rfl <;> rfl)
  rw [show nI 4 = 4 from rfl] at y1 y2
  refine ⟨v, _, mm', ?_, ?_, y3, ((((kC.s18.tr kC.s18).tr kC.s18).tr kC.s18).tr kC.s18).tr kC.s18, (((((kM.s22.tr kM.s22).tr kM.s22).tr kM.s22).tr kM.s22).tr kM.s22).tr y4⟩
  · unfold f_X3_mayCut f_X1_column f_X1_row
    rw [drf_e hb, asr_t (by decide), z0, lt1_e, asr_t (by decide), z1, lt1_e, bn2_e, asr_t (by decide), z2, lt1_e, bn2_e, asr_t (by decide), z3, lt1_e, asr_t (by decide), z4, lt1_e, asr_t (by decide), z5, lt1_e]
    show bn2 (f_X3_holdsFor FL 4 d (sI (sI (sI (sI (sI (sI mc 18 0 0 (gI mc 13 b 2)) 18 0 1 (gI mc 13 b 1)) 18 0 2 (jrem (gI mc 13 b 0) 6)) 18 0 3 (gI mc 13 b 0 / 6)) 18 0 4 (jrem d 7)) 18 0 5 0)) _ = _
    rw [b0, y1, bn2_e, asr_b]
  · unfold f_X12_mayCut
    simp only [e2, z0, z1, z2, z3, z4, z5]
    rw [asr_t av, asr_t (by decide), lt1_e, asr_t av, asr_t (by decide), lt1_e, asr_t (by decide), lt1_e, asr_t (by decide), lt1_e, asr_t (by decide), lt1_e, asr_t (by decide), lt1_e]
    show bn2 (f_X12_ruler FL 4 d (sI (sI (sI (sI (sI (sI mm 22 0 0 (gI mm 2 0 b)) 22 0 1 (gI mm 1 0 b)) 22 0 2 (jrem (nI b) 6)) 22 0 3 (nI b / 6)) 22 0 4 (jrem d 7)) 22 0 5 0)) _ = _
    rw [y2, bn2_e]
    rcases y5 with ⟨u1, u2⟩ | ⟨u1, u2⟩
    · rw [if_pos (by rw [Int32.lt_iff_toInt_lt, t_0]; exact u1), u2]; rfl
    · rw [if_neg (by rw [Int32.lt_iff_toInt_lt, t_0]; omega), asr_t (by decide), u2]
      cases v <;> rfl
theorem clr_f {fl : Nat} {g1 g2 : Int32} {m : Mem} (hfl : 1000 ≤ fl) : f_X12_barsFoundry_l2 fl g1 g2 fl 0 m = some (sI (sI (sI (sI m 22 0 0 0) 22 0 1 0) 22 0 2 0) 22 0 3 0) := by
  obtain ⟨N, hN⟩ : ∃ N, fl = N + 5 := ⟨fl - 5, by omega⟩
  have e : f_X12_barsFoundry_l2 fl g1 g2 (N + 5) 0 m = some (sI (sI (sI (sI m 22 0 0 0) 22 0 1 0) 22 0 2 0) 22 0 3 0) := rfl
  rw [← hN] at e
  exact e
theorem bars_both {n f : Nat} {d : Int32} {mc mm : Mem} (hf : f < 8) (h : RR n mc mm) : ∃ v mc' mm', f_X3_bars FL (nI f) d mc = some (bI v, mc') ∧ f_X12_barsFoundry FL (nI f) d mm = some (bI v, mm') ∧ RR n mc' mm' ∧ kC mc mc' ∧ kM mm mm' := by
  have z0 : Int32.toNatClampNeg 0 = 0 := rfl
  have z1 : Int32.toNatClampNeg 1 = 1 := rfl
  have z2 : Int32.toNatClampNeg 2 = 2 := rfl
  have z3 : Int32.toNatClampNeg 3 = 3 := rfl
  have z4 : Int32.toNatClampNeg 4 = 4 := rfl
  have z5 : Int32.toNatClampNeg 5 = 5 := rfl
  have hc : RR n (sI (sI (sI (sI (sI (sI mc 18 0 0 0) 18 0 1 0) 18 0 2 0) 18 0 3 0) 18 0 4 (jrem d 7)) 18 0 5 (nI f)) (sI (sI (sI (sI (sI (sI mm 22 0 0 0) 22 0 1 0) 22 0 2 0) 22 0 3 0) 22 0 4 (jrem d 7)) 22 0 5 (nI f)) := h.c18.c18.c18.c18.c18.c18.m22.m22.m22.m22.m22.m22
  obtain ⟨v, r, mm', y1, y2, y3, y4, y5⟩ := holds_both (d := d) (Or.inr rfl) hc (fun j hj => by
    rcases (show j = 0 ∨ j = 1 ∨ j = 2 ∨ j = 3 ∨ j = 4 ∨ j = 5 by omega) with rfl | rfl | rfl | rfl | rfl | rfl <;> rfl)
  rw [show nI 5 = 5 from rfl] at y1 y2
  refine ⟨v, _, mm', ?_, ?_, y3, ((((kC.s18.tr kC.s18).tr kC.s18).tr kC.s18).tr kC.s18).tr kC.s18, (((((kM.s22.tr kM.s22).tr kM.s22).tr kM.s22).tr kM.s22).tr kM.s22).tr y4⟩
  · unfold f_X3_bars
    rw [asr_t (by decide), z0, lt1_e, asr_t (by decide), z1, lt1_e, asr_t (by decide), z2, lt1_e, asr_t (by decide), z3, lt1_e, asr_t (by decide), z4, lt1_e, asr_t (by decide), z5, lt1_e, y1, bn2_e, asr_b]
  · unfold f_X12_barsFoundry
    simp only [z4, z5]
    rw [clr_f FL_ge, bn1_e, asr_t (by decide), lt1_e, asr_t (by decide), lt1_e, y2, bn2_e]
    rcases y5 with ⟨u1, u2⟩ | ⟨u1, u2⟩
    · rw [if_pos (by rw [Int32.lt_iff_toInt_lt, t_0]; exact u1), u2]; rfl
    · rw [if_neg (by rw [Int32.lt_iff_toInt_lt, t_0]; omega), asr_t (by decide), u2]
      cases v <;> rfl
theorem sim_force {n : Nat} {mc mm : Mem} (h : RR n mc mm) (a1 a2 a3 : Int32) : Sim (n + 1) (f_X11_force FL a1 a2 a3 mc) (f_X12_force FL a1 a2 a3 mm) := by
  rcases inr (x := a1) 6 (by decide) with q | ⟨w, hw, rfl⟩
  · refine Sim.same h (-1) ?_ ?_
    · unfold f_X11_force
      rcases bay_cases a3 FL mc mm with ⟨c1, c2, c3, -⟩ | ⟨b, hb, rfl, e1, e2, c1, c2, c3⟩ <;> simp (disch := omega) only [Int32.lt_iff_toInt_lt, Int32.le_iff_toInt_le, t_n14, t_n13, t_n12, t_n11, t_n10, t_n5, t_n4, t_n3, t_n2, t_n1, t_0, t_1, t_2, t_3, t_4, t_5, t_6, t_7, t_8, t_9, t_10, t_11, t_12, t_13, t_14, t_15, t_16, t_17, t_18, t_19, t_20, t_21, t_22, t_23, t_24, t_25, t_26, t_27, t_28, t_29, t_30, t_31, t_32, t_33, t_34, t_37, t_38, t_39, t_40, t_41, t_44, t_48, t_50, t_51, t_52, t_57, t_59, t_60, t_61, t_62, t_66, t_98, t_99, t_100, t_101, t_102, t_103, t_104, t_105, t_106, t_107, t_108, t_109, t_110, t_111, t_112, t_113, t_114, t_115, t_116, t_121, t_124, t_150, t_200, t_399, t_999, t_2000, vq_i, if_pos, if_neg, bn2_e, bn1_e, lt1_e, asr_t, drf_e, asr_T, gI_sI, gL_sI, gR_sI, gI_sL, gL_sL, gR_sL, gI_sR, gL_sR, gR_sR, eq_self, i32_eq, or_true, true_or, and_true, true_and, or_false, false_or, and_false, false_and, not_true, not_false_iff, if_true, if_false, c1, isWord_11]
    · unfold f_X12_force; simp (disch := omega) only [Int32.lt_iff_toInt_lt, Int32.le_iff_toInt_le, t_n14, t_n13, t_n12, t_n11, t_n10, t_n5, t_n4, t_n3, t_n2, t_n1, t_0, t_1, t_2, t_3, t_4, t_5, t_6, t_7, t_8, t_9, t_10, t_11, t_12, t_13, t_14, t_15, t_16, t_17, t_18, t_19, t_20, t_21, t_22, t_23, t_24, t_25, t_26, t_27, t_28, t_29, t_30, t_31, t_32, t_33, t_34, t_37, t_38, t_39, t_40, t_41, t_44, t_48, t_50, t_51, t_52, t_57, t_59, t_60, t_61, t_62, t_66, t_98, t_99, t_100, t_101, t_102, t_103, t_104, t_105, t_106, t_107, t_108, t_109, t_110, t_111, t_112, t_113, t_114, t_115, t_116, t_121, t_124, t_150, t_200, t_399, t_999, t_2000, vq_i, if_pos, if_neg, bn2_e, bn1_e, lt1_e, asr_t, drf_e, asr_T, gI_sI, gL_sI, gR_sI, gI_sL, gL_sL, gR_sL, gI_sR, gL_sR, gR_sR, eq_self, i32_eq, or_true, true_or, and_true, true_and, or_false, false_or, and_false, false_and, not_true, not_false_iff, if_true, if_false, in_12]
  · have i1 := nI_toInt (n := w) (by omega)
    have wd : (if 0 ≤ (nI w).toInt ∧ (nI w).toInt ≤ 5 then (1 : Int32) else 0) = 1 := if_pos (by omega)
    have in6 : f_X12_in FL (nI w) 0 5 mm = some (1, mm) := by rw [in_12, if_pos (by rw [t_0, t_5]; omega)]
    -- the rest, once the numbers are right
    have key : ∀ c2 : Nat, (w = 4 → ∃ b, b < 30 ∧ a3 = nI b ∧ c2 = b + 1) → (w = 5 → ∃ f, f < 8 ∧ a3 = nI f) → Sim (n + 1) (f_X11_force_b38 FL (nI w) a2 a3 c2 mc) (f_X12_force_b38 FL (nI w) a2 a3 mm) := by
      intro c2 k4 k5
      by_cases d : 0 ≤ a2.toInt ∧ a2.toInt ≤ 399
      · have d1 : f_X11_isDay FL a2 mc = some (1, mc) := by rw [isDay_11, if_pos d]
        have d2 : f_X12_isDay FL a2 mm = some (1, mm) := by rw [isDay_12, if_pos d]
        by_cases w5 : w = 5
        · obtain ⟨f, f1, rfl⟩ := k5 w5
          obtain ⟨v, mc', mm', y1, y2, y3, -, -⟩ := bars_both (d := a2) f1 h
          subst w5
          refine ⟨bI v, mc', mm', ?_, ?_, y3.up⟩
          · unfold f_X11_force_b38
            rw [d1, bn2_e, if_neg (by decide), if_pos (by decide), y1, bn2_e]
            cases v <;> rfl
          · unfold f_X12_force_b38
            rw [d2, bn2_e, if_neg (by decide), if_pos (by decide), if_neg (by decide), y2, bn2_e]
            cases v <;> rfl
        · by_cases w4 : w = 4
          · obtain ⟨b, b1, rfl, rfl⟩ := k4 w4
            obtain ⟨v, mc', mm', y1, y2, y3, -, -⟩ := may_both (d := a2) b1 h
            subst w4
            refine ⟨bI v, mc', mm', ?_, ?_, y3.up⟩
            · unfold f_X11_force_b38
              rw [d1, bn2_e, if_neg (by decide), if_neg (by decide), if_pos (by decide), if_neg (by omega), y1, bn2_e]
              cases v <;> rfl
            · unfold f_X12_force_b38
              rw [d2, bn2_e, if_neg (by decide), if_pos (by decide), if_pos (by decide), y2, bn2_e]
              cases v <;> rfl
          · obtain ⟨r, mm', y1, y2, y3, -⟩ := number_both (d := a2) (show w < 4 by omega) h
            refine ⟨r, mc, mm', ?_, ?_, y3.up⟩
            · unfold f_X11_force_b38
              rw [d1, bn2_e, if_neg (by decide), if_neg (show ¬ nI w = 5 from fun q => by rw [i32_eq, i1, t_5] at q; omega), if_neg (show ¬ nI w = 4 from fun q => by rw [i32_eq, i1, t_4] at q; omega), y1, bn2_e]
            · unfold f_X12_force_b38
              rw [d2, bn2_e, if_neg (by decide), if_neg (show ¬ 4 ≤ nI w by rw [Int32.le_iff_toInt_le, i1, t_4]; omega), y2, bn2_e]
      · refine Sim.same h (-2) ?_ ?_
        · unfold f_X11_force_b38
          rw [isDay_11, if_neg d, bn2_e, if_pos rfl]
        · unfold f_X12_force_b38
          rw [isDay_12, if_neg d, bn2_e, if_pos rfl]
    have key2 : ∀ c2 : Nat, (w = 4 → ∃ b, b < 30 ∧ a3 = nI b ∧ c2 = b + 1) → Sim (n + 1) (f_X11_force_b24 FL (nI w) a2 a3 c2 mc) (f_X12_force_b23 FL (nI w) a2 a3 mm) := by
      intro c2 k4
      by_cases w5 : w = 5
      · have e5 : nI w = 5 := by rw [w5]; rfl
        rcases inr (x := a3) 8 (by decide) with q | ⟨f, hf, rfl⟩
        · refine Sim.same h (-1) ?_ ?_
          · unfold f_X11_force_b24
            rw [if_pos e5, isFoundry_11, if_neg (by omega), bn2_e, if_pos rfl]
          · unfold f_X12_force_b23
            rw [if_pos e5, isFoundry_12, if_neg (by omega), bn2_e, if_pos rfl]
        · have i2 := nI_toInt (n := f) (by omega)
          have y := key c2 k4 (fun _ => ⟨f, hf, rfl⟩)
          unfold f_X11_force_b24 f_X12_force_b23
          rw [if_pos e5, isFoundry_11, if_pos (by omega), bn2_e, if_neg (by decide), if_pos e5, isFoundry_12, if_pos (by omega), bn2_e, if_neg (by decide)]
          exact y
      · have e5 : ¬ nI w = 5 := fun q => by rw [i32_eq, i1, t_5] at q; omega
        unfold f_X11_force_b24 f_X12_force_b23
        rw [if_neg e5, if_neg e5]
        exact key c2 k4 (fun q => absurd q w5)
    unfold f_X11_force f_X12_force
    by_cases w4 : w = 4
    · have e4 : nI w = 4 := by rw [w4]; rfl
      rcases bay_cases a3 FL mc mm with ⟨c1, c2, c3, -⟩ | ⟨b, hb, rfl, e1, e2, c1, c2, c3⟩
      · refine Sim.same h (-1) ?_ ?_
        · rw [c1, bn2_e, isWord_11, wd, bn2_e, if_neg (by decide), if_pos e4, if_pos rfl]
        · rw [in6, bn2_e, if_neg (by decide), if_pos e4, c2, bn2_e, if_pos rfl]
      · have y := key2 (b + 1) (fun _ => ⟨b, hb, rfl, rfl⟩)
        rw [c1, bn2_e, isWord_11, wd, bn2_e, if_neg (by decide), if_pos e4, if_neg (by omega), in6, bn2_e, if_neg (by decide), if_pos e4, c2, bn2_e, if_neg (by decide)]
        exact y
    · have e4 : ¬ nI w = 4 := fun q => by rw [i32_eq, i1, t_4] at q; omega
      rcases bay_cases a3 FL mc mm with ⟨c1, c2, c3, -⟩ | ⟨b, hb, rfl, e1, e2, c1, c2, c3⟩
      · have y := key2 0 (fun q => absurd q w4)
        rw [c1, bn2_e, isWord_11, wd, bn2_e, if_neg (by decide), if_neg e4, in6, bn2_e, if_neg (by decide), if_neg e4]
        exact y
      · have y := key2 (b + 1) (fun q => absurd q w4)
        rw [c1, bn2_e, isWord_11, wd, bn2_e, if_neg (by decide), if_neg e4, in6, bn2_e, if_neg (by decide), if_neg e4]
        exact y
theorem sim_why {n : Nat} {mc mm : Mem} (h : RR n mc mm) (a1 a2 : Int32) : Sim (n + 1) (f_X11_why FL a1 a2 mc) (f_X12_why FL a1 a2 mm) := by
  rcases inr (x := a1) 6 (by decide) with q | ⟨w, hw, rfl⟩
  · refine Sim.same h (-1) ?_ ?_
    · unfold f_X11_why; simp (disch := omega) only [Int32.lt_iff_toInt_lt, Int32.le_iff_toInt_le, t_n14, t_n13, t_n12, t_n11, t_n10, t_n5, t_n4, t_n3, t_n2, t_n1, t_0, t_1, t_2, t_3, t_4, t_5, t_6, t_7, t_8, t_9, t_10, t_11, t_12, t_13, t_14, t_15, t_16, t_17, t_18, t_19, t_20, t_21, t_22, t_23, t_24, t_25, t_26, t_27, t_28, t_29, t_30, t_31, t_32, t_33, t_34, t_37, t_38, t_39, t_40, t_41, t_44, t_48, t_50, t_51, t_52, t_57, t_59, t_60, t_61, t_62, t_66, t_98, t_99, t_100, t_101, t_102, t_103, t_104, t_105, t_106, t_107, t_108, t_109, t_110, t_111, t_112, t_113, t_114, t_115, t_116, t_121, t_124, t_150, t_200, t_399, t_999, t_2000, vq_i, if_pos, if_neg, bn2_e, bn1_e, lt1_e, asr_t, drf_e, asr_T, gI_sI, gL_sI, gR_sI, gI_sL, gL_sL, gR_sL, gI_sR, gL_sR, gR_sR, eq_self, i32_eq, or_true, true_or, and_true, true_and, or_false, false_or, and_false, false_and, not_true, not_false_iff, if_true, if_false, isWord_11]
    · unfold f_X12_why; simp (disch := omega) only [Int32.lt_iff_toInt_lt, Int32.le_iff_toInt_le, t_n14, t_n13, t_n12, t_n11, t_n10, t_n5, t_n4, t_n3, t_n2, t_n1, t_0, t_1, t_2, t_3, t_4, t_5, t_6, t_7, t_8, t_9, t_10, t_11, t_12, t_13, t_14, t_15, t_16, t_17, t_18, t_19, t_20, t_21, t_22, t_23, t_24, t_25, t_26, t_27, t_28, t_29, t_30, t_31, t_32, t_33, t_34, t_37, t_38, t_39, t_40, t_41, t_44, t_48, t_50, t_51, t_52, t_57, t_59, t_60, t_61, t_62, t_66, t_98, t_99, t_100, t_101, t_102, t_103, t_104, t_105, t_106, t_107, t_108, t_109, t_110, t_111, t_112, t_113, t_114, t_115, t_116, t_121, t_124, t_150, t_200, t_399, t_999, t_2000, vq_i, if_pos, if_neg, bn2_e, bn1_e, lt1_e, asr_t, drf_e, asr_T, gI_sI, gL_sI, gR_sI, gI_sL, gL_sL, gR_sL, gI_sR, gL_sR, gR_sR, eq_self, i32_eq, or_true, true_or, and_true, true_and, or_false, false_or, and_false, false_and, not_true, not_false_iff, if_true, if_false, in_12]
  · have i1 := nI_toInt (n := w) (by omega)
    have c1 := nI_clamp (n := w) (by omega)
    have wd : f_X11_isWord FL (nI w) mc = some (1, mc) := by rw [isWord_11, if_pos (by omega)]
    have in6 : f_X12_in FL (nI w) 0 5 mm = some (1, mm) := by rw [in_12, if_pos (by rw [t_0, t_5]; omega)]
    by_cases d : 0 ≤ a2.toInt ∧ a2.toInt ≤ 399
    · have d1 : f_X11_isDay FL a2 mc = some (1, mc) := by rw [isDay_11, if_pos d]
      have d2 : f_X12_isDay FL a2 mm = some (1, mm) := by rw [isDay_12, if_pos d]
      obtain ⟨r, mm', y1, y2, y3, y4, y5, y6⟩ := rul_both (d := a2) hw h
      rcases y6 with rfl | ⟨q, U, nn, cs, x, q1, rfl, q3, q4, q5, q6, q7, q8⟩
      · refine ⟨-5, mc, mm', ?_, ?_, y3.up⟩
        · unfold f_X11_why
          rw [wd, bn2_e, if_neg (by decide), d1, bn2_e, if_neg (by decide), y1, bn2_e, textOf_m1, bn2_e, if_pos rfl]
        · unfold f_X12_why
          rw [in6, bn2_e, if_neg (by decide), d2, bn2_e, if_neg (by decide), y2, bn2_e, if_neg (by decide)]
      · have iq := nI_toInt (n := q) (by omega)
        have ls := last_P FL_ge q4 hw
        rw [q5] at ls
        refine ⟨100 * nI q + nI x.1, mc, mm', ?_, ?_, y3.up⟩
        · unfold f_X11_why
          rw [wd, bn2_e, if_neg (by decide), d1, bn2_e, if_neg (by decide), y1, bn2_e, q3, bn2_e, if_neg (by omega), drf_e q1, ls, bn2_e]
        · unfold f_X12_why
          rw [in6, bn2_e, if_neg (by decide), d2, bn2_e, if_neg (by decide), y2, bn2_e, if_pos (show 0 ≤ nI q by rw [Int32.le_iff_toInt_le, iq, t_0]; omega), asr_t (by rw [vq_i, i1]; omega), c1, q6]
    · refine Sim.same h (-2) ?_ ?_
      · unfold f_X11_why
        rw [wd, bn2_e, if_neg (by decide), isDay_11, if_neg d, bn2_e, if_pos rfl]
      · unfold f_X12_why
        rw [in6, bn2_e, if_neg (by decide), isDay_12, if_neg d, bn2_e, if_pos rfl]
