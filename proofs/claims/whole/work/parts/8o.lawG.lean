/-! by which text the law of a day is, on both sides -/
theorem pW_lt {U : Nat → Int32} {n p : Nat} : ∀ (k w a v : Nat), pW U n p k w a = .inr v → v < w + k := by
  intro k
  induction k with
  | zero => intro w a v h; cases h
  | succ k ih =>
    intro w a v h
    replace h : (if mtw U n w p = (wdl w).length then .inr w else pW U n p k (w + 1) (max a (mtw U n w p)) : Nat ⊕ Nat) = .inr v := h
    by_cases c : mtw U n w p = (wdl w).length
    · rw [if_pos c] at h; cases h; omega
    · rw [if_neg c] at h
      have := ih _ _ _ h
      omega
theorem w6_clause {U : Nat → Int32} {n fl p : Nat} : match pClause U n fl p with
    | .inl _ => True
    | .inr r => r.2.1 < 6 := by
  unfold pClause
  cases hx : pWord U n p with
  | inl q => trivial
  | inr w =>
    have h6 : w < 6 := by have := pW_lt 6 0 0 w hx; omega
    show (match (if w < 4 then _ else _ : Nat ⊕ (Nat × Cl)) with
      | .inl _ => True
      | .inr r => r.2.1 < 6)
    by_cases c : w < 4
    · rw [if_pos c]
      by_cases d : (pnm U n (p + (wdl w).length)).1 = 0
      · rw [if_pos d]; trivial
      · rw [if_neg d]; exact h6
    · rw [if_neg c]
      cases hy : pE U n (pOne U n fl 8 0) fl false false (p + (wdl w).length) [] with
      | inl q => trivial
      | inr r => exact h6
theorem w6_T {U : Nat → Int32} {n fl : Nat} : ∀ (N p : Nat) (cs : List Cl), (∀ c, c ∈ cs → c.1 < 6) → ∀ ds, pT U n fl N p cs = .inr ds → ∀ c, c ∈ ds → c.1 < 6 := by
  intro N
  induction N with
  | zero => intro p cs h ds hd; cases hd
  | succ N ih =>
    intro p cs h ds hd
    have h1 := w6_clause (U := U) (n := n) (fl := fl) (p := p)
    replace hd : (match pClause U n fl p with
      | .inl q => .inl q
      | .inr r => if lk U n r.1 = 59 ∧ N ≠ 0 then pT U n fl N (r.1 + 1) (cs ++ [r.2]) else if r.1 < n then .inl r.1 else .inr (cs ++ [r.2]) : Nat ⊕ List Cl) = .inr ds := hd
    cases hx : pClause U n fl p with
    | inl q => rw [hx] at hd; cases hd
    | inr r =>
      rw [hx] at hd h1
      have h2 : ∀ c, c ∈ cs ++ [r.2] → c.1 < 6 := fun c hc => by
        rcases List.mem_append.mp hc with q | q
        · exact h c q
        · rw [List.mem_singleton] at q
          rw [q]; exact h1
      replace hd : (if lk U n r.1 = 59 ∧ N ≠ 0 then pT U n fl N (r.1 + 1) (cs ++ [r.2]) else if r.1 < n then .inl r.1 else .inr (cs ++ [r.2])) = .inr ds := hd
      by_cases g : lk U n r.1 = 59 ∧ N ≠ 0
      · rw [if_pos g] at hd
        exact ih _ _ h2 ds hd
      · rw [if_neg g] at hd
        by_cases g2 : r.1 < n
        · rw [if_pos g2] at hd; cases hd
        · rw [if_neg g2] at hd
          cases hd
          exact h2
theorem RR.gm {n : Nat} {mc mm : Mem} {ap cl dg wt pl op : Int32} {wa pi pa na ha : Nat → Int32} (h : RR n mc mm) : RR n mc (GM mm ap cl dg wt pl op wa pi pa na ha) := by
  obtain ⟨hT, hF, hL0, hL, hLc, hLg, hSb, hSs, hB, hP, hN, hG0, hG, hGd, hGw, hPw, hPa, hNa, hA, hTa, hR, hS, hW0, hW⟩ := h
  exact ⟨hT, hF, hL0, hL, hLc, hLg, hSb, hSs, hB, hP, hN, hG0, hG, hGd, hGw, hPw, hPa, hNa, hA, hTa, hR, hS, hW0, hW⟩
theorem RR.g30 {n : Nat} {mc mm : Mem} {a b : Int32} (h : RR n mc mm) : RR n mc (sI (sI mm 0 0 30 a) 0 0 31 b) := by
  obtain ⟨hT, hF, hL0, hL, hLc, hLg, hSb, hSs, hB, hP, hN, hG0, hG, hGd, hGw, hPw, hPa, hNa, hA, hTa, hR, hS, hW0, hW⟩ := h
  exact ⟨hT, hF, hL0, hL, hLc, hLg, hSb, hSs, hB, hP, hN, hG0, hG, hGd, hGw, hPw, hPa, hNa, hA, hTa, hR, hS, hW0, hW⟩
theorem RR.c18 {n k : Nat} {mc mm : Mem} {v : Int32} (h : RR n mc mm) : RR n (sI mc 18 0 k v) mm := by
  obtain ⟨hT, hF, hL0, hL, hLc, hLg, hSb, hSs, hB, hP, hN, hG0, hG, hGd, hGw, hPw, hPa, hNa, hA, hTa, hR, hS, hW0, hW⟩ := h
  exact ⟨hT, hF, hL0, hL, hLc, hLg, hSb, hSs, hB, hP, hN, hG0, hG, hGd, hGw, hPw, hPa, hNa, hA, hTa, hR, hS, hW0, hW⟩
theorem RR.m22 {n k : Nat} {mc mm : Mem} {v : Int32} (h : RR n mc mm) : RR n mc (sI mm 22 0 k v) := by
  obtain ⟨hT, hF, hL0, hL, hLc, hLg, hSb, hSs, hB, hP, hN, hG0, hG, hGd, hGw, hPw, hPa, hNa, hA, hTa, hR, hS, hW0, hW⟩ := h
  exact ⟨hT, hF, hL0, hL, hLc, hLg, hSb, hSs, hB, hP, hN, hG0, hG, hGd, hGw, hPw, hPa, hNa, hA, hTa, hR, hS, hW0, hW⟩
/-- what the reading of laws leaves alone: in the reference, in the class -/
def kM (mm mm' : Mem) : Prop := mm'.2 = mm.2 ∧ ∀ r x k, (r ≠ 0 ∨ k < 30 ∨ 39 < k) → (r < 22 ∨ 27 < r) → gI mm' r x k = gI mm r x k
def kC (mc mc' : Mem) : Prop := mc'.2 = mc.2 ∧ ∀ r x k, r ≠ 18 → gI mc' r x k = gI mc r x k
theorem kM.refl (m : Mem) : kM m m := ⟨rfl, fun _ _ _ _ _ => rfl⟩
theorem kC.refl (m : Mem) : kC m m := ⟨rfl, fun _ _ _ _ => rfl⟩
theorem kM.tr {a b c : Mem} (h : kM a b) (h2 : kM b c) : kM a c := ⟨h2.1.trans h.1, fun r x k p q => (h2.2 r x k p q).trans (h.2 r x k p q)⟩
theorem kC.tr {a b c : Mem} (h : kC a b) (h2 : kC b c) : kC a c := ⟨h2.1.trans h.1, fun r x k p => (h2.2 r x k p).trans (h.2 r x k p)⟩
theorem kC.s18 {m : Mem} {k : Nat} {v : Int32} : kC m (sI m 18 0 k v) := ⟨rfl, fun r x j h => by rw [gI_sI, if_neg (fun q => h q.1)]⟩
theorem kM.s22 {m : Mem} {k : Nat} {v : Int32} : kM m (sI m 22 0 k v) := ⟨rfl, fun r x j _ h => by rw [gI_sI, if_neg (fun q => by omega)]⟩
theorem kM.gm {mm : Mem} {a b ap cl dg wt pl op : Int32} {wa pi pa na ha : Nat → Int32} : kM mm (GM (sI (sI mm 0 0 30 a) 0 0 31 b) ap cl dg wt pl op wa pi pa na ha) := by
  refine ⟨rfl, fun r x k h1 h2 => ?_⟩
  show (if r = 0 ∧ x = 0 ∧ k = 32 then ap else if r = 0 ∧ x = 0 ∧ k = 33 then cl else if r = 0 ∧ x = 0 ∧ k = 34 then dg else if r = 0 ∧ x = 0 ∧ k = 37 then wt else if r = 0 ∧ x = 0 ∧ k = 38 then pl else if r = 0 ∧ x = 0 ∧ k = 39 then op else if r = 26 ∧ x = 0 then wa k else if r = 27 ∧ x = 0 then pi k else if r = 23 ∧ x = 0 then pa k else if r = 24 ∧ x = 0 then na k else if r = 25 ∧ x = 0 then ha k else gI (sI (sI mm 0 0 30 a) 0 0 31 b) r x k) = gI mm r x k
  rw [if_neg (by omega), if_neg (by omega), if_neg (by omega), if_neg (by omega), if_neg (by omega), if_neg (by omega), if_neg (by omega), if_neg (by omega), if_neg (by omega), if_neg (by omega), if_neg (by omega), gI_sI, if_neg (by omega), gI_sI, if_neg (by omega)]
theorem ltx.tr {mc mm mm' : Mem} {k : Nat} {U : Nat → Int32} {n : Nat} {cs : List Cl} (h : ltx mc mm k U n cs) (hk : kM mm mm') : ltx mc mm' k U n cs := by
  obtain ⟨l1, l2, l3, l4, l5, l6⟩ := h
  exact ⟨l1, l2, l3, by rw [hk.2 _ _ _ (Or.inl (by decide)) (Or.inl (by decide))]; exact l4, fun j hj => by rw [hk.2 _ _ _ (Or.inl (by decide)) (Or.inl (by decide))]; exact l5 j hj, l6⟩
theorem FL_ge : 1000 ≤ FL := Nat.le_refl _
theorem ltx.w6 {mc mm : Mem} {k : Nat} {U : Nat → Int32} {n : Nat} {cs : List Cl} (h : ltx mc mm k U n cs) : ∀ c, c ∈ cs → c.1 < 6 := w6_T 8 0 [] (fun c hc => by cases hc) cs h.2.2.1
theorem ltx.ok {mc mm : Mem} {k : Nat} {U : Nat → Int32} {n : Nat} {cs : List Cl} (h : ltx mc mm k U n cs) : ∀ c, c ∈ cs → okC c := ok_T 8 0 [] (fun c hc => by cases hc) cs h.2.2.1
theorem RR.txt {n : Nat} {mc mm : Mem} (h : RR n mc mm) : ∃ z, z ≤ 10 ∧ gI mc 6 0 0 = nI z ∧ gI mm 0 0 21 = nI z ∧ (∀ k, k < z → gI mc 19 k 0 = gI mm 19 0 k ∧ rg (gI mm 19 0 k) 0 399) ∧ ∀ k, k < z → ∃ U n cs, ltx mc mm k U n cs := by
  obtain ⟨hT, hF, hL0, hL, hLc, hLg, hSb, hSs, hB, hP, hN, hG0, hG, hGd, hGw, hPw, hPa, hNa, hA, hTa, hR, hS, ⟨z, z1, z2, z3, z4⟩, ⟨y, y1, y2, y3⟩⟩ := h
  have e : y = z := by
    rw [z3] at y2
    exact ((nI_eq (by omega) (by omega)).mp y2).symm
  subst e
  exact ⟨y, y1, z2, z3, z4, y3⟩
theorem last_P {fl k w : Nat} (hfl : 1000 ≤ fl) {mc mm : Mem} {U : Nat → Int32} {n : Nat} {cs : List Cl} (h : ltx mc mm k U n cs) (hw : w < 6) : f_X9_lastClauseOf fl k (nI w) mc = some (match lsa w 0 cs with | none => -1 | some r => nI r.1, mc) := by
  have h0 := h
  obtain ⟨l1, l2, l3, l4, l5, l6, l7, l8, l9, l10, l11⟩ := h
  have y := last_l (fl := fl) (b := k) (m := mc) hw cs fl 0 (-1) (by omega) (by omega) (by rw [Nat.zero_add]; exact l8) (fun i hi => by rw [Nat.zero_add]; exact (l10 i hi).1) h0.w6
  unfold f_X9_lastClauseOf
  rw [show f_X9_lastClauseOf_l4 fl k (nI w) fl (-1) 0 mc = _ from y, bn2_e]
  cases lsa w 0 cs <;> rfl
theorem goes_R {n k : Nat} {mc mm : Mem} (h : RR n mc mm) {U : Nat → Int32} {m : Nat} {cs : List Cl} (hk : k < 10) (hl : ltx mc mm k U m cs) : ∃ mm', f_X12_goes FL (nI k) mm = some (1, mm') ∧ RR n mc mm' ∧ kM mm mm' ∧ gI mm' 22 0 = gI mm 22 0 ∧ hdM (gI mm 22 0) cs (gI mm' 23 0) (gI mm' 24 0) (gI mm' 25 0) := by
  obtain ⟨l1, l2, l3, l4, l5, -⟩ := hl
  have y := goes_M (fl := FL) FL_ge (M := mm) (k := k) (by omega) l1 l4 l5 l2
  rw [l3] at y
  obtain ⟨ap, cl, dg, wt, pl, op, wa, pi, pa, na, ha, y1, y2⟩ := y
  exact ⟨_, y1, h.g30.gm, kM.gm, rfl, y2⟩
/-- a text that has a clause for the word -/
def hasc (mc mm : Mem) (w q : Nat) : Prop := ∃ U n cs x, ltx mc mm q U n cs ∧ lsa w 0 cs = some x
theorem rul_l {n w z : Nat} {d : Int32} {mc mm0 : Mem} (hw : w < 6) (hz : z ≤ 10) (hzc : gI mc 6 0 0 = nI z) (hzm : gI mm0 0 0 21 = nI z) (hfr : ∀ k, k < z → gI mc 19 k 0 = gI mm0 19 0 k ∧ rg (gI mm0 19 0 k) 0 399) (htx : ∀ k, k < z → ∃ U n cs, ltx mc mm0 k U n cs) : ∀ (N k : Nat) (best u4 : Int32) (mm : Mem), RR n mc mm → kM mm0 mm → gI mm 22 0 = gI mm0 22 0 → k ≤ z → 11 ≤ N + k → ((best = -1 ∧ u4 = 0) ∨ ∃ q, q < z ∧ best = nI q ∧ u4 = gI mc 19 q 0 ∧ hasc mc mm0 w q) →
    ∃ r mm', f_X3_textFor_l8 FL (nI w) d N best u4 (nI k) mc = some (r, mc) ∧ f_X12_ruler_l5 FL (nI w) d N best (nI k) mm = some (r, mm') ∧ RR n mc mm' ∧ kM mm0 mm' ∧ gI mm' 22 0 = gI mm0 22 0 ∧ (r = -1 ∨ ∃ q, q < z ∧ r = nI q ∧ hasc mc mm0 w q) := by
  have ez := nI_toInt (n := z) (by omega)
  have ew := nI_toInt (n := w) (by omega)
  have cw := nI_clamp (n := w) (by omega)
  intro N
  induction N with
  | zero => intro k best u4 mm a1 a2 a3 a4 a5; omega
  | succ N ih =>
    intro k best u4 mm a1 a2 a3 a4 a5 a6
    have e1 := nI_toInt (n := k) (by omega)
    have e2 := nI_clamp (n := k) (by omega)
    have hzm' : gI mm 0 0 21 = nI z := by rw [a2.2 _ _ _ (Or.inr (Or.inl (by decide))) (Or.inl (by decide))]; exact hzm
    show ∃ r mm', f_X3_textFor_l8_b (f_X3_textFor_l8 FL (nI w) d N) FL (nI w) d best u4 (nI k) mc = some (r, mc) ∧ f_X12_ruler_l5_b (f_X12_ruler_l5 FL (nI w) d N) FL (nI w) d best (nI k) mm = some (r, mm') ∧ _
    unfold f_X3_textFor_l8_b f_X12_ruler_l5_b
    rw [hzc, hzm']
    by_cases c : k = z
    · subst c
      refine ⟨best, mm, ?_, ?_, a1, a2, a3, ?_⟩
      · rw [if_pos (Int32.le_iff_toInt_le.mpr (Int.le_refl _))]
      · rw [if_pos (Int32.le_iff_toInt_le.mpr (Int.le_refl _))]
      · rcases a6 with ⟨q, -⟩ | ⟨q, q1, q2, -, q3⟩
        · exact Or.inl q
        · exact Or.inr ⟨q, q1, q2, q3⟩
    · obtain ⟨f1, f2⟩ := hfr k (by omega)
      obtain ⟨U, nn, cs, hl⟩ := htx k (by omega)
      have f3 : gI mm 19 0 k = gI mm0 19 0 k := a2.2 _ _ _ (Or.inl (by decide)) (Or.inl (by decide))
      obtain ⟨mm1, g1, g2, g3, g4, g5⟩ := goes_R a1 (show k < 10 by omega) (hl.tr a2)
      have ls := last_P FL_ge hl hw
      have g5w := g5 w hw
      have hzk : ¬ nI z ≤ nI k := by rw [Int32.le_iff_toInt_le, e1, ez]; omega
      have h10 : ¬ 10 ≤ nI k := fun q => by rw [Int32.le_iff_toInt_le, e1] at q; have q : (10 : Int) ≤ k := q; omega
      have av10 : vq (nI k) 10 := by rw [vq_i, e1]; omega
      rw [if_neg hzk, if_neg h10, asr_t av10, if_neg hzk, asr_t av10]
      simp only [e2, f1, f3]
      have k3 : kM mm0 mm1 := a2.tr g3
      have s3 : gI mm1 22 0 = gI mm0 22 0 := g4.trans a3
      have f4 : gI mm1 19 0 k = gI mm0 19 0 k := k3.2 _ _ _ (Or.inl (by decide)) (Or.inl (by decide))
      have keep0 := ih (k + 1) best u4 mm a1 a2 a3 (by omega) (by omega) a6
      have keep1 := ih (k + 1) best u4 mm1 g2 k3 s3 (by omega) (by omega) a6
      rw [← nI_1] at keep0 keep1
      by_cases d1 : d < gI mm0 19 0 k
      · rw [if_pos d1, if_pos d1, lt1_e, lt1_e]
        exact keep0
      · rw [if_neg d1, if_neg d1, g1, bn2_e, if_neg (show ¬ (1 : Int32) = 0 by decide), asr_t (by rw [vq_i, ew]; omega)]
        simp only [cw, f4]
        by_cases d2 : gI mm0 19 0 k < u4
        · rw [if_pos d2, lt1_e]
          rcases a6 with ⟨q, q2⟩ | ⟨q, q1, q2, q3, q4⟩
          · rw [q2, Int32.lt_iff_toInt_lt, t_0] at d2
            have := rg_i f2
            omega
          · have iq := nI_toInt (n := q) (by omega)
            have cq := nI_clamp (n := q) (by omega)
            have f5 : gI mm1 19 0 q = gI mm0 19 0 q := k3.2 _ _ _ (Or.inl (by decide)) (Or.inl (by decide))
            have hd : gI mm0 19 0 k < gI mm0 19 0 q := by rw [← (hfr q q1).1, ← q3]; exact d2
            by_cases d3 : gI mm1 23 0 w < 0
            · rw [if_pos d3, lt1_e]
              exact keep1
            · rw [if_neg d3, q2, if_neg (show ¬ nI q < 0 by rw [Int32.lt_iff_toInt_lt, iq, t_0]; omega), asr_t (by rw [vq_i, e1]; omega), asr_t (by rw [vq_i, iq]; omega)]
              simp only [cq, f5]
              rw [if_pos hd, lt1_e, ← q2]
              exact keep1
        · rw [if_neg d2, ls, bn2_e]
          cases hx : lsa w 0 cs with
          | none =>
            rw [hx] at g5w
            rw [if_pos (by decide), lt1_e, g5w, if_pos (by decide), lt1_e]
            exact keep1
          | some x =>
            rw [hx] at g5w
            obtain ⟨p1, p2, p3⟩ := g5w
            obtain ⟨-, A, B, hA, hj⟩ := lsa_at cs 0 x.1 x.2 hx
            have hlen : x.1 < 8 := by
              have := hl.2.2.2.2.2.1
              rw [hA, List.length_append] at this
              have h2 : A.length + (B.length + 1) ≤ 8 := this
              omega
            have ix := nI_toInt (n := x.1) (by omega)
            have take1 := ih (k + 1) (nI k) (gI mc 19 k 0) mm1 g2 k3 s3 (by omega) (by omega) (Or.inr ⟨k, by omega, rfl, rfl, U, nn, cs, x, hl, hx⟩)
            rw [← nI_1, f1] at take1
            rw [if_neg (show ¬ nI x.1 < 0 by rw [Int32.lt_iff_toInt_lt, ix, t_0]; omega), lt1_e, f1, lt1_e, p1, if_neg (show ¬ nI x.1 < 0 by rw [Int32.lt_iff_toInt_lt, ix, t_0]; omega)]
            rcases a6 with ⟨q, q2⟩ | ⟨q, q1, q2, q3, q4⟩
            · rw [q]
              rw [if_pos (show (-1 : Int32) < 0 by decide), lt1_e]
              exact take1
            · have iq := nI_toInt (n := q) (by omega)
              have cq := nI_clamp (n := q) (by omega)
              have f5 : gI mm1 19 0 q = gI mm0 19 0 q := k3.2 _ _ _ (Or.inl (by decide)) (Or.inl (by decide))
              have hd : ¬ gI mm0 19 0 k < gI mm0 19 0 q := by rw [← (hfr q q1).1, ← q3]; exact d2
              rw [q2, if_neg (show ¬ nI q < 0 by rw [Int32.lt_iff_toInt_lt, iq, t_0]; omega), asr_t (by rw [vq_i, e1]; omega), asr_t (by rw [vq_i, iq]; omega)]
              simp only [cq, f5]
              rw [if_neg hd, lt1_e]
              exact take1
theorem rul_both {n w : Nat} {d : Int32} {mc mm : Mem} (hw : w < 6) (h : RR n mc mm) : ∃ r mm', f_X3_textFor FL (nI w) d mc = some (r, mc) ∧ f_X12_ruler FL (nI w) d mm = some (r, mm') ∧ RR n mc mm' ∧ kM mm mm' ∧ gI mm' 22 0 = gI mm 22 0 ∧
    (r = -1 ∨ ∃ q U nn cs x, q < 10 ∧ r = nI q ∧ f_X3_textOf FL r mc = some (q + 1, mc) ∧ ltx mc mm q U nn cs ∧ lsa w 0 cs = some x ∧ gI mm' 23 0 w = nI x.1 ∧ (w < 4 → gI mm' 24 0 w = nI x.2.2.1) ∧ (4 ≤ w → ∃ v, gI mm' 25 0 w = bI v ∧ says (gI mm 22 0) 11 x.2.2.2 v)) := by
  obtain ⟨z, z1, z2, z3, z4, z5⟩ := h.txt
  obtain ⟨r, mm1, y1, y2, y3, y4, y5, y6⟩ := rul_l (n := n) (d := d) hw z1 z2 z3 z4 z5 FL 0 (-1) 0 mm h (kM.refl _) rfl (by omega) (by have := FL_ge; omega) (Or.inl ⟨rfl, rfl⟩)
  rw [show nI 0 = 0 from rfl] at y1 y2
  have x1 : f_X3_textFor FL (nI w) d mc = some (r, mc) := by unfold f_X3_textFor; rw [y1, bn2_e]
  rcases y6 with rfl | ⟨q, q1, rfl, U, nn, cs, x, q3, q4⟩
  · refine ⟨-1, mm1, x1, ?_, y3, y4, y5, Or.inl rfl⟩
    unfold f_X12_ruler
    rw [y2, bn2_e, if_pos (by decide)]
  · have iq := nI_toInt (n := q) (by omega)
    have cq := nI_clamp (n := q) (by omega)
    have iz := nI_toInt (n := z) (by omega)
    obtain ⟨mm2, g1, g2, g3, g4, g5⟩ := goes_R y3 (show q < 10 by omega) (q3.tr y4)
    have g5w := g5 w hw
    rw [q4] at g5w
    obtain ⟨p1, p2, p3⟩ := g5w
    rw [y5] at p3
    refine ⟨nI q, mm2, x1, ?_, g2, y4.tr g3, g4.trans y5, Or.inr ⟨q, U, nn, cs, x, by omega, rfl, ?_, q3, q4, p1, p2, p3⟩⟩
    · unfold f_X12_ruler
      rw [y2, bn2_e, if_neg (show ¬ nI q < 0 by rw [Int32.lt_iff_toInt_lt, iq, t_0]; omega), g1, bn2_e, if_neg (by decide)]
    · unfold f_X3_textOf
      rw [z2, if_neg (show ¬ nI q < 0 by rw [Int32.lt_iff_toInt_lt, iq, t_0]; omega), if_neg (show ¬ nI z ≤ nI q by rw [Int32.le_iff_toInt_le, iq, iz]; omega), if_neg (show ¬ 10 ≤ nI q from fun q5 => by rw [Int32.le_iff_toInt_le, iq] at q5; have q5 : (10 : Int) ≤ q := q5; omega), asr_t (by rw [vq_i, iq]; omega), cq]
theorem textOf_m1 {mc : Mem} : f_X3_textOf FL (-1) mc = some (0, mc) := by
  unfold f_X3_textOf
  rw [if_pos (by decide)]
theorem value_P {fl q w : Nat} {mc mm : Mem} {U : Nat → Int32} {nn : Nat} {cs : List Cl} {x : Nat × Cl} (hl : ltx mc mm q U nn cs) (hx : lsa w 0 cs = some x) : f_X9_valueOf fl q (nI x.1) mc = some (gI mc 21 q x.1, mc) ∧ x.2.1 = w ∧ ∃ A B, cs = A ++ x.2 :: B ∧ x.1 = A.length ∧ gI mc 21 q x.1 = if x.2.1 < 4 then nI x.2.2.1 else nI (flt A).length := by
  obtain ⟨c1, A, B, hA, hj⟩ := lsa_at cs 0 x.1 x.2 hx
  rw [Nat.zero_add] at hj
  obtain ⟨l1, l2, l3, l4, l5, l6, l7, l8, l9, l10, l11⟩ := hl
  have hlen : A.length + (B.length + 1) = cs.length := by rw [hA, List.length_append]; rfl
  have ix := nI_toInt (n := x.1) (by omega)
  have cx := nI_clamp (n := x.1) (by omega)
  refine ⟨?_, c1, A, B, hA, hj, ?_⟩
  · unfold f_X9_valueOf
    rw [if_neg (show ¬ nI x.1 < 0 by rw [Int32.lt_iff_toInt_lt, ix, t_0]; omega), if_neg (show ¬ 8 ≤ nI x.1 from fun q5 => by rw [Int32.le_iff_toInt_le, ix] at q5; have q5 : (8 : Int) ≤ x.1 := q5; omega), asr_t (by rw [vq_i, ix]; omega), cx]
  · rw [(l10 x.1 (by omega)).2, hA, hj, vlf_at, Nat.zero_add]
theorem number_both {n w : Nat} {d : Int32} {mc mm : Mem} (hw : w < 4) (h : RR n mc mm) : ∃ r mm', f_X3_numberFor FL (nI w) d mc = some (r, mc) ∧ f_X12_number FL (nI w) d mm = some (r, mm') ∧ RR n mc mm' ∧ kM mm mm' := by
  obtain ⟨r, mm', y1, y2, y3, y4, y5, y6⟩ := rul_both (d := d) (show w < 6 by omega) h
  have iw := nI_toInt (n := w) (by omega)
  have cw := nI_clamp (n := w) (by omega)
  rcases y6 with rfl | ⟨q, U, nn, cs, x, q1, rfl, q3, q4, q5, q6, q7, q8⟩
  · refine ⟨tWo w, mm', ?_, ?_, y3, y4⟩
    · unfold f_X3_numberFor
      rw [y1, bn2_e, textOf_m1, bn2_e, if_pos rfl, if_neg (show ¬ nI w < 0 by rw [Int32.lt_iff_toInt_lt, iw, t_0]; omega), if_neg (show ¬ 4 ≤ nI w by rw [Int32.le_iff_toInt_le, iw, t_4]; omega), asr_t (by rw [vq_i, iw]; omega), cw]
    · unfold f_X12_number
      rw [y2, bn2_e, if_pos (by decide)]
      rcases (show w = 0 ∨ w = 1 ∨ w = 2 ∨ w = 3 by omega) with rfl | rfl | rfl | rfl <;> rfl
  · have iq := nI_toInt (n := q) (by omega)
    obtain ⟨v1, v2, A, B, v3, v4, v5⟩ := value_P (fl := FL) q4 q5
    have ls := last_P FL_ge q4 (show w < 6 by omega)
    rw [q5] at ls
    rw [if_pos (by omega)] at v5
    refine ⟨nI x.2.2.1, mm', ?_, ?_, y3, y4⟩
    · unfold f_X3_numberFor
      rw [y1, bn2_e, q3, bn2_e, if_neg (by omega), drf_e q1, ls, bn2_e]
      show (bn2 (f_X9_valueOf FL q (nI x.1) mc) _) = _
      rw [v1, bn2_e, v5]
    · unfold f_X12_number
      rw [y2, bn2_e, if_neg (show ¬ nI q < 0 by rw [Int32.lt_iff_toInt_lt, iq, t_0]; omega), asr_t (by rw [vq_i, iw]; omega), cw, q7 hw]
