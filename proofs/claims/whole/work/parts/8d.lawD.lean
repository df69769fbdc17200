/-! the reference reads: its memory while it reads -/
def GM (m : Mem) (ap cl dg wt pl op : Int32) (wa pi pa na ha : Nat → Int32) : Mem := (fun r x k => if r = 0 ∧ x = 0 ∧ k = 32 then ap else if r = 0 ∧ x = 0 ∧ k = 33 then cl else if r = 0 ∧ x = 0 ∧ k = 34 then dg else if r = 0 ∧ x = 0 ∧ k = 37 then wt else if r = 0 ∧ x = 0 ∧ k = 38 then pl else if r = 0 ∧ x = 0 ∧ k = 39 then op else if r = 26 ∧ x = 0 then wa k else if r = 27 ∧ x = 0 then pi k else if r = 23 ∧ x = 0 then pa k else if r = 24 ∧ x = 0 then na k else if r = 25 ∧ x = 0 then ha k else m.1 r x k, m.2.1, m.2.2)
section GMS
variable {m : Mem} {ap cl dg wt pl op : Int32} {wa pi pa na ha : Nat → Int32}
theorem gI_Gat : gI (GM m ap cl dg wt pl op wa pi pa na ha) 0 0 32 = ap := rfl
theorem gI_Gcl : gI (GM m ap cl dg wt pl op wa pi pa na ha) 0 0 33 = cl := rfl
theorem gI_Gdg : gI (GM m ap cl dg wt pl op wa pi pa na ha) 0 0 34 = dg := rfl
theorem gI_Gwt : gI (GM m ap cl dg wt pl op wa pi pa na ha) 0 0 37 = wt := rfl
theorem gI_Gpl : gI (GM m ap cl dg wt pl op wa pi pa na ha) 0 0 38 = pl := rfl
theorem gI_Gop : gI (GM m ap cl dg wt pl op wa pi pa na ha) 0 0 39 = op := rfl
theorem gI_G30 : gI (GM m ap cl dg wt pl op wa pi pa na ha) 0 0 30 = gI m 0 0 30 := rfl
theorem gI_G31 : gI (GM m ap cl dg wt pl op wa pi pa na ha) 0 0 31 = gI m 0 0 31 := rfl
theorem gI_G20 {k : Nat} : gI (GM m ap cl dg wt pl op wa pi pa na ha) 20 0 k = gI m 20 0 k := rfl
theorem gI_G22 {k : Nat} : gI (GM m ap cl dg wt pl op wa pi pa na ha) 22 0 k = gI m 22 0 k := rfl
theorem gI_Gwa {k : Nat} : gI (GM m ap cl dg wt pl op wa pi pa na ha) 26 0 k = wa k := rfl
theorem gI_Gpi {k : Nat} : gI (GM m ap cl dg wt pl op wa pi pa na ha) 27 0 k = pi k := rfl
theorem gI_Gpa {k : Nat} : gI (GM m ap cl dg wt pl op wa pi pa na ha) 23 0 k = pa k := rfl
theorem gI_Gna {k : Nat} : gI (GM m ap cl dg wt pl op wa pi pa na ha) 24 0 k = na k := rfl
theorem gI_Gha {k : Nat} : gI (GM m ap cl dg wt pl op wa pi pa na ha) 25 0 k = ha k := rfl
theorem sI_Gat {v : Int32} : sI (GM m ap cl dg wt pl op wa pi pa na ha) 0 0 32 v = GM m v cl dg wt pl op wa pi pa na ha := by
  unfold sI GM
  refine Prod.ext ?_ rfl
  funext r x k
  by_cases h : r = 0 ∧ x = 0 ∧ k = 32 <;> simp [h]
theorem sI_Gcl {v : Int32} : sI (GM m ap cl dg wt pl op wa pi pa na ha) 0 0 33 v = GM m ap v dg wt pl op wa pi pa na ha := by
  unfold sI GM
  refine Prod.ext ?_ rfl
  funext r x k
  by_cases h : r = 0 ∧ x = 0 ∧ k = 33
  · obtain ⟨rfl, rfl, rfl⟩ := h; simp
  · simp [h]
theorem sI_Gdg {v : Int32} : sI (GM m ap cl dg wt pl op wa pi pa na ha) 0 0 34 v = GM m ap cl v wt pl op wa pi pa na ha := by
  unfold sI GM
  refine Prod.ext ?_ rfl
  funext r x k
  by_cases h : r = 0 ∧ x = 0 ∧ k = 34
  · obtain ⟨rfl, rfl, rfl⟩ := h; simp
  · simp [h]
theorem sI_Gwt {v : Int32} : sI (GM m ap cl dg wt pl op wa pi pa na ha) 0 0 37 v = GM m ap cl dg v pl op wa pi pa na ha := by
  unfold sI GM
  refine Prod.ext ?_ rfl
  funext r x k
  by_cases h : r = 0 ∧ x = 0 ∧ k = 37
  · obtain ⟨rfl, rfl, rfl⟩ := h; simp
  · simp [h]
theorem sI_Gpl {v : Int32} : sI (GM m ap cl dg wt pl op wa pi pa na ha) 0 0 38 v = GM m ap cl dg wt v op wa pi pa na ha := by
  unfold sI GM
  refine Prod.ext ?_ rfl
  funext r x k
  by_cases h : r = 0 ∧ x = 0 ∧ k = 38
  · obtain ⟨rfl, rfl, rfl⟩ := h; simp
  · simp [h]
theorem sI_Gop {v : Int32} : sI (GM m ap cl dg wt pl op wa pi pa na ha) 0 0 39 v = GM m ap cl dg wt pl v wa pi pa na ha := by
  unfold sI GM
  refine Prod.ext ?_ rfl
  funext r x k
  by_cases h : r = 0 ∧ x = 0 ∧ k = 39
  · obtain ⟨rfl, rfl, rfl⟩ := h; simp
  · simp [h]
theorem sI_Gwa {j : Nat} {v : Int32} : sI (GM m ap cl dg wt pl op wa pi pa na ha) 26 0 j v = GM m ap cl dg wt pl op (uw wa j v) pi pa na ha := by
  unfold sI GM uw
  refine Prod.ext ?_ rfl
  funext r x k
  by_cases h : r = 26 ∧ x = 0
  · obtain ⟨rfl, rfl⟩ := h; simp
  · simp only [← and_assoc, h, false_and, if_false]
theorem sI_Gpi {j : Nat} {v : Int32} : sI (GM m ap cl dg wt pl op wa pi pa na ha) 27 0 j v = GM m ap cl dg wt pl op wa (uw pi j v) pa na ha := by
  unfold sI GM uw
  refine Prod.ext ?_ rfl
  funext r x k
  by_cases h : r = 27 ∧ x = 0
  · obtain ⟨rfl, rfl⟩ := h; simp
  · simp only [← and_assoc, h, false_and, if_false]
theorem sI_Gpa {j : Nat} {v : Int32} : sI (GM m ap cl dg wt pl op wa pi pa na ha) 23 0 j v = GM m ap cl dg wt pl op wa pi (uw pa j v) na ha := by
  unfold sI GM uw
  refine Prod.ext ?_ rfl
  funext r x k
  by_cases h : r = 23 ∧ x = 0
  · obtain ⟨rfl, rfl⟩ := h; simp
  · simp only [← and_assoc, h, false_and, if_false]
theorem sI_Gna {j : Nat} {v : Int32} : sI (GM m ap cl dg wt pl op wa pi pa na ha) 24 0 j v = GM m ap cl dg wt pl op wa pi pa (uw na j v) ha := by
  unfold sI GM uw
  refine Prod.ext ?_ rfl
  funext r x k
  by_cases h : r = 24 ∧ x = 0
  · obtain ⟨rfl, rfl⟩ := h; simp
  · simp only [← and_assoc, h, false_and, if_false]
theorem sI_Gha {j : Nat} {v : Int32} : sI (GM m ap cl dg wt pl op wa pi pa na ha) 25 0 j v = GM m ap cl dg wt pl op wa pi pa na (uw ha j v) := by
  unfold sI GM uw
  refine Prod.ext ?_ rfl
  funext r x k
  by_cases h : r = 25 ∧ x = 0
  · obtain ⟨rfl, rfl⟩ := h; simp
  · simp only [← and_assoc, h, false_and, if_false]
end GMS
/-- the text, as the reference has it: bytes with a sign, from bs on -/
def rdt (m : Mem) (U : Nat → Int32) (n bs : Nat) : Prop := n ≤ 100 ∧ bs ≤ 1000 ∧ gI m 0 0 30 = nI bs ∧ gI m 0 0 31 = nI n ∧ (∀ j, j < n → gI m 20 0 (bs + j) = ji2b (U j)) ∧ byt U n
theorem i2b_rg {x : Int32} (h : -1 ≤ x.toInt ∧ x.toInt ≤ 255) : ((ji2b x).toInt = x.toInt ∧ x.toInt < 128) ∨ ((ji2b x).toInt = x.toInt - 256 ∧ 128 ≤ x.toInt ∧ x.toInt ≤ 255) := by
  have e : (ji2b x).toInt = x.toInt.bmod (2 ^ 8) := by
    unfold ji2b
    rw [Int8.toInt_toInt32, Int32.toInt_toInt8]
  rw [e]
  unfold Int.bmod
  have : ((2 ^ 8 : Nat) : Int) = 256 := rfl
  simp only [this]
  split <;> omega
theorem ji_eq {U : Nat → Int32} {n p : Nat} (hU : byt U n) {c : Int32} (hc : 0 ≤ c.toInt ∧ c.toInt ≤ 127) : ji2b (ck U n p) = c ↔ lk U n p = c.toInt := by
  have h := i2b_rg (x := ck U n p) (lk_rg hU p)
  have e : lk U n p = (ck U n p).toInt := rfl
  constructor
  · intro q
    rw [q] at h
    omega
  · intro q
    apply i32_eq.mpr
    omega
section RM
variable {fl n bs p : Nat} {m : Mem} {cl dg wt pl op : Int32} {wa pi pa na ha U : Nat → Int32}
theorem next_M (h : rdt m U n bs) (hp : p ≤ 1000) : f_X12_next fl (GM m (nI p) cl dg wt pl op wa pi pa na ha) = some (ji2b (ck U n p), GM m (nI p) cl dg wt pl op wa pi pa na ha) := by
  obtain ⟨h1, h2, h3, h4, h5, h6⟩ := h
  have i1 := nI_toInt (n := p) (by omega)
  have i2 := nI_toInt (n := n) (by omega)
  have i3 := nI_toInt (n := bs + p) (by omega)
  have i4 := nI_clamp (n := bs + p) (by omega)
  unfold f_X12_next
  by_cases e : p < n
  · rw [ck_lt e, ← h5 p e]
    simp (disch := omega) only [Int32.lt_iff_toInt_lt, Int32.le_iff_toInt_le, t_n14, t_n13, t_n12, t_n11, t_n10, t_n5, t_n4, t_n3, t_n2, t_n1, t_0, t_1, t_2, t_3, t_4, t_5, t_6, t_7, t_8, t_9, t_10, t_11, t_12, t_13, t_14, t_15, t_16, t_17, t_18, t_19, t_20, t_21, t_22, t_23, t_24, t_25, t_26, t_27, t_28, t_29, t_30, t_31, t_32, t_33, t_34, t_37, t_38, t_39, t_40, t_41, t_44, t_48, t_50, t_51, t_52, t_57, t_59, t_60, t_61, t_62, t_66, t_98, t_99, t_100, t_101, t_102, t_103, t_104, t_105, t_106, t_107, t_108, t_109, t_110, t_111, t_112, t_113, t_114, t_115, t_116, t_121, t_124, t_150, t_200, t_399, t_999, t_2000, vq_i, if_pos, if_neg, bn2_e, bn1_e, lt1_e, asr_t, drf_e, asr_T, gI_sI, gL_sI, gR_sI, gI_sL, gL_sL, gR_sL, gI_sR, gL_sR, gR_sR, eq_self, i32_eq, or_true, true_or, and_true, true_and, or_false, false_or, and_false, false_and, not_true, not_false_iff, if_true, if_false, gI_Gcl, gI_Gdg, gI_Gat, gI_Gwt, gI_Gpl, gI_Gop, gI_Gwa, gI_Gpi, gI_Gpa, gI_Gna, gI_Gha, gI_G30, gI_G31, gI_G20, gI_G22, sI_Gcl, sI_Gdg, sI_Gat, sI_Gwt, sI_Gpl, sI_Gop, sI_Gwa, sI_Gpi, sI_Gpa, sI_Gna, sI_Gha, h3, h4, i1, i2, i3, i4, nI_add]
  · rw [show ck U n p = -1 from if_neg e]
    simp (disch := omega) only [Int32.lt_iff_toInt_lt, Int32.le_iff_toInt_le, t_n14, t_n13, t_n12, t_n11, t_n10, t_n5, t_n4, t_n3, t_n2, t_n1, t_0, t_1, t_2, t_3, t_4, t_5, t_6, t_7, t_8, t_9, t_10, t_11, t_12, t_13, t_14, t_15, t_16, t_17, t_18, t_19, t_20, t_21, t_22, t_23, t_24, t_25, t_26, t_27, t_28, t_29, t_30, t_31, t_32, t_33, t_34, t_37, t_38, t_39, t_40, t_41, t_44, t_48, t_50, t_51, t_52, t_57, t_59, t_60, t_61, t_62, t_66, t_98, t_99, t_100, t_101, t_102, t_103, t_104, t_105, t_106, t_107, t_108, t_109, t_110, t_111, t_112, t_113, t_114, t_115, t_116, t_121, t_124, t_150, t_200, t_399, t_999, t_2000, vq_i, if_pos, if_neg, bn2_e, bn1_e, lt1_e, asr_t, drf_e, asr_T, gI_sI, gL_sI, gR_sI, gI_sL, gL_sL, gR_sL, gI_sR, gL_sR, gR_sR, eq_self, i32_eq, or_true, true_or, and_true, true_and, or_false, false_or, and_false, false_and, not_true, not_false_iff, if_true, if_false, gI_Gcl, gI_Gdg, gI_Gat, gI_Gwt, gI_Gpl, gI_Gop, gI_Gwa, gI_Gpi, gI_Gpa, gI_Gna, gI_Gha, gI_G30, gI_G31, gI_G20, gI_G22, sI_Gcl, sI_Gdg, sI_Gat, sI_Gwt, sI_Gpl, sI_Gop, sI_Gwa, sI_Gpi, sI_Gpa, sI_Gna, sI_Gha, h3, h4, i1, i2]
    rfl
theorem dig_M (h : rdt m U n bs) (hp : p ≤ 1000) : f_X12_isDigit fl (GM m (nI p) cl dg wt pl op wa pi pa na ha) = some (if 48 ≤ lk U n p ∧ lk U n p ≤ 57 then 1 else 0, GM m (nI p) cl dg wt pl op wa pi pa na ha) := by
  have hj := i2b_rg (x := ck U n p) (lk_rg h.2.2.2.2.2 p)
  have e : lk U n p = (ck U n p).toInt := rfl
  unfold f_X12_isDigit
  rw [next_M h hp, bn2_e, in_12, bn2_e]
  by_cases c : 48 ≤ lk U n p ∧ lk U n p ≤ 57
  · rw [if_pos (by rw [t_48, t_57]; omega), if_pos c]; rfl
  · rw [if_neg (by rw [t_48, t_57]; omega), if_neg c]; rfl
theorem num_s2 (h : rdt m U n bs) (hp : p ≤ 300) {N a j : Nat} (ha2 : a ≤ 99) (hj : j < 3) (hd : 48 ≤ lk U n p ∧ lk U n p ≤ 57) : f_X12_takesNumber_l16 fl (N + 1) (nI j) (GM m (nI p) cl (nI a) wt pl op wa pi pa na ha) = f_X12_takesNumber_l16 fl N (nI (j + 1)) (GM m (nI (p + 1)) cl (nI (10 * a + dvl U n p)) wt pl op wa pi pa na ha) := by
  have e := dig_M (fl := fl) (cl := cl) (dg := nI a) (wt := wt) (pl := pl) (op := op) (wa := wa) (pi := pi) (pa := pa) (na := na) (ha := ha) h (show p ≤ 1000 by omega)
  have e1 := next_M (fl := fl) (cl := cl) (dg := nI a) (wt := wt) (pl := pl) (op := op) (wa := wa) (pi := pi) (pa := pa) (na := na) (ha := ha) h (show p ≤ 1000 by omega)
  have e2 : lk U n p = (ck U n p).toInt := rfl
  have hjj := i2b_rg (x := ck U n p) (lk_rg h.2.2.2.2.2 p)
  have i1 := nI_toInt (n := j) (by omega)
  obtain ⟨q, q1, q2⟩ := vp_in_of (x := ji2b (ck U n p)) (n := 58) (vp_in_iff.mpr (by omega)) (by omega)
  have i3 := nI_toInt (n := q) (by omega)
  have q3 : lk U n p = q := by rw [q2, i3] at hjj; omega
  have e3 : dvl U n p = q - 48 := by
    unfold dvl
    omega
  have e4 : 10 * nI a + ji2b (ck U n p) - 48 = nI (10 * a + dvl U n p) := by
    rw [q2, e3, show (10 : Int32) * nI a = nI (10 * a) from pk_mul 10 a, nI_add, show (48 : Int32) = nI 48 from rfl, pk_sub (by omega)]
    congr 1; omega
  rw [if_pos hd] at e
  show f_X12_takesNumber_l16_b (f_X12_takesNumber_l16 fl N) fl _ _ = _
  unfold f_X12_takesNumber_l16_b
  rw [if_neg (by rw [Int32.le_iff_toInt_le, i1, t_3]; omega), e, bn2_e, if_neg (by decide), e1, bn2_e, lt1_e, gI_Gdg, e4, sI_Gdg, lt1_e, gI_Gat, sI_Gat, lt1_e, nI_1, nI_1]
theorem num_e2 (h : rdt m U n bs) (hp : p ≤ 300) {N j : Nat} (hj : j ≤ 3) (hd : ¬ (j < 3 ∧ 48 ≤ lk U n p ∧ lk U n p ≤ 57)) : f_X12_takesNumber_l16 fl (N + 1) (nI j) (GM m (nI p) cl dg wt pl op wa pi pa na ha) = some (GM m (nI p) cl dg wt pl op wa pi pa na ha) := by
  have e := dig_M (fl := fl) (cl := cl) (dg := dg) (wt := wt) (pl := pl) (op := op) (wa := wa) (pi := pi) (pa := pa) (na := na) (ha := ha) h (show p ≤ 1000 by omega)
  have i1 := nI_toInt (n := j) (by omega)
  show f_X12_takesNumber_l16_b (f_X12_takesNumber_l16 fl N) fl _ _ = _
  unfold f_X12_takesNumber_l16_b
  by_cases c : j = 3
  · rw [if_pos (by rw [Int32.le_iff_toInt_le, i1, t_3]; omega)]
  · rw [if_neg (show ¬ (48 ≤ lk U n p ∧ lk U n p ≤ 57) from fun q => hd ⟨by omega, q⟩)] at e
    rw [if_neg (by rw [Int32.le_iff_toInt_le, i1, t_3]; omega), e, bn2_e, if_pos rfl]
theorem num_M (hfl : 1000 ≤ fl) (h : rdt m U n bs) (hp : p ≤ 200) : f_X12_takesNumber fl (GM m (nI p) cl dg wt pl op wa pi pa na ha) = if (pnm U n p).1 = 0 then some (0, GM m (nI p) cl dg wt pl op wa pi pa na ha) else some (1, GM m (nI (p + (pnm U n p).1)) cl (nI (pnm U n p).2) wt pl op wa pi pa na ha) := by
  obtain ⟨N, hN⟩ : ∃ N, fl = N + 4 := ⟨fl - 4, by omega⟩
  have e := dig_M (fl := fl) (cl := cl) (dg := dg) (wt := wt) (pl := pl) (op := op) (wa := wa) (pi := pi) (pa := pa) (na := na) (ha := ha) h (show p ≤ 1000 by omega)
  have hl : ∀ r, f_X12_takesNumber_l16 fl (N + 4) (nI 0) (GM m (nI p) cl (nI 0) wt pl op wa pi pa na ha) = r → f_X12_takesNumber_l16 fl fl 0 (GM m (nI p) cl 0 wt pl op wa pi pa na ha) = r := by
    intro r hr
    rw [← hN] at hr
    exact hr
  unfold f_X12_takesNumber pnm
  rw [e, bn2_e]
  by_cases c0 : 48 ≤ lk U n p ∧ lk U n p ≤ 57
  · have d0 : dvl U n p ≤ 9 := by unfold dvl; omega
    have s0 := num_s2 (fl := fl) (cl := cl) (wt := wt) (pl := pl) (op := op) (wa := wa) (pi := pi) (pa := pa) (na := na) (ha := ha) h (p := p) (by omega) (N := N + 3) (a := 0) (j := 0) (by omega) (by omega) c0
    rw [if_pos c0, if_neg (by decide), lt1_e, sI_Gdg, if_pos c0]
    by_cases c1 : 48 ≤ lk U n (p + 1) ∧ lk U n (p + 1) ≤ 57
    · have d1 : dvl U n (p + 1) ≤ 9 := by unfold dvl; omega
      have s1 := num_s2 (fl := fl) (cl := cl) (wt := wt) (pl := pl) (op := op) (wa := wa) (pi := pi) (pa := pa) (na := na) (ha := ha) h (p := p + 1) (by omega) (N := N + 2) (a := 10 * 0 + dvl U n p) (j := 0 + 1) (by omega) (by omega) c1
      rw [if_pos c1]
      by_cases c2 : 48 ≤ lk U n (p + 2) ∧ lk U n (p + 2) ≤ 57
      · have s2 := num_s2 (fl := fl) (cl := cl) (wt := wt) (pl := pl) (op := op) (wa := wa) (pi := pi) (pa := pa) (na := na) (ha := ha) h (p := p + 1 + 1) (by omega) (N := N + 1) (a := 10 * (10 * 0 + dvl U n p) + dvl U n (p + 1)) (j := 0 + 1 + 1) (by omega) (by omega) c2
        have s3 := num_e2 (fl := fl) (cl := cl) (dg := nI (10 * (10 * (10 * 0 + dvl U n p) + dvl U n (p + 1)) + dvl U n (p + 1 + 1))) (wt := wt) (pl := pl) (op := op) (wa := wa) (pi := pi) (pa := pa) (na := na) (ha := ha) h (p := p + 1 + 1 + 1) (by omega) (N := N) (j := 0 + 1 + 1 + 1) (by omega) (by omega)
        rw [if_pos c2, hl _ (s0.trans (s1.trans (s2.trans s3))), bn1_e]
        show some ((1 : Int32), GM m _ cl (nI (10 * (10 * (10 * 0 + dvl U n p) + dvl U n (p + 1)) + dvl U n (p + 2))) wt pl op wa pi pa na ha) = some (1, GM m _ cl (nI (100 * dvl U n p + 10 * dvl U n (p + 1) + dvl U n (p + 2))) wt pl op wa pi pa na ha)
        rw [show 10 * (10 * (10 * 0 + dvl U n p) + dvl U n (p + 1)) + dvl U n (p + 2) = 100 * dvl U n p + 10 * dvl U n (p + 1) + dvl U n (p + 2) by omega]
        try rfl
      · have s3 := num_e2 (fl := fl) (cl := cl) (dg := nI (10 * (10 * 0 + dvl U n p) + dvl U n (p + 1))) (wt := wt) (pl := pl) (op := op) (wa := wa) (pi := pi) (pa := pa) (na := na) (ha := ha) h (p := p + 1 + 1) (by omega) (N := N + 1) (j := 0 + 1 + 1) (by omega) (fun q => c2 q.2)
        rw [if_neg c2, hl _ (s0.trans (s1.trans s3)), bn1_e]
        show some ((1 : Int32), GM m _ cl (nI (10 * (10 * 0 + dvl U n p) + dvl U n (p + 1))) wt pl op wa pi pa na ha) = some (1, GM m _ cl (nI (10 * dvl U n p + dvl U n (p + 1))) wt pl op wa pi pa na ha)
        rw [show 10 * (10 * 0 + dvl U n p) + dvl U n (p + 1) = 10 * dvl U n p + dvl U n (p + 1) by omega]
        try rfl
    · have s3 := num_e2 (fl := fl) (cl := cl) (dg := nI (10 * 0 + dvl U n p)) (wt := wt) (pl := pl) (op := op) (wa := wa) (pi := pi) (pa := pa) (na := na) (ha := ha) h (p := p + 1) (by omega) (N := N + 2) (j := 0 + 1) (by omega) (fun q => c1 q.2)
      rw [if_neg c1, hl _ (s0.trans s3), bn1_e]
      show some ((1 : Int32), GM m _ cl (nI (10 * 0 + dvl U n p)) wt pl op wa pi pa na ha) = some (1, GM m _ cl (nI (dvl U n p)) wt pl op wa pi pa na ha)
      rw [show 10 * 0 + dvl U n p = dvl U n p by omega]
      try rfl
  · rw [if_neg c0, if_pos rfl, if_neg c0]
    rfl
/-- what a side becomes behind the signs that wait -/
def pR (wa : Nat → Int32) : Nat → Int32 → Bool → Nat × Int32 × Bool
  | 0, op, v => (0, op, v)
  | w + 1, op, v => if wa w = 33 then pR wa w (op - 1) (!v) else (w + 1, op, v)
theorem bI_not {v : Bool} : (if bI v = 0 then (1 : Int32) else 0) = bI (!v) := by cases v <;> rfl
theorem bI_nar {v : Bool} : vp_nar .boolean (bI v) = bI v := by cases v <;> rfl
theorem push_l {ap : Int32} : ∀ (N w : Nat) (op : Int32) (v : Bool), w ≤ 100 → w + 1 ≤ N → f_X12_push_l2 fl N (bI v) (GM m ap cl dg (nI w) pl op wa pi pa na ha) = some (bI (pR wa w op v).2.2, GM m ap cl dg (nI (pR wa w op v).1) pl (pR wa w op v).2.1 wa pi pa na ha) := by
  intro N
  induction N with
  | zero => intro w op v h1 h2; omega
  | succ N ih =>
    intro w op v h1 h2
    have i1 := nI_toInt (n := w) (by omega)
    show f_X12_push_l2_b (f_X12_push_l2 fl N) fl (bI v) _ = _
    unfold f_X12_push_l2_b
    cases w with
    | zero =>
      rw [if_pos (by rw [gI_Gwt]; exact Int32.le_iff_toInt_le.mpr (by rw [i1]; decide))]
      rfl
    | succ w =>
      have i2 : nI (w + 1) - 1 = nI w := pk_sub (b := 1) (by omega)
      have i3 := nI_toInt (n := w) (by omega)
      have i4 := nI_clamp (n := w) (by omega)
      rw [gI_Gwt, if_neg (by rw [Int32.le_iff_toInt_le, i1, t_0]; omega), i2, asr_t (by rw [vq_i, i3]; omega)]
      simp only [i4, gI_Gwa]
      by_cases c : wa w = 33
      · have y := ih w (op - 1) (!v) (by omega) (by omega)
        rw [if_pos c, show (if bI v = 0 then some ((1 : Int32), GM m ap cl dg (nI (w + 1)) pl op wa pi pa na ha) else some (0, GM m ap cl dg (nI (w + 1)) pl op wa pi pa na ha)) = some (bI (!v), GM m ap cl dg (nI (w + 1)) pl op wa pi pa na ha) by cases v <;> rfl, bn2_e, lt1_e, gI_Gwt, sI_Gwt, lt1_e, gI_Gop, sI_Gop, i2, y]
        show _ = some (bI (if wa w = 33 then pR wa w (op - 1) (!v) else (w + 1, op, v)).2.2, GM m ap cl dg (nI (if wa w = 33 then pR wa w (op - 1) (!v) else (w + 1, op, v)).1) pl (if wa w = 33 then pR wa w (op - 1) (!v) else (w + 1, op, v)).2.1 wa pi pa na ha)
        rw [if_pos c]
      · rw [if_neg c]
        show _ = some (bI (if wa w = 33 then pR wa w (op - 1) (!v) else (w + 1, op, v)).2.2, GM m ap cl dg (nI (if wa w = 33 then pR wa w (op - 1) (!v) else (w + 1, op, v)).1) pl (if wa w = 33 then pR wa w (op - 1) (!v) else (w + 1, op, v)).2.1 wa pi pa na ha)
        rw [if_neg c]
theorem push_M (hfl : 1000 ≤ fl) {ap : Int32} {w q : Nat} (hw : w ≤ 100) (hq : q ≤ 100) (v : Bool) : f_X12_push fl (bI v) (GM m ap cl dg (nI w) (nI q) op wa pi pa na ha) = some (GM m ap cl dg (nI (pR wa w op v).1) (nI (q + 1)) (pR wa w op v).2.1 wa (uw pi q (bI (pR wa w op v).2.2)) pa na ha) := by
  have i1 := nI_toInt (n := q) (by omega)
  have i2 := nI_clamp (n := q) (by omega)
  unfold f_X12_push f_X12_push_b58
  rw [push_l fl w op v hw (by omega), bn2_e, gI_Gpl, asr_t (by rw [vq_i, i1]; omega), i2, lt1_e, bI_nar, sI_Gpi, lt1_e, gI_Gpl, sI_Gpl, nI_1]
/-- signs that wait are taken off -/
theorem settle_0 {ap c : Int32} {w N : Nat} (hw : w ≤ 100) (hs : w = 0 ∨ (wa (w - 1) ≠ 38 ∧ (wa (w - 1) = 124 → c = 38))) : f_X12_settle_l0 fl c (N + 1) (GM m ap cl dg (nI w) pl op wa pi pa na ha) = some (GM m ap cl dg (nI w) pl op wa pi pa na ha) := by
  have i1 := nI_toInt (n := w) (by omega)
  show f_X12_settle_l0_b (f_X12_settle_l0 fl c N) fl c _ = _
  unfold f_X12_settle_l0_b
  cases w with
  | zero => rw [if_pos (by rw [gI_Gwt]; exact Int32.le_iff_toInt_le.mpr (by rw [i1]; decide))]
  | succ w =>
    have i2 : nI (w + 1) - 1 = nI w := pk_sub (b := 1) (by omega)
    have i3 := nI_toInt (n := w) (by omega)
    have i4 := nI_clamp (n := w) (by omega)
    obtain ⟨s1, s2⟩ : wa w ≠ 38 ∧ (wa w = 124 → c = 38) := by
      rcases hs with q | q
      · omega
      · exact q
    rw [gI_Gwt, if_neg (by rw [Int32.le_iff_toInt_le, i1, t_0]; omega), i2, asr_t (by rw [vq_i, i3]; omega)]
    simp only [i4, gI_Gwa]
    rw [if_neg s1, asr_t (by rw [vq_i, i3]; omega)]
    by_cases d : wa w = 124
    · rw [if_pos d, if_pos (s2 d)]
    · rw [if_neg d]
theorem settle_1 {ap c : Int32} {w q N : Nat} {x y : Bool} (hw : w < 100) (hq : q + 1 ≤ 100) (hs : wa w = 38) (h1 : pi q = bI x) (h2 : pi (q + 1) = bI y) : f_X12_settle_l0 fl c (N + 1) (GM m ap cl dg (nI (w + 1)) (nI (q + 2)) op wa pi pa na ha) = f_X12_settle_l0 fl c N (GM m ap cl dg (nI w) (nI (q + 1)) op wa (uw pi q (bI (x && y))) pa na ha) := by
  have i1 := nI_toInt (n := w + 1) (by omega)
  have i2 : nI (w + 1) - 1 = nI w := pk_sub (b := 1) (by omega)
  have i3 := nI_toInt (n := w) (by omega)
  have i4 := nI_clamp (n := w) (by omega)
  have j2 : nI (q + 2) - 1 = nI (q + 1) := pk_sub (b := 1) (by omega)
  have j3 : nI (q + 1) - 1 = nI q := pk_sub (b := 1) (by omega)
  have j4 := nI_toInt (n := q) (by omega)
  have j5 := nI_clamp (n := q) (by omega)
  have j6 := nI_toInt (n := q + 1) (by omega)
  have j7 := nI_clamp (n := q + 1) (by omega)
  have a1 : vq (nI w) 101 := by rw [vq_i, i3]; omega
  have a2 : vq (nI q) 101 := by rw [vq_i, j4]; omega
  have a3 : vq (nI (q + 1)) 101 := by rw [vq_i, j6]; omega
  show f_X12_settle_l0_b (f_X12_settle_l0 fl c N) fl c _ = _
  unfold f_X12_settle_l0_b
  rw [gI_Gwt, if_neg (by rw [Int32.le_iff_toInt_le, i1, t_0]; omega), i2, asr_t a1]
  simp only [i4, gI_Gwa]
  rw [if_pos hs, lt1_e, sI_Gwt, lt1_e, gI_Gpl, j2, sI_Gpl, gI_Gwt, asr_t a1]
  simp only [i4, gI_Gwa]
  rw [if_pos hs, gI_Gpl, j3, asr_t a2]
  simp only [j5, gI_Gpi, h1]
  cases x with
  | false => rw [if_pos (show bI false = 0 from rfl), asr_t a2, lt1_e, nz0, sI_Gpi]; rfl
  | true =>
    rw [if_neg (show ¬ bI true = 0 by decide), asr_t a3]
    simp only [j7, gI_Gpi, h2]
    cases y with
    | false => rw [if_pos (show bI false = 0 from rfl), asr_t a2, lt1_e, nz0, sI_Gpi]; rfl
    | true => rw [if_neg (show ¬ bI true = 0 by decide), asr_t a2, lt1_e, nz1, sI_Gpi]; rfl
theorem settle_2 {ap c : Int32} {w q N : Nat} {x y : Bool} (hw : w < 100) (hq : q + 1 ≤ 100) (hs : wa w = 124) (hc : ¬ c = 38) (h1 : pi q = bI x) (h2 : pi (q + 1) = bI y) : f_X12_settle_l0 fl c (N + 1) (GM m ap cl dg (nI (w + 1)) (nI (q + 2)) op wa pi pa na ha) = f_X12_settle_l0 fl c N (GM m ap cl dg (nI w) (nI (q + 1)) op wa (uw pi q (bI (x || y))) pa na ha) := by
  have i1 := nI_toInt (n := w + 1) (by omega)
  have i2 : nI (w + 1) - 1 = nI w := pk_sub (b := 1) (by omega)
  have i3 := nI_toInt (n := w) (by omega)
  have i4 := nI_clamp (n := w) (by omega)
  have j2 : nI (q + 2) - 1 = nI (q + 1) := pk_sub (b := 1) (by omega)
  have j3 : nI (q + 1) - 1 = nI q := pk_sub (b := 1) (by omega)
  have j4 := nI_toInt (n := q) (by omega)
  have j5 := nI_clamp (n := q) (by omega)
  have j6 := nI_toInt (n := q + 1) (by omega)
  have j7 := nI_clamp (n := q + 1) (by omega)
  have a1 : vq (nI w) 101 := by rw [vq_i, i3]; omega
  have a2 : vq (nI q) 101 := by rw [vq_i, j4]; omega
  have a3 : vq (nI (q + 1)) 101 := by rw [vq_i, j6]; omega
  have hs2 : ¬ wa w = 38 := by rw [hs]; decide
  show f_X12_settle_l0_b (f_X12_settle_l0 fl c N) fl c _ = _
  unfold f_X12_settle_l0_b
  rw [gI_Gwt, if_neg (by rw [Int32.le_iff_toInt_le, i1, t_0]; omega), i2, asr_t a1]
  simp only [i4, gI_Gwa]
  rw [if_neg hs2, asr_t a1, if_pos hs, if_neg hc, lt1_e, sI_Gwt, lt1_e, gI_Gpl, j2, sI_Gpl, gI_Gwt, asr_t a1]
  simp only [i4, gI_Gwa]
  rw [if_neg hs2, gI_Gpl, j3, asr_t a2]
  simp only [j5, gI_Gpi, h1]
  cases x with
  | true => rw [if_neg (show ¬ bI true = 0 by decide), asr_t a2, lt1_e, nz1, sI_Gpi]; rfl
  | false =>
    rw [if_pos (show bI false = 0 from rfl), asr_t a3]
    simp only [j7, gI_Gpi, h2]
    cases y with
    | false => rw [if_pos (show bI false = 0 from rfl), asr_t a2, lt1_e, nz0, sI_Gpi]; rfl
    | true => rw [if_neg (show ¬ bI true = 0 by decide), asr_t a2, lt1_e, nz1, sI_Gpi]; rfl
end RM
