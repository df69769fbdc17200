/-! the class reads: its memory while it reads -/
def uw (f : Nat → Int32) (k : Nat) (x : Int32) : Nat → Int32 := fun i => if i = k then x else f i
def wr (f : Nat → Int32) (c : Nat) (L : List Int32) : Nat → Int32 := fun i => if c ≤ i ∧ i < c + L.length then L.getD (i - c) 0 else f i
theorem wr_nil {f : Nat → Int32} {c : Nat} : wr f c [] = f := by
  funext i
  exact if_neg (by show ¬ (c ≤ i ∧ i < c + 0); omega)
theorem gd_l {A B : List Int32} {i : Nat} (h : i < A.length) : (A ++ B).getD i 0 = A.getD i 0 := by
  rw [List.getD_eq_getElem?_getD, List.getD_eq_getElem?_getD, List.getElem?_append_left h]
theorem gd_r {A B : List Int32} {i : Nat} (h : A.length ≤ i) : (A ++ B).getD i 0 = B.getD (i - A.length) 0 := by
  rw [List.getD_eq_getElem?_getD, List.getD_eq_getElem?_getD, List.getElem?_append_right h]
theorem wr_app {f : Nat → Int32} {c : Nat} {A B : List Int32} : wr (wr f c A) (c + A.length) B = wr f c (A ++ B) := by
  funext i
  unfold wr
  rw [List.length_append]
  by_cases h1 : c + A.length ≤ i ∧ i < c + A.length + B.length
  · rw [if_pos h1, if_pos (by omega), gd_r (by omega), show i - (c + A.length) = i - c - A.length by omega]
  · rw [if_neg h1]
    by_cases h2 : c ≤ i ∧ i < c + A.length
    · rw [if_pos h2, if_pos (by omega), gd_l (by omega)]
    · rw [if_neg h2, if_neg (by omega)]
theorem wr_one {f : Nat → Int32} {c : Nat} {x : Int32} : wr f c [x] = uw f c x := by
  funext i
  unfold wr uw
  by_cases h : i = c
  · subst h
    rw [if_pos rfl, if_pos (by show i ≤ i ∧ i < i + 1; omega), Nat.sub_self]; rfl
  · rw [if_neg h, if_neg (by show ¬ (c ≤ i ∧ i < c + 1); omega)]
theorem wr_snoc {f : Nat → Int32} {c : Nat} {A : List Int32} {x : Int32} : uw (wr f c A) (c + A.length) x = wr f c (A ++ [x]) := by
  rw [← wr_one, wr_app]
def PM (m : Mem) (b : Nat) (p f cc cl : Int32) (ws vs cd : Nat → Int32) : Mem := (fun r x k => if r = 5 ∧ x = 0 ∧ k = 2 then p else if r = 5 ∧ x = 0 ∧ k = 3 then f else if r = 19 ∧ x = b ∧ k = 1 then cc else if r = 19 ∧ x = b ∧ k = 2 then cl else if r = 20 ∧ x = b then ws k else if r = 21 ∧ x = b then vs k else if r = 22 ∧ x = b then cd k else m.1 r x k, m.2.1, m.2.2)
section PMS
variable {m : Mem} {b : Nat} {p f cc cl : Int32} {ws vs cd : Nat → Int32}
theorem gI_Pp : gI (PM m b p f cc cl ws vs cd) 5 0 2 = p := rfl
theorem gI_Pf : gI (PM m b p f cc cl ws vs cd) 5 0 3 = f := rfl
theorem gI_P0 : gI (PM m b p f cc cl ws vs cd) 5 0 0 = gI m 5 0 0 := rfl
theorem gI_P16 {k : Nat} : gI (PM m b p f cc cl ws vs cd) 16 0 k = gI m 16 0 k := rfl
theorem gI_Pcc : gI (PM m b p f cc cl ws vs cd) 19 b 1 = cc := by simp [gI, PM]
theorem gI_Pcl : gI (PM m b p f cc cl ws vs cd) 19 b 2 = cl := by simp [gI, PM]
theorem gI_Pws {k : Nat} : gI (PM m b p f cc cl ws vs cd) 20 b k = ws k := by simp [gI, PM]
theorem gI_Pvs {k : Nat} : gI (PM m b p f cc cl ws vs cd) 21 b k = vs k := by simp [gI, PM]
theorem gI_Pcd {k : Nat} : gI (PM m b p f cc cl ws vs cd) 22 b k = cd k := by simp [gI, PM]
theorem sI_Pp {v : Int32} : sI (PM m b p f cc cl ws vs cd) 5 0 2 v = PM m b v f cc cl ws vs cd := by
  unfold sI PM
  refine Prod.ext ?_ rfl
  funext r x k
  by_cases h : r = 5 ∧ x = 0 ∧ k = 2 <;> simp [h]
theorem sI_Pf {v : Int32} : sI (PM m b p f cc cl ws vs cd) 5 0 3 v = PM m b p v cc cl ws vs cd := by
  unfold sI PM
  refine Prod.ext ?_ rfl
  funext r x k
  by_cases h : r = 5 ∧ x = 0 ∧ k = 3
  · obtain ⟨rfl, rfl, rfl⟩ := h; simp
  · simp [h]
theorem sI_Pcc {v : Int32} : sI (PM m b p f cc cl ws vs cd) 19 b 1 v = PM m b p f v cl ws vs cd := by
  unfold sI PM
  refine Prod.ext ?_ rfl
  funext r x k
  by_cases h : r = 19 ∧ x = b ∧ k = 1
  · obtain ⟨rfl, rfl, rfl⟩ := h; simp
  · simp [h]
theorem sI_Pcl {v : Int32} : sI (PM m b p f cc cl ws vs cd) 19 b 2 v = PM m b p f cc v ws vs cd := by
  unfold sI PM
  refine Prod.ext ?_ rfl
  funext r x k
  by_cases h : r = 19 ∧ x = b ∧ k = 2
  · obtain ⟨rfl, rfl, rfl⟩ := h; simp
  · simp [h]
theorem sI_Pws {j : Nat} {v : Int32} : sI (PM m b p f cc cl ws vs cd) 20 b j v = PM m b p f cc cl (uw ws j v) vs cd := by
  unfold sI PM uw
  refine Prod.ext ?_ rfl
  funext r x k
  by_cases h : r = 20 ∧ x = b
  · obtain ⟨rfl, rfl⟩ := h; simp
  · simp only [← and_assoc, h, false_and, if_false]
theorem sI_Pvs {j : Nat} {v : Int32} : sI (PM m b p f cc cl ws vs cd) 21 b j v = PM m b p f cc cl ws (uw vs j v) cd := by
  unfold sI PM uw
  refine Prod.ext ?_ rfl
  funext r x k
  by_cases h : r = 21 ∧ x = b
  · obtain ⟨rfl, rfl⟩ := h; simp
  · simp only [← and_assoc, h, false_and, if_false]
theorem sI_Pcd {j : Nat} {v : Int32} : sI (PM m b p f cc cl ws vs cd) 22 b j v = PM m b p f cc cl ws vs (uw cd j v) := by
  unfold sI PM uw
  refine Prod.ext ?_ rfl
  funext r x k
  by_cases h : r = 22 ∧ x = b
  · obtain ⟨rfl, rfl⟩ := h; simp
  · simp only [← and_assoc, h, false_and, if_false]
end PMS
/-- the text that is fed, as the class keeps it -/
def fed (m : Mem) (U : Nat → Int32) (n : Nat) : Prop := n ≤ 100 ∧ gI m 5 0 0 = nI n ∧ (∀ j, j < n → gI m 16 0 j = U j) ∧ byt U n
section RD
variable {fl b n p cc k : Nat} {m : Mem} {cl c f pp ccc : Int32} {ws vs cd U : Nat → Int32}
theorem look_P (h : fed m U n) (hp : p ≤ 1000) : f_X7_look fl (PM m b (nI p) (-1) ccc cl ws vs cd) = some (ck U n p, PM m b (nI p) (-1) ccc cl ws vs cd) := by
  obtain ⟨h1, h2, h3, h4⟩ := h
  have i1 := nI_toInt (n := p) (by omega)
  have i2 := nI_clamp (n := p) (by omega)
  have i3 := nI_toInt (n := n) (by omega)
  unfold f_X7_look f_X7_look_b40
  by_cases e : p < n
  · rw [ck_lt e, ← h3 p e]
    simp (disch := omega) only [Int32.lt_iff_toInt_lt, Int32.le_iff_toInt_le, t_n14, t_n13, t_n12, t_n11, t_n10, t_n5, t_n4, t_n3, t_n2, t_n1, t_0, t_1, t_2, t_3, t_4, t_5, t_6, t_7, t_8, t_9, t_10, t_11, t_12, t_13, t_14, t_15, t_16, t_17, t_18, t_19, t_20, t_21, t_22, t_23, t_24, t_25, t_26, t_27, t_28, t_29, t_30, t_31, t_32, t_33, t_34, t_37, t_38, t_39, t_40, t_41, t_44, t_48, t_50, t_51, t_52, t_57, t_59, t_60, t_61, t_62, t_66, t_98, t_99, t_100, t_101, t_102, t_103, t_104, t_105, t_106, t_107, t_108, t_109, t_110, t_111, t_112, t_113, t_114, t_115, t_116, t_121, t_124, t_150, t_200, t_399, t_999, t_2000, vq_i, if_pos, if_neg, bn2_e, bn1_e, lt1_e, asr_t, drf_e, asr_T, gI_sI, gL_sI, gR_sI, gI_sL, gL_sL, gR_sL, gI_sR, gL_sR, gR_sR, eq_self, i32_eq, or_true, true_or, and_true, true_and, or_false, false_or, and_false, false_and, not_true, not_false_iff, if_true, if_false, gI_Pp, gI_Pf, gI_P0, gI_P16, gI_Pcc, gI_Pcl, gI_Pws, gI_Pvs, gI_Pcd, sI_Pp, sI_Pf, sI_Pcc, sI_Pcl, sI_Pws, sI_Pvs, sI_Pcd, h2, i1, i2, i3]
  · rw [show ck U n p = -1 from if_neg e]
    simp (disch := omega) only [Int32.lt_iff_toInt_lt, Int32.le_iff_toInt_le, t_n14, t_n13, t_n12, t_n11, t_n10, t_n5, t_n4, t_n3, t_n2, t_n1, t_0, t_1, t_2, t_3, t_4, t_5, t_6, t_7, t_8, t_9, t_10, t_11, t_12, t_13, t_14, t_15, t_16, t_17, t_18, t_19, t_20, t_21, t_22, t_23, t_24, t_25, t_26, t_27, t_28, t_29, t_30, t_31, t_32, t_33, t_34, t_37, t_38, t_39, t_40, t_41, t_44, t_48, t_50, t_51, t_52, t_57, t_59, t_60, t_61, t_62, t_66, t_98, t_99, t_100, t_101, t_102, t_103, t_104, t_105, t_106, t_107, t_108, t_109, t_110, t_111, t_112, t_113, t_114, t_115, t_116, t_121, t_124, t_150, t_200, t_399, t_999, t_2000, vq_i, if_pos, if_neg, bn2_e, bn1_e, lt1_e, asr_t, drf_e, asr_T, gI_sI, gL_sI, gR_sI, gI_sL, gL_sL, gR_sL, gI_sR, gL_sR, gR_sR, eq_self, i32_eq, or_true, true_or, and_true, true_and, or_false, false_or, and_false, false_and, not_true, not_false_iff, if_true, if_false, gI_Pp, gI_Pf, gI_P0, gI_P16, gI_Pcc, gI_Pcl, gI_Pws, gI_Pvs, gI_Pcd, sI_Pp, sI_Pf, sI_Pcc, sI_Pcl, sI_Pws, sI_Pvs, sI_Pcd, h2, i1, i2, i3]
theorem look_F (hf : ¬ f.toInt = -1) : f_X7_look fl (PM m b pp f ccc cl ws vs cd) = some (-1, PM m b pp f ccc cl ws vs cd) := by
  unfold f_X7_look f_X7_look_b40
  simp (disch := omega) only [Int32.lt_iff_toInt_lt, Int32.le_iff_toInt_le, t_n14, t_n13, t_n12, t_n11, t_n10, t_n5, t_n4, t_n3, t_n2, t_n1, t_0, t_1, t_2, t_3, t_4, t_5, t_6, t_7, t_8, t_9, t_10, t_11, t_12, t_13, t_14, t_15, t_16, t_17, t_18, t_19, t_20, t_21, t_22, t_23, t_24, t_25, t_26, t_27, t_28, t_29, t_30, t_31, t_32, t_33, t_34, t_37, t_38, t_39, t_40, t_41, t_44, t_48, t_50, t_51, t_52, t_57, t_59, t_60, t_61, t_62, t_66, t_98, t_99, t_100, t_101, t_102, t_103, t_104, t_105, t_106, t_107, t_108, t_109, t_110, t_111, t_112, t_113, t_114, t_115, t_116, t_121, t_124, t_150, t_200, t_399, t_999, t_2000, vq_i, if_pos, if_neg, bn2_e, bn1_e, lt1_e, asr_t, drf_e, asr_T, gI_sI, gL_sI, gR_sI, gI_sL, gL_sL, gR_sL, gI_sR, gL_sR, gR_sR, eq_self, i32_eq, or_true, true_or, and_true, true_and, or_false, false_or, and_false, false_and, not_true, not_false_iff, if_true, if_false, gI_Pp, gI_Pf, gI_P0, gI_P16, gI_Pcc, gI_Pcl, gI_Pws, gI_Pvs, gI_Pcd, sI_Pp, sI_Pf, sI_Pcc, sI_Pcl, sI_Pws, sI_Pvs, sI_Pcd]
theorem fail_P : f_X7_fail fl (PM m b pp (-1) ccc cl ws vs cd) = some (PM m b pp pp ccc cl ws vs cd) := by
  unfold f_X7_fail
  simp (disch := omega) only [Int32.lt_iff_toInt_lt, Int32.le_iff_toInt_le, t_n14, t_n13, t_n12, t_n11, t_n10, t_n5, t_n4, t_n3, t_n2, t_n1, t_0, t_1, t_2, t_3, t_4, t_5, t_6, t_7, t_8, t_9, t_10, t_11, t_12, t_13, t_14, t_15, t_16, t_17, t_18, t_19, t_20, t_21, t_22, t_23, t_24, t_25, t_26, t_27, t_28, t_29, t_30, t_31, t_32, t_33, t_34, t_37, t_38, t_39, t_40, t_41, t_44, t_48, t_50, t_51, t_52, t_57, t_59, t_60, t_61, t_62, t_66, t_98, t_99, t_100, t_101, t_102, t_103, t_104, t_105, t_106, t_107, t_108, t_109, t_110, t_111, t_112, t_113, t_114, t_115, t_116, t_121, t_124, t_150, t_200, t_399, t_999, t_2000, vq_i, if_pos, if_neg, bn2_e, bn1_e, lt1_e, asr_t, drf_e, asr_T, gI_sI, gL_sI, gR_sI, gI_sL, gL_sL, gR_sL, gI_sR, gL_sR, gR_sR, eq_self, i32_eq, or_true, true_or, and_true, true_and, or_false, false_or, and_false, false_and, not_true, not_false_iff, if_true, if_false, gI_Pp, gI_Pf, gI_P0, gI_P16, gI_Pcc, gI_Pcl, gI_Pws, gI_Pvs, gI_Pcd, sI_Pp, sI_Pf, sI_Pcc, sI_Pcl, sI_Pws, sI_Pvs, sI_Pcd]
theorem fail_F (hf : ¬ f.toInt = -1) : f_X7_fail fl (PM m b pp f ccc cl ws vs cd) = some (PM m b pp f ccc cl ws vs cd) := by
  unfold f_X7_fail
  simp (disch := omega) only [Int32.lt_iff_toInt_lt, Int32.le_iff_toInt_le, t_n14, t_n13, t_n12, t_n11, t_n10, t_n5, t_n4, t_n3, t_n2, t_n1, t_0, t_1, t_2, t_3, t_4, t_5, t_6, t_7, t_8, t_9, t_10, t_11, t_12, t_13, t_14, t_15, t_16, t_17, t_18, t_19, t_20, t_21, t_22, t_23, t_24, t_25, t_26, t_27, t_28, t_29, t_30, t_31, t_32, t_33, t_34, t_37, t_38, t_39, t_40, t_41, t_44, t_48, t_50, t_51, t_52, t_57, t_59, t_60, t_61, t_62, t_66, t_98, t_99, t_100, t_101, t_102, t_103, t_104, t_105, t_106, t_107, t_108, t_109, t_110, t_111, t_112, t_113, t_114, t_115, t_116, t_121, t_124, t_150, t_200, t_399, t_999, t_2000, vq_i, if_pos, if_neg, bn2_e, bn1_e, lt1_e, asr_t, drf_e, asr_T, gI_sI, gL_sI, gR_sI, gI_sL, gL_sL, gR_sL, gI_sR, gL_sR, gR_sR, eq_self, i32_eq, or_true, true_or, and_true, true_and, or_false, false_or, and_false, false_and, not_true, not_false_iff, if_true, if_false, gI_Pp, gI_Pf, gI_P0, gI_P16, gI_Pcc, gI_Pcl, gI_Pws, gI_Pvs, gI_Pcd, sI_Pp, sI_Pf, sI_Pcc, sI_Pcl, sI_Pws, sI_Pvs, sI_Pcd]
theorem code_P (h : cc < 100) : f_X9_addCode fl b c (PM m b pp f (nI cc) cl ws vs cd) = some (PM m b pp f (nI (cc + 1)) cl ws vs (uw cd cc c)) := by
  have i1 := nI_toInt (n := cc) (by omega)
  have i2 := nI_clamp (n := cc) (by omega)
  unfold f_X9_addCode
  simp (disch := omega) only [Int32.lt_iff_toInt_lt, Int32.le_iff_toInt_le, t_n14, t_n13, t_n12, t_n11, t_n10, t_n5, t_n4, t_n3, t_n2, t_n1, t_0, t_1, t_2, t_3, t_4, t_5, t_6, t_7, t_8, t_9, t_10, t_11, t_12, t_13, t_14, t_15, t_16, t_17, t_18, t_19, t_20, t_21, t_22, t_23, t_24, t_25, t_26, t_27, t_28, t_29, t_30, t_31, t_32, t_33, t_34, t_37, t_38, t_39, t_40, t_41, t_44, t_48, t_50, t_51, t_52, t_57, t_59, t_60, t_61, t_62, t_66, t_98, t_99, t_100, t_101, t_102, t_103, t_104, t_105, t_106, t_107, t_108, t_109, t_110, t_111, t_112, t_113, t_114, t_115, t_116, t_121, t_124, t_150, t_200, t_399, t_999, t_2000, vq_i, if_pos, if_neg, bn2_e, bn1_e, lt1_e, asr_t, drf_e, asr_T, gI_sI, gL_sI, gR_sI, gI_sL, gL_sL, gR_sL, gI_sR, gL_sR, gR_sR, eq_self, i32_eq, or_true, true_or, and_true, true_and, or_false, false_or, and_false, false_and, not_true, not_false_iff, if_true, if_false, gI_Pp, gI_Pf, gI_P0, gI_P16, gI_Pcc, gI_Pcl, gI_Pws, gI_Pvs, gI_Pcd, sI_Pp, sI_Pf, sI_Pcc, sI_Pcl, sI_Pws, sI_Pvs, sI_Pcd, i1, i2, nI_1]
theorem code_F : ∃ cc' cd', f_X9_addCode fl b c (PM m b pp f ccc cl ws vs cd) = some (PM m b pp f cc' cl ws vs cd') := by
  unfold f_X9_addCode
  by_cases h1 : ccc.toInt < 0
  · exact ⟨ccc, cd, by simp (disch := omega) only [Int32.lt_iff_toInt_lt, Int32.le_iff_toInt_le, t_n14, t_n13, t_n12, t_n11, t_n10, t_n5, t_n4, t_n3, t_n2, t_n1, t_0, t_1, t_2, t_3, t_4, t_5, t_6, t_7, t_8, t_9, t_10, t_11, t_12, t_13, t_14, t_15, t_16, t_17, t_18, t_19, t_20, t_21, t_22, t_23, t_24, t_25, t_26, t_27, t_28, t_29, t_30, t_31, t_32, t_33, t_34, t_37, t_38, t_39, t_40, t_41, t_44, t_48, t_50, t_51, t_52, t_57, t_59, t_60, t_61, t_62, t_66, t_98, t_99, t_100, t_101, t_102, t_103, t_104, t_105, t_106, t_107, t_108, t_109, t_110, t_111, t_112, t_113, t_114, t_115, t_116, t_121, t_124, t_150, t_200, t_399, t_999, t_2000, vq_i, if_pos, if_neg, bn2_e, bn1_e, lt1_e, asr_t, drf_e, asr_T, gI_sI, gL_sI, gR_sI, gI_sL, gL_sL, gR_sL, gI_sR, gL_sR, gR_sR, eq_self, i32_eq, or_true, true_or, and_true, true_and, or_false, false_or, and_false, false_and, not_true, not_false_iff, if_true, if_false, gI_Pp, gI_Pf, gI_P0, gI_P16, gI_Pcc, gI_Pcl, gI_Pws, gI_Pvs, gI_Pcd, sI_Pp, sI_Pf, sI_Pcc, sI_Pcl, sI_Pws, sI_Pvs, sI_Pcd]⟩
  · by_cases h2 : 100 ≤ ccc.toInt
    · exact ⟨ccc, cd, by simp (disch := omega) only [Int32.lt_iff_toInt_lt, Int32.le_iff_toInt_le, t_n14, t_n13, t_n12, t_n11, t_n10, t_n5, t_n4, t_n3, t_n2, t_n1, t_0, t_1, t_2, t_3, t_4, t_5, t_6, t_7, t_8, t_9, t_10, t_11, t_12, t_13, t_14, t_15, t_16, t_17, t_18, t_19, t_20, t_21, t_22, t_23, t_24, t_25, t_26, t_27, t_28, t_29, t_30, t_31, t_32, t_33, t_34, t_37, t_38, t_39, t_40, t_41, t_44, t_48, t_50, t_51, t_52, t_57, t_59, t_60, t_61, t_62, t_66, t_98, t_99, t_100, t_101, t_102, t_103, t_104, t_105, t_106, t_107, t_108, t_109, t_110, t_111, t_112, t_113, t_114, t_115, t_116, t_121, t_124, t_150, t_200, t_399, t_999, t_2000, vq_i, if_pos, if_neg, bn2_e, bn1_e, lt1_e, asr_t, drf_e, asr_T, gI_sI, gL_sI, gR_sI, gI_sL, gL_sL, gR_sL, gI_sR, gL_sR, gR_sR, eq_self, i32_eq, or_true, true_or, and_true, true_and, or_false, false_or, and_false, false_and, not_true, not_false_iff, if_true, if_false, gI_Pp, gI_Pf, gI_P0, gI_P16, gI_Pcc, gI_Pcl, gI_Pws, gI_Pvs, gI_Pcd, sI_Pp, sI_Pf, sI_Pcc, sI_Pcl, sI_Pws, sI_Pvs, sI_Pcd]⟩
    · exact ⟨ccc + 1, uw cd ccc.toNatClampNeg c, by simp (disch := omega) only [Int32.lt_iff_toInt_lt, Int32.le_iff_toInt_le, t_n14, t_n13, t_n12, t_n11, t_n10, t_n5, t_n4, t_n3, t_n2, t_n1, t_0, t_1, t_2, t_3, t_4, t_5, t_6, t_7, t_8, t_9, t_10, t_11, t_12, t_13, t_14, t_15, t_16, t_17, t_18, t_19, t_20, t_21, t_22, t_23, t_24, t_25, t_26, t_27, t_28, t_29, t_30, t_31, t_32, t_33, t_34, t_37, t_38, t_39, t_40, t_41, t_44, t_48, t_50, t_51, t_52, t_57, t_59, t_60, t_61, t_62, t_66, t_98, t_99, t_100, t_101, t_102, t_103, t_104, t_105, t_106, t_107, t_108, t_109, t_110, t_111, t_112, t_113, t_114, t_115, t_116, t_121, t_124, t_150, t_200, t_399, t_999, t_2000, vq_i, if_pos, if_neg, bn2_e, bn1_e, lt1_e, asr_t, drf_e, asr_T, gI_sI, gL_sI, gR_sI, gI_sL, gL_sL, gR_sL, gI_sR, gL_sR, gR_sR, eq_self, i32_eq, or_true, true_or, and_true, true_and, or_false, false_or, and_false, false_and, not_true, not_false_iff, if_true, if_false, gI_Pp, gI_Pf, gI_P0, gI_P16, gI_Pcc, gI_Pcl, gI_Pws, gI_Pvs, gI_Pcd, sI_Pp, sI_Pf, sI_Pcc, sI_Pcl, sI_Pws, sI_Pvs, sI_Pcd]⟩
theorem num_s (h : fed m U n) (hp : p ≤ 300) {N a j : Nat} (ha : a ≤ 99) (hj : j < 3) (hd : 48 ≤ lk U n p ∧ lk U n p ≤ 57) : f_X7_readNumber_l4 fl (N + 1) (nI a) (nI j) (PM m b (nI p) (-1) ccc cl ws vs cd) = f_X7_readNumber_l4 fl N (nI (10 * a + dvl U n p)) (nI (j + 1)) (PM m b (nI (p + 1)) (-1) ccc cl ws vs cd) := by
  have e := look_P (fl := fl) (b := b) (ccc := ccc) (cl := cl) (ws := ws) (vs := vs) (cd := cd) h (show p ≤ 1000 by omega)
  have e2 : (ck U n p).toInt = lk U n p := rfl
  have i1 := nI_toInt (n := j) (by omega)
  obtain ⟨q, q1, q2⟩ := vp_in_of (x := ck U n p) (n := 58) (vp_in_iff.mpr (by omega)) (by omega)
  have i3 := nI_toInt (n := q) (by omega)
  have e3 : dvl U n p = q - 48 := by
    unfold dvl
    rw [← e2, q2, i3]; omega
  have e4 : 10 * nI a + ck U n p - 48 = nI (10 * a + dvl U n p) := by
    rw [q2, e3, show (10 : Int32) * nI a = nI (10 * a) from pk_mul 10 a, nI_add, show (48 : Int32) = nI 48 from rfl, pk_sub (by rw [q2, i3] at e2; omega)]
    rw [q2, i3] at e2
    congr 1; omega
  show f_X7_readNumber_l4_b (f_X7_readNumber_l4 fl N) fl _ _ _ = _
  unfold f_X7_readNumber_l4_b
  simp (disch := omega) only [Int32.lt_iff_toInt_lt, Int32.le_iff_toInt_le, t_n14, t_n13, t_n12, t_n11, t_n10, t_n5, t_n4, t_n3, t_n2, t_n1, t_0, t_1, t_2, t_3, t_4, t_5, t_6, t_7, t_8, t_9, t_10, t_11, t_12, t_13, t_14, t_15, t_16, t_17, t_18, t_19, t_20, t_21, t_22, t_23, t_24, t_25, t_26, t_27, t_28, t_29, t_30, t_31, t_32, t_33, t_34, t_37, t_38, t_39, t_40, t_41, t_44, t_48, t_50, t_51, t_52, t_57, t_59, t_60, t_61, t_62, t_66, t_98, t_99, t_100, t_101, t_102, t_103, t_104, t_105, t_106, t_107, t_108, t_109, t_110, t_111, t_112, t_113, t_114, t_115, t_116, t_121, t_124, t_150, t_200, t_399, t_999, t_2000, vq_i, if_pos, if_neg, bn2_e, bn1_e, lt1_e, asr_t, drf_e, asr_T, gI_sI, gL_sI, gR_sI, gI_sL, gL_sL, gR_sL, gI_sR, gL_sR, gR_sR, eq_self, i32_eq, or_true, true_or, and_true, true_and, or_false, false_or, and_false, false_and, not_true, not_false_iff, if_true, if_false, gI_Pp, gI_Pf, gI_P0, gI_P16, gI_Pcc, gI_Pcl, gI_Pws, gI_Pvs, gI_Pcd, sI_Pp, sI_Pf, sI_Pcc, sI_Pcl, sI_Pws, sI_Pvs, sI_Pcd, e, e2, i1, e4, nI_1]
theorem num_e (h : fed m U n) (hp : p ≤ 300) {N a j : Nat} (hj : j ≤ 3) (hd : ¬ (j < 3 ∧ 48 ≤ lk U n p ∧ lk U n p ≤ 57)) : f_X7_readNumber_l4 fl (N + 1) (nI a) (nI j) (PM m b (nI p) (-1) ccc cl ws vs cd) = some ((nI a, nI j), PM m b (nI p) (-1) ccc cl ws vs cd) := by
  have e := look_P (fl := fl) (b := b) (ccc := ccc) (cl := cl) (ws := ws) (vs := vs) (cd := cd) h (show p ≤ 1000 by omega)
  have e2 : (ck U n p).toInt = lk U n p := rfl
  have i1 := nI_toInt (n := j) (by omega)
  show f_X7_readNumber_l4_b (f_X7_readNumber_l4 fl N) fl _ _ _ = _
  unfold f_X7_readNumber_l4_b
  by_cases c : j = 3
  · simp (disch := omega) only [Int32.lt_iff_toInt_lt, Int32.le_iff_toInt_le, t_n14, t_n13, t_n12, t_n11, t_n10, t_n5, t_n4, t_n3, t_n2, t_n1, t_0, t_1, t_2, t_3, t_4, t_5, t_6, t_7, t_8, t_9, t_10, t_11, t_12, t_13, t_14, t_15, t_16, t_17, t_18, t_19, t_20, t_21, t_22, t_23, t_24, t_25, t_26, t_27, t_28, t_29, t_30, t_31, t_32, t_33, t_34, t_37, t_38, t_39, t_40, t_41, t_44, t_48, t_50, t_51, t_52, t_57, t_59, t_60, t_61, t_62, t_66, t_98, t_99, t_100, t_101, t_102, t_103, t_104, t_105, t_106, t_107, t_108, t_109, t_110, t_111, t_112, t_113, t_114, t_115, t_116, t_121, t_124, t_150, t_200, t_399, t_999, t_2000, vq_i, if_pos, if_neg, bn2_e, bn1_e, lt1_e, asr_t, drf_e, asr_T, gI_sI, gL_sI, gR_sI, gI_sL, gL_sL, gR_sL, gI_sR, gL_sR, gR_sR, eq_self, i32_eq, or_true, true_or, and_true, true_and, or_false, false_or, and_false, false_and, not_true, not_false_iff, if_true, if_false, gI_Pp, gI_Pf, gI_P0, gI_P16, gI_Pcc, gI_Pcl, gI_Pws, gI_Pvs, gI_Pcd, sI_Pp, sI_Pf, sI_Pcc, sI_Pcl, sI_Pws, sI_Pvs, sI_Pcd, i1]
  · by_cases c2 : lk U n p < 48 <;> simp (disch := omega) only [Int32.lt_iff_toInt_lt, Int32.le_iff_toInt_le, t_n14, t_n13, t_n12, t_n11, t_n10, t_n5, t_n4, t_n3, t_n2, t_n1, t_0, t_1, t_2, t_3, t_4, t_5, t_6, t_7, t_8, t_9, t_10, t_11, t_12, t_13, t_14, t_15, t_16, t_17, t_18, t_19, t_20, t_21, t_22, t_23, t_24, t_25, t_26, t_27, t_28, t_29, t_30, t_31, t_32, t_33, t_34, t_37, t_38, t_39, t_40, t_41, t_44, t_48, t_50, t_51, t_52, t_57, t_59, t_60, t_61, t_62, t_66, t_98, t_99, t_100, t_101, t_102, t_103, t_104, t_105, t_106, t_107, t_108, t_109, t_110, t_111, t_112, t_113, t_114, t_115, t_116, t_121, t_124, t_150, t_200, t_399, t_999, t_2000, vq_i, if_pos, if_neg, bn2_e, bn1_e, lt1_e, asr_t, drf_e, asr_T, gI_sI, gL_sI, gR_sI, gI_sL, gL_sL, gR_sL, gI_sR, gL_sR, gR_sR, eq_self, i32_eq, or_true, true_or, and_true, true_and, or_false, false_or, and_false, false_and, not_true, not_false_iff, if_true, if_false, gI_Pp, gI_Pf, gI_P0, gI_P16, gI_Pcc, gI_Pcl, gI_Pws, gI_Pvs, gI_Pcd, sI_Pp, sI_Pf, sI_Pcc, sI_Pcl, sI_Pws, sI_Pvs, sI_Pcd, e, e2, i1]
theorem num_P (hfl : 1000 ≤ fl) (h : fed m U n) (hp : p ≤ 200) : f_X7_readNumber fl (PM m b (nI p) (-1) ccc cl ws vs cd) = if (pnm U n p).1 = 0 then some (0, PM m b (nI p) (nI p) ccc cl ws vs cd) else some (nI (pnm U n p).2, PM m b (nI (p + (pnm U n p).1)) (-1) ccc cl ws vs cd) := by
  obtain ⟨N, hN⟩ : ∃ N, fl = N + 4 := ⟨fl - 4, by omega⟩
  have hl : ∀ r, f_X7_readNumber_l4 fl (N + 4) (nI 0) (nI 0) (PM m b (nI p) (-1) ccc cl ws vs cd) = r → f_X7_readNumber_l4 fl fl 0 0 (PM m b (nI p) (-1) ccc cl ws vs cd) = r := by
    intro r hr
    rw [← hN] at hr
    exact hr
  unfold f_X7_readNumber pnm
  by_cases c0 : 48 ≤ lk U n p ∧ lk U n p ≤ 57
  · have d0 : dvl U n p ≤ 9 := by unfold dvl; omega
    have s0 := num_s (fl := fl) (b := b) (ccc := ccc) (cl := cl) (ws := ws) (vs := vs) (cd := cd) h (p := p) (by omega) (N := N + 3) (a := 0) (j := 0) (by omega) (by omega) c0
    rw [if_pos c0]
    by_cases c1 : 48 ≤ lk U n (p + 1) ∧ lk U n (p + 1) ≤ 57
    · have d1 : dvl U n (p + 1) ≤ 9 := by unfold dvl; omega
      have s1 := num_s (fl := fl) (b := b) (ccc := ccc) (cl := cl) (ws := ws) (vs := vs) (cd := cd) h (p := p + 1) (by omega) (N := N + 2) (a := 10 * 0 + dvl U n p) (j := 0 + 1) (by omega) (by omega) c1
      rw [if_pos c1]
      by_cases c2 : 48 ≤ lk U n (p + 2) ∧ lk U n (p + 2) ≤ 57
      · have s2 := num_s (fl := fl) (b := b) (ccc := ccc) (cl := cl) (ws := ws) (vs := vs) (cd := cd) h (p := p + 1 + 1) (by omega) (N := N + 1) (a := 10 * (10 * 0 + dvl U n p) + dvl U n (p + 1)) (j := 0 + 1 + 1) (by omega) (by omega) c2
        have s3 := num_e (fl := fl) (b := b) (ccc := ccc) (cl := cl) (ws := ws) (vs := vs) (cd := cd) h (p := p + 1 + 1 + 1) (by omega) (N := N) (a := 10 * (10 * (10 * 0 + dvl U n p) + dvl U n (p + 1)) + dvl U n (p + 1 + 1)) (j := 0 + 1 + 1 + 1) (by omega) (by omega)
        rw [if_pos c2, hl _ (s0.trans (s1.trans (s2.trans s3))), bn2_e]
        unfold f_X7_readNumber_b56
        rw [if_neg (show ¬ nI (0 + 1 + 1 + 1) = 0 by decide)]
        show some (nI (10 * (10 * (10 * 0 + dvl U n p) + dvl U n (p + 1)) + dvl U n (p + 2)), _) = some (nI (100 * dvl U n p + 10 * dvl U n (p + 1) + dvl U n (p + 2)), _)
        rw [show 10 * (10 * (10 * 0 + dvl U n p) + dvl U n (p + 1)) + dvl U n (p + 2) = 100 * dvl U n p + 10 * dvl U n (p + 1) + dvl U n (p + 2) by omega]
        try rfl
      · have s3 := num_e (fl := fl) (b := b) (ccc := ccc) (cl := cl) (ws := ws) (vs := vs) (cd := cd) h (p := p + 1 + 1) (by omega) (N := N + 1) (a := 10 * (10 * 0 + dvl U n p) + dvl U n (p + 1)) (j := 0 + 1 + 1) (by omega) (fun q => c2 q.2)
        rw [if_neg c2, hl _ (s0.trans (s1.trans s3)), bn2_e]
        unfold f_X7_readNumber_b56
        rw [if_neg (show ¬ nI (0 + 1 + 1) = 0 by decide)]
        show some (nI (10 * (10 * 0 + dvl U n p) + dvl U n (p + 1)), _) = some (nI (10 * dvl U n p + dvl U n (p + 1)), _)
        rw [show 10 * (10 * 0 + dvl U n p) + dvl U n (p + 1) = 10 * dvl U n p + dvl U n (p + 1) by omega]
        try rfl
    · have s3 := num_e (fl := fl) (b := b) (ccc := ccc) (cl := cl) (ws := ws) (vs := vs) (cd := cd) h (p := p + 1) (by omega) (N := N + 2) (a := 10 * 0 + dvl U n p) (j := 0 + 1) (by omega) (fun q => c1 q.2)
      rw [if_neg c1, hl _ (s0.trans s3), bn2_e]
      unfold f_X7_readNumber_b56
      rw [if_neg (show ¬ nI (0 + 1) = 0 by decide)]
      show some (nI (10 * 0 + dvl U n p), _) = some (nI (dvl U n p), _)
      rw [show 10 * 0 + dvl U n p = dvl U n p by omega]
      try rfl
  · have s3 := num_e (fl := fl) (b := b) (ccc := ccc) (cl := cl) (ws := ws) (vs := vs) (cd := cd) h (p := p) (by omega) (N := N + 3) (a := 0) (j := 0) (by omega) (fun q => c0 q.2)
    rw [if_neg c0, hl _ s3, bn2_e]
    unfold f_X7_readNumber_b56
    rw [if_pos rfl, fail_P, bn1_e]
    rfl
theorem num_F (hfl : 1000 ≤ fl) (hf : ¬ f.toInt = -1) : f_X7_readNumber fl (PM m b pp f ccc cl ws vs cd) = some (0, PM m b pp f ccc cl ws vs cd) := by
  obtain ⟨N, hN⟩ : ∃ N, fl = N + 1 := ⟨fl - 1, by omega⟩
  have e := look_F (fl := fl) (m := m) (b := b) (pp := pp) (ccc := ccc) (cl := cl) (ws := ws) (vs := vs) (cd := cd) hf
  have e2 : f_X7_readNumber_l4 fl (N + 1) 0 0 (PM m b pp f ccc cl ws vs cd) = some ((0, 0), PM m b pp f ccc cl ws vs cd) := by
    show f_X7_readNumber_l4_b (f_X7_readNumber_l4 fl N) fl _ _ _ = _
    unfold f_X7_readNumber_l4_b
    simp (disch := omega) only [Int32.lt_iff_toInt_lt, Int32.le_iff_toInt_le, t_n14, t_n13, t_n12, t_n11, t_n10, t_n5, t_n4, t_n3, t_n2, t_n1, t_0, t_1, t_2, t_3, t_4, t_5, t_6, t_7, t_8, t_9, t_10, t_11, t_12, t_13, t_14, t_15, t_16, t_17, t_18, t_19, t_20, t_21, t_22, t_23, t_24, t_25, t_26, t_27, t_28, t_29, t_30, t_31, t_32, t_33, t_34, t_37, t_38, t_39, t_40, t_41, t_44, t_48, t_50, t_51, t_52, t_57, t_59, t_60, t_61, t_62, t_66, t_98, t_99, t_100, t_101, t_102, t_103, t_104, t_105, t_106, t_107, t_108, t_109, t_110, t_111, t_112, t_113, t_114, t_115, t_116, t_121, t_124, t_150, t_200, t_399, t_999, t_2000, vq_i, if_pos, if_neg, bn2_e, bn1_e, lt1_e, asr_t, drf_e, asr_T, gI_sI, gL_sI, gR_sI, gI_sL, gL_sL, gR_sL, gI_sR, gL_sR, gR_sR, eq_self, i32_eq, or_true, true_or, and_true, true_and, or_false, false_or, and_false, false_and, not_true, not_false_iff, if_true, if_false, e]
  rw [← hN] at e2
  unfold f_X7_readNumber f_X7_readNumber_b56
  simp (disch := omega) only [Int32.lt_iff_toInt_lt, Int32.le_iff_toInt_le, t_n14, t_n13, t_n12, t_n11, t_n10, t_n5, t_n4, t_n3, t_n2, t_n1, t_0, t_1, t_2, t_3, t_4, t_5, t_6, t_7, t_8, t_9, t_10, t_11, t_12, t_13, t_14, t_15, t_16, t_17, t_18, t_19, t_20, t_21, t_22, t_23, t_24, t_25, t_26, t_27, t_28, t_29, t_30, t_31, t_32, t_33, t_34, t_37, t_38, t_39, t_40, t_41, t_44, t_48, t_50, t_51, t_52, t_57, t_59, t_60, t_61, t_62, t_66, t_98, t_99, t_100, t_101, t_102, t_103, t_104, t_105, t_106, t_107, t_108, t_109, t_110, t_111, t_112, t_113, t_114, t_115, t_116, t_121, t_124, t_150, t_200, t_399, t_999, t_2000, vq_i, if_pos, if_neg, bn2_e, bn1_e, lt1_e, asr_t, drf_e, asr_T, gI_sI, gL_sI, gR_sI, gI_sL, gL_sL, gR_sL, gI_sR, gL_sR, gR_sR, eq_self, i32_eq, or_true, true_or, and_true, true_and, or_false, false_or, and_false, false_and, not_true, not_false_iff, if_true, if_false, e2, fail_F hf]
end RD
theorem ltr_cases (c : Int) : (c = 116 ∧ ltr c = 0) ∨ (c = 108 ∧ ltr c = 1) ∨ (c = 99 ∧ ltr c = 2) ∨ (c = 114 ∧ ltr c = 3) ∨ (c = 100 ∧ ltr c = 4) ∨ (c = 102 ∧ ltr c = 5) ∨ ((c ≠ 116 ∧ c ≠ 108 ∧ c ≠ 99 ∧ c ≠ 114 ∧ c ≠ 100 ∧ c ≠ 102) ∧ ltr c = 6) := by
  unfold ltr
  repeat' split
  all_goals omega
theorem rlt_cases (c : Int) : (c = 60 ∧ rlt c = 0) ∨ (c = 61 ∧ rlt c = 1) ∨ (c = 62 ∧ rlt c = 2) ∨ ((c < 60 ∨ 62 < c) ∧ rlt c = 3) := by
  unfold rlt
  repeat' split
  all_goals omega
theorem letter_9 {fl : Nat} {c : Int32} {m : Mem} : f_X9_letterOf fl c m = some (if ltr c.toInt = 6 then -1 else nI (ltr c.toInt), m) := by
  unfold f_X9_letterOf
  simp only [i32_eq, t_99, t_100, t_101, t_102, t_103, t_104, t_105, t_106, t_107, t_108, t_109, t_110, t_111, t_112, t_113, t_114, t_115, t_116]
  rcases ltr_cases c.toInt with ⟨q, e⟩ | ⟨q, e⟩ | ⟨q, e⟩ | ⟨q, e⟩ | ⟨q, e⟩ | ⟨q, e⟩ | ⟨q, e⟩
  · rw [e, q]; rfl
  · rw [e, q]; rfl
  · rw [e, q]; rfl
  · rw [e, q]; rfl
  · rw [e, q]; rfl
  · rw [e, q]; rfl
  · rw [e]
    show _ = some (-1, m)
    simp (disch := omega) only [if_neg, ite_self]
theorem relation_9 {fl : Nat} {c : Int32} {m : Mem} : f_X9_relationOf fl c m = some (if rlt c.toInt = 3 then -1 else nI (rlt c.toInt), m) := by
  unfold f_X9_relationOf
  simp only [i32_eq, t_60, t_61, t_62]
  rcases rlt_cases c.toInt with ⟨q, e⟩ | ⟨q, e⟩ | ⟨q, e⟩ | ⟨q, e⟩ <;> rw [e] <;> repeat' split
  all_goals first | omega | rfl
