theorem bn2_e {α β : Type} {a : α} {m : Mem} {k : α → Mem → Option β} : bn2 (some (a, m)) k = k a m := rfl
theorem bn1_e {β : Type} {m : Mem} {k : Mem → Option β} : bn1 (some m) k = k m := rfl
theorem lt1_e {α β : Type} {a : α} {k : α → Option β} : lt1 a k = k a := rfl
theorem asr_t {β : Type} {c : Prop} [Decidable c] {k : Option β} (h : c) : asr c k = k := if_pos h
theorem asr_T {β : Type} {k : Option β} : asr True k = k := rfl
theorem drf_e {β : Type} {n j : Nat} {k : Nat → Option β} (h : j < n) : drf n (j + 1) k = k j := if_pos h
theorem vq_i {x : Int32} {n : Nat} : vq x n ↔ (0 ≤ x.toInt ∧ x.toInt < n) := vp_in_iff
theorem i32_eq {x y : Int32} : x = y ↔ x.toInt = y.toInt := Int32.toInt_inj.symm
theorem inr {x : Int32} (n : Nat) (hn : n < 2 ^ 31) : (x.toInt < 0 ∨ (n : Int) ≤ x.toInt) ∨ ∃ j : Nat, j < n ∧ x = nI j := by
  by_cases h : vp_in x n
  · exact Or.inr (vp_in_of h hn)
  · rw [vp_in_iff] at h
    exact Or.inl (by omega)
theorem t_n14 : Int32.toInt (-14) = -14 := rfl
theorem t_n13 : Int32.toInt (-13) = -13 := rfl
theorem t_n12 : Int32.toInt (-12) = -12 := rfl
theorem t_n11 : Int32.toInt (-11) = -11 := rfl
theorem t_n10 : Int32.toInt (-10) = -10 := rfl
theorem t_n5 : Int32.toInt (-5) = -5 := rfl
theorem t_n4 : Int32.toInt (-4) = -4 := rfl
theorem t_n3 : Int32.toInt (-3) = -3 := rfl
theorem t_n2 : Int32.toInt (-2) = -2 := rfl
theorem t_n1 : Int32.toInt (-1) = -1 := rfl
theorem t_0 : Int32.toInt 0 = 0 := rfl
theorem t_1 : Int32.toInt 1 = 1 := rfl
theorem t_2 : Int32.toInt 2 = 2 := rfl
theorem t_3 : Int32.toInt 3 = 3 := rfl
theorem t_4 : Int32.toInt 4 = 4 := rfl
theorem t_5 : Int32.toInt 5 = 5 := rfl
theorem t_6 : Int32.toInt 6 = 6 := rfl
theorem t_7 : Int32.toInt 7 = 7 := rfl
theorem t_8 : Int32.toInt 8 = 8 := rfl
theorem t_9 : Int32.toInt 9 = 9 := rfl
theorem t_10 : Int32.toInt 10 = 10 := rfl
theorem t_11 : Int32.toInt 11 = 11 := rfl
theorem t_12 : Int32.toInt 12 = 12 := rfl
theorem t_13 : Int32.toInt 13 = 13 := rfl
theorem t_14 : Int32.toInt 14 = 14 := rfl
theorem t_15 : Int32.toInt 15 = 15 := rfl
theorem t_16 : Int32.toInt 16 = 16 := rfl
theorem t_17 : Int32.toInt 17 = 17 := rfl
theorem t_18 : Int32.toInt 18 = 18 := rfl
theorem t_19 : Int32.toInt 19 = 19 := rfl
theorem t_20 : Int32.toInt 20 = 20 := rfl
theorem t_21 : Int32.toInt 21 = 21 := rfl
theorem t_22 : Int32.toInt 22 = 22 := rfl
theorem t_23 : Int32.toInt 23 = 23 := rfl
theorem t_24 : Int32.toInt 24 = 24 := rfl
theorem t_25 : Int32.toInt 25 = 25 := rfl
theorem t_26 : Int32.toInt 26 = 26 := rfl
theorem t_27 : Int32.toInt 27 = 27 := rfl
theorem t_28 : Int32.toInt 28 = 28 := rfl
theorem t_29 : Int32.toInt 29 = 29 := rfl
theorem t_30 : Int32.toInt 30 = 30 := rfl
theorem t_31 : Int32.toInt 31 = 31 := rfl
theorem t_32 : Int32.toInt 32 = 32 := rfl
theorem t_33 : Int32.toInt 33 = 33 := rfl
theorem t_34 : Int32.toInt 34 = 34 := rfl
theorem t_37 : Int32.toInt 37 = 37 := rfl
theorem t_38 : Int32.toInt 38 = 38 := rfl
theorem t_39 : Int32.toInt 39 = 39 := rfl
theorem t_40 : Int32.toInt 40 = 40 := rfl
theorem t_41 : Int32.toInt 41 = 41 := rfl
theorem t_44 : Int32.toInt 44 = 44 := rfl
theorem t_48 : Int32.toInt 48 = 48 := rfl
theorem t_50 : Int32.toInt 50 = 50 := rfl
theorem t_51 : Int32.toInt 51 = 51 := rfl
theorem t_52 : Int32.toInt 52 = 52 := rfl
theorem t_57 : Int32.toInt 57 = 57 := rfl
theorem t_59 : Int32.toInt 59 = 59 := rfl
theorem t_60 : Int32.toInt 60 = 60 := rfl
theorem t_61 : Int32.toInt 61 = 61 := rfl
theorem t_62 : Int32.toInt 62 = 62 := rfl
theorem t_66 : Int32.toInt 66 = 66 := rfl
theorem t_98 : Int32.toInt 98 = 98 := rfl
theorem t_99 : Int32.toInt 99 = 99 := rfl
theorem t_100 : Int32.toInt 100 = 100 := rfl
theorem t_101 : Int32.toInt 101 = 101 := rfl
theorem t_102 : Int32.toInt 102 = 102 := rfl
theorem t_103 : Int32.toInt 103 = 103 := rfl
theorem t_104 : Int32.toInt 104 = 104 := rfl
theorem t_105 : Int32.toInt 105 = 105 := rfl
theorem t_106 : Int32.toInt 106 = 106 := rfl
theorem t_107 : Int32.toInt 107 = 107 := rfl
theorem t_108 : Int32.toInt 108 = 108 := rfl
theorem t_109 : Int32.toInt 109 = 109 := rfl
theorem t_110 : Int32.toInt 110 = 110 := rfl
theorem t_111 : Int32.toInt 111 = 111 := rfl
theorem t_112 : Int32.toInt 112 = 112 := rfl
theorem t_113 : Int32.toInt 113 = 113 := rfl
theorem t_114 : Int32.toInt 114 = 114 := rfl
theorem t_115 : Int32.toInt 115 = 115 := rfl
theorem t_116 : Int32.toInt 116 = 116 := rfl
theorem t_121 : Int32.toInt 121 = 121 := rfl
theorem t_124 : Int32.toInt 124 = 124 := rfl
theorem t_150 : Int32.toInt 150 = 150 := rfl
theorem t_200 : Int32.toInt 200 = 200 := rfl
theorem t_399 : Int32.toInt 399 = 399 := rfl
theorem t_999 : Int32.toInt 999 = 999 := rfl
theorem t_2000 : Int32.toInt 2000 = 2000 := rfl

theorem in_12 {fl : Nat} {v lo hi : Int32} {m : Mem} : f_X12_in fl v lo hi m = some (if lo.toInt ≤ v.toInt ∧ v.toInt ≤ hi.toInt then 1 else 0, m) := by
  unfold f_X12_in
  by_cases h1 : v.toInt < lo.toInt <;> by_cases h2 : hi.toInt < v.toInt <;> simp (disch := omega) only [Int32.lt_iff_toInt_lt, Int32.le_iff_toInt_le, t_n14, t_n13, t_n12, t_n11, t_n10, t_n5, t_n4, t_n3, t_n2, t_n1, t_0, t_1, t_2, t_3, t_4, t_5, t_6, t_7, t_8, t_9, t_10, t_11, t_12, t_13, t_14, t_15, t_16, t_17, t_18, t_19, t_20, t_21, t_22, t_23, t_24, t_25, t_26, t_27, t_28, t_29, t_30, t_31, t_32, t_33, t_34, t_37, t_38, t_39, t_40, t_41, t_44, t_48, t_50, t_51, t_52, t_57, t_59, t_60, t_61, t_62, t_66, t_98, t_99, t_100, t_101, t_102, t_103, t_104, t_105, t_106, t_107, t_108, t_109, t_110, t_111, t_112, t_113, t_114, t_115, t_116, t_121, t_124, t_150, t_200, t_399, t_999, t_2000, vq_i, if_pos, if_neg, bn2_e, bn1_e, lt1_e, asr_t, drf_e, asr_T, gI_sI, gL_sI, gR_sI, gI_sL, gL_sL, gR_sL, gI_sR, gL_sR, gR_sR, eq_self, i32_eq, or_true, true_or, and_true, true_and, or_false, false_or, and_false, false_and, not_true, not_false_iff, if_true, if_false]
theorem isBay_12 {fl : Nat} {v : Int32} {m : Mem} : f_X12_isBay fl v m = some (if 0 ≤ v.toInt ∧ v.toInt ≤ 29 then 1 else 0, m) := by
  unfold f_X12_isBay
  simp only [in_12]
  by_cases h : 0 ≤ v.toInt ∧ v.toInt ≤ 29 <;> simp (disch := omega) only [Int32.lt_iff_toInt_lt, Int32.le_iff_toInt_le, t_n14, t_n13, t_n12, t_n11, t_n10, t_n5, t_n4, t_n3, t_n2, t_n1, t_0, t_1, t_2, t_3, t_4, t_5, t_6, t_7, t_8, t_9, t_10, t_11, t_12, t_13, t_14, t_15, t_16, t_17, t_18, t_19, t_20, t_21, t_22, t_23, t_24, t_25, t_26, t_27, t_28, t_29, t_30, t_31, t_32, t_33, t_34, t_37, t_38, t_39, t_40, t_41, t_44, t_48, t_50, t_51, t_52, t_57, t_59, t_60, t_61, t_62, t_66, t_98, t_99, t_100, t_101, t_102, t_103, t_104, t_105, t_106, t_107, t_108, t_109, t_110, t_111, t_112, t_113, t_114, t_115, t_116, t_121, t_124, t_150, t_200, t_399, t_999, t_2000, vq_i, if_pos, if_neg, bn2_e, bn1_e, lt1_e, asr_t, drf_e, asr_T, gI_sI, gL_sI, gR_sI, gI_sL, gL_sL, gR_sL, gI_sR, gL_sR, gR_sR, eq_self, i32_eq, or_true, true_or, and_true, true_and, or_false, false_or, and_false, false_and, not_true, not_false_iff, if_true, if_false]
theorem isBay_11 {fl : Nat} {v : Int32} {m : Mem} : f_X11_isBay fl v m = some (if 0 ≤ v.toInt ∧ v.toInt ≤ 29 then 1 else 0, m) := by
  unfold f_X11_isBay
  by_cases h1 : v.toInt < 0 <;> by_cases h2 : 30 ≤ v.toInt <;> first | omega | simp (disch := omega) only [Int32.lt_iff_toInt_lt, Int32.le_iff_toInt_le, t_n14, t_n13, t_n12, t_n11, t_n10, t_n5, t_n4, t_n3, t_n2, t_n1, t_0, t_1, t_2, t_3, t_4, t_5, t_6, t_7, t_8, t_9, t_10, t_11, t_12, t_13, t_14, t_15, t_16, t_17, t_18, t_19, t_20, t_21, t_22, t_23, t_24, t_25, t_26, t_27, t_28, t_29, t_30, t_31, t_32, t_33, t_34, t_37, t_38, t_39, t_40, t_41, t_44, t_48, t_50, t_51, t_52, t_57, t_59, t_60, t_61, t_62, t_66, t_98, t_99, t_100, t_101, t_102, t_103, t_104, t_105, t_106, t_107, t_108, t_109, t_110, t_111, t_112, t_113, t_114, t_115, t_116, t_121, t_124, t_150, t_200, t_399, t_999, t_2000, vq_i, if_pos, if_neg, bn2_e, bn1_e, lt1_e, asr_t, drf_e, asr_T, gI_sI, gL_sI, gR_sI, gI_sL, gL_sL, gR_sL, gI_sR, gL_sR, gR_sR, eq_self, i32_eq, or_true, true_or, and_true, true_and, or_false, false_or, and_false, false_and, not_true, not_false_iff, if_true, if_false]
