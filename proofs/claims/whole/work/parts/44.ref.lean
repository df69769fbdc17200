theorem dX12_isGang_0 : decode cX12_isGang 0 = .ok (.aload_n 0, 1) := by decide +kernel
theorem dX12_isGang_1 : decode cX12_isGang 1 = .ok (.iload_n 1, 1) := by decide +kernel
theorem dX12_isGang_2 : decode cX12_isGang 2 = .ok (.iconst 0, 1) := by decide +kernel
theorem dX12_isGang_3 : decode cX12_isGang 3 = .ok (.aload_n 0, 1) := by decide +kernel
theorem dX12_isGang_4 : decode cX12_isGang 4 = .ok (.getfield 152, 3) := by decide +kernel
theorem dX12_isGang_7 : decode cX12_isGang 7 = .ok (.iconst 1, 1) := by decide +kernel
theorem dX12_isGang_8 : decode cX12_isGang 8 = .ok (.isub, 1) := by decide +kernel
theorem dX12_isGang_9 : decode cX12_isGang 9 = .ok (.invokevirtual 3, 3) := by decide +kernel
theorem dX12_isGang_12 : decode cX12_isGang 12 = .ok (.ireturn, 1) := by decide +kernel
set_option maxRecDepth 100000 in
set_option maxHeartbeats 4000000 in
theorem c_X12_isGang {l : Launch} {K : KG} {ad : Nat → Nat → Nat} {fl : Nat} {a1 : Int32} {M0 : Mem} {r9 : Int32} {M9 : Mem} (hf : f_X12_isGang fl a1 M0 = some (r9, M9)) : Met l yX12_isGang (Cond.code yX12_isGang cX12_isGang 2 (some .boolean) :: ztb) (RM (2) 0 0) (zPc K LM ad M0 [.ref (ad 0 0), .int a1]) (zQ K LM ad (some (.int r9)) M9) 0 0 (zA ad) := by
  refine z_enter (by decide) (Nat.le_of_ble_eq_true rfl) ?_
  intro p e s m args below meth c ls C hin hargs Z hl
  replace C : Cx p s m args meth c cX12_isGang 2 "GlassPalaceModel" (some .boolean) := C
  replace hl : lv_has ls 2 [(0, .ref (ad 0 0)), (1, .int a1)] := hl
  have hR : 2 ≤ (RM (2) 0 0).frames ∧ 40 * (2) ≤ (RM (2) 0 0).locals := ⟨Nat.le_refl _, Nat.le_refl _⟩
  have hB : 0 ≤ (RM (2) 0 0).cells ∧ 0 ≤ (RM (2) 0 0).slots := ⟨Nat.zero_le _, Nat.zero_le _⟩
  unfold f_X12_isGang at hf
  refine lv_aload_n C.x C.b dX12_isGang_0 rfl (lv_at hl 0 rfl) ?_
  refine lv_iload_n C.x C.b dX12_isGang_1 rfl (lv_at hl 1 rfl) ?_
  refine lv_iconst (v := 0) C.x C.b dX12_isGang_2 (by decide) ?_
  refine lv_aload_n C.x C.b dX12_isGang_3 rfl (lv_at hl 0 rfl) ?_
  refine z_get C Z (lvM0 Nat.zero_lt_one) kM0 zc12 zin12 44 (by decide) k_1220 rfl svM0_44 dX12_isGang_4 ?_
  refine lv_iconst (v := 1) C.x C.b dX12_isGang_7 (by decide) ?_
  refine lv_isub C.x C.b dX12_isGang_8 ?_
  replace hf := bn2_s hf; obtain ⟨v2, m1, hkm1, hf⟩ := hf
  refine z_cV (As := [.int a1, .int 0, .int ((gI M0 0 0 44) - 1)]) (rest := []) (st1 := [.int v2]) C Z mw_X12_in mv_X12_in k_1398 (by decide) (z_hR hR (by decide)) (lvM0 Nat.zero_lt_one) kM0 zc12 (c_X12_in (l := l) (K := K) (ad := ad) hkm1) rfl hl.1 rfl (Nat.le_of_ble_eq_true rfl) dX12_isGang_9 hB rfl (fun H locs Z => ?_)
  replace hf := asr_s hf; obtain ⟨hq3, hf⟩ := hf
  obtain ⟨rfl, rfl⟩ := pr_s hf
  exact z_zret C Z (jz01 hq3) dX12_isGang_12
theorem dX12_paceOf_0 : decode cX12_paceOf 0 = .ok (.aload_n 0, 1) := by decide +kernel
theorem dX12_paceOf_1 : decode cX12_paceOf 1 = .ok (.getfield 158, 3) := by decide +kernel
theorem dX12_paceOf_4 : decode cX12_paceOf 4 = .ok (.iload_n 1, 1) := by decide +kernel
theorem dX12_paceOf_5 : decode cX12_paceOf 5 = .ok (.iaload, 1) := by decide +kernel
theorem dX12_paceOf_6 : decode cX12_paceOf 6 = .ok (.aload_n 0, 1) := by decide +kernel
theorem dX12_paceOf_7 : decode cX12_paceOf 7 = .ok (.getfield 161, 3) := by decide +kernel
theorem dX12_paceOf_10 : decode cX12_paceOf 10 = .ok (.iload_n 1, 1) := by decide +kernel
theorem dX12_paceOf_11 : decode cX12_paceOf 11 = .ok (.iaload, 1) := by decide +kernel
theorem dX12_paceOf_12 : decode cX12_paceOf 12 = .ok (.bipush 10, 2) := by decide +kernel
theorem dX12_paceOf_14 : decode cX12_paceOf 14 = .ok (.idiv, 1) := by decide +kernel
theorem dX12_paceOf_15 : decode cX12_paceOf 15 = .ok (.iadd, 1) := by decide +kernel
theorem dX12_paceOf_16 : decode cX12_paceOf 16 = .ok (.istore_n 2, 1) := by decide +kernel
theorem dX12_paceOf_17 : decode cX12_paceOf 17 = .ok (.iload_n 2, 1) := by decide +kernel
theorem dX12_paceOf_18 : decode cX12_paceOf 18 = .ok (.bipush 20, 2) := by decide +kernel
theorem dX12_paceOf_20 : decode cX12_paceOf 20 = .ok (.if_icmp .le 8, 3) := by decide +kernel
theorem dX12_paceOf_23 : decode cX12_paceOf 23 = .ok (.bipush 20, 2) := by decide +kernel
theorem dX12_paceOf_25 : decode cX12_paceOf 25 = .ok (.goto 4, 3) := by decide +kernel
theorem dX12_paceOf_28 : decode cX12_paceOf 28 = .ok (.iload_n 2, 1) := by decide +kernel
theorem dX12_paceOf_29 : decode cX12_paceOf 29 = .ok (.ireturn, 1) := by decide +kernel
set_option maxRecDepth 100000 in
set_option maxHeartbeats 4000000 in
theorem c_X12_paceOf {l : Launch} {K : KG} {ad : Nat → Nat → Nat} {fl : Nat} {a1 : Int32} {M0 : Mem} {r9 : Int32} {M9 : Mem} (hf : f_X12_paceOf fl a1 M0 = some (r9, M9)) : Met l yX12_paceOf (Cond.code yX12_paceOf cX12_paceOf 3 (some .int) :: ztb) (RM (1) 0 0) (zPc K LM ad M0 [.ref (ad 0 0), .int a1]) (zQ K LM ad (some (.int r9)) M9) 0 0 (zA ad) := by
  refine z_enter (by decide) (Nat.le_of_ble_eq_true rfl) ?_
  intro p e s m args below meth c ls C hin hargs Z hl
  replace C : Cx p s m args meth c cX12_paceOf 3 "GlassPalaceModel" (some .int) := C
  replace hl : lv_has ls 3 [(0, .ref (ad 0 0)), (1, .int a1)] := hl
  have hR : 1 ≤ (RM (1) 0 0).frames ∧ 40 * (1) ≤ (RM (1) 0 0).locals := ⟨Nat.le_refl _, Nat.le_refl _⟩
  have hB : 0 ≤ (RM (1) 0 0).cells ∧ 0 ≤ (RM (1) 0 0).slots := ⟨Nat.zero_le _, Nat.zero_le _⟩
  unfold f_X12_paceOf at hf
  refine lv_aload_n C.x C.b dX12_paceOf_0 rfl (lv_at hl 0 rfl) ?_
  refine z_get C Z (lvM0 Nat.zero_lt_one) kM0 zc12 zin12 46 (by decide) k_1222 rfl svM0_46 dX12_paceOf_1 ?_
  refine lv_iload_n C.x C.b dX12_paceOf_4 rfl (lv_at hl 1 rfl) ?_
  replace hf := asr_s hf; obtain ⟨hq1, hf⟩ := hf
  refine z_iald C Z (lvM33 Nat.zero_lt_one) kM33 hq1 svM33 dX12_paceOf_5 ?_
  refine lv_aload_n C.x C.b dX12_paceOf_6 rfl (lv_at hl 0 rfl) ?_
  refine z_get C Z (lvM0 Nat.zero_lt_one) kM0 zc12 zin12 47 (by decide) k_1223 rfl svM0_47 dX12_paceOf_7 ?_
  refine lv_iload_n C.x C.b dX12_paceOf_10 rfl (lv_at hl 1 rfl) ?_
  replace hf := asr_s hf; obtain ⟨hq2, hf⟩ := hf
  refine z_iald C Z (lvM34 Nat.zero_lt_one) kM34 hq2 svM34 dX12_paceOf_11 ?_
  refine lv_bipush (v := 10) C.x C.b dX12_paceOf_12 (by decide) ?_
  refine lv_idiv C.x C.b dX12_paceOf_14 (by decide) ?_
  refine lv_iadd C.x C.b dX12_paceOf_15 ?_
  replace hf := lt1_s hf; obtain ⟨x3, ex3, hf⟩ := hf
  refine z_renI ex3 ?_
  refine z_istore_n (lv' := [(2, .int x3), (0, .ref (ad 0 0)), (1, .int a1)]) C dX12_paceOf_16 rfl hl (by decide) rfl (onlast 1 rfl rfl rfl) (fun ls hl => ?_)
  refine lv_iload_n C.x C.b dX12_paceOf_17 rfl (lv_at hl 0 rfl) ?_
  refine lv_bipush (v := 20) C.x C.b dX12_paceOf_18 (by decide) ?_
  refine lv_icmp_le (tgt := 28) C.x C.b dX12_paceOf_20 (by decide) (fun hc4 => ?_) (fun hc4 => ?_)
  · replace hf := ite_t hf hc4
    refine lv_iload_n C.x C.b dX12_paceOf_28 rfl (lv_at hl 0 rfl) ?_
    obtain ⟨rfl, rfl⟩ := pr_s hf
    exact z_iret C Z dX12_paceOf_29
  · replace hf := ite_f hf hc4
    refine lv_bipush (v := 20) C.x C.b dX12_paceOf_23 (by decide) ?_
    refine lv_goto (tgt := 29) C.x C.b dX12_paceOf_25 (by decide) ?_
    obtain ⟨rfl, rfl⟩ := pr_s hf
    exact z_iret C Z dX12_paceOf_29
theorem dX12_pace_0 : decode cX12_pace 0 = .ok (.aload_n 0, 1) := by decide +kernel
theorem dX12_pace_1 : decode cX12_pace 1 = .ok (.iload_n 1, 1) := by decide +kernel
theorem dX12_pace_2 : decode cX12_pace 2 = .ok (.invokevirtual 353, 3) := by decide +kernel
theorem dX12_pace_5 : decode cX12_pace 5 = .ok (.ifCond .eq 11, 3) := by decide +kernel
theorem dX12_pace_8 : decode cX12_pace 8 = .ok (.aload_n 0, 1) := by decide +kernel
theorem dX12_pace_9 : decode cX12_pace 9 = .ok (.iload_n 1, 1) := by decide +kernel
theorem dX12_pace_10 : decode cX12_pace 10 = .ok (.invokevirtual 356, 3) := by decide +kernel
theorem dX12_pace_13 : decode cX12_pace 13 = .ok (.goto 4, 3) := by decide +kernel
theorem dX12_pace_16 : decode cX12_pace 16 = .ok (.iconst (-1), 1) := by decide +kernel
theorem dX12_pace_17 : decode cX12_pace 17 = .ok (.ireturn, 1) := by decide +kernel
set_option maxRecDepth 100000 in
set_option maxHeartbeats 4000000 in
theorem c_X12_pace {l : Launch} {K : KG} {ad : Nat → Nat → Nat} {fl : Nat} {a1 : Int32} {M0 : Mem} {r9 : Int32} {M9 : Mem} (hf : f_X12_pace fl a1 M0 = some (r9, M9)) : Met l yX12_pace (Cond.code yX12_pace cX12_pace 2 (some .int) :: ztb) (RM (3) 0 0) (zPc K LM ad M0 [.ref (ad 0 0), .int a1]) (zQ K LM ad (some (.int r9)) M9) 0 0 (zA ad) := by
  refine z_enter (by decide) (Nat.le_of_ble_eq_true rfl) ?_
  intro p e s m args below meth c ls C hin hargs Z hl
  replace C : Cx p s m args meth c cX12_pace 2 "GlassPalaceModel" (some .int) := C
  replace hl : lv_has ls 2 [(0, .ref (ad 0 0)), (1, .int a1)] := hl
  have hR : 3 ≤ (RM (3) 0 0).frames ∧ 40 * (3) ≤ (RM (3) 0 0).locals := ⟨Nat.le_refl _, Nat.le_refl _⟩
  have hB : 0 ≤ (RM (3) 0 0).cells ∧ 0 ≤ (RM (3) 0 0).slots := ⟨Nat.zero_le _, Nat.zero_le _⟩
  unfold f_X12_pace at hf
  refine lv_aload_n C.x C.b dX12_pace_0 rfl (lv_at hl 0 rfl) ?_
  refine lv_iload_n C.x C.b dX12_pace_1 rfl (lv_at hl 1 rfl) ?_
  replace hf := bn2_s hf; obtain ⟨v2, m1, hkm1, hf⟩ := hf
  refine z_cV (As := [.int a1]) (rest := []) (st1 := [.int v2]) C Z mw_X12_isGang mv_X12_isGang k_1653 (by decide) (z_hR hR (by decide)) (lvM0 Nat.zero_lt_one) kM0 zc12 (c_X12_isGang (l := l) (K := K) (ad := ad) hkm1) rfl hl.1 rfl (Nat.le_of_ble_eq_true rfl) dX12_pace_2 hB rfl (fun H locs Z => ?_)
  refine lv_if_eq (tgt := 16) C.x C.b dX12_pace_5 (by decide) (fun hc3 => ?_) (fun hc3 => ?_)
  · replace hf := ite_t hf hc3
    refine lv_iconst (v := (-1)) C.x C.b dX12_pace_16 (by decide) ?_
    obtain ⟨rfl, rfl⟩ := pr_s hf
    exact z_iret C Z dX12_pace_17
  · replace hf := ite_f hf hc3
    refine lv_aload_n C.x C.b dX12_pace_8 rfl (lv_at hl 0 rfl) ?_
    refine lv_iload_n C.x C.b dX12_pace_9 rfl (lv_at hl 1 rfl) ?_
    replace hf := bn2_s hf; obtain ⟨v5, m4, hkm4, hf⟩ := hf
    refine z_cV (As := [.int a1]) (rest := []) (st1 := [.int v5]) C Z mw_X12_paceOf mv_X12_paceOf k_1657 (by decide) (z_hR hR (by decide)) (lvM0 Nat.zero_lt_one) kM0 zc12 (c_X12_paceOf (l := l) (K := K) (ad := ad) hkm4) rfl hl.1 rfl (Nat.le_of_ble_eq_true rfl) dX12_pace_10 hB rfl (fun H locs Z => ?_)
    refine lv_goto (tgt := 17) C.x C.b dX12_pace_13 (by decide) ?_
    obtain ⟨rfl, rfl⟩ := pr_s hf
    exact z_iret C Z dX12_pace_17
theorem dX12_work_0 : decode cX12_work 0 = .ok (.aload_n 0, 1) := by decide +kernel
theorem dX12_work_1 : decode cX12_work 1 = .ok (.iload_n 1, 1) := by decide +kernel
theorem dX12_work_2 : decode cX12_work 2 = .ok (.invokevirtual 353, 3) := by decide +kernel
theorem dX12_work_5 : decode cX12_work 5 = .ok (.ifCond .eq 19, 3) := by decide +kernel
theorem dX12_work_8 : decode cX12_work 8 = .ok (.aload_n 0, 1) := by decide +kernel
theorem dX12_work_9 : decode cX12_work 9 = .ok (.iload_n 2, 1) := by decide +kernel
theorem dX12_work_10 : decode cX12_work 10 = .ok (.invokevirtual 241, 3) := by decide +kernel
theorem dX12_work_13 : decode cX12_work 13 = .ok (.ifCond .eq 11, 3) := by decide +kernel
theorem dX12_work_16 : decode cX12_work 16 = .ok (.aload_n 0, 1) := by decide +kernel
theorem dX12_work_17 : decode cX12_work 17 = .ok (.iload_n 3, 1) := by decide +kernel
theorem dX12_work_18 : decode cX12_work 18 = .ok (.invokevirtual 251, 3) := by decide +kernel
theorem dX12_work_21 : decode cX12_work 21 = .ok (.ifCond .ne 5, 3) := by decide +kernel
theorem dX12_work_24 : decode cX12_work 24 = .ok (.iconst (-1), 1) := by decide +kernel
theorem dX12_work_25 : decode cX12_work 25 = .ok (.ireturn, 1) := by decide +kernel
theorem dX12_work_26 : decode cX12_work 26 = .ok (.aload_n 0, 1) := by decide +kernel
theorem dX12_work_27 : decode cX12_work 27 = .ok (.getfield 37, 3) := by decide +kernel
theorem dX12_work_30 : decode cX12_work 30 = .ok (.iload_n 3, 1) := by decide +kernel
theorem dX12_work_31 : decode cX12_work 31 = .ok (.iaload, 1) := by decide +kernel
theorem dX12_work_32 : decode cX12_work 32 = .ok (.ifCond .eq 22, 3) := by decide +kernel
theorem dX12_work_35 : decode cX12_work 35 = .ok (.aload_n 0, 1) := by decide +kernel
theorem dX12_work_36 : decode cX12_work 36 = .ok (.aload_n 0, 1) := by decide +kernel
theorem dX12_work_37 : decode cX12_work 37 = .ok (.getfield 37, 3) := by decide +kernel
theorem dX12_work_40 : decode cX12_work 40 = .ok (.iload_n 3, 1) := by decide +kernel
theorem dX12_work_41 : decode cX12_work 41 = .ok (.iaload, 1) := by decide +kernel
theorem dX12_work_42 : decode cX12_work 42 = .ok (.invokevirtual 270, 3) := by decide +kernel
theorem dX12_work_45 : decode cX12_work 45 = .ok (.aload_n 0, 1) := by decide +kernel
theorem dX12_work_46 : decode cX12_work 46 = .ok (.getfield 155, 3) := by decide +kernel
theorem dX12_work_49 : decode cX12_work 49 = .ok (.iload_n 1, 1) := by decide +kernel
theorem dX12_work_50 : decode cX12_work 50 = .ok (.iaload, 1) := by decide +kernel
theorem dX12_work_51 : decode cX12_work 51 = .ok (.if_icmp .eq 6, 3) := by decide +kernel
theorem dX12_work_54 : decode cX12_work 54 = .ok (.bipush (-12), 2) := by decide +kernel
theorem dX12_work_56 : decode cX12_work 56 = .ok (.ireturn, 1) := by decide +kernel
theorem dX12_work_57 : decode cX12_work 57 = .ok (.aload_n 0, 1) := by decide +kernel
theorem dX12_work_58 : decode cX12_work 58 = .ok (.getfield 164, 3) := by decide +kernel
theorem dX12_work_61 : decode cX12_work 61 = .ok (.iload_n 1, 1) := by decide +kernel
theorem dX12_work_62 : decode cX12_work 62 = .ok (.iaload, 1) := by decide +kernel
theorem dX12_work_63 : decode cX12_work 63 = .ok (.ifCond .ge 12, 3) := by decide +kernel
theorem dX12_work_66 : decode cX12_work 66 = .ok (.aload_n 0, 1) := by decide +kernel
theorem dX12_work_67 : decode cX12_work 67 = .ok (.getfield 167, 3) := by decide +kernel
theorem dX12_work_70 : decode cX12_work 70 = .ok (.iload_n 2, 1) := by decide +kernel
theorem dX12_work_71 : decode cX12_work 71 = .ok (.baload, 1) := by decide +kernel
theorem dX12_work_72 : decode cX12_work 72 = .ok (.ifCond .eq 7, 3) := by decide +kernel
theorem dX12_work_75 : decode cX12_work 75 = .ok (.iconst 1, 1) := by decide +kernel
theorem dX12_work_76 : decode cX12_work 76 = .ok (.goto 4, 3) := by decide +kernel
theorem dX12_work_79 : decode cX12_work 79 = .ok (.iconst 0, 1) := by decide +kernel
theorem dX12_work_80 : decode cX12_work 80 = .ok (.istore 4, 2) := by decide +kernel
theorem dX12_work_82 : decode cX12_work 82 = .ok (.iconst 0, 1) := by decide +kernel
theorem dX12_work_83 : decode cX12_work 83 = .ok (.istore 5, 2) := by decide +kernel
theorem dX12_work_85 : decode cX12_work 85 = .ok (.iload 5, 2) := by decide +kernel
theorem dX12_work_87 : decode cX12_work 87 = .ok (.bipush 30, 2) := by decide +kernel
theorem dX12_work_89 : decode cX12_work 89 = .ok (.if_icmp .ge 61, 3) := by decide +kernel
theorem dX12_work_92 : decode cX12_work 92 = .ok (.iload 4, 2) := by decide +kernel
theorem dX12_work_94 : decode cX12_work 94 = .ok (.ifCond .ne 43, 3) := by decide +kernel
theorem dX12_work_97 : decode cX12_work 97 = .ok (.aload_n 0, 1) := by decide +kernel
theorem dX12_work_98 : decode cX12_work 98 = .ok (.iload_n 2, 1) := by decide +kernel
theorem dX12_work_99 : decode cX12_work 99 = .ok (.iload 5, 2) := by decide +kernel
theorem dX12_work_101 : decode cX12_work 101 = .ok (.invokevirtual 347, 3) := by decide +kernel
theorem dX12_work_104 : decode cX12_work 104 = .ok (.ifCond .eq 37, 3) := by decide +kernel
theorem dX12_work_107 : decode cX12_work 107 = .ok (.aload_n 0, 1) := by decide +kernel
theorem dX12_work_108 : decode cX12_work 108 = .ok (.getfield 170, 3) := by decide +kernel
theorem dX12_work_111 : decode cX12_work 111 = .ok (.iload 5, 2) := by decide +kernel
theorem dX12_work_113 : decode cX12_work 113 = .ok (.baload, 1) := by decide +kernel
theorem dX12_work_114 : decode cX12_work 114 = .ok (.ifCond .ne 23, 3) := by decide +kernel
theorem dX12_work_117 : decode cX12_work 117 = .ok (.aload_n 0, 1) := by decide +kernel
theorem dX12_work_118 : decode cX12_work 118 = .ok (.getfield 155, 3) := by decide +kernel
theorem dX12_work_121 : decode cX12_work 121 = .ok (.iload_n 1, 1) := by decide +kernel
theorem dX12_work_122 : decode cX12_work 122 = .ok (.iaload, 1) := by decide +kernel
theorem dX12_work_123 : decode cX12_work 123 = .ok (.iconst 2, 1) := by decide +kernel
theorem dX12_work_124 : decode cX12_work 124 = .ok (.if_icmp .ne 17, 3) := by decide +kernel
theorem dX12_work_127 : decode cX12_work 127 = .ok (.aload_n 0, 1) := by decide +kernel
theorem dX12_work_128 : decode cX12_work 128 = .ok (.getfield 167, 3) := by decide +kernel
theorem dX12_work_131 : decode cX12_work 131 = .ok (.iload 5, 2) := by decide +kernel
theorem dX12_work_133 : decode cX12_work 133 = .ok (.baload, 1) := by decide +kernel
theorem dX12_work_134 : decode cX12_work 134 = .ok (.ifCond .eq 7, 3) := by decide +kernel
theorem dX12_work_137 : decode cX12_work 137 = .ok (.iconst 1, 1) := by decide +kernel
theorem dX12_work_138 : decode cX12_work 138 = .ok (.goto 4, 3) := by decide +kernel
theorem dX12_work_141 : decode cX12_work 141 = .ok (.iconst 0, 1) := by decide +kernel
theorem dX12_work_142 : decode cX12_work 142 = .ok (.istore 4, 2) := by decide +kernel
theorem dX12_work_144 : decode cX12_work 144 = .ok (.iinc 5 1, 3) := by decide +kernel
theorem dX12_work_147 : decode cX12_work 147 = .ok (.goto (-62), 3) := by decide +kernel
theorem dX12_work_150 : decode cX12_work 150 = .ok (.iload 4, 2) := by decide +kernel
theorem dX12_work_152 : decode cX12_work 152 = .ok (.ifCond .eq 6, 3) := by decide +kernel
theorem dX12_work_155 : decode cX12_work 155 = .ok (.bipush (-3), 2) := by decide +kernel
theorem dX12_work_157 : decode cX12_work 157 = .ok (.ireturn, 1) := by decide +kernel
theorem dX12_work_158 : decode cX12_work 158 = .ok (.aload_n 0, 1) := by decide +kernel
theorem dX12_work_159 : decode cX12_work 159 = .ok (.iload_n 3, 1) := by decide +kernel
theorem dX12_work_160 : decode cX12_work 160 = .ok (.iload_n 2, 1) := by decide +kernel
theorem dX12_work_161 : decode cX12_work 161 = .ok (.invokevirtual 273, 3) := by decide +kernel
theorem dX12_work_164 : decode cX12_work 164 = .ok (.iconst 1, 1) := by decide +kernel
theorem dX12_work_165 : decode cX12_work 165 = .ok (.if_icmp .eq 10, 3) := by decide +kernel
theorem dX12_work_168 : decode cX12_work 168 = .ok (.aload_n 0, 1) := by decide +kernel
theorem dX12_work_169 : decode cX12_work 169 = .ok (.iload_n 3, 1) := by decide +kernel
theorem dX12_work_170 : decode cX12_work 170 = .ok (.iload_n 2, 1) := by decide +kernel
theorem dX12_work_171 : decode cX12_work 171 = .ok (.invokevirtual 273, 3) := by decide +kernel
theorem dX12_work_174 : decode cX12_work 174 = .ok (.ireturn, 1) := by decide +kernel
theorem dX12_work_175 : decode cX12_work 175 = .ok (.aload_n 0, 1) := by decide +kernel
theorem dX12_work_176 : decode cX12_work 176 = .ok (.iload_n 1, 1) := by decide +kernel
theorem dX12_work_177 : decode cX12_work 177 = .ok (.invokevirtual 356, 3) := by decide +kernel
theorem dX12_work_180 : decode cX12_work 180 = .ok (.istore 5, 2) := by decide +kernel
theorem dX12_work_182 : decode cX12_work 182 = .ok (.iconst 0, 1) := by decide +kernel
theorem dX12_work_183 : decode cX12_work 183 = .ok (.istore 6, 2) := by decide +kernel
theorem dX12_work_185 : decode cX12_work 185 = .ok (.iload 6, 2) := by decide +kernel
theorem dX12_work_187 : decode cX12_work 187 = .ok (.iload 5, 2) := by decide +kernel
theorem dX12_work_189 : decode cX12_work 189 = .ok (.if_icmp .ge 25, 3) := by decide +kernel
theorem dX12_work_192 : decode cX12_work 192 = .ok (.aload_n 0, 1) := by decide +kernel
theorem dX12_work_193 : decode cX12_work 193 = .ok (.iload_n 3, 1) := by decide +kernel
theorem dX12_work_194 : decode cX12_work 194 = .ok (.iload_n 2, 1) := by decide +kernel
theorem dX12_work_195 : decode cX12_work 195 = .ok (.invokevirtual 273, 3) := by decide +kernel
theorem dX12_work_198 : decode cX12_work 198 = .ok (.iconst 1, 1) := by decide +kernel
theorem dX12_work_199 : decode cX12_work 199 = .ok (.if_icmp .ne 15, 3) := by decide +kernel
theorem dX12_work_202 : decode cX12_work 202 = .ok (.aload_n 0, 1) := by decide +kernel
theorem dX12_work_203 : decode cX12_work 203 = .ok (.iload_n 3, 1) := by decide +kernel
theorem dX12_work_204 : decode cX12_work 204 = .ok (.iload_n 2, 1) := by decide +kernel
theorem dX12_work_205 : decode cX12_work 205 = .ok (.invokevirtual 276, 3) := by decide +kernel
theorem dX12_work_208 : decode cX12_work 208 = .ok (.iinc 6 1, 3) := by decide +kernel
theorem dX12_work_211 : decode cX12_work 211 = .ok (.goto (-26), 3) := by decide +kernel
theorem dX12_work_214 : decode cX12_work 214 = .ok (.aload_n 0, 1) := by decide +kernel
theorem dX12_work_215 : decode cX12_work 215 = .ok (.getfield 164, 3) := by decide +kernel
theorem dX12_work_218 : decode cX12_work 218 = .ok (.iload_n 1, 1) := by decide +kernel
theorem dX12_work_219 : decode cX12_work 219 = .ok (.iload_n 2, 1) := by decide +kernel
theorem dX12_work_220 : decode cX12_work 220 = .ok (.iastore, 1) := by decide +kernel
theorem dX12_work_221 : decode cX12_work 221 = .ok (.aload_n 0, 1) := by decide +kernel
theorem dX12_work_222 : decode cX12_work 222 = .ok (.getfield 167, 3) := by decide +kernel
theorem dX12_work_225 : decode cX12_work 225 = .ok (.iload_n 2, 1) := by decide +kernel
theorem dX12_work_226 : decode cX12_work 226 = .ok (.iconst 1, 1) := by decide +kernel
theorem dX12_work_227 : decode cX12_work 227 = .ok (.bastore, 1) := by decide +kernel
theorem dX12_work_228 : decode cX12_work 228 = .ok (.aload_n 0, 1) := by decide +kernel
theorem dX12_work_229 : decode cX12_work 229 = .ok (.getfield 170, 3) := by decide +kernel
theorem dX12_work_232 : decode cX12_work 232 = .ok (.iload_n 2, 1) := by decide +kernel
theorem dX12_work_233 : decode cX12_work 233 = .ok (.aload_n 0, 1) := by decide +kernel
theorem dX12_work_234 : decode cX12_work 234 = .ok (.getfield 155, 3) := by decide +kernel
theorem dX12_work_237 : decode cX12_work 237 = .ok (.iload_n 1, 1) := by decide +kernel
theorem dX12_work_238 : decode cX12_work 238 = .ok (.iaload, 1) := by decide +kernel
theorem dX12_work_239 : decode cX12_work 239 = .ok (.iconst 2, 1) := by decide +kernel
theorem dX12_work_240 : decode cX12_work 240 = .ok (.if_icmp .ne 7, 3) := by decide +kernel
theorem dX12_work_243 : decode cX12_work 243 = .ok (.iconst 1, 1) := by decide +kernel
theorem dX12_work_244 : decode cX12_work 244 = .ok (.goto 4, 3) := by decide +kernel
theorem dX12_work_247 : decode cX12_work 247 = .ok (.iconst 0, 1) := by decide +kernel
theorem dX12_work_248 : decode cX12_work 248 = .ok (.bastore, 1) := by decide +kernel
theorem dX12_work_249 : decode cX12_work 249 = .ok (.aload_n 0, 1) := by decide +kernel
theorem dX12_work_250 : decode cX12_work 250 = .ok (.getfield 161, 3) := by decide +kernel
theorem dX12_work_253 : decode cX12_work 253 = .ok (.iload_n 1, 1) := by decide +kernel
theorem dX12_work_254 : decode cX12_work 254 = .ok (.dup2, 1) := by decide +kernel
theorem dX12_work_255 : decode cX12_work 255 = .ok (.iaload, 1) := by decide +kernel
theorem dX12_work_256 : decode cX12_work 256 = .ok (.iload 6, 2) := by decide +kernel
theorem dX12_work_258 : decode cX12_work 258 = .ok (.iadd, 1) := by decide +kernel
theorem dX12_work_259 : decode cX12_work 259 = .ok (.iastore, 1) := by decide +kernel
theorem dX12_work_260 : decode cX12_work 260 = .ok (.iload 6, 2) := by decide +kernel
theorem dX12_work_262 : decode cX12_work 262 = .ok (.ireturn, 1) := by decide +kernel
set_option maxRecDepth 100000 in
set_option maxHeartbeats 4000000 in
theorem w_X12_work_l85 {p : Program} {l : Launch} {e : Env} {R : Room} {s : State} {m : MethodId} {args : Array Value} {below : List Frame} {meth : Method} {c : Code} {cells slots : Nat} {Q : State → Prop} {K : KG} {ad : Nat → Nat → Nat} {fl : Nat} {g1 : Int32} {g2 : Int32} {g3 : Int32} (C : Cx p s m args meth c cX12_work 7 "GlassPalaceModel" (some .int)) (hR : 12 ≤ R.frames ∧ 40 * (12) ≤ R.locals) (hB : cells ≤ R.cells ∧ slots ≤ R.slots) : ∀ (n : Nat) (u4 : Int32) (u5 : Int32) (M0 : Mem) (H : Heap) (locs : List Loc) (ls : Array Slot), Zd K LM ad M0 s H locs → lv_has ls 7 [(0, .ref (ad 0 0)), (1, .int g1), (2, .int g2), (3, .int g3), (4, .int u4), (5, .int u5)] → ∀ (q : Int32) (Mq : Mem), f_X12_work_l85 fl g1 g2 g3 n u4 u5 M0 = some (q, Mq) → (∀ (H : Heap) (locs : List Loc) (ls : Array Slot), Zd K LM ad Mq s H locs → lv_has ls 7 [(0, .ref (ad 0 0)), (1, .int g1), (2, .int g2), (3, .int g3), (4, .int q)] → W p l e R s m args below meth c H locs cells slots Q (F0 m 150 ls [])) → W p l e R s m args below meth c H locs cells slots Q (F0 m 85 ls []) := by
  intro n
  induction n with
  | zero =>
    intro u4 u5 M0 H locs ls Z hl q Mq hf
    have hf : (none : Option (Int32 × Mem)) = some (q, Mq) := hf
    cases hf
  | succ n ih =>
    intro u4 u5 M0 H locs ls Z hl q Mq hf kx0
    replace hf : f_X12_work_l85_b (f_X12_work_l85 fl g1 g2 g3 n) fl g1 g2 g3 u4 u5 M0 = some (q, Mq) := hf
    unfold f_X12_work_l85_b at hf
    refine lv_iload C.x C.b dX12_work_85 (lv_at hl 5 rfl) ?_
    refine lv_bipush (v := 30) C.x C.b dX12_work_87 (by decide) ?_
    refine lv_icmp_ge (tgt := 150) C.x C.b dX12_work_89 (by decide) (fun hc20 => ?_) (fun hc20 => ?_)
    · replace hf := ite_t hf hc20
      obtain ⟨rfl, rfl⟩ := pr_s hf
      exact kx0 _ _ _ Z (lv_sub hl [0, 1, 2, 3, 4] rfl)
    · replace hf := ite_f hf hc20
      refine lv_iload C.x C.b dX12_work_92 (lv_at hl 4 rfl) ?_
      refine lv_if_ne (tgt := 137) C.x C.b dX12_work_94 (by decide) (fun hc21 => ?_) (fun hc21 => ?_)
      · replace hf := ite_f hf hc21
        refine lv_iconst (v := 1) C.x C.b dX12_work_137 (by decide) ?_
        refine lv_goto (tgt := 142) C.x C.b dX12_work_138 (by decide) ?_
        refine z_istore (lv' := [(4, .int 1), (0, .ref (ad 0 0)), (1, .int g1), (2, .int g2), (3, .int g3), (5, .int u5)]) C dX12_work_142 hl (by decide) rfl (onlast 3 rfl rfl rfl) (fun ls hl => ?_)
        replace hf := lt1_s hf; obtain ⟨x22, ex22, hf⟩ := hf
        refine z_iinc (v := x22) (lv' := [(5, .int x22), (4, .int 1), (0, .ref (ad 0 0)), (1, .int g1), (2, .int g2), (3, .int g3)]) C dX12_work_144 hl (k := 5) rfl (by rw [ex22]; rfl) (by decide) rfl (onlast 0 rfl rfl rfl) (fun ls hl => ?_)
        refine lv_goto (tgt := 85) C.x C.b dX12_work_147 (by decide) ?_
        exact ih _ _ _ _ _ _ Z (lv_sub hl [2, 3, 4, 5, 1, 0] rfl) _ _ hf kx0
      · replace hf := ite_t hf hc21
        refine lv_aload_n C.x C.b dX12_work_97 rfl (lv_at hl 0 rfl) ?_
        refine lv_iload_n C.x C.b dX12_work_98 rfl (lv_at hl 2 rfl) ?_
        refine lv_iload C.x C.b dX12_work_99 (lv_at hl 5 rfl) ?_
        replace hf := bn2_s hf; obtain ⟨v24, m23, hkm23, hf⟩ := hf
        refine z_cV (As := [.int g2, .int u5]) (rest := []) (st1 := [.int v24]) C Z mw_X12_areBeside mv_X12_areBeside k_1625 (by decide) (z_hR hR (by decide)) (lvM0 Nat.zero_lt_one) kM0 zc12 (c_X12_areBeside (l := l) (K := K) (ad := ad) hkm23) rfl hl.1 rfl (Nat.le_of_ble_eq_true rfl) dX12_work_101 hB rfl (fun H locs Z => ?_)
        refine lv_if_eq (tgt := 141) C.x C.b dX12_work_104 (by decide) (fun hc25 => ?_) (fun hc25 => ?_)
        · replace hf := ite_t hf hc25
          refine lv_iconst (v := 0) C.x C.b dX12_work_141 (by decide) ?_
          refine z_istore (lv' := [(4, .int 0), (0, .ref (ad 0 0)), (1, .int g1), (2, .int g2), (3, .int g3), (5, .int u5)]) C dX12_work_142 hl (by decide) rfl (onlast 3 rfl rfl rfl) (fun ls hl => ?_)
          replace hf := lt1_s hf; obtain ⟨x26, ex26, hf⟩ := hf
          refine z_iinc (v := x26) (lv' := [(5, .int x26), (4, .int 0), (0, .ref (ad 0 0)), (1, .int g1), (2, .int g2), (3, .int g3)]) C dX12_work_144 hl (k := 5) rfl (by rw [ex26]; rfl) (by decide) rfl (onlast 0 rfl rfl rfl) (fun ls hl => ?_)
          refine lv_goto (tgt := 85) C.x C.b dX12_work_147 (by decide) ?_
          exact ih _ _ _ _ _ _ Z (lv_sub hl [2, 3, 4, 5, 1, 0] rfl) _ _ hf kx0
        · replace hf := ite_f hf hc25
          refine lv_aload_n C.x C.b dX12_work_107 rfl (lv_at hl 0 rfl) ?_
          refine z_get C Z (lvM0 Nat.zero_lt_one) kM0 zc12 zin12 50 (by decide) k_1226 rfl svM0_50 dX12_work_108 ?_
          refine lv_iload C.x C.b dX12_work_111 (lv_at hl 5 rfl) ?_
          replace hf := asr_s hf; obtain ⟨hq27, hf⟩ := hf
          refine z_zald C Z (lvM37 Nat.zero_lt_one) kM37 hq27 svM37 dX12_work_113 ?_
          refine lv_if_ne (tgt := 137) C.x C.b dX12_work_114 (by decide) (fun hc28 => ?_) (fun hc28 => ?_)
          · replace hf := ite_f hf hc28
            refine lv_iconst (v := 1) C.x C.b dX12_work_137 (by decide) ?_
            refine lv_goto (tgt := 142) C.x C.b dX12_work_138 (by decide) ?_
            refine z_istore (lv' := [(4, .int 1), (0, .ref (ad 0 0)), (1, .int g1), (2, .int g2), (3, .int g3), (5, .int u5)]) C dX12_work_142 hl (by decide) rfl (onlast 3 rfl rfl rfl) (fun ls hl => ?_)
            replace hf := lt1_s hf; obtain ⟨x29, ex29, hf⟩ := hf
            refine z_iinc (v := x29) (lv' := [(5, .int x29), (4, .int 1), (0, .ref (ad 0 0)), (1, .int g1), (2, .int g2), (3, .int g3)]) C dX12_work_144 hl (k := 5) rfl (by rw [ex29]; rfl) (by decide) rfl (onlast 0 rfl rfl rfl) (fun ls hl => ?_)
            refine lv_goto (tgt := 85) C.x C.b dX12_work_147 (by decide) ?_
            exact ih _ _ _ _ _ _ Z (lv_sub hl [2, 3, 4, 5, 1, 0] rfl) _ _ hf kx0
          · replace hf := ite_t hf hc28
            refine lv_aload_n C.x C.b dX12_work_117 rfl (lv_at hl 0 rfl) ?_
            refine z_get C Z (lvM0 Nat.zero_lt_one) kM0 zc12 zin12 45 (by decide) k_1221 rfl svM0_45 dX12_work_118 ?_
            refine lv_iload_n C.x C.b dX12_work_121 rfl (lv_at hl 1 rfl) ?_
            replace hf := asr_s hf; obtain ⟨hq30, hf⟩ := hf
            refine z_iald C Z (lvM32 Nat.zero_lt_one) kM32 hq30 svM32 dX12_work_122 ?_
            refine lv_iconst (v := 2) C.x C.b dX12_work_123 (by decide) ?_
            refine lv_icmp_ne (tgt := 141) C.x C.b dX12_work_124 (by decide) (fun hc31 => ?_) (fun hc31 => ?_)
            · replace hf := ite_f hf hc31
              refine lv_iconst (v := 0) C.x C.b dX12_work_141 (by decide) ?_
              refine z_istore (lv' := [(4, .int 0), (0, .ref (ad 0 0)), (1, .int g1), (2, .int g2), (3, .int g3), (5, .int u5)]) C dX12_work_142 hl (by decide) rfl (onlast 3 rfl rfl rfl) (fun ls hl => ?_)
              replace hf := lt1_s hf; obtain ⟨x32, ex32, hf⟩ := hf
              refine z_iinc (v := x32) (lv' := [(5, .int x32), (4, .int 0), (0, .ref (ad 0 0)), (1, .int g1), (2, .int g2), (3, .int g3)]) C dX12_work_144 hl (k := 5) rfl (by rw [ex32]; rfl) (by decide) rfl (onlast 0 rfl rfl rfl) (fun ls hl => ?_)
              refine lv_goto (tgt := 85) C.x C.b dX12_work_147 (by decide) ?_
              exact ih _ _ _ _ _ _ Z (lv_sub hl [2, 3, 4, 5, 1, 0] rfl) _ _ hf kx0
            · replace hf := ite_t hf hc31
              refine lv_aload_n C.x C.b dX12_work_127 rfl (lv_at hl 0 rfl) ?_
              refine z_get C Z (lvM0 Nat.zero_lt_one) kM0 zc12 zin12 49 (by decide) k_1225 rfl svM0_49 dX12_work_128 ?_
              refine lv_iload C.x C.b dX12_work_131 (lv_at hl 5 rfl) ?_
              replace hf := asr_s hf; obtain ⟨hq33, hf⟩ := hf
              refine z_zald C Z (lvM36 Nat.zero_lt_one) kM36 hq33 svM36 dX12_work_133 ?_
              refine lv_if_eq (tgt := 141) C.x C.b dX12_work_134 (by decide) (fun hc34 => ?_) (fun hc34 => ?_)
              · replace hf := ite_t hf hc34
                refine lv_iconst (v := 0) C.x C.b dX12_work_141 (by decide) ?_
                refine z_istore (lv' := [(4, .int 0), (0, .ref (ad 0 0)), (1, .int g1), (2, .int g2), (3, .int g3), (5, .int u5)]) C dX12_work_142 hl (by decide) rfl (onlast 3 rfl rfl rfl) (fun ls hl => ?_)
                replace hf := lt1_s hf; obtain ⟨x35, ex35, hf⟩ := hf
                refine z_iinc (v := x35) (lv' := [(5, .int x35), (4, .int 0), (0, .ref (ad 0 0)), (1, .int g1), (2, .int g2), (3, .int g3)]) C dX12_work_144 hl (k := 5) rfl (by rw [ex35]; rfl) (by decide) rfl (onlast 0 rfl rfl rfl) (fun ls hl => ?_)
                refine lv_goto (tgt := 85) C.x C.b dX12_work_147 (by decide) ?_
                exact ih _ _ _ _ _ _ Z (lv_sub hl [2, 3, 4, 5, 1, 0] rfl) _ _ hf kx0
              · replace hf := ite_f hf hc34
                refine lv_iconst (v := 1) C.x C.b dX12_work_137 (by decide) ?_
                refine lv_goto (tgt := 142) C.x C.b dX12_work_138 (by decide) ?_
                refine z_istore (lv' := [(4, .int 1), (0, .ref (ad 0 0)), (1, .int g1), (2, .int g2), (3, .int g3), (5, .int u5)]) C dX12_work_142 hl (by decide) rfl (onlast 3 rfl rfl rfl) (fun ls hl => ?_)
                replace hf := lt1_s hf; obtain ⟨x36, ex36, hf⟩ := hf
                refine z_iinc (v := x36) (lv' := [(5, .int x36), (4, .int 1), (0, .ref (ad 0 0)), (1, .int g1), (2, .int g2), (3, .int g3)]) C dX12_work_144 hl (k := 5) rfl (by rw [ex36]; rfl) (by decide) rfl (onlast 0 rfl rfl rfl) (fun ls hl => ?_)
                refine lv_goto (tgt := 85) C.x C.b dX12_work_147 (by decide) ?_
                exact ih _ _ _ _ _ _ Z (lv_sub hl [2, 3, 4, 5, 1, 0] rfl) _ _ hf kx0
set_option maxRecDepth 100000 in
set_option maxHeartbeats 4000000 in
theorem w_X12_work_l185 {p : Program} {l : Launch} {e : Env} {R : Room} {s : State} {m : MethodId} {args : Array Value} {below : List Frame} {meth : Method} {c : Code} {cells slots : Nat} {Q : State → Prop} {K : KG} {ad : Nat → Nat → Nat} {fl : Nat} {g1 : Int32} {g2 : Int32} {g3 : Int32} {g5 : Int32} (C : Cx p s m args meth c cX12_work 7 "GlassPalaceModel" (some .int)) (hR : 12 ≤ R.frames ∧ 40 * (12) ≤ R.locals) (hB : cells ≤ R.cells ∧ slots ≤ R.slots) : ∀ (n : Nat) (u6 : Int32) (M0 : Mem) (H : Heap) (locs : List Loc) (ls : Array Slot), Zd K LM ad M0 s H locs → lv_has ls 7 [(0, .ref (ad 0 0)), (1, .int g1), (2, .int g2), (3, .int g3), (5, .int g5), (6, .int u6)] → ∀ (q : Int32) (Mq : Mem), f_X12_work_l185 fl g1 g2 g3 g5 n u6 M0 = some (q, Mq) → (∀ (H : Heap) (locs : List Loc) (ls : Array Slot), Zd K LM ad Mq s H locs → lv_has ls 7 [(0, .ref (ad 0 0)), (1, .int g1), (2, .int g2), (6, .int q)] → W p l e R s m args below meth c H locs cells slots Q (F0 m 214 ls [])) → W p l e R s m args below meth c H locs cells slots Q (F0 m 185 ls []) := by
  intro n
  induction n with
  | zero =>
    intro u6 M0 H locs ls Z hl q Mq hf
    have hf : (none : Option (Int32 × Mem)) = some (q, Mq) := hf
    cases hf
  | succ n ih =>
    intro u6 M0 H locs ls Z hl q Mq hf kx0
    replace hf : f_X12_work_l185_b (f_X12_work_l185 fl g1 g2 g3 g5 n) fl g1 g2 g3 g5 u6 M0 = some (q, Mq) := hf
    unfold f_X12_work_l185_b at hf
    refine lv_iload C.x C.b dX12_work_185 (lv_at hl 5 rfl) ?_
    refine lv_iload C.x C.b dX12_work_187 (lv_at hl 4 rfl) ?_
    refine lv_icmp_ge (tgt := 214) C.x C.b dX12_work_189 (by decide) (fun hc45 => ?_) (fun hc45 => ?_)
    · replace hf := ite_t hf hc45
      obtain ⟨rfl, rfl⟩ := pr_s hf
      exact kx0 _ _ _ Z (lv_sub hl [0, 1, 2, 5] rfl)
    · replace hf := ite_f hf hc45
      refine lv_aload_n C.x C.b dX12_work_192 rfl (lv_at hl 0 rfl) ?_
      refine lv_iload_n C.x C.b dX12_work_193 rfl (lv_at hl 3 rfl) ?_
      refine lv_iload_n C.x C.b dX12_work_194 rfl (lv_at hl 2 rfl) ?_
      replace hf := bn2_s hf; obtain ⟨v47, m46, hkm46, hf⟩ := hf
      refine z_cV (As := [.int g3, .int g2]) (rest := []) (st1 := [.int v47]) C Z mw_X12_fits mv_X12_fits k_1533 (by decide) (z_hR hR (by decide)) (lvM0 Nat.zero_lt_one) kM0 zc12 (c_X12_fits (l := l) (K := K) (ad := ad) hkm46) rfl hl.1 rfl (Nat.le_of_ble_eq_true rfl) dX12_work_195 hB rfl (fun H locs Z => ?_)
      refine lv_iconst (v := 1) C.x C.b dX12_work_198 (by decide) ?_
      refine lv_icmp_ne (tgt := 214) C.x C.b dX12_work_199 (by decide) (fun hc48 => ?_) (fun hc48 => ?_)
      · replace hf := ite_f hf hc48
        obtain ⟨rfl, rfl⟩ := pr_s hf
        exact kx0 _ _ _ Z (lv_sub hl [0, 1, 2, 5] rfl)
      · replace hf := ite_t hf hc48
        refine lv_aload_n C.x C.b dX12_work_202 rfl (lv_at hl 0 rfl) ?_
        refine lv_iload_n C.x C.b dX12_work_203 rfl (lv_at hl 3 rfl) ?_
        refine lv_iload_n C.x C.b dX12_work_204 rfl (lv_at hl 2 rfl) ?_
        replace hf := bn1_s hf; obtain ⟨m49, hkm49, hf⟩ := hf
        refine z_cV (As := [.int g3, .int g2]) (rest := []) (st1 := []) C Z mw_X12_put mv_X12_put k_1545 (by decide) (z_hR hR (by decide)) (lvM0 Nat.zero_lt_one) kM0 zc12 (c_X12_put (l := l) (K := K) (ad := ad) hkm49) rfl hl.1 rfl (Nat.le_of_ble_eq_true rfl) dX12_work_205 hB rfl (fun H locs Z => ?_)
        replace hf := lt1_s hf; obtain ⟨x50, ex50, hf⟩ := hf
        refine z_iinc (v := x50) (lv' := [(6, .int x50), (0, .ref (ad 0 0)), (1, .int g1), (2, .int g2), (3, .int g3), (5, .int g5)]) C dX12_work_208 hl (k := 5) rfl (by rw [ex50]; rfl) (by decide) rfl (onlast 4 rfl rfl rfl) (fun ls hl => ?_)
        refine lv_goto (tgt := 185) C.x C.b dX12_work_211 (by decide) ?_
        exact ih _ _ _ _ _ Z (lv_sub hl [1, 2, 3, 4, 5, 0] rfl) _ _ hf kx0
set_option maxRecDepth 100000 in
set_option maxHeartbeats 4000000 in
theorem w_X12_work_b248 {p : Program} {l : Launch} {e : Env} {s : State} {m : MethodId} {args : Array Value} {below : List Frame} {meth : Method} {c : Code} {K : KG} {ad : Nat → Nat → Nat} {fl : Nat} {H : Heap} {locs : List Loc} {ls : Array Slot} {g1 : Int32} {g6 : Int32} {z1 : Int32} {z2 : Int32} {M0 : Mem} {r9 : Int32} {M9 : Mem} (C : Cx p s m args meth c cX12_work 7 "GlassPalaceModel" (some .int)) (hR : 12 ≤ (RM (12) 0 0).frames ∧ 40 * (12) ≤ (RM (12) 0 0).locals) (hB : 0 ≤ (RM (12) 0 0).cells ∧ 0 ≤ (RM (12) 0 0).slots) (Z : Zd K LM ad M0 s H locs) (hl : lv_has ls 7 [(0, .ref (ad 0 0)), (1, .int g1), (6, .int g6)]) (hf : f_X12_work_b248 fl g1 g6 z1 z2 M0 = some (r9, M9)) : W p l e (RM (12) 0 0) s m args below meth c H locs 0 0 (MQ below (zQ K LM ad (some (.int r9)) M9) args s 0 0 (zA ad)) (F0 m 248 ls [.int z2, .int z1, .ref (ad 37 0)]) := by
  unfold f_X12_work_b248 at hf
  replace hf := asr_s hf; obtain ⟨hq60, hf⟩ := hf
  replace hf := lt1_s hf; obtain ⟨m61, em61, hf⟩ := hf
  refine z_zast (M1 := m61) C Z (lvM37 Nat.zero_lt_one) (by decide) kM37 hq60 em61 stM37u dX12_work_248 (fun H locs Z => ?_)
  refine lv_aload_n C.x C.b dX12_work_249 rfl (lv_at hl 0 rfl) ?_
  refine z_get C Z (lvM0 Nat.zero_lt_one) kM0 zc12 zin12 47 (by decide) k_1223 rfl svM0_47 dX12_work_250 ?_
  refine lv_iload_n C.x C.b dX12_work_253 rfl (lv_at hl 1 rfl) ?_
  refine lv_dup2_11 C.x C.b dX12_work_254 rfl rfl ?_
  replace hf := asr_s hf; obtain ⟨hq62, hf⟩ := hf
  refine z_iald C Z (lvM34 Nat.zero_lt_one) kM34 hq62 svM34 dX12_work_255 ?_
  refine lv_iload C.x C.b dX12_work_256 (lv_at hl 2 rfl) ?_
  refine lv_iadd C.x C.b dX12_work_258 ?_
  replace hf := asr_s hf; obtain ⟨hq63, hf⟩ := hf
  replace hf := lt1_s hf; obtain ⟨m64, em64, hf⟩ := hf
  refine z_iast (M1 := m64) C Z (lvM34 Nat.zero_lt_one) (by decide) kM34 hq63 em64 stM34u dX12_work_259 (fun H locs Z => ?_)
  refine lv_iload C.x C.b dX12_work_260 (lv_at hl 2 rfl) ?_
  obtain ⟨rfl, rfl⟩ := pr_s hf
  exact z_iret C Z dX12_work_262
set_option maxRecDepth 100000 in
set_option maxHeartbeats 4000000 in
theorem w_X12_work_b214 {p : Program} {l : Launch} {e : Env} {s : State} {m : MethodId} {args : Array Value} {below : List Frame} {meth : Method} {c : Code} {K : KG} {ad : Nat → Nat → Nat} {fl : Nat} {H : Heap} {locs : List Loc} {ls : Array Slot} {g1 : Int32} {g2 : Int32} {g6 : Int32} {M0 : Mem} {r9 : Int32} {M9 : Mem} (C : Cx p s m args meth c cX12_work 7 "GlassPalaceModel" (some .int)) (hR : 12 ≤ (RM (12) 0 0).frames ∧ 40 * (12) ≤ (RM (12) 0 0).locals) (hB : 0 ≤ (RM (12) 0 0).cells ∧ 0 ≤ (RM (12) 0 0).slots) (Z : Zd K LM ad M0 s H locs) (hl : lv_has ls 7 [(0, .ref (ad 0 0)), (1, .int g1), (2, .int g2), (6, .int g6)]) (hf : f_X12_work_b214 fl g1 g2 g6 M0 = some (r9, M9)) : W p l e (RM (12) 0 0) s m args below meth c H locs 0 0 (MQ below (zQ K LM ad (some (.int r9)) M9) args s 0 0 (zA ad)) (F0 m 214 ls []) := by
  unfold f_X12_work_b214 at hf
  refine lv_aload_n C.x C.b dX12_work_214 rfl (lv_at hl 0 rfl) ?_
  refine z_get C Z (lvM0 Nat.zero_lt_one) kM0 zc12 zin12 48 (by decide) k_1224 rfl svM0_48 dX12_work_215 ?_
  refine lv_iload_n C.x C.b dX12_work_218 rfl (lv_at hl 1 rfl) ?_
  refine lv_iload_n C.x C.b dX12_work_219 rfl (lv_at hl 2 rfl) ?_
  replace hf := asr_s hf; obtain ⟨hq53, hf⟩ := hf
  replace hf := lt1_s hf; obtain ⟨m54, em54, hf⟩ := hf
  refine z_iast (M1 := m54) C Z (lvM35 Nat.zero_lt_one) (by decide) kM35 hq53 em54 stM35u dX12_work_220 (fun H locs Z => ?_)
  refine lv_aload_n C.x C.b dX12_work_221 rfl (lv_at hl 0 rfl) ?_
  refine z_get C Z (lvM0 Nat.zero_lt_one) kM0 zc12 zin12 49 (by decide) k_1225 rfl svM0_49 dX12_work_222 ?_
  refine lv_iload_n C.x C.b dX12_work_225 rfl (lv_at hl 2 rfl) ?_
  refine lv_iconst (v := 1) C.x C.b dX12_work_226 (by decide) ?_
  replace hf := asr_s hf; obtain ⟨hq55, hf⟩ := hf
  replace hf := lt1_s hf; obtain ⟨m56, em56, hf⟩ := hf
  refine z_zast (M1 := m56) C Z (lvM36 Nat.zero_lt_one) (by decide) kM36 hq55 em56 stM36u dX12_work_227 (fun H locs Z => ?_)
  refine lv_aload_n C.x C.b dX12_work_228 rfl (lv_at hl 0 rfl) ?_
  refine z_get C Z (lvM0 Nat.zero_lt_one) kM0 zc12 zin12 50 (by decide) k_1226 rfl svM0_50 dX12_work_229 ?_
  refine lv_iload_n C.x C.b dX12_work_232 rfl (lv_at hl 2 rfl) ?_
  refine lv_aload_n C.x C.b dX12_work_233 rfl (lv_at hl 0 rfl) ?_
  refine z_get C Z (lvM0 Nat.zero_lt_one) kM0 zc12 zin12 45 (by decide) k_1221 rfl svM0_45 dX12_work_234 ?_
  refine lv_iload_n C.x C.b dX12_work_237 rfl (lv_at hl 1 rfl) ?_
  replace hf := asr_s hf; obtain ⟨hq57, hf⟩ := hf
  refine z_iald C Z (lvM32 Nat.zero_lt_one) kM32 hq57 svM32 dX12_work_238 ?_
  refine lv_iconst (v := 2) C.x C.b dX12_work_239 (by decide) ?_
  replace hf := bn2_s hf; obtain ⟨q58, m59, hq58, hf⟩ := hf
  have kq58 : ∀ (H : Heap) (locs : List Loc) (ls : Array Slot), Zd K LM ad m59 s H locs → lv_has ls 7 [(0, .ref (ad 0 0)), (1, .int g1), (6, .int g6)] → W p l e (RM (12) 0 0) s m args below meth c H locs 0 0 (MQ below (zQ K LM ad (some (.int r9)) M9) args s 0 0 (zA ad)) (F0 m 248 ls [.int q58, .int g2, .ref (ad 37 0)]) := by
    intro H locs ls Z hl
    exact w_X12_work_b248 C hR hB  Z (lv_sub hl [0, 1, 2] rfl) hf
  clear hf
  refine lv_icmp_ne (tgt := 247) C.x C.b dX12_work_240 (by decide) (fun hc65 => ?_) (fun hc65 => ?_)
  · have hf := ite_f hq58 hc65; clear hq58
    refine lv_iconst (v := 0) C.x C.b dX12_work_247 (by decide) ?_
    obtain ⟨rfl, rfl⟩ := pr_s hf
    exact kq58 _ _ _ Z (lv_sub hl [0, 1, 3] rfl)
  · have hf := ite_t hq58 hc65; clear hq58
    refine lv_iconst (v := 1) C.x C.b dX12_work_243 (by decide) ?_
    refine lv_goto (tgt := 248) C.x C.b dX12_work_244 (by decide) ?_
    obtain ⟨rfl, rfl⟩ := pr_s hf
    exact kq58 _ _ _ Z (lv_sub hl [0, 1, 3] rfl)
set_option maxRecDepth 100000 in
set_option maxHeartbeats 4000000 in
theorem w_X12_work_b80 {p : Program} {l : Launch} {e : Env} {s : State} {m : MethodId} {args : Array Value} {below : List Frame} {meth : Method} {c : Code} {K : KG} {ad : Nat → Nat → Nat} {fl : Nat} {H : Heap} {locs : List Loc} {ls : Array Slot} {g1 : Int32} {g2 : Int32} {g3 : Int32} {z0 : Int32} {M0 : Mem} {r9 : Int32} {M9 : Mem} (C : Cx p s m args meth c cX12_work 7 "GlassPalaceModel" (some .int)) (hR : 12 ≤ (RM (12) 0 0).frames ∧ 40 * (12) ≤ (RM (12) 0 0).locals) (hB : 0 ≤ (RM (12) 0 0).cells ∧ 0 ≤ (RM (12) 0 0).slots) (Z : Zd K LM ad M0 s H locs) (hl : lv_has ls 7 [(0, .ref (ad 0 0)), (1, .int g1), (2, .int g2), (3, .int g3)]) (hf : f_X12_work_b80 fl g1 g2 g3 z0 M0 = some (r9, M9)) : W p l e (RM (12) 0 0) s m args below meth c H locs 0 0 (MQ below (zQ K LM ad (some (.int r9)) M9) args s 0 0 (zA ad)) (F0 m 80 ls [.int z0]) := by
  unfold f_X12_work_b80 at hf
  refine z_istore (lv' := [(4, .int z0), (0, .ref (ad 0 0)), (1, .int g1), (2, .int g2), (3, .int g3)]) C dX12_work_80 hl (by decide) rfl (onlast 3 rfl rfl rfl) (fun ls hl => ?_)
  refine lv_iconst (v := 0) C.x C.b dX12_work_82 (by decide) ?_
  refine z_istore (lv' := [(5, .int 0), (4, .int z0), (0, .ref (ad 0 0)), (1, .int g1), (2, .int g2), (3, .int g3)]) C dX12_work_83 hl (by decide) rfl (onlast 0 rfl rfl rfl) (fun ls hl => ?_)
  replace hf := bn2_s hf; obtain ⟨q37, m38, hq37, hf⟩ := hf
  refine w_X12_work_l85 C hR hB  fl _ _ _ _ _ _ Z (lv_sub hl [2, 3, 4, 5, 1, 0] rfl) _ _ hq37 (fun H locs ls Z hl => ?_)
  refine lv_iload C.x C.b dX12_work_150 (lv_at hl 4 rfl) ?_
  refine lv_if_eq (tgt := 158) C.x C.b dX12_work_152 (by decide) (fun hc39 => ?_) (fun hc39 => ?_)
  · replace hf := ite_t hf hc39
    refine lv_aload_n C.x C.b dX12_work_158 rfl (lv_at hl 0 rfl) ?_
    refine lv_iload_n C.x C.b dX12_work_159 rfl (lv_at hl 3 rfl) ?_
    refine lv_iload_n C.x C.b dX12_work_160 rfl (lv_at hl 2 rfl) ?_
    replace hf := bn2_s hf; obtain ⟨v41, m40, hkm40, hf⟩ := hf
    refine z_cV (As := [.int g3, .int g2]) (rest := []) (st1 := [.int v41]) C Z mw_X12_fits mv_X12_fits k_1533 (by decide) (z_hR hR (by decide)) (lvM0 Nat.zero_lt_one) kM0 zc12 (c_X12_fits (l := l) (K := K) (ad := ad) hkm40) rfl hl.1 rfl (Nat.le_of_ble_eq_true rfl) dX12_work_161 hB rfl (fun H locs Z => ?_)
    refine lv_iconst (v := 1) C.x C.b dX12_work_164 (by decide) ?_
    refine lv_icmp_eq (tgt := 175) C.x C.b dX12_work_165 (by decide) (fun hc42 => ?_) (fun hc42 => ?_)
    · replace hf := ite_t hf hc42
      refine lv_aload_n C.x C.b dX12_work_175 rfl (lv_at hl 0 rfl) ?_
      refine lv_iload_n C.x C.b dX12_work_176 rfl (lv_at hl 1 rfl) ?_
      replace hf := bn2_s hf; obtain ⟨v44, m43, hkm43, hf⟩ := hf
      refine z_cV (As := [.int g1]) (rest := []) (st1 := [.int v44]) C Z mw_X12_paceOf mv_X12_paceOf k_1657 (by decide) (z_hR hR (by decide)) (lvM0 Nat.zero_lt_one) kM0 zc12 (c_X12_paceOf (l := l) (K := K) (ad := ad) hkm43) rfl hl.1 rfl (Nat.le_of_ble_eq_true rfl) dX12_work_177 hB rfl (fun H locs Z => ?_)
      refine z_istore (lv' := [(5, .int v44), (0, .ref (ad 0 0)), (1, .int g1), (2, .int g2), (3, .int g3), (4, .int q37)]) C dX12_work_180 hl (by decide) rfl (onlast 4 rfl rfl rfl) (fun ls hl => ?_)
      refine lv_iconst (v := 0) C.x C.b dX12_work_182 (by decide) ?_
      refine z_istore (lv' := [(6, .int 0), (5, .int v44), (0, .ref (ad 0 0)), (1, .int g1), (2, .int g2), (3, .int g3), (4, .int q37)]) C dX12_work_183 hl (by decide) rfl (onlast 0 rfl rfl rfl) (fun ls hl => ?_)
      replace hf := bn2_s hf; obtain ⟨q51, m52, hq51, hf⟩ := hf
      refine w_X12_work_l185 C hR hB  fl _ _ _ _ _ Z (lv_sub hl [2, 3, 4, 5, 1, 0] rfl) _ _ hq51 (fun H locs ls Z hl => ?_)
      exact w_X12_work_b214 C hR hB  Z (lv_sub hl [0, 1, 2, 3] rfl) hf
    · replace hf := ite_f hf hc42
      refine lv_aload_n C.x C.b dX12_work_168 rfl (lv_at hl 0 rfl) ?_
      refine lv_iload_n C.x C.b dX12_work_169 rfl (lv_at hl 3 rfl) ?_
      refine lv_iload_n C.x C.b dX12_work_170 rfl (lv_at hl 2 rfl) ?_
      replace hf := bn2_s hf; obtain ⟨v67, m66, hkm66, hf⟩ := hf
      refine z_cV (As := [.int g3, .int g2]) (rest := []) (st1 := [.int v67]) C Z mw_X12_fits mv_X12_fits k_1533 (by decide) (z_hR hR (by decide)) (lvM0 Nat.zero_lt_one) kM0 zc12 (c_X12_fits (l := l) (K := K) (ad := ad) hkm66) rfl hl.1 rfl (Nat.le_of_ble_eq_true rfl) dX12_work_171 hB rfl (fun H locs Z => ?_)
      obtain ⟨rfl, rfl⟩ := pr_s hf
      exact z_iret C Z dX12_work_174
  · replace hf := ite_f hf hc39
    refine lv_bipush (v := (-3)) C.x C.b dX12_work_155 (by decide) ?_
    obtain ⟨rfl, rfl⟩ := pr_s hf
    exact z_iret C Z dX12_work_157
set_option maxRecDepth 100000 in
set_option maxHeartbeats 4000000 in
theorem c_X12_work {l : Launch} {K : KG} {ad : Nat → Nat → Nat} {fl : Nat} {a1 : Int32} {a2 : Int32} {a3 : Int32} {M0 : Mem} {r9 : Int32} {M9 : Mem} (hf : f_X12_work fl a1 a2 a3 M0 = some (r9, M9)) : Met l yX12_work (Cond.code yX12_work cX12_work 7 (some .int) :: ztb) (RM (12) 0 0) (zPc K LM ad M0 [.ref (ad 0 0), .int a1, .int a2, .int a3]) (zQ K LM ad (some (.int r9)) M9) 0 0 (zA ad) := by
  refine z_enter (by decide) (Nat.le_of_ble_eq_true rfl) ?_
  intro p e s m args below meth c ls C hin hargs Z hl
  replace C : Cx p s m args meth c cX12_work 7 "GlassPalaceModel" (some .int) := C
  replace hl : lv_has ls 7 [(0, .ref (ad 0 0)), (1, .int a1), (2, .int a2), (3, .int a3)] := hl
  have hR : 12 ≤ (RM (12) 0 0).frames ∧ 40 * (12) ≤ (RM (12) 0 0).locals := ⟨Nat.le_refl _, Nat.le_refl _⟩
  have hB : 0 ≤ (RM (12) 0 0).cells ∧ 0 ≤ (RM (12) 0 0).slots := ⟨Nat.zero_le _, Nat.zero_le _⟩
  unfold f_X12_work at hf
  refine lv_aload_n C.x C.b dX12_work_0 rfl (lv_at hl 0 rfl) ?_
  refine lv_iload_n C.x C.b dX12_work_1 rfl (lv_at hl 1 rfl) ?_
  replace hf := bn2_s hf; obtain ⟨v2, m1, hkm1, hf⟩ := hf
  refine z_cV (As := [.int a1]) (rest := []) (st1 := [.int v2]) C Z mw_X12_isGang mv_X12_isGang k_1653 (by decide) (z_hR hR (by decide)) (lvM0 Nat.zero_lt_one) kM0 zc12 (c_X12_isGang (l := l) (K := K) (ad := ad) hkm1) rfl hl.1 rfl (Nat.le_of_ble_eq_true rfl) dX12_work_2 hB rfl (fun H locs Z => ?_)
  refine lv_if_eq (tgt := 24) C.x C.b dX12_work_5 (by decide) (fun hc3 => ?_) (fun hc3 => ?_)
  · replace hf := ite_t hf hc3
    refine lv_iconst (v := (-1)) C.x C.b dX12_work_24 (by decide) ?_
    obtain ⟨rfl, rfl⟩ := pr_s hf
    exact z_iret C Z dX12_work_25
  · replace hf := ite_f hf hc3
    refine lv_aload_n C.x C.b dX12_work_8 rfl (lv_at hl 0 rfl) ?_
    refine lv_iload_n C.x C.b dX12_work_9 rfl (lv_at hl 2 rfl) ?_
    replace hf := bn2_s hf; obtain ⟨v5, m4, hkm4, hf⟩ := hf
    refine z_cV (As := [.int a2]) (rest := []) (st1 := [.int v5]) C Z mw_X12_isBay mv_X12_isBay k_1406 (by decide) (z_hR hR (by decide)) (lvM0 Nat.zero_lt_one) kM0 zc12 (c_X12_isBay (l := l) (K := K) (ad := ad) hkm4) rfl hl.1 rfl (Nat.le_of_ble_eq_true rfl) dX12_work_10 hB rfl (fun H locs Z => ?_)
    refine lv_if_eq (tgt := 24) C.x C.b dX12_work_13 (by decide) (fun hc6 => ?_) (fun hc6 => ?_)
    · replace hf := ite_t hf hc6
      refine lv_iconst (v := (-1)) C.x C.b dX12_work_24 (by decide) ?_
      obtain ⟨rfl, rfl⟩ := pr_s hf
      exact z_iret C Z dX12_work_25
    · replace hf := ite_f hf hc6
      refine lv_aload_n C.x C.b dX12_work_16 rfl (lv_at hl 0 rfl) ?_
      refine lv_iload_n C.x C.b dX12_work_17 rfl (lv_at hl 3 rfl) ?_
      replace hf := bn2_s hf; obtain ⟨v8, m7, hkm7, hf⟩ := hf
      refine z_cV (As := [.int a3]) (rest := []) (st1 := [.int v8]) C Z mw_X12_isLot mv_X12_isLot k_1434 (by decide) (z_hR hR (by decide)) (lvM0 Nat.zero_lt_one) kM0 zc12 (c_X12_isLot (l := l) (K := K) (ad := ad) hkm7) rfl hl.1 rfl (Nat.le_of_ble_eq_true rfl) dX12_work_18 hB rfl (fun H locs Z => ?_)
      refine lv_if_ne (tgt := 26) C.x C.b dX12_work_21 (by decide) (fun hc9 => ?_) (fun hc9 => ?_)
      · replace hf := ite_f hf hc9
        refine lv_aload_n C.x C.b dX12_work_26 rfl (lv_at hl 0 rfl) ?_
        refine z_get C Z (lvM0 Nat.zero_lt_one) kM0 zc12 zin12 6 (by decide) k_1182 rfl svM0_6 dX12_work_27 ?_
        refine lv_iload_n C.x C.b dX12_work_30 rfl (lv_at hl 3 rfl) ?_
        replace hf := asr_s hf; obtain ⟨hq10, hf⟩ := hf
        refine z_iald C Z (lvM5 Nat.zero_lt_one) kM5 hq10 svM5 dX12_work_31 ?_
        refine lv_if_eq (tgt := 54) C.x C.b dX12_work_32 (by decide) (fun hc11 => ?_) (fun hc11 => ?_)
        · replace hf := ite_t hf hc11
          refine lv_bipush (v := (-12)) C.x C.b dX12_work_54 (by decide) ?_
          obtain ⟨rfl, rfl⟩ := pr_s hf
          exact z_iret C Z dX12_work_56
        · replace hf := ite_f hf hc11
          refine lv_aload_n C.x C.b dX12_work_35 rfl (lv_at hl 0 rfl) ?_
          refine lv_aload_n C.x C.b dX12_work_36 rfl (lv_at hl 0 rfl) ?_
          refine z_get C Z (lvM0 Nat.zero_lt_one) kM0 zc12 zin12 6 (by decide) k_1182 rfl svM0_6 dX12_work_37 ?_
          refine lv_iload_n C.x C.b dX12_work_40 rfl (lv_at hl 3 rfl) ?_
          replace hf := asr_s hf; obtain ⟨hq12, hf⟩ := hf
          refine z_iald C Z (lvM5 Nat.zero_lt_one) kM5 hq12 svM5 dX12_work_41 ?_
          replace hf := bn2_s hf; obtain ⟨v14, m13, hkm13, hf⟩ := hf
          refine z_cV (As := [.int (gI m7 5 0 (Int32.toNatClampNeg a3))]) (rest := []) (st1 := [.int v14]) C Z mw_X12_placeOf mv_X12_placeOf k_1537 (by decide) (z_hR hR (by decide)) (lvM0 Nat.zero_lt_one) kM0 zc12 (c_X12_placeOf (l := l) (K := K) (ad := ad) hkm13) rfl hl.1 rfl (Nat.le_of_ble_eq_true rfl) dX12_work_42 hB rfl (fun H locs Z => ?_)
          refine lv_aload_n C.x C.b dX12_work_45 rfl (lv_at hl 0 rfl) ?_
          refine z_get C Z (lvM0 Nat.zero_lt_one) kM0 zc12 zin12 45 (by decide) k_1221 rfl svM0_45 dX12_work_46 ?_
          refine lv_iload_n C.x C.b dX12_work_49 rfl (lv_at hl 1 rfl) ?_
          replace hf := asr_s hf; obtain ⟨hq15, hf⟩ := hf
          refine z_iald C Z (lvM32 Nat.zero_lt_one) kM32 hq15 svM32 dX12_work_50 ?_
          refine lv_icmp_eq (tgt := 57) C.x C.b dX12_work_51 (by decide) (fun hc16 => ?_) (fun hc16 => ?_)
          · replace hf := ite_t hf hc16
            refine lv_aload_n C.x C.b dX12_work_57 rfl (lv_at hl 0 rfl) ?_
            refine z_get C Z (lvM0 Nat.zero_lt_one) kM0 zc12 zin12 48 (by decide) k_1224 rfl svM0_48 dX12_work_58 ?_
            refine lv_iload_n C.x C.b dX12_work_61 rfl (lv_at hl 1 rfl) ?_
            replace hf := asr_s hf; obtain ⟨hq17, hf⟩ := hf
            refine z_iald C Z (lvM35 Nat.zero_lt_one) kM35 hq17 svM35 dX12_work_62 ?_
            replace hf := bn2_s hf; obtain ⟨q18, m19, hq18, hf⟩ := hf
            have kq18 : ∀ (H : Heap) (locs : List Loc) (ls : Array Slot), Zd K LM ad m19 s H locs → lv_has ls 7 [(0, .ref (ad 0 0)), (1, .int a1), (2, .int a2), (3, .int a3)] → W p l e (RM (12) 0 0) s m args below meth c H locs 0 0 (MQ below (zQ K LM ad (some (.int r9)) M9) args s 0 0 (zA ad)) (F0 m 80 ls [.int q18]) := by
              intro H locs ls Z hl
              exact w_X12_work_b80 C hR hB  Z (lv_sub hl [0, 1, 2, 3] rfl) hf
            clear hf
            refine lv_if_ge (tgt := 75) C.x C.b dX12_work_63 (by decide) (fun hc68 => ?_) (fun hc68 => ?_)
            · have hf := ite_t hq18 hc68; clear hq18
              refine lv_iconst (v := 1) C.x C.b dX12_work_75 (by decide) ?_
              refine lv_goto (tgt := 80) C.x C.b dX12_work_76 (by decide) ?_
              obtain ⟨rfl, rfl⟩ := pr_s hf
              exact kq18 _ _ _ Z (lv_sub hl [0, 1, 2, 3] rfl)
            · have hf := ite_f hq18 hc68; clear hq18
              refine lv_aload_n C.x C.b dX12_work_66 rfl (lv_at hl 0 rfl) ?_
              refine z_get C Z (lvM0 Nat.zero_lt_one) kM0 zc12 zin12 49 (by decide) k_1225 rfl svM0_49 dX12_work_67 ?_
              refine lv_iload_n C.x C.b dX12_work_70 rfl (lv_at hl 2 rfl) ?_
              replace hf := asr_s hf; obtain ⟨hq69, hf⟩ := hf
              refine z_zald C Z (lvM36 Nat.zero_lt_one) kM36 hq69 svM36 dX12_work_71 ?_
              refine lv_if_eq (tgt := 79) C.x C.b dX12_work_72 (by decide) (fun hc70 => ?_) (fun hc70 => ?_)
              · replace hf := ite_t hf hc70
                refine lv_iconst (v := 0) C.x C.b dX12_work_79 (by decide) ?_
                obtain ⟨rfl, rfl⟩ := pr_s hf
                exact kq18 _ _ _ Z (lv_sub hl [0, 1, 2, 3] rfl)
              · replace hf := ite_f hf hc70
                refine lv_iconst (v := 1) C.x C.b dX12_work_75 (by decide) ?_
                refine lv_goto (tgt := 80) C.x C.b dX12_work_76 (by decide) ?_
                obtain ⟨rfl, rfl⟩ := pr_s hf
                exact kq18 _ _ _ Z (lv_sub hl [0, 1, 2, 3] rfl)
          · replace hf := ite_f hf hc16
            refine lv_bipush (v := (-12)) C.x C.b dX12_work_54 (by decide) ?_
            obtain ⟨rfl, rfl⟩ := pr_s hf
            exact z_iret C Z dX12_work_56
      · replace hf := ite_t hf hc9
        refine lv_iconst (v := (-1)) C.x C.b dX12_work_24 (by decide) ?_
        obtain ⟨rfl, rfl⟩ := pr_s hf
        exact z_iret C Z dX12_work_25
theorem dX12_isKind_0 : decode cX12_isKind 0 = .ok (.aload_n 0, 1) := by decide +kernel
theorem dX12_isKind_1 : decode cX12_isKind 1 = .ok (.iload_n 1, 1) := by decide +kernel
theorem dX12_isKind_2 : decode cX12_isKind 2 = .ok (.iconst 1, 1) := by decide +kernel
theorem dX12_isKind_3 : decode cX12_isKind 3 = .ok (.iconst 5, 1) := by decide +kernel
theorem dX12_isKind_4 : decode cX12_isKind 4 = .ok (.invokevirtual 3, 3) := by decide +kernel
theorem dX12_isKind_7 : decode cX12_isKind 7 = .ok (.ireturn, 1) := by decide +kernel
set_option maxRecDepth 100000 in
set_option maxHeartbeats 4000000 in
theorem c_X12_isKind {l : Launch} {K : KG} {ad : Nat → Nat → Nat} {fl : Nat} {a1 : Int32} {M0 : Mem} {r9 : Int32} {M9 : Mem} (hf : f_X12_isKind fl a1 M0 = some (r9, M9)) : Met l yX12_isKind (Cond.code yX12_isKind cX12_isKind 2 (some .boolean) :: ztb) (RM (2) 0 0) (zPc K LM ad M0 [.ref (ad 0 0), .int a1]) (zQ K LM ad (some (.int r9)) M9) 0 0 (zA ad) := by
  refine z_enter (by decide) (Nat.le_of_ble_eq_true rfl) ?_
  intro p e s m args below meth c ls C hin hargs Z hl
  replace C : Cx p s m args meth c cX12_isKind 2 "GlassPalaceModel" (some .boolean) := C
  replace hl : lv_has ls 2 [(0, .ref (ad 0 0)), (1, .int a1)] := hl
  have hR : 2 ≤ (RM (2) 0 0).frames ∧ 40 * (2) ≤ (RM (2) 0 0).locals := ⟨Nat.le_refl _, Nat.le_refl _⟩
  have hB : 0 ≤ (RM (2) 0 0).cells ∧ 0 ≤ (RM (2) 0 0).slots := ⟨Nat.zero_le _, Nat.zero_le _⟩
  unfold f_X12_isKind at hf
  refine lv_aload_n C.x C.b dX12_isKind_0 rfl (lv_at hl 0 rfl) ?_
  refine lv_iload_n C.x C.b dX12_isKind_1 rfl (lv_at hl 1 rfl) ?_
  refine lv_iconst (v := 1) C.x C.b dX12_isKind_2 (by decide) ?_
  refine lv_iconst (v := 5) C.x C.b dX12_isKind_3 (by decide) ?_
  replace hf := bn2_s hf; obtain ⟨v2, m1, hkm1, hf⟩ := hf
  refine z_cV (As := [.int a1, .int 1, .int 5]) (rest := []) (st1 := [.int v2]) C Z mw_X12_in mv_X12_in k_1398 (by decide) (z_hR hR (by decide)) (lvM0 Nat.zero_lt_one) kM0 zc12 (c_X12_in (l := l) (K := K) (ad := ad) hkm1) rfl hl.1 rfl (Nat.le_of_ble_eq_true rfl) dX12_isKind_4 hB rfl (fun H locs Z => ?_)
  replace hf := asr_s hf; obtain ⟨hq3, hf⟩ := hf
  obtain ⟨rfl, rfl⟩ := pr_s hf
  exact z_zret C Z (jz01 hq3) dX12_isKind_7
theorem dX12_want_0 : decode cX12_want 0 = .ok (.aload_n 0, 1) := by decide +kernel
theorem dX12_want_1 : decode cX12_want 1 = .ok (.iload_n 1, 1) := by decide +kernel
theorem dX12_want_2 : decode cX12_want 2 = .ok (.invokevirtual 359, 3) := by decide +kernel
theorem dX12_want_5 : decode cX12_want 5 = .ok (.ifCond .ne 5, 3) := by decide +kernel
theorem dX12_want_8 : decode cX12_want 8 = .ok (.iconst (-1), 1) := by decide +kernel
theorem dX12_want_9 : decode cX12_want 9 = .ok (.ireturn, 1) := by decide +kernel
theorem dX12_want_10 : decode cX12_want 10 = .ok (.aload_n 0, 1) := by decide +kernel
theorem dX12_want_11 : decode cX12_want 11 = .ok (.iload_n 2, 1) := by decide +kernel
theorem dX12_want_12 : decode cX12_want 12 = .ok (.iconst 1, 1) := by decide +kernel
theorem dX12_want_13 : decode cX12_want 13 = .ok (.sipush 999, 3) := by decide +kernel
theorem dX12_want_16 : decode cX12_want 16 = .ok (.invokevirtual 3, 3) := by decide +kernel
theorem dX12_want_19 : decode cX12_want 19 = .ok (.ifCond .eq 11, 3) := by decide +kernel
theorem dX12_want_22 : decode cX12_want 22 = .ok (.aload_n 0, 1) := by decide +kernel
theorem dX12_want_23 : decode cX12_want 23 = .ok (.iload_n 3, 1) := by decide +kernel
theorem dX12_want_24 : decode cX12_want 24 = .ok (.invokevirtual 326, 3) := by decide +kernel
theorem dX12_want_27 : decode cX12_want 27 = .ok (.ifCond .ne 6, 3) := by decide +kernel
theorem dX12_want_30 : decode cX12_want 30 = .ok (.bipush (-2), 2) := by decide +kernel
theorem dX12_want_32 : decode cX12_want 32 = .ok (.ireturn, 1) := by decide +kernel
theorem dX12_want_33 : decode cX12_want 33 = .ok (.aload_n 0, 1) := by decide +kernel
theorem dX12_want_34 : decode cX12_want 34 = .ok (.getfield 173, 3) := by decide +kernel
theorem dX12_want_37 : decode cX12_want 37 = .ok (.bipush 20, 2) := by decide +kernel
theorem dX12_want_39 : decode cX12_want 39 = .ok (.if_icmp .ne 6, 3) := by decide +kernel
theorem dX12_want_42 : decode cX12_want 42 = .ok (.bipush (-4), 2) := by decide +kernel
theorem dX12_want_44 : decode cX12_want 44 = .ok (.ireturn, 1) := by decide +kernel
theorem dX12_want_45 : decode cX12_want 45 = .ok (.aload_n 0, 1) := by decide +kernel
theorem dX12_want_46 : decode cX12_want 46 = .ok (.getfield 179, 3) := by decide +kernel
theorem dX12_want_49 : decode cX12_want 49 = .ok (.aload_n 0, 1) := by decide +kernel
theorem dX12_want_50 : decode cX12_want 50 = .ok (.getfield 173, 3) := by decide +kernel
theorem dX12_want_53 : decode cX12_want 53 = .ok (.iload_n 1, 1) := by decide +kernel
theorem dX12_want_54 : decode cX12_want 54 = .ok (.iastore, 1) := by decide +kernel
theorem dX12_want_55 : decode cX12_want 55 = .ok (.aload_n 0, 1) := by decide +kernel
theorem dX12_want_56 : decode cX12_want 56 = .ok (.getfield 182, 3) := by decide +kernel
theorem dX12_want_59 : decode cX12_want 59 = .ok (.aload_n 0, 1) := by decide +kernel
theorem dX12_want_60 : decode cX12_want 60 = .ok (.getfield 173, 3) := by decide +kernel
theorem dX12_want_63 : decode cX12_want 63 = .ok (.iload_n 2, 1) := by decide +kernel
theorem dX12_want_64 : decode cX12_want 64 = .ok (.iastore, 1) := by decide +kernel
theorem dX12_want_65 : decode cX12_want 65 = .ok (.aload_n 0, 1) := by decide +kernel
theorem dX12_want_66 : decode cX12_want 66 = .ok (.getfield 185, 3) := by decide +kernel
theorem dX12_want_69 : decode cX12_want 69 = .ok (.aload_n 0, 1) := by decide +kernel
theorem dX12_want_70 : decode cX12_want 70 = .ok (.getfield 173, 3) := by decide +kernel
theorem dX12_want_73 : decode cX12_want 73 = .ok (.iload_n 3, 1) := by decide +kernel
theorem dX12_want_74 : decode cX12_want 74 = .ok (.iastore, 1) := by decide +kernel
theorem dX12_want_75 : decode cX12_want 75 = .ok (.aload_n 0, 1) := by decide +kernel
theorem dX12_want_76 : decode cX12_want 76 = .ok (.dup, 1) := by decide +kernel
theorem dX12_want_77 : decode cX12_want 77 = .ok (.getfield 173, 3) := by decide +kernel
theorem dX12_want_80 : decode cX12_want 80 = .ok (.iconst 1, 1) := by decide +kernel
theorem dX12_want_81 : decode cX12_want 81 = .ok (.iadd, 1) := by decide +kernel
theorem dX12_want_82 : decode cX12_want 82 = .ok (.putfield 173, 3) := by decide +kernel
theorem dX12_want_85 : decode cX12_want 85 = .ok (.aload_n 0, 1) := by decide +kernel
theorem dX12_want_86 : decode cX12_want 86 = .ok (.getfield 173, 3) := by decide +kernel
theorem dX12_want_89 : decode cX12_want 89 = .ok (.ireturn, 1) := by decide +kernel
set_option maxRecDepth 100000 in
set_option maxHeartbeats 4000000 in
theorem c_X12_want {l : Launch} {K : KG} {ad : Nat → Nat → Nat} {fl : Nat} {a1 : Int32} {a2 : Int32} {a3 : Int32} {M0 : Mem} {r9 : Int32} {M9 : Mem} (hf : f_X12_want fl a1 a2 a3 M0 = some (r9, M9)) : Met l yX12_want (Cond.code yX12_want cX12_want 4 (some .int) :: ztb) (RM (3) 0 0) (zPc K LM ad M0 [.ref (ad 0 0), .int a1, .int a2, .int a3]) (zQ K LM ad (some (.int r9)) M9) 0 0 (zA ad) := by
  refine z_enter (by decide) (Nat.le_of_ble_eq_true rfl) ?_
  intro p e s m args below meth c ls C hin hargs Z hl
  replace C : Cx p s m args meth c cX12_want 4 "GlassPalaceModel" (some .int) := C
  replace hl : lv_has ls 4 [(0, .ref (ad 0 0)), (1, .int a1), (2, .int a2), (3, .int a3)] := hl
  have hR : 3 ≤ (RM (3) 0 0).frames ∧ 40 * (3) ≤ (RM (3) 0 0).locals := ⟨Nat.le_refl _, Nat.le_refl _⟩
  have hB : 0 ≤ (RM (3) 0 0).cells ∧ 0 ≤ (RM (3) 0 0).slots := ⟨Nat.zero_le _, Nat.zero_le _⟩
  unfold f_X12_want at hf
  refine lv_aload_n C.x C.b dX12_want_0 rfl (lv_at hl 0 rfl) ?_
  refine lv_iload_n C.x C.b dX12_want_1 rfl (lv_at hl 1 rfl) ?_
  replace hf := bn2_s hf; obtain ⟨v2, m1, hkm1, hf⟩ := hf
  refine z_cV (As := [.int a1]) (rest := []) (st1 := [.int v2]) C Z mw_X12_isKind mv_X12_isKind k_1669 (by decide) (z_hR hR (by decide)) (lvM0 Nat.zero_lt_one) kM0 zc12 (c_X12_isKind (l := l) (K := K) (ad := ad) hkm1) rfl hl.1 rfl (Nat.le_of_ble_eq_true rfl) dX12_want_2 hB rfl (fun H locs Z => ?_)
  refine lv_if_ne (tgt := 10) C.x C.b dX12_want_5 (by decide) (fun hc3 => ?_) (fun hc3 => ?_)
  · replace hf := ite_f hf hc3
    refine lv_aload_n C.x C.b dX12_want_10 rfl (lv_at hl 0 rfl) ?_
    refine lv_iload_n C.x C.b dX12_want_11 rfl (lv_at hl 2 rfl) ?_
    refine lv_iconst (v := 1) C.x C.b dX12_want_12 (by decide) ?_
    refine lv_sipush (v := 999) C.x C.b dX12_want_13 (by decide) ?_
    replace hf := bn2_s hf; obtain ⟨v5, m4, hkm4, hf⟩ := hf
    refine z_cV (As := [.int a2, .int 1, .int 999]) (rest := []) (st1 := [.int v5]) C Z mw_X12_in mv_X12_in k_1398 (by decide) (z_hR hR (by decide)) (lvM0 Nat.zero_lt_one) kM0 zc12 (c_X12_in (l := l) (K := K) (ad := ad) hkm4) rfl hl.1 rfl (Nat.le_of_ble_eq_true rfl) dX12_want_16 hB rfl (fun H locs Z => ?_)
    refine lv_if_eq (tgt := 30) C.x C.b dX12_want_19 (by decide) (fun hc6 => ?_) (fun hc6 => ?_)
    · replace hf := ite_t hf hc6
      refine lv_bipush (v := (-2)) C.x C.b dX12_want_30 (by decide) ?_
      obtain ⟨rfl, rfl⟩ := pr_s hf
      exact z_iret C Z dX12_want_32
    · replace hf := ite_f hf hc6
      refine lv_aload_n C.x C.b dX12_want_22 rfl (lv_at hl 0 rfl) ?_
      refine lv_iload_n C.x C.b dX12_want_23 rfl (lv_at hl 3 rfl) ?_
      replace hf := bn2_s hf; obtain ⟨v8, m7, hkm7, hf⟩ := hf
      refine z_cV (As := [.int a3]) (rest := []) (st1 := [.int v8]) C Z mw_X12_isDay mv_X12_isDay k_1577 (by decide) (z_hR hR (by decide)) (lvM0 Nat.zero_lt_one) kM0 zc12 (c_X12_isDay (l := l) (K := K) (ad := ad) hkm7) rfl hl.1 rfl (Nat.le_of_ble_eq_true rfl) dX12_want_24 hB rfl (fun H locs Z => ?_)
      refine lv_if_ne (tgt := 33) C.x C.b dX12_want_27 (by decide) (fun hc9 => ?_) (fun hc9 => ?_)
      · replace hf := ite_f hf hc9
        refine lv_aload_n C.x C.b dX12_want_33 rfl (lv_at hl 0 rfl) ?_
        refine z_get C Z (lvM0 Nat.zero_lt_one) kM0 zc12 zin12 51 (by decide) k_1227 rfl svM0_51 dX12_want_34 ?_
        refine lv_bipush (v := 20) C.x C.b dX12_want_37 (by decide) ?_
        refine lv_icmp_ne (tgt := 45) C.x C.b dX12_want_39 (by decide) (fun hc10 => ?_) (fun hc10 => ?_)
        · replace hf := ite_f hf hc10
          refine lv_aload_n C.x C.b dX12_want_45 rfl (lv_at hl 0 rfl) ?_
          refine z_get C Z (lvM0 Nat.zero_lt_one) kM0 zc12 zin12 53 (by decide) k_1229 rfl svM0_53 dX12_want_46 ?_
          refine lv_aload_n C.x C.b dX12_want_49 rfl (lv_at hl 0 rfl) ?_
          refine z_get C Z (lvM0 Nat.zero_lt_one) kM0 zc12 zin12 51 (by decide) k_1227 rfl svM0_51 dX12_want_50 ?_
          refine lv_iload_n C.x C.b dX12_want_53 rfl (lv_at hl 1 rfl) ?_
          replace hf := asr_s hf; obtain ⟨hq11, hf⟩ := hf
          replace hf := lt1_s hf; obtain ⟨m12, em12, hf⟩ := hf
          refine z_iast (M1 := m12) C Z (lvM38 Nat.zero_lt_one) (by decide) kM38 hq11 em12 stM38u dX12_want_54 (fun H locs Z => ?_)
          refine lv_aload_n C.x C.b dX12_want_55 rfl (lv_at hl 0 rfl) ?_
          refine z_get C Z (lvM0 Nat.zero_lt_one) kM0 zc12 zin12 54 (by decide) k_1230 rfl svM0_54 dX12_want_56 ?_
          refine lv_aload_n C.x C.b dX12_want_59 rfl (lv_at hl 0 rfl) ?_
          refine z_get C Z (lvM0 Nat.zero_lt_one) kM0 zc12 zin12 51 (by decide) k_1227 rfl svM0_51 dX12_want_60 ?_
          refine lv_iload_n C.x C.b dX12_want_63 rfl (lv_at hl 2 rfl) ?_
          replace hf := asr_s hf; obtain ⟨hq13, hf⟩ := hf
          replace hf := lt1_s hf; obtain ⟨m14, em14, hf⟩ := hf
          refine z_iast (M1 := m14) C Z (lvM39 Nat.zero_lt_one) (by decide) kM39 hq13 em14 stM39u dX12_want_64 (fun H locs Z => ?_)
          refine lv_aload_n C.x C.b dX12_want_65 rfl (lv_at hl 0 rfl) ?_
          refine z_get C Z (lvM0 Nat.zero_lt_one) kM0 zc12 zin12 55 (by decide) k_1231 rfl svM0_55 dX12_want_66 ?_
          refine lv_aload_n C.x C.b dX12_want_69 rfl (lv_at hl 0 rfl) ?_
          refine z_get C Z (lvM0 Nat.zero_lt_one) kM0 zc12 zin12 51 (by decide) k_1227 rfl svM0_51 dX12_want_70 ?_
          refine lv_iload_n C.x C.b dX12_want_73 rfl (lv_at hl 3 rfl) ?_
          replace hf := asr_s hf; obtain ⟨hq15, hf⟩ := hf
          replace hf := lt1_s hf; obtain ⟨m16, em16, hf⟩ := hf
          refine z_iast (M1 := m16) C Z (lvM40 Nat.zero_lt_one) (by decide) kM40 hq15 em16 stM40u dX12_want_74 (fun H locs Z => ?_)
          refine lv_aload_n C.x C.b dX12_want_75 rfl (lv_at hl 0 rfl) ?_
          refine lv_dup C.x C.b dX12_want_76 rfl ?_
          refine z_get C Z (lvM0 Nat.zero_lt_one) kM0 zc12 zin12 51 (by decide) k_1227 rfl svM0_51 dX12_want_77 ?_
          refine lv_iconst (v := 1) C.x C.b dX12_want_80 (by decide) ?_
          refine lv_iadd C.x C.b dX12_want_81 ?_
          replace hf := lt1_s hf; obtain ⟨m17, em17, hf⟩ := hf
          refine z_put (M1 := m17) C Z (lvM0 Nat.zero_lt_one) (by decide) kM0 zc12 zin12 tyX12_ok nmX12 51 (by decide) k_1227 rfl (zUp_I em17 stM0_51u) (Or.inl rfl) rfl rfl dX12_want_82 (fun H locs Z => ?_)
          refine lv_aload_n C.x C.b dX12_want_85 rfl (lv_at hl 0 rfl) ?_
          refine z_get C Z (lvM0 Nat.zero_lt_one) kM0 zc12 zin12 51 (by decide) k_1227 rfl svM0_51 dX12_want_86 ?_
          obtain ⟨rfl, rfl⟩ := pr_s hf
          exact z_iret C Z dX12_want_89
        · replace hf := ite_t hf hc10
          refine lv_bipush (v := (-4)) C.x C.b dX12_want_42 (by decide) ?_
          obtain ⟨rfl, rfl⟩ := pr_s hf
          exact z_iret C Z dX12_want_44
      · replace hf := ite_t hf hc9
        refine lv_bipush (v := (-2)) C.x C.b dX12_want_30 (by decide) ?_
        obtain ⟨rfl, rfl⟩ := pr_s hf
        exact z_iret C Z dX12_want_32
  · replace hf := ite_t hf hc3
    refine lv_iconst (v := (-1)) C.x C.b dX12_want_8 (by decide) ?_
    obtain ⟨rfl, rfl⟩ := pr_s hf
    exact z_iret C Z dX12_want_9
theorem dX12_comes_0 : decode cX12_comes 0 = .ok (.iconst 0, 1) := by decide +kernel
theorem dX12_comes_1 : decode cX12_comes 1 = .ok (.istore 4, 2) := by decide +kernel
theorem dX12_comes_3 : decode cX12_comes 3 = .ok (.iconst 0, 1) := by decide +kernel
theorem dX12_comes_4 : decode cX12_comes 4 = .ok (.istore 5, 2) := by decide +kernel
theorem dX12_comes_6 : decode cX12_comes 6 = .ok (.iload 5, 2) := by decide +kernel
theorem dX12_comes_8 : decode cX12_comes 8 = .ok (.aload_n 0, 1) := by decide +kernel
theorem dX12_comes_9 : decode cX12_comes 9 = .ok (.getfield 21, 3) := by decide +kernel
theorem dX12_comes_12 : decode cX12_comes 12 = .ok (.if_icmp .ge 106, 3) := by decide +kernel
theorem dX12_comes_15 : decode cX12_comes 15 = .ok (.aload_n 0, 1) := by decide +kernel
theorem dX12_comes_16 : decode cX12_comes 16 = .ok (.getfield 37, 3) := by decide +kernel
theorem dX12_comes_19 : decode cX12_comes 19 = .ok (.iload 5, 2) := by decide +kernel
theorem dX12_comes_21 : decode cX12_comes 21 = .ok (.iaload, 1) := by decide +kernel
theorem dX12_comes_22 : decode cX12_comes 22 = .ok (.iload_n 1, 1) := by decide +kernel
theorem dX12_comes_23 : decode cX12_comes 23 = .ok (.if_icmp .eq 6, 3) := by decide +kernel
theorem dX12_comes_26 : decode cX12_comes 26 = .ok (.goto 86, 3) := by decide +kernel
theorem dX12_comes_29 : decode cX12_comes 29 = .ok (.aload_n 0, 1) := by decide +kernel
theorem dX12_comes_30 : decode cX12_comes 30 = .ok (.getfield 52, 3) := by decide +kernel
theorem dX12_comes_33 : decode cX12_comes 33 = .ok (.iload 5, 2) := by decide +kernel
theorem dX12_comes_35 : decode cX12_comes 35 = .ok (.iaload, 1) := by decide +kernel
theorem dX12_comes_36 : decode cX12_comes 36 = .ok (.ifCond .lt 13, 3) := by decide +kernel
theorem dX12_comes_39 : decode cX12_comes 39 = .ok (.aload_n 0, 1) := by decide +kernel
theorem dX12_comes_40 : decode cX12_comes 40 = .ok (.getfield 52, 3) := by decide +kernel
theorem dX12_comes_43 : decode cX12_comes 43 = .ok (.iload 5, 2) := by decide +kernel
theorem dX12_comes_45 : decode cX12_comes 45 = .ok (.iaload, 1) := by decide +kernel
theorem dX12_comes_46 : decode cX12_comes 46 = .ok (.goto 42, 3) := by decide +kernel
theorem dX12_comes_49 : decode cX12_comes 49 = .ok (.aload_n 0, 1) := by decide +kernel
theorem dX12_comes_50 : decode cX12_comes 50 = .ok (.getfield 49, 3) := by decide +kernel
theorem dX12_comes_53 : decode cX12_comes 53 = .ok (.iload 5, 2) := by decide +kernel
theorem dX12_comes_55 : decode cX12_comes 55 = .ok (.iaload, 1) := by decide +kernel
theorem dX12_comes_56 : decode cX12_comes 56 = .ok (.iload_n 3, 1) := by decide +kernel
theorem dX12_comes_57 : decode cX12_comes 57 = .ok (.ifCond .eq 18, 3) := by decide +kernel
theorem dX12_comes_60 : decode cX12_comes 60 = .ok (.aload_n 0, 1) := by decide +kernel
theorem dX12_comes_61 : decode cX12_comes 61 = .ok (.getfield 34, 3) := by decide +kernel
theorem dX12_comes_64 : decode cX12_comes 64 = .ok (.aload_n 0, 1) := by decide +kernel
theorem dX12_comes_65 : decode cX12_comes 65 = .ok (.getfield 40, 3) := by decide +kernel
theorem dX12_comes_68 : decode cX12_comes 68 = .ok (.iload 5, 2) := by decide +kernel
theorem dX12_comes_70 : decode cX12_comes 70 = .ok (.iaload, 1) := by decide +kernel
theorem dX12_comes_71 : decode cX12_comes 71 = .ok (.iaload, 1) := by decide +kernel
theorem dX12_comes_72 : decode cX12_comes 72 = .ok (.goto 15, 3) := by decide +kernel
theorem dX12_comes_75 : decode cX12_comes 75 = .ok (.aload_n 0, 1) := by decide +kernel
theorem dX12_comes_76 : decode cX12_comes 76 = .ok (.getfield 31, 3) := by decide +kernel
theorem dX12_comes_79 : decode cX12_comes 79 = .ok (.aload_n 0, 1) := by decide +kernel
theorem dX12_comes_80 : decode cX12_comes 80 = .ok (.getfield 40, 3) := by decide +kernel
theorem dX12_comes_83 : decode cX12_comes 83 = .ok (.iload 5, 2) := by decide +kernel
theorem dX12_comes_85 : decode cX12_comes 85 = .ok (.iaload, 1) := by decide +kernel
theorem dX12_comes_86 : decode cX12_comes 86 = .ok (.iaload, 1) := by decide +kernel
theorem dX12_comes_87 : decode cX12_comes 87 = .ok (.iadd, 1) := by decide +kernel
theorem dX12_comes_88 : decode cX12_comes 88 = .ok (.istore 6, 2) := by decide +kernel
theorem dX12_comes_90 : decode cX12_comes 90 = .ok (.iload 4, 2) := by decide +kernel
theorem dX12_comes_92 : decode cX12_comes 92 = .ok (.iload 6, 2) := by decide +kernel
theorem dX12_comes_94 : decode cX12_comes 94 = .ok (.iload_n 2, 1) := by decide +kernel
theorem dX12_comes_95 : decode cX12_comes 95 = .ok (.if_icmp .gt 13, 3) := by decide +kernel
theorem dX12_comes_98 : decode cX12_comes 98 = .ok (.aload_n 0, 1) := by decide +kernel
theorem dX12_comes_99 : decode cX12_comes 99 = .ok (.getfield 43, 3) := by decide +kernel
theorem dX12_comes_102 : decode cX12_comes 102 = .ok (.iload 5, 2) := by decide +kernel
theorem dX12_comes_104 : decode cX12_comes 104 = .ok (.iaload, 1) := by decide +kernel
theorem dX12_comes_105 : decode cX12_comes 105 = .ok (.goto 4, 3) := by decide +kernel
theorem dX12_comes_108 : decode cX12_comes 108 = .ok (.iconst 0, 1) := by decide +kernel
theorem dX12_comes_109 : decode cX12_comes 109 = .ok (.iadd, 1) := by decide +kernel
theorem dX12_comes_110 : decode cX12_comes 110 = .ok (.istore 4, 2) := by decide +kernel
theorem dX12_comes_112 : decode cX12_comes 112 = .ok (.iinc 5 1, 3) := by decide +kernel
theorem dX12_comes_115 : decode cX12_comes 115 = .ok (.goto (-109), 3) := by decide +kernel
theorem dX12_comes_118 : decode cX12_comes 118 = .ok (.iload 4, 2) := by decide +kernel
theorem dX12_comes_120 : decode cX12_comes 120 = .ok (.ireturn, 1) := by decide +kernel
set_option maxRecDepth 100000 in
set_option maxHeartbeats 4000000 in
theorem w_X12_comes_l6 {p : Program} {l : Launch} {e : Env} {R : Room} {s : State} {m : MethodId} {args : Array Value} {below : List Frame} {meth : Method} {c : Code} {cells slots : Nat} {Q : State → Prop} {K : KG} {ad : Nat → Nat → Nat} {fl : Nat} {g1 : Int32} {g2 : Int32} {g3 : Int32} (C : Cx p s m args meth c cX12_comes 7 "GlassPalaceModel" (some .int)) (hR : 1 ≤ R.frames ∧ 40 * (1) ≤ R.locals) (hB : cells ≤ R.cells ∧ slots ≤ R.slots) : ∀ (n : Nat) (u4 : Int32) (u5 : Int32) (M0 : Mem) (H : Heap) (locs : List Loc) (ls : Array Slot), Zd K LM ad M0 s H locs → lv_has ls 7 [(0, .ref (ad 0 0)), (1, .int g1), (2, .int g2), (3, .int g3), (4, .int u4), (5, .int u5)] → ∀ (q : Int32) (Mq : Mem), f_X12_comes_l6 fl g1 g2 g3 n u4 u5 M0 = some (q, Mq) → (∀ (H : Heap) (locs : List Loc) (ls : Array Slot), Zd K LM ad Mq s H locs → lv_has ls 7 [(4, .int q)] → W p l e R s m args below meth c H locs cells slots Q (F0 m 118 ls [])) → W p l e R s m args below meth c H locs cells slots Q (F0 m 6 ls []) := by
  intro n
  induction n with
  | zero =>
    intro u4 u5 M0 H locs ls Z hl q Mq hf
    have hf : (none : Option (Int32 × Mem)) = some (q, Mq) := hf
    cases hf
  | succ n ih =>
    intro u4 u5 M0 H locs ls Z hl q Mq hf kx0
    replace hf : f_X12_comes_l6_b (f_X12_comes_l6 fl g1 g2 g3 n) fl g1 g2 g3 u4 u5 M0 = some (q, Mq) := hf
    unfold f_X12_comes_l6_b at hf
    refine lv_iload C.x C.b dX12_comes_6 (lv_at hl 5 rfl) ?_
    refine lv_aload_n C.x C.b dX12_comes_8 rfl (lv_at hl 0 rfl) ?_
    refine z_get C Z (lvM0 Nat.zero_lt_one) kM0 zc12 zin12 1 (by decide) k_1177 rfl svM0_1 dX12_comes_9 ?_
    refine lv_icmp_ge (tgt := 118) C.x C.b dX12_comes_12 (by decide) (fun hc1 => ?_) (fun hc1 => ?_)
    · replace hf := ite_t hf hc1
      obtain ⟨rfl, rfl⟩ := pr_s hf
      exact kx0 _ _ _ Z (lv_sub hl [4] rfl)
    · replace hf := ite_f hf hc1
      refine lv_aload_n C.x C.b dX12_comes_15 rfl (lv_at hl 0 rfl) ?_
      refine z_get C Z (lvM0 Nat.zero_lt_one) kM0 zc12 zin12 6 (by decide) k_1182 rfl svM0_6 dX12_comes_16 ?_
      refine lv_iload C.x C.b dX12_comes_19 (lv_at hl 5 rfl) ?_
      replace hf := asr_s hf; obtain ⟨hq2, hf⟩ := hf
      refine z_iald C Z (lvM5 Nat.zero_lt_one) kM5 hq2 svM5 dX12_comes_21 ?_
      refine lv_iload_n C.x C.b dX12_comes_22 rfl (lv_at hl 1 rfl) ?_
      refine lv_icmp_eq (tgt := 29) C.x C.b dX12_comes_23 (by decide) (fun hc3 => ?_) (fun hc3 => ?_)
      · replace hf := ite_t hf hc3
        refine lv_aload_n C.x C.b dX12_comes_29 rfl (lv_at hl 0 rfl) ?_
        refine z_get C Z (lvM0 Nat.zero_lt_one) kM0 zc12 zin12 11 (by decide) k_1187 rfl svM0_11 dX12_comes_30 ?_
        refine lv_iload C.x C.b dX12_comes_33 (lv_at hl 5 rfl) ?_
        replace hf := asr_s hf; obtain ⟨hq4, hf⟩ := hf
        refine z_iald C Z (lvM10 Nat.zero_lt_one) kM10 hq4 svM10 dX12_comes_35 ?_
        replace hf := bn2_s hf; obtain ⟨q5, m6, hq5, hf⟩ := hf
        have kq5 : ∀ (H : Heap) (locs : List Loc) (ls : Array Slot), Zd K LM ad m6 s H locs → lv_has ls 7 [(0, .ref (ad 0 0)), (1, .int g1), (2, .int g2), (3, .int g3), (4, .int u4), (5, .int u5)] → W p l e R s m args below meth c H locs cells slots Q (F0 m 88 ls [.int q5]) := by
          intro H locs ls Z hl
          refine z_istore (lv' := [(6, .int q5), (0, .ref (ad 0 0)), (1, .int g1), (2, .int g2), (3, .int g3), (4, .int u4), (5, .int u5)]) C dX12_comes_88 hl (by decide) rfl (onlast 5 rfl rfl rfl) (fun ls hl => ?_)
          refine lv_iload C.x C.b dX12_comes_90 (lv_at hl 5 rfl) ?_
          refine lv_iload C.x C.b dX12_comes_92 (lv_at hl 0 rfl) ?_
          refine lv_iload_n C.x C.b dX12_comes_94 rfl (lv_at hl 3 rfl) ?_
          refine lv_icmp_gt (tgt := 108) C.x C.b dX12_comes_95 (by decide) (fun hc7 => ?_) (fun hc7 => ?_)
          · replace hf := ite_t hf hc7
            refine lv_iconst (v := 0) C.x C.b dX12_comes_108 (by decide) ?_
            refine lv_iadd C.x C.b dX12_comes_109 ?_
            replace hf := lt1_s hf; obtain ⟨x8, ex8, hf⟩ := hf
            refine z_renI ex8 ?_
            refine z_istore (lv' := [(4, .int x8), (6, .int q5), (0, .ref (ad 0 0)), (1, .int g1), (2, .int g2), (3, .int g3), (5, .int u5)]) C dX12_comes_110 hl (by decide) rfl (onlast 4 rfl rfl rfl) (fun ls hl => ?_)
            replace hf := lt1_s hf; obtain ⟨x9, ex9, hf⟩ := hf
            refine z_iinc (v := x9) (lv' := [(5, .int x9), (4, .int x8), (6, .int q5), (0, .ref (ad 0 0)), (1, .int g1), (2, .int g2), (3, .int g3)]) C dX12_comes_112 hl (k := 6) rfl (by rw [ex9]; rfl) (by decide) rfl (onlast 0 rfl rfl rfl) (fun ls hl => ?_)
            refine lv_goto (tgt := 6) C.x C.b dX12_comes_115 (by decide) ?_
            exact ih _ _ _ _ _ _ Z (lv_sub hl [3, 4, 5, 6, 1, 0] rfl) _ _ hf kx0
          · replace hf := ite_f hf hc7
            refine lv_aload_n C.x C.b dX12_comes_98 rfl (lv_at hl 1 rfl) ?_
            refine z_get C Z (lvM0 Nat.zero_lt_one) kM0 zc12 zin12 8 (by decide) k_1184 rfl svM0_8 dX12_comes_99 ?_
            refine lv_iload C.x C.b dX12_comes_102 (lv_at hl 6 rfl) ?_
            replace hf := asr_s hf; obtain ⟨hq10, hf⟩ := hf
            refine z_iald C Z (lvM7 Nat.zero_lt_one) kM7 hq10 svM7 dX12_comes_104 ?_
            refine lv_goto (tgt := 109) C.x C.b dX12_comes_105 (by decide) ?_
            refine lv_iadd C.x C.b dX12_comes_109 ?_
            replace hf := lt1_s hf; obtain ⟨x11, ex11, hf⟩ := hf
            refine z_renI ex11 ?_
            refine z_istore (lv' := [(4, .int x11), (6, .int q5), (0, .ref (ad 0 0)), (1, .int g1), (2, .int g2), (3, .int g3), (5, .int u5)]) C dX12_comes_110 hl (by decide) rfl (onlast 4 rfl rfl rfl) (fun ls hl => ?_)
            replace hf := lt1_s hf; obtain ⟨x12, ex12, hf⟩ := hf
            refine z_iinc (v := x12) (lv' := [(5, .int x12), (4, .int x11), (6, .int q5), (0, .ref (ad 0 0)), (1, .int g1), (2, .int g2), (3, .int g3)]) C dX12_comes_112 hl (k := 6) rfl (by rw [ex12]; rfl) (by decide) rfl (onlast 0 rfl rfl rfl) (fun ls hl => ?_)
            refine lv_goto (tgt := 6) C.x C.b dX12_comes_115 (by decide) ?_
            exact ih _ _ _ _ _ _ Z (lv_sub hl [3, 4, 5, 6, 1, 0] rfl) _ _ hf kx0
        clear hf
        refine lv_if_lt (tgt := 49) C.x C.b dX12_comes_36 (by decide) (fun hc13 => ?_) (fun hc13 => ?_)
        · have hf := ite_t hq5 hc13; clear hq5
          refine lv_aload_n C.x C.b dX12_comes_49 rfl (lv_at hl 0 rfl) ?_
          refine z_get C Z (lvM0 Nat.zero_lt_one) kM0 zc12 zin12 10 (by decide) k_1186 rfl svM0_10 dX12_comes_50 ?_
          refine lv_iload C.x C.b dX12_comes_53 (lv_at hl 5 rfl) ?_
          replace hf := asr_s hf; obtain ⟨hq14, hf⟩ := hf
          refine z_iald C Z (lvM9 Nat.zero_lt_one) kM9 hq14 svM9 dX12_comes_55 ?_
          refine lv_iload_n C.x C.b dX12_comes_56 rfl (lv_at hl 3 rfl) ?_
          refine lv_if_eq (tgt := 75) C.x C.b dX12_comes_57 (by decide) (fun hc15 => ?_) (fun hc15 => ?_)
          · replace hf := ite_t hf hc15
            refine lv_aload_n C.x C.b dX12_comes_75 rfl (lv_at hl 0 rfl) ?_
            refine z_get C Z (lvM0 Nat.zero_lt_one) kM0 zc12 zin12 4 (by decide) k_1180 rfl svM0_4 dX12_comes_76 ?_
            refine lv_aload_n C.x C.b dX12_comes_79 rfl (lv_at hl 0 rfl) ?_
            refine z_get C Z (lvM0 Nat.zero_lt_one) kM0 zc12 zin12 7 (by decide) k_1183 rfl svM0_7 dX12_comes_80 ?_
            refine lv_iload C.x C.b dX12_comes_83 (lv_at hl 5 rfl) ?_
            replace hf := asr_s hf; obtain ⟨hq16, hf⟩ := hf
            refine z_iald C Z (lvM6 Nat.zero_lt_one) kM6 hq16 svM6 dX12_comes_85 ?_
            replace hf := asr_s hf; obtain ⟨hq17, hf⟩ := hf
            refine z_iald C Z (lvM3 Nat.zero_lt_one) kM3 hq17 svM3 dX12_comes_86 ?_
            refine lv_iadd C.x C.b dX12_comes_87 ?_
            obtain ⟨rfl, rfl⟩ := pr_s hf
            exact kq5 _ _ _ Z (lv_sub hl [0, 1, 2, 3, 4, 5] rfl)
          · replace hf := ite_f hf hc15
            refine lv_aload_n C.x C.b dX12_comes_60 rfl (lv_at hl 0 rfl) ?_
            refine z_get C Z (lvM0 Nat.zero_lt_one) kM0 zc12 zin12 5 (by decide) k_1181 rfl svM0_5 dX12_comes_61 ?_
            refine lv_aload_n C.x C.b dX12_comes_64 rfl (lv_at hl 0 rfl) ?_
            refine z_get C Z (lvM0 Nat.zero_lt_one) kM0 zc12 zin12 7 (by decide) k_1183 rfl svM0_7 dX12_comes_65 ?_
            refine lv_iload C.x C.b dX12_comes_68 (lv_at hl 5 rfl) ?_
            replace hf := asr_s hf; obtain ⟨hq18, hf⟩ := hf
            refine z_iald C Z (lvM6 Nat.zero_lt_one) kM6 hq18 svM6 dX12_comes_70 ?_
            replace hf := asr_s hf; obtain ⟨hq19, hf⟩ := hf
            refine z_iald C Z (lvM4 Nat.zero_lt_one) kM4 hq19 svM4 dX12_comes_71 ?_
            refine lv_goto (tgt := 87) C.x C.b dX12_comes_72 (by decide) ?_
            refine lv_iadd C.x C.b dX12_comes_87 ?_
            obtain ⟨rfl, rfl⟩ := pr_s hf
            exact kq5 _ _ _ Z (lv_sub hl [0, 1, 2, 3, 4, 5] rfl)
        · have hf := ite_f hq5 hc13; clear hq5
          refine lv_aload_n C.x C.b dX12_comes_39 rfl (lv_at hl 0 rfl) ?_
          refine z_get C Z (lvM0 Nat.zero_lt_one) kM0 zc12 zin12 11 (by decide) k_1187 rfl svM0_11 dX12_comes_40 ?_
          refine lv_iload C.x C.b dX12_comes_43 (lv_at hl 5 rfl) ?_
          replace hf := asr_s hf; obtain ⟨hq20, hf⟩ := hf
          refine z_iald C Z (lvM10 Nat.zero_lt_one) kM10 hq20 svM10 dX12_comes_45 ?_
          refine lv_goto (tgt := 88) C.x C.b dX12_comes_46 (by decide) ?_
          obtain ⟨rfl, rfl⟩ := pr_s hf
          exact kq5 _ _ _ Z (lv_sub hl [0, 1, 2, 3, 4, 5] rfl)
      · replace hf := ite_f hf hc3
        refine lv_goto (tgt := 112) C.x C.b dX12_comes_26 (by decide) ?_
        replace hf := lt1_s hf; obtain ⟨x21, ex21, hf⟩ := hf
        refine z_iinc (v := x21) (lv' := [(5, .int x21), (0, .ref (ad 0 0)), (1, .int g1), (2, .int g2), (3, .int g3), (4, .int u4)]) C dX12_comes_112 hl (k := 5) rfl (by rw [ex21]; rfl) (by decide) rfl (onlast 4 rfl rfl rfl) (fun ls hl => ?_)
        refine lv_goto (tgt := 6) C.x C.b dX12_comes_115 (by decide) ?_
        exact ih _ _ _ _ _ _ Z (lv_sub hl [1, 2, 3, 4, 5, 0] rfl) _ _ hf kx0
set_option maxRecDepth 100000 in
set_option maxHeartbeats 4000000 in
theorem c_X12_comes {l : Launch} {K : KG} {ad : Nat → Nat → Nat} {fl : Nat} {a1 : Int32} {a2 : Int32} {a3 : Int32} {M0 : Mem} {r9 : Int32} {M9 : Mem} (hf : f_X12_comes fl a1 a2 a3 M0 = some (r9, M9)) : Met l yX12_comes (Cond.code yX12_comes cX12_comes 7 (some .int) :: ztb) (RM (1) 0 0) (zPc K LM ad M0 [.ref (ad 0 0), .int a1, .int a2, .int a3]) (zQ K LM ad (some (.int r9)) M9) 0 0 (zA ad) := by
  refine z_enter (by decide) (Nat.le_of_ble_eq_true rfl) ?_
  intro p e s m args below meth c ls C hin hargs Z hl
  replace C : Cx p s m args meth c cX12_comes 7 "GlassPalaceModel" (some .int) := C
  replace hl : lv_has ls 7 [(0, .ref (ad 0 0)), (1, .int a1), (2, .int a2), (3, .int a3)] := hl
  have hR : 1 ≤ (RM (1) 0 0).frames ∧ 40 * (1) ≤ (RM (1) 0 0).locals := ⟨Nat.le_refl _, Nat.le_refl _⟩
  have hB : 0 ≤ (RM (1) 0 0).cells ∧ 0 ≤ (RM (1) 0 0).slots := ⟨Nat.zero_le _, Nat.zero_le _⟩
  unfold f_X12_comes at hf
  refine lv_iconst (v := 0) C.x C.b dX12_comes_0 (by decide) ?_
  refine z_istore (lv' := [(4, .int 0), (0, .ref (ad 0 0)), (1, .int a1), (2, .int a2), (3, .int a3)]) C dX12_comes_1 hl (by decide) rfl (onlast 3 rfl rfl rfl) (fun ls hl => ?_)
  refine lv_iconst (v := 0) C.x C.b dX12_comes_3 (by decide) ?_
  refine z_istore (lv' := [(5, .int 0), (4, .int 0), (0, .ref (ad 0 0)), (1, .int a1), (2, .int a2), (3, .int a3)]) C dX12_comes_4 hl (by decide) rfl (onlast 0 rfl rfl rfl) (fun ls hl => ?_)
  replace hf := bn2_s hf; obtain ⟨q22, m23, hq22, hf⟩ := hf
  refine w_X12_comes_l6 C hR hB  fl _ _ _ _ _ _ Z (lv_sub hl [2, 3, 4, 5, 1, 0] rfl) _ _ hq22 (fun H locs ls Z hl => ?_)
  refine lv_iload C.x C.b dX12_comes_118 (lv_at hl 0 rfl) ?_
  obtain ⟨rfl, rfl⟩ := pr_s hf
  exact z_iret C Z dX12_comes_120
theorem dX12_ahead_0 : decode cX12_ahead 0 = .ok (.aload_n 0, 1) := by decide +kernel
theorem dX12_ahead_1 : decode cX12_ahead 1 = .ok (.iload_n 1, 1) := by decide +kernel
theorem dX12_ahead_2 : decode cX12_ahead 2 = .ok (.invokevirtual 359, 3) := by decide +kernel
theorem dX12_ahead_5 : decode cX12_ahead 5 = .ok (.ifCond .ne 7, 3) := by decide +kernel
theorem dX12_ahead_8 : decode cX12_ahead 8 = .ok (.iconst (-1), 1) := by decide +kernel
theorem dX12_ahead_9 : decode cX12_ahead 9 = .ok (.goto 23, 3) := by decide +kernel
theorem dX12_ahead_12 : decode cX12_ahead 12 = .ok (.aload_n 0, 1) := by decide +kernel
theorem dX12_ahead_13 : decode cX12_ahead 13 = .ok (.iload_n 2, 1) := by decide +kernel
theorem dX12_ahead_14 : decode cX12_ahead 14 = .ok (.invokevirtual 326, 3) := by decide +kernel
theorem dX12_ahead_17 : decode cX12_ahead 17 = .ok (.ifCond .eq 13, 3) := by decide +kernel
theorem dX12_ahead_20 : decode cX12_ahead 20 = .ok (.aload_n 0, 1) := by decide +kernel
theorem dX12_ahead_21 : decode cX12_ahead 21 = .ok (.iload_n 1, 1) := by decide +kernel
theorem dX12_ahead_22 : decode cX12_ahead 22 = .ok (.iload_n 2, 1) := by decide +kernel
theorem dX12_ahead_23 : decode cX12_ahead 23 = .ok (.iload_n 3, 1) := by decide +kernel
theorem dX12_ahead_24 : decode cX12_ahead 24 = .ok (.invokevirtual 362, 3) := by decide +kernel
theorem dX12_ahead_27 : decode cX12_ahead 27 = .ok (.goto 5, 3) := by decide +kernel
theorem dX12_ahead_30 : decode cX12_ahead 30 = .ok (.bipush (-2), 2) := by decide +kernel
theorem dX12_ahead_32 : decode cX12_ahead 32 = .ok (.ireturn, 1) := by decide +kernel
set_option maxRecDepth 100000 in
set_option maxHeartbeats 4000000 in
theorem c_X12_ahead {l : Launch} {K : KG} {ad : Nat → Nat → Nat} {fl : Nat} {a1 : Int32} {a2 : Int32} {a3 : Int32} {M0 : Mem} {r9 : Int32} {M9 : Mem} (hf : f_X12_ahead fl a1 a2 a3 M0 = some (r9, M9)) : Met l yX12_ahead (Cond.code yX12_ahead cX12_ahead 4 (some .int) :: ztb) (RM (3) 0 0) (zPc K LM ad M0 [.ref (ad 0 0), .int a1, .int a2, .int a3]) (zQ K LM ad (some (.int r9)) M9) 0 0 (zA ad) := by
  refine z_enter (by decide) (Nat.le_of_ble_eq_true rfl) ?_
  intro p e s m args below meth c ls C hin hargs Z hl
  replace C : Cx p s m args meth c cX12_ahead 4 "GlassPalaceModel" (some .int) := C
  replace hl : lv_has ls 4 [(0, .ref (ad 0 0)), (1, .int a1), (2, .int a2), (3, .int a3)] := hl
  have hR : 3 ≤ (RM (3) 0 0).frames ∧ 40 * (3) ≤ (RM (3) 0 0).locals := ⟨Nat.le_refl _, Nat.le_refl _⟩
  have hB : 0 ≤ (RM (3) 0 0).cells ∧ 0 ≤ (RM (3) 0 0).slots := ⟨Nat.zero_le _, Nat.zero_le _⟩
  unfold f_X12_ahead at hf
  refine lv_aload_n C.x C.b dX12_ahead_0 rfl (lv_at hl 0 rfl) ?_
  refine lv_iload_n C.x C.b dX12_ahead_1 rfl (lv_at hl 1 rfl) ?_
  replace hf := bn2_s hf; obtain ⟨v2, m1, hkm1, hf⟩ := hf
  refine z_cV (As := [.int a1]) (rest := []) (st1 := [.int v2]) C Z mw_X12_isKind mv_X12_isKind k_1669 (by decide) (z_hR hR (by decide)) (lvM0 Nat.zero_lt_one) kM0 zc12 (c_X12_isKind (l := l) (K := K) (ad := ad) hkm1) rfl hl.1 rfl (Nat.le_of_ble_eq_true rfl) dX12_ahead_2 hB rfl (fun H locs Z => ?_)
  refine lv_if_ne (tgt := 12) C.x C.b dX12_ahead_5 (by decide) (fun hc3 => ?_) (fun hc3 => ?_)
  · replace hf := ite_f hf hc3
    refine lv_aload_n C.x C.b dX12_ahead_12 rfl (lv_at hl 0 rfl) ?_
    refine lv_iload_n C.x C.b dX12_ahead_13 rfl (lv_at hl 2 rfl) ?_
    replace hf := bn2_s hf; obtain ⟨v5, m4, hkm4, hf⟩ := hf
    refine z_cV (As := [.int a2]) (rest := []) (st1 := [.int v5]) C Z mw_X12_isDay mv_X12_isDay k_1577 (by decide) (z_hR hR (by decide)) (lvM0 Nat.zero_lt_one) kM0 zc12 (c_X12_isDay (l := l) (K := K) (ad := ad) hkm4) rfl hl.1 rfl (Nat.le_of_ble_eq_true rfl) dX12_ahead_14 hB rfl (fun H locs Z => ?_)
    refine lv_if_eq (tgt := 30) C.x C.b dX12_ahead_17 (by decide) (fun hc6 => ?_) (fun hc6 => ?_)
    · replace hf := ite_t hf hc6
      refine lv_bipush (v := (-2)) C.x C.b dX12_ahead_30 (by decide) ?_
      obtain ⟨rfl, rfl⟩ := pr_s hf
      exact z_iret C Z dX12_ahead_32
    · replace hf := ite_f hf hc6
      refine lv_aload_n C.x C.b dX12_ahead_20 rfl (lv_at hl 0 rfl) ?_
      refine lv_iload_n C.x C.b dX12_ahead_21 rfl (lv_at hl 1 rfl) ?_
      refine lv_iload_n C.x C.b dX12_ahead_22 rfl (lv_at hl 2 rfl) ?_
      refine lv_iload_n C.x C.b dX12_ahead_23 rfl (lv_at hl 3 rfl) ?_
      replace hf := bn2_s hf; obtain ⟨v8, m7, hkm7, hf⟩ := hf
      refine z_cV (As := [.int a1, .int a2, .int a3]) (rest := []) (st1 := [.int v8]) C Z mw_X12_comes mv_X12_comes k_1677 (by decide) (z_hR hR (by decide)) (lvM0 Nat.zero_lt_one) kM0 zc12 (c_X12_comes (l := l) (K := K) (ad := ad) hkm7) rfl hl.1 rfl (Nat.le_of_ble_eq_true rfl) dX12_ahead_24 hB rfl (fun H locs Z => ?_)
      refine lv_goto (tgt := 32) C.x C.b dX12_ahead_27 (by decide) ?_
      obtain ⟨rfl, rfl⟩ := pr_s hf
      exact z_iret C Z dX12_ahead_32
  · replace hf := ite_t hf hc3
    refine lv_iconst (v := (-1)) C.x C.b dX12_ahead_8 (by decide) ?_
    refine lv_goto (tgt := 32) C.x C.b dX12_ahead_9 (by decide) ?_
    obtain ⟨rfl, rfl⟩ := pr_s hf
    exact z_iret C Z dX12_ahead_32
theorem dX12_findNeeds_0 : decode cX12_findNeeds 0 = .ok (.iconst 0, 1) := by decide +kernel
theorem dX12_findNeeds_1 : decode cX12_findNeeds 1 = .ok (.istore_n 2, 1) := by decide +kernel
theorem dX12_findNeeds_2 : decode cX12_findNeeds 2 = .ok (.iload_n 2, 1) := by decide +kernel
theorem dX12_findNeeds_3 : decode cX12_findNeeds 3 = .ok (.aload_n 0, 1) := by decide +kernel
theorem dX12_findNeeds_4 : decode cX12_findNeeds 4 = .ok (.getfield 173, 3) := by decide +kernel
theorem dX12_findNeeds_7 : decode cX12_findNeeds 7 = .ok (.if_icmp .ge 104, 3) := by decide +kernel
theorem dX12_findNeeds_10 : decode cX12_findNeeds 10 = .ok (.aload_n 0, 1) := by decide +kernel
theorem dX12_findNeeds_11 : decode cX12_findNeeds 11 = .ok (.getfield 200, 3) := by decide +kernel
theorem dX12_findNeeds_14 : decode cX12_findNeeds 14 = .ok (.iload_n 2, 1) := by decide +kernel
theorem dX12_findNeeds_15 : decode cX12_findNeeds 15 = .ok (.iconst 0, 1) := by decide +kernel
theorem dX12_findNeeds_16 : decode cX12_findNeeds 16 = .ok (.iastore, 1) := by decide +kernel
theorem dX12_findNeeds_17 : decode cX12_findNeeds 17 = .ok (.iconst 0, 1) := by decide +kernel
theorem dX12_findNeeds_18 : decode cX12_findNeeds 18 = .ok (.istore_n 3, 1) := by decide +kernel
theorem dX12_findNeeds_19 : decode cX12_findNeeds 19 = .ok (.iload_n 3, 1) := by decide +kernel
theorem dX12_findNeeds_20 : decode cX12_findNeeds 20 = .ok (.aload_n 0, 1) := by decide +kernel
theorem dX12_findNeeds_21 : decode cX12_findNeeds 21 = .ok (.getfield 173, 3) := by decide +kernel
theorem dX12_findNeeds_24 : decode cX12_findNeeds 24 = .ok (.if_icmp .ge 58, 3) := by decide +kernel
theorem dX12_findNeeds_27 : decode cX12_findNeeds 27 = .ok (.aload_n 0, 1) := by decide +kernel
theorem dX12_findNeeds_28 : decode cX12_findNeeds 28 = .ok (.getfield 200, 3) := by decide +kernel
theorem dX12_findNeeds_31 : decode cX12_findNeeds 31 = .ok (.iload_n 2, 1) := by decide +kernel
theorem dX12_findNeeds_32 : decode cX12_findNeeds 32 = .ok (.dup2, 1) := by decide +kernel
theorem dX12_findNeeds_33 : decode cX12_findNeeds 33 = .ok (.iaload, 1) := by decide +kernel
theorem dX12_findNeeds_34 : decode cX12_findNeeds 34 = .ok (.aload_n 0, 1) := by decide +kernel
theorem dX12_findNeeds_35 : decode cX12_findNeeds 35 = .ok (.getfield 179, 3) := by decide +kernel
theorem dX12_findNeeds_38 : decode cX12_findNeeds 38 = .ok (.iload_n 3, 1) := by decide +kernel
theorem dX12_findNeeds_39 : decode cX12_findNeeds 39 = .ok (.iaload, 1) := by decide +kernel
theorem dX12_findNeeds_40 : decode cX12_findNeeds 40 = .ok (.aload_n 0, 1) := by decide +kernel
theorem dX12_findNeeds_41 : decode cX12_findNeeds 41 = .ok (.getfield 179, 3) := by decide +kernel
theorem dX12_findNeeds_44 : decode cX12_findNeeds 44 = .ok (.iload_n 2, 1) := by decide +kernel
theorem dX12_findNeeds_45 : decode cX12_findNeeds 45 = .ok (.iaload, 1) := by decide +kernel
theorem dX12_findNeeds_46 : decode cX12_findNeeds 46 = .ok (.if_icmp .ne 27, 3) := by decide +kernel
theorem dX12_findNeeds_49 : decode cX12_findNeeds 49 = .ok (.aload_n 0, 1) := by decide +kernel
theorem dX12_findNeeds_50 : decode cX12_findNeeds 50 = .ok (.getfield 185, 3) := by decide +kernel
theorem dX12_findNeeds_53 : decode cX12_findNeeds 53 = .ok (.iload_n 3, 1) := by decide +kernel
theorem dX12_findNeeds_54 : decode cX12_findNeeds 54 = .ok (.iaload, 1) := by decide +kernel
theorem dX12_findNeeds_55 : decode cX12_findNeeds 55 = .ok (.aload_n 0, 1) := by decide +kernel
theorem dX12_findNeeds_56 : decode cX12_findNeeds 56 = .ok (.getfield 185, 3) := by decide +kernel
theorem dX12_findNeeds_59 : decode cX12_findNeeds 59 = .ok (.iload_n 2, 1) := by decide +kernel
theorem dX12_findNeeds_60 : decode cX12_findNeeds 60 = .ok (.iaload, 1) := by decide +kernel
theorem dX12_findNeeds_61 : decode cX12_findNeeds 61 = .ok (.if_icmp .gt 12, 3) := by decide +kernel
theorem dX12_findNeeds_64 : decode cX12_findNeeds 64 = .ok (.aload_n 0, 1) := by decide +kernel
theorem dX12_findNeeds_65 : decode cX12_findNeeds 65 = .ok (.getfield 182, 3) := by decide +kernel
theorem dX12_findNeeds_68 : decode cX12_findNeeds 68 = .ok (.iload_n 3, 1) := by decide +kernel
theorem dX12_findNeeds_69 : decode cX12_findNeeds 69 = .ok (.iaload, 1) := by decide +kernel
theorem dX12_findNeeds_70 : decode cX12_findNeeds 70 = .ok (.goto 4, 3) := by decide +kernel
theorem dX12_findNeeds_73 : decode cX12_findNeeds 73 = .ok (.iconst 0, 1) := by decide +kernel
theorem dX12_findNeeds_74 : decode cX12_findNeeds 74 = .ok (.iadd, 1) := by decide +kernel
theorem dX12_findNeeds_75 : decode cX12_findNeeds 75 = .ok (.iastore, 1) := by decide +kernel
theorem dX12_findNeeds_76 : decode cX12_findNeeds 76 = .ok (.iinc 3 1, 3) := by decide +kernel
theorem dX12_findNeeds_79 : decode cX12_findNeeds 79 = .ok (.goto (-60), 3) := by decide +kernel
theorem dX12_findNeeds_82 : decode cX12_findNeeds 82 = .ok (.aload_n 0, 1) := by decide +kernel
theorem dX12_findNeeds_83 : decode cX12_findNeeds 83 = .ok (.getfield 203, 3) := by decide +kernel
theorem dX12_findNeeds_86 : decode cX12_findNeeds 86 = .ok (.iload_n 2, 1) := by decide +kernel
theorem dX12_findNeeds_87 : decode cX12_findNeeds 87 = .ok (.aload_n 0, 1) := by decide +kernel
theorem dX12_findNeeds_88 : decode cX12_findNeeds 88 = .ok (.aload_n 0, 1) := by decide +kernel
theorem dX12_findNeeds_89 : decode cX12_findNeeds 89 = .ok (.getfield 179, 3) := by decide +kernel
theorem dX12_findNeeds_92 : decode cX12_findNeeds 92 = .ok (.iload_n 2, 1) := by decide +kernel
theorem dX12_findNeeds_93 : decode cX12_findNeeds 93 = .ok (.iaload, 1) := by decide +kernel
theorem dX12_findNeeds_94 : decode cX12_findNeeds 94 = .ok (.aload_n 0, 1) := by decide +kernel
theorem dX12_findNeeds_95 : decode cX12_findNeeds 95 = .ok (.getfield 185, 3) := by decide +kernel
theorem dX12_findNeeds_98 : decode cX12_findNeeds 98 = .ok (.iload_n 2, 1) := by decide +kernel
theorem dX12_findNeeds_99 : decode cX12_findNeeds 99 = .ok (.iaload, 1) := by decide +kernel
theorem dX12_findNeeds_100 : decode cX12_findNeeds 100 = .ok (.iload_n 1, 1) := by decide +kernel
theorem dX12_findNeeds_101 : decode cX12_findNeeds 101 = .ok (.invokevirtual 362, 3) := by decide +kernel
theorem dX12_findNeeds_104 : decode cX12_findNeeds 104 = .ok (.iastore, 1) := by decide +kernel
theorem dX12_findNeeds_105 : decode cX12_findNeeds 105 = .ok (.iinc 2 1, 3) := by decide +kernel
theorem dX12_findNeeds_108 : decode cX12_findNeeds 108 = .ok (.goto (-106), 3) := by decide +kernel
theorem dX12_findNeeds_111 : decode cX12_findNeeds 111 = .ok (.return_, 1) := by decide +kernel
set_option maxRecDepth 100000 in
set_option maxHeartbeats 4000000 in
theorem w_X12_findNeeds_l19 {p : Program} {l : Launch} {e : Env} {R : Room} {s : State} {m : MethodId} {args : Array Value} {below : List Frame} {meth : Method} {c : Code} {cells slots : Nat} {Q : State → Prop} {K : KG} {ad : Nat → Nat → Nat} {fl : Nat} {g1 : Int32} {g2 : Int32} (C : Cx p s m args meth c cX12_findNeeds 4 "GlassPalaceModel" none) (hR : 2 ≤ R.frames ∧ 40 * (2) ≤ R.locals) (hB : cells ≤ R.cells ∧ slots ≤ R.slots) : ∀ (n : Nat) (u3 : Int32) (M0 : Mem) (H : Heap) (locs : List Loc) (ls : Array Slot), Zd K LM ad M0 s H locs → lv_has ls 4 [(0, .ref (ad 0 0)), (1, .int g1), (2, .int g2), (3, .int u3)] → ∀ (Mq : Mem), f_X12_findNeeds_l19 fl g1 g2 n u3 M0 = some Mq → (∀ (H : Heap) (locs : List Loc) (ls : Array Slot), Zd K LM ad Mq s H locs → lv_has ls 4 [(0, .ref (ad 0 0)), (1, .int g1), (2, .int g2)] → W p l e R s m args below meth c H locs cells slots Q (F0 m 82 ls [])) → W p l e R s m args below meth c H locs cells slots Q (F0 m 19 ls []) := by
  intro n
  induction n with
  | zero =>
    intro u3 M0 H locs ls Z hl Mq hf
    have hf : (none : Option (Mem)) = some Mq := hf
    cases hf
  | succ n ih =>
    intro u3 M0 H locs ls Z hl Mq hf kx0
    replace hf : f_X12_findNeeds_l19_b (f_X12_findNeeds_l19 fl g1 g2 n) fl g1 g2 u3 M0 = some Mq := hf
    unfold f_X12_findNeeds_l19_b at hf
    refine lv_iload_n C.x C.b dX12_findNeeds_19 rfl (lv_at hl 3 rfl) ?_
    refine lv_aload_n C.x C.b dX12_findNeeds_20 rfl (lv_at hl 0 rfl) ?_
    refine z_get C Z (lvM0 Nat.zero_lt_one) kM0 zc12 zin12 51 (by decide) k_1227 rfl svM0_51 dX12_findNeeds_21 ?_
    refine lv_icmp_ge (tgt := 82) C.x C.b dX12_findNeeds_24 (by decide) (fun hc4 => ?_) (fun hc4 => ?_)
    · replace hf := ite_t hf hc4
      obtain rfl := sm_s hf
      exact kx0 _ _ _ Z (lv_sub hl [0, 1, 2] rfl)
    · replace hf := ite_f hf hc4
      refine lv_aload_n C.x C.b dX12_findNeeds_27 rfl (lv_at hl 0 rfl) ?_
      refine z_get C Z (lvM0 Nat.zero_lt_one) kM0 zc12 zin12 60 (by decide) k_1236 rfl svM0_60 dX12_findNeeds_28 ?_
      refine lv_iload_n C.x C.b dX12_findNeeds_31 rfl (lv_at hl 2 rfl) ?_
      refine lv_dup2_11 C.x C.b dX12_findNeeds_32 rfl rfl ?_
      replace hf := asr_s hf; obtain ⟨hq5, hf⟩ := hf
      refine z_iald C Z (lvM45 Nat.zero_lt_one) kM45 hq5 svM45 dX12_findNeeds_33 ?_
      refine lv_aload_n C.x C.b dX12_findNeeds_34 rfl (lv_at hl 0 rfl) ?_
      refine z_get C Z (lvM0 Nat.zero_lt_one) kM0 zc12 zin12 53 (by decide) k_1229 rfl svM0_53 dX12_findNeeds_35 ?_
      refine lv_iload_n C.x C.b dX12_findNeeds_38 rfl (lv_at hl 3 rfl) ?_
      replace hf := asr_s hf; obtain ⟨hq6, hf⟩ := hf
      refine z_iald C Z (lvM38 Nat.zero_lt_one) kM38 hq6 svM38 dX12_findNeeds_39 ?_
      refine lv_aload_n C.x C.b dX12_findNeeds_40 rfl (lv_at hl 0 rfl) ?_
      refine z_get C Z (lvM0 Nat.zero_lt_one) kM0 zc12 zin12 53 (by decide) k_1229 rfl svM0_53 dX12_findNeeds_41 ?_
      refine lv_iload_n C.x C.b dX12_findNeeds_44 rfl (lv_at hl 2 rfl) ?_
      replace hf := asr_s hf; obtain ⟨hq7, hf⟩ := hf
      refine z_iald C Z (lvM38 Nat.zero_lt_one) kM38 hq7 svM38 dX12_findNeeds_45 ?_
      refine lv_icmp_ne (tgt := 73) C.x C.b dX12_findNeeds_46 (by decide) (fun hc8 => ?_) (fun hc8 => ?_)
      · replace hf := ite_f hf hc8
        refine lv_iconst (v := 0) C.x C.b dX12_findNeeds_73 (by decide) ?_
        refine lv_iadd C.x C.b dX12_findNeeds_74 ?_
        replace hf := asr_s hf; obtain ⟨hq9, hf⟩ := hf
        replace hf := lt1_s hf; obtain ⟨m10, em10, hf⟩ := hf
        refine z_iast (M1 := m10) C Z (lvM45 Nat.zero_lt_one) (by decide) kM45 hq9 em10 stM45u dX12_findNeeds_75 (fun H locs Z => ?_)
        replace hf := lt1_s hf; obtain ⟨x11, ex11, hf⟩ := hf
        refine z_iinc (v := x11) (lv' := [(3, .int x11), (0, .ref (ad 0 0)), (1, .int g1), (2, .int g2)]) C dX12_findNeeds_76 hl (k := 3) rfl (by rw [ex11]; rfl) (by decide) rfl (onlast 2 rfl rfl rfl) (fun ls hl => ?_)
        refine lv_goto (tgt := 19) C.x C.b dX12_findNeeds_79 (by decide) ?_
        exact ih _ _ _ _ _ Z (lv_sub hl [1, 2, 3, 0] rfl) _ hf kx0
      · replace hf := ite_t hf hc8
        refine lv_aload_n C.x C.b dX12_findNeeds_49 rfl (lv_at hl 0 rfl) ?_
        refine z_get C Z (lvM0 Nat.zero_lt_one) kM0 zc12 zin12 55 (by decide) k_1231 rfl svM0_55 dX12_findNeeds_50 ?_
        refine lv_iload_n C.x C.b dX12_findNeeds_53 rfl (lv_at hl 3 rfl) ?_
        replace hf := asr_s hf; obtain ⟨hq12, hf⟩ := hf
        refine z_iald C Z (lvM40 Nat.zero_lt_one) kM40 hq12 svM40 dX12_findNeeds_54 ?_
        refine lv_aload_n C.x C.b dX12_findNeeds_55 rfl (lv_at hl 0 rfl) ?_
        refine z_get C Z (lvM0 Nat.zero_lt_one) kM0 zc12 zin12 55 (by decide) k_1231 rfl svM0_55 dX12_findNeeds_56 ?_
        refine lv_iload_n C.x C.b dX12_findNeeds_59 rfl (lv_at hl 2 rfl) ?_
        replace hf := asr_s hf; obtain ⟨hq13, hf⟩ := hf
        refine z_iald C Z (lvM40 Nat.zero_lt_one) kM40 hq13 svM40 dX12_findNeeds_60 ?_
        refine lv_icmp_gt (tgt := 73) C.x C.b dX12_findNeeds_61 (by decide) (fun hc14 => ?_) (fun hc14 => ?_)
        · replace hf := ite_t hf hc14
          refine lv_iconst (v := 0) C.x C.b dX12_findNeeds_73 (by decide) ?_
          refine lv_iadd C.x C.b dX12_findNeeds_74 ?_
          replace hf := asr_s hf; obtain ⟨hq15, hf⟩ := hf
          replace hf := lt1_s hf; obtain ⟨m16, em16, hf⟩ := hf
          refine z_iast (M1 := m16) C Z (lvM45 Nat.zero_lt_one) (by decide) kM45 hq15 em16 stM45u dX12_findNeeds_75 (fun H locs Z => ?_)
          replace hf := lt1_s hf; obtain ⟨x17, ex17, hf⟩ := hf
          refine z_iinc (v := x17) (lv' := [(3, .int x17), (0, .ref (ad 0 0)), (1, .int g1), (2, .int g2)]) C dX12_findNeeds_76 hl (k := 3) rfl (by rw [ex17]; rfl) (by decide) rfl (onlast 2 rfl rfl rfl) (fun ls hl => ?_)
          refine lv_goto (tgt := 19) C.x C.b dX12_findNeeds_79 (by decide) ?_
          exact ih _ _ _ _ _ Z (lv_sub hl [1, 2, 3, 0] rfl) _ hf kx0
        · replace hf := ite_f hf hc14
          refine lv_aload_n C.x C.b dX12_findNeeds_64 rfl (lv_at hl 0 rfl) ?_
          refine z_get C Z (lvM0 Nat.zero_lt_one) kM0 zc12 zin12 54 (by decide) k_1230 rfl svM0_54 dX12_findNeeds_65 ?_
          refine lv_iload_n C.x C.b dX12_findNeeds_68 rfl (lv_at hl 3 rfl) ?_
          replace hf := asr_s hf; obtain ⟨hq18, hf⟩ := hf
          refine z_iald C Z (lvM39 Nat.zero_lt_one) kM39 hq18 svM39 dX12_findNeeds_69 ?_
          refine lv_goto (tgt := 74) C.x C.b dX12_findNeeds_70 (by decide) ?_
          refine lv_iadd C.x C.b dX12_findNeeds_74 ?_
          replace hf := asr_s hf; obtain ⟨hq19, hf⟩ := hf
          replace hf := lt1_s hf; obtain ⟨m20, em20, hf⟩ := hf
          refine z_iast (M1 := m20) C Z (lvM45 Nat.zero_lt_one) (by decide) kM45 hq19 em20 stM45u dX12_findNeeds_75 (fun H locs Z => ?_)
          replace hf := lt1_s hf; obtain ⟨x21, ex21, hf⟩ := hf
          refine z_iinc (v := x21) (lv' := [(3, .int x21), (0, .ref (ad 0 0)), (1, .int g1), (2, .int g2)]) C dX12_findNeeds_76 hl (k := 3) rfl (by rw [ex21]; rfl) (by decide) rfl (onlast 2 rfl rfl rfl) (fun ls hl => ?_)
          refine lv_goto (tgt := 19) C.x C.b dX12_findNeeds_79 (by decide) ?_
          exact ih _ _ _ _ _ Z (lv_sub hl [1, 2, 3, 0] rfl) _ hf kx0
set_option maxRecDepth 100000 in
set_option maxHeartbeats 4000000 in
theorem w_X12_findNeeds_l2 {p : Program} {l : Launch} {e : Env} {R : Room} {s : State} {m : MethodId} {args : Array Value} {below : List Frame} {meth : Method} {c : Code} {cells slots : Nat} {Q : State → Prop} {K : KG} {ad : Nat → Nat → Nat} {fl : Nat} {g1 : Int32} (C : Cx p s m args meth c cX12_findNeeds 4 "GlassPalaceModel" none) (hR : 2 ≤ R.frames ∧ 40 * (2) ≤ R.locals) (hB : cells ≤ R.cells ∧ slots ≤ R.slots) : ∀ (n : Nat) (u2 : Int32) (M0 : Mem) (H : Heap) (locs : List Loc) (ls : Array Slot), Zd K LM ad M0 s H locs → lv_has ls 4 [(0, .ref (ad 0 0)), (1, .int g1), (2, .int u2)] → ∀ (Mq : Mem), f_X12_findNeeds_l2 fl g1 n u2 M0 = some Mq → (∀ (H : Heap) (locs : List Loc) (ls : Array Slot), Zd K LM ad Mq s H locs → lv_has ls 4 [] → W p l e R s m args below meth c H locs cells slots Q (F0 m 111 ls [])) → W p l e R s m args below meth c H locs cells slots Q (F0 m 2 ls []) := by
  intro n
  induction n with
  | zero =>
    intro u2 M0 H locs ls Z hl Mq hf
    have hf : (none : Option (Mem)) = some Mq := hf
    cases hf
  | succ n ih =>
    intro u2 M0 H locs ls Z hl Mq hf kx0
    replace hf : f_X12_findNeeds_l2_b (f_X12_findNeeds_l2 fl g1 n) fl g1 u2 M0 = some Mq := hf
    unfold f_X12_findNeeds_l2_b at hf
    refine lv_iload_n C.x C.b dX12_findNeeds_2 rfl (lv_at hl 2 rfl) ?_
    refine lv_aload_n C.x C.b dX12_findNeeds_3 rfl (lv_at hl 0 rfl) ?_
    refine z_get C Z (lvM0 Nat.zero_lt_one) kM0 zc12 zin12 51 (by decide) k_1227 rfl svM0_51 dX12_findNeeds_4 ?_
    refine lv_icmp_ge (tgt := 111) C.x C.b dX12_findNeeds_7 (by decide) (fun hc1 => ?_) (fun hc1 => ?_)
    · replace hf := ite_t hf hc1
      obtain rfl := sm_s hf
      exact kx0 _ _ _ Z (lv_sub hl [] rfl)
    · replace hf := ite_f hf hc1
      refine lv_aload_n C.x C.b dX12_findNeeds_10 rfl (lv_at hl 0 rfl) ?_
      refine z_get C Z (lvM0 Nat.zero_lt_one) kM0 zc12 zin12 60 (by decide) k_1236 rfl svM0_60 dX12_findNeeds_11 ?_
      refine lv_iload_n C.x C.b dX12_findNeeds_14 rfl (lv_at hl 2 rfl) ?_
      refine lv_iconst (v := 0) C.x C.b dX12_findNeeds_15 (by decide) ?_
      replace hf := asr_s hf; obtain ⟨hq2, hf⟩ := hf
      replace hf := lt1_s hf; obtain ⟨m3, em3, hf⟩ := hf
      refine z_iast (M1 := m3) C Z (lvM45 Nat.zero_lt_one) (by decide) kM45 hq2 em3 stM45u dX12_findNeeds_16 (fun H locs Z => ?_)
      refine lv_iconst (v := 0) C.x C.b dX12_findNeeds_17 (by decide) ?_
      refine z_istore_n (lv' := [(3, .int 0), (0, .ref (ad 0 0)), (1, .int g1), (2, .int u2)]) C dX12_findNeeds_18 rfl hl (by decide) rfl (onlast 2 rfl rfl rfl) (fun ls hl => ?_)
      replace hf := bn1_s hf; obtain ⟨m23, hq22, hf⟩ := hf
      refine w_X12_findNeeds_l19 C hR hB  fl _ _ _ _ _ Z (lv_sub hl [1, 2, 3, 0] rfl) _ hq22 (fun H locs ls Z hl => ?_)
      refine lv_aload_n C.x C.b dX12_findNeeds_82 rfl (lv_at hl 0 rfl) ?_
      refine z_get C Z (lvM0 Nat.zero_lt_one) kM0 zc12 zin12 61 (by decide) k_1237 rfl svM0_61 dX12_findNeeds_83 ?_
      refine lv_iload_n C.x C.b dX12_findNeeds_86 rfl (lv_at hl 2 rfl) ?_
      refine lv_aload_n C.x C.b dX12_findNeeds_87 rfl (lv_at hl 0 rfl) ?_
      refine lv_aload_n C.x C.b dX12_findNeeds_88 rfl (lv_at hl 0 rfl) ?_
      refine z_get C Z (lvM0 Nat.zero_lt_one) kM0 zc12 zin12 53 (by decide) k_1229 rfl svM0_53 dX12_findNeeds_89 ?_
      refine lv_iload_n C.x C.b dX12_findNeeds_92 rfl (lv_at hl 2 rfl) ?_
      replace hf := asr_s hf; obtain ⟨hq24, hf⟩ := hf
      refine z_iald C Z (lvM38 Nat.zero_lt_one) kM38 hq24 svM38 dX12_findNeeds_93 ?_
      refine lv_aload_n C.x C.b dX12_findNeeds_94 rfl (lv_at hl 0 rfl) ?_
      refine z_get C Z (lvM0 Nat.zero_lt_one) kM0 zc12 zin12 55 (by decide) k_1231 rfl svM0_55 dX12_findNeeds_95 ?_
      refine lv_iload_n C.x C.b dX12_findNeeds_98 rfl (lv_at hl 2 rfl) ?_
      replace hf := asr_s hf; obtain ⟨hq25, hf⟩ := hf
      refine z_iald C Z (lvM40 Nat.zero_lt_one) kM40 hq25 svM40 dX12_findNeeds_99 ?_
      refine lv_iload_n C.x C.b dX12_findNeeds_100 rfl (lv_at hl 1 rfl) ?_
      replace hf := bn2_s hf; obtain ⟨v27, m26, hkm26, hf⟩ := hf
      refine z_cV (As := [.int (gI m23 38 0 (Int32.toNatClampNeg u2)), .int (gI m23 40 0 (Int32.toNatClampNeg u2)), .int g1]) (rest := [.int u2, .ref (ad 46 0)]) (st1 := [.int v27, .int u2, .ref (ad 46 0)]) C Z mw_X12_comes mv_X12_comes k_1677 (by decide) (z_hR hR (by decide)) (lvM0 Nat.zero_lt_one) kM0 zc12 (c_X12_comes (l := l) (K := K) (ad := ad) hkm26) rfl hl.1 rfl (Nat.le_of_ble_eq_true rfl) dX12_findNeeds_101 hB rfl (fun H locs Z => ?_)
      replace hf := asr_s hf; obtain ⟨hq28, hf⟩ := hf
      replace hf := lt1_s hf; obtain ⟨m29, em29, hf⟩ := hf
      refine z_iast (M1 := m29) C Z (lvM46 Nat.zero_lt_one) (by decide) kM46 hq28 em29 stM46u dX12_findNeeds_104 (fun H locs Z => ?_)
      replace hf := lt1_s hf; obtain ⟨x30, ex30, hf⟩ := hf
      refine z_iinc (v := x30) (lv' := [(2, .int x30), (0, .ref (ad 0 0)), (1, .int g1)]) C dX12_findNeeds_105 hl (k := 2) rfl (by rw [ex30]; rfl) (by decide) rfl (onlast 1 rfl rfl rfl) (fun ls hl => ?_)
      refine lv_goto (tgt := 2) C.x C.b dX12_findNeeds_108 (by decide) ?_
      exact ih _ _ _ _ _ Z (lv_sub hl [1, 2, 0] rfl) _ hf kx0
set_option maxRecDepth 100000 in
set_option maxHeartbeats 4000000 in
theorem c_X12_findNeeds {l : Launch} {K : KG} {ad : Nat → Nat → Nat} {fl : Nat} {a1 : Int32} {M0 : Mem} {M9 : Mem} (hf : f_X12_findNeeds fl a1 M0 = some M9) : Met l yX12_findNeeds (Cond.code yX12_findNeeds cX12_findNeeds 4 none :: ztb) (RM (2) 0 0) (zPc K LM ad M0 [.ref (ad 0 0), .int a1]) (zQ K LM ad (none) M9) 0 0 (zA ad) := by
  refine z_enter (by decide) (Nat.le_of_ble_eq_true rfl) ?_
  intro p e s m args below meth c ls C hin hargs Z hl
  replace C : Cx p s m args meth c cX12_findNeeds 4 "GlassPalaceModel" none := C
  replace hl : lv_has ls 4 [(0, .ref (ad 0 0)), (1, .int a1)] := hl
  have hR : 2 ≤ (RM (2) 0 0).frames ∧ 40 * (2) ≤ (RM (2) 0 0).locals := ⟨Nat.le_refl _, Nat.le_refl _⟩
  have hB : 0 ≤ (RM (2) 0 0).cells ∧ 0 ≤ (RM (2) 0 0).slots := ⟨Nat.zero_le _, Nat.zero_le _⟩
  unfold f_X12_findNeeds at hf
  refine lv_iconst (v := 0) C.x C.b dX12_findNeeds_0 (by decide) ?_
  refine z_istore_n (lv' := [(2, .int 0), (0, .ref (ad 0 0)), (1, .int a1)]) C dX12_findNeeds_1 rfl hl (by decide) rfl (onlast 1 rfl rfl rfl) (fun ls hl => ?_)
  replace hf := bn1_s hf; obtain ⟨m32, hq31, hf⟩ := hf
  refine w_X12_findNeeds_l2 C hR hB  fl _ _ _ _ _ Z (lv_sub hl [1, 2, 0] rfl) _ hq31 (fun H locs ls Z hl => ?_)
  obtain rfl := sm_s hf
  exact z_vret C Z dX12_findNeeds_111
theorem dX12_lacking_0 : decode cX12_lacking 0 = .ok (.iconst (-1), 1) := by decide +kernel
theorem dX12_lacking_1 : decode cX12_lacking 1 = .ok (.istore_n 2, 1) := by decide +kernel
theorem dX12_lacking_2 : decode cX12_lacking 2 = .ok (.iconst 0, 1) := by decide +kernel
theorem dX12_lacking_3 : decode cX12_lacking 3 = .ok (.istore_n 3, 1) := by decide +kernel
theorem dX12_lacking_4 : decode cX12_lacking 4 = .ok (.iload_n 3, 1) := by decide +kernel
theorem dX12_lacking_5 : decode cX12_lacking 5 = .ok (.aload_n 0, 1) := by decide +kernel
theorem dX12_lacking_6 : decode cX12_lacking 6 = .ok (.getfield 173, 3) := by decide +kernel
theorem dX12_lacking_9 : decode cX12_lacking 9 = .ok (.if_icmp .ge 158, 3) := by decide +kernel
theorem dX12_lacking_12 : decode cX12_lacking 12 = .ok (.aload_n 0, 1) := by decide +kernel
theorem dX12_lacking_13 : decode cX12_lacking 13 = .ok (.getfield 203, 3) := by decide +kernel
theorem dX12_lacking_16 : decode cX12_lacking 16 = .ok (.iload_n 3, 1) := by decide +kernel
theorem dX12_lacking_17 : decode cX12_lacking 17 = .ok (.iaload, 1) := by decide +kernel
theorem dX12_lacking_18 : decode cX12_lacking 18 = .ok (.istore 4, 2) := by decide +kernel
theorem dX12_lacking_20 : decode cX12_lacking 20 = .ok (.iconst 0, 1) := by decide +kernel
theorem dX12_lacking_21 : decode cX12_lacking 21 = .ok (.istore 5, 2) := by decide +kernel
theorem dX12_lacking_23 : decode cX12_lacking 23 = .ok (.iload 5, 2) := by decide +kernel
theorem dX12_lacking_25 : decode cX12_lacking 25 = .ok (.aload_n 0, 1) := by decide +kernel
theorem dX12_lacking_26 : decode cX12_lacking 26 = .ok (.getfield 176, 3) := by decide +kernel
theorem dX12_lacking_29 : decode cX12_lacking 29 = .ok (.if_icmp .ge 67, 3) := by decide +kernel
theorem dX12_lacking_32 : decode cX12_lacking 32 = .ok (.iload 4, 2) := by decide +kernel
theorem dX12_lacking_34 : decode cX12_lacking 34 = .ok (.iload_n 1, 1) := by decide +kernel
theorem dX12_lacking_35 : decode cX12_lacking 35 = .ok (.iload 5, 2) := by decide +kernel
theorem dX12_lacking_37 : decode cX12_lacking 37 = .ok (.ishr, 1) := by decide +kernel
theorem dX12_lacking_38 : decode cX12_lacking 38 = .ok (.iconst 1, 1) := by decide +kernel
theorem dX12_lacking_39 : decode cX12_lacking 39 = .ok (.iand, 1) := by decide +kernel
theorem dX12_lacking_40 : decode cX12_lacking 40 = .ok (.iconst 1, 1) := by decide +kernel
theorem dX12_lacking_41 : decode cX12_lacking 41 = .ok (.if_icmp .ne 45, 3) := by decide +kernel
theorem dX12_lacking_44 : decode cX12_lacking 44 = .ok (.aload_n 0, 1) := by decide +kernel
theorem dX12_lacking_45 : decode cX12_lacking 45 = .ok (.getfield 188, 3) := by decide +kernel
theorem dX12_lacking_48 : decode cX12_lacking 48 = .ok (.iload 5, 2) := by decide +kernel
theorem dX12_lacking_50 : decode cX12_lacking 50 = .ok (.iaload, 1) := by decide +kernel
theorem dX12_lacking_51 : decode cX12_lacking 51 = .ok (.aload_n 0, 1) := by decide +kernel
theorem dX12_lacking_52 : decode cX12_lacking 52 = .ok (.getfield 179, 3) := by decide +kernel
theorem dX12_lacking_55 : decode cX12_lacking 55 = .ok (.iload_n 3, 1) := by decide +kernel
theorem dX12_lacking_56 : decode cX12_lacking 56 = .ok (.iaload, 1) := by decide +kernel
theorem dX12_lacking_57 : decode cX12_lacking 57 = .ok (.if_icmp .ne 29, 3) := by decide +kernel
theorem dX12_lacking_60 : decode cX12_lacking 60 = .ok (.aload_n 0, 1) := by decide +kernel
theorem dX12_lacking_61 : decode cX12_lacking 61 = .ok (.getfield 194, 3) := by decide +kernel
theorem dX12_lacking_64 : decode cX12_lacking 64 = .ok (.iload 5, 2) := by decide +kernel
theorem dX12_lacking_66 : decode cX12_lacking 66 = .ok (.iaload, 1) := by decide +kernel
theorem dX12_lacking_67 : decode cX12_lacking 67 = .ok (.aload_n 0, 1) := by decide +kernel
theorem dX12_lacking_68 : decode cX12_lacking 68 = .ok (.getfield 185, 3) := by decide +kernel
theorem dX12_lacking_71 : decode cX12_lacking 71 = .ok (.iload_n 3, 1) := by decide +kernel
theorem dX12_lacking_72 : decode cX12_lacking 72 = .ok (.iaload, 1) := by decide +kernel
theorem dX12_lacking_73 : decode cX12_lacking 73 = .ok (.if_icmp .gt 13, 3) := by decide +kernel
theorem dX12_lacking_76 : decode cX12_lacking 76 = .ok (.aload_n 0, 1) := by decide +kernel
theorem dX12_lacking_77 : decode cX12_lacking 77 = .ok (.getfield 191, 3) := by decide +kernel
theorem dX12_lacking_80 : decode cX12_lacking 80 = .ok (.iload 5, 2) := by decide +kernel
theorem dX12_lacking_82 : decode cX12_lacking 82 = .ok (.iaload, 1) := by decide +kernel
theorem dX12_lacking_83 : decode cX12_lacking 83 = .ok (.goto 4, 3) := by decide +kernel
theorem dX12_lacking_86 : decode cX12_lacking 86 = .ok (.iconst 0, 1) := by decide +kernel
theorem dX12_lacking_87 : decode cX12_lacking 87 = .ok (.iadd, 1) := by decide +kernel
theorem dX12_lacking_88 : decode cX12_lacking 88 = .ok (.istore 4, 2) := by decide +kernel
theorem dX12_lacking_90 : decode cX12_lacking 90 = .ok (.iinc 5 1, 3) := by decide +kernel
theorem dX12_lacking_93 : decode cX12_lacking 93 = .ok (.goto (-70), 3) := by decide +kernel
theorem dX12_lacking_96 : decode cX12_lacking 96 = .ok (.iload 4, 2) := by decide +kernel
theorem dX12_lacking_98 : decode cX12_lacking 98 = .ok (.aload_n 0, 1) := by decide +kernel
theorem dX12_lacking_99 : decode cX12_lacking 99 = .ok (.getfield 200, 3) := by decide +kernel
theorem dX12_lacking_102 : decode cX12_lacking 102 = .ok (.iload_n 3, 1) := by decide +kernel
theorem dX12_lacking_103 : decode cX12_lacking 103 = .ok (.iaload, 1) := by decide +kernel
theorem dX12_lacking_104 : decode cX12_lacking 104 = .ok (.if_icmp .lt 6, 3) := by decide +kernel
theorem dX12_lacking_107 : decode cX12_lacking 107 = .ok (.goto 54, 3) := by decide +kernel
theorem dX12_lacking_110 : decode cX12_lacking 110 = .ok (.iload_n 2, 1) := by decide +kernel
theorem dX12_lacking_111 : decode cX12_lacking 111 = .ok (.ifCond .lt 48, 3) := by decide +kernel
theorem dX12_lacking_114 : decode cX12_lacking 114 = .ok (.aload_n 0, 1) := by decide +kernel
theorem dX12_lacking_115 : decode cX12_lacking 115 = .ok (.getfield 185, 3) := by decide +kernel
theorem dX12_lacking_118 : decode cX12_lacking 118 = .ok (.iload_n 3, 1) := by decide +kernel
theorem dX12_lacking_119 : decode cX12_lacking 119 = .ok (.iaload, 1) := by decide +kernel
theorem dX12_lacking_120 : decode cX12_lacking 120 = .ok (.aload_n 0, 1) := by decide +kernel
theorem dX12_lacking_121 : decode cX12_lacking 121 = .ok (.getfield 185, 3) := by decide +kernel
theorem dX12_lacking_124 : decode cX12_lacking 124 = .ok (.iload_n 2, 1) := by decide +kernel
theorem dX12_lacking_125 : decode cX12_lacking 125 = .ok (.iaload, 1) := by decide +kernel
theorem dX12_lacking_126 : decode cX12_lacking 126 = .ok (.if_icmp .lt 33, 3) := by decide +kernel
theorem dX12_lacking_129 : decode cX12_lacking 129 = .ok (.aload_n 0, 1) := by decide +kernel
theorem dX12_lacking_130 : decode cX12_lacking 130 = .ok (.getfield 185, 3) := by decide +kernel
theorem dX12_lacking_133 : decode cX12_lacking 133 = .ok (.iload_n 3, 1) := by decide +kernel
theorem dX12_lacking_134 : decode cX12_lacking 134 = .ok (.iaload, 1) := by decide +kernel
theorem dX12_lacking_135 : decode cX12_lacking 135 = .ok (.aload_n 0, 1) := by decide +kernel
theorem dX12_lacking_136 : decode cX12_lacking 136 = .ok (.getfield 185, 3) := by decide +kernel
theorem dX12_lacking_139 : decode cX12_lacking 139 = .ok (.iload_n 2, 1) := by decide +kernel
theorem dX12_lacking_140 : decode cX12_lacking 140 = .ok (.iaload, 1) := by decide +kernel
theorem dX12_lacking_141 : decode cX12_lacking 141 = .ok (.if_icmp .ne 20, 3) := by decide +kernel
theorem dX12_lacking_144 : decode cX12_lacking 144 = .ok (.aload_n 0, 1) := by decide +kernel
theorem dX12_lacking_145 : decode cX12_lacking 145 = .ok (.getfield 179, 3) := by decide +kernel
theorem dX12_lacking_148 : decode cX12_lacking 148 = .ok (.iload_n 3, 1) := by decide +kernel
theorem dX12_lacking_149 : decode cX12_lacking 149 = .ok (.iaload, 1) := by decide +kernel
theorem dX12_lacking_150 : decode cX12_lacking 150 = .ok (.aload_n 0, 1) := by decide +kernel
theorem dX12_lacking_151 : decode cX12_lacking 151 = .ok (.getfield 179, 3) := by decide +kernel
theorem dX12_lacking_154 : decode cX12_lacking 154 = .ok (.iload_n 2, 1) := by decide +kernel
theorem dX12_lacking_155 : decode cX12_lacking 155 = .ok (.iaload, 1) := by decide +kernel
theorem dX12_lacking_156 : decode cX12_lacking 156 = .ok (.if_icmp .ge 5, 3) := by decide +kernel
theorem dX12_lacking_159 : decode cX12_lacking 159 = .ok (.iload_n 3, 1) := by decide +kernel
theorem dX12_lacking_160 : decode cX12_lacking 160 = .ok (.istore_n 2, 1) := by decide +kernel
theorem dX12_lacking_161 : decode cX12_lacking 161 = .ok (.iinc 3 1, 3) := by decide +kernel
theorem dX12_lacking_164 : decode cX12_lacking 164 = .ok (.goto (-160), 3) := by decide +kernel
theorem dX12_lacking_167 : decode cX12_lacking 167 = .ok (.iload_n 2, 1) := by decide +kernel
theorem dX12_lacking_168 : decode cX12_lacking 168 = .ok (.ireturn, 1) := by decide +kernel
set_option maxRecDepth 100000 in
set_option maxHeartbeats 4000000 in
theorem w_X12_lacking_l23 {p : Program} {l : Launch} {e : Env} {R : Room} {s : State} {m : MethodId} {args : Array Value} {below : List Frame} {meth : Method} {c : Code} {cells slots : Nat} {Q : State → Prop} {K : KG} {ad : Nat → Nat → Nat} {fl : Nat} {g1 : Int32} {g2 : Int32} {g3 : Int32} (C : Cx p s m args meth c cX12_lacking 6 "GlassPalaceModel" (some .int)) (hR : 1 ≤ R.frames ∧ 40 * (1) ≤ R.locals) (hB : cells ≤ R.cells ∧ slots ≤ R.slots) : ∀ (n : Nat) (u4 : Int32) (u5 : Int32) (M0 : Mem) (H : Heap) (locs : List Loc) (ls : Array Slot), Zd K LM ad M0 s H locs → lv_has ls 6 [(0, .ref (ad 0 0)), (1, .int g1), (2, .int g2), (3, .int g3), (4, .int u4), (5, .int u5)] → ∀ (q : Int32) (Mq : Mem), f_X12_lacking_l23 fl g1 g2 g3 n u4 u5 M0 = some (q, Mq) → (∀ (H : Heap) (locs : List Loc) (ls : Array Slot), Zd K LM ad Mq s H locs → lv_has ls 6 [(0, .ref (ad 0 0)), (1, .int g1), (2, .int g2), (3, .int g3), (4, .int q)] → W p l e R s m args below meth c H locs cells slots Q (F0 m 96 ls [])) → W p l e R s m args below meth c H locs cells slots Q (F0 m 23 ls []) := by
  intro n
  induction n with
  | zero =>
    intro u4 u5 M0 H locs ls Z hl q Mq hf
    have hf : (none : Option (Int32 × Mem)) = some (q, Mq) := hf
    cases hf
  | succ n ih =>
    intro u4 u5 M0 H locs ls Z hl q Mq hf kx0
    replace hf : f_X12_lacking_l23_b (f_X12_lacking_l23 fl g1 g2 g3 n) fl g1 g2 g3 u4 u5 M0 = some (q, Mq) := hf
    unfold f_X12_lacking_l23_b at hf
    refine lv_iload C.x C.b dX12_lacking_23 (lv_at hl 5 rfl) ?_
    refine lv_aload_n C.x C.b dX12_lacking_25 rfl (lv_at hl 0 rfl) ?_
    refine z_get C Z (lvM0 Nat.zero_lt_one) kM0 zc12 zin12 52 (by decide) k_1228 rfl svM0_52 dX12_lacking_26 ?_
    refine lv_icmp_ge (tgt := 96) C.x C.b dX12_lacking_29 (by decide) (fun hc4 => ?_) (fun hc4 => ?_)
    · replace hf := ite_t hf hc4
      obtain ⟨rfl, rfl⟩ := pr_s hf
      exact kx0 _ _ _ Z (lv_sub hl [0, 1, 2, 3, 4] rfl)
    · replace hf := ite_f hf hc4
      refine lv_iload C.x C.b dX12_lacking_32 (lv_at hl 4 rfl) ?_
      refine lv_iload_n C.x C.b dX12_lacking_34 rfl (lv_at hl 1 rfl) ?_
      refine lv_iload C.x C.b dX12_lacking_35 (lv_at hl 5 rfl) ?_
      refine z_ishr C dX12_lacking_37 ?_
      refine lv_iconst (v := 1) C.x C.b dX12_lacking_38 (by decide) ?_
      refine lv_iand C.x C.b dX12_lacking_39 ?_
      refine lv_iconst (v := 1) C.x C.b dX12_lacking_40 (by decide) ?_
      refine lv_icmp_ne (tgt := 86) C.x C.b dX12_lacking_41 (by decide) (fun hc5 => ?_) (fun hc5 => ?_)
      · replace hf := ite_f hf hc5
        refine lv_iconst (v := 0) C.x C.b dX12_lacking_86 (by decide) ?_
        refine lv_iadd C.x C.b dX12_lacking_87 ?_
        replace hf := lt1_s hf; obtain ⟨x6, ex6, hf⟩ := hf
        refine z_renI ex6 ?_
        refine z_istore (lv' := [(4, .int x6), (0, .ref (ad 0 0)), (1, .int g1), (2, .int g2), (3, .int g3), (5, .int u5)]) C dX12_lacking_88 hl (by decide) rfl (onlast 3 rfl rfl rfl) (fun ls hl => ?_)
        replace hf := lt1_s hf; obtain ⟨x7, ex7, hf⟩ := hf
        refine z_iinc (v := x7) (lv' := [(5, .int x7), (4, .int x6), (0, .ref (ad 0 0)), (1, .int g1), (2, .int g2), (3, .int g3)]) C dX12_lacking_90 hl (k := 5) rfl (by rw [ex7]; rfl) (by decide) rfl (onlast 0 rfl rfl rfl) (fun ls hl => ?_)
        refine lv_goto (tgt := 23) C.x C.b dX12_lacking_93 (by decide) ?_
        exact ih _ _ _ _ _ _ Z (lv_sub hl [2, 3, 4, 5, 1, 0] rfl) _ _ hf kx0
      · replace hf := ite_t hf hc5
        refine lv_aload_n C.x C.b dX12_lacking_44 rfl (lv_at hl 0 rfl) ?_
        refine z_get C Z (lvM0 Nat.zero_lt_one) kM0 zc12 zin12 56 (by decide) k_1232 rfl svM0_56 dX12_lacking_45 ?_
        refine lv_iload C.x C.b dX12_lacking_48 (lv_at hl 5 rfl) ?_
        replace hf := asr_s hf; obtain ⟨hq8, hf⟩ := hf
        refine z_iald C Z (lvM41 Nat.zero_lt_one) kM41 hq8 svM41 dX12_lacking_50 ?_
        refine lv_aload_n C.x C.b dX12_lacking_51 rfl (lv_at hl 0 rfl) ?_
        refine z_get C Z (lvM0 Nat.zero_lt_one) kM0 zc12 zin12 53 (by decide) k_1229 rfl svM0_53 dX12_lacking_52 ?_
        refine lv_iload_n C.x C.b dX12_lacking_55 rfl (lv_at hl 3 rfl) ?_
        replace hf := asr_s hf; obtain ⟨hq9, hf⟩ := hf
        refine z_iald C Z (lvM38 Nat.zero_lt_one) kM38 hq9 svM38 dX12_lacking_56 ?_
        refine lv_icmp_ne (tgt := 86) C.x C.b dX12_lacking_57 (by decide) (fun hc10 => ?_) (fun hc10 => ?_)
        · replace hf := ite_f hf hc10
          refine lv_iconst (v := 0) C.x C.b dX12_lacking_86 (by decide) ?_
          refine lv_iadd C.x C.b dX12_lacking_87 ?_
          replace hf := lt1_s hf; obtain ⟨x11, ex11, hf⟩ := hf
          refine z_renI ex11 ?_
          refine z_istore (lv' := [(4, .int x11), (0, .ref (ad 0 0)), (1, .int g1), (2, .int g2), (3, .int g3), (5, .int u5)]) C dX12_lacking_88 hl (by decide) rfl (onlast 3 rfl rfl rfl) (fun ls hl => ?_)
          replace hf := lt1_s hf; obtain ⟨x12, ex12, hf⟩ := hf
          refine z_iinc (v := x12) (lv' := [(5, .int x12), (4, .int x11), (0, .ref (ad 0 0)), (1, .int g1), (2, .int g2), (3, .int g3)]) C dX12_lacking_90 hl (k := 5) rfl (by rw [ex12]; rfl) (by decide) rfl (onlast 0 rfl rfl rfl) (fun ls hl => ?_)
          refine lv_goto (tgt := 23) C.x C.b dX12_lacking_93 (by decide) ?_
          exact ih _ _ _ _ _ _ Z (lv_sub hl [2, 3, 4, 5, 1, 0] rfl) _ _ hf kx0
        · replace hf := ite_t hf hc10
          refine lv_aload_n C.x C.b dX12_lacking_60 rfl (lv_at hl 0 rfl) ?_
          refine z_get C Z (lvM0 Nat.zero_lt_one) kM0 zc12 zin12 58 (by decide) k_1234 rfl svM0_58 dX12_lacking_61 ?_
          refine lv_iload C.x C.b dX12_lacking_64 (lv_at hl 5 rfl) ?_
          replace hf := asr_s hf; obtain ⟨hq13, hf⟩ := hf
          refine z_iald C Z (lvM43 Nat.zero_lt_one) kM43 hq13 svM43 dX12_lacking_66 ?_
          refine lv_aload_n C.x C.b dX12_lacking_67 rfl (lv_at hl 0 rfl) ?_
          refine z_get C Z (lvM0 Nat.zero_lt_one) kM0 zc12 zin12 55 (by decide) k_1231 rfl svM0_55 dX12_lacking_68 ?_
          refine lv_iload_n C.x C.b dX12_lacking_71 rfl (lv_at hl 3 rfl) ?_
          replace hf := asr_s hf; obtain ⟨hq14, hf⟩ := hf
          refine z_iald C Z (lvM40 Nat.zero_lt_one) kM40 hq14 svM40 dX12_lacking_72 ?_
          refine lv_icmp_gt (tgt := 86) C.x C.b dX12_lacking_73 (by decide) (fun hc15 => ?_) (fun hc15 => ?_)
          · replace hf := ite_t hf hc15
            refine lv_iconst (v := 0) C.x C.b dX12_lacking_86 (by decide) ?_
            refine lv_iadd C.x C.b dX12_lacking_87 ?_
            replace hf := lt1_s hf; obtain ⟨x16, ex16, hf⟩ := hf
            refine z_renI ex16 ?_
            refine z_istore (lv' := [(4, .int x16), (0, .ref (ad 0 0)), (1, .int g1), (2, .int g2), (3, .int g3), (5, .int u5)]) C dX12_lacking_88 hl (by decide) rfl (onlast 3 rfl rfl rfl) (fun ls hl => ?_)
            replace hf := lt1_s hf; obtain ⟨x17, ex17, hf⟩ := hf
            refine z_iinc (v := x17) (lv' := [(5, .int x17), (4, .int x16), (0, .ref (ad 0 0)), (1, .int g1), (2, .int g2), (3, .int g3)]) C dX12_lacking_90 hl (k := 5) rfl (by rw [ex17]; rfl) (by decide) rfl (onlast 0 rfl rfl rfl) (fun ls hl => ?_)
            refine lv_goto (tgt := 23) C.x C.b dX12_lacking_93 (by decide) ?_
            exact ih _ _ _ _ _ _ Z (lv_sub hl [2, 3, 4, 5, 1, 0] rfl) _ _ hf kx0
          · replace hf := ite_f hf hc15
            refine lv_aload_n C.x C.b dX12_lacking_76 rfl (lv_at hl 0 rfl) ?_
            refine z_get C Z (lvM0 Nat.zero_lt_one) kM0 zc12 zin12 57 (by decide) k_1233 rfl svM0_57 dX12_lacking_77 ?_
            refine lv_iload C.x C.b dX12_lacking_80 (lv_at hl 5 rfl) ?_
            replace hf := asr_s hf; obtain ⟨hq18, hf⟩ := hf
            refine z_iald C Z (lvM42 Nat.zero_lt_one) kM42 hq18 svM42 dX12_lacking_82 ?_
            refine lv_goto (tgt := 87) C.x C.b dX12_lacking_83 (by decide) ?_
            refine lv_iadd C.x C.b dX12_lacking_87 ?_
            replace hf := lt1_s hf; obtain ⟨x19, ex19, hf⟩ := hf
            refine z_renI ex19 ?_
            refine z_istore (lv' := [(4, .int x19), (0, .ref (ad 0 0)), (1, .int g1), (2, .int g2), (3, .int g3), (5, .int u5)]) C dX12_lacking_88 hl (by decide) rfl (onlast 3 rfl rfl rfl) (fun ls hl => ?_)
            replace hf := lt1_s hf; obtain ⟨x20, ex20, hf⟩ := hf
            refine z_iinc (v := x20) (lv' := [(5, .int x20), (4, .int x19), (0, .ref (ad 0 0)), (1, .int g1), (2, .int g2), (3, .int g3)]) C dX12_lacking_90 hl (k := 5) rfl (by rw [ex20]; rfl) (by decide) rfl (onlast 0 rfl rfl rfl) (fun ls hl => ?_)
            refine lv_goto (tgt := 23) C.x C.b dX12_lacking_93 (by decide) ?_
            exact ih _ _ _ _ _ _ Z (lv_sub hl [2, 3, 4, 5, 1, 0] rfl) _ _ hf kx0
set_option maxRecDepth 100000 in
set_option maxHeartbeats 4000000 in
theorem w_X12_lacking_l4 {p : Program} {l : Launch} {e : Env} {R : Room} {s : State} {m : MethodId} {args : Array Value} {below : List Frame} {meth : Method} {c : Code} {cells slots : Nat} {Q : State → Prop} {K : KG} {ad : Nat → Nat → Nat} {fl : Nat} {g1 : Int32} (C : Cx p s m args meth c cX12_lacking 6 "GlassPalaceModel" (some .int)) (hR : 1 ≤ R.frames ∧ 40 * (1) ≤ R.locals) (hB : cells ≤ R.cells ∧ slots ≤ R.slots) : ∀ (n : Nat) (u2 : Int32) (u3 : Int32) (M0 : Mem) (H : Heap) (locs : List Loc) (ls : Array Slot), Zd K LM ad M0 s H locs → lv_has ls 6 [(0, .ref (ad 0 0)), (1, .int g1), (2, .int u2), (3, .int u3)] → ∀ (q : Int32) (Mq : Mem), f_X12_lacking_l4 fl g1 n u2 u3 M0 = some (q, Mq) → (∀ (H : Heap) (locs : List Loc) (ls : Array Slot), Zd K LM ad Mq s H locs → lv_has ls 6 [(2, .int q)] → W p l e R s m args below meth c H locs cells slots Q (F0 m 167 ls [])) → W p l e R s m args below meth c H locs cells slots Q (F0 m 4 ls []) := by
  intro n
  induction n with
  | zero =>
    intro u2 u3 M0 H locs ls Z hl q Mq hf
    have hf : (none : Option (Int32 × Mem)) = some (q, Mq) := hf
    cases hf
  | succ n ih =>
    intro u2 u3 M0 H locs ls Z hl q Mq hf kx0
    replace hf : f_X12_lacking_l4_b (f_X12_lacking_l4 fl g1 n) fl g1 u2 u3 M0 = some (q, Mq) := hf
    unfold f_X12_lacking_l4_b at hf
    refine lv_iload_n C.x C.b dX12_lacking_4 rfl (lv_at hl 3 rfl) ?_
    refine lv_aload_n C.x C.b dX12_lacking_5 rfl (lv_at hl 0 rfl) ?_
    refine z_get C Z (lvM0 Nat.zero_lt_one) kM0 zc12 zin12 51 (by decide) k_1227 rfl svM0_51 dX12_lacking_6 ?_
    refine lv_icmp_ge (tgt := 167) C.x C.b dX12_lacking_9 (by decide) (fun hc1 => ?_) (fun hc1 => ?_)
    · replace hf := ite_t hf hc1
      obtain ⟨rfl, rfl⟩ := pr_s hf
      exact kx0 _ _ _ Z (lv_sub hl [2] rfl)
    · replace hf := ite_f hf hc1
      refine lv_aload_n C.x C.b dX12_lacking_12 rfl (lv_at hl 0 rfl) ?_
      refine z_get C Z (lvM0 Nat.zero_lt_one) kM0 zc12 zin12 61 (by decide) k_1237 rfl svM0_61 dX12_lacking_13 ?_
      refine lv_iload_n C.x C.b dX12_lacking_16 rfl (lv_at hl 3 rfl) ?_
      replace hf := asr_s hf; obtain ⟨hq2, hf⟩ := hf
      refine z_iald C Z (lvM46 Nat.zero_lt_one) kM46 hq2 svM46 dX12_lacking_17 ?_
      replace hf := lt1_s hf; obtain ⟨x3, ex3, hf⟩ := hf
      refine z_renI ex3 ?_
      refine z_istore (lv' := [(4, .int x3), (0, .ref (ad 0 0)), (1, .int g1), (2, .int u2), (3, .int u3)]) C dX12_lacking_18 hl (by decide) rfl (onlast 3 rfl rfl rfl) (fun ls hl => ?_)
      refine lv_iconst (v := 0) C.x C.b dX12_lacking_20 (by decide) ?_
      refine z_istore (lv' := [(5, .int 0), (4, .int x3), (0, .ref (ad 0 0)), (1, .int g1), (2, .int u2), (3, .int u3)]) C dX12_lacking_21 hl (by decide) rfl (onlast 0 rfl rfl rfl) (fun ls hl => ?_)
      replace hf := bn2_s hf; obtain ⟨q21, m22, hq21, hf⟩ := hf
      refine w_X12_lacking_l23 C hR hB  fl _ _ _ _ _ _ Z (lv_sub hl [2, 3, 4, 5, 1, 0] rfl) _ _ hq21 (fun H locs ls Z hl => ?_)
      refine lv_iload C.x C.b dX12_lacking_96 (lv_at hl 4 rfl) ?_
      refine lv_aload_n C.x C.b dX12_lacking_98 rfl (lv_at hl 0 rfl) ?_
      refine z_get C Z (lvM0 Nat.zero_lt_one) kM0 zc12 zin12 60 (by decide) k_1236 rfl svM0_60 dX12_lacking_99 ?_
      refine lv_iload_n C.x C.b dX12_lacking_102 rfl (lv_at hl 3 rfl) ?_
      replace hf := asr_s hf; obtain ⟨hq23, hf⟩ := hf
      refine z_iald C Z (lvM45 Nat.zero_lt_one) kM45 hq23 svM45 dX12_lacking_103 ?_
      refine lv_icmp_lt (tgt := 110) C.x C.b dX12_lacking_104 (by decide) (fun hc24 => ?_) (fun hc24 => ?_)
      · replace hf := ite_t hf hc24
        refine lv_iload_n C.x C.b dX12_lacking_110 rfl (lv_at hl 2 rfl) ?_
        refine lv_if_lt (tgt := 159) C.x C.b dX12_lacking_111 (by decide) (fun hc25 => ?_) (fun hc25 => ?_)
        · replace hf := ite_t hf hc25
          refine lv_iload_n C.x C.b dX12_lacking_159 rfl (lv_at hl 3 rfl) ?_
          refine z_istore_n (lv' := [(2, .int u3), (0, .ref (ad 0 0)), (1, .int g1), (3, .int u3), (4, .int q21)]) C dX12_lacking_160 rfl hl (by decide) rfl (onlast 1 rfl rfl rfl) (fun ls hl => ?_)
          replace hf := lt1_s hf; obtain ⟨x26, ex26, hf⟩ := hf
          refine z_iinc (v := x26) (lv' := [(3, .int x26), (2, .int u3), (0, .ref (ad 0 0)), (1, .int g1), (4, .int q21)]) C dX12_lacking_161 hl (k := 3) rfl (by rw [ex26]; rfl) (by decide) rfl (onlast 0 rfl rfl rfl) (fun ls hl => ?_)
          refine lv_goto (tgt := 4) C.x C.b dX12_lacking_164 (by decide) ?_
          exact ih _ _ _ _ _ _ Z (lv_sub hl [2, 3, 1, 0] rfl) _ _ hf kx0
        · replace hf := ite_f hf hc25
          refine lv_aload_n C.x C.b dX12_lacking_114 rfl (lv_at hl 0 rfl) ?_
          refine z_get C Z (lvM0 Nat.zero_lt_one) kM0 zc12 zin12 55 (by decide) k_1231 rfl svM0_55 dX12_lacking_115 ?_
          refine lv_iload_n C.x C.b dX12_lacking_118 rfl (lv_at hl 3 rfl) ?_
          replace hf := asr_s hf; obtain ⟨hq27, hf⟩ := hf
          refine z_iald C Z (lvM40 Nat.zero_lt_one) kM40 hq27 svM40 dX12_lacking_119 ?_
          refine lv_aload_n C.x C.b dX12_lacking_120 rfl (lv_at hl 0 rfl) ?_
          refine z_get C Z (lvM0 Nat.zero_lt_one) kM0 zc12 zin12 55 (by decide) k_1231 rfl svM0_55 dX12_lacking_121 ?_
          refine lv_iload_n C.x C.b dX12_lacking_124 rfl (lv_at hl 2 rfl) ?_
          replace hf := asr_s hf; obtain ⟨hq28, hf⟩ := hf
          refine z_iald C Z (lvM40 Nat.zero_lt_one) kM40 hq28 svM40 dX12_lacking_125 ?_
          refine lv_icmp_lt (tgt := 159) C.x C.b dX12_lacking_126 (by decide) (fun hc29 => ?_) (fun hc29 => ?_)
          · replace hf := ite_t hf hc29
            refine lv_iload_n C.x C.b dX12_lacking_159 rfl (lv_at hl 3 rfl) ?_
            refine z_istore_n (lv' := [(2, .int u3), (0, .ref (ad 0 0)), (1, .int g1), (3, .int u3), (4, .int q21)]) C dX12_lacking_160 rfl hl (by decide) rfl (onlast 1 rfl rfl rfl) (fun ls hl => ?_)
            replace hf := lt1_s hf; obtain ⟨x30, ex30, hf⟩ := hf
            refine z_iinc (v := x30) (lv' := [(3, .int x30), (2, .int u3), (0, .ref (ad 0 0)), (1, .int g1), (4, .int q21)]) C dX12_lacking_161 hl (k := 3) rfl (by rw [ex30]; rfl) (by decide) rfl (onlast 0 rfl rfl rfl) (fun ls hl => ?_)
            refine lv_goto (tgt := 4) C.x C.b dX12_lacking_164 (by decide) ?_
            exact ih _ _ _ _ _ _ Z (lv_sub hl [2, 3, 1, 0] rfl) _ _ hf kx0
          · replace hf := ite_f hf hc29
            refine lv_aload_n C.x C.b dX12_lacking_129 rfl (lv_at hl 0 rfl) ?_
            refine z_get C Z (lvM0 Nat.zero_lt_one) kM0 zc12 zin12 55 (by decide) k_1231 rfl svM0_55 dX12_lacking_130 ?_
            refine lv_iload_n C.x C.b dX12_lacking_133 rfl (lv_at hl 3 rfl) ?_
            replace hf := asr_s hf; obtain ⟨hq31, hf⟩ := hf
            refine z_iald C Z (lvM40 Nat.zero_lt_one) kM40 hq31 svM40 dX12_lacking_134 ?_
            refine lv_aload_n C.x C.b dX12_lacking_135 rfl (lv_at hl 0 rfl) ?_
            refine z_get C Z (lvM0 Nat.zero_lt_one) kM0 zc12 zin12 55 (by decide) k_1231 rfl svM0_55 dX12_lacking_136 ?_
            refine lv_iload_n C.x C.b dX12_lacking_139 rfl (lv_at hl 2 rfl) ?_
            replace hf := asr_s hf; obtain ⟨hq32, hf⟩ := hf
            refine z_iald C Z (lvM40 Nat.zero_lt_one) kM40 hq32 svM40 dX12_lacking_140 ?_
            refine lv_icmp_ne (tgt := 161) C.x C.b dX12_lacking_141 (by decide) (fun hc33 => ?_) (fun hc33 => ?_)
            · replace hf := ite_f hf hc33
              replace hf := lt1_s hf; obtain ⟨x34, ex34, hf⟩ := hf
              refine z_iinc (v := x34) (lv' := [(3, .int x34), (0, .ref (ad 0 0)), (1, .int g1), (2, .int u2), (4, .int q21)]) C dX12_lacking_161 hl (k := 3) rfl (by rw [ex34]; rfl) (by decide) rfl (onlast 2 rfl rfl rfl) (fun ls hl => ?_)
              refine lv_goto (tgt := 4) C.x C.b dX12_lacking_164 (by decide) ?_
              exact ih _ _ _ _ _ _ Z (lv_sub hl [1, 2, 3, 0] rfl) _ _ hf kx0
            · replace hf := ite_t hf hc33
              refine lv_aload_n C.x C.b dX12_lacking_144 rfl (lv_at hl 0 rfl) ?_
              refine z_get C Z (lvM0 Nat.zero_lt_one) kM0 zc12 zin12 53 (by decide) k_1229 rfl svM0_53 dX12_lacking_145 ?_
              refine lv_iload_n C.x C.b dX12_lacking_148 rfl (lv_at hl 3 rfl) ?_
              replace hf := asr_s hf; obtain ⟨hq35, hf⟩ := hf
              refine z_iald C Z (lvM38 Nat.zero_lt_one) kM38 hq35 svM38 dX12_lacking_149 ?_
              refine lv_aload_n C.x C.b dX12_lacking_150 rfl (lv_at hl 0 rfl) ?_
              refine z_get C Z (lvM0 Nat.zero_lt_one) kM0 zc12 zin12 53 (by decide) k_1229 rfl svM0_53 dX12_lacking_151 ?_
              refine lv_iload_n C.x C.b dX12_lacking_154 rfl (lv_at hl 2 rfl) ?_
              replace hf := asr_s hf; obtain ⟨hq36, hf⟩ := hf
              refine z_iald C Z (lvM38 Nat.zero_lt_one) kM38 hq36 svM38 dX12_lacking_155 ?_
              refine lv_icmp_ge (tgt := 161) C.x C.b dX12_lacking_156 (by decide) (fun hc37 => ?_) (fun hc37 => ?_)
              · replace hf := ite_t hf hc37
                replace hf := lt1_s hf; obtain ⟨x38, ex38, hf⟩ := hf
                refine z_iinc (v := x38) (lv' := [(3, .int x38), (0, .ref (ad 0 0)), (1, .int g1), (2, .int u2), (4, .int q21)]) C dX12_lacking_161 hl (k := 3) rfl (by rw [ex38]; rfl) (by decide) rfl (onlast 2 rfl rfl rfl) (fun ls hl => ?_)
                refine lv_goto (tgt := 4) C.x C.b dX12_lacking_164 (by decide) ?_
                exact ih _ _ _ _ _ _ Z (lv_sub hl [1, 2, 3, 0] rfl) _ _ hf kx0
              · replace hf := ite_f hf hc37
                refine lv_iload_n C.x C.b dX12_lacking_159 rfl (lv_at hl 3 rfl) ?_
                refine z_istore_n (lv' := [(2, .int u3), (0, .ref (ad 0 0)), (1, .int g1), (3, .int u3), (4, .int q21)]) C dX12_lacking_160 rfl hl (by decide) rfl (onlast 1 rfl rfl rfl) (fun ls hl => ?_)
                replace hf := lt1_s hf; obtain ⟨x39, ex39, hf⟩ := hf
                refine z_iinc (v := x39) (lv' := [(3, .int x39), (2, .int u3), (0, .ref (ad 0 0)), (1, .int g1), (4, .int q21)]) C dX12_lacking_161 hl (k := 3) rfl (by rw [ex39]; rfl) (by decide) rfl (onlast 0 rfl rfl rfl) (fun ls hl => ?_)
                refine lv_goto (tgt := 4) C.x C.b dX12_lacking_164 (by decide) ?_
                exact ih _ _ _ _ _ _ Z (lv_sub hl [2, 3, 1, 0] rfl) _ _ hf kx0
      · replace hf := ite_f hf hc24
        refine lv_goto (tgt := 161) C.x C.b dX12_lacking_107 (by decide) ?_
        replace hf := lt1_s hf; obtain ⟨x40, ex40, hf⟩ := hf
        refine z_iinc (v := x40) (lv' := [(3, .int x40), (0, .ref (ad 0 0)), (1, .int g1), (2, .int u2), (4, .int q21)]) C dX12_lacking_161 hl (k := 3) rfl (by rw [ex40]; rfl) (by decide) rfl (onlast 2 rfl rfl rfl) (fun ls hl => ?_)
        refine lv_goto (tgt := 4) C.x C.b dX12_lacking_164 (by decide) ?_
        exact ih _ _ _ _ _ _ Z (lv_sub hl [1, 2, 3, 0] rfl) _ _ hf kx0
set_option maxRecDepth 100000 in
set_option maxHeartbeats 4000000 in
theorem c_X12_lacking {l : Launch} {K : KG} {ad : Nat → Nat → Nat} {fl : Nat} {a1 : Int32} {M0 : Mem} {r9 : Int32} {M9 : Mem} (hf : f_X12_lacking fl a1 M0 = some (r9, M9)) : Met l yX12_lacking (Cond.code yX12_lacking cX12_lacking 6 (some .int) :: ztb) (RM (1) 0 0) (zPc K LM ad M0 [.ref (ad 0 0), .int a1]) (zQ K LM ad (some (.int r9)) M9) 0 0 (zA ad) := by
  refine z_enter (by decide) (Nat.le_of_ble_eq_true rfl) ?_
  intro p e s m args below meth c ls C hin hargs Z hl
  replace C : Cx p s m args meth c cX12_lacking 6 "GlassPalaceModel" (some .int) := C
  replace hl : lv_has ls 6 [(0, .ref (ad 0 0)), (1, .int a1)] := hl
  have hR : 1 ≤ (RM (1) 0 0).frames ∧ 40 * (1) ≤ (RM (1) 0 0).locals := ⟨Nat.le_refl _, Nat.le_refl _⟩
  have hB : 0 ≤ (RM (1) 0 0).cells ∧ 0 ≤ (RM (1) 0 0).slots := ⟨Nat.zero_le _, Nat.zero_le _⟩
  unfold f_X12_lacking at hf
  refine lv_iconst (v := (-1)) C.x C.b dX12_lacking_0 (by decide) ?_
  refine z_istore_n (lv' := [(2, .int (-1)), (0, .ref (ad 0 0)), (1, .int a1)]) C dX12_lacking_1 rfl hl (by decide) rfl (onlast 1 rfl rfl rfl) (fun ls hl => ?_)
  refine lv_iconst (v := 0) C.x C.b dX12_lacking_2 (by decide) ?_
  refine z_istore_n (lv' := [(3, .int 0), (2, .int (-1)), (0, .ref (ad 0 0)), (1, .int a1)]) C dX12_lacking_3 rfl hl (by decide) rfl (onlast 0 rfl rfl rfl) (fun ls hl => ?_)
  replace hf := bn2_s hf; obtain ⟨q41, m42, hq41, hf⟩ := hf
  refine w_X12_lacking_l4 C hR hB  fl _ _ _ _ _ _ Z (lv_sub hl [2, 3, 1, 0] rfl) _ _ hq41 (fun H locs ls Z hl => ?_)
  refine lv_iload_n C.x C.b dX12_lacking_167 rfl (lv_at hl 0 rfl) ?_
  obtain ⟨rfl, rfl⟩ := pr_s hf
  exact z_iret C Z dX12_lacking_168
theorem dX12_lack_0 : decode cX12_lack 0 = .ok (.aload_n 0, 1) := by decide +kernel
theorem dX12_lack_1 : decode cX12_lack 1 = .ok (.iload_n 2, 1) := by decide +kernel
theorem dX12_lack_2 : decode cX12_lack 2 = .ok (.iconst 0, 1) := by decide +kernel
theorem dX12_lack_3 : decode cX12_lack 3 = .ok (.iconst 1, 1) := by decide +kernel
theorem dX12_lack_4 : decode cX12_lack 4 = .ok (.invokevirtual 3, 3) := by decide +kernel
theorem dX12_lack_7 : decode cX12_lack 7 = .ok (.ifCond .ne 5, 3) := by decide +kernel
theorem dX12_lack_10 : decode cX12_lack 10 = .ok (.iconst (-1), 1) := by decide +kernel
theorem dX12_lack_11 : decode cX12_lack 11 = .ok (.ireturn, 1) := by decide +kernel
theorem dX12_lack_12 : decode cX12_lack 12 = .ok (.aload_n 0, 1) := by decide +kernel
theorem dX12_lack_13 : decode cX12_lack 13 = .ok (.iload_n 1, 1) := by decide +kernel
theorem dX12_lack_14 : decode cX12_lack 14 = .ok (.iconst 0, 1) := by decide +kernel
theorem dX12_lack_15 : decode cX12_lack 15 = .ok (.iconst 1, 1) := by decide +kernel
theorem dX12_lack_16 : decode cX12_lack 16 = .ok (.aload_n 0, 1) := by decide +kernel
theorem dX12_lack_17 : decode cX12_lack 17 = .ok (.getfield 176, 3) := by decide +kernel
theorem dX12_lack_20 : decode cX12_lack 20 = .ok (.ishl, 1) := by decide +kernel
theorem dX12_lack_21 : decode cX12_lack 21 = .ok (.iconst 1, 1) := by decide +kernel
theorem dX12_lack_22 : decode cX12_lack 22 = .ok (.isub, 1) := by decide +kernel
theorem dX12_lack_23 : decode cX12_lack 23 = .ok (.invokevirtual 3, 3) := by decide +kernel
theorem dX12_lack_26 : decode cX12_lack 26 = .ok (.ifCond .ne 6, 3) := by decide +kernel
theorem dX12_lack_29 : decode cX12_lack 29 = .ok (.bipush (-2), 2) := by decide +kernel
theorem dX12_lack_31 : decode cX12_lack 31 = .ok (.ireturn, 1) := by decide +kernel
theorem dX12_lack_32 : decode cX12_lack 32 = .ok (.aload_n 0, 1) := by decide +kernel
theorem dX12_lack_33 : decode cX12_lack 33 = .ok (.iload_n 3, 1) := by decide +kernel
theorem dX12_lack_34 : decode cX12_lack 34 = .ok (.invokevirtual 366, 3) := by decide +kernel
theorem dX12_lack_37 : decode cX12_lack 37 = .ok (.aload_n 0, 1) := by decide +kernel
theorem dX12_lack_38 : decode cX12_lack 38 = .ok (.iload_n 1, 1) := by decide +kernel
theorem dX12_lack_39 : decode cX12_lack 39 = .ok (.invokevirtual 369, 3) := by decide +kernel
theorem dX12_lack_42 : decode cX12_lack 42 = .ok (.istore 4, 2) := by decide +kernel
theorem dX12_lack_44 : decode cX12_lack 44 = .ok (.iload 4, 2) := by decide +kernel
theorem dX12_lack_46 : decode cX12_lack 46 = .ok (.ifCond .ge 8, 3) := by decide +kernel
theorem dX12_lack_49 : decode cX12_lack 49 = .ok (.bipush (-5), 2) := by decide +kernel
theorem dX12_lack_51 : decode cX12_lack 51 = .ok (.goto 24, 3) := by decide +kernel
theorem dX12_lack_54 : decode cX12_lack 54 = .ok (.iload_n 2, 1) := by decide +kernel
theorem dX12_lack_55 : decode cX12_lack 55 = .ok (.ifCond .ne 13, 3) := by decide +kernel
theorem dX12_lack_58 : decode cX12_lack 58 = .ok (.aload_n 0, 1) := by decide +kernel
theorem dX12_lack_59 : decode cX12_lack 59 = .ok (.getfield 185, 3) := by decide +kernel
theorem dX12_lack_62 : decode cX12_lack 62 = .ok (.iload 4, 2) := by decide +kernel
theorem dX12_lack_64 : decode cX12_lack 64 = .ok (.iaload, 1) := by decide +kernel
theorem dX12_lack_65 : decode cX12_lack 65 = .ok (.goto 10, 3) := by decide +kernel
theorem dX12_lack_68 : decode cX12_lack 68 = .ok (.aload_n 0, 1) := by decide +kernel
theorem dX12_lack_69 : decode cX12_lack 69 = .ok (.getfield 179, 3) := by decide +kernel
theorem dX12_lack_72 : decode cX12_lack 72 = .ok (.iload 4, 2) := by decide +kernel
theorem dX12_lack_74 : decode cX12_lack 74 = .ok (.iaload, 1) := by decide +kernel
theorem dX12_lack_75 : decode cX12_lack 75 = .ok (.ireturn, 1) := by decide +kernel
set_option maxRecDepth 100000 in
set_option maxHeartbeats 4000000 in
theorem c_X12_lack {l : Launch} {K : KG} {ad : Nat → Nat → Nat} {fl : Nat} {a1 : Int32} {a2 : Int32} {a3 : Int32} {M0 : Mem} {r9 : Int32} {M9 : Mem} (hf : f_X12_lack fl a1 a2 a3 M0 = some (r9, M9)) : Met l yX12_lack (Cond.code yX12_lack cX12_lack 5 (some .int) :: ztb) (RM (3) 0 0) (zPc K LM ad M0 [.ref (ad 0 0), .int a1, .int a2, .int a3]) (zQ K LM ad (some (.int r9)) M9) 0 0 (zA ad) := by
  refine z_enter (by decide) (Nat.le_of_ble_eq_true rfl) ?_
  intro p e s m args below meth c ls C hin hargs Z hl
  replace C : Cx p s m args meth c cX12_lack 5 "GlassPalaceModel" (some .int) := C
  replace hl : lv_has ls 5 [(0, .ref (ad 0 0)), (1, .int a1), (2, .int a2), (3, .int a3)] := hl
  have hR : 3 ≤ (RM (3) 0 0).frames ∧ 40 * (3) ≤ (RM (3) 0 0).locals := ⟨Nat.le_refl _, Nat.le_refl _⟩
  have hB : 0 ≤ (RM (3) 0 0).cells ∧ 0 ≤ (RM (3) 0 0).slots := ⟨Nat.zero_le _, Nat.zero_le _⟩
  unfold f_X12_lack at hf
  refine lv_aload_n C.x C.b dX12_lack_0 rfl (lv_at hl 0 rfl) ?_
  refine lv_iload_n C.x C.b dX12_lack_1 rfl (lv_at hl 2 rfl) ?_
  refine lv_iconst (v := 0) C.x C.b dX12_lack_2 (by decide) ?_
  refine lv_iconst (v := 1) C.x C.b dX12_lack_3 (by decide) ?_
  replace hf := bn2_s hf; obtain ⟨v2, m1, hkm1, hf⟩ := hf
  refine z_cV (As := [.int a2, .int 0, .int 1]) (rest := []) (st1 := [.int v2]) C Z mw_X12_in mv_X12_in k_1398 (by decide) (z_hR hR (by decide)) (lvM0 Nat.zero_lt_one) kM0 zc12 (c_X12_in (l := l) (K := K) (ad := ad) hkm1) rfl hl.1 rfl (Nat.le_of_ble_eq_true rfl) dX12_lack_4 hB rfl (fun H locs Z => ?_)
  refine lv_if_ne (tgt := 12) C.x C.b dX12_lack_7 (by decide) (fun hc3 => ?_) (fun hc3 => ?_)
  · replace hf := ite_f hf hc3
    refine lv_aload_n C.x C.b dX12_lack_12 rfl (lv_at hl 0 rfl) ?_
    refine lv_iload_n C.x C.b dX12_lack_13 rfl (lv_at hl 1 rfl) ?_
    refine lv_iconst (v := 0) C.x C.b dX12_lack_14 (by decide) ?_
    refine lv_iconst (v := 1) C.x C.b dX12_lack_15 (by decide) ?_
    refine lv_aload_n C.x C.b dX12_lack_16 rfl (lv_at hl 0 rfl) ?_
    refine z_get C Z (lvM0 Nat.zero_lt_one) kM0 zc12 zin12 52 (by decide) k_1228 rfl svM0_52 dX12_lack_17 ?_
    refine z_ishl C dX12_lack_20 ?_
    refine lv_iconst (v := 1) C.x C.b dX12_lack_21 (by decide) ?_
    refine lv_isub C.x C.b dX12_lack_22 ?_
    replace hf := bn2_s hf; obtain ⟨v5, m4, hkm4, hf⟩ := hf
    refine z_cV (As := [.int a1, .int 0, .int ((jshl 1 (gI m1 0 0 52)) - 1)]) (rest := []) (st1 := [.int v5]) C Z mw_X12_in mv_X12_in k_1398 (by decide) (z_hR hR (by decide)) (lvM0 Nat.zero_lt_one) kM0 zc12 (c_X12_in (l := l) (K := K) (ad := ad) hkm4) rfl hl.1 rfl (Nat.le_of_ble_eq_true rfl) dX12_lack_23 hB rfl (fun H locs Z => ?_)
    refine lv_if_ne (tgt := 32) C.x C.b dX12_lack_26 (by decide) (fun hc6 => ?_) (fun hc6 => ?_)
    · replace hf := ite_f hf hc6
      refine lv_aload_n C.x C.b dX12_lack_32 rfl (lv_at hl 0 rfl) ?_
      refine lv_iload_n C.x C.b dX12_lack_33 rfl (lv_at hl 3 rfl) ?_
      replace hf := bn1_s hf; obtain ⟨m7, hkm7, hf⟩ := hf
      refine z_cV (As := [.int a3]) (rest := []) (st1 := []) C Z mw_X12_findNeeds mv_X12_findNeeds k_1685 (by decide) (z_hR hR (by decide)) (lvM0 Nat.zero_lt_one) kM0 zc12 (c_X12_findNeeds (l := l) (K := K) (ad := ad) hkm7) rfl hl.1 rfl (Nat.le_of_ble_eq_true rfl) dX12_lack_34 hB rfl (fun H locs Z => ?_)
      refine lv_aload_n C.x C.b dX12_lack_37 rfl (lv_at hl 0 rfl) ?_
      refine lv_iload_n C.x C.b dX12_lack_38 rfl (lv_at hl 1 rfl) ?_
      replace hf := bn2_s hf; obtain ⟨v9, m8, hkm8, hf⟩ := hf
      refine z_cV (As := [.int a1]) (rest := []) (st1 := [.int v9]) C Z mw_X12_lacking mv_X12_lacking k_1689 (by decide) (z_hR hR (by decide)) (lvM0 Nat.zero_lt_one) kM0 zc12 (c_X12_lacking (l := l) (K := K) (ad := ad) hkm8) rfl hl.1 rfl (Nat.le_of_ble_eq_true rfl) dX12_lack_39 hB rfl (fun H locs Z => ?_)
      refine z_istore (lv' := [(4, .int v9), (0, .ref (ad 0 0)), (1, .int a1), (2, .int a2), (3, .int a3)]) C dX12_lack_42 hl (by decide) rfl (onlast 3 rfl rfl rfl) (fun ls hl => ?_)
      refine lv_iload C.x C.b dX12_lack_44 (lv_at hl 0 rfl) ?_
      refine lv_if_ge (tgt := 54) C.x C.b dX12_lack_46 (by decide) (fun hc10 => ?_) (fun hc10 => ?_)
      · replace hf := ite_t hf hc10
        refine lv_iload_n C.x C.b dX12_lack_54 rfl (lv_at hl 3 rfl) ?_
        refine lv_if_ne (tgt := 68) C.x C.b dX12_lack_55 (by decide) (fun hc11 => ?_) (fun hc11 => ?_)
        · replace hf := ite_f hf hc11
          refine lv_aload_n C.x C.b dX12_lack_68 rfl (lv_at hl 1 rfl) ?_
          refine z_get C Z (lvM0 Nat.zero_lt_one) kM0 zc12 zin12 53 (by decide) k_1229 rfl svM0_53 dX12_lack_69 ?_
          refine lv_iload C.x C.b dX12_lack_72 (lv_at hl 0 rfl) ?_
          replace hf := asr_s hf; obtain ⟨hq12, hf⟩ := hf
          refine z_iald C Z (lvM38 Nat.zero_lt_one) kM38 hq12 svM38 dX12_lack_74 ?_
          obtain ⟨rfl, rfl⟩ := pr_s hf
          exact z_iret C Z dX12_lack_75
        · replace hf := ite_t hf hc11
          refine lv_aload_n C.x C.b dX12_lack_58 rfl (lv_at hl 1 rfl) ?_
          refine z_get C Z (lvM0 Nat.zero_lt_one) kM0 zc12 zin12 55 (by decide) k_1231 rfl svM0_55 dX12_lack_59 ?_
          refine lv_iload C.x C.b dX12_lack_62 (lv_at hl 0 rfl) ?_
          replace hf := asr_s hf; obtain ⟨hq13, hf⟩ := hf
          refine z_iald C Z (lvM40 Nat.zero_lt_one) kM40 hq13 svM40 dX12_lack_64 ?_
          refine lv_goto (tgt := 75) C.x C.b dX12_lack_65 (by decide) ?_
          obtain ⟨rfl, rfl⟩ := pr_s hf
          exact z_iret C Z dX12_lack_75
      · replace hf := ite_f hf hc10
        refine lv_bipush (v := (-5)) C.x C.b dX12_lack_49 (by decide) ?_
        refine lv_goto (tgt := 75) C.x C.b dX12_lack_51 (by decide) ?_
        obtain ⟨rfl, rfl⟩ := pr_s hf
        exact z_iret C Z dX12_lack_75
    · replace hf := ite_t hf hc6
      refine lv_bipush (v := (-2)) C.x C.b dX12_lack_29 (by decide) ?_
      obtain ⟨rfl, rfl⟩ := pr_s hf
      exact z_iret C Z dX12_lack_31
  · replace hf := ite_t hf hc3
    refine lv_iconst (v := (-1)) C.x C.b dX12_lack_10 (by decide) ?_
    obtain ⟨rfl, rfl⟩ := pr_s hf
    exact z_iret C Z dX12_lack_11
theorem dX12_more_0 : decode cX12_more 0 = .ok (.aload_n 0, 1) := by decide +kernel
theorem dX12_more_1 : decode cX12_more 1 = .ok (.iload_n 1, 1) := by decide +kernel
theorem dX12_more_2 : decode cX12_more 2 = .ok (.invokevirtual 359, 3) := by decide +kernel
theorem dX12_more_5 : decode cX12_more 5 = .ok (.ifCond .ne 5, 3) := by decide +kernel
theorem dX12_more_8 : decode cX12_more 8 = .ok (.iconst (-1), 1) := by decide +kernel
theorem dX12_more_9 : decode cX12_more 9 = .ok (.ireturn, 1) := by decide +kernel
theorem dX12_more_10 : decode cX12_more 10 = .ok (.aload_n 0, 1) := by decide +kernel
theorem dX12_more_11 : decode cX12_more 11 = .ok (.iload_n 2, 1) := by decide +kernel
theorem dX12_more_12 : decode cX12_more 12 = .ok (.iconst 1, 1) := by decide +kernel
theorem dX12_more_13 : decode cX12_more 13 = .ok (.sipush 999, 3) := by decide +kernel
theorem dX12_more_16 : decode cX12_more 16 = .ok (.invokevirtual 3, 3) := by decide +kernel
theorem dX12_more_19 : decode cX12_more 19 = .ok (.ifCond .eq 24, 3) := by decide +kernel
theorem dX12_more_22 : decode cX12_more 22 = .ok (.aload_n 0, 1) := by decide +kernel
theorem dX12_more_23 : decode cX12_more 23 = .ok (.iload_n 3, 1) := by decide +kernel
theorem dX12_more_24 : decode cX12_more 24 = .ok (.invokevirtual 326, 3) := by decide +kernel
theorem dX12_more_27 : decode cX12_more 27 = .ok (.ifCond .eq 16, 3) := by decide +kernel
theorem dX12_more_30 : decode cX12_more 30 = .ok (.aload_n 0, 1) := by decide +kernel
theorem dX12_more_31 : decode cX12_more 31 = .ok (.iload 4, 2) := by decide +kernel
theorem dX12_more_33 : decode cX12_more 33 = .ok (.iconst 0, 1) := by decide +kernel
theorem dX12_more_34 : decode cX12_more 34 = .ok (.sipush 999, 3) := by decide +kernel
theorem dX12_more_37 : decode cX12_more 37 = .ok (.invokevirtual 3, 3) := by decide +kernel
theorem dX12_more_40 : decode cX12_more 40 = .ok (.ifCond .ne 6, 3) := by decide +kernel
theorem dX12_more_43 : decode cX12_more 43 = .ok (.bipush (-2), 2) := by decide +kernel
theorem dX12_more_45 : decode cX12_more 45 = .ok (.ireturn, 1) := by decide +kernel
theorem dX12_more_46 : decode cX12_more 46 = .ok (.aload_n 0, 1) := by decide +kernel
theorem dX12_more_47 : decode cX12_more 47 = .ok (.getfield 176, 3) := by decide +kernel
theorem dX12_more_50 : decode cX12_more 50 = .ok (.bipush 8, 2) := by decide +kernel
theorem dX12_more_52 : decode cX12_more 52 = .ok (.if_icmp .ne 6, 3) := by decide +kernel
theorem dX12_more_55 : decode cX12_more 55 = .ok (.bipush (-4), 2) := by decide +kernel
theorem dX12_more_57 : decode cX12_more 57 = .ok (.ireturn, 1) := by decide +kernel
theorem dX12_more_58 : decode cX12_more 58 = .ok (.aload_n 0, 1) := by decide +kernel
theorem dX12_more_59 : decode cX12_more 59 = .ok (.getfield 188, 3) := by decide +kernel
theorem dX12_more_62 : decode cX12_more 62 = .ok (.aload_n 0, 1) := by decide +kernel
theorem dX12_more_63 : decode cX12_more 63 = .ok (.getfield 176, 3) := by decide +kernel
theorem dX12_more_66 : decode cX12_more 66 = .ok (.iload_n 1, 1) := by decide +kernel
theorem dX12_more_67 : decode cX12_more 67 = .ok (.iastore, 1) := by decide +kernel
theorem dX12_more_68 : decode cX12_more 68 = .ok (.aload_n 0, 1) := by decide +kernel
theorem dX12_more_69 : decode cX12_more 69 = .ok (.getfield 191, 3) := by decide +kernel
theorem dX12_more_72 : decode cX12_more 72 = .ok (.aload_n 0, 1) := by decide +kernel
theorem dX12_more_73 : decode cX12_more 73 = .ok (.getfield 176, 3) := by decide +kernel
theorem dX12_more_76 : decode cX12_more 76 = .ok (.iload_n 2, 1) := by decide +kernel
theorem dX12_more_77 : decode cX12_more 77 = .ok (.iastore, 1) := by decide +kernel
theorem dX12_more_78 : decode cX12_more 78 = .ok (.aload_n 0, 1) := by decide +kernel
theorem dX12_more_79 : decode cX12_more 79 = .ok (.getfield 194, 3) := by decide +kernel
theorem dX12_more_82 : decode cX12_more 82 = .ok (.aload_n 0, 1) := by decide +kernel
theorem dX12_more_83 : decode cX12_more 83 = .ok (.getfield 176, 3) := by decide +kernel
theorem dX12_more_86 : decode cX12_more 86 = .ok (.iload_n 3, 1) := by decide +kernel
theorem dX12_more_87 : decode cX12_more 87 = .ok (.iastore, 1) := by decide +kernel
theorem dX12_more_88 : decode cX12_more 88 = .ok (.aload_n 0, 1) := by decide +kernel
theorem dX12_more_89 : decode cX12_more 89 = .ok (.getfield 197, 3) := by decide +kernel
theorem dX12_more_92 : decode cX12_more 92 = .ok (.aload_n 0, 1) := by decide +kernel
theorem dX12_more_93 : decode cX12_more 93 = .ok (.getfield 176, 3) := by decide +kernel
theorem dX12_more_96 : decode cX12_more 96 = .ok (.iload 4, 2) := by decide +kernel
theorem dX12_more_98 : decode cX12_more 98 = .ok (.iastore, 1) := by decide +kernel
theorem dX12_more_99 : decode cX12_more 99 = .ok (.aload_n 0, 1) := by decide +kernel
theorem dX12_more_100 : decode cX12_more 100 = .ok (.dup, 1) := by decide +kernel
theorem dX12_more_101 : decode cX12_more 101 = .ok (.getfield 176, 3) := by decide +kernel
theorem dX12_more_104 : decode cX12_more 104 = .ok (.iconst 1, 1) := by decide +kernel
theorem dX12_more_105 : decode cX12_more 105 = .ok (.iadd, 1) := by decide +kernel
theorem dX12_more_106 : decode cX12_more 106 = .ok (.putfield 176, 3) := by decide +kernel
theorem dX12_more_109 : decode cX12_more 109 = .ok (.aload_n 0, 1) := by decide +kernel
theorem dX12_more_110 : decode cX12_more 110 = .ok (.getfield 176, 3) := by decide +kernel
theorem dX12_more_113 : decode cX12_more 113 = .ok (.iconst 1, 1) := by decide +kernel
theorem dX12_more_114 : decode cX12_more 114 = .ok (.isub, 1) := by decide +kernel
theorem dX12_more_115 : decode cX12_more 115 = .ok (.ireturn, 1) := by decide +kernel
set_option maxRecDepth 100000 in
set_option maxHeartbeats 4000000 in
theorem c_X12_more {l : Launch} {K : KG} {ad : Nat → Nat → Nat} {fl : Nat} {a1 : Int32} {a2 : Int32} {a3 : Int32} {a4 : Int32} {M0 : Mem} {r9 : Int32} {M9 : Mem} (hf : f_X12_more fl a1 a2 a3 a4 M0 = some (r9, M9)) : Met l yX12_more (Cond.code yX12_more cX12_more 5 (some .int) :: ztb) (RM (3) 0 0) (zPc K LM ad M0 [.ref (ad 0 0), .int a1, .int a2, .int a3, .int a4]) (zQ K LM ad (some (.int r9)) M9) 0 0 (zA ad) := by
  refine z_enter (by decide) (Nat.le_of_ble_eq_true rfl) ?_
  intro p e s m args below meth c ls C hin hargs Z hl
  replace C : Cx p s m args meth c cX12_more 5 "GlassPalaceModel" (some .int) := C
  replace hl : lv_has ls 5 [(0, .ref (ad 0 0)), (1, .int a1), (2, .int a2), (3, .int a3), (4, .int a4)] := hl
  have hR : 3 ≤ (RM (3) 0 0).frames ∧ 40 * (3) ≤ (RM (3) 0 0).locals := ⟨Nat.le_refl _, Nat.le_refl _⟩
  have hB : 0 ≤ (RM (3) 0 0).cells ∧ 0 ≤ (RM (3) 0 0).slots := ⟨Nat.zero_le _, Nat.zero_le _⟩
  unfold f_X12_more at hf
  refine lv_aload_n C.x C.b dX12_more_0 rfl (lv_at hl 0 rfl) ?_
  refine lv_iload_n C.x C.b dX12_more_1 rfl (lv_at hl 1 rfl) ?_
  replace hf := bn2_s hf; obtain ⟨v2, m1, hkm1, hf⟩ := hf
  refine z_cV (As := [.int a1]) (rest := []) (st1 := [.int v2]) C Z mw_X12_isKind mv_X12_isKind k_1669 (by decide) (z_hR hR (by decide)) (lvM0 Nat.zero_lt_one) kM0 zc12 (c_X12_isKind (l := l) (K := K) (ad := ad) hkm1) rfl hl.1 rfl (Nat.le_of_ble_eq_true rfl) dX12_more_2 hB rfl (fun H locs Z => ?_)
  refine lv_if_ne (tgt := 10) C.x C.b dX12_more_5 (by decide) (fun hc3 => ?_) (fun hc3 => ?_)
  · replace hf := ite_f hf hc3
    refine lv_aload_n C.x C.b dX12_more_10 rfl (lv_at hl 0 rfl) ?_
    refine lv_iload_n C.x C.b dX12_more_11 rfl (lv_at hl 2 rfl) ?_
    refine lv_iconst (v := 1) C.x C.b dX12_more_12 (by decide) ?_
    refine lv_sipush (v := 999) C.x C.b dX12_more_13 (by decide) ?_
    replace hf := bn2_s hf; obtain ⟨v5, m4, hkm4, hf⟩ := hf
    refine z_cV (As := [.int a2, .int 1, .int 999]) (rest := []) (st1 := [.int v5]) C Z mw_X12_in mv_X12_in k_1398 (by decide) (z_hR hR (by decide)) (lvM0 Nat.zero_lt_one) kM0 zc12 (c_X12_in (l := l) (K := K) (ad := ad) hkm4) rfl hl.1 rfl (Nat.le_of_ble_eq_true rfl) dX12_more_16 hB rfl (fun H locs Z => ?_)
    refine lv_if_eq (tgt := 43) C.x C.b dX12_more_19 (by decide) (fun hc6 => ?_) (fun hc6 => ?_)
    · replace hf := ite_t hf hc6
      refine lv_bipush (v := (-2)) C.x C.b dX12_more_43 (by decide) ?_
      obtain ⟨rfl, rfl⟩ := pr_s hf
      exact z_iret C Z dX12_more_45
    · replace hf := ite_f hf hc6
      refine lv_aload_n C.x C.b dX12_more_22 rfl (lv_at hl 0 rfl) ?_
      refine lv_iload_n C.x C.b dX12_more_23 rfl (lv_at hl 3 rfl) ?_
      replace hf := bn2_s hf; obtain ⟨v8, m7, hkm7, hf⟩ := hf
      refine z_cV (As := [.int a3]) (rest := []) (st1 := [.int v8]) C Z mw_X12_isDay mv_X12_isDay k_1577 (by decide) (z_hR hR (by decide)) (lvM0 Nat.zero_lt_one) kM0 zc12 (c_X12_isDay (l := l) (K := K) (ad := ad) hkm7) rfl hl.1 rfl (Nat.le_of_ble_eq_true rfl) dX12_more_24 hB rfl (fun H locs Z => ?_)
      refine lv_if_eq (tgt := 43) C.x C.b dX12_more_27 (by decide) (fun hc9 => ?_) (fun hc9 => ?_)
      · replace hf := ite_t hf hc9
        refine lv_bipush (v := (-2)) C.x C.b dX12_more_43 (by decide) ?_
        obtain ⟨rfl, rfl⟩ := pr_s hf
        exact z_iret C Z dX12_more_45
      · replace hf := ite_f hf hc9
        refine lv_aload_n C.x C.b dX12_more_30 rfl (lv_at hl 0 rfl) ?_
        refine lv_iload C.x C.b dX12_more_31 (lv_at hl 4 rfl) ?_
        refine lv_iconst (v := 0) C.x C.b dX12_more_33 (by decide) ?_
        refine lv_sipush (v := 999) C.x C.b dX12_more_34 (by decide) ?_
        replace hf := bn2_s hf; obtain ⟨v11, m10, hkm10, hf⟩ := hf
        refine z_cV (As := [.int a4, .int 0, .int 999]) (rest := []) (st1 := [.int v11]) C Z mw_X12_in mv_X12_in k_1398 (by decide) (z_hR hR (by decide)) (lvM0 Nat.zero_lt_one) kM0 zc12 (c_X12_in (l := l) (K := K) (ad := ad) hkm10) rfl hl.1 rfl (Nat.le_of_ble_eq_true rfl) dX12_more_37 hB rfl (fun H locs Z => ?_)
        refine lv_if_ne (tgt := 46) C.x C.b dX12_more_40 (by decide) (fun hc12 => ?_) (fun hc12 => ?_)
        · replace hf := ite_f hf hc12
          refine lv_aload_n C.x C.b dX12_more_46 rfl (lv_at hl 0 rfl) ?_
          refine z_get C Z (lvM0 Nat.zero_lt_one) kM0 zc12 zin12 52 (by decide) k_1228 rfl svM0_52 dX12_more_47 ?_
          refine lv_bipush (v := 8) C.x C.b dX12_more_50 (by decide) ?_
          refine lv_icmp_ne (tgt := 58) C.x C.b dX12_more_52 (by decide) (fun hc13 => ?_) (fun hc13 => ?_)
          · replace hf := ite_f hf hc13
            refine lv_aload_n C.x C.b dX12_more_58 rfl (lv_at hl 0 rfl) ?_
            refine z_get C Z (lvM0 Nat.zero_lt_one) kM0 zc12 zin12 56 (by decide) k_1232 rfl svM0_56 dX12_more_59 ?_
            refine lv_aload_n C.x C.b dX12_more_62 rfl (lv_at hl 0 rfl) ?_
            refine z_get C Z (lvM0 Nat.zero_lt_one) kM0 zc12 zin12 52 (by decide) k_1228 rfl svM0_52 dX12_more_63 ?_
            refine lv_iload_n C.x C.b dX12_more_66 rfl (lv_at hl 1 rfl) ?_
            replace hf := asr_s hf; obtain ⟨hq14, hf⟩ := hf
            replace hf := lt1_s hf; obtain ⟨m15, em15, hf⟩ := hf
            refine z_iast (M1 := m15) C Z (lvM41 Nat.zero_lt_one) (by decide) kM41 hq14 em15 stM41u dX12_more_67 (fun H locs Z => ?_)
            refine lv_aload_n C.x C.b dX12_more_68 rfl (lv_at hl 0 rfl) ?_
            refine z_get C Z (lvM0 Nat.zero_lt_one) kM0 zc12 zin12 57 (by decide) k_1233 rfl svM0_57 dX12_more_69 ?_
            refine lv_aload_n C.x C.b dX12_more_72 rfl (lv_at hl 0 rfl) ?_
            refine z_get C Z (lvM0 Nat.zero_lt_one) kM0 zc12 zin12 52 (by decide) k_1228 rfl svM0_52 dX12_more_73 ?_
            refine lv_iload_n C.x C.b dX12_more_76 rfl (lv_at hl 2 rfl) ?_
            replace hf := asr_s hf; obtain ⟨hq16, hf⟩ := hf
            replace hf := lt1_s hf; obtain ⟨m17, em17, hf⟩ := hf
            refine z_iast (M1 := m17) C Z (lvM42 Nat.zero_lt_one) (by decide) kM42 hq16 em17 stM42u dX12_more_77 (fun H locs Z => ?_)
            refine lv_aload_n C.x C.b dX12_more_78 rfl (lv_at hl 0 rfl) ?_
            refine z_get C Z (lvM0 Nat.zero_lt_one) kM0 zc12 zin12 58 (by decide) k_1234 rfl svM0_58 dX12_more_79 ?_
            refine lv_aload_n C.x C.b dX12_more_82 rfl (lv_at hl 0 rfl) ?_
            refine z_get C Z (lvM0 Nat.zero_lt_one) kM0 zc12 zin12 52 (by decide) k_1228 rfl svM0_52 dX12_more_83 ?_
            refine lv_iload_n C.x C.b dX12_more_86 rfl (lv_at hl 3 rfl) ?_
            replace hf := asr_s hf; obtain ⟨hq18, hf⟩ := hf
            replace hf := lt1_s hf; obtain ⟨m19, em19, hf⟩ := hf
            refine z_iast (M1 := m19) C Z (lvM43 Nat.zero_lt_one) (by decide) kM43 hq18 em19 stM43u dX12_more_87 (fun H locs Z => ?_)
            refine lv_aload_n C.x C.b dX12_more_88 rfl (lv_at hl 0 rfl) ?_
            refine z_get C Z (lvM0 Nat.zero_lt_one) kM0 zc12 zin12 59 (by decide) k_1235 rfl svM0_59 dX12_more_89 ?_
            refine lv_aload_n C.x C.b dX12_more_92 rfl (lv_at hl 0 rfl) ?_
            refine z_get C Z (lvM0 Nat.zero_lt_one) kM0 zc12 zin12 52 (by decide) k_1228 rfl svM0_52 dX12_more_93 ?_
            refine lv_iload C.x C.b dX12_more_96 (lv_at hl 4 rfl) ?_
            replace hf := asr_s hf; obtain ⟨hq20, hf⟩ := hf
            replace hf := lt1_s hf; obtain ⟨m21, em21, hf⟩ := hf
            refine z_iast (M1 := m21) C Z (lvM44 Nat.zero_lt_one) (by decide) kM44 hq20 em21 stM44u dX12_more_98 (fun H locs Z => ?_)
            refine lv_aload_n C.x C.b dX12_more_99 rfl (lv_at hl 0 rfl) ?_
            refine lv_dup C.x C.b dX12_more_100 rfl ?_
            refine z_get C Z (lvM0 Nat.zero_lt_one) kM0 zc12 zin12 52 (by decide) k_1228 rfl svM0_52 dX12_more_101 ?_
            refine lv_iconst (v := 1) C.x C.b dX12_more_104 (by decide) ?_
            refine lv_iadd C.x C.b dX12_more_105 ?_
            replace hf := lt1_s hf; obtain ⟨m22, em22, hf⟩ := hf
            refine z_put (M1 := m22) C Z (lvM0 Nat.zero_lt_one) (by decide) kM0 zc12 zin12 tyX12_ok nmX12 52 (by decide) k_1228 rfl (zUp_I em22 stM0_52u) (Or.inl rfl) rfl rfl dX12_more_106 (fun H locs Z => ?_)
            refine lv_aload_n C.x C.b dX12_more_109 rfl (lv_at hl 0 rfl) ?_
            refine z_get C Z (lvM0 Nat.zero_lt_one) kM0 zc12 zin12 52 (by decide) k_1228 rfl svM0_52 dX12_more_110 ?_
            refine lv_iconst (v := 1) C.x C.b dX12_more_113 (by decide) ?_
            refine lv_isub C.x C.b dX12_more_114 ?_
            obtain ⟨rfl, rfl⟩ := pr_s hf
            exact z_iret C Z dX12_more_115
          · replace hf := ite_t hf hc13
            refine lv_bipush (v := (-4)) C.x C.b dX12_more_55 (by decide) ?_
            obtain ⟨rfl, rfl⟩ := pr_s hf
            exact z_iret C Z dX12_more_57
        · replace hf := ite_t hf hc12
          refine lv_bipush (v := (-2)) C.x C.b dX12_more_43 (by decide) ?_
          obtain ⟨rfl, rfl⟩ := pr_s hf
          exact z_iret C Z dX12_more_45
  · replace hf := ite_t hf hc3
    refine lv_iconst (v := (-1)) C.x C.b dX12_more_8 (by decide) ?_
    obtain ⟨rfl, rfl⟩ := pr_s hf
    exact z_iret C Z dX12_more_9
theorem dX12_best_0 : decode cX12_best 0 = .ok (.aload_n 0, 1) := by decide +kernel
theorem dX12_best_1 : decode cX12_best 1 = .ok (.iconst 1, 1) := by decide +kernel
theorem dX12_best_2 : decode cX12_best 2 = .ok (.invokevirtual 366, 3) := by decide +kernel
theorem dX12_best_5 : decode cX12_best 5 = .ok (.bipush (-5), 2) := by decide +kernel
theorem dX12_best_7 : decode cX12_best 7 = .ok (.istore_n 1, 1) := by decide +kernel
theorem dX12_best_8 : decode cX12_best 8 = .ok (.iconst 0, 1) := by decide +kernel
theorem dX12_best_9 : decode cX12_best 9 = .ok (.istore_n 2, 1) := by decide +kernel
theorem dX12_best_10 : decode cX12_best 10 = .ok (.iconst 0, 1) := by decide +kernel
theorem dX12_best_11 : decode cX12_best 11 = .ok (.istore_n 3, 1) := by decide +kernel
theorem dX12_best_12 : decode cX12_best 12 = .ok (.iconst 0, 1) := by decide +kernel
theorem dX12_best_13 : decode cX12_best 13 = .ok (.istore 4, 2) := by decide +kernel
theorem dX12_best_15 : decode cX12_best 15 = .ok (.iload 4, 2) := by decide +kernel
theorem dX12_best_17 : decode cX12_best 17 = .ok (.iconst 1, 1) := by decide +kernel
theorem dX12_best_18 : decode cX12_best 18 = .ok (.aload_n 0, 1) := by decide +kernel
theorem dX12_best_19 : decode cX12_best 19 = .ok (.getfield 176, 3) := by decide +kernel
theorem dX12_best_22 : decode cX12_best 22 = .ok (.ishl, 1) := by decide +kernel
theorem dX12_best_23 : decode cX12_best 23 = .ok (.if_icmp .ge 115, 3) := by decide +kernel
theorem dX12_best_26 : decode cX12_best 26 = .ok (.iconst 0, 1) := by decide +kernel
theorem dX12_best_27 : decode cX12_best 27 = .ok (.istore 5, 2) := by decide +kernel
theorem dX12_best_29 : decode cX12_best 29 = .ok (.iconst 0, 1) := by decide +kernel
theorem dX12_best_30 : decode cX12_best 30 = .ok (.istore 6, 2) := by decide +kernel
theorem dX12_best_32 : decode cX12_best 32 = .ok (.iconst 0, 1) := by decide +kernel
theorem dX12_best_33 : decode cX12_best 33 = .ok (.istore 7, 2) := by decide +kernel
theorem dX12_best_35 : decode cX12_best 35 = .ok (.iload 7, 2) := by decide +kernel
theorem dX12_best_37 : decode cX12_best 37 = .ok (.aload_n 0, 1) := by decide +kernel
theorem dX12_best_38 : decode cX12_best 38 = .ok (.getfield 176, 3) := by decide +kernel
theorem dX12_best_41 : decode cX12_best 41 = .ok (.if_icmp .ge 48, 3) := by decide +kernel
theorem dX12_best_44 : decode cX12_best 44 = .ok (.iload 5, 2) := by decide +kernel
theorem dX12_best_46 : decode cX12_best 46 = .ok (.iload 4, 2) := by decide +kernel
theorem dX12_best_48 : decode cX12_best 48 = .ok (.iload 7, 2) := by decide +kernel
theorem dX12_best_50 : decode cX12_best 50 = .ok (.ishr, 1) := by decide +kernel
theorem dX12_best_51 : decode cX12_best 51 = .ok (.iconst 1, 1) := by decide +kernel
theorem dX12_best_52 : decode cX12_best 52 = .ok (.iand, 1) := by decide +kernel
theorem dX12_best_53 : decode cX12_best 53 = .ok (.iconst 1, 1) := by decide +kernel
theorem dX12_best_54 : decode cX12_best 54 = .ok (.if_icmp .ne 13, 3) := by decide +kernel
theorem dX12_best_57 : decode cX12_best 57 = .ok (.aload_n 0, 1) := by decide +kernel
theorem dX12_best_58 : decode cX12_best 58 = .ok (.getfield 197, 3) := by decide +kernel
theorem dX12_best_61 : decode cX12_best 61 = .ok (.iload 7, 2) := by decide +kernel
theorem dX12_best_63 : decode cX12_best 63 = .ok (.iaload, 1) := by decide +kernel
theorem dX12_best_64 : decode cX12_best 64 = .ok (.goto 4, 3) := by decide +kernel
theorem dX12_best_67 : decode cX12_best 67 = .ok (.iconst 0, 1) := by decide +kernel
theorem dX12_best_68 : decode cX12_best 68 = .ok (.iadd, 1) := by decide +kernel
theorem dX12_best_69 : decode cX12_best 69 = .ok (.istore 5, 2) := by decide +kernel
theorem dX12_best_71 : decode cX12_best 71 = .ok (.iload 6, 2) := by decide +kernel
theorem dX12_best_73 : decode cX12_best 73 = .ok (.iload 4, 2) := by decide +kernel
theorem dX12_best_75 : decode cX12_best 75 = .ok (.iload 7, 2) := by decide +kernel
theorem dX12_best_77 : decode cX12_best 77 = .ok (.ishr, 1) := by decide +kernel
theorem dX12_best_78 : decode cX12_best 78 = .ok (.iconst 1, 1) := by decide +kernel
theorem dX12_best_79 : decode cX12_best 79 = .ok (.iand, 1) := by decide +kernel
theorem dX12_best_80 : decode cX12_best 80 = .ok (.iadd, 1) := by decide +kernel
theorem dX12_best_81 : decode cX12_best 81 = .ok (.istore 6, 2) := by decide +kernel
theorem dX12_best_83 : decode cX12_best 83 = .ok (.iinc 7 1, 3) := by decide +kernel
theorem dX12_best_86 : decode cX12_best 86 = .ok (.goto (-51), 3) := by decide +kernel
theorem dX12_best_89 : decode cX12_best 89 = .ok (.iload_n 1, 1) := by decide +kernel
theorem dX12_best_90 : decode cX12_best 90 = .ok (.ifCond .lt 21, 3) := by decide +kernel
theorem dX12_best_93 : decode cX12_best 93 = .ok (.iload 5, 2) := by decide +kernel
theorem dX12_best_95 : decode cX12_best 95 = .ok (.iload_n 2, 1) := by decide +kernel
theorem dX12_best_96 : decode cX12_best 96 = .ok (.if_icmp .gt 36, 3) := by decide +kernel
theorem dX12_best_99 : decode cX12_best 99 = .ok (.iload 5, 2) := by decide +kernel
theorem dX12_best_101 : decode cX12_best 101 = .ok (.iload_n 2, 1) := by decide +kernel
theorem dX12_best_102 : decode cX12_best 102 = .ok (.if_icmp .ne 9, 3) := by decide +kernel
theorem dX12_best_105 : decode cX12_best 105 = .ok (.iload 6, 2) := by decide +kernel
theorem dX12_best_107 : decode cX12_best 107 = .ok (.iload_n 3, 1) := by decide +kernel
theorem dX12_best_108 : decode cX12_best 108 = .ok (.if_icmp .ge 24, 3) := by decide +kernel
theorem dX12_best_111 : decode cX12_best 111 = .ok (.aload_n 0, 1) := by decide +kernel
theorem dX12_best_112 : decode cX12_best 112 = .ok (.iload 4, 2) := by decide +kernel
theorem dX12_best_114 : decode cX12_best 114 = .ok (.invokevirtual 369, 3) := by decide +kernel
theorem dX12_best_117 : decode cX12_best 117 = .ok (.ifCond .lt 6, 3) := by decide +kernel
theorem dX12_best_120 : decode cX12_best 120 = .ok (.goto 12, 3) := by decide +kernel
theorem dX12_best_123 : decode cX12_best 123 = .ok (.iload 4, 2) := by decide +kernel
theorem dX12_best_125 : decode cX12_best 125 = .ok (.istore_n 1, 1) := by decide +kernel
theorem dX12_best_126 : decode cX12_best 126 = .ok (.iload 5, 2) := by decide +kernel
theorem dX12_best_128 : decode cX12_best 128 = .ok (.istore_n 2, 1) := by decide +kernel
theorem dX12_best_129 : decode cX12_best 129 = .ok (.iload 6, 2) := by decide +kernel
theorem dX12_best_131 : decode cX12_best 131 = .ok (.istore_n 3, 1) := by decide +kernel
theorem dX12_best_132 : decode cX12_best 132 = .ok (.iinc 4 1, 3) := by decide +kernel
theorem dX12_best_135 : decode cX12_best 135 = .ok (.goto (-120), 3) := by decide +kernel
theorem dX12_best_138 : decode cX12_best 138 = .ok (.iload_n 1, 1) := by decide +kernel
theorem dX12_best_139 : decode cX12_best 139 = .ok (.ireturn, 1) := by decide +kernel
set_option maxRecDepth 100000 in
set_option maxHeartbeats 4000000 in
theorem w_X12_best_l35 {p : Program} {l : Launch} {e : Env} {R : Room} {s : State} {m : MethodId} {args : Array Value} {below : List Frame} {meth : Method} {c : Code} {cells slots : Nat} {Q : State → Prop} {K : KG} {ad : Nat → Nat → Nat} {fl : Nat} {g1 : Int32} {g2 : Int32} {g3 : Int32} {g4 : Int32} (C : Cx p s m args meth c cX12_best 8 "GlassPalaceModel" (some .int)) (hR : 3 ≤ R.frames ∧ 40 * (3) ≤ R.locals) (hB : cells ≤ R.cells ∧ slots ≤ R.slots) : ∀ (n : Nat) (u5 : Int32) (u6 : Int32) (u7 : Int32) (M0 : Mem) (H : Heap) (locs : List Loc) (ls : Array Slot), Zd K LM ad M0 s H locs → lv_has ls 8 [(0, .ref (ad 0 0)), (1, .int g1), (2, .int g2), (3, .int g3), (4, .int g4), (5, .int u5), (6, .int u6), (7, .int u7)] → ∀ (q : Int32 × Int32) (Mq : Mem), f_X12_best_l35 fl g1 g2 g3 g4 n u5 u6 u7 M0 = some (q, Mq) → (∀ (H : Heap) (locs : List Loc) (ls : Array Slot), Zd K LM ad Mq s H locs → lv_has ls 8 [(0, .ref (ad 0 0)), (1, .int g1), (2, .int g2), (3, .int g3), (4, .int g4), (5, .int q.1), (6, .int q.2)] → W p l e R s m args below meth c H locs cells slots Q (F0 m 89 ls [])) → W p l e R s m args below meth c H locs cells slots Q (F0 m 35 ls []) := by
  intro n
  induction n with
  | zero =>
    intro u5 u6 u7 M0 H locs ls Z hl q Mq hf
    have hf : (none : Option ((Int32 × Int32) × Mem)) = some (q, Mq) := hf
    cases hf
  | succ n ih =>
    intro u5 u6 u7 M0 H locs ls Z hl q Mq hf kx0
    replace hf : f_X12_best_l35_b (f_X12_best_l35 fl g1 g2 g3 g4 n) fl g1 g2 g3 g4 u5 u6 u7 M0 = some (q, Mq) := hf
    unfold f_X12_best_l35_b at hf
    refine lv_iload C.x C.b dX12_best_35 (lv_at hl 7 rfl) ?_
    refine lv_aload_n C.x C.b dX12_best_37 rfl (lv_at hl 0 rfl) ?_
    refine z_get C Z (lvM0 Nat.zero_lt_one) kM0 zc12 zin12 52 (by decide) k_1228 rfl svM0_52 dX12_best_38 ?_
    refine lv_icmp_ge (tgt := 89) C.x C.b dX12_best_41 (by decide) (fun hc3 => ?_) (fun hc3 => ?_)
    · replace hf := ite_t hf hc3
      obtain ⟨rfl, rfl⟩ := pr_s hf
      exact kx0 _ _ _ Z (lv_sub hl [0, 1, 2, 3, 4, 5, 6] rfl)
    · replace hf := ite_f hf hc3
      refine lv_iload C.x C.b dX12_best_44 (lv_at hl 5 rfl) ?_
      refine lv_iload C.x C.b dX12_best_46 (lv_at hl 4 rfl) ?_
      refine lv_iload C.x C.b dX12_best_48 (lv_at hl 7 rfl) ?_
      refine z_ishr C dX12_best_50 ?_
      refine lv_iconst (v := 1) C.x C.b dX12_best_51 (by decide) ?_
      refine lv_iand C.x C.b dX12_best_52 ?_
      refine lv_iconst (v := 1) C.x C.b dX12_best_53 (by decide) ?_
      replace hf := bn2_s hf; obtain ⟨q4, m5, hq4, hf⟩ := hf
      have kq4 : ∀ (H : Heap) (locs : List Loc) (ls : Array Slot), Zd K LM ad m5 s H locs → lv_has ls 8 [(0, .ref (ad 0 0)), (1, .int g1), (2, .int g2), (3, .int g3), (4, .int g4), (6, .int u6), (7, .int u7)] → W p l e R s m args below meth c H locs cells slots Q (F0 m 68 ls [.int q4, .int u5]) := by
        intro H locs ls Z hl
        refine lv_iadd C.x C.b dX12_best_68 ?_
        replace hf := lt1_s hf; obtain ⟨x6, ex6, hf⟩ := hf
        refine z_renI ex6 ?_
        refine z_istore (lv' := [(5, .int x6), (0, .ref (ad 0 0)), (1, .int g1), (2, .int g2), (3, .int g3), (4, .int g4), (6, .int u6), (7, .int u7)]) C dX12_best_69 hl (by decide) rfl (onlast 4 rfl rfl rfl) (fun ls hl => ?_)
        refine lv_iload C.x C.b dX12_best_71 (lv_at hl 6 rfl) ?_
        refine lv_iload C.x C.b dX12_best_73 (lv_at hl 5 rfl) ?_
        refine lv_iload C.x C.b dX12_best_75 (lv_at hl 7 rfl) ?_
        refine z_ishr C dX12_best_77 ?_
        refine lv_iconst (v := 1) C.x C.b dX12_best_78 (by decide) ?_
        refine lv_iand C.x C.b dX12_best_79 ?_
        refine lv_iadd C.x C.b dX12_best_80 ?_
        replace hf := lt1_s hf; obtain ⟨x7, ex7, hf⟩ := hf
        refine z_renI ex7 ?_
        refine z_istore (lv' := [(6, .int x7), (5, .int x6), (0, .ref (ad 0 0)), (1, .int g1), (2, .int g2), (3, .int g3), (4, .int g4), (7, .int u7)]) C dX12_best_81 hl (by decide) rfl (onlast 0 rfl rfl rfl) (fun ls hl => ?_)
        replace hf := lt1_s hf; obtain ⟨x8, ex8, hf⟩ := hf
        refine z_iinc (v := x8) (lv' := [(7, .int x8), (6, .int x7), (5, .int x6), (0, .ref (ad 0 0)), (1, .int g1), (2, .int g2), (3, .int g3), (4, .int g4)]) C dX12_best_83 hl (k := 7) rfl (by rw [ex8]; rfl) (by decide) rfl (onlast 0 rfl rfl rfl) (fun ls hl => ?_)
        refine lv_goto (tgt := 35) C.x C.b dX12_best_86 (by decide) ?_
        exact ih _ _ _ _ _ _ _ Z (lv_sub hl [3, 4, 5, 6, 7, 2, 1, 0] rfl) _ _ hf kx0
      clear hf
      refine lv_icmp_ne (tgt := 67) C.x C.b dX12_best_54 (by decide) (fun hc9 => ?_) (fun hc9 => ?_)
      · have hf := ite_f hq4 hc9; clear hq4
        refine lv_iconst (v := 0) C.x C.b dX12_best_67 (by decide) ?_
        obtain ⟨rfl, rfl⟩ := pr_s hf
        exact kq4 _ _ _ Z (lv_sub hl [0, 1, 2, 3, 4, 6, 7] rfl)
      · have hf := ite_t hq4 hc9; clear hq4
        refine lv_aload_n C.x C.b dX12_best_57 rfl (lv_at hl 0 rfl) ?_
        refine z_get C Z (lvM0 Nat.zero_lt_one) kM0 zc12 zin12 59 (by decide) k_1235 rfl svM0_59 dX12_best_58 ?_
        refine lv_iload C.x C.b dX12_best_61 (lv_at hl 7 rfl) ?_
        replace hf := asr_s hf; obtain ⟨hq10, hf⟩ := hf
        refine z_iald C Z (lvM44 Nat.zero_lt_one) kM44 hq10 svM44 dX12_best_63 ?_
        refine lv_goto (tgt := 68) C.x C.b dX12_best_64 (by decide) ?_
        obtain ⟨rfl, rfl⟩ := pr_s hf
        exact kq4 _ _ _ Z (lv_sub hl [0, 1, 2, 3, 4, 6, 7] rfl)
set_option maxRecDepth 100000 in
set_option maxHeartbeats 4000000 in
theorem w_X12_best_l15 {p : Program} {l : Launch} {e : Env} {R : Room} {s : State} {m : MethodId} {args : Array Value} {below : List Frame} {meth : Method} {c : Code} {cells slots : Nat} {Q : State → Prop} {K : KG} {ad : Nat → Nat → Nat} {fl : Nat} (C : Cx p s m args meth c cX12_best 8 "GlassPalaceModel" (some .int)) (hR : 3 ≤ R.frames ∧ 40 * (3) ≤ R.locals) (hB : cells ≤ R.cells ∧ slots ≤ R.slots) : ∀ (n : Nat) (u1 : Int32) (u2 : Int32) (u3 : Int32) (u4 : Int32) (M0 : Mem) (H : Heap) (locs : List Loc) (ls : Array Slot), Zd K LM ad M0 s H locs → lv_has ls 8 [(0, .ref (ad 0 0)), (1, .int u1), (2, .int u2), (3, .int u3), (4, .int u4)] → ∀ (q : Int32) (Mq : Mem), f_X12_best_l15 fl  n u1 u2 u3 u4 M0 = some (q, Mq) → (∀ (H : Heap) (locs : List Loc) (ls : Array Slot), Zd K LM ad Mq s H locs → lv_has ls 8 [(1, .int q)] → W p l e R s m args below meth c H locs cells slots Q (F0 m 138 ls [])) → W p l e R s m args below meth c H locs cells slots Q (F0 m 15 ls []) := by
  intro n
  induction n with
  | zero =>
    intro u1 u2 u3 u4 M0 H locs ls Z hl q Mq hf
    have hf : (none : Option (Int32 × Mem)) = some (q, Mq) := hf
    cases hf
  | succ n ih =>
    intro u1 u2 u3 u4 M0 H locs ls Z hl q Mq hf kx0
    replace hf : f_X12_best_l15_b (f_X12_best_l15 fl  n) fl  u1 u2 u3 u4 M0 = some (q, Mq) := hf
    unfold f_X12_best_l15_b at hf
    refine lv_iload C.x C.b dX12_best_15 (lv_at hl 4 rfl) ?_
    refine lv_iconst (v := 1) C.x C.b dX12_best_17 (by decide) ?_
    refine lv_aload_n C.x C.b dX12_best_18 rfl (lv_at hl 0 rfl) ?_
    refine z_get C Z (lvM0 Nat.zero_lt_one) kM0 zc12 zin12 52 (by decide) k_1228 rfl svM0_52 dX12_best_19 ?_
    refine z_ishl C dX12_best_22 ?_
    refine lv_icmp_ge (tgt := 138) C.x C.b dX12_best_23 (by decide) (fun hc2 => ?_) (fun hc2 => ?_)
    · replace hf := ite_t hf hc2
      obtain ⟨rfl, rfl⟩ := pr_s hf
      exact kx0 _ _ _ Z (lv_sub hl [1] rfl)
    · replace hf := ite_f hf hc2
      refine lv_iconst (v := 0) C.x C.b dX12_best_26 (by decide) ?_
      refine z_istore (lv' := [(5, .int 0), (0, .ref (ad 0 0)), (1, .int u1), (2, .int u2), (3, .int u3), (4, .int u4)]) C dX12_best_27 hl (by decide) rfl (onlast 4 rfl rfl rfl) (fun ls hl => ?_)
      refine lv_iconst (v := 0) C.x C.b dX12_best_29 (by decide) ?_
      refine z_istore (lv' := [(6, .int 0), (5, .int 0), (0, .ref (ad 0 0)), (1, .int u1), (2, .int u2), (3, .int u3), (4, .int u4)]) C dX12_best_30 hl (by decide) rfl (onlast 0 rfl rfl rfl) (fun ls hl => ?_)
      refine lv_iconst (v := 0) C.x C.b dX12_best_32 (by decide) ?_
      refine z_istore (lv' := [(7, .int 0), (6, .int 0), (5, .int 0), (0, .ref (ad 0 0)), (1, .int u1), (2, .int u2), (3, .int u3), (4, .int u4)]) C dX12_best_33 hl (by decide) rfl (onlast 0 rfl rfl rfl) (fun ls hl => ?_)
      replace hf := bn2_s hf; obtain ⟨q11, m12, hq11, hf⟩ := hf
      refine w_X12_best_l35 C hR hB  fl _ _ _ _ _ _ _ Z (lv_sub hl [3, 4, 5, 6, 7, 2, 1, 0] rfl) _ _ hq11 (fun H locs ls Z hl => ?_)
      refine lv_iload_n C.x C.b dX12_best_89 rfl (lv_at hl 1 rfl) ?_
      refine lv_if_lt (tgt := 111) C.x C.b dX12_best_90 (by decide) (fun hc13 => ?_) (fun hc13 => ?_)
      · replace hf := ite_t hf hc13
        refine lv_aload_n C.x C.b dX12_best_111 rfl (lv_at hl 0 rfl) ?_
        refine lv_iload C.x C.b dX12_best_112 (lv_at hl 4 rfl) ?_
        replace hf := bn2_s hf; obtain ⟨v15, m14, hkm14, hf⟩ := hf
        refine z_cV (As := [.int u4]) (rest := []) (st1 := [.int v15]) C Z mw_X12_lacking mv_X12_lacking k_1689 (by decide) (z_hR hR (by decide)) (lvM0 Nat.zero_lt_one) kM0 zc12 (c_X12_lacking (l := l) (K := K) (ad := ad) hkm14) rfl hl.1 rfl (Nat.le_of_ble_eq_true rfl) dX12_best_114 hB rfl (fun H locs Z => ?_)
        refine lv_if_lt (tgt := 123) C.x C.b dX12_best_117 (by decide) (fun hc16 => ?_) (fun hc16 => ?_)
        · replace hf := ite_t hf hc16
          refine lv_iload C.x C.b dX12_best_123 (lv_at hl 4 rfl) ?_
          refine z_istore_n (lv' := [(1, .int u4), (0, .ref (ad 0 0)), (2, .int u2), (3, .int u3), (4, .int u4), (5, .int q11.1), (6, .int q11.2)]) C dX12_best_125 rfl hl (by decide) rfl (onlast 0 rfl rfl rfl) (fun ls hl => ?_)
          refine lv_iload C.x C.b dX12_best_126 (lv_at hl 5 rfl) ?_
          refine z_istore_n (lv' := [(2, .int q11.1), (1, .int u4), (0, .ref (ad 0 0)), (3, .int u3), (4, .int u4), (5, .int q11.1), (6, .int q11.2)]) C dX12_best_128 rfl hl (by decide) rfl (onlast 0 rfl rfl rfl) (fun ls hl => ?_)
          refine lv_iload C.x C.b dX12_best_129 (lv_at hl 6 rfl) ?_
          refine z_istore_n (lv' := [(3, .int q11.2), (2, .int q11.1), (1, .int u4), (0, .ref (ad 0 0)), (4, .int u4), (5, .int q11.1), (6, .int q11.2)]) C dX12_best_131 rfl hl (by decide) rfl (onlast 0 rfl rfl rfl) (fun ls hl => ?_)
          replace hf := lt1_s hf; obtain ⟨x17, ex17, hf⟩ := hf
          refine z_iinc (v := x17) (lv' := [(4, .int x17), (3, .int q11.2), (2, .int q11.1), (1, .int u4), (0, .ref (ad 0 0)), (5, .int q11.1), (6, .int q11.2)]) C dX12_best_132 hl (k := 4) rfl (by rw [ex17]; rfl) (by decide) rfl (onlast 0 rfl rfl rfl) (fun ls hl => ?_)
          refine lv_goto (tgt := 15) C.x C.b dX12_best_135 (by decide) ?_
          exact ih _ _ _ _ _ _ _ _ Z (lv_sub hl [4, 3, 2, 1, 0] rfl) _ _ hf kx0
        · replace hf := ite_f hf hc16
          refine lv_goto (tgt := 132) C.x C.b dX12_best_120 (by decide) ?_
          replace hf := lt1_s hf; obtain ⟨x18, ex18, hf⟩ := hf
          refine z_iinc (v := x18) (lv' := [(4, .int x18), (0, .ref (ad 0 0)), (1, .int u1), (2, .int u2), (3, .int u3), (5, .int q11.1), (6, .int q11.2)]) C dX12_best_132 hl (k := 4) rfl (by rw [ex18]; rfl) (by decide) rfl (onlast 3 rfl rfl rfl) (fun ls hl => ?_)
          refine lv_goto (tgt := 15) C.x C.b dX12_best_135 (by decide) ?_
          exact ih _ _ _ _ _ _ _ _ Z (lv_sub hl [1, 2, 3, 4, 0] rfl) _ _ hf kx0
      · replace hf := ite_f hf hc13
        refine lv_iload C.x C.b dX12_best_93 (lv_at hl 5 rfl) ?_
        refine lv_iload_n C.x C.b dX12_best_95 rfl (lv_at hl 2 rfl) ?_
        refine lv_icmp_gt (tgt := 132) C.x C.b dX12_best_96 (by decide) (fun hc19 => ?_) (fun hc19 => ?_)
        · replace hf := ite_t hf hc19
          replace hf := lt1_s hf; obtain ⟨x20, ex20, hf⟩ := hf
          refine z_iinc (v := x20) (lv' := [(4, .int x20), (0, .ref (ad 0 0)), (1, .int u1), (2, .int u2), (3, .int u3), (5, .int q11.1), (6, .int q11.2)]) C dX12_best_132 hl (k := 4) rfl (by rw [ex20]; rfl) (by decide) rfl (onlast 3 rfl rfl rfl) (fun ls hl => ?_)
          refine lv_goto (tgt := 15) C.x C.b dX12_best_135 (by decide) ?_
          exact ih _ _ _ _ _ _ _ _ Z (lv_sub hl [1, 2, 3, 4, 0] rfl) _ _ hf kx0
        · replace hf := ite_f hf hc19
          refine lv_iload C.x C.b dX12_best_99 (lv_at hl 5 rfl) ?_
          refine lv_iload_n C.x C.b dX12_best_101 rfl (lv_at hl 2 rfl) ?_
          refine lv_icmp_ne (tgt := 111) C.x C.b dX12_best_102 (by decide) (fun hc21 => ?_) (fun hc21 => ?_)
          · replace hf := ite_f hf hc21
            refine lv_aload_n C.x C.b dX12_best_111 rfl (lv_at hl 0 rfl) ?_
            refine lv_iload C.x C.b dX12_best_112 (lv_at hl 4 rfl) ?_
            replace hf := bn2_s hf; obtain ⟨v23, m22, hkm22, hf⟩ := hf
            refine z_cV (As := [.int u4]) (rest := []) (st1 := [.int v23]) C Z mw_X12_lacking mv_X12_lacking k_1689 (by decide) (z_hR hR (by decide)) (lvM0 Nat.zero_lt_one) kM0 zc12 (c_X12_lacking (l := l) (K := K) (ad := ad) hkm22) rfl hl.1 rfl (Nat.le_of_ble_eq_true rfl) dX12_best_114 hB rfl (fun H locs Z => ?_)
            refine lv_if_lt (tgt := 123) C.x C.b dX12_best_117 (by decide) (fun hc24 => ?_) (fun hc24 => ?_)
            · replace hf := ite_t hf hc24
              refine lv_iload C.x C.b dX12_best_123 (lv_at hl 4 rfl) ?_
              refine z_istore_n (lv' := [(1, .int u4), (0, .ref (ad 0 0)), (2, .int u2), (3, .int u3), (4, .int u4), (5, .int q11.1), (6, .int q11.2)]) C dX12_best_125 rfl hl (by decide) rfl (onlast 0 rfl rfl rfl) (fun ls hl => ?_)
              refine lv_iload C.x C.b dX12_best_126 (lv_at hl 5 rfl) ?_
              refine z_istore_n (lv' := [(2, .int q11.1), (1, .int u4), (0, .ref (ad 0 0)), (3, .int u3), (4, .int u4), (5, .int q11.1), (6, .int q11.2)]) C dX12_best_128 rfl hl (by decide) rfl (onlast 0 rfl rfl rfl) (fun ls hl => ?_)
              refine lv_iload C.x C.b dX12_best_129 (lv_at hl 6 rfl) ?_
              refine z_istore_n (lv' := [(3, .int q11.2), (2, .int q11.1), (1, .int u4), (0, .ref (ad 0 0)), (4, .int u4), (5, .int q11.1), (6, .int q11.2)]) C dX12_best_131 rfl hl (by decide) rfl (onlast 0 rfl rfl rfl) (fun ls hl => ?_)
              replace hf := lt1_s hf; obtain ⟨x25, ex25, hf⟩ := hf
              refine z_iinc (v := x25) (lv' := [(4, .int x25), (3, .int q11.2), (2, .int q11.1), (1, .int u4), (0, .ref (ad 0 0)), (5, .int q11.1), (6, .int q11.2)]) C dX12_best_132 hl (k := 4) rfl (by rw [ex25]; rfl) (by decide) rfl (onlast 0 rfl rfl rfl) (fun ls hl => ?_)
              refine lv_goto (tgt := 15) C.x C.b dX12_best_135 (by decide) ?_
              exact ih _ _ _ _ _ _ _ _ Z (lv_sub hl [4, 3, 2, 1, 0] rfl) _ _ hf kx0
            · replace hf := ite_f hf hc24
              refine lv_goto (tgt := 132) C.x C.b dX12_best_120 (by decide) ?_
              replace hf := lt1_s hf; obtain ⟨x26, ex26, hf⟩ := hf
              refine z_iinc (v := x26) (lv' := [(4, .int x26), (0, .ref (ad 0 0)), (1, .int u1), (2, .int u2), (3, .int u3), (5, .int q11.1), (6, .int q11.2)]) C dX12_best_132 hl (k := 4) rfl (by rw [ex26]; rfl) (by decide) rfl (onlast 3 rfl rfl rfl) (fun ls hl => ?_)
              refine lv_goto (tgt := 15) C.x C.b dX12_best_135 (by decide) ?_
              exact ih _ _ _ _ _ _ _ _ Z (lv_sub hl [1, 2, 3, 4, 0] rfl) _ _ hf kx0
          · replace hf := ite_t hf hc21
            refine lv_iload C.x C.b dX12_best_105 (lv_at hl 6 rfl) ?_
            refine lv_iload_n C.x C.b dX12_best_107 rfl (lv_at hl 3 rfl) ?_
            refine lv_icmp_ge (tgt := 132) C.x C.b dX12_best_108 (by decide) (fun hc27 => ?_) (fun hc27 => ?_)
            · replace hf := ite_t hf hc27
              replace hf := lt1_s hf; obtain ⟨x28, ex28, hf⟩ := hf
              refine z_iinc (v := x28) (lv' := [(4, .int x28), (0, .ref (ad 0 0)), (1, .int u1), (2, .int u2), (3, .int u3), (5, .int q11.1), (6, .int q11.2)]) C dX12_best_132 hl (k := 4) rfl (by rw [ex28]; rfl) (by decide) rfl (onlast 3 rfl rfl rfl) (fun ls hl => ?_)
              refine lv_goto (tgt := 15) C.x C.b dX12_best_135 (by decide) ?_
              exact ih _ _ _ _ _ _ _ _ Z (lv_sub hl [1, 2, 3, 4, 0] rfl) _ _ hf kx0
            · replace hf := ite_f hf hc27
              refine lv_aload_n C.x C.b dX12_best_111 rfl (lv_at hl 0 rfl) ?_
              refine lv_iload C.x C.b dX12_best_112 (lv_at hl 4 rfl) ?_
              replace hf := bn2_s hf; obtain ⟨v30, m29, hkm29, hf⟩ := hf
              refine z_cV (As := [.int u4]) (rest := []) (st1 := [.int v30]) C Z mw_X12_lacking mv_X12_lacking k_1689 (by decide) (z_hR hR (by decide)) (lvM0 Nat.zero_lt_one) kM0 zc12 (c_X12_lacking (l := l) (K := K) (ad := ad) hkm29) rfl hl.1 rfl (Nat.le_of_ble_eq_true rfl) dX12_best_114 hB rfl (fun H locs Z => ?_)
              refine lv_if_lt (tgt := 123) C.x C.b dX12_best_117 (by decide) (fun hc31 => ?_) (fun hc31 => ?_)
              · replace hf := ite_t hf hc31
                refine lv_iload C.x C.b dX12_best_123 (lv_at hl 4 rfl) ?_
                refine z_istore_n (lv' := [(1, .int u4), (0, .ref (ad 0 0)), (2, .int u2), (3, .int u3), (4, .int u4), (5, .int q11.1), (6, .int q11.2)]) C dX12_best_125 rfl hl (by decide) rfl (onlast 0 rfl rfl rfl) (fun ls hl => ?_)
                refine lv_iload C.x C.b dX12_best_126 (lv_at hl 5 rfl) ?_
                refine z_istore_n (lv' := [(2, .int q11.1), (1, .int u4), (0, .ref (ad 0 0)), (3, .int u3), (4, .int u4), (5, .int q11.1), (6, .int q11.2)]) C dX12_best_128 rfl hl (by decide) rfl (onlast 0 rfl rfl rfl) (fun ls hl => ?_)
                refine lv_iload C.x C.b dX12_best_129 (lv_at hl 6 rfl) ?_
                refine z_istore_n (lv' := [(3, .int q11.2), (2, .int q11.1), (1, .int u4), (0, .ref (ad 0 0)), (4, .int u4), (5, .int q11.1), (6, .int q11.2)]) C dX12_best_131 rfl hl (by decide) rfl (onlast 0 rfl rfl rfl) (fun ls hl => ?_)
                replace hf := lt1_s hf; obtain ⟨x32, ex32, hf⟩ := hf
                refine z_iinc (v := x32) (lv' := [(4, .int x32), (3, .int q11.2), (2, .int q11.1), (1, .int u4), (0, .ref (ad 0 0)), (5, .int q11.1), (6, .int q11.2)]) C dX12_best_132 hl (k := 4) rfl (by rw [ex32]; rfl) (by decide) rfl (onlast 0 rfl rfl rfl) (fun ls hl => ?_)
                refine lv_goto (tgt := 15) C.x C.b dX12_best_135 (by decide) ?_
                exact ih _ _ _ _ _ _ _ _ Z (lv_sub hl [4, 3, 2, 1, 0] rfl) _ _ hf kx0
              · replace hf := ite_f hf hc31
                refine lv_goto (tgt := 132) C.x C.b dX12_best_120 (by decide) ?_
                replace hf := lt1_s hf; obtain ⟨x33, ex33, hf⟩ := hf
                refine z_iinc (v := x33) (lv' := [(4, .int x33), (0, .ref (ad 0 0)), (1, .int u1), (2, .int u2), (3, .int u3), (5, .int q11.1), (6, .int q11.2)]) C dX12_best_132 hl (k := 4) rfl (by rw [ex33]; rfl) (by decide) rfl (onlast 3 rfl rfl rfl) (fun ls hl => ?_)
                refine lv_goto (tgt := 15) C.x C.b dX12_best_135 (by decide) ?_
                exact ih _ _ _ _ _ _ _ _ Z (lv_sub hl [1, 2, 3, 4, 0] rfl) _ _ hf kx0
set_option maxRecDepth 100000 in
set_option maxHeartbeats 4000000 in
theorem c_X12_best {l : Launch} {K : KG} {ad : Nat → Nat → Nat} {fl : Nat}  {M0 : Mem} {r9 : Int32} {M9 : Mem} (hf : f_X12_best fl  M0 = some (r9, M9)) : Met l yX12_best (Cond.code yX12_best cX12_best 8 (some .int) :: ztb) (RM (3) 0 0) (zPc K LM ad M0 [.ref (ad 0 0)]) (zQ K LM ad (some (.int r9)) M9) 0 0 (zA ad) := by
  refine z_enter (by decide) (Nat.le_of_ble_eq_true rfl) ?_
  intro p e s m args below meth c ls C hin hargs Z hl
  replace C : Cx p s m args meth c cX12_best 8 "GlassPalaceModel" (some .int) := C
  replace hl : lv_has ls 8 [(0, .ref (ad 0 0))] := hl
  have hR : 3 ≤ (RM (3) 0 0).frames ∧ 40 * (3) ≤ (RM (3) 0 0).locals := ⟨Nat.le_refl _, Nat.le_refl _⟩
  have hB : 0 ≤ (RM (3) 0 0).cells ∧ 0 ≤ (RM (3) 0 0).slots := ⟨Nat.zero_le _, Nat.zero_le _⟩
  unfold f_X12_best at hf
  refine lv_aload_n C.x C.b dX12_best_0 rfl (lv_at hl 0 rfl) ?_
  refine lv_iconst (v := 1) C.x C.b dX12_best_1 (by decide) ?_
  replace hf := bn1_s hf; obtain ⟨m1, hkm1, hf⟩ := hf
  refine z_cV (As := [.int 1]) (rest := []) (st1 := []) C Z mw_X12_findNeeds mv_X12_findNeeds k_1685 (by decide) (z_hR hR (by decide)) (lvM0 Nat.zero_lt_one) kM0 zc12 (c_X12_findNeeds (l := l) (K := K) (ad := ad) hkm1) rfl hl.1 rfl (Nat.le_of_ble_eq_true rfl) dX12_best_2 hB rfl (fun H locs Z => ?_)
  refine lv_bipush (v := (-5)) C.x C.b dX12_best_5 (by decide) ?_
  refine z_istore_n (lv' := [(1, .int (-5)), (0, .ref (ad 0 0))]) C dX12_best_7 rfl hl (by decide) rfl (onlast 0 rfl rfl rfl) (fun ls hl => ?_)
  refine lv_iconst (v := 0) C.x C.b dX12_best_8 (by decide) ?_
  refine z_istore_n (lv' := [(2, .int 0), (1, .int (-5)), (0, .ref (ad 0 0))]) C dX12_best_9 rfl hl (by decide) rfl (onlast 0 rfl rfl rfl) (fun ls hl => ?_)
  refine lv_iconst (v := 0) C.x C.b dX12_best_10 (by decide) ?_
  refine z_istore_n (lv' := [(3, .int 0), (2, .int 0), (1, .int (-5)), (0, .ref (ad 0 0))]) C dX12_best_11 rfl hl (by decide) rfl (onlast 0 rfl rfl rfl) (fun ls hl => ?_)
  refine lv_iconst (v := 0) C.x C.b dX12_best_12 (by decide) ?_
  refine z_istore (lv' := [(4, .int 0), (3, .int 0), (2, .int 0), (1, .int (-5)), (0, .ref (ad 0 0))]) C dX12_best_13 hl (by decide) rfl (onlast 0 rfl rfl rfl) (fun ls hl => ?_)
  replace hf := bn2_s hf; obtain ⟨q34, m35, hq34, hf⟩ := hf
  refine w_X12_best_l15 C hR hB  fl _ _ _ _ _ _ _ _ Z (lv_sub hl [4, 3, 2, 1, 0] rfl) _ _ hq34 (fun H locs ls Z hl => ?_)
  refine lv_iload_n C.x C.b dX12_best_138 rfl (lv_at hl 0 rfl) ?_
  obtain ⟨rfl, rfl⟩ := pr_s hf
  exact z_iret C Z dX12_best_139
