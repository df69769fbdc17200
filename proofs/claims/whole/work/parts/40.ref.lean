theorem dX12_in_0 : decode cX12_in 0 = .ok (.iload_n 1, 1) := by decide +kernel
theorem dX12_in_1 : decode cX12_in 1 = .ok (.iload_n 2, 1) := by decide +kernel
theorem dX12_in_2 : decode cX12_in 2 = .ok (.if_icmp .lt 12, 3) := by decide +kernel
theorem dX12_in_5 : decode cX12_in 5 = .ok (.iload_n 1, 1) := by decide +kernel
theorem dX12_in_6 : decode cX12_in 6 = .ok (.iload_n 3, 1) := by decide +kernel
theorem dX12_in_7 : decode cX12_in 7 = .ok (.if_icmp .gt 7, 3) := by decide +kernel
theorem dX12_in_10 : decode cX12_in 10 = .ok (.iconst 1, 1) := by decide +kernel
theorem dX12_in_11 : decode cX12_in 11 = .ok (.goto 4, 3) := by decide +kernel
theorem dX12_in_14 : decode cX12_in 14 = .ok (.iconst 0, 1) := by decide +kernel
theorem dX12_in_15 : decode cX12_in 15 = .ok (.ireturn, 1) := by decide +kernel
set_option maxRecDepth 100000 in
set_option maxHeartbeats 4000000 in
theorem c_X12_in {l : Launch} {K : KG} {ad : Nat → Nat → Nat} {fl : Nat} {a1 : Int32} {a2 : Int32} {a3 : Int32} {M0 : Mem} {r9 : Int32} {M9 : Mem} (hf : f_X12_in fl a1 a2 a3 M0 = some (r9, M9)) : Met l yX12_in (Cond.code yX12_in cX12_in 4 (some .boolean) :: ztb) (RM (1) 0 0) (zPc K LM ad M0 [.ref (ad 0 0), .int a1, .int a2, .int a3]) (zQ K LM ad (some (.int r9)) M9) 0 0 (zA ad) := by
  refine z_enter (by decide) (Nat.le_of_ble_eq_true rfl) ?_
  intro p e s m args below meth c ls C hin hargs Z hl
  replace C : Cx p s m args meth c cX12_in 4 "GlassPalaceModel" (some .boolean) := C
  replace hl : lv_has ls 4 [(0, .ref (ad 0 0)), (1, .int a1), (2, .int a2), (3, .int a3)] := hl
  have hR : 1 ≤ (RM (1) 0 0).frames ∧ 40 * (1) ≤ (RM (1) 0 0).locals := ⟨Nat.le_refl _, Nat.le_refl _⟩
  have hB : 0 ≤ (RM (1) 0 0).cells ∧ 0 ≤ (RM (1) 0 0).slots := ⟨Nat.zero_le _, Nat.zero_le _⟩
  unfold f_X12_in at hf
  refine lv_iload_n C.x C.b dX12_in_0 rfl (lv_at hl 1 rfl) ?_
  refine lv_iload_n C.x C.b dX12_in_1 rfl (lv_at hl 2 rfl) ?_
  refine lv_icmp_lt (tgt := 14) C.x C.b dX12_in_2 (by decide) (fun hc1 => ?_) (fun hc1 => ?_)
  · replace hf := ite_t hf hc1
    refine lv_iconst (v := 0) C.x C.b dX12_in_14 (by decide) ?_
    obtain ⟨rfl, rfl⟩ := pr_s hf
    exact z_zret C Z rfl dX12_in_15
  · replace hf := ite_f hf hc1
    refine lv_iload_n C.x C.b dX12_in_5 rfl (lv_at hl 1 rfl) ?_
    refine lv_iload_n C.x C.b dX12_in_6 rfl (lv_at hl 3 rfl) ?_
    refine lv_icmp_gt (tgt := 14) C.x C.b dX12_in_7 (by decide) (fun hc2 => ?_) (fun hc2 => ?_)
    · replace hf := ite_t hf hc2
      refine lv_iconst (v := 0) C.x C.b dX12_in_14 (by decide) ?_
      obtain ⟨rfl, rfl⟩ := pr_s hf
      exact z_zret C Z rfl dX12_in_15
    · replace hf := ite_f hf hc2
      refine lv_iconst (v := 1) C.x C.b dX12_in_10 (by decide) ?_
      refine lv_goto (tgt := 15) C.x C.b dX12_in_11 (by decide) ?_
      obtain ⟨rfl, rfl⟩ := pr_s hf
      exact z_zret C Z rfl dX12_in_15
theorem dX12_isDay_0 : decode cX12_isDay 0 = .ok (.aload_n 0, 1) := by decide +kernel
theorem dX12_isDay_1 : decode cX12_isDay 1 = .ok (.iload_n 1, 1) := by decide +kernel
theorem dX12_isDay_2 : decode cX12_isDay 2 = .ok (.iconst 0, 1) := by decide +kernel
theorem dX12_isDay_3 : decode cX12_isDay 3 = .ok (.sipush 399, 3) := by decide +kernel
theorem dX12_isDay_6 : decode cX12_isDay 6 = .ok (.invokevirtual 3, 3) := by decide +kernel
theorem dX12_isDay_9 : decode cX12_isDay 9 = .ok (.ireturn, 1) := by decide +kernel
set_option maxRecDepth 100000 in
set_option maxHeartbeats 4000000 in
theorem c_X12_isDay {l : Launch} {K : KG} {ad : Nat → Nat → Nat} {fl : Nat} {a1 : Int32} {M0 : Mem} {r9 : Int32} {M9 : Mem} (hf : f_X12_isDay fl a1 M0 = some (r9, M9)) : Met l yX12_isDay (Cond.code yX12_isDay cX12_isDay 2 (some .boolean) :: ztb) (RM (2) 0 0) (zPc K LM ad M0 [.ref (ad 0 0), .int a1]) (zQ K LM ad (some (.int r9)) M9) 0 0 (zA ad) := by
  refine z_enter (by decide) (Nat.le_of_ble_eq_true rfl) ?_
  intro p e s m args below meth c ls C hin hargs Z hl
  replace C : Cx p s m args meth c cX12_isDay 2 "GlassPalaceModel" (some .boolean) := C
  replace hl : lv_has ls 2 [(0, .ref (ad 0 0)), (1, .int a1)] := hl
  have hR : 2 ≤ (RM (2) 0 0).frames ∧ 40 * (2) ≤ (RM (2) 0 0).locals := ⟨Nat.le_refl _, Nat.le_refl _⟩
  have hB : 0 ≤ (RM (2) 0 0).cells ∧ 0 ≤ (RM (2) 0 0).slots := ⟨Nat.zero_le _, Nat.zero_le _⟩
  unfold f_X12_isDay at hf
  refine lv_aload_n C.x C.b dX12_isDay_0 rfl (lv_at hl 0 rfl) ?_
  refine lv_iload_n C.x C.b dX12_isDay_1 rfl (lv_at hl 1 rfl) ?_
  refine lv_iconst (v := 0) C.x C.b dX12_isDay_2 (by decide) ?_
  refine lv_sipush (v := 399) C.x C.b dX12_isDay_3 (by decide) ?_
  replace hf := bn2_s hf; obtain ⟨v2, m1, hkm1, hf⟩ := hf
  refine z_cV (As := [.int a1, .int 0, .int 399]) (rest := []) (st1 := [.int v2]) C Z mw_X12_in mv_X12_in k_1398 (by decide) (z_hR hR (by decide)) (lvM0 Nat.zero_lt_one) kM0 zc12 (c_X12_in (l := l) (K := K) (ad := ad) hkm1) rfl hl.1 rfl (Nat.le_of_ble_eq_true rfl) dX12_isDay_6 hB rfl (fun H locs Z => ?_)
  replace hf := asr_s hf; obtain ⟨hq3, hf⟩ := hf
  obtain ⟨rfl, rfl⟩ := pr_s hf
  exact z_zret C Z (jz01 hq3) dX12_isDay_9
theorem dX12_isBay_0 : decode cX12_isBay 0 = .ok (.aload_n 0, 1) := by decide +kernel
theorem dX12_isBay_1 : decode cX12_isBay 1 = .ok (.iload_n 1, 1) := by decide +kernel
theorem dX12_isBay_2 : decode cX12_isBay 2 = .ok (.iconst 0, 1) := by decide +kernel
theorem dX12_isBay_3 : decode cX12_isBay 3 = .ok (.bipush 29, 2) := by decide +kernel
theorem dX12_isBay_5 : decode cX12_isBay 5 = .ok (.invokevirtual 3, 3) := by decide +kernel
theorem dX12_isBay_8 : decode cX12_isBay 8 = .ok (.ireturn, 1) := by decide +kernel
set_option maxRecDepth 100000 in
set_option maxHeartbeats 4000000 in
theorem c_X12_isBay {l : Launch} {K : KG} {ad : Nat → Nat → Nat} {fl : Nat} {a1 : Int32} {M0 : Mem} {r9 : Int32} {M9 : Mem} (hf : f_X12_isBay fl a1 M0 = some (r9, M9)) : Met l yX12_isBay (Cond.code yX12_isBay cX12_isBay 2 (some .boolean) :: ztb) (RM (2) 0 0) (zPc K LM ad M0 [.ref (ad 0 0), .int a1]) (zQ K LM ad (some (.int r9)) M9) 0 0 (zA ad) := by
  refine z_enter (by decide) (Nat.le_of_ble_eq_true rfl) ?_
  intro p e s m args below meth c ls C hin hargs Z hl
  replace C : Cx p s m args meth c cX12_isBay 2 "GlassPalaceModel" (some .boolean) := C
  replace hl : lv_has ls 2 [(0, .ref (ad 0 0)), (1, .int a1)] := hl
  have hR : 2 ≤ (RM (2) 0 0).frames ∧ 40 * (2) ≤ (RM (2) 0 0).locals := ⟨Nat.le_refl _, Nat.le_refl _⟩
  have hB : 0 ≤ (RM (2) 0 0).cells ∧ 0 ≤ (RM (2) 0 0).slots := ⟨Nat.zero_le _, Nat.zero_le _⟩
  unfold f_X12_isBay at hf
  refine lv_aload_n C.x C.b dX12_isBay_0 rfl (lv_at hl 0 rfl) ?_
  refine lv_iload_n C.x C.b dX12_isBay_1 rfl (lv_at hl 1 rfl) ?_
  refine lv_iconst (v := 0) C.x C.b dX12_isBay_2 (by decide) ?_
  refine lv_bipush (v := 29) C.x C.b dX12_isBay_3 (by decide) ?_
  replace hf := bn2_s hf; obtain ⟨v2, m1, hkm1, hf⟩ := hf
  refine z_cV (As := [.int a1, .int 0, .int 29]) (rest := []) (st1 := [.int v2]) C Z mw_X12_in mv_X12_in k_1398 (by decide) (z_hR hR (by decide)) (lvM0 Nat.zero_lt_one) kM0 zc12 (c_X12_in (l := l) (K := K) (ad := ad) hkm1) rfl hl.1 rfl (Nat.le_of_ble_eq_true rfl) dX12_isBay_5 hB rfl (fun H locs Z => ?_)
  replace hf := asr_s hf; obtain ⟨hq3, hf⟩ := hf
  obtain ⟨rfl, rfl⟩ := pr_s hf
  exact z_zret C Z (jz01 hq3) dX12_isBay_8
theorem dX12_isFoundry_0 : decode cX12_isFoundry 0 = .ok (.aload_n 0, 1) := by decide +kernel
theorem dX12_isFoundry_1 : decode cX12_isFoundry 1 = .ok (.iload_n 1, 1) := by decide +kernel
theorem dX12_isFoundry_2 : decode cX12_isFoundry 2 = .ok (.iconst 0, 1) := by decide +kernel
theorem dX12_isFoundry_3 : decode cX12_isFoundry 3 = .ok (.bipush 7, 2) := by decide +kernel
theorem dX12_isFoundry_5 : decode cX12_isFoundry 5 = .ok (.invokevirtual 3, 3) := by decide +kernel
theorem dX12_isFoundry_8 : decode cX12_isFoundry 8 = .ok (.ireturn, 1) := by decide +kernel
set_option maxRecDepth 100000 in
set_option maxHeartbeats 4000000 in
theorem c_X12_isFoundry {l : Launch} {K : KG} {ad : Nat → Nat → Nat} {fl : Nat} {a1 : Int32} {M0 : Mem} {r9 : Int32} {M9 : Mem} (hf : f_X12_isFoundry fl a1 M0 = some (r9, M9)) : Met l yX12_isFoundry (Cond.code yX12_isFoundry cX12_isFoundry 2 (some .boolean) :: ztb) (RM (2) 0 0) (zPc K LM ad M0 [.ref (ad 0 0), .int a1]) (zQ K LM ad (some (.int r9)) M9) 0 0 (zA ad) := by
  refine z_enter (by decide) (Nat.le_of_ble_eq_true rfl) ?_
  intro p e s m args below meth c ls C hin hargs Z hl
  replace C : Cx p s m args meth c cX12_isFoundry 2 "GlassPalaceModel" (some .boolean) := C
  replace hl : lv_has ls 2 [(0, .ref (ad 0 0)), (1, .int a1)] := hl
  have hR : 2 ≤ (RM (2) 0 0).frames ∧ 40 * (2) ≤ (RM (2) 0 0).locals := ⟨Nat.le_refl _, Nat.le_refl _⟩
  have hB : 0 ≤ (RM (2) 0 0).cells ∧ 0 ≤ (RM (2) 0 0).slots := ⟨Nat.zero_le _, Nat.zero_le _⟩
  unfold f_X12_isFoundry at hf
  refine lv_aload_n C.x C.b dX12_isFoundry_0 rfl (lv_at hl 0 rfl) ?_
  refine lv_iload_n C.x C.b dX12_isFoundry_1 rfl (lv_at hl 1 rfl) ?_
  refine lv_iconst (v := 0) C.x C.b dX12_isFoundry_2 (by decide) ?_
  refine lv_bipush (v := 7) C.x C.b dX12_isFoundry_3 (by decide) ?_
  replace hf := bn2_s hf; obtain ⟨v2, m1, hkm1, hf⟩ := hf
  refine z_cV (As := [.int a1, .int 0, .int 7]) (rest := []) (st1 := [.int v2]) C Z mw_X12_in mv_X12_in k_1398 (by decide) (z_hR hR (by decide)) (lvM0 Nat.zero_lt_one) kM0 zc12 (c_X12_in (l := l) (K := K) (ad := ad) hkm1) rfl hl.1 rfl (Nat.le_of_ble_eq_true rfl) dX12_isFoundry_5 hB rfl (fun H locs Z => ?_)
  replace hf := asr_s hf; obtain ⟨hq3, hf⟩ := hf
  obtain ⟨rfl, rfl⟩ := pr_s hf
  exact z_zret C Z (jz01 hq3) dX12_isFoundry_8
theorem dX12_abs_0 : decode cX12_abs 0 = .ok (.iload_n 1, 1) := by decide +kernel
theorem dX12_abs_1 : decode cX12_abs 1 = .ok (.ifCond .ge 8, 3) := by decide +kernel
theorem dX12_abs_4 : decode cX12_abs 4 = .ok (.iload_n 1, 1) := by decide +kernel
theorem dX12_abs_5 : decode cX12_abs 5 = .ok (.ineg, 1) := by decide +kernel
theorem dX12_abs_6 : decode cX12_abs 6 = .ok (.goto 4, 3) := by decide +kernel
theorem dX12_abs_9 : decode cX12_abs 9 = .ok (.iload_n 1, 1) := by decide +kernel
theorem dX12_abs_10 : decode cX12_abs 10 = .ok (.ireturn, 1) := by decide +kernel
set_option maxRecDepth 100000 in
set_option maxHeartbeats 4000000 in
theorem c_X12_abs {l : Launch} {K : KG} {ad : Nat → Nat → Nat} {fl : Nat} {a1 : Int32} {M0 : Mem} {r9 : Int32} {M9 : Mem} (hf : f_X12_abs fl a1 M0 = some (r9, M9)) : Met l yX12_abs (Cond.code yX12_abs cX12_abs 2 (some .int) :: ztb) (RM (1) 0 0) (zPc K LM ad M0 [.ref (ad 0 0), .int a1]) (zQ K LM ad (some (.int r9)) M9) 0 0 (zA ad) := by
  refine z_enter (by decide) (Nat.le_of_ble_eq_true rfl) ?_
  intro p e s m args below meth c ls C hin hargs Z hl
  replace C : Cx p s m args meth c cX12_abs 2 "GlassPalaceModel" (some .int) := C
  replace hl : lv_has ls 2 [(0, .ref (ad 0 0)), (1, .int a1)] := hl
  have hR : 1 ≤ (RM (1) 0 0).frames ∧ 40 * (1) ≤ (RM (1) 0 0).locals := ⟨Nat.le_refl _, Nat.le_refl _⟩
  have hB : 0 ≤ (RM (1) 0 0).cells ∧ 0 ≤ (RM (1) 0 0).slots := ⟨Nat.zero_le _, Nat.zero_le _⟩
  unfold f_X12_abs at hf
  refine lv_iload_n C.x C.b dX12_abs_0 rfl (lv_at hl 1 rfl) ?_
  refine lv_if_ge (tgt := 9) C.x C.b dX12_abs_1 (by decide) (fun hc1 => ?_) (fun hc1 => ?_)
  · replace hf := ite_t hf hc1
    refine lv_iload_n C.x C.b dX12_abs_9 rfl (lv_at hl 1 rfl) ?_
    obtain ⟨rfl, rfl⟩ := pr_s hf
    exact z_iret C Z dX12_abs_10
  · replace hf := ite_f hf hc1
    refine lv_iload_n C.x C.b dX12_abs_4 rfl (lv_at hl 1 rfl) ?_
    refine lv_ineg C.x C.b dX12_abs_5 ?_
    refine lv_goto (tgt := 10) C.x C.b dX12_abs_6 (by decide) ?_
    obtain ⟨rfl, rfl⟩ := pr_s hf
    exact z_iret C Z dX12_abs_10
theorem dX12_areBeside_0 : decode cX12_areBeside 0 = .ok (.aload_n 0, 1) := by decide +kernel
theorem dX12_areBeside_1 : decode cX12_areBeside 1 = .ok (.iload_n 1, 1) := by decide +kernel
theorem dX12_areBeside_2 : decode cX12_areBeside 2 = .ok (.bipush 6, 2) := by decide +kernel
theorem dX12_areBeside_4 : decode cX12_areBeside 4 = .ok (.irem, 1) := by decide +kernel
theorem dX12_areBeside_5 : decode cX12_areBeside 5 = .ok (.iload_n 2, 1) := by decide +kernel
theorem dX12_areBeside_6 : decode cX12_areBeside 6 = .ok (.bipush 6, 2) := by decide +kernel
theorem dX12_areBeside_8 : decode cX12_areBeside 8 = .ok (.irem, 1) := by decide +kernel
theorem dX12_areBeside_9 : decode cX12_areBeside 9 = .ok (.isub, 1) := by decide +kernel
theorem dX12_areBeside_10 : decode cX12_areBeside 10 = .ok (.invokevirtual 7, 3) := by decide +kernel
theorem dX12_areBeside_13 : decode cX12_areBeside 13 = .ok (.aload_n 0, 1) := by decide +kernel
theorem dX12_areBeside_14 : decode cX12_areBeside 14 = .ok (.iload_n 1, 1) := by decide +kernel
theorem dX12_areBeside_15 : decode cX12_areBeside 15 = .ok (.bipush 6, 2) := by decide +kernel
theorem dX12_areBeside_17 : decode cX12_areBeside 17 = .ok (.idiv, 1) := by decide +kernel
theorem dX12_areBeside_18 : decode cX12_areBeside 18 = .ok (.iload_n 2, 1) := by decide +kernel
theorem dX12_areBeside_19 : decode cX12_areBeside 19 = .ok (.bipush 6, 2) := by decide +kernel
theorem dX12_areBeside_21 : decode cX12_areBeside 21 = .ok (.idiv, 1) := by decide +kernel
theorem dX12_areBeside_22 : decode cX12_areBeside 22 = .ok (.isub, 1) := by decide +kernel
theorem dX12_areBeside_23 : decode cX12_areBeside 23 = .ok (.invokevirtual 7, 3) := by decide +kernel
theorem dX12_areBeside_26 : decode cX12_areBeside 26 = .ok (.iadd, 1) := by decide +kernel
theorem dX12_areBeside_27 : decode cX12_areBeside 27 = .ok (.iconst 1, 1) := by decide +kernel
theorem dX12_areBeside_28 : decode cX12_areBeside 28 = .ok (.if_icmp .ne 7, 3) := by decide +kernel
theorem dX12_areBeside_31 : decode cX12_areBeside 31 = .ok (.iconst 1, 1) := by decide +kernel
theorem dX12_areBeside_32 : decode cX12_areBeside 32 = .ok (.goto 4, 3) := by decide +kernel
theorem dX12_areBeside_35 : decode cX12_areBeside 35 = .ok (.iconst 0, 1) := by decide +kernel
theorem dX12_areBeside_36 : decode cX12_areBeside 36 = .ok (.ireturn, 1) := by decide +kernel
set_option maxRecDepth 100000 in
set_option maxHeartbeats 4000000 in
theorem c_X12_areBeside {l : Launch} {K : KG} {ad : Nat → Nat → Nat} {fl : Nat} {a1 : Int32} {a2 : Int32} {M0 : Mem} {r9 : Int32} {M9 : Mem} (hf : f_X12_areBeside fl a1 a2 M0 = some (r9, M9)) : Met l yX12_areBeside (Cond.code yX12_areBeside cX12_areBeside 3 (some .boolean) :: ztb) (RM (2) 0 0) (zPc K LM ad M0 [.ref (ad 0 0), .int a1, .int a2]) (zQ K LM ad (some (.int r9)) M9) 0 0 (zA ad) := by
  refine z_enter (by decide) (Nat.le_of_ble_eq_true rfl) ?_
  intro p e s m args below meth c ls C hin hargs Z hl
  replace C : Cx p s m args meth c cX12_areBeside 3 "GlassPalaceModel" (some .boolean) := C
  replace hl : lv_has ls 3 [(0, .ref (ad 0 0)), (1, .int a1), (2, .int a2)] := hl
  have hR : 2 ≤ (RM (2) 0 0).frames ∧ 40 * (2) ≤ (RM (2) 0 0).locals := ⟨Nat.le_refl _, Nat.le_refl _⟩
  have hB : 0 ≤ (RM (2) 0 0).cells ∧ 0 ≤ (RM (2) 0 0).slots := ⟨Nat.zero_le _, Nat.zero_le _⟩
  unfold f_X12_areBeside at hf
  refine lv_aload_n C.x C.b dX12_areBeside_0 rfl (lv_at hl 0 rfl) ?_
  refine lv_iload_n C.x C.b dX12_areBeside_1 rfl (lv_at hl 1 rfl) ?_
  refine lv_bipush (v := 6) C.x C.b dX12_areBeside_2 (by decide) ?_
  refine z_irem C dX12_areBeside_4 (by decide) ?_
  refine lv_iload_n C.x C.b dX12_areBeside_5 rfl (lv_at hl 2 rfl) ?_
  refine lv_bipush (v := 6) C.x C.b dX12_areBeside_6 (by decide) ?_
  refine z_irem C dX12_areBeside_8 (by decide) ?_
  refine lv_isub C.x C.b dX12_areBeside_9 ?_
  replace hf := bn2_s hf; obtain ⟨v2, m1, hkm1, hf⟩ := hf
  refine z_cV (As := [.int ((jrem a1 6) - (jrem a2 6))]) (rest := []) (st1 := [.int v2]) C Z mw_X12_abs mv_X12_abs k_1629 (by decide) (z_hR hR (by decide)) (lvM0 Nat.zero_lt_one) kM0 zc12 (c_X12_abs (l := l) (K := K) (ad := ad) hkm1) rfl hl.1 rfl (Nat.le_of_ble_eq_true rfl) dX12_areBeside_10 hB rfl (fun H locs Z => ?_)
  refine lv_aload_n C.x C.b dX12_areBeside_13 rfl (lv_at hl 0 rfl) ?_
  refine lv_iload_n C.x C.b dX12_areBeside_14 rfl (lv_at hl 1 rfl) ?_
  refine lv_bipush (v := 6) C.x C.b dX12_areBeside_15 (by decide) ?_
  refine lv_idiv C.x C.b dX12_areBeside_17 (by decide) ?_
  refine lv_iload_n C.x C.b dX12_areBeside_18 rfl (lv_at hl 2 rfl) ?_
  refine lv_bipush (v := 6) C.x C.b dX12_areBeside_19 (by decide) ?_
  refine lv_idiv C.x C.b dX12_areBeside_21 (by decide) ?_
  refine lv_isub C.x C.b dX12_areBeside_22 ?_
  replace hf := bn2_s hf; obtain ⟨v4, m3, hkm3, hf⟩ := hf
  refine z_cV (As := [.int ((a1 / 6) - (a2 / 6))]) (rest := [.int v2]) (st1 := [.int v4, .int v2]) C Z mw_X12_abs mv_X12_abs k_1629 (by decide) (z_hR hR (by decide)) (lvM0 Nat.zero_lt_one) kM0 zc12 (c_X12_abs (l := l) (K := K) (ad := ad) hkm3) rfl hl.1 rfl (Nat.le_of_ble_eq_true rfl) dX12_areBeside_23 hB rfl (fun H locs Z => ?_)
  refine lv_iadd C.x C.b dX12_areBeside_26 ?_
  refine lv_iconst (v := 1) C.x C.b dX12_areBeside_27 (by decide) ?_
  refine lv_icmp_ne (tgt := 35) C.x C.b dX12_areBeside_28 (by decide) (fun hc5 => ?_) (fun hc5 => ?_)
  · replace hf := ite_f hf hc5
    refine lv_iconst (v := 0) C.x C.b dX12_areBeside_35 (by decide) ?_
    obtain ⟨rfl, rfl⟩ := pr_s hf
    exact z_zret C Z rfl dX12_areBeside_36
  · replace hf := ite_t hf hc5
    refine lv_iconst (v := 1) C.x C.b dX12_areBeside_31 (by decide) ?_
    refine lv_goto (tgt := 36) C.x C.b dX12_areBeside_32 (by decide) ?_
    obtain ⟨rfl, rfl⟩ := pr_s hf
    exact z_zret C Z rfl dX12_areBeside_36
theorem dX12_pass_0 : decode cX12_pass 0 = .ok (.aload_n 0, 1) := by decide +kernel
theorem dX12_pass_1 : decode cX12_pass 1 = .ok (.iload_n 1, 1) := by decide +kernel
theorem dX12_pass_2 : decode cX12_pass 2 = .ok (.iconst 1, 1) := by decide +kernel
theorem dX12_pass_3 : decode cX12_pass 3 = .ok (.bipush 50, 2) := by decide +kernel
theorem dX12_pass_5 : decode cX12_pass 5 = .ok (.invokevirtual 3, 3) := by decide +kernel
theorem dX12_pass_8 : decode cX12_pass 8 = .ok (.ifCond .eq 15, 3) := by decide +kernel
theorem dX12_pass_11 : decode cX12_pass 11 = .ok (.aload_n 0, 1) := by decide +kernel
theorem dX12_pass_12 : decode cX12_pass 12 = .ok (.getfield 17, 3) := by decide +kernel
theorem dX12_pass_15 : decode cX12_pass 15 = .ok (.iload_n 1, 1) := by decide +kernel
theorem dX12_pass_16 : decode cX12_pass 16 = .ok (.iadd, 1) := by decide +kernel
theorem dX12_pass_17 : decode cX12_pass 17 = .ok (.sipush 399, 3) := by decide +kernel
theorem dX12_pass_20 : decode cX12_pass 20 = .ok (.if_icmp .le 6, 3) := by decide +kernel
theorem dX12_pass_23 : decode cX12_pass 23 = .ok (.bipush (-2), 2) := by decide +kernel
theorem dX12_pass_25 : decode cX12_pass 25 = .ok (.ireturn, 1) := by decide +kernel
theorem dX12_pass_26 : decode cX12_pass 26 = .ok (.aload_n 0, 1) := by decide +kernel
theorem dX12_pass_27 : decode cX12_pass 27 = .ok (.dup, 1) := by decide +kernel
theorem dX12_pass_28 : decode cX12_pass 28 = .ok (.getfield 17, 3) := by decide +kernel
theorem dX12_pass_31 : decode cX12_pass 31 = .ok (.iload_n 1, 1) := by decide +kernel
theorem dX12_pass_32 : decode cX12_pass 32 = .ok (.iadd, 1) := by decide +kernel
theorem dX12_pass_33 : decode cX12_pass 33 = .ok (.putfield 17, 3) := by decide +kernel
theorem dX12_pass_36 : decode cX12_pass 36 = .ok (.iconst 0, 1) := by decide +kernel
theorem dX12_pass_37 : decode cX12_pass 37 = .ok (.istore_n 2, 1) := by decide +kernel
theorem dX12_pass_38 : decode cX12_pass 38 = .ok (.iload_n 2, 1) := by decide +kernel
theorem dX12_pass_39 : decode cX12_pass 39 = .ok (.aload_n 0, 1) := by decide +kernel
theorem dX12_pass_40 : decode cX12_pass 40 = .ok (.getfield 152, 3) := by decide +kernel
theorem dX12_pass_43 : decode cX12_pass 43 = .ok (.if_icmp .ge 16, 3) := by decide +kernel
theorem dX12_pass_46 : decode cX12_pass 46 = .ok (.aload_n 0, 1) := by decide +kernel
theorem dX12_pass_47 : decode cX12_pass 47 = .ok (.getfield 164, 3) := by decide +kernel
theorem dX12_pass_50 : decode cX12_pass 50 = .ok (.iload_n 2, 1) := by decide +kernel
theorem dX12_pass_51 : decode cX12_pass 51 = .ok (.iconst (-1), 1) := by decide +kernel
theorem dX12_pass_52 : decode cX12_pass 52 = .ok (.iastore, 1) := by decide +kernel
theorem dX12_pass_53 : decode cX12_pass 53 = .ok (.iinc 2 1, 3) := by decide +kernel
theorem dX12_pass_56 : decode cX12_pass 56 = .ok (.goto (-18), 3) := by decide +kernel
theorem dX12_pass_59 : decode cX12_pass 59 = .ok (.iconst 0, 1) := by decide +kernel
theorem dX12_pass_60 : decode cX12_pass 60 = .ok (.istore_n 2, 1) := by decide +kernel
theorem dX12_pass_61 : decode cX12_pass 61 = .ok (.iload_n 2, 1) := by decide +kernel
theorem dX12_pass_62 : decode cX12_pass 62 = .ok (.bipush 30, 2) := by decide +kernel
theorem dX12_pass_64 : decode cX12_pass 64 = .ok (.if_icmp .ge 23, 3) := by decide +kernel
theorem dX12_pass_67 : decode cX12_pass 67 = .ok (.aload_n 0, 1) := by decide +kernel
theorem dX12_pass_68 : decode cX12_pass 68 = .ok (.getfield 167, 3) := by decide +kernel
theorem dX12_pass_71 : decode cX12_pass 71 = .ok (.iload_n 2, 1) := by decide +kernel
theorem dX12_pass_72 : decode cX12_pass 72 = .ok (.iconst 0, 1) := by decide +kernel
theorem dX12_pass_73 : decode cX12_pass 73 = .ok (.bastore, 1) := by decide +kernel
theorem dX12_pass_74 : decode cX12_pass 74 = .ok (.aload_n 0, 1) := by decide +kernel
theorem dX12_pass_75 : decode cX12_pass 75 = .ok (.getfield 170, 3) := by decide +kernel
theorem dX12_pass_78 : decode cX12_pass 78 = .ok (.iload_n 2, 1) := by decide +kernel
theorem dX12_pass_79 : decode cX12_pass 79 = .ok (.iconst 0, 1) := by decide +kernel
theorem dX12_pass_80 : decode cX12_pass 80 = .ok (.bastore, 1) := by decide +kernel
theorem dX12_pass_81 : decode cX12_pass 81 = .ok (.iinc 2 1, 3) := by decide +kernel
theorem dX12_pass_84 : decode cX12_pass 84 = .ok (.goto (-23), 3) := by decide +kernel
theorem dX12_pass_87 : decode cX12_pass 87 = .ok (.aload_n 0, 1) := by decide +kernel
theorem dX12_pass_88 : decode cX12_pass 88 = .ok (.getfield 17, 3) := by decide +kernel
theorem dX12_pass_91 : decode cX12_pass 91 = .ok (.ireturn, 1) := by decide +kernel
set_option maxRecDepth 100000 in
set_option maxHeartbeats 4000000 in
theorem w_X12_pass_l38 {p : Program} {l : Launch} {e : Env} {R : Room} {s : State} {m : MethodId} {args : Array Value} {below : List Frame} {meth : Method} {c : Code} {cells slots : Nat} {Q : State → Prop} {K : KG} {ad : Nat → Nat → Nat} {fl : Nat} (C : Cx p s m args meth c cX12_pass 3 "GlassPalaceModel" (some .int)) (hR : 2 ≤ R.frames ∧ 40 * (2) ≤ R.locals) (hB : cells ≤ R.cells ∧ slots ≤ R.slots) : ∀ (n : Nat) (u2 : Int32) (M0 : Mem) (H : Heap) (locs : List Loc) (ls : Array Slot), Zd K LM ad M0 s H locs → lv_has ls 3 [(0, .ref (ad 0 0)), (2, .int u2)] → ∀ (Mq : Mem), f_X12_pass_l38 fl  n u2 M0 = some Mq → (∀ (H : Heap) (locs : List Loc) (ls : Array Slot), Zd K LM ad Mq s H locs → lv_has ls 3 [(0, .ref (ad 0 0))] → W p l e R s m args below meth c H locs cells slots Q (F0 m 59 ls [])) → W p l e R s m args below meth c H locs cells slots Q (F0 m 38 ls []) := by
  intro n
  induction n with
  | zero =>
    intro u2 M0 H locs ls Z hl Mq hf
    have hf : (none : Option (Mem)) = some Mq := hf
    cases hf
  | succ n ih =>
    intro u2 M0 H locs ls Z hl Mq hf kx0
    replace hf : f_X12_pass_l38_b (f_X12_pass_l38 fl  n) fl  u2 M0 = some Mq := hf
    unfold f_X12_pass_l38_b at hf
    refine lv_iload_n C.x C.b dX12_pass_38 rfl (lv_at hl 1 rfl) ?_
    refine lv_aload_n C.x C.b dX12_pass_39 rfl (lv_at hl 0 rfl) ?_
    refine z_get C Z (lvM0 Nat.zero_lt_one) kM0 zc12 zin12 44 (by decide) k_1220 rfl svM0_44 dX12_pass_40 ?_
    refine lv_icmp_ge (tgt := 59) C.x C.b dX12_pass_43 (by decide) (fun hc6 => ?_) (fun hc6 => ?_)
    · replace hf := ite_t hf hc6
      obtain rfl := sm_s hf
      exact kx0 _ _ _ Z (lv_sub hl [0] rfl)
    · replace hf := ite_f hf hc6
      refine lv_aload_n C.x C.b dX12_pass_46 rfl (lv_at hl 0 rfl) ?_
      refine z_get C Z (lvM0 Nat.zero_lt_one) kM0 zc12 zin12 48 (by decide) k_1224 rfl svM0_48 dX12_pass_47 ?_
      refine lv_iload_n C.x C.b dX12_pass_50 rfl (lv_at hl 1 rfl) ?_
      refine lv_iconst (v := (-1)) C.x C.b dX12_pass_51 (by decide) ?_
      replace hf := asr_s hf; obtain ⟨hq7, hf⟩ := hf
      replace hf := lt1_s hf; obtain ⟨m8, em8, hf⟩ := hf
      refine z_iast (M1 := m8) C Z (lvM35 Nat.zero_lt_one) (by decide) kM35 hq7 em8 stM35u dX12_pass_52 (fun H locs Z => ?_)
      replace hf := lt1_s hf; obtain ⟨x9, ex9, hf⟩ := hf
      refine z_iinc (v := x9) (lv' := [(2, .int x9), (0, .ref (ad 0 0))]) C dX12_pass_53 hl (k := 1) rfl (by rw [ex9]; rfl) (by decide) rfl (nolast rfl) (fun ls hl => ?_)
      refine lv_goto (tgt := 38) C.x C.b dX12_pass_56 (by decide) ?_
      exact ih _ _ _ _ _ Z (lv_sub hl [1, 0] rfl) _ hf kx0
set_option maxRecDepth 100000 in
set_option maxHeartbeats 4000000 in
theorem w_X12_pass_l61 {p : Program} {l : Launch} {e : Env} {R : Room} {s : State} {m : MethodId} {args : Array Value} {below : List Frame} {meth : Method} {c : Code} {cells slots : Nat} {Q : State → Prop} {K : KG} {ad : Nat → Nat → Nat} {fl : Nat} (C : Cx p s m args meth c cX12_pass 3 "GlassPalaceModel" (some .int)) (hR : 2 ≤ R.frames ∧ 40 * (2) ≤ R.locals) (hB : cells ≤ R.cells ∧ slots ≤ R.slots) : ∀ (n : Nat) (u2 : Int32) (M0 : Mem) (H : Heap) (locs : List Loc) (ls : Array Slot), Zd K LM ad M0 s H locs → lv_has ls 3 [(0, .ref (ad 0 0)), (2, .int u2)] → ∀ (Mq : Mem), f_X12_pass_l61 fl  n u2 M0 = some Mq → (∀ (H : Heap) (locs : List Loc) (ls : Array Slot), Zd K LM ad Mq s H locs → lv_has ls 3 [(0, .ref (ad 0 0))] → W p l e R s m args below meth c H locs cells slots Q (F0 m 87 ls [])) → W p l e R s m args below meth c H locs cells slots Q (F0 m 61 ls []) := by
  intro n
  induction n with
  | zero =>
    intro u2 M0 H locs ls Z hl Mq hf
    have hf : (none : Option (Mem)) = some Mq := hf
    cases hf
  | succ n ih =>
    intro u2 M0 H locs ls Z hl Mq hf kx0
    replace hf : f_X12_pass_l61_b (f_X12_pass_l61 fl  n) fl  u2 M0 = some Mq := hf
    unfold f_X12_pass_l61_b at hf
    refine lv_iload_n C.x C.b dX12_pass_61 rfl (lv_at hl 1 rfl) ?_
    refine lv_bipush (v := 30) C.x C.b dX12_pass_62 (by decide) ?_
    refine lv_icmp_ge (tgt := 87) C.x C.b dX12_pass_64 (by decide) (fun hc12 => ?_) (fun hc12 => ?_)
    · replace hf := ite_t hf hc12
      obtain rfl := sm_s hf
      exact kx0 _ _ _ Z (lv_sub hl [0] rfl)
    · replace hf := ite_f hf hc12
      refine lv_aload_n C.x C.b dX12_pass_67 rfl (lv_at hl 0 rfl) ?_
      refine z_get C Z (lvM0 Nat.zero_lt_one) kM0 zc12 zin12 49 (by decide) k_1225 rfl svM0_49 dX12_pass_68 ?_
      refine lv_iload_n C.x C.b dX12_pass_71 rfl (lv_at hl 1 rfl) ?_
      refine lv_iconst (v := 0) C.x C.b dX12_pass_72 (by decide) ?_
      replace hf := asr_s hf; obtain ⟨hq13, hf⟩ := hf
      replace hf := lt1_s hf; obtain ⟨m14, em14, hf⟩ := hf
      refine z_zast (M1 := m14) C Z (lvM36 Nat.zero_lt_one) (by decide) kM36 hq13 em14 stM36u dX12_pass_73 (fun H locs Z => ?_)
      refine lv_aload_n C.x C.b dX12_pass_74 rfl (lv_at hl 0 rfl) ?_
      refine z_get C Z (lvM0 Nat.zero_lt_one) kM0 zc12 zin12 50 (by decide) k_1226 rfl svM0_50 dX12_pass_75 ?_
      refine lv_iload_n C.x C.b dX12_pass_78 rfl (lv_at hl 1 rfl) ?_
      refine lv_iconst (v := 0) C.x C.b dX12_pass_79 (by decide) ?_
      replace hf := asr_s hf; obtain ⟨hq15, hf⟩ := hf
      replace hf := lt1_s hf; obtain ⟨m16, em16, hf⟩ := hf
      refine z_zast (M1 := m16) C Z (lvM37 Nat.zero_lt_one) (by decide) kM37 hq15 em16 stM37u dX12_pass_80 (fun H locs Z => ?_)
      replace hf := lt1_s hf; obtain ⟨x17, ex17, hf⟩ := hf
      refine z_iinc (v := x17) (lv' := [(2, .int x17), (0, .ref (ad 0 0))]) C dX12_pass_81 hl (k := 1) rfl (by rw [ex17]; rfl) (by decide) rfl (nolast rfl) (fun ls hl => ?_)
      refine lv_goto (tgt := 61) C.x C.b dX12_pass_84 (by decide) ?_
      exact ih _ _ _ _ _ Z (lv_sub hl [1, 0] rfl) _ hf kx0
set_option maxRecDepth 100000 in
set_option maxHeartbeats 4000000 in
theorem c_X12_pass {l : Launch} {K : KG} {ad : Nat → Nat → Nat} {fl : Nat} {a1 : Int32} {M0 : Mem} {r9 : Int32} {M9 : Mem} (hf : f_X12_pass fl a1 M0 = some (r9, M9)) : Met l yX12_pass (Cond.code yX12_pass cX12_pass 3 (some .int) :: ztb) (RM (2) 0 0) (zPc K LM ad M0 [.ref (ad 0 0), .int a1]) (zQ K LM ad (some (.int r9)) M9) 0 0 (zA ad) := by
  refine z_enter (by decide) (Nat.le_of_ble_eq_true rfl) ?_
  intro p e s m args below meth c ls C hin hargs Z hl
  replace C : Cx p s m args meth c cX12_pass 3 "GlassPalaceModel" (some .int) := C
  replace hl : lv_has ls 3 [(0, .ref (ad 0 0)), (1, .int a1)] := hl
  have hR : 2 ≤ (RM (2) 0 0).frames ∧ 40 * (2) ≤ (RM (2) 0 0).locals := ⟨Nat.le_refl _, Nat.le_refl _⟩
  have hB : 0 ≤ (RM (2) 0 0).cells ∧ 0 ≤ (RM (2) 0 0).slots := ⟨Nat.zero_le _, Nat.zero_le _⟩
  unfold f_X12_pass at hf
  refine lv_aload_n C.x C.b dX12_pass_0 rfl (lv_at hl 0 rfl) ?_
  refine lv_iload_n C.x C.b dX12_pass_1 rfl (lv_at hl 1 rfl) ?_
  refine lv_iconst (v := 1) C.x C.b dX12_pass_2 (by decide) ?_
  refine lv_bipush (v := 50) C.x C.b dX12_pass_3 (by decide) ?_
  replace hf := bn2_s hf; obtain ⟨v2, m1, hkm1, hf⟩ := hf
  refine z_cV (As := [.int a1, .int 1, .int 50]) (rest := []) (st1 := [.int v2]) C Z mw_X12_in mv_X12_in k_1398 (by decide) (z_hR hR (by decide)) (lvM0 Nat.zero_lt_one) kM0 zc12 (c_X12_in (l := l) (K := K) (ad := ad) hkm1) rfl hl.1 rfl (Nat.le_of_ble_eq_true rfl) dX12_pass_5 hB rfl (fun H locs Z => ?_)
  refine lv_if_eq (tgt := 23) C.x C.b dX12_pass_8 (by decide) (fun hc3 => ?_) (fun hc3 => ?_)
  · replace hf := ite_t hf hc3
    refine lv_bipush (v := (-2)) C.x C.b dX12_pass_23 (by decide) ?_
    obtain ⟨rfl, rfl⟩ := pr_s hf
    exact z_iret C Z dX12_pass_25
  · replace hf := ite_f hf hc3
    refine lv_aload_n C.x C.b dX12_pass_11 rfl (lv_at hl 0 rfl) ?_
    refine z_get C Z (lvM0 Nat.zero_lt_one) kM0 zc12 zin12 0 (by decide) k_1176 rfl svM0_0 dX12_pass_12 ?_
    refine lv_iload_n C.x C.b dX12_pass_15 rfl (lv_at hl 1 rfl) ?_
    refine lv_iadd C.x C.b dX12_pass_16 ?_
    refine lv_sipush (v := 399) C.x C.b dX12_pass_17 (by decide) ?_
    refine lv_icmp_le (tgt := 26) C.x C.b dX12_pass_20 (by decide) (fun hc4 => ?_) (fun hc4 => ?_)
    · replace hf := ite_t hf hc4
      refine lv_aload_n C.x C.b dX12_pass_26 rfl (lv_at hl 0 rfl) ?_
      refine lv_dup C.x C.b dX12_pass_27 rfl ?_
      refine z_get C Z (lvM0 Nat.zero_lt_one) kM0 zc12 zin12 0 (by decide) k_1176 rfl svM0_0 dX12_pass_28 ?_
      refine lv_iload_n C.x C.b dX12_pass_31 rfl (lv_at hl 1 rfl) ?_
      refine lv_iadd C.x C.b dX12_pass_32 ?_
      replace hf := lt1_s hf; obtain ⟨m5, em5, hf⟩ := hf
      refine z_put (M1 := m5) C Z (lvM0 Nat.zero_lt_one) (by decide) kM0 zc12 zin12 tyX12_ok nmX12 0 (by decide) k_1176 rfl (zUp_I em5 stM0_0u) (Or.inl rfl) rfl rfl dX12_pass_33 (fun H locs Z => ?_)
      refine lv_iconst (v := 0) C.x C.b dX12_pass_36 (by decide) ?_
      refine z_istore_n (lv' := [(2, .int 0), (0, .ref (ad 0 0)), (1, .int a1)]) C dX12_pass_37 rfl hl (by decide) rfl (onlast 1 rfl rfl rfl) (fun ls hl => ?_)
      replace hf := bn1_s hf; obtain ⟨m11, hq10, hf⟩ := hf
      refine w_X12_pass_l38 C hR hB  fl _ _ _ _ _ Z (lv_sub hl [1, 0] rfl) _ hq10 (fun H locs ls Z hl => ?_)
      refine lv_iconst (v := 0) C.x C.b dX12_pass_59 (by decide) ?_
      refine z_istore_n (lv' := [(2, .int 0), (0, .ref (ad 0 0))]) C dX12_pass_60 rfl hl (by decide) rfl (nolast rfl) (fun ls hl => ?_)
      replace hf := bn1_s hf; obtain ⟨m19, hq18, hf⟩ := hf
      refine w_X12_pass_l61 C hR hB  fl _ _ _ _ _ Z (lv_sub hl [1, 0] rfl) _ hq18 (fun H locs ls Z hl => ?_)
      refine lv_aload_n C.x C.b dX12_pass_87 rfl (lv_at hl 0 rfl) ?_
      refine z_get C Z (lvM0 Nat.zero_lt_one) kM0 zc12 zin12 0 (by decide) k_1176 rfl svM0_0 dX12_pass_88 ?_
      obtain ⟨rfl, rfl⟩ := pr_s hf
      exact z_iret C Z dX12_pass_91
    · replace hf := ite_f hf hc4
      refine lv_bipush (v := (-2)) C.x C.b dX12_pass_23 (by decide) ?_
      obtain ⟨rfl, rfl⟩ := pr_s hf
      exact z_iret C Z dX12_pass_25
theorem dX12_has_0 : decode cX12_has 0 = .ok (.iload_n 2, 1) := by decide +kernel
theorem dX12_has_1 : decode cX12_has 1 = .ok (.iconst 3, 1) := by decide +kernel
theorem dX12_has_2 : decode cX12_has 2 = .ok (.if_icmp .ne 20, 3) := by decide +kernel
theorem dX12_has_5 : decode cX12_has 5 = .ok (.aload_n 0, 1) := by decide +kernel
theorem dX12_has_6 : decode cX12_has 6 = .ok (.getfield 71, 3) := by decide +kernel
theorem dX12_has_9 : decode cX12_has 9 = .ok (.iload_n 1, 1) := by decide +kernel
theorem dX12_has_10 : decode cX12_has 10 = .ok (.iaload, 1) := by decide +kernel
theorem dX12_has_11 : decode cX12_has 11 = .ok (.ifCond .le 7, 3) := by decide +kernel
theorem dX12_has_14 : decode cX12_has 14 = .ok (.iconst 1, 1) := by decide +kernel
theorem dX12_has_15 : decode cX12_has 15 = .ok (.goto 27, 3) := by decide +kernel
theorem dX12_has_18 : decode cX12_has 18 = .ok (.iconst 0, 1) := by decide +kernel
theorem dX12_has_19 : decode cX12_has 19 = .ok (.goto 23, 3) := by decide +kernel
theorem dX12_has_22 : decode cX12_has 22 = .ok (.aload_n 0, 1) := by decide +kernel
theorem dX12_has_23 : decode cX12_has 23 = .ok (.getfield 68, 3) := by decide +kernel
theorem dX12_has_26 : decode cX12_has 26 = .ok (.iconst 5, 1) := by decide +kernel
theorem dX12_has_27 : decode cX12_has 27 = .ok (.iload_n 1, 1) := by decide +kernel
theorem dX12_has_28 : decode cX12_has 28 = .ok (.imul, 1) := by decide +kernel
theorem dX12_has_29 : decode cX12_has 29 = .ok (.iload_n 2, 1) := by decide +kernel
theorem dX12_has_30 : decode cX12_has 30 = .ok (.iadd, 1) := by decide +kernel
theorem dX12_has_31 : decode cX12_has 31 = .ok (.iconst 1, 1) := by decide +kernel
theorem dX12_has_32 : decode cX12_has 32 = .ok (.isub, 1) := by decide +kernel
theorem dX12_has_33 : decode cX12_has 33 = .ok (.iaload, 1) := by decide +kernel
theorem dX12_has_34 : decode cX12_has 34 = .ok (.ifCond .lt 7, 3) := by decide +kernel
theorem dX12_has_37 : decode cX12_has 37 = .ok (.iconst 1, 1) := by decide +kernel
theorem dX12_has_38 : decode cX12_has 38 = .ok (.goto 4, 3) := by decide +kernel
theorem dX12_has_41 : decode cX12_has 41 = .ok (.iconst 0, 1) := by decide +kernel
theorem dX12_has_42 : decode cX12_has 42 = .ok (.ireturn, 1) := by decide +kernel
set_option maxRecDepth 100000 in
set_option maxHeartbeats 4000000 in
theorem c_X12_has {l : Launch} {K : KG} {ad : Nat → Nat → Nat} {fl : Nat} {a1 : Int32} {a2 : Int32} {M0 : Mem} {r9 : Int32} {M9 : Mem} (hf : f_X12_has fl a1 a2 M0 = some (r9, M9)) : Met l yX12_has (Cond.code yX12_has cX12_has 3 (some .boolean) :: ztb) (RM (1) 0 0) (zPc K LM ad M0 [.ref (ad 0 0), .int a1, .int a2]) (zQ K LM ad (some (.int r9)) M9) 0 0 (zA ad) := by
  refine z_enter (by decide) (Nat.le_of_ble_eq_true rfl) ?_
  intro p e s m args below meth c ls C hin hargs Z hl
  replace C : Cx p s m args meth c cX12_has 3 "GlassPalaceModel" (some .boolean) := C
  replace hl : lv_has ls 3 [(0, .ref (ad 0 0)), (1, .int a1), (2, .int a2)] := hl
  have hR : 1 ≤ (RM (1) 0 0).frames ∧ 40 * (1) ≤ (RM (1) 0 0).locals := ⟨Nat.le_refl _, Nat.le_refl _⟩
  have hB : 0 ≤ (RM (1) 0 0).cells ∧ 0 ≤ (RM (1) 0 0).slots := ⟨Nat.zero_le _, Nat.zero_le _⟩
  unfold f_X12_has at hf
  refine lv_iload_n C.x C.b dX12_has_0 rfl (lv_at hl 2 rfl) ?_
  refine lv_iconst (v := 3) C.x C.b dX12_has_1 (by decide) ?_
  refine lv_icmp_ne (tgt := 22) C.x C.b dX12_has_2 (by decide) (fun hc1 => ?_) (fun hc1 => ?_)
  · replace hf := ite_f hf hc1
    refine lv_aload_n C.x C.b dX12_has_22 rfl (lv_at hl 0 rfl) ?_
    refine z_get C Z (lvM0 Nat.zero_lt_one) kM0 zc12 zin12 16 (by decide) k_1192 rfl svM0_16 dX12_has_23 ?_
    refine lv_iconst (v := 5) C.x C.b dX12_has_26 (by decide) ?_
    refine lv_iload_n C.x C.b dX12_has_27 rfl (lv_at hl 1 rfl) ?_
    refine lv_imul C.x C.b dX12_has_28 ?_
    refine lv_iload_n C.x C.b dX12_has_29 rfl (lv_at hl 2 rfl) ?_
    refine lv_iadd C.x C.b dX12_has_30 ?_
    refine lv_iconst (v := 1) C.x C.b dX12_has_31 (by decide) ?_
    refine lv_isub C.x C.b dX12_has_32 ?_
    replace hf := asr_s hf; obtain ⟨hq2, hf⟩ := hf
    refine z_iald C Z (lvM14 Nat.zero_lt_one) kM14 hq2 svM14 dX12_has_33 ?_
    refine lv_if_lt (tgt := 41) C.x C.b dX12_has_34 (by decide) (fun hc3 => ?_) (fun hc3 => ?_)
    · replace hf := ite_t hf hc3
      refine lv_iconst (v := 0) C.x C.b dX12_has_41 (by decide) ?_
      obtain ⟨rfl, rfl⟩ := pr_s hf
      exact z_zret C Z rfl dX12_has_42
    · replace hf := ite_f hf hc3
      refine lv_iconst (v := 1) C.x C.b dX12_has_37 (by decide) ?_
      refine lv_goto (tgt := 42) C.x C.b dX12_has_38 (by decide) ?_
      obtain ⟨rfl, rfl⟩ := pr_s hf
      exact z_zret C Z rfl dX12_has_42
  · replace hf := ite_t hf hc1
    refine lv_aload_n C.x C.b dX12_has_5 rfl (lv_at hl 0 rfl) ?_
    refine z_get C Z (lvM0 Nat.zero_lt_one) kM0 zc12 zin12 17 (by decide) k_1193 rfl svM0_17 dX12_has_6 ?_
    refine lv_iload_n C.x C.b dX12_has_9 rfl (lv_at hl 1 rfl) ?_
    replace hf := asr_s hf; obtain ⟨hq4, hf⟩ := hf
    refine z_iald C Z (lvM15 Nat.zero_lt_one) kM15 hq4 svM15 dX12_has_10 ?_
    refine lv_if_le (tgt := 18) C.x C.b dX12_has_11 (by decide) (fun hc5 => ?_) (fun hc5 => ?_)
    · replace hf := ite_t hf hc5
      refine lv_iconst (v := 0) C.x C.b dX12_has_18 (by decide) ?_
      refine lv_goto (tgt := 42) C.x C.b dX12_has_19 (by decide) ?_
      obtain ⟨rfl, rfl⟩ := pr_s hf
      exact z_zret C Z rfl dX12_has_42
    · replace hf := ite_f hf hc5
      refine lv_iconst (v := 1) C.x C.b dX12_has_14 (by decide) ?_
      refine lv_goto (tgt := 42) C.x C.b dX12_has_15 (by decide) ?_
      obtain ⟨rfl, rfl⟩ := pr_s hf
      exact z_zret C Z rfl dX12_has_42
theorem dX12_isEmpty_0 : decode cX12_isEmpty 0 = .ok (.iconst 1, 1) := by decide +kernel
theorem dX12_isEmpty_1 : decode cX12_isEmpty 1 = .ok (.istore_n 2, 1) := by decide +kernel
theorem dX12_isEmpty_2 : decode cX12_isEmpty 2 = .ok (.iload_n 2, 1) := by decide +kernel
theorem dX12_isEmpty_3 : decode cX12_isEmpty 3 = .ok (.bipush 6, 2) := by decide +kernel
theorem dX12_isEmpty_5 : decode cX12_isEmpty 5 = .ok (.if_icmp .ge 20, 3) := by decide +kernel
theorem dX12_isEmpty_8 : decode cX12_isEmpty 8 = .ok (.aload_n 0, 1) := by decide +kernel
theorem dX12_isEmpty_9 : decode cX12_isEmpty 9 = .ok (.iload_n 1, 1) := by decide +kernel
theorem dX12_isEmpty_10 : decode cX12_isEmpty 10 = .ok (.iload_n 2, 1) := by decide +kernel
theorem dX12_isEmpty_11 : decode cX12_isEmpty 11 = .ok (.invokevirtual 237, 3) := by decide +kernel
theorem dX12_isEmpty_14 : decode cX12_isEmpty 14 = .ok (.ifCond .eq 5, 3) := by decide +kernel
theorem dX12_isEmpty_17 : decode cX12_isEmpty 17 = .ok (.iconst 0, 1) := by decide +kernel
theorem dX12_isEmpty_18 : decode cX12_isEmpty 18 = .ok (.ireturn, 1) := by decide +kernel
theorem dX12_isEmpty_19 : decode cX12_isEmpty 19 = .ok (.iinc 2 1, 3) := by decide +kernel
theorem dX12_isEmpty_22 : decode cX12_isEmpty 22 = .ok (.goto (-20), 3) := by decide +kernel
theorem dX12_isEmpty_25 : decode cX12_isEmpty 25 = .ok (.iconst 1, 1) := by decide +kernel
theorem dX12_isEmpty_26 : decode cX12_isEmpty 26 = .ok (.ireturn, 1) := by decide +kernel
set_option maxRecDepth 100000 in
set_option maxHeartbeats 4000000 in
theorem w_X12_isEmpty_l2 {p : Program} {l : Launch} {e : Env} {R : Room} {s : State} {m : MethodId} {args : Array Value} {below : List Frame} {meth : Method} {c : Code} {cells slots : Nat} {Q : State → Prop} {K : KG} {ad : Nat → Nat → Nat} {fl : Nat} {g1 : Int32} (C : Cx p s m args meth c cX12_isEmpty 3 "GlassPalaceModel" (some .boolean)) (hR : 2 ≤ R.frames ∧ 40 * (2) ≤ R.locals) (hB : cells ≤ R.cells ∧ slots ≤ R.slots) : ∀ (n : Nat) (u2 : Int32) (M0 : Mem) (H : Heap) (locs : List Loc) (ls : Array Slot), Zd K LM ad M0 s H locs → lv_has ls 3 [(0, .ref (ad 0 0)), (1, .int g1), (2, .int u2)] → ∀ (q : Nat) (Mq : Mem), f_X12_isEmpty_l2 fl g1 n u2 M0 = some (q, Mq) → (q = 0 → ∀ (H : Heap) (locs : List Loc) (ls : Array Slot), Zd K LM ad Mq s H locs → lv_has ls 3 [] → W p l e R s m args below meth c H locs cells slots Q (F0 m 17 ls [])) → (q = 1 → ∀ (H : Heap) (locs : List Loc) (ls : Array Slot), Zd K LM ad Mq s H locs → lv_has ls 3 [] → W p l e R s m args below meth c H locs cells slots Q (F0 m 25 ls [])) → W p l e R s m args below meth c H locs cells slots Q (F0 m 2 ls []) := by
  intro n
  induction n with
  | zero =>
    intro u2 M0 H locs ls Z hl q Mq hf
    have hf : (none : Option (Nat × Mem)) = some (q, Mq) := hf
    cases hf
  | succ n ih =>
    intro u2 M0 H locs ls Z hl q Mq hf kx0 kx1
    replace hf : f_X12_isEmpty_l2_b (f_X12_isEmpty_l2 fl g1 n) fl g1 u2 M0 = some (q, Mq) := hf
    unfold f_X12_isEmpty_l2_b at hf
    refine lv_iload_n C.x C.b dX12_isEmpty_2 rfl (lv_at hl 2 rfl) ?_
    refine lv_bipush (v := 6) C.x C.b dX12_isEmpty_3 (by decide) ?_
    refine lv_icmp_ge (tgt := 25) C.x C.b dX12_isEmpty_5 (by decide) (fun hc1 => ?_) (fun hc1 => ?_)
    · replace hf := ite_t hf hc1
      obtain ⟨rfl, rfl⟩ := pr_s hf
      exact kx1 rfl _ _ _ Z (lv_sub hl [] rfl)
    · replace hf := ite_f hf hc1
      refine lv_aload_n C.x C.b dX12_isEmpty_8 rfl (lv_at hl 0 rfl) ?_
      refine lv_iload_n C.x C.b dX12_isEmpty_9 rfl (lv_at hl 1 rfl) ?_
      refine lv_iload_n C.x C.b dX12_isEmpty_10 rfl (lv_at hl 2 rfl) ?_
      replace hf := bn2_s hf; obtain ⟨v3, m2, hkm2, hf⟩ := hf
      refine z_cV (As := [.int g1, .int u2]) (rest := []) (st1 := [.int v3]) C Z mw_X12_has mv_X12_has k_1414 (by decide) (z_hR hR (by decide)) (lvM0 Nat.zero_lt_one) kM0 zc12 (c_X12_has (l := l) (K := K) (ad := ad) hkm2) rfl hl.1 rfl (Nat.le_of_ble_eq_true rfl) dX12_isEmpty_11 hB rfl (fun H locs Z => ?_)
      refine lv_if_eq (tgt := 19) C.x C.b dX12_isEmpty_14 (by decide) (fun hc4 => ?_) (fun hc4 => ?_)
      · replace hf := ite_t hf hc4
        replace hf := lt1_s hf; obtain ⟨x5, ex5, hf⟩ := hf
        refine z_iinc (v := x5) (lv' := [(2, .int x5), (0, .ref (ad 0 0)), (1, .int g1)]) C dX12_isEmpty_19 hl (k := 2) rfl (by rw [ex5]; rfl) (by decide) rfl (onlast 1 rfl rfl rfl) (fun ls hl => ?_)
        refine lv_goto (tgt := 2) C.x C.b dX12_isEmpty_22 (by decide) ?_
        exact ih _ _ _ _ _ Z (lv_sub hl [1, 2, 0] rfl) _ _ hf kx0 kx1
      · replace hf := ite_f hf hc4
        obtain ⟨rfl, rfl⟩ := pr_s hf
        exact kx0 rfl _ _ _ Z (lv_sub hl [] rfl)
set_option maxRecDepth 100000 in
set_option maxHeartbeats 4000000 in
theorem c_X12_isEmpty {l : Launch} {K : KG} {ad : Nat → Nat → Nat} {fl : Nat} {a1 : Int32} {M0 : Mem} {r9 : Int32} {M9 : Mem} (hf : f_X12_isEmpty fl a1 M0 = some (r9, M9)) : Met l yX12_isEmpty (Cond.code yX12_isEmpty cX12_isEmpty 3 (some .boolean) :: ztb) (RM (2) 0 0) (zPc K LM ad M0 [.ref (ad 0 0), .int a1]) (zQ K LM ad (some (.int r9)) M9) 0 0 (zA ad) := by
  refine z_enter (by decide) (Nat.le_of_ble_eq_true rfl) ?_
  intro p e s m args below meth c ls C hin hargs Z hl
  replace C : Cx p s m args meth c cX12_isEmpty 3 "GlassPalaceModel" (some .boolean) := C
  replace hl : lv_has ls 3 [(0, .ref (ad 0 0)), (1, .int a1)] := hl
  have hR : 2 ≤ (RM (2) 0 0).frames ∧ 40 * (2) ≤ (RM (2) 0 0).locals := ⟨Nat.le_refl _, Nat.le_refl _⟩
  have hB : 0 ≤ (RM (2) 0 0).cells ∧ 0 ≤ (RM (2) 0 0).slots := ⟨Nat.zero_le _, Nat.zero_le _⟩
  unfold f_X12_isEmpty at hf
  refine lv_iconst (v := 1) C.x C.b dX12_isEmpty_0 (by decide) ?_
  refine z_istore_n (lv' := [(2, .int 1), (0, .ref (ad 0 0)), (1, .int a1)]) C dX12_isEmpty_1 rfl hl (by decide) rfl (onlast 1 rfl rfl rfl) (fun ls hl => ?_)
  replace hf := bn2_s hf; obtain ⟨q6, m7, hq6, hf⟩ := hf
  refine w_X12_isEmpty_l2 C hR hB  fl _ _ _ _ _ Z (lv_sub hl [1, 2, 0] rfl) _ _ hq6 (fun ht H locs ls Z hl => ?_) (fun ht H locs ls Z hl => ?_)
  · replace hf := ite_t hf ht
    refine lv_iconst (v := 0) C.x C.b dX12_isEmpty_17 (by decide) ?_
    obtain ⟨rfl, rfl⟩ := pr_s hf
    exact z_zret C Z rfl dX12_isEmpty_18
  · replace hf := ite_f hf (by rw [ht]; decide)
    refine lv_iconst (v := 1) C.x C.b dX12_isEmpty_25 (by decide) ?_
    obtain ⟨rfl, rfl⟩ := pr_s hf
    exact z_zret C Z rfl dX12_isEmpty_26
theorem dX12_bay_0 : decode cX12_bay 0 = .ok (.aload_n 0, 1) := by decide +kernel
theorem dX12_bay_1 : decode cX12_bay 1 = .ok (.iload_n 1, 1) := by decide +kernel
theorem dX12_bay_2 : decode cX12_bay 2 = .ok (.invokevirtual 241, 3) := by decide +kernel
theorem dX12_bay_5 : decode cX12_bay 5 = .ok (.ifCond .eq 13, 3) := by decide +kernel
theorem dX12_bay_8 : decode cX12_bay 8 = .ok (.aload_n 0, 1) := by decide +kernel
theorem dX12_bay_9 : decode cX12_bay 9 = .ok (.iload_n 2, 1) := by decide +kernel
theorem dX12_bay_10 : decode cX12_bay 10 = .ok (.iconst 0, 1) := by decide +kernel
theorem dX12_bay_11 : decode cX12_bay 11 = .ok (.iconst 1, 1) := by decide +kernel
theorem dX12_bay_12 : decode cX12_bay 12 = .ok (.invokevirtual 3, 3) := by decide +kernel
theorem dX12_bay_15 : decode cX12_bay 15 = .ok (.ifCond .ne 5, 3) := by decide +kernel
theorem dX12_bay_18 : decode cX12_bay 18 = .ok (.iconst (-1), 1) := by decide +kernel
theorem dX12_bay_19 : decode cX12_bay 19 = .ok (.ireturn, 1) := by decide +kernel
theorem dX12_bay_20 : decode cX12_bay 20 = .ok (.aload_n 0, 1) := by decide +kernel
theorem dX12_bay_21 : decode cX12_bay 21 = .ok (.iload_n 3, 1) := by decide +kernel
theorem dX12_bay_22 : decode cX12_bay 22 = .ok (.iconst 0, 1) := by decide +kernel
theorem dX12_bay_23 : decode cX12_bay 23 = .ok (.iload_n 2, 1) := by decide +kernel
theorem dX12_bay_24 : decode cX12_bay 24 = .ok (.ifCond .ne 8, 3) := by decide +kernel
theorem dX12_bay_27 : decode cX12_bay 27 = .ok (.bipush 20, 2) := by decide +kernel
theorem dX12_bay_29 : decode cX12_bay 29 = .ok (.goto 5, 3) := by decide +kernel
theorem dX12_bay_32 : decode cX12_bay 32 = .ok (.bipush 60, 2) := by decide +kernel
theorem dX12_bay_34 : decode cX12_bay 34 = .ok (.invokevirtual 3, 3) := by decide +kernel
theorem dX12_bay_37 : decode cX12_bay 37 = .ok (.ifCond .ne 6, 3) := by decide +kernel
theorem dX12_bay_40 : decode cX12_bay 40 = .ok (.bipush (-2), 2) := by decide +kernel
theorem dX12_bay_42 : decode cX12_bay 42 = .ok (.ireturn, 1) := by decide +kernel
theorem dX12_bay_43 : decode cX12_bay 43 = .ok (.aload_n 0, 1) := by decide +kernel
theorem dX12_bay_44 : decode cX12_bay 44 = .ok (.iload_n 1, 1) := by decide +kernel
theorem dX12_bay_45 : decode cX12_bay 45 = .ok (.invokevirtual 245, 3) := by decide +kernel
theorem dX12_bay_48 : decode cX12_bay 48 = .ok (.ifCond .ne 6, 3) := by decide +kernel
theorem dX12_bay_51 : decode cX12_bay 51 = .ok (.bipush (-3), 2) := by decide +kernel
theorem dX12_bay_53 : decode cX12_bay 53 = .ok (.ireturn, 1) := by decide +kernel
theorem dX12_bay_54 : decode cX12_bay 54 = .ok (.iload_n 2, 1) := by decide +kernel
theorem dX12_bay_55 : decode cX12_bay 55 = .ok (.ifCond .ne 12, 3) := by decide +kernel
theorem dX12_bay_58 : decode cX12_bay 58 = .ok (.aload_n 0, 1) := by decide +kernel
theorem dX12_bay_59 : decode cX12_bay 59 = .ok (.getfield 24, 3) := by decide +kernel
theorem dX12_bay_62 : decode cX12_bay 62 = .ok (.iload_n 1, 1) := by decide +kernel
theorem dX12_bay_63 : decode cX12_bay 63 = .ok (.iaload, 1) := by decide +kernel
theorem dX12_bay_64 : decode cX12_bay 64 = .ok (.goto 9, 3) := by decide +kernel
theorem dX12_bay_67 : decode cX12_bay 67 = .ok (.aload_n 0, 1) := by decide +kernel
theorem dX12_bay_68 : decode cX12_bay 68 = .ok (.getfield 28, 3) := by decide +kernel
theorem dX12_bay_71 : decode cX12_bay 71 = .ok (.iload_n 1, 1) := by decide +kernel
theorem dX12_bay_72 : decode cX12_bay 72 = .ok (.iaload, 1) := by decide +kernel
theorem dX12_bay_73 : decode cX12_bay 73 = .ok (.istore 4, 2) := by decide +kernel
theorem dX12_bay_75 : decode cX12_bay 75 = .ok (.iload_n 2, 1) := by decide +kernel
theorem dX12_bay_76 : decode cX12_bay 76 = .ok (.ifCond .ne 13, 3) := by decide +kernel
theorem dX12_bay_79 : decode cX12_bay 79 = .ok (.aload_n 0, 1) := by decide +kernel
theorem dX12_bay_80 : decode cX12_bay 80 = .ok (.getfield 24, 3) := by decide +kernel
theorem dX12_bay_83 : decode cX12_bay 83 = .ok (.iload_n 1, 1) := by decide +kernel
theorem dX12_bay_84 : decode cX12_bay 84 = .ok (.iload_n 3, 1) := by decide +kernel
theorem dX12_bay_85 : decode cX12_bay 85 = .ok (.iastore, 1) := by decide +kernel
theorem dX12_bay_86 : decode cX12_bay 86 = .ok (.goto 10, 3) := by decide +kernel
theorem dX12_bay_89 : decode cX12_bay 89 = .ok (.aload_n 0, 1) := by decide +kernel
theorem dX12_bay_90 : decode cX12_bay 90 = .ok (.getfield 28, 3) := by decide +kernel
theorem dX12_bay_93 : decode cX12_bay 93 = .ok (.iload_n 1, 1) := by decide +kernel
theorem dX12_bay_94 : decode cX12_bay 94 = .ok (.iload_n 3, 1) := by decide +kernel
theorem dX12_bay_95 : decode cX12_bay 95 = .ok (.iastore, 1) := by decide +kernel
theorem dX12_bay_96 : decode cX12_bay 96 = .ok (.iload 4, 2) := by decide +kernel
theorem dX12_bay_98 : decode cX12_bay 98 = .ok (.ireturn, 1) := by decide +kernel
set_option maxRecDepth 100000 in
set_option maxHeartbeats 4000000 in
theorem w_X12_bay_b73 {p : Program} {l : Launch} {e : Env} {s : State} {m : MethodId} {args : Array Value} {below : List Frame} {meth : Method} {c : Code} {K : KG} {ad : Nat → Nat → Nat} {fl : Nat} {H : Heap} {locs : List Loc} {ls : Array Slot} {g1 : Int32} {g2 : Int32} {g3 : Int32} {z0 : Int32} {M0 : Mem} {r9 : Int32} {M9 : Mem} (C : Cx p s m args meth c cX12_bay 5 "GlassPalaceModel" (some .int)) (hR : 3 ≤ (RM (3) 0 0).frames ∧ 40 * (3) ≤ (RM (3) 0 0).locals) (hB : 0 ≤ (RM (3) 0 0).cells ∧ 0 ≤ (RM (3) 0 0).slots) (Z : Zd K LM ad M0 s H locs) (hl : lv_has ls 5 [(0, .ref (ad 0 0)), (1, .int g1), (2, .int g2), (3, .int g3)]) (hf : f_X12_bay_b73 fl g1 g2 g3 z0 M0 = some (r9, M9)) : W p l e (RM (3) 0 0) s m args below meth c H locs 0 0 (MQ below (zQ K LM ad (some (.int r9)) M9) args s 0 0 (zA ad)) (F0 m 73 ls [.int z0]) := by
  unfold f_X12_bay_b73 at hf
  refine z_istore (lv' := [(4, .int z0), (0, .ref (ad 0 0)), (1, .int g1), (2, .int g2), (3, .int g3)]) C dX12_bay_73 hl (by decide) rfl (onlast 3 rfl rfl rfl) (fun ls hl => ?_)
  refine lv_iload_n C.x C.b dX12_bay_75 rfl (lv_at hl 3 rfl) ?_
  refine lv_if_ne (tgt := 89) C.x C.b dX12_bay_76 (by decide) (fun hc17 => ?_) (fun hc17 => ?_)
  · replace hf := ite_f hf hc17
    refine lv_aload_n C.x C.b dX12_bay_89 rfl (lv_at hl 1 rfl) ?_
    refine z_get C Z (lvM0 Nat.zero_lt_one) kM0 zc12 zin12 3 (by decide) k_1179 rfl svM0_3 dX12_bay_90 ?_
    refine lv_iload_n C.x C.b dX12_bay_93 rfl (lv_at hl 2 rfl) ?_
    refine lv_iload_n C.x C.b dX12_bay_94 rfl (lv_at hl 4 rfl) ?_
    replace hf := asr_s hf; obtain ⟨hq18, hf⟩ := hf
    replace hf := lt1_s hf; obtain ⟨m19, em19, hf⟩ := hf
    refine z_iast (M1 := m19) C Z (lvM2 Nat.zero_lt_one) (by decide) kM2 hq18 em19 stM2u dX12_bay_95 (fun H locs Z => ?_)
    refine lv_iload C.x C.b dX12_bay_96 (lv_at hl 0 rfl) ?_
    obtain ⟨rfl, rfl⟩ := pr_s hf
    exact z_iret C Z dX12_bay_98
  · replace hf := ite_t hf hc17
    refine lv_aload_n C.x C.b dX12_bay_79 rfl (lv_at hl 1 rfl) ?_
    refine z_get C Z (lvM0 Nat.zero_lt_one) kM0 zc12 zin12 2 (by decide) k_1178 rfl svM0_2 dX12_bay_80 ?_
    refine lv_iload_n C.x C.b dX12_bay_83 rfl (lv_at hl 2 rfl) ?_
    refine lv_iload_n C.x C.b dX12_bay_84 rfl (lv_at hl 4 rfl) ?_
    replace hf := asr_s hf; obtain ⟨hq20, hf⟩ := hf
    replace hf := lt1_s hf; obtain ⟨m21, em21, hf⟩ := hf
    refine z_iast (M1 := m21) C Z (lvM1 Nat.zero_lt_one) (by decide) kM1 hq20 em21 stM1u dX12_bay_85 (fun H locs Z => ?_)
    refine lv_goto (tgt := 96) C.x C.b dX12_bay_86 (by decide) ?_
    refine lv_iload C.x C.b dX12_bay_96 (lv_at hl 0 rfl) ?_
    obtain ⟨rfl, rfl⟩ := pr_s hf
    exact z_iret C Z dX12_bay_98
set_option maxRecDepth 100000 in
set_option maxHeartbeats 4000000 in
theorem w_X12_bay_b34 {p : Program} {l : Launch} {e : Env} {s : State} {m : MethodId} {args : Array Value} {below : List Frame} {meth : Method} {c : Code} {K : KG} {ad : Nat → Nat → Nat} {fl : Nat} {H : Heap} {locs : List Loc} {ls : Array Slot} {g1 : Int32} {g2 : Int32} {g3 : Int32} {z1 : Int32} {z2 : Int32} {z3 : Int32} {M0 : Mem} {r9 : Int32} {M9 : Mem} (C : Cx p s m args meth c cX12_bay 5 "GlassPalaceModel" (some .int)) (hR : 3 ≤ (RM (3) 0 0).frames ∧ 40 * (3) ≤ (RM (3) 0 0).locals) (hB : 0 ≤ (RM (3) 0 0).cells ∧ 0 ≤ (RM (3) 0 0).slots) (Z : Zd K LM ad M0 s H locs) (hl : lv_has ls 5 [(0, .ref (ad 0 0)), (1, .int g1), (2, .int g2), (3, .int g3)]) (hf : f_X12_bay_b34 fl g1 g2 g3 z1 z2 z3 M0 = some (r9, M9)) : W p l e (RM (3) 0 0) s m args below meth c H locs 0 0 (MQ below (zQ K LM ad (some (.int r9)) M9) args s 0 0 (zA ad)) (F0 m 34 ls [.int z3, .int z2, .int z1, .ref (ad 0 0)]) := by
  unfold f_X12_bay_b34 at hf
  replace hf := bn2_s hf; obtain ⟨v10, m9, hkm9, hf⟩ := hf
  refine z_cV (As := [.int z1, .int z2, .int z3]) (rest := []) (st1 := [.int v10]) C Z mw_X12_in mv_X12_in k_1398 (by decide) (z_hR hR (by decide)) (lvM0 Nat.zero_lt_one) kM0 zc12 (c_X12_in (l := l) (K := K) (ad := ad) hkm9) rfl hl.1 rfl (Nat.le_of_ble_eq_true rfl) dX12_bay_34 hB rfl (fun H locs Z => ?_)
  refine lv_if_ne (tgt := 43) C.x C.b dX12_bay_37 (by decide) (fun hc11 => ?_) (fun hc11 => ?_)
  · replace hf := ite_f hf hc11
    refine lv_aload_n C.x C.b dX12_bay_43 rfl (lv_at hl 0 rfl) ?_
    refine lv_iload_n C.x C.b dX12_bay_44 rfl (lv_at hl 1 rfl) ?_
    replace hf := bn2_s hf; obtain ⟨v13, m12, hkm12, hf⟩ := hf
    refine z_cV (As := [.int g1]) (rest := []) (st1 := [.int v13]) C Z mw_X12_isEmpty mv_X12_isEmpty k_1410 (by decide) (z_hR hR (by decide)) (lvM0 Nat.zero_lt_one) kM0 zc12 (c_X12_isEmpty (l := l) (K := K) (ad := ad) hkm12) rfl hl.1 rfl (Nat.le_of_ble_eq_true rfl) dX12_bay_45 hB rfl (fun H locs Z => ?_)
    refine lv_if_ne (tgt := 54) C.x C.b dX12_bay_48 (by decide) (fun hc14 => ?_) (fun hc14 => ?_)
    · replace hf := ite_f hf hc14
      refine lv_iload_n C.x C.b dX12_bay_54 rfl (lv_at hl 2 rfl) ?_
      replace hf := bn2_s hf; obtain ⟨q15, m16, hq15, hf⟩ := hf
      have kq15 : ∀ (H : Heap) (locs : List Loc) (ls : Array Slot), Zd K LM ad m16 s H locs → lv_has ls 5 [(0, .ref (ad 0 0)), (1, .int g1), (2, .int g2), (3, .int g3)] → W p l e (RM (3) 0 0) s m args below meth c H locs 0 0 (MQ below (zQ K LM ad (some (.int r9)) M9) args s 0 0 (zA ad)) (F0 m 73 ls [.int q15]) := by
        intro H locs ls Z hl
        exact w_X12_bay_b73 C hR hB  Z (lv_sub hl [0, 1, 2, 3] rfl) hf
      clear hf
      refine lv_if_ne (tgt := 67) C.x C.b dX12_bay_55 (by decide) (fun hc22 => ?_) (fun hc22 => ?_)
      · have hf := ite_f hq15 hc22; clear hq15
        refine lv_aload_n C.x C.b dX12_bay_67 rfl (lv_at hl 0 rfl) ?_
        refine z_get C Z (lvM0 Nat.zero_lt_one) kM0 zc12 zin12 3 (by decide) k_1179 rfl svM0_3 dX12_bay_68 ?_
        refine lv_iload_n C.x C.b dX12_bay_71 rfl (lv_at hl 1 rfl) ?_
        replace hf := asr_s hf; obtain ⟨hq23, hf⟩ := hf
        refine z_iald C Z (lvM2 Nat.zero_lt_one) kM2 hq23 svM2 dX12_bay_72 ?_
        obtain ⟨rfl, rfl⟩ := pr_s hf
        exact kq15 _ _ _ Z (lv_sub hl [0, 1, 2, 3] rfl)
      · have hf := ite_t hq15 hc22; clear hq15
        refine lv_aload_n C.x C.b dX12_bay_58 rfl (lv_at hl 0 rfl) ?_
        refine z_get C Z (lvM0 Nat.zero_lt_one) kM0 zc12 zin12 2 (by decide) k_1178 rfl svM0_2 dX12_bay_59 ?_
        refine lv_iload_n C.x C.b dX12_bay_62 rfl (lv_at hl 1 rfl) ?_
        replace hf := asr_s hf; obtain ⟨hq24, hf⟩ := hf
        refine z_iald C Z (lvM1 Nat.zero_lt_one) kM1 hq24 svM1 dX12_bay_63 ?_
        refine lv_goto (tgt := 73) C.x C.b dX12_bay_64 (by decide) ?_
        obtain ⟨rfl, rfl⟩ := pr_s hf
        exact kq15 _ _ _ Z (lv_sub hl [0, 1, 2, 3] rfl)
    · replace hf := ite_t hf hc14
      refine lv_bipush (v := (-3)) C.x C.b dX12_bay_51 (by decide) ?_
      obtain ⟨rfl, rfl⟩ := pr_s hf
      exact z_iret C Z dX12_bay_53
  · replace hf := ite_t hf hc11
    refine lv_bipush (v := (-2)) C.x C.b dX12_bay_40 (by decide) ?_
    obtain ⟨rfl, rfl⟩ := pr_s hf
    exact z_iret C Z dX12_bay_42
set_option maxRecDepth 100000 in
set_option maxHeartbeats 4000000 in
theorem c_X12_bay {l : Launch} {K : KG} {ad : Nat → Nat → Nat} {fl : Nat} {a1 : Int32} {a2 : Int32} {a3 : Int32} {M0 : Mem} {r9 : Int32} {M9 : Mem} (hf : f_X12_bay fl a1 a2 a3 M0 = some (r9, M9)) : Met l yX12_bay (Cond.code yX12_bay cX12_bay 5 (some .int) :: ztb) (RM (3) 0 0) (zPc K LM ad M0 [.ref (ad 0 0), .int a1, .int a2, .int a3]) (zQ K LM ad (some (.int r9)) M9) 0 0 (zA ad) := by
  refine z_enter (by decide) (Nat.le_of_ble_eq_true rfl) ?_
  intro p e s m args below meth c ls C hin hargs Z hl
  replace C : Cx p s m args meth c cX12_bay 5 "GlassPalaceModel" (some .int) := C
  replace hl : lv_has ls 5 [(0, .ref (ad 0 0)), (1, .int a1), (2, .int a2), (3, .int a3)] := hl
  have hR : 3 ≤ (RM (3) 0 0).frames ∧ 40 * (3) ≤ (RM (3) 0 0).locals := ⟨Nat.le_refl _, Nat.le_refl _⟩
  have hB : 0 ≤ (RM (3) 0 0).cells ∧ 0 ≤ (RM (3) 0 0).slots := ⟨Nat.zero_le _, Nat.zero_le _⟩
  unfold f_X12_bay at hf
  refine lv_aload_n C.x C.b dX12_bay_0 rfl (lv_at hl 0 rfl) ?_
  refine lv_iload_n C.x C.b dX12_bay_1 rfl (lv_at hl 1 rfl) ?_
  replace hf := bn2_s hf; obtain ⟨v2, m1, hkm1, hf⟩ := hf
  refine z_cV (As := [.int a1]) (rest := []) (st1 := [.int v2]) C Z mw_X12_isBay mv_X12_isBay k_1406 (by decide) (z_hR hR (by decide)) (lvM0 Nat.zero_lt_one) kM0 zc12 (c_X12_isBay (l := l) (K := K) (ad := ad) hkm1) rfl hl.1 rfl (Nat.le_of_ble_eq_true rfl) dX12_bay_2 hB rfl (fun H locs Z => ?_)
  refine lv_if_eq (tgt := 18) C.x C.b dX12_bay_5 (by decide) (fun hc3 => ?_) (fun hc3 => ?_)
  · replace hf := ite_t hf hc3
    refine lv_iconst (v := (-1)) C.x C.b dX12_bay_18 (by decide) ?_
    obtain ⟨rfl, rfl⟩ := pr_s hf
    exact z_iret C Z dX12_bay_19
  · replace hf := ite_f hf hc3
    refine lv_aload_n C.x C.b dX12_bay_8 rfl (lv_at hl 0 rfl) ?_
    refine lv_iload_n C.x C.b dX12_bay_9 rfl (lv_at hl 2 rfl) ?_
    refine lv_iconst (v := 0) C.x C.b dX12_bay_10 (by decide) ?_
    refine lv_iconst (v := 1) C.x C.b dX12_bay_11 (by decide) ?_
    replace hf := bn2_s hf; obtain ⟨v5, m4, hkm4, hf⟩ := hf
    refine z_cV (As := [.int a2, .int 0, .int 1]) (rest := []) (st1 := [.int v5]) C Z mw_X12_in mv_X12_in k_1398 (by decide) (z_hR hR (by decide)) (lvM0 Nat.zero_lt_one) kM0 zc12 (c_X12_in (l := l) (K := K) (ad := ad) hkm4) rfl hl.1 rfl (Nat.le_of_ble_eq_true rfl) dX12_bay_12 hB rfl (fun H locs Z => ?_)
    refine lv_if_ne (tgt := 20) C.x C.b dX12_bay_15 (by decide) (fun hc6 => ?_) (fun hc6 => ?_)
    · replace hf := ite_f hf hc6
      refine lv_aload_n C.x C.b dX12_bay_20 rfl (lv_at hl 0 rfl) ?_
      refine lv_iload_n C.x C.b dX12_bay_21 rfl (lv_at hl 3 rfl) ?_
      refine lv_iconst (v := 0) C.x C.b dX12_bay_22 (by decide) ?_
      refine lv_iload_n C.x C.b dX12_bay_23 rfl (lv_at hl 2 rfl) ?_
      replace hf := bn2_s hf; obtain ⟨q7, m8, hq7, hf⟩ := hf
      have kq7 : ∀ (H : Heap) (locs : List Loc) (ls : Array Slot), Zd K LM ad m8 s H locs → lv_has ls 5 [(0, .ref (ad 0 0)), (1, .int a1), (2, .int a2), (3, .int a3)] → W p l e (RM (3) 0 0) s m args below meth c H locs 0 0 (MQ below (zQ K LM ad (some (.int r9)) M9) args s 0 0 (zA ad)) (F0 m 34 ls [.int q7, .int 0, .int a3, .ref (ad 0 0)]) := by
        intro H locs ls Z hl
        exact w_X12_bay_b34 C hR hB  Z (lv_sub hl [0, 1, 2, 3] rfl) hf
      clear hf
      refine lv_if_ne (tgt := 32) C.x C.b dX12_bay_24 (by decide) (fun hc25 => ?_) (fun hc25 => ?_)
      · have hf := ite_f hq7 hc25; clear hq7
        refine lv_bipush (v := 60) C.x C.b dX12_bay_32 (by decide) ?_
        obtain ⟨rfl, rfl⟩ := pr_s hf
        exact kq7 _ _ _ Z (lv_sub hl [0, 1, 2, 3] rfl)
      · have hf := ite_t hq7 hc25; clear hq7
        refine lv_bipush (v := 20) C.x C.b dX12_bay_27 (by decide) ?_
        refine lv_goto (tgt := 34) C.x C.b dX12_bay_29 (by decide) ?_
        obtain ⟨rfl, rfl⟩ := pr_s hf
        exact kq7 _ _ _ Z (lv_sub hl [0, 1, 2, 3] rfl)
    · replace hf := ite_t hf hc6
      refine lv_iconst (v := (-1)) C.x C.b dX12_bay_18 (by decide) ?_
      obtain ⟨rfl, rfl⟩ := pr_s hf
      exact z_iret C Z dX12_bay_19
theorem dX12_foundry_0 : decode cX12_foundry 0 = .ok (.aload_n 0, 1) := by decide +kernel
theorem dX12_foundry_1 : decode cX12_foundry 1 = .ok (.iload_n 1, 1) := by decide +kernel
theorem dX12_foundry_2 : decode cX12_foundry 2 = .ok (.invokevirtual 248, 3) := by decide +kernel
theorem dX12_foundry_5 : decode cX12_foundry 5 = .ok (.ifCond .ne 5, 3) := by decide +kernel
theorem dX12_foundry_8 : decode cX12_foundry 8 = .ok (.iconst (-1), 1) := by decide +kernel
theorem dX12_foundry_9 : decode cX12_foundry 9 = .ok (.ireturn, 1) := by decide +kernel
theorem dX12_foundry_10 : decode cX12_foundry 10 = .ok (.aload_n 0, 1) := by decide +kernel
theorem dX12_foundry_11 : decode cX12_foundry 11 = .ok (.iload_n 2, 1) := by decide +kernel
theorem dX12_foundry_12 : decode cX12_foundry 12 = .ok (.iconst 1, 1) := by decide +kernel
theorem dX12_foundry_13 : decode cX12_foundry 13 = .ok (.bipush 60, 2) := by decide +kernel
theorem dX12_foundry_15 : decode cX12_foundry 15 = .ok (.invokevirtual 3, 3) := by decide +kernel
theorem dX12_foundry_18 : decode cX12_foundry 18 = .ok (.ifCond .eq 14, 3) := by decide +kernel
theorem dX12_foundry_21 : decode cX12_foundry 21 = .ok (.aload_n 0, 1) := by decide +kernel
theorem dX12_foundry_22 : decode cX12_foundry 22 = .ok (.iload_n 3, 1) := by decide +kernel
theorem dX12_foundry_23 : decode cX12_foundry 23 = .ok (.iload_n 2, 1) := by decide +kernel
theorem dX12_foundry_24 : decode cX12_foundry 24 = .ok (.bipush 60, 2) := by decide +kernel
theorem dX12_foundry_26 : decode cX12_foundry 26 = .ok (.invokevirtual 3, 3) := by decide +kernel
theorem dX12_foundry_29 : decode cX12_foundry 29 = .ok (.ifCond .ne 6, 3) := by decide +kernel
theorem dX12_foundry_32 : decode cX12_foundry 32 = .ok (.bipush (-2), 2) := by decide +kernel
theorem dX12_foundry_34 : decode cX12_foundry 34 = .ok (.ireturn, 1) := by decide +kernel
theorem dX12_foundry_35 : decode cX12_foundry 35 = .ok (.aload_n 0, 1) := by decide +kernel
theorem dX12_foundry_36 : decode cX12_foundry 36 = .ok (.getfield 31, 3) := by decide +kernel
theorem dX12_foundry_39 : decode cX12_foundry 39 = .ok (.iload_n 1, 1) := by decide +kernel
theorem dX12_foundry_40 : decode cX12_foundry 40 = .ok (.iload_n 2, 1) := by decide +kernel
theorem dX12_foundry_41 : decode cX12_foundry 41 = .ok (.iastore, 1) := by decide +kernel
theorem dX12_foundry_42 : decode cX12_foundry 42 = .ok (.aload_n 0, 1) := by decide +kernel
theorem dX12_foundry_43 : decode cX12_foundry 43 = .ok (.getfield 34, 3) := by decide +kernel
theorem dX12_foundry_46 : decode cX12_foundry 46 = .ok (.iload_n 1, 1) := by decide +kernel
theorem dX12_foundry_47 : decode cX12_foundry 47 = .ok (.iload_n 3, 1) := by decide +kernel
theorem dX12_foundry_48 : decode cX12_foundry 48 = .ok (.iastore, 1) := by decide +kernel
theorem dX12_foundry_49 : decode cX12_foundry 49 = .ok (.iconst 1, 1) := by decide +kernel
theorem dX12_foundry_50 : decode cX12_foundry 50 = .ok (.ireturn, 1) := by decide +kernel
set_option maxRecDepth 100000 in
set_option maxHeartbeats 4000000 in
theorem c_X12_foundry {l : Launch} {K : KG} {ad : Nat → Nat → Nat} {fl : Nat} {a1 : Int32} {a2 : Int32} {a3 : Int32} {M0 : Mem} {r9 : Int32} {M9 : Mem} (hf : f_X12_foundry fl a1 a2 a3 M0 = some (r9, M9)) : Met l yX12_foundry (Cond.code yX12_foundry cX12_foundry 4 (some .int) :: ztb) (RM (3) 0 0) (zPc K LM ad M0 [.ref (ad 0 0), .int a1, .int a2, .int a3]) (zQ K LM ad (some (.int r9)) M9) 0 0 (zA ad) := by
  refine z_enter (by decide) (Nat.le_of_ble_eq_true rfl) ?_
  intro p e s m args below meth c ls C hin hargs Z hl
  replace C : Cx p s m args meth c cX12_foundry 4 "GlassPalaceModel" (some .int) := C
  replace hl : lv_has ls 4 [(0, .ref (ad 0 0)), (1, .int a1), (2, .int a2), (3, .int a3)] := hl
  have hR : 3 ≤ (RM (3) 0 0).frames ∧ 40 * (3) ≤ (RM (3) 0 0).locals := ⟨Nat.le_refl _, Nat.le_refl _⟩
  have hB : 0 ≤ (RM (3) 0 0).cells ∧ 0 ≤ (RM (3) 0 0).slots := ⟨Nat.zero_le _, Nat.zero_le _⟩
  unfold f_X12_foundry at hf
  refine lv_aload_n C.x C.b dX12_foundry_0 rfl (lv_at hl 0 rfl) ?_
  refine lv_iload_n C.x C.b dX12_foundry_1 rfl (lv_at hl 1 rfl) ?_
  replace hf := bn2_s hf; obtain ⟨v2, m1, hkm1, hf⟩ := hf
  refine z_cV (As := [.int a1]) (rest := []) (st1 := [.int v2]) C Z mw_X12_isFoundry mv_X12_isFoundry k_1422 (by decide) (z_hR hR (by decide)) (lvM0 Nat.zero_lt_one) kM0 zc12 (c_X12_isFoundry (l := l) (K := K) (ad := ad) hkm1) rfl hl.1 rfl (Nat.le_of_ble_eq_true rfl) dX12_foundry_2 hB rfl (fun H locs Z => ?_)
  refine lv_if_ne (tgt := 10) C.x C.b dX12_foundry_5 (by decide) (fun hc3 => ?_) (fun hc3 => ?_)
  · replace hf := ite_f hf hc3
    refine lv_aload_n C.x C.b dX12_foundry_10 rfl (lv_at hl 0 rfl) ?_
    refine lv_iload_n C.x C.b dX12_foundry_11 rfl (lv_at hl 2 rfl) ?_
    refine lv_iconst (v := 1) C.x C.b dX12_foundry_12 (by decide) ?_
    refine lv_bipush (v := 60) C.x C.b dX12_foundry_13 (by decide) ?_
    replace hf := bn2_s hf; obtain ⟨v5, m4, hkm4, hf⟩ := hf
    refine z_cV (As := [.int a2, .int 1, .int 60]) (rest := []) (st1 := [.int v5]) C Z mw_X12_in mv_X12_in k_1398 (by decide) (z_hR hR (by decide)) (lvM0 Nat.zero_lt_one) kM0 zc12 (c_X12_in (l := l) (K := K) (ad := ad) hkm4) rfl hl.1 rfl (Nat.le_of_ble_eq_true rfl) dX12_foundry_15 hB rfl (fun H locs Z => ?_)
    refine lv_if_eq (tgt := 32) C.x C.b dX12_foundry_18 (by decide) (fun hc6 => ?_) (fun hc6 => ?_)
    · replace hf := ite_t hf hc6
      refine lv_bipush (v := (-2)) C.x C.b dX12_foundry_32 (by decide) ?_
      obtain ⟨rfl, rfl⟩ := pr_s hf
      exact z_iret C Z dX12_foundry_34
    · replace hf := ite_f hf hc6
      refine lv_aload_n C.x C.b dX12_foundry_21 rfl (lv_at hl 0 rfl) ?_
      refine lv_iload_n C.x C.b dX12_foundry_22 rfl (lv_at hl 3 rfl) ?_
      refine lv_iload_n C.x C.b dX12_foundry_23 rfl (lv_at hl 2 rfl) ?_
      refine lv_bipush (v := 60) C.x C.b dX12_foundry_24 (by decide) ?_
      replace hf := bn2_s hf; obtain ⟨v8, m7, hkm7, hf⟩ := hf
      refine z_cV (As := [.int a3, .int a2, .int 60]) (rest := []) (st1 := [.int v8]) C Z mw_X12_in mv_X12_in k_1398 (by decide) (z_hR hR (by decide)) (lvM0 Nat.zero_lt_one) kM0 zc12 (c_X12_in (l := l) (K := K) (ad := ad) hkm7) rfl hl.1 rfl (Nat.le_of_ble_eq_true rfl) dX12_foundry_26 hB rfl (fun H locs Z => ?_)
      refine lv_if_ne (tgt := 35) C.x C.b dX12_foundry_29 (by decide) (fun hc9 => ?_) (fun hc9 => ?_)
      · replace hf := ite_f hf hc9
        refine lv_aload_n C.x C.b dX12_foundry_35 rfl (lv_at hl 0 rfl) ?_
        refine z_get C Z (lvM0 Nat.zero_lt_one) kM0 zc12 zin12 4 (by decide) k_1180 rfl svM0_4 dX12_foundry_36 ?_
        refine lv_iload_n C.x C.b dX12_foundry_39 rfl (lv_at hl 1 rfl) ?_
        refine lv_iload_n C.x C.b dX12_foundry_40 rfl (lv_at hl 2 rfl) ?_
        replace hf := asr_s hf; obtain ⟨hq10, hf⟩ := hf
        replace hf := lt1_s hf; obtain ⟨m11, em11, hf⟩ := hf
        refine z_iast (M1 := m11) C Z (lvM3 Nat.zero_lt_one) (by decide) kM3 hq10 em11 stM3u dX12_foundry_41 (fun H locs Z => ?_)
        refine lv_aload_n C.x C.b dX12_foundry_42 rfl (lv_at hl 0 rfl) ?_
        refine z_get C Z (lvM0 Nat.zero_lt_one) kM0 zc12 zin12 5 (by decide) k_1181 rfl svM0_5 dX12_foundry_43 ?_
        refine lv_iload_n C.x C.b dX12_foundry_46 rfl (lv_at hl 1 rfl) ?_
        refine lv_iload_n C.x C.b dX12_foundry_47 rfl (lv_at hl 3 rfl) ?_
        replace hf := asr_s hf; obtain ⟨hq12, hf⟩ := hf
        replace hf := lt1_s hf; obtain ⟨m13, em13, hf⟩ := hf
        refine z_iast (M1 := m13) C Z (lvM4 Nat.zero_lt_one) (by decide) kM4 hq12 em13 stM4u dX12_foundry_48 (fun H locs Z => ?_)
        refine lv_iconst (v := 1) C.x C.b dX12_foundry_49 (by decide) ?_
        obtain ⟨rfl, rfl⟩ := pr_s hf
        exact z_iret C Z dX12_foundry_50
      · replace hf := ite_t hf hc9
        refine lv_bipush (v := (-2)) C.x C.b dX12_foundry_32 (by decide) ?_
        obtain ⟨rfl, rfl⟩ := pr_s hf
        exact z_iret C Z dX12_foundry_34
  · replace hf := ite_t hf hc3
    refine lv_iconst (v := (-1)) C.x C.b dX12_foundry_8 (by decide) ?_
    obtain ⟨rfl, rfl⟩ := pr_s hf
    exact z_iret C Z dX12_foundry_9
theorem dX12_order_0 : decode cX12_order 0 = .ok (.aload_n 0, 1) := by decide +kernel
theorem dX12_order_1 : decode cX12_order 1 = .ok (.iload_n 1, 1) := by decide +kernel
theorem dX12_order_2 : decode cX12_order 2 = .ok (.iconst 0, 1) := by decide +kernel
theorem dX12_order_3 : decode cX12_order 3 = .ok (.bipush 6, 2) := by decide +kernel
theorem dX12_order_5 : decode cX12_order 5 = .ok (.invokevirtual 3, 3) := by decide +kernel
theorem dX12_order_8 : decode cX12_order 8 = .ok (.ifCond .eq 11, 3) := by decide +kernel
theorem dX12_order_11 : decode cX12_order 11 = .ok (.aload_n 0, 1) := by decide +kernel
theorem dX12_order_12 : decode cX12_order 12 = .ok (.iload_n 2, 1) := by decide +kernel
theorem dX12_order_13 : decode cX12_order 13 = .ok (.invokevirtual 248, 3) := by decide +kernel
theorem dX12_order_16 : decode cX12_order 16 = .ok (.ifCond .ne 5, 3) := by decide +kernel
theorem dX12_order_19 : decode cX12_order 19 = .ok (.iconst (-1), 1) := by decide +kernel
theorem dX12_order_20 : decode cX12_order 20 = .ok (.ireturn, 1) := by decide +kernel
theorem dX12_order_21 : decode cX12_order 21 = .ok (.aload_n 0, 1) := by decide +kernel
theorem dX12_order_22 : decode cX12_order 22 = .ok (.iload_n 3, 1) := by decide +kernel
theorem dX12_order_23 : decode cX12_order 23 = .ok (.iconst 1, 1) := by decide +kernel
theorem dX12_order_24 : decode cX12_order 24 = .ok (.sipush 999, 3) := by decide +kernel
theorem dX12_order_27 : decode cX12_order 27 = .ok (.invokevirtual 3, 3) := by decide +kernel
theorem dX12_order_30 : decode cX12_order 30 = .ok (.ifCond .eq 16, 3) := by decide +kernel
theorem dX12_order_33 : decode cX12_order 33 = .ok (.aload_n 0, 1) := by decide +kernel
theorem dX12_order_34 : decode cX12_order 34 = .ok (.iload 4, 2) := by decide +kernel
theorem dX12_order_36 : decode cX12_order 36 = .ok (.iconst 0, 1) := by decide +kernel
theorem dX12_order_37 : decode cX12_order 37 = .ok (.sipush 999, 3) := by decide +kernel
theorem dX12_order_40 : decode cX12_order 40 = .ok (.invokevirtual 3, 3) := by decide +kernel
theorem dX12_order_43 : decode cX12_order 43 = .ok (.ifCond .ne 6, 3) := by decide +kernel
theorem dX12_order_46 : decode cX12_order 46 = .ok (.bipush (-2), 2) := by decide +kernel
theorem dX12_order_48 : decode cX12_order 48 = .ok (.ireturn, 1) := by decide +kernel
theorem dX12_order_49 : decode cX12_order 49 = .ok (.aload_n 0, 1) := by decide +kernel
theorem dX12_order_50 : decode cX12_order 50 = .ok (.getfield 21, 3) := by decide +kernel
theorem dX12_order_53 : decode cX12_order 53 = .ok (.bipush 60, 2) := by decide +kernel
theorem dX12_order_55 : decode cX12_order 55 = .ok (.if_icmp .ne 6, 3) := by decide +kernel
theorem dX12_order_58 : decode cX12_order 58 = .ok (.bipush (-4), 2) := by decide +kernel
theorem dX12_order_60 : decode cX12_order 60 = .ok (.ireturn, 1) := by decide +kernel
theorem dX12_order_61 : decode cX12_order 61 = .ok (.aload_n 0, 1) := by decide +kernel
theorem dX12_order_62 : decode cX12_order 62 = .ok (.getfield 37, 3) := by decide +kernel
theorem dX12_order_65 : decode cX12_order 65 = .ok (.aload_n 0, 1) := by decide +kernel
theorem dX12_order_66 : decode cX12_order 66 = .ok (.getfield 21, 3) := by decide +kernel
theorem dX12_order_69 : decode cX12_order 69 = .ok (.iload_n 1, 1) := by decide +kernel
theorem dX12_order_70 : decode cX12_order 70 = .ok (.iastore, 1) := by decide +kernel
theorem dX12_order_71 : decode cX12_order 71 = .ok (.aload_n 0, 1) := by decide +kernel
theorem dX12_order_72 : decode cX12_order 72 = .ok (.getfield 40, 3) := by decide +kernel
theorem dX12_order_75 : decode cX12_order 75 = .ok (.aload_n 0, 1) := by decide +kernel
theorem dX12_order_76 : decode cX12_order 76 = .ok (.getfield 21, 3) := by decide +kernel
theorem dX12_order_79 : decode cX12_order 79 = .ok (.iload_n 2, 1) := by decide +kernel
theorem dX12_order_80 : decode cX12_order 80 = .ok (.iastore, 1) := by decide +kernel
theorem dX12_order_81 : decode cX12_order 81 = .ok (.aload_n 0, 1) := by decide +kernel
theorem dX12_order_82 : decode cX12_order 82 = .ok (.getfield 43, 3) := by decide +kernel
theorem dX12_order_85 : decode cX12_order 85 = .ok (.aload_n 0, 1) := by decide +kernel
theorem dX12_order_86 : decode cX12_order 86 = .ok (.getfield 21, 3) := by decide +kernel
theorem dX12_order_89 : decode cX12_order 89 = .ok (.iload_n 3, 1) := by decide +kernel
theorem dX12_order_90 : decode cX12_order 90 = .ok (.iastore, 1) := by decide +kernel
theorem dX12_order_91 : decode cX12_order 91 = .ok (.aload_n 0, 1) := by decide +kernel
theorem dX12_order_92 : decode cX12_order 92 = .ok (.getfield 46, 3) := by decide +kernel
theorem dX12_order_95 : decode cX12_order 95 = .ok (.aload_n 0, 1) := by decide +kernel
theorem dX12_order_96 : decode cX12_order 96 = .ok (.getfield 21, 3) := by decide +kernel
theorem dX12_order_99 : decode cX12_order 99 = .ok (.iload 4, 2) := by decide +kernel
theorem dX12_order_101 : decode cX12_order 101 = .ok (.iastore, 1) := by decide +kernel
theorem dX12_order_102 : decode cX12_order 102 = .ok (.aload_n 0, 1) := by decide +kernel
theorem dX12_order_103 : decode cX12_order 103 = .ok (.getfield 49, 3) := by decide +kernel
theorem dX12_order_106 : decode cX12_order 106 = .ok (.aload_n 0, 1) := by decide +kernel
theorem dX12_order_107 : decode cX12_order 107 = .ok (.getfield 21, 3) := by decide +kernel
theorem dX12_order_110 : decode cX12_order 110 = .ok (.aload_n 0, 1) := by decide +kernel
theorem dX12_order_111 : decode cX12_order 111 = .ok (.getfield 17, 3) := by decide +kernel
theorem dX12_order_114 : decode cX12_order 114 = .ok (.iastore, 1) := by decide +kernel
theorem dX12_order_115 : decode cX12_order 115 = .ok (.aload_n 0, 1) := by decide +kernel
theorem dX12_order_116 : decode cX12_order 116 = .ok (.getfield 52, 3) := by decide +kernel
theorem dX12_order_119 : decode cX12_order 119 = .ok (.aload_n 0, 1) := by decide +kernel
theorem dX12_order_120 : decode cX12_order 120 = .ok (.getfield 21, 3) := by decide +kernel
theorem dX12_order_123 : decode cX12_order 123 = .ok (.iconst (-1), 1) := by decide +kernel
theorem dX12_order_124 : decode cX12_order 124 = .ok (.iastore, 1) := by decide +kernel
theorem dX12_order_125 : decode cX12_order 125 = .ok (.aload_n 0, 1) := by decide +kernel
theorem dX12_order_126 : decode cX12_order 126 = .ok (.getfield 55, 3) := by decide +kernel
theorem dX12_order_129 : decode cX12_order 129 = .ok (.aload_n 0, 1) := by decide +kernel
theorem dX12_order_130 : decode cX12_order 130 = .ok (.getfield 21, 3) := by decide +kernel
theorem dX12_order_133 : decode cX12_order 133 = .ok (.iconst (-1), 1) := by decide +kernel
theorem dX12_order_134 : decode cX12_order 134 = .ok (.iastore, 1) := by decide +kernel
theorem dX12_order_135 : decode cX12_order 135 = .ok (.aload_n 0, 1) := by decide +kernel
theorem dX12_order_136 : decode cX12_order 136 = .ok (.dup, 1) := by decide +kernel
theorem dX12_order_137 : decode cX12_order 137 = .ok (.getfield 21, 3) := by decide +kernel
theorem dX12_order_140 : decode cX12_order 140 = .ok (.iconst 1, 1) := by decide +kernel
theorem dX12_order_141 : decode cX12_order 141 = .ok (.iadd, 1) := by decide +kernel
theorem dX12_order_142 : decode cX12_order 142 = .ok (.putfield 21, 3) := by decide +kernel
theorem dX12_order_145 : decode cX12_order 145 = .ok (.aload_n 0, 1) := by decide +kernel
theorem dX12_order_146 : decode cX12_order 146 = .ok (.getfield 21, 3) := by decide +kernel
theorem dX12_order_149 : decode cX12_order 149 = .ok (.iconst 1, 1) := by decide +kernel
theorem dX12_order_150 : decode cX12_order 150 = .ok (.isub, 1) := by decide +kernel
theorem dX12_order_151 : decode cX12_order 151 = .ok (.ireturn, 1) := by decide +kernel
set_option maxRecDepth 100000 in
set_option maxHeartbeats 4000000 in
theorem c_X12_order {l : Launch} {K : KG} {ad : Nat → Nat → Nat} {fl : Nat} {a1 : Int32} {a2 : Int32} {a3 : Int32} {a4 : Int32} {M0 : Mem} {r9 : Int32} {M9 : Mem} (hf : f_X12_order fl a1 a2 a3 a4 M0 = some (r9, M9)) : Met l yX12_order (Cond.code yX12_order cX12_order 5 (some .int) :: ztb) (RM (3) 0 0) (zPc K LM ad M0 [.ref (ad 0 0), .int a1, .int a2, .int a3, .int a4]) (zQ K LM ad (some (.int r9)) M9) 0 0 (zA ad) := by
  refine z_enter (by decide) (Nat.le_of_ble_eq_true rfl) ?_
  intro p e s m args below meth c ls C hin hargs Z hl
  replace C : Cx p s m args meth c cX12_order 5 "GlassPalaceModel" (some .int) := C
  replace hl : lv_has ls 5 [(0, .ref (ad 0 0)), (1, .int a1), (2, .int a2), (3, .int a3), (4, .int a4)] := hl
  have hR : 3 ≤ (RM (3) 0 0).frames ∧ 40 * (3) ≤ (RM (3) 0 0).locals := ⟨Nat.le_refl _, Nat.le_refl _⟩
  have hB : 0 ≤ (RM (3) 0 0).cells ∧ 0 ≤ (RM (3) 0 0).slots := ⟨Nat.zero_le _, Nat.zero_le _⟩
  unfold f_X12_order at hf
  refine lv_aload_n C.x C.b dX12_order_0 rfl (lv_at hl 0 rfl) ?_
  refine lv_iload_n C.x C.b dX12_order_1 rfl (lv_at hl 1 rfl) ?_
  refine lv_iconst (v := 0) C.x C.b dX12_order_2 (by decide) ?_
  refine lv_bipush (v := 6) C.x C.b dX12_order_3 (by decide) ?_
  replace hf := bn2_s hf; obtain ⟨v2, m1, hkm1, hf⟩ := hf
  refine z_cV (As := [.int a1, .int 0, .int 6]) (rest := []) (st1 := [.int v2]) C Z mw_X12_in mv_X12_in k_1398 (by decide) (z_hR hR (by decide)) (lvM0 Nat.zero_lt_one) kM0 zc12 (c_X12_in (l := l) (K := K) (ad := ad) hkm1) rfl hl.1 rfl (Nat.le_of_ble_eq_true rfl) dX12_order_5 hB rfl (fun H locs Z => ?_)
  refine lv_if_eq (tgt := 19) C.x C.b dX12_order_8 (by decide) (fun hc3 => ?_) (fun hc3 => ?_)
  · replace hf := ite_t hf hc3
    refine lv_iconst (v := (-1)) C.x C.b dX12_order_19 (by decide) ?_
    obtain ⟨rfl, rfl⟩ := pr_s hf
    exact z_iret C Z dX12_order_20
  · replace hf := ite_f hf hc3
    refine lv_aload_n C.x C.b dX12_order_11 rfl (lv_at hl 0 rfl) ?_
    refine lv_iload_n C.x C.b dX12_order_12 rfl (lv_at hl 2 rfl) ?_
    replace hf := bn2_s hf; obtain ⟨v5, m4, hkm4, hf⟩ := hf
    refine z_cV (As := [.int a2]) (rest := []) (st1 := [.int v5]) C Z mw_X12_isFoundry mv_X12_isFoundry k_1422 (by decide) (z_hR hR (by decide)) (lvM0 Nat.zero_lt_one) kM0 zc12 (c_X12_isFoundry (l := l) (K := K) (ad := ad) hkm4) rfl hl.1 rfl (Nat.le_of_ble_eq_true rfl) dX12_order_13 hB rfl (fun H locs Z => ?_)
    refine lv_if_ne (tgt := 21) C.x C.b dX12_order_16 (by decide) (fun hc6 => ?_) (fun hc6 => ?_)
    · replace hf := ite_f hf hc6
      refine lv_aload_n C.x C.b dX12_order_21 rfl (lv_at hl 0 rfl) ?_
      refine lv_iload_n C.x C.b dX12_order_22 rfl (lv_at hl 3 rfl) ?_
      refine lv_iconst (v := 1) C.x C.b dX12_order_23 (by decide) ?_
      refine lv_sipush (v := 999) C.x C.b dX12_order_24 (by decide) ?_
      replace hf := bn2_s hf; obtain ⟨v8, m7, hkm7, hf⟩ := hf
      refine z_cV (As := [.int a3, .int 1, .int 999]) (rest := []) (st1 := [.int v8]) C Z mw_X12_in mv_X12_in k_1398 (by decide) (z_hR hR (by decide)) (lvM0 Nat.zero_lt_one) kM0 zc12 (c_X12_in (l := l) (K := K) (ad := ad) hkm7) rfl hl.1 rfl (Nat.le_of_ble_eq_true rfl) dX12_order_27 hB rfl (fun H locs Z => ?_)
      refine lv_if_eq (tgt := 46) C.x C.b dX12_order_30 (by decide) (fun hc9 => ?_) (fun hc9 => ?_)
      · replace hf := ite_t hf hc9
        refine lv_bipush (v := (-2)) C.x C.b dX12_order_46 (by decide) ?_
        obtain ⟨rfl, rfl⟩ := pr_s hf
        exact z_iret C Z dX12_order_48
      · replace hf := ite_f hf hc9
        refine lv_aload_n C.x C.b dX12_order_33 rfl (lv_at hl 0 rfl) ?_
        refine lv_iload C.x C.b dX12_order_34 (lv_at hl 4 rfl) ?_
        refine lv_iconst (v := 0) C.x C.b dX12_order_36 (by decide) ?_
        refine lv_sipush (v := 999) C.x C.b dX12_order_37 (by decide) ?_
        replace hf := bn2_s hf; obtain ⟨v11, m10, hkm10, hf⟩ := hf
        refine z_cV (As := [.int a4, .int 0, .int 999]) (rest := []) (st1 := [.int v11]) C Z mw_X12_in mv_X12_in k_1398 (by decide) (z_hR hR (by decide)) (lvM0 Nat.zero_lt_one) kM0 zc12 (c_X12_in (l := l) (K := K) (ad := ad) hkm10) rfl hl.1 rfl (Nat.le_of_ble_eq_true rfl) dX12_order_40 hB rfl (fun H locs Z => ?_)
        refine lv_if_ne (tgt := 49) C.x C.b dX12_order_43 (by decide) (fun hc12 => ?_) (fun hc12 => ?_)
        · replace hf := ite_f hf hc12
          refine lv_aload_n C.x C.b dX12_order_49 rfl (lv_at hl 0 rfl) ?_
          refine z_get C Z (lvM0 Nat.zero_lt_one) kM0 zc12 zin12 1 (by decide) k_1177 rfl svM0_1 dX12_order_50 ?_
          refine lv_bipush (v := 60) C.x C.b dX12_order_53 (by decide) ?_
          refine lv_icmp_ne (tgt := 61) C.x C.b dX12_order_55 (by decide) (fun hc13 => ?_) (fun hc13 => ?_)
          · replace hf := ite_f hf hc13
            refine lv_aload_n C.x C.b dX12_order_61 rfl (lv_at hl 0 rfl) ?_
            refine z_get C Z (lvM0 Nat.zero_lt_one) kM0 zc12 zin12 6 (by decide) k_1182 rfl svM0_6 dX12_order_62 ?_
            refine lv_aload_n C.x C.b dX12_order_65 rfl (lv_at hl 0 rfl) ?_
            refine z_get C Z (lvM0 Nat.zero_lt_one) kM0 zc12 zin12 1 (by decide) k_1177 rfl svM0_1 dX12_order_66 ?_
            refine lv_iload_n C.x C.b dX12_order_69 rfl (lv_at hl 1 rfl) ?_
            replace hf := asr_s hf; obtain ⟨hq14, hf⟩ := hf
            replace hf := lt1_s hf; obtain ⟨m15, em15, hf⟩ := hf
            refine z_iast (M1 := m15) C Z (lvM5 Nat.zero_lt_one) (by decide) kM5 hq14 em15 stM5u dX12_order_70 (fun H locs Z => ?_)
            refine lv_aload_n C.x C.b dX12_order_71 rfl (lv_at hl 0 rfl) ?_
            refine z_get C Z (lvM0 Nat.zero_lt_one) kM0 zc12 zin12 7 (by decide) k_1183 rfl svM0_7 dX12_order_72 ?_
            refine lv_aload_n C.x C.b dX12_order_75 rfl (lv_at hl 0 rfl) ?_
            refine z_get C Z (lvM0 Nat.zero_lt_one) kM0 zc12 zin12 1 (by decide) k_1177 rfl svM0_1 dX12_order_76 ?_
            refine lv_iload_n C.x C.b dX12_order_79 rfl (lv_at hl 2 rfl) ?_
            replace hf := asr_s hf; obtain ⟨hq16, hf⟩ := hf
            replace hf := lt1_s hf; obtain ⟨m17, em17, hf⟩ := hf
            refine z_iast (M1 := m17) C Z (lvM6 Nat.zero_lt_one) (by decide) kM6 hq16 em17 stM6u dX12_order_80 (fun H locs Z => ?_)
            refine lv_aload_n C.x C.b dX12_order_81 rfl (lv_at hl 0 rfl) ?_
            refine z_get C Z (lvM0 Nat.zero_lt_one) kM0 zc12 zin12 8 (by decide) k_1184 rfl svM0_8 dX12_order_82 ?_
            refine lv_aload_n C.x C.b dX12_order_85 rfl (lv_at hl 0 rfl) ?_
            refine z_get C Z (lvM0 Nat.zero_lt_one) kM0 zc12 zin12 1 (by decide) k_1177 rfl svM0_1 dX12_order_86 ?_
            refine lv_iload_n C.x C.b dX12_order_89 rfl (lv_at hl 3 rfl) ?_
            replace hf := asr_s hf; obtain ⟨hq18, hf⟩ := hf
            replace hf := lt1_s hf; obtain ⟨m19, em19, hf⟩ := hf
            refine z_iast (M1 := m19) C Z (lvM7 Nat.zero_lt_one) (by decide) kM7 hq18 em19 stM7u dX12_order_90 (fun H locs Z => ?_)
            refine lv_aload_n C.x C.b dX12_order_91 rfl (lv_at hl 0 rfl) ?_
            refine z_get C Z (lvM0 Nat.zero_lt_one) kM0 zc12 zin12 9 (by decide) k_1185 rfl svM0_9 dX12_order_92 ?_
            refine lv_aload_n C.x C.b dX12_order_95 rfl (lv_at hl 0 rfl) ?_
            refine z_get C Z (lvM0 Nat.zero_lt_one) kM0 zc12 zin12 1 (by decide) k_1177 rfl svM0_1 dX12_order_96 ?_
            refine lv_iload C.x C.b dX12_order_99 (lv_at hl 4 rfl) ?_
            replace hf := asr_s hf; obtain ⟨hq20, hf⟩ := hf
            replace hf := lt1_s hf; obtain ⟨m21, em21, hf⟩ := hf
            refine z_iast (M1 := m21) C Z (lvM8 Nat.zero_lt_one) (by decide) kM8 hq20 em21 stM8u dX12_order_101 (fun H locs Z => ?_)
            refine lv_aload_n C.x C.b dX12_order_102 rfl (lv_at hl 0 rfl) ?_
            refine z_get C Z (lvM0 Nat.zero_lt_one) kM0 zc12 zin12 10 (by decide) k_1186 rfl svM0_10 dX12_order_103 ?_
            refine lv_aload_n C.x C.b dX12_order_106 rfl (lv_at hl 0 rfl) ?_
            refine z_get C Z (lvM0 Nat.zero_lt_one) kM0 zc12 zin12 1 (by decide) k_1177 rfl svM0_1 dX12_order_107 ?_
            refine lv_aload_n C.x C.b dX12_order_110 rfl (lv_at hl 0 rfl) ?_
            refine z_get C Z (lvM0 Nat.zero_lt_one) kM0 zc12 zin12 0 (by decide) k_1176 rfl svM0_0 dX12_order_111 ?_
            replace hf := asr_s hf; obtain ⟨hq22, hf⟩ := hf
            replace hf := lt1_s hf; obtain ⟨m23, em23, hf⟩ := hf
            refine z_iast (M1 := m23) C Z (lvM9 Nat.zero_lt_one) (by decide) kM9 hq22 em23 stM9u dX12_order_114 (fun H locs Z => ?_)
            refine lv_aload_n C.x C.b dX12_order_115 rfl (lv_at hl 0 rfl) ?_
            refine z_get C Z (lvM0 Nat.zero_lt_one) kM0 zc12 zin12 11 (by decide) k_1187 rfl svM0_11 dX12_order_116 ?_
            refine lv_aload_n C.x C.b dX12_order_119 rfl (lv_at hl 0 rfl) ?_
            refine z_get C Z (lvM0 Nat.zero_lt_one) kM0 zc12 zin12 1 (by decide) k_1177 rfl svM0_1 dX12_order_120 ?_
            refine lv_iconst (v := (-1)) C.x C.b dX12_order_123 (by decide) ?_
            replace hf := asr_s hf; obtain ⟨hq24, hf⟩ := hf
            replace hf := lt1_s hf; obtain ⟨m25, em25, hf⟩ := hf
            refine z_iast (M1 := m25) C Z (lvM10 Nat.zero_lt_one) (by decide) kM10 hq24 em25 stM10u dX12_order_124 (fun H locs Z => ?_)
            refine lv_aload_n C.x C.b dX12_order_125 rfl (lv_at hl 0 rfl) ?_
            refine z_get C Z (lvM0 Nat.zero_lt_one) kM0 zc12 zin12 12 (by decide) k_1188 rfl svM0_12 dX12_order_126 ?_
            refine lv_aload_n C.x C.b dX12_order_129 rfl (lv_at hl 0 rfl) ?_
            refine z_get C Z (lvM0 Nat.zero_lt_one) kM0 zc12 zin12 1 (by decide) k_1177 rfl svM0_1 dX12_order_130 ?_
            refine lv_iconst (v := (-1)) C.x C.b dX12_order_133 (by decide) ?_
            replace hf := asr_s hf; obtain ⟨hq26, hf⟩ := hf
            replace hf := lt1_s hf; obtain ⟨m27, em27, hf⟩ := hf
            refine z_iast (M1 := m27) C Z (lvM11 Nat.zero_lt_one) (by decide) kM11 hq26 em27 stM11u dX12_order_134 (fun H locs Z => ?_)
            refine lv_aload_n C.x C.b dX12_order_135 rfl (lv_at hl 0 rfl) ?_
            refine lv_dup C.x C.b dX12_order_136 rfl ?_
            refine z_get C Z (lvM0 Nat.zero_lt_one) kM0 zc12 zin12 1 (by decide) k_1177 rfl svM0_1 dX12_order_137 ?_
            refine lv_iconst (v := 1) C.x C.b dX12_order_140 (by decide) ?_
            refine lv_iadd C.x C.b dX12_order_141 ?_
            replace hf := lt1_s hf; obtain ⟨m28, em28, hf⟩ := hf
            refine z_put (M1 := m28) C Z (lvM0 Nat.zero_lt_one) (by decide) kM0 zc12 zin12 tyX12_ok nmX12 1 (by decide) k_1177 rfl (zUp_I em28 stM0_1u) (Or.inl rfl) rfl rfl dX12_order_142 (fun H locs Z => ?_)
            refine lv_aload_n C.x C.b dX12_order_145 rfl (lv_at hl 0 rfl) ?_
            refine z_get C Z (lvM0 Nat.zero_lt_one) kM0 zc12 zin12 1 (by decide) k_1177 rfl svM0_1 dX12_order_146 ?_
            refine lv_iconst (v := 1) C.x C.b dX12_order_149 (by decide) ?_
            refine lv_isub C.x C.b dX12_order_150 ?_
            obtain ⟨rfl, rfl⟩ := pr_s hf
            exact z_iret C Z dX12_order_151
          · replace hf := ite_t hf hc13
            refine lv_bipush (v := (-4)) C.x C.b dX12_order_58 (by decide) ?_
            obtain ⟨rfl, rfl⟩ := pr_s hf
            exact z_iret C Z dX12_order_60
        · replace hf := ite_t hf hc12
          refine lv_bipush (v := (-2)) C.x C.b dX12_order_46 (by decide) ?_
          obtain ⟨rfl, rfl⟩ := pr_s hf
          exact z_iret C Z dX12_order_48
    · replace hf := ite_t hf hc6
      refine lv_iconst (v := (-1)) C.x C.b dX12_order_19 (by decide) ?_
      obtain ⟨rfl, rfl⟩ := pr_s hf
      exact z_iret C Z dX12_order_20
theorem dX12_isLot_0 : decode cX12_isLot 0 = .ok (.aload_n 0, 1) := by decide +kernel
theorem dX12_isLot_1 : decode cX12_isLot 1 = .ok (.iload_n 1, 1) := by decide +kernel
theorem dX12_isLot_2 : decode cX12_isLot 2 = .ok (.iconst 0, 1) := by decide +kernel
theorem dX12_isLot_3 : decode cX12_isLot 3 = .ok (.aload_n 0, 1) := by decide +kernel
theorem dX12_isLot_4 : decode cX12_isLot 4 = .ok (.getfield 21, 3) := by decide +kernel
theorem dX12_isLot_7 : decode cX12_isLot 7 = .ok (.iconst 1, 1) := by decide +kernel
theorem dX12_isLot_8 : decode cX12_isLot 8 = .ok (.isub, 1) := by decide +kernel
theorem dX12_isLot_9 : decode cX12_isLot 9 = .ok (.invokevirtual 3, 3) := by decide +kernel
theorem dX12_isLot_12 : decode cX12_isLot 12 = .ok (.ireturn, 1) := by decide +kernel
set_option maxRecDepth 100000 in
set_option maxHeartbeats 4000000 in
theorem c_X12_isLot {l : Launch} {K : KG} {ad : Nat → Nat → Nat} {fl : Nat} {a1 : Int32} {M0 : Mem} {r9 : Int32} {M9 : Mem} (hf : f_X12_isLot fl a1 M0 = some (r9, M9)) : Met l yX12_isLot (Cond.code yX12_isLot cX12_isLot 2 (some .boolean) :: ztb) (RM (2) 0 0) (zPc K LM ad M0 [.ref (ad 0 0), .int a1]) (zQ K LM ad (some (.int r9)) M9) 0 0 (zA ad) := by
  refine z_enter (by decide) (Nat.le_of_ble_eq_true rfl) ?_
  intro p e s m args below meth c ls C hin hargs Z hl
  replace C : Cx p s m args meth c cX12_isLot 2 "GlassPalaceModel" (some .boolean) := C
  replace hl : lv_has ls 2 [(0, .ref (ad 0 0)), (1, .int a1)] := hl
  have hR : 2 ≤ (RM (2) 0 0).frames ∧ 40 * (2) ≤ (RM (2) 0 0).locals := ⟨Nat.le_refl _, Nat.le_refl _⟩
  have hB : 0 ≤ (RM (2) 0 0).cells ∧ 0 ≤ (RM (2) 0 0).slots := ⟨Nat.zero_le _, Nat.zero_le _⟩
  unfold f_X12_isLot at hf
  refine lv_aload_n C.x C.b dX12_isLot_0 rfl (lv_at hl 0 rfl) ?_
  refine lv_iload_n C.x C.b dX12_isLot_1 rfl (lv_at hl 1 rfl) ?_
  refine lv_iconst (v := 0) C.x C.b dX12_isLot_2 (by decide) ?_
  refine lv_aload_n C.x C.b dX12_isLot_3 rfl (lv_at hl 0 rfl) ?_
  refine z_get C Z (lvM0 Nat.zero_lt_one) kM0 zc12 zin12 1 (by decide) k_1177 rfl svM0_1 dX12_isLot_4 ?_
  refine lv_iconst (v := 1) C.x C.b dX12_isLot_7 (by decide) ?_
  refine lv_isub C.x C.b dX12_isLot_8 ?_
  replace hf := bn2_s hf; obtain ⟨v2, m1, hkm1, hf⟩ := hf
  refine z_cV (As := [.int a1, .int 0, .int ((gI M0 0 0 1) - 1)]) (rest := []) (st1 := [.int v2]) C Z mw_X12_in mv_X12_in k_1398 (by decide) (z_hR hR (by decide)) (lvM0 Nat.zero_lt_one) kM0 zc12 (c_X12_in (l := l) (K := K) (ad := ad) hkm1) rfl hl.1 rfl (Nat.le_of_ble_eq_true rfl) dX12_isLot_9 hB rfl (fun H locs Z => ?_)
  replace hf := asr_s hf; obtain ⟨hq3, hf⟩ := hf
  obtain ⟨rfl, rfl⟩ := pr_s hf
  exact z_zret C Z (jz01 hq3) dX12_isLot_12
theorem dX12_come_0 : decode cX12_come 0 = .ok (.aload_n 0, 1) := by decide +kernel
theorem dX12_come_1 : decode cX12_come 1 = .ok (.iload_n 1, 1) := by decide +kernel
theorem dX12_come_2 : decode cX12_come 2 = .ok (.invokevirtual 251, 3) := by decide +kernel
theorem dX12_come_5 : decode cX12_come 5 = .ok (.ifCond .ne 5, 3) := by decide +kernel
theorem dX12_come_8 : decode cX12_come 8 = .ok (.iconst (-1), 1) := by decide +kernel
theorem dX12_come_9 : decode cX12_come 9 = .ok (.ireturn, 1) := by decide +kernel
theorem dX12_come_10 : decode cX12_come 10 = .ok (.aload_n 0, 1) := by decide +kernel
theorem dX12_come_11 : decode cX12_come 11 = .ok (.iload_n 2, 1) := by decide +kernel
theorem dX12_come_12 : decode cX12_come 12 = .ok (.aload_n 0, 1) := by decide +kernel
theorem dX12_come_13 : decode cX12_come 13 = .ok (.getfield 49, 3) := by decide +kernel
theorem dX12_come_16 : decode cX12_come 16 = .ok (.iload_n 1, 1) := by decide +kernel
theorem dX12_come_17 : decode cX12_come 17 = .ok (.iaload, 1) := by decide +kernel
theorem dX12_come_18 : decode cX12_come 18 = .ok (.aload_n 0, 1) := by decide +kernel
theorem dX12_come_19 : decode cX12_come 19 = .ok (.getfield 17, 3) := by decide +kernel
theorem dX12_come_22 : decode cX12_come 22 = .ok (.invokevirtual 3, 3) := by decide +kernel
theorem dX12_come_25 : decode cX12_come 25 = .ok (.ifCond .ne 6, 3) := by decide +kernel
theorem dX12_come_28 : decode cX12_come 28 = .ok (.bipush (-2), 2) := by decide +kernel
theorem dX12_come_30 : decode cX12_come 30 = .ok (.ireturn, 1) := by decide +kernel
theorem dX12_come_31 : decode cX12_come 31 = .ok (.aload_n 0, 1) := by decide +kernel
theorem dX12_come_32 : decode cX12_come 32 = .ok (.getfield 52, 3) := by decide +kernel
theorem dX12_come_35 : decode cX12_come 35 = .ok (.iload_n 1, 1) := by decide +kernel
theorem dX12_come_36 : decode cX12_come 36 = .ok (.iaload, 1) := by decide +kernel
theorem dX12_come_37 : decode cX12_come 37 = .ok (.ifCond .lt 6, 3) := by decide +kernel
theorem dX12_come_40 : decode cX12_come 40 = .ok (.bipush (-3), 2) := by decide +kernel
theorem dX12_come_42 : decode cX12_come 42 = .ok (.ireturn, 1) := by decide +kernel
theorem dX12_come_43 : decode cX12_come 43 = .ok (.aload_n 0, 1) := by decide +kernel
theorem dX12_come_44 : decode cX12_come 44 = .ok (.getfield 52, 3) := by decide +kernel
theorem dX12_come_47 : decode cX12_come 47 = .ok (.iload_n 1, 1) := by decide +kernel
theorem dX12_come_48 : decode cX12_come 48 = .ok (.iload_n 2, 1) := by decide +kernel
theorem dX12_come_49 : decode cX12_come 49 = .ok (.iastore, 1) := by decide +kernel
theorem dX12_come_50 : decode cX12_come 50 = .ok (.aload_n 0, 1) := by decide +kernel
theorem dX12_come_51 : decode cX12_come 51 = .ok (.getfield 55, 3) := by decide +kernel
theorem dX12_come_54 : decode cX12_come 54 = .ok (.iload_n 1, 1) := by decide +kernel
theorem dX12_come_55 : decode cX12_come 55 = .ok (.aload_n 0, 1) := by decide +kernel
theorem dX12_come_56 : decode cX12_come 56 = .ok (.getfield 17, 3) := by decide +kernel
theorem dX12_come_59 : decode cX12_come 59 = .ok (.iastore, 1) := by decide +kernel
theorem dX12_come_60 : decode cX12_come 60 = .ok (.iconst 1, 1) := by decide +kernel
theorem dX12_come_61 : decode cX12_come 61 = .ok (.ireturn, 1) := by decide +kernel
set_option maxRecDepth 100000 in
set_option maxHeartbeats 4000000 in
theorem c_X12_come {l : Launch} {K : KG} {ad : Nat → Nat → Nat} {fl : Nat} {a1 : Int32} {a2 : Int32} {M0 : Mem} {r9 : Int32} {M9 : Mem} (hf : f_X12_come fl a1 a2 M0 = some (r9, M9)) : Met l yX12_come (Cond.code yX12_come cX12_come 3 (some .int) :: ztb) (RM (3) 0 0) (zPc K LM ad M0 [.ref (ad 0 0), .int a1, .int a2]) (zQ K LM ad (some (.int r9)) M9) 0 0 (zA ad) := by
  refine z_enter (by decide) (Nat.le_of_ble_eq_true rfl) ?_
  intro p e s m args below meth c ls C hin hargs Z hl
  replace C : Cx p s m args meth c cX12_come 3 "GlassPalaceModel" (some .int) := C
  replace hl : lv_has ls 3 [(0, .ref (ad 0 0)), (1, .int a1), (2, .int a2)] := hl
  have hR : 3 ≤ (RM (3) 0 0).frames ∧ 40 * (3) ≤ (RM (3) 0 0).locals := ⟨Nat.le_refl _, Nat.le_refl _⟩
  have hB : 0 ≤ (RM (3) 0 0).cells ∧ 0 ≤ (RM (3) 0 0).slots := ⟨Nat.zero_le _, Nat.zero_le _⟩
  unfold f_X12_come at hf
  refine lv_aload_n C.x C.b dX12_come_0 rfl (lv_at hl 0 rfl) ?_
  refine lv_iload_n C.x C.b dX12_come_1 rfl (lv_at hl 1 rfl) ?_
  replace hf := bn2_s hf; obtain ⟨v2, m1, hkm1, hf⟩ := hf
  refine z_cV (As := [.int a1]) (rest := []) (st1 := [.int v2]) C Z mw_X12_isLot mv_X12_isLot k_1434 (by decide) (z_hR hR (by decide)) (lvM0 Nat.zero_lt_one) kM0 zc12 (c_X12_isLot (l := l) (K := K) (ad := ad) hkm1) rfl hl.1 rfl (Nat.le_of_ble_eq_true rfl) dX12_come_2 hB rfl (fun H locs Z => ?_)
  refine lv_if_ne (tgt := 10) C.x C.b dX12_come_5 (by decide) (fun hc3 => ?_) (fun hc3 => ?_)
  · replace hf := ite_f hf hc3
    refine lv_aload_n C.x C.b dX12_come_10 rfl (lv_at hl 0 rfl) ?_
    refine lv_iload_n C.x C.b dX12_come_11 rfl (lv_at hl 2 rfl) ?_
    refine lv_aload_n C.x C.b dX12_come_12 rfl (lv_at hl 0 rfl) ?_
    refine z_get C Z (lvM0 Nat.zero_lt_one) kM0 zc12 zin12 10 (by decide) k_1186 rfl svM0_10 dX12_come_13 ?_
    refine lv_iload_n C.x C.b dX12_come_16 rfl (lv_at hl 1 rfl) ?_
    replace hf := asr_s hf; obtain ⟨hq4, hf⟩ := hf
    refine z_iald C Z (lvM9 Nat.zero_lt_one) kM9 hq4 svM9 dX12_come_17 ?_
    refine lv_aload_n C.x C.b dX12_come_18 rfl (lv_at hl 0 rfl) ?_
    refine z_get C Z (lvM0 Nat.zero_lt_one) kM0 zc12 zin12 0 (by decide) k_1176 rfl svM0_0 dX12_come_19 ?_
    replace hf := bn2_s hf; obtain ⟨v6, m5, hkm5, hf⟩ := hf
    refine z_cV (As := [.int a2, .int (gI m1 9 0 (Int32.toNatClampNeg a1)), .int (gI m1 0 0 0)]) (rest := []) (st1 := [.int v6]) C Z mw_X12_in mv_X12_in k_1398 (by decide) (z_hR hR (by decide)) (lvM0 Nat.zero_lt_one) kM0 zc12 (c_X12_in (l := l) (K := K) (ad := ad) hkm5) rfl hl.1 rfl (Nat.le_of_ble_eq_true rfl) dX12_come_22 hB rfl (fun H locs Z => ?_)
    refine lv_if_ne (tgt := 31) C.x C.b dX12_come_25 (by decide) (fun hc7 => ?_) (fun hc7 => ?_)
    · replace hf := ite_f hf hc7
      refine lv_aload_n C.x C.b dX12_come_31 rfl (lv_at hl 0 rfl) ?_
      refine z_get C Z (lvM0 Nat.zero_lt_one) kM0 zc12 zin12 11 (by decide) k_1187 rfl svM0_11 dX12_come_32 ?_
      refine lv_iload_n C.x C.b dX12_come_35 rfl (lv_at hl 1 rfl) ?_
      replace hf := asr_s hf; obtain ⟨hq8, hf⟩ := hf
      refine z_iald C Z (lvM10 Nat.zero_lt_one) kM10 hq8 svM10 dX12_come_36 ?_
      refine lv_if_lt (tgt := 43) C.x C.b dX12_come_37 (by decide) (fun hc9 => ?_) (fun hc9 => ?_)
      · replace hf := ite_t hf hc9
        refine lv_aload_n C.x C.b dX12_come_43 rfl (lv_at hl 0 rfl) ?_
        refine z_get C Z (lvM0 Nat.zero_lt_one) kM0 zc12 zin12 11 (by decide) k_1187 rfl svM0_11 dX12_come_44 ?_
        refine lv_iload_n C.x C.b dX12_come_47 rfl (lv_at hl 1 rfl) ?_
        refine lv_iload_n C.x C.b dX12_come_48 rfl (lv_at hl 2 rfl) ?_
        replace hf := asr_s hf; obtain ⟨hq10, hf⟩ := hf
        replace hf := lt1_s hf; obtain ⟨m11, em11, hf⟩ := hf
        refine z_iast (M1 := m11) C Z (lvM10 Nat.zero_lt_one) (by decide) kM10 hq10 em11 stM10u dX12_come_49 (fun H locs Z => ?_)
        refine lv_aload_n C.x C.b dX12_come_50 rfl (lv_at hl 0 rfl) ?_
        refine z_get C Z (lvM0 Nat.zero_lt_one) kM0 zc12 zin12 12 (by decide) k_1188 rfl svM0_12 dX12_come_51 ?_
        refine lv_iload_n C.x C.b dX12_come_54 rfl (lv_at hl 1 rfl) ?_
        refine lv_aload_n C.x C.b dX12_come_55 rfl (lv_at hl 0 rfl) ?_
        refine z_get C Z (lvM0 Nat.zero_lt_one) kM0 zc12 zin12 0 (by decide) k_1176 rfl svM0_0 dX12_come_56 ?_
        replace hf := asr_s hf; obtain ⟨hq12, hf⟩ := hf
        replace hf := lt1_s hf; obtain ⟨m13, em13, hf⟩ := hf
        refine z_iast (M1 := m13) C Z (lvM11 Nat.zero_lt_one) (by decide) kM11 hq12 em13 stM11u dX12_come_59 (fun H locs Z => ?_)
        refine lv_iconst (v := 1) C.x C.b dX12_come_60 (by decide) ?_
        obtain ⟨rfl, rfl⟩ := pr_s hf
        exact z_iret C Z dX12_come_61
      · replace hf := ite_f hf hc9
        refine lv_bipush (v := (-3)) C.x C.b dX12_come_40 (by decide) ?_
        obtain ⟨rfl, rfl⟩ := pr_s hf
        exact z_iret C Z dX12_come_42
    · replace hf := ite_t hf hc7
      refine lv_bipush (v := (-2)) C.x C.b dX12_come_28 (by decide) ?_
      obtain ⟨rfl, rfl⟩ := pr_s hf
      exact z_iret C Z dX12_come_30
  · replace hf := ite_t hf hc3
    refine lv_iconst (v := (-1)) C.x C.b dX12_come_8 (by decide) ?_
    obtain ⟨rfl, rfl⟩ := pr_s hf
    exact z_iret C Z dX12_come_9
theorem dX12_stock_0 : decode cX12_stock 0 = .ok (.aload_n 0, 1) := by decide +kernel
theorem dX12_stock_1 : decode cX12_stock 1 = .ok (.getfield 52, 3) := by decide +kernel
theorem dX12_stock_4 : decode cX12_stock 4 = .ok (.iload_n 1, 1) := by decide +kernel
theorem dX12_stock_5 : decode cX12_stock 5 = .ok (.iaload, 1) := by decide +kernel
theorem dX12_stock_6 : decode cX12_stock 6 = .ok (.ifCond .ge 7, 3) := by decide +kernel
theorem dX12_stock_9 : decode cX12_stock 9 = .ok (.iconst 0, 1) := by decide +kernel
theorem dX12_stock_10 : decode cX12_stock 10 = .ok (.goto 16, 3) := by decide +kernel
theorem dX12_stock_13 : decode cX12_stock 13 = .ok (.aload_n 0, 1) := by decide +kernel
theorem dX12_stock_14 : decode cX12_stock 14 = .ok (.getfield 43, 3) := by decide +kernel
theorem dX12_stock_17 : decode cX12_stock 17 = .ok (.iload_n 1, 1) := by decide +kernel
theorem dX12_stock_18 : decode cX12_stock 18 = .ok (.iaload, 1) := by decide +kernel
theorem dX12_stock_19 : decode cX12_stock 19 = .ok (.aload_n 0, 1) := by decide +kernel
theorem dX12_stock_20 : decode cX12_stock 20 = .ok (.getfield 58, 3) := by decide +kernel
theorem dX12_stock_23 : decode cX12_stock 23 = .ok (.iload_n 1, 1) := by decide +kernel
theorem dX12_stock_24 : decode cX12_stock 24 = .ok (.iaload, 1) := by decide +kernel
theorem dX12_stock_25 : decode cX12_stock 25 = .ok (.isub, 1) := by decide +kernel
theorem dX12_stock_26 : decode cX12_stock 26 = .ok (.ireturn, 1) := by decide +kernel
set_option maxRecDepth 100000 in
set_option maxHeartbeats 4000000 in
theorem c_X12_stock {l : Launch} {K : KG} {ad : Nat → Nat → Nat} {fl : Nat} {a1 : Int32} {M0 : Mem} {r9 : Int32} {M9 : Mem} (hf : f_X12_stock fl a1 M0 = some (r9, M9)) : Met l yX12_stock (Cond.code yX12_stock cX12_stock 2 (some .int) :: ztb) (RM (1) 0 0) (zPc K LM ad M0 [.ref (ad 0 0), .int a1]) (zQ K LM ad (some (.int r9)) M9) 0 0 (zA ad) := by
  refine z_enter (by decide) (Nat.le_of_ble_eq_true rfl) ?_
  intro p e s m args below meth c ls C hin hargs Z hl
  replace C : Cx p s m args meth c cX12_stock 2 "GlassPalaceModel" (some .int) := C
  replace hl : lv_has ls 2 [(0, .ref (ad 0 0)), (1, .int a1)] := hl
  have hR : 1 ≤ (RM (1) 0 0).frames ∧ 40 * (1) ≤ (RM (1) 0 0).locals := ⟨Nat.le_refl _, Nat.le_refl _⟩
  have hB : 0 ≤ (RM (1) 0 0).cells ∧ 0 ≤ (RM (1) 0 0).slots := ⟨Nat.zero_le _, Nat.zero_le _⟩
  unfold f_X12_stock at hf
  refine lv_aload_n C.x C.b dX12_stock_0 rfl (lv_at hl 0 rfl) ?_
  refine z_get C Z (lvM0 Nat.zero_lt_one) kM0 zc12 zin12 11 (by decide) k_1187 rfl svM0_11 dX12_stock_1 ?_
  refine lv_iload_n C.x C.b dX12_stock_4 rfl (lv_at hl 1 rfl) ?_
  replace hf := asr_s hf; obtain ⟨hq1, hf⟩ := hf
  refine z_iald C Z (lvM10 Nat.zero_lt_one) kM10 hq1 svM10 dX12_stock_5 ?_
  refine lv_if_ge (tgt := 13) C.x C.b dX12_stock_6 (by decide) (fun hc2 => ?_) (fun hc2 => ?_)
  · replace hf := ite_t hf hc2
    refine lv_aload_n C.x C.b dX12_stock_13 rfl (lv_at hl 0 rfl) ?_
    refine z_get C Z (lvM0 Nat.zero_lt_one) kM0 zc12 zin12 8 (by decide) k_1184 rfl svM0_8 dX12_stock_14 ?_
    refine lv_iload_n C.x C.b dX12_stock_17 rfl (lv_at hl 1 rfl) ?_
    replace hf := asr_s hf; obtain ⟨hq3, hf⟩ := hf
    refine z_iald C Z (lvM7 Nat.zero_lt_one) kM7 hq3 svM7 dX12_stock_18 ?_
    refine lv_aload_n C.x C.b dX12_stock_19 rfl (lv_at hl 0 rfl) ?_
    refine z_get C Z (lvM0 Nat.zero_lt_one) kM0 zc12 zin12 13 (by decide) k_1189 rfl svM0_13 dX12_stock_20 ?_
    refine lv_iload_n C.x C.b dX12_stock_23 rfl (lv_at hl 1 rfl) ?_
    replace hf := asr_s hf; obtain ⟨hq4, hf⟩ := hf
    refine z_iald C Z (lvM12 Nat.zero_lt_one) kM12 hq4 svM12 dX12_stock_24 ?_
    refine lv_isub C.x C.b dX12_stock_25 ?_
    obtain ⟨rfl, rfl⟩ := pr_s hf
    exact z_iret C Z dX12_stock_26
  · replace hf := ite_f hf hc2
    refine lv_iconst (v := 0) C.x C.b dX12_stock_9 (by decide) ?_
    refine lv_goto (tgt := 26) C.x C.b dX12_stock_10 (by decide) ?_
    obtain ⟨rfl, rfl⟩ := pr_s hf
    exact z_iret C Z dX12_stock_26
theorem dX12_next_0 : decode cX12_next 0 = .ok (.aload_n 0, 1) := by decide +kernel
theorem dX12_next_1 : decode cX12_next 1 = .ok (.getfield 116, 3) := by decide +kernel
theorem dX12_next_4 : decode cX12_next 4 = .ok (.aload_n 0, 1) := by decide +kernel
theorem dX12_next_5 : decode cX12_next 5 = .ok (.getfield 113, 3) := by decide +kernel
theorem dX12_next_8 : decode cX12_next 8 = .ok (.if_icmp .ge 20, 3) := by decide +kernel
theorem dX12_next_11 : decode cX12_next 11 = .ok (.aload_n 0, 1) := by decide +kernel
theorem dX12_next_12 : decode cX12_next 12 = .ok (.getfield 92, 3) := by decide +kernel
theorem dX12_next_15 : decode cX12_next 15 = .ok (.aload_n 0, 1) := by decide +kernel
theorem dX12_next_16 : decode cX12_next 16 = .ok (.getfield 110, 3) := by decide +kernel
theorem dX12_next_19 : decode cX12_next 19 = .ok (.aload_n 0, 1) := by decide +kernel
theorem dX12_next_20 : decode cX12_next 20 = .ok (.getfield 116, 3) := by decide +kernel
theorem dX12_next_23 : decode cX12_next 23 = .ok (.iadd, 1) := by decide +kernel
theorem dX12_next_24 : decode cX12_next 24 = .ok (.iaload, 1) := by decide +kernel
theorem dX12_next_25 : decode cX12_next 25 = .ok (.goto 4, 3) := by decide +kernel
theorem dX12_next_28 : decode cX12_next 28 = .ok (.iconst (-1), 1) := by decide +kernel
theorem dX12_next_29 : decode cX12_next 29 = .ok (.ireturn, 1) := by decide +kernel
set_option maxRecDepth 100000 in
set_option maxHeartbeats 4000000 in
theorem c_X12_next {l : Launch} {K : KG} {ad : Nat → Nat → Nat} {fl : Nat}  {M0 : Mem} {r9 : Int32} {M9 : Mem} (hf : f_X12_next fl  M0 = some (r9, M9)) : Met l yX12_next (Cond.code yX12_next cX12_next 1 (some .int) :: ztb) (RM (1) 0 0) (zPc K LM ad M0 [.ref (ad 0 0)]) (zQ K LM ad (some (.int r9)) M9) 0 0 (zA ad) := by
  refine z_enter (by decide) (Nat.le_of_ble_eq_true rfl) ?_
  intro p e s m args below meth c ls C hin hargs Z hl
  replace C : Cx p s m args meth c cX12_next 1 "GlassPalaceModel" (some .int) := C
  replace hl : lv_has ls 1 [(0, .ref (ad 0 0))] := hl
  have hR : 1 ≤ (RM (1) 0 0).frames ∧ 40 * (1) ≤ (RM (1) 0 0).locals := ⟨Nat.le_refl _, Nat.le_refl _⟩
  have hB : 0 ≤ (RM (1) 0 0).cells ∧ 0 ≤ (RM (1) 0 0).slots := ⟨Nat.zero_le _, Nat.zero_le _⟩
  unfold f_X12_next at hf
  refine lv_aload_n C.x C.b dX12_next_0 rfl (lv_at hl 0 rfl) ?_
  refine z_get C Z (lvM0 Nat.zero_lt_one) kM0 zc12 zin12 32 (by decide) k_1208 rfl svM0_32 dX12_next_1 ?_
  refine lv_aload_n C.x C.b dX12_next_4 rfl (lv_at hl 0 rfl) ?_
  refine z_get C Z (lvM0 Nat.zero_lt_one) kM0 zc12 zin12 31 (by decide) k_1207 rfl svM0_31 dX12_next_5 ?_
  refine lv_icmp_ge (tgt := 28) C.x C.b dX12_next_8 (by decide) (fun hc1 => ?_) (fun hc1 => ?_)
  · replace hf := ite_t hf hc1
    refine lv_iconst (v := (-1)) C.x C.b dX12_next_28 (by decide) ?_
    obtain ⟨rfl, rfl⟩ := pr_s hf
    exact z_iret C Z dX12_next_29
  · replace hf := ite_f hf hc1
    refine lv_aload_n C.x C.b dX12_next_11 rfl (lv_at hl 0 rfl) ?_
    refine z_get C Z (lvM0 Nat.zero_lt_one) kM0 zc12 zin12 24 (by decide) k_1200 rfl svM0_24 dX12_next_12 ?_
    refine lv_aload_n C.x C.b dX12_next_15 rfl (lv_at hl 0 rfl) ?_
    refine z_get C Z (lvM0 Nat.zero_lt_one) kM0 zc12 zin12 30 (by decide) k_1206 rfl svM0_30 dX12_next_16 ?_
    refine lv_aload_n C.x C.b dX12_next_19 rfl (lv_at hl 0 rfl) ?_
    refine z_get C Z (lvM0 Nat.zero_lt_one) kM0 zc12 zin12 32 (by decide) k_1208 rfl svM0_32 dX12_next_20 ?_
    refine lv_iadd C.x C.b dX12_next_23 ?_
    replace hf := asr_s hf; obtain ⟨hq2, hf⟩ := hf
    refine z_iald C Z (lvM20 Nat.zero_lt_one) kM20 hq2 svM20 dX12_next_24 ?_
    refine lv_goto (tgt := 29) C.x C.b dX12_next_25 (by decide) ?_
    obtain ⟨rfl, rfl⟩ := pr_s hf
    exact z_iret C Z dX12_next_29
theorem dX12_takes_0 : decode cX12_takes 0 = .ok (.aload_n 0, 1) := by decide +kernel
theorem dX12_takes_1 : decode cX12_takes 1 = .ok (.invokevirtual 286, 3) := by decide +kernel
theorem dX12_takes_4 : decode cX12_takes 4 = .ok (.iload_n 1, 1) := by decide +kernel
theorem dX12_takes_5 : decode cX12_takes 5 = .ok (.if_icmp .eq 5, 3) := by decide +kernel
theorem dX12_takes_8 : decode cX12_takes 8 = .ok (.iconst 0, 1) := by decide +kernel
theorem dX12_takes_9 : decode cX12_takes 9 = .ok (.ireturn, 1) := by decide +kernel
theorem dX12_takes_10 : decode cX12_takes 10 = .ok (.aload_n 0, 1) := by decide +kernel
theorem dX12_takes_11 : decode cX12_takes 11 = .ok (.dup, 1) := by decide +kernel
theorem dX12_takes_12 : decode cX12_takes 12 = .ok (.getfield 116, 3) := by decide +kernel
theorem dX12_takes_15 : decode cX12_takes 15 = .ok (.iconst 1, 1) := by decide +kernel
theorem dX12_takes_16 : decode cX12_takes 16 = .ok (.iadd, 1) := by decide +kernel
theorem dX12_takes_17 : decode cX12_takes 17 = .ok (.putfield 116, 3) := by decide +kernel
theorem dX12_takes_20 : decode cX12_takes 20 = .ok (.iconst 1, 1) := by decide +kernel
theorem dX12_takes_21 : decode cX12_takes 21 = .ok (.ireturn, 1) := by decide +kernel
set_option maxRecDepth 100000 in
set_option maxHeartbeats 4000000 in
theorem c_X12_takes {l : Launch} {K : KG} {ad : Nat → Nat → Nat} {fl : Nat} {a1 : Int32} {M0 : Mem} {r9 : Int32} {M9 : Mem} (hf : f_X12_takes fl a1 M0 = some (r9, M9)) : Met l yX12_takes (Cond.code yX12_takes cX12_takes 2 (some .boolean) :: ztb) (RM (2) 0 0) (zPc K LM ad M0 [.ref (ad 0 0), .int a1]) (zQ K LM ad (some (.int r9)) M9) 0 0 (zA ad) := by
  refine z_enter (by decide) (Nat.le_of_ble_eq_true rfl) ?_
  intro p e s m args below meth c ls C hin hargs Z hl
  replace C : Cx p s m args meth c cX12_takes 2 "GlassPalaceModel" (some .boolean) := C
  replace hl : lv_has ls 2 [(0, .ref (ad 0 0)), (1, .int a1)] := hl
  have hR : 2 ≤ (RM (2) 0 0).frames ∧ 40 * (2) ≤ (RM (2) 0 0).locals := ⟨Nat.le_refl _, Nat.le_refl _⟩
  have hB : 0 ≤ (RM (2) 0 0).cells ∧ 0 ≤ (RM (2) 0 0).slots := ⟨Nat.zero_le _, Nat.zero_le _⟩
  unfold f_X12_takes at hf
  refine lv_aload_n C.x C.b dX12_takes_0 rfl (lv_at hl 0 rfl) ?_
  replace hf := bn2_s hf; obtain ⟨v2, m1, hkm1, hf⟩ := hf
  refine z_cV (As := []) (rest := []) (st1 := [.int v2]) C Z mw_X12_next mv_X12_next k_1470 (by decide) (z_hR hR (by decide)) (lvM0 Nat.zero_lt_one) kM0 zc12 (c_X12_next (l := l) (K := K) (ad := ad) hkm1) rfl hl.1 rfl (Nat.le_of_ble_eq_true rfl) dX12_takes_1 hB rfl (fun H locs Z => ?_)
  refine lv_iload_n C.x C.b dX12_takes_4 rfl (lv_at hl 1 rfl) ?_
  refine lv_icmp_eq (tgt := 10) C.x C.b dX12_takes_5 (by decide) (fun hc3 => ?_) (fun hc3 => ?_)
  · replace hf := ite_t hf hc3
    refine lv_aload_n C.x C.b dX12_takes_10 rfl (lv_at hl 0 rfl) ?_
    refine lv_dup C.x C.b dX12_takes_11 rfl ?_
    refine z_get C Z (lvM0 Nat.zero_lt_one) kM0 zc12 zin12 32 (by decide) k_1208 rfl svM0_32 dX12_takes_12 ?_
    refine lv_iconst (v := 1) C.x C.b dX12_takes_15 (by decide) ?_
    refine lv_iadd C.x C.b dX12_takes_16 ?_
    replace hf := lt1_s hf; obtain ⟨m4, em4, hf⟩ := hf
    refine z_put (M1 := m4) C Z (lvM0 Nat.zero_lt_one) (by decide) kM0 zc12 zin12 tyX12_ok nmX12 32 (by decide) k_1208 rfl (zUp_I em4 stM0_32u) (Or.inl rfl) rfl rfl dX12_takes_17 (fun H locs Z => ?_)
    refine lv_iconst (v := 1) C.x C.b dX12_takes_20 (by decide) ?_
    obtain ⟨rfl, rfl⟩ := pr_s hf
    exact z_zret C Z rfl dX12_takes_21
  · replace hf := ite_f hf hc3
    refine lv_iconst (v := 0) C.x C.b dX12_takes_8 (by decide) ?_
    obtain ⟨rfl, rfl⟩ := pr_s hf
    exact z_zret C Z rfl dX12_takes_9
theorem dX12_takesWord_0 : decode cX12_takesWord 0 = .ok (.iload_n 2, 1) := by decide +kernel
theorem dX12_takesWord_1 : decode cX12_takesWord 1 = .ok (.iconst 1, 1) := by decide +kernel
theorem dX12_takesWord_2 : decode cX12_takesWord 2 = .ok (.isub, 1) := by decide +kernel
theorem dX12_takesWord_3 : decode cX12_takesWord 3 = .ok (.istore_n 3, 1) := by decide +kernel
theorem dX12_takesWord_4 : decode cX12_takesWord 4 = .ok (.iload_n 3, 1) := by decide +kernel
theorem dX12_takesWord_5 : decode cX12_takesWord 5 = .ok (.ifCond .lt 29, 3) := by decide +kernel
theorem dX12_takesWord_8 : decode cX12_takesWord 8 = .ok (.aload_n 0, 1) := by decide +kernel
theorem dX12_takesWord_9 : decode cX12_takesWord 9 = .ok (.bipush 96, 2) := by decide +kernel
theorem dX12_takesWord_11 : decode cX12_takesWord 11 = .ok (.iload_n 1, 1) := by decide +kernel
theorem dX12_takesWord_12 : decode cX12_takesWord 12 = .ok (.iconst 5, 1) := by decide +kernel
theorem dX12_takesWord_13 : decode cX12_takesWord 13 = .ok (.iload_n 3, 1) := by decide +kernel
theorem dX12_takesWord_14 : decode cX12_takesWord 14 = .ok (.imul, 1) := by decide +kernel
theorem dX12_takesWord_15 : decode cX12_takesWord 15 = .ok (.ishr, 1) := by decide +kernel
theorem dX12_takesWord_16 : decode cX12_takesWord 16 = .ok (.bipush 31, 2) := by decide +kernel
theorem dX12_takesWord_18 : decode cX12_takesWord 18 = .ok (.iand, 1) := by decide +kernel
theorem dX12_takesWord_19 : decode cX12_takesWord 19 = .ok (.iadd, 1) := by decide +kernel
theorem dX12_takesWord_20 : decode cX12_takesWord 20 = .ok (.invokevirtual 290, 3) := by decide +kernel
theorem dX12_takesWord_23 : decode cX12_takesWord 23 = .ok (.ifCond .ne 5, 3) := by decide +kernel
theorem dX12_takesWord_26 : decode cX12_takesWord 26 = .ok (.iconst 0, 1) := by decide +kernel
theorem dX12_takesWord_27 : decode cX12_takesWord 27 = .ok (.ireturn, 1) := by decide +kernel
theorem dX12_takesWord_28 : decode cX12_takesWord 28 = .ok (.iinc 3 (-1), 3) := by decide +kernel
theorem dX12_takesWord_31 : decode cX12_takesWord 31 = .ok (.goto (-27), 3) := by decide +kernel
theorem dX12_takesWord_34 : decode cX12_takesWord 34 = .ok (.aload_n 0, 1) := by decide +kernel
theorem dX12_takesWord_35 : decode cX12_takesWord 35 = .ok (.bipush 32, 2) := by decide +kernel
theorem dX12_takesWord_37 : decode cX12_takesWord 37 = .ok (.invokevirtual 290, 3) := by decide +kernel
theorem dX12_takesWord_40 : decode cX12_takesWord 40 = .ok (.ireturn, 1) := by decide +kernel
set_option maxRecDepth 100000 in
set_option maxHeartbeats 4000000 in
theorem w_X12_takesWord_l4 {p : Program} {l : Launch} {e : Env} {R : Room} {s : State} {m : MethodId} {args : Array Value} {below : List Frame} {meth : Method} {c : Code} {cells slots : Nat} {Q : State → Prop} {K : KG} {ad : Nat → Nat → Nat} {fl : Nat} {g1 : Int32} (C : Cx p s m args meth c cX12_takesWord 4 "GlassPalaceModel" (some .boolean)) (hR : 3 ≤ R.frames ∧ 40 * (3) ≤ R.locals) (hB : cells ≤ R.cells ∧ slots ≤ R.slots) : ∀ (n : Nat) (u3 : Int32) (M0 : Mem) (H : Heap) (locs : List Loc) (ls : Array Slot), Zd K LM ad M0 s H locs → lv_has ls 4 [(0, .ref (ad 0 0)), (1, .int g1), (3, .int u3)] → ∀ (q : Nat) (Mq : Mem), f_X12_takesWord_l4 fl g1 n u3 M0 = some (q, Mq) → (q = 0 → ∀ (H : Heap) (locs : List Loc) (ls : Array Slot), Zd K LM ad Mq s H locs → lv_has ls 4 [] → W p l e R s m args below meth c H locs cells slots Q (F0 m 26 ls [])) → (q = 1 → ∀ (H : Heap) (locs : List Loc) (ls : Array Slot), Zd K LM ad Mq s H locs → lv_has ls 4 [(0, .ref (ad 0 0))] → W p l e R s m args below meth c H locs cells slots Q (F0 m 34 ls [])) → W p l e R s m args below meth c H locs cells slots Q (F0 m 4 ls []) := by
  intro n
  induction n with
  | zero =>
    intro u3 M0 H locs ls Z hl q Mq hf
    have hf : (none : Option (Nat × Mem)) = some (q, Mq) := hf
    cases hf
  | succ n ih =>
    intro u3 M0 H locs ls Z hl q Mq hf kx0 kx1
    replace hf : f_X12_takesWord_l4_b (f_X12_takesWord_l4 fl g1 n) fl g1 u3 M0 = some (q, Mq) := hf
    unfold f_X12_takesWord_l4_b at hf
    refine lv_iload_n C.x C.b dX12_takesWord_4 rfl (lv_at hl 2 rfl) ?_
    refine lv_if_lt (tgt := 34) C.x C.b dX12_takesWord_5 (by decide) (fun hc2 => ?_) (fun hc2 => ?_)
    · replace hf := ite_t hf hc2
      obtain ⟨rfl, rfl⟩ := pr_s hf
      exact kx1 rfl _ _ _ Z (lv_sub hl [0] rfl)
    · replace hf := ite_f hf hc2
      refine lv_aload_n C.x C.b dX12_takesWord_8 rfl (lv_at hl 0 rfl) ?_
      refine lv_bipush (v := 96) C.x C.b dX12_takesWord_9 (by decide) ?_
      refine lv_iload_n C.x C.b dX12_takesWord_11 rfl (lv_at hl 1 rfl) ?_
      refine lv_iconst (v := 5) C.x C.b dX12_takesWord_12 (by decide) ?_
      refine lv_iload_n C.x C.b dX12_takesWord_13 rfl (lv_at hl 2 rfl) ?_
      refine lv_imul C.x C.b dX12_takesWord_14 ?_
      refine z_ishr C dX12_takesWord_15 ?_
      refine lv_bipush (v := 31) C.x C.b dX12_takesWord_16 (by decide) ?_
      refine lv_iand C.x C.b dX12_takesWord_18 ?_
      refine lv_iadd C.x C.b dX12_takesWord_19 ?_
      replace hf := bn2_s hf; obtain ⟨v4, m3, hkm3, hf⟩ := hf
      refine z_cV (As := [.int (96 + ((jshr g1 (5 * u3)) &&& 31))]) (rest := []) (st1 := [.int v4]) C Z mw_X12_takes mv_X12_takes k_1478 (by decide) (z_hR hR (by decide)) (lvM0 Nat.zero_lt_one) kM0 zc12 (c_X12_takes (l := l) (K := K) (ad := ad) hkm3) rfl hl.1 rfl (Nat.le_of_ble_eq_true rfl) dX12_takesWord_20 hB rfl (fun H locs Z => ?_)
      refine lv_if_ne (tgt := 28) C.x C.b dX12_takesWord_23 (by decide) (fun hc5 => ?_) (fun hc5 => ?_)
      · replace hf := ite_f hf hc5
        replace hf := lt1_s hf; obtain ⟨x6, ex6, hf⟩ := hf
        refine z_iinc (v := x6) (lv' := [(3, .int x6), (0, .ref (ad 0 0)), (1, .int g1)]) C dX12_takesWord_28 hl (k := 2) rfl (by rw [ex6]; rfl) (by decide) rfl (nolast rfl) (fun ls hl => ?_)
        refine lv_goto (tgt := 4) C.x C.b dX12_takesWord_31 (by decide) ?_
        exact ih _ _ _ _ _ Z (lv_sub hl [1, 2, 0] rfl) _ _ hf kx0 kx1
      · replace hf := ite_t hf hc5
        obtain ⟨rfl, rfl⟩ := pr_s hf
        exact kx0 rfl _ _ _ Z (lv_sub hl [] rfl)
set_option maxRecDepth 100000 in
set_option maxHeartbeats 4000000 in
theorem c_X12_takesWord {l : Launch} {K : KG} {ad : Nat → Nat → Nat} {fl : Nat} {a1 : Int32} {a2 : Int32} {M0 : Mem} {r9 : Int32} {M9 : Mem} (hf : f_X12_takesWord fl a1 a2 M0 = some (r9, M9)) : Met l yX12_takesWord (Cond.code yX12_takesWord cX12_takesWord 4 (some .boolean) :: ztb) (RM (3) 0 0) (zPc K LM ad M0 [.ref (ad 0 0), .int a1, .int a2]) (zQ K LM ad (some (.int r9)) M9) 0 0 (zA ad) := by
  refine z_enter (by decide) (Nat.le_of_ble_eq_true rfl) ?_
  intro p e s m args below meth c ls C hin hargs Z hl
  replace C : Cx p s m args meth c cX12_takesWord 4 "GlassPalaceModel" (some .boolean) := C
  replace hl : lv_has ls 4 [(0, .ref (ad 0 0)), (1, .int a1), (2, .int a2)] := hl
  have hR : 3 ≤ (RM (3) 0 0).frames ∧ 40 * (3) ≤ (RM (3) 0 0).locals := ⟨Nat.le_refl _, Nat.le_refl _⟩
  have hB : 0 ≤ (RM (3) 0 0).cells ∧ 0 ≤ (RM (3) 0 0).slots := ⟨Nat.zero_le _, Nat.zero_le _⟩
  unfold f_X12_takesWord at hf
  refine lv_iload_n C.x C.b dX12_takesWord_0 rfl (lv_at hl 2 rfl) ?_
  refine lv_iconst (v := 1) C.x C.b dX12_takesWord_1 (by decide) ?_
  refine lv_isub C.x C.b dX12_takesWord_2 ?_
  replace hf := lt1_s hf; obtain ⟨x1, ex1, hf⟩ := hf
  refine z_renI ex1 ?_
  refine z_istore_n (lv' := [(3, .int x1), (0, .ref (ad 0 0)), (1, .int a1), (2, .int a2)]) C dX12_takesWord_3 rfl hl (by decide) rfl (onlast 2 rfl rfl rfl) (fun ls hl => ?_)
  replace hf := bn2_s hf; obtain ⟨q7, m8, hq7, hf⟩ := hf
  refine w_X12_takesWord_l4 C hR hB  fl _ _ _ _ _ Z (lv_sub hl [1, 2, 0] rfl) _ _ hq7 (fun ht H locs ls Z hl => ?_) (fun ht H locs ls Z hl => ?_)
  · replace hf := ite_t hf ht
    refine lv_iconst (v := 0) C.x C.b dX12_takesWord_26 (by decide) ?_
    obtain ⟨rfl, rfl⟩ := pr_s hf
    exact z_zret C Z rfl dX12_takesWord_27
  · replace hf := ite_f hf (by rw [ht]; decide)
    refine lv_aload_n C.x C.b dX12_takesWord_34 rfl (lv_at hl 0 rfl) ?_
    refine lv_bipush (v := 32) C.x C.b dX12_takesWord_35 (by decide) ?_
    replace hf := bn2_s hf; obtain ⟨v10, m9, hkm9, hf⟩ := hf
    refine z_cV (As := [.int 32]) (rest := []) (st1 := [.int v10]) C Z mw_X12_takes mv_X12_takes k_1478 (by decide) (z_hR hR (by decide)) (lvM0 Nat.zero_lt_one) kM0 zc12 (c_X12_takes (l := l) (K := K) (ad := ad) hkm9) rfl hl.1 rfl (Nat.le_of_ble_eq_true rfl) dX12_takesWord_37 hB rfl (fun H locs Z => ?_)
    replace hf := asr_s hf; obtain ⟨hq11, hf⟩ := hf
    obtain ⟨rfl, rfl⟩ := pr_s hf
    exact z_zret C Z (jz01 hq11) dX12_takesWord_40
theorem dX12_takesAnyWord_0 : decode cX12_takesAnyWord 0 = .ok (.aload_n 0, 1) := by decide +kernel
theorem dX12_takesAnyWord_1 : decode cX12_takesAnyWord 1 = .ok (.invokevirtual 286, 3) := by decide +kernel
theorem dX12_takesAnyWord_4 : decode cX12_takesAnyWord 4 = .ok (.istore_n 1, 1) := by decide +kernel
theorem dX12_takesAnyWord_5 : decode cX12_takesAnyWord 5 = .ok (.aload_n 0, 1) := by decide +kernel
theorem dX12_takesAnyWord_6 : decode cX12_takesAnyWord 6 = .ok (.getfield 116, 3) := by decide +kernel
theorem dX12_takesAnyWord_9 : decode cX12_takesAnyWord 9 = .ok (.iconst 2, 1) := by decide +kernel
theorem dX12_takesAnyWord_10 : decode cX12_takesAnyWord 10 = .ok (.iadd, 1) := by decide +kernel
theorem dX12_takesAnyWord_11 : decode cX12_takesAnyWord 11 = .ok (.aload_n 0, 1) := by decide +kernel
theorem dX12_takesAnyWord_12 : decode cX12_takesAnyWord 12 = .ok (.getfield 113, 3) := by decide +kernel
theorem dX12_takesAnyWord_15 : decode cX12_takesAnyWord 15 = .ok (.if_icmp .ge 22, 3) := by decide +kernel
theorem dX12_takesAnyWord_18 : decode cX12_takesAnyWord 18 = .ok (.aload_n 0, 1) := by decide +kernel
theorem dX12_takesAnyWord_19 : decode cX12_takesAnyWord 19 = .ok (.getfield 92, 3) := by decide +kernel
theorem dX12_takesAnyWord_22 : decode cX12_takesAnyWord 22 = .ok (.aload_n 0, 1) := by decide +kernel
theorem dX12_takesAnyWord_23 : decode cX12_takesAnyWord 23 = .ok (.getfield 110, 3) := by decide +kernel
theorem dX12_takesAnyWord_26 : decode cX12_takesAnyWord 26 = .ok (.aload_n 0, 1) := by decide +kernel
theorem dX12_takesAnyWord_27 : decode cX12_takesAnyWord 27 = .ok (.getfield 116, 3) := by decide +kernel
theorem dX12_takesAnyWord_30 : decode cX12_takesAnyWord 30 = .ok (.iadd, 1) := by decide +kernel
theorem dX12_takesAnyWord_31 : decode cX12_takesAnyWord 31 = .ok (.iconst 2, 1) := by decide +kernel
theorem dX12_takesAnyWord_32 : decode cX12_takesAnyWord 32 = .ok (.iadd, 1) := by decide +kernel
theorem dX12_takesAnyWord_33 : decode cX12_takesAnyWord 33 = .ok (.iaload, 1) := by decide +kernel
theorem dX12_takesAnyWord_34 : decode cX12_takesAnyWord 34 = .ok (.goto 4, 3) := by decide +kernel
theorem dX12_takesAnyWord_37 : decode cX12_takesAnyWord 37 = .ok (.iconst (-1), 1) := by decide +kernel
theorem dX12_takesAnyWord_38 : decode cX12_takesAnyWord 38 = .ok (.istore_n 2, 1) := by decide +kernel
theorem dX12_takesAnyWord_39 : decode cX12_takesAnyWord 39 = .ok (.iload_n 1, 1) := by decide +kernel
theorem dX12_takesAnyWord_40 : decode cX12_takesAnyWord 40 = .ok (.lookupswitch 160 #[(98, 143), (99, 126), (108, 92), (112, 52), (115, 109)], 52) := by decide +kernel
theorem dX12_takesAnyWord_92 : decode cX12_takesAnyWord 92 = .ok (.iload_n 2, 1) := by decide +kernel
theorem dX12_takesAnyWord_93 : decode cX12_takesAnyWord 93 = .ok (.bipush 121, 2) := by decide +kernel
theorem dX12_takesAnyWord_95 : decode cX12_takesAnyWord 95 = .ok (.if_icmp .ne 20, 3) := by decide +kernel
theorem dX12_takesAnyWord_98 : decode cX12_takesAnyWord 98 = .ok (.aload_n 0, 1) := by decide +kernel
theorem dX12_takesAnyWord_99 : decode cX12_takesAnyWord 99 = .ok (.sipush 16441, 3) := by decide +kernel
theorem dX12_takesAnyWord_102 : decode cX12_takesAnyWord 102 = .ok (.iconst 3, 1) := by decide +kernel
theorem dX12_takesAnyWord_103 : decode cX12_takesAnyWord 103 = .ok (.invokevirtual 311, 3) := by decide +kernel
theorem dX12_takesAnyWord_106 : decode cX12_takesAnyWord 106 = .ok (.ifCond .eq 7, 3) := by decide +kernel
theorem dX12_takesAnyWord_109 : decode cX12_takesAnyWord 109 = .ok (.iconst 1, 1) := by decide +kernel
theorem dX12_takesAnyWord_110 : decode cX12_takesAnyWord 110 = .ok (.goto 4, 3) := by decide +kernel
theorem dX12_takesAnyWord_113 : decode cX12_takesAnyWord 113 = .ok (.iconst (-1), 1) := by decide +kernel
theorem dX12_takesAnyWord_114 : decode cX12_takesAnyWord 114 = .ok (.ireturn, 1) := by decide +kernel
theorem dX12_takesAnyWord_115 : decode cX12_takesAnyWord 115 = .ok (.aload_n 0, 1) := by decide +kernel
theorem dX12_takesAnyWord_116 : decode cX12_takesAnyWord 116 = .ok (.ldc_w 314, 3) := by decide +kernel
theorem dX12_takesAnyWord_119 : decode cX12_takesAnyWord 119 = .ok (.iconst 4, 1) := by decide +kernel
theorem dX12_takesAnyWord_120 : decode cX12_takesAnyWord 120 = .ok (.invokevirtual 311, 3) := by decide +kernel
theorem dX12_takesAnyWord_123 : decode cX12_takesAnyWord 123 = .ok (.ifCond .eq 7, 3) := by decide +kernel
theorem dX12_takesAnyWord_126 : decode cX12_takesAnyWord 126 = .ok (.iconst 0, 1) := by decide +kernel
theorem dX12_takesAnyWord_127 : decode cX12_takesAnyWord 127 = .ok (.goto 4, 3) := by decide +kernel
theorem dX12_takesAnyWord_130 : decode cX12_takesAnyWord 130 = .ok (.iconst (-1), 1) := by decide +kernel
theorem dX12_takesAnyWord_131 : decode cX12_takesAnyWord 131 = .ok (.ireturn, 1) := by decide +kernel
theorem dX12_takesAnyWord_132 : decode cX12_takesAnyWord 132 = .ok (.aload_n 0, 1) := by decide +kernel
theorem dX12_takesAnyWord_133 : decode cX12_takesAnyWord 133 = .ok (.ldc_w 315, 3) := by decide +kernel
theorem dX12_takesAnyWord_136 : decode cX12_takesAnyWord 136 = .ok (.iconst 4, 1) := by decide +kernel
theorem dX12_takesAnyWord_137 : decode cX12_takesAnyWord 137 = .ok (.invokevirtual 311, 3) := by decide +kernel
theorem dX12_takesAnyWord_140 : decode cX12_takesAnyWord 140 = .ok (.ifCond .eq 7, 3) := by decide +kernel
theorem dX12_takesAnyWord_143 : decode cX12_takesAnyWord 143 = .ok (.iconst 2, 1) := by decide +kernel
theorem dX12_takesAnyWord_144 : decode cX12_takesAnyWord 144 = .ok (.goto 4, 3) := by decide +kernel
theorem dX12_takesAnyWord_147 : decode cX12_takesAnyWord 147 = .ok (.iconst (-1), 1) := by decide +kernel
theorem dX12_takesAnyWord_148 : decode cX12_takesAnyWord 148 = .ok (.ireturn, 1) := by decide +kernel
theorem dX12_takesAnyWord_149 : decode cX12_takesAnyWord 149 = .ok (.aload_n 0, 1) := by decide +kernel
theorem dX12_takesAnyWord_150 : decode cX12_takesAnyWord 150 = .ok (.ldc_w 316, 3) := by decide +kernel
theorem dX12_takesAnyWord_153 : decode cX12_takesAnyWord 153 = .ok (.iconst 4, 1) := by decide +kernel
theorem dX12_takesAnyWord_154 : decode cX12_takesAnyWord 154 = .ok (.invokevirtual 311, 3) := by decide +kernel
theorem dX12_takesAnyWord_157 : decode cX12_takesAnyWord 157 = .ok (.ifCond .eq 7, 3) := by decide +kernel
theorem dX12_takesAnyWord_160 : decode cX12_takesAnyWord 160 = .ok (.iconst 3, 1) := by decide +kernel
theorem dX12_takesAnyWord_161 : decode cX12_takesAnyWord 161 = .ok (.goto 4, 3) := by decide +kernel
theorem dX12_takesAnyWord_164 : decode cX12_takesAnyWord 164 = .ok (.iconst (-1), 1) := by decide +kernel
theorem dX12_takesAnyWord_165 : decode cX12_takesAnyWord 165 = .ok (.ireturn, 1) := by decide +kernel
theorem dX12_takesAnyWord_166 : decode cX12_takesAnyWord 166 = .ok (.aload_n 0, 1) := by decide +kernel
theorem dX12_takesAnyWord_167 : decode cX12_takesAnyWord 167 = .ok (.sipush 3764, 3) := by decide +kernel
theorem dX12_takesAnyWord_170 : decode cX12_takesAnyWord 170 = .ok (.iconst 3, 1) := by decide +kernel
theorem dX12_takesAnyWord_171 : decode cX12_takesAnyWord 171 = .ok (.invokevirtual 311, 3) := by decide +kernel
theorem dX12_takesAnyWord_174 : decode cX12_takesAnyWord 174 = .ok (.ifCond .eq 7, 3) := by decide +kernel
theorem dX12_takesAnyWord_177 : decode cX12_takesAnyWord 177 = .ok (.iconst 4, 1) := by decide +kernel
theorem dX12_takesAnyWord_178 : decode cX12_takesAnyWord 178 = .ok (.goto 4, 3) := by decide +kernel
theorem dX12_takesAnyWord_181 : decode cX12_takesAnyWord 181 = .ok (.iconst (-1), 1) := by decide +kernel
theorem dX12_takesAnyWord_182 : decode cX12_takesAnyWord 182 = .ok (.ireturn, 1) := by decide +kernel
theorem dX12_takesAnyWord_183 : decode cX12_takesAnyWord 183 = .ok (.aload_n 0, 1) := by decide +kernel
theorem dX12_takesAnyWord_184 : decode cX12_takesAnyWord 184 = .ok (.sipush 2098, 3) := by decide +kernel
theorem dX12_takesAnyWord_187 : decode cX12_takesAnyWord 187 = .ok (.iconst 3, 1) := by decide +kernel
theorem dX12_takesAnyWord_188 : decode cX12_takesAnyWord 188 = .ok (.invokevirtual 311, 3) := by decide +kernel
theorem dX12_takesAnyWord_191 : decode cX12_takesAnyWord 191 = .ok (.ifCond .eq 7, 3) := by decide +kernel
theorem dX12_takesAnyWord_194 : decode cX12_takesAnyWord 194 = .ok (.iconst 5, 1) := by decide +kernel
theorem dX12_takesAnyWord_195 : decode cX12_takesAnyWord 195 = .ok (.goto 4, 3) := by decide +kernel
theorem dX12_takesAnyWord_198 : decode cX12_takesAnyWord 198 = .ok (.iconst (-1), 1) := by decide +kernel
theorem dX12_takesAnyWord_199 : decode cX12_takesAnyWord 199 = .ok (.ireturn, 1) := by decide +kernel
theorem dX12_takesAnyWord_200 : decode cX12_takesAnyWord 200 = .ok (.iconst (-1), 1) := by decide +kernel
theorem dX12_takesAnyWord_201 : decode cX12_takesAnyWord 201 = .ok (.ireturn, 1) := by decide +kernel
set_option maxRecDepth 100000 in
set_option maxHeartbeats 4000000 in
theorem w_X12_takesAnyWord_b38 {p : Program} {l : Launch} {e : Env} {s : State} {m : MethodId} {args : Array Value} {below : List Frame} {meth : Method} {c : Code} {K : KG} {ad : Nat → Nat → Nat} {fl : Nat} {H : Heap} {locs : List Loc} {ls : Array Slot} {g1 : Int32} {z0 : Int32} {M0 : Mem} {r9 : Int32} {M9 : Mem} (C : Cx p s m args meth c cX12_takesAnyWord 3 "GlassPalaceModel" (some .int)) (hR : 4 ≤ (RM (4) 0 0).frames ∧ 40 * (4) ≤ (RM (4) 0 0).locals) (hB : 0 ≤ (RM (4) 0 0).cells ∧ 0 ≤ (RM (4) 0 0).slots) (Z : Zd K LM ad M0 s H locs) (hl : lv_has ls 3 [(0, .ref (ad 0 0)), (1, .int g1)]) (hf : f_X12_takesAnyWord_b38 fl g1 z0 M0 = some (r9, M9)) : W p l e (RM (4) 0 0) s m args below meth c H locs 0 0 (MQ below (zQ K LM ad (some (.int r9)) M9) args s 0 0 (zA ad)) (F0 m 38 ls [.int z0]) := by
  unfold f_X12_takesAnyWord_b38 at hf
  refine z_istore_n (lv' := [(2, .int z0), (0, .ref (ad 0 0)), (1, .int g1)]) C dX12_takesAnyWord_38 rfl hl (by decide) rfl (onlast 1 rfl rfl rfl) (fun ls hl => ?_)
  refine lv_iload_n C.x C.b dX12_takesAnyWord_39 rfl (lv_at hl 2 rfl) ?_
  by_cases hx5 : g1 = 98
  · replace hf := ite_t hf hx5
    refine lv_lookup (tgt := 183) (off := 143) C.x C.b dX12_takesAnyWord_40 (by decide) (by rw [hx5]; rfl) (by decide) ?_
    refine lv_aload_n C.x C.b dX12_takesAnyWord_183 rfl (lv_at hl 1 rfl) ?_
    refine lv_sipush (v := 2098) C.x C.b dX12_takesAnyWord_184 (by decide) ?_
    refine lv_iconst (v := 3) C.x C.b dX12_takesAnyWord_187 (by decide) ?_
    replace hf := bn2_s hf; obtain ⟨v7, m6, hkm6, hf⟩ := hf
    refine z_cV (As := [.int 2098, .int 3]) (rest := []) (st1 := [.int v7]) C Z mw_X12_takesWord mv_X12_takesWord k_1474 (by decide) (z_hR hR (by decide)) (lvM0 Nat.zero_lt_one) kM0 zc12 (c_X12_takesWord (l := l) (K := K) (ad := ad) hkm6) rfl hl.1 rfl (Nat.le_of_ble_eq_true rfl) dX12_takesAnyWord_188 hB rfl (fun H locs Z => ?_)
    refine lv_if_eq (tgt := 198) C.x C.b dX12_takesAnyWord_191 (by decide) (fun hc8 => ?_) (fun hc8 => ?_)
    · replace hf := ite_t hf hc8
      refine lv_iconst (v := (-1)) C.x C.b dX12_takesAnyWord_198 (by decide) ?_
      obtain ⟨rfl, rfl⟩ := pr_s hf
      exact z_iret C Z dX12_takesAnyWord_199
    · replace hf := ite_f hf hc8
      refine lv_iconst (v := 5) C.x C.b dX12_takesAnyWord_194 (by decide) ?_
      refine lv_goto (tgt := 199) C.x C.b dX12_takesAnyWord_195 (by decide) ?_
      obtain ⟨rfl, rfl⟩ := pr_s hf
      exact z_iret C Z dX12_takesAnyWord_199
  replace hf := ite_f hf hx5
  by_cases hx9 : g1 = 99
  · replace hf := ite_t hf hx9
    refine lv_lookup (tgt := 166) (off := 126) C.x C.b dX12_takesAnyWord_40 (by decide) (by rw [hx9]; rfl) (by decide) ?_
    refine lv_aload_n C.x C.b dX12_takesAnyWord_166 rfl (lv_at hl 1 rfl) ?_
    refine lv_sipush (v := 3764) C.x C.b dX12_takesAnyWord_167 (by decide) ?_
    refine lv_iconst (v := 3) C.x C.b dX12_takesAnyWord_170 (by decide) ?_
    replace hf := bn2_s hf; obtain ⟨v11, m10, hkm10, hf⟩ := hf
    refine z_cV (As := [.int 3764, .int 3]) (rest := []) (st1 := [.int v11]) C Z mw_X12_takesWord mv_X12_takesWord k_1474 (by decide) (z_hR hR (by decide)) (lvM0 Nat.zero_lt_one) kM0 zc12 (c_X12_takesWord (l := l) (K := K) (ad := ad) hkm10) rfl hl.1 rfl (Nat.le_of_ble_eq_true rfl) dX12_takesAnyWord_171 hB rfl (fun H locs Z => ?_)
    refine lv_if_eq (tgt := 181) C.x C.b dX12_takesAnyWord_174 (by decide) (fun hc12 => ?_) (fun hc12 => ?_)
    · replace hf := ite_t hf hc12
      refine lv_iconst (v := (-1)) C.x C.b dX12_takesAnyWord_181 (by decide) ?_
      obtain ⟨rfl, rfl⟩ := pr_s hf
      exact z_iret C Z dX12_takesAnyWord_182
    · replace hf := ite_f hf hc12
      refine lv_iconst (v := 4) C.x C.b dX12_takesAnyWord_177 (by decide) ?_
      refine lv_goto (tgt := 182) C.x C.b dX12_takesAnyWord_178 (by decide) ?_
      obtain ⟨rfl, rfl⟩ := pr_s hf
      exact z_iret C Z dX12_takesAnyWord_182
  replace hf := ite_f hf hx9
  by_cases hx13 : g1 = 108
  · replace hf := ite_t hf hx13
    refine lv_lookup (tgt := 132) (off := 92) C.x C.b dX12_takesAnyWord_40 (by decide) (by rw [hx13]; rfl) (by decide) ?_
    refine lv_aload_n C.x C.b dX12_takesAnyWord_132 rfl (lv_at hl 1 rfl) ?_
    refine lv_ldcw (v := 408612) C.x C.b C.o (C.w k_1483) dX12_takesAnyWord_133 ?_
    refine lv_iconst (v := 4) C.x C.b dX12_takesAnyWord_136 (by decide) ?_
    replace hf := bn2_s hf; obtain ⟨v15, m14, hkm14, hf⟩ := hf
    refine z_cV (As := [.int 408612, .int 4]) (rest := []) (st1 := [.int v15]) C Z mw_X12_takesWord mv_X12_takesWord k_1474 (by decide) (z_hR hR (by decide)) (lvM0 Nat.zero_lt_one) kM0 zc12 (c_X12_takesWord (l := l) (K := K) (ad := ad) hkm14) rfl hl.1 rfl (Nat.le_of_ble_eq_true rfl) dX12_takesAnyWord_137 hB rfl (fun H locs Z => ?_)
    refine lv_if_eq (tgt := 147) C.x C.b dX12_takesAnyWord_140 (by decide) (fun hc16 => ?_) (fun hc16 => ?_)
    · replace hf := ite_t hf hc16
      refine lv_iconst (v := (-1)) C.x C.b dX12_takesAnyWord_147 (by decide) ?_
      obtain ⟨rfl, rfl⟩ := pr_s hf
      exact z_iret C Z dX12_takesAnyWord_148
    · replace hf := ite_f hf hc16
      refine lv_iconst (v := 2) C.x C.b dX12_takesAnyWord_143 (by decide) ?_
      refine lv_goto (tgt := 148) C.x C.b dX12_takesAnyWord_144 (by decide) ?_
      obtain ⟨rfl, rfl⟩ := pr_s hf
      exact z_iret C Z dX12_takesAnyWord_148
  replace hf := ite_f hf hx13
  by_cases hx17 : g1 = 112
  · replace hf := ite_t hf hx17
    refine lv_lookup (tgt := 92) (off := 52) C.x C.b dX12_takesAnyWord_40 (by decide) (by rw [hx17]; rfl) (by decide) ?_
    refine lv_iload_n C.x C.b dX12_takesAnyWord_92 rfl (lv_at hl 0 rfl) ?_
    refine lv_bipush (v := 121) C.x C.b dX12_takesAnyWord_93 (by decide) ?_
    refine lv_icmp_ne (tgt := 115) C.x C.b dX12_takesAnyWord_95 (by decide) (fun hc18 => ?_) (fun hc18 => ?_)
    · replace hf := ite_f hf hc18
      refine lv_aload_n C.x C.b dX12_takesAnyWord_115 rfl (lv_at hl 1 rfl) ?_
      refine lv_ldcw (v := 525419) C.x C.b C.o (C.w k_1482) dX12_takesAnyWord_116 ?_
      refine lv_iconst (v := 4) C.x C.b dX12_takesAnyWord_119 (by decide) ?_
      replace hf := bn2_s hf; obtain ⟨v20, m19, hkm19, hf⟩ := hf
      refine z_cV (As := [.int 525419, .int 4]) (rest := []) (st1 := [.int v20]) C Z mw_X12_takesWord mv_X12_takesWord k_1474 (by decide) (z_hR hR (by decide)) (lvM0 Nat.zero_lt_one) kM0 zc12 (c_X12_takesWord (l := l) (K := K) (ad := ad) hkm19) rfl hl.1 rfl (Nat.le_of_ble_eq_true rfl) dX12_takesAnyWord_120 hB rfl (fun H locs Z => ?_)
      refine lv_if_eq (tgt := 130) C.x C.b dX12_takesAnyWord_123 (by decide) (fun hc21 => ?_) (fun hc21 => ?_)
      · replace hf := ite_t hf hc21
        refine lv_iconst (v := (-1)) C.x C.b dX12_takesAnyWord_130 (by decide) ?_
        obtain ⟨rfl, rfl⟩ := pr_s hf
        exact z_iret C Z dX12_takesAnyWord_131
      · replace hf := ite_f hf hc21
        refine lv_iconst (v := 0) C.x C.b dX12_takesAnyWord_126 (by decide) ?_
        refine lv_goto (tgt := 131) C.x C.b dX12_takesAnyWord_127 (by decide) ?_
        obtain ⟨rfl, rfl⟩ := pr_s hf
        exact z_iret C Z dX12_takesAnyWord_131
    · replace hf := ite_t hf hc18
      refine lv_aload_n C.x C.b dX12_takesAnyWord_98 rfl (lv_at hl 1 rfl) ?_
      refine lv_sipush (v := 16441) C.x C.b dX12_takesAnyWord_99 (by decide) ?_
      refine lv_iconst (v := 3) C.x C.b dX12_takesAnyWord_102 (by decide) ?_
      replace hf := bn2_s hf; obtain ⟨v23, m22, hkm22, hf⟩ := hf
      refine z_cV (As := [.int 16441, .int 3]) (rest := []) (st1 := [.int v23]) C Z mw_X12_takesWord mv_X12_takesWord k_1474 (by decide) (z_hR hR (by decide)) (lvM0 Nat.zero_lt_one) kM0 zc12 (c_X12_takesWord (l := l) (K := K) (ad := ad) hkm22) rfl hl.1 rfl (Nat.le_of_ble_eq_true rfl) dX12_takesAnyWord_103 hB rfl (fun H locs Z => ?_)
      refine lv_if_eq (tgt := 113) C.x C.b dX12_takesAnyWord_106 (by decide) (fun hc24 => ?_) (fun hc24 => ?_)
      · replace hf := ite_t hf hc24
        refine lv_iconst (v := (-1)) C.x C.b dX12_takesAnyWord_113 (by decide) ?_
        obtain ⟨rfl, rfl⟩ := pr_s hf
        exact z_iret C Z dX12_takesAnyWord_114
      · replace hf := ite_f hf hc24
        refine lv_iconst (v := 1) C.x C.b dX12_takesAnyWord_109 (by decide) ?_
        refine lv_goto (tgt := 114) C.x C.b dX12_takesAnyWord_110 (by decide) ?_
        obtain ⟨rfl, rfl⟩ := pr_s hf
        exact z_iret C Z dX12_takesAnyWord_114
  replace hf := ite_f hf hx17
  by_cases hx25 : g1 = 115
  · replace hf := ite_t hf hx25
    refine lv_lookup (tgt := 149) (off := 109) C.x C.b dX12_takesAnyWord_40 (by decide) (by rw [hx25]; rfl) (by decide) ?_
    refine lv_aload_n C.x C.b dX12_takesAnyWord_149 rfl (lv_at hl 1 rfl) ?_
    refine lv_ldcw (v := 637431) C.x C.b C.o (C.w k_1484) dX12_takesAnyWord_150 ?_
    refine lv_iconst (v := 4) C.x C.b dX12_takesAnyWord_153 (by decide) ?_
    replace hf := bn2_s hf; obtain ⟨v27, m26, hkm26, hf⟩ := hf
    refine z_cV (As := [.int 637431, .int 4]) (rest := []) (st1 := [.int v27]) C Z mw_X12_takesWord mv_X12_takesWord k_1474 (by decide) (z_hR hR (by decide)) (lvM0 Nat.zero_lt_one) kM0 zc12 (c_X12_takesWord (l := l) (K := K) (ad := ad) hkm26) rfl hl.1 rfl (Nat.le_of_ble_eq_true rfl) dX12_takesAnyWord_154 hB rfl (fun H locs Z => ?_)
    refine lv_if_eq (tgt := 164) C.x C.b dX12_takesAnyWord_157 (by decide) (fun hc28 => ?_) (fun hc28 => ?_)
    · replace hf := ite_t hf hc28
      refine lv_iconst (v := (-1)) C.x C.b dX12_takesAnyWord_164 (by decide) ?_
      obtain ⟨rfl, rfl⟩ := pr_s hf
      exact z_iret C Z dX12_takesAnyWord_165
    · replace hf := ite_f hf hc28
      refine lv_iconst (v := 3) C.x C.b dX12_takesAnyWord_160 (by decide) ?_
      refine lv_goto (tgt := 165) C.x C.b dX12_takesAnyWord_161 (by decide) ?_
      obtain ⟨rfl, rfl⟩ := pr_s hf
      exact z_iret C Z dX12_takesAnyWord_165
  replace hf := ite_f hf hx25
  refine lv_lookup (tgt := 200) (off := 160) C.x C.b dX12_takesAnyWord_40 (by decide) (by show Op.lookupswitch.offset [(98, 143), (99, 126), (108, 92), (112, 52), (115, 109)] 160 _ = 160; rw [lv_osw (a := 98) hx5 (by decide), lv_osw (a := 99) hx9 (by decide), lv_osw (a := 108) hx13 (by decide), lv_osw (a := 112) hx17 (by decide), lv_osw (a := 115) hx25 (by decide)]; rfl) (by decide) ?_
  refine lv_iconst (v := (-1)) C.x C.b dX12_takesAnyWord_200 (by decide) ?_
  obtain ⟨rfl, rfl⟩ := pr_s hf
  exact z_iret C Z dX12_takesAnyWord_201
set_option maxRecDepth 100000 in
set_option maxHeartbeats 4000000 in
theorem c_X12_takesAnyWord {l : Launch} {K : KG} {ad : Nat → Nat → Nat} {fl : Nat}  {M0 : Mem} {r9 : Int32} {M9 : Mem} (hf : f_X12_takesAnyWord fl  M0 = some (r9, M9)) : Met l yX12_takesAnyWord (Cond.code yX12_takesAnyWord cX12_takesAnyWord 3 (some .int) :: ztb) (RM (4) 0 0) (zPc K LM ad M0 [.ref (ad 0 0)]) (zQ K LM ad (some (.int r9)) M9) 0 0 (zA ad) := by
  refine z_enter (by decide) (Nat.le_of_ble_eq_true rfl) ?_
  intro p e s m args below meth c ls C hin hargs Z hl
  replace C : Cx p s m args meth c cX12_takesAnyWord 3 "GlassPalaceModel" (some .int) := C
  replace hl : lv_has ls 3 [(0, .ref (ad 0 0))] := hl
  have hR : 4 ≤ (RM (4) 0 0).frames ∧ 40 * (4) ≤ (RM (4) 0 0).locals := ⟨Nat.le_refl _, Nat.le_refl _⟩
  have hB : 0 ≤ (RM (4) 0 0).cells ∧ 0 ≤ (RM (4) 0 0).slots := ⟨Nat.zero_le _, Nat.zero_le _⟩
  unfold f_X12_takesAnyWord at hf
  refine lv_aload_n C.x C.b dX12_takesAnyWord_0 rfl (lv_at hl 0 rfl) ?_
  replace hf := bn2_s hf; obtain ⟨v2, m1, hkm1, hf⟩ := hf
  refine z_cV (As := []) (rest := []) (st1 := [.int v2]) C Z mw_X12_next mv_X12_next k_1470 (by decide) (z_hR hR (by decide)) (lvM0 Nat.zero_lt_one) kM0 zc12 (c_X12_next (l := l) (K := K) (ad := ad) hkm1) rfl hl.1 rfl (Nat.le_of_ble_eq_true rfl) dX12_takesAnyWord_1 hB rfl (fun H locs Z => ?_)
  refine z_istore_n (lv' := [(1, .int v2), (0, .ref (ad 0 0))]) C dX12_takesAnyWord_4 rfl hl (by decide) rfl (onlast 0 rfl rfl rfl) (fun ls hl => ?_)
  refine lv_aload_n C.x C.b dX12_takesAnyWord_5 rfl (lv_at hl 1 rfl) ?_
  refine z_get C Z (lvM0 Nat.zero_lt_one) kM0 zc12 zin12 32 (by decide) k_1208 rfl svM0_32 dX12_takesAnyWord_6 ?_
  refine lv_iconst (v := 2) C.x C.b dX12_takesAnyWord_9 (by decide) ?_
  refine lv_iadd C.x C.b dX12_takesAnyWord_10 ?_
  refine lv_aload_n C.x C.b dX12_takesAnyWord_11 rfl (lv_at hl 1 rfl) ?_
  refine z_get C Z (lvM0 Nat.zero_lt_one) kM0 zc12 zin12 31 (by decide) k_1207 rfl svM0_31 dX12_takesAnyWord_12 ?_
  replace hf := bn2_s hf; obtain ⟨q3, m4, hq3, hf⟩ := hf
  have kq3 : ∀ (H : Heap) (locs : List Loc) (ls : Array Slot), Zd K LM ad m4 s H locs → lv_has ls 3 [(0, .ref (ad 0 0)), (1, .int v2)] → W p l e (RM (4) 0 0) s m args below meth c H locs 0 0 (MQ below (zQ K LM ad (some (.int r9)) M9) args s 0 0 (zA ad)) (F0 m 38 ls [.int q3]) := by
    intro H locs ls Z hl
    exact w_X12_takesAnyWord_b38 C hR hB  Z (lv_sub hl [0, 1] rfl) hf
  clear hf
  refine lv_icmp_ge (tgt := 37) C.x C.b dX12_takesAnyWord_15 (by decide) (fun hc29 => ?_) (fun hc29 => ?_)
  · have hf := ite_t hq3 hc29; clear hq3
    refine lv_iconst (v := (-1)) C.x C.b dX12_takesAnyWord_37 (by decide) ?_
    obtain ⟨rfl, rfl⟩ := pr_s hf
    exact kq3 _ _ _ Z (lv_sub hl [1, 0] rfl)
  · have hf := ite_f hq3 hc29; clear hq3
    refine lv_aload_n C.x C.b dX12_takesAnyWord_18 rfl (lv_at hl 1 rfl) ?_
    refine z_get C Z (lvM0 Nat.zero_lt_one) kM0 zc12 zin12 24 (by decide) k_1200 rfl svM0_24 dX12_takesAnyWord_19 ?_
    refine lv_aload_n C.x C.b dX12_takesAnyWord_22 rfl (lv_at hl 1 rfl) ?_
    refine z_get C Z (lvM0 Nat.zero_lt_one) kM0 zc12 zin12 30 (by decide) k_1206 rfl svM0_30 dX12_takesAnyWord_23 ?_
    refine lv_aload_n C.x C.b dX12_takesAnyWord_26 rfl (lv_at hl 1 rfl) ?_
    refine z_get C Z (lvM0 Nat.zero_lt_one) kM0 zc12 zin12 32 (by decide) k_1208 rfl svM0_32 dX12_takesAnyWord_27 ?_
    refine lv_iadd C.x C.b dX12_takesAnyWord_30 ?_
    refine lv_iconst (v := 2) C.x C.b dX12_takesAnyWord_31 (by decide) ?_
    refine lv_iadd C.x C.b dX12_takesAnyWord_32 ?_
    replace hf := asr_s hf; obtain ⟨hq30, hf⟩ := hf
    refine z_iald C Z (lvM20 Nat.zero_lt_one) kM20 hq30 svM20 dX12_takesAnyWord_33 ?_
    refine lv_goto (tgt := 38) C.x C.b dX12_takesAnyWord_34 (by decide) ?_
    obtain ⟨rfl, rfl⟩ := pr_s hf
    exact kq3 _ _ _ Z (lv_sub hl [1, 0] rfl)
theorem dX12_isDigit_0 : decode cX12_isDigit 0 = .ok (.aload_n 0, 1) := by decide +kernel
theorem dX12_isDigit_1 : decode cX12_isDigit 1 = .ok (.aload_n 0, 1) := by decide +kernel
theorem dX12_isDigit_2 : decode cX12_isDigit 2 = .ok (.invokevirtual 286, 3) := by decide +kernel
theorem dX12_isDigit_5 : decode cX12_isDigit 5 = .ok (.bipush 48, 2) := by decide +kernel
theorem dX12_isDigit_7 : decode cX12_isDigit 7 = .ok (.bipush 57, 2) := by decide +kernel
theorem dX12_isDigit_9 : decode cX12_isDigit 9 = .ok (.invokevirtual 3, 3) := by decide +kernel
theorem dX12_isDigit_12 : decode cX12_isDigit 12 = .ok (.ireturn, 1) := by decide +kernel
set_option maxRecDepth 100000 in
set_option maxHeartbeats 4000000 in
theorem c_X12_isDigit {l : Launch} {K : KG} {ad : Nat → Nat → Nat} {fl : Nat}  {M0 : Mem} {r9 : Int32} {M9 : Mem} (hf : f_X12_isDigit fl  M0 = some (r9, M9)) : Met l yX12_isDigit (Cond.code yX12_isDigit cX12_isDigit 1 (some .boolean) :: ztb) (RM (2) 0 0) (zPc K LM ad M0 [.ref (ad 0 0)]) (zQ K LM ad (some (.int r9)) M9) 0 0 (zA ad) := by
  refine z_enter (by decide) (Nat.le_of_ble_eq_true rfl) ?_
  intro p e s m args below meth c ls C hin hargs Z hl
  replace C : Cx p s m args meth c cX12_isDigit 1 "GlassPalaceModel" (some .boolean) := C
  replace hl : lv_has ls 1 [(0, .ref (ad 0 0))] := hl
  have hR : 2 ≤ (RM (2) 0 0).frames ∧ 40 * (2) ≤ (RM (2) 0 0).locals := ⟨Nat.le_refl _, Nat.le_refl _⟩
  have hB : 0 ≤ (RM (2) 0 0).cells ∧ 0 ≤ (RM (2) 0 0).slots := ⟨Nat.zero_le _, Nat.zero_le _⟩
  unfold f_X12_isDigit at hf
  refine lv_aload_n C.x C.b dX12_isDigit_0 rfl (lv_at hl 0 rfl) ?_
  refine lv_aload_n C.x C.b dX12_isDigit_1 rfl (lv_at hl 0 rfl) ?_
  replace hf := bn2_s hf; obtain ⟨v2, m1, hkm1, hf⟩ := hf
  refine z_cV (As := []) (rest := [.ref (ad 0 0)]) (st1 := [.int v2, .ref (ad 0 0)]) C Z mw_X12_next mv_X12_next k_1470 (by decide) (z_hR hR (by decide)) (lvM0 Nat.zero_lt_one) kM0 zc12 (c_X12_next (l := l) (K := K) (ad := ad) hkm1) rfl hl.1 rfl (Nat.le_of_ble_eq_true rfl) dX12_isDigit_2 hB rfl (fun H locs Z => ?_)
  refine lv_bipush (v := 48) C.x C.b dX12_isDigit_5 (by decide) ?_
  refine lv_bipush (v := 57) C.x C.b dX12_isDigit_7 (by decide) ?_
  replace hf := bn2_s hf; obtain ⟨v4, m3, hkm3, hf⟩ := hf
  refine z_cV (As := [.int v2, .int 48, .int 57]) (rest := []) (st1 := [.int v4]) C Z mw_X12_in mv_X12_in k_1398 (by decide) (z_hR hR (by decide)) (lvM0 Nat.zero_lt_one) kM0 zc12 (c_X12_in (l := l) (K := K) (ad := ad) hkm3) rfl hl.1 rfl (Nat.le_of_ble_eq_true rfl) dX12_isDigit_9 hB rfl (fun H locs Z => ?_)
  replace hf := asr_s hf; obtain ⟨hq5, hf⟩ := hf
  obtain ⟨rfl, rfl⟩ := pr_s hf
  exact z_zret C Z (jz01 hq5) dX12_isDigit_12
theorem dX12_takesNumber_0 : decode cX12_takesNumber 0 = .ok (.aload_n 0, 1) := by decide +kernel
theorem dX12_takesNumber_1 : decode cX12_takesNumber 1 = .ok (.invokevirtual 293, 3) := by decide +kernel
theorem dX12_takesNumber_4 : decode cX12_takesNumber 4 = .ok (.ifCond .ne 5, 3) := by decide +kernel
theorem dX12_takesNumber_7 : decode cX12_takesNumber 7 = .ok (.iconst 0, 1) := by decide +kernel
theorem dX12_takesNumber_8 : decode cX12_takesNumber 8 = .ok (.ireturn, 1) := by decide +kernel
theorem dX12_takesNumber_9 : decode cX12_takesNumber 9 = .ok (.aload_n 0, 1) := by decide +kernel
theorem dX12_takesNumber_10 : decode cX12_takesNumber 10 = .ok (.iconst 0, 1) := by decide +kernel
theorem dX12_takesNumber_11 : decode cX12_takesNumber 11 = .ok (.putfield 122, 3) := by decide +kernel
theorem dX12_takesNumber_14 : decode cX12_takesNumber 14 = .ok (.iconst 0, 1) := by decide +kernel
theorem dX12_takesNumber_15 : decode cX12_takesNumber 15 = .ok (.istore_n 1, 1) := by decide +kernel
theorem dX12_takesNumber_16 : decode cX12_takesNumber 16 = .ok (.iload_n 1, 1) := by decide +kernel
theorem dX12_takesNumber_17 : decode cX12_takesNumber 17 = .ok (.iconst 3, 1) := by decide +kernel
theorem dX12_takesNumber_18 : decode cX12_takesNumber 18 = .ok (.if_icmp .ge 45, 3) := by decide +kernel
theorem dX12_takesNumber_21 : decode cX12_takesNumber 21 = .ok (.aload_n 0, 1) := by decide +kernel
theorem dX12_takesNumber_22 : decode cX12_takesNumber 22 = .ok (.invokevirtual 293, 3) := by decide +kernel
theorem dX12_takesNumber_25 : decode cX12_takesNumber 25 = .ok (.ifCond .eq 38, 3) := by decide +kernel
theorem dX12_takesNumber_28 : decode cX12_takesNumber 28 = .ok (.aload_n 0, 1) := by decide +kernel
theorem dX12_takesNumber_29 : decode cX12_takesNumber 29 = .ok (.bipush 10, 2) := by decide +kernel
theorem dX12_takesNumber_31 : decode cX12_takesNumber 31 = .ok (.aload_n 0, 1) := by decide +kernel
theorem dX12_takesNumber_32 : decode cX12_takesNumber 32 = .ok (.getfield 122, 3) := by decide +kernel
theorem dX12_takesNumber_35 : decode cX12_takesNumber 35 = .ok (.imul, 1) := by decide +kernel
theorem dX12_takesNumber_36 : decode cX12_takesNumber 36 = .ok (.aload_n 0, 1) := by decide +kernel
theorem dX12_takesNumber_37 : decode cX12_takesNumber 37 = .ok (.invokevirtual 286, 3) := by decide +kernel
theorem dX12_takesNumber_40 : decode cX12_takesNumber 40 = .ok (.iadd, 1) := by decide +kernel
theorem dX12_takesNumber_41 : decode cX12_takesNumber 41 = .ok (.bipush 48, 2) := by decide +kernel
theorem dX12_takesNumber_43 : decode cX12_takesNumber 43 = .ok (.isub, 1) := by decide +kernel
theorem dX12_takesNumber_44 : decode cX12_takesNumber 44 = .ok (.putfield 122, 3) := by decide +kernel
theorem dX12_takesNumber_47 : decode cX12_takesNumber 47 = .ok (.aload_n 0, 1) := by decide +kernel
theorem dX12_takesNumber_48 : decode cX12_takesNumber 48 = .ok (.dup, 1) := by decide +kernel
theorem dX12_takesNumber_49 : decode cX12_takesNumber 49 = .ok (.getfield 116, 3) := by decide +kernel
theorem dX12_takesNumber_52 : decode cX12_takesNumber 52 = .ok (.iconst 1, 1) := by decide +kernel
theorem dX12_takesNumber_53 : decode cX12_takesNumber 53 = .ok (.iadd, 1) := by decide +kernel
theorem dX12_takesNumber_54 : decode cX12_takesNumber 54 = .ok (.putfield 116, 3) := by decide +kernel
theorem dX12_takesNumber_57 : decode cX12_takesNumber 57 = .ok (.iinc 1 1, 3) := by decide +kernel
theorem dX12_takesNumber_60 : decode cX12_takesNumber 60 = .ok (.goto (-44), 3) := by decide +kernel
theorem dX12_takesNumber_63 : decode cX12_takesNumber 63 = .ok (.iconst 1, 1) := by decide +kernel
theorem dX12_takesNumber_64 : decode cX12_takesNumber 64 = .ok (.ireturn, 1) := by decide +kernel
set_option maxRecDepth 100000 in
set_option maxHeartbeats 4000000 in
theorem w_X12_takesNumber_l16 {p : Program} {l : Launch} {e : Env} {R : Room} {s : State} {m : MethodId} {args : Array Value} {below : List Frame} {meth : Method} {c : Code} {cells slots : Nat} {Q : State → Prop} {K : KG} {ad : Nat → Nat → Nat} {fl : Nat} (C : Cx p s m args meth c cX12_takesNumber 2 "GlassPalaceModel" (some .boolean)) (hR : 3 ≤ R.frames ∧ 40 * (3) ≤ R.locals) (hB : cells ≤ R.cells ∧ slots ≤ R.slots) : ∀ (n : Nat) (u1 : Int32) (M0 : Mem) (H : Heap) (locs : List Loc) (ls : Array Slot), Zd K LM ad M0 s H locs → lv_has ls 2 [(0, .ref (ad 0 0)), (1, .int u1)] → ∀ (Mq : Mem), f_X12_takesNumber_l16 fl  n u1 M0 = some Mq → (∀ (H : Heap) (locs : List Loc) (ls : Array Slot), Zd K LM ad Mq s H locs → lv_has ls 2 [] → W p l e R s m args below meth c H locs cells slots Q (F0 m 63 ls [])) → W p l e R s m args below meth c H locs cells slots Q (F0 m 16 ls []) := by
  intro n
  induction n with
  | zero =>
    intro u1 M0 H locs ls Z hl Mq hf
    have hf : (none : Option (Mem)) = some Mq := hf
    cases hf
  | succ n ih =>
    intro u1 M0 H locs ls Z hl Mq hf kx0
    replace hf : f_X12_takesNumber_l16_b (f_X12_takesNumber_l16 fl  n) fl  u1 M0 = some Mq := hf
    unfold f_X12_takesNumber_l16_b at hf
    refine lv_iload_n C.x C.b dX12_takesNumber_16 rfl (lv_at hl 1 rfl) ?_
    refine lv_iconst (v := 3) C.x C.b dX12_takesNumber_17 (by decide) ?_
    refine lv_icmp_ge (tgt := 63) C.x C.b dX12_takesNumber_18 (by decide) (fun hc5 => ?_) (fun hc5 => ?_)
    · replace hf := ite_t hf hc5
      obtain rfl := sm_s hf
      exact kx0 _ _ _ Z (lv_sub hl [] rfl)
    · replace hf := ite_f hf hc5
      refine lv_aload_n C.x C.b dX12_takesNumber_21 rfl (lv_at hl 0 rfl) ?_
      replace hf := bn2_s hf; obtain ⟨v7, m6, hkm6, hf⟩ := hf
      refine z_cV (As := []) (rest := []) (st1 := [.int v7]) C Z mw_X12_isDigit mv_X12_isDigit k_1489 (by decide) (z_hR hR (by decide)) (lvM0 Nat.zero_lt_one) kM0 zc12 (c_X12_isDigit (l := l) (K := K) (ad := ad) hkm6) rfl hl.1 rfl (Nat.le_of_ble_eq_true rfl) dX12_takesNumber_22 hB rfl (fun H locs Z => ?_)
      refine lv_if_eq (tgt := 63) C.x C.b dX12_takesNumber_25 (by decide) (fun hc8 => ?_) (fun hc8 => ?_)
      · replace hf := ite_t hf hc8
        obtain rfl := sm_s hf
        exact kx0 _ _ _ Z (lv_sub hl [] rfl)
      · replace hf := ite_f hf hc8
        refine lv_aload_n C.x C.b dX12_takesNumber_28 rfl (lv_at hl 0 rfl) ?_
        refine lv_bipush (v := 10) C.x C.b dX12_takesNumber_29 (by decide) ?_
        refine lv_aload_n C.x C.b dX12_takesNumber_31 rfl (lv_at hl 0 rfl) ?_
        refine z_get C Z (lvM0 Nat.zero_lt_one) kM0 zc12 zin12 34 (by decide) k_1210 rfl svM0_34 dX12_takesNumber_32 ?_
        refine lv_imul C.x C.b dX12_takesNumber_35 ?_
        refine lv_aload_n C.x C.b dX12_takesNumber_36 rfl (lv_at hl 0 rfl) ?_
        replace hf := bn2_s hf; obtain ⟨v10, m9, hkm9, hf⟩ := hf
        refine z_cV (As := []) (rest := [.int (10 * (gI m6 0 0 34)), .ref (ad 0 0)]) (st1 := [.int v10, .int (10 * (gI m6 0 0 34)), .ref (ad 0 0)]) C Z mw_X12_next mv_X12_next k_1470 (by decide) (z_hR hR (by decide)) (lvM0 Nat.zero_lt_one) kM0 zc12 (c_X12_next (l := l) (K := K) (ad := ad) hkm9) rfl hl.1 rfl (Nat.le_of_ble_eq_true rfl) dX12_takesNumber_37 hB rfl (fun H locs Z => ?_)
        refine lv_iadd C.x C.b dX12_takesNumber_40 ?_
        refine lv_bipush (v := 48) C.x C.b dX12_takesNumber_41 (by decide) ?_
        refine lv_isub C.x C.b dX12_takesNumber_43 ?_
        replace hf := lt1_s hf; obtain ⟨m11, em11, hf⟩ := hf
        refine z_put (M1 := m11) C Z (lvM0 Nat.zero_lt_one) (by decide) kM0 zc12 zin12 tyX12_ok nmX12 34 (by decide) k_1210 rfl (zUp_I em11 stM0_34u) (Or.inl rfl) rfl rfl dX12_takesNumber_44 (fun H locs Z => ?_)
        refine lv_aload_n C.x C.b dX12_takesNumber_47 rfl (lv_at hl 0 rfl) ?_
        refine lv_dup C.x C.b dX12_takesNumber_48 rfl ?_
        refine z_get C Z (lvM0 Nat.zero_lt_one) kM0 zc12 zin12 32 (by decide) k_1208 rfl svM0_32 dX12_takesNumber_49 ?_
        refine lv_iconst (v := 1) C.x C.b dX12_takesNumber_52 (by decide) ?_
        refine lv_iadd C.x C.b dX12_takesNumber_53 ?_
        replace hf := lt1_s hf; obtain ⟨m12, em12, hf⟩ := hf
        refine z_put (M1 := m12) C Z (lvM0 Nat.zero_lt_one) (by decide) kM0 zc12 zin12 tyX12_ok nmX12 32 (by decide) k_1208 rfl (zUp_I em12 stM0_32u) (Or.inl rfl) rfl rfl dX12_takesNumber_54 (fun H locs Z => ?_)
        replace hf := lt1_s hf; obtain ⟨x13, ex13, hf⟩ := hf
        refine z_iinc (v := x13) (lv' := [(1, .int x13), (0, .ref (ad 0 0))]) C dX12_takesNumber_57 hl (k := 1) rfl (by rw [ex13]; rfl) (by decide) rfl (onlast 0 rfl rfl rfl) (fun ls hl => ?_)
        refine lv_goto (tgt := 16) C.x C.b dX12_takesNumber_60 (by decide) ?_
        exact ih _ _ _ _ _ Z (lv_sub hl [1, 0] rfl) _ hf kx0
set_option maxRecDepth 100000 in
set_option maxHeartbeats 4000000 in
theorem c_X12_takesNumber {l : Launch} {K : KG} {ad : Nat → Nat → Nat} {fl : Nat}  {M0 : Mem} {r9 : Int32} {M9 : Mem} (hf : f_X12_takesNumber fl  M0 = some (r9, M9)) : Met l yX12_takesNumber (Cond.code yX12_takesNumber cX12_takesNumber 2 (some .boolean) :: ztb) (RM (3) 0 0) (zPc K LM ad M0 [.ref (ad 0 0)]) (zQ K LM ad (some (.int r9)) M9) 0 0 (zA ad) := by
  refine z_enter (by decide) (Nat.le_of_ble_eq_true rfl) ?_
  intro p e s m args below meth c ls C hin hargs Z hl
  replace C : Cx p s m args meth c cX12_takesNumber 2 "GlassPalaceModel" (some .boolean) := C
  replace hl : lv_has ls 2 [(0, .ref (ad 0 0))] := hl
  have hR : 3 ≤ (RM (3) 0 0).frames ∧ 40 * (3) ≤ (RM (3) 0 0).locals := ⟨Nat.le_refl _, Nat.le_refl _⟩
  have hB : 0 ≤ (RM (3) 0 0).cells ∧ 0 ≤ (RM (3) 0 0).slots := ⟨Nat.zero_le _, Nat.zero_le _⟩
  unfold f_X12_takesNumber at hf
  refine lv_aload_n C.x C.b dX12_takesNumber_0 rfl (lv_at hl 0 rfl) ?_
  replace hf := bn2_s hf; obtain ⟨v2, m1, hkm1, hf⟩ := hf
  refine z_cV (As := []) (rest := []) (st1 := [.int v2]) C Z mw_X12_isDigit mv_X12_isDigit k_1489 (by decide) (z_hR hR (by decide)) (lvM0 Nat.zero_lt_one) kM0 zc12 (c_X12_isDigit (l := l) (K := K) (ad := ad) hkm1) rfl hl.1 rfl (Nat.le_of_ble_eq_true rfl) dX12_takesNumber_1 hB rfl (fun H locs Z => ?_)
  refine lv_if_ne (tgt := 9) C.x C.b dX12_takesNumber_4 (by decide) (fun hc3 => ?_) (fun hc3 => ?_)
  · replace hf := ite_f hf hc3
    refine lv_aload_n C.x C.b dX12_takesNumber_9 rfl (lv_at hl 0 rfl) ?_
    refine lv_iconst (v := 0) C.x C.b dX12_takesNumber_10 (by decide) ?_
    replace hf := lt1_s hf; obtain ⟨m4, em4, hf⟩ := hf
    refine z_put (M1 := m4) C Z (lvM0 Nat.zero_lt_one) (by decide) kM0 zc12 zin12 tyX12_ok nmX12 34 (by decide) k_1210 rfl (zUp_I em4 stM0_34u) (Or.inl rfl) rfl rfl dX12_takesNumber_11 (fun H locs Z => ?_)
    refine lv_iconst (v := 0) C.x C.b dX12_takesNumber_14 (by decide) ?_
    refine z_istore_n (lv' := [(1, .int 0), (0, .ref (ad 0 0))]) C dX12_takesNumber_15 rfl hl (by decide) rfl (onlast 0 rfl rfl rfl) (fun ls hl => ?_)
    replace hf := bn1_s hf; obtain ⟨m15, hq14, hf⟩ := hf
    refine w_X12_takesNumber_l16 C hR hB  fl _ _ _ _ _ Z (lv_sub hl [1, 0] rfl) _ hq14 (fun H locs ls Z hl => ?_)
    refine lv_iconst (v := 1) C.x C.b dX12_takesNumber_63 (by decide) ?_
    obtain ⟨rfl, rfl⟩ := pr_s hf
    exact z_zret C Z rfl dX12_takesNumber_64
  · replace hf := ite_t hf hc3
    refine lv_iconst (v := 0) C.x C.b dX12_takesNumber_7 (by decide) ?_
    obtain ⟨rfl, rfl⟩ := pr_s hf
    exact z_zret C Z rfl dX12_takesNumber_8
theorem dX12_push_0 : decode cX12_push 0 = .ok (.iload_n 1, 1) := by decide +kernel
theorem dX12_push_1 : decode cX12_push 1 = .ok (.istore_n 2, 1) := by decide +kernel
theorem dX12_push_2 : decode cX12_push 2 = .ok (.aload_n 0, 1) := by decide +kernel
theorem dX12_push_3 : decode cX12_push 3 = .ok (.getfield 131, 3) := by decide +kernel
theorem dX12_push_6 : decode cX12_push 6 = .ok (.ifCond .le 52, 3) := by decide +kernel
theorem dX12_push_9 : decode cX12_push 9 = .ok (.aload_n 0, 1) := by decide +kernel
theorem dX12_push_10 : decode cX12_push 10 = .ok (.getfield 125, 3) := by decide +kernel
theorem dX12_push_13 : decode cX12_push 13 = .ok (.aload_n 0, 1) := by decide +kernel
theorem dX12_push_14 : decode cX12_push 14 = .ok (.getfield 131, 3) := by decide +kernel
theorem dX12_push_17 : decode cX12_push 17 = .ok (.iconst 1, 1) := by decide +kernel
theorem dX12_push_18 : decode cX12_push 18 = .ok (.isub, 1) := by decide +kernel
theorem dX12_push_19 : decode cX12_push 19 = .ok (.iaload, 1) := by decide +kernel
theorem dX12_push_20 : decode cX12_push 20 = .ok (.bipush 33, 2) := by decide +kernel
theorem dX12_push_22 : decode cX12_push 22 = .ok (.if_icmp .ne 36, 3) := by decide +kernel
theorem dX12_push_25 : decode cX12_push 25 = .ok (.iload_n 2, 1) := by decide +kernel
theorem dX12_push_26 : decode cX12_push 26 = .ok (.ifCond .ne 7, 3) := by decide +kernel
theorem dX12_push_29 : decode cX12_push 29 = .ok (.iconst 1, 1) := by decide +kernel
theorem dX12_push_30 : decode cX12_push 30 = .ok (.goto 4, 3) := by decide +kernel
theorem dX12_push_33 : decode cX12_push 33 = .ok (.iconst 0, 1) := by decide +kernel
theorem dX12_push_34 : decode cX12_push 34 = .ok (.istore_n 2, 1) := by decide +kernel
theorem dX12_push_35 : decode cX12_push 35 = .ok (.aload_n 0, 1) := by decide +kernel
theorem dX12_push_36 : decode cX12_push 36 = .ok (.dup, 1) := by decide +kernel
theorem dX12_push_37 : decode cX12_push 37 = .ok (.getfield 131, 3) := by decide +kernel
theorem dX12_push_40 : decode cX12_push 40 = .ok (.iconst 1, 1) := by decide +kernel
theorem dX12_push_41 : decode cX12_push 41 = .ok (.isub, 1) := by decide +kernel
theorem dX12_push_42 : decode cX12_push 42 = .ok (.putfield 131, 3) := by decide +kernel
theorem dX12_push_45 : decode cX12_push 45 = .ok (.aload_n 0, 1) := by decide +kernel
theorem dX12_push_46 : decode cX12_push 46 = .ok (.dup, 1) := by decide +kernel
theorem dX12_push_47 : decode cX12_push 47 = .ok (.getfield 137, 3) := by decide +kernel
theorem dX12_push_50 : decode cX12_push 50 = .ok (.iconst 1, 1) := by decide +kernel
theorem dX12_push_51 : decode cX12_push 51 = .ok (.isub, 1) := by decide +kernel
theorem dX12_push_52 : decode cX12_push 52 = .ok (.putfield 137, 3) := by decide +kernel
theorem dX12_push_55 : decode cX12_push 55 = .ok (.goto (-53), 3) := by decide +kernel
theorem dX12_push_58 : decode cX12_push 58 = .ok (.aload_n 0, 1) := by decide +kernel
theorem dX12_push_59 : decode cX12_push 59 = .ok (.getfield 128, 3) := by decide +kernel
theorem dX12_push_62 : decode cX12_push 62 = .ok (.aload_n 0, 1) := by decide +kernel
theorem dX12_push_63 : decode cX12_push 63 = .ok (.getfield 134, 3) := by decide +kernel
theorem dX12_push_66 : decode cX12_push 66 = .ok (.iload_n 2, 1) := by decide +kernel
theorem dX12_push_67 : decode cX12_push 67 = .ok (.bastore, 1) := by decide +kernel
theorem dX12_push_68 : decode cX12_push 68 = .ok (.aload_n 0, 1) := by decide +kernel
theorem dX12_push_69 : decode cX12_push 69 = .ok (.dup, 1) := by decide +kernel
theorem dX12_push_70 : decode cX12_push 70 = .ok (.getfield 134, 3) := by decide +kernel
theorem dX12_push_73 : decode cX12_push 73 = .ok (.iconst 1, 1) := by decide +kernel
theorem dX12_push_74 : decode cX12_push 74 = .ok (.iadd, 1) := by decide +kernel
theorem dX12_push_75 : decode cX12_push 75 = .ok (.putfield 134, 3) := by decide +kernel
theorem dX12_push_78 : decode cX12_push 78 = .ok (.return_, 1) := by decide +kernel
set_option maxRecDepth 100000 in
set_option maxHeartbeats 4000000 in
theorem w_X12_push_l2 {p : Program} {l : Launch} {e : Env} {R : Room} {s : State} {m : MethodId} {args : Array Value} {below : List Frame} {meth : Method} {c : Code} {cells slots : Nat} {Q : State → Prop} {K : KG} {ad : Nat → Nat → Nat} {fl : Nat} (C : Cx p s m args meth c cX12_push 3 "GlassPalaceModel" none) (hR : 1 ≤ R.frames ∧ 40 * (1) ≤ R.locals) (hB : cells ≤ R.cells ∧ slots ≤ R.slots) : ∀ (n : Nat) (u2 : Int32) (M0 : Mem) (H : Heap) (locs : List Loc) (ls : Array Slot), Zd K LM ad M0 s H locs → lv_has ls 3 [(0, .ref (ad 0 0)), (2, .int u2)] → ∀ (q : Int32) (Mq : Mem), f_X12_push_l2 fl  n u2 M0 = some (q, Mq) → (∀ (H : Heap) (locs : List Loc) (ls : Array Slot), Zd K LM ad Mq s H locs → lv_has ls 3 [(0, .ref (ad 0 0)), (2, .int q)] → W p l e R s m args below meth c H locs cells slots Q (F0 m 58 ls [])) → W p l e R s m args below meth c H locs cells slots Q (F0 m 2 ls []) := by
  intro n
  induction n with
  | zero =>
    intro u2 M0 H locs ls Z hl q Mq hf
    have hf : (none : Option (Int32 × Mem)) = some (q, Mq) := hf
    cases hf
  | succ n ih =>
    intro u2 M0 H locs ls Z hl q Mq hf kx0
    replace hf : f_X12_push_l2_b (f_X12_push_l2 fl  n) fl  u2 M0 = some (q, Mq) := hf
    unfold f_X12_push_l2_b at hf
    refine lv_aload_n C.x C.b dX12_push_2 rfl (lv_at hl 0 rfl) ?_
    refine z_get C Z (lvM0 Nat.zero_lt_one) kM0 zc12 zin12 37 (by decide) k_1213 rfl svM0_37 dX12_push_3 ?_
    refine lv_if_le (tgt := 58) C.x C.b dX12_push_6 (by decide) (fun hc1 => ?_) (fun hc1 => ?_)
    · replace hf := ite_t hf hc1
      obtain ⟨rfl, rfl⟩ := pr_s hf
      exact kx0 _ _ _ Z (lv_sub hl [0, 1] rfl)
    · replace hf := ite_f hf hc1
      refine lv_aload_n C.x C.b dX12_push_9 rfl (lv_at hl 0 rfl) ?_
      refine z_get C Z (lvM0 Nat.zero_lt_one) kM0 zc12 zin12 35 (by decide) k_1211 rfl svM0_35 dX12_push_10 ?_
      refine lv_aload_n C.x C.b dX12_push_13 rfl (lv_at hl 0 rfl) ?_
      refine z_get C Z (lvM0 Nat.zero_lt_one) kM0 zc12 zin12 37 (by decide) k_1213 rfl svM0_37 dX12_push_14 ?_
      refine lv_iconst (v := 1) C.x C.b dX12_push_17 (by decide) ?_
      refine lv_isub C.x C.b dX12_push_18 ?_
      replace hf := asr_s hf; obtain ⟨hq2, hf⟩ := hf
      refine z_iald C Z (lvM26 Nat.zero_lt_one) kM26 hq2 svM26 dX12_push_19 ?_
      refine lv_bipush (v := 33) C.x C.b dX12_push_20 (by decide) ?_
      refine lv_icmp_ne (tgt := 58) C.x C.b dX12_push_22 (by decide) (fun hc3 => ?_) (fun hc3 => ?_)
      · replace hf := ite_f hf hc3
        obtain ⟨rfl, rfl⟩ := pr_s hf
        exact kx0 _ _ _ Z (lv_sub hl [0, 1] rfl)
      · replace hf := ite_t hf hc3
        refine lv_iload_n C.x C.b dX12_push_25 rfl (lv_at hl 1 rfl) ?_
        replace hf := bn2_s hf; obtain ⟨q4, m5, hq4, hf⟩ := hf
        have kq4 : ∀ (H : Heap) (locs : List Loc) (ls : Array Slot), Zd K LM ad m5 s H locs → lv_has ls 3 [(0, .ref (ad 0 0))] → W p l e R s m args below meth c H locs cells slots Q (F0 m 34 ls [.int q4]) := by
          intro H locs ls Z hl
          refine z_istore_n (lv' := [(2, .int q4), (0, .ref (ad 0 0))]) C dX12_push_34 rfl hl (by decide) rfl (nolast rfl) (fun ls hl => ?_)
          refine lv_aload_n C.x C.b dX12_push_35 rfl (lv_at hl 1 rfl) ?_
          refine lv_dup C.x C.b dX12_push_36 rfl ?_
          refine z_get C Z (lvM0 Nat.zero_lt_one) kM0 zc12 zin12 37 (by decide) k_1213 rfl svM0_37 dX12_push_37 ?_
          refine lv_iconst (v := 1) C.x C.b dX12_push_40 (by decide) ?_
          refine lv_isub C.x C.b dX12_push_41 ?_
          replace hf := lt1_s hf; obtain ⟨m6, em6, hf⟩ := hf
          refine z_put (M1 := m6) C Z (lvM0 Nat.zero_lt_one) (by decide) kM0 zc12 zin12 tyX12_ok nmX12 37 (by decide) k_1213 rfl (zUp_I em6 stM0_37u) (Or.inl rfl) rfl rfl dX12_push_42 (fun H locs Z => ?_)
          refine lv_aload_n C.x C.b dX12_push_45 rfl (lv_at hl 1 rfl) ?_
          refine lv_dup C.x C.b dX12_push_46 rfl ?_
          refine z_get C Z (lvM0 Nat.zero_lt_one) kM0 zc12 zin12 39 (by decide) k_1215 rfl svM0_39 dX12_push_47 ?_
          refine lv_iconst (v := 1) C.x C.b dX12_push_50 (by decide) ?_
          refine lv_isub C.x C.b dX12_push_51 ?_
          replace hf := lt1_s hf; obtain ⟨m7, em7, hf⟩ := hf
          refine z_put (M1 := m7) C Z (lvM0 Nat.zero_lt_one) (by decide) kM0 zc12 zin12 tyX12_ok nmX12 39 (by decide) k_1215 rfl (zUp_I em7 stM0_39u) (Or.inl rfl) rfl rfl dX12_push_52 (fun H locs Z => ?_)
          refine lv_goto (tgt := 2) C.x C.b dX12_push_55 (by decide) ?_
          exact ih _ _ _ _ _ Z (lv_sub hl [1, 0] rfl) _ _ hf kx0
        clear hf
        refine lv_if_ne (tgt := 33) C.x C.b dX12_push_26 (by decide) (fun hc8 => ?_) (fun hc8 => ?_)
        · have hf := ite_f hq4 hc8; clear hq4
          refine lv_iconst (v := 0) C.x C.b dX12_push_33 (by decide) ?_
          obtain ⟨rfl, rfl⟩ := pr_s hf
          exact kq4 _ _ _ Z (lv_sub hl [0] rfl)
        · have hf := ite_t hq4 hc8; clear hq4
          refine lv_iconst (v := 1) C.x C.b dX12_push_29 (by decide) ?_
          refine lv_goto (tgt := 34) C.x C.b dX12_push_30 (by decide) ?_
          obtain ⟨rfl, rfl⟩ := pr_s hf
          exact kq4 _ _ _ Z (lv_sub hl [0] rfl)
set_option maxRecDepth 100000 in
set_option maxHeartbeats 4000000 in
theorem w_X12_push_b58 {p : Program} {l : Launch} {e : Env} {s : State} {m : MethodId} {args : Array Value} {below : List Frame} {meth : Method} {c : Code} {K : KG} {ad : Nat → Nat → Nat} {fl : Nat} {H : Heap} {locs : List Loc} {ls : Array Slot} {g2 : Int32} {M0 : Mem} {M9 : Mem} (C : Cx p s m args meth c cX12_push 3 "GlassPalaceModel" none) (hR : 1 ≤ (RM (1) 0 0).frames ∧ 40 * (1) ≤ (RM (1) 0 0).locals) (hB : 0 ≤ (RM (1) 0 0).cells ∧ 0 ≤ (RM (1) 0 0).slots) (Z : Zd K LM ad M0 s H locs) (hl : lv_has ls 3 [(0, .ref (ad 0 0)), (2, .int g2)]) (hf : f_X12_push_b58 fl g2 M0 = some M9) : W p l e (RM (1) 0 0) s m args below meth c H locs 0 0 (MQ below (zQ K LM ad (none) M9) args s 0 0 (zA ad)) (F0 m 58 ls []) := by
  unfold f_X12_push_b58 at hf
  refine lv_aload_n C.x C.b dX12_push_58 rfl (lv_at hl 0 rfl) ?_
  refine z_get C Z (lvM0 Nat.zero_lt_one) kM0 zc12 zin12 36 (by decide) k_1212 rfl svM0_36 dX12_push_59 ?_
  refine lv_aload_n C.x C.b dX12_push_62 rfl (lv_at hl 0 rfl) ?_
  refine z_get C Z (lvM0 Nat.zero_lt_one) kM0 zc12 zin12 38 (by decide) k_1214 rfl svM0_38 dX12_push_63 ?_
  refine lv_iload_n C.x C.b dX12_push_66 rfl (lv_at hl 1 rfl) ?_
  replace hf := asr_s hf; obtain ⟨hq11, hf⟩ := hf
  replace hf := lt1_s hf; obtain ⟨m12, em12, hf⟩ := hf
  refine z_zast (M1 := m12) C Z (lvM27 Nat.zero_lt_one) (by decide) kM27 hq11 em12 stM27u dX12_push_67 (fun H locs Z => ?_)
  refine lv_aload_n C.x C.b dX12_push_68 rfl (lv_at hl 0 rfl) ?_
  refine lv_dup C.x C.b dX12_push_69 rfl ?_
  refine z_get C Z (lvM0 Nat.zero_lt_one) kM0 zc12 zin12 38 (by decide) k_1214 rfl svM0_38 dX12_push_70 ?_
  refine lv_iconst (v := 1) C.x C.b dX12_push_73 (by decide) ?_
  refine lv_iadd C.x C.b dX12_push_74 ?_
  replace hf := lt1_s hf; obtain ⟨m13, em13, hf⟩ := hf
  refine z_put (M1 := m13) C Z (lvM0 Nat.zero_lt_one) (by decide) kM0 zc12 zin12 tyX12_ok nmX12 38 (by decide) k_1214 rfl (zUp_I em13 stM0_38u) (Or.inl rfl) rfl rfl dX12_push_75 (fun H locs Z => ?_)
  obtain rfl := sm_s hf
  exact z_vret C Z dX12_push_78
set_option maxRecDepth 100000 in
set_option maxHeartbeats 4000000 in
theorem c_X12_push {l : Launch} {K : KG} {ad : Nat → Nat → Nat} {fl : Nat} {a1 : Int32} {M0 : Mem} {M9 : Mem} (hf : f_X12_push fl a1 M0 = some M9) : Met l yX12_push (Cond.code yX12_push cX12_push 3 none :: ztb) (RM (1) 0 0) (zPc K LM ad M0 [.ref (ad 0 0), .int a1]) (zQ K LM ad (none) M9) 0 0 (zA ad) := by
  refine z_enter (by decide) (Nat.le_of_ble_eq_true rfl) ?_
  intro p e s m args below meth c ls C hin hargs Z hl
  replace C : Cx p s m args meth c cX12_push 3 "GlassPalaceModel" none := C
  replace hl : lv_has ls 3 [(0, .ref (ad 0 0)), (1, .int a1)] := hl
  have hR : 1 ≤ (RM (1) 0 0).frames ∧ 40 * (1) ≤ (RM (1) 0 0).locals := ⟨Nat.le_refl _, Nat.le_refl _⟩
  have hB : 0 ≤ (RM (1) 0 0).cells ∧ 0 ≤ (RM (1) 0 0).slots := ⟨Nat.zero_le _, Nat.zero_le _⟩
  unfold f_X12_push at hf
  refine lv_iload_n C.x C.b dX12_push_0 rfl (lv_at hl 1 rfl) ?_
  refine z_istore_n (lv' := [(2, .int a1), (0, .ref (ad 0 0)), (1, .int a1)]) C dX12_push_1 rfl hl (by decide) rfl (onlast 1 rfl rfl rfl) (fun ls hl => ?_)
  replace hf := bn2_s hf; obtain ⟨q9, m10, hq9, hf⟩ := hf
  refine w_X12_push_l2 C hR hB  fl _ _ _ _ _ Z (lv_sub hl [1, 0] rfl) _ _ hq9 (fun H locs ls Z hl => ?_)
  exact w_X12_push_b58 C hR hB  Z (lv_sub hl [0, 1] rfl) hf
theorem dX12_takesTest_0 : decode cX12_takesTest 0 = .ok (.aload_n 0, 1) := by decide +kernel
theorem dX12_takesTest_1 : decode cX12_takesTest 1 = .ok (.invokevirtual 286, 3) := by decide +kernel
theorem dX12_takesTest_4 : decode cX12_takesTest 4 = .ok (.istore_n 1, 1) := by decide +kernel
theorem dX12_takesTest_5 : decode cX12_takesTest 5 = .ok (.iload_n 1, 1) := by decide +kernel
theorem dX12_takesTest_6 : decode cX12_takesTest 6 = .ok (.bipush 116, 2) := by decide +kernel
theorem dX12_takesTest_8 : decode cX12_takesTest 8 = .ok (.if_icmp .ne 7, 3) := by decide +kernel
theorem dX12_takesTest_11 : decode cX12_takesTest 11 = .ok (.iconst 0, 1) := by decide +kernel
theorem dX12_takesTest_12 : decode cX12_takesTest 12 = .ok (.goto 54, 3) := by decide +kernel
theorem dX12_takesTest_15 : decode cX12_takesTest 15 = .ok (.iload_n 1, 1) := by decide +kernel
theorem dX12_takesTest_16 : decode cX12_takesTest 16 = .ok (.bipush 108, 2) := by decide +kernel
theorem dX12_takesTest_18 : decode cX12_takesTest 18 = .ok (.if_icmp .ne 7, 3) := by decide +kernel
theorem dX12_takesTest_21 : decode cX12_takesTest 21 = .ok (.iconst 1, 1) := by decide +kernel
theorem dX12_takesTest_22 : decode cX12_takesTest 22 = .ok (.goto 44, 3) := by decide +kernel
theorem dX12_takesTest_25 : decode cX12_takesTest 25 = .ok (.iload_n 1, 1) := by decide +kernel
theorem dX12_takesTest_26 : decode cX12_takesTest 26 = .ok (.bipush 99, 2) := by decide +kernel
theorem dX12_takesTest_28 : decode cX12_takesTest 28 = .ok (.if_icmp .ne 7, 3) := by decide +kernel
theorem dX12_takesTest_31 : decode cX12_takesTest 31 = .ok (.iconst 2, 1) := by decide +kernel
theorem dX12_takesTest_32 : decode cX12_takesTest 32 = .ok (.goto 34, 3) := by decide +kernel
theorem dX12_takesTest_35 : decode cX12_takesTest 35 = .ok (.iload_n 1, 1) := by decide +kernel
theorem dX12_takesTest_36 : decode cX12_takesTest 36 = .ok (.bipush 114, 2) := by decide +kernel
theorem dX12_takesTest_38 : decode cX12_takesTest 38 = .ok (.if_icmp .ne 7, 3) := by decide +kernel
theorem dX12_takesTest_41 : decode cX12_takesTest 41 = .ok (.iconst 3, 1) := by decide +kernel
theorem dX12_takesTest_42 : decode cX12_takesTest 42 = .ok (.goto 24, 3) := by decide +kernel
theorem dX12_takesTest_45 : decode cX12_takesTest 45 = .ok (.iload_n 1, 1) := by decide +kernel
theorem dX12_takesTest_46 : decode cX12_takesTest 46 = .ok (.bipush 100, 2) := by decide +kernel
theorem dX12_takesTest_48 : decode cX12_takesTest 48 = .ok (.if_icmp .ne 7, 3) := by decide +kernel
theorem dX12_takesTest_51 : decode cX12_takesTest 51 = .ok (.iconst 4, 1) := by decide +kernel
theorem dX12_takesTest_52 : decode cX12_takesTest 52 = .ok (.goto 14, 3) := by decide +kernel
theorem dX12_takesTest_55 : decode cX12_takesTest 55 = .ok (.iload_n 1, 1) := by decide +kernel
theorem dX12_takesTest_56 : decode cX12_takesTest 56 = .ok (.bipush 102, 2) := by decide +kernel
theorem dX12_takesTest_58 : decode cX12_takesTest 58 = .ok (.if_icmp .ne 7, 3) := by decide +kernel
theorem dX12_takesTest_61 : decode cX12_takesTest 61 = .ok (.iconst 5, 1) := by decide +kernel
theorem dX12_takesTest_62 : decode cX12_takesTest 62 = .ok (.goto 4, 3) := by decide +kernel
theorem dX12_takesTest_65 : decode cX12_takesTest 65 = .ok (.iconst (-1), 1) := by decide +kernel
theorem dX12_takesTest_66 : decode cX12_takesTest 66 = .ok (.istore_n 2, 1) := by decide +kernel
theorem dX12_takesTest_67 : decode cX12_takesTest 67 = .ok (.iload_n 2, 1) := by decide +kernel
theorem dX12_takesTest_68 : decode cX12_takesTest 68 = .ok (.ifCond .ge 5, 3) := by decide +kernel
theorem dX12_takesTest_71 : decode cX12_takesTest 71 = .ok (.iconst 0, 1) := by decide +kernel
theorem dX12_takesTest_72 : decode cX12_takesTest 72 = .ok (.ireturn, 1) := by decide +kernel
theorem dX12_takesTest_73 : decode cX12_takesTest 73 = .ok (.aload_n 0, 1) := by decide +kernel
theorem dX12_takesTest_74 : decode cX12_takesTest 74 = .ok (.dup, 1) := by decide +kernel
theorem dX12_takesTest_75 : decode cX12_takesTest 75 = .ok (.getfield 116, 3) := by decide +kernel
theorem dX12_takesTest_78 : decode cX12_takesTest 78 = .ok (.iconst 1, 1) := by decide +kernel
theorem dX12_takesTest_79 : decode cX12_takesTest 79 = .ok (.iadd, 1) := by decide +kernel
theorem dX12_takesTest_80 : decode cX12_takesTest 80 = .ok (.putfield 116, 3) := by decide +kernel
theorem dX12_takesTest_83 : decode cX12_takesTest 83 = .ok (.aload_n 0, 1) := by decide +kernel
theorem dX12_takesTest_84 : decode cX12_takesTest 84 = .ok (.invokevirtual 286, 3) := by decide +kernel
theorem dX12_takesTest_87 : decode cX12_takesTest 87 = .ok (.istore_n 3, 1) := by decide +kernel
theorem dX12_takesTest_88 : decode cX12_takesTest 88 = .ok (.aload_n 0, 1) := by decide +kernel
theorem dX12_takesTest_89 : decode cX12_takesTest 89 = .ok (.iload_n 3, 1) := by decide +kernel
theorem dX12_takesTest_90 : decode cX12_takesTest 90 = .ok (.bipush 60, 2) := by decide +kernel
theorem dX12_takesTest_92 : decode cX12_takesTest 92 = .ok (.bipush 62, 2) := by decide +kernel
theorem dX12_takesTest_94 : decode cX12_takesTest 94 = .ok (.invokevirtual 3, 3) := by decide +kernel
theorem dX12_takesTest_97 : decode cX12_takesTest 97 = .ok (.ifCond .ne 5, 3) := by decide +kernel
theorem dX12_takesTest_100 : decode cX12_takesTest 100 = .ok (.iconst 0, 1) := by decide +kernel
theorem dX12_takesTest_101 : decode cX12_takesTest 101 = .ok (.ireturn, 1) := by decide +kernel
theorem dX12_takesTest_102 : decode cX12_takesTest 102 = .ok (.aload_n 0, 1) := by decide +kernel
theorem dX12_takesTest_103 : decode cX12_takesTest 103 = .ok (.dup, 1) := by decide +kernel
theorem dX12_takesTest_104 : decode cX12_takesTest 104 = .ok (.getfield 116, 3) := by decide +kernel
theorem dX12_takesTest_107 : decode cX12_takesTest 107 = .ok (.iconst 1, 1) := by decide +kernel
theorem dX12_takesTest_108 : decode cX12_takesTest 108 = .ok (.iadd, 1) := by decide +kernel
theorem dX12_takesTest_109 : decode cX12_takesTest 109 = .ok (.putfield 116, 3) := by decide +kernel
theorem dX12_takesTest_112 : decode cX12_takesTest 112 = .ok (.aload_n 0, 1) := by decide +kernel
theorem dX12_takesTest_113 : decode cX12_takesTest 113 = .ok (.invokevirtual 297, 3) := by decide +kernel
theorem dX12_takesTest_116 : decode cX12_takesTest 116 = .ok (.ifCond .ne 5, 3) := by decide +kernel
theorem dX12_takesTest_119 : decode cX12_takesTest 119 = .ok (.iconst 0, 1) := by decide +kernel
theorem dX12_takesTest_120 : decode cX12_takesTest 120 = .ok (.ireturn, 1) := by decide +kernel
theorem dX12_takesTest_121 : decode cX12_takesTest 121 = .ok (.aload_n 0, 1) := by decide +kernel
theorem dX12_takesTest_122 : decode cX12_takesTest 122 = .ok (.iload_n 3, 1) := by decide +kernel
theorem dX12_takesTest_123 : decode cX12_takesTest 123 = .ok (.bipush 60, 2) := by decide +kernel
theorem dX12_takesTest_125 : decode cX12_takesTest 125 = .ok (.if_icmp .ne 24, 3) := by decide +kernel
theorem dX12_takesTest_128 : decode cX12_takesTest 128 = .ok (.aload_n 0, 1) := by decide +kernel
theorem dX12_takesTest_129 : decode cX12_takesTest 129 = .ok (.getfield 98, 3) := by decide +kernel
theorem dX12_takesTest_132 : decode cX12_takesTest 132 = .ok (.iload_n 2, 1) := by decide +kernel
theorem dX12_takesTest_133 : decode cX12_takesTest 133 = .ok (.iaload, 1) := by decide +kernel
theorem dX12_takesTest_134 : decode cX12_takesTest 134 = .ok (.aload_n 0, 1) := by decide +kernel
theorem dX12_takesTest_135 : decode cX12_takesTest 135 = .ok (.getfield 122, 3) := by decide +kernel
theorem dX12_takesTest_138 : decode cX12_takesTest 138 = .ok (.if_icmp .ge 7, 3) := by decide +kernel
theorem dX12_takesTest_141 : decode cX12_takesTest 141 = .ok (.iconst 1, 1) := by decide +kernel
theorem dX12_takesTest_142 : decode cX12_takesTest 142 = .ok (.goto 52, 3) := by decide +kernel
theorem dX12_takesTest_145 : decode cX12_takesTest 145 = .ok (.iconst 0, 1) := by decide +kernel
theorem dX12_takesTest_146 : decode cX12_takesTest 146 = .ok (.goto 48, 3) := by decide +kernel
theorem dX12_takesTest_149 : decode cX12_takesTest 149 = .ok (.iload_n 3, 1) := by decide +kernel
theorem dX12_takesTest_150 : decode cX12_takesTest 150 = .ok (.bipush 61, 2) := by decide +kernel
theorem dX12_takesTest_152 : decode cX12_takesTest 152 = .ok (.if_icmp .ne 24, 3) := by decide +kernel
theorem dX12_takesTest_155 : decode cX12_takesTest 155 = .ok (.aload_n 0, 1) := by decide +kernel
theorem dX12_takesTest_156 : decode cX12_takesTest 156 = .ok (.getfield 98, 3) := by decide +kernel
theorem dX12_takesTest_159 : decode cX12_takesTest 159 = .ok (.iload_n 2, 1) := by decide +kernel
theorem dX12_takesTest_160 : decode cX12_takesTest 160 = .ok (.iaload, 1) := by decide +kernel
theorem dX12_takesTest_161 : decode cX12_takesTest 161 = .ok (.aload_n 0, 1) := by decide +kernel
theorem dX12_takesTest_162 : decode cX12_takesTest 162 = .ok (.getfield 122, 3) := by decide +kernel
theorem dX12_takesTest_165 : decode cX12_takesTest 165 = .ok (.if_icmp .ne 7, 3) := by decide +kernel
theorem dX12_takesTest_168 : decode cX12_takesTest 168 = .ok (.iconst 1, 1) := by decide +kernel
theorem dX12_takesTest_169 : decode cX12_takesTest 169 = .ok (.goto 25, 3) := by decide +kernel
theorem dX12_takesTest_172 : decode cX12_takesTest 172 = .ok (.iconst 0, 1) := by decide +kernel
theorem dX12_takesTest_173 : decode cX12_takesTest 173 = .ok (.goto 21, 3) := by decide +kernel
theorem dX12_takesTest_176 : decode cX12_takesTest 176 = .ok (.aload_n 0, 1) := by decide +kernel
theorem dX12_takesTest_177 : decode cX12_takesTest 177 = .ok (.getfield 98, 3) := by decide +kernel
theorem dX12_takesTest_180 : decode cX12_takesTest 180 = .ok (.iload_n 2, 1) := by decide +kernel
theorem dX12_takesTest_181 : decode cX12_takesTest 181 = .ok (.iaload, 1) := by decide +kernel
theorem dX12_takesTest_182 : decode cX12_takesTest 182 = .ok (.aload_n 0, 1) := by decide +kernel
theorem dX12_takesTest_183 : decode cX12_takesTest 183 = .ok (.getfield 122, 3) := by decide +kernel
theorem dX12_takesTest_186 : decode cX12_takesTest 186 = .ok (.if_icmp .le 7, 3) := by decide +kernel
theorem dX12_takesTest_189 : decode cX12_takesTest 189 = .ok (.iconst 1, 1) := by decide +kernel
theorem dX12_takesTest_190 : decode cX12_takesTest 190 = .ok (.goto 4, 3) := by decide +kernel
theorem dX12_takesTest_193 : decode cX12_takesTest 193 = .ok (.iconst 0, 1) := by decide +kernel
theorem dX12_takesTest_194 : decode cX12_takesTest 194 = .ok (.invokevirtual 300, 3) := by decide +kernel
theorem dX12_takesTest_197 : decode cX12_takesTest 197 = .ok (.iconst 1, 1) := by decide +kernel
theorem dX12_takesTest_198 : decode cX12_takesTest 198 = .ok (.ireturn, 1) := by decide +kernel
set_option maxRecDepth 100000 in
set_option maxHeartbeats 4000000 in
theorem w_X12_takesTest_b194 {p : Program} {l : Launch} {e : Env} {s : State} {m : MethodId} {args : Array Value} {below : List Frame} {meth : Method} {c : Code} {K : KG} {ad : Nat → Nat → Nat} {fl : Nat} {H : Heap} {locs : List Loc} {ls : Array Slot} {z1 : Int32} {M0 : Mem} {r9 : Int32} {M9 : Mem} (C : Cx p s m args meth c cX12_takesTest 4 "GlassPalaceModel" (some .boolean)) (hR : 4 ≤ (RM (4) 0 0).frames ∧ 40 * (4) ≤ (RM (4) 0 0).locals) (hB : 0 ≤ (RM (4) 0 0).cells ∧ 0 ≤ (RM (4) 0 0).slots) (Z : Zd K LM ad M0 s H locs) (hl : lv_has ls 4 []) (hf : f_X12_takesTest_b194 fl z1 M0 = some (r9, M9)) : W p l e (RM (4) 0 0) s m args below meth c H locs 0 0 (MQ below (zQ K LM ad (some (.int r9)) M9) args s 0 0 (zA ad)) (F0 m 194 ls [.int z1, .ref (ad 0 0)]) := by
  unfold f_X12_takesTest_b194 at hf
  replace hf := bn1_s hf; obtain ⟨m18, hkm18, hf⟩ := hf
  refine z_cV (As := [.int z1]) (rest := []) (st1 := []) C Z mw_X12_push mv_X12_push k_1501 (by decide) (z_hR hR (by decide)) (lvM0 Nat.zero_lt_one) kM0 zc12 (c_X12_push (l := l) (K := K) (ad := ad) hkm18) rfl hl.1 rfl (Nat.le_of_ble_eq_true rfl) dX12_takesTest_194 hB rfl (fun H locs Z => ?_)
  refine lv_iconst (v := 1) C.x C.b dX12_takesTest_197 (by decide) ?_
  obtain ⟨rfl, rfl⟩ := pr_s hf
  exact z_zret C Z rfl dX12_takesTest_198
set_option maxRecDepth 100000 in
set_option maxHeartbeats 4000000 in
theorem w_X12_takesTest_b66 {p : Program} {l : Launch} {e : Env} {s : State} {m : MethodId} {args : Array Value} {below : List Frame} {meth : Method} {c : Code} {K : KG} {ad : Nat → Nat → Nat} {fl : Nat} {H : Heap} {locs : List Loc} {ls : Array Slot} {z0 : Int32} {M0 : Mem} {r9 : Int32} {M9 : Mem} (C : Cx p s m args meth c cX12_takesTest 4 "GlassPalaceModel" (some .boolean)) (hR : 4 ≤ (RM (4) 0 0).frames ∧ 40 * (4) ≤ (RM (4) 0 0).locals) (hB : 0 ≤ (RM (4) 0 0).cells ∧ 0 ≤ (RM (4) 0 0).slots) (Z : Zd K LM ad M0 s H locs) (hl : lv_has ls 4 [(0, .ref (ad 0 0))]) (hf : f_X12_takesTest_b66 fl z0 M0 = some (r9, M9)) : W p l e (RM (4) 0 0) s m args below meth c H locs 0 0 (MQ below (zQ K LM ad (some (.int r9)) M9) args s 0 0 (zA ad)) (F0 m 66 ls [.int z0]) := by
  unfold f_X12_takesTest_b66 at hf
  refine z_istore_n (lv' := [(2, .int z0), (0, .ref (ad 0 0))]) C dX12_takesTest_66 rfl hl (by decide) rfl (nolast rfl) (fun ls hl => ?_)
  refine lv_iload_n C.x C.b dX12_takesTest_67 rfl (lv_at hl 0 rfl) ?_
  refine lv_if_ge (tgt := 73) C.x C.b dX12_takesTest_68 (by decide) (fun hc5 => ?_) (fun hc5 => ?_)
  · replace hf := ite_t hf hc5
    refine lv_aload_n C.x C.b dX12_takesTest_73 rfl (lv_at hl 1 rfl) ?_
    refine lv_dup C.x C.b dX12_takesTest_74 rfl ?_
    refine z_get C Z (lvM0 Nat.zero_lt_one) kM0 zc12 zin12 32 (by decide) k_1208 rfl svM0_32 dX12_takesTest_75 ?_
    refine lv_iconst (v := 1) C.x C.b dX12_takesTest_78 (by decide) ?_
    refine lv_iadd C.x C.b dX12_takesTest_79 ?_
    replace hf := lt1_s hf; obtain ⟨m6, em6, hf⟩ := hf
    refine z_put (M1 := m6) C Z (lvM0 Nat.zero_lt_one) (by decide) kM0 zc12 zin12 tyX12_ok nmX12 32 (by decide) k_1208 rfl (zUp_I em6 stM0_32u) (Or.inl rfl) rfl rfl dX12_takesTest_80 (fun H locs Z => ?_)
    refine lv_aload_n C.x C.b dX12_takesTest_83 rfl (lv_at hl 1 rfl) ?_
    replace hf := bn2_s hf; obtain ⟨v8, m7, hkm7, hf⟩ := hf
    refine z_cV (As := []) (rest := []) (st1 := [.int v8]) C Z mw_X12_next mv_X12_next k_1470 (by decide) (z_hR hR (by decide)) (lvM0 Nat.zero_lt_one) kM0 zc12 (c_X12_next (l := l) (K := K) (ad := ad) hkm7) rfl hl.1 rfl (Nat.le_of_ble_eq_true rfl) dX12_takesTest_84 hB rfl (fun H locs Z => ?_)
    refine z_istore_n (lv' := [(3, .int v8), (2, .int z0), (0, .ref (ad 0 0))]) C dX12_takesTest_87 rfl hl (by decide) rfl (onlast 0 rfl rfl rfl) (fun ls hl => ?_)
    refine lv_aload_n C.x C.b dX12_takesTest_88 rfl (lv_at hl 2 rfl) ?_
    refine lv_iload_n C.x C.b dX12_takesTest_89 rfl (lv_at hl 0 rfl) ?_
    refine lv_bipush (v := 60) C.x C.b dX12_takesTest_90 (by decide) ?_
    refine lv_bipush (v := 62) C.x C.b dX12_takesTest_92 (by decide) ?_
    replace hf := bn2_s hf; obtain ⟨v10, m9, hkm9, hf⟩ := hf
    refine z_cV (As := [.int v8, .int 60, .int 62]) (rest := []) (st1 := [.int v10]) C Z mw_X12_in mv_X12_in k_1398 (by decide) (z_hR hR (by decide)) (lvM0 Nat.zero_lt_one) kM0 zc12 (c_X12_in (l := l) (K := K) (ad := ad) hkm9) rfl hl.1 rfl (Nat.le_of_ble_eq_true rfl) dX12_takesTest_94 hB rfl (fun H locs Z => ?_)
    refine lv_if_ne (tgt := 102) C.x C.b dX12_takesTest_97 (by decide) (fun hc11 => ?_) (fun hc11 => ?_)
    · replace hf := ite_f hf hc11
      refine lv_aload_n C.x C.b dX12_takesTest_102 rfl (lv_at hl 2 rfl) ?_
      refine lv_dup C.x C.b dX12_takesTest_103 rfl ?_
      refine z_get C Z (lvM0 Nat.zero_lt_one) kM0 zc12 zin12 32 (by decide) k_1208 rfl svM0_32 dX12_takesTest_104 ?_
      refine lv_iconst (v := 1) C.x C.b dX12_takesTest_107 (by decide) ?_
      refine lv_iadd C.x C.b dX12_takesTest_108 ?_
      replace hf := lt1_s hf; obtain ⟨m12, em12, hf⟩ := hf
      refine z_put (M1 := m12) C Z (lvM0 Nat.zero_lt_one) (by decide) kM0 zc12 zin12 tyX12_ok nmX12 32 (by decide) k_1208 rfl (zUp_I em12 stM0_32u) (Or.inl rfl) rfl rfl dX12_takesTest_109 (fun H locs Z => ?_)
      refine lv_aload_n C.x C.b dX12_takesTest_112 rfl (lv_at hl 2 rfl) ?_
      replace hf := bn2_s hf; obtain ⟨v14, m13, hkm13, hf⟩ := hf
      refine z_cV (As := []) (rest := []) (st1 := [.int v14]) C Z mw_X12_takesNumber mv_X12_takesNumber k_1485 (by decide) (z_hR hR (by decide)) (lvM0 Nat.zero_lt_one) kM0 zc12 (c_X12_takesNumber (l := l) (K := K) (ad := ad) hkm13) rfl hl.1 rfl (Nat.le_of_ble_eq_true rfl) dX12_takesTest_113 hB rfl (fun H locs Z => ?_)
      refine lv_if_ne (tgt := 121) C.x C.b dX12_takesTest_116 (by decide) (fun hc15 => ?_) (fun hc15 => ?_)
      · replace hf := ite_f hf hc15
        refine lv_aload_n C.x C.b dX12_takesTest_121 rfl (lv_at hl 2 rfl) ?_
        refine lv_iload_n C.x C.b dX12_takesTest_122 rfl (lv_at hl 0 rfl) ?_
        refine lv_bipush (v := 60) C.x C.b dX12_takesTest_123 (by decide) ?_
        replace hf := bn2_s hf; obtain ⟨q16, m17, hq16, hf⟩ := hf
        have kq16 : ∀ (H : Heap) (locs : List Loc) (ls : Array Slot), Zd K LM ad m17 s H locs → lv_has ls 4 [] → W p l e (RM (4) 0 0) s m args below meth c H locs 0 0 (MQ below (zQ K LM ad (some (.int r9)) M9) args s 0 0 (zA ad)) (F0 m 194 ls [.int q16, .ref (ad 0 0)]) := by
          intro H locs ls Z hl
          exact w_X12_takesTest_b194 C hR hB  Z (lv_sub hl [] rfl) hf
        clear hf
        refine lv_icmp_ne (tgt := 149) C.x C.b dX12_takesTest_125 (by decide) (fun hc19 => ?_) (fun hc19 => ?_)
        · have hf := ite_f hq16 hc19; clear hq16
          refine lv_iload_n C.x C.b dX12_takesTest_149 rfl (lv_at hl 0 rfl) ?_
          refine lv_bipush (v := 61) C.x C.b dX12_takesTest_150 (by decide) ?_
          refine lv_icmp_ne (tgt := 176) C.x C.b dX12_takesTest_152 (by decide) (fun hc20 => ?_) (fun hc20 => ?_)
          · replace hf := ite_f hf hc20
            refine lv_aload_n C.x C.b dX12_takesTest_176 rfl (lv_at hl 2 rfl) ?_
            refine z_get C Z (lvM0 Nat.zero_lt_one) kM0 zc12 zin12 26 (by decide) k_1202 rfl svM0_26 dX12_takesTest_177 ?_
            refine lv_iload_n C.x C.b dX12_takesTest_180 rfl (lv_at hl 1 rfl) ?_
            replace hf := asr_s hf; obtain ⟨hq21, hf⟩ := hf
            refine z_iald C Z (lvM22 Nat.zero_lt_one) kM22 hq21 svM22 dX12_takesTest_181 ?_
            refine lv_aload_n C.x C.b dX12_takesTest_182 rfl (lv_at hl 2 rfl) ?_
            refine z_get C Z (lvM0 Nat.zero_lt_one) kM0 zc12 zin12 34 (by decide) k_1210 rfl svM0_34 dX12_takesTest_183 ?_
            refine lv_icmp_le (tgt := 193) C.x C.b dX12_takesTest_186 (by decide) (fun hc22 => ?_) (fun hc22 => ?_)
            · replace hf := ite_t hf hc22
              refine lv_iconst (v := 0) C.x C.b dX12_takesTest_193 (by decide) ?_
              obtain ⟨rfl, rfl⟩ := pr_s hf
              exact kq16 _ _ _ Z (lv_sub hl [] rfl)
            · replace hf := ite_f hf hc22
              refine lv_iconst (v := 1) C.x C.b dX12_takesTest_189 (by decide) ?_
              refine lv_goto (tgt := 194) C.x C.b dX12_takesTest_190 (by decide) ?_
              obtain ⟨rfl, rfl⟩ := pr_s hf
              exact kq16 _ _ _ Z (lv_sub hl [] rfl)
          · replace hf := ite_t hf hc20
            refine lv_aload_n C.x C.b dX12_takesTest_155 rfl (lv_at hl 2 rfl) ?_
            refine z_get C Z (lvM0 Nat.zero_lt_one) kM0 zc12 zin12 26 (by decide) k_1202 rfl svM0_26 dX12_takesTest_156 ?_
            refine lv_iload_n C.x C.b dX12_takesTest_159 rfl (lv_at hl 1 rfl) ?_
            replace hf := asr_s hf; obtain ⟨hq23, hf⟩ := hf
            refine z_iald C Z (lvM22 Nat.zero_lt_one) kM22 hq23 svM22 dX12_takesTest_160 ?_
            refine lv_aload_n C.x C.b dX12_takesTest_161 rfl (lv_at hl 2 rfl) ?_
            refine z_get C Z (lvM0 Nat.zero_lt_one) kM0 zc12 zin12 34 (by decide) k_1210 rfl svM0_34 dX12_takesTest_162 ?_
            refine lv_icmp_ne (tgt := 172) C.x C.b dX12_takesTest_165 (by decide) (fun hc24 => ?_) (fun hc24 => ?_)
            · replace hf := ite_f hf hc24
              refine lv_iconst (v := 0) C.x C.b dX12_takesTest_172 (by decide) ?_
              refine lv_goto (tgt := 194) C.x C.b dX12_takesTest_173 (by decide) ?_
              obtain ⟨rfl, rfl⟩ := pr_s hf
              exact kq16 _ _ _ Z (lv_sub hl [] rfl)
            · replace hf := ite_t hf hc24
              refine lv_iconst (v := 1) C.x C.b dX12_takesTest_168 (by decide) ?_
              refine lv_goto (tgt := 194) C.x C.b dX12_takesTest_169 (by decide) ?_
              obtain ⟨rfl, rfl⟩ := pr_s hf
              exact kq16 _ _ _ Z (lv_sub hl [] rfl)
        · have hf := ite_t hq16 hc19; clear hq16
          refine lv_aload_n C.x C.b dX12_takesTest_128 rfl (lv_at hl 2 rfl) ?_
          refine z_get C Z (lvM0 Nat.zero_lt_one) kM0 zc12 zin12 26 (by decide) k_1202 rfl svM0_26 dX12_takesTest_129 ?_
          refine lv_iload_n C.x C.b dX12_takesTest_132 rfl (lv_at hl 1 rfl) ?_
          replace hf := asr_s hf; obtain ⟨hq25, hf⟩ := hf
          refine z_iald C Z (lvM22 Nat.zero_lt_one) kM22 hq25 svM22 dX12_takesTest_133 ?_
          refine lv_aload_n C.x C.b dX12_takesTest_134 rfl (lv_at hl 2 rfl) ?_
          refine z_get C Z (lvM0 Nat.zero_lt_one) kM0 zc12 zin12 34 (by decide) k_1210 rfl svM0_34 dX12_takesTest_135 ?_
          refine lv_icmp_ge (tgt := 145) C.x C.b dX12_takesTest_138 (by decide) (fun hc26 => ?_) (fun hc26 => ?_)
          · replace hf := ite_t hf hc26
            refine lv_iconst (v := 0) C.x C.b dX12_takesTest_145 (by decide) ?_
            refine lv_goto (tgt := 194) C.x C.b dX12_takesTest_146 (by decide) ?_
            obtain ⟨rfl, rfl⟩ := pr_s hf
            exact kq16 _ _ _ Z (lv_sub hl [] rfl)
          · replace hf := ite_f hf hc26
            refine lv_iconst (v := 1) C.x C.b dX12_takesTest_141 (by decide) ?_
            refine lv_goto (tgt := 194) C.x C.b dX12_takesTest_142 (by decide) ?_
            obtain ⟨rfl, rfl⟩ := pr_s hf
            exact kq16 _ _ _ Z (lv_sub hl [] rfl)
      · replace hf := ite_t hf hc15
        refine lv_iconst (v := 0) C.x C.b dX12_takesTest_119 (by decide) ?_
        obtain ⟨rfl, rfl⟩ := pr_s hf
        exact z_zret C Z rfl dX12_takesTest_120
    · replace hf := ite_t hf hc11
      refine lv_iconst (v := 0) C.x C.b dX12_takesTest_100 (by decide) ?_
      obtain ⟨rfl, rfl⟩ := pr_s hf
      exact z_zret C Z rfl dX12_takesTest_101
  · replace hf := ite_f hf hc5
    refine lv_iconst (v := 0) C.x C.b dX12_takesTest_71 (by decide) ?_
    obtain ⟨rfl, rfl⟩ := pr_s hf
    exact z_zret C Z rfl dX12_takesTest_72
set_option maxRecDepth 100000 in
set_option maxHeartbeats 4000000 in
theorem c_X12_takesTest {l : Launch} {K : KG} {ad : Nat → Nat → Nat} {fl : Nat}  {M0 : Mem} {r9 : Int32} {M9 : Mem} (hf : f_X12_takesTest fl  M0 = some (r9, M9)) : Met l yX12_takesTest (Cond.code yX12_takesTest cX12_takesTest 4 (some .boolean) :: ztb) (RM (4) 0 0) (zPc K LM ad M0 [.ref (ad 0 0)]) (zQ K LM ad (some (.int r9)) M9) 0 0 (zA ad) := by
  refine z_enter (by decide) (Nat.le_of_ble_eq_true rfl) ?_
  intro p e s m args below meth c ls C hin hargs Z hl
  replace C : Cx p s m args meth c cX12_takesTest 4 "GlassPalaceModel" (some .boolean) := C
  replace hl : lv_has ls 4 [(0, .ref (ad 0 0))] := hl
  have hR : 4 ≤ (RM (4) 0 0).frames ∧ 40 * (4) ≤ (RM (4) 0 0).locals := ⟨Nat.le_refl _, Nat.le_refl _⟩
  have hB : 0 ≤ (RM (4) 0 0).cells ∧ 0 ≤ (RM (4) 0 0).slots := ⟨Nat.zero_le _, Nat.zero_le _⟩
  unfold f_X12_takesTest at hf
  refine lv_aload_n C.x C.b dX12_takesTest_0 rfl (lv_at hl 0 rfl) ?_
  replace hf := bn2_s hf; obtain ⟨v2, m1, hkm1, hf⟩ := hf
  refine z_cV (As := []) (rest := []) (st1 := [.int v2]) C Z mw_X12_next mv_X12_next k_1470 (by decide) (z_hR hR (by decide)) (lvM0 Nat.zero_lt_one) kM0 zc12 (c_X12_next (l := l) (K := K) (ad := ad) hkm1) rfl hl.1 rfl (Nat.le_of_ble_eq_true rfl) dX12_takesTest_1 hB rfl (fun H locs Z => ?_)
  refine z_istore_n (lv' := [(1, .int v2), (0, .ref (ad 0 0))]) C dX12_takesTest_4 rfl hl (by decide) rfl (onlast 0 rfl rfl rfl) (fun ls hl => ?_)
  refine lv_iload_n C.x C.b dX12_takesTest_5 rfl (lv_at hl 0 rfl) ?_
  refine lv_bipush (v := 116) C.x C.b dX12_takesTest_6 (by decide) ?_
  replace hf := bn2_s hf; obtain ⟨q3, m4, hq3, hf⟩ := hf
  have kq3 : ∀ (H : Heap) (locs : List Loc) (ls : Array Slot), Zd K LM ad m4 s H locs → lv_has ls 4 [(0, .ref (ad 0 0))] → W p l e (RM (4) 0 0) s m args below meth c H locs 0 0 (MQ below (zQ K LM ad (some (.int r9)) M9) args s 0 0 (zA ad)) (F0 m 66 ls [.int q3]) := by
    intro H locs ls Z hl
    exact w_X12_takesTest_b66 C hR hB  Z (lv_sub hl [0] rfl) hf
  clear hf
  refine lv_icmp_ne (tgt := 15) C.x C.b dX12_takesTest_8 (by decide) (fun hc27 => ?_) (fun hc27 => ?_)
  · have hf := ite_f hq3 hc27; clear hq3
    refine lv_iload_n C.x C.b dX12_takesTest_15 rfl (lv_at hl 0 rfl) ?_
    refine lv_bipush (v := 108) C.x C.b dX12_takesTest_16 (by decide) ?_
    refine lv_icmp_ne (tgt := 25) C.x C.b dX12_takesTest_18 (by decide) (fun hc28 => ?_) (fun hc28 => ?_)
    · replace hf := ite_f hf hc28
      refine lv_iload_n C.x C.b dX12_takesTest_25 rfl (lv_at hl 0 rfl) ?_
      refine lv_bipush (v := 99) C.x C.b dX12_takesTest_26 (by decide) ?_
      refine lv_icmp_ne (tgt := 35) C.x C.b dX12_takesTest_28 (by decide) (fun hc29 => ?_) (fun hc29 => ?_)
      · replace hf := ite_f hf hc29
        refine lv_iload_n C.x C.b dX12_takesTest_35 rfl (lv_at hl 0 rfl) ?_
        refine lv_bipush (v := 114) C.x C.b dX12_takesTest_36 (by decide) ?_
        refine lv_icmp_ne (tgt := 45) C.x C.b dX12_takesTest_38 (by decide) (fun hc30 => ?_) (fun hc30 => ?_)
        · replace hf := ite_f hf hc30
          refine lv_iload_n C.x C.b dX12_takesTest_45 rfl (lv_at hl 0 rfl) ?_
          refine lv_bipush (v := 100) C.x C.b dX12_takesTest_46 (by decide) ?_
          refine lv_icmp_ne (tgt := 55) C.x C.b dX12_takesTest_48 (by decide) (fun hc31 => ?_) (fun hc31 => ?_)
          · replace hf := ite_f hf hc31
            refine lv_iload_n C.x C.b dX12_takesTest_55 rfl (lv_at hl 0 rfl) ?_
            refine lv_bipush (v := 102) C.x C.b dX12_takesTest_56 (by decide) ?_
            refine lv_icmp_ne (tgt := 65) C.x C.b dX12_takesTest_58 (by decide) (fun hc32 => ?_) (fun hc32 => ?_)
            · replace hf := ite_f hf hc32
              refine lv_iconst (v := (-1)) C.x C.b dX12_takesTest_65 (by decide) ?_
              obtain ⟨rfl, rfl⟩ := pr_s hf
              exact kq3 _ _ _ Z (lv_sub hl [1] rfl)
            · replace hf := ite_t hf hc32
              refine lv_iconst (v := 5) C.x C.b dX12_takesTest_61 (by decide) ?_
              refine lv_goto (tgt := 66) C.x C.b dX12_takesTest_62 (by decide) ?_
              obtain ⟨rfl, rfl⟩ := pr_s hf
              exact kq3 _ _ _ Z (lv_sub hl [1] rfl)
          · replace hf := ite_t hf hc31
            refine lv_iconst (v := 4) C.x C.b dX12_takesTest_51 (by decide) ?_
            refine lv_goto (tgt := 66) C.x C.b dX12_takesTest_52 (by decide) ?_
            obtain ⟨rfl, rfl⟩ := pr_s hf
            exact kq3 _ _ _ Z (lv_sub hl [1] rfl)
        · replace hf := ite_t hf hc30
          refine lv_iconst (v := 3) C.x C.b dX12_takesTest_41 (by decide) ?_
          refine lv_goto (tgt := 66) C.x C.b dX12_takesTest_42 (by decide) ?_
          obtain ⟨rfl, rfl⟩ := pr_s hf
          exact kq3 _ _ _ Z (lv_sub hl [1] rfl)
      · replace hf := ite_t hf hc29
        refine lv_iconst (v := 2) C.x C.b dX12_takesTest_31 (by decide) ?_
        refine lv_goto (tgt := 66) C.x C.b dX12_takesTest_32 (by decide) ?_
        obtain ⟨rfl, rfl⟩ := pr_s hf
        exact kq3 _ _ _ Z (lv_sub hl [1] rfl)
    · replace hf := ite_t hf hc28
      refine lv_iconst (v := 1) C.x C.b dX12_takesTest_21 (by decide) ?_
      refine lv_goto (tgt := 66) C.x C.b dX12_takesTest_22 (by decide) ?_
      obtain ⟨rfl, rfl⟩ := pr_s hf
      exact kq3 _ _ _ Z (lv_sub hl [1] rfl)
  · have hf := ite_t hq3 hc27; clear hq3
    refine lv_iconst (v := 0) C.x C.b dX12_takesTest_11 (by decide) ?_
    refine lv_goto (tgt := 66) C.x C.b dX12_takesTest_12 (by decide) ?_
    obtain ⟨rfl, rfl⟩ := pr_s hf
    exact kq3 _ _ _ Z (lv_sub hl [1] rfl)
