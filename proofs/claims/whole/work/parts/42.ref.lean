theorem dX12_tried_0 : decode cX12_tried 0 = .ok (.aload_n 0, 1) := by decide +kernel
theorem dX12_tried_1 : decode cX12_tried 1 = .ok (.iload_n 1, 1) := by decide +kernel
theorem dX12_tried_2 : decode cX12_tried 2 = .ok (.invokevirtual 251, 3) := by decide +kernel
theorem dX12_tried_5 : decode cX12_tried 5 = .ok (.ifCond .ne 5, 3) := by decide +kernel
theorem dX12_tried_8 : decode cX12_tried 8 = .ok (.iconst (-1), 1) := by decide +kernel
theorem dX12_tried_9 : decode cX12_tried 9 = .ok (.ireturn, 1) := by decide +kernel
theorem dX12_tried_10 : decode cX12_tried 10 = .ok (.aload_n 0, 1) := by decide +kernel
theorem dX12_tried_11 : decode cX12_tried 11 = .ok (.iload_n 2, 1) := by decide +kernel
theorem dX12_tried_12 : decode cX12_tried 12 = .ok (.iconst 0, 1) := by decide +kernel
theorem dX12_tried_13 : decode cX12_tried 13 = .ok (.sipush 2000, 3) := by decide +kernel
theorem dX12_tried_16 : decode cX12_tried 16 = .ok (.invokevirtual 3, 3) := by decide +kernel
theorem dX12_tried_19 : decode cX12_tried 19 = .ok (.ifCond .ne 6, 3) := by decide +kernel
theorem dX12_tried_22 : decode cX12_tried 22 = .ok (.bipush (-2), 2) := by decide +kernel
theorem dX12_tried_24 : decode cX12_tried 24 = .ok (.ireturn, 1) := by decide +kernel
theorem dX12_tried_25 : decode cX12_tried 25 = .ok (.aload_n 0, 1) := by decide +kernel
theorem dX12_tried_26 : decode cX12_tried 26 = .ok (.iload_n 1, 1) := by decide +kernel
theorem dX12_tried_27 : decode cX12_tried 27 = .ok (.invokevirtual 257, 3) := by decide +kernel
theorem dX12_tried_30 : decode cX12_tried 30 = .ok (.iconst 1, 1) := by decide +kernel
theorem dX12_tried_31 : decode cX12_tried 31 = .ok (.if_icmp .ge 6, 3) := by decide +kernel
theorem dX12_tried_34 : decode cX12_tried 34 = .ok (.bipush (-3), 2) := by decide +kernel
theorem dX12_tried_36 : decode cX12_tried 36 = .ok (.ireturn, 1) := by decide +kernel
theorem dX12_tried_37 : decode cX12_tried 37 = .ok (.iload_n 2, 1) := by decide +kernel
theorem dX12_tried_38 : decode cX12_tried 38 = .ok (.aload_n 0, 1) := by decide +kernel
theorem dX12_tried_39 : decode cX12_tried 39 = .ok (.getfield 37, 3) := by decide +kernel
theorem dX12_tried_42 : decode cX12_tried 42 = .ok (.iload_n 1, 1) := by decide +kernel
theorem dX12_tried_43 : decode cX12_tried 43 = .ok (.iaload, 1) := by decide +kernel
theorem dX12_tried_44 : decode cX12_tried 44 = .ok (.iconst 2, 1) := by decide +kernel
theorem dX12_tried_45 : decode cX12_tried 45 = .ok (.if_icmp .ne 12, 3) := by decide +kernel
theorem dX12_tried_48 : decode cX12_tried 48 = .ok (.aload_n 0, 1) := by decide +kernel
theorem dX12_tried_49 : decode cX12_tried 49 = .ok (.getfield 46, 3) := by decide +kernel
theorem dX12_tried_52 : decode cX12_tried 52 = .ok (.iload_n 1, 1) := by decide +kernel
theorem dX12_tried_53 : decode cX12_tried 53 = .ok (.iaload, 1) := by decide +kernel
theorem dX12_tried_54 : decode cX12_tried 54 = .ok (.goto 5, 3) := by decide +kernel
theorem dX12_tried_57 : decode cX12_tried 57 = .ok (.bipush 100, 2) := by decide +kernel
theorem dX12_tried_59 : decode cX12_tried 59 = .ok (.if_icmp .gt 5, 3) := by decide +kernel
theorem dX12_tried_62 : decode cX12_tried 62 = .ok (.iconst 1, 1) := by decide +kernel
theorem dX12_tried_63 : decode cX12_tried 63 = .ok (.ireturn, 1) := by decide +kernel
theorem dX12_tried_64 : decode cX12_tried 64 = .ok (.aload_n 0, 1) := by decide +kernel
theorem dX12_tried_65 : decode cX12_tried 65 = .ok (.getfield 58, 3) := by decide +kernel
theorem dX12_tried_68 : decode cX12_tried 68 = .ok (.iload_n 1, 1) := by decide +kernel
theorem dX12_tried_69 : decode cX12_tried 69 = .ok (.dup2, 1) := by decide +kernel
theorem dX12_tried_70 : decode cX12_tried 70 = .ok (.iaload, 1) := by decide +kernel
theorem dX12_tried_71 : decode cX12_tried 71 = .ok (.iconst 1, 1) := by decide +kernel
theorem dX12_tried_72 : decode cX12_tried 72 = .ok (.iadd, 1) := by decide +kernel
theorem dX12_tried_73 : decode cX12_tried 73 = .ok (.iastore, 1) := by decide +kernel
theorem dX12_tried_74 : decode cX12_tried 74 = .ok (.aload_n 0, 1) := by decide +kernel
theorem dX12_tried_75 : decode cX12_tried 75 = .ok (.dup, 1) := by decide +kernel
theorem dX12_tried_76 : decode cX12_tried 76 = .ok (.getfield 65, 3) := by decide +kernel
theorem dX12_tried_79 : decode cX12_tried 79 = .ok (.iconst 1, 1) := by decide +kernel
theorem dX12_tried_80 : decode cX12_tried 80 = .ok (.iadd, 1) := by decide +kernel
theorem dX12_tried_81 : decode cX12_tried 81 = .ok (.putfield 65, 3) := by decide +kernel
theorem dX12_tried_84 : decode cX12_tried 84 = .ok (.aload_n 0, 1) := by decide +kernel
theorem dX12_tried_85 : decode cX12_tried 85 = .ok (.getfield 61, 3) := by decide +kernel
theorem dX12_tried_88 : decode cX12_tried 88 = .ok (.iload_n 1, 1) := by decide +kernel
theorem dX12_tried_89 : decode cX12_tried 89 = .ok (.iconst 1, 1) := by decide +kernel
theorem dX12_tried_90 : decode cX12_tried 90 = .ok (.bastore, 1) := by decide +kernel
theorem dX12_tried_91 : decode cX12_tried 91 = .ok (.iconst 0, 1) := by decide +kernel
theorem dX12_tried_92 : decode cX12_tried 92 = .ok (.ireturn, 1) := by decide +kernel
set_option maxRecDepth 100000 in
set_option maxHeartbeats 4000000 in
theorem w_X12_tried_b59 {p : Program} {l : Launch} {e : Env} {s : State} {m : MethodId} {args : Array Value} {below : List Frame} {meth : Method} {c : Code} {K : KG} {ad : Nat → Nat → Nat} {fl : Nat} {H : Heap} {locs : List Loc} {ls : Array Slot} {g1 : Int32} {z0 : Int32} {z1 : Int32} {M0 : Mem} {r9 : Int32} {M9 : Mem} (C : Cx p s m args meth c cX12_tried 3 "GlassPalaceModel" (some .int)) (hR : 3 ≤ (RM (3) 0 0).frames ∧ 40 * (3) ≤ (RM (3) 0 0).locals) (hB : 0 ≤ (RM (3) 0 0).cells ∧ 0 ≤ (RM (3) 0 0).slots) (Z : Zd K LM ad M0 s H locs) (hl : lv_has ls 3 [(0, .ref (ad 0 0)), (1, .int g1)]) (hf : f_X12_tried_b59 fl g1 z0 z1 M0 = some (r9, M9)) : W p l e (RM (3) 0 0) s m args below meth c H locs 0 0 (MQ below (zQ K LM ad (some (.int r9)) M9) args s 0 0 (zA ad)) (F0 m 59 ls [.int z1, .int z0]) := by
  unfold f_X12_tried_b59 at hf
  refine lv_icmp_gt (tgt := 64) C.x C.b dX12_tried_59 (by decide) (fun hc13 => ?_) (fun hc13 => ?_)
  · replace hf := ite_t hf hc13
    refine lv_aload_n C.x C.b dX12_tried_64 rfl (lv_at hl 0 rfl) ?_
    refine z_get C Z (lvM0 Nat.zero_lt_one) kM0 zc12 zin12 13 (by decide) k_1189 rfl svM0_13 dX12_tried_65 ?_
    refine lv_iload_n C.x C.b dX12_tried_68 rfl (lv_at hl 1 rfl) ?_
    refine lv_dup2_11 C.x C.b dX12_tried_69 rfl rfl ?_
    replace hf := asr_s hf; obtain ⟨hq14, hf⟩ := hf
    refine z_iald C Z (lvM12 Nat.zero_lt_one) kM12 hq14 svM12 dX12_tried_70 ?_
    refine lv_iconst (v := 1) C.x C.b dX12_tried_71 (by decide) ?_
    refine lv_iadd C.x C.b dX12_tried_72 ?_
    replace hf := asr_s hf; obtain ⟨hq15, hf⟩ := hf
    replace hf := lt1_s hf; obtain ⟨m16, em16, hf⟩ := hf
    refine z_iast (M1 := m16) C Z (lvM12 Nat.zero_lt_one) (by decide) kM12 hq15 em16 stM12u dX12_tried_73 (fun H locs Z => ?_)
    refine lv_aload_n C.x C.b dX12_tried_74 rfl (lv_at hl 0 rfl) ?_
    refine lv_dup C.x C.b dX12_tried_75 rfl ?_
    refine z_get C Z (lvM0 Nat.zero_lt_one) kM0 zc12 zin12 15 (by decide) k_1191 rfl svM0_15 dX12_tried_76 ?_
    refine lv_iconst (v := 1) C.x C.b dX12_tried_79 (by decide) ?_
    refine lv_iadd C.x C.b dX12_tried_80 ?_
    replace hf := lt1_s hf; obtain ⟨m17, em17, hf⟩ := hf
    refine z_put (M1 := m17) C Z (lvM0 Nat.zero_lt_one) (by decide) kM0 zc12 zin12 tyX12_ok nmX12 15 (by decide) k_1191 rfl (zUp_I em17 stM0_15u) (Or.inl rfl) rfl rfl dX12_tried_81 (fun H locs Z => ?_)
    refine lv_aload_n C.x C.b dX12_tried_84 rfl (lv_at hl 0 rfl) ?_
    refine z_get C Z (lvM0 Nat.zero_lt_one) kM0 zc12 zin12 14 (by decide) k_1190 rfl svM0_14 dX12_tried_85 ?_
    refine lv_iload_n C.x C.b dX12_tried_88 rfl (lv_at hl 1 rfl) ?_
    refine lv_iconst (v := 1) C.x C.b dX12_tried_89 (by decide) ?_
    replace hf := asr_s hf; obtain ⟨hq18, hf⟩ := hf
    replace hf := lt1_s hf; obtain ⟨m19, em19, hf⟩ := hf
    refine z_zast (M1 := m19) C Z (lvM13 Nat.zero_lt_one) (by decide) kM13 hq18 em19 stM13u dX12_tried_90 (fun H locs Z => ?_)
    refine lv_iconst (v := 0) C.x C.b dX12_tried_91 (by decide) ?_
    obtain ⟨rfl, rfl⟩ := pr_s hf
    exact z_iret C Z dX12_tried_92
  · replace hf := ite_f hf hc13
    refine lv_iconst (v := 1) C.x C.b dX12_tried_62 (by decide) ?_
    obtain ⟨rfl, rfl⟩ := pr_s hf
    exact z_iret C Z dX12_tried_63
set_option maxRecDepth 100000 in
set_option maxHeartbeats 4000000 in
theorem c_X12_tried {l : Launch} {K : KG} {ad : Nat → Nat → Nat} {fl : Nat} {a1 : Int32} {a2 : Int32} {M0 : Mem} {r9 : Int32} {M9 : Mem} (hf : f_X12_tried fl a1 a2 M0 = some (r9, M9)) : Met l yX12_tried (Cond.code yX12_tried cX12_tried 3 (some .int) :: ztb) (RM (3) 0 0) (zPc K LM ad M0 [.ref (ad 0 0), .int a1, .int a2]) (zQ K LM ad (some (.int r9)) M9) 0 0 (zA ad) := by
  refine z_enter (by decide) (Nat.le_of_ble_eq_true rfl) ?_
  intro p e s m args below meth c ls C hin hargs Z hl
  replace C : Cx p s m args meth c cX12_tried 3 "GlassPalaceModel" (some .int) := C
  replace hl : lv_has ls 3 [(0, .ref (ad 0 0)), (1, .int a1), (2, .int a2)] := hl
  have hR : 3 ≤ (RM (3) 0 0).frames ∧ 40 * (3) ≤ (RM (3) 0 0).locals := ⟨Nat.le_refl _, Nat.le_refl _⟩
  have hB : 0 ≤ (RM (3) 0 0).cells ∧ 0 ≤ (RM (3) 0 0).slots := ⟨Nat.zero_le _, Nat.zero_le _⟩
  unfold f_X12_tried at hf
  refine lv_aload_n C.x C.b dX12_tried_0 rfl (lv_at hl 0 rfl) ?_
  refine lv_iload_n C.x C.b dX12_tried_1 rfl (lv_at hl 1 rfl) ?_
  replace hf := bn2_s hf; obtain ⟨v2, m1, hkm1, hf⟩ := hf
  refine z_cV (As := [.int a1]) (rest := []) (st1 := [.int v2]) C Z mw_X12_isLot mv_X12_isLot k_1434 (by decide) (z_hR hR (by decide)) (lvM0 Nat.zero_lt_one) kM0 zc12 (c_X12_isLot (l := l) (K := K) (ad := ad) hkm1) rfl hl.1 rfl (Nat.le_of_ble_eq_true rfl) dX12_tried_2 hB rfl (fun H locs Z => ?_)
  refine lv_if_ne (tgt := 10) C.x C.b dX12_tried_5 (by decide) (fun hc3 => ?_) (fun hc3 => ?_)
  · replace hf := ite_f hf hc3
    refine lv_aload_n C.x C.b dX12_tried_10 rfl (lv_at hl 0 rfl) ?_
    refine lv_iload_n C.x C.b dX12_tried_11 rfl (lv_at hl 2 rfl) ?_
    refine lv_iconst (v := 0) C.x C.b dX12_tried_12 (by decide) ?_
    refine lv_sipush (v := 2000) C.x C.b dX12_tried_13 (by decide) ?_
    replace hf := bn2_s hf; obtain ⟨v5, m4, hkm4, hf⟩ := hf
    refine z_cV (As := [.int a2, .int 0, .int 2000]) (rest := []) (st1 := [.int v5]) C Z mw_X12_in mv_X12_in k_1398 (by decide) (z_hR hR (by decide)) (lvM0 Nat.zero_lt_one) kM0 zc12 (c_X12_in (l := l) (K := K) (ad := ad) hkm4) rfl hl.1 rfl (Nat.le_of_ble_eq_true rfl) dX12_tried_16 hB rfl (fun H locs Z => ?_)
    refine lv_if_ne (tgt := 25) C.x C.b dX12_tried_19 (by decide) (fun hc6 => ?_) (fun hc6 => ?_)
    · replace hf := ite_f hf hc6
      refine lv_aload_n C.x C.b dX12_tried_25 rfl (lv_at hl 0 rfl) ?_
      refine lv_iload_n C.x C.b dX12_tried_26 rfl (lv_at hl 1 rfl) ?_
      replace hf := bn2_s hf; obtain ⟨v8, m7, hkm7, hf⟩ := hf
      refine z_cV (As := [.int a1]) (rest := []) (st1 := [.int v8]) C Z mw_X12_stock mv_X12_stock k_1442 (by decide) (z_hR hR (by decide)) (lvM0 Nat.zero_lt_one) kM0 zc12 (c_X12_stock (l := l) (K := K) (ad := ad) hkm7) rfl hl.1 rfl (Nat.le_of_ble_eq_true rfl) dX12_tried_27 hB rfl (fun H locs Z => ?_)
      refine lv_iconst (v := 1) C.x C.b dX12_tried_30 (by decide) ?_
      refine lv_icmp_ge (tgt := 37) C.x C.b dX12_tried_31 (by decide) (fun hc9 => ?_) (fun hc9 => ?_)
      · replace hf := ite_t hf hc9
        refine lv_iload_n C.x C.b dX12_tried_37 rfl (lv_at hl 2 rfl) ?_
        refine lv_aload_n C.x C.b dX12_tried_38 rfl (lv_at hl 0 rfl) ?_
        refine z_get C Z (lvM0 Nat.zero_lt_one) kM0 zc12 zin12 6 (by decide) k_1182 rfl svM0_6 dX12_tried_39 ?_
        refine lv_iload_n C.x C.b dX12_tried_42 rfl (lv_at hl 1 rfl) ?_
        replace hf := asr_s hf; obtain ⟨hq10, hf⟩ := hf
        refine z_iald C Z (lvM5 Nat.zero_lt_one) kM5 hq10 svM5 dX12_tried_43 ?_
        refine lv_iconst (v := 2) C.x C.b dX12_tried_44 (by decide) ?_
        replace hf := bn2_s hf; obtain ⟨q11, m12, hq11, hf⟩ := hf
        have kq11 : ∀ (H : Heap) (locs : List Loc) (ls : Array Slot), Zd K LM ad m12 s H locs → lv_has ls 3 [(0, .ref (ad 0 0)), (1, .int a1)] → W p l e (RM (3) 0 0) s m args below meth c H locs 0 0 (MQ below (zQ K LM ad (some (.int r9)) M9) args s 0 0 (zA ad)) (F0 m 59 ls [.int q11, .int a2]) := by
          intro H locs ls Z hl
          exact w_X12_tried_b59 C hR hB  Z (lv_sub hl [0, 1] rfl) hf
        clear hf
        refine lv_icmp_ne (tgt := 57) C.x C.b dX12_tried_45 (by decide) (fun hc20 => ?_) (fun hc20 => ?_)
        · have hf := ite_f hq11 hc20; clear hq11
          refine lv_bipush (v := 100) C.x C.b dX12_tried_57 (by decide) ?_
          obtain ⟨rfl, rfl⟩ := pr_s hf
          exact kq11 _ _ _ Z (lv_sub hl [0, 1] rfl)
        · have hf := ite_t hq11 hc20; clear hq11
          refine lv_aload_n C.x C.b dX12_tried_48 rfl (lv_at hl 0 rfl) ?_
          refine z_get C Z (lvM0 Nat.zero_lt_one) kM0 zc12 zin12 9 (by decide) k_1185 rfl svM0_9 dX12_tried_49 ?_
          refine lv_iload_n C.x C.b dX12_tried_52 rfl (lv_at hl 1 rfl) ?_
          replace hf := asr_s hf; obtain ⟨hq21, hf⟩ := hf
          refine z_iald C Z (lvM8 Nat.zero_lt_one) kM8 hq21 svM8 dX12_tried_53 ?_
          refine lv_goto (tgt := 59) C.x C.b dX12_tried_54 (by decide) ?_
          obtain ⟨rfl, rfl⟩ := pr_s hf
          exact kq11 _ _ _ Z (lv_sub hl [0, 1] rfl)
      · replace hf := ite_f hf hc9
        refine lv_bipush (v := (-3)) C.x C.b dX12_tried_34 (by decide) ?_
        obtain ⟨rfl, rfl⟩ := pr_s hf
        exact z_iret C Z dX12_tried_36
    · replace hf := ite_t hf hc6
      refine lv_bipush (v := (-2)) C.x C.b dX12_tried_22 (by decide) ?_
      obtain ⟨rfl, rfl⟩ := pr_s hf
      exact z_iret C Z dX12_tried_24
  · replace hf := ite_t hf hc3
    refine lv_iconst (v := (-1)) C.x C.b dX12_tried_8 (by decide) ?_
    obtain ⟨rfl, rfl⟩ := pr_s hf
    exact z_iret C Z dX12_tried_9
theorem dX12_sell_0 : decode cX12_sell 0 = .ok (.aload_n 0, 1) := by decide +kernel
theorem dX12_sell_1 : decode cX12_sell 1 = .ok (.iload_n 1, 1) := by decide +kernel
theorem dX12_sell_2 : decode cX12_sell 2 = .ok (.invokevirtual 251, 3) := by decide +kernel
theorem dX12_sell_5 : decode cX12_sell 5 = .ok (.ifCond .ne 5, 3) := by decide +kernel
theorem dX12_sell_8 : decode cX12_sell 8 = .ok (.iconst (-1), 1) := by decide +kernel
theorem dX12_sell_9 : decode cX12_sell 9 = .ok (.ireturn, 1) := by decide +kernel
theorem dX12_sell_10 : decode cX12_sell 10 = .ok (.aload_n 0, 1) := by decide +kernel
theorem dX12_sell_11 : decode cX12_sell 11 = .ok (.iload_n 2, 1) := by decide +kernel
theorem dX12_sell_12 : decode cX12_sell 12 = .ok (.iconst 1, 1) := by decide +kernel
theorem dX12_sell_13 : decode cX12_sell 13 = .ok (.sipush 999, 3) := by decide +kernel
theorem dX12_sell_16 : decode cX12_sell 16 = .ok (.invokevirtual 3, 3) := by decide +kernel
theorem dX12_sell_19 : decode cX12_sell 19 = .ok (.ifCond .ne 6, 3) := by decide +kernel
theorem dX12_sell_22 : decode cX12_sell 22 = .ok (.bipush (-2), 2) := by decide +kernel
theorem dX12_sell_24 : decode cX12_sell 24 = .ok (.ireturn, 1) := by decide +kernel
theorem dX12_sell_25 : decode cX12_sell 25 = .ok (.aload_n 0, 1) := by decide +kernel
theorem dX12_sell_26 : decode cX12_sell 26 = .ok (.iload_n 1, 1) := by decide +kernel
theorem dX12_sell_27 : decode cX12_sell 27 = .ok (.invokevirtual 257, 3) := by decide +kernel
theorem dX12_sell_30 : decode cX12_sell 30 = .ok (.iload_n 2, 1) := by decide +kernel
theorem dX12_sell_31 : decode cX12_sell 31 = .ok (.if_icmp .ge 6, 3) := by decide +kernel
theorem dX12_sell_34 : decode cX12_sell 34 = .ok (.bipush (-3), 2) := by decide +kernel
theorem dX12_sell_36 : decode cX12_sell 36 = .ok (.ireturn, 1) := by decide +kernel
theorem dX12_sell_37 : decode cX12_sell 37 = .ok (.aload_n 0, 1) := by decide +kernel
theorem dX12_sell_38 : decode cX12_sell 38 = .ok (.getfield 58, 3) := by decide +kernel
theorem dX12_sell_41 : decode cX12_sell 41 = .ok (.iload_n 1, 1) := by decide +kernel
theorem dX12_sell_42 : decode cX12_sell 42 = .ok (.dup2, 1) := by decide +kernel
theorem dX12_sell_43 : decode cX12_sell 43 = .ok (.iaload, 1) := by decide +kernel
theorem dX12_sell_44 : decode cX12_sell 44 = .ok (.iload_n 2, 1) := by decide +kernel
theorem dX12_sell_45 : decode cX12_sell 45 = .ok (.iadd, 1) := by decide +kernel
theorem dX12_sell_46 : decode cX12_sell 46 = .ok (.iastore, 1) := by decide +kernel
theorem dX12_sell_47 : decode cX12_sell 47 = .ok (.aload_n 0, 1) := by decide +kernel
theorem dX12_sell_48 : decode cX12_sell 48 = .ok (.iload_n 1, 1) := by decide +kernel
theorem dX12_sell_49 : decode cX12_sell 49 = .ok (.invokevirtual 257, 3) := by decide +kernel
theorem dX12_sell_52 : decode cX12_sell 52 = .ok (.ireturn, 1) := by decide +kernel
set_option maxRecDepth 100000 in
set_option maxHeartbeats 4000000 in
theorem c_X12_sell {l : Launch} {K : KG} {ad : Nat → Nat → Nat} {fl : Nat} {a1 : Int32} {a2 : Int32} {M0 : Mem} {r9 : Int32} {M9 : Mem} (hf : f_X12_sell fl a1 a2 M0 = some (r9, M9)) : Met l yX12_sell (Cond.code yX12_sell cX12_sell 3 (some .int) :: ztb) (RM (3) 0 0) (zPc K LM ad M0 [.ref (ad 0 0), .int a1, .int a2]) (zQ K LM ad (some (.int r9)) M9) 0 0 (zA ad) := by
  refine z_enter (by decide) (Nat.le_of_ble_eq_true rfl) ?_
  intro p e s m args below meth c ls C hin hargs Z hl
  replace C : Cx p s m args meth c cX12_sell 3 "GlassPalaceModel" (some .int) := C
  replace hl : lv_has ls 3 [(0, .ref (ad 0 0)), (1, .int a1), (2, .int a2)] := hl
  have hR : 3 ≤ (RM (3) 0 0).frames ∧ 40 * (3) ≤ (RM (3) 0 0).locals := ⟨Nat.le_refl _, Nat.le_refl _⟩
  have hB : 0 ≤ (RM (3) 0 0).cells ∧ 0 ≤ (RM (3) 0 0).slots := ⟨Nat.zero_le _, Nat.zero_le _⟩
  unfold f_X12_sell at hf
  refine lv_aload_n C.x C.b dX12_sell_0 rfl (lv_at hl 0 rfl) ?_
  refine lv_iload_n C.x C.b dX12_sell_1 rfl (lv_at hl 1 rfl) ?_
  replace hf := bn2_s hf; obtain ⟨v2, m1, hkm1, hf⟩ := hf
  refine z_cV (As := [.int a1]) (rest := []) (st1 := [.int v2]) C Z mw_X12_isLot mv_X12_isLot k_1434 (by decide) (z_hR hR (by decide)) (lvM0 Nat.zero_lt_one) kM0 zc12 (c_X12_isLot (l := l) (K := K) (ad := ad) hkm1) rfl hl.1 rfl (Nat.le_of_ble_eq_true rfl) dX12_sell_2 hB rfl (fun H locs Z => ?_)
  refine lv_if_ne (tgt := 10) C.x C.b dX12_sell_5 (by decide) (fun hc3 => ?_) (fun hc3 => ?_)
  · replace hf := ite_f hf hc3
    refine lv_aload_n C.x C.b dX12_sell_10 rfl (lv_at hl 0 rfl) ?_
    refine lv_iload_n C.x C.b dX12_sell_11 rfl (lv_at hl 2 rfl) ?_
    refine lv_iconst (v := 1) C.x C.b dX12_sell_12 (by decide) ?_
    refine lv_sipush (v := 999) C.x C.b dX12_sell_13 (by decide) ?_
    replace hf := bn2_s hf; obtain ⟨v5, m4, hkm4, hf⟩ := hf
    refine z_cV (As := [.int a2, .int 1, .int 999]) (rest := []) (st1 := [.int v5]) C Z mw_X12_in mv_X12_in k_1398 (by decide) (z_hR hR (by decide)) (lvM0 Nat.zero_lt_one) kM0 zc12 (c_X12_in (l := l) (K := K) (ad := ad) hkm4) rfl hl.1 rfl (Nat.le_of_ble_eq_true rfl) dX12_sell_16 hB rfl (fun H locs Z => ?_)
    refine lv_if_ne (tgt := 25) C.x C.b dX12_sell_19 (by decide) (fun hc6 => ?_) (fun hc6 => ?_)
    · replace hf := ite_f hf hc6
      refine lv_aload_n C.x C.b dX12_sell_25 rfl (lv_at hl 0 rfl) ?_
      refine lv_iload_n C.x C.b dX12_sell_26 rfl (lv_at hl 1 rfl) ?_
      replace hf := bn2_s hf; obtain ⟨v8, m7, hkm7, hf⟩ := hf
      refine z_cV (As := [.int a1]) (rest := []) (st1 := [.int v8]) C Z mw_X12_stock mv_X12_stock k_1442 (by decide) (z_hR hR (by decide)) (lvM0 Nat.zero_lt_one) kM0 zc12 (c_X12_stock (l := l) (K := K) (ad := ad) hkm7) rfl hl.1 rfl (Nat.le_of_ble_eq_true rfl) dX12_sell_27 hB rfl (fun H locs Z => ?_)
      refine lv_iload_n C.x C.b dX12_sell_30 rfl (lv_at hl 2 rfl) ?_
      refine lv_icmp_ge (tgt := 37) C.x C.b dX12_sell_31 (by decide) (fun hc9 => ?_) (fun hc9 => ?_)
      · replace hf := ite_t hf hc9
        refine lv_aload_n C.x C.b dX12_sell_37 rfl (lv_at hl 0 rfl) ?_
        refine z_get C Z (lvM0 Nat.zero_lt_one) kM0 zc12 zin12 13 (by decide) k_1189 rfl svM0_13 dX12_sell_38 ?_
        refine lv_iload_n C.x C.b dX12_sell_41 rfl (lv_at hl 1 rfl) ?_
        refine lv_dup2_11 C.x C.b dX12_sell_42 rfl rfl ?_
        replace hf := asr_s hf; obtain ⟨hq10, hf⟩ := hf
        refine z_iald C Z (lvM12 Nat.zero_lt_one) kM12 hq10 svM12 dX12_sell_43 ?_
        refine lv_iload_n C.x C.b dX12_sell_44 rfl (lv_at hl 2 rfl) ?_
        refine lv_iadd C.x C.b dX12_sell_45 ?_
        replace hf := asr_s hf; obtain ⟨hq11, hf⟩ := hf
        replace hf := lt1_s hf; obtain ⟨m12, em12, hf⟩ := hf
        refine z_iast (M1 := m12) C Z (lvM12 Nat.zero_lt_one) (by decide) kM12 hq11 em12 stM12u dX12_sell_46 (fun H locs Z => ?_)
        refine lv_aload_n C.x C.b dX12_sell_47 rfl (lv_at hl 0 rfl) ?_
        refine lv_iload_n C.x C.b dX12_sell_48 rfl (lv_at hl 1 rfl) ?_
        replace hf := bn2_s hf; obtain ⟨v14, m13, hkm13, hf⟩ := hf
        refine z_cV (As := [.int a1]) (rest := []) (st1 := [.int v14]) C Z mw_X12_stock mv_X12_stock k_1442 (by decide) (z_hR hR (by decide)) (lvM0 Nat.zero_lt_one) kM0 zc12 (c_X12_stock (l := l) (K := K) (ad := ad) hkm13) rfl hl.1 rfl (Nat.le_of_ble_eq_true rfl) dX12_sell_49 hB rfl (fun H locs Z => ?_)
        obtain ⟨rfl, rfl⟩ := pr_s hf
        exact z_iret C Z dX12_sell_52
      · replace hf := ite_f hf hc9
        refine lv_bipush (v := (-3)) C.x C.b dX12_sell_34 (by decide) ?_
        obtain ⟨rfl, rfl⟩ := pr_s hf
        exact z_iret C Z dX12_sell_36
    · replace hf := ite_t hf hc6
      refine lv_bipush (v := (-2)) C.x C.b dX12_sell_22 (by decide) ?_
      obtain ⟨rfl, rfl⟩ := pr_s hf
      exact z_iret C Z dX12_sell_24
  · replace hf := ite_t hf hc3
    refine lv_iconst (v := (-1)) C.x C.b dX12_sell_8 (by decide) ?_
    obtain ⟨rfl, rfl⟩ := pr_s hf
    exact z_iret C Z dX12_sell_9
theorem dX12_wantsOf_0 : decode cX12_wantsOf 0 = .ok (.bipush 100, 2) := by decide +kernel
theorem dX12_wantsOf_2 : decode cX12_wantsOf 2 = .ok (.iconst 2, 1) := by decide +kernel
theorem dX12_wantsOf_3 : decode cX12_wantsOf 3 = .ok (.aload_n 0, 1) := by decide +kernel
theorem dX12_wantsOf_4 : decode cX12_wantsOf 4 = .ok (.getfield 24, 3) := by decide +kernel
theorem dX12_wantsOf_7 : decode cX12_wantsOf 7 = .ok (.iload_n 1, 1) := by decide +kernel
theorem dX12_wantsOf_8 : decode cX12_wantsOf 8 = .ok (.iaload, 1) := by decide +kernel
theorem dX12_wantsOf_9 : decode cX12_wantsOf 9 = .ok (.imul, 1) := by decide +kernel
theorem dX12_wantsOf_10 : decode cX12_wantsOf 10 = .ok (.isub, 1) := by decide +kernel
theorem dX12_wantsOf_11 : decode cX12_wantsOf 11 = .ok (.ireturn, 1) := by decide +kernel
set_option maxRecDepth 100000 in
set_option maxHeartbeats 4000000 in
theorem c_X12_wantsOf {l : Launch} {K : KG} {ad : Nat → Nat → Nat} {fl : Nat} {a1 : Int32} {M0 : Mem} {r9 : Int32} {M9 : Mem} (hf : f_X12_wantsOf fl a1 M0 = some (r9, M9)) : Met l yX12_wantsOf (Cond.code yX12_wantsOf cX12_wantsOf 2 (some .int) :: ztb) (RM (1) 0 0) (zPc K LM ad M0 [.ref (ad 0 0), .int a1]) (zQ K LM ad (some (.int r9)) M9) 0 0 (zA ad) := by
  refine z_enter (by decide) (Nat.le_of_ble_eq_true rfl) ?_
  intro p e s m args below meth c ls C hin hargs Z hl
  replace C : Cx p s m args meth c cX12_wantsOf 2 "GlassPalaceModel" (some .int) := C
  replace hl : lv_has ls 2 [(0, .ref (ad 0 0)), (1, .int a1)] := hl
  have hR : 1 ≤ (RM (1) 0 0).frames ∧ 40 * (1) ≤ (RM (1) 0 0).locals := ⟨Nat.le_refl _, Nat.le_refl _⟩
  have hB : 0 ≤ (RM (1) 0 0).cells ∧ 0 ≤ (RM (1) 0 0).slots := ⟨Nat.zero_le _, Nat.zero_le _⟩
  unfold f_X12_wantsOf at hf
  refine lv_bipush (v := 100) C.x C.b dX12_wantsOf_0 (by decide) ?_
  refine lv_iconst (v := 2) C.x C.b dX12_wantsOf_2 (by decide) ?_
  refine lv_aload_n C.x C.b dX12_wantsOf_3 rfl (lv_at hl 0 rfl) ?_
  refine z_get C Z (lvM0 Nat.zero_lt_one) kM0 zc12 zin12 2 (by decide) k_1178 rfl svM0_2 dX12_wantsOf_4 ?_
  refine lv_iload_n C.x C.b dX12_wantsOf_7 rfl (lv_at hl 1 rfl) ?_
  replace hf := asr_s hf; obtain ⟨hq1, hf⟩ := hf
  refine z_iald C Z (lvM1 Nat.zero_lt_one) kM1 hq1 svM1 dX12_wantsOf_8 ?_
  refine lv_imul C.x C.b dX12_wantsOf_9 ?_
  refine lv_isub C.x C.b dX12_wantsOf_10 ?_
  obtain ⟨rfl, rfl⟩ := pr_s hf
  exact z_iret C Z dX12_wantsOf_11
theorem dX12_wants_0 : decode cX12_wants 0 = .ok (.aload_n 0, 1) := by decide +kernel
theorem dX12_wants_1 : decode cX12_wants 1 = .ok (.iload_n 1, 1) := by decide +kernel
theorem dX12_wants_2 : decode cX12_wants 2 = .ok (.invokevirtual 241, 3) := by decide +kernel
theorem dX12_wants_5 : decode cX12_wants 5 = .ok (.ifCond .eq 11, 3) := by decide +kernel
theorem dX12_wants_8 : decode cX12_wants 8 = .ok (.aload_n 0, 1) := by decide +kernel
theorem dX12_wants_9 : decode cX12_wants 9 = .ok (.iload_n 1, 1) := by decide +kernel
theorem dX12_wants_10 : decode cX12_wants 10 = .ok (.invokevirtual 267, 3) := by decide +kernel
theorem dX12_wants_13 : decode cX12_wants 13 = .ok (.goto 4, 3) := by decide +kernel
theorem dX12_wants_16 : decode cX12_wants 16 = .ok (.iconst (-1), 1) := by decide +kernel
theorem dX12_wants_17 : decode cX12_wants 17 = .ok (.ireturn, 1) := by decide +kernel
set_option maxRecDepth 100000 in
set_option maxHeartbeats 4000000 in
theorem c_X12_wants {l : Launch} {K : KG} {ad : Nat → Nat → Nat} {fl : Nat} {a1 : Int32} {M0 : Mem} {r9 : Int32} {M9 : Mem} (hf : f_X12_wants fl a1 M0 = some (r9, M9)) : Met l yX12_wants (Cond.code yX12_wants cX12_wants 2 (some .int) :: ztb) (RM (3) 0 0) (zPc K LM ad M0 [.ref (ad 0 0), .int a1]) (zQ K LM ad (some (.int r9)) M9) 0 0 (zA ad) := by
  refine z_enter (by decide) (Nat.le_of_ble_eq_true rfl) ?_
  intro p e s m args below meth c ls C hin hargs Z hl
  replace C : Cx p s m args meth c cX12_wants 2 "GlassPalaceModel" (some .int) := C
  replace hl : lv_has ls 2 [(0, .ref (ad 0 0)), (1, .int a1)] := hl
  have hR : 3 ≤ (RM (3) 0 0).frames ∧ 40 * (3) ≤ (RM (3) 0 0).locals := ⟨Nat.le_refl _, Nat.le_refl _⟩
  have hB : 0 ≤ (RM (3) 0 0).cells ∧ 0 ≤ (RM (3) 0 0).slots := ⟨Nat.zero_le _, Nat.zero_le _⟩
  unfold f_X12_wants at hf
  refine lv_aload_n C.x C.b dX12_wants_0 rfl (lv_at hl 0 rfl) ?_
  refine lv_iload_n C.x C.b dX12_wants_1 rfl (lv_at hl 1 rfl) ?_
  replace hf := bn2_s hf; obtain ⟨v2, m1, hkm1, hf⟩ := hf
  refine z_cV (As := [.int a1]) (rest := []) (st1 := [.int v2]) C Z mw_X12_isBay mv_X12_isBay k_1406 (by decide) (z_hR hR (by decide)) (lvM0 Nat.zero_lt_one) kM0 zc12 (c_X12_isBay (l := l) (K := K) (ad := ad) hkm1) rfl hl.1 rfl (Nat.le_of_ble_eq_true rfl) dX12_wants_2 hB rfl (fun H locs Z => ?_)
  refine lv_if_eq (tgt := 16) C.x C.b dX12_wants_5 (by decide) (fun hc3 => ?_) (fun hc3 => ?_)
  · replace hf := ite_t hf hc3
    refine lv_iconst (v := (-1)) C.x C.b dX12_wants_16 (by decide) ?_
    obtain ⟨rfl, rfl⟩ := pr_s hf
    exact z_iret C Z dX12_wants_17
  · replace hf := ite_f hf hc3
    refine lv_aload_n C.x C.b dX12_wants_8 rfl (lv_at hl 0 rfl) ?_
    refine lv_iload_n C.x C.b dX12_wants_9 rfl (lv_at hl 1 rfl) ?_
    replace hf := bn2_s hf; obtain ⟨v5, m4, hkm4, hf⟩ := hf
    refine z_cV (As := [.int a1]) (rest := []) (st1 := [.int v5]) C Z mw_X12_wantsOf mv_X12_wantsOf k_1525 (by decide) (z_hR hR (by decide)) (lvM0 Nat.zero_lt_one) kM0 zc12 (c_X12_wantsOf (l := l) (K := K) (ad := ad) hkm4) rfl hl.1 rfl (Nat.le_of_ble_eq_true rfl) dX12_wants_10 hB rfl (fun H locs Z => ?_)
    refine lv_goto (tgt := 17) C.x C.b dX12_wants_13 (by decide) ?_
    obtain ⟨rfl, rfl⟩ := pr_s hf
    exact z_iret C Z dX12_wants_17
theorem dX12_placeOf_0 : decode cX12_placeOf 0 = .ok (.iload_n 1, 1) := by decide +kernel
theorem dX12_placeOf_1 : decode cX12_placeOf 1 = .ok (.bipush 6, 2) := by decide +kernel
theorem dX12_placeOf_3 : decode cX12_placeOf 3 = .ok (.if_icmp .ne 7, 3) := by decide +kernel
theorem dX12_placeOf_6 : decode cX12_placeOf 6 = .ok (.iconst 1, 1) := by decide +kernel
theorem dX12_placeOf_7 : decode cX12_placeOf 7 = .ok (.goto 4, 3) := by decide +kernel
theorem dX12_placeOf_10 : decode cX12_placeOf 10 = .ok (.iload_n 1, 1) := by decide +kernel
theorem dX12_placeOf_11 : decode cX12_placeOf 11 = .ok (.ireturn, 1) := by decide +kernel
set_option maxRecDepth 100000 in
set_option maxHeartbeats 4000000 in
theorem c_X12_placeOf {l : Launch} {K : KG} {ad : Nat → Nat → Nat} {fl : Nat} {a1 : Int32} {M0 : Mem} {r9 : Int32} {M9 : Mem} (hf : f_X12_placeOf fl a1 M0 = some (r9, M9)) : Met l yX12_placeOf (Cond.code yX12_placeOf cX12_placeOf 2 (some .int) :: ztb) (RM (1) 0 0) (zPc K LM ad M0 [.ref (ad 0 0), .int a1]) (zQ K LM ad (some (.int r9)) M9) 0 0 (zA ad) := by
  refine z_enter (by decide) (Nat.le_of_ble_eq_true rfl) ?_
  intro p e s m args below meth c ls C hin hargs Z hl
  replace C : Cx p s m args meth c cX12_placeOf 2 "GlassPalaceModel" (some .int) := C
  replace hl : lv_has ls 2 [(0, .ref (ad 0 0)), (1, .int a1)] := hl
  have hR : 1 ≤ (RM (1) 0 0).frames ∧ 40 * (1) ≤ (RM (1) 0 0).locals := ⟨Nat.le_refl _, Nat.le_refl _⟩
  have hB : 0 ≤ (RM (1) 0 0).cells ∧ 0 ≤ (RM (1) 0 0).slots := ⟨Nat.zero_le _, Nat.zero_le _⟩
  unfold f_X12_placeOf at hf
  refine lv_iload_n C.x C.b dX12_placeOf_0 rfl (lv_at hl 1 rfl) ?_
  refine lv_bipush (v := 6) C.x C.b dX12_placeOf_1 (by decide) ?_
  refine lv_icmp_ne (tgt := 10) C.x C.b dX12_placeOf_3 (by decide) (fun hc1 => ?_) (fun hc1 => ?_)
  · replace hf := ite_f hf hc1
    refine lv_iload_n C.x C.b dX12_placeOf_10 rfl (lv_at hl 1 rfl) ?_
    obtain ⟨rfl, rfl⟩ := pr_s hf
    exact z_iret C Z dX12_placeOf_11
  · replace hf := ite_t hf hc1
    refine lv_iconst (v := 1) C.x C.b dX12_placeOf_6 (by decide) ?_
    refine lv_goto (tgt := 11) C.x C.b dX12_placeOf_7 (by decide) ?_
    obtain ⟨rfl, rfl⟩ := pr_s hf
    exact z_iret C Z dX12_placeOf_11
theorem dX12_fits_0 : decode cX12_fits 0 = .ok (.aload_n 0, 1) := by decide +kernel
theorem dX12_fits_1 : decode cX12_fits 1 = .ok (.getfield 37, 3) := by decide +kernel
theorem dX12_fits_4 : decode cX12_fits 4 = .ok (.iload_n 1, 1) := by decide +kernel
theorem dX12_fits_5 : decode cX12_fits 5 = .ok (.iaload, 1) := by decide +kernel
theorem dX12_fits_6 : decode cX12_fits 6 = .ok (.istore_n 3, 1) := by decide +kernel
theorem dX12_fits_7 : decode cX12_fits 7 = .ok (.aload_n 0, 1) := by decide +kernel
theorem dX12_fits_8 : decode cX12_fits 8 = .ok (.iload_n 3, 1) := by decide +kernel
theorem dX12_fits_9 : decode cX12_fits 9 = .ok (.invokevirtual 270, 3) := by decide +kernel
theorem dX12_fits_12 : decode cX12_fits 12 = .ok (.istore 4, 2) := by decide +kernel
theorem dX12_fits_14 : decode cX12_fits 14 = .ok (.aload_n 0, 1) := by decide +kernel
theorem dX12_fits_15 : decode cX12_fits 15 = .ok (.iload_n 1, 1) := by decide +kernel
theorem dX12_fits_16 : decode cX12_fits 16 = .ok (.invokevirtual 257, 3) := by decide +kernel
theorem dX12_fits_19 : decode cX12_fits 19 = .ok (.iconst 1, 1) := by decide +kernel
theorem dX12_fits_20 : decode cX12_fits 20 = .ok (.if_icmp .ge 5, 3) := by decide +kernel
theorem dX12_fits_23 : decode cX12_fits 23 = .ok (.iconst 0, 1) := by decide +kernel
theorem dX12_fits_24 : decode cX12_fits 24 = .ok (.ireturn, 1) := by decide +kernel
theorem dX12_fits_25 : decode cX12_fits 25 = .ok (.aload_n 0, 1) := by decide +kernel
theorem dX12_fits_26 : decode cX12_fits 26 = .ok (.iload_n 1, 1) := by decide +kernel
theorem dX12_fits_27 : decode cX12_fits 27 = .ok (.invokevirtual 260, 3) := by decide +kernel
theorem dX12_fits_30 : decode cX12_fits 30 = .ok (.ifCond .eq 6, 3) := by decide +kernel
theorem dX12_fits_33 : decode cX12_fits 33 = .ok (.bipush (-2), 2) := by decide +kernel
theorem dX12_fits_35 : decode cX12_fits 35 = .ok (.ireturn, 1) := by decide +kernel
theorem dX12_fits_36 : decode cX12_fits 36 = .ok (.iload_n 3, 1) := by decide +kernel
theorem dX12_fits_37 : decode cX12_fits 37 = .ok (.ifCond .ne 6, 3) := by decide +kernel
theorem dX12_fits_40 : decode cX12_fits 40 = .ok (.bipush (-3), 2) := by decide +kernel
theorem dX12_fits_42 : decode cX12_fits 42 = .ok (.ireturn, 1) := by decide +kernel
theorem dX12_fits_43 : decode cX12_fits 43 = .ok (.iload 4, 2) := by decide +kernel
theorem dX12_fits_45 : decode cX12_fits 45 = .ok (.iconst 3, 1) := by decide +kernel
theorem dX12_fits_46 : decode cX12_fits 46 = .ok (.if_icmp .ne 17, 3) := by decide +kernel
theorem dX12_fits_49 : decode cX12_fits 49 = .ok (.aload_n 0, 1) := by decide +kernel
theorem dX12_fits_50 : decode cX12_fits 50 = .ok (.getfield 71, 3) := by decide +kernel
theorem dX12_fits_53 : decode cX12_fits 53 = .ok (.iload_n 2, 1) := by decide +kernel
theorem dX12_fits_54 : decode cX12_fits 54 = .ok (.iaload, 1) := by decide +kernel
theorem dX12_fits_55 : decode cX12_fits 55 = .ok (.bipush 24, 2) := by decide +kernel
theorem dX12_fits_57 : decode cX12_fits 57 = .ok (.if_icmp .ne 19, 3) := by decide +kernel
theorem dX12_fits_60 : decode cX12_fits 60 = .ok (.goto 13, 3) := by decide +kernel
theorem dX12_fits_63 : decode cX12_fits 63 = .ok (.aload_n 0, 1) := by decide +kernel
theorem dX12_fits_64 : decode cX12_fits 64 = .ok (.iload_n 2, 1) := by decide +kernel
theorem dX12_fits_65 : decode cX12_fits 65 = .ok (.iload 4, 2) := by decide +kernel
theorem dX12_fits_67 : decode cX12_fits 67 = .ok (.invokevirtual 237, 3) := by decide +kernel
theorem dX12_fits_70 : decode cX12_fits 70 = .ok (.ifCond .eq 6, 3) := by decide +kernel
theorem dX12_fits_73 : decode cX12_fits 73 = .ok (.bipush (-4), 2) := by decide +kernel
theorem dX12_fits_75 : decode cX12_fits 75 = .ok (.ireturn, 1) := by decide +kernel
theorem dX12_fits_76 : decode cX12_fits 76 = .ok (.iload 4, 2) := by decide +kernel
theorem dX12_fits_78 : decode cX12_fits 78 = .ok (.iconst 1, 1) := by decide +kernel
theorem dX12_fits_79 : decode cX12_fits 79 = .ok (.if_icmp .ne 35, 3) := by decide +kernel
theorem dX12_fits_82 : decode cX12_fits 82 = .ok (.aload_n 0, 1) := by decide +kernel
theorem dX12_fits_83 : decode cX12_fits 83 = .ok (.aload_n 0, 1) := by decide +kernel
theorem dX12_fits_84 : decode cX12_fits 84 = .ok (.iload_n 2, 1) := by decide +kernel
theorem dX12_fits_85 : decode cX12_fits 85 = .ok (.invokevirtual 267, 3) := by decide +kernel
theorem dX12_fits_88 : decode cX12_fits 88 = .ok (.aload_n 0, 1) := by decide +kernel
theorem dX12_fits_89 : decode cX12_fits 89 = .ok (.getfield 46, 3) := by decide +kernel
theorem dX12_fits_92 : decode cX12_fits 92 = .ok (.iload_n 1, 1) := by decide +kernel
theorem dX12_fits_93 : decode cX12_fits 93 = .ok (.iaload, 1) := by decide +kernel
theorem dX12_fits_94 : decode cX12_fits 94 = .ok (.isub, 1) := by decide +kernel
theorem dX12_fits_95 : decode cX12_fits 95 = .ok (.iconst 0, 1) := by decide +kernel
theorem dX12_fits_96 : decode cX12_fits 96 = .ok (.aload_n 0, 1) := by decide +kernel
theorem dX12_fits_97 : decode cX12_fits 97 = .ok (.iconst 0, 1) := by decide +kernel
theorem dX12_fits_98 : decode cX12_fits 98 = .ok (.aload_n 0, 1) := by decide +kernel
theorem dX12_fits_99 : decode cX12_fits 99 = .ok (.getfield 17, 3) := by decide +kernel
theorem dX12_fits_102 : decode cX12_fits 102 = .ok (.invokevirtual 263, 3) := by decide +kernel
theorem dX12_fits_105 : decode cX12_fits 105 = .ok (.invokevirtual 3, 3) := by decide +kernel
theorem dX12_fits_108 : decode cX12_fits 108 = .ok (.ifCond .ne 6, 3) := by decide +kernel
theorem dX12_fits_111 : decode cX12_fits 111 = .ok (.bipush (-5), 2) := by decide +kernel
theorem dX12_fits_113 : decode cX12_fits 113 = .ok (.ireturn, 1) := by decide +kernel
theorem dX12_fits_114 : decode cX12_fits 114 = .ok (.iload 4, 2) := by decide +kernel
theorem dX12_fits_116 : decode cX12_fits 116 = .ok (.iconst 1, 1) := by decide +kernel
theorem dX12_fits_117 : decode cX12_fits 117 = .ok (.if_icmp .ne 15, 3) := by decide +kernel
theorem dX12_fits_120 : decode cX12_fits 120 = .ok (.aload_n 0, 1) := by decide +kernel
theorem dX12_fits_121 : decode cX12_fits 121 = .ok (.getfield 28, 3) := by decide +kernel
theorem dX12_fits_124 : decode cX12_fits 124 = .ok (.iload_n 2, 1) := by decide +kernel
theorem dX12_fits_125 : decode cX12_fits 125 = .ok (.iaload, 1) := by decide +kernel
theorem dX12_fits_126 : decode cX12_fits 126 = .ok (.ifCond .le 6, 3) := by decide +kernel
theorem dX12_fits_129 : decode cX12_fits 129 = .ok (.bipush (-6), 2) := by decide +kernel
theorem dX12_fits_131 : decode cX12_fits 131 = .ok (.ireturn, 1) := by decide +kernel
theorem dX12_fits_132 : decode cX12_fits 132 = .ok (.iload 4, 2) := by decide +kernel
theorem dX12_fits_134 : decode cX12_fits 134 = .ok (.iconst 2, 1) := by decide +kernel
theorem dX12_fits_135 : decode cX12_fits 135 = .ok (.if_icmp .ne 34, 3) := by decide +kernel
theorem dX12_fits_138 : decode cX12_fits 138 = .ok (.aload_n 0, 1) := by decide +kernel
theorem dX12_fits_139 : decode cX12_fits 139 = .ok (.iload_n 2, 1) := by decide +kernel
theorem dX12_fits_140 : decode cX12_fits 140 = .ok (.iconst 1, 1) := by decide +kernel
theorem dX12_fits_141 : decode cX12_fits 141 = .ok (.invokevirtual 237, 3) := by decide +kernel
theorem dX12_fits_144 : decode cX12_fits 144 = .ok (.ifCond .eq 22, 3) := by decide +kernel
theorem dX12_fits_147 : decode cX12_fits 147 = .ok (.iload_n 2, 1) := by decide +kernel
theorem dX12_fits_148 : decode cX12_fits 148 = .ok (.bipush 6, 2) := by decide +kernel
theorem dX12_fits_150 : decode cX12_fits 150 = .ok (.irem, 1) := by decide +kernel
theorem dX12_fits_151 : decode cX12_fits 151 = .ok (.iconst 5, 1) := by decide +kernel
theorem dX12_fits_152 : decode cX12_fits 152 = .ok (.if_icmp .ge 17, 3) := by decide +kernel
theorem dX12_fits_155 : decode cX12_fits 155 = .ok (.aload_n 0, 1) := by decide +kernel
theorem dX12_fits_156 : decode cX12_fits 156 = .ok (.iload_n 2, 1) := by decide +kernel
theorem dX12_fits_157 : decode cX12_fits 157 = .ok (.iconst 1, 1) := by decide +kernel
theorem dX12_fits_158 : decode cX12_fits 158 = .ok (.iadd, 1) := by decide +kernel
theorem dX12_fits_159 : decode cX12_fits 159 = .ok (.iconst 1, 1) := by decide +kernel
theorem dX12_fits_160 : decode cX12_fits 160 = .ok (.invokevirtual 237, 3) := by decide +kernel
theorem dX12_fits_163 : decode cX12_fits 163 = .ok (.ifCond .ne 6, 3) := by decide +kernel
theorem dX12_fits_166 : decode cX12_fits 166 = .ok (.bipush (-7), 2) := by decide +kernel
theorem dX12_fits_168 : decode cX12_fits 168 = .ok (.ireturn, 1) := by decide +kernel
theorem dX12_fits_169 : decode cX12_fits 169 = .ok (.iload 4, 2) := by decide +kernel
theorem dX12_fits_171 : decode cX12_fits 171 = .ok (.iconst 3, 1) := by decide +kernel
theorem dX12_fits_172 : decode cX12_fits 172 = .ok (.if_icmp .eq 9, 3) := by decide +kernel
theorem dX12_fits_175 : decode cX12_fits 175 = .ok (.iload 4, 2) := by decide +kernel
theorem dX12_fits_177 : decode cX12_fits 177 = .ok (.iconst 4, 1) := by decide +kernel
theorem dX12_fits_178 : decode cX12_fits 178 = .ok (.if_icmp .ne 17, 3) := by decide +kernel
theorem dX12_fits_181 : decode cX12_fits 181 = .ok (.aload_n 0, 1) := by decide +kernel
theorem dX12_fits_182 : decode cX12_fits 182 = .ok (.iload_n 2, 1) := by decide +kernel
theorem dX12_fits_183 : decode cX12_fits 183 = .ok (.iconst 2, 1) := by decide +kernel
theorem dX12_fits_184 : decode cX12_fits 184 = .ok (.invokevirtual 237, 3) := by decide +kernel
theorem dX12_fits_187 : decode cX12_fits 187 = .ok (.ifCond .ne 8, 3) := by decide +kernel
theorem dX12_fits_190 : decode cX12_fits 190 = .ok (.bipush (-7), 2) := by decide +kernel
theorem dX12_fits_192 : decode cX12_fits 192 = .ok (.goto 4, 3) := by decide +kernel
theorem dX12_fits_195 : decode cX12_fits 195 = .ok (.iconst 1, 1) := by decide +kernel
theorem dX12_fits_196 : decode cX12_fits 196 = .ok (.ireturn, 1) := by decide +kernel
set_option maxRecDepth 100000 in
set_option maxHeartbeats 4000000 in
theorem w_X12_fits_b181 {p : Program} {l : Launch} {e : Env} {s : State} {m : MethodId} {args : Array Value} {below : List Frame} {meth : Method} {c : Code} {K : KG} {ad : Nat → Nat → Nat} {fl : Nat} {H : Heap} {locs : List Loc} {ls : Array Slot} {g2 : Int32} {M0 : Mem} {r9 : Int32} {M9 : Mem} (C : Cx p s m args meth c cX12_fits 5 "GlassPalaceModel" (some .int)) (hR : 11 ≤ (RM (11) 0 0).frames ∧ 40 * (11) ≤ (RM (11) 0 0).locals) (hB : 0 ≤ (RM (11) 0 0).cells ∧ 0 ≤ (RM (11) 0 0).slots) (Z : Zd K LM ad M0 s H locs) (hl : lv_has ls 5 [(0, .ref (ad 0 0)), (2, .int g2)]) (hf : f_X12_fits_b181 fl g2 M0 = some (r9, M9)) : W p l e (RM (11) 0 0) s m args below meth c H locs 0 0 (MQ below (zQ K LM ad (some (.int r9)) M9) args s 0 0 (zA ad)) (F0 m 181 ls []) := by
  unfold f_X12_fits_b181 at hf
  refine lv_aload_n C.x C.b dX12_fits_181 rfl (lv_at hl 0 rfl) ?_
  refine lv_iload_n C.x C.b dX12_fits_182 rfl (lv_at hl 1 rfl) ?_
  refine lv_iconst (v := 2) C.x C.b dX12_fits_183 (by decide) ?_
  replace hf := bn2_s hf; obtain ⟨v21, m20, hkm20, hf⟩ := hf
  refine z_cV (As := [.int g2, .int 2]) (rest := []) (st1 := [.int v21]) C Z mw_X12_has mv_X12_has k_1414 (by decide) (z_hR hR (by decide)) (lvM0 Nat.zero_lt_one) kM0 zc12 (c_X12_has (l := l) (K := K) (ad := ad) hkm20) rfl hl.1 rfl (Nat.le_of_ble_eq_true rfl) dX12_fits_184 hB rfl (fun H locs Z => ?_)
  refine lv_if_ne (tgt := 195) C.x C.b dX12_fits_187 (by decide) (fun hc22 => ?_) (fun hc22 => ?_)
  · replace hf := ite_f hf hc22
    refine lv_iconst (v := 1) C.x C.b dX12_fits_195 (by decide) ?_
    obtain ⟨rfl, rfl⟩ := pr_s hf
    exact z_iret C Z dX12_fits_196
  · replace hf := ite_t hf hc22
    refine lv_bipush (v := (-7)) C.x C.b dX12_fits_190 (by decide) ?_
    refine lv_goto (tgt := 196) C.x C.b dX12_fits_192 (by decide) ?_
    obtain ⟨rfl, rfl⟩ := pr_s hf
    exact z_iret C Z dX12_fits_196
set_option maxRecDepth 100000 in
set_option maxHeartbeats 4000000 in
theorem w_X12_fits_b169 {p : Program} {l : Launch} {e : Env} {s : State} {m : MethodId} {args : Array Value} {below : List Frame} {meth : Method} {c : Code} {K : KG} {ad : Nat → Nat → Nat} {fl : Nat} {H : Heap} {locs : List Loc} {ls : Array Slot} {g2 : Int32} {g4 : Int32} {M0 : Mem} {r9 : Int32} {M9 : Mem} (C : Cx p s m args meth c cX12_fits 5 "GlassPalaceModel" (some .int)) (hR : 11 ≤ (RM (11) 0 0).frames ∧ 40 * (11) ≤ (RM (11) 0 0).locals) (hB : 0 ≤ (RM (11) 0 0).cells ∧ 0 ≤ (RM (11) 0 0).slots) (Z : Zd K LM ad M0 s H locs) (hl : lv_has ls 5 [(0, .ref (ad 0 0)), (2, .int g2), (4, .int g4)]) (hf : f_X12_fits_b169 fl g2 g4 M0 = some (r9, M9)) : W p l e (RM (11) 0 0) s m args below meth c H locs 0 0 (MQ below (zQ K LM ad (some (.int r9)) M9) args s 0 0 (zA ad)) (F0 m 169 ls []) := by
  unfold f_X12_fits_b169 at hf
  refine lv_iload C.x C.b dX12_fits_169 (lv_at hl 2 rfl) ?_
  refine lv_iconst (v := 3) C.x C.b dX12_fits_171 (by decide) ?_
  refine lv_icmp_eq (tgt := 181) C.x C.b dX12_fits_172 (by decide) (fun hc19 => ?_) (fun hc19 => ?_)
  · replace hf := ite_t hf hc19
    exact w_X12_fits_b181 C hR hB  Z (lv_sub hl [0, 1] rfl) hf
  · replace hf := ite_f hf hc19
    refine lv_iload C.x C.b dX12_fits_175 (lv_at hl 2 rfl) ?_
    refine lv_iconst (v := 4) C.x C.b dX12_fits_177 (by decide) ?_
    refine lv_icmp_ne (tgt := 195) C.x C.b dX12_fits_178 (by decide) (fun hc23 => ?_) (fun hc23 => ?_)
    · replace hf := ite_f hf hc23
      refine lv_iconst (v := 1) C.x C.b dX12_fits_195 (by decide) ?_
      obtain ⟨rfl, rfl⟩ := pr_s hf
      exact z_iret C Z dX12_fits_196
    · replace hf := ite_t hf hc23
      exact w_X12_fits_b181 C hR hB  Z (lv_sub hl [0, 1] rfl) hf
set_option maxRecDepth 100000 in
set_option maxHeartbeats 4000000 in
theorem w_X12_fits_b132 {p : Program} {l : Launch} {e : Env} {s : State} {m : MethodId} {args : Array Value} {below : List Frame} {meth : Method} {c : Code} {K : KG} {ad : Nat → Nat → Nat} {fl : Nat} {H : Heap} {locs : List Loc} {ls : Array Slot} {g2 : Int32} {g4 : Int32} {M0 : Mem} {r9 : Int32} {M9 : Mem} (C : Cx p s m args meth c cX12_fits 5 "GlassPalaceModel" (some .int)) (hR : 11 ≤ (RM (11) 0 0).frames ∧ 40 * (11) ≤ (RM (11) 0 0).locals) (hB : 0 ≤ (RM (11) 0 0).cells ∧ 0 ≤ (RM (11) 0 0).slots) (Z : Zd K LM ad M0 s H locs) (hl : lv_has ls 5 [(0, .ref (ad 0 0)), (2, .int g2), (4, .int g4)]) (hf : f_X12_fits_b132 fl g2 g4 M0 = some (r9, M9)) : W p l e (RM (11) 0 0) s m args below meth c H locs 0 0 (MQ below (zQ K LM ad (some (.int r9)) M9) args s 0 0 (zA ad)) (F0 m 132 ls []) := by
  unfold f_X12_fits_b132 at hf
  refine lv_iload C.x C.b dX12_fits_132 (lv_at hl 2 rfl) ?_
  refine lv_iconst (v := 2) C.x C.b dX12_fits_134 (by decide) ?_
  refine lv_icmp_ne (tgt := 169) C.x C.b dX12_fits_135 (by decide) (fun hc18 => ?_) (fun hc18 => ?_)
  · replace hf := ite_f hf hc18
    exact w_X12_fits_b169 C hR hB  Z (lv_sub hl [0, 1, 2] rfl) hf
  · replace hf := ite_t hf hc18
    refine lv_aload_n C.x C.b dX12_fits_138 rfl (lv_at hl 0 rfl) ?_
    refine lv_iload_n C.x C.b dX12_fits_139 rfl (lv_at hl 1 rfl) ?_
    refine lv_iconst (v := 1) C.x C.b dX12_fits_140 (by decide) ?_
    replace hf := bn2_s hf; obtain ⟨v25, m24, hkm24, hf⟩ := hf
    refine z_cV (As := [.int g2, .int 1]) (rest := []) (st1 := [.int v25]) C Z mw_X12_has mv_X12_has k_1414 (by decide) (z_hR hR (by decide)) (lvM0 Nat.zero_lt_one) kM0 zc12 (c_X12_has (l := l) (K := K) (ad := ad) hkm24) rfl hl.1 rfl (Nat.le_of_ble_eq_true rfl) dX12_fits_141 hB rfl (fun H locs Z => ?_)
    refine lv_if_eq (tgt := 166) C.x C.b dX12_fits_144 (by decide) (fun hc26 => ?_) (fun hc26 => ?_)
    · replace hf := ite_t hf hc26
      refine lv_bipush (v := (-7)) C.x C.b dX12_fits_166 (by decide) ?_
      obtain ⟨rfl, rfl⟩ := pr_s hf
      exact z_iret C Z dX12_fits_168
    · replace hf := ite_f hf hc26
      refine lv_iload_n C.x C.b dX12_fits_147 rfl (lv_at hl 1 rfl) ?_
      refine lv_bipush (v := 6) C.x C.b dX12_fits_148 (by decide) ?_
      refine z_irem C dX12_fits_150 (by decide) ?_
      refine lv_iconst (v := 5) C.x C.b dX12_fits_151 (by decide) ?_
      refine lv_icmp_ge (tgt := 169) C.x C.b dX12_fits_152 (by decide) (fun hc27 => ?_) (fun hc27 => ?_)
      · replace hf := ite_t hf hc27
        exact w_X12_fits_b169 C hR hB  Z (lv_sub hl [0, 1, 2] rfl) hf
      · replace hf := ite_f hf hc27
        refine lv_aload_n C.x C.b dX12_fits_155 rfl (lv_at hl 0 rfl) ?_
        refine lv_iload_n C.x C.b dX12_fits_156 rfl (lv_at hl 1 rfl) ?_
        refine lv_iconst (v := 1) C.x C.b dX12_fits_157 (by decide) ?_
        refine lv_iadd C.x C.b dX12_fits_158 ?_
        refine lv_iconst (v := 1) C.x C.b dX12_fits_159 (by decide) ?_
        replace hf := bn2_s hf; obtain ⟨v29, m28, hkm28, hf⟩ := hf
        refine z_cV (As := [.int (g2 + 1), .int 1]) (rest := []) (st1 := [.int v29]) C Z mw_X12_has mv_X12_has k_1414 (by decide) (z_hR hR (by decide)) (lvM0 Nat.zero_lt_one) kM0 zc12 (c_X12_has (l := l) (K := K) (ad := ad) hkm28) rfl hl.1 rfl (Nat.le_of_ble_eq_true rfl) dX12_fits_160 hB rfl (fun H locs Z => ?_)
        refine lv_if_ne (tgt := 169) C.x C.b dX12_fits_163 (by decide) (fun hc30 => ?_) (fun hc30 => ?_)
        · replace hf := ite_f hf hc30
          exact w_X12_fits_b169 C hR hB  Z (lv_sub hl [0, 1, 2] rfl) hf
        · replace hf := ite_t hf hc30
          refine lv_bipush (v := (-7)) C.x C.b dX12_fits_166 (by decide) ?_
          obtain ⟨rfl, rfl⟩ := pr_s hf
          exact z_iret C Z dX12_fits_168
set_option maxRecDepth 100000 in
set_option maxHeartbeats 4000000 in
theorem w_X12_fits_b114 {p : Program} {l : Launch} {e : Env} {s : State} {m : MethodId} {args : Array Value} {below : List Frame} {meth : Method} {c : Code} {K : KG} {ad : Nat → Nat → Nat} {fl : Nat} {H : Heap} {locs : List Loc} {ls : Array Slot} {g2 : Int32} {g4 : Int32} {M0 : Mem} {r9 : Int32} {M9 : Mem} (C : Cx p s m args meth c cX12_fits 5 "GlassPalaceModel" (some .int)) (hR : 11 ≤ (RM (11) 0 0).frames ∧ 40 * (11) ≤ (RM (11) 0 0).locals) (hB : 0 ≤ (RM (11) 0 0).cells ∧ 0 ≤ (RM (11) 0 0).slots) (Z : Zd K LM ad M0 s H locs) (hl : lv_has ls 5 [(0, .ref (ad 0 0)), (2, .int g2), (4, .int g4)]) (hf : f_X12_fits_b114 fl g2 g4 M0 = some (r9, M9)) : W p l e (RM (11) 0 0) s m args below meth c H locs 0 0 (MQ below (zQ K LM ad (some (.int r9)) M9) args s 0 0 (zA ad)) (F0 m 114 ls []) := by
  unfold f_X12_fits_b114 at hf
  refine lv_iload C.x C.b dX12_fits_114 (lv_at hl 2 rfl) ?_
  refine lv_iconst (v := 1) C.x C.b dX12_fits_116 (by decide) ?_
  refine lv_icmp_ne (tgt := 132) C.x C.b dX12_fits_117 (by decide) (fun hc17 => ?_) (fun hc17 => ?_)
  · replace hf := ite_f hf hc17
    exact w_X12_fits_b132 C hR hB  Z (lv_sub hl [0, 1, 2] rfl) hf
  · replace hf := ite_t hf hc17
    refine lv_aload_n C.x C.b dX12_fits_120 rfl (lv_at hl 0 rfl) ?_
    refine z_get C Z (lvM0 Nat.zero_lt_one) kM0 zc12 zin12 3 (by decide) k_1179 rfl svM0_3 dX12_fits_121 ?_
    refine lv_iload_n C.x C.b dX12_fits_124 rfl (lv_at hl 1 rfl) ?_
    replace hf := asr_s hf; obtain ⟨hq31, hf⟩ := hf
    refine z_iald C Z (lvM2 Nat.zero_lt_one) kM2 hq31 svM2 dX12_fits_125 ?_
    refine lv_if_le (tgt := 132) C.x C.b dX12_fits_126 (by decide) (fun hc32 => ?_) (fun hc32 => ?_)
    · replace hf := ite_t hf hc32
      exact w_X12_fits_b132 C hR hB  Z (lv_sub hl [0, 1, 2] rfl) hf
    · replace hf := ite_f hf hc32
      refine lv_bipush (v := (-6)) C.x C.b dX12_fits_129 (by decide) ?_
      obtain ⟨rfl, rfl⟩ := pr_s hf
      exact z_iret C Z dX12_fits_131
set_option maxRecDepth 100000 in
set_option maxHeartbeats 4000000 in
theorem w_X12_fits_b76 {p : Program} {l : Launch} {e : Env} {s : State} {m : MethodId} {args : Array Value} {below : List Frame} {meth : Method} {c : Code} {K : KG} {ad : Nat → Nat → Nat} {fl : Nat} {H : Heap} {locs : List Loc} {ls : Array Slot} {g1 : Int32} {g2 : Int32} {g4 : Int32} {M0 : Mem} {r9 : Int32} {M9 : Mem} (C : Cx p s m args meth c cX12_fits 5 "GlassPalaceModel" (some .int)) (hR : 11 ≤ (RM (11) 0 0).frames ∧ 40 * (11) ≤ (RM (11) 0 0).locals) (hB : 0 ≤ (RM (11) 0 0).cells ∧ 0 ≤ (RM (11) 0 0).slots) (Z : Zd K LM ad M0 s H locs) (hl : lv_has ls 5 [(0, .ref (ad 0 0)), (1, .int g1), (2, .int g2), (4, .int g4)]) (hf : f_X12_fits_b76 fl g1 g2 g4 M0 = some (r9, M9)) : W p l e (RM (11) 0 0) s m args below meth c H locs 0 0 (MQ below (zQ K LM ad (some (.int r9)) M9) args s 0 0 (zA ad)) (F0 m 76 ls []) := by
  unfold f_X12_fits_b76 at hf
  refine lv_iload C.x C.b dX12_fits_76 (lv_at hl 3 rfl) ?_
  refine lv_iconst (v := 1) C.x C.b dX12_fits_78 (by decide) ?_
  refine lv_icmp_ne (tgt := 114) C.x C.b dX12_fits_79 (by decide) (fun hc16 => ?_) (fun hc16 => ?_)
  · replace hf := ite_f hf hc16
    exact w_X12_fits_b114 C hR hB  Z (lv_sub hl [0, 2, 3] rfl) hf
  · replace hf := ite_t hf hc16
    refine lv_aload_n C.x C.b dX12_fits_82 rfl (lv_at hl 0 rfl) ?_
    refine lv_aload_n C.x C.b dX12_fits_83 rfl (lv_at hl 0 rfl) ?_
    refine lv_iload_n C.x C.b dX12_fits_84 rfl (lv_at hl 2 rfl) ?_
    replace hf := bn2_s hf; obtain ⟨v34, m33, hkm33, hf⟩ := hf
    refine z_cV (As := [.int g2]) (rest := [.ref (ad 0 0)]) (st1 := [.int v34, .ref (ad 0 0)]) C Z mw_X12_wantsOf mv_X12_wantsOf k_1525 (by decide) (z_hR hR (by decide)) (lvM0 Nat.zero_lt_one) kM0 zc12 (c_X12_wantsOf (l := l) (K := K) (ad := ad) hkm33) rfl hl.1 rfl (Nat.le_of_ble_eq_true rfl) dX12_fits_85 hB rfl (fun H locs Z => ?_)
    refine lv_aload_n C.x C.b dX12_fits_88 rfl (lv_at hl 0 rfl) ?_
    refine z_get C Z (lvM0 Nat.zero_lt_one) kM0 zc12 zin12 9 (by decide) k_1185 rfl svM0_9 dX12_fits_89 ?_
    refine lv_iload_n C.x C.b dX12_fits_92 rfl (lv_at hl 1 rfl) ?_
    replace hf := asr_s hf; obtain ⟨hq35, hf⟩ := hf
    refine z_iald C Z (lvM8 Nat.zero_lt_one) kM8 hq35 svM8 dX12_fits_93 ?_
    refine lv_isub C.x C.b dX12_fits_94 ?_
    refine lv_iconst (v := 0) C.x C.b dX12_fits_95 (by decide) ?_
    refine lv_aload_n C.x C.b dX12_fits_96 rfl (lv_at hl 0 rfl) ?_
    refine lv_iconst (v := 0) C.x C.b dX12_fits_97 (by decide) ?_
    refine lv_aload_n C.x C.b dX12_fits_98 rfl (lv_at hl 0 rfl) ?_
    refine z_get C Z (lvM0 Nat.zero_lt_one) kM0 zc12 zin12 0 (by decide) k_1176 rfl svM0_0 dX12_fits_99 ?_
    replace hf := bn2_s hf; obtain ⟨v37, m36, hkm36, hf⟩ := hf
    refine z_cV (As := [.int 0, .int (gI m33 0 0 0)]) (rest := [.int 0, .int (v34 - (gI m33 8 0 (Int32.toNatClampNeg g1))), .ref (ad 0 0)]) (st1 := [.int v37, .int 0, .int (v34 - (gI m33 8 0 (Int32.toNatClampNeg g1))), .ref (ad 0 0)]) C Z mw_X12_number mv_X12_number k_1509 (by decide) (z_hR hR (by decide)) (lvM0 Nat.zero_lt_one) kM0 zc12 (c_X12_number (l := l) (K := K) (ad := ad) hkm36) rfl hl.1 rfl (Nat.le_of_ble_eq_true rfl) dX12_fits_102 hB rfl (fun H locs Z => ?_)
    replace hf := bn2_s hf; obtain ⟨v39, m38, hkm38, hf⟩ := hf
    refine z_cV (As := [.int (v34 - (gI m33 8 0 (Int32.toNatClampNeg g1))), .int 0, .int v37]) (rest := []) (st1 := [.int v39]) C Z mw_X12_in mv_X12_in k_1398 (by decide) (z_hR hR (by decide)) (lvM0 Nat.zero_lt_one) kM0 zc12 (c_X12_in (l := l) (K := K) (ad := ad) hkm38) rfl hl.1 rfl (Nat.le_of_ble_eq_true rfl) dX12_fits_105 hB rfl (fun H locs Z => ?_)
    refine lv_if_ne (tgt := 114) C.x C.b dX12_fits_108 (by decide) (fun hc40 => ?_) (fun hc40 => ?_)
    · replace hf := ite_f hf hc40
      exact w_X12_fits_b114 C hR hB  Z (lv_sub hl [0, 2, 3] rfl) hf
    · replace hf := ite_t hf hc40
      refine lv_bipush (v := (-5)) C.x C.b dX12_fits_111 (by decide) ?_
      obtain ⟨rfl, rfl⟩ := pr_s hf
      exact z_iret C Z dX12_fits_113
set_option maxRecDepth 100000 in
set_option maxHeartbeats 4000000 in
theorem c_X12_fits {l : Launch} {K : KG} {ad : Nat → Nat → Nat} {fl : Nat} {a1 : Int32} {a2 : Int32} {M0 : Mem} {r9 : Int32} {M9 : Mem} (hf : f_X12_fits fl a1 a2 M0 = some (r9, M9)) : Met l yX12_fits (Cond.code yX12_fits cX12_fits 5 (some .int) :: ztb) (RM (11) 0 0) (zPc K LM ad M0 [.ref (ad 0 0), .int a1, .int a2]) (zQ K LM ad (some (.int r9)) M9) 0 0 (zA ad) := by
  refine z_enter (by decide) (Nat.le_of_ble_eq_true rfl) ?_
  intro p e s m args below meth c ls C hin hargs Z hl
  replace C : Cx p s m args meth c cX12_fits 5 "GlassPalaceModel" (some .int) := C
  replace hl : lv_has ls 5 [(0, .ref (ad 0 0)), (1, .int a1), (2, .int a2)] := hl
  have hR : 11 ≤ (RM (11) 0 0).frames ∧ 40 * (11) ≤ (RM (11) 0 0).locals := ⟨Nat.le_refl _, Nat.le_refl _⟩
  have hB : 0 ≤ (RM (11) 0 0).cells ∧ 0 ≤ (RM (11) 0 0).slots := ⟨Nat.zero_le _, Nat.zero_le _⟩
  unfold f_X12_fits at hf
  refine lv_aload_n C.x C.b dX12_fits_0 rfl (lv_at hl 0 rfl) ?_
  refine z_get C Z (lvM0 Nat.zero_lt_one) kM0 zc12 zin12 6 (by decide) k_1182 rfl svM0_6 dX12_fits_1 ?_
  refine lv_iload_n C.x C.b dX12_fits_4 rfl (lv_at hl 1 rfl) ?_
  replace hf := asr_s hf; obtain ⟨hq1, hf⟩ := hf
  refine z_iald C Z (lvM5 Nat.zero_lt_one) kM5 hq1 svM5 dX12_fits_5 ?_
  replace hf := lt1_s hf; obtain ⟨x2, ex2, hf⟩ := hf
  refine z_renI ex2 ?_
  refine z_istore_n (lv' := [(3, .int x2), (0, .ref (ad 0 0)), (1, .int a1), (2, .int a2)]) C dX12_fits_6 rfl hl (by decide) rfl (onlast 2 rfl rfl rfl) (fun ls hl => ?_)
  refine lv_aload_n C.x C.b dX12_fits_7 rfl (lv_at hl 1 rfl) ?_
  refine lv_iload_n C.x C.b dX12_fits_8 rfl (lv_at hl 0 rfl) ?_
  replace hf := bn2_s hf; obtain ⟨v4, m3, hkm3, hf⟩ := hf
  refine z_cV (As := [.int x2]) (rest := []) (st1 := [.int v4]) C Z mw_X12_placeOf mv_X12_placeOf k_1537 (by decide) (z_hR hR (by decide)) (lvM0 Nat.zero_lt_one) kM0 zc12 (c_X12_placeOf (l := l) (K := K) (ad := ad) hkm3) rfl hl.1 rfl (Nat.le_of_ble_eq_true rfl) dX12_fits_9 hB rfl (fun H locs Z => ?_)
  refine z_istore (lv' := [(4, .int v4), (3, .int x2), (0, .ref (ad 0 0)), (1, .int a1), (2, .int a2)]) C dX12_fits_12 hl (by decide) rfl (onlast 0 rfl rfl rfl) (fun ls hl => ?_)
  refine lv_aload_n C.x C.b dX12_fits_14 rfl (lv_at hl 2 rfl) ?_
  refine lv_iload_n C.x C.b dX12_fits_15 rfl (lv_at hl 3 rfl) ?_
  replace hf := bn2_s hf; obtain ⟨v6, m5, hkm5, hf⟩ := hf
  refine z_cV (As := [.int a1]) (rest := []) (st1 := [.int v6]) C Z mw_X12_stock mv_X12_stock k_1442 (by decide) (z_hR hR (by decide)) (lvM0 Nat.zero_lt_one) kM0 zc12 (c_X12_stock (l := l) (K := K) (ad := ad) hkm5) rfl hl.1 rfl (Nat.le_of_ble_eq_true rfl) dX12_fits_16 hB rfl (fun H locs Z => ?_)
  refine lv_iconst (v := 1) C.x C.b dX12_fits_19 (by decide) ?_
  refine lv_icmp_ge (tgt := 25) C.x C.b dX12_fits_20 (by decide) (fun hc7 => ?_) (fun hc7 => ?_)
  · replace hf := ite_t hf hc7
    refine lv_aload_n C.x C.b dX12_fits_25 rfl (lv_at hl 2 rfl) ?_
    refine lv_iload_n C.x C.b dX12_fits_26 rfl (lv_at hl 3 rfl) ?_
    replace hf := bn2_s hf; obtain ⟨v9, m8, hkm8, hf⟩ := hf
    refine z_cV (As := [.int a1]) (rest := []) (st1 := [.int v9]) C Z mw_X12_isBarred mv_X12_isBarred k_1446 (by decide) (z_hR hR (by decide)) (lvM0 Nat.zero_lt_one) kM0 zc12 (c_X12_isBarred (l := l) (K := K) (ad := ad) hkm8) rfl hl.1 rfl (Nat.le_of_ble_eq_true rfl) dX12_fits_27 hB rfl (fun H locs Z => ?_)
    refine lv_if_eq (tgt := 36) C.x C.b dX12_fits_30 (by decide) (fun hc10 => ?_) (fun hc10 => ?_)
    · replace hf := ite_t hf hc10
      refine lv_iload_n C.x C.b dX12_fits_36 rfl (lv_at hl 1 rfl) ?_
      refine lv_if_ne (tgt := 43) C.x C.b dX12_fits_37 (by decide) (fun hc11 => ?_) (fun hc11 => ?_)
      · replace hf := ite_f hf hc11
        refine lv_iload C.x C.b dX12_fits_43 (lv_at hl 0 rfl) ?_
        refine lv_iconst (v := 3) C.x C.b dX12_fits_45 (by decide) ?_
        refine lv_icmp_ne (tgt := 63) C.x C.b dX12_fits_46 (by decide) (fun hc12 => ?_) (fun hc12 => ?_)
        · replace hf := ite_f hf hc12
          refine lv_aload_n C.x C.b dX12_fits_63 rfl (lv_at hl 2 rfl) ?_
          refine lv_iload_n C.x C.b dX12_fits_64 rfl (lv_at hl 4 rfl) ?_
          refine lv_iload C.x C.b dX12_fits_65 (lv_at hl 0 rfl) ?_
          replace hf := bn2_s hf; obtain ⟨v14, m13, hkm13, hf⟩ := hf
          refine z_cV (As := [.int a2, .int v4]) (rest := []) (st1 := [.int v14]) C Z mw_X12_has mv_X12_has k_1414 (by decide) (z_hR hR (by decide)) (lvM0 Nat.zero_lt_one) kM0 zc12 (c_X12_has (l := l) (K := K) (ad := ad) hkm13) rfl hl.1 rfl (Nat.le_of_ble_eq_true rfl) dX12_fits_67 hB rfl (fun H locs Z => ?_)
          refine lv_if_eq (tgt := 76) C.x C.b dX12_fits_70 (by decide) (fun hc15 => ?_) (fun hc15 => ?_)
          · replace hf := ite_t hf hc15
            exact w_X12_fits_b76 C hR hB  Z (lv_sub hl [2, 3, 4, 0] rfl) hf
          · replace hf := ite_f hf hc15
            refine lv_bipush (v := (-4)) C.x C.b dX12_fits_73 (by decide) ?_
            obtain ⟨rfl, rfl⟩ := pr_s hf
            exact z_iret C Z dX12_fits_75
        · replace hf := ite_t hf hc12
          refine lv_aload_n C.x C.b dX12_fits_49 rfl (lv_at hl 2 rfl) ?_
          refine z_get C Z (lvM0 Nat.zero_lt_one) kM0 zc12 zin12 17 (by decide) k_1193 rfl svM0_17 dX12_fits_50 ?_
          refine lv_iload_n C.x C.b dX12_fits_53 rfl (lv_at hl 4 rfl) ?_
          replace hf := asr_s hf; obtain ⟨hq41, hf⟩ := hf
          refine z_iald C Z (lvM15 Nat.zero_lt_one) kM15 hq41 svM15 dX12_fits_54 ?_
          refine lv_bipush (v := 24) C.x C.b dX12_fits_55 (by decide) ?_
          refine lv_icmp_ne (tgt := 76) C.x C.b dX12_fits_57 (by decide) (fun hc42 => ?_) (fun hc42 => ?_)
          · replace hf := ite_f hf hc42
            exact w_X12_fits_b76 C hR hB  Z (lv_sub hl [2, 3, 4, 0] rfl) hf
          · replace hf := ite_t hf hc42
            refine lv_goto (tgt := 73) C.x C.b dX12_fits_60 (by decide) ?_
            refine lv_bipush (v := (-4)) C.x C.b dX12_fits_73 (by decide) ?_
            obtain ⟨rfl, rfl⟩ := pr_s hf
            exact z_iret C Z dX12_fits_75
      · replace hf := ite_t hf hc11
        refine lv_bipush (v := (-3)) C.x C.b dX12_fits_40 (by decide) ?_
        obtain ⟨rfl, rfl⟩ := pr_s hf
        exact z_iret C Z dX12_fits_42
    · replace hf := ite_f hf hc10
      refine lv_bipush (v := (-2)) C.x C.b dX12_fits_33 (by decide) ?_
      obtain ⟨rfl, rfl⟩ := pr_s hf
      exact z_iret C Z dX12_fits_35
  · replace hf := ite_f hf hc7
    refine lv_iconst (v := 0) C.x C.b dX12_fits_23 (by decide) ?_
    obtain ⟨rfl, rfl⟩ := pr_s hf
    exact z_iret C Z dX12_fits_24
theorem dX12_fit_0 : decode cX12_fit 0 = .ok (.aload_n 0, 1) := by decide +kernel
theorem dX12_fit_1 : decode cX12_fit 1 = .ok (.iload_n 1, 1) := by decide +kernel
theorem dX12_fit_2 : decode cX12_fit 2 = .ok (.invokevirtual 251, 3) := by decide +kernel
theorem dX12_fit_5 : decode cX12_fit 5 = .ok (.ifCond .eq 20, 3) := by decide +kernel
theorem dX12_fit_8 : decode cX12_fit 8 = .ok (.aload_n 0, 1) := by decide +kernel
theorem dX12_fit_9 : decode cX12_fit 9 = .ok (.iload_n 2, 1) := by decide +kernel
theorem dX12_fit_10 : decode cX12_fit 10 = .ok (.invokevirtual 241, 3) := by decide +kernel
theorem dX12_fit_13 : decode cX12_fit 13 = .ok (.ifCond .eq 12, 3) := by decide +kernel
theorem dX12_fit_16 : decode cX12_fit 16 = .ok (.aload_n 0, 1) := by decide +kernel
theorem dX12_fit_17 : decode cX12_fit 17 = .ok (.iload_n 1, 1) := by decide +kernel
theorem dX12_fit_18 : decode cX12_fit 18 = .ok (.iload_n 2, 1) := by decide +kernel
theorem dX12_fit_19 : decode cX12_fit 19 = .ok (.invokevirtual 273, 3) := by decide +kernel
theorem dX12_fit_22 : decode cX12_fit 22 = .ok (.goto 4, 3) := by decide +kernel
theorem dX12_fit_25 : decode cX12_fit 25 = .ok (.iconst (-1), 1) := by decide +kernel
theorem dX12_fit_26 : decode cX12_fit 26 = .ok (.ireturn, 1) := by decide +kernel
set_option maxRecDepth 100000 in
set_option maxHeartbeats 4000000 in
theorem c_X12_fit {l : Launch} {K : KG} {ad : Nat → Nat → Nat} {fl : Nat} {a1 : Int32} {a2 : Int32} {M0 : Mem} {r9 : Int32} {M9 : Mem} (hf : f_X12_fit fl a1 a2 M0 = some (r9, M9)) : Met l yX12_fit (Cond.code yX12_fit cX12_fit 3 (some .int) :: ztb) (RM (12) 0 0) (zPc K LM ad M0 [.ref (ad 0 0), .int a1, .int a2]) (zQ K LM ad (some (.int r9)) M9) 0 0 (zA ad) := by
  refine z_enter (by decide) (Nat.le_of_ble_eq_true rfl) ?_
  intro p e s m args below meth c ls C hin hargs Z hl
  replace C : Cx p s m args meth c cX12_fit 3 "GlassPalaceModel" (some .int) := C
  replace hl : lv_has ls 3 [(0, .ref (ad 0 0)), (1, .int a1), (2, .int a2)] := hl
  have hR : 12 ≤ (RM (12) 0 0).frames ∧ 40 * (12) ≤ (RM (12) 0 0).locals := ⟨Nat.le_refl _, Nat.le_refl _⟩
  have hB : 0 ≤ (RM (12) 0 0).cells ∧ 0 ≤ (RM (12) 0 0).slots := ⟨Nat.zero_le _, Nat.zero_le _⟩
  unfold f_X12_fit at hf
  refine lv_aload_n C.x C.b dX12_fit_0 rfl (lv_at hl 0 rfl) ?_
  refine lv_iload_n C.x C.b dX12_fit_1 rfl (lv_at hl 1 rfl) ?_
  replace hf := bn2_s hf; obtain ⟨v2, m1, hkm1, hf⟩ := hf
  refine z_cV (As := [.int a1]) (rest := []) (st1 := [.int v2]) C Z mw_X12_isLot mv_X12_isLot k_1434 (by decide) (z_hR hR (by decide)) (lvM0 Nat.zero_lt_one) kM0 zc12 (c_X12_isLot (l := l) (K := K) (ad := ad) hkm1) rfl hl.1 rfl (Nat.le_of_ble_eq_true rfl) dX12_fit_2 hB rfl (fun H locs Z => ?_)
  refine lv_if_eq (tgt := 25) C.x C.b dX12_fit_5 (by decide) (fun hc3 => ?_) (fun hc3 => ?_)
  · replace hf := ite_t hf hc3
    refine lv_iconst (v := (-1)) C.x C.b dX12_fit_25 (by decide) ?_
    obtain ⟨rfl, rfl⟩ := pr_s hf
    exact z_iret C Z dX12_fit_26
  · replace hf := ite_f hf hc3
    refine lv_aload_n C.x C.b dX12_fit_8 rfl (lv_at hl 0 rfl) ?_
    refine lv_iload_n C.x C.b dX12_fit_9 rfl (lv_at hl 2 rfl) ?_
    replace hf := bn2_s hf; obtain ⟨v5, m4, hkm4, hf⟩ := hf
    refine z_cV (As := [.int a2]) (rest := []) (st1 := [.int v5]) C Z mw_X12_isBay mv_X12_isBay k_1406 (by decide) (z_hR hR (by decide)) (lvM0 Nat.zero_lt_one) kM0 zc12 (c_X12_isBay (l := l) (K := K) (ad := ad) hkm4) rfl hl.1 rfl (Nat.le_of_ble_eq_true rfl) dX12_fit_10 hB rfl (fun H locs Z => ?_)
    refine lv_if_eq (tgt := 25) C.x C.b dX12_fit_13 (by decide) (fun hc6 => ?_) (fun hc6 => ?_)
    · replace hf := ite_t hf hc6
      refine lv_iconst (v := (-1)) C.x C.b dX12_fit_25 (by decide) ?_
      obtain ⟨rfl, rfl⟩ := pr_s hf
      exact z_iret C Z dX12_fit_26
    · replace hf := ite_f hf hc6
      refine lv_aload_n C.x C.b dX12_fit_16 rfl (lv_at hl 0 rfl) ?_
      refine lv_iload_n C.x C.b dX12_fit_17 rfl (lv_at hl 1 rfl) ?_
      refine lv_iload_n C.x C.b dX12_fit_18 rfl (lv_at hl 2 rfl) ?_
      replace hf := bn2_s hf; obtain ⟨v8, m7, hkm7, hf⟩ := hf
      refine z_cV (As := [.int a1, .int a2]) (rest := []) (st1 := [.int v8]) C Z mw_X12_fits mv_X12_fits k_1533 (by decide) (z_hR hR (by decide)) (lvM0 Nat.zero_lt_one) kM0 zc12 (c_X12_fits (l := l) (K := K) (ad := ad) hkm7) rfl hl.1 rfl (Nat.le_of_ble_eq_true rfl) dX12_fit_19 hB rfl (fun H locs Z => ?_)
      refine lv_goto (tgt := 26) C.x C.b dX12_fit_22 (by decide) ?_
      obtain ⟨rfl, rfl⟩ := pr_s hf
      exact z_iret C Z dX12_fit_26
theorem dX12_put_0 : decode cX12_put 0 = .ok (.aload_n 0, 1) := by decide +kernel
theorem dX12_put_1 : decode cX12_put 1 = .ok (.aload_n 0, 1) := by decide +kernel
theorem dX12_put_2 : decode cX12_put 2 = .ok (.getfield 37, 3) := by decide +kernel
theorem dX12_put_5 : decode cX12_put 5 = .ok (.iload_n 1, 1) := by decide +kernel
theorem dX12_put_6 : decode cX12_put 6 = .ok (.iaload, 1) := by decide +kernel
theorem dX12_put_7 : decode cX12_put 7 = .ok (.invokevirtual 270, 3) := by decide +kernel
theorem dX12_put_10 : decode cX12_put 10 = .ok (.istore_n 3, 1) := by decide +kernel
theorem dX12_put_11 : decode cX12_put 11 = .ok (.aload_n 0, 1) := by decide +kernel
theorem dX12_put_12 : decode cX12_put 12 = .ok (.getfield 58, 3) := by decide +kernel
theorem dX12_put_15 : decode cX12_put 15 = .ok (.iload_n 1, 1) := by decide +kernel
theorem dX12_put_16 : decode cX12_put 16 = .ok (.dup2, 1) := by decide +kernel
theorem dX12_put_17 : decode cX12_put 17 = .ok (.iaload, 1) := by decide +kernel
theorem dX12_put_18 : decode cX12_put 18 = .ok (.iconst 1, 1) := by decide +kernel
theorem dX12_put_19 : decode cX12_put 19 = .ok (.iadd, 1) := by decide +kernel
theorem dX12_put_20 : decode cX12_put 20 = .ok (.iastore, 1) := by decide +kernel
theorem dX12_put_21 : decode cX12_put 21 = .ok (.iload_n 3, 1) := by decide +kernel
theorem dX12_put_22 : decode cX12_put 22 = .ok (.iconst 3, 1) := by decide +kernel
theorem dX12_put_23 : decode cX12_put 23 = .ok (.if_icmp .ne 33, 3) := by decide +kernel
theorem dX12_put_26 : decode cX12_put 26 = .ok (.aload_n 0, 1) := by decide +kernel
theorem dX12_put_27 : decode cX12_put 27 = .ok (.getfield 74, 3) := by decide +kernel
theorem dX12_put_30 : decode cX12_put 30 = .ok (.bipush 24, 2) := by decide +kernel
theorem dX12_put_32 : decode cX12_put 32 = .ok (.iload_n 2, 1) := by decide +kernel
theorem dX12_put_33 : decode cX12_put 33 = .ok (.imul, 1) := by decide +kernel
theorem dX12_put_34 : decode cX12_put 34 = .ok (.aload_n 0, 1) := by decide +kernel
theorem dX12_put_35 : decode cX12_put 35 = .ok (.getfield 71, 3) := by decide +kernel
theorem dX12_put_38 : decode cX12_put 38 = .ok (.iload_n 2, 1) := by decide +kernel
theorem dX12_put_39 : decode cX12_put 39 = .ok (.iaload, 1) := by decide +kernel
theorem dX12_put_40 : decode cX12_put 40 = .ok (.iadd, 1) := by decide +kernel
theorem dX12_put_41 : decode cX12_put 41 = .ok (.iload_n 1, 1) := by decide +kernel
theorem dX12_put_42 : decode cX12_put 42 = .ok (.iastore, 1) := by decide +kernel
theorem dX12_put_43 : decode cX12_put 43 = .ok (.aload_n 0, 1) := by decide +kernel
theorem dX12_put_44 : decode cX12_put 44 = .ok (.getfield 71, 3) := by decide +kernel
theorem dX12_put_47 : decode cX12_put 47 = .ok (.iload_n 2, 1) := by decide +kernel
theorem dX12_put_48 : decode cX12_put 48 = .ok (.dup2, 1) := by decide +kernel
theorem dX12_put_49 : decode cX12_put 49 = .ok (.iaload, 1) := by decide +kernel
theorem dX12_put_50 : decode cX12_put 50 = .ok (.iconst 1, 1) := by decide +kernel
theorem dX12_put_51 : decode cX12_put 51 = .ok (.iadd, 1) := by decide +kernel
theorem dX12_put_52 : decode cX12_put 52 = .ok (.iastore, 1) := by decide +kernel
theorem dX12_put_53 : decode cX12_put 53 = .ok (.goto 16, 3) := by decide +kernel
theorem dX12_put_56 : decode cX12_put 56 = .ok (.aload_n 0, 1) := by decide +kernel
theorem dX12_put_57 : decode cX12_put 57 = .ok (.getfield 68, 3) := by decide +kernel
theorem dX12_put_60 : decode cX12_put 60 = .ok (.iconst 5, 1) := by decide +kernel
theorem dX12_put_61 : decode cX12_put 61 = .ok (.iload_n 2, 1) := by decide +kernel
theorem dX12_put_62 : decode cX12_put 62 = .ok (.imul, 1) := by decide +kernel
theorem dX12_put_63 : decode cX12_put 63 = .ok (.iload_n 3, 1) := by decide +kernel
theorem dX12_put_64 : decode cX12_put 64 = .ok (.iadd, 1) := by decide +kernel
theorem dX12_put_65 : decode cX12_put 65 = .ok (.iconst 1, 1) := by decide +kernel
theorem dX12_put_66 : decode cX12_put 66 = .ok (.isub, 1) := by decide +kernel
theorem dX12_put_67 : decode cX12_put 67 = .ok (.iload_n 1, 1) := by decide +kernel
theorem dX12_put_68 : decode cX12_put 68 = .ok (.iastore, 1) := by decide +kernel
theorem dX12_put_69 : decode cX12_put 69 = .ok (.iload_n 3, 1) := by decide +kernel
theorem dX12_put_70 : decode cX12_put 70 = .ok (.iconst 4, 1) := by decide +kernel
theorem dX12_put_71 : decode cX12_put 71 = .ok (.if_icmp .ne 10, 3) := by decide +kernel
theorem dX12_put_74 : decode cX12_put 74 = .ok (.aload_n 0, 1) := by decide +kernel
theorem dX12_put_75 : decode cX12_put 75 = .ok (.getfield 77, 3) := by decide +kernel
theorem dX12_put_78 : decode cX12_put 78 = .ok (.iload_n 2, 1) := by decide +kernel
theorem dX12_put_79 : decode cX12_put 79 = .ok (.iconst (-1), 1) := by decide +kernel
theorem dX12_put_80 : decode cX12_put 80 = .ok (.iastore, 1) := by decide +kernel
theorem dX12_put_81 : decode cX12_put 81 = .ok (.return_, 1) := by decide +kernel
set_option maxRecDepth 100000 in
set_option maxHeartbeats 4000000 in
theorem w_X12_put_b69 {p : Program} {l : Launch} {e : Env} {s : State} {m : MethodId} {args : Array Value} {below : List Frame} {meth : Method} {c : Code} {K : KG} {ad : Nat → Nat → Nat} {fl : Nat} {H : Heap} {locs : List Loc} {ls : Array Slot} {g2 : Int32} {g3 : Int32} {M0 : Mem} {M9 : Mem} (C : Cx p s m args meth c cX12_put 4 "GlassPalaceModel" none) (hR : 2 ≤ (RM (2) 0 0).frames ∧ 40 * (2) ≤ (RM (2) 0 0).locals) (hB : 0 ≤ (RM (2) 0 0).cells ∧ 0 ≤ (RM (2) 0 0).slots) (Z : Zd K LM ad M0 s H locs) (hl : lv_has ls 4 [(0, .ref (ad 0 0)), (2, .int g2), (3, .int g3)]) (hf : f_X12_put_b69 fl g2 g3 M0 = some M9) : W p l e (RM (2) 0 0) s m args below meth c H locs 0 0 (MQ below (zQ K LM ad (none) M9) args s 0 0 (zA ad)) (F0 m 69 ls []) := by
  unfold f_X12_put_b69 at hf
  refine lv_iload_n C.x C.b dX12_put_69 rfl (lv_at hl 2 rfl) ?_
  refine lv_iconst (v := 4) C.x C.b dX12_put_70 (by decide) ?_
  refine lv_icmp_ne (tgt := 81) C.x C.b dX12_put_71 (by decide) (fun hc9 => ?_) (fun hc9 => ?_)
  · replace hf := ite_f hf hc9
    obtain rfl := sm_s hf
    exact z_vret C Z dX12_put_81
  · replace hf := ite_t hf hc9
    refine lv_aload_n C.x C.b dX12_put_74 rfl (lv_at hl 0 rfl) ?_
    refine z_get C Z (lvM0 Nat.zero_lt_one) kM0 zc12 zin12 19 (by decide) k_1195 rfl svM0_19 dX12_put_75 ?_
    refine lv_iload_n C.x C.b dX12_put_78 rfl (lv_at hl 1 rfl) ?_
    refine lv_iconst (v := (-1)) C.x C.b dX12_put_79 (by decide) ?_
    replace hf := asr_s hf; obtain ⟨hq10, hf⟩ := hf
    replace hf := lt1_s hf; obtain ⟨m11, em11, hf⟩ := hf
    refine z_iast (M1 := m11) C Z (lvM17 Nat.zero_lt_one) (by decide) kM17 hq10 em11 stM17u dX12_put_80 (fun H locs Z => ?_)
    obtain rfl := sm_s hf
    exact z_vret C Z dX12_put_81
set_option maxRecDepth 100000 in
set_option maxHeartbeats 4000000 in
theorem c_X12_put {l : Launch} {K : KG} {ad : Nat → Nat → Nat} {fl : Nat} {a1 : Int32} {a2 : Int32} {M0 : Mem} {M9 : Mem} (hf : f_X12_put fl a1 a2 M0 = some M9) : Met l yX12_put (Cond.code yX12_put cX12_put 4 none :: ztb) (RM (2) 0 0) (zPc K LM ad M0 [.ref (ad 0 0), .int a1, .int a2]) (zQ K LM ad (none) M9) 0 0 (zA ad) := by
  refine z_enter (by decide) (Nat.le_of_ble_eq_true rfl) ?_
  intro p e s m args below meth c ls C hin hargs Z hl
  replace C : Cx p s m args meth c cX12_put 4 "GlassPalaceModel" none := C
  replace hl : lv_has ls 4 [(0, .ref (ad 0 0)), (1, .int a1), (2, .int a2)] := hl
  have hR : 2 ≤ (RM (2) 0 0).frames ∧ 40 * (2) ≤ (RM (2) 0 0).locals := ⟨Nat.le_refl _, Nat.le_refl _⟩
  have hB : 0 ≤ (RM (2) 0 0).cells ∧ 0 ≤ (RM (2) 0 0).slots := ⟨Nat.zero_le _, Nat.zero_le _⟩
  unfold f_X12_put at hf
  refine lv_aload_n C.x C.b dX12_put_0 rfl (lv_at hl 0 rfl) ?_
  refine lv_aload_n C.x C.b dX12_put_1 rfl (lv_at hl 0 rfl) ?_
  refine z_get C Z (lvM0 Nat.zero_lt_one) kM0 zc12 zin12 6 (by decide) k_1182 rfl svM0_6 dX12_put_2 ?_
  refine lv_iload_n C.x C.b dX12_put_5 rfl (lv_at hl 1 rfl) ?_
  replace hf := asr_s hf; obtain ⟨hq1, hf⟩ := hf
  refine z_iald C Z (lvM5 Nat.zero_lt_one) kM5 hq1 svM5 dX12_put_6 ?_
  replace hf := bn2_s hf; obtain ⟨v3, m2, hkm2, hf⟩ := hf
  refine z_cV (As := [.int (gI M0 5 0 (Int32.toNatClampNeg a1))]) (rest := []) (st1 := [.int v3]) C Z mw_X12_placeOf mv_X12_placeOf k_1537 (by decide) (z_hR hR (by decide)) (lvM0 Nat.zero_lt_one) kM0 zc12 (c_X12_placeOf (l := l) (K := K) (ad := ad) hkm2) rfl hl.1 rfl (Nat.le_of_ble_eq_true rfl) dX12_put_7 hB rfl (fun H locs Z => ?_)
  refine z_istore_n (lv' := [(3, .int v3), (0, .ref (ad 0 0)), (1, .int a1), (2, .int a2)]) C dX12_put_10 rfl hl (by decide) rfl (onlast 2 rfl rfl rfl) (fun ls hl => ?_)
  refine lv_aload_n C.x C.b dX12_put_11 rfl (lv_at hl 1 rfl) ?_
  refine z_get C Z (lvM0 Nat.zero_lt_one) kM0 zc12 zin12 13 (by decide) k_1189 rfl svM0_13 dX12_put_12 ?_
  refine lv_iload_n C.x C.b dX12_put_15 rfl (lv_at hl 2 rfl) ?_
  refine lv_dup2_11 C.x C.b dX12_put_16 rfl rfl ?_
  replace hf := asr_s hf; obtain ⟨hq4, hf⟩ := hf
  refine z_iald C Z (lvM12 Nat.zero_lt_one) kM12 hq4 svM12 dX12_put_17 ?_
  refine lv_iconst (v := 1) C.x C.b dX12_put_18 (by decide) ?_
  refine lv_iadd C.x C.b dX12_put_19 ?_
  replace hf := asr_s hf; obtain ⟨hq5, hf⟩ := hf
  replace hf := lt1_s hf; obtain ⟨m6, em6, hf⟩ := hf
  refine z_iast (M1 := m6) C Z (lvM12 Nat.zero_lt_one) (by decide) kM12 hq5 em6 stM12u dX12_put_20 (fun H locs Z => ?_)
  refine lv_iload_n C.x C.b dX12_put_21 rfl (lv_at hl 0 rfl) ?_
  refine lv_iconst (v := 3) C.x C.b dX12_put_22 (by decide) ?_
  replace hf := bn1_s hf; obtain ⟨m8, hq7, hf⟩ := hf
  have kq7 : ∀ (H : Heap) (locs : List Loc) (ls : Array Slot), Zd K LM ad m8 s H locs → lv_has ls 4 [(0, .ref (ad 0 0)), (2, .int a2), (3, .int v3)] → W p l e (RM (2) 0 0) s m args below meth c H locs 0 0 (MQ below (zQ K LM ad (none) M9) args s 0 0 (zA ad)) (F0 m 69 ls []) := by
    intro H locs ls Z hl
    exact w_X12_put_b69 C hR hB  Z (lv_sub hl [0, 1, 2] rfl) hf
  clear hf
  refine lv_icmp_ne (tgt := 56) C.x C.b dX12_put_23 (by decide) (fun hc12 => ?_) (fun hc12 => ?_)
  · have hf := ite_f hq7 hc12; clear hq7
    refine lv_aload_n C.x C.b dX12_put_56 rfl (lv_at hl 1 rfl) ?_
    refine z_get C Z (lvM0 Nat.zero_lt_one) kM0 zc12 zin12 16 (by decide) k_1192 rfl svM0_16 dX12_put_57 ?_
    refine lv_iconst (v := 5) C.x C.b dX12_put_60 (by decide) ?_
    refine lv_iload_n C.x C.b dX12_put_61 rfl (lv_at hl 3 rfl) ?_
    refine lv_imul C.x C.b dX12_put_62 ?_
    refine lv_iload_n C.x C.b dX12_put_63 rfl (lv_at hl 0 rfl) ?_
    refine lv_iadd C.x C.b dX12_put_64 ?_
    refine lv_iconst (v := 1) C.x C.b dX12_put_65 (by decide) ?_
    refine lv_isub C.x C.b dX12_put_66 ?_
    refine lv_iload_n C.x C.b dX12_put_67 rfl (lv_at hl 2 rfl) ?_
    replace hf := asr_s hf; obtain ⟨hq13, hf⟩ := hf
    replace hf := lt1_s hf; obtain ⟨m14, em14, hf⟩ := hf
    refine z_iast (M1 := m14) C Z (lvM14 Nat.zero_lt_one) (by decide) kM14 hq13 em14 stM14u dX12_put_68 (fun H locs Z => ?_)
    obtain rfl := sm_s hf
    exact kq7 _ _ _ Z (lv_sub hl [1, 3, 0] rfl)
  · have hf := ite_t hq7 hc12; clear hq7
    refine lv_aload_n C.x C.b dX12_put_26 rfl (lv_at hl 1 rfl) ?_
    refine z_get C Z (lvM0 Nat.zero_lt_one) kM0 zc12 zin12 18 (by decide) k_1194 rfl svM0_18 dX12_put_27 ?_
    refine lv_bipush (v := 24) C.x C.b dX12_put_30 (by decide) ?_
    refine lv_iload_n C.x C.b dX12_put_32 rfl (lv_at hl 3 rfl) ?_
    refine lv_imul C.x C.b dX12_put_33 ?_
    refine lv_aload_n C.x C.b dX12_put_34 rfl (lv_at hl 1 rfl) ?_
    refine z_get C Z (lvM0 Nat.zero_lt_one) kM0 zc12 zin12 17 (by decide) k_1193 rfl svM0_17 dX12_put_35 ?_
    refine lv_iload_n C.x C.b dX12_put_38 rfl (lv_at hl 3 rfl) ?_
    replace hf := asr_s hf; obtain ⟨hq15, hf⟩ := hf
    refine z_iald C Z (lvM15 Nat.zero_lt_one) kM15 hq15 svM15 dX12_put_39 ?_
    refine lv_iadd C.x C.b dX12_put_40 ?_
    refine lv_iload_n C.x C.b dX12_put_41 rfl (lv_at hl 2 rfl) ?_
    replace hf := asr_s hf; obtain ⟨hq16, hf⟩ := hf
    replace hf := lt1_s hf; obtain ⟨m17, em17, hf⟩ := hf
    refine z_iast (M1 := m17) C Z (lvM16 Nat.zero_lt_one) (by decide) kM16 hq16 em17 stM16u dX12_put_42 (fun H locs Z => ?_)
    refine lv_aload_n C.x C.b dX12_put_43 rfl (lv_at hl 1 rfl) ?_
    refine z_get C Z (lvM0 Nat.zero_lt_one) kM0 zc12 zin12 17 (by decide) k_1193 rfl svM0_17 dX12_put_44 ?_
    refine lv_iload_n C.x C.b dX12_put_47 rfl (lv_at hl 3 rfl) ?_
    refine lv_dup2_11 C.x C.b dX12_put_48 rfl rfl ?_
    replace hf := asr_s hf; obtain ⟨hq18, hf⟩ := hf
    refine z_iald C Z (lvM15 Nat.zero_lt_one) kM15 hq18 svM15 dX12_put_49 ?_
    refine lv_iconst (v := 1) C.x C.b dX12_put_50 (by decide) ?_
    refine lv_iadd C.x C.b dX12_put_51 ?_
    replace hf := asr_s hf; obtain ⟨hq19, hf⟩ := hf
    replace hf := lt1_s hf; obtain ⟨m20, em20, hf⟩ := hf
    refine z_iast (M1 := m20) C Z (lvM15 Nat.zero_lt_one) (by decide) kM15 hq19 em20 stM15u dX12_put_52 (fun H locs Z => ?_)
    refine lv_goto (tgt := 69) C.x C.b dX12_put_53 (by decide) ?_
    obtain rfl := sm_s hf
    exact kq7 _ _ _ Z (lv_sub hl [1, 3, 0] rfl)
theorem dX12_set_0 : decode cX12_set 0 = .ok (.aload_n 0, 1) := by decide +kernel
theorem dX12_set_1 : decode cX12_set 1 = .ok (.iload_n 1, 1) := by decide +kernel
theorem dX12_set_2 : decode cX12_set 2 = .ok (.invokevirtual 251, 3) := by decide +kernel
theorem dX12_set_5 : decode cX12_set 5 = .ok (.ifCond .eq 11, 3) := by decide +kernel
theorem dX12_set_8 : decode cX12_set 8 = .ok (.aload_n 0, 1) := by decide +kernel
theorem dX12_set_9 : decode cX12_set 9 = .ok (.iload_n 2, 1) := by decide +kernel
theorem dX12_set_10 : decode cX12_set 10 = .ok (.invokevirtual 241, 3) := by decide +kernel
theorem dX12_set_13 : decode cX12_set 13 = .ok (.ifCond .ne 5, 3) := by decide +kernel
theorem dX12_set_16 : decode cX12_set 16 = .ok (.iconst (-1), 1) := by decide +kernel
theorem dX12_set_17 : decode cX12_set 17 = .ok (.ireturn, 1) := by decide +kernel
theorem dX12_set_18 : decode cX12_set 18 = .ok (.aload_n 0, 1) := by decide +kernel
theorem dX12_set_19 : decode cX12_set 19 = .ok (.iload_n 1, 1) := by decide +kernel
theorem dX12_set_20 : decode cX12_set 20 = .ok (.iload_n 2, 1) := by decide +kernel
theorem dX12_set_21 : decode cX12_set 21 = .ok (.invokevirtual 273, 3) := by decide +kernel
theorem dX12_set_24 : decode cX12_set 24 = .ok (.iconst 1, 1) := by decide +kernel
theorem dX12_set_25 : decode cX12_set 25 = .ok (.if_icmp .eq 6, 3) := by decide +kernel
theorem dX12_set_28 : decode cX12_set 28 = .ok (.bipush (-3), 2) := by decide +kernel
theorem dX12_set_30 : decode cX12_set 30 = .ok (.ireturn, 1) := by decide +kernel
theorem dX12_set_31 : decode cX12_set 31 = .ok (.aload_n 0, 1) := by decide +kernel
theorem dX12_set_32 : decode cX12_set 32 = .ok (.iload_n 1, 1) := by decide +kernel
theorem dX12_set_33 : decode cX12_set 33 = .ok (.iload_n 2, 1) := by decide +kernel
theorem dX12_set_34 : decode cX12_set 34 = .ok (.invokevirtual 276, 3) := by decide +kernel
theorem dX12_set_37 : decode cX12_set 37 = .ok (.iconst 1, 1) := by decide +kernel
theorem dX12_set_38 : decode cX12_set 38 = .ok (.ireturn, 1) := by decide +kernel
set_option maxRecDepth 100000 in
set_option maxHeartbeats 4000000 in
theorem c_X12_set {l : Launch} {K : KG} {ad : Nat → Nat → Nat} {fl : Nat} {a1 : Int32} {a2 : Int32} {M0 : Mem} {r9 : Int32} {M9 : Mem} (hf : f_X12_set fl a1 a2 M0 = some (r9, M9)) : Met l yX12_set (Cond.code yX12_set cX12_set 3 (some .int) :: ztb) (RM (12) 0 0) (zPc K LM ad M0 [.ref (ad 0 0), .int a1, .int a2]) (zQ K LM ad (some (.int r9)) M9) 0 0 (zA ad) := by
  refine z_enter (by decide) (Nat.le_of_ble_eq_true rfl) ?_
  intro p e s m args below meth c ls C hin hargs Z hl
  replace C : Cx p s m args meth c cX12_set 3 "GlassPalaceModel" (some .int) := C
  replace hl : lv_has ls 3 [(0, .ref (ad 0 0)), (1, .int a1), (2, .int a2)] := hl
  have hR : 12 ≤ (RM (12) 0 0).frames ∧ 40 * (12) ≤ (RM (12) 0 0).locals := ⟨Nat.le_refl _, Nat.le_refl _⟩
  have hB : 0 ≤ (RM (12) 0 0).cells ∧ 0 ≤ (RM (12) 0 0).slots := ⟨Nat.zero_le _, Nat.zero_le _⟩
  unfold f_X12_set at hf
  refine lv_aload_n C.x C.b dX12_set_0 rfl (lv_at hl 0 rfl) ?_
  refine lv_iload_n C.x C.b dX12_set_1 rfl (lv_at hl 1 rfl) ?_
  replace hf := bn2_s hf; obtain ⟨v2, m1, hkm1, hf⟩ := hf
  refine z_cV (As := [.int a1]) (rest := []) (st1 := [.int v2]) C Z mw_X12_isLot mv_X12_isLot k_1434 (by decide) (z_hR hR (by decide)) (lvM0 Nat.zero_lt_one) kM0 zc12 (c_X12_isLot (l := l) (K := K) (ad := ad) hkm1) rfl hl.1 rfl (Nat.le_of_ble_eq_true rfl) dX12_set_2 hB rfl (fun H locs Z => ?_)
  refine lv_if_eq (tgt := 16) C.x C.b dX12_set_5 (by decide) (fun hc3 => ?_) (fun hc3 => ?_)
  · replace hf := ite_t hf hc3
    refine lv_iconst (v := (-1)) C.x C.b dX12_set_16 (by decide) ?_
    obtain ⟨rfl, rfl⟩ := pr_s hf
    exact z_iret C Z dX12_set_17
  · replace hf := ite_f hf hc3
    refine lv_aload_n C.x C.b dX12_set_8 rfl (lv_at hl 0 rfl) ?_
    refine lv_iload_n C.x C.b dX12_set_9 rfl (lv_at hl 2 rfl) ?_
    replace hf := bn2_s hf; obtain ⟨v5, m4, hkm4, hf⟩ := hf
    refine z_cV (As := [.int a2]) (rest := []) (st1 := [.int v5]) C Z mw_X12_isBay mv_X12_isBay k_1406 (by decide) (z_hR hR (by decide)) (lvM0 Nat.zero_lt_one) kM0 zc12 (c_X12_isBay (l := l) (K := K) (ad := ad) hkm4) rfl hl.1 rfl (Nat.le_of_ble_eq_true rfl) dX12_set_10 hB rfl (fun H locs Z => ?_)
    refine lv_if_ne (tgt := 18) C.x C.b dX12_set_13 (by decide) (fun hc6 => ?_) (fun hc6 => ?_)
    · replace hf := ite_f hf hc6
      refine lv_aload_n C.x C.b dX12_set_18 rfl (lv_at hl 0 rfl) ?_
      refine lv_iload_n C.x C.b dX12_set_19 rfl (lv_at hl 1 rfl) ?_
      refine lv_iload_n C.x C.b dX12_set_20 rfl (lv_at hl 2 rfl) ?_
      replace hf := bn2_s hf; obtain ⟨v8, m7, hkm7, hf⟩ := hf
      refine z_cV (As := [.int a1, .int a2]) (rest := []) (st1 := [.int v8]) C Z mw_X12_fits mv_X12_fits k_1533 (by decide) (z_hR hR (by decide)) (lvM0 Nat.zero_lt_one) kM0 zc12 (c_X12_fits (l := l) (K := K) (ad := ad) hkm7) rfl hl.1 rfl (Nat.le_of_ble_eq_true rfl) dX12_set_21 hB rfl (fun H locs Z => ?_)
      refine lv_iconst (v := 1) C.x C.b dX12_set_24 (by decide) ?_
      refine lv_icmp_eq (tgt := 31) C.x C.b dX12_set_25 (by decide) (fun hc9 => ?_) (fun hc9 => ?_)
      · replace hf := ite_t hf hc9
        refine lv_aload_n C.x C.b dX12_set_31 rfl (lv_at hl 0 rfl) ?_
        refine lv_iload_n C.x C.b dX12_set_32 rfl (lv_at hl 1 rfl) ?_
        refine lv_iload_n C.x C.b dX12_set_33 rfl (lv_at hl 2 rfl) ?_
        replace hf := bn1_s hf; obtain ⟨m10, hkm10, hf⟩ := hf
        refine z_cV (As := [.int a1, .int a2]) (rest := []) (st1 := []) C Z mw_X12_put mv_X12_put k_1545 (by decide) (z_hR hR (by decide)) (lvM0 Nat.zero_lt_one) kM0 zc12 (c_X12_put (l := l) (K := K) (ad := ad) hkm10) rfl hl.1 rfl (Nat.le_of_ble_eq_true rfl) dX12_set_34 hB rfl (fun H locs Z => ?_)
        refine lv_iconst (v := 1) C.x C.b dX12_set_37 (by decide) ?_
        obtain ⟨rfl, rfl⟩ := pr_s hf
        exact z_iret C Z dX12_set_38
      · replace hf := ite_f hf hc9
        refine lv_bipush (v := (-3)) C.x C.b dX12_set_28 (by decide) ?_
        obtain ⟨rfl, rfl⟩ := pr_s hf
        exact z_iret C Z dX12_set_30
    · replace hf := ite_t hf hc6
      refine lv_iconst (v := (-1)) C.x C.b dX12_set_16 (by decide) ?_
      obtain ⟨rfl, rfl⟩ := pr_s hf
      exact z_iret C Z dX12_set_17
theorem dX12_isPlace_0 : decode cX12_isPlace 0 = .ok (.aload_n 0, 1) := by decide +kernel
theorem dX12_isPlace_1 : decode cX12_isPlace 1 = .ok (.iload_n 1, 1) := by decide +kernel
theorem dX12_isPlace_2 : decode cX12_isPlace 2 = .ok (.iconst 1, 1) := by decide +kernel
theorem dX12_isPlace_3 : decode cX12_isPlace 3 = .ok (.iconst 5, 1) := by decide +kernel
theorem dX12_isPlace_4 : decode cX12_isPlace 4 = .ok (.invokevirtual 3, 3) := by decide +kernel
theorem dX12_isPlace_7 : decode cX12_isPlace 7 = .ok (.ireturn, 1) := by decide +kernel
set_option maxRecDepth 100000 in
set_option maxHeartbeats 4000000 in
theorem c_X12_isPlace {l : Launch} {K : KG} {ad : Nat → Nat → Nat} {fl : Nat} {a1 : Int32} {M0 : Mem} {r9 : Int32} {M9 : Mem} (hf : f_X12_isPlace fl a1 M0 = some (r9, M9)) : Met l yX12_isPlace (Cond.code yX12_isPlace cX12_isPlace 2 (some .boolean) :: ztb) (RM (2) 0 0) (zPc K LM ad M0 [.ref (ad 0 0), .int a1]) (zQ K LM ad (some (.int r9)) M9) 0 0 (zA ad) := by
  refine z_enter (by decide) (Nat.le_of_ble_eq_true rfl) ?_
  intro p e s m args below meth c ls C hin hargs Z hl
  replace C : Cx p s m args meth c cX12_isPlace 2 "GlassPalaceModel" (some .boolean) := C
  replace hl : lv_has ls 2 [(0, .ref (ad 0 0)), (1, .int a1)] := hl
  have hR : 2 ≤ (RM (2) 0 0).frames ∧ 40 * (2) ≤ (RM (2) 0 0).locals := ⟨Nat.le_refl _, Nat.le_refl _⟩
  have hB : 0 ≤ (RM (2) 0 0).cells ∧ 0 ≤ (RM (2) 0 0).slots := ⟨Nat.zero_le _, Nat.zero_le _⟩
  unfold f_X12_isPlace at hf
  refine lv_aload_n C.x C.b dX12_isPlace_0 rfl (lv_at hl 0 rfl) ?_
  refine lv_iload_n C.x C.b dX12_isPlace_1 rfl (lv_at hl 1 rfl) ?_
  refine lv_iconst (v := 1) C.x C.b dX12_isPlace_2 (by decide) ?_
  refine lv_iconst (v := 5) C.x C.b dX12_isPlace_3 (by decide) ?_
  replace hf := bn2_s hf; obtain ⟨v2, m1, hkm1, hf⟩ := hf
  refine z_cV (As := [.int a1, .int 1, .int 5]) (rest := []) (st1 := [.int v2]) C Z mw_X12_in mv_X12_in k_1398 (by decide) (z_hR hR (by decide)) (lvM0 Nat.zero_lt_one) kM0 zc12 (c_X12_in (l := l) (K := K) (ad := ad) hkm1) rfl hl.1 rfl (Nat.le_of_ble_eq_true rfl) dX12_isPlace_4 hB rfl (fun H locs Z => ?_)
  replace hf := asr_s hf; obtain ⟨hq3, hf⟩ := hf
  obtain ⟨rfl, rfl⟩ := pr_s hf
  exact z_zret C Z (jz01 hq3) dX12_isPlace_7
theorem dX12_at_0 : decode cX12_at 0 = .ok (.aload_n 0, 1) := by decide +kernel
theorem dX12_at_1 : decode cX12_at 1 = .ok (.iload_n 1, 1) := by decide +kernel
theorem dX12_at_2 : decode cX12_at 2 = .ok (.invokevirtual 241, 3) := by decide +kernel
theorem dX12_at_5 : decode cX12_at 5 = .ok (.ifCond .eq 11, 3) := by decide +kernel
theorem dX12_at_8 : decode cX12_at 8 = .ok (.aload_n 0, 1) := by decide +kernel
theorem dX12_at_9 : decode cX12_at 9 = .ok (.iload_n 2, 1) := by decide +kernel
theorem dX12_at_10 : decode cX12_at 10 = .ok (.invokevirtual 280, 3) := by decide +kernel
theorem dX12_at_13 : decode cX12_at 13 = .ok (.ifCond .ne 5, 3) := by decide +kernel
theorem dX12_at_16 : decode cX12_at 16 = .ok (.iconst (-1), 1) := by decide +kernel
theorem dX12_at_17 : decode cX12_at 17 = .ok (.ireturn, 1) := by decide +kernel
theorem dX12_at_18 : decode cX12_at 18 = .ok (.iload_n 2, 1) := by decide +kernel
theorem dX12_at_19 : decode cX12_at 19 = .ok (.iconst 3, 1) := by decide +kernel
theorem dX12_at_20 : decode cX12_at 20 = .ok (.if_icmp .ne 12, 3) := by decide +kernel
theorem dX12_at_23 : decode cX12_at 23 = .ok (.aload_n 0, 1) := by decide +kernel
theorem dX12_at_24 : decode cX12_at 24 = .ok (.getfield 71, 3) := by decide +kernel
theorem dX12_at_27 : decode cX12_at 27 = .ok (.iload_n 1, 1) := by decide +kernel
theorem dX12_at_28 : decode cX12_at 28 = .ok (.iaload, 1) := by decide +kernel
theorem dX12_at_29 : decode cX12_at 29 = .ok (.goto 29, 3) := by decide +kernel
theorem dX12_at_32 : decode cX12_at 32 = .ok (.aload_n 0, 1) := by decide +kernel
theorem dX12_at_33 : decode cX12_at 33 = .ok (.iload_n 1, 1) := by decide +kernel
theorem dX12_at_34 : decode cX12_at 34 = .ok (.iload_n 2, 1) := by decide +kernel
theorem dX12_at_35 : decode cX12_at 35 = .ok (.invokevirtual 237, 3) := by decide +kernel
theorem dX12_at_38 : decode cX12_at 38 = .ok (.ifCond .eq 18, 3) := by decide +kernel
theorem dX12_at_41 : decode cX12_at 41 = .ok (.aload_n 0, 1) := by decide +kernel
theorem dX12_at_42 : decode cX12_at 42 = .ok (.getfield 68, 3) := by decide +kernel
theorem dX12_at_45 : decode cX12_at 45 = .ok (.iconst 5, 1) := by decide +kernel
theorem dX12_at_46 : decode cX12_at 46 = .ok (.iload_n 1, 1) := by decide +kernel
theorem dX12_at_47 : decode cX12_at 47 = .ok (.imul, 1) := by decide +kernel
theorem dX12_at_48 : decode cX12_at 48 = .ok (.iload_n 2, 1) := by decide +kernel
theorem dX12_at_49 : decode cX12_at 49 = .ok (.iadd, 1) := by decide +kernel
theorem dX12_at_50 : decode cX12_at 50 = .ok (.iconst 1, 1) := by decide +kernel
theorem dX12_at_51 : decode cX12_at 51 = .ok (.isub, 1) := by decide +kernel
theorem dX12_at_52 : decode cX12_at 52 = .ok (.iaload, 1) := by decide +kernel
theorem dX12_at_53 : decode cX12_at 53 = .ok (.goto 5, 3) := by decide +kernel
theorem dX12_at_56 : decode cX12_at 56 = .ok (.bipush (-5), 2) := by decide +kernel
theorem dX12_at_58 : decode cX12_at 58 = .ok (.ireturn, 1) := by decide +kernel
set_option maxRecDepth 100000 in
set_option maxHeartbeats 4000000 in
theorem c_X12_at {l : Launch} {K : KG} {ad : Nat → Nat → Nat} {fl : Nat} {a1 : Int32} {a2 : Int32} {M0 : Mem} {r9 : Int32} {M9 : Mem} (hf : f_X12_at fl a1 a2 M0 = some (r9, M9)) : Met l yX12_at (Cond.code yX12_at cX12_at 3 (some .int) :: ztb) (RM (3) 0 0) (zPc K LM ad M0 [.ref (ad 0 0), .int a1, .int a2]) (zQ K LM ad (some (.int r9)) M9) 0 0 (zA ad) := by
  refine z_enter (by decide) (Nat.le_of_ble_eq_true rfl) ?_
  intro p e s m args below meth c ls C hin hargs Z hl
  replace C : Cx p s m args meth c cX12_at 3 "GlassPalaceModel" (some .int) := C
  replace hl : lv_has ls 3 [(0, .ref (ad 0 0)), (1, .int a1), (2, .int a2)] := hl
  have hR : 3 ≤ (RM (3) 0 0).frames ∧ 40 * (3) ≤ (RM (3) 0 0).locals := ⟨Nat.le_refl _, Nat.le_refl _⟩
  have hB : 0 ≤ (RM (3) 0 0).cells ∧ 0 ≤ (RM (3) 0 0).slots := ⟨Nat.zero_le _, Nat.zero_le _⟩
  unfold f_X12_at at hf
  refine lv_aload_n C.x C.b dX12_at_0 rfl (lv_at hl 0 rfl) ?_
  refine lv_iload_n C.x C.b dX12_at_1 rfl (lv_at hl 1 rfl) ?_
  replace hf := bn2_s hf; obtain ⟨v2, m1, hkm1, hf⟩ := hf
  refine z_cV (As := [.int a1]) (rest := []) (st1 := [.int v2]) C Z mw_X12_isBay mv_X12_isBay k_1406 (by decide) (z_hR hR (by decide)) (lvM0 Nat.zero_lt_one) kM0 zc12 (c_X12_isBay (l := l) (K := K) (ad := ad) hkm1) rfl hl.1 rfl (Nat.le_of_ble_eq_true rfl) dX12_at_2 hB rfl (fun H locs Z => ?_)
  refine lv_if_eq (tgt := 16) C.x C.b dX12_at_5 (by decide) (fun hc3 => ?_) (fun hc3 => ?_)
  · replace hf := ite_t hf hc3
    refine lv_iconst (v := (-1)) C.x C.b dX12_at_16 (by decide) ?_
    obtain ⟨rfl, rfl⟩ := pr_s hf
    exact z_iret C Z dX12_at_17
  · replace hf := ite_f hf hc3
    refine lv_aload_n C.x C.b dX12_at_8 rfl (lv_at hl 0 rfl) ?_
    refine lv_iload_n C.x C.b dX12_at_9 rfl (lv_at hl 2 rfl) ?_
    replace hf := bn2_s hf; obtain ⟨v5, m4, hkm4, hf⟩ := hf
    refine z_cV (As := [.int a2]) (rest := []) (st1 := [.int v5]) C Z mw_X12_isPlace mv_X12_isPlace k_1553 (by decide) (z_hR hR (by decide)) (lvM0 Nat.zero_lt_one) kM0 zc12 (c_X12_isPlace (l := l) (K := K) (ad := ad) hkm4) rfl hl.1 rfl (Nat.le_of_ble_eq_true rfl) dX12_at_10 hB rfl (fun H locs Z => ?_)
    refine lv_if_ne (tgt := 18) C.x C.b dX12_at_13 (by decide) (fun hc6 => ?_) (fun hc6 => ?_)
    · replace hf := ite_f hf hc6
      refine lv_iload_n C.x C.b dX12_at_18 rfl (lv_at hl 2 rfl) ?_
      refine lv_iconst (v := 3) C.x C.b dX12_at_19 (by decide) ?_
      refine lv_icmp_ne (tgt := 32) C.x C.b dX12_at_20 (by decide) (fun hc7 => ?_) (fun hc7 => ?_)
      · replace hf := ite_f hf hc7
        refine lv_aload_n C.x C.b dX12_at_32 rfl (lv_at hl 0 rfl) ?_
        refine lv_iload_n C.x C.b dX12_at_33 rfl (lv_at hl 1 rfl) ?_
        refine lv_iload_n C.x C.b dX12_at_34 rfl (lv_at hl 2 rfl) ?_
        replace hf := bn2_s hf; obtain ⟨v9, m8, hkm8, hf⟩ := hf
        refine z_cV (As := [.int a1, .int a2]) (rest := []) (st1 := [.int v9]) C Z mw_X12_has mv_X12_has k_1414 (by decide) (z_hR hR (by decide)) (lvM0 Nat.zero_lt_one) kM0 zc12 (c_X12_has (l := l) (K := K) (ad := ad) hkm8) rfl hl.1 rfl (Nat.le_of_ble_eq_true rfl) dX12_at_35 hB rfl (fun H locs Z => ?_)
        refine lv_if_eq (tgt := 56) C.x C.b dX12_at_38 (by decide) (fun hc10 => ?_) (fun hc10 => ?_)
        · replace hf := ite_t hf hc10
          refine lv_bipush (v := (-5)) C.x C.b dX12_at_56 (by decide) ?_
          obtain ⟨rfl, rfl⟩ := pr_s hf
          exact z_iret C Z dX12_at_58
        · replace hf := ite_f hf hc10
          refine lv_aload_n C.x C.b dX12_at_41 rfl (lv_at hl 0 rfl) ?_
          refine z_get C Z (lvM0 Nat.zero_lt_one) kM0 zc12 zin12 16 (by decide) k_1192 rfl svM0_16 dX12_at_42 ?_
          refine lv_iconst (v := 5) C.x C.b dX12_at_45 (by decide) ?_
          refine lv_iload_n C.x C.b dX12_at_46 rfl (lv_at hl 1 rfl) ?_
          refine lv_imul C.x C.b dX12_at_47 ?_
          refine lv_iload_n C.x C.b dX12_at_48 rfl (lv_at hl 2 rfl) ?_
          refine lv_iadd C.x C.b dX12_at_49 ?_
          refine lv_iconst (v := 1) C.x C.b dX12_at_50 (by decide) ?_
          refine lv_isub C.x C.b dX12_at_51 ?_
          replace hf := asr_s hf; obtain ⟨hq11, hf⟩ := hf
          refine z_iald C Z (lvM14 Nat.zero_lt_one) kM14 hq11 svM14 dX12_at_52 ?_
          refine lv_goto (tgt := 58) C.x C.b dX12_at_53 (by decide) ?_
          obtain ⟨rfl, rfl⟩ := pr_s hf
          exact z_iret C Z dX12_at_58
      · replace hf := ite_t hf hc7
        refine lv_aload_n C.x C.b dX12_at_23 rfl (lv_at hl 0 rfl) ?_
        refine z_get C Z (lvM0 Nat.zero_lt_one) kM0 zc12 zin12 17 (by decide) k_1193 rfl svM0_17 dX12_at_24 ?_
        refine lv_iload_n C.x C.b dX12_at_27 rfl (lv_at hl 1 rfl) ?_
        replace hf := asr_s hf; obtain ⟨hq12, hf⟩ := hf
        refine z_iald C Z (lvM15 Nat.zero_lt_one) kM15 hq12 svM15 dX12_at_28 ?_
        refine lv_goto (tgt := 58) C.x C.b dX12_at_29 (by decide) ?_
        obtain ⟨rfl, rfl⟩ := pr_s hf
        exact z_iret C Z dX12_at_58
    · replace hf := ite_t hf hc6
      refine lv_iconst (v := (-1)) C.x C.b dX12_at_16 (by decide) ?_
      obtain ⟨rfl, rfl⟩ := pr_s hf
      exact z_iret C Z dX12_at_17
theorem dX12_down_0 : decode cX12_down 0 = .ok (.aload_n 0, 1) := by decide +kernel
theorem dX12_down_1 : decode cX12_down 1 = .ok (.iload_n 1, 1) := by decide +kernel
theorem dX12_down_2 : decode cX12_down 2 = .ok (.invokevirtual 241, 3) := by decide +kernel
theorem dX12_down_5 : decode cX12_down 5 = .ok (.ifCond .eq 11, 3) := by decide +kernel
theorem dX12_down_8 : decode cX12_down 8 = .ok (.aload_n 0, 1) := by decide +kernel
theorem dX12_down_9 : decode cX12_down 9 = .ok (.iload_n 2, 1) := by decide +kernel
theorem dX12_down_10 : decode cX12_down 10 = .ok (.invokevirtual 280, 3) := by decide +kernel
theorem dX12_down_13 : decode cX12_down 13 = .ok (.ifCond .ne 5, 3) := by decide +kernel
theorem dX12_down_16 : decode cX12_down 16 = .ok (.iconst (-1), 1) := by decide +kernel
theorem dX12_down_17 : decode cX12_down 17 = .ok (.ireturn, 1) := by decide +kernel
theorem dX12_down_18 : decode cX12_down 18 = .ok (.aload_n 0, 1) := by decide +kernel
theorem dX12_down_19 : decode cX12_down 19 = .ok (.iload_n 1, 1) := by decide +kernel
theorem dX12_down_20 : decode cX12_down 20 = .ok (.iload_n 2, 1) := by decide +kernel
theorem dX12_down_21 : decode cX12_down 21 = .ok (.invokevirtual 237, 3) := by decide +kernel
theorem dX12_down_24 : decode cX12_down 24 = .ok (.ifCond .ne 6, 3) := by decide +kernel
theorem dX12_down_27 : decode cX12_down 27 = .ok (.bipush (-3), 2) := by decide +kernel
theorem dX12_down_29 : decode cX12_down 29 = .ok (.ireturn, 1) := by decide +kernel
theorem dX12_down_30 : decode cX12_down 30 = .ok (.iload_n 2, 1) := by decide +kernel
theorem dX12_down_31 : decode cX12_down 31 = .ok (.iconst 1, 1) := by decide +kernel
theorem dX12_down_32 : decode cX12_down 32 = .ok (.if_icmp .ne 33, 3) := by decide +kernel
theorem dX12_down_35 : decode cX12_down 35 = .ok (.aload_n 0, 1) := by decide +kernel
theorem dX12_down_36 : decode cX12_down 36 = .ok (.iload_n 1, 1) := by decide +kernel
theorem dX12_down_37 : decode cX12_down 37 = .ok (.iconst 2, 1) := by decide +kernel
theorem dX12_down_38 : decode cX12_down 38 = .ok (.invokevirtual 237, 3) := by decide +kernel
theorem dX12_down_41 : decode cX12_down 41 = .ok (.ifCond .ne 21, 3) := by decide +kernel
theorem dX12_down_44 : decode cX12_down 44 = .ok (.iload_n 1, 1) := by decide +kernel
theorem dX12_down_45 : decode cX12_down 45 = .ok (.bipush 6, 2) := by decide +kernel
theorem dX12_down_47 : decode cX12_down 47 = .ok (.irem, 1) := by decide +kernel
theorem dX12_down_48 : decode cX12_down 48 = .ok (.ifCond .le 17, 3) := by decide +kernel
theorem dX12_down_51 : decode cX12_down 51 = .ok (.aload_n 0, 1) := by decide +kernel
theorem dX12_down_52 : decode cX12_down 52 = .ok (.iload_n 1, 1) := by decide +kernel
theorem dX12_down_53 : decode cX12_down 53 = .ok (.iconst 1, 1) := by decide +kernel
theorem dX12_down_54 : decode cX12_down 54 = .ok (.isub, 1) := by decide +kernel
theorem dX12_down_55 : decode cX12_down 55 = .ok (.iconst 2, 1) := by decide +kernel
theorem dX12_down_56 : decode cX12_down 56 = .ok (.invokevirtual 237, 3) := by decide +kernel
theorem dX12_down_59 : decode cX12_down 59 = .ok (.ifCond .eq 6, 3) := by decide +kernel
theorem dX12_down_62 : decode cX12_down 62 = .ok (.bipush (-3), 2) := by decide +kernel
theorem dX12_down_64 : decode cX12_down 64 = .ok (.ireturn, 1) := by decide +kernel
theorem dX12_down_65 : decode cX12_down 65 = .ok (.iload_n 2, 1) := by decide +kernel
theorem dX12_down_66 : decode cX12_down 66 = .ok (.iconst 2, 1) := by decide +kernel
theorem dX12_down_67 : decode cX12_down 67 = .ok (.if_icmp .ne 24, 3) := by decide +kernel
theorem dX12_down_70 : decode cX12_down 70 = .ok (.aload_n 0, 1) := by decide +kernel
theorem dX12_down_71 : decode cX12_down 71 = .ok (.iload_n 1, 1) := by decide +kernel
theorem dX12_down_72 : decode cX12_down 72 = .ok (.iconst 3, 1) := by decide +kernel
theorem dX12_down_73 : decode cX12_down 73 = .ok (.invokevirtual 237, 3) := by decide +kernel
theorem dX12_down_76 : decode cX12_down 76 = .ok (.ifCond .ne 12, 3) := by decide +kernel
theorem dX12_down_79 : decode cX12_down 79 = .ok (.aload_n 0, 1) := by decide +kernel
theorem dX12_down_80 : decode cX12_down 80 = .ok (.iload_n 1, 1) := by decide +kernel
theorem dX12_down_81 : decode cX12_down 81 = .ok (.iconst 4, 1) := by decide +kernel
theorem dX12_down_82 : decode cX12_down 82 = .ok (.invokevirtual 237, 3) := by decide +kernel
theorem dX12_down_85 : decode cX12_down 85 = .ok (.ifCond .eq 6, 3) := by decide +kernel
theorem dX12_down_88 : decode cX12_down 88 = .ok (.bipush (-3), 2) := by decide +kernel
theorem dX12_down_90 : decode cX12_down 90 = .ok (.ireturn, 1) := by decide +kernel
theorem dX12_down_91 : decode cX12_down 91 = .ok (.iload_n 2, 1) := by decide +kernel
theorem dX12_down_92 : decode cX12_down 92 = .ok (.iconst 3, 1) := by decide +kernel
theorem dX12_down_93 : decode cX12_down 93 = .ok (.if_icmp .ne 24, 3) := by decide +kernel
theorem dX12_down_96 : decode cX12_down 96 = .ok (.aload_n 0, 1) := by decide +kernel
theorem dX12_down_97 : decode cX12_down 97 = .ok (.getfield 74, 3) := by decide +kernel
theorem dX12_down_100 : decode cX12_down 100 = .ok (.bipush 24, 2) := by decide +kernel
theorem dX12_down_102 : decode cX12_down 102 = .ok (.iload_n 1, 1) := by decide +kernel
theorem dX12_down_103 : decode cX12_down 103 = .ok (.imul, 1) := by decide +kernel
theorem dX12_down_104 : decode cX12_down 104 = .ok (.aload_n 0, 1) := by decide +kernel
theorem dX12_down_105 : decode cX12_down 105 = .ok (.getfield 71, 3) := by decide +kernel
theorem dX12_down_108 : decode cX12_down 108 = .ok (.iload_n 1, 1) := by decide +kernel
theorem dX12_down_109 : decode cX12_down 109 = .ok (.iaload, 1) := by decide +kernel
theorem dX12_down_110 : decode cX12_down 110 = .ok (.iadd, 1) := by decide +kernel
theorem dX12_down_111 : decode cX12_down 111 = .ok (.iconst 1, 1) := by decide +kernel
theorem dX12_down_112 : decode cX12_down 112 = .ok (.isub, 1) := by decide +kernel
theorem dX12_down_113 : decode cX12_down 113 = .ok (.iaload, 1) := by decide +kernel
theorem dX12_down_114 : decode cX12_down 114 = .ok (.goto 15, 3) := by decide +kernel
theorem dX12_down_117 : decode cX12_down 117 = .ok (.aload_n 0, 1) := by decide +kernel
theorem dX12_down_118 : decode cX12_down 118 = .ok (.getfield 68, 3) := by decide +kernel
theorem dX12_down_121 : decode cX12_down 121 = .ok (.iconst 5, 1) := by decide +kernel
theorem dX12_down_122 : decode cX12_down 122 = .ok (.iload_n 1, 1) := by decide +kernel
theorem dX12_down_123 : decode cX12_down 123 = .ok (.imul, 1) := by decide +kernel
theorem dX12_down_124 : decode cX12_down 124 = .ok (.iload_n 2, 1) := by decide +kernel
theorem dX12_down_125 : decode cX12_down 125 = .ok (.iadd, 1) := by decide +kernel
theorem dX12_down_126 : decode cX12_down 126 = .ok (.iconst 1, 1) := by decide +kernel
theorem dX12_down_127 : decode cX12_down 127 = .ok (.isub, 1) := by decide +kernel
theorem dX12_down_128 : decode cX12_down 128 = .ok (.iaload, 1) := by decide +kernel
theorem dX12_down_129 : decode cX12_down 129 = .ok (.istore_n 3, 1) := by decide +kernel
theorem dX12_down_130 : decode cX12_down 130 = .ok (.iload_n 2, 1) := by decide +kernel
theorem dX12_down_131 : decode cX12_down 131 = .ok (.iconst 3, 1) := by decide +kernel
theorem dX12_down_132 : decode cX12_down 132 = .ok (.if_icmp .ne 16, 3) := by decide +kernel
theorem dX12_down_135 : decode cX12_down 135 = .ok (.aload_n 0, 1) := by decide +kernel
theorem dX12_down_136 : decode cX12_down 136 = .ok (.getfield 71, 3) := by decide +kernel
theorem dX12_down_139 : decode cX12_down 139 = .ok (.iload_n 1, 1) := by decide +kernel
theorem dX12_down_140 : decode cX12_down 140 = .ok (.dup2, 1) := by decide +kernel
theorem dX12_down_141 : decode cX12_down 141 = .ok (.iaload, 1) := by decide +kernel
theorem dX12_down_142 : decode cX12_down 142 = .ok (.iconst 1, 1) := by decide +kernel
theorem dX12_down_143 : decode cX12_down 143 = .ok (.isub, 1) := by decide +kernel
theorem dX12_down_144 : decode cX12_down 144 = .ok (.iastore, 1) := by decide +kernel
theorem dX12_down_145 : decode cX12_down 145 = .ok (.goto 16, 3) := by decide +kernel
theorem dX12_down_148 : decode cX12_down 148 = .ok (.aload_n 0, 1) := by decide +kernel
theorem dX12_down_149 : decode cX12_down 149 = .ok (.getfield 68, 3) := by decide +kernel
theorem dX12_down_152 : decode cX12_down 152 = .ok (.iconst 5, 1) := by decide +kernel
theorem dX12_down_153 : decode cX12_down 153 = .ok (.iload_n 1, 1) := by decide +kernel
theorem dX12_down_154 : decode cX12_down 154 = .ok (.imul, 1) := by decide +kernel
theorem dX12_down_155 : decode cX12_down 155 = .ok (.iload_n 2, 1) := by decide +kernel
theorem dX12_down_156 : decode cX12_down 156 = .ok (.iadd, 1) := by decide +kernel
theorem dX12_down_157 : decode cX12_down 157 = .ok (.iconst 1, 1) := by decide +kernel
theorem dX12_down_158 : decode cX12_down 158 = .ok (.isub, 1) := by decide +kernel
theorem dX12_down_159 : decode cX12_down 159 = .ok (.iconst (-1), 1) := by decide +kernel
theorem dX12_down_160 : decode cX12_down 160 = .ok (.iastore, 1) := by decide +kernel
theorem dX12_down_161 : decode cX12_down 161 = .ok (.aload_n 0, 1) := by decide +kernel
theorem dX12_down_162 : decode cX12_down 162 = .ok (.getfield 58, 3) := by decide +kernel
theorem dX12_down_165 : decode cX12_down 165 = .ok (.iload_n 3, 1) := by decide +kernel
theorem dX12_down_166 : decode cX12_down 166 = .ok (.dup2, 1) := by decide +kernel
theorem dX12_down_167 : decode cX12_down 167 = .ok (.iaload, 1) := by decide +kernel
theorem dX12_down_168 : decode cX12_down 168 = .ok (.iconst 1, 1) := by decide +kernel
theorem dX12_down_169 : decode cX12_down 169 = .ok (.isub, 1) := by decide +kernel
theorem dX12_down_170 : decode cX12_down 170 = .ok (.iastore, 1) := by decide +kernel
theorem dX12_down_171 : decode cX12_down 171 = .ok (.iload_n 3, 1) := by decide +kernel
theorem dX12_down_172 : decode cX12_down 172 = .ok (.ireturn, 1) := by decide +kernel
set_option maxRecDepth 100000 in
set_option maxHeartbeats 4000000 in
theorem w_X12_down_b161 {p : Program} {l : Launch} {e : Env} {s : State} {m : MethodId} {args : Array Value} {below : List Frame} {meth : Method} {c : Code} {K : KG} {ad : Nat → Nat → Nat} {fl : Nat} {H : Heap} {locs : List Loc} {ls : Array Slot} {g3 : Int32} {M0 : Mem} {r9 : Int32} {M9 : Mem} (C : Cx p s m args meth c cX12_down 4 "GlassPalaceModel" (some .int)) (hR : 3 ≤ (RM (3) 0 0).frames ∧ 40 * (3) ≤ (RM (3) 0 0).locals) (hB : 0 ≤ (RM (3) 0 0).cells ∧ 0 ≤ (RM (3) 0 0).slots) (Z : Zd K LM ad M0 s H locs) (hl : lv_has ls 4 [(0, .ref (ad 0 0)), (3, .int g3)]) (hf : f_X12_down_b161 fl g3 M0 = some (r9, M9)) : W p l e (RM (3) 0 0) s m args below meth c H locs 0 0 (MQ below (zQ K LM ad (some (.int r9)) M9) args s 0 0 (zA ad)) (F0 m 161 ls []) := by
  unfold f_X12_down_b161 at hf
  refine lv_aload_n C.x C.b dX12_down_161 rfl (lv_at hl 0 rfl) ?_
  refine z_get C Z (lvM0 Nat.zero_lt_one) kM0 zc12 zin12 13 (by decide) k_1189 rfl svM0_13 dX12_down_162 ?_
  refine lv_iload_n C.x C.b dX12_down_165 rfl (lv_at hl 1 rfl) ?_
  refine lv_dup2_11 C.x C.b dX12_down_166 rfl rfl ?_
  replace hf := asr_s hf; obtain ⟨hq16, hf⟩ := hf
  refine z_iald C Z (lvM12 Nat.zero_lt_one) kM12 hq16 svM12 dX12_down_167 ?_
  refine lv_iconst (v := 1) C.x C.b dX12_down_168 (by decide) ?_
  refine lv_isub C.x C.b dX12_down_169 ?_
  replace hf := asr_s hf; obtain ⟨hq17, hf⟩ := hf
  replace hf := lt1_s hf; obtain ⟨m18, em18, hf⟩ := hf
  refine z_iast (M1 := m18) C Z (lvM12 Nat.zero_lt_one) (by decide) kM12 hq17 em18 stM12u dX12_down_170 (fun H locs Z => ?_)
  refine lv_iload_n C.x C.b dX12_down_171 rfl (lv_at hl 1 rfl) ?_
  obtain ⟨rfl, rfl⟩ := pr_s hf
  exact z_iret C Z dX12_down_172
set_option maxRecDepth 100000 in
set_option maxHeartbeats 4000000 in
theorem w_X12_down_b129 {p : Program} {l : Launch} {e : Env} {s : State} {m : MethodId} {args : Array Value} {below : List Frame} {meth : Method} {c : Code} {K : KG} {ad : Nat → Nat → Nat} {fl : Nat} {H : Heap} {locs : List Loc} {ls : Array Slot} {g1 : Int32} {g2 : Int32} {z0 : Int32} {M0 : Mem} {r9 : Int32} {M9 : Mem} (C : Cx p s m args meth c cX12_down 4 "GlassPalaceModel" (some .int)) (hR : 3 ≤ (RM (3) 0 0).frames ∧ 40 * (3) ≤ (RM (3) 0 0).locals) (hB : 0 ≤ (RM (3) 0 0).cells ∧ 0 ≤ (RM (3) 0 0).slots) (Z : Zd K LM ad M0 s H locs) (hl : lv_has ls 4 [(0, .ref (ad 0 0)), (1, .int g1), (2, .int g2)]) (hf : f_X12_down_b129 fl g1 g2 z0 M0 = some (r9, M9)) : W p l e (RM (3) 0 0) s m args below meth c H locs 0 0 (MQ below (zQ K LM ad (some (.int r9)) M9) args s 0 0 (zA ad)) (F0 m 129 ls [.int z0]) := by
  unfold f_X12_down_b129 at hf
  refine z_istore_n (lv' := [(3, .int z0), (0, .ref (ad 0 0)), (1, .int g1), (2, .int g2)]) C dX12_down_129 rfl hl (by decide) rfl (onlast 2 rfl rfl rfl) (fun ls hl => ?_)
  refine lv_iload_n C.x C.b dX12_down_130 rfl (lv_at hl 3 rfl) ?_
  refine lv_iconst (v := 3) C.x C.b dX12_down_131 (by decide) ?_
  replace hf := bn1_s hf; obtain ⟨m15, hq14, hf⟩ := hf
  have kq14 : ∀ (H : Heap) (locs : List Loc) (ls : Array Slot), Zd K LM ad m15 s H locs → lv_has ls 4 [(0, .ref (ad 0 0)), (3, .int z0)] → W p l e (RM (3) 0 0) s m args below meth c H locs 0 0 (MQ below (zQ K LM ad (some (.int r9)) M9) args s 0 0 (zA ad)) (F0 m 161 ls []) := by
    intro H locs ls Z hl
    exact w_X12_down_b161 C hR hB  Z (lv_sub hl [0, 1] rfl) hf
  clear hf
  refine lv_icmp_ne (tgt := 148) C.x C.b dX12_down_132 (by decide) (fun hc19 => ?_) (fun hc19 => ?_)
  · have hf := ite_f hq14 hc19; clear hq14
    refine lv_aload_n C.x C.b dX12_down_148 rfl (lv_at hl 1 rfl) ?_
    refine z_get C Z (lvM0 Nat.zero_lt_one) kM0 zc12 zin12 16 (by decide) k_1192 rfl svM0_16 dX12_down_149 ?_
    refine lv_iconst (v := 5) C.x C.b dX12_down_152 (by decide) ?_
    refine lv_iload_n C.x C.b dX12_down_153 rfl (lv_at hl 2 rfl) ?_
    refine lv_imul C.x C.b dX12_down_154 ?_
    refine lv_iload_n C.x C.b dX12_down_155 rfl (lv_at hl 3 rfl) ?_
    refine lv_iadd C.x C.b dX12_down_156 ?_
    refine lv_iconst (v := 1) C.x C.b dX12_down_157 (by decide) ?_
    refine lv_isub C.x C.b dX12_down_158 ?_
    refine lv_iconst (v := (-1)) C.x C.b dX12_down_159 (by decide) ?_
    replace hf := asr_s hf; obtain ⟨hq20, hf⟩ := hf
    replace hf := lt1_s hf; obtain ⟨m21, em21, hf⟩ := hf
    refine z_iast (M1 := m21) C Z (lvM14 Nat.zero_lt_one) (by decide) kM14 hq20 em21 stM14u dX12_down_160 (fun H locs Z => ?_)
    obtain rfl := sm_s hf
    exact kq14 _ _ _ Z (lv_sub hl [1, 0] rfl)
  · have hf := ite_t hq14 hc19; clear hq14
    refine lv_aload_n C.x C.b dX12_down_135 rfl (lv_at hl 1 rfl) ?_
    refine z_get C Z (lvM0 Nat.zero_lt_one) kM0 zc12 zin12 17 (by decide) k_1193 rfl svM0_17 dX12_down_136 ?_
    refine lv_iload_n C.x C.b dX12_down_139 rfl (lv_at hl 2 rfl) ?_
    refine lv_dup2_11 C.x C.b dX12_down_140 rfl rfl ?_
    replace hf := asr_s hf; obtain ⟨hq22, hf⟩ := hf
    refine z_iald C Z (lvM15 Nat.zero_lt_one) kM15 hq22 svM15 dX12_down_141 ?_
    refine lv_iconst (v := 1) C.x C.b dX12_down_142 (by decide) ?_
    refine lv_isub C.x C.b dX12_down_143 ?_
    replace hf := asr_s hf; obtain ⟨hq23, hf⟩ := hf
    replace hf := lt1_s hf; obtain ⟨m24, em24, hf⟩ := hf
    refine z_iast (M1 := m24) C Z (lvM15 Nat.zero_lt_one) (by decide) kM15 hq23 em24 stM15u dX12_down_144 (fun H locs Z => ?_)
    refine lv_goto (tgt := 161) C.x C.b dX12_down_145 (by decide) ?_
    obtain rfl := sm_s hf
    exact kq14 _ _ _ Z (lv_sub hl [1, 0] rfl)
set_option maxRecDepth 100000 in
set_option maxHeartbeats 4000000 in
theorem w_X12_down_b91 {p : Program} {l : Launch} {e : Env} {s : State} {m : MethodId} {args : Array Value} {below : List Frame} {meth : Method} {c : Code} {K : KG} {ad : Nat → Nat → Nat} {fl : Nat} {H : Heap} {locs : List Loc} {ls : Array Slot} {g1 : Int32} {g2 : Int32} {M0 : Mem} {r9 : Int32} {M9 : Mem} (C : Cx p s m args meth c cX12_down 4 "GlassPalaceModel" (some .int)) (hR : 3 ≤ (RM (3) 0 0).frames ∧ 40 * (3) ≤ (RM (3) 0 0).locals) (hB : 0 ≤ (RM (3) 0 0).cells ∧ 0 ≤ (RM (3) 0 0).slots) (Z : Zd K LM ad M0 s H locs) (hl : lv_has ls 4 [(0, .ref (ad 0 0)), (1, .int g1), (2, .int g2)]) (hf : f_X12_down_b91 fl g1 g2 M0 = some (r9, M9)) : W p l e (RM (3) 0 0) s m args below meth c H locs 0 0 (MQ below (zQ K LM ad (some (.int r9)) M9) args s 0 0 (zA ad)) (F0 m 91 ls []) := by
  unfold f_X12_down_b91 at hf
  refine lv_iload_n C.x C.b dX12_down_91 rfl (lv_at hl 2 rfl) ?_
  refine lv_iconst (v := 3) C.x C.b dX12_down_92 (by decide) ?_
  replace hf := bn2_s hf; obtain ⟨q12, m13, hq12, hf⟩ := hf
  have kq12 : ∀ (H : Heap) (locs : List Loc) (ls : Array Slot), Zd K LM ad m13 s H locs → lv_has ls 4 [(0, .ref (ad 0 0)), (1, .int g1), (2, .int g2)] → W p l e (RM (3) 0 0) s m args below meth c H locs 0 0 (MQ below (zQ K LM ad (some (.int r9)) M9) args s 0 0 (zA ad)) (F0 m 129 ls [.int q12]) := by
    intro H locs ls Z hl
    exact w_X12_down_b129 C hR hB  Z (lv_sub hl [0, 1, 2] rfl) hf
  clear hf
  refine lv_icmp_ne (tgt := 117) C.x C.b dX12_down_93 (by decide) (fun hc25 => ?_) (fun hc25 => ?_)
  · have hf := ite_f hq12 hc25; clear hq12
    refine lv_aload_n C.x C.b dX12_down_117 rfl (lv_at hl 0 rfl) ?_
    refine z_get C Z (lvM0 Nat.zero_lt_one) kM0 zc12 zin12 16 (by decide) k_1192 rfl svM0_16 dX12_down_118 ?_
    refine lv_iconst (v := 5) C.x C.b dX12_down_121 (by decide) ?_
    refine lv_iload_n C.x C.b dX12_down_122 rfl (lv_at hl 1 rfl) ?_
    refine lv_imul C.x C.b dX12_down_123 ?_
    refine lv_iload_n C.x C.b dX12_down_124 rfl (lv_at hl 2 rfl) ?_
    refine lv_iadd C.x C.b dX12_down_125 ?_
    refine lv_iconst (v := 1) C.x C.b dX12_down_126 (by decide) ?_
    refine lv_isub C.x C.b dX12_down_127 ?_
    replace hf := asr_s hf; obtain ⟨hq26, hf⟩ := hf
    refine z_iald C Z (lvM14 Nat.zero_lt_one) kM14 hq26 svM14 dX12_down_128 ?_
    obtain ⟨rfl, rfl⟩ := pr_s hf
    exact kq12 _ _ _ Z (lv_sub hl [0, 1, 2] rfl)
  · have hf := ite_t hq12 hc25; clear hq12
    refine lv_aload_n C.x C.b dX12_down_96 rfl (lv_at hl 0 rfl) ?_
    refine z_get C Z (lvM0 Nat.zero_lt_one) kM0 zc12 zin12 18 (by decide) k_1194 rfl svM0_18 dX12_down_97 ?_
    refine lv_bipush (v := 24) C.x C.b dX12_down_100 (by decide) ?_
    refine lv_iload_n C.x C.b dX12_down_102 rfl (lv_at hl 1 rfl) ?_
    refine lv_imul C.x C.b dX12_down_103 ?_
    refine lv_aload_n C.x C.b dX12_down_104 rfl (lv_at hl 0 rfl) ?_
    refine z_get C Z (lvM0 Nat.zero_lt_one) kM0 zc12 zin12 17 (by decide) k_1193 rfl svM0_17 dX12_down_105 ?_
    refine lv_iload_n C.x C.b dX12_down_108 rfl (lv_at hl 1 rfl) ?_
    replace hf := asr_s hf; obtain ⟨hq27, hf⟩ := hf
    refine z_iald C Z (lvM15 Nat.zero_lt_one) kM15 hq27 svM15 dX12_down_109 ?_
    refine lv_iadd C.x C.b dX12_down_110 ?_
    refine lv_iconst (v := 1) C.x C.b dX12_down_111 (by decide) ?_
    refine lv_isub C.x C.b dX12_down_112 ?_
    replace hf := asr_s hf; obtain ⟨hq28, hf⟩ := hf
    refine z_iald C Z (lvM16 Nat.zero_lt_one) kM16 hq28 svM16 dX12_down_113 ?_
    refine lv_goto (tgt := 129) C.x C.b dX12_down_114 (by decide) ?_
    obtain ⟨rfl, rfl⟩ := pr_s hf
    exact kq12 _ _ _ Z (lv_sub hl [0, 1, 2] rfl)
set_option maxRecDepth 100000 in
set_option maxHeartbeats 4000000 in
theorem w_X12_down_b65 {p : Program} {l : Launch} {e : Env} {s : State} {m : MethodId} {args : Array Value} {below : List Frame} {meth : Method} {c : Code} {K : KG} {ad : Nat → Nat → Nat} {fl : Nat} {H : Heap} {locs : List Loc} {ls : Array Slot} {g1 : Int32} {g2 : Int32} {M0 : Mem} {r9 : Int32} {M9 : Mem} (C : Cx p s m args meth c cX12_down 4 "GlassPalaceModel" (some .int)) (hR : 3 ≤ (RM (3) 0 0).frames ∧ 40 * (3) ≤ (RM (3) 0 0).locals) (hB : 0 ≤ (RM (3) 0 0).cells ∧ 0 ≤ (RM (3) 0 0).slots) (Z : Zd K LM ad M0 s H locs) (hl : lv_has ls 4 [(0, .ref (ad 0 0)), (1, .int g1), (2, .int g2)]) (hf : f_X12_down_b65 fl g1 g2 M0 = some (r9, M9)) : W p l e (RM (3) 0 0) s m args below meth c H locs 0 0 (MQ below (zQ K LM ad (some (.int r9)) M9) args s 0 0 (zA ad)) (F0 m 65 ls []) := by
  unfold f_X12_down_b65 at hf
  refine lv_iload_n C.x C.b dX12_down_65 rfl (lv_at hl 2 rfl) ?_
  refine lv_iconst (v := 2) C.x C.b dX12_down_66 (by decide) ?_
  refine lv_icmp_ne (tgt := 91) C.x C.b dX12_down_67 (by decide) (fun hc11 => ?_) (fun hc11 => ?_)
  · replace hf := ite_f hf hc11
    exact w_X12_down_b91 C hR hB  Z (lv_sub hl [0, 1, 2] rfl) hf
  · replace hf := ite_t hf hc11
    refine lv_aload_n C.x C.b dX12_down_70 rfl (lv_at hl 0 rfl) ?_
    refine lv_iload_n C.x C.b dX12_down_71 rfl (lv_at hl 1 rfl) ?_
    refine lv_iconst (v := 3) C.x C.b dX12_down_72 (by decide) ?_
    replace hf := bn2_s hf; obtain ⟨v30, m29, hkm29, hf⟩ := hf
    refine z_cV (As := [.int g1, .int 3]) (rest := []) (st1 := [.int v30]) C Z mw_X12_has mv_X12_has k_1414 (by decide) (z_hR hR (by decide)) (lvM0 Nat.zero_lt_one) kM0 zc12 (c_X12_has (l := l) (K := K) (ad := ad) hkm29) rfl hl.1 rfl (Nat.le_of_ble_eq_true rfl) dX12_down_73 hB rfl (fun H locs Z => ?_)
    refine lv_if_ne (tgt := 88) C.x C.b dX12_down_76 (by decide) (fun hc31 => ?_) (fun hc31 => ?_)
    · replace hf := ite_f hf hc31
      refine lv_bipush (v := (-3)) C.x C.b dX12_down_88 (by decide) ?_
      obtain ⟨rfl, rfl⟩ := pr_s hf
      exact z_iret C Z dX12_down_90
    · replace hf := ite_t hf hc31
      refine lv_aload_n C.x C.b dX12_down_79 rfl (lv_at hl 0 rfl) ?_
      refine lv_iload_n C.x C.b dX12_down_80 rfl (lv_at hl 1 rfl) ?_
      refine lv_iconst (v := 4) C.x C.b dX12_down_81 (by decide) ?_
      replace hf := bn2_s hf; obtain ⟨v33, m32, hkm32, hf⟩ := hf
      refine z_cV (As := [.int g1, .int 4]) (rest := []) (st1 := [.int v33]) C Z mw_X12_has mv_X12_has k_1414 (by decide) (z_hR hR (by decide)) (lvM0 Nat.zero_lt_one) kM0 zc12 (c_X12_has (l := l) (K := K) (ad := ad) hkm32) rfl hl.1 rfl (Nat.le_of_ble_eq_true rfl) dX12_down_82 hB rfl (fun H locs Z => ?_)
      refine lv_if_eq (tgt := 91) C.x C.b dX12_down_85 (by decide) (fun hc34 => ?_) (fun hc34 => ?_)
      · replace hf := ite_t hf hc34
        exact w_X12_down_b91 C hR hB  Z (lv_sub hl [0, 1, 2] rfl) hf
      · replace hf := ite_f hf hc34
        refine lv_bipush (v := (-3)) C.x C.b dX12_down_88 (by decide) ?_
        obtain ⟨rfl, rfl⟩ := pr_s hf
        exact z_iret C Z dX12_down_90
set_option maxRecDepth 100000 in
set_option maxHeartbeats 4000000 in
theorem c_X12_down {l : Launch} {K : KG} {ad : Nat → Nat → Nat} {fl : Nat} {a1 : Int32} {a2 : Int32} {M0 : Mem} {r9 : Int32} {M9 : Mem} (hf : f_X12_down fl a1 a2 M0 = some (r9, M9)) : Met l yX12_down (Cond.code yX12_down cX12_down 4 (some .int) :: ztb) (RM (3) 0 0) (zPc K LM ad M0 [.ref (ad 0 0), .int a1, .int a2]) (zQ K LM ad (some (.int r9)) M9) 0 0 (zA ad) := by
  refine z_enter (by decide) (Nat.le_of_ble_eq_true rfl) ?_
  intro p e s m args below meth c ls C hin hargs Z hl
  replace C : Cx p s m args meth c cX12_down 4 "GlassPalaceModel" (some .int) := C
  replace hl : lv_has ls 4 [(0, .ref (ad 0 0)), (1, .int a1), (2, .int a2)] := hl
  have hR : 3 ≤ (RM (3) 0 0).frames ∧ 40 * (3) ≤ (RM (3) 0 0).locals := ⟨Nat.le_refl _, Nat.le_refl _⟩
  have hB : 0 ≤ (RM (3) 0 0).cells ∧ 0 ≤ (RM (3) 0 0).slots := ⟨Nat.zero_le _, Nat.zero_le _⟩
  unfold f_X12_down at hf
  refine lv_aload_n C.x C.b dX12_down_0 rfl (lv_at hl 0 rfl) ?_
  refine lv_iload_n C.x C.b dX12_down_1 rfl (lv_at hl 1 rfl) ?_
  replace hf := bn2_s hf; obtain ⟨v2, m1, hkm1, hf⟩ := hf
  refine z_cV (As := [.int a1]) (rest := []) (st1 := [.int v2]) C Z mw_X12_isBay mv_X12_isBay k_1406 (by decide) (z_hR hR (by decide)) (lvM0 Nat.zero_lt_one) kM0 zc12 (c_X12_isBay (l := l) (K := K) (ad := ad) hkm1) rfl hl.1 rfl (Nat.le_of_ble_eq_true rfl) dX12_down_2 hB rfl (fun H locs Z => ?_)
  refine lv_if_eq (tgt := 16) C.x C.b dX12_down_5 (by decide) (fun hc3 => ?_) (fun hc3 => ?_)
  · replace hf := ite_t hf hc3
    refine lv_iconst (v := (-1)) C.x C.b dX12_down_16 (by decide) ?_
    obtain ⟨rfl, rfl⟩ := pr_s hf
    exact z_iret C Z dX12_down_17
  · replace hf := ite_f hf hc3
    refine lv_aload_n C.x C.b dX12_down_8 rfl (lv_at hl 0 rfl) ?_
    refine lv_iload_n C.x C.b dX12_down_9 rfl (lv_at hl 2 rfl) ?_
    replace hf := bn2_s hf; obtain ⟨v5, m4, hkm4, hf⟩ := hf
    refine z_cV (As := [.int a2]) (rest := []) (st1 := [.int v5]) C Z mw_X12_isPlace mv_X12_isPlace k_1553 (by decide) (z_hR hR (by decide)) (lvM0 Nat.zero_lt_one) kM0 zc12 (c_X12_isPlace (l := l) (K := K) (ad := ad) hkm4) rfl hl.1 rfl (Nat.le_of_ble_eq_true rfl) dX12_down_10 hB rfl (fun H locs Z => ?_)
    refine lv_if_ne (tgt := 18) C.x C.b dX12_down_13 (by decide) (fun hc6 => ?_) (fun hc6 => ?_)
    · replace hf := ite_f hf hc6
      refine lv_aload_n C.x C.b dX12_down_18 rfl (lv_at hl 0 rfl) ?_
      refine lv_iload_n C.x C.b dX12_down_19 rfl (lv_at hl 1 rfl) ?_
      refine lv_iload_n C.x C.b dX12_down_20 rfl (lv_at hl 2 rfl) ?_
      replace hf := bn2_s hf; obtain ⟨v8, m7, hkm7, hf⟩ := hf
      refine z_cV (As := [.int a1, .int a2]) (rest := []) (st1 := [.int v8]) C Z mw_X12_has mv_X12_has k_1414 (by decide) (z_hR hR (by decide)) (lvM0 Nat.zero_lt_one) kM0 zc12 (c_X12_has (l := l) (K := K) (ad := ad) hkm7) rfl hl.1 rfl (Nat.le_of_ble_eq_true rfl) dX12_down_21 hB rfl (fun H locs Z => ?_)
      refine lv_if_ne (tgt := 30) C.x C.b dX12_down_24 (by decide) (fun hc9 => ?_) (fun hc9 => ?_)
      · replace hf := ite_f hf hc9
        refine lv_iload_n C.x C.b dX12_down_30 rfl (lv_at hl 2 rfl) ?_
        refine lv_iconst (v := 1) C.x C.b dX12_down_31 (by decide) ?_
        refine lv_icmp_ne (tgt := 65) C.x C.b dX12_down_32 (by decide) (fun hc10 => ?_) (fun hc10 => ?_)
        · replace hf := ite_f hf hc10
          exact w_X12_down_b65 C hR hB  Z (lv_sub hl [0, 1, 2] rfl) hf
        · replace hf := ite_t hf hc10
          refine lv_aload_n C.x C.b dX12_down_35 rfl (lv_at hl 0 rfl) ?_
          refine lv_iload_n C.x C.b dX12_down_36 rfl (lv_at hl 1 rfl) ?_
          refine lv_iconst (v := 2) C.x C.b dX12_down_37 (by decide) ?_
          replace hf := bn2_s hf; obtain ⟨v36, m35, hkm35, hf⟩ := hf
          refine z_cV (As := [.int a1, .int 2]) (rest := []) (st1 := [.int v36]) C Z mw_X12_has mv_X12_has k_1414 (by decide) (z_hR hR (by decide)) (lvM0 Nat.zero_lt_one) kM0 zc12 (c_X12_has (l := l) (K := K) (ad := ad) hkm35) rfl hl.1 rfl (Nat.le_of_ble_eq_true rfl) dX12_down_38 hB rfl (fun H locs Z => ?_)
          refine lv_if_ne (tgt := 62) C.x C.b dX12_down_41 (by decide) (fun hc37 => ?_) (fun hc37 => ?_)
          · replace hf := ite_f hf hc37
            refine lv_bipush (v := (-3)) C.x C.b dX12_down_62 (by decide) ?_
            obtain ⟨rfl, rfl⟩ := pr_s hf
            exact z_iret C Z dX12_down_64
          · replace hf := ite_t hf hc37
            refine lv_iload_n C.x C.b dX12_down_44 rfl (lv_at hl 1 rfl) ?_
            refine lv_bipush (v := 6) C.x C.b dX12_down_45 (by decide) ?_
            refine z_irem C dX12_down_47 (by decide) ?_
            refine lv_if_le (tgt := 65) C.x C.b dX12_down_48 (by decide) (fun hc38 => ?_) (fun hc38 => ?_)
            · replace hf := ite_t hf hc38
              exact w_X12_down_b65 C hR hB  Z (lv_sub hl [0, 1, 2] rfl) hf
            · replace hf := ite_f hf hc38
              refine lv_aload_n C.x C.b dX12_down_51 rfl (lv_at hl 0 rfl) ?_
              refine lv_iload_n C.x C.b dX12_down_52 rfl (lv_at hl 1 rfl) ?_
              refine lv_iconst (v := 1) C.x C.b dX12_down_53 (by decide) ?_
              refine lv_isub C.x C.b dX12_down_54 ?_
              refine lv_iconst (v := 2) C.x C.b dX12_down_55 (by decide) ?_
              replace hf := bn2_s hf; obtain ⟨v40, m39, hkm39, hf⟩ := hf
              refine z_cV (As := [.int (a1 - 1), .int 2]) (rest := []) (st1 := [.int v40]) C Z mw_X12_has mv_X12_has k_1414 (by decide) (z_hR hR (by decide)) (lvM0 Nat.zero_lt_one) kM0 zc12 (c_X12_has (l := l) (K := K) (ad := ad) hkm39) rfl hl.1 rfl (Nat.le_of_ble_eq_true rfl) dX12_down_56 hB rfl (fun H locs Z => ?_)
              refine lv_if_eq (tgt := 65) C.x C.b dX12_down_59 (by decide) (fun hc41 => ?_) (fun hc41 => ?_)
              · replace hf := ite_t hf hc41
                exact w_X12_down_b65 C hR hB  Z (lv_sub hl [0, 1, 2] rfl) hf
              · replace hf := ite_f hf hc41
                refine lv_bipush (v := (-3)) C.x C.b dX12_down_62 (by decide) ?_
                obtain ⟨rfl, rfl⟩ := pr_s hf
                exact z_iret C Z dX12_down_64
      · replace hf := ite_t hf hc9
        refine lv_bipush (v := (-3)) C.x C.b dX12_down_27 (by decide) ?_
        obtain ⟨rfl, rfl⟩ := pr_s hf
        exact z_iret C Z dX12_down_29
    · replace hf := ite_t hf hc6
      refine lv_iconst (v := (-1)) C.x C.b dX12_down_16 (by decide) ?_
      obtain ⟨rfl, rfl⟩ := pr_s hf
      exact z_iret C Z dX12_down_17
theorem dX12_mayCut_0 : decode cX12_mayCut 0 = .ok (.aload_n 0, 1) := by decide +kernel
theorem dX12_mayCut_1 : decode cX12_mayCut 1 = .ok (.getfield 98, 3) := by decide +kernel
theorem dX12_mayCut_4 : decode cX12_mayCut 4 = .ok (.iconst 0, 1) := by decide +kernel
theorem dX12_mayCut_5 : decode cX12_mayCut 5 = .ok (.aload_n 0, 1) := by decide +kernel
theorem dX12_mayCut_6 : decode cX12_mayCut 6 = .ok (.getfield 28, 3) := by decide +kernel
theorem dX12_mayCut_9 : decode cX12_mayCut 9 = .ok (.iload_n 1, 1) := by decide +kernel
theorem dX12_mayCut_10 : decode cX12_mayCut 10 = .ok (.iaload, 1) := by decide +kernel
theorem dX12_mayCut_11 : decode cX12_mayCut 11 = .ok (.iastore, 1) := by decide +kernel
theorem dX12_mayCut_12 : decode cX12_mayCut 12 = .ok (.aload_n 0, 1) := by decide +kernel
theorem dX12_mayCut_13 : decode cX12_mayCut 13 = .ok (.getfield 98, 3) := by decide +kernel
theorem dX12_mayCut_16 : decode cX12_mayCut 16 = .ok (.iconst 1, 1) := by decide +kernel
theorem dX12_mayCut_17 : decode cX12_mayCut 17 = .ok (.aload_n 0, 1) := by decide +kernel
theorem dX12_mayCut_18 : decode cX12_mayCut 18 = .ok (.getfield 24, 3) := by decide +kernel
theorem dX12_mayCut_21 : decode cX12_mayCut 21 = .ok (.iload_n 1, 1) := by decide +kernel
theorem dX12_mayCut_22 : decode cX12_mayCut 22 = .ok (.iaload, 1) := by decide +kernel
theorem dX12_mayCut_23 : decode cX12_mayCut 23 = .ok (.iastore, 1) := by decide +kernel
theorem dX12_mayCut_24 : decode cX12_mayCut 24 = .ok (.aload_n 0, 1) := by decide +kernel
theorem dX12_mayCut_25 : decode cX12_mayCut 25 = .ok (.getfield 98, 3) := by decide +kernel
theorem dX12_mayCut_28 : decode cX12_mayCut 28 = .ok (.iconst 2, 1) := by decide +kernel
theorem dX12_mayCut_29 : decode cX12_mayCut 29 = .ok (.iload_n 1, 1) := by decide +kernel
theorem dX12_mayCut_30 : decode cX12_mayCut 30 = .ok (.bipush 6, 2) := by decide +kernel
theorem dX12_mayCut_32 : decode cX12_mayCut 32 = .ok (.irem, 1) := by decide +kernel
theorem dX12_mayCut_33 : decode cX12_mayCut 33 = .ok (.iastore, 1) := by decide +kernel
theorem dX12_mayCut_34 : decode cX12_mayCut 34 = .ok (.aload_n 0, 1) := by decide +kernel
theorem dX12_mayCut_35 : decode cX12_mayCut 35 = .ok (.getfield 98, 3) := by decide +kernel
theorem dX12_mayCut_38 : decode cX12_mayCut 38 = .ok (.iconst 3, 1) := by decide +kernel
theorem dX12_mayCut_39 : decode cX12_mayCut 39 = .ok (.iload_n 1, 1) := by decide +kernel
theorem dX12_mayCut_40 : decode cX12_mayCut 40 = .ok (.bipush 6, 2) := by decide +kernel
theorem dX12_mayCut_42 : decode cX12_mayCut 42 = .ok (.idiv, 1) := by decide +kernel
theorem dX12_mayCut_43 : decode cX12_mayCut 43 = .ok (.iastore, 1) := by decide +kernel
theorem dX12_mayCut_44 : decode cX12_mayCut 44 = .ok (.aload_n 0, 1) := by decide +kernel
theorem dX12_mayCut_45 : decode cX12_mayCut 45 = .ok (.getfield 98, 3) := by decide +kernel
theorem dX12_mayCut_48 : decode cX12_mayCut 48 = .ok (.iconst 4, 1) := by decide +kernel
theorem dX12_mayCut_49 : decode cX12_mayCut 49 = .ok (.iload_n 2, 1) := by decide +kernel
theorem dX12_mayCut_50 : decode cX12_mayCut 50 = .ok (.bipush 7, 2) := by decide +kernel
theorem dX12_mayCut_52 : decode cX12_mayCut 52 = .ok (.irem, 1) := by decide +kernel
theorem dX12_mayCut_53 : decode cX12_mayCut 53 = .ok (.iastore, 1) := by decide +kernel
theorem dX12_mayCut_54 : decode cX12_mayCut 54 = .ok (.aload_n 0, 1) := by decide +kernel
theorem dX12_mayCut_55 : decode cX12_mayCut 55 = .ok (.getfield 98, 3) := by decide +kernel
theorem dX12_mayCut_58 : decode cX12_mayCut 58 = .ok (.iconst 5, 1) := by decide +kernel
theorem dX12_mayCut_59 : decode cX12_mayCut 59 = .ok (.iconst 0, 1) := by decide +kernel
theorem dX12_mayCut_60 : decode cX12_mayCut 60 = .ok (.iastore, 1) := by decide +kernel
theorem dX12_mayCut_61 : decode cX12_mayCut 61 = .ok (.aload_n 0, 1) := by decide +kernel
theorem dX12_mayCut_62 : decode cX12_mayCut 62 = .ok (.iconst 4, 1) := by decide +kernel
theorem dX12_mayCut_63 : decode cX12_mayCut 63 = .ok (.iload_n 2, 1) := by decide +kernel
theorem dX12_mayCut_64 : decode cX12_mayCut 64 = .ok (.invokevirtual 332, 3) := by decide +kernel
theorem dX12_mayCut_67 : decode cX12_mayCut 67 = .ok (.ifCond .lt 16, 3) := by decide +kernel
theorem dX12_mayCut_70 : decode cX12_mayCut 70 = .ok (.aload_n 0, 1) := by decide +kernel
theorem dX12_mayCut_71 : decode cX12_mayCut 71 = .ok (.getfield 107, 3) := by decide +kernel
theorem dX12_mayCut_74 : decode cX12_mayCut 74 = .ok (.iconst 4, 1) := by decide +kernel
theorem dX12_mayCut_75 : decode cX12_mayCut 75 = .ok (.baload, 1) := by decide +kernel
theorem dX12_mayCut_76 : decode cX12_mayCut 76 = .ok (.ifCond .eq 7, 3) := by decide +kernel
theorem dX12_mayCut_79 : decode cX12_mayCut 79 = .ok (.iconst 1, 1) := by decide +kernel
theorem dX12_mayCut_80 : decode cX12_mayCut 80 = .ok (.goto 4, 3) := by decide +kernel
theorem dX12_mayCut_83 : decode cX12_mayCut 83 = .ok (.iconst 0, 1) := by decide +kernel
theorem dX12_mayCut_84 : decode cX12_mayCut 84 = .ok (.ireturn, 1) := by decide +kernel
set_option maxRecDepth 100000 in
set_option maxHeartbeats 4000000 in
theorem c_X12_mayCut {l : Launch} {K : KG} {ad : Nat → Nat → Nat} {fl : Nat} {a1 : Int32} {a2 : Int32} {M0 : Mem} {r9 : Int32} {M9 : Mem} (hf : f_X12_mayCut fl a1 a2 M0 = some (r9, M9)) : Met l yX12_mayCut (Cond.code yX12_mayCut cX12_mayCut 3 (some .boolean) :: ztb) (RM (9) 0 0) (zPc K LM ad M0 [.ref (ad 0 0), .int a1, .int a2]) (zQ K LM ad (some (.int r9)) M9) 0 0 (zA ad) := by
  refine z_enter (by decide) (Nat.le_of_ble_eq_true rfl) ?_
  intro p e s m args below meth c ls C hin hargs Z hl
  replace C : Cx p s m args meth c cX12_mayCut 3 "GlassPalaceModel" (some .boolean) := C
  replace hl : lv_has ls 3 [(0, .ref (ad 0 0)), (1, .int a1), (2, .int a2)] := hl
  have hR : 9 ≤ (RM (9) 0 0).frames ∧ 40 * (9) ≤ (RM (9) 0 0).locals := ⟨Nat.le_refl _, Nat.le_refl _⟩
  have hB : 0 ≤ (RM (9) 0 0).cells ∧ 0 ≤ (RM (9) 0 0).slots := ⟨Nat.zero_le _, Nat.zero_le _⟩
  unfold f_X12_mayCut at hf
  refine lv_aload_n C.x C.b dX12_mayCut_0 rfl (lv_at hl 0 rfl) ?_
  refine z_get C Z (lvM0 Nat.zero_lt_one) kM0 zc12 zin12 26 (by decide) k_1202 rfl svM0_26 dX12_mayCut_1 ?_
  refine lv_iconst (v := 0) C.x C.b dX12_mayCut_4 (by decide) ?_
  refine lv_aload_n C.x C.b dX12_mayCut_5 rfl (lv_at hl 0 rfl) ?_
  refine z_get C Z (lvM0 Nat.zero_lt_one) kM0 zc12 zin12 3 (by decide) k_1179 rfl svM0_3 dX12_mayCut_6 ?_
  refine lv_iload_n C.x C.b dX12_mayCut_9 rfl (lv_at hl 1 rfl) ?_
  replace hf := asr_s hf; obtain ⟨hq1, hf⟩ := hf
  refine z_iald C Z (lvM2 Nat.zero_lt_one) kM2 hq1 svM2 dX12_mayCut_10 ?_
  replace hf := asr_s hf; obtain ⟨hq2, hf⟩ := hf
  replace hf := lt1_s hf; obtain ⟨m3, em3, hf⟩ := hf
  refine z_iast (M1 := m3) C Z (lvM22 Nat.zero_lt_one) (by decide) kM22 hq2 em3 stM22u dX12_mayCut_11 (fun H locs Z => ?_)
  refine lv_aload_n C.x C.b dX12_mayCut_12 rfl (lv_at hl 0 rfl) ?_
  refine z_get C Z (lvM0 Nat.zero_lt_one) kM0 zc12 zin12 26 (by decide) k_1202 rfl svM0_26 dX12_mayCut_13 ?_
  refine lv_iconst (v := 1) C.x C.b dX12_mayCut_16 (by decide) ?_
  refine lv_aload_n C.x C.b dX12_mayCut_17 rfl (lv_at hl 0 rfl) ?_
  refine z_get C Z (lvM0 Nat.zero_lt_one) kM0 zc12 zin12 2 (by decide) k_1178 rfl svM0_2 dX12_mayCut_18 ?_
  refine lv_iload_n C.x C.b dX12_mayCut_21 rfl (lv_at hl 1 rfl) ?_
  replace hf := asr_s hf; obtain ⟨hq4, hf⟩ := hf
  refine z_iald C Z (lvM1 Nat.zero_lt_one) kM1 hq4 svM1 dX12_mayCut_22 ?_
  replace hf := asr_s hf; obtain ⟨hq5, hf⟩ := hf
  replace hf := lt1_s hf; obtain ⟨m6, em6, hf⟩ := hf
  refine z_iast (M1 := m6) C Z (lvM22 Nat.zero_lt_one) (by decide) kM22 hq5 em6 stM22u dX12_mayCut_23 (fun H locs Z => ?_)
  refine lv_aload_n C.x C.b dX12_mayCut_24 rfl (lv_at hl 0 rfl) ?_
  refine z_get C Z (lvM0 Nat.zero_lt_one) kM0 zc12 zin12 26 (by decide) k_1202 rfl svM0_26 dX12_mayCut_25 ?_
  refine lv_iconst (v := 2) C.x C.b dX12_mayCut_28 (by decide) ?_
  refine lv_iload_n C.x C.b dX12_mayCut_29 rfl (lv_at hl 1 rfl) ?_
  refine lv_bipush (v := 6) C.x C.b dX12_mayCut_30 (by decide) ?_
  refine z_irem C dX12_mayCut_32 (by decide) ?_
  replace hf := asr_s hf; obtain ⟨hq7, hf⟩ := hf
  replace hf := lt1_s hf; obtain ⟨m8, em8, hf⟩ := hf
  refine z_iast (M1 := m8) C Z (lvM22 Nat.zero_lt_one) (by decide) kM22 hq7 em8 stM22u dX12_mayCut_33 (fun H locs Z => ?_)
  refine lv_aload_n C.x C.b dX12_mayCut_34 rfl (lv_at hl 0 rfl) ?_
  refine z_get C Z (lvM0 Nat.zero_lt_one) kM0 zc12 zin12 26 (by decide) k_1202 rfl svM0_26 dX12_mayCut_35 ?_
  refine lv_iconst (v := 3) C.x C.b dX12_mayCut_38 (by decide) ?_
  refine lv_iload_n C.x C.b dX12_mayCut_39 rfl (lv_at hl 1 rfl) ?_
  refine lv_bipush (v := 6) C.x C.b dX12_mayCut_40 (by decide) ?_
  refine lv_idiv C.x C.b dX12_mayCut_42 (by decide) ?_
  replace hf := asr_s hf; obtain ⟨hq9, hf⟩ := hf
  replace hf := lt1_s hf; obtain ⟨m10, em10, hf⟩ := hf
  refine z_iast (M1 := m10) C Z (lvM22 Nat.zero_lt_one) (by decide) kM22 hq9 em10 stM22u dX12_mayCut_43 (fun H locs Z => ?_)
  refine lv_aload_n C.x C.b dX12_mayCut_44 rfl (lv_at hl 0 rfl) ?_
  refine z_get C Z (lvM0 Nat.zero_lt_one) kM0 zc12 zin12 26 (by decide) k_1202 rfl svM0_26 dX12_mayCut_45 ?_
  refine lv_iconst (v := 4) C.x C.b dX12_mayCut_48 (by decide) ?_
  refine lv_iload_n C.x C.b dX12_mayCut_49 rfl (lv_at hl 2 rfl) ?_
  refine lv_bipush (v := 7) C.x C.b dX12_mayCut_50 (by decide) ?_
  refine z_irem C dX12_mayCut_52 (by decide) ?_
  replace hf := asr_s hf; obtain ⟨hq11, hf⟩ := hf
  replace hf := lt1_s hf; obtain ⟨m12, em12, hf⟩ := hf
  refine z_iast (M1 := m12) C Z (lvM22 Nat.zero_lt_one) (by decide) kM22 hq11 em12 stM22u dX12_mayCut_53 (fun H locs Z => ?_)
  refine lv_aload_n C.x C.b dX12_mayCut_54 rfl (lv_at hl 0 rfl) ?_
  refine z_get C Z (lvM0 Nat.zero_lt_one) kM0 zc12 zin12 26 (by decide) k_1202 rfl svM0_26 dX12_mayCut_55 ?_
  refine lv_iconst (v := 5) C.x C.b dX12_mayCut_58 (by decide) ?_
  refine lv_iconst (v := 0) C.x C.b dX12_mayCut_59 (by decide) ?_
  replace hf := asr_s hf; obtain ⟨hq13, hf⟩ := hf
  replace hf := lt1_s hf; obtain ⟨m14, em14, hf⟩ := hf
  refine z_iast (M1 := m14) C Z (lvM22 Nat.zero_lt_one) (by decide) kM22 hq13 em14 stM22u dX12_mayCut_60 (fun H locs Z => ?_)
  refine lv_aload_n C.x C.b dX12_mayCut_61 rfl (lv_at hl 0 rfl) ?_
  refine lv_iconst (v := 4) C.x C.b dX12_mayCut_62 (by decide) ?_
  refine lv_iload_n C.x C.b dX12_mayCut_63 rfl (lv_at hl 2 rfl) ?_
  replace hf := bn2_s hf; obtain ⟨v16, m15, hkm15, hf⟩ := hf
  refine z_cV (As := [.int 4, .int a2]) (rest := []) (st1 := [.int v16]) C Z mw_X12_ruler mv_X12_ruler k_1454 (by decide) (z_hR hR (by decide)) (lvM0 Nat.zero_lt_one) kM0 zc12 (c_X12_ruler (l := l) (K := K) (ad := ad) hkm15) rfl hl.1 rfl (Nat.le_of_ble_eq_true rfl) dX12_mayCut_64 hB rfl (fun H locs Z => ?_)
  refine lv_if_lt (tgt := 83) C.x C.b dX12_mayCut_67 (by decide) (fun hc17 => ?_) (fun hc17 => ?_)
  · replace hf := ite_t hf hc17
    refine lv_iconst (v := 0) C.x C.b dX12_mayCut_83 (by decide) ?_
    obtain ⟨rfl, rfl⟩ := pr_s hf
    exact z_zret C Z rfl dX12_mayCut_84
  · replace hf := ite_f hf hc17
    refine lv_aload_n C.x C.b dX12_mayCut_70 rfl (lv_at hl 0 rfl) ?_
    refine z_get C Z (lvM0 Nat.zero_lt_one) kM0 zc12 zin12 29 (by decide) k_1205 rfl svM0_29 dX12_mayCut_71 ?_
    refine lv_iconst (v := 4) C.x C.b dX12_mayCut_74 (by decide) ?_
    replace hf := asr_s hf; obtain ⟨hq18, hf⟩ := hf
    refine z_zald C Z (lvM25 Nat.zero_lt_one) kM25 hq18 svM25 dX12_mayCut_75 ?_
    refine lv_if_eq (tgt := 83) C.x C.b dX12_mayCut_76 (by decide) (fun hc19 => ?_) (fun hc19 => ?_)
    · replace hf := ite_t hf hc19
      refine lv_iconst (v := 0) C.x C.b dX12_mayCut_83 (by decide) ?_
      obtain ⟨rfl, rfl⟩ := pr_s hf
      exact z_zret C Z rfl dX12_mayCut_84
    · replace hf := ite_f hf hc19
      refine lv_iconst (v := 1) C.x C.b dX12_mayCut_79 (by decide) ?_
      refine lv_goto (tgt := 84) C.x C.b dX12_mayCut_80 (by decide) ?_
      obtain ⟨rfl, rfl⟩ := pr_s hf
      exact z_zret C Z rfl dX12_mayCut_84
theorem dX12_cut_0 : decode cX12_cut 0 = .ok (.aload_n 0, 1) := by decide +kernel
theorem dX12_cut_1 : decode cX12_cut 1 = .ok (.iload_n 1, 1) := by decide +kernel
theorem dX12_cut_2 : decode cX12_cut 2 = .ok (.invokevirtual 241, 3) := by decide +kernel
theorem dX12_cut_5 : decode cX12_cut 5 = .ok (.ifCond .ne 5, 3) := by decide +kernel
theorem dX12_cut_8 : decode cX12_cut 8 = .ok (.iconst (-1), 1) := by decide +kernel
theorem dX12_cut_9 : decode cX12_cut 9 = .ok (.ireturn, 1) := by decide +kernel
theorem dX12_cut_10 : decode cX12_cut 10 = .ok (.aload_n 0, 1) := by decide +kernel
theorem dX12_cut_11 : decode cX12_cut 11 = .ok (.getfield 28, 3) := by decide +kernel
theorem dX12_cut_14 : decode cX12_cut 14 = .ok (.iload_n 1, 1) := by decide +kernel
theorem dX12_cut_15 : decode cX12_cut 15 = .ok (.iaload, 1) := by decide +kernel
theorem dX12_cut_16 : decode cX12_cut 16 = .ok (.ifCond .eq 15, 3) := by decide +kernel
theorem dX12_cut_19 : decode cX12_cut 19 = .ok (.aload_n 0, 1) := by decide +kernel
theorem dX12_cut_20 : decode cX12_cut 20 = .ok (.iload_n 1, 1) := by decide +kernel
theorem dX12_cut_21 : decode cX12_cut 21 = .ok (.aload_n 0, 1) := by decide +kernel
theorem dX12_cut_22 : decode cX12_cut 22 = .ok (.getfield 17, 3) := by decide +kernel
theorem dX12_cut_25 : decode cX12_cut 25 = .ok (.invokevirtual 283, 3) := by decide +kernel
theorem dX12_cut_28 : decode cX12_cut 28 = .ok (.ifCond .ne 6, 3) := by decide +kernel
theorem dX12_cut_31 : decode cX12_cut 31 = .ok (.bipush (-3), 2) := by decide +kernel
theorem dX12_cut_33 : decode cX12_cut 33 = .ok (.ireturn, 1) := by decide +kernel
theorem dX12_cut_34 : decode cX12_cut 34 = .ok (.aload_n 0, 1) := by decide +kernel
theorem dX12_cut_35 : decode cX12_cut 35 = .ok (.getfield 28, 3) := by decide +kernel
theorem dX12_cut_38 : decode cX12_cut 38 = .ok (.iload_n 1, 1) := by decide +kernel
theorem dX12_cut_39 : decode cX12_cut 39 = .ok (.iaload, 1) := by decide +kernel
theorem dX12_cut_40 : decode cX12_cut 40 = .ok (.istore_n 2, 1) := by decide +kernel
theorem dX12_cut_41 : decode cX12_cut 41 = .ok (.aload_n 0, 1) := by decide +kernel
theorem dX12_cut_42 : decode cX12_cut 42 = .ok (.getfield 28, 3) := by decide +kernel
theorem dX12_cut_45 : decode cX12_cut 45 = .ok (.iload_n 1, 1) := by decide +kernel
theorem dX12_cut_46 : decode cX12_cut 46 = .ok (.iconst 0, 1) := by decide +kernel
theorem dX12_cut_47 : decode cX12_cut 47 = .ok (.iastore, 1) := by decide +kernel
theorem dX12_cut_48 : decode cX12_cut 48 = .ok (.iload_n 2, 1) := by decide +kernel
theorem dX12_cut_49 : decode cX12_cut 49 = .ok (.ireturn, 1) := by decide +kernel
set_option maxRecDepth 100000 in
set_option maxHeartbeats 4000000 in
theorem c_X12_cut {l : Launch} {K : KG} {ad : Nat → Nat → Nat} {fl : Nat} {a1 : Int32} {M0 : Mem} {r9 : Int32} {M9 : Mem} (hf : f_X12_cut fl a1 M0 = some (r9, M9)) : Met l yX12_cut (Cond.code yX12_cut cX12_cut 3 (some .int) :: ztb) (RM (10) 0 0) (zPc K LM ad M0 [.ref (ad 0 0), .int a1]) (zQ K LM ad (some (.int r9)) M9) 0 0 (zA ad) := by
  refine z_enter (by decide) (Nat.le_of_ble_eq_true rfl) ?_
  intro p e s m args below meth c ls C hin hargs Z hl
  replace C : Cx p s m args meth c cX12_cut 3 "GlassPalaceModel" (some .int) := C
  replace hl : lv_has ls 3 [(0, .ref (ad 0 0)), (1, .int a1)] := hl
  have hR : 10 ≤ (RM (10) 0 0).frames ∧ 40 * (10) ≤ (RM (10) 0 0).locals := ⟨Nat.le_refl _, Nat.le_refl _⟩
  have hB : 0 ≤ (RM (10) 0 0).cells ∧ 0 ≤ (RM (10) 0 0).slots := ⟨Nat.zero_le _, Nat.zero_le _⟩
  unfold f_X12_cut at hf
  refine lv_aload_n C.x C.b dX12_cut_0 rfl (lv_at hl 0 rfl) ?_
  refine lv_iload_n C.x C.b dX12_cut_1 rfl (lv_at hl 1 rfl) ?_
  replace hf := bn2_s hf; obtain ⟨v2, m1, hkm1, hf⟩ := hf
  refine z_cV (As := [.int a1]) (rest := []) (st1 := [.int v2]) C Z mw_X12_isBay mv_X12_isBay k_1406 (by decide) (z_hR hR (by decide)) (lvM0 Nat.zero_lt_one) kM0 zc12 (c_X12_isBay (l := l) (K := K) (ad := ad) hkm1) rfl hl.1 rfl (Nat.le_of_ble_eq_true rfl) dX12_cut_2 hB rfl (fun H locs Z => ?_)
  refine lv_if_ne (tgt := 10) C.x C.b dX12_cut_5 (by decide) (fun hc3 => ?_) (fun hc3 => ?_)
  · replace hf := ite_f hf hc3
    refine lv_aload_n C.x C.b dX12_cut_10 rfl (lv_at hl 0 rfl) ?_
    refine z_get C Z (lvM0 Nat.zero_lt_one) kM0 zc12 zin12 3 (by decide) k_1179 rfl svM0_3 dX12_cut_11 ?_
    refine lv_iload_n C.x C.b dX12_cut_14 rfl (lv_at hl 1 rfl) ?_
    replace hf := asr_s hf; obtain ⟨hq4, hf⟩ := hf
    refine z_iald C Z (lvM2 Nat.zero_lt_one) kM2 hq4 svM2 dX12_cut_15 ?_
    refine lv_if_eq (tgt := 31) C.x C.b dX12_cut_16 (by decide) (fun hc5 => ?_) (fun hc5 => ?_)
    · replace hf := ite_t hf hc5
      refine lv_bipush (v := (-3)) C.x C.b dX12_cut_31 (by decide) ?_
      obtain ⟨rfl, rfl⟩ := pr_s hf
      exact z_iret C Z dX12_cut_33
    · replace hf := ite_f hf hc5
      refine lv_aload_n C.x C.b dX12_cut_19 rfl (lv_at hl 0 rfl) ?_
      refine lv_iload_n C.x C.b dX12_cut_20 rfl (lv_at hl 1 rfl) ?_
      refine lv_aload_n C.x C.b dX12_cut_21 rfl (lv_at hl 0 rfl) ?_
      refine z_get C Z (lvM0 Nat.zero_lt_one) kM0 zc12 zin12 0 (by decide) k_1176 rfl svM0_0 dX12_cut_22 ?_
      replace hf := bn2_s hf; obtain ⟨v7, m6, hkm6, hf⟩ := hf
      refine z_cV (As := [.int a1, .int (gI m1 0 0 0)]) (rest := []) (st1 := [.int v7]) C Z mw_X12_mayCut mv_X12_mayCut k_1565 (by decide) (z_hR hR (by decide)) (lvM0 Nat.zero_lt_one) kM0 zc12 (c_X12_mayCut (l := l) (K := K) (ad := ad) hkm6) rfl hl.1 rfl (Nat.le_of_ble_eq_true rfl) dX12_cut_25 hB rfl (fun H locs Z => ?_)
      refine lv_if_ne (tgt := 34) C.x C.b dX12_cut_28 (by decide) (fun hc8 => ?_) (fun hc8 => ?_)
      · replace hf := ite_f hf hc8
        refine lv_aload_n C.x C.b dX12_cut_34 rfl (lv_at hl 0 rfl) ?_
        refine z_get C Z (lvM0 Nat.zero_lt_one) kM0 zc12 zin12 3 (by decide) k_1179 rfl svM0_3 dX12_cut_35 ?_
        refine lv_iload_n C.x C.b dX12_cut_38 rfl (lv_at hl 1 rfl) ?_
        replace hf := asr_s hf; obtain ⟨hq9, hf⟩ := hf
        refine z_iald C Z (lvM2 Nat.zero_lt_one) kM2 hq9 svM2 dX12_cut_39 ?_
        replace hf := lt1_s hf; obtain ⟨x10, ex10, hf⟩ := hf
        refine z_renI ex10 ?_
        refine z_istore_n (lv' := [(2, .int x10), (0, .ref (ad 0 0)), (1, .int a1)]) C dX12_cut_40 rfl hl (by decide) rfl (onlast 1 rfl rfl rfl) (fun ls hl => ?_)
        refine lv_aload_n C.x C.b dX12_cut_41 rfl (lv_at hl 1 rfl) ?_
        refine z_get C Z (lvM0 Nat.zero_lt_one) kM0 zc12 zin12 3 (by decide) k_1179 rfl svM0_3 dX12_cut_42 ?_
        refine lv_iload_n C.x C.b dX12_cut_45 rfl (lv_at hl 2 rfl) ?_
        refine lv_iconst (v := 0) C.x C.b dX12_cut_46 (by decide) ?_
        replace hf := asr_s hf; obtain ⟨hq11, hf⟩ := hf
        replace hf := lt1_s hf; obtain ⟨m12, em12, hf⟩ := hf
        refine z_iast (M1 := m12) C Z (lvM2 Nat.zero_lt_one) (by decide) kM2 hq11 em12 stM2u dX12_cut_47 (fun H locs Z => ?_)
        refine lv_iload_n C.x C.b dX12_cut_48 rfl (lv_at hl 0 rfl) ?_
        obtain ⟨rfl, rfl⟩ := pr_s hf
        exact z_iret C Z dX12_cut_49
      · replace hf := ite_t hf hc8
        refine lv_bipush (v := (-3)) C.x C.b dX12_cut_31 (by decide) ?_
        obtain ⟨rfl, rfl⟩ := pr_s hf
        exact z_iret C Z dX12_cut_33
  · replace hf := ite_t hf hc3
    refine lv_iconst (v := (-1)) C.x C.b dX12_cut_8 (by decide) ?_
    obtain ⟨rfl, rfl⟩ := pr_s hf
    exact z_iret C Z dX12_cut_9
theorem dX12_feed_0 : decode cX12_feed 0 = .ok (.aload_n 0, 1) := by decide +kernel
theorem dX12_feed_1 : decode cX12_feed 1 = .ok (.iload_n 2, 1) := by decide +kernel
theorem dX12_feed_2 : decode cX12_feed 2 = .ok (.iconst 0, 1) := by decide +kernel
theorem dX12_feed_3 : decode cX12_feed 3 = .ok (.iconst 4, 1) := by decide +kernel
theorem dX12_feed_4 : decode cX12_feed 4 = .ok (.invokevirtual 3, 3) := by decide +kernel
theorem dX12_feed_7 : decode cX12_feed 7 = .ok (.ifCond .ne 6, 3) := by decide +kernel
theorem dX12_feed_10 : decode cX12_feed 10 = .ok (.bipush (-2), 2) := by decide +kernel
theorem dX12_feed_12 : decode cX12_feed 12 = .ok (.ireturn, 1) := by decide +kernel
theorem dX12_feed_13 : decode cX12_feed 13 = .ok (.aload_n 0, 1) := by decide +kernel
theorem dX12_feed_14 : decode cX12_feed 14 = .ok (.getfield 86, 3) := by decide +kernel
theorem dX12_feed_17 : decode cX12_feed 17 = .ok (.iload_n 2, 1) := by decide +kernel
theorem dX12_feed_18 : decode cX12_feed 18 = .ok (.iadd, 1) := by decide +kernel
theorem dX12_feed_19 : decode cX12_feed 19 = .ok (.bipush 100, 2) := by decide +kernel
theorem dX12_feed_21 : decode cX12_feed 21 = .ok (.if_icmp .le 6, 3) := by decide +kernel
theorem dX12_feed_24 : decode cX12_feed 24 = .ok (.bipush (-4), 2) := by decide +kernel
theorem dX12_feed_26 : decode cX12_feed 26 = .ok (.ireturn, 1) := by decide +kernel
theorem dX12_feed_27 : decode cX12_feed 27 = .ok (.iload_n 2, 1) := by decide +kernel
theorem dX12_feed_28 : decode cX12_feed 28 = .ok (.iconst 1, 1) := by decide +kernel
theorem dX12_feed_29 : decode cX12_feed 29 = .ok (.isub, 1) := by decide +kernel
theorem dX12_feed_30 : decode cX12_feed 30 = .ok (.istore_n 3, 1) := by decide +kernel
theorem dX12_feed_31 : decode cX12_feed 31 = .ok (.iload_n 3, 1) := by decide +kernel
theorem dX12_feed_32 : decode cX12_feed 32 = .ok (.ifCond .lt 39, 3) := by decide +kernel
theorem dX12_feed_35 : decode cX12_feed 35 = .ok (.aload_n 0, 1) := by decide +kernel
theorem dX12_feed_36 : decode cX12_feed 36 = .ok (.getfield 92, 3) := by decide +kernel
theorem dX12_feed_39 : decode cX12_feed 39 = .ok (.sipush 1000, 3) := by decide +kernel
theorem dX12_feed_42 : decode cX12_feed 42 = .ok (.aload_n 0, 1) := by decide +kernel
theorem dX12_feed_43 : decode cX12_feed 43 = .ok (.getfield 86, 3) := by decide +kernel
theorem dX12_feed_46 : decode cX12_feed 46 = .ok (.iadd, 1) := by decide +kernel
theorem dX12_feed_47 : decode cX12_feed 47 = .ok (.iload_n 1, 1) := by decide +kernel
theorem dX12_feed_48 : decode cX12_feed 48 = .ok (.bipush 8, 2) := by decide +kernel
theorem dX12_feed_50 : decode cX12_feed 50 = .ok (.iload_n 3, 1) := by decide +kernel
theorem dX12_feed_51 : decode cX12_feed 51 = .ok (.imul, 1) := by decide +kernel
theorem dX12_feed_52 : decode cX12_feed 52 = .ok (.ishr, 1) := by decide +kernel
theorem dX12_feed_53 : decode cX12_feed 53 = .ok (.i2b, 1) := by decide +kernel
theorem dX12_feed_54 : decode cX12_feed 54 = .ok (.iastore, 1) := by decide +kernel
theorem dX12_feed_55 : decode cX12_feed 55 = .ok (.aload_n 0, 1) := by decide +kernel
theorem dX12_feed_56 : decode cX12_feed 56 = .ok (.dup, 1) := by decide +kernel
theorem dX12_feed_57 : decode cX12_feed 57 = .ok (.getfield 86, 3) := by decide +kernel
theorem dX12_feed_60 : decode cX12_feed 60 = .ok (.iconst 1, 1) := by decide +kernel
theorem dX12_feed_61 : decode cX12_feed 61 = .ok (.iadd, 1) := by decide +kernel
theorem dX12_feed_62 : decode cX12_feed 62 = .ok (.putfield 86, 3) := by decide +kernel
theorem dX12_feed_65 : decode cX12_feed 65 = .ok (.iinc 3 (-1), 3) := by decide +kernel
theorem dX12_feed_68 : decode cX12_feed 68 = .ok (.goto (-37), 3) := by decide +kernel
theorem dX12_feed_71 : decode cX12_feed 71 = .ok (.aload_n 0, 1) := by decide +kernel
theorem dX12_feed_72 : decode cX12_feed 72 = .ok (.getfield 86, 3) := by decide +kernel
theorem dX12_feed_75 : decode cX12_feed 75 = .ok (.ireturn, 1) := by decide +kernel
set_option maxRecDepth 100000 in
set_option maxHeartbeats 4000000 in
theorem w_X12_feed_l31 {p : Program} {l : Launch} {e : Env} {R : Room} {s : State} {m : MethodId} {args : Array Value} {below : List Frame} {meth : Method} {c : Code} {cells slots : Nat} {Q : State → Prop} {K : KG} {ad : Nat → Nat → Nat} {fl : Nat} {g1 : Int32} (C : Cx p s m args meth c cX12_feed 4 "GlassPalaceModel" (some .int)) (hR : 2 ≤ R.frames ∧ 40 * (2) ≤ R.locals) (hB : cells ≤ R.cells ∧ slots ≤ R.slots) : ∀ (n : Nat) (u3 : Int32) (M0 : Mem) (H : Heap) (locs : List Loc) (ls : Array Slot), Zd K LM ad M0 s H locs → lv_has ls 4 [(0, .ref (ad 0 0)), (1, .int g1), (3, .int u3)] → ∀ (Mq : Mem), f_X12_feed_l31 fl g1 n u3 M0 = some Mq → (∀ (H : Heap) (locs : List Loc) (ls : Array Slot), Zd K LM ad Mq s H locs → lv_has ls 4 [(0, .ref (ad 0 0))] → W p l e R s m args below meth c H locs cells slots Q (F0 m 71 ls [])) → W p l e R s m args below meth c H locs cells slots Q (F0 m 31 ls []) := by
  intro n
  induction n with
  | zero =>
    intro u3 M0 H locs ls Z hl Mq hf
    have hf : (none : Option (Mem)) = some Mq := hf
    cases hf
  | succ n ih =>
    intro u3 M0 H locs ls Z hl Mq hf kx0
    replace hf : f_X12_feed_l31_b (f_X12_feed_l31 fl g1 n) fl g1 u3 M0 = some Mq := hf
    unfold f_X12_feed_l31_b at hf
    refine lv_iload_n C.x C.b dX12_feed_31 rfl (lv_at hl 2 rfl) ?_
    refine lv_if_lt (tgt := 71) C.x C.b dX12_feed_32 (by decide) (fun hc6 => ?_) (fun hc6 => ?_)
    · replace hf := ite_t hf hc6
      obtain rfl := sm_s hf
      exact kx0 _ _ _ Z (lv_sub hl [0] rfl)
    · replace hf := ite_f hf hc6
      refine lv_aload_n C.x C.b dX12_feed_35 rfl (lv_at hl 0 rfl) ?_
      refine z_get C Z (lvM0 Nat.zero_lt_one) kM0 zc12 zin12 24 (by decide) k_1200 rfl svM0_24 dX12_feed_36 ?_
      refine lv_sipush (v := 1000) C.x C.b dX12_feed_39 (by decide) ?_
      refine lv_aload_n C.x C.b dX12_feed_42 rfl (lv_at hl 0 rfl) ?_
      refine z_get C Z (lvM0 Nat.zero_lt_one) kM0 zc12 zin12 22 (by decide) k_1198 rfl svM0_22 dX12_feed_43 ?_
      refine lv_iadd C.x C.b dX12_feed_46 ?_
      refine lv_iload_n C.x C.b dX12_feed_47 rfl (lv_at hl 1 rfl) ?_
      refine lv_bipush (v := 8) C.x C.b dX12_feed_48 (by decide) ?_
      refine lv_iload_n C.x C.b dX12_feed_50 rfl (lv_at hl 2 rfl) ?_
      refine lv_imul C.x C.b dX12_feed_51 ?_
      refine z_ishr C dX12_feed_52 ?_
      refine z_i2b C dX12_feed_53 ?_
      replace hf := asr_s hf; obtain ⟨hq7, hf⟩ := hf
      replace hf := lt1_s hf; obtain ⟨m8, em8, hf⟩ := hf
      refine z_iast (M1 := m8) C Z (lvM20 Nat.zero_lt_one) (by decide) kM20 hq7 em8 stM20u dX12_feed_54 (fun H locs Z => ?_)
      refine lv_aload_n C.x C.b dX12_feed_55 rfl (lv_at hl 0 rfl) ?_
      refine lv_dup C.x C.b dX12_feed_56 rfl ?_
      refine z_get C Z (lvM0 Nat.zero_lt_one) kM0 zc12 zin12 22 (by decide) k_1198 rfl svM0_22 dX12_feed_57 ?_
      refine lv_iconst (v := 1) C.x C.b dX12_feed_60 (by decide) ?_
      refine lv_iadd C.x C.b dX12_feed_61 ?_
      replace hf := lt1_s hf; obtain ⟨m9, em9, hf⟩ := hf
      refine z_put (M1 := m9) C Z (lvM0 Nat.zero_lt_one) (by decide) kM0 zc12 zin12 tyX12_ok nmX12 22 (by decide) k_1198 rfl (zUp_I em9 stM0_22u) (Or.inl rfl) rfl rfl dX12_feed_62 (fun H locs Z => ?_)
      replace hf := lt1_s hf; obtain ⟨x10, ex10, hf⟩ := hf
      refine z_iinc (v := x10) (lv' := [(3, .int x10), (0, .ref (ad 0 0)), (1, .int g1)]) C dX12_feed_65 hl (k := 2) rfl (by rw [ex10]; rfl) (by decide) rfl (nolast rfl) (fun ls hl => ?_)
      refine lv_goto (tgt := 31) C.x C.b dX12_feed_68 (by decide) ?_
      exact ih _ _ _ _ _ Z (lv_sub hl [1, 2, 0] rfl) _ hf kx0
set_option maxRecDepth 100000 in
set_option maxHeartbeats 4000000 in
theorem c_X12_feed {l : Launch} {K : KG} {ad : Nat → Nat → Nat} {fl : Nat} {a1 : Int32} {a2 : Int32} {M0 : Mem} {r9 : Int32} {M9 : Mem} (hf : f_X12_feed fl a1 a2 M0 = some (r9, M9)) : Met l yX12_feed (Cond.code yX12_feed cX12_feed 4 (some .int) :: ztb) (RM (2) 0 0) (zPc K LM ad M0 [.ref (ad 0 0), .int a1, .int a2]) (zQ K LM ad (some (.int r9)) M9) 0 0 (zA ad) := by
  refine z_enter (by decide) (Nat.le_of_ble_eq_true rfl) ?_
  intro p e s m args below meth c ls C hin hargs Z hl
  replace C : Cx p s m args meth c cX12_feed 4 "GlassPalaceModel" (some .int) := C
  replace hl : lv_has ls 4 [(0, .ref (ad 0 0)), (1, .int a1), (2, .int a2)] := hl
  have hR : 2 ≤ (RM (2) 0 0).frames ∧ 40 * (2) ≤ (RM (2) 0 0).locals := ⟨Nat.le_refl _, Nat.le_refl _⟩
  have hB : 0 ≤ (RM (2) 0 0).cells ∧ 0 ≤ (RM (2) 0 0).slots := ⟨Nat.zero_le _, Nat.zero_le _⟩
  unfold f_X12_feed at hf
  refine lv_aload_n C.x C.b dX12_feed_0 rfl (lv_at hl 0 rfl) ?_
  refine lv_iload_n C.x C.b dX12_feed_1 rfl (lv_at hl 2 rfl) ?_
  refine lv_iconst (v := 0) C.x C.b dX12_feed_2 (by decide) ?_
  refine lv_iconst (v := 4) C.x C.b dX12_feed_3 (by decide) ?_
  replace hf := bn2_s hf; obtain ⟨v2, m1, hkm1, hf⟩ := hf
  refine z_cV (As := [.int a2, .int 0, .int 4]) (rest := []) (st1 := [.int v2]) C Z mw_X12_in mv_X12_in k_1398 (by decide) (z_hR hR (by decide)) (lvM0 Nat.zero_lt_one) kM0 zc12 (c_X12_in (l := l) (K := K) (ad := ad) hkm1) rfl hl.1 rfl (Nat.le_of_ble_eq_true rfl) dX12_feed_4 hB rfl (fun H locs Z => ?_)
  refine lv_if_ne (tgt := 13) C.x C.b dX12_feed_7 (by decide) (fun hc3 => ?_) (fun hc3 => ?_)
  · replace hf := ite_f hf hc3
    refine lv_aload_n C.x C.b dX12_feed_13 rfl (lv_at hl 0 rfl) ?_
    refine z_get C Z (lvM0 Nat.zero_lt_one) kM0 zc12 zin12 22 (by decide) k_1198 rfl svM0_22 dX12_feed_14 ?_
    refine lv_iload_n C.x C.b dX12_feed_17 rfl (lv_at hl 2 rfl) ?_
    refine lv_iadd C.x C.b dX12_feed_18 ?_
    refine lv_bipush (v := 100) C.x C.b dX12_feed_19 (by decide) ?_
    refine lv_icmp_le (tgt := 27) C.x C.b dX12_feed_21 (by decide) (fun hc4 => ?_) (fun hc4 => ?_)
    · replace hf := ite_t hf hc4
      refine lv_iload_n C.x C.b dX12_feed_27 rfl (lv_at hl 2 rfl) ?_
      refine lv_iconst (v := 1) C.x C.b dX12_feed_28 (by decide) ?_
      refine lv_isub C.x C.b dX12_feed_29 ?_
      replace hf := lt1_s hf; obtain ⟨x5, ex5, hf⟩ := hf
      refine z_renI ex5 ?_
      refine z_istore_n (lv' := [(3, .int x5), (0, .ref (ad 0 0)), (1, .int a1), (2, .int a2)]) C dX12_feed_30 rfl hl (by decide) rfl (onlast 2 rfl rfl rfl) (fun ls hl => ?_)
      replace hf := bn1_s hf; obtain ⟨m12, hq11, hf⟩ := hf
      refine w_X12_feed_l31 C hR hB  fl _ _ _ _ _ Z (lv_sub hl [1, 2, 0] rfl) _ hq11 (fun H locs ls Z hl => ?_)
      refine lv_aload_n C.x C.b dX12_feed_71 rfl (lv_at hl 0 rfl) ?_
      refine z_get C Z (lvM0 Nat.zero_lt_one) kM0 zc12 zin12 22 (by decide) k_1198 rfl svM0_22 dX12_feed_72 ?_
      obtain ⟨rfl, rfl⟩ := pr_s hf
      exact z_iret C Z dX12_feed_75
    · replace hf := ite_f hf hc4
      refine lv_bipush (v := (-4)) C.x C.b dX12_feed_24 (by decide) ?_
      obtain ⟨rfl, rfl⟩ := pr_s hf
      exact z_iret C Z dX12_feed_26
  · replace hf := ite_t hf hc3
    refine lv_bipush (v := (-2)) C.x C.b dX12_feed_10 (by decide) ?_
    obtain ⟨rfl, rfl⟩ := pr_s hf
    exact z_iret C Z dX12_feed_12
theorem dX12_law_0 : decode cX12_law 0 = .ok (.aload_n 0, 1) := by decide +kernel
theorem dX12_law_1 : decode cX12_law 1 = .ok (.iload_n 1, 1) := by decide +kernel
theorem dX12_law_2 : decode cX12_law 2 = .ok (.invokevirtual 326, 3) := by decide +kernel
theorem dX12_law_5 : decode cX12_law 5 = .ok (.ifCond .ne 6, 3) := by decide +kernel
theorem dX12_law_8 : decode cX12_law 8 = .ok (.bipush (-2), 2) := by decide +kernel
theorem dX12_law_10 : decode cX12_law 10 = .ok (.ireturn, 1) := by decide +kernel
theorem dX12_law_11 : decode cX12_law 11 = .ok (.aload_n 0, 1) := by decide +kernel
theorem dX12_law_12 : decode cX12_law 12 = .ok (.getfield 83, 3) := by decide +kernel
theorem dX12_law_15 : decode cX12_law 15 = .ok (.bipush 10, 2) := by decide +kernel
theorem dX12_law_17 : decode cX12_law 17 = .ok (.if_icmp .ne 6, 3) := by decide +kernel
theorem dX12_law_20 : decode cX12_law 20 = .ok (.bipush (-4), 2) := by decide +kernel
theorem dX12_law_22 : decode cX12_law 22 = .ok (.ireturn, 1) := by decide +kernel
theorem dX12_law_23 : decode cX12_law 23 = .ok (.aload_n 0, 1) := by decide +kernel
theorem dX12_law_24 : decode cX12_law 24 = .ok (.getfield 95, 3) := by decide +kernel
theorem dX12_law_27 : decode cX12_law 27 = .ok (.bipush 10, 2) := by decide +kernel
theorem dX12_law_29 : decode cX12_law 29 = .ok (.aload_n 0, 1) := by decide +kernel
theorem dX12_law_30 : decode cX12_law 30 = .ok (.getfield 86, 3) := by decide +kernel
theorem dX12_law_33 : decode cX12_law 33 = .ok (.iastore, 1) := by decide +kernel
theorem dX12_law_34 : decode cX12_law 34 = .ok (.aload_n 0, 1) := by decide +kernel
theorem dX12_law_35 : decode cX12_law 35 = .ok (.iconst 0, 1) := by decide +kernel
theorem dX12_law_36 : decode cX12_law 36 = .ok (.putfield 86, 3) := by decide +kernel
theorem dX12_law_39 : decode cX12_law 39 = .ok (.aload_n 0, 1) := by decide +kernel
theorem dX12_law_40 : decode cX12_law 40 = .ok (.bipush 10, 2) := by decide +kernel
theorem dX12_law_42 : decode cX12_law 42 = .ok (.invokevirtual 329, 3) := by decide +kernel
theorem dX12_law_45 : decode cX12_law 45 = .ok (.ifCond .ne 11, 3) := by decide +kernel
theorem dX12_law_48 : decode cX12_law 48 = .ok (.bipush (-10), 2) := by decide +kernel
theorem dX12_law_50 : decode cX12_law 50 = .ok (.aload_n 0, 1) := by decide +kernel
theorem dX12_law_51 : decode cX12_law 51 = .ok (.getfield 116, 3) := by decide +kernel
theorem dX12_law_54 : decode cX12_law 54 = .ok (.isub, 1) := by decide +kernel
theorem dX12_law_55 : decode cX12_law 55 = .ok (.ireturn, 1) := by decide +kernel
theorem dX12_law_56 : decode cX12_law 56 = .ok (.aload_n 0, 1) := by decide +kernel
theorem dX12_law_57 : decode cX12_law 57 = .ok (.getfield 95, 3) := by decide +kernel
theorem dX12_law_60 : decode cX12_law 60 = .ok (.aload_n 0, 1) := by decide +kernel
theorem dX12_law_61 : decode cX12_law 61 = .ok (.getfield 83, 3) := by decide +kernel
theorem dX12_law_64 : decode cX12_law 64 = .ok (.aload_n 0, 1) := by decide +kernel
theorem dX12_law_65 : decode cX12_law 65 = .ok (.getfield 95, 3) := by decide +kernel
theorem dX12_law_68 : decode cX12_law 68 = .ok (.bipush 10, 2) := by decide +kernel
theorem dX12_law_70 : decode cX12_law 70 = .ok (.iaload, 1) := by decide +kernel
theorem dX12_law_71 : decode cX12_law 71 = .ok (.iastore, 1) := by decide +kernel
theorem dX12_law_72 : decode cX12_law 72 = .ok (.iconst 0, 1) := by decide +kernel
theorem dX12_law_73 : decode cX12_law 73 = .ok (.istore_n 2, 1) := by decide +kernel
theorem dX12_law_74 : decode cX12_law 74 = .ok (.iload_n 2, 1) := by decide +kernel
theorem dX12_law_75 : decode cX12_law 75 = .ok (.aload_n 0, 1) := by decide +kernel
theorem dX12_law_76 : decode cX12_law 76 = .ok (.getfield 95, 3) := by decide +kernel
theorem dX12_law_79 : decode cX12_law 79 = .ok (.bipush 10, 2) := by decide +kernel
theorem dX12_law_81 : decode cX12_law 81 = .ok (.iaload, 1) := by decide +kernel
theorem dX12_law_82 : decode cX12_law 82 = .ok (.if_icmp .ge 33, 3) := by decide +kernel
theorem dX12_law_85 : decode cX12_law 85 = .ok (.aload_n 0, 1) := by decide +kernel
theorem dX12_law_86 : decode cX12_law 86 = .ok (.getfield 92, 3) := by decide +kernel
theorem dX12_law_89 : decode cX12_law 89 = .ok (.bipush 100, 2) := by decide +kernel
theorem dX12_law_91 : decode cX12_law 91 = .ok (.aload_n 0, 1) := by decide +kernel
theorem dX12_law_92 : decode cX12_law 92 = .ok (.getfield 83, 3) := by decide +kernel
theorem dX12_law_95 : decode cX12_law 95 = .ok (.imul, 1) := by decide +kernel
theorem dX12_law_96 : decode cX12_law 96 = .ok (.iload_n 2, 1) := by decide +kernel
theorem dX12_law_97 : decode cX12_law 97 = .ok (.iadd, 1) := by decide +kernel
theorem dX12_law_98 : decode cX12_law 98 = .ok (.aload_n 0, 1) := by decide +kernel
theorem dX12_law_99 : decode cX12_law 99 = .ok (.getfield 92, 3) := by decide +kernel
theorem dX12_law_102 : decode cX12_law 102 = .ok (.sipush 1000, 3) := by decide +kernel
theorem dX12_law_105 : decode cX12_law 105 = .ok (.iload_n 2, 1) := by decide +kernel
theorem dX12_law_106 : decode cX12_law 106 = .ok (.iadd, 1) := by decide +kernel
theorem dX12_law_107 : decode cX12_law 107 = .ok (.iaload, 1) := by decide +kernel
theorem dX12_law_108 : decode cX12_law 108 = .ok (.iastore, 1) := by decide +kernel
theorem dX12_law_109 : decode cX12_law 109 = .ok (.iinc 2 1, 3) := by decide +kernel
theorem dX12_law_112 : decode cX12_law 112 = .ok (.goto (-38), 3) := by decide +kernel
theorem dX12_law_115 : decode cX12_law 115 = .ok (.aload_n 0, 1) := by decide +kernel
theorem dX12_law_116 : decode cX12_law 116 = .ok (.getfield 89, 3) := by decide +kernel
theorem dX12_law_119 : decode cX12_law 119 = .ok (.aload_n 0, 1) := by decide +kernel
theorem dX12_law_120 : decode cX12_law 120 = .ok (.getfield 83, 3) := by decide +kernel
theorem dX12_law_123 : decode cX12_law 123 = .ok (.iload_n 1, 1) := by decide +kernel
theorem dX12_law_124 : decode cX12_law 124 = .ok (.iastore, 1) := by decide +kernel
theorem dX12_law_125 : decode cX12_law 125 = .ok (.aload_n 0, 1) := by decide +kernel
theorem dX12_law_126 : decode cX12_law 126 = .ok (.dup, 1) := by decide +kernel
theorem dX12_law_127 : decode cX12_law 127 = .ok (.getfield 83, 3) := by decide +kernel
theorem dX12_law_130 : decode cX12_law 130 = .ok (.iconst 1, 1) := by decide +kernel
theorem dX12_law_131 : decode cX12_law 131 = .ok (.iadd, 1) := by decide +kernel
theorem dX12_law_132 : decode cX12_law 132 = .ok (.putfield 83, 3) := by decide +kernel
theorem dX12_law_135 : decode cX12_law 135 = .ok (.aload_n 0, 1) := by decide +kernel
theorem dX12_law_136 : decode cX12_law 136 = .ok (.getfield 83, 3) := by decide +kernel
theorem dX12_law_139 : decode cX12_law 139 = .ok (.iconst 1, 1) := by decide +kernel
theorem dX12_law_140 : decode cX12_law 140 = .ok (.isub, 1) := by decide +kernel
theorem dX12_law_141 : decode cX12_law 141 = .ok (.ireturn, 1) := by decide +kernel
set_option maxRecDepth 100000 in
set_option maxHeartbeats 4000000 in
theorem w_X12_law_l74 {p : Program} {l : Launch} {e : Env} {R : Room} {s : State} {m : MethodId} {args : Array Value} {below : List Frame} {meth : Method} {c : Code} {cells slots : Nat} {Q : State → Prop} {K : KG} {ad : Nat → Nat → Nat} {fl : Nat} {g1 : Int32} (C : Cx p s m args meth c cX12_law 3 "GlassPalaceModel" (some .int)) (hR : 8 ≤ R.frames ∧ 40 * (8) ≤ R.locals) (hB : cells ≤ R.cells ∧ slots ≤ R.slots) : ∀ (n : Nat) (u2 : Int32) (M0 : Mem) (H : Heap) (locs : List Loc) (ls : Array Slot), Zd K LM ad M0 s H locs → lv_has ls 3 [(0, .ref (ad 0 0)), (1, .int g1), (2, .int u2)] → ∀ (Mq : Mem), f_X12_law_l74 fl g1 n u2 M0 = some Mq → (∀ (H : Heap) (locs : List Loc) (ls : Array Slot), Zd K LM ad Mq s H locs → lv_has ls 3 [(0, .ref (ad 0 0)), (1, .int g1)] → W p l e R s m args below meth c H locs cells slots Q (F0 m 115 ls [])) → W p l e R s m args below meth c H locs cells slots Q (F0 m 74 ls []) := by
  intro n
  induction n with
  | zero =>
    intro u2 M0 H locs ls Z hl Mq hf
    have hf : (none : Option (Mem)) = some Mq := hf
    cases hf
  | succ n ih =>
    intro u2 M0 H locs ls Z hl Mq hf kx0
    replace hf : f_X12_law_l74_b (f_X12_law_l74 fl g1 n) fl g1 u2 M0 = some Mq := hf
    unfold f_X12_law_l74_b at hf
    refine lv_iload_n C.x C.b dX12_law_74 rfl (lv_at hl 2 rfl) ?_
    refine lv_aload_n C.x C.b dX12_law_75 rfl (lv_at hl 0 rfl) ?_
    refine z_get C Z (lvM0 Nat.zero_lt_one) kM0 zc12 zin12 25 (by decide) k_1201 rfl svM0_25 dX12_law_76 ?_
    refine lv_bipush (v := 10) C.x C.b dX12_law_79 (by decide) ?_
    replace hf := asr_s hf; obtain ⟨hq14, hf⟩ := hf
    refine z_iald C Z (lvM21 Nat.zero_lt_one) kM21 hq14 svM21 dX12_law_81 ?_
    refine lv_icmp_ge (tgt := 115) C.x C.b dX12_law_82 (by decide) (fun hc15 => ?_) (fun hc15 => ?_)
    · replace hf := ite_t hf hc15
      obtain rfl := sm_s hf
      exact kx0 _ _ _ Z (lv_sub hl [0, 1] rfl)
    · replace hf := ite_f hf hc15
      refine lv_aload_n C.x C.b dX12_law_85 rfl (lv_at hl 0 rfl) ?_
      refine z_get C Z (lvM0 Nat.zero_lt_one) kM0 zc12 zin12 24 (by decide) k_1200 rfl svM0_24 dX12_law_86 ?_
      refine lv_bipush (v := 100) C.x C.b dX12_law_89 (by decide) ?_
      refine lv_aload_n C.x C.b dX12_law_91 rfl (lv_at hl 0 rfl) ?_
      refine z_get C Z (lvM0 Nat.zero_lt_one) kM0 zc12 zin12 21 (by decide) k_1197 rfl svM0_21 dX12_law_92 ?_
      refine lv_imul C.x C.b dX12_law_95 ?_
      refine lv_iload_n C.x C.b dX12_law_96 rfl (lv_at hl 2 rfl) ?_
      refine lv_iadd C.x C.b dX12_law_97 ?_
      refine lv_aload_n C.x C.b dX12_law_98 rfl (lv_at hl 0 rfl) ?_
      refine z_get C Z (lvM0 Nat.zero_lt_one) kM0 zc12 zin12 24 (by decide) k_1200 rfl svM0_24 dX12_law_99 ?_
      refine lv_sipush (v := 1000) C.x C.b dX12_law_102 (by decide) ?_
      refine lv_iload_n C.x C.b dX12_law_105 rfl (lv_at hl 2 rfl) ?_
      refine lv_iadd C.x C.b dX12_law_106 ?_
      replace hf := asr_s hf; obtain ⟨hq16, hf⟩ := hf
      refine z_iald C Z (lvM20 Nat.zero_lt_one) kM20 hq16 svM20 dX12_law_107 ?_
      replace hf := asr_s hf; obtain ⟨hq17, hf⟩ := hf
      replace hf := lt1_s hf; obtain ⟨m18, em18, hf⟩ := hf
      refine z_iast (M1 := m18) C Z (lvM20 Nat.zero_lt_one) (by decide) kM20 hq17 em18 stM20u dX12_law_108 (fun H locs Z => ?_)
      replace hf := lt1_s hf; obtain ⟨x19, ex19, hf⟩ := hf
      refine z_iinc (v := x19) (lv' := [(2, .int x19), (0, .ref (ad 0 0)), (1, .int g1)]) C dX12_law_109 hl (k := 2) rfl (by rw [ex19]; rfl) (by decide) rfl (onlast 1 rfl rfl rfl) (fun ls hl => ?_)
      refine lv_goto (tgt := 74) C.x C.b dX12_law_112 (by decide) ?_
      exact ih _ _ _ _ _ Z (lv_sub hl [1, 2, 0] rfl) _ hf kx0
set_option maxRecDepth 100000 in
set_option maxHeartbeats 4000000 in
theorem c_X12_law {l : Launch} {K : KG} {ad : Nat → Nat → Nat} {fl : Nat} {a1 : Int32} {M0 : Mem} {r9 : Int32} {M9 : Mem} (hf : f_X12_law fl a1 M0 = some (r9, M9)) : Met l yX12_law (Cond.code yX12_law cX12_law 3 (some .int) :: ztb) (RM (8) 0 0) (zPc K LM ad M0 [.ref (ad 0 0), .int a1]) (zQ K LM ad (some (.int r9)) M9) 0 0 (zA ad) := by
  refine z_enter (by decide) (Nat.le_of_ble_eq_true rfl) ?_
  intro p e s m args below meth c ls C hin hargs Z hl
  replace C : Cx p s m args meth c cX12_law 3 "GlassPalaceModel" (some .int) := C
  replace hl : lv_has ls 3 [(0, .ref (ad 0 0)), (1, .int a1)] := hl
  have hR : 8 ≤ (RM (8) 0 0).frames ∧ 40 * (8) ≤ (RM (8) 0 0).locals := ⟨Nat.le_refl _, Nat.le_refl _⟩
  have hB : 0 ≤ (RM (8) 0 0).cells ∧ 0 ≤ (RM (8) 0 0).slots := ⟨Nat.zero_le _, Nat.zero_le _⟩
  unfold f_X12_law at hf
  refine lv_aload_n C.x C.b dX12_law_0 rfl (lv_at hl 0 rfl) ?_
  refine lv_iload_n C.x C.b dX12_law_1 rfl (lv_at hl 1 rfl) ?_
  replace hf := bn2_s hf; obtain ⟨v2, m1, hkm1, hf⟩ := hf
  refine z_cV (As := [.int a1]) (rest := []) (st1 := [.int v2]) C Z mw_X12_isDay mv_X12_isDay k_1577 (by decide) (z_hR hR (by decide)) (lvM0 Nat.zero_lt_one) kM0 zc12 (c_X12_isDay (l := l) (K := K) (ad := ad) hkm1) rfl hl.1 rfl (Nat.le_of_ble_eq_true rfl) dX12_law_2 hB rfl (fun H locs Z => ?_)
  refine lv_if_ne (tgt := 11) C.x C.b dX12_law_5 (by decide) (fun hc3 => ?_) (fun hc3 => ?_)
  · replace hf := ite_f hf hc3
    refine lv_aload_n C.x C.b dX12_law_11 rfl (lv_at hl 0 rfl) ?_
    refine z_get C Z (lvM0 Nat.zero_lt_one) kM0 zc12 zin12 21 (by decide) k_1197 rfl svM0_21 dX12_law_12 ?_
    refine lv_bipush (v := 10) C.x C.b dX12_law_15 (by decide) ?_
    refine lv_icmp_ne (tgt := 23) C.x C.b dX12_law_17 (by decide) (fun hc4 => ?_) (fun hc4 => ?_)
    · replace hf := ite_f hf hc4
      refine lv_aload_n C.x C.b dX12_law_23 rfl (lv_at hl 0 rfl) ?_
      refine z_get C Z (lvM0 Nat.zero_lt_one) kM0 zc12 zin12 25 (by decide) k_1201 rfl svM0_25 dX12_law_24 ?_
      refine lv_bipush (v := 10) C.x C.b dX12_law_27 (by decide) ?_
      refine lv_aload_n C.x C.b dX12_law_29 rfl (lv_at hl 0 rfl) ?_
      refine z_get C Z (lvM0 Nat.zero_lt_one) kM0 zc12 zin12 22 (by decide) k_1198 rfl svM0_22 dX12_law_30 ?_
      replace hf := asr_s hf; obtain ⟨hq5, hf⟩ := hf
      replace hf := lt1_s hf; obtain ⟨m6, em6, hf⟩ := hf
      refine z_iast (M1 := m6) C Z (lvM21 Nat.zero_lt_one) (by decide) kM21 hq5 em6 stM21u dX12_law_33 (fun H locs Z => ?_)
      refine lv_aload_n C.x C.b dX12_law_34 rfl (lv_at hl 0 rfl) ?_
      refine lv_iconst (v := 0) C.x C.b dX12_law_35 (by decide) ?_
      replace hf := lt1_s hf; obtain ⟨m7, em7, hf⟩ := hf
      refine z_put (M1 := m7) C Z (lvM0 Nat.zero_lt_one) (by decide) kM0 zc12 zin12 tyX12_ok nmX12 22 (by decide) k_1198 rfl (zUp_I em7 stM0_22u) (Or.inl rfl) rfl rfl dX12_law_36 (fun H locs Z => ?_)
      refine lv_aload_n C.x C.b dX12_law_39 rfl (lv_at hl 0 rfl) ?_
      refine lv_bipush (v := 10) C.x C.b dX12_law_40 (by decide) ?_
      replace hf := bn2_s hf; obtain ⟨v9, m8, hkm8, hf⟩ := hf
      refine z_cV (As := [.int 10]) (rest := []) (st1 := [.int v9]) C Z mw_X12_goes mv_X12_goes k_1458 (by decide) (z_hR hR (by decide)) (lvM0 Nat.zero_lt_one) kM0 zc12 (c_X12_goes (l := l) (K := K) (ad := ad) hkm8) rfl hl.1 rfl (Nat.le_of_ble_eq_true rfl) dX12_law_42 hB rfl (fun H locs Z => ?_)
      refine lv_if_ne (tgt := 56) C.x C.b dX12_law_45 (by decide) (fun hc10 => ?_) (fun hc10 => ?_)
      · replace hf := ite_f hf hc10
        refine lv_aload_n C.x C.b dX12_law_56 rfl (lv_at hl 0 rfl) ?_
        refine z_get C Z (lvM0 Nat.zero_lt_one) kM0 zc12 zin12 25 (by decide) k_1201 rfl svM0_25 dX12_law_57 ?_
        refine lv_aload_n C.x C.b dX12_law_60 rfl (lv_at hl 0 rfl) ?_
        refine z_get C Z (lvM0 Nat.zero_lt_one) kM0 zc12 zin12 21 (by decide) k_1197 rfl svM0_21 dX12_law_61 ?_
        refine lv_aload_n C.x C.b dX12_law_64 rfl (lv_at hl 0 rfl) ?_
        refine z_get C Z (lvM0 Nat.zero_lt_one) kM0 zc12 zin12 25 (by decide) k_1201 rfl svM0_25 dX12_law_65 ?_
        refine lv_bipush (v := 10) C.x C.b dX12_law_68 (by decide) ?_
        replace hf := asr_s hf; obtain ⟨hq11, hf⟩ := hf
        refine z_iald C Z (lvM21 Nat.zero_lt_one) kM21 hq11 svM21 dX12_law_70 ?_
        replace hf := asr_s hf; obtain ⟨hq12, hf⟩ := hf
        replace hf := lt1_s hf; obtain ⟨m13, em13, hf⟩ := hf
        refine z_iast (M1 := m13) C Z (lvM21 Nat.zero_lt_one) (by decide) kM21 hq12 em13 stM21u dX12_law_71 (fun H locs Z => ?_)
        refine lv_iconst (v := 0) C.x C.b dX12_law_72 (by decide) ?_
        refine z_istore_n (lv' := [(2, .int 0), (0, .ref (ad 0 0)), (1, .int a1)]) C dX12_law_73 rfl hl (by decide) rfl (onlast 1 rfl rfl rfl) (fun ls hl => ?_)
        replace hf := bn1_s hf; obtain ⟨m21, hq20, hf⟩ := hf
        refine w_X12_law_l74 C hR hB  fl _ _ _ _ _ Z (lv_sub hl [1, 2, 0] rfl) _ hq20 (fun H locs ls Z hl => ?_)
        refine lv_aload_n C.x C.b dX12_law_115 rfl (lv_at hl 0 rfl) ?_
        refine z_get C Z (lvM0 Nat.zero_lt_one) kM0 zc12 zin12 23 (by decide) k_1199 rfl svM0_23 dX12_law_116 ?_
        refine lv_aload_n C.x C.b dX12_law_119 rfl (lv_at hl 0 rfl) ?_
        refine z_get C Z (lvM0 Nat.zero_lt_one) kM0 zc12 zin12 21 (by decide) k_1197 rfl svM0_21 dX12_law_120 ?_
        refine lv_iload_n C.x C.b dX12_law_123 rfl (lv_at hl 1 rfl) ?_
        replace hf := asr_s hf; obtain ⟨hq22, hf⟩ := hf
        replace hf := lt1_s hf; obtain ⟨m23, em23, hf⟩ := hf
        refine z_iast (M1 := m23) C Z (lvM19 Nat.zero_lt_one) (by decide) kM19 hq22 em23 stM19u dX12_law_124 (fun H locs Z => ?_)
        refine lv_aload_n C.x C.b dX12_law_125 rfl (lv_at hl 0 rfl) ?_
        refine lv_dup C.x C.b dX12_law_126 rfl ?_
        refine z_get C Z (lvM0 Nat.zero_lt_one) kM0 zc12 zin12 21 (by decide) k_1197 rfl svM0_21 dX12_law_127 ?_
        refine lv_iconst (v := 1) C.x C.b dX12_law_130 (by decide) ?_
        refine lv_iadd C.x C.b dX12_law_131 ?_
        replace hf := lt1_s hf; obtain ⟨m24, em24, hf⟩ := hf
        refine z_put (M1 := m24) C Z (lvM0 Nat.zero_lt_one) (by decide) kM0 zc12 zin12 tyX12_ok nmX12 21 (by decide) k_1197 rfl (zUp_I em24 stM0_21u) (Or.inl rfl) rfl rfl dX12_law_132 (fun H locs Z => ?_)
        refine lv_aload_n C.x C.b dX12_law_135 rfl (lv_at hl 0 rfl) ?_
        refine z_get C Z (lvM0 Nat.zero_lt_one) kM0 zc12 zin12 21 (by decide) k_1197 rfl svM0_21 dX12_law_136 ?_
        refine lv_iconst (v := 1) C.x C.b dX12_law_139 (by decide) ?_
        refine lv_isub C.x C.b dX12_law_140 ?_
        obtain ⟨rfl, rfl⟩ := pr_s hf
        exact z_iret C Z dX12_law_141
      · replace hf := ite_t hf hc10
        refine lv_bipush (v := (-10)) C.x C.b dX12_law_48 (by decide) ?_
        refine lv_aload_n C.x C.b dX12_law_50 rfl (lv_at hl 0 rfl) ?_
        refine z_get C Z (lvM0 Nat.zero_lt_one) kM0 zc12 zin12 32 (by decide) k_1208 rfl svM0_32 dX12_law_51 ?_
        refine lv_isub C.x C.b dX12_law_54 ?_
        obtain ⟨rfl, rfl⟩ := pr_s hf
        exact z_iret C Z dX12_law_55
    · replace hf := ite_t hf hc4
      refine lv_bipush (v := (-4)) C.x C.b dX12_law_20 (by decide) ?_
      obtain ⟨rfl, rfl⟩ := pr_s hf
      exact z_iret C Z dX12_law_22
  · replace hf := ite_t hf hc3
    refine lv_bipush (v := (-2)) C.x C.b dX12_law_8 (by decide) ?_
    obtain ⟨rfl, rfl⟩ := pr_s hf
    exact z_iret C Z dX12_law_10
