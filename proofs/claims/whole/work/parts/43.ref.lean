theorem dX12_force_0 : decode cX12_force 0 = .ok (.aload_n 0, 1) := by decide +kernel
theorem dX12_force_1 : decode cX12_force 1 = .ok (.iload_n 1, 1) := by decide +kernel
theorem dX12_force_2 : decode cX12_force 2 = .ok (.iconst 0, 1) := by decide +kernel
theorem dX12_force_3 : decode cX12_force 3 = .ok (.iconst 5, 1) := by decide +kernel
theorem dX12_force_4 : decode cX12_force 4 = .ok (.invokevirtual 3, 3) := by decide +kernel
theorem dX12_force_7 : decode cX12_force 7 = .ok (.ifCond .eq 29, 3) := by decide +kernel
theorem dX12_force_10 : decode cX12_force 10 = .ok (.iload_n 1, 1) := by decide +kernel
theorem dX12_force_11 : decode cX12_force 11 = .ok (.iconst 4, 1) := by decide +kernel
theorem dX12_force_12 : decode cX12_force 12 = .ok (.if_icmp .ne 11, 3) := by decide +kernel
theorem dX12_force_15 : decode cX12_force 15 = .ok (.aload_n 0, 1) := by decide +kernel
theorem dX12_force_16 : decode cX12_force 16 = .ok (.iload_n 3, 1) := by decide +kernel
theorem dX12_force_17 : decode cX12_force 17 = .ok (.invokevirtual 241, 3) := by decide +kernel
theorem dX12_force_20 : decode cX12_force 20 = .ok (.ifCond .eq 16, 3) := by decide +kernel
theorem dX12_force_23 : decode cX12_force 23 = .ok (.iload_n 1, 1) := by decide +kernel
theorem dX12_force_24 : decode cX12_force 24 = .ok (.iconst 5, 1) := by decide +kernel
theorem dX12_force_25 : decode cX12_force 25 = .ok (.if_icmp .ne 13, 3) := by decide +kernel
theorem dX12_force_28 : decode cX12_force 28 = .ok (.aload_n 0, 1) := by decide +kernel
theorem dX12_force_29 : decode cX12_force 29 = .ok (.iload_n 3, 1) := by decide +kernel
theorem dX12_force_30 : decode cX12_force 30 = .ok (.invokevirtual 248, 3) := by decide +kernel
theorem dX12_force_33 : decode cX12_force 33 = .ok (.ifCond .ne 5, 3) := by decide +kernel
theorem dX12_force_36 : decode cX12_force 36 = .ok (.iconst (-1), 1) := by decide +kernel
theorem dX12_force_37 : decode cX12_force 37 = .ok (.ireturn, 1) := by decide +kernel
theorem dX12_force_38 : decode cX12_force 38 = .ok (.aload_n 0, 1) := by decide +kernel
theorem dX12_force_39 : decode cX12_force 39 = .ok (.iload_n 2, 1) := by decide +kernel
theorem dX12_force_40 : decode cX12_force 40 = .ok (.invokevirtual 326, 3) := by decide +kernel
theorem dX12_force_43 : decode cX12_force 43 = .ok (.ifCond .ne 6, 3) := by decide +kernel
theorem dX12_force_46 : decode cX12_force 46 = .ok (.bipush (-2), 2) := by decide +kernel
theorem dX12_force_48 : decode cX12_force 48 = .ok (.ireturn, 1) := by decide +kernel
theorem dX12_force_49 : decode cX12_force 49 = .ok (.iload_n 1, 1) := by decide +kernel
theorem dX12_force_50 : decode cX12_force 50 = .ok (.iconst 4, 1) := by decide +kernel
theorem dX12_force_51 : decode cX12_force 51 = .ok (.if_icmp .ge 12, 3) := by decide +kernel
theorem dX12_force_54 : decode cX12_force 54 = .ok (.aload_n 0, 1) := by decide +kernel
theorem dX12_force_55 : decode cX12_force 55 = .ok (.iload_n 1, 1) := by decide +kernel
theorem dX12_force_56 : decode cX12_force 56 = .ok (.iload_n 2, 1) := by decide +kernel
theorem dX12_force_57 : decode cX12_force 57 = .ok (.invokevirtual 263, 3) := by decide +kernel
theorem dX12_force_60 : decode cX12_force 60 = .ok (.goto 34, 3) := by decide +kernel
theorem dX12_force_63 : decode cX12_force 63 = .ok (.iload_n 1, 1) := by decide +kernel
theorem dX12_force_64 : decode cX12_force 64 = .ok (.iconst 4, 1) := by decide +kernel
theorem dX12_force_65 : decode cX12_force 65 = .ok (.if_icmp .ne 15, 3) := by decide +kernel
theorem dX12_force_68 : decode cX12_force 68 = .ok (.aload_n 0, 1) := by decide +kernel
theorem dX12_force_69 : decode cX12_force 69 = .ok (.iload_n 3, 1) := by decide +kernel
theorem dX12_force_70 : decode cX12_force 70 = .ok (.iload_n 2, 1) := by decide +kernel
theorem dX12_force_71 : decode cX12_force 71 = .ok (.invokevirtual 283, 3) := by decide +kernel
theorem dX12_force_74 : decode cX12_force 74 = .ok (.ifCond .eq 19, 3) := by decide +kernel
theorem dX12_force_77 : decode cX12_force 77 = .ok (.goto 12, 3) := by decide +kernel
theorem dX12_force_80 : decode cX12_force 80 = .ok (.aload_n 0, 1) := by decide +kernel
theorem dX12_force_81 : decode cX12_force 81 = .ok (.iload_n 3, 1) := by decide +kernel
theorem dX12_force_82 : decode cX12_force 82 = .ok (.iload_n 2, 1) := by decide +kernel
theorem dX12_force_83 : decode cX12_force 83 = .ok (.invokevirtual 254, 3) := by decide +kernel
theorem dX12_force_86 : decode cX12_force 86 = .ok (.ifCond .eq 7, 3) := by decide +kernel
theorem dX12_force_89 : decode cX12_force 89 = .ok (.iconst 1, 1) := by decide +kernel
theorem dX12_force_90 : decode cX12_force 90 = .ok (.goto 4, 3) := by decide +kernel
theorem dX12_force_93 : decode cX12_force 93 = .ok (.iconst 0, 1) := by decide +kernel
theorem dX12_force_94 : decode cX12_force 94 = .ok (.ireturn, 1) := by decide +kernel
set_option maxRecDepth 100000 in
set_option maxHeartbeats 4000000 in
theorem w_X12_force_b38 {p : Program} {l : Launch} {e : Env} {s : State} {m : MethodId} {args : Array Value} {below : List Frame} {meth : Method} {c : Code} {K : KG} {ad : Nat → Nat → Nat} {fl : Nat} {H : Heap} {locs : List Loc} {ls : Array Slot} {g1 : Int32} {g2 : Int32} {g3 : Int32} {M0 : Mem} {r9 : Int32} {M9 : Mem} (C : Cx p s m args meth c cX12_force 4 "GlassPalaceModel" (some .int)) (hR : 10 ≤ (RM (10) 0 0).frames ∧ 40 * (10) ≤ (RM (10) 0 0).locals) (hB : 0 ≤ (RM (10) 0 0).cells ∧ 0 ≤ (RM (10) 0 0).slots) (Z : Zd K LM ad M0 s H locs) (hl : lv_has ls 4 [(0, .ref (ad 0 0)), (1, .int g1), (2, .int g2), (3, .int g3)]) (hf : f_X12_force_b38 fl g1 g2 g3 M0 = some (r9, M9)) : W p l e (RM (10) 0 0) s m args below meth c H locs 0 0 (MQ below (zQ K LM ad (some (.int r9)) M9) args s 0 0 (zA ad)) (F0 m 38 ls []) := by
  unfold f_X12_force_b38 at hf
  refine lv_aload_n C.x C.b dX12_force_38 rfl (lv_at hl 0 rfl) ?_
  refine lv_iload_n C.x C.b dX12_force_39 rfl (lv_at hl 2 rfl) ?_
  replace hf := bn2_s hf; obtain ⟨v7, m6, hkm6, hf⟩ := hf
  refine z_cV (As := [.int g2]) (rest := []) (st1 := [.int v7]) C Z mw_X12_isDay mv_X12_isDay k_1577 (by decide) (z_hR hR (by decide)) (lvM0 Nat.zero_lt_one) kM0 zc12 (c_X12_isDay (l := l) (K := K) (ad := ad) hkm6) rfl hl.1 rfl (Nat.le_of_ble_eq_true rfl) dX12_force_40 hB rfl (fun H locs Z => ?_)
  refine lv_if_ne (tgt := 49) C.x C.b dX12_force_43 (by decide) (fun hc8 => ?_) (fun hc8 => ?_)
  · replace hf := ite_f hf hc8
    refine lv_iload_n C.x C.b dX12_force_49 rfl (lv_at hl 1 rfl) ?_
    refine lv_iconst (v := 4) C.x C.b dX12_force_50 (by decide) ?_
    refine lv_icmp_ge (tgt := 63) C.x C.b dX12_force_51 (by decide) (fun hc9 => ?_) (fun hc9 => ?_)
    · replace hf := ite_t hf hc9
      refine lv_iload_n C.x C.b dX12_force_63 rfl (lv_at hl 1 rfl) ?_
      refine lv_iconst (v := 4) C.x C.b dX12_force_64 (by decide) ?_
      refine lv_icmp_ne (tgt := 80) C.x C.b dX12_force_65 (by decide) (fun hc10 => ?_) (fun hc10 => ?_)
      · replace hf := ite_f hf hc10
        refine lv_aload_n C.x C.b dX12_force_80 rfl (lv_at hl 0 rfl) ?_
        refine lv_iload_n C.x C.b dX12_force_81 rfl (lv_at hl 3 rfl) ?_
        refine lv_iload_n C.x C.b dX12_force_82 rfl (lv_at hl 2 rfl) ?_
        replace hf := bn2_s hf; obtain ⟨v12, m11, hkm11, hf⟩ := hf
        refine z_cV (As := [.int g3, .int g2]) (rest := []) (st1 := [.int v12]) C Z mw_X12_barsFoundry mv_X12_barsFoundry k_1450 (by decide) (z_hR hR (by decide)) (lvM0 Nat.zero_lt_one) kM0 zc12 (c_X12_barsFoundry (l := l) (K := K) (ad := ad) hkm11) rfl hl.1 rfl (Nat.le_of_ble_eq_true rfl) dX12_force_83 hB rfl (fun H locs Z => ?_)
        refine lv_if_eq (tgt := 93) C.x C.b dX12_force_86 (by decide) (fun hc13 => ?_) (fun hc13 => ?_)
        · replace hf := ite_t hf hc13
          refine lv_iconst (v := 0) C.x C.b dX12_force_93 (by decide) ?_
          obtain ⟨rfl, rfl⟩ := pr_s hf
          exact z_iret C Z dX12_force_94
        · replace hf := ite_f hf hc13
          refine lv_iconst (v := 1) C.x C.b dX12_force_89 (by decide) ?_
          refine lv_goto (tgt := 94) C.x C.b dX12_force_90 (by decide) ?_
          obtain ⟨rfl, rfl⟩ := pr_s hf
          exact z_iret C Z dX12_force_94
      · replace hf := ite_t hf hc10
        refine lv_aload_n C.x C.b dX12_force_68 rfl (lv_at hl 0 rfl) ?_
        refine lv_iload_n C.x C.b dX12_force_69 rfl (lv_at hl 3 rfl) ?_
        refine lv_iload_n C.x C.b dX12_force_70 rfl (lv_at hl 2 rfl) ?_
        replace hf := bn2_s hf; obtain ⟨v15, m14, hkm14, hf⟩ := hf
        refine z_cV (As := [.int g3, .int g2]) (rest := []) (st1 := [.int v15]) C Z mw_X12_mayCut mv_X12_mayCut k_1565 (by decide) (z_hR hR (by decide)) (lvM0 Nat.zero_lt_one) kM0 zc12 (c_X12_mayCut (l := l) (K := K) (ad := ad) hkm14) rfl hl.1 rfl (Nat.le_of_ble_eq_true rfl) dX12_force_71 hB rfl (fun H locs Z => ?_)
        refine lv_if_eq (tgt := 93) C.x C.b dX12_force_74 (by decide) (fun hc16 => ?_) (fun hc16 => ?_)
        · replace hf := ite_t hf hc16
          refine lv_iconst (v := 0) C.x C.b dX12_force_93 (by decide) ?_
          obtain ⟨rfl, rfl⟩ := pr_s hf
          exact z_iret C Z dX12_force_94
        · replace hf := ite_f hf hc16
          refine lv_goto (tgt := 89) C.x C.b dX12_force_77 (by decide) ?_
          refine lv_iconst (v := 1) C.x C.b dX12_force_89 (by decide) ?_
          refine lv_goto (tgt := 94) C.x C.b dX12_force_90 (by decide) ?_
          obtain ⟨rfl, rfl⟩ := pr_s hf
          exact z_iret C Z dX12_force_94
    · replace hf := ite_f hf hc9
      refine lv_aload_n C.x C.b dX12_force_54 rfl (lv_at hl 0 rfl) ?_
      refine lv_iload_n C.x C.b dX12_force_55 rfl (lv_at hl 1 rfl) ?_
      refine lv_iload_n C.x C.b dX12_force_56 rfl (lv_at hl 2 rfl) ?_
      replace hf := bn2_s hf; obtain ⟨v18, m17, hkm17, hf⟩ := hf
      refine z_cV (As := [.int g1, .int g2]) (rest := []) (st1 := [.int v18]) C Z mw_X12_number mv_X12_number k_1509 (by decide) (z_hR hR (by decide)) (lvM0 Nat.zero_lt_one) kM0 zc12 (c_X12_number (l := l) (K := K) (ad := ad) hkm17) rfl hl.1 rfl (Nat.le_of_ble_eq_true rfl) dX12_force_57 hB rfl (fun H locs Z => ?_)
      refine lv_goto (tgt := 94) C.x C.b dX12_force_60 (by decide) ?_
      obtain ⟨rfl, rfl⟩ := pr_s hf
      exact z_iret C Z dX12_force_94
  · replace hf := ite_t hf hc8
    refine lv_bipush (v := (-2)) C.x C.b dX12_force_46 (by decide) ?_
    obtain ⟨rfl, rfl⟩ := pr_s hf
    exact z_iret C Z dX12_force_48
set_option maxRecDepth 100000 in
set_option maxHeartbeats 4000000 in
theorem w_X12_force_b23 {p : Program} {l : Launch} {e : Env} {s : State} {m : MethodId} {args : Array Value} {below : List Frame} {meth : Method} {c : Code} {K : KG} {ad : Nat → Nat → Nat} {fl : Nat} {H : Heap} {locs : List Loc} {ls : Array Slot} {g1 : Int32} {g2 : Int32} {g3 : Int32} {M0 : Mem} {r9 : Int32} {M9 : Mem} (C : Cx p s m args meth c cX12_force 4 "GlassPalaceModel" (some .int)) (hR : 10 ≤ (RM (10) 0 0).frames ∧ 40 * (10) ≤ (RM (10) 0 0).locals) (hB : 0 ≤ (RM (10) 0 0).cells ∧ 0 ≤ (RM (10) 0 0).slots) (Z : Zd K LM ad M0 s H locs) (hl : lv_has ls 4 [(0, .ref (ad 0 0)), (1, .int g1), (2, .int g2), (3, .int g3)]) (hf : f_X12_force_b23 fl g1 g2 g3 M0 = some (r9, M9)) : W p l e (RM (10) 0 0) s m args below meth c H locs 0 0 (MQ below (zQ K LM ad (some (.int r9)) M9) args s 0 0 (zA ad)) (F0 m 23 ls []) := by
  unfold f_X12_force_b23 at hf
  refine lv_iload_n C.x C.b dX12_force_23 rfl (lv_at hl 1 rfl) ?_
  refine lv_iconst (v := 5) C.x C.b dX12_force_24 (by decide) ?_
  refine lv_icmp_ne (tgt := 38) C.x C.b dX12_force_25 (by decide) (fun hc5 => ?_) (fun hc5 => ?_)
  · replace hf := ite_f hf hc5
    exact w_X12_force_b38 C hR hB  Z (lv_sub hl [0, 1, 2, 3] rfl) hf
  · replace hf := ite_t hf hc5
    refine lv_aload_n C.x C.b dX12_force_28 rfl (lv_at hl 0 rfl) ?_
    refine lv_iload_n C.x C.b dX12_force_29 rfl (lv_at hl 3 rfl) ?_
    replace hf := bn2_s hf; obtain ⟨v20, m19, hkm19, hf⟩ := hf
    refine z_cV (As := [.int g3]) (rest := []) (st1 := [.int v20]) C Z mw_X12_isFoundry mv_X12_isFoundry k_1422 (by decide) (z_hR hR (by decide)) (lvM0 Nat.zero_lt_one) kM0 zc12 (c_X12_isFoundry (l := l) (K := K) (ad := ad) hkm19) rfl hl.1 rfl (Nat.le_of_ble_eq_true rfl) dX12_force_30 hB rfl (fun H locs Z => ?_)
    refine lv_if_ne (tgt := 38) C.x C.b dX12_force_33 (by decide) (fun hc21 => ?_) (fun hc21 => ?_)
    · replace hf := ite_f hf hc21
      exact w_X12_force_b38 C hR hB  Z (lv_sub hl [0, 1, 2, 3] rfl) hf
    · replace hf := ite_t hf hc21
      refine lv_iconst (v := (-1)) C.x C.b dX12_force_36 (by decide) ?_
      obtain ⟨rfl, rfl⟩ := pr_s hf
      exact z_iret C Z dX12_force_37
set_option maxRecDepth 100000 in
set_option maxHeartbeats 4000000 in
theorem c_X12_force {l : Launch} {K : KG} {ad : Nat → Nat → Nat} {fl : Nat} {a1 : Int32} {a2 : Int32} {a3 : Int32} {M0 : Mem} {r9 : Int32} {M9 : Mem} (hf : f_X12_force fl a1 a2 a3 M0 = some (r9, M9)) : Met l yX12_force (Cond.code yX12_force cX12_force 4 (some .int) :: ztb) (RM (10) 0 0) (zPc K LM ad M0 [.ref (ad 0 0), .int a1, .int a2, .int a3]) (zQ K LM ad (some (.int r9)) M9) 0 0 (zA ad) := by
  refine z_enter (by decide) (Nat.le_of_ble_eq_true rfl) ?_
  intro p e s m args below meth c ls C hin hargs Z hl
  replace C : Cx p s m args meth c cX12_force 4 "GlassPalaceModel" (some .int) := C
  replace hl : lv_has ls 4 [(0, .ref (ad 0 0)), (1, .int a1), (2, .int a2), (3, .int a3)] := hl
  have hR : 10 ≤ (RM (10) 0 0).frames ∧ 40 * (10) ≤ (RM (10) 0 0).locals := ⟨Nat.le_refl _, Nat.le_refl _⟩
  have hB : 0 ≤ (RM (10) 0 0).cells ∧ 0 ≤ (RM (10) 0 0).slots := ⟨Nat.zero_le _, Nat.zero_le _⟩
  unfold f_X12_force at hf
  refine lv_aload_n C.x C.b dX12_force_0 rfl (lv_at hl 0 rfl) ?_
  refine lv_iload_n C.x C.b dX12_force_1 rfl (lv_at hl 1 rfl) ?_
  refine lv_iconst (v := 0) C.x C.b dX12_force_2 (by decide) ?_
  refine lv_iconst (v := 5) C.x C.b dX12_force_3 (by decide) ?_
  replace hf := bn2_s hf; obtain ⟨v2, m1, hkm1, hf⟩ := hf
  refine z_cV (As := [.int a1, .int 0, .int 5]) (rest := []) (st1 := [.int v2]) C Z mw_X12_in mv_X12_in k_1398 (by decide) (z_hR hR (by decide)) (lvM0 Nat.zero_lt_one) kM0 zc12 (c_X12_in (l := l) (K := K) (ad := ad) hkm1) rfl hl.1 rfl (Nat.le_of_ble_eq_true rfl) dX12_force_4 hB rfl (fun H locs Z => ?_)
  refine lv_if_eq (tgt := 36) C.x C.b dX12_force_7 (by decide) (fun hc3 => ?_) (fun hc3 => ?_)
  · replace hf := ite_t hf hc3
    refine lv_iconst (v := (-1)) C.x C.b dX12_force_36 (by decide) ?_
    obtain ⟨rfl, rfl⟩ := pr_s hf
    exact z_iret C Z dX12_force_37
  · replace hf := ite_f hf hc3
    refine lv_iload_n C.x C.b dX12_force_10 rfl (lv_at hl 1 rfl) ?_
    refine lv_iconst (v := 4) C.x C.b dX12_force_11 (by decide) ?_
    refine lv_icmp_ne (tgt := 23) C.x C.b dX12_force_12 (by decide) (fun hc4 => ?_) (fun hc4 => ?_)
    · replace hf := ite_f hf hc4
      exact w_X12_force_b23 C hR hB  Z (lv_sub hl [0, 1, 2, 3] rfl) hf
    · replace hf := ite_t hf hc4
      refine lv_aload_n C.x C.b dX12_force_15 rfl (lv_at hl 0 rfl) ?_
      refine lv_iload_n C.x C.b dX12_force_16 rfl (lv_at hl 3 rfl) ?_
      replace hf := bn2_s hf; obtain ⟨v23, m22, hkm22, hf⟩ := hf
      refine z_cV (As := [.int a3]) (rest := []) (st1 := [.int v23]) C Z mw_X12_isBay mv_X12_isBay k_1406 (by decide) (z_hR hR (by decide)) (lvM0 Nat.zero_lt_one) kM0 zc12 (c_X12_isBay (l := l) (K := K) (ad := ad) hkm22) rfl hl.1 rfl (Nat.le_of_ble_eq_true rfl) dX12_force_17 hB rfl (fun H locs Z => ?_)
      refine lv_if_eq (tgt := 36) C.x C.b dX12_force_20 (by decide) (fun hc24 => ?_) (fun hc24 => ?_)
      · replace hf := ite_t hf hc24
        refine lv_iconst (v := (-1)) C.x C.b dX12_force_36 (by decide) ?_
        obtain ⟨rfl, rfl⟩ := pr_s hf
        exact z_iret C Z dX12_force_37
      · replace hf := ite_f hf hc24
        exact w_X12_force_b23 C hR hB  Z (lv_sub hl [0, 1, 2, 3] rfl) hf
theorem dX12_why_0 : decode cX12_why 0 = .ok (.aload_n 0, 1) := by decide +kernel
theorem dX12_why_1 : decode cX12_why 1 = .ok (.iload_n 1, 1) := by decide +kernel
theorem dX12_why_2 : decode cX12_why 2 = .ok (.iconst 0, 1) := by decide +kernel
theorem dX12_why_3 : decode cX12_why 3 = .ok (.iconst 5, 1) := by decide +kernel
theorem dX12_why_4 : decode cX12_why 4 = .ok (.invokevirtual 3, 3) := by decide +kernel
theorem dX12_why_7 : decode cX12_why 7 = .ok (.ifCond .ne 5, 3) := by decide +kernel
theorem dX12_why_10 : decode cX12_why 10 = .ok (.iconst (-1), 1) := by decide +kernel
theorem dX12_why_11 : decode cX12_why 11 = .ok (.ireturn, 1) := by decide +kernel
theorem dX12_why_12 : decode cX12_why 12 = .ok (.aload_n 0, 1) := by decide +kernel
theorem dX12_why_13 : decode cX12_why 13 = .ok (.iload_n 2, 1) := by decide +kernel
theorem dX12_why_14 : decode cX12_why 14 = .ok (.invokevirtual 326, 3) := by decide +kernel
theorem dX12_why_17 : decode cX12_why 17 = .ok (.ifCond .ne 6, 3) := by decide +kernel
theorem dX12_why_20 : decode cX12_why 20 = .ok (.bipush (-2), 2) := by decide +kernel
theorem dX12_why_22 : decode cX12_why 22 = .ok (.ireturn, 1) := by decide +kernel
theorem dX12_why_23 : decode cX12_why 23 = .ok (.aload_n 0, 1) := by decide +kernel
theorem dX12_why_24 : decode cX12_why 24 = .ok (.iload_n 1, 1) := by decide +kernel
theorem dX12_why_25 : decode cX12_why 25 = .ok (.iload_n 2, 1) := by decide +kernel
theorem dX12_why_26 : decode cX12_why 26 = .ok (.invokevirtual 332, 3) := by decide +kernel
theorem dX12_why_29 : decode cX12_why 29 = .ok (.istore_n 3, 1) := by decide +kernel
theorem dX12_why_30 : decode cX12_why 30 = .ok (.iload_n 3, 1) := by decide +kernel
theorem dX12_why_31 : decode cX12_why 31 = .ok (.ifCond .ge 8, 3) := by decide +kernel
theorem dX12_why_34 : decode cX12_why 34 = .ok (.bipush (-5), 2) := by decide +kernel
theorem dX12_why_36 : decode cX12_why 36 = .ok (.goto 14, 3) := by decide +kernel
theorem dX12_why_39 : decode cX12_why 39 = .ok (.bipush 100, 2) := by decide +kernel
theorem dX12_why_41 : decode cX12_why 41 = .ok (.iload_n 3, 1) := by decide +kernel
theorem dX12_why_42 : decode cX12_why 42 = .ok (.imul, 1) := by decide +kernel
theorem dX12_why_43 : decode cX12_why 43 = .ok (.aload_n 0, 1) := by decide +kernel
theorem dX12_why_44 : decode cX12_why 44 = .ok (.getfield 101, 3) := by decide +kernel
theorem dX12_why_47 : decode cX12_why 47 = .ok (.iload_n 1, 1) := by decide +kernel
theorem dX12_why_48 : decode cX12_why 48 = .ok (.iaload, 1) := by decide +kernel
theorem dX12_why_49 : decode cX12_why 49 = .ok (.iadd, 1) := by decide +kernel
theorem dX12_why_50 : decode cX12_why 50 = .ok (.ireturn, 1) := by decide +kernel
set_option maxRecDepth 100000 in
set_option maxHeartbeats 4000000 in
theorem c_X12_why {l : Launch} {K : KG} {ad : Nat → Nat → Nat} {fl : Nat} {a1 : Int32} {a2 : Int32} {M0 : Mem} {r9 : Int32} {M9 : Mem} (hf : f_X12_why fl a1 a2 M0 = some (r9, M9)) : Met l yX12_why (Cond.code yX12_why cX12_why 4 (some .int) :: ztb) (RM (9) 0 0) (zPc K LM ad M0 [.ref (ad 0 0), .int a1, .int a2]) (zQ K LM ad (some (.int r9)) M9) 0 0 (zA ad) := by
  refine z_enter (by decide) (Nat.le_of_ble_eq_true rfl) ?_
  intro p e s m args below meth c ls C hin hargs Z hl
  replace C : Cx p s m args meth c cX12_why 4 "GlassPalaceModel" (some .int) := C
  replace hl : lv_has ls 4 [(0, .ref (ad 0 0)), (1, .int a1), (2, .int a2)] := hl
  have hR : 9 ≤ (RM (9) 0 0).frames ∧ 40 * (9) ≤ (RM (9) 0 0).locals := ⟨Nat.le_refl _, Nat.le_refl _⟩
  have hB : 0 ≤ (RM (9) 0 0).cells ∧ 0 ≤ (RM (9) 0 0).slots := ⟨Nat.zero_le _, Nat.zero_le _⟩
  unfold f_X12_why at hf
  refine lv_aload_n C.x C.b dX12_why_0 rfl (lv_at hl 0 rfl) ?_
  refine lv_iload_n C.x C.b dX12_why_1 rfl (lv_at hl 1 rfl) ?_
  refine lv_iconst (v := 0) C.x C.b dX12_why_2 (by decide) ?_
  refine lv_iconst (v := 5) C.x C.b dX12_why_3 (by decide) ?_
  replace hf := bn2_s hf; obtain ⟨v2, m1, hkm1, hf⟩ := hf
  refine z_cV (As := [.int a1, .int 0, .int 5]) (rest := []) (st1 := [.int v2]) C Z mw_X12_in mv_X12_in k_1398 (by decide) (z_hR hR (by decide)) (lvM0 Nat.zero_lt_one) kM0 zc12 (c_X12_in (l := l) (K := K) (ad := ad) hkm1) rfl hl.1 rfl (Nat.le_of_ble_eq_true rfl) dX12_why_4 hB rfl (fun H locs Z => ?_)
  refine lv_if_ne (tgt := 12) C.x C.b dX12_why_7 (by decide) (fun hc3 => ?_) (fun hc3 => ?_)
  · replace hf := ite_f hf hc3
    refine lv_aload_n C.x C.b dX12_why_12 rfl (lv_at hl 0 rfl) ?_
    refine lv_iload_n C.x C.b dX12_why_13 rfl (lv_at hl 2 rfl) ?_
    replace hf := bn2_s hf; obtain ⟨v5, m4, hkm4, hf⟩ := hf
    refine z_cV (As := [.int a2]) (rest := []) (st1 := [.int v5]) C Z mw_X12_isDay mv_X12_isDay k_1577 (by decide) (z_hR hR (by decide)) (lvM0 Nat.zero_lt_one) kM0 zc12 (c_X12_isDay (l := l) (K := K) (ad := ad) hkm4) rfl hl.1 rfl (Nat.le_of_ble_eq_true rfl) dX12_why_14 hB rfl (fun H locs Z => ?_)
    refine lv_if_ne (tgt := 23) C.x C.b dX12_why_17 (by decide) (fun hc6 => ?_) (fun hc6 => ?_)
    · replace hf := ite_f hf hc6
      refine lv_aload_n C.x C.b dX12_why_23 rfl (lv_at hl 0 rfl) ?_
      refine lv_iload_n C.x C.b dX12_why_24 rfl (lv_at hl 1 rfl) ?_
      refine lv_iload_n C.x C.b dX12_why_25 rfl (lv_at hl 2 rfl) ?_
      replace hf := bn2_s hf; obtain ⟨v8, m7, hkm7, hf⟩ := hf
      refine z_cV (As := [.int a1, .int a2]) (rest := []) (st1 := [.int v8]) C Z mw_X12_ruler mv_X12_ruler k_1454 (by decide) (z_hR hR (by decide)) (lvM0 Nat.zero_lt_one) kM0 zc12 (c_X12_ruler (l := l) (K := K) (ad := ad) hkm7) rfl hl.1 rfl (Nat.le_of_ble_eq_true rfl) dX12_why_26 hB rfl (fun H locs Z => ?_)
      refine z_istore_n (lv' := [(3, .int v8), (0, .ref (ad 0 0)), (1, .int a1), (2, .int a2)]) C dX12_why_29 rfl hl (by decide) rfl (onlast 2 rfl rfl rfl) (fun ls hl => ?_)
      refine lv_iload_n C.x C.b dX12_why_30 rfl (lv_at hl 0 rfl) ?_
      refine lv_if_ge (tgt := 39) C.x C.b dX12_why_31 (by decide) (fun hc9 => ?_) (fun hc9 => ?_)
      · replace hf := ite_t hf hc9
        refine lv_bipush (v := 100) C.x C.b dX12_why_39 (by decide) ?_
        refine lv_iload_n C.x C.b dX12_why_41 rfl (lv_at hl 0 rfl) ?_
        refine lv_imul C.x C.b dX12_why_42 ?_
        refine lv_aload_n C.x C.b dX12_why_43 rfl (lv_at hl 1 rfl) ?_
        refine z_get C Z (lvM0 Nat.zero_lt_one) kM0 zc12 zin12 27 (by decide) k_1203 rfl svM0_27 dX12_why_44 ?_
        refine lv_iload_n C.x C.b dX12_why_47 rfl (lv_at hl 2 rfl) ?_
        replace hf := asr_s hf; obtain ⟨hq10, hf⟩ := hf
        refine z_iald C Z (lvM23 Nat.zero_lt_one) kM23 hq10 svM23 dX12_why_48 ?_
        refine lv_iadd C.x C.b dX12_why_49 ?_
        obtain ⟨rfl, rfl⟩ := pr_s hf
        exact z_iret C Z dX12_why_50
      · replace hf := ite_f hf hc9
        refine lv_bipush (v := (-5)) C.x C.b dX12_why_34 (by decide) ?_
        refine lv_goto (tgt := 50) C.x C.b dX12_why_36 (by decide) ?_
        obtain ⟨rfl, rfl⟩ := pr_s hf
        exact z_iret C Z dX12_why_50
    · replace hf := ite_t hf hc6
      refine lv_bipush (v := (-2)) C.x C.b dX12_why_20 (by decide) ?_
      obtain ⟨rfl, rfl⟩ := pr_s hf
      exact z_iret C Z dX12_why_22
  · replace hf := ite_t hf hc3
    refine lv_iconst (v := (-1)) C.x C.b dX12_why_10 (by decide) ?_
    obtain ⟨rfl, rfl⟩ := pr_s hf
    exact z_iret C Z dX12_why_11
theorem dX12_people_0 : decode cX12_people 0 = .ok (.aload_n 0, 1) := by decide +kernel
theorem dX12_people_1 : decode cX12_people 1 = .ok (.iload_n 1, 1) := by decide +kernel
theorem dX12_people_2 : decode cX12_people 2 = .ok (.invokevirtual 241, 3) := by decide +kernel
theorem dX12_people_5 : decode cX12_people 5 = .ok (.ifCond .ne 5, 3) := by decide +kernel
theorem dX12_people_8 : decode cX12_people 8 = .ok (.iconst (-1), 1) := by decide +kernel
theorem dX12_people_9 : decode cX12_people 9 = .ok (.ireturn, 1) := by decide +kernel
theorem dX12_people_10 : decode cX12_people 10 = .ok (.aload_n 0, 1) := by decide +kernel
theorem dX12_people_11 : decode cX12_people 11 = .ok (.iload_n 2, 1) := by decide +kernel
theorem dX12_people_12 : decode cX12_people 12 = .ok (.iconst 0, 1) := by decide +kernel
theorem dX12_people_13 : decode cX12_people 13 = .ok (.sipush 200, 3) := by decide +kernel
theorem dX12_people_16 : decode cX12_people 16 = .ok (.invokevirtual 3, 3) := by decide +kernel
theorem dX12_people_19 : decode cX12_people 19 = .ok (.ifCond .ne 6, 3) := by decide +kernel
theorem dX12_people_22 : decode cX12_people 22 = .ok (.bipush (-2), 2) := by decide +kernel
theorem dX12_people_24 : decode cX12_people 24 = .ok (.ireturn, 1) := by decide +kernel
theorem dX12_people_25 : decode cX12_people 25 = .ok (.aload_n 0, 1) := by decide +kernel
theorem dX12_people_26 : decode cX12_people 26 = .ok (.getfield 80, 3) := by decide +kernel
theorem dX12_people_29 : decode cX12_people 29 = .ok (.iload_n 1, 1) := by decide +kernel
theorem dX12_people_30 : decode cX12_people 30 = .ok (.iaload, 1) := by decide +kernel
theorem dX12_people_31 : decode cX12_people 31 = .ok (.istore_n 3, 1) := by decide +kernel
theorem dX12_people_32 : decode cX12_people 32 = .ok (.aload_n 0, 1) := by decide +kernel
theorem dX12_people_33 : decode cX12_people 33 = .ok (.getfield 80, 3) := by decide +kernel
theorem dX12_people_36 : decode cX12_people 36 = .ok (.iload_n 1, 1) := by decide +kernel
theorem dX12_people_37 : decode cX12_people 37 = .ok (.iload_n 2, 1) := by decide +kernel
theorem dX12_people_38 : decode cX12_people 38 = .ok (.iastore, 1) := by decide +kernel
theorem dX12_people_39 : decode cX12_people 39 = .ok (.iload_n 3, 1) := by decide +kernel
theorem dX12_people_40 : decode cX12_people 40 = .ok (.ireturn, 1) := by decide +kernel
set_option maxRecDepth 100000 in
set_option maxHeartbeats 4000000 in
theorem c_X12_people {l : Launch} {K : KG} {ad : Nat → Nat → Nat} {fl : Nat} {a1 : Int32} {a2 : Int32} {M0 : Mem} {r9 : Int32} {M9 : Mem} (hf : f_X12_people fl a1 a2 M0 = some (r9, M9)) : Met l yX12_people (Cond.code yX12_people cX12_people 4 (some .int) :: ztb) (RM (3) 0 0) (zPc K LM ad M0 [.ref (ad 0 0), .int a1, .int a2]) (zQ K LM ad (some (.int r9)) M9) 0 0 (zA ad) := by
  refine z_enter (by decide) (Nat.le_of_ble_eq_true rfl) ?_
  intro p e s m args below meth c ls C hin hargs Z hl
  replace C : Cx p s m args meth c cX12_people 4 "GlassPalaceModel" (some .int) := C
  replace hl : lv_has ls 4 [(0, .ref (ad 0 0)), (1, .int a1), (2, .int a2)] := hl
  have hR : 3 ≤ (RM (3) 0 0).frames ∧ 40 * (3) ≤ (RM (3) 0 0).locals := ⟨Nat.le_refl _, Nat.le_refl _⟩
  have hB : 0 ≤ (RM (3) 0 0).cells ∧ 0 ≤ (RM (3) 0 0).slots := ⟨Nat.zero_le _, Nat.zero_le _⟩
  unfold f_X12_people at hf
  refine lv_aload_n C.x C.b dX12_people_0 rfl (lv_at hl 0 rfl) ?_
  refine lv_iload_n C.x C.b dX12_people_1 rfl (lv_at hl 1 rfl) ?_
  replace hf := bn2_s hf; obtain ⟨v2, m1, hkm1, hf⟩ := hf
  refine z_cV (As := [.int a1]) (rest := []) (st1 := [.int v2]) C Z mw_X12_isBay mv_X12_isBay k_1406 (by decide) (z_hR hR (by decide)) (lvM0 Nat.zero_lt_one) kM0 zc12 (c_X12_isBay (l := l) (K := K) (ad := ad) hkm1) rfl hl.1 rfl (Nat.le_of_ble_eq_true rfl) dX12_people_2 hB rfl (fun H locs Z => ?_)
  refine lv_if_ne (tgt := 10) C.x C.b dX12_people_5 (by decide) (fun hc3 => ?_) (fun hc3 => ?_)
  · replace hf := ite_f hf hc3
    refine lv_aload_n C.x C.b dX12_people_10 rfl (lv_at hl 0 rfl) ?_
    refine lv_iload_n C.x C.b dX12_people_11 rfl (lv_at hl 2 rfl) ?_
    refine lv_iconst (v := 0) C.x C.b dX12_people_12 (by decide) ?_
    refine lv_sipush (v := 200) C.x C.b dX12_people_13 (by decide) ?_
    replace hf := bn2_s hf; obtain ⟨v5, m4, hkm4, hf⟩ := hf
    refine z_cV (As := [.int a2, .int 0, .int 200]) (rest := []) (st1 := [.int v5]) C Z mw_X12_in mv_X12_in k_1398 (by decide) (z_hR hR (by decide)) (lvM0 Nat.zero_lt_one) kM0 zc12 (c_X12_in (l := l) (K := K) (ad := ad) hkm4) rfl hl.1 rfl (Nat.le_of_ble_eq_true rfl) dX12_people_16 hB rfl (fun H locs Z => ?_)
    refine lv_if_ne (tgt := 25) C.x C.b dX12_people_19 (by decide) (fun hc6 => ?_) (fun hc6 => ?_)
    · replace hf := ite_f hf hc6
      refine lv_aload_n C.x C.b dX12_people_25 rfl (lv_at hl 0 rfl) ?_
      refine z_get C Z (lvM0 Nat.zero_lt_one) kM0 zc12 zin12 20 (by decide) k_1196 rfl svM0_20 dX12_people_26 ?_
      refine lv_iload_n C.x C.b dX12_people_29 rfl (lv_at hl 1 rfl) ?_
      replace hf := asr_s hf; obtain ⟨hq7, hf⟩ := hf
      refine z_iald C Z (lvM18 Nat.zero_lt_one) kM18 hq7 svM18 dX12_people_30 ?_
      replace hf := lt1_s hf; obtain ⟨x8, ex8, hf⟩ := hf
      refine z_renI ex8 ?_
      refine z_istore_n (lv' := [(3, .int x8), (0, .ref (ad 0 0)), (1, .int a1), (2, .int a2)]) C dX12_people_31 rfl hl (by decide) rfl (onlast 2 rfl rfl rfl) (fun ls hl => ?_)
      refine lv_aload_n C.x C.b dX12_people_32 rfl (lv_at hl 1 rfl) ?_
      refine z_get C Z (lvM0 Nat.zero_lt_one) kM0 zc12 zin12 20 (by decide) k_1196 rfl svM0_20 dX12_people_33 ?_
      refine lv_iload_n C.x C.b dX12_people_36 rfl (lv_at hl 2 rfl) ?_
      refine lv_iload_n C.x C.b dX12_people_37 rfl (lv_at hl 3 rfl) ?_
      replace hf := asr_s hf; obtain ⟨hq9, hf⟩ := hf
      replace hf := lt1_s hf; obtain ⟨m10, em10, hf⟩ := hf
      refine z_iast (M1 := m10) C Z (lvM18 Nat.zero_lt_one) (by decide) kM18 hq9 em10 stM18u dX12_people_38 (fun H locs Z => ?_)
      refine lv_iload_n C.x C.b dX12_people_39 rfl (lv_at hl 0 rfl) ?_
      obtain ⟨rfl, rfl⟩ := pr_s hf
      exact z_iret C Z dX12_people_40
    · replace hf := ite_t hf hc6
      refine lv_bipush (v := (-2)) C.x C.b dX12_people_22 (by decide) ?_
      obtain ⟨rfl, rfl⟩ := pr_s hf
      exact z_iret C Z dX12_people_24
  · replace hf := ite_t hf hc3
    refine lv_iconst (v := (-1)) C.x C.b dX12_people_8 (by decide) ?_
    obtain ⟨rfl, rfl⟩ := pr_s hf
    exact z_iret C Z dX12_people_9
theorem dX12_loadOf_0 : decode cX12_loadOf 0 = .ok (.aload_n 0, 1) := by decide +kernel
theorem dX12_loadOf_1 : decode cX12_loadOf 1 = .ok (.iload_n 1, 1) := by decide +kernel
theorem dX12_loadOf_2 : decode cX12_loadOf 2 = .ok (.iconst 2, 1) := by decide +kernel
theorem dX12_loadOf_3 : decode cX12_loadOf 3 = .ok (.invokevirtual 237, 3) := by decide +kernel
theorem dX12_loadOf_6 : decode cX12_loadOf 6 = .ok (.ifCond .eq 39, 3) := by decide +kernel
theorem dX12_loadOf_9 : decode cX12_loadOf 9 = .ok (.aload_n 0, 1) := by decide +kernel
theorem dX12_loadOf_10 : decode cX12_loadOf 10 = .ok (.iconst 2, 1) := by decide +kernel
theorem dX12_loadOf_11 : decode cX12_loadOf 11 = .ok (.aload_n 0, 1) := by decide +kernel
theorem dX12_loadOf_12 : decode cX12_loadOf 12 = .ok (.getfield 17, 3) := by decide +kernel
theorem dX12_loadOf_15 : decode cX12_loadOf 15 = .ok (.invokevirtual 263, 3) := by decide +kernel
theorem dX12_loadOf_18 : decode cX12_loadOf 18 = .ok (.aload_n 0, 1) := by decide +kernel
theorem dX12_loadOf_19 : decode cX12_loadOf 19 = .ok (.getfield 80, 3) := by decide +kernel
theorem dX12_loadOf_22 : decode cX12_loadOf 22 = .ok (.iload_n 1, 1) := by decide +kernel
theorem dX12_loadOf_23 : decode cX12_loadOf 23 = .ok (.iaload, 1) := by decide +kernel
theorem dX12_loadOf_24 : decode cX12_loadOf 24 = .ok (.imul, 1) := by decide +kernel
theorem dX12_loadOf_25 : decode cX12_loadOf 25 = .ok (.aload_n 0, 1) := by decide +kernel
theorem dX12_loadOf_26 : decode cX12_loadOf 26 = .ok (.iconst 3, 1) := by decide +kernel
theorem dX12_loadOf_27 : decode cX12_loadOf 27 = .ok (.aload_n 0, 1) := by decide +kernel
theorem dX12_loadOf_28 : decode cX12_loadOf 28 = .ok (.getfield 17, 3) := by decide +kernel
theorem dX12_loadOf_31 : decode cX12_loadOf 31 = .ok (.invokevirtual 263, 3) := by decide +kernel
theorem dX12_loadOf_34 : decode cX12_loadOf 34 = .ok (.aload_n 0, 1) := by decide +kernel
theorem dX12_loadOf_35 : decode cX12_loadOf 35 = .ok (.getfield 71, 3) := by decide +kernel
theorem dX12_loadOf_38 : decode cX12_loadOf 38 = .ok (.iload_n 1, 1) := by decide +kernel
theorem dX12_loadOf_39 : decode cX12_loadOf 39 = .ok (.iaload, 1) := by decide +kernel
theorem dX12_loadOf_40 : decode cX12_loadOf 40 = .ok (.imul, 1) := by decide +kernel
theorem dX12_loadOf_41 : decode cX12_loadOf 41 = .ok (.iadd, 1) := by decide +kernel
theorem dX12_loadOf_42 : decode cX12_loadOf 42 = .ok (.goto 4, 3) := by decide +kernel
theorem dX12_loadOf_45 : decode cX12_loadOf 45 = .ok (.iconst 0, 1) := by decide +kernel
theorem dX12_loadOf_46 : decode cX12_loadOf 46 = .ok (.ireturn, 1) := by decide +kernel
set_option maxRecDepth 100000 in
set_option maxHeartbeats 4000000 in
theorem c_X12_loadOf {l : Launch} {K : KG} {ad : Nat → Nat → Nat} {fl : Nat} {a1 : Int32} {M0 : Mem} {r9 : Int32} {M9 : Mem} (hf : f_X12_loadOf fl a1 M0 = some (r9, M9)) : Met l yX12_loadOf (Cond.code yX12_loadOf cX12_loadOf 2 (some .int) :: ztb) (RM (10) 0 0) (zPc K LM ad M0 [.ref (ad 0 0), .int a1]) (zQ K LM ad (some (.int r9)) M9) 0 0 (zA ad) := by
  refine z_enter (by decide) (Nat.le_of_ble_eq_true rfl) ?_
  intro p e s m args below meth c ls C hin hargs Z hl
  replace C : Cx p s m args meth c cX12_loadOf 2 "GlassPalaceModel" (some .int) := C
  replace hl : lv_has ls 2 [(0, .ref (ad 0 0)), (1, .int a1)] := hl
  have hR : 10 ≤ (RM (10) 0 0).frames ∧ 40 * (10) ≤ (RM (10) 0 0).locals := ⟨Nat.le_refl _, Nat.le_refl _⟩
  have hB : 0 ≤ (RM (10) 0 0).cells ∧ 0 ≤ (RM (10) 0 0).slots := ⟨Nat.zero_le _, Nat.zero_le _⟩
  unfold f_X12_loadOf at hf
  refine lv_aload_n C.x C.b dX12_loadOf_0 rfl (lv_at hl 0 rfl) ?_
  refine lv_iload_n C.x C.b dX12_loadOf_1 rfl (lv_at hl 1 rfl) ?_
  refine lv_iconst (v := 2) C.x C.b dX12_loadOf_2 (by decide) ?_
  replace hf := bn2_s hf; obtain ⟨v2, m1, hkm1, hf⟩ := hf
  refine z_cV (As := [.int a1, .int 2]) (rest := []) (st1 := [.int v2]) C Z mw_X12_has mv_X12_has k_1414 (by decide) (z_hR hR (by decide)) (lvM0 Nat.zero_lt_one) kM0 zc12 (c_X12_has (l := l) (K := K) (ad := ad) hkm1) rfl hl.1 rfl (Nat.le_of_ble_eq_true rfl) dX12_loadOf_3 hB rfl (fun H locs Z => ?_)
  refine lv_if_eq (tgt := 45) C.x C.b dX12_loadOf_6 (by decide) (fun hc3 => ?_) (fun hc3 => ?_)
  · replace hf := ite_t hf hc3
    refine lv_iconst (v := 0) C.x C.b dX12_loadOf_45 (by decide) ?_
    obtain ⟨rfl, rfl⟩ := pr_s hf
    exact z_iret C Z dX12_loadOf_46
  · replace hf := ite_f hf hc3
    refine lv_aload_n C.x C.b dX12_loadOf_9 rfl (lv_at hl 0 rfl) ?_
    refine lv_iconst (v := 2) C.x C.b dX12_loadOf_10 (by decide) ?_
    refine lv_aload_n C.x C.b dX12_loadOf_11 rfl (lv_at hl 0 rfl) ?_
    refine z_get C Z (lvM0 Nat.zero_lt_one) kM0 zc12 zin12 0 (by decide) k_1176 rfl svM0_0 dX12_loadOf_12 ?_
    replace hf := bn2_s hf; obtain ⟨v5, m4, hkm4, hf⟩ := hf
    refine z_cV (As := [.int 2, .int (gI m1 0 0 0)]) (rest := []) (st1 := [.int v5]) C Z mw_X12_number mv_X12_number k_1509 (by decide) (z_hR hR (by decide)) (lvM0 Nat.zero_lt_one) kM0 zc12 (c_X12_number (l := l) (K := K) (ad := ad) hkm4) rfl hl.1 rfl (Nat.le_of_ble_eq_true rfl) dX12_loadOf_15 hB rfl (fun H locs Z => ?_)
    refine lv_aload_n C.x C.b dX12_loadOf_18 rfl (lv_at hl 0 rfl) ?_
    refine z_get C Z (lvM0 Nat.zero_lt_one) kM0 zc12 zin12 20 (by decide) k_1196 rfl svM0_20 dX12_loadOf_19 ?_
    refine lv_iload_n C.x C.b dX12_loadOf_22 rfl (lv_at hl 1 rfl) ?_
    replace hf := asr_s hf; obtain ⟨hq6, hf⟩ := hf
    refine z_iald C Z (lvM18 Nat.zero_lt_one) kM18 hq6 svM18 dX12_loadOf_23 ?_
    refine lv_imul C.x C.b dX12_loadOf_24 ?_
    refine lv_aload_n C.x C.b dX12_loadOf_25 rfl (lv_at hl 0 rfl) ?_
    refine lv_iconst (v := 3) C.x C.b dX12_loadOf_26 (by decide) ?_
    refine lv_aload_n C.x C.b dX12_loadOf_27 rfl (lv_at hl 0 rfl) ?_
    refine z_get C Z (lvM0 Nat.zero_lt_one) kM0 zc12 zin12 0 (by decide) k_1176 rfl svM0_0 dX12_loadOf_28 ?_
    replace hf := bn2_s hf; obtain ⟨v8, m7, hkm7, hf⟩ := hf
    refine z_cV (As := [.int 3, .int (gI m4 0 0 0)]) (rest := [.int (v5 * (gI m4 18 0 (Int32.toNatClampNeg a1)))]) (st1 := [.int v8, .int (v5 * (gI m4 18 0 (Int32.toNatClampNeg a1)))]) C Z mw_X12_number mv_X12_number k_1509 (by decide) (z_hR hR (by decide)) (lvM0 Nat.zero_lt_one) kM0 zc12 (c_X12_number (l := l) (K := K) (ad := ad) hkm7) rfl hl.1 rfl (Nat.le_of_ble_eq_true rfl) dX12_loadOf_31 hB rfl (fun H locs Z => ?_)
    refine lv_aload_n C.x C.b dX12_loadOf_34 rfl (lv_at hl 0 rfl) ?_
    refine z_get C Z (lvM0 Nat.zero_lt_one) kM0 zc12 zin12 17 (by decide) k_1193 rfl svM0_17 dX12_loadOf_35 ?_
    refine lv_iload_n C.x C.b dX12_loadOf_38 rfl (lv_at hl 1 rfl) ?_
    replace hf := asr_s hf; obtain ⟨hq9, hf⟩ := hf
    refine z_iald C Z (lvM15 Nat.zero_lt_one) kM15 hq9 svM15 dX12_loadOf_39 ?_
    refine lv_imul C.x C.b dX12_loadOf_40 ?_
    refine lv_iadd C.x C.b dX12_loadOf_41 ?_
    refine lv_goto (tgt := 46) C.x C.b dX12_loadOf_42 (by decide) ?_
    obtain ⟨rfl, rfl⟩ := pr_s hf
    exact z_iret C Z dX12_loadOf_46
theorem dX12_borne_0 : decode cX12_borne 0 = .ok (.aload_n 0, 1) := by decide +kernel
theorem dX12_borne_1 : decode cX12_borne 1 = .ok (.iload_n 1, 1) := by decide +kernel
theorem dX12_borne_2 : decode cX12_borne 2 = .ok (.invokevirtual 335, 3) := by decide +kernel
theorem dX12_borne_5 : decode cX12_borne 5 = .ok (.iload_n 1, 1) := by decide +kernel
theorem dX12_borne_6 : decode cX12_borne 6 = .ok (.bipush 6, 2) := by decide +kernel
theorem dX12_borne_8 : decode cX12_borne 8 = .ok (.irem, 1) := by decide +kernel
theorem dX12_borne_9 : decode cX12_borne 9 = .ok (.ifCond .le 13, 3) := by decide +kernel
theorem dX12_borne_12 : decode cX12_borne 12 = .ok (.aload_n 0, 1) := by decide +kernel
theorem dX12_borne_13 : decode cX12_borne 13 = .ok (.iload_n 1, 1) := by decide +kernel
theorem dX12_borne_14 : decode cX12_borne 14 = .ok (.iconst 1, 1) := by decide +kernel
theorem dX12_borne_15 : decode cX12_borne 15 = .ok (.isub, 1) := by decide +kernel
theorem dX12_borne_16 : decode cX12_borne 16 = .ok (.invokevirtual 335, 3) := by decide +kernel
theorem dX12_borne_19 : decode cX12_borne 19 = .ok (.goto 4, 3) := by decide +kernel
theorem dX12_borne_22 : decode cX12_borne 22 = .ok (.iconst 0, 1) := by decide +kernel
theorem dX12_borne_23 : decode cX12_borne 23 = .ok (.iadd, 1) := by decide +kernel
theorem dX12_borne_24 : decode cX12_borne 24 = .ok (.ireturn, 1) := by decide +kernel
set_option maxRecDepth 100000 in
set_option maxHeartbeats 4000000 in
theorem c_X12_borne {l : Launch} {K : KG} {ad : Nat → Nat → Nat} {fl : Nat} {a1 : Int32} {M0 : Mem} {r9 : Int32} {M9 : Mem} (hf : f_X12_borne fl a1 M0 = some (r9, M9)) : Met l yX12_borne (Cond.code yX12_borne cX12_borne 2 (some .int) :: ztb) (RM (11) 0 0) (zPc K LM ad M0 [.ref (ad 0 0), .int a1]) (zQ K LM ad (some (.int r9)) M9) 0 0 (zA ad) := by
  refine z_enter (by decide) (Nat.le_of_ble_eq_true rfl) ?_
  intro p e s m args below meth c ls C hin hargs Z hl
  replace C : Cx p s m args meth c cX12_borne 2 "GlassPalaceModel" (some .int) := C
  replace hl : lv_has ls 2 [(0, .ref (ad 0 0)), (1, .int a1)] := hl
  have hR : 11 ≤ (RM (11) 0 0).frames ∧ 40 * (11) ≤ (RM (11) 0 0).locals := ⟨Nat.le_refl _, Nat.le_refl _⟩
  have hB : 0 ≤ (RM (11) 0 0).cells ∧ 0 ≤ (RM (11) 0 0).slots := ⟨Nat.zero_le _, Nat.zero_le _⟩
  unfold f_X12_borne at hf
  refine lv_aload_n C.x C.b dX12_borne_0 rfl (lv_at hl 0 rfl) ?_
  refine lv_iload_n C.x C.b dX12_borne_1 rfl (lv_at hl 1 rfl) ?_
  replace hf := bn2_s hf; obtain ⟨v2, m1, hkm1, hf⟩ := hf
  refine z_cV (As := [.int a1]) (rest := []) (st1 := [.int v2]) C Z mw_X12_loadOf mv_X12_loadOf k_1597 (by decide) (z_hR hR (by decide)) (lvM0 Nat.zero_lt_one) kM0 zc12 (c_X12_loadOf (l := l) (K := K) (ad := ad) hkm1) rfl hl.1 rfl (Nat.le_of_ble_eq_true rfl) dX12_borne_2 hB rfl (fun H locs Z => ?_)
  refine lv_iload_n C.x C.b dX12_borne_5 rfl (lv_at hl 1 rfl) ?_
  refine lv_bipush (v := 6) C.x C.b dX12_borne_6 (by decide) ?_
  refine z_irem C dX12_borne_8 (by decide) ?_
  refine lv_if_le (tgt := 22) C.x C.b dX12_borne_9 (by decide) (fun hc3 => ?_) (fun hc3 => ?_)
  · replace hf := ite_t hf hc3
    refine lv_iconst (v := 0) C.x C.b dX12_borne_22 (by decide) ?_
    refine lv_iadd C.x C.b dX12_borne_23 ?_
    obtain ⟨rfl, rfl⟩ := pr_s hf
    exact z_iret C Z dX12_borne_24
  · replace hf := ite_f hf hc3
    refine lv_aload_n C.x C.b dX12_borne_12 rfl (lv_at hl 0 rfl) ?_
    refine lv_iload_n C.x C.b dX12_borne_13 rfl (lv_at hl 1 rfl) ?_
    refine lv_iconst (v := 1) C.x C.b dX12_borne_14 (by decide) ?_
    refine lv_isub C.x C.b dX12_borne_15 ?_
    replace hf := bn2_s hf; obtain ⟨v5, m4, hkm4, hf⟩ := hf
    refine z_cV (As := [.int (a1 - 1)]) (rest := [.int v2]) (st1 := [.int v5, .int v2]) C Z mw_X12_loadOf mv_X12_loadOf k_1597 (by decide) (z_hR hR (by decide)) (lvM0 Nat.zero_lt_one) kM0 zc12 (c_X12_loadOf (l := l) (K := K) (ad := ad) hkm4) rfl hl.1 rfl (Nat.le_of_ble_eq_true rfl) dX12_borne_16 hB rfl (fun H locs Z => ?_)
    refine lv_goto (tgt := 23) C.x C.b dX12_borne_19 (by decide) ?_
    refine lv_iadd C.x C.b dX12_borne_23 ?_
    obtain ⟨rfl, rfl⟩ := pr_s hf
    exact z_iret C Z dX12_borne_24
theorem dX12_girderHolds_0 : decode cX12_girderHolds 0 = .ok (.aload_n 0, 1) := by decide +kernel
theorem dX12_girderHolds_1 : decode cX12_girderHolds 1 = .ok (.iload_n 1, 1) := by decide +kernel
theorem dX12_girderHolds_2 : decode cX12_girderHolds 2 = .ok (.invokevirtual 335, 3) := by decide +kernel
theorem dX12_girderHolds_5 : decode cX12_girderHolds 5 = .ok (.aload_n 0, 1) := by decide +kernel
theorem dX12_girderHolds_6 : decode cX12_girderHolds 6 = .ok (.getfield 46, 3) := by decide +kernel
theorem dX12_girderHolds_9 : decode cX12_girderHolds 9 = .ok (.aload_n 0, 1) := by decide +kernel
theorem dX12_girderHolds_10 : decode cX12_girderHolds 10 = .ok (.getfield 68, 3) := by decide +kernel
theorem dX12_girderHolds_13 : decode cX12_girderHolds 13 = .ok (.iconst 5, 1) := by decide +kernel
theorem dX12_girderHolds_14 : decode cX12_girderHolds 14 = .ok (.iload_n 1, 1) := by decide +kernel
theorem dX12_girderHolds_15 : decode cX12_girderHolds 15 = .ok (.imul, 1) := by decide +kernel
theorem dX12_girderHolds_16 : decode cX12_girderHolds 16 = .ok (.iconst 1, 1) := by decide +kernel
theorem dX12_girderHolds_17 : decode cX12_girderHolds 17 = .ok (.iadd, 1) := by decide +kernel
theorem dX12_girderHolds_18 : decode cX12_girderHolds 18 = .ok (.iaload, 1) := by decide +kernel
theorem dX12_girderHolds_19 : decode cX12_girderHolds 19 = .ok (.iaload, 1) := by decide +kernel
theorem dX12_girderHolds_20 : decode cX12_girderHolds 20 = .ok (.if_icmp .gt 7, 3) := by decide +kernel
theorem dX12_girderHolds_23 : decode cX12_girderHolds 23 = .ok (.iconst 1, 1) := by decide +kernel
theorem dX12_girderHolds_24 : decode cX12_girderHolds 24 = .ok (.goto 4, 3) := by decide +kernel
theorem dX12_girderHolds_27 : decode cX12_girderHolds 27 = .ok (.iconst 0, 1) := by decide +kernel
theorem dX12_girderHolds_28 : decode cX12_girderHolds 28 = .ok (.ireturn, 1) := by decide +kernel
set_option maxRecDepth 100000 in
set_option maxHeartbeats 4000000 in
theorem c_X12_girderHolds {l : Launch} {K : KG} {ad : Nat → Nat → Nat} {fl : Nat} {a1 : Int32} {M0 : Mem} {r9 : Int32} {M9 : Mem} (hf : f_X12_girderHolds fl a1 M0 = some (r9, M9)) : Met l yX12_girderHolds (Cond.code yX12_girderHolds cX12_girderHolds 2 (some .boolean) :: ztb) (RM (11) 0 0) (zPc K LM ad M0 [.ref (ad 0 0), .int a1]) (zQ K LM ad (some (.int r9)) M9) 0 0 (zA ad) := by
  refine z_enter (by decide) (Nat.le_of_ble_eq_true rfl) ?_
  intro p e s m args below meth c ls C hin hargs Z hl
  replace C : Cx p s m args meth c cX12_girderHolds 2 "GlassPalaceModel" (some .boolean) := C
  replace hl : lv_has ls 2 [(0, .ref (ad 0 0)), (1, .int a1)] := hl
  have hR : 11 ≤ (RM (11) 0 0).frames ∧ 40 * (11) ≤ (RM (11) 0 0).locals := ⟨Nat.le_refl _, Nat.le_refl _⟩
  have hB : 0 ≤ (RM (11) 0 0).cells ∧ 0 ≤ (RM (11) 0 0).slots := ⟨Nat.zero_le _, Nat.zero_le _⟩
  unfold f_X12_girderHolds at hf
  refine lv_aload_n C.x C.b dX12_girderHolds_0 rfl (lv_at hl 0 rfl) ?_
  refine lv_iload_n C.x C.b dX12_girderHolds_1 rfl (lv_at hl 1 rfl) ?_
  replace hf := bn2_s hf; obtain ⟨v2, m1, hkm1, hf⟩ := hf
  refine z_cV (As := [.int a1]) (rest := []) (st1 := [.int v2]) C Z mw_X12_loadOf mv_X12_loadOf k_1597 (by decide) (z_hR hR (by decide)) (lvM0 Nat.zero_lt_one) kM0 zc12 (c_X12_loadOf (l := l) (K := K) (ad := ad) hkm1) rfl hl.1 rfl (Nat.le_of_ble_eq_true rfl) dX12_girderHolds_2 hB rfl (fun H locs Z => ?_)
  refine lv_aload_n C.x C.b dX12_girderHolds_5 rfl (lv_at hl 0 rfl) ?_
  refine z_get C Z (lvM0 Nat.zero_lt_one) kM0 zc12 zin12 9 (by decide) k_1185 rfl svM0_9 dX12_girderHolds_6 ?_
  refine lv_aload_n C.x C.b dX12_girderHolds_9 rfl (lv_at hl 0 rfl) ?_
  refine z_get C Z (lvM0 Nat.zero_lt_one) kM0 zc12 zin12 16 (by decide) k_1192 rfl svM0_16 dX12_girderHolds_10 ?_
  refine lv_iconst (v := 5) C.x C.b dX12_girderHolds_13 (by decide) ?_
  refine lv_iload_n C.x C.b dX12_girderHolds_14 rfl (lv_at hl 1 rfl) ?_
  refine lv_imul C.x C.b dX12_girderHolds_15 ?_
  refine lv_iconst (v := 1) C.x C.b dX12_girderHolds_16 (by decide) ?_
  refine lv_iadd C.x C.b dX12_girderHolds_17 ?_
  replace hf := asr_s hf; obtain ⟨hq3, hf⟩ := hf
  refine z_iald C Z (lvM14 Nat.zero_lt_one) kM14 hq3 svM14 dX12_girderHolds_18 ?_
  replace hf := asr_s hf; obtain ⟨hq4, hf⟩ := hf
  refine z_iald C Z (lvM8 Nat.zero_lt_one) kM8 hq4 svM8 dX12_girderHolds_19 ?_
  refine lv_icmp_gt (tgt := 27) C.x C.b dX12_girderHolds_20 (by decide) (fun hc5 => ?_) (fun hc5 => ?_)
  · replace hf := ite_t hf hc5
    refine lv_iconst (v := 0) C.x C.b dX12_girderHolds_27 (by decide) ?_
    obtain ⟨rfl, rfl⟩ := pr_s hf
    exact z_zret C Z rfl dX12_girderHolds_28
  · replace hf := ite_f hf hc5
    refine lv_iconst (v := 1) C.x C.b dX12_girderHolds_23 (by decide) ?_
    refine lv_goto (tgt := 28) C.x C.b dX12_girderHolds_24 (by decide) ?_
    obtain ⟨rfl, rfl⟩ := pr_s hf
    exact z_zret C Z rfl dX12_girderHolds_28
theorem dX12_columnHolds_0 : decode cX12_columnHolds 0 = .ok (.aload_n 0, 1) := by decide +kernel
theorem dX12_columnHolds_1 : decode cX12_columnHolds 1 = .ok (.iload_n 1, 1) := by decide +kernel
theorem dX12_columnHolds_2 : decode cX12_columnHolds 2 = .ok (.invokevirtual 338, 3) := by decide +kernel
theorem dX12_columnHolds_5 : decode cX12_columnHolds 5 = .ok (.sipush 600, 3) := by decide +kernel
theorem dX12_columnHolds_8 : decode cX12_columnHolds 8 = .ok (.iconst 3, 1) := by decide +kernel
theorem dX12_columnHolds_9 : decode cX12_columnHolds 9 = .ok (.aload_n 0, 1) := by decide +kernel
theorem dX12_columnHolds_10 : decode cX12_columnHolds 10 = .ok (.getfield 46, 3) := by decide +kernel
theorem dX12_columnHolds_13 : decode cX12_columnHolds 13 = .ok (.aload_n 0, 1) := by decide +kernel
theorem dX12_columnHolds_14 : decode cX12_columnHolds 14 = .ok (.getfield 68, 3) := by decide +kernel
theorem dX12_columnHolds_17 : decode cX12_columnHolds 17 = .ok (.iconst 5, 1) := by decide +kernel
theorem dX12_columnHolds_18 : decode cX12_columnHolds 18 = .ok (.iload_n 1, 1) := by decide +kernel
theorem dX12_columnHolds_19 : decode cX12_columnHolds 19 = .ok (.imul, 1) := by decide +kernel
theorem dX12_columnHolds_20 : decode cX12_columnHolds 20 = .ok (.iaload, 1) := by decide +kernel
theorem dX12_columnHolds_21 : decode cX12_columnHolds 21 = .ok (.iaload, 1) := by decide +kernel
theorem dX12_columnHolds_22 : decode cX12_columnHolds 22 = .ok (.imul, 1) := by decide +kernel
theorem dX12_columnHolds_23 : decode cX12_columnHolds 23 = .ok (.isub, 1) := by decide +kernel
theorem dX12_columnHolds_24 : decode cX12_columnHolds 24 = .ok (.if_icmp .gt 7, 3) := by decide +kernel
theorem dX12_columnHolds_27 : decode cX12_columnHolds 27 = .ok (.iconst 1, 1) := by decide +kernel
theorem dX12_columnHolds_28 : decode cX12_columnHolds 28 = .ok (.goto 4, 3) := by decide +kernel
theorem dX12_columnHolds_31 : decode cX12_columnHolds 31 = .ok (.iconst 0, 1) := by decide +kernel
theorem dX12_columnHolds_32 : decode cX12_columnHolds 32 = .ok (.ireturn, 1) := by decide +kernel
set_option maxRecDepth 100000 in
set_option maxHeartbeats 4000000 in
theorem c_X12_columnHolds {l : Launch} {K : KG} {ad : Nat → Nat → Nat} {fl : Nat} {a1 : Int32} {M0 : Mem} {r9 : Int32} {M9 : Mem} (hf : f_X12_columnHolds fl a1 M0 = some (r9, M9)) : Met l yX12_columnHolds (Cond.code yX12_columnHolds cX12_columnHolds 2 (some .boolean) :: ztb) (RM (12) 0 0) (zPc K LM ad M0 [.ref (ad 0 0), .int a1]) (zQ K LM ad (some (.int r9)) M9) 0 0 (zA ad) := by
  refine z_enter (by decide) (Nat.le_of_ble_eq_true rfl) ?_
  intro p e s m args below meth c ls C hin hargs Z hl
  replace C : Cx p s m args meth c cX12_columnHolds 2 "GlassPalaceModel" (some .boolean) := C
  replace hl : lv_has ls 2 [(0, .ref (ad 0 0)), (1, .int a1)] := hl
  have hR : 12 ≤ (RM (12) 0 0).frames ∧ 40 * (12) ≤ (RM (12) 0 0).locals := ⟨Nat.le_refl _, Nat.le_refl _⟩
  have hB : 0 ≤ (RM (12) 0 0).cells ∧ 0 ≤ (RM (12) 0 0).slots := ⟨Nat.zero_le _, Nat.zero_le _⟩
  unfold f_X12_columnHolds at hf
  refine lv_aload_n C.x C.b dX12_columnHolds_0 rfl (lv_at hl 0 rfl) ?_
  refine lv_iload_n C.x C.b dX12_columnHolds_1 rfl (lv_at hl 1 rfl) ?_
  replace hf := bn2_s hf; obtain ⟨v2, m1, hkm1, hf⟩ := hf
  refine z_cV (As := [.int a1]) (rest := []) (st1 := [.int v2]) C Z mw_X12_borne mv_X12_borne k_1601 (by decide) (z_hR hR (by decide)) (lvM0 Nat.zero_lt_one) kM0 zc12 (c_X12_borne (l := l) (K := K) (ad := ad) hkm1) rfl hl.1 rfl (Nat.le_of_ble_eq_true rfl) dX12_columnHolds_2 hB rfl (fun H locs Z => ?_)
  refine lv_sipush (v := 600) C.x C.b dX12_columnHolds_5 (by decide) ?_
  refine lv_iconst (v := 3) C.x C.b dX12_columnHolds_8 (by decide) ?_
  refine lv_aload_n C.x C.b dX12_columnHolds_9 rfl (lv_at hl 0 rfl) ?_
  refine z_get C Z (lvM0 Nat.zero_lt_one) kM0 zc12 zin12 9 (by decide) k_1185 rfl svM0_9 dX12_columnHolds_10 ?_
  refine lv_aload_n C.x C.b dX12_columnHolds_13 rfl (lv_at hl 0 rfl) ?_
  refine z_get C Z (lvM0 Nat.zero_lt_one) kM0 zc12 zin12 16 (by decide) k_1192 rfl svM0_16 dX12_columnHolds_14 ?_
  refine lv_iconst (v := 5) C.x C.b dX12_columnHolds_17 (by decide) ?_
  refine lv_iload_n C.x C.b dX12_columnHolds_18 rfl (lv_at hl 1 rfl) ?_
  refine lv_imul C.x C.b dX12_columnHolds_19 ?_
  replace hf := asr_s hf; obtain ⟨hq3, hf⟩ := hf
  refine z_iald C Z (lvM14 Nat.zero_lt_one) kM14 hq3 svM14 dX12_columnHolds_20 ?_
  replace hf := asr_s hf; obtain ⟨hq4, hf⟩ := hf
  refine z_iald C Z (lvM8 Nat.zero_lt_one) kM8 hq4 svM8 dX12_columnHolds_21 ?_
  refine lv_imul C.x C.b dX12_columnHolds_22 ?_
  refine lv_isub C.x C.b dX12_columnHolds_23 ?_
  refine lv_icmp_gt (tgt := 31) C.x C.b dX12_columnHolds_24 (by decide) (fun hc5 => ?_) (fun hc5 => ?_)
  · replace hf := ite_t hf hc5
    refine lv_iconst (v := 0) C.x C.b dX12_columnHolds_31 (by decide) ?_
    obtain ⟨rfl, rfl⟩ := pr_s hf
    exact z_zret C Z rfl dX12_columnHolds_32
  · replace hf := ite_f hf hc5
    refine lv_iconst (v := 1) C.x C.b dX12_columnHolds_27 (by decide) ?_
    refine lv_goto (tgt := 32) C.x C.b dX12_columnHolds_28 (by decide) ?_
    obtain ⟨rfl, rfl⟩ := pr_s hf
    exact z_zret C Z rfl dX12_columnHolds_32
theorem dX12_bears_0 : decode cX12_bears 0 = .ok (.aload_n 0, 1) := by decide +kernel
theorem dX12_bears_1 : decode cX12_bears 1 = .ok (.iload_n 1, 1) := by decide +kernel
theorem dX12_bears_2 : decode cX12_bears 2 = .ok (.invokevirtual 241, 3) := by decide +kernel
theorem dX12_bears_5 : decode cX12_bears 5 = .ok (.ifCond .eq 13, 3) := by decide +kernel
theorem dX12_bears_8 : decode cX12_bears 8 = .ok (.aload_n 0, 1) := by decide +kernel
theorem dX12_bears_9 : decode cX12_bears 9 = .ok (.iload_n 2, 1) := by decide +kernel
theorem dX12_bears_10 : decode cX12_bears 10 = .ok (.iconst 0, 1) := by decide +kernel
theorem dX12_bears_11 : decode cX12_bears 11 = .ok (.iconst 3, 1) := by decide +kernel
theorem dX12_bears_12 : decode cX12_bears 12 = .ok (.invokevirtual 3, 3) := by decide +kernel
theorem dX12_bears_15 : decode cX12_bears 15 = .ok (.ifCond .ne 5, 3) := by decide +kernel
theorem dX12_bears_18 : decode cX12_bears 18 = .ok (.iconst (-1), 1) := by decide +kernel
theorem dX12_bears_19 : decode cX12_bears 19 = .ok (.ireturn, 1) := by decide +kernel
theorem dX12_bears_20 : decode cX12_bears 20 = .ok (.aload_n 0, 1) := by decide +kernel
theorem dX12_bears_21 : decode cX12_bears 21 = .ok (.iload_n 1, 1) := by decide +kernel
theorem dX12_bears_22 : decode cX12_bears 22 = .ok (.iload_n 2, 1) := by decide +kernel
theorem dX12_bears_23 : decode cX12_bears 23 = .ok (.iconst 2, 1) := by decide +kernel
theorem dX12_bears_24 : decode cX12_bears 24 = .ok (.irem, 1) := by decide +kernel
theorem dX12_bears_25 : decode cX12_bears 25 = .ok (.ifCond .ne 7, 3) := by decide +kernel
theorem dX12_bears_28 : decode cX12_bears 28 = .ok (.iconst 2, 1) := by decide +kernel
theorem dX12_bears_29 : decode cX12_bears 29 = .ok (.goto 4, 3) := by decide +kernel
theorem dX12_bears_32 : decode cX12_bears 32 = .ok (.iconst 1, 1) := by decide +kernel
theorem dX12_bears_33 : decode cX12_bears 33 = .ok (.invokevirtual 237, 3) := by decide +kernel
theorem dX12_bears_36 : decode cX12_bears 36 = .ok (.ifCond .ne 6, 3) := by decide +kernel
theorem dX12_bears_39 : decode cX12_bears 39 = .ok (.bipush (-5), 2) := by decide +kernel
theorem dX12_bears_41 : decode cX12_bears 41 = .ok (.ireturn, 1) := by decide +kernel
theorem dX12_bears_42 : decode cX12_bears 42 = .ok (.iload_n 2, 1) := by decide +kernel
theorem dX12_bears_43 : decode cX12_bears 43 = .ok (.ifCond .ne 11, 3) := by decide +kernel
theorem dX12_bears_46 : decode cX12_bears 46 = .ok (.aload_n 0, 1) := by decide +kernel
theorem dX12_bears_47 : decode cX12_bears 47 = .ok (.iload_n 1, 1) := by decide +kernel
theorem dX12_bears_48 : decode cX12_bears 48 = .ok (.invokevirtual 335, 3) := by decide +kernel
theorem dX12_bears_51 : decode cX12_bears 51 = .ok (.goto 45, 3) := by decide +kernel
theorem dX12_bears_54 : decode cX12_bears 54 = .ok (.iload_n 2, 1) := by decide +kernel
theorem dX12_bears_55 : decode cX12_bears 55 = .ok (.iconst 1, 1) := by decide +kernel
theorem dX12_bears_56 : decode cX12_bears 56 = .ok (.if_icmp .ne 11, 3) := by decide +kernel
theorem dX12_bears_59 : decode cX12_bears 59 = .ok (.aload_n 0, 1) := by decide +kernel
theorem dX12_bears_60 : decode cX12_bears 60 = .ok (.iload_n 1, 1) := by decide +kernel
theorem dX12_bears_61 : decode cX12_bears 61 = .ok (.invokevirtual 338, 3) := by decide +kernel
theorem dX12_bears_64 : decode cX12_bears 64 = .ok (.goto 32, 3) := by decide +kernel
theorem dX12_bears_67 : decode cX12_bears 67 = .ok (.iload_n 2, 1) := by decide +kernel
theorem dX12_bears_68 : decode cX12_bears 68 = .ok (.iconst 2, 1) := by decide +kernel
theorem dX12_bears_69 : decode cX12_bears 69 = .ok (.if_icmp .ne 14, 3) := by decide +kernel
theorem dX12_bears_72 : decode cX12_bears 72 = .ok (.aload_n 0, 1) := by decide +kernel
theorem dX12_bears_73 : decode cX12_bears 73 = .ok (.iload_n 1, 1) := by decide +kernel
theorem dX12_bears_74 : decode cX12_bears 74 = .ok (.invokevirtual 341, 3) := by decide +kernel
theorem dX12_bears_77 : decode cX12_bears 77 = .ok (.ifCond .eq 18, 3) := by decide +kernel
theorem dX12_bears_80 : decode cX12_bears 80 = .ok (.goto 11, 3) := by decide +kernel
theorem dX12_bears_83 : decode cX12_bears 83 = .ok (.aload_n 0, 1) := by decide +kernel
theorem dX12_bears_84 : decode cX12_bears 84 = .ok (.iload_n 1, 1) := by decide +kernel
theorem dX12_bears_85 : decode cX12_bears 85 = .ok (.invokevirtual 344, 3) := by decide +kernel
theorem dX12_bears_88 : decode cX12_bears 88 = .ok (.ifCond .eq 7, 3) := by decide +kernel
theorem dX12_bears_91 : decode cX12_bears 91 = .ok (.iconst 1, 1) := by decide +kernel
theorem dX12_bears_92 : decode cX12_bears 92 = .ok (.goto 4, 3) := by decide +kernel
theorem dX12_bears_95 : decode cX12_bears 95 = .ok (.iconst 0, 1) := by decide +kernel
theorem dX12_bears_96 : decode cX12_bears 96 = .ok (.ireturn, 1) := by decide +kernel
set_option maxRecDepth 100000 in
set_option maxHeartbeats 4000000 in
theorem w_X12_bears_b33 {p : Program} {l : Launch} {e : Env} {s : State} {m : MethodId} {args : Array Value} {below : List Frame} {meth : Method} {c : Code} {K : KG} {ad : Nat → Nat → Nat} {fl : Nat} {H : Heap} {locs : List Loc} {ls : Array Slot} {g1 : Int32} {g2 : Int32} {z1 : Int32} {z2 : Int32} {M0 : Mem} {r9 : Int32} {M9 : Mem} (C : Cx p s m args meth c cX12_bears 3 "GlassPalaceModel" (some .int)) (hR : 13 ≤ (RM (13) 0 0).frames ∧ 40 * (13) ≤ (RM (13) 0 0).locals) (hB : 0 ≤ (RM (13) 0 0).cells ∧ 0 ≤ (RM (13) 0 0).slots) (Z : Zd K LM ad M0 s H locs) (hl : lv_has ls 3 [(0, .ref (ad 0 0)), (1, .int g1), (2, .int g2)]) (hf : f_X12_bears_b33 fl g1 g2 z1 z2 M0 = some (r9, M9)) : W p l e (RM (13) 0 0) s m args below meth c H locs 0 0 (MQ below (zQ K LM ad (some (.int r9)) M9) args s 0 0 (zA ad)) (F0 m 33 ls [.int z2, .int z1, .ref (ad 0 0)]) := by
  unfold f_X12_bears_b33 at hf
  replace hf := bn2_s hf; obtain ⟨v10, m9, hkm9, hf⟩ := hf
  refine z_cV (As := [.int z1, .int z2]) (rest := []) (st1 := [.int v10]) C Z mw_X12_has mv_X12_has k_1414 (by decide) (z_hR hR (by decide)) (lvM0 Nat.zero_lt_one) kM0 zc12 (c_X12_has (l := l) (K := K) (ad := ad) hkm9) rfl hl.1 rfl (Nat.le_of_ble_eq_true rfl) dX12_bears_33 hB rfl (fun H locs Z => ?_)
  refine lv_if_ne (tgt := 42) C.x C.b dX12_bears_36 (by decide) (fun hc11 => ?_) (fun hc11 => ?_)
  · replace hf := ite_f hf hc11
    refine lv_iload_n C.x C.b dX12_bears_42 rfl (lv_at hl 2 rfl) ?_
    refine lv_if_ne (tgt := 54) C.x C.b dX12_bears_43 (by decide) (fun hc12 => ?_) (fun hc12 => ?_)
    · replace hf := ite_f hf hc12
      refine lv_iload_n C.x C.b dX12_bears_54 rfl (lv_at hl 2 rfl) ?_
      refine lv_iconst (v := 1) C.x C.b dX12_bears_55 (by decide) ?_
      refine lv_icmp_ne (tgt := 67) C.x C.b dX12_bears_56 (by decide) (fun hc13 => ?_) (fun hc13 => ?_)
      · replace hf := ite_f hf hc13
        refine lv_iload_n C.x C.b dX12_bears_67 rfl (lv_at hl 2 rfl) ?_
        refine lv_iconst (v := 2) C.x C.b dX12_bears_68 (by decide) ?_
        refine lv_icmp_ne (tgt := 83) C.x C.b dX12_bears_69 (by decide) (fun hc14 => ?_) (fun hc14 => ?_)
        · replace hf := ite_f hf hc14
          refine lv_aload_n C.x C.b dX12_bears_83 rfl (lv_at hl 0 rfl) ?_
          refine lv_iload_n C.x C.b dX12_bears_84 rfl (lv_at hl 1 rfl) ?_
          replace hf := bn2_s hf; obtain ⟨v16, m15, hkm15, hf⟩ := hf
          refine z_cV (As := [.int g1]) (rest := []) (st1 := [.int v16]) C Z mw_X12_columnHolds mv_X12_columnHolds k_1609 (by decide) (z_hR hR (by decide)) (lvM0 Nat.zero_lt_one) kM0 zc12 (c_X12_columnHolds (l := l) (K := K) (ad := ad) hkm15) rfl hl.1 rfl (Nat.le_of_ble_eq_true rfl) dX12_bears_85 hB rfl (fun H locs Z => ?_)
          refine lv_if_eq (tgt := 95) C.x C.b dX12_bears_88 (by decide) (fun hc17 => ?_) (fun hc17 => ?_)
          · replace hf := ite_t hf hc17
            refine lv_iconst (v := 0) C.x C.b dX12_bears_95 (by decide) ?_
            obtain ⟨rfl, rfl⟩ := pr_s hf
            exact z_iret C Z dX12_bears_96
          · replace hf := ite_f hf hc17
            refine lv_iconst (v := 1) C.x C.b dX12_bears_91 (by decide) ?_
            refine lv_goto (tgt := 96) C.x C.b dX12_bears_92 (by decide) ?_
            obtain ⟨rfl, rfl⟩ := pr_s hf
            exact z_iret C Z dX12_bears_96
        · replace hf := ite_t hf hc14
          refine lv_aload_n C.x C.b dX12_bears_72 rfl (lv_at hl 0 rfl) ?_
          refine lv_iload_n C.x C.b dX12_bears_73 rfl (lv_at hl 1 rfl) ?_
          replace hf := bn2_s hf; obtain ⟨v19, m18, hkm18, hf⟩ := hf
          refine z_cV (As := [.int g1]) (rest := []) (st1 := [.int v19]) C Z mw_X12_girderHolds mv_X12_girderHolds k_1605 (by decide) (z_hR hR (by decide)) (lvM0 Nat.zero_lt_one) kM0 zc12 (c_X12_girderHolds (l := l) (K := K) (ad := ad) hkm18) rfl hl.1 rfl (Nat.le_of_ble_eq_true rfl) dX12_bears_74 hB rfl (fun H locs Z => ?_)
          refine lv_if_eq (tgt := 95) C.x C.b dX12_bears_77 (by decide) (fun hc20 => ?_) (fun hc20 => ?_)
          · replace hf := ite_t hf hc20
            refine lv_iconst (v := 0) C.x C.b dX12_bears_95 (by decide) ?_
            obtain ⟨rfl, rfl⟩ := pr_s hf
            exact z_iret C Z dX12_bears_96
          · replace hf := ite_f hf hc20
            refine lv_goto (tgt := 91) C.x C.b dX12_bears_80 (by decide) ?_
            refine lv_iconst (v := 1) C.x C.b dX12_bears_91 (by decide) ?_
            refine lv_goto (tgt := 96) C.x C.b dX12_bears_92 (by decide) ?_
            obtain ⟨rfl, rfl⟩ := pr_s hf
            exact z_iret C Z dX12_bears_96
      · replace hf := ite_t hf hc13
        refine lv_aload_n C.x C.b dX12_bears_59 rfl (lv_at hl 0 rfl) ?_
        refine lv_iload_n C.x C.b dX12_bears_60 rfl (lv_at hl 1 rfl) ?_
        replace hf := bn2_s hf; obtain ⟨v22, m21, hkm21, hf⟩ := hf
        refine z_cV (As := [.int g1]) (rest := []) (st1 := [.int v22]) C Z mw_X12_borne mv_X12_borne k_1601 (by decide) (z_hR hR (by decide)) (lvM0 Nat.zero_lt_one) kM0 zc12 (c_X12_borne (l := l) (K := K) (ad := ad) hkm21) rfl hl.1 rfl (Nat.le_of_ble_eq_true rfl) dX12_bears_61 hB rfl (fun H locs Z => ?_)
        refine lv_goto (tgt := 96) C.x C.b dX12_bears_64 (by decide) ?_
        obtain ⟨rfl, rfl⟩ := pr_s hf
        exact z_iret C Z dX12_bears_96
    · replace hf := ite_t hf hc12
      refine lv_aload_n C.x C.b dX12_bears_46 rfl (lv_at hl 0 rfl) ?_
      refine lv_iload_n C.x C.b dX12_bears_47 rfl (lv_at hl 1 rfl) ?_
      replace hf := bn2_s hf; obtain ⟨v24, m23, hkm23, hf⟩ := hf
      refine z_cV (As := [.int g1]) (rest := []) (st1 := [.int v24]) C Z mw_X12_loadOf mv_X12_loadOf k_1597 (by decide) (z_hR hR (by decide)) (lvM0 Nat.zero_lt_one) kM0 zc12 (c_X12_loadOf (l := l) (K := K) (ad := ad) hkm23) rfl hl.1 rfl (Nat.le_of_ble_eq_true rfl) dX12_bears_48 hB rfl (fun H locs Z => ?_)
      refine lv_goto (tgt := 96) C.x C.b dX12_bears_51 (by decide) ?_
      obtain ⟨rfl, rfl⟩ := pr_s hf
      exact z_iret C Z dX12_bears_96
  · replace hf := ite_t hf hc11
    refine lv_bipush (v := (-5)) C.x C.b dX12_bears_39 (by decide) ?_
    obtain ⟨rfl, rfl⟩ := pr_s hf
    exact z_iret C Z dX12_bears_41
set_option maxRecDepth 100000 in
set_option maxHeartbeats 4000000 in
theorem c_X12_bears {l : Launch} {K : KG} {ad : Nat → Nat → Nat} {fl : Nat} {a1 : Int32} {a2 : Int32} {M0 : Mem} {r9 : Int32} {M9 : Mem} (hf : f_X12_bears fl a1 a2 M0 = some (r9, M9)) : Met l yX12_bears (Cond.code yX12_bears cX12_bears 3 (some .int) :: ztb) (RM (13) 0 0) (zPc K LM ad M0 [.ref (ad 0 0), .int a1, .int a2]) (zQ K LM ad (some (.int r9)) M9) 0 0 (zA ad) := by
  refine z_enter (by decide) (Nat.le_of_ble_eq_true rfl) ?_
  intro p e s m args below meth c ls C hin hargs Z hl
  replace C : Cx p s m args meth c cX12_bears 3 "GlassPalaceModel" (some .int) := C
  replace hl : lv_has ls 3 [(0, .ref (ad 0 0)), (1, .int a1), (2, .int a2)] := hl
  have hR : 13 ≤ (RM (13) 0 0).frames ∧ 40 * (13) ≤ (RM (13) 0 0).locals := ⟨Nat.le_refl _, Nat.le_refl _⟩
  have hB : 0 ≤ (RM (13) 0 0).cells ∧ 0 ≤ (RM (13) 0 0).slots := ⟨Nat.zero_le _, Nat.zero_le _⟩
  unfold f_X12_bears at hf
  refine lv_aload_n C.x C.b dX12_bears_0 rfl (lv_at hl 0 rfl) ?_
  refine lv_iload_n C.x C.b dX12_bears_1 rfl (lv_at hl 1 rfl) ?_
  replace hf := bn2_s hf; obtain ⟨v2, m1, hkm1, hf⟩ := hf
  refine z_cV (As := [.int a1]) (rest := []) (st1 := [.int v2]) C Z mw_X12_isBay mv_X12_isBay k_1406 (by decide) (z_hR hR (by decide)) (lvM0 Nat.zero_lt_one) kM0 zc12 (c_X12_isBay (l := l) (K := K) (ad := ad) hkm1) rfl hl.1 rfl (Nat.le_of_ble_eq_true rfl) dX12_bears_2 hB rfl (fun H locs Z => ?_)
  refine lv_if_eq (tgt := 18) C.x C.b dX12_bears_5 (by decide) (fun hc3 => ?_) (fun hc3 => ?_)
  · replace hf := ite_t hf hc3
    refine lv_iconst (v := (-1)) C.x C.b dX12_bears_18 (by decide) ?_
    obtain ⟨rfl, rfl⟩ := pr_s hf
    exact z_iret C Z dX12_bears_19
  · replace hf := ite_f hf hc3
    refine lv_aload_n C.x C.b dX12_bears_8 rfl (lv_at hl 0 rfl) ?_
    refine lv_iload_n C.x C.b dX12_bears_9 rfl (lv_at hl 2 rfl) ?_
    refine lv_iconst (v := 0) C.x C.b dX12_bears_10 (by decide) ?_
    refine lv_iconst (v := 3) C.x C.b dX12_bears_11 (by decide) ?_
    replace hf := bn2_s hf; obtain ⟨v5, m4, hkm4, hf⟩ := hf
    refine z_cV (As := [.int a2, .int 0, .int 3]) (rest := []) (st1 := [.int v5]) C Z mw_X12_in mv_X12_in k_1398 (by decide) (z_hR hR (by decide)) (lvM0 Nat.zero_lt_one) kM0 zc12 (c_X12_in (l := l) (K := K) (ad := ad) hkm4) rfl hl.1 rfl (Nat.le_of_ble_eq_true rfl) dX12_bears_12 hB rfl (fun H locs Z => ?_)
    refine lv_if_ne (tgt := 20) C.x C.b dX12_bears_15 (by decide) (fun hc6 => ?_) (fun hc6 => ?_)
    · replace hf := ite_f hf hc6
      refine lv_aload_n C.x C.b dX12_bears_20 rfl (lv_at hl 0 rfl) ?_
      refine lv_iload_n C.x C.b dX12_bears_21 rfl (lv_at hl 1 rfl) ?_
      refine lv_iload_n C.x C.b dX12_bears_22 rfl (lv_at hl 2 rfl) ?_
      refine lv_iconst (v := 2) C.x C.b dX12_bears_23 (by decide) ?_
      refine z_irem C dX12_bears_24 (by decide) ?_
      replace hf := bn2_s hf; obtain ⟨q7, m8, hq7, hf⟩ := hf
      have kq7 : ∀ (H : Heap) (locs : List Loc) (ls : Array Slot), Zd K LM ad m8 s H locs → lv_has ls 3 [(0, .ref (ad 0 0)), (1, .int a1), (2, .int a2)] → W p l e (RM (13) 0 0) s m args below meth c H locs 0 0 (MQ below (zQ K LM ad (some (.int r9)) M9) args s 0 0 (zA ad)) (F0 m 33 ls [.int q7, .int a1, .ref (ad 0 0)]) := by
        intro H locs ls Z hl
        exact w_X12_bears_b33 C hR hB  Z (lv_sub hl [0, 1, 2] rfl) hf
      clear hf
      refine lv_if_ne (tgt := 32) C.x C.b dX12_bears_25 (by decide) (fun hc25 => ?_) (fun hc25 => ?_)
      · have hf := ite_f hq7 hc25; clear hq7
        refine lv_iconst (v := 1) C.x C.b dX12_bears_32 (by decide) ?_
        obtain ⟨rfl, rfl⟩ := pr_s hf
        exact kq7 _ _ _ Z (lv_sub hl [0, 1, 2] rfl)
      · have hf := ite_t hq7 hc25; clear hq7
        refine lv_iconst (v := 2) C.x C.b dX12_bears_28 (by decide) ?_
        refine lv_goto (tgt := 33) C.x C.b dX12_bears_29 (by decide) ?_
        obtain ⟨rfl, rfl⟩ := pr_s hf
        exact kq7 _ _ _ Z (lv_sub hl [0, 1, 2] rfl)
    · replace hf := ite_t hf hc6
      refine lv_iconst (v := (-1)) C.x C.b dX12_bears_18 (by decide) ?_
      obtain ⟨rfl, rfl⟩ := pr_s hf
      exact z_iret C Z dX12_bears_19
theorem dX12_breaks_0 : decode cX12_breaks 0 = .ok (.iconst 0, 1) := by decide +kernel
theorem dX12_breaks_1 : decode cX12_breaks 1 = .ok (.istore_n 1, 1) := by decide +kernel
theorem dX12_breaks_2 : decode cX12_breaks 2 = .ok (.iconst 0, 1) := by decide +kernel
theorem dX12_breaks_3 : decode cX12_breaks 3 = .ok (.istore_n 2, 1) := by decide +kernel
theorem dX12_breaks_4 : decode cX12_breaks 4 = .ok (.iload_n 2, 1) := by decide +kernel
theorem dX12_breaks_5 : decode cX12_breaks 5 = .ok (.bipush 30, 2) := by decide +kernel
theorem dX12_breaks_7 : decode cX12_breaks 7 = .ok (.if_icmp .ge 49, 3) := by decide +kernel
theorem dX12_breaks_10 : decode cX12_breaks 10 = .ok (.aload_n 0, 1) := by decide +kernel
theorem dX12_breaks_11 : decode cX12_breaks 11 = .ok (.iload_n 2, 1) := by decide +kernel
theorem dX12_breaks_12 : decode cX12_breaks 12 = .ok (.iconst 2, 1) := by decide +kernel
theorem dX12_breaks_13 : decode cX12_breaks 13 = .ok (.invokevirtual 237, 3) := by decide +kernel
theorem dX12_breaks_16 : decode cX12_breaks 16 = .ok (.ifCond .eq 11, 3) := by decide +kernel
theorem dX12_breaks_19 : decode cX12_breaks 19 = .ok (.aload_n 0, 1) := by decide +kernel
theorem dX12_breaks_20 : decode cX12_breaks 20 = .ok (.iload_n 2, 1) := by decide +kernel
theorem dX12_breaks_21 : decode cX12_breaks 21 = .ok (.invokevirtual 341, 3) := by decide +kernel
theorem dX12_breaks_24 : decode cX12_breaks 24 = .ok (.ifCond .eq 20, 3) := by decide +kernel
theorem dX12_breaks_27 : decode cX12_breaks 27 = .ok (.aload_n 0, 1) := by decide +kernel
theorem dX12_breaks_28 : decode cX12_breaks 28 = .ok (.iload_n 2, 1) := by decide +kernel
theorem dX12_breaks_29 : decode cX12_breaks 29 = .ok (.iconst 1, 1) := by decide +kernel
theorem dX12_breaks_30 : decode cX12_breaks 30 = .ok (.invokevirtual 237, 3) := by decide +kernel
theorem dX12_breaks_33 : decode cX12_breaks 33 = .ok (.ifCond .eq 17, 3) := by decide +kernel
theorem dX12_breaks_36 : decode cX12_breaks 36 = .ok (.aload_n 0, 1) := by decide +kernel
theorem dX12_breaks_37 : decode cX12_breaks 37 = .ok (.iload_n 2, 1) := by decide +kernel
theorem dX12_breaks_38 : decode cX12_breaks 38 = .ok (.invokevirtual 344, 3) := by decide +kernel
theorem dX12_breaks_41 : decode cX12_breaks 41 = .ok (.ifCond .ne 9, 3) := by decide +kernel
theorem dX12_breaks_44 : decode cX12_breaks 44 = .ok (.iload_n 1, 1) := by decide +kernel
theorem dX12_breaks_45 : decode cX12_breaks 45 = .ok (.iconst 1, 1) := by decide +kernel
theorem dX12_breaks_46 : decode cX12_breaks 46 = .ok (.iload_n 2, 1) := by decide +kernel
theorem dX12_breaks_47 : decode cX12_breaks 47 = .ok (.ishl, 1) := by decide +kernel
theorem dX12_breaks_48 : decode cX12_breaks 48 = .ok (.ior, 1) := by decide +kernel
theorem dX12_breaks_49 : decode cX12_breaks 49 = .ok (.istore_n 1, 1) := by decide +kernel
theorem dX12_breaks_50 : decode cX12_breaks 50 = .ok (.iinc 2 1, 3) := by decide +kernel
theorem dX12_breaks_53 : decode cX12_breaks 53 = .ok (.goto (-49), 3) := by decide +kernel
theorem dX12_breaks_56 : decode cX12_breaks 56 = .ok (.iload_n 1, 1) := by decide +kernel
theorem dX12_breaks_57 : decode cX12_breaks 57 = .ok (.ireturn, 1) := by decide +kernel
set_option maxRecDepth 100000 in
set_option maxHeartbeats 4000000 in
theorem w_X12_breaks_l4 {p : Program} {l : Launch} {e : Env} {R : Room} {s : State} {m : MethodId} {args : Array Value} {below : List Frame} {meth : Method} {c : Code} {cells slots : Nat} {Q : State → Prop} {K : KG} {ad : Nat → Nat → Nat} {fl : Nat} (C : Cx p s m args meth c cX12_breaks 3 "GlassPalaceModel" (some .int)) (hR : 13 ≤ R.frames ∧ 40 * (13) ≤ R.locals) (hB : cells ≤ R.cells ∧ slots ≤ R.slots) : ∀ (n : Nat) (u1 : Int32) (u2 : Int32) (M0 : Mem) (H : Heap) (locs : List Loc) (ls : Array Slot), Zd K LM ad M0 s H locs → lv_has ls 3 [(0, .ref (ad 0 0)), (1, .int u1), (2, .int u2)] → ∀ (q : Int32) (Mq : Mem), f_X12_breaks_l4 fl  n u1 u2 M0 = some (q, Mq) → (∀ (H : Heap) (locs : List Loc) (ls : Array Slot), Zd K LM ad Mq s H locs → lv_has ls 3 [(1, .int q)] → W p l e R s m args below meth c H locs cells slots Q (F0 m 56 ls [])) → W p l e R s m args below meth c H locs cells slots Q (F0 m 4 ls []) := by
  intro n
  induction n with
  | zero =>
    intro u1 u2 M0 H locs ls Z hl q Mq hf
    have hf : (none : Option (Int32 × Mem)) = some (q, Mq) := hf
    cases hf
  | succ n ih =>
    intro u1 u2 M0 H locs ls Z hl q Mq hf kx0
    replace hf : f_X12_breaks_l4_b (f_X12_breaks_l4 fl  n) fl  u1 u2 M0 = some (q, Mq) := hf
    unfold f_X12_breaks_l4_b at hf
    refine lv_iload_n C.x C.b dX12_breaks_4 rfl (lv_at hl 2 rfl) ?_
    refine lv_bipush (v := 30) C.x C.b dX12_breaks_5 (by decide) ?_
    refine lv_icmp_ge (tgt := 56) C.x C.b dX12_breaks_7 (by decide) (fun hc1 => ?_) (fun hc1 => ?_)
    · replace hf := ite_t hf hc1
      obtain ⟨rfl, rfl⟩ := pr_s hf
      exact kx0 _ _ _ Z (lv_sub hl [1] rfl)
    · replace hf := ite_f hf hc1
      refine lv_aload_n C.x C.b dX12_breaks_10 rfl (lv_at hl 0 rfl) ?_
      refine lv_iload_n C.x C.b dX12_breaks_11 rfl (lv_at hl 2 rfl) ?_
      refine lv_iconst (v := 2) C.x C.b dX12_breaks_12 (by decide) ?_
      replace hf := bn2_s hf; obtain ⟨v3, m2, hkm2, hf⟩ := hf
      refine z_cV (As := [.int u2, .int 2]) (rest := []) (st1 := [.int v3]) C Z mw_X12_has mv_X12_has k_1414 (by decide) (z_hR hR (by decide)) (lvM0 Nat.zero_lt_one) kM0 zc12 (c_X12_has (l := l) (K := K) (ad := ad) hkm2) rfl hl.1 rfl (Nat.le_of_ble_eq_true rfl) dX12_breaks_13 hB rfl (fun H locs Z => ?_)
      refine lv_if_eq (tgt := 27) C.x C.b dX12_breaks_16 (by decide) (fun hc4 => ?_) (fun hc4 => ?_)
      · replace hf := ite_t hf hc4
        refine lv_aload_n C.x C.b dX12_breaks_27 rfl (lv_at hl 0 rfl) ?_
        refine lv_iload_n C.x C.b dX12_breaks_28 rfl (lv_at hl 2 rfl) ?_
        refine lv_iconst (v := 1) C.x C.b dX12_breaks_29 (by decide) ?_
        replace hf := bn2_s hf; obtain ⟨v6, m5, hkm5, hf⟩ := hf
        refine z_cV (As := [.int u2, .int 1]) (rest := []) (st1 := [.int v6]) C Z mw_X12_has mv_X12_has k_1414 (by decide) (z_hR hR (by decide)) (lvM0 Nat.zero_lt_one) kM0 zc12 (c_X12_has (l := l) (K := K) (ad := ad) hkm5) rfl hl.1 rfl (Nat.le_of_ble_eq_true rfl) dX12_breaks_30 hB rfl (fun H locs Z => ?_)
        refine lv_if_eq (tgt := 50) C.x C.b dX12_breaks_33 (by decide) (fun hc7 => ?_) (fun hc7 => ?_)
        · replace hf := ite_t hf hc7
          replace hf := lt1_s hf; obtain ⟨x8, ex8, hf⟩ := hf
          refine z_iinc (v := x8) (lv' := [(2, .int x8), (0, .ref (ad 0 0)), (1, .int u1)]) C dX12_breaks_50 hl (k := 2) rfl (by rw [ex8]; rfl) (by decide) rfl (onlast 1 rfl rfl rfl) (fun ls hl => ?_)
          refine lv_goto (tgt := 4) C.x C.b dX12_breaks_53 (by decide) ?_
          exact ih _ _ _ _ _ _ Z (lv_sub hl [1, 2, 0] rfl) _ _ hf kx0
        · replace hf := ite_f hf hc7
          refine lv_aload_n C.x C.b dX12_breaks_36 rfl (lv_at hl 0 rfl) ?_
          refine lv_iload_n C.x C.b dX12_breaks_37 rfl (lv_at hl 2 rfl) ?_
          replace hf := bn2_s hf; obtain ⟨v10, m9, hkm9, hf⟩ := hf
          refine z_cV (As := [.int u2]) (rest := []) (st1 := [.int v10]) C Z mw_X12_columnHolds mv_X12_columnHolds k_1609 (by decide) (z_hR hR (by decide)) (lvM0 Nat.zero_lt_one) kM0 zc12 (c_X12_columnHolds (l := l) (K := K) (ad := ad) hkm9) rfl hl.1 rfl (Nat.le_of_ble_eq_true rfl) dX12_breaks_38 hB rfl (fun H locs Z => ?_)
          refine lv_if_ne (tgt := 50) C.x C.b dX12_breaks_41 (by decide) (fun hc11 => ?_) (fun hc11 => ?_)
          · replace hf := ite_f hf hc11
            replace hf := lt1_s hf; obtain ⟨x12, ex12, hf⟩ := hf
            refine z_iinc (v := x12) (lv' := [(2, .int x12), (0, .ref (ad 0 0)), (1, .int u1)]) C dX12_breaks_50 hl (k := 2) rfl (by rw [ex12]; rfl) (by decide) rfl (onlast 1 rfl rfl rfl) (fun ls hl => ?_)
            refine lv_goto (tgt := 4) C.x C.b dX12_breaks_53 (by decide) ?_
            exact ih _ _ _ _ _ _ Z (lv_sub hl [1, 2, 0] rfl) _ _ hf kx0
          · replace hf := ite_t hf hc11
            refine lv_iload_n C.x C.b dX12_breaks_44 rfl (lv_at hl 1 rfl) ?_
            refine lv_iconst (v := 1) C.x C.b dX12_breaks_45 (by decide) ?_
            refine lv_iload_n C.x C.b dX12_breaks_46 rfl (lv_at hl 2 rfl) ?_
            refine z_ishl C dX12_breaks_47 ?_
            refine lv_ior C.x C.b dX12_breaks_48 ?_
            replace hf := lt1_s hf; obtain ⟨x13, ex13, hf⟩ := hf
            refine z_renI ex13 ?_
            refine z_istore_n (lv' := [(1, .int x13), (0, .ref (ad 0 0)), (2, .int u2)]) C dX12_breaks_49 rfl hl (by decide) rfl (onlast 0 rfl rfl rfl) (fun ls hl => ?_)
            replace hf := lt1_s hf; obtain ⟨x14, ex14, hf⟩ := hf
            refine z_iinc (v := x14) (lv' := [(2, .int x14), (1, .int x13), (0, .ref (ad 0 0))]) C dX12_breaks_50 hl (k := 2) rfl (by rw [ex14]; rfl) (by decide) rfl (onlast 0 rfl rfl rfl) (fun ls hl => ?_)
            refine lv_goto (tgt := 4) C.x C.b dX12_breaks_53 (by decide) ?_
            exact ih _ _ _ _ _ _ Z (lv_sub hl [2, 1, 0] rfl) _ _ hf kx0
      · replace hf := ite_f hf hc4
        refine lv_aload_n C.x C.b dX12_breaks_19 rfl (lv_at hl 0 rfl) ?_
        refine lv_iload_n C.x C.b dX12_breaks_20 rfl (lv_at hl 2 rfl) ?_
        replace hf := bn2_s hf; obtain ⟨v16, m15, hkm15, hf⟩ := hf
        refine z_cV (As := [.int u2]) (rest := []) (st1 := [.int v16]) C Z mw_X12_girderHolds mv_X12_girderHolds k_1605 (by decide) (z_hR hR (by decide)) (lvM0 Nat.zero_lt_one) kM0 zc12 (c_X12_girderHolds (l := l) (K := K) (ad := ad) hkm15) rfl hl.1 rfl (Nat.le_of_ble_eq_true rfl) dX12_breaks_21 hB rfl (fun H locs Z => ?_)
        refine lv_if_eq (tgt := 44) C.x C.b dX12_breaks_24 (by decide) (fun hc17 => ?_) (fun hc17 => ?_)
        · replace hf := ite_t hf hc17
          refine lv_iload_n C.x C.b dX12_breaks_44 rfl (lv_at hl 1 rfl) ?_
          refine lv_iconst (v := 1) C.x C.b dX12_breaks_45 (by decide) ?_
          refine lv_iload_n C.x C.b dX12_breaks_46 rfl (lv_at hl 2 rfl) ?_
          refine z_ishl C dX12_breaks_47 ?_
          refine lv_ior C.x C.b dX12_breaks_48 ?_
          replace hf := lt1_s hf; obtain ⟨x18, ex18, hf⟩ := hf
          refine z_renI ex18 ?_
          refine z_istore_n (lv' := [(1, .int x18), (0, .ref (ad 0 0)), (2, .int u2)]) C dX12_breaks_49 rfl hl (by decide) rfl (onlast 0 rfl rfl rfl) (fun ls hl => ?_)
          replace hf := lt1_s hf; obtain ⟨x19, ex19, hf⟩ := hf
          refine z_iinc (v := x19) (lv' := [(2, .int x19), (1, .int x18), (0, .ref (ad 0 0))]) C dX12_breaks_50 hl (k := 2) rfl (by rw [ex19]; rfl) (by decide) rfl (onlast 0 rfl rfl rfl) (fun ls hl => ?_)
          refine lv_goto (tgt := 4) C.x C.b dX12_breaks_53 (by decide) ?_
          exact ih _ _ _ _ _ _ Z (lv_sub hl [2, 1, 0] rfl) _ _ hf kx0
        · replace hf := ite_f hf hc17
          refine lv_aload_n C.x C.b dX12_breaks_27 rfl (lv_at hl 0 rfl) ?_
          refine lv_iload_n C.x C.b dX12_breaks_28 rfl (lv_at hl 2 rfl) ?_
          refine lv_iconst (v := 1) C.x C.b dX12_breaks_29 (by decide) ?_
          replace hf := bn2_s hf; obtain ⟨v21, m20, hkm20, hf⟩ := hf
          refine z_cV (As := [.int u2, .int 1]) (rest := []) (st1 := [.int v21]) C Z mw_X12_has mv_X12_has k_1414 (by decide) (z_hR hR (by decide)) (lvM0 Nat.zero_lt_one) kM0 zc12 (c_X12_has (l := l) (K := K) (ad := ad) hkm20) rfl hl.1 rfl (Nat.le_of_ble_eq_true rfl) dX12_breaks_30 hB rfl (fun H locs Z => ?_)
          refine lv_if_eq (tgt := 50) C.x C.b dX12_breaks_33 (by decide) (fun hc22 => ?_) (fun hc22 => ?_)
          · replace hf := ite_t hf hc22
            replace hf := lt1_s hf; obtain ⟨x23, ex23, hf⟩ := hf
            refine z_iinc (v := x23) (lv' := [(2, .int x23), (0, .ref (ad 0 0)), (1, .int u1)]) C dX12_breaks_50 hl (k := 2) rfl (by rw [ex23]; rfl) (by decide) rfl (onlast 1 rfl rfl rfl) (fun ls hl => ?_)
            refine lv_goto (tgt := 4) C.x C.b dX12_breaks_53 (by decide) ?_
            exact ih _ _ _ _ _ _ Z (lv_sub hl [1, 2, 0] rfl) _ _ hf kx0
          · replace hf := ite_f hf hc22
            refine lv_aload_n C.x C.b dX12_breaks_36 rfl (lv_at hl 0 rfl) ?_
            refine lv_iload_n C.x C.b dX12_breaks_37 rfl (lv_at hl 2 rfl) ?_
            replace hf := bn2_s hf; obtain ⟨v25, m24, hkm24, hf⟩ := hf
            refine z_cV (As := [.int u2]) (rest := []) (st1 := [.int v25]) C Z mw_X12_columnHolds mv_X12_columnHolds k_1609 (by decide) (z_hR hR (by decide)) (lvM0 Nat.zero_lt_one) kM0 zc12 (c_X12_columnHolds (l := l) (K := K) (ad := ad) hkm24) rfl hl.1 rfl (Nat.le_of_ble_eq_true rfl) dX12_breaks_38 hB rfl (fun H locs Z => ?_)
            refine lv_if_ne (tgt := 50) C.x C.b dX12_breaks_41 (by decide) (fun hc26 => ?_) (fun hc26 => ?_)
            · replace hf := ite_f hf hc26
              replace hf := lt1_s hf; obtain ⟨x27, ex27, hf⟩ := hf
              refine z_iinc (v := x27) (lv' := [(2, .int x27), (0, .ref (ad 0 0)), (1, .int u1)]) C dX12_breaks_50 hl (k := 2) rfl (by rw [ex27]; rfl) (by decide) rfl (onlast 1 rfl rfl rfl) (fun ls hl => ?_)
              refine lv_goto (tgt := 4) C.x C.b dX12_breaks_53 (by decide) ?_
              exact ih _ _ _ _ _ _ Z (lv_sub hl [1, 2, 0] rfl) _ _ hf kx0
            · replace hf := ite_t hf hc26
              refine lv_iload_n C.x C.b dX12_breaks_44 rfl (lv_at hl 1 rfl) ?_
              refine lv_iconst (v := 1) C.x C.b dX12_breaks_45 (by decide) ?_
              refine lv_iload_n C.x C.b dX12_breaks_46 rfl (lv_at hl 2 rfl) ?_
              refine z_ishl C dX12_breaks_47 ?_
              refine lv_ior C.x C.b dX12_breaks_48 ?_
              replace hf := lt1_s hf; obtain ⟨x28, ex28, hf⟩ := hf
              refine z_renI ex28 ?_
              refine z_istore_n (lv' := [(1, .int x28), (0, .ref (ad 0 0)), (2, .int u2)]) C dX12_breaks_49 rfl hl (by decide) rfl (onlast 0 rfl rfl rfl) (fun ls hl => ?_)
              replace hf := lt1_s hf; obtain ⟨x29, ex29, hf⟩ := hf
              refine z_iinc (v := x29) (lv' := [(2, .int x29), (1, .int x28), (0, .ref (ad 0 0))]) C dX12_breaks_50 hl (k := 2) rfl (by rw [ex29]; rfl) (by decide) rfl (onlast 0 rfl rfl rfl) (fun ls hl => ?_)
              refine lv_goto (tgt := 4) C.x C.b dX12_breaks_53 (by decide) ?_
              exact ih _ _ _ _ _ _ Z (lv_sub hl [2, 1, 0] rfl) _ _ hf kx0
set_option maxRecDepth 100000 in
set_option maxHeartbeats 4000000 in
theorem c_X12_breaks {l : Launch} {K : KG} {ad : Nat → Nat → Nat} {fl : Nat}  {M0 : Mem} {r9 : Int32} {M9 : Mem} (hf : f_X12_breaks fl  M0 = some (r9, M9)) : Met l yX12_breaks (Cond.code yX12_breaks cX12_breaks 3 (some .int) :: ztb) (RM (13) 0 0) (zPc K LM ad M0 [.ref (ad 0 0)]) (zQ K LM ad (some (.int r9)) M9) 0 0 (zA ad) := by
  refine z_enter (by decide) (Nat.le_of_ble_eq_true rfl) ?_
  intro p e s m args below meth c ls C hin hargs Z hl
  replace C : Cx p s m args meth c cX12_breaks 3 "GlassPalaceModel" (some .int) := C
  replace hl : lv_has ls 3 [(0, .ref (ad 0 0))] := hl
  have hR : 13 ≤ (RM (13) 0 0).frames ∧ 40 * (13) ≤ (RM (13) 0 0).locals := ⟨Nat.le_refl _, Nat.le_refl _⟩
  have hB : 0 ≤ (RM (13) 0 0).cells ∧ 0 ≤ (RM (13) 0 0).slots := ⟨Nat.zero_le _, Nat.zero_le _⟩
  unfold f_X12_breaks at hf
  refine lv_iconst (v := 0) C.x C.b dX12_breaks_0 (by decide) ?_
  refine z_istore_n (lv' := [(1, .int 0), (0, .ref (ad 0 0))]) C dX12_breaks_1 rfl hl (by decide) rfl (onlast 0 rfl rfl rfl) (fun ls hl => ?_)
  refine lv_iconst (v := 0) C.x C.b dX12_breaks_2 (by decide) ?_
  refine z_istore_n (lv' := [(2, .int 0), (1, .int 0), (0, .ref (ad 0 0))]) C dX12_breaks_3 rfl hl (by decide) rfl (onlast 0 rfl rfl rfl) (fun ls hl => ?_)
  replace hf := bn2_s hf; obtain ⟨q30, m31, hq30, hf⟩ := hf
  refine w_X12_breaks_l4 C hR hB  fl _ _ _ _ _ _ Z (lv_sub hl [2, 1, 0] rfl) _ _ hq30 (fun H locs ls Z hl => ?_)
  refine lv_iload_n C.x C.b dX12_breaks_56 rfl (lv_at hl 0 rfl) ?_
  obtain ⟨rfl, rfl⟩ := pr_s hf
  exact z_iret C Z dX12_breaks_57
theorem dX12_rain_0 : decode cX12_rain 0 = .ok (.aload_n 0, 1) := by decide +kernel
theorem dX12_rain_1 : decode cX12_rain 1 = .ok (.iload_n 1, 1) := by decide +kernel
theorem dX12_rain_2 : decode cX12_rain 2 = .ok (.iconst 0, 1) := by decide +kernel
theorem dX12_rain_3 : decode cX12_rain 3 = .ok (.bipush 23, 2) := by decide +kernel
theorem dX12_rain_5 : decode cX12_rain 5 = .ok (.invokevirtual 3, 3) := by decide +kernel
theorem dX12_rain_8 : decode cX12_rain 8 = .ok (.ifCond .ne 5, 3) := by decide +kernel
theorem dX12_rain_11 : decode cX12_rain 11 = .ok (.iconst (-1), 1) := by decide +kernel
theorem dX12_rain_12 : decode cX12_rain 12 = .ok (.ireturn, 1) := by decide +kernel
theorem dX12_rain_13 : decode cX12_rain 13 = .ok (.aload_n 0, 1) := by decide +kernel
theorem dX12_rain_14 : decode cX12_rain 14 = .ok (.iload_n 2, 1) := by decide +kernel
theorem dX12_rain_15 : decode cX12_rain 15 = .ok (.iconst 0, 1) := by decide +kernel
theorem dX12_rain_16 : decode cX12_rain 16 = .ok (.bipush 99, 2) := by decide +kernel
theorem dX12_rain_18 : decode cX12_rain 18 = .ok (.invokevirtual 3, 3) := by decide +kernel
theorem dX12_rain_21 : decode cX12_rain 21 = .ok (.ifCond .ne 6, 3) := by decide +kernel
theorem dX12_rain_24 : decode cX12_rain 24 = .ok (.bipush (-2), 2) := by decide +kernel
theorem dX12_rain_26 : decode cX12_rain 26 = .ok (.ireturn, 1) := by decide +kernel
theorem dX12_rain_27 : decode cX12_rain 27 = .ok (.aload_n 0, 1) := by decide +kernel
theorem dX12_rain_28 : decode cX12_rain 28 = .ok (.getfield 140, 3) := by decide +kernel
theorem dX12_rain_31 : decode cX12_rain 31 = .ok (.iload_n 1, 1) := by decide +kernel
theorem dX12_rain_32 : decode cX12_rain 32 = .ok (.iaload, 1) := by decide +kernel
theorem dX12_rain_33 : decode cX12_rain 33 = .ok (.istore_n 3, 1) := by decide +kernel
theorem dX12_rain_34 : decode cX12_rain 34 = .ok (.aload_n 0, 1) := by decide +kernel
theorem dX12_rain_35 : decode cX12_rain 35 = .ok (.getfield 140, 3) := by decide +kernel
theorem dX12_rain_38 : decode cX12_rain 38 = .ok (.iload_n 1, 1) := by decide +kernel
theorem dX12_rain_39 : decode cX12_rain 39 = .ok (.iload_n 2, 1) := by decide +kernel
theorem dX12_rain_40 : decode cX12_rain 40 = .ok (.iastore, 1) := by decide +kernel
theorem dX12_rain_41 : decode cX12_rain 41 = .ok (.iload_n 3, 1) := by decide +kernel
theorem dX12_rain_42 : decode cX12_rain 42 = .ok (.ireturn, 1) := by decide +kernel
set_option maxRecDepth 100000 in
set_option maxHeartbeats 4000000 in
theorem c_X12_rain {l : Launch} {K : KG} {ad : Nat → Nat → Nat} {fl : Nat} {a1 : Int32} {a2 : Int32} {M0 : Mem} {r9 : Int32} {M9 : Mem} (hf : f_X12_rain fl a1 a2 M0 = some (r9, M9)) : Met l yX12_rain (Cond.code yX12_rain cX12_rain 4 (some .int) :: ztb) (RM (2) 0 0) (zPc K LM ad M0 [.ref (ad 0 0), .int a1, .int a2]) (zQ K LM ad (some (.int r9)) M9) 0 0 (zA ad) := by
  refine z_enter (by decide) (Nat.le_of_ble_eq_true rfl) ?_
  intro p e s m args below meth c ls C hin hargs Z hl
  replace C : Cx p s m args meth c cX12_rain 4 "GlassPalaceModel" (some .int) := C
  replace hl : lv_has ls 4 [(0, .ref (ad 0 0)), (1, .int a1), (2, .int a2)] := hl
  have hR : 2 ≤ (RM (2) 0 0).frames ∧ 40 * (2) ≤ (RM (2) 0 0).locals := ⟨Nat.le_refl _, Nat.le_refl _⟩
  have hB : 0 ≤ (RM (2) 0 0).cells ∧ 0 ≤ (RM (2) 0 0).slots := ⟨Nat.zero_le _, Nat.zero_le _⟩
  unfold f_X12_rain at hf
  refine lv_aload_n C.x C.b dX12_rain_0 rfl (lv_at hl 0 rfl) ?_
  refine lv_iload_n C.x C.b dX12_rain_1 rfl (lv_at hl 1 rfl) ?_
  refine lv_iconst (v := 0) C.x C.b dX12_rain_2 (by decide) ?_
  refine lv_bipush (v := 23) C.x C.b dX12_rain_3 (by decide) ?_
  replace hf := bn2_s hf; obtain ⟨v2, m1, hkm1, hf⟩ := hf
  refine z_cV (As := [.int a1, .int 0, .int 23]) (rest := []) (st1 := [.int v2]) C Z mw_X12_in mv_X12_in k_1398 (by decide) (z_hR hR (by decide)) (lvM0 Nat.zero_lt_one) kM0 zc12 (c_X12_in (l := l) (K := K) (ad := ad) hkm1) rfl hl.1 rfl (Nat.le_of_ble_eq_true rfl) dX12_rain_5 hB rfl (fun H locs Z => ?_)
  refine lv_if_ne (tgt := 13) C.x C.b dX12_rain_8 (by decide) (fun hc3 => ?_) (fun hc3 => ?_)
  · replace hf := ite_f hf hc3
    refine lv_aload_n C.x C.b dX12_rain_13 rfl (lv_at hl 0 rfl) ?_
    refine lv_iload_n C.x C.b dX12_rain_14 rfl (lv_at hl 2 rfl) ?_
    refine lv_iconst (v := 0) C.x C.b dX12_rain_15 (by decide) ?_
    refine lv_bipush (v := 99) C.x C.b dX12_rain_16 (by decide) ?_
    replace hf := bn2_s hf; obtain ⟨v5, m4, hkm4, hf⟩ := hf
    refine z_cV (As := [.int a2, .int 0, .int 99]) (rest := []) (st1 := [.int v5]) C Z mw_X12_in mv_X12_in k_1398 (by decide) (z_hR hR (by decide)) (lvM0 Nat.zero_lt_one) kM0 zc12 (c_X12_in (l := l) (K := K) (ad := ad) hkm4) rfl hl.1 rfl (Nat.le_of_ble_eq_true rfl) dX12_rain_18 hB rfl (fun H locs Z => ?_)
    refine lv_if_ne (tgt := 27) C.x C.b dX12_rain_21 (by decide) (fun hc6 => ?_) (fun hc6 => ?_)
    · replace hf := ite_f hf hc6
      refine lv_aload_n C.x C.b dX12_rain_27 rfl (lv_at hl 0 rfl) ?_
      refine z_get C Z (lvM0 Nat.zero_lt_one) kM0 zc12 zin12 40 (by decide) k_1216 rfl svM0_40 dX12_rain_28 ?_
      refine lv_iload_n C.x C.b dX12_rain_31 rfl (lv_at hl 1 rfl) ?_
      replace hf := asr_s hf; obtain ⟨hq7, hf⟩ := hf
      refine z_iald C Z (lvM28 Nat.zero_lt_one) kM28 hq7 svM28 dX12_rain_32 ?_
      replace hf := lt1_s hf; obtain ⟨x8, ex8, hf⟩ := hf
      refine z_renI ex8 ?_
      refine z_istore_n (lv' := [(3, .int x8), (0, .ref (ad 0 0)), (1, .int a1), (2, .int a2)]) C dX12_rain_33 rfl hl (by decide) rfl (onlast 2 rfl rfl rfl) (fun ls hl => ?_)
      refine lv_aload_n C.x C.b dX12_rain_34 rfl (lv_at hl 1 rfl) ?_
      refine z_get C Z (lvM0 Nat.zero_lt_one) kM0 zc12 zin12 40 (by decide) k_1216 rfl svM0_40 dX12_rain_35 ?_
      refine lv_iload_n C.x C.b dX12_rain_38 rfl (lv_at hl 2 rfl) ?_
      refine lv_iload_n C.x C.b dX12_rain_39 rfl (lv_at hl 3 rfl) ?_
      replace hf := asr_s hf; obtain ⟨hq9, hf⟩ := hf
      replace hf := lt1_s hf; obtain ⟨m10, em10, hf⟩ := hf
      refine z_iast (M1 := m10) C Z (lvM28 Nat.zero_lt_one) (by decide) kM28 hq9 em10 stM28u dX12_rain_40 (fun H locs Z => ?_)
      refine lv_iload_n C.x C.b dX12_rain_41 rfl (lv_at hl 0 rfl) ?_
      obtain ⟨rfl, rfl⟩ := pr_s hf
      exact z_iret C Z dX12_rain_42
    · replace hf := ite_t hf hc6
      refine lv_bipush (v := (-2)) C.x C.b dX12_rain_24 (by decide) ?_
      obtain ⟨rfl, rfl⟩ := pr_s hf
      exact z_iret C Z dX12_rain_26
  · replace hf := ite_t hf hc3
    refine lv_iconst (v := (-1)) C.x C.b dX12_rain_11 (by decide) ?_
    obtain ⟨rfl, rfl⟩ := pr_s hf
    exact z_iret C Z dX12_rain_12
theorem dX12_leads_0 : decode cX12_leads 0 = .ok (.aload_n 0, 1) := by decide +kernel
theorem dX12_leads_1 : decode cX12_leads 1 = .ok (.iload_n 1, 1) := by decide +kernel
theorem dX12_leads_2 : decode cX12_leads 2 = .ok (.invokevirtual 241, 3) := by decide +kernel
theorem dX12_leads_5 : decode cX12_leads 5 = .ok (.ifCond .eq 16, 3) := by decide +kernel
theorem dX12_leads_8 : decode cX12_leads 8 = .ok (.iload_n 2, 1) := by decide +kernel
theorem dX12_leads_9 : decode cX12_leads 9 = .ok (.iconst (-1), 1) := by decide +kernel
theorem dX12_leads_10 : decode cX12_leads 10 = .ok (.if_icmp .eq 13, 3) := by decide +kernel
theorem dX12_leads_13 : decode cX12_leads 13 = .ok (.aload_n 0, 1) := by decide +kernel
theorem dX12_leads_14 : decode cX12_leads 14 = .ok (.iload_n 2, 1) := by decide +kernel
theorem dX12_leads_15 : decode cX12_leads 15 = .ok (.invokevirtual 241, 3) := by decide +kernel
theorem dX12_leads_18 : decode cX12_leads 18 = .ok (.ifCond .ne 5, 3) := by decide +kernel
theorem dX12_leads_21 : decode cX12_leads 21 = .ok (.iconst (-1), 1) := by decide +kernel
theorem dX12_leads_22 : decode cX12_leads 22 = .ok (.ireturn, 1) := by decide +kernel
theorem dX12_leads_23 : decode cX12_leads 23 = .ok (.iload_n 2, 1) := by decide +kernel
theorem dX12_leads_24 : decode cX12_leads 24 = .ok (.ifCond .lt 15, 3) := by decide +kernel
theorem dX12_leads_27 : decode cX12_leads 27 = .ok (.aload_n 0, 1) := by decide +kernel
theorem dX12_leads_28 : decode cX12_leads 28 = .ok (.iload_n 1, 1) := by decide +kernel
theorem dX12_leads_29 : decode cX12_leads 29 = .ok (.iload_n 2, 1) := by decide +kernel
theorem dX12_leads_30 : decode cX12_leads 30 = .ok (.invokevirtual 347, 3) := by decide +kernel
theorem dX12_leads_33 : decode cX12_leads 33 = .ok (.ifCond .ne 6, 3) := by decide +kernel
theorem dX12_leads_36 : decode cX12_leads 36 = .ok (.bipush (-2), 2) := by decide +kernel
theorem dX12_leads_38 : decode cX12_leads 38 = .ok (.ireturn, 1) := by decide +kernel
theorem dX12_leads_39 : decode cX12_leads 39 = .ok (.aload_n 0, 1) := by decide +kernel
theorem dX12_leads_40 : decode cX12_leads 40 = .ok (.iload_n 1, 1) := by decide +kernel
theorem dX12_leads_41 : decode cX12_leads 41 = .ok (.iconst 4, 1) := by decide +kernel
theorem dX12_leads_42 : decode cX12_leads 42 = .ok (.invokevirtual 237, 3) := by decide +kernel
theorem dX12_leads_45 : decode cX12_leads 45 = .ok (.ifCond .ne 6, 3) := by decide +kernel
theorem dX12_leads_48 : decode cX12_leads 48 = .ok (.bipush (-3), 2) := by decide +kernel
theorem dX12_leads_50 : decode cX12_leads 50 = .ok (.ireturn, 1) := by decide +kernel
theorem dX12_leads_51 : decode cX12_leads 51 = .ok (.aload_n 0, 1) := by decide +kernel
theorem dX12_leads_52 : decode cX12_leads 52 = .ok (.getfield 77, 3) := by decide +kernel
theorem dX12_leads_55 : decode cX12_leads 55 = .ok (.iload_n 1, 1) := by decide +kernel
theorem dX12_leads_56 : decode cX12_leads 56 = .ok (.iload_n 2, 1) := by decide +kernel
theorem dX12_leads_57 : decode cX12_leads 57 = .ok (.iastore, 1) := by decide +kernel
theorem dX12_leads_58 : decode cX12_leads 58 = .ok (.iconst 1, 1) := by decide +kernel
theorem dX12_leads_59 : decode cX12_leads 59 = .ok (.ireturn, 1) := by decide +kernel
set_option maxRecDepth 100000 in
set_option maxHeartbeats 4000000 in
theorem w_X12_leads_b39 {p : Program} {l : Launch} {e : Env} {s : State} {m : MethodId} {args : Array Value} {below : List Frame} {meth : Method} {c : Code} {K : KG} {ad : Nat → Nat → Nat} {fl : Nat} {H : Heap} {locs : List Loc} {ls : Array Slot} {g1 : Int32} {g2 : Int32} {M0 : Mem} {r9 : Int32} {M9 : Mem} (C : Cx p s m args meth c cX12_leads 3 "GlassPalaceModel" (some .int)) (hR : 3 ≤ (RM (3) 0 0).frames ∧ 40 * (3) ≤ (RM (3) 0 0).locals) (hB : 0 ≤ (RM (3) 0 0).cells ∧ 0 ≤ (RM (3) 0 0).slots) (Z : Zd K LM ad M0 s H locs) (hl : lv_has ls 3 [(0, .ref (ad 0 0)), (1, .int g1), (2, .int g2)]) (hf : f_X12_leads_b39 fl g1 g2 M0 = some (r9, M9)) : W p l e (RM (3) 0 0) s m args below meth c H locs 0 0 (MQ below (zQ K LM ad (some (.int r9)) M9) args s 0 0 (zA ad)) (F0 m 39 ls []) := by
  unfold f_X12_leads_b39 at hf
  refine lv_aload_n C.x C.b dX12_leads_39 rfl (lv_at hl 0 rfl) ?_
  refine lv_iload_n C.x C.b dX12_leads_40 rfl (lv_at hl 1 rfl) ?_
  refine lv_iconst (v := 4) C.x C.b dX12_leads_41 (by decide) ?_
  replace hf := bn2_s hf; obtain ⟨v7, m6, hkm6, hf⟩ := hf
  refine z_cV (As := [.int g1, .int 4]) (rest := []) (st1 := [.int v7]) C Z mw_X12_has mv_X12_has k_1414 (by decide) (z_hR hR (by decide)) (lvM0 Nat.zero_lt_one) kM0 zc12 (c_X12_has (l := l) (K := K) (ad := ad) hkm6) rfl hl.1 rfl (Nat.le_of_ble_eq_true rfl) dX12_leads_42 hB rfl (fun H locs Z => ?_)
  refine lv_if_ne (tgt := 51) C.x C.b dX12_leads_45 (by decide) (fun hc8 => ?_) (fun hc8 => ?_)
  · replace hf := ite_f hf hc8
    refine lv_aload_n C.x C.b dX12_leads_51 rfl (lv_at hl 0 rfl) ?_
    refine z_get C Z (lvM0 Nat.zero_lt_one) kM0 zc12 zin12 19 (by decide) k_1195 rfl svM0_19 dX12_leads_52 ?_
    refine lv_iload_n C.x C.b dX12_leads_55 rfl (lv_at hl 1 rfl) ?_
    refine lv_iload_n C.x C.b dX12_leads_56 rfl (lv_at hl 2 rfl) ?_
    replace hf := asr_s hf; obtain ⟨hq9, hf⟩ := hf
    replace hf := lt1_s hf; obtain ⟨m10, em10, hf⟩ := hf
    refine z_iast (M1 := m10) C Z (lvM17 Nat.zero_lt_one) (by decide) kM17 hq9 em10 stM17u dX12_leads_57 (fun H locs Z => ?_)
    refine lv_iconst (v := 1) C.x C.b dX12_leads_58 (by decide) ?_
    obtain ⟨rfl, rfl⟩ := pr_s hf
    exact z_iret C Z dX12_leads_59
  · replace hf := ite_t hf hc8
    refine lv_bipush (v := (-3)) C.x C.b dX12_leads_48 (by decide) ?_
    obtain ⟨rfl, rfl⟩ := pr_s hf
    exact z_iret C Z dX12_leads_50
set_option maxRecDepth 100000 in
set_option maxHeartbeats 4000000 in
theorem w_X12_leads_b23 {p : Program} {l : Launch} {e : Env} {s : State} {m : MethodId} {args : Array Value} {below : List Frame} {meth : Method} {c : Code} {K : KG} {ad : Nat → Nat → Nat} {fl : Nat} {H : Heap} {locs : List Loc} {ls : Array Slot} {g1 : Int32} {g2 : Int32} {M0 : Mem} {r9 : Int32} {M9 : Mem} (C : Cx p s m args meth c cX12_leads 3 "GlassPalaceModel" (some .int)) (hR : 3 ≤ (RM (3) 0 0).frames ∧ 40 * (3) ≤ (RM (3) 0 0).locals) (hB : 0 ≤ (RM (3) 0 0).cells ∧ 0 ≤ (RM (3) 0 0).slots) (Z : Zd K LM ad M0 s H locs) (hl : lv_has ls 3 [(0, .ref (ad 0 0)), (1, .int g1), (2, .int g2)]) (hf : f_X12_leads_b23 fl g1 g2 M0 = some (r9, M9)) : W p l e (RM (3) 0 0) s m args below meth c H locs 0 0 (MQ below (zQ K LM ad (some (.int r9)) M9) args s 0 0 (zA ad)) (F0 m 23 ls []) := by
  unfold f_X12_leads_b23 at hf
  refine lv_iload_n C.x C.b dX12_leads_23 rfl (lv_at hl 2 rfl) ?_
  refine lv_if_lt (tgt := 39) C.x C.b dX12_leads_24 (by decide) (fun hc5 => ?_) (fun hc5 => ?_)
  · replace hf := ite_t hf hc5
    exact w_X12_leads_b39 C hR hB  Z (lv_sub hl [0, 1, 2] rfl) hf
  · replace hf := ite_f hf hc5
    refine lv_aload_n C.x C.b dX12_leads_27 rfl (lv_at hl 0 rfl) ?_
    refine lv_iload_n C.x C.b dX12_leads_28 rfl (lv_at hl 1 rfl) ?_
    refine lv_iload_n C.x C.b dX12_leads_29 rfl (lv_at hl 2 rfl) ?_
    replace hf := bn2_s hf; obtain ⟨v12, m11, hkm11, hf⟩ := hf
    refine z_cV (As := [.int g1, .int g2]) (rest := []) (st1 := [.int v12]) C Z mw_X12_areBeside mv_X12_areBeside k_1625 (by decide) (z_hR hR (by decide)) (lvM0 Nat.zero_lt_one) kM0 zc12 (c_X12_areBeside (l := l) (K := K) (ad := ad) hkm11) rfl hl.1 rfl (Nat.le_of_ble_eq_true rfl) dX12_leads_30 hB rfl (fun H locs Z => ?_)
    refine lv_if_ne (tgt := 39) C.x C.b dX12_leads_33 (by decide) (fun hc13 => ?_) (fun hc13 => ?_)
    · replace hf := ite_f hf hc13
      exact w_X12_leads_b39 C hR hB  Z (lv_sub hl [0, 1, 2] rfl) hf
    · replace hf := ite_t hf hc13
      refine lv_bipush (v := (-2)) C.x C.b dX12_leads_36 (by decide) ?_
      obtain ⟨rfl, rfl⟩ := pr_s hf
      exact z_iret C Z dX12_leads_38
set_option maxRecDepth 100000 in
set_option maxHeartbeats 4000000 in
theorem c_X12_leads {l : Launch} {K : KG} {ad : Nat → Nat → Nat} {fl : Nat} {a1 : Int32} {a2 : Int32} {M0 : Mem} {r9 : Int32} {M9 : Mem} (hf : f_X12_leads fl a1 a2 M0 = some (r9, M9)) : Met l yX12_leads (Cond.code yX12_leads cX12_leads 3 (some .int) :: ztb) (RM (3) 0 0) (zPc K LM ad M0 [.ref (ad 0 0), .int a1, .int a2]) (zQ K LM ad (some (.int r9)) M9) 0 0 (zA ad) := by
  refine z_enter (by decide) (Nat.le_of_ble_eq_true rfl) ?_
  intro p e s m args below meth c ls C hin hargs Z hl
  replace C : Cx p s m args meth c cX12_leads 3 "GlassPalaceModel" (some .int) := C
  replace hl : lv_has ls 3 [(0, .ref (ad 0 0)), (1, .int a1), (2, .int a2)] := hl
  have hR : 3 ≤ (RM (3) 0 0).frames ∧ 40 * (3) ≤ (RM (3) 0 0).locals := ⟨Nat.le_refl _, Nat.le_refl _⟩
  have hB : 0 ≤ (RM (3) 0 0).cells ∧ 0 ≤ (RM (3) 0 0).slots := ⟨Nat.zero_le _, Nat.zero_le _⟩
  unfold f_X12_leads at hf
  refine lv_aload_n C.x C.b dX12_leads_0 rfl (lv_at hl 0 rfl) ?_
  refine lv_iload_n C.x C.b dX12_leads_1 rfl (lv_at hl 1 rfl) ?_
  replace hf := bn2_s hf; obtain ⟨v2, m1, hkm1, hf⟩ := hf
  refine z_cV (As := [.int a1]) (rest := []) (st1 := [.int v2]) C Z mw_X12_isBay mv_X12_isBay k_1406 (by decide) (z_hR hR (by decide)) (lvM0 Nat.zero_lt_one) kM0 zc12 (c_X12_isBay (l := l) (K := K) (ad := ad) hkm1) rfl hl.1 rfl (Nat.le_of_ble_eq_true rfl) dX12_leads_2 hB rfl (fun H locs Z => ?_)
  refine lv_if_eq (tgt := 21) C.x C.b dX12_leads_5 (by decide) (fun hc3 => ?_) (fun hc3 => ?_)
  · replace hf := ite_t hf hc3
    refine lv_iconst (v := (-1)) C.x C.b dX12_leads_21 (by decide) ?_
    obtain ⟨rfl, rfl⟩ := pr_s hf
    exact z_iret C Z dX12_leads_22
  · replace hf := ite_f hf hc3
    refine lv_iload_n C.x C.b dX12_leads_8 rfl (lv_at hl 2 rfl) ?_
    refine lv_iconst (v := (-1)) C.x C.b dX12_leads_9 (by decide) ?_
    refine lv_icmp_eq (tgt := 23) C.x C.b dX12_leads_10 (by decide) (fun hc4 => ?_) (fun hc4 => ?_)
    · replace hf := ite_t hf hc4
      exact w_X12_leads_b23 C hR hB  Z (lv_sub hl [0, 1, 2] rfl) hf
    · replace hf := ite_f hf hc4
      refine lv_aload_n C.x C.b dX12_leads_13 rfl (lv_at hl 0 rfl) ?_
      refine lv_iload_n C.x C.b dX12_leads_14 rfl (lv_at hl 2 rfl) ?_
      replace hf := bn2_s hf; obtain ⟨v15, m14, hkm14, hf⟩ := hf
      refine z_cV (As := [.int a2]) (rest := []) (st1 := [.int v15]) C Z mw_X12_isBay mv_X12_isBay k_1406 (by decide) (z_hR hR (by decide)) (lvM0 Nat.zero_lt_one) kM0 zc12 (c_X12_isBay (l := l) (K := K) (ad := ad) hkm14) rfl hl.1 rfl (Nat.le_of_ble_eq_true rfl) dX12_leads_15 hB rfl (fun H locs Z => ?_)
      refine lv_if_ne (tgt := 23) C.x C.b dX12_leads_18 (by decide) (fun hc16 => ?_) (fun hc16 => ?_)
      · replace hf := ite_f hf hc16
        exact w_X12_leads_b23 C hR hB  Z (lv_sub hl [0, 1, 2] rfl) hf
      · replace hf := ite_t hf hc16
        refine lv_iconst (v := (-1)) C.x C.b dX12_leads_21 (by decide) ?_
        obtain ⟨rfl, rfl⟩ := pr_s hf
        exact z_iret C Z dX12_leads_22
theorem dX12_flow_0 : decode cX12_flow 0 = .ok (.iconst 0, 1) := by decide +kernel
theorem dX12_flow_1 : decode cX12_flow 1 = .ok (.istore_n 2, 1) := by decide +kernel
theorem dX12_flow_2 : decode cX12_flow 2 = .ok (.iload_n 2, 1) := by decide +kernel
theorem dX12_flow_3 : decode cX12_flow 3 = .ok (.bipush 30, 2) := by decide +kernel
theorem dX12_flow_5 : decode cX12_flow 5 = .ok (.if_icmp .ge 30, 3) := by decide +kernel
theorem dX12_flow_8 : decode cX12_flow 8 = .ok (.aload_n 0, 1) := by decide +kernel
theorem dX12_flow_9 : decode cX12_flow 9 = .ok (.getfield 143, 3) := by decide +kernel
theorem dX12_flow_12 : decode cX12_flow 12 = .ok (.iload_n 2, 1) := by decide +kernel
theorem dX12_flow_13 : decode cX12_flow 13 = .ok (.iconst 0, 1) := by decide +kernel
theorem dX12_flow_14 : decode cX12_flow 14 = .ok (.iastore, 1) := by decide +kernel
theorem dX12_flow_15 : decode cX12_flow 15 = .ok (.aload_n 0, 1) := by decide +kernel
theorem dX12_flow_16 : decode cX12_flow 16 = .ok (.getfield 146, 3) := by decide +kernel
theorem dX12_flow_19 : decode cX12_flow 19 = .ok (.iload_n 2, 1) := by decide +kernel
theorem dX12_flow_20 : decode cX12_flow 20 = .ok (.iconst 0, 1) := by decide +kernel
theorem dX12_flow_21 : decode cX12_flow 21 = .ok (.iastore, 1) := by decide +kernel
theorem dX12_flow_22 : decode cX12_flow 22 = .ok (.aload_n 0, 1) := by decide +kernel
theorem dX12_flow_23 : decode cX12_flow 23 = .ok (.getfield 149, 3) := by decide +kernel
theorem dX12_flow_26 : decode cX12_flow 26 = .ok (.iload_n 2, 1) := by decide +kernel
theorem dX12_flow_27 : decode cX12_flow 27 = .ok (.iconst 0, 1) := by decide +kernel
theorem dX12_flow_28 : decode cX12_flow 28 = .ok (.iastore, 1) := by decide +kernel
theorem dX12_flow_29 : decode cX12_flow 29 = .ok (.iinc 2 1, 3) := by decide +kernel
theorem dX12_flow_32 : decode cX12_flow 32 = .ok (.goto (-30), 3) := by decide +kernel
theorem dX12_flow_35 : decode cX12_flow 35 = .ok (.iconst 0, 1) := by decide +kernel
theorem dX12_flow_36 : decode cX12_flow 36 = .ok (.istore_n 2, 1) := by decide +kernel
theorem dX12_flow_37 : decode cX12_flow 37 = .ok (.iload_n 2, 1) := by decide +kernel
theorem dX12_flow_38 : decode cX12_flow 38 = .ok (.iload_n 1, 1) := by decide +kernel
theorem dX12_flow_39 : decode cX12_flow 39 = .ok (.if_icmp .gt 230, 3) := by decide +kernel
theorem dX12_flow_42 : decode cX12_flow 42 = .ok (.iconst 0, 1) := by decide +kernel
theorem dX12_flow_43 : decode cX12_flow 43 = .ok (.istore_n 3, 1) := by decide +kernel
theorem dX12_flow_44 : decode cX12_flow 44 = .ok (.iload_n 3, 1) := by decide +kernel
theorem dX12_flow_45 : decode cX12_flow 45 = .ok (.bipush 30, 2) := by decide +kernel
theorem dX12_flow_47 : decode cX12_flow 47 = .ok (.if_icmp .ge 57, 3) := by decide +kernel
theorem dX12_flow_50 : decode cX12_flow 50 = .ok (.aload_n 0, 1) := by decide +kernel
theorem dX12_flow_51 : decode cX12_flow 51 = .ok (.getfield 71, 3) := by decide +kernel
theorem dX12_flow_54 : decode cX12_flow 54 = .ok (.iload_n 3, 1) := by decide +kernel
theorem dX12_flow_55 : decode cX12_flow 55 = .ok (.iaload, 1) := by decide +kernel
theorem dX12_flow_56 : decode cX12_flow 56 = .ok (.ifCond .le 35, 3) := by decide +kernel
theorem dX12_flow_59 : decode cX12_flow 59 = .ok (.aload_n 0, 1) := by decide +kernel
theorem dX12_flow_60 : decode cX12_flow 60 = .ok (.getfield 143, 3) := by decide +kernel
theorem dX12_flow_63 : decode cX12_flow 63 = .ok (.iload_n 3, 1) := by decide +kernel
theorem dX12_flow_64 : decode cX12_flow 64 = .ok (.dup2, 1) := by decide +kernel
theorem dX12_flow_65 : decode cX12_flow 65 = .ok (.iaload, 1) := by decide +kernel
theorem dX12_flow_66 : decode cX12_flow 66 = .ok (.aload_n 0, 1) := by decide +kernel
theorem dX12_flow_67 : decode cX12_flow 67 = .ok (.getfield 140, 3) := by decide +kernel
theorem dX12_flow_70 : decode cX12_flow 70 = .ok (.iload_n 2, 1) := by decide +kernel
theorem dX12_flow_71 : decode cX12_flow 71 = .ok (.iaload, 1) := by decide +kernel
theorem dX12_flow_72 : decode cX12_flow 72 = .ok (.aload_n 0, 1) := by decide +kernel
theorem dX12_flow_73 : decode cX12_flow 73 = .ok (.getfield 71, 3) := by decide +kernel
theorem dX12_flow_76 : decode cX12_flow 76 = .ok (.iload_n 3, 1) := by decide +kernel
theorem dX12_flow_77 : decode cX12_flow 77 = .ok (.iaload, 1) := by decide +kernel
theorem dX12_flow_78 : decode cX12_flow 78 = .ok (.imul, 1) := by decide +kernel
theorem dX12_flow_79 : decode cX12_flow 79 = .ok (.bipush 8, 2) := by decide +kernel
theorem dX12_flow_81 : decode cX12_flow 81 = .ok (.idiv, 1) := by decide +kernel
theorem dX12_flow_82 : decode cX12_flow 82 = .ok (.aload_n 0, 1) := by decide +kernel
theorem dX12_flow_83 : decode cX12_flow 83 = .ok (.getfield 146, 3) := by decide +kernel
theorem dX12_flow_86 : decode cX12_flow 86 = .ok (.iload_n 3, 1) := by decide +kernel
theorem dX12_flow_87 : decode cX12_flow 87 = .ok (.iaload, 1) := by decide +kernel
theorem dX12_flow_88 : decode cX12_flow 88 = .ok (.iadd, 1) := by decide +kernel
theorem dX12_flow_89 : decode cX12_flow 89 = .ok (.iadd, 1) := by decide +kernel
theorem dX12_flow_90 : decode cX12_flow 90 = .ok (.iastore, 1) := by decide +kernel
theorem dX12_flow_91 : decode cX12_flow 91 = .ok (.aload_n 0, 1) := by decide +kernel
theorem dX12_flow_92 : decode cX12_flow 92 = .ok (.getfield 146, 3) := by decide +kernel
theorem dX12_flow_95 : decode cX12_flow 95 = .ok (.iload_n 3, 1) := by decide +kernel
theorem dX12_flow_96 : decode cX12_flow 96 = .ok (.iconst 0, 1) := by decide +kernel
theorem dX12_flow_97 : decode cX12_flow 97 = .ok (.iastore, 1) := by decide +kernel
theorem dX12_flow_98 : decode cX12_flow 98 = .ok (.iinc 3 1, 3) := by decide +kernel
theorem dX12_flow_101 : decode cX12_flow 101 = .ok (.goto (-57), 3) := by decide +kernel
theorem dX12_flow_104 : decode cX12_flow 104 = .ok (.iconst 0, 1) := by decide +kernel
theorem dX12_flow_105 : decode cX12_flow 105 = .ok (.istore_n 3, 1) := by decide +kernel
theorem dX12_flow_106 : decode cX12_flow 106 = .ok (.iload_n 3, 1) := by decide +kernel
theorem dX12_flow_107 : decode cX12_flow 107 = .ok (.bipush 30, 2) := by decide +kernel
theorem dX12_flow_109 : decode cX12_flow 109 = .ok (.if_icmp .ge 107, 3) := by decide +kernel
theorem dX12_flow_112 : decode cX12_flow 112 = .ok (.aload_n 0, 1) := by decide +kernel
theorem dX12_flow_113 : decode cX12_flow 113 = .ok (.getfield 71, 3) := by decide +kernel
theorem dX12_flow_116 : decode cX12_flow 116 = .ok (.iload_n 3, 1) := by decide +kernel
theorem dX12_flow_117 : decode cX12_flow 117 = .ok (.iaload, 1) := by decide +kernel
theorem dX12_flow_118 : decode cX12_flow 118 = .ok (.ifCond .eq 92, 3) := by decide +kernel
theorem dX12_flow_121 : decode cX12_flow 121 = .ok (.aload_n 0, 1) := by decide +kernel
theorem dX12_flow_122 : decode cX12_flow 122 = .ok (.iload_n 3, 1) := by decide +kernel
theorem dX12_flow_123 : decode cX12_flow 123 = .ok (.iconst 4, 1) := by decide +kernel
theorem dX12_flow_124 : decode cX12_flow 124 = .ok (.invokevirtual 237, 3) := by decide +kernel
theorem dX12_flow_127 : decode cX12_flow 127 = .ok (.ifCond .ne 6, 3) := by decide +kernel
theorem dX12_flow_130 : decode cX12_flow 130 = .ok (.goto 80, 3) := by decide +kernel
theorem dX12_flow_133 : decode cX12_flow 133 = .ok (.aload_n 0, 1) := by decide +kernel
theorem dX12_flow_134 : decode cX12_flow 134 = .ok (.getfield 46, 3) := by decide +kernel
theorem dX12_flow_137 : decode cX12_flow 137 = .ok (.aload_n 0, 1) := by decide +kernel
theorem dX12_flow_138 : decode cX12_flow 138 = .ok (.getfield 68, 3) := by decide +kernel
theorem dX12_flow_141 : decode cX12_flow 141 = .ok (.iconst 5, 1) := by decide +kernel
theorem dX12_flow_142 : decode cX12_flow 142 = .ok (.iload_n 3, 1) := by decide +kernel
theorem dX12_flow_143 : decode cX12_flow 143 = .ok (.imul, 1) := by decide +kernel
theorem dX12_flow_144 : decode cX12_flow 144 = .ok (.iconst 3, 1) := by decide +kernel
theorem dX12_flow_145 : decode cX12_flow 145 = .ok (.iadd, 1) := by decide +kernel
theorem dX12_flow_146 : decode cX12_flow 146 = .ok (.iaload, 1) := by decide +kernel
theorem dX12_flow_147 : decode cX12_flow 147 = .ok (.iaload, 1) := by decide +kernel
theorem dX12_flow_148 : decode cX12_flow 148 = .ok (.istore 4, 2) := by decide +kernel
theorem dX12_flow_150 : decode cX12_flow 150 = .ok (.iload 4, 2) := by decide +kernel
theorem dX12_flow_152 : decode cX12_flow 152 = .ok (.aload_n 0, 1) := by decide +kernel
theorem dX12_flow_153 : decode cX12_flow 153 = .ok (.getfield 143, 3) := by decide +kernel
theorem dX12_flow_156 : decode cX12_flow 156 = .ok (.iload_n 3, 1) := by decide +kernel
theorem dX12_flow_157 : decode cX12_flow 157 = .ok (.iaload, 1) := by decide +kernel
theorem dX12_flow_158 : decode cX12_flow 158 = .ok (.if_icmp .ge 8, 3) := by decide +kernel
theorem dX12_flow_161 : decode cX12_flow 161 = .ok (.iload 4, 2) := by decide +kernel
theorem dX12_flow_163 : decode cX12_flow 163 = .ok (.goto 9, 3) := by decide +kernel
theorem dX12_flow_166 : decode cX12_flow 166 = .ok (.aload_n 0, 1) := by decide +kernel
theorem dX12_flow_167 : decode cX12_flow 167 = .ok (.getfield 143, 3) := by decide +kernel
theorem dX12_flow_170 : decode cX12_flow 170 = .ok (.iload_n 3, 1) := by decide +kernel
theorem dX12_flow_171 : decode cX12_flow 171 = .ok (.iaload, 1) := by decide +kernel
theorem dX12_flow_172 : decode cX12_flow 172 = .ok (.istore 5, 2) := by decide +kernel
theorem dX12_flow_174 : decode cX12_flow 174 = .ok (.aload_n 0, 1) := by decide +kernel
theorem dX12_flow_175 : decode cX12_flow 175 = .ok (.getfield 143, 3) := by decide +kernel
theorem dX12_flow_178 : decode cX12_flow 178 = .ok (.iload_n 3, 1) := by decide +kernel
theorem dX12_flow_179 : decode cX12_flow 179 = .ok (.dup2, 1) := by decide +kernel
theorem dX12_flow_180 : decode cX12_flow 180 = .ok (.iaload, 1) := by decide +kernel
theorem dX12_flow_181 : decode cX12_flow 181 = .ok (.iload 5, 2) := by decide +kernel
theorem dX12_flow_183 : decode cX12_flow 183 = .ok (.isub, 1) := by decide +kernel
theorem dX12_flow_184 : decode cX12_flow 184 = .ok (.iastore, 1) := by decide +kernel
theorem dX12_flow_185 : decode cX12_flow 185 = .ok (.aload_n 0, 1) := by decide +kernel
theorem dX12_flow_186 : decode cX12_flow 186 = .ok (.getfield 77, 3) := by decide +kernel
theorem dX12_flow_189 : decode cX12_flow 189 = .ok (.iload_n 3, 1) := by decide +kernel
theorem dX12_flow_190 : decode cX12_flow 190 = .ok (.iaload, 1) := by decide +kernel
theorem dX12_flow_191 : decode cX12_flow 191 = .ok (.ifCond .lt 19, 3) := by decide +kernel
theorem dX12_flow_194 : decode cX12_flow 194 = .ok (.aload_n 0, 1) := by decide +kernel
theorem dX12_flow_195 : decode cX12_flow 195 = .ok (.getfield 146, 3) := by decide +kernel
theorem dX12_flow_198 : decode cX12_flow 198 = .ok (.aload_n 0, 1) := by decide +kernel
theorem dX12_flow_199 : decode cX12_flow 199 = .ok (.getfield 77, 3) := by decide +kernel
theorem dX12_flow_202 : decode cX12_flow 202 = .ok (.iload_n 3, 1) := by decide +kernel
theorem dX12_flow_203 : decode cX12_flow 203 = .ok (.iaload, 1) := by decide +kernel
theorem dX12_flow_204 : decode cX12_flow 204 = .ok (.dup2, 1) := by decide +kernel
theorem dX12_flow_205 : decode cX12_flow 205 = .ok (.iaload, 1) := by decide +kernel
theorem dX12_flow_206 : decode cX12_flow 206 = .ok (.iload 5, 2) := by decide +kernel
theorem dX12_flow_208 : decode cX12_flow 208 = .ok (.iadd, 1) := by decide +kernel
theorem dX12_flow_209 : decode cX12_flow 209 = .ok (.iastore, 1) := by decide +kernel
theorem dX12_flow_210 : decode cX12_flow 210 = .ok (.iinc 3 1, 3) := by decide +kernel
theorem dX12_flow_213 : decode cX12_flow 213 = .ok (.goto (-107), 3) := by decide +kernel
theorem dX12_flow_216 : decode cX12_flow 216 = .ok (.iconst 0, 1) := by decide +kernel
theorem dX12_flow_217 : decode cX12_flow 217 = .ok (.istore_n 3, 1) := by decide +kernel
theorem dX12_flow_218 : decode cX12_flow 218 = .ok (.iload_n 3, 1) := by decide +kernel
theorem dX12_flow_219 : decode cX12_flow 219 = .ok (.bipush 30, 2) := by decide +kernel
theorem dX12_flow_221 : decode cX12_flow 221 = .ok (.if_icmp .ge 42, 3) := by decide +kernel
theorem dX12_flow_224 : decode cX12_flow 224 = .ok (.aload_n 0, 1) := by decide +kernel
theorem dX12_flow_225 : decode cX12_flow 225 = .ok (.getfield 149, 3) := by decide +kernel
theorem dX12_flow_228 : decode cX12_flow 228 = .ok (.iload_n 3, 1) := by decide +kernel
theorem dX12_flow_229 : decode cX12_flow 229 = .ok (.dup2, 1) := by decide +kernel
theorem dX12_flow_230 : decode cX12_flow 230 = .ok (.iaload, 1) := by decide +kernel
theorem dX12_flow_231 : decode cX12_flow 231 = .ok (.aload_n 0, 1) := by decide +kernel
theorem dX12_flow_232 : decode cX12_flow 232 = .ok (.getfield 143, 3) := by decide +kernel
theorem dX12_flow_235 : decode cX12_flow 235 = .ok (.iload_n 3, 1) := by decide +kernel
theorem dX12_flow_236 : decode cX12_flow 236 = .ok (.iaload, 1) := by decide +kernel
theorem dX12_flow_237 : decode cX12_flow 237 = .ok (.bipush 50, 2) := by decide +kernel
theorem dX12_flow_239 : decode cX12_flow 239 = .ok (.if_icmp .le 15, 3) := by decide +kernel
theorem dX12_flow_242 : decode cX12_flow 242 = .ok (.aload_n 0, 1) := by decide +kernel
theorem dX12_flow_243 : decode cX12_flow 243 = .ok (.getfield 143, 3) := by decide +kernel
theorem dX12_flow_246 : decode cX12_flow 246 = .ok (.iload_n 3, 1) := by decide +kernel
theorem dX12_flow_247 : decode cX12_flow 247 = .ok (.iaload, 1) := by decide +kernel
theorem dX12_flow_248 : decode cX12_flow 248 = .ok (.bipush 50, 2) := by decide +kernel
theorem dX12_flow_250 : decode cX12_flow 250 = .ok (.isub, 1) := by decide +kernel
theorem dX12_flow_251 : decode cX12_flow 251 = .ok (.goto 4, 3) := by decide +kernel
theorem dX12_flow_254 : decode cX12_flow 254 = .ok (.iconst 0, 1) := by decide +kernel
theorem dX12_flow_255 : decode cX12_flow 255 = .ok (.iadd, 1) := by decide +kernel
theorem dX12_flow_256 : decode cX12_flow 256 = .ok (.iastore, 1) := by decide +kernel
theorem dX12_flow_257 : decode cX12_flow 257 = .ok (.iinc 3 1, 3) := by decide +kernel
theorem dX12_flow_260 : decode cX12_flow 260 = .ok (.goto (-42), 3) := by decide +kernel
theorem dX12_flow_263 : decode cX12_flow 263 = .ok (.iinc 2 1, 3) := by decide +kernel
theorem dX12_flow_266 : decode cX12_flow 266 = .ok (.goto (-229), 3) := by decide +kernel
theorem dX12_flow_269 : decode cX12_flow 269 = .ok (.return_, 1) := by decide +kernel
set_option maxRecDepth 100000 in
set_option maxHeartbeats 4000000 in
theorem w_X12_flow_l2 {p : Program} {l : Launch} {e : Env} {R : Room} {s : State} {m : MethodId} {args : Array Value} {below : List Frame} {meth : Method} {c : Code} {cells slots : Nat} {Q : State → Prop} {K : KG} {ad : Nat → Nat → Nat} {fl : Nat} {g1 : Int32} (C : Cx p s m args meth c cX12_flow 6 "GlassPalaceModel" none) (hR : 2 ≤ R.frames ∧ 40 * (2) ≤ R.locals) (hB : cells ≤ R.cells ∧ slots ≤ R.slots) : ∀ (n : Nat) (u2 : Int32) (M0 : Mem) (H : Heap) (locs : List Loc) (ls : Array Slot), Zd K LM ad M0 s H locs → lv_has ls 6 [(0, .ref (ad 0 0)), (1, .int g1), (2, .int u2)] → ∀ (Mq : Mem), f_X12_flow_l2 fl g1 n u2 M0 = some Mq → (∀ (H : Heap) (locs : List Loc) (ls : Array Slot), Zd K LM ad Mq s H locs → lv_has ls 6 [(0, .ref (ad 0 0)), (1, .int g1)] → W p l e R s m args below meth c H locs cells slots Q (F0 m 35 ls [])) → W p l e R s m args below meth c H locs cells slots Q (F0 m 2 ls []) := by
  intro n
  induction n with
  | zero =>
    intro u2 M0 H locs ls Z hl Mq hf
    have hf : (none : Option (Mem)) = some Mq := hf
    cases hf
  | succ n ih =>
    intro u2 M0 H locs ls Z hl Mq hf kx0
    replace hf : f_X12_flow_l2_b (f_X12_flow_l2 fl g1 n) fl g1 u2 M0 = some Mq := hf
    unfold f_X12_flow_l2_b at hf
    refine lv_iload_n C.x C.b dX12_flow_2 rfl (lv_at hl 2 rfl) ?_
    refine lv_bipush (v := 30) C.x C.b dX12_flow_3 (by decide) ?_
    refine lv_icmp_ge (tgt := 35) C.x C.b dX12_flow_5 (by decide) (fun hc1 => ?_) (fun hc1 => ?_)
    · replace hf := ite_t hf hc1
      obtain rfl := sm_s hf
      exact kx0 _ _ _ Z (lv_sub hl [0, 1] rfl)
    · replace hf := ite_f hf hc1
      refine lv_aload_n C.x C.b dX12_flow_8 rfl (lv_at hl 0 rfl) ?_
      refine z_get C Z (lvM0 Nat.zero_lt_one) kM0 zc12 zin12 41 (by decide) k_1217 rfl svM0_41 dX12_flow_9 ?_
      refine lv_iload_n C.x C.b dX12_flow_12 rfl (lv_at hl 2 rfl) ?_
      refine lv_iconst (v := 0) C.x C.b dX12_flow_13 (by decide) ?_
      replace hf := asr_s hf; obtain ⟨hq2, hf⟩ := hf
      replace hf := lt1_s hf; obtain ⟨m3, em3, hf⟩ := hf
      refine z_iast (M1 := m3) C Z (lvM29 Nat.zero_lt_one) (by decide) kM29 hq2 em3 stM29u dX12_flow_14 (fun H locs Z => ?_)
      refine lv_aload_n C.x C.b dX12_flow_15 rfl (lv_at hl 0 rfl) ?_
      refine z_get C Z (lvM0 Nat.zero_lt_one) kM0 zc12 zin12 42 (by decide) k_1218 rfl svM0_42 dX12_flow_16 ?_
      refine lv_iload_n C.x C.b dX12_flow_19 rfl (lv_at hl 2 rfl) ?_
      refine lv_iconst (v := 0) C.x C.b dX12_flow_20 (by decide) ?_
      replace hf := asr_s hf; obtain ⟨hq4, hf⟩ := hf
      replace hf := lt1_s hf; obtain ⟨m5, em5, hf⟩ := hf
      refine z_iast (M1 := m5) C Z (lvM30 Nat.zero_lt_one) (by decide) kM30 hq4 em5 stM30u dX12_flow_21 (fun H locs Z => ?_)
      refine lv_aload_n C.x C.b dX12_flow_22 rfl (lv_at hl 0 rfl) ?_
      refine z_get C Z (lvM0 Nat.zero_lt_one) kM0 zc12 zin12 43 (by decide) k_1219 rfl svM0_43 dX12_flow_23 ?_
      refine lv_iload_n C.x C.b dX12_flow_26 rfl (lv_at hl 2 rfl) ?_
      refine lv_iconst (v := 0) C.x C.b dX12_flow_27 (by decide) ?_
      replace hf := asr_s hf; obtain ⟨hq6, hf⟩ := hf
      replace hf := lt1_s hf; obtain ⟨m7, em7, hf⟩ := hf
      refine z_iast (M1 := m7) C Z (lvM31 Nat.zero_lt_one) (by decide) kM31 hq6 em7 stM31u dX12_flow_28 (fun H locs Z => ?_)
      replace hf := lt1_s hf; obtain ⟨x8, ex8, hf⟩ := hf
      refine z_iinc (v := x8) (lv' := [(2, .int x8), (0, .ref (ad 0 0)), (1, .int g1)]) C dX12_flow_29 hl (k := 2) rfl (by rw [ex8]; rfl) (by decide) rfl (onlast 1 rfl rfl rfl) (fun ls hl => ?_)
      refine lv_goto (tgt := 2) C.x C.b dX12_flow_32 (by decide) ?_
      exact ih _ _ _ _ _ Z (lv_sub hl [1, 2, 0] rfl) _ hf kx0
set_option maxRecDepth 100000 in
set_option maxHeartbeats 4000000 in
theorem w_X12_flow_l44 {p : Program} {l : Launch} {e : Env} {R : Room} {s : State} {m : MethodId} {args : Array Value} {below : List Frame} {meth : Method} {c : Code} {cells slots : Nat} {Q : State → Prop} {K : KG} {ad : Nat → Nat → Nat} {fl : Nat} {g1 : Int32} {g2 : Int32} (C : Cx p s m args meth c cX12_flow 6 "GlassPalaceModel" none) (hR : 2 ≤ R.frames ∧ 40 * (2) ≤ R.locals) (hB : cells ≤ R.cells ∧ slots ≤ R.slots) : ∀ (n : Nat) (u3 : Int32) (M0 : Mem) (H : Heap) (locs : List Loc) (ls : Array Slot), Zd K LM ad M0 s H locs → lv_has ls 6 [(0, .ref (ad 0 0)), (1, .int g1), (2, .int g2), (3, .int u3)] → ∀ (Mq : Mem), f_X12_flow_l44 fl g1 g2 n u3 M0 = some Mq → (∀ (H : Heap) (locs : List Loc) (ls : Array Slot), Zd K LM ad Mq s H locs → lv_has ls 6 [(0, .ref (ad 0 0)), (1, .int g1), (2, .int g2)] → W p l e R s m args below meth c H locs cells slots Q (F0 m 104 ls [])) → W p l e R s m args below meth c H locs cells slots Q (F0 m 44 ls []) := by
  intro n
  induction n with
  | zero =>
    intro u3 M0 H locs ls Z hl Mq hf
    have hf : (none : Option (Mem)) = some Mq := hf
    cases hf
  | succ n ih =>
    intro u3 M0 H locs ls Z hl Mq hf kx0
    replace hf : f_X12_flow_l44_b (f_X12_flow_l44 fl g1 g2 n) fl g1 g2 u3 M0 = some Mq := hf
    unfold f_X12_flow_l44_b at hf
    refine lv_iload_n C.x C.b dX12_flow_44 rfl (lv_at hl 3 rfl) ?_
    refine lv_bipush (v := 30) C.x C.b dX12_flow_45 (by decide) ?_
    refine lv_icmp_ge (tgt := 104) C.x C.b dX12_flow_47 (by decide) (fun hc12 => ?_) (fun hc12 => ?_)
    · replace hf := ite_t hf hc12
      obtain rfl := sm_s hf
      exact kx0 _ _ _ Z (lv_sub hl [0, 1, 2] rfl)
    · replace hf := ite_f hf hc12
      refine lv_aload_n C.x C.b dX12_flow_50 rfl (lv_at hl 0 rfl) ?_
      refine z_get C Z (lvM0 Nat.zero_lt_one) kM0 zc12 zin12 17 (by decide) k_1193 rfl svM0_17 dX12_flow_51 ?_
      refine lv_iload_n C.x C.b dX12_flow_54 rfl (lv_at hl 3 rfl) ?_
      replace hf := asr_s hf; obtain ⟨hq13, hf⟩ := hf
      refine z_iald C Z (lvM15 Nat.zero_lt_one) kM15 hq13 svM15 dX12_flow_55 ?_
      replace hf := bn1_s hf; obtain ⟨m15, hq14, hf⟩ := hf
      have kq14 : ∀ (H : Heap) (locs : List Loc) (ls : Array Slot), Zd K LM ad m15 s H locs → lv_has ls 6 [(0, .ref (ad 0 0)), (1, .int g1), (2, .int g2), (3, .int u3)] → W p l e R s m args below meth c H locs cells slots Q (F0 m 91 ls []) := by
        intro H locs ls Z hl
        refine lv_aload_n C.x C.b dX12_flow_91 rfl (lv_at hl 0 rfl) ?_
        refine z_get C Z (lvM0 Nat.zero_lt_one) kM0 zc12 zin12 42 (by decide) k_1218 rfl svM0_42 dX12_flow_92 ?_
        refine lv_iload_n C.x C.b dX12_flow_95 rfl (lv_at hl 3 rfl) ?_
        refine lv_iconst (v := 0) C.x C.b dX12_flow_96 (by decide) ?_
        replace hf := asr_s hf; obtain ⟨hq16, hf⟩ := hf
        replace hf := lt1_s hf; obtain ⟨m17, em17, hf⟩ := hf
        refine z_iast (M1 := m17) C Z (lvM30 Nat.zero_lt_one) (by decide) kM30 hq16 em17 stM30u dX12_flow_97 (fun H locs Z => ?_)
        replace hf := lt1_s hf; obtain ⟨x18, ex18, hf⟩ := hf
        refine z_iinc (v := x18) (lv' := [(3, .int x18), (0, .ref (ad 0 0)), (1, .int g1), (2, .int g2)]) C dX12_flow_98 hl (k := 3) rfl (by rw [ex18]; rfl) (by decide) rfl (onlast 2 rfl rfl rfl) (fun ls hl => ?_)
        refine lv_goto (tgt := 44) C.x C.b dX12_flow_101 (by decide) ?_
        exact ih _ _ _ _ _ Z (lv_sub hl [1, 2, 3, 0] rfl) _ hf kx0
      clear hf
      refine lv_if_le (tgt := 91) C.x C.b dX12_flow_56 (by decide) (fun hc19 => ?_) (fun hc19 => ?_)
      · have hf := ite_t hq14 hc19; clear hq14
        obtain rfl := sm_s hf
        exact kq14 _ _ _ Z (lv_sub hl [0, 1, 2, 3] rfl)
      · have hf := ite_f hq14 hc19; clear hq14
        refine lv_aload_n C.x C.b dX12_flow_59 rfl (lv_at hl 0 rfl) ?_
        refine z_get C Z (lvM0 Nat.zero_lt_one) kM0 zc12 zin12 41 (by decide) k_1217 rfl svM0_41 dX12_flow_60 ?_
        refine lv_iload_n C.x C.b dX12_flow_63 rfl (lv_at hl 3 rfl) ?_
        refine lv_dup2_11 C.x C.b dX12_flow_64 rfl rfl ?_
        replace hf := asr_s hf; obtain ⟨hq20, hf⟩ := hf
        refine z_iald C Z (lvM29 Nat.zero_lt_one) kM29 hq20 svM29 dX12_flow_65 ?_
        refine lv_aload_n C.x C.b dX12_flow_66 rfl (lv_at hl 0 rfl) ?_
        refine z_get C Z (lvM0 Nat.zero_lt_one) kM0 zc12 zin12 40 (by decide) k_1216 rfl svM0_40 dX12_flow_67 ?_
        refine lv_iload_n C.x C.b dX12_flow_70 rfl (lv_at hl 2 rfl) ?_
        replace hf := asr_s hf; obtain ⟨hq21, hf⟩ := hf
        refine z_iald C Z (lvM28 Nat.zero_lt_one) kM28 hq21 svM28 dX12_flow_71 ?_
        refine lv_aload_n C.x C.b dX12_flow_72 rfl (lv_at hl 0 rfl) ?_
        refine z_get C Z (lvM0 Nat.zero_lt_one) kM0 zc12 zin12 17 (by decide) k_1193 rfl svM0_17 dX12_flow_73 ?_
        refine lv_iload_n C.x C.b dX12_flow_76 rfl (lv_at hl 3 rfl) ?_
        replace hf := asr_s hf; obtain ⟨hq22, hf⟩ := hf
        refine z_iald C Z (lvM15 Nat.zero_lt_one) kM15 hq22 svM15 dX12_flow_77 ?_
        refine lv_imul C.x C.b dX12_flow_78 ?_
        refine lv_bipush (v := 8) C.x C.b dX12_flow_79 (by decide) ?_
        refine lv_idiv C.x C.b dX12_flow_81 (by decide) ?_
        refine lv_aload_n C.x C.b dX12_flow_82 rfl (lv_at hl 0 rfl) ?_
        refine z_get C Z (lvM0 Nat.zero_lt_one) kM0 zc12 zin12 42 (by decide) k_1218 rfl svM0_42 dX12_flow_83 ?_
        refine lv_iload_n C.x C.b dX12_flow_86 rfl (lv_at hl 3 rfl) ?_
        replace hf := asr_s hf; obtain ⟨hq23, hf⟩ := hf
        refine z_iald C Z (lvM30 Nat.zero_lt_one) kM30 hq23 svM30 dX12_flow_87 ?_
        refine lv_iadd C.x C.b dX12_flow_88 ?_
        refine lv_iadd C.x C.b dX12_flow_89 ?_
        replace hf := asr_s hf; obtain ⟨hq24, hf⟩ := hf
        replace hf := lt1_s hf; obtain ⟨m25, em25, hf⟩ := hf
        refine z_iast (M1 := m25) C Z (lvM29 Nat.zero_lt_one) (by decide) kM29 hq24 em25 stM29u dX12_flow_90 (fun H locs Z => ?_)
        obtain rfl := sm_s hf
        exact kq14 _ _ _ Z (lv_sub hl [0, 1, 2, 3] rfl)
set_option maxRecDepth 100000 in
set_option maxHeartbeats 4000000 in
theorem w_X12_flow_l106 {p : Program} {l : Launch} {e : Env} {R : Room} {s : State} {m : MethodId} {args : Array Value} {below : List Frame} {meth : Method} {c : Code} {cells slots : Nat} {Q : State → Prop} {K : KG} {ad : Nat → Nat → Nat} {fl : Nat} {g1 : Int32} {g2 : Int32} (C : Cx p s m args meth c cX12_flow 6 "GlassPalaceModel" none) (hR : 2 ≤ R.frames ∧ 40 * (2) ≤ R.locals) (hB : cells ≤ R.cells ∧ slots ≤ R.slots) : ∀ (n : Nat) (u3 : Int32) (M0 : Mem) (H : Heap) (locs : List Loc) (ls : Array Slot), Zd K LM ad M0 s H locs → lv_has ls 6 [(0, .ref (ad 0 0)), (1, .int g1), (2, .int g2), (3, .int u3)] → ∀ (Mq : Mem), f_X12_flow_l106 fl g1 g2 n u3 M0 = some Mq → (∀ (H : Heap) (locs : List Loc) (ls : Array Slot), Zd K LM ad Mq s H locs → lv_has ls 6 [(0, .ref (ad 0 0)), (1, .int g1), (2, .int g2)] → W p l e R s m args below meth c H locs cells slots Q (F0 m 216 ls [])) → W p l e R s m args below meth c H locs cells slots Q (F0 m 106 ls []) := by
  intro n
  induction n with
  | zero =>
    intro u3 M0 H locs ls Z hl Mq hf
    have hf : (none : Option (Mem)) = some Mq := hf
    cases hf
  | succ n ih =>
    intro u3 M0 H locs ls Z hl Mq hf kx0
    replace hf : f_X12_flow_l106_b (f_X12_flow_l106 fl g1 g2 n) fl g1 g2 u3 M0 = some Mq := hf
    unfold f_X12_flow_l106_b at hf
    refine lv_iload_n C.x C.b dX12_flow_106 rfl (lv_at hl 3 rfl) ?_
    refine lv_bipush (v := 30) C.x C.b dX12_flow_107 (by decide) ?_
    refine lv_icmp_ge (tgt := 216) C.x C.b dX12_flow_109 (by decide) (fun hc28 => ?_) (fun hc28 => ?_)
    · replace hf := ite_t hf hc28
      obtain rfl := sm_s hf
      exact kx0 _ _ _ Z (lv_sub hl [0, 1, 2] rfl)
    · replace hf := ite_f hf hc28
      refine lv_aload_n C.x C.b dX12_flow_112 rfl (lv_at hl 0 rfl) ?_
      refine z_get C Z (lvM0 Nat.zero_lt_one) kM0 zc12 zin12 17 (by decide) k_1193 rfl svM0_17 dX12_flow_113 ?_
      refine lv_iload_n C.x C.b dX12_flow_116 rfl (lv_at hl 3 rfl) ?_
      replace hf := asr_s hf; obtain ⟨hq29, hf⟩ := hf
      refine z_iald C Z (lvM15 Nat.zero_lt_one) kM15 hq29 svM15 dX12_flow_117 ?_
      refine lv_if_eq (tgt := 210) C.x C.b dX12_flow_118 (by decide) (fun hc30 => ?_) (fun hc30 => ?_)
      · replace hf := ite_t hf hc30
        replace hf := lt1_s hf; obtain ⟨x31, ex31, hf⟩ := hf
        refine z_iinc (v := x31) (lv' := [(3, .int x31), (0, .ref (ad 0 0)), (1, .int g1), (2, .int g2)]) C dX12_flow_210 hl (k := 3) rfl (by rw [ex31]; rfl) (by decide) rfl (onlast 2 rfl rfl rfl) (fun ls hl => ?_)
        refine lv_goto (tgt := 106) C.x C.b dX12_flow_213 (by decide) ?_
        exact ih _ _ _ _ _ Z (lv_sub hl [1, 2, 3, 0] rfl) _ hf kx0
      · replace hf := ite_f hf hc30
        refine lv_aload_n C.x C.b dX12_flow_121 rfl (lv_at hl 0 rfl) ?_
        refine lv_iload_n C.x C.b dX12_flow_122 rfl (lv_at hl 3 rfl) ?_
        refine lv_iconst (v := 4) C.x C.b dX12_flow_123 (by decide) ?_
        replace hf := bn2_s hf; obtain ⟨v33, m32, hkm32, hf⟩ := hf
        refine z_cV (As := [.int u3, .int 4]) (rest := []) (st1 := [.int v33]) C Z mw_X12_has mv_X12_has k_1414 (by decide) (z_hR hR (by decide)) (lvM0 Nat.zero_lt_one) kM0 zc12 (c_X12_has (l := l) (K := K) (ad := ad) hkm32) rfl hl.1 rfl (Nat.le_of_ble_eq_true rfl) dX12_flow_124 hB rfl (fun H locs Z => ?_)
        refine lv_if_ne (tgt := 133) C.x C.b dX12_flow_127 (by decide) (fun hc34 => ?_) (fun hc34 => ?_)
        · replace hf := ite_f hf hc34
          refine lv_aload_n C.x C.b dX12_flow_133 rfl (lv_at hl 0 rfl) ?_
          refine z_get C Z (lvM0 Nat.zero_lt_one) kM0 zc12 zin12 9 (by decide) k_1185 rfl svM0_9 dX12_flow_134 ?_
          refine lv_aload_n C.x C.b dX12_flow_137 rfl (lv_at hl 0 rfl) ?_
          refine z_get C Z (lvM0 Nat.zero_lt_one) kM0 zc12 zin12 16 (by decide) k_1192 rfl svM0_16 dX12_flow_138 ?_
          refine lv_iconst (v := 5) C.x C.b dX12_flow_141 (by decide) ?_
          refine lv_iload_n C.x C.b dX12_flow_142 rfl (lv_at hl 3 rfl) ?_
          refine lv_imul C.x C.b dX12_flow_143 ?_
          refine lv_iconst (v := 3) C.x C.b dX12_flow_144 (by decide) ?_
          refine lv_iadd C.x C.b dX12_flow_145 ?_
          replace hf := asr_s hf; obtain ⟨hq35, hf⟩ := hf
          refine z_iald C Z (lvM14 Nat.zero_lt_one) kM14 hq35 svM14 dX12_flow_146 ?_
          replace hf := asr_s hf; obtain ⟨hq36, hf⟩ := hf
          refine z_iald C Z (lvM8 Nat.zero_lt_one) kM8 hq36 svM8 dX12_flow_147 ?_
          replace hf := lt1_s hf; obtain ⟨x37, ex37, hf⟩ := hf
          refine z_renI ex37 ?_
          refine z_istore (lv' := [(4, .int x37), (0, .ref (ad 0 0)), (1, .int g1), (2, .int g2), (3, .int u3)]) C dX12_flow_148 hl (by decide) rfl (onlast 3 rfl rfl rfl) (fun ls hl => ?_)
          refine lv_iload C.x C.b dX12_flow_150 (lv_at hl 0 rfl) ?_
          refine lv_aload_n C.x C.b dX12_flow_152 rfl (lv_at hl 1 rfl) ?_
          refine z_get C Z (lvM0 Nat.zero_lt_one) kM0 zc12 zin12 41 (by decide) k_1217 rfl svM0_41 dX12_flow_153 ?_
          refine lv_iload_n C.x C.b dX12_flow_156 rfl (lv_at hl 4 rfl) ?_
          replace hf := asr_s hf; obtain ⟨hq38, hf⟩ := hf
          refine z_iald C Z (lvM29 Nat.zero_lt_one) kM29 hq38 svM29 dX12_flow_157 ?_
          replace hf := bn2_s hf; obtain ⟨q39, m40, hq39, hf⟩ := hf
          have kq39 : ∀ (H : Heap) (locs : List Loc) (ls : Array Slot), Zd K LM ad m40 s H locs → lv_has ls 6 [(0, .ref (ad 0 0)), (1, .int g1), (2, .int g2), (3, .int u3)] → W p l e R s m args below meth c H locs cells slots Q (F0 m 172 ls [.int q39]) := by
            intro H locs ls Z hl
            refine z_istore (lv' := [(5, .int q39), (0, .ref (ad 0 0)), (1, .int g1), (2, .int g2), (3, .int u3)]) C dX12_flow_172 hl (by decide) rfl (nolast rfl) (fun ls hl => ?_)
            refine lv_aload_n C.x C.b dX12_flow_174 rfl (lv_at hl 1 rfl) ?_
            refine z_get C Z (lvM0 Nat.zero_lt_one) kM0 zc12 zin12 41 (by decide) k_1217 rfl svM0_41 dX12_flow_175 ?_
            refine lv_iload_n C.x C.b dX12_flow_178 rfl (lv_at hl 4 rfl) ?_
            refine lv_dup2_11 C.x C.b dX12_flow_179 rfl rfl ?_
            replace hf := asr_s hf; obtain ⟨hq41, hf⟩ := hf
            refine z_iald C Z (lvM29 Nat.zero_lt_one) kM29 hq41 svM29 dX12_flow_180 ?_
            refine lv_iload C.x C.b dX12_flow_181 (lv_at hl 0 rfl) ?_
            refine lv_isub C.x C.b dX12_flow_183 ?_
            replace hf := asr_s hf; obtain ⟨hq42, hf⟩ := hf
            replace hf := lt1_s hf; obtain ⟨m43, em43, hf⟩ := hf
            refine z_iast (M1 := m43) C Z (lvM29 Nat.zero_lt_one) (by decide) kM29 hq42 em43 stM29u dX12_flow_184 (fun H locs Z => ?_)
            refine lv_aload_n C.x C.b dX12_flow_185 rfl (lv_at hl 1 rfl) ?_
            refine z_get C Z (lvM0 Nat.zero_lt_one) kM0 zc12 zin12 19 (by decide) k_1195 rfl svM0_19 dX12_flow_186 ?_
            refine lv_iload_n C.x C.b dX12_flow_189 rfl (lv_at hl 4 rfl) ?_
            replace hf := asr_s hf; obtain ⟨hq44, hf⟩ := hf
            refine z_iald C Z (lvM17 Nat.zero_lt_one) kM17 hq44 svM17 dX12_flow_190 ?_
            refine lv_if_lt (tgt := 210) C.x C.b dX12_flow_191 (by decide) (fun hc45 => ?_) (fun hc45 => ?_)
            · replace hf := ite_t hf hc45
              replace hf := lt1_s hf; obtain ⟨x46, ex46, hf⟩ := hf
              refine z_iinc (v := x46) (lv' := [(3, .int x46), (5, .int q39), (0, .ref (ad 0 0)), (1, .int g1), (2, .int g2)]) C dX12_flow_210 hl (k := 4) rfl (by rw [ex46]; rfl) (by decide) rfl (onlast 3 rfl rfl rfl) (fun ls hl => ?_)
              refine lv_goto (tgt := 106) C.x C.b dX12_flow_213 (by decide) ?_
              exact ih _ _ _ _ _ Z (lv_sub hl [2, 3, 4, 0] rfl) _ hf kx0
            · replace hf := ite_f hf hc45
              refine lv_aload_n C.x C.b dX12_flow_194 rfl (lv_at hl 1 rfl) ?_
              refine z_get C Z (lvM0 Nat.zero_lt_one) kM0 zc12 zin12 42 (by decide) k_1218 rfl svM0_42 dX12_flow_195 ?_
              refine lv_aload_n C.x C.b dX12_flow_198 rfl (lv_at hl 1 rfl) ?_
              refine z_get C Z (lvM0 Nat.zero_lt_one) kM0 zc12 zin12 19 (by decide) k_1195 rfl svM0_19 dX12_flow_199 ?_
              refine lv_iload_n C.x C.b dX12_flow_202 rfl (lv_at hl 4 rfl) ?_
              replace hf := asr_s hf; obtain ⟨hq47, hf⟩ := hf
              refine z_iald C Z (lvM17 Nat.zero_lt_one) kM17 hq47 svM17 dX12_flow_203 ?_
              refine lv_dup2_11 C.x C.b dX12_flow_204 rfl rfl ?_
              replace hf := asr_s hf; obtain ⟨hq48, hf⟩ := hf
              refine z_iald C Z (lvM30 Nat.zero_lt_one) kM30 hq48 svM30 dX12_flow_205 ?_
              refine lv_iload C.x C.b dX12_flow_206 (lv_at hl 0 rfl) ?_
              refine lv_iadd C.x C.b dX12_flow_208 ?_
              replace hf := asr_s hf; obtain ⟨hq49, hf⟩ := hf
              replace hf := lt1_s hf; obtain ⟨m50, em50, hf⟩ := hf
              refine z_iast (M1 := m50) C Z (lvM30 Nat.zero_lt_one) (by decide) kM30 hq49 em50 stM30u dX12_flow_209 (fun H locs Z => ?_)
              replace hf := lt1_s hf; obtain ⟨x51, ex51, hf⟩ := hf
              refine z_iinc (v := x51) (lv' := [(3, .int x51), (5, .int q39), (0, .ref (ad 0 0)), (1, .int g1), (2, .int g2)]) C dX12_flow_210 hl (k := 4) rfl (by rw [ex51]; rfl) (by decide) rfl (onlast 3 rfl rfl rfl) (fun ls hl => ?_)
              refine lv_goto (tgt := 106) C.x C.b dX12_flow_213 (by decide) ?_
              exact ih _ _ _ _ _ Z (lv_sub hl [2, 3, 4, 0] rfl) _ hf kx0
          clear hf
          refine lv_icmp_ge (tgt := 166) C.x C.b dX12_flow_158 (by decide) (fun hc52 => ?_) (fun hc52 => ?_)
          · have hf := ite_t hq39 hc52; clear hq39
            refine lv_aload_n C.x C.b dX12_flow_166 rfl (lv_at hl 1 rfl) ?_
            refine z_get C Z (lvM0 Nat.zero_lt_one) kM0 zc12 zin12 41 (by decide) k_1217 rfl svM0_41 dX12_flow_167 ?_
            refine lv_iload_n C.x C.b dX12_flow_170 rfl (lv_at hl 4 rfl) ?_
            replace hf := asr_s hf; obtain ⟨hq53, hf⟩ := hf
            refine z_iald C Z (lvM29 Nat.zero_lt_one) kM29 hq53 svM29 dX12_flow_171 ?_
            obtain ⟨rfl, rfl⟩ := pr_s hf
            exact kq39 _ _ _ Z (lv_sub hl [1, 2, 3, 4] rfl)
          · have hf := ite_f hq39 hc52; clear hq39
            refine lv_iload C.x C.b dX12_flow_161 (lv_at hl 0 rfl) ?_
            refine lv_goto (tgt := 172) C.x C.b dX12_flow_163 (by decide) ?_
            obtain ⟨rfl, rfl⟩ := pr_s hf
            exact kq39 _ _ _ Z (lv_sub hl [1, 2, 3, 4] rfl)
        · replace hf := ite_t hf hc34
          refine lv_goto (tgt := 210) C.x C.b dX12_flow_130 (by decide) ?_
          replace hf := lt1_s hf; obtain ⟨x54, ex54, hf⟩ := hf
          refine z_iinc (v := x54) (lv' := [(3, .int x54), (0, .ref (ad 0 0)), (1, .int g1), (2, .int g2)]) C dX12_flow_210 hl (k := 3) rfl (by rw [ex54]; rfl) (by decide) rfl (onlast 2 rfl rfl rfl) (fun ls hl => ?_)
          refine lv_goto (tgt := 106) C.x C.b dX12_flow_213 (by decide) ?_
          exact ih _ _ _ _ _ Z (lv_sub hl [1, 2, 3, 0] rfl) _ hf kx0
set_option maxRecDepth 100000 in
set_option maxHeartbeats 4000000 in
theorem w_X12_flow_l218 {p : Program} {l : Launch} {e : Env} {R : Room} {s : State} {m : MethodId} {args : Array Value} {below : List Frame} {meth : Method} {c : Code} {cells slots : Nat} {Q : State → Prop} {K : KG} {ad : Nat → Nat → Nat} {fl : Nat} {g1 : Int32} {g2 : Int32} (C : Cx p s m args meth c cX12_flow 6 "GlassPalaceModel" none) (hR : 2 ≤ R.frames ∧ 40 * (2) ≤ R.locals) (hB : cells ≤ R.cells ∧ slots ≤ R.slots) : ∀ (n : Nat) (u3 : Int32) (M0 : Mem) (H : Heap) (locs : List Loc) (ls : Array Slot), Zd K LM ad M0 s H locs → lv_has ls 6 [(0, .ref (ad 0 0)), (1, .int g1), (2, .int g2), (3, .int u3)] → ∀ (Mq : Mem), f_X12_flow_l218 fl g1 g2 n u3 M0 = some Mq → (∀ (H : Heap) (locs : List Loc) (ls : Array Slot), Zd K LM ad Mq s H locs → lv_has ls 6 [(0, .ref (ad 0 0)), (1, .int g1), (2, .int g2)] → W p l e R s m args below meth c H locs cells slots Q (F0 m 263 ls [])) → W p l e R s m args below meth c H locs cells slots Q (F0 m 218 ls []) := by
  intro n
  induction n with
  | zero =>
    intro u3 M0 H locs ls Z hl Mq hf
    have hf : (none : Option (Mem)) = some Mq := hf
    cases hf
  | succ n ih =>
    intro u3 M0 H locs ls Z hl Mq hf kx0
    replace hf : f_X12_flow_l218_b (f_X12_flow_l218 fl g1 g2 n) fl g1 g2 u3 M0 = some Mq := hf
    unfold f_X12_flow_l218_b at hf
    refine lv_iload_n C.x C.b dX12_flow_218 rfl (lv_at hl 3 rfl) ?_
    refine lv_bipush (v := 30) C.x C.b dX12_flow_219 (by decide) ?_
    refine lv_icmp_ge (tgt := 263) C.x C.b dX12_flow_221 (by decide) (fun hc57 => ?_) (fun hc57 => ?_)
    · replace hf := ite_t hf hc57
      obtain rfl := sm_s hf
      exact kx0 _ _ _ Z (lv_sub hl [0, 1, 2] rfl)
    · replace hf := ite_f hf hc57
      refine lv_aload_n C.x C.b dX12_flow_224 rfl (lv_at hl 0 rfl) ?_
      refine z_get C Z (lvM0 Nat.zero_lt_one) kM0 zc12 zin12 43 (by decide) k_1219 rfl svM0_43 dX12_flow_225 ?_
      refine lv_iload_n C.x C.b dX12_flow_228 rfl (lv_at hl 3 rfl) ?_
      refine lv_dup2_11 C.x C.b dX12_flow_229 rfl rfl ?_
      replace hf := asr_s hf; obtain ⟨hq58, hf⟩ := hf
      refine z_iald C Z (lvM31 Nat.zero_lt_one) kM31 hq58 svM31 dX12_flow_230 ?_
      refine lv_aload_n C.x C.b dX12_flow_231 rfl (lv_at hl 0 rfl) ?_
      refine z_get C Z (lvM0 Nat.zero_lt_one) kM0 zc12 zin12 41 (by decide) k_1217 rfl svM0_41 dX12_flow_232 ?_
      refine lv_iload_n C.x C.b dX12_flow_235 rfl (lv_at hl 3 rfl) ?_
      replace hf := asr_s hf; obtain ⟨hq59, hf⟩ := hf
      refine z_iald C Z (lvM29 Nat.zero_lt_one) kM29 hq59 svM29 dX12_flow_236 ?_
      refine lv_bipush (v := 50) C.x C.b dX12_flow_237 (by decide) ?_
      refine lv_icmp_le (tgt := 254) C.x C.b dX12_flow_239 (by decide) (fun hc60 => ?_) (fun hc60 => ?_)
      · replace hf := ite_t hf hc60
        refine lv_iconst (v := 0) C.x C.b dX12_flow_254 (by decide) ?_
        refine lv_iadd C.x C.b dX12_flow_255 ?_
        replace hf := asr_s hf; obtain ⟨hq61, hf⟩ := hf
        replace hf := lt1_s hf; obtain ⟨m62, em62, hf⟩ := hf
        refine z_iast (M1 := m62) C Z (lvM31 Nat.zero_lt_one) (by decide) kM31 hq61 em62 stM31u dX12_flow_256 (fun H locs Z => ?_)
        replace hf := lt1_s hf; obtain ⟨x63, ex63, hf⟩ := hf
        refine z_iinc (v := x63) (lv' := [(3, .int x63), (0, .ref (ad 0 0)), (1, .int g1), (2, .int g2)]) C dX12_flow_257 hl (k := 3) rfl (by rw [ex63]; rfl) (by decide) rfl (onlast 2 rfl rfl rfl) (fun ls hl => ?_)
        refine lv_goto (tgt := 218) C.x C.b dX12_flow_260 (by decide) ?_
        exact ih _ _ _ _ _ Z (lv_sub hl [1, 2, 3, 0] rfl) _ hf kx0
      · replace hf := ite_f hf hc60
        refine lv_aload_n C.x C.b dX12_flow_242 rfl (lv_at hl 0 rfl) ?_
        refine z_get C Z (lvM0 Nat.zero_lt_one) kM0 zc12 zin12 41 (by decide) k_1217 rfl svM0_41 dX12_flow_243 ?_
        refine lv_iload_n C.x C.b dX12_flow_246 rfl (lv_at hl 3 rfl) ?_
        replace hf := asr_s hf; obtain ⟨hq64, hf⟩ := hf
        refine z_iald C Z (lvM29 Nat.zero_lt_one) kM29 hq64 svM29 dX12_flow_247 ?_
        refine lv_bipush (v := 50) C.x C.b dX12_flow_248 (by decide) ?_
        refine lv_isub C.x C.b dX12_flow_250 ?_
        refine lv_goto (tgt := 255) C.x C.b dX12_flow_251 (by decide) ?_
        refine lv_iadd C.x C.b dX12_flow_255 ?_
        replace hf := asr_s hf; obtain ⟨hq65, hf⟩ := hf
        replace hf := lt1_s hf; obtain ⟨m66, em66, hf⟩ := hf
        refine z_iast (M1 := m66) C Z (lvM31 Nat.zero_lt_one) (by decide) kM31 hq65 em66 stM31u dX12_flow_256 (fun H locs Z => ?_)
        replace hf := lt1_s hf; obtain ⟨x67, ex67, hf⟩ := hf
        refine z_iinc (v := x67) (lv' := [(3, .int x67), (0, .ref (ad 0 0)), (1, .int g1), (2, .int g2)]) C dX12_flow_257 hl (k := 3) rfl (by rw [ex67]; rfl) (by decide) rfl (onlast 2 rfl rfl rfl) (fun ls hl => ?_)
        refine lv_goto (tgt := 218) C.x C.b dX12_flow_260 (by decide) ?_
        exact ih _ _ _ _ _ Z (lv_sub hl [1, 2, 3, 0] rfl) _ hf kx0
set_option maxRecDepth 100000 in
set_option maxHeartbeats 4000000 in
theorem w_X12_flow_l37 {p : Program} {l : Launch} {e : Env} {R : Room} {s : State} {m : MethodId} {args : Array Value} {below : List Frame} {meth : Method} {c : Code} {cells slots : Nat} {Q : State → Prop} {K : KG} {ad : Nat → Nat → Nat} {fl : Nat} {g1 : Int32} (C : Cx p s m args meth c cX12_flow 6 "GlassPalaceModel" none) (hR : 2 ≤ R.frames ∧ 40 * (2) ≤ R.locals) (hB : cells ≤ R.cells ∧ slots ≤ R.slots) : ∀ (n : Nat) (u2 : Int32) (M0 : Mem) (H : Heap) (locs : List Loc) (ls : Array Slot), Zd K LM ad M0 s H locs → lv_has ls 6 [(0, .ref (ad 0 0)), (1, .int g1), (2, .int u2)] → ∀ (Mq : Mem), f_X12_flow_l37 fl g1 n u2 M0 = some Mq → (∀ (H : Heap) (locs : List Loc) (ls : Array Slot), Zd K LM ad Mq s H locs → lv_has ls 6 [] → W p l e R s m args below meth c H locs cells slots Q (F0 m 269 ls [])) → W p l e R s m args below meth c H locs cells slots Q (F0 m 37 ls []) := by
  intro n
  induction n with
  | zero =>
    intro u2 M0 H locs ls Z hl Mq hf
    have hf : (none : Option (Mem)) = some Mq := hf
    cases hf
  | succ n ih =>
    intro u2 M0 H locs ls Z hl Mq hf kx0
    replace hf : f_X12_flow_l37_b (f_X12_flow_l37 fl g1 n) fl g1 u2 M0 = some Mq := hf
    unfold f_X12_flow_l37_b at hf
    refine lv_iload_n C.x C.b dX12_flow_37 rfl (lv_at hl 2 rfl) ?_
    refine lv_iload_n C.x C.b dX12_flow_38 rfl (lv_at hl 1 rfl) ?_
    refine lv_icmp_gt (tgt := 269) C.x C.b dX12_flow_39 (by decide) (fun hc11 => ?_) (fun hc11 => ?_)
    · replace hf := ite_t hf hc11
      obtain rfl := sm_s hf
      exact kx0 _ _ _ Z (lv_sub hl [] rfl)
    · replace hf := ite_f hf hc11
      refine lv_iconst (v := 0) C.x C.b dX12_flow_42 (by decide) ?_
      refine z_istore_n (lv' := [(3, .int 0), (0, .ref (ad 0 0)), (1, .int g1), (2, .int u2)]) C dX12_flow_43 rfl hl (by decide) rfl (onlast 2 rfl rfl rfl) (fun ls hl => ?_)
      replace hf := bn1_s hf; obtain ⟨m27, hq26, hf⟩ := hf
      refine w_X12_flow_l44 C hR hB  fl _ _ _ _ _ Z (lv_sub hl [1, 2, 3, 0] rfl) _ hq26 (fun H locs ls Z hl => ?_)
      refine lv_iconst (v := 0) C.x C.b dX12_flow_104 (by decide) ?_
      refine z_istore_n (lv' := [(3, .int 0), (0, .ref (ad 0 0)), (1, .int g1), (2, .int u2)]) C dX12_flow_105 rfl hl (by decide) rfl (onlast 2 rfl rfl rfl) (fun ls hl => ?_)
      replace hf := bn1_s hf; obtain ⟨m56, hq55, hf⟩ := hf
      refine w_X12_flow_l106 C hR hB  fl _ _ _ _ _ Z (lv_sub hl [1, 2, 3, 0] rfl) _ hq55 (fun H locs ls Z hl => ?_)
      refine lv_iconst (v := 0) C.x C.b dX12_flow_216 (by decide) ?_
      refine z_istore_n (lv' := [(3, .int 0), (0, .ref (ad 0 0)), (1, .int g1), (2, .int u2)]) C dX12_flow_217 rfl hl (by decide) rfl (onlast 2 rfl rfl rfl) (fun ls hl => ?_)
      replace hf := bn1_s hf; obtain ⟨m69, hq68, hf⟩ := hf
      refine w_X12_flow_l218 C hR hB  fl _ _ _ _ _ Z (lv_sub hl [1, 2, 3, 0] rfl) _ hq68 (fun H locs ls Z hl => ?_)
      replace hf := lt1_s hf; obtain ⟨x70, ex70, hf⟩ := hf
      refine z_iinc (v := x70) (lv' := [(2, .int x70), (0, .ref (ad 0 0)), (1, .int g1)]) C dX12_flow_263 hl (k := 2) rfl (by rw [ex70]; rfl) (by decide) rfl (onlast 1 rfl rfl rfl) (fun ls hl => ?_)
      refine lv_goto (tgt := 37) C.x C.b dX12_flow_266 (by decide) ?_
      exact ih _ _ _ _ _ Z (lv_sub hl [1, 2, 0] rfl) _ hf kx0
set_option maxRecDepth 100000 in
set_option maxHeartbeats 4000000 in
theorem c_X12_flow {l : Launch} {K : KG} {ad : Nat → Nat → Nat} {fl : Nat} {a1 : Int32} {M0 : Mem} {M9 : Mem} (hf : f_X12_flow fl a1 M0 = some M9) : Met l yX12_flow (Cond.code yX12_flow cX12_flow 6 none :: ztb) (RM (2) 0 0) (zPc K LM ad M0 [.ref (ad 0 0), .int a1]) (zQ K LM ad (none) M9) 0 0 (zA ad) := by
  refine z_enter (by decide) (Nat.le_of_ble_eq_true rfl) ?_
  intro p e s m args below meth c ls C hin hargs Z hl
  replace C : Cx p s m args meth c cX12_flow 6 "GlassPalaceModel" none := C
  replace hl : lv_has ls 6 [(0, .ref (ad 0 0)), (1, .int a1)] := hl
  have hR : 2 ≤ (RM (2) 0 0).frames ∧ 40 * (2) ≤ (RM (2) 0 0).locals := ⟨Nat.le_refl _, Nat.le_refl _⟩
  have hB : 0 ≤ (RM (2) 0 0).cells ∧ 0 ≤ (RM (2) 0 0).slots := ⟨Nat.zero_le _, Nat.zero_le _⟩
  unfold f_X12_flow at hf
  refine lv_iconst (v := 0) C.x C.b dX12_flow_0 (by decide) ?_
  refine z_istore_n (lv' := [(2, .int 0), (0, .ref (ad 0 0)), (1, .int a1)]) C dX12_flow_1 rfl hl (by decide) rfl (onlast 1 rfl rfl rfl) (fun ls hl => ?_)
  replace hf := bn1_s hf; obtain ⟨m10, hq9, hf⟩ := hf
  refine w_X12_flow_l2 C hR hB  fl _ _ _ _ _ Z (lv_sub hl [1, 2, 0] rfl) _ hq9 (fun H locs ls Z hl => ?_)
  refine lv_iconst (v := 0) C.x C.b dX12_flow_35 (by decide) ?_
  refine z_istore_n (lv' := [(2, .int 0), (0, .ref (ad 0 0)), (1, .int a1)]) C dX12_flow_36 rfl hl (by decide) rfl (onlast 1 rfl rfl rfl) (fun ls hl => ?_)
  replace hf := bn1_s hf; obtain ⟨m72, hq71, hf⟩ := hf
  refine w_X12_flow_l37 C hR hB  fl _ _ _ _ _ Z (lv_sub hl [1, 2, 0] rfl) _ hq71 (fun H locs ls Z hl => ?_)
  obtain rfl := sm_s hf
  exact z_vret C Z dX12_flow_269
theorem dX12_stands_0 : decode cX12_stands 0 = .ok (.aload_n 0, 1) := by decide +kernel
theorem dX12_stands_1 : decode cX12_stands 1 = .ok (.iload_n 1, 1) := by decide +kernel
theorem dX12_stands_2 : decode cX12_stands 2 = .ok (.invokevirtual 241, 3) := by decide +kernel
theorem dX12_stands_5 : decode cX12_stands 5 = .ok (.ifCond .eq 14, 3) := by decide +kernel
theorem dX12_stands_8 : decode cX12_stands 8 = .ok (.aload_n 0, 1) := by decide +kernel
theorem dX12_stands_9 : decode cX12_stands 9 = .ok (.iload_n 2, 1) := by decide +kernel
theorem dX12_stands_10 : decode cX12_stands 10 = .ok (.iconst 0, 1) := by decide +kernel
theorem dX12_stands_11 : decode cX12_stands 11 = .ok (.bipush 23, 2) := by decide +kernel
theorem dX12_stands_13 : decode cX12_stands 13 = .ok (.invokevirtual 3, 3) := by decide +kernel
theorem dX12_stands_16 : decode cX12_stands 16 = .ok (.ifCond .ne 5, 3) := by decide +kernel
theorem dX12_stands_19 : decode cX12_stands 19 = .ok (.iconst (-1), 1) := by decide +kernel
theorem dX12_stands_20 : decode cX12_stands 20 = .ok (.ireturn, 1) := by decide +kernel
theorem dX12_stands_21 : decode cX12_stands 21 = .ok (.aload_n 0, 1) := by decide +kernel
theorem dX12_stands_22 : decode cX12_stands 22 = .ok (.iload_n 2, 1) := by decide +kernel
theorem dX12_stands_23 : decode cX12_stands 23 = .ok (.invokevirtual 350, 3) := by decide +kernel
theorem dX12_stands_26 : decode cX12_stands 26 = .ok (.aload_n 0, 1) := by decide +kernel
theorem dX12_stands_27 : decode cX12_stands 27 = .ok (.getfield 143, 3) := by decide +kernel
theorem dX12_stands_30 : decode cX12_stands 30 = .ok (.iload_n 1, 1) := by decide +kernel
theorem dX12_stands_31 : decode cX12_stands 31 = .ok (.iaload, 1) := by decide +kernel
theorem dX12_stands_32 : decode cX12_stands 32 = .ok (.ireturn, 1) := by decide +kernel
set_option maxRecDepth 100000 in
set_option maxHeartbeats 4000000 in
theorem c_X12_stands {l : Launch} {K : KG} {ad : Nat → Nat → Nat} {fl : Nat} {a1 : Int32} {a2 : Int32} {M0 : Mem} {r9 : Int32} {M9 : Mem} (hf : f_X12_stands fl a1 a2 M0 = some (r9, M9)) : Met l yX12_stands (Cond.code yX12_stands cX12_stands 3 (some .int) :: ztb) (RM (3) 0 0) (zPc K LM ad M0 [.ref (ad 0 0), .int a1, .int a2]) (zQ K LM ad (some (.int r9)) M9) 0 0 (zA ad) := by
  refine z_enter (by decide) (Nat.le_of_ble_eq_true rfl) ?_
  intro p e s m args below meth c ls C hin hargs Z hl
  replace C : Cx p s m args meth c cX12_stands 3 "GlassPalaceModel" (some .int) := C
  replace hl : lv_has ls 3 [(0, .ref (ad 0 0)), (1, .int a1), (2, .int a2)] := hl
  have hR : 3 ≤ (RM (3) 0 0).frames ∧ 40 * (3) ≤ (RM (3) 0 0).locals := ⟨Nat.le_refl _, Nat.le_refl _⟩
  have hB : 0 ≤ (RM (3) 0 0).cells ∧ 0 ≤ (RM (3) 0 0).slots := ⟨Nat.zero_le _, Nat.zero_le _⟩
  unfold f_X12_stands at hf
  refine lv_aload_n C.x C.b dX12_stands_0 rfl (lv_at hl 0 rfl) ?_
  refine lv_iload_n C.x C.b dX12_stands_1 rfl (lv_at hl 1 rfl) ?_
  replace hf := bn2_s hf; obtain ⟨v2, m1, hkm1, hf⟩ := hf
  refine z_cV (As := [.int a1]) (rest := []) (st1 := [.int v2]) C Z mw_X12_isBay mv_X12_isBay k_1406 (by decide) (z_hR hR (by decide)) (lvM0 Nat.zero_lt_one) kM0 zc12 (c_X12_isBay (l := l) (K := K) (ad := ad) hkm1) rfl hl.1 rfl (Nat.le_of_ble_eq_true rfl) dX12_stands_2 hB rfl (fun H locs Z => ?_)
  refine lv_if_eq (tgt := 19) C.x C.b dX12_stands_5 (by decide) (fun hc3 => ?_) (fun hc3 => ?_)
  · replace hf := ite_t hf hc3
    refine lv_iconst (v := (-1)) C.x C.b dX12_stands_19 (by decide) ?_
    obtain ⟨rfl, rfl⟩ := pr_s hf
    exact z_iret C Z dX12_stands_20
  · replace hf := ite_f hf hc3
    refine lv_aload_n C.x C.b dX12_stands_8 rfl (lv_at hl 0 rfl) ?_
    refine lv_iload_n C.x C.b dX12_stands_9 rfl (lv_at hl 2 rfl) ?_
    refine lv_iconst (v := 0) C.x C.b dX12_stands_10 (by decide) ?_
    refine lv_bipush (v := 23) C.x C.b dX12_stands_11 (by decide) ?_
    replace hf := bn2_s hf; obtain ⟨v5, m4, hkm4, hf⟩ := hf
    refine z_cV (As := [.int a2, .int 0, .int 23]) (rest := []) (st1 := [.int v5]) C Z mw_X12_in mv_X12_in k_1398 (by decide) (z_hR hR (by decide)) (lvM0 Nat.zero_lt_one) kM0 zc12 (c_X12_in (l := l) (K := K) (ad := ad) hkm4) rfl hl.1 rfl (Nat.le_of_ble_eq_true rfl) dX12_stands_13 hB rfl (fun H locs Z => ?_)
    refine lv_if_ne (tgt := 21) C.x C.b dX12_stands_16 (by decide) (fun hc6 => ?_) (fun hc6 => ?_)
    · replace hf := ite_f hf hc6
      refine lv_aload_n C.x C.b dX12_stands_21 rfl (lv_at hl 0 rfl) ?_
      refine lv_iload_n C.x C.b dX12_stands_22 rfl (lv_at hl 2 rfl) ?_
      replace hf := bn1_s hf; obtain ⟨m7, hkm7, hf⟩ := hf
      refine z_cV (As := [.int a2]) (rest := []) (st1 := []) C Z mw_X12_flow mv_X12_flow k_1637 (by decide) (z_hR hR (by decide)) (lvM0 Nat.zero_lt_one) kM0 zc12 (c_X12_flow (l := l) (K := K) (ad := ad) hkm7) rfl hl.1 rfl (Nat.le_of_ble_eq_true rfl) dX12_stands_23 hB rfl (fun H locs Z => ?_)
      refine lv_aload_n C.x C.b dX12_stands_26 rfl (lv_at hl 0 rfl) ?_
      refine z_get C Z (lvM0 Nat.zero_lt_one) kM0 zc12 zin12 41 (by decide) k_1217 rfl svM0_41 dX12_stands_27 ?_
      refine lv_iload_n C.x C.b dX12_stands_30 rfl (lv_at hl 1 rfl) ?_
      replace hf := asr_s hf; obtain ⟨hq8, hf⟩ := hf
      refine z_iald C Z (lvM29 Nat.zero_lt_one) kM29 hq8 svM29 dX12_stands_31 ?_
      obtain ⟨rfl, rfl⟩ := pr_s hf
      exact z_iret C Z dX12_stands_32
    · replace hf := ite_t hf hc6
      refine lv_iconst (v := (-1)) C.x C.b dX12_stands_19 (by decide) ?_
      obtain ⟨rfl, rfl⟩ := pr_s hf
      exact z_iret C Z dX12_stands_20
theorem dX12_leaks_0 : decode cX12_leaks 0 = .ok (.iload_n 1, 1) := by decide +kernel
theorem dX12_leaks_1 : decode cX12_leaks 1 = .ok (.iconst (-1), 1) := by decide +kernel
theorem dX12_leaks_2 : decode cX12_leaks 2 = .ok (.if_icmp .eq 14, 3) := by decide +kernel
theorem dX12_leaks_5 : decode cX12_leaks 5 = .ok (.aload_n 0, 1) := by decide +kernel
theorem dX12_leaks_6 : decode cX12_leaks 6 = .ok (.iload_n 1, 1) := by decide +kernel
theorem dX12_leaks_7 : decode cX12_leaks 7 = .ok (.invokevirtual 241, 3) := by decide +kernel
theorem dX12_leaks_10 : decode cX12_leaks 10 = .ok (.ifCond .ne 6, 3) := by decide +kernel
theorem dX12_leaks_13 : decode cX12_leaks 13 = .ok (.bipush (-5), 2) := by decide +kernel
theorem dX12_leaks_15 : decode cX12_leaks 15 = .ok (.ireturn, 1) := by decide +kernel
theorem dX12_leaks_16 : decode cX12_leaks 16 = .ok (.aload_n 0, 1) := by decide +kernel
theorem dX12_leaks_17 : decode cX12_leaks 17 = .ok (.bipush 23, 2) := by decide +kernel
theorem dX12_leaks_19 : decode cX12_leaks 19 = .ok (.invokevirtual 350, 3) := by decide +kernel
theorem dX12_leaks_22 : decode cX12_leaks 22 = .ok (.iconst 0, 1) := by decide +kernel
theorem dX12_leaks_23 : decode cX12_leaks 23 = .ok (.istore_n 2, 1) := by decide +kernel
theorem dX12_leaks_24 : decode cX12_leaks 24 = .ok (.iconst 0, 1) := by decide +kernel
theorem dX12_leaks_25 : decode cX12_leaks 25 = .ok (.istore_n 3, 1) := by decide +kernel
theorem dX12_leaks_26 : decode cX12_leaks 26 = .ok (.iload_n 3, 1) := by decide +kernel
theorem dX12_leaks_27 : decode cX12_leaks 27 = .ok (.bipush 30, 2) := by decide +kernel
theorem dX12_leaks_29 : decode cX12_leaks 29 = .ok (.if_icmp .ge 32, 3) := by decide +kernel
theorem dX12_leaks_32 : decode cX12_leaks 32 = .ok (.iload_n 2, 1) := by decide +kernel
theorem dX12_leaks_33 : decode cX12_leaks 33 = .ok (.iload_n 1, 1) := by decide +kernel
theorem dX12_leaks_34 : decode cX12_leaks 34 = .ok (.iconst (-1), 1) := by decide +kernel
theorem dX12_leaks_35 : decode cX12_leaks 35 = .ok (.if_icmp .eq 8, 3) := by decide +kernel
theorem dX12_leaks_38 : decode cX12_leaks 38 = .ok (.iload_n 1, 1) := by decide +kernel
theorem dX12_leaks_39 : decode cX12_leaks 39 = .ok (.iload_n 3, 1) := by decide +kernel
theorem dX12_leaks_40 : decode cX12_leaks 40 = .ok (.if_icmp .ne 12, 3) := by decide +kernel
theorem dX12_leaks_43 : decode cX12_leaks 43 = .ok (.aload_n 0, 1) := by decide +kernel
theorem dX12_leaks_44 : decode cX12_leaks 44 = .ok (.getfield 149, 3) := by decide +kernel
theorem dX12_leaks_47 : decode cX12_leaks 47 = .ok (.iload_n 3, 1) := by decide +kernel
theorem dX12_leaks_48 : decode cX12_leaks 48 = .ok (.iaload, 1) := by decide +kernel
theorem dX12_leaks_49 : decode cX12_leaks 49 = .ok (.goto 4, 3) := by decide +kernel
theorem dX12_leaks_52 : decode cX12_leaks 52 = .ok (.iconst 0, 1) := by decide +kernel
theorem dX12_leaks_53 : decode cX12_leaks 53 = .ok (.iadd, 1) := by decide +kernel
theorem dX12_leaks_54 : decode cX12_leaks 54 = .ok (.istore_n 2, 1) := by decide +kernel
theorem dX12_leaks_55 : decode cX12_leaks 55 = .ok (.iinc 3 1, 3) := by decide +kernel
theorem dX12_leaks_58 : decode cX12_leaks 58 = .ok (.goto (-32), 3) := by decide +kernel
theorem dX12_leaks_61 : decode cX12_leaks 61 = .ok (.iload_n 2, 1) := by decide +kernel
theorem dX12_leaks_62 : decode cX12_leaks 62 = .ok (.ireturn, 1) := by decide +kernel
set_option maxRecDepth 100000 in
set_option maxHeartbeats 4000000 in
theorem w_X12_leaks_l26 {p : Program} {l : Launch} {e : Env} {R : Room} {s : State} {m : MethodId} {args : Array Value} {below : List Frame} {meth : Method} {c : Code} {cells slots : Nat} {Q : State → Prop} {K : KG} {ad : Nat → Nat → Nat} {fl : Nat} {g1 : Int32} (C : Cx p s m args meth c cX12_leaks 4 "GlassPalaceModel" (some .int)) (hR : 3 ≤ R.frames ∧ 40 * (3) ≤ R.locals) (hB : cells ≤ R.cells ∧ slots ≤ R.slots) : ∀ (n : Nat) (u2 : Int32) (u3 : Int32) (M0 : Mem) (H : Heap) (locs : List Loc) (ls : Array Slot), Zd K LM ad M0 s H locs → lv_has ls 4 [(0, .ref (ad 0 0)), (1, .int g1), (2, .int u2), (3, .int u3)] → ∀ (q : Int32) (Mq : Mem), f_X12_leaks_l26 fl g1 n u2 u3 M0 = some (q, Mq) → (∀ (H : Heap) (locs : List Loc) (ls : Array Slot), Zd K LM ad Mq s H locs → lv_has ls 4 [(2, .int q)] → W p l e R s m args below meth c H locs cells slots Q (F0 m 61 ls [])) → W p l e R s m args below meth c H locs cells slots Q (F0 m 26 ls []) := by
  intro n
  induction n with
  | zero =>
    intro u2 u3 M0 H locs ls Z hl q Mq hf
    have hf : (none : Option (Int32 × Mem)) = some (q, Mq) := hf
    cases hf
  | succ n ih =>
    intro u2 u3 M0 H locs ls Z hl q Mq hf kx0
    replace hf : f_X12_leaks_l26_b (f_X12_leaks_l26 fl g1 n) fl g1 u2 u3 M0 = some (q, Mq) := hf
    unfold f_X12_leaks_l26_b at hf
    refine lv_iload_n C.x C.b dX12_leaks_26 rfl (lv_at hl 3 rfl) ?_
    refine lv_bipush (v := 30) C.x C.b dX12_leaks_27 (by decide) ?_
    refine lv_icmp_ge (tgt := 61) C.x C.b dX12_leaks_29 (by decide) (fun hc3 => ?_) (fun hc3 => ?_)
    · replace hf := ite_t hf hc3
      obtain ⟨rfl, rfl⟩ := pr_s hf
      exact kx0 _ _ _ Z (lv_sub hl [2] rfl)
    · replace hf := ite_f hf hc3
      refine lv_iload_n C.x C.b dX12_leaks_32 rfl (lv_at hl 2 rfl) ?_
      refine lv_iload_n C.x C.b dX12_leaks_33 rfl (lv_at hl 1 rfl) ?_
      refine lv_iconst (v := (-1)) C.x C.b dX12_leaks_34 (by decide) ?_
      refine lv_icmp_eq (tgt := 43) C.x C.b dX12_leaks_35 (by decide) (fun hc4 => ?_) (fun hc4 => ?_)
      · replace hf := ite_t hf hc4
        refine lv_aload_n C.x C.b dX12_leaks_43 rfl (lv_at hl 0 rfl) ?_
        refine z_get C Z (lvM0 Nat.zero_lt_one) kM0 zc12 zin12 43 (by decide) k_1219 rfl svM0_43 dX12_leaks_44 ?_
        refine lv_iload_n C.x C.b dX12_leaks_47 rfl (lv_at hl 3 rfl) ?_
        replace hf := asr_s hf; obtain ⟨hq5, hf⟩ := hf
        refine z_iald C Z (lvM31 Nat.zero_lt_one) kM31 hq5 svM31 dX12_leaks_48 ?_
        refine lv_goto (tgt := 53) C.x C.b dX12_leaks_49 (by decide) ?_
        refine lv_iadd C.x C.b dX12_leaks_53 ?_
        replace hf := lt1_s hf; obtain ⟨x6, ex6, hf⟩ := hf
        refine z_renI ex6 ?_
        refine z_istore_n (lv' := [(2, .int x6), (0, .ref (ad 0 0)), (1, .int g1), (3, .int u3)]) C dX12_leaks_54 rfl hl (by decide) rfl (onlast 1 rfl rfl rfl) (fun ls hl => ?_)
        replace hf := lt1_s hf; obtain ⟨x7, ex7, hf⟩ := hf
        refine z_iinc (v := x7) (lv' := [(3, .int x7), (2, .int x6), (0, .ref (ad 0 0)), (1, .int g1)]) C dX12_leaks_55 hl (k := 3) rfl (by rw [ex7]; rfl) (by decide) rfl (onlast 0 rfl rfl rfl) (fun ls hl => ?_)
        refine lv_goto (tgt := 26) C.x C.b dX12_leaks_58 (by decide) ?_
        exact ih _ _ _ _ _ _ Z (lv_sub hl [2, 3, 1, 0] rfl) _ _ hf kx0
      · replace hf := ite_f hf hc4
        refine lv_iload_n C.x C.b dX12_leaks_38 rfl (lv_at hl 1 rfl) ?_
        refine lv_iload_n C.x C.b dX12_leaks_39 rfl (lv_at hl 3 rfl) ?_
        refine lv_icmp_ne (tgt := 52) C.x C.b dX12_leaks_40 (by decide) (fun hc8 => ?_) (fun hc8 => ?_)
        · replace hf := ite_f hf hc8
          refine lv_iconst (v := 0) C.x C.b dX12_leaks_52 (by decide) ?_
          refine lv_iadd C.x C.b dX12_leaks_53 ?_
          replace hf := lt1_s hf; obtain ⟨x9, ex9, hf⟩ := hf
          refine z_renI ex9 ?_
          refine z_istore_n (lv' := [(2, .int x9), (0, .ref (ad 0 0)), (1, .int g1), (3, .int u3)]) C dX12_leaks_54 rfl hl (by decide) rfl (onlast 1 rfl rfl rfl) (fun ls hl => ?_)
          replace hf := lt1_s hf; obtain ⟨x10, ex10, hf⟩ := hf
          refine z_iinc (v := x10) (lv' := [(3, .int x10), (2, .int x9), (0, .ref (ad 0 0)), (1, .int g1)]) C dX12_leaks_55 hl (k := 3) rfl (by rw [ex10]; rfl) (by decide) rfl (onlast 0 rfl rfl rfl) (fun ls hl => ?_)
          refine lv_goto (tgt := 26) C.x C.b dX12_leaks_58 (by decide) ?_
          exact ih _ _ _ _ _ _ Z (lv_sub hl [2, 3, 1, 0] rfl) _ _ hf kx0
        · replace hf := ite_t hf hc8
          refine lv_aload_n C.x C.b dX12_leaks_43 rfl (lv_at hl 0 rfl) ?_
          refine z_get C Z (lvM0 Nat.zero_lt_one) kM0 zc12 zin12 43 (by decide) k_1219 rfl svM0_43 dX12_leaks_44 ?_
          refine lv_iload_n C.x C.b dX12_leaks_47 rfl (lv_at hl 3 rfl) ?_
          replace hf := asr_s hf; obtain ⟨hq11, hf⟩ := hf
          refine z_iald C Z (lvM31 Nat.zero_lt_one) kM31 hq11 svM31 dX12_leaks_48 ?_
          refine lv_goto (tgt := 53) C.x C.b dX12_leaks_49 (by decide) ?_
          refine lv_iadd C.x C.b dX12_leaks_53 ?_
          replace hf := lt1_s hf; obtain ⟨x12, ex12, hf⟩ := hf
          refine z_renI ex12 ?_
          refine z_istore_n (lv' := [(2, .int x12), (0, .ref (ad 0 0)), (1, .int g1), (3, .int u3)]) C dX12_leaks_54 rfl hl (by decide) rfl (onlast 1 rfl rfl rfl) (fun ls hl => ?_)
          replace hf := lt1_s hf; obtain ⟨x13, ex13, hf⟩ := hf
          refine z_iinc (v := x13) (lv' := [(3, .int x13), (2, .int x12), (0, .ref (ad 0 0)), (1, .int g1)]) C dX12_leaks_55 hl (k := 3) rfl (by rw [ex13]; rfl) (by decide) rfl (onlast 0 rfl rfl rfl) (fun ls hl => ?_)
          refine lv_goto (tgt := 26) C.x C.b dX12_leaks_58 (by decide) ?_
          exact ih _ _ _ _ _ _ Z (lv_sub hl [2, 3, 1, 0] rfl) _ _ hf kx0
set_option maxRecDepth 100000 in
set_option maxHeartbeats 4000000 in
theorem w_X12_leaks_b16 {p : Program} {l : Launch} {e : Env} {s : State} {m : MethodId} {args : Array Value} {below : List Frame} {meth : Method} {c : Code} {K : KG} {ad : Nat → Nat → Nat} {fl : Nat} {H : Heap} {locs : List Loc} {ls : Array Slot} {g1 : Int32} {M0 : Mem} {r9 : Int32} {M9 : Mem} (C : Cx p s m args meth c cX12_leaks 4 "GlassPalaceModel" (some .int)) (hR : 3 ≤ (RM (3) 0 0).frames ∧ 40 * (3) ≤ (RM (3) 0 0).locals) (hB : 0 ≤ (RM (3) 0 0).cells ∧ 0 ≤ (RM (3) 0 0).slots) (Z : Zd K LM ad M0 s H locs) (hl : lv_has ls 4 [(0, .ref (ad 0 0)), (1, .int g1)]) (hf : f_X12_leaks_b16 fl g1 M0 = some (r9, M9)) : W p l e (RM (3) 0 0) s m args below meth c H locs 0 0 (MQ below (zQ K LM ad (some (.int r9)) M9) args s 0 0 (zA ad)) (F0 m 16 ls []) := by
  unfold f_X12_leaks_b16 at hf
  refine lv_aload_n C.x C.b dX12_leaks_16 rfl (lv_at hl 0 rfl) ?_
  refine lv_bipush (v := 23) C.x C.b dX12_leaks_17 (by decide) ?_
  replace hf := bn1_s hf; obtain ⟨m2, hkm2, hf⟩ := hf
  refine z_cV (As := [.int 23]) (rest := []) (st1 := []) C Z mw_X12_flow mv_X12_flow k_1637 (by decide) (z_hR hR (by decide)) (lvM0 Nat.zero_lt_one) kM0 zc12 (c_X12_flow (l := l) (K := K) (ad := ad) hkm2) rfl hl.1 rfl (Nat.le_of_ble_eq_true rfl) dX12_leaks_19 hB rfl (fun H locs Z => ?_)
  refine lv_iconst (v := 0) C.x C.b dX12_leaks_22 (by decide) ?_
  refine z_istore_n (lv' := [(2, .int 0), (0, .ref (ad 0 0)), (1, .int g1)]) C dX12_leaks_23 rfl hl (by decide) rfl (onlast 1 rfl rfl rfl) (fun ls hl => ?_)
  refine lv_iconst (v := 0) C.x C.b dX12_leaks_24 (by decide) ?_
  refine z_istore_n (lv' := [(3, .int 0), (2, .int 0), (0, .ref (ad 0 0)), (1, .int g1)]) C dX12_leaks_25 rfl hl (by decide) rfl (onlast 0 rfl rfl rfl) (fun ls hl => ?_)
  replace hf := bn2_s hf; obtain ⟨q14, m15, hq14, hf⟩ := hf
  refine w_X12_leaks_l26 C hR hB  fl _ _ _ _ _ _ Z (lv_sub hl [2, 3, 1, 0] rfl) _ _ hq14 (fun H locs ls Z hl => ?_)
  refine lv_iload_n C.x C.b dX12_leaks_61 rfl (lv_at hl 0 rfl) ?_
  obtain ⟨rfl, rfl⟩ := pr_s hf
  exact z_iret C Z dX12_leaks_62
set_option maxRecDepth 100000 in
set_option maxHeartbeats 4000000 in
theorem c_X12_leaks {l : Launch} {K : KG} {ad : Nat → Nat → Nat} {fl : Nat} {a1 : Int32} {M0 : Mem} {r9 : Int32} {M9 : Mem} (hf : f_X12_leaks fl a1 M0 = some (r9, M9)) : Met l yX12_leaks (Cond.code yX12_leaks cX12_leaks 4 (some .int) :: ztb) (RM (3) 0 0) (zPc K LM ad M0 [.ref (ad 0 0), .int a1]) (zQ K LM ad (some (.int r9)) M9) 0 0 (zA ad) := by
  refine z_enter (by decide) (Nat.le_of_ble_eq_true rfl) ?_
  intro p e s m args below meth c ls C hin hargs Z hl
  replace C : Cx p s m args meth c cX12_leaks 4 "GlassPalaceModel" (some .int) := C
  replace hl : lv_has ls 4 [(0, .ref (ad 0 0)), (1, .int a1)] := hl
  have hR : 3 ≤ (RM (3) 0 0).frames ∧ 40 * (3) ≤ (RM (3) 0 0).locals := ⟨Nat.le_refl _, Nat.le_refl _⟩
  have hB : 0 ≤ (RM (3) 0 0).cells ∧ 0 ≤ (RM (3) 0 0).slots := ⟨Nat.zero_le _, Nat.zero_le _⟩
  unfold f_X12_leaks at hf
  refine lv_iload_n C.x C.b dX12_leaks_0 rfl (lv_at hl 1 rfl) ?_
  refine lv_iconst (v := (-1)) C.x C.b dX12_leaks_1 (by decide) ?_
  refine lv_icmp_eq (tgt := 16) C.x C.b dX12_leaks_2 (by decide) (fun hc1 => ?_) (fun hc1 => ?_)
  · replace hf := ite_t hf hc1
    exact w_X12_leaks_b16 C hR hB  Z (lv_sub hl [0, 1] rfl) hf
  · replace hf := ite_f hf hc1
    refine lv_aload_n C.x C.b dX12_leaks_5 rfl (lv_at hl 0 rfl) ?_
    refine lv_iload_n C.x C.b dX12_leaks_6 rfl (lv_at hl 1 rfl) ?_
    replace hf := bn2_s hf; obtain ⟨v17, m16, hkm16, hf⟩ := hf
    refine z_cV (As := [.int a1]) (rest := []) (st1 := [.int v17]) C Z mw_X12_isBay mv_X12_isBay k_1406 (by decide) (z_hR hR (by decide)) (lvM0 Nat.zero_lt_one) kM0 zc12 (c_X12_isBay (l := l) (K := K) (ad := ad) hkm16) rfl hl.1 rfl (Nat.le_of_ble_eq_true rfl) dX12_leaks_7 hB rfl (fun H locs Z => ?_)
    refine lv_if_ne (tgt := 16) C.x C.b dX12_leaks_10 (by decide) (fun hc18 => ?_) (fun hc18 => ?_)
    · replace hf := ite_f hf hc18
      exact w_X12_leaks_b16 C hR hB  Z (lv_sub hl [0, 1] rfl) hf
    · replace hf := ite_t hf hc18
      refine lv_bipush (v := (-5)) C.x C.b dX12_leaks_13 (by decide) ?_
      obtain ⟨rfl, rfl⟩ := pr_s hf
      exact z_iret C Z dX12_leaks_15
theorem dX12_gang_0 : decode cX12_gang 0 = .ok (.aload_n 0, 1) := by decide +kernel
theorem dX12_gang_1 : decode cX12_gang 1 = .ok (.iload_n 1, 1) := by decide +kernel
theorem dX12_gang_2 : decode cX12_gang 2 = .ok (.iconst 1, 1) := by decide +kernel
theorem dX12_gang_3 : decode cX12_gang 3 = .ok (.iconst 4, 1) := by decide +kernel
theorem dX12_gang_4 : decode cX12_gang 4 = .ok (.invokevirtual 3, 3) := by decide +kernel
theorem dX12_gang_7 : decode cX12_gang 7 = .ok (.ifCond .ne 5, 3) := by decide +kernel
theorem dX12_gang_10 : decode cX12_gang 10 = .ok (.iconst (-1), 1) := by decide +kernel
theorem dX12_gang_11 : decode cX12_gang 11 = .ok (.ireturn, 1) := by decide +kernel
theorem dX12_gang_12 : decode cX12_gang 12 = .ok (.aload_n 0, 1) := by decide +kernel
theorem dX12_gang_13 : decode cX12_gang 13 = .ok (.iload_n 2, 1) := by decide +kernel
theorem dX12_gang_14 : decode cX12_gang 14 = .ok (.iconst 1, 1) := by decide +kernel
theorem dX12_gang_15 : decode cX12_gang 15 = .ok (.bipush 20, 2) := by decide +kernel
theorem dX12_gang_17 : decode cX12_gang 17 = .ok (.invokevirtual 3, 3) := by decide +kernel
theorem dX12_gang_20 : decode cX12_gang 20 = .ok (.ifCond .ne 6, 3) := by decide +kernel
theorem dX12_gang_23 : decode cX12_gang 23 = .ok (.bipush (-2), 2) := by decide +kernel
theorem dX12_gang_25 : decode cX12_gang 25 = .ok (.ireturn, 1) := by decide +kernel
theorem dX12_gang_26 : decode cX12_gang 26 = .ok (.aload_n 0, 1) := by decide +kernel
theorem dX12_gang_27 : decode cX12_gang 27 = .ok (.getfield 152, 3) := by decide +kernel
theorem dX12_gang_30 : decode cX12_gang 30 = .ok (.bipush 10, 2) := by decide +kernel
theorem dX12_gang_32 : decode cX12_gang 32 = .ok (.if_icmp .ne 6, 3) := by decide +kernel
theorem dX12_gang_35 : decode cX12_gang 35 = .ok (.bipush (-4), 2) := by decide +kernel
theorem dX12_gang_37 : decode cX12_gang 37 = .ok (.ireturn, 1) := by decide +kernel
theorem dX12_gang_38 : decode cX12_gang 38 = .ok (.aload_n 0, 1) := by decide +kernel
theorem dX12_gang_39 : decode cX12_gang 39 = .ok (.getfield 155, 3) := by decide +kernel
theorem dX12_gang_42 : decode cX12_gang 42 = .ok (.aload_n 0, 1) := by decide +kernel
theorem dX12_gang_43 : decode cX12_gang 43 = .ok (.getfield 152, 3) := by decide +kernel
theorem dX12_gang_46 : decode cX12_gang 46 = .ok (.iload_n 1, 1) := by decide +kernel
theorem dX12_gang_47 : decode cX12_gang 47 = .ok (.iastore, 1) := by decide +kernel
theorem dX12_gang_48 : decode cX12_gang 48 = .ok (.aload_n 0, 1) := by decide +kernel
theorem dX12_gang_49 : decode cX12_gang 49 = .ok (.getfield 158, 3) := by decide +kernel
theorem dX12_gang_52 : decode cX12_gang 52 = .ok (.aload_n 0, 1) := by decide +kernel
theorem dX12_gang_53 : decode cX12_gang 53 = .ok (.getfield 152, 3) := by decide +kernel
theorem dX12_gang_56 : decode cX12_gang 56 = .ok (.iload_n 2, 1) := by decide +kernel
theorem dX12_gang_57 : decode cX12_gang 57 = .ok (.iastore, 1) := by decide +kernel
theorem dX12_gang_58 : decode cX12_gang 58 = .ok (.aload_n 0, 1) := by decide +kernel
theorem dX12_gang_59 : decode cX12_gang 59 = .ok (.dup, 1) := by decide +kernel
theorem dX12_gang_60 : decode cX12_gang 60 = .ok (.getfield 152, 3) := by decide +kernel
theorem dX12_gang_63 : decode cX12_gang 63 = .ok (.iconst 1, 1) := by decide +kernel
theorem dX12_gang_64 : decode cX12_gang 64 = .ok (.iadd, 1) := by decide +kernel
theorem dX12_gang_65 : decode cX12_gang 65 = .ok (.putfield 152, 3) := by decide +kernel
theorem dX12_gang_68 : decode cX12_gang 68 = .ok (.aload_n 0, 1) := by decide +kernel
theorem dX12_gang_69 : decode cX12_gang 69 = .ok (.getfield 152, 3) := by decide +kernel
theorem dX12_gang_72 : decode cX12_gang 72 = .ok (.iconst 1, 1) := by decide +kernel
theorem dX12_gang_73 : decode cX12_gang 73 = .ok (.isub, 1) := by decide +kernel
theorem dX12_gang_74 : decode cX12_gang 74 = .ok (.ireturn, 1) := by decide +kernel
set_option maxRecDepth 100000 in
set_option maxHeartbeats 4000000 in
theorem c_X12_gang {l : Launch} {K : KG} {ad : Nat → Nat → Nat} {fl : Nat} {a1 : Int32} {a2 : Int32} {M0 : Mem} {r9 : Int32} {M9 : Mem} (hf : f_X12_gang fl a1 a2 M0 = some (r9, M9)) : Met l yX12_gang (Cond.code yX12_gang cX12_gang 3 (some .int) :: ztb) (RM (2) 0 0) (zPc K LM ad M0 [.ref (ad 0 0), .int a1, .int a2]) (zQ K LM ad (some (.int r9)) M9) 0 0 (zA ad) := by
  refine z_enter (by decide) (Nat.le_of_ble_eq_true rfl) ?_
  intro p e s m args below meth c ls C hin hargs Z hl
  replace C : Cx p s m args meth c cX12_gang 3 "GlassPalaceModel" (some .int) := C
  replace hl : lv_has ls 3 [(0, .ref (ad 0 0)), (1, .int a1), (2, .int a2)] := hl
  have hR : 2 ≤ (RM (2) 0 0).frames ∧ 40 * (2) ≤ (RM (2) 0 0).locals := ⟨Nat.le_refl _, Nat.le_refl _⟩
  have hB : 0 ≤ (RM (2) 0 0).cells ∧ 0 ≤ (RM (2) 0 0).slots := ⟨Nat.zero_le _, Nat.zero_le _⟩
  unfold f_X12_gang at hf
  refine lv_aload_n C.x C.b dX12_gang_0 rfl (lv_at hl 0 rfl) ?_
  refine lv_iload_n C.x C.b dX12_gang_1 rfl (lv_at hl 1 rfl) ?_
  refine lv_iconst (v := 1) C.x C.b dX12_gang_2 (by decide) ?_
  refine lv_iconst (v := 4) C.x C.b dX12_gang_3 (by decide) ?_
  replace hf := bn2_s hf; obtain ⟨v2, m1, hkm1, hf⟩ := hf
  refine z_cV (As := [.int a1, .int 1, .int 4]) (rest := []) (st1 := [.int v2]) C Z mw_X12_in mv_X12_in k_1398 (by decide) (z_hR hR (by decide)) (lvM0 Nat.zero_lt_one) kM0 zc12 (c_X12_in (l := l) (K := K) (ad := ad) hkm1) rfl hl.1 rfl (Nat.le_of_ble_eq_true rfl) dX12_gang_4 hB rfl (fun H locs Z => ?_)
  refine lv_if_ne (tgt := 12) C.x C.b dX12_gang_7 (by decide) (fun hc3 => ?_) (fun hc3 => ?_)
  · replace hf := ite_f hf hc3
    refine lv_aload_n C.x C.b dX12_gang_12 rfl (lv_at hl 0 rfl) ?_
    refine lv_iload_n C.x C.b dX12_gang_13 rfl (lv_at hl 2 rfl) ?_
    refine lv_iconst (v := 1) C.x C.b dX12_gang_14 (by decide) ?_
    refine lv_bipush (v := 20) C.x C.b dX12_gang_15 (by decide) ?_
    replace hf := bn2_s hf; obtain ⟨v5, m4, hkm4, hf⟩ := hf
    refine z_cV (As := [.int a2, .int 1, .int 20]) (rest := []) (st1 := [.int v5]) C Z mw_X12_in mv_X12_in k_1398 (by decide) (z_hR hR (by decide)) (lvM0 Nat.zero_lt_one) kM0 zc12 (c_X12_in (l := l) (K := K) (ad := ad) hkm4) rfl hl.1 rfl (Nat.le_of_ble_eq_true rfl) dX12_gang_17 hB rfl (fun H locs Z => ?_)
    refine lv_if_ne (tgt := 26) C.x C.b dX12_gang_20 (by decide) (fun hc6 => ?_) (fun hc6 => ?_)
    · replace hf := ite_f hf hc6
      refine lv_aload_n C.x C.b dX12_gang_26 rfl (lv_at hl 0 rfl) ?_
      refine z_get C Z (lvM0 Nat.zero_lt_one) kM0 zc12 zin12 44 (by decide) k_1220 rfl svM0_44 dX12_gang_27 ?_
      refine lv_bipush (v := 10) C.x C.b dX12_gang_30 (by decide) ?_
      refine lv_icmp_ne (tgt := 38) C.x C.b dX12_gang_32 (by decide) (fun hc7 => ?_) (fun hc7 => ?_)
      · replace hf := ite_f hf hc7
        refine lv_aload_n C.x C.b dX12_gang_38 rfl (lv_at hl 0 rfl) ?_
        refine z_get C Z (lvM0 Nat.zero_lt_one) kM0 zc12 zin12 45 (by decide) k_1221 rfl svM0_45 dX12_gang_39 ?_
        refine lv_aload_n C.x C.b dX12_gang_42 rfl (lv_at hl 0 rfl) ?_
        refine z_get C Z (lvM0 Nat.zero_lt_one) kM0 zc12 zin12 44 (by decide) k_1220 rfl svM0_44 dX12_gang_43 ?_
        refine lv_iload_n C.x C.b dX12_gang_46 rfl (lv_at hl 1 rfl) ?_
        replace hf := asr_s hf; obtain ⟨hq8, hf⟩ := hf
        replace hf := lt1_s hf; obtain ⟨m9, em9, hf⟩ := hf
        refine z_iast (M1 := m9) C Z (lvM32 Nat.zero_lt_one) (by decide) kM32 hq8 em9 stM32u dX12_gang_47 (fun H locs Z => ?_)
        refine lv_aload_n C.x C.b dX12_gang_48 rfl (lv_at hl 0 rfl) ?_
        refine z_get C Z (lvM0 Nat.zero_lt_one) kM0 zc12 zin12 46 (by decide) k_1222 rfl svM0_46 dX12_gang_49 ?_
        refine lv_aload_n C.x C.b dX12_gang_52 rfl (lv_at hl 0 rfl) ?_
        refine z_get C Z (lvM0 Nat.zero_lt_one) kM0 zc12 zin12 44 (by decide) k_1220 rfl svM0_44 dX12_gang_53 ?_
        refine lv_iload_n C.x C.b dX12_gang_56 rfl (lv_at hl 2 rfl) ?_
        replace hf := asr_s hf; obtain ⟨hq10, hf⟩ := hf
        replace hf := lt1_s hf; obtain ⟨m11, em11, hf⟩ := hf
        refine z_iast (M1 := m11) C Z (lvM33 Nat.zero_lt_one) (by decide) kM33 hq10 em11 stM33u dX12_gang_57 (fun H locs Z => ?_)
        refine lv_aload_n C.x C.b dX12_gang_58 rfl (lv_at hl 0 rfl) ?_
        refine lv_dup C.x C.b dX12_gang_59 rfl ?_
        refine z_get C Z (lvM0 Nat.zero_lt_one) kM0 zc12 zin12 44 (by decide) k_1220 rfl svM0_44 dX12_gang_60 ?_
        refine lv_iconst (v := 1) C.x C.b dX12_gang_63 (by decide) ?_
        refine lv_iadd C.x C.b dX12_gang_64 ?_
        replace hf := lt1_s hf; obtain ⟨m12, em12, hf⟩ := hf
        refine z_put (M1 := m12) C Z (lvM0 Nat.zero_lt_one) (by decide) kM0 zc12 zin12 tyX12_ok nmX12 44 (by decide) k_1220 rfl (zUp_I em12 stM0_44u) (Or.inl rfl) rfl rfl dX12_gang_65 (fun H locs Z => ?_)
        refine lv_aload_n C.x C.b dX12_gang_68 rfl (lv_at hl 0 rfl) ?_
        refine z_get C Z (lvM0 Nat.zero_lt_one) kM0 zc12 zin12 44 (by decide) k_1220 rfl svM0_44 dX12_gang_69 ?_
        refine lv_iconst (v := 1) C.x C.b dX12_gang_72 (by decide) ?_
        refine lv_isub C.x C.b dX12_gang_73 ?_
        obtain ⟨rfl, rfl⟩ := pr_s hf
        exact z_iret C Z dX12_gang_74
      · replace hf := ite_t hf hc7
        refine lv_bipush (v := (-4)) C.x C.b dX12_gang_35 (by decide) ?_
        obtain ⟨rfl, rfl⟩ := pr_s hf
        exact z_iret C Z dX12_gang_37
    · replace hf := ite_t hf hc6
      refine lv_bipush (v := (-2)) C.x C.b dX12_gang_23 (by decide) ?_
      obtain ⟨rfl, rfl⟩ := pr_s hf
      exact z_iret C Z dX12_gang_25
  · replace hf := ite_t hf hc3
    refine lv_iconst (v := (-1)) C.x C.b dX12_gang_10 (by decide) ?_
    obtain ⟨rfl, rfl⟩ := pr_s hf
    exact z_iret C Z dX12_gang_11
