theorem dX11_more_0 : decode cX11_more 0 = .ok (.iload_n 1, 1) := by decide +kernel
theorem dX11_more_1 : decode cX11_more 1 = .ok (.invokestatic 179, 3) := by decide +kernel
theorem dX11_more_4 : decode cX11_more 4 = .ok (.ifCond .ne 5, 3) := by decide +kernel
theorem dX11_more_7 : decode cX11_more 7 = .ok (.iconst (-1), 1) := by decide +kernel
theorem dX11_more_8 : decode cX11_more 8 = .ok (.ireturn, 1) := by decide +kernel
theorem dX11_more_9 : decode cX11_more 9 = .ok (.iload_n 2, 1) := by decide +kernel
theorem dX11_more_10 : decode cX11_more 10 = .ok (.invokestatic 113, 3) := by decide +kernel
theorem dX11_more_13 : decode cX11_more 13 = .ok (.ifCond .eq 23, 3) := by decide +kernel
theorem dX11_more_16 : decode cX11_more 16 = .ok (.iload_n 3, 1) := by decide +kernel
theorem dX11_more_17 : decode cX11_more 17 = .ok (.invokestatic 207, 3) := by decide +kernel
theorem dX11_more_20 : decode cX11_more 20 = .ok (.ifCond .eq 16, 3) := by decide +kernel
theorem dX11_more_23 : decode cX11_more 23 = .ok (.iload 4, 2) := by decide +kernel
theorem dX11_more_25 : decode cX11_more 25 = .ok (.ifCond .lt 11, 3) := by decide +kernel
theorem dX11_more_28 : decode cX11_more 28 = .ok (.iload 4, 2) := by decide +kernel
theorem dX11_more_30 : decode cX11_more 30 = .ok (.sipush 999, 3) := by decide +kernel
theorem dX11_more_33 : decode cX11_more 33 = .ok (.if_icmp .le 6, 3) := by decide +kernel
theorem dX11_more_36 : decode cX11_more 36 = .ok (.bipush (-2), 2) := by decide +kernel
theorem dX11_more_38 : decode cX11_more 38 = .ok (.ireturn, 1) := by decide +kernel
theorem dX11_more_39 : decode cX11_more 39 = .ok (.aload_n 0, 1) := by decide +kernel
theorem dX11_more_40 : decode cX11_more 40 = .ok (.getfield 60, 3) := by decide +kernel
theorem dX11_more_43 : decode cX11_more 43 = .ok (.iload_n 1, 1) := by decide +kernel
theorem dX11_more_44 : decode cX11_more 44 = .ok (.iload_n 2, 1) := by decide +kernel
theorem dX11_more_45 : decode cX11_more 45 = .ok (.iload_n 3, 1) := by decide +kernel
theorem dX11_more_46 : decode cX11_more 46 = .ok (.iload 4, 2) := by decide +kernel
theorem dX11_more_48 : decode cX11_more 48 = .ok (.invokevirtual 353, 3) := by decide +kernel
theorem dX11_more_51 : decode cX11_more 51 = .ok (.ifCond .eq 15, 3) := by decide +kernel
theorem dX11_more_54 : decode cX11_more 54 = .ok (.aload_n 0, 1) := by decide +kernel
theorem dX11_more_55 : decode cX11_more 55 = .ok (.getfield 60, 3) := by decide +kernel
theorem dX11_more_58 : decode cX11_more 58 = .ok (.getfield 337, 3) := by decide +kernel
theorem dX11_more_61 : decode cX11_more 61 = .ok (.iconst 1, 1) := by decide +kernel
theorem dX11_more_62 : decode cX11_more 62 = .ok (.isub, 1) := by decide +kernel
theorem dX11_more_63 : decode cX11_more 63 = .ok (.goto 5, 3) := by decide +kernel
theorem dX11_more_66 : decode cX11_more 66 = .ok (.bipush (-4), 2) := by decide +kernel
theorem dX11_more_68 : decode cX11_more 68 = .ok (.ireturn, 1) := by decide +kernel
set_option maxRecDepth 100000 in
set_option maxHeartbeats 4000000 in
theorem c_X11_more {l : Launch} {K : KG} {ad : Nat → Nat → Nat} {fl : Nat} {a1 : Int32} {a2 : Int32} {a3 : Int32} {a4 : Int32} {M0 : Mem} {r9 : Int32} {M9 : Mem} (hf : f_X11_more fl a1 a2 a3 a4 M0 = some (r9, M9)) : Met l yX11_more (Cond.code yX11_more cX11_more 5 (some .int) :: ztb) (RM (2) 0 0) (zPc K LC ad M0 [.ref (ad 0 0), .int a1, .int a2, .int a3, .int a4]) (zQ K LC ad (some (.int r9)) M9) 0 0 (zA ad) := by
  refine z_enter (by decide) (Nat.le_of_ble_eq_true rfl) ?_
  intro p e s m args below meth c ls C hin hargs Z hl
  replace C : Cx p s m args meth c cX11_more 5 "GlassPalace" (some .int) := C
  replace hl : lv_has ls 5 [(0, .ref (ad 0 0)), (1, .int a1), (2, .int a2), (3, .int a3), (4, .int a4)] := hl
  have hR : 2 ≤ (RM (2) 0 0).frames ∧ 40 * (2) ≤ (RM (2) 0 0).locals := ⟨Nat.le_refl _, Nat.le_refl _⟩
  have hB : 0 ≤ (RM (2) 0 0).cells ∧ 0 ≤ (RM (2) 0 0).slots := ⟨Nat.zero_le _, Nat.zero_le _⟩
  unfold f_X11_more at hf
  refine lv_iload_n C.x C.b dX11_more_0 rfl (lv_at hl 1 rfl) ?_
  replace hf := bn2_s hf; obtain ⟨v2, m1, hkm1, hf⟩ := hf
  refine z_cS (As := [.int a1]) (rest := []) (st1 := [.int v2]) C Z mw_X11_isPlace mv_X11_isPlace k_640 (by decide) (z_hR hR (by decide)) (c_X11_isPlace (l := l) (K := K) (ad := ad) hkm1) rfl hl.1 rfl (Nat.le_of_ble_eq_true rfl) dX11_more_1 hB rfl (fun H locs Z => ?_)
  refine lv_if_ne (tgt := 9) C.x C.b dX11_more_4 (by decide) (fun hc3 => ?_) (fun hc3 => ?_)
  · replace hf := ite_f hf hc3
    refine lv_iload_n C.x C.b dX11_more_9 rfl (lv_at hl 2 rfl) ?_
    replace hf := bn2_s hf; obtain ⟨v5, m4, hkm4, hf⟩ := hf
    refine z_cS (As := [.int a2]) (rest := []) (st1 := [.int v5]) C Z mw_X11_isNumberOfPieces mv_X11_isNumberOfPieces k_449 (by decide) (z_hR hR (by decide)) (c_X11_isNumberOfPieces (l := l) (K := K) (ad := ad) hkm4) rfl hl.1 rfl (Nat.le_of_ble_eq_true rfl) dX11_more_10 hB rfl (fun H locs Z => ?_)
    refine lv_if_eq (tgt := 36) C.x C.b dX11_more_13 (by decide) (fun hc6 => ?_) (fun hc6 => ?_)
    · replace hf := ite_t hf hc6
      refine lv_bipush (v := (-2)) C.x C.b dX11_more_36 (by decide) ?_
      obtain ⟨rfl, rfl⟩ := pr_s hf
      exact z_iret C Z dX11_more_38
    · replace hf := ite_f hf hc6
      refine lv_iload_n C.x C.b dX11_more_16 rfl (lv_at hl 3 rfl) ?_
      replace hf := bn2_s hf; obtain ⟨v8, m7, hkm7, hf⟩ := hf
      refine z_cS (As := [.int a3]) (rest := []) (st1 := [.int v8]) C Z mw_X11_isDay mv_X11_isDay k_685 (by decide) (z_hR hR (by decide)) (c_X11_isDay (l := l) (K := K) (ad := ad) hkm7) rfl hl.1 rfl (Nat.le_of_ble_eq_true rfl) dX11_more_17 hB rfl (fun H locs Z => ?_)
      refine lv_if_eq (tgt := 36) C.x C.b dX11_more_20 (by decide) (fun hc9 => ?_) (fun hc9 => ?_)
      · replace hf := ite_t hf hc9
        refine lv_bipush (v := (-2)) C.x C.b dX11_more_36 (by decide) ?_
        obtain ⟨rfl, rfl⟩ := pr_s hf
        exact z_iret C Z dX11_more_38
      · replace hf := ite_f hf hc9
        refine lv_iload C.x C.b dX11_more_23 (lv_at hl 4 rfl) ?_
        refine lv_if_lt (tgt := 36) C.x C.b dX11_more_25 (by decide) (fun hc10 => ?_) (fun hc10 => ?_)
        · replace hf := ite_t hf hc10
          refine lv_bipush (v := (-2)) C.x C.b dX11_more_36 (by decide) ?_
          obtain ⟨rfl, rfl⟩ := pr_s hf
          exact z_iret C Z dX11_more_38
        · replace hf := ite_f hf hc10
          refine lv_iload C.x C.b dX11_more_28 (lv_at hl 4 rfl) ?_
          refine lv_sipush (v := 999) C.x C.b dX11_more_30 (by decide) ?_
          refine lv_icmp_le (tgt := 39) C.x C.b dX11_more_33 (by decide) (fun hc11 => ?_) (fun hc11 => ?_)
          · replace hf := ite_t hf hc11
            refine lv_aload_n C.x C.b dX11_more_39 rfl (lv_at hl 0 rfl) ?_
            refine z_get C Z (lvC0 Nat.zero_lt_one) kC0 zc11 zin11 11 (by decide) k_373 rfl svC0_11 dX11_more_40 ?_
            refine lv_iload_n C.x C.b dX11_more_43 rfl (lv_at hl 1 rfl) ?_
            refine lv_iload_n C.x C.b dX11_more_44 rfl (lv_at hl 2 rfl) ?_
            refine lv_iload_n C.x C.b dX11_more_45 rfl (lv_at hl 3 rfl) ?_
            refine lv_iload C.x C.b dX11_more_46 (lv_at hl 4 rfl) ?_
            replace hf := bn2_s hf; obtain ⟨v13, m12, hkm12, hf⟩ := hf
            refine z_cV (As := [.int a1, .int a2, .int a3, .int a4]) (rest := []) (st1 := [.int v13]) C Z mw_X6_addAddition mv_X6_addAddition k_998 (by decide) (z_hR hR (by decide)) (lvC9 Nat.zero_lt_one) kC9 zc6 (c_X6_addAddition (l := l) (K := K) (ad := ad) hkm12) rfl hl.1 rfl (Nat.le_of_ble_eq_true rfl) dX11_more_48 hB rfl (fun H locs Z => ?_)
            refine lv_if_eq (tgt := 66) C.x C.b dX11_more_51 (by decide) (fun hc14 => ?_) (fun hc14 => ?_)
            · replace hf := ite_t hf hc14
              refine lv_bipush (v := (-4)) C.x C.b dX11_more_66 (by decide) ?_
              obtain ⟨rfl, rfl⟩ := pr_s hf
              exact z_iret C Z dX11_more_68
            · replace hf := ite_f hf hc14
              refine lv_aload_n C.x C.b dX11_more_54 rfl (lv_at hl 0 rfl) ?_
              refine z_get C Z (lvC0 Nat.zero_lt_one) kC0 zc11 zin11 11 (by decide) k_373 rfl svC0_11 dX11_more_55 ?_
              refine z_get C Z (lvC9 Nat.zero_lt_one) kC9 zc6 zin6 1 (by decide) k_237 rfl svC9_1 dX11_more_58 ?_
              refine lv_iconst (v := 1) C.x C.b dX11_more_61 (by decide) ?_
              refine lv_isub C.x C.b dX11_more_62 ?_
              refine lv_goto (tgt := 68) C.x C.b dX11_more_63 (by decide) ?_
              obtain ⟨rfl, rfl⟩ := pr_s hf
              exact z_iret C Z dX11_more_68
          · replace hf := ite_f hf hc11
            refine lv_bipush (v := (-2)) C.x C.b dX11_more_36 (by decide) ?_
            obtain ⟨rfl, rfl⟩ := pr_s hf
            exact z_iret C Z dX11_more_38
  · replace hf := ite_t hf hc3
    refine lv_iconst (v := (-1)) C.x C.b dX11_more_7 (by decide) ?_
    obtain ⟨rfl, rfl⟩ := pr_s hf
    exact z_iret C Z dX11_more_8
theorem dX11_best_0 : decode cX11_best 0 = .ok (.aload_n 0, 1) := by decide +kernel
theorem dX11_best_1 : decode cX11_best 1 = .ok (.iconst 1, 1) := by decide +kernel
theorem dX11_best_2 : decode cX11_best 2 = .ok (.invokevirtual 340, 3) := by decide +kernel
theorem dX11_best_5 : decode cX11_best 5 = .ok (.aload_n 0, 1) := by decide +kernel
theorem dX11_best_6 : decode cX11_best 6 = .ok (.getfield 60, 3) := by decide +kernel
theorem dX11_best_9 : decode cX11_best 9 = .ok (.invokevirtual 357, 3) := by decide +kernel
theorem dX11_best_12 : decode cX11_best 12 = .ok (.ireturn, 1) := by decide +kernel
set_option maxRecDepth 100000 in
set_option maxHeartbeats 4000000 in
theorem c_X11_best {l : Launch} {K : KG} {ad : Nat → Nat → Nat} {fl : Nat}  {M0 : Mem} {r9 : Int32} {M9 : Mem} (hf : f_X11_best fl  M0 = some (r9, M9)) : Met l yX11_best (Cond.code yX11_best cX11_best 1 (some .int) :: ztb) (RM (5) 0 0) (zPc K LC ad M0 [.ref (ad 0 0)]) (zQ K LC ad (some (.int r9)) M9) 0 0 (zA ad) := by
  refine z_enter (by decide) (Nat.le_of_ble_eq_true rfl) ?_
  intro p e s m args below meth c ls C hin hargs Z hl
  replace C : Cx p s m args meth c cX11_best 1 "GlassPalace" (some .int) := C
  replace hl : lv_has ls 1 [(0, .ref (ad 0 0))] := hl
  have hR : 5 ≤ (RM (5) 0 0).frames ∧ 40 * (5) ≤ (RM (5) 0 0).locals := ⟨Nat.le_refl _, Nat.le_refl _⟩
  have hB : 0 ≤ (RM (5) 0 0).cells ∧ 0 ≤ (RM (5) 0 0).slots := ⟨Nat.zero_le _, Nat.zero_le _⟩
  unfold f_X11_best at hf
  refine lv_aload_n C.x C.b dX11_best_0 rfl (lv_at hl 0 rfl) ?_
  refine lv_iconst (v := 1) C.x C.b dX11_best_1 (by decide) ?_
  replace hf := bn1_s hf; obtain ⟨m1, hkm1, hf⟩ := hf
  refine z_cV (As := [.int 1]) (rest := []) (st1 := []) C Z mw_X11_lookAhead mv_X11_lookAhead k_974 (by decide) (z_hR hR (by decide)) (lvC0 Nat.zero_lt_one) kC0 zc11 (c_X11_lookAhead (l := l) (K := K) (ad := ad) hkm1) rfl hl.1 rfl (Nat.le_of_ble_eq_true rfl) dX11_best_2 hB rfl (fun H locs Z => ?_)
  refine lv_aload_n C.x C.b dX11_best_5 rfl (lv_at hl 0 rfl) ?_
  refine z_get C Z (lvC0 Nat.zero_lt_one) kC0 zc11 zin11 11 (by decide) k_373 rfl svC0_11 dX11_best_6 ?_
  replace hf := bn2_s hf; obtain ⟨v3, m2, hkm2, hf⟩ := hf
  refine z_cV (As := []) (rest := []) (st1 := [.int v3]) C Z mw_X6_cheapestSet mv_X6_cheapestSet k_1006 (by decide) (z_hR hR (by decide)) (lvC9 Nat.zero_lt_one) kC9 zc6 (c_X6_cheapestSet (l := l) (K := K) (ad := ad) hkm2) rfl hl.1 rfl (Nat.le_of_ble_eq_true rfl) dX11_best_9 hB rfl (fun H locs Z => ?_)
  obtain ⟨rfl, rfl⟩ := pr_s hf
  exact z_iret C Z dX11_best_12
theorem dX11_isNation_0 : decode cX11_isNation 0 = .ok (.iload_n 0, 1) := by decide +kernel
theorem dX11_isNation_1 : decode cX11_isNation 1 = .ok (.ifCond .lt 13, 3) := by decide +kernel
theorem dX11_isNation_4 : decode cX11_isNation 4 = .ok (.iload_n 0, 1) := by decide +kernel
theorem dX11_isNation_5 : decode cX11_isNation 5 = .ok (.bipush 8, 2) := by decide +kernel
theorem dX11_isNation_7 : decode cX11_isNation 7 = .ok (.if_icmp .ge 7, 3) := by decide +kernel
theorem dX11_isNation_10 : decode cX11_isNation 10 = .ok (.iconst 1, 1) := by decide +kernel
theorem dX11_isNation_11 : decode cX11_isNation 11 = .ok (.goto 4, 3) := by decide +kernel
theorem dX11_isNation_14 : decode cX11_isNation 14 = .ok (.iconst 0, 1) := by decide +kernel
theorem dX11_isNation_15 : decode cX11_isNation 15 = .ok (.ireturn, 1) := by decide +kernel
set_option maxRecDepth 100000 in
set_option maxHeartbeats 4000000 in
theorem c_X11_isNation {l : Launch} {K : KG} {ad : Nat → Nat → Nat} {fl : Nat} {a1 : Int32} {M0 : Mem} {r9 : Int32} {M9 : Mem} (hf : f_X11_isNation fl a1 M0 = some (r9, M9)) : Met l yX11_isNation (Cond.code yX11_isNation cX11_isNation 1 (some .boolean) :: ztb) (RM (1) 0 0) (zPc K LC ad M0 [.int a1]) (zQ K LC ad (some (.int r9)) M9) 0 0 (zA ad) := by
  refine z_enter (by decide) (Nat.le_of_ble_eq_true rfl) ?_
  intro p e s m args below meth c ls C hin hargs Z hl
  replace C : Cx p s m args meth c cX11_isNation 1 "GlassPalace" (some .boolean) := C
  replace hl : lv_has ls 1 [(0, .int a1)] := hl
  have hR : 1 ≤ (RM (1) 0 0).frames ∧ 40 * (1) ≤ (RM (1) 0 0).locals := ⟨Nat.le_refl _, Nat.le_refl _⟩
  have hB : 0 ≤ (RM (1) 0 0).cells ∧ 0 ≤ (RM (1) 0 0).slots := ⟨Nat.zero_le _, Nat.zero_le _⟩
  unfold f_X11_isNation at hf
  refine lv_iload_n C.x C.b dX11_isNation_0 rfl (lv_at hl 0 rfl) ?_
  refine lv_if_lt (tgt := 14) C.x C.b dX11_isNation_1 (by decide) (fun hc1 => ?_) (fun hc1 => ?_)
  · replace hf := ite_t hf hc1
    refine lv_iconst (v := 0) C.x C.b dX11_isNation_14 (by decide) ?_
    obtain ⟨rfl, rfl⟩ := pr_s hf
    exact z_zret C Z rfl dX11_isNation_15
  · replace hf := ite_f hf hc1
    refine lv_iload_n C.x C.b dX11_isNation_4 rfl (lv_at hl 0 rfl) ?_
    refine lv_bipush (v := 8) C.x C.b dX11_isNation_5 (by decide) ?_
    refine lv_icmp_ge (tgt := 14) C.x C.b dX11_isNation_7 (by decide) (fun hc2 => ?_) (fun hc2 => ?_)
    · replace hf := ite_t hf hc2
      refine lv_iconst (v := 0) C.x C.b dX11_isNation_14 (by decide) ?_
      obtain ⟨rfl, rfl⟩ := pr_s hf
      exact z_zret C Z rfl dX11_isNation_15
    · replace hf := ite_f hf hc2
      refine lv_iconst (v := 1) C.x C.b dX11_isNation_10 (by decide) ?_
      refine lv_goto (tgt := 15) C.x C.b dX11_isNation_11 (by decide) ?_
      obtain ⟨rfl, rfl⟩ := pr_s hf
      exact z_zret C Z rfl dX11_isNation_15
theorem dX11_let_0 : decode cX11_let 0 = .ok (.iload_n 1, 1) := by decide +kernel
theorem dX11_let_1 : decode cX11_let 1 = .ok (.invokestatic 360, 3) := by decide +kernel
theorem dX11_let_4 : decode cX11_let 4 = .ok (.ifCond .ne 5, 3) := by decide +kernel
theorem dX11_let_7 : decode cX11_let 7 = .ok (.iconst (-1), 1) := by decide +kernel
theorem dX11_let_8 : decode cX11_let 8 = .ok (.ireturn, 1) := by decide +kernel
theorem dX11_let_9 : decode cX11_let 9 = .ok (.iload_n 2, 1) := by decide +kernel
theorem dX11_let_10 : decode cX11_let 10 = .ok (.iconst 1, 1) := by decide +kernel
theorem dX11_let_11 : decode cX11_let 11 = .ok (.if_icmp .lt 9, 3) := by decide +kernel
theorem dX11_let_14 : decode cX11_let 14 = .ok (.iload_n 2, 1) := by decide +kernel
theorem dX11_let_15 : decode cX11_let 15 = .ok (.bipush 6, 2) := by decide +kernel
theorem dX11_let_17 : decode cX11_let 17 = .ok (.if_icmp .le 6, 3) := by decide +kernel
theorem dX11_let_20 : decode cX11_let 20 = .ok (.bipush (-2), 2) := by decide +kernel
theorem dX11_let_22 : decode cX11_let 22 = .ok (.ireturn, 1) := by decide +kernel
theorem dX11_let_23 : decode cX11_let 23 = .ok (.aload_n 0, 1) := by decide +kernel
theorem dX11_let_24 : decode cX11_let 24 = .ok (.getfield 67, 3) := by decide +kernel
theorem dX11_let_27 : decode cX11_let 27 = .ok (.iload_n 1, 1) := by decide +kernel
theorem dX11_let_28 : decode cX11_let 28 = .ok (.iload_n 2, 1) := by decide +kernel
theorem dX11_let_29 : decode cX11_let 29 = .ok (.invokevirtual 363, 3) := by decide +kernel
theorem dX11_let_32 : decode cX11_let 32 = .ok (.ireturn, 1) := by decide +kernel
set_option maxRecDepth 100000 in
set_option maxHeartbeats 4000000 in
theorem c_X11_let {l : Launch} {K : KG} {ad : Nat → Nat → Nat} {fl : Nat} {a1 : Int32} {a2 : Int32} {M0 : Mem} {r9 : Int32} {M9 : Mem} (hf : f_X11_let fl a1 a2 M0 = some (r9, M9)) : Met l yX11_let (Cond.code yX11_let cX11_let 3 (some .int) :: ztb) (RM (4) 0 0) (zPc K LC ad M0 [.ref (ad 0 0), .int a1, .int a2]) (zQ K LC ad (some (.int r9)) M9) 0 0 (zA ad) := by
  refine z_enter (by decide) (Nat.le_of_ble_eq_true rfl) ?_
  intro p e s m args below meth c ls C hin hargs Z hl
  replace C : Cx p s m args meth c cX11_let 3 "GlassPalace" (some .int) := C
  replace hl : lv_has ls 3 [(0, .ref (ad 0 0)), (1, .int a1), (2, .int a2)] := hl
  have hR : 4 ≤ (RM (4) 0 0).frames ∧ 40 * (4) ≤ (RM (4) 0 0).locals := ⟨Nat.le_refl _, Nat.le_refl _⟩
  have hB : 0 ≤ (RM (4) 0 0).cells ∧ 0 ≤ (RM (4) 0 0).slots := ⟨Nat.zero_le _, Nat.zero_le _⟩
  unfold f_X11_let at hf
  refine lv_iload_n C.x C.b dX11_let_0 rfl (lv_at hl 1 rfl) ?_
  replace hf := bn2_s hf; obtain ⟨v2, m1, hkm1, hf⟩ := hf
  refine z_cS (As := [.int a1]) (rest := []) (st1 := [.int v2]) C Z mw_X11_isNation mv_X11_isNation k_1025 (by decide) (z_hR hR (by decide)) (c_X11_isNation (l := l) (K := K) (ad := ad) hkm1) rfl hl.1 rfl (Nat.le_of_ble_eq_true rfl) dX11_let_1 hB rfl (fun H locs Z => ?_)
  refine lv_if_ne (tgt := 9) C.x C.b dX11_let_4 (by decide) (fun hc3 => ?_) (fun hc3 => ?_)
  · replace hf := ite_f hf hc3
    refine lv_iload_n C.x C.b dX11_let_9 rfl (lv_at hl 2 rfl) ?_
    refine lv_iconst (v := 1) C.x C.b dX11_let_10 (by decide) ?_
    refine lv_icmp_lt (tgt := 20) C.x C.b dX11_let_11 (by decide) (fun hc4 => ?_) (fun hc4 => ?_)
    · replace hf := ite_t hf hc4
      refine lv_bipush (v := (-2)) C.x C.b dX11_let_20 (by decide) ?_
      obtain ⟨rfl, rfl⟩ := pr_s hf
      exact z_iret C Z dX11_let_22
    · replace hf := ite_f hf hc4
      refine lv_iload_n C.x C.b dX11_let_14 rfl (lv_at hl 2 rfl) ?_
      refine lv_bipush (v := 6) C.x C.b dX11_let_15 (by decide) ?_
      refine lv_icmp_le (tgt := 23) C.x C.b dX11_let_17 (by decide) (fun hc5 => ?_) (fun hc5 => ?_)
      · replace hf := ite_t hf hc5
        refine lv_aload_n C.x C.b dX11_let_23 rfl (lv_at hl 0 rfl) ?_
        refine z_get C Z (lvC0 Nat.zero_lt_one) kC0 zc11 zin11 12 (by decide) k_374 rfl svC0_12 dX11_let_24 ?_
        refine lv_iload_n C.x C.b dX11_let_27 rfl (lv_at hl 1 rfl) ?_
        refine lv_iload_n C.x C.b dX11_let_28 rfl (lv_at hl 2 rfl) ?_
        replace hf := bn2_s hf; obtain ⟨v7, m6, hkm6, hf⟩ := hf
        refine z_cV (As := [.int a1, .int a2]) (rest := []) (st1 := [.int v7]) C Z mw_X5_place mv_X5_place k_1028 (by decide) (z_hR hR (by decide)) (lvC10 Nat.zero_lt_one) kC10 zc5 (c_X5_place (l := l) (K := K) (ad := ad) hkm6) rfl hl.1 rfl (Nat.le_of_ble_eq_true rfl) dX11_let_29 hB rfl (fun H locs Z => ?_)
        obtain ⟨rfl, rfl⟩ := pr_s hf
        exact z_iret C Z dX11_let_32
      · replace hf := ite_f hf hc5
        refine lv_bipush (v := (-2)) C.x C.b dX11_let_20 (by decide) ?_
        obtain ⟨rfl, rfl⟩ := pr_s hf
        exact z_iret C Z dX11_let_22
  · replace hf := ite_t hf hc3
    refine lv_iconst (v := (-1)) C.x C.b dX11_let_7 (by decide) ?_
    obtain ⟨rfl, rfl⟩ := pr_s hf
    exact z_iret C Z dX11_let_8
theorem dX11_nation_0 : decode cX11_nation 0 = .ok (.iload_n 1, 1) := by decide +kernel
theorem dX11_nation_1 : decode cX11_nation 1 = .ok (.invokestatic 360, 3) := by decide +kernel
theorem dX11_nation_4 : decode cX11_nation 4 = .ok (.ifCond .ne 5, 3) := by decide +kernel
theorem dX11_nation_7 : decode cX11_nation 7 = .ok (.iconst (-1), 1) := by decide +kernel
theorem dX11_nation_8 : decode cX11_nation 8 = .ok (.ireturn, 1) := by decide +kernel
theorem dX11_nation_9 : decode cX11_nation 9 = .ok (.iload_n 2, 1) := by decide +kernel
theorem dX11_nation_10 : decode cX11_nation 10 = .ok (.tableswitch 73 0 2 #[26, 53, 63], 26) := by decide +kernel
theorem dX11_nation_36 : decode cX11_nation 36 = .ok (.aload_n 0, 1) := by decide +kernel
theorem dX11_nation_37 : decode cX11_nation 37 = .ok (.getfield 67, 3) := by decide +kernel
theorem dX11_nation_40 : decode cX11_nation 40 = .ok (.getfield 365, 3) := by decide +kernel
theorem dX11_nation_43 : decode cX11_nation 43 = .ok (.iload_n 1, 1) := by decide +kernel
theorem dX11_nation_44 : decode cX11_nation 44 = .ok (.iaload, 1) := by decide +kernel
theorem dX11_nation_45 : decode cX11_nation 45 = .ok (.ifCond .ne 8, 3) := by decide +kernel
theorem dX11_nation_48 : decode cX11_nation 48 = .ok (.bipush (-5), 2) := by decide +kernel
theorem dX11_nation_50 : decode cX11_nation 50 = .ok (.goto 12, 3) := by decide +kernel
theorem dX11_nation_53 : decode cX11_nation 53 = .ok (.aload_n 0, 1) := by decide +kernel
theorem dX11_nation_54 : decode cX11_nation 54 = .ok (.getfield 67, 3) := by decide +kernel
theorem dX11_nation_57 : decode cX11_nation 57 = .ok (.getfield 368, 3) := by decide +kernel
theorem dX11_nation_60 : decode cX11_nation 60 = .ok (.iload_n 1, 1) := by decide +kernel
theorem dX11_nation_61 : decode cX11_nation 61 = .ok (.iaload, 1) := by decide +kernel
theorem dX11_nation_62 : decode cX11_nation 62 = .ok (.ireturn, 1) := by decide +kernel
theorem dX11_nation_63 : decode cX11_nation 63 = .ok (.aload_n 0, 1) := by decide +kernel
theorem dX11_nation_64 : decode cX11_nation 64 = .ok (.getfield 67, 3) := by decide +kernel
theorem dX11_nation_67 : decode cX11_nation 67 = .ok (.getfield 365, 3) := by decide +kernel
theorem dX11_nation_70 : decode cX11_nation 70 = .ok (.iload_n 1, 1) := by decide +kernel
theorem dX11_nation_71 : decode cX11_nation 71 = .ok (.iaload, 1) := by decide +kernel
theorem dX11_nation_72 : decode cX11_nation 72 = .ok (.ireturn, 1) := by decide +kernel
theorem dX11_nation_73 : decode cX11_nation 73 = .ok (.aload_n 0, 1) := by decide +kernel
theorem dX11_nation_74 : decode cX11_nation 74 = .ok (.getfield 67, 3) := by decide +kernel
theorem dX11_nation_77 : decode cX11_nation 77 = .ok (.getfield 371, 3) := by decide +kernel
theorem dX11_nation_80 : decode cX11_nation 80 = .ok (.iload_n 1, 1) := by decide +kernel
theorem dX11_nation_81 : decode cX11_nation 81 = .ok (.iaload, 1) := by decide +kernel
theorem dX11_nation_82 : decode cX11_nation 82 = .ok (.ireturn, 1) := by decide +kernel
theorem dX11_nation_83 : decode cX11_nation 83 = .ok (.iconst (-1), 1) := by decide +kernel
theorem dX11_nation_84 : decode cX11_nation 84 = .ok (.ireturn, 1) := by decide +kernel
set_option maxRecDepth 100000 in
set_option maxHeartbeats 4000000 in
theorem c_X11_nation {l : Launch} {K : KG} {ad : Nat → Nat → Nat} {fl : Nat} {a1 : Int32} {a2 : Int32} {M0 : Mem} {r9 : Int32} {M9 : Mem} (hf : f_X11_nation fl a1 a2 M0 = some (r9, M9)) : Met l yX11_nation (Cond.code yX11_nation cX11_nation 3 (some .int) :: ztb) (RM (2) 0 0) (zPc K LC ad M0 [.ref (ad 0 0), .int a1, .int a2]) (zQ K LC ad (some (.int r9)) M9) 0 0 (zA ad) := by
  refine z_enter (by decide) (Nat.le_of_ble_eq_true rfl) ?_
  intro p e s m args below meth c ls C hin hargs Z hl
  replace C : Cx p s m args meth c cX11_nation 3 "GlassPalace" (some .int) := C
  replace hl : lv_has ls 3 [(0, .ref (ad 0 0)), (1, .int a1), (2, .int a2)] := hl
  have hR : 2 ≤ (RM (2) 0 0).frames ∧ 40 * (2) ≤ (RM (2) 0 0).locals := ⟨Nat.le_refl _, Nat.le_refl _⟩
  have hB : 0 ≤ (RM (2) 0 0).cells ∧ 0 ≤ (RM (2) 0 0).slots := ⟨Nat.zero_le _, Nat.zero_le _⟩
  unfold f_X11_nation at hf
  refine lv_iload_n C.x C.b dX11_nation_0 rfl (lv_at hl 1 rfl) ?_
  replace hf := bn2_s hf; obtain ⟨v2, m1, hkm1, hf⟩ := hf
  refine z_cS (As := [.int a1]) (rest := []) (st1 := [.int v2]) C Z mw_X11_isNation mv_X11_isNation k_1025 (by decide) (z_hR hR (by decide)) (c_X11_isNation (l := l) (K := K) (ad := ad) hkm1) rfl hl.1 rfl (Nat.le_of_ble_eq_true rfl) dX11_nation_1 hB rfl (fun H locs Z => ?_)
  refine lv_if_ne (tgt := 9) C.x C.b dX11_nation_4 (by decide) (fun hc3 => ?_) (fun hc3 => ?_)
  · replace hf := ite_f hf hc3
    refine lv_iload_n C.x C.b dX11_nation_9 rfl (lv_at hl 2 rfl) ?_
    by_cases hx4 : a2 = 0
    · replace hf := ite_t hf hx4
      refine lv_tableIn (tgt := 36) C.x C.b dX11_nation_10 (by rw [hx4]; decide) (by rw [hx4]; decide) (by rw [hx4]; rfl) (by decide) ?_
      refine lv_aload_n C.x C.b dX11_nation_36 rfl (lv_at hl 0 rfl) ?_
      refine z_get C Z (lvC0 Nat.zero_lt_one) kC0 zc11 zin11 12 (by decide) k_374 rfl svC0_12 dX11_nation_37 ?_
      refine z_get C Z (lvC10 Nat.zero_lt_one) kC10 zc5 zin5 1 (by decide) k_279 rfl svC10_1 dX11_nation_40 ?_
      refine lv_iload_n C.x C.b dX11_nation_43 rfl (lv_at hl 1 rfl) ?_
      replace hf := asr_s hf; obtain ⟨hq5, hf⟩ := hf
      refine z_iald C Z (lvC39 Nat.zero_lt_one) kC39 hq5 svC39 dX11_nation_44 ?_
      refine lv_if_ne (tgt := 53) C.x C.b dX11_nation_45 (by decide) (fun hc6 => ?_) (fun hc6 => ?_)
      · replace hf := ite_f hf hc6
        refine lv_aload_n C.x C.b dX11_nation_53 rfl (lv_at hl 0 rfl) ?_
        refine z_get C Z (lvC0 Nat.zero_lt_one) kC0 zc11 zin11 12 (by decide) k_374 rfl svC0_12 dX11_nation_54 ?_
        refine z_get C Z (lvC10 Nat.zero_lt_one) kC10 zc5 zin5 0 (by decide) k_277 rfl svC10_0 dX11_nation_57 ?_
        refine lv_iload_n C.x C.b dX11_nation_60 rfl (lv_at hl 1 rfl) ?_
        replace hf := asr_s hf; obtain ⟨hq7, hf⟩ := hf
        refine z_iald C Z (lvC38 Nat.zero_lt_one) kC38 hq7 svC38 dX11_nation_61 ?_
        obtain ⟨rfl, rfl⟩ := pr_s hf
        exact z_iret C Z dX11_nation_62
      · replace hf := ite_t hf hc6
        refine lv_bipush (v := (-5)) C.x C.b dX11_nation_48 (by decide) ?_
        refine lv_goto (tgt := 62) C.x C.b dX11_nation_50 (by decide) ?_
        obtain ⟨rfl, rfl⟩ := pr_s hf
        exact z_iret C Z dX11_nation_62
    replace hf := ite_f hf hx4
    by_cases hx8 : a2 = 1
    · replace hf := ite_t hf hx8
      refine lv_tableIn (tgt := 63) C.x C.b dX11_nation_10 (by rw [hx8]; decide) (by rw [hx8]; decide) (by rw [hx8]; rfl) (by decide) ?_
      refine lv_aload_n C.x C.b dX11_nation_63 rfl (lv_at hl 0 rfl) ?_
      refine z_get C Z (lvC0 Nat.zero_lt_one) kC0 zc11 zin11 12 (by decide) k_374 rfl svC0_12 dX11_nation_64 ?_
      refine z_get C Z (lvC10 Nat.zero_lt_one) kC10 zc5 zin5 1 (by decide) k_279 rfl svC10_1 dX11_nation_67 ?_
      refine lv_iload_n C.x C.b dX11_nation_70 rfl (lv_at hl 1 rfl) ?_
      replace hf := asr_s hf; obtain ⟨hq9, hf⟩ := hf
      refine z_iald C Z (lvC39 Nat.zero_lt_one) kC39 hq9 svC39 dX11_nation_71 ?_
      obtain ⟨rfl, rfl⟩ := pr_s hf
      exact z_iret C Z dX11_nation_72
    replace hf := ite_f hf hx8
    by_cases hx10 : a2 = 2
    · replace hf := ite_t hf hx10
      refine lv_tableIn (tgt := 73) C.x C.b dX11_nation_10 (by rw [hx10]; decide) (by rw [hx10]; decide) (by rw [hx10]; rfl) (by decide) ?_
      refine lv_aload_n C.x C.b dX11_nation_73 rfl (lv_at hl 0 rfl) ?_
      refine z_get C Z (lvC0 Nat.zero_lt_one) kC0 zc11 zin11 12 (by decide) k_374 rfl svC0_12 dX11_nation_74 ?_
      refine z_get C Z (lvC10 Nat.zero_lt_one) kC10 zc5 zin5 2 (by decide) k_281 rfl svC10_2 dX11_nation_77 ?_
      refine lv_iload_n C.x C.b dX11_nation_80 rfl (lv_at hl 1 rfl) ?_
      replace hf := asr_s hf; obtain ⟨hq11, hf⟩ := hf
      refine z_iald C Z (lvC40 Nat.zero_lt_one) kC40 hq11 svC40 dX11_nation_81 ?_
      obtain ⟨rfl, rfl⟩ := pr_s hf
      exact z_iret C Z dX11_nation_82
    replace hf := ite_f hf hx10
    refine lv_tableOut (tgt := 83) C.x C.b dX11_nation_10 (tab_out (fun k h1 h2 => by rcases (show k = 0 ∨ k = 1 ∨ k = 2 by omega) with rfl | rfl | rfl <;> assumption)) (by decide) ?_
    refine lv_iconst (v := (-1)) C.x C.b dX11_nation_83 (by decide) ?_
    obtain ⟨rfl, rfl⟩ := pr_s hf
    exact z_iret C Z dX11_nation_84
  · replace hf := ite_t hf hc3
    refine lv_iconst (v := (-1)) C.x C.b dX11_nation_7 (by decide) ?_
    obtain ⟨rfl, rfl⟩ := pr_s hf
    exact z_iret C Z dX11_nation_8
theorem dX11_unbuild_0 : decode cX11_unbuild 0 = .ok (.iconst 0, 1) := by decide +kernel
theorem dX11_unbuild_1 : decode cX11_unbuild 1 = .ok (.istore_n 2, 1) := by decide +kernel
theorem dX11_unbuild_2 : decode cX11_unbuild 2 = .ok (.aload_n 0, 1) := by decide +kernel
theorem dX11_unbuild_3 : decode cX11_unbuild 3 = .ok (.getfield 26, 3) := by decide +kernel
theorem dX11_unbuild_6 : decode cX11_unbuild 6 = .ok (.astore_n 3, 1) := by decide +kernel
theorem dX11_unbuild_7 : decode cX11_unbuild 7 = .ok (.aload_n 3, 1) := by decide +kernel
theorem dX11_unbuild_8 : decode cX11_unbuild 8 = .ok (.arraylength, 1) := by decide +kernel
theorem dX11_unbuild_9 : decode cX11_unbuild 9 = .ok (.istore 4, 2) := by decide +kernel
theorem dX11_unbuild_11 : decode cX11_unbuild 11 = .ok (.iconst 0, 1) := by decide +kernel
theorem dX11_unbuild_12 : decode cX11_unbuild 12 = .ok (.istore 5, 2) := by decide +kernel
theorem dX11_unbuild_14 : decode cX11_unbuild 14 = .ok (.iload 5, 2) := by decide +kernel
theorem dX11_unbuild_16 : decode cX11_unbuild 16 = .ok (.iload 4, 2) := by decide +kernel
theorem dX11_unbuild_18 : decode cX11_unbuild 18 = .ok (.if_icmp .ge 60, 3) := by decide +kernel
theorem dX11_unbuild_21 : decode cX11_unbuild 21 = .ok (.aload_n 3, 1) := by decide +kernel
theorem dX11_unbuild_22 : decode cX11_unbuild 22 = .ok (.iload 5, 2) := by decide +kernel
theorem dX11_unbuild_24 : decode cX11_unbuild 24 = .ok (.aaload, 1) := by decide +kernel
theorem dX11_unbuild_25 : decode cX11_unbuild 25 = .ok (.astore 6, 2) := by decide +kernel
theorem dX11_unbuild_27 : decode cX11_unbuild 27 = .ok (.iconst 5, 1) := by decide +kernel
theorem dX11_unbuild_28 : decode cX11_unbuild 28 = .ok (.istore 7, 2) := by decide +kernel
theorem dX11_unbuild_30 : decode cX11_unbuild 30 = .ok (.iload 7, 2) := by decide +kernel
theorem dX11_unbuild_32 : decode cX11_unbuild 32 = .ok (.iconst 1, 1) := by decide +kernel
theorem dX11_unbuild_33 : decode cX11_unbuild 33 = .ok (.if_icmp .lt 39, 3) := by decide +kernel
theorem dX11_unbuild_36 : decode cX11_unbuild 36 = .ok (.aload 6, 2) := by decide +kernel
theorem dX11_unbuild_38 : decode cX11_unbuild 38 = .ok (.iload 7, 2) := by decide +kernel
theorem dX11_unbuild_40 : decode cX11_unbuild 40 = .ok (.invokevirtual 247, 3) := by decide +kernel
theorem dX11_unbuild_43 : decode cX11_unbuild 43 = .ok (.ifCond .eq 23, 3) := by decide +kernel
theorem dX11_unbuild_46 : decode cX11_unbuild 46 = .ok (.iload_n 2, 1) := by decide +kernel
theorem dX11_unbuild_47 : decode cX11_unbuild 47 = .ok (.iload_n 1, 1) := by decide +kernel
theorem dX11_unbuild_48 : decode cX11_unbuild 48 = .ok (.if_icmp .ne 15, 3) := by decide +kernel
theorem dX11_unbuild_51 : decode cX11_unbuild 51 = .ok (.bipush 10, 2) := by decide +kernel
theorem dX11_unbuild_53 : decode cX11_unbuild 53 = .ok (.aload 6, 2) := by decide +kernel
theorem dX11_unbuild_55 : decode cX11_unbuild 55 = .ok (.getfield 264, 3) := by decide +kernel
theorem dX11_unbuild_58 : decode cX11_unbuild 58 = .ok (.imul, 1) := by decide +kernel
theorem dX11_unbuild_59 : decode cX11_unbuild 59 = .ok (.iload 7, 2) := by decide +kernel
theorem dX11_unbuild_61 : decode cX11_unbuild 61 = .ok (.iadd, 1) := by decide +kernel
theorem dX11_unbuild_62 : decode cX11_unbuild 62 = .ok (.ireturn, 1) := by decide +kernel
theorem dX11_unbuild_63 : decode cX11_unbuild 63 = .ok (.iinc 2 1, 3) := by decide +kernel
theorem dX11_unbuild_66 : decode cX11_unbuild 66 = .ok (.iinc 7 (-1), 3) := by decide +kernel
theorem dX11_unbuild_69 : decode cX11_unbuild 69 = .ok (.goto (-39), 3) := by decide +kernel
theorem dX11_unbuild_72 : decode cX11_unbuild 72 = .ok (.iinc 5 1, 3) := by decide +kernel
theorem dX11_unbuild_75 : decode cX11_unbuild 75 = .ok (.goto (-61), 3) := by decide +kernel
theorem dX11_unbuild_78 : decode cX11_unbuild 78 = .ok (.iload_n 1, 1) := by decide +kernel
theorem dX11_unbuild_79 : decode cX11_unbuild 79 = .ok (.iconst (-1), 1) := by decide +kernel
theorem dX11_unbuild_80 : decode cX11_unbuild 80 = .ok (.if_icmp .ne 7, 3) := by decide +kernel
theorem dX11_unbuild_83 : decode cX11_unbuild 83 = .ok (.iload_n 2, 1) := by decide +kernel
theorem dX11_unbuild_84 : decode cX11_unbuild 84 = .ok (.goto 4, 3) := by decide +kernel
theorem dX11_unbuild_87 : decode cX11_unbuild 87 = .ok (.iconst (-1), 1) := by decide +kernel
theorem dX11_unbuild_88 : decode cX11_unbuild 88 = .ok (.ireturn, 1) := by decide +kernel
set_option maxRecDepth 100000 in
set_option maxHeartbeats 4000000 in
theorem w_X11_unbuild_l30 {p : Program} {l : Launch} {e : Env} {R : Room} {s : State} {m : MethodId} {args : Array Value} {below : List Frame} {meth : Method} {c : Code} {cells slots : Nat} {Q : State → Prop} {K : KG} {ad : Nat → Nat → Nat} {fl : Nat} {g1 : Int32} {g4 : Int32} {g5 : Int32} {g6 : Nat} (C : Cx p s m args meth c cX11_unbuild 8 "GlassPalace" (some .int)) (hR : 3 ≤ R.frames ∧ 40 * (3) ≤ R.locals) (hB : cells ≤ R.cells ∧ slots ≤ R.slots) (hg6 : g6 < 30) : ∀ (n : Nat) (u2 : Int32) (u7 : Int32) (M0 : Mem) (H : Heap) (locs : List Loc) (ls : Array Slot), Zd K LC ad M0 s H locs → lv_has ls 8 [(1, .int g1), (2, .int u2), (3, .ref (ad 4 0)), (4, .int g4), (5, .int g5), (6, .ref (ad 13 g6)), (7, .int u7)] → ∀ (q : Nat × Int32 × Int32) (Mq : Mem), f_X11_unbuild_l30 fl g1 g4 g5 g6 n u2 u7 M0 = some (q, Mq) → (q.1 = 0 → ∀ (H : Heap) (locs : List Loc) (ls : Array Slot), Zd K LC ad Mq s H locs → lv_has ls 8 [(6, .ref (ad 13 g6)), (7, .int q.2.2)] → W p l e R s m args below meth c H locs cells slots Q (F0 m 51 ls [])) → (q.1 = 1 → ∀ (H : Heap) (locs : List Loc) (ls : Array Slot), Zd K LC ad Mq s H locs → lv_has ls 8 [(1, .int g1), (2, .int q.2.1), (3, .ref (ad 4 0)), (4, .int g4), (5, .int g5)] → W p l e R s m args below meth c H locs cells slots Q (F0 m 72 ls [])) → W p l e R s m args below meth c H locs cells slots Q (F0 m 30 ls []) := by
  intro n
  induction n with
  | zero =>
    intro u2 u7 M0 H locs ls Z hl q Mq hf
    have hf : (none : Option ((Nat × Int32 × Int32) × Mem)) = some (q, Mq) := hf
    cases hf
  | succ n ih =>
    intro u2 u7 M0 H locs ls Z hl q Mq hf kx0 kx1
    replace hf : f_X11_unbuild_l30_b (f_X11_unbuild_l30 fl g1 g4 g5 g6 n) fl g1 g4 g5 g6 u2 u7 M0 = some (q, Mq) := hf
    unfold f_X11_unbuild_l30_b at hf
    refine lv_iload C.x C.b dX11_unbuild_30 (lv_at hl 6 rfl) ?_
    refine lv_iconst (v := 1) C.x C.b dX11_unbuild_32 (by decide) ?_
    refine lv_icmp_lt (tgt := 72) C.x C.b dX11_unbuild_33 (by decide) (fun hc3 => ?_) (fun hc3 => ?_)
    · replace hf := ite_t hf hc3
      obtain ⟨rfl, rfl⟩ := pr_s hf
      exact kx1 rfl _ _ _ Z (lv_sub hl [0, 1, 2, 3, 4] rfl)
    · replace hf := ite_f hf hc3
      refine lv_aload C.x C.b dX11_unbuild_36 (lv_at hl 5 rfl) ?_
      refine lv_iload C.x C.b dX11_unbuild_38 (lv_at hl 6 rfl) ?_
      replace hf := bn2_s hf; obtain ⟨v5, m4, hkm4, hf⟩ := hf
      refine z_cV (As := [.int u7]) (rest := []) (st1 := [.int v5]) C Z mw_X1_has mv_X1_has k_617 (by decide) (z_hR hR (by decide)) (lvC13 hg6) kC13 zc1 (c_X1_has (l := l) (K := K) (ad := ad) hg6 hkm4) rfl hl.1 rfl (Nat.le_of_ble_eq_true rfl) dX11_unbuild_40 hB rfl (fun H locs Z => ?_)
      refine lv_if_eq (tgt := 66) C.x C.b dX11_unbuild_43 (by decide) (fun hc6 => ?_) (fun hc6 => ?_)
      · replace hf := ite_t hf hc6
        replace hf := lt1_s hf; obtain ⟨x7, ex7, hf⟩ := hf
        refine z_iinc (v := x7) (lv' := [(7, .int x7), (1, .int g1), (2, .int u2), (3, .ref (ad 4 0)), (4, .int g4), (5, .int g5), (6, .ref (ad 13 g6))]) C dX11_unbuild_66 hl (k := 6) rfl (by rw [ex7]; rfl) (by decide) rfl (onlast 5 rfl rfl rfl) (fun ls hl => ?_)
        refine lv_goto (tgt := 30) C.x C.b dX11_unbuild_69 (by decide) ?_
        exact ih _ _ _ _ _ _ Z (lv_sub hl [1, 2, 3, 4, 5, 6, 0] rfl) _ _ hf kx0 kx1
      · replace hf := ite_f hf hc6
        refine lv_iload_n C.x C.b dX11_unbuild_46 rfl (lv_at hl 1 rfl) ?_
        refine lv_iload_n C.x C.b dX11_unbuild_47 rfl (lv_at hl 0 rfl) ?_
        refine lv_icmp_ne (tgt := 63) C.x C.b dX11_unbuild_48 (by decide) (fun hc8 => ?_) (fun hc8 => ?_)
        · replace hf := ite_f hf hc8
          replace hf := lt1_s hf; obtain ⟨x9, ex9, hf⟩ := hf
          refine z_iinc (v := x9) (lv' := [(2, .int x9), (1, .int g1), (3, .ref (ad 4 0)), (4, .int g4), (5, .int g5), (6, .ref (ad 13 g6)), (7, .int u7)]) C dX11_unbuild_63 hl (k := 1) rfl (by rw [ex9]; rfl) (by decide) rfl (onlast 0 rfl rfl rfl) (fun ls hl => ?_)
          replace hf := lt1_s hf; obtain ⟨x10, ex10, hf⟩ := hf
          refine z_iinc (v := x10) (lv' := [(7, .int x10), (2, .int x9), (1, .int g1), (3, .ref (ad 4 0)), (4, .int g4), (5, .int g5), (6, .ref (ad 13 g6))]) C dX11_unbuild_66 hl (k := 6) rfl (by rw [ex10]; rfl) (by decide) rfl (onlast 5 rfl rfl rfl) (fun ls hl => ?_)
          refine lv_goto (tgt := 30) C.x C.b dX11_unbuild_69 (by decide) ?_
          exact ih _ _ _ _ _ _ Z (lv_sub hl [2, 1, 3, 4, 5, 6, 0] rfl) _ _ hf kx0 kx1
        · replace hf := ite_t hf hc8
          obtain ⟨rfl, rfl⟩ := pr_s hf
          exact kx0 rfl _ _ _ Z (lv_sub hl [5, 6] rfl)
set_option maxRecDepth 100000 in
set_option maxHeartbeats 4000000 in
theorem w_X11_unbuild_l14 {p : Program} {l : Launch} {e : Env} {R : Room} {s : State} {m : MethodId} {args : Array Value} {below : List Frame} {meth : Method} {c : Code} {cells slots : Nat} {Q : State → Prop} {K : KG} {ad : Nat → Nat → Nat} {fl : Nat} {g1 : Int32} {g4 : Int32} (C : Cx p s m args meth c cX11_unbuild 8 "GlassPalace" (some .int)) (hR : 3 ≤ R.frames ∧ 40 * (3) ≤ R.locals) (hB : cells ≤ R.cells ∧ slots ≤ R.slots) : ∀ (n : Nat) (u2 : Int32) (u5 : Int32) (M0 : Mem) (H : Heap) (locs : List Loc) (ls : Array Slot), Zd K LC ad M0 s H locs → lv_has ls 8 [(1, .int g1), (2, .int u2), (3, .ref (ad 4 0)), (4, .int g4), (5, .int u5)] → ∀ (q : Nat × Int32 × Nat × Int32) (Mq : Mem), f_X11_unbuild_l14 fl g1 g4 n u2 u5 M0 = some (q, Mq) → (q.1 = 0 → ∀ (H : Heap) (locs : List Loc) (ls : Array Slot), Zd K LC ad Mq s H locs → lv_has ls 8 [(6, rf (ad 13) q.2.2.1), (7, .int q.2.2.2)] → W p l e R s m args below meth c H locs cells slots Q (F0 m 51 ls [])) → (q.1 = 1 → ∀ (H : Heap) (locs : List Loc) (ls : Array Slot), Zd K LC ad Mq s H locs → lv_has ls 8 [(1, .int g1), (2, .int q.2.1)] → W p l e R s m args below meth c H locs cells slots Q (F0 m 78 ls [])) → W p l e R s m args below meth c H locs cells slots Q (F0 m 14 ls []) := by
  intro n
  induction n with
  | zero =>
    intro u2 u5 M0 H locs ls Z hl q Mq hf
    have hf : (none : Option ((Nat × Int32 × Nat × Int32) × Mem)) = some (q, Mq) := hf
    cases hf
  | succ n ih =>
    intro u2 u5 M0 H locs ls Z hl q Mq hf kx0 kx1
    replace hf : f_X11_unbuild_l14_b (f_X11_unbuild_l14 fl g1 g4 n) fl g1 g4 u2 u5 M0 = some (q, Mq) := hf
    unfold f_X11_unbuild_l14_b at hf
    refine lv_iload C.x C.b dX11_unbuild_14 (lv_at hl 4 rfl) ?_
    refine lv_iload C.x C.b dX11_unbuild_16 (lv_at hl 3 rfl) ?_
    refine lv_icmp_ge (tgt := 78) C.x C.b dX11_unbuild_18 (by decide) (fun hc1 => ?_) (fun hc1 => ?_)
    · replace hf := ite_t hf hc1
      obtain ⟨rfl, rfl⟩ := pr_s hf
      exact kx1 rfl _ _ _ Z (lv_sub hl [0, 1] rfl)
    · replace hf := ite_f hf hc1
      refine lv_aload_n C.x C.b dX11_unbuild_21 rfl (lv_at hl 2 rfl) ?_
      refine lv_iload C.x C.b dX11_unbuild_22 (lv_at hl 4 rfl) ?_
      replace hf := asr_s hf; obtain ⟨hq2, hf⟩ := hf
      refine z_aald C Z (lvC4 Nat.zero_lt_one) kC4 4 rfl hq2 svC4 dX11_unbuild_24 ?_
      refine z_rstore (lv' := [(6, .ref (ad 13 (Int32.toNatClampNeg u5))), (1, .int g1), (2, .int u2), (3, .ref (ad 4 0)), (4, .int g4), (5, .int u5)]) C dX11_unbuild_25 hl (by decide) rfl (onlast 4 rfl rfl rfl) (fun ls hl => ?_)
      refine lv_iconst (v := 5) C.x C.b dX11_unbuild_27 (by decide) ?_
      refine z_istore (lv' := [(7, .int 5), (6, .ref (ad 13 (Int32.toNatClampNeg u5))), (1, .int g1), (2, .int u2), (3, .ref (ad 4 0)), (4, .int g4), (5, .int u5)]) C dX11_unbuild_28 hl (by decide) rfl (onlast 0 rfl rfl rfl) (fun ls hl => ?_)
      replace hf := bn2_s hf; obtain ⟨q11, m12, hq11, hf⟩ := hf
      refine w_X11_unbuild_l30 C hR hB (vin_lt hq2) fl _ _ _ _ _ _ Z (lv_sub hl [2, 3, 4, 5, 6, 1, 0] rfl) _ _ hq11 (fun ht H locs ls Z hl => ?_) (fun ht H locs ls Z hl => ?_)
      · replace hf := ite_t hf ht
        obtain ⟨rfl, rfl⟩ := pr_s hf
        exact kx0 rfl _ _ _ Z (lv_sub hl [0, 1] rfl)
      · replace hf := ite_f hf (by rw [ht]; decide)
        replace hf := lt1_s hf; obtain ⟨x13, ex13, hf⟩ := hf
        refine z_iinc (v := x13) (lv' := [(5, .int x13), (1, .int g1), (2, .int q11.2.1), (3, .ref (ad 4 0)), (4, .int g4)]) C dX11_unbuild_72 hl (k := 4) rfl (by rw [ex13]; rfl) (by decide) rfl (onlast 3 rfl rfl rfl) (fun ls hl => ?_)
        refine lv_goto (tgt := 14) C.x C.b dX11_unbuild_75 (by decide) ?_
        exact ih _ _ _ _ _ _ Z (lv_sub hl [1, 2, 3, 4, 0] rfl) _ _ hf kx0 kx1
set_option maxRecDepth 100000 in
set_option maxHeartbeats 4000000 in
theorem c_X11_unbuild {l : Launch} {K : KG} {ad : Nat → Nat → Nat} {fl : Nat} {a1 : Int32} {M0 : Mem} {r9 : Int32} {M9 : Mem} (hf : f_X11_unbuild fl a1 M0 = some (r9, M9)) : Met l yX11_unbuild (Cond.code yX11_unbuild cX11_unbuild 8 (some .int) :: ztb) (RM (3) 0 0) (zPc K LC ad M0 [.ref (ad 0 0), .int a1]) (zQ K LC ad (some (.int r9)) M9) 0 0 (zA ad) := by
  refine z_enter (by decide) (Nat.le_of_ble_eq_true rfl) ?_
  intro p e s m args below meth c ls C hin hargs Z hl
  replace C : Cx p s m args meth c cX11_unbuild 8 "GlassPalace" (some .int) := C
  replace hl : lv_has ls 8 [(0, .ref (ad 0 0)), (1, .int a1)] := hl
  have hR : 3 ≤ (RM (3) 0 0).frames ∧ 40 * (3) ≤ (RM (3) 0 0).locals := ⟨Nat.le_refl _, Nat.le_refl _⟩
  have hB : 0 ≤ (RM (3) 0 0).cells ∧ 0 ≤ (RM (3) 0 0).slots := ⟨Nat.zero_le _, Nat.zero_le _⟩
  unfold f_X11_unbuild at hf
  refine lv_iconst (v := 0) C.x C.b dX11_unbuild_0 (by decide) ?_
  refine z_istore_n (lv' := [(2, .int 0), (0, .ref (ad 0 0)), (1, .int a1)]) C dX11_unbuild_1 rfl hl (by decide) rfl (onlast 1 rfl rfl rfl) (fun ls hl => ?_)
  refine lv_aload_n C.x C.b dX11_unbuild_2 rfl (lv_at hl 1 rfl) ?_
  refine z_get C Z (lvC0 Nat.zero_lt_one) kC0 zc11 zin11 5 (by decide) k_367 rfl svC0_5 dX11_unbuild_3 ?_
  refine z_rstore_n (lv' := [(3, .ref (ad 4 0)), (2, .int 0), (0, .ref (ad 0 0)), (1, .int a1)]) C dX11_unbuild_6 rfl hl (by decide) rfl (onlast 0 rfl rfl rfl) (fun ls hl => ?_)
  refine lv_aload_n C.x C.b dX11_unbuild_7 rfl (lv_at hl 0 rfl) ?_
  refine z_alen C Z (lvC4 Nat.zero_lt_one) kC4 4 rfl (v := 30) (by decide) dX11_unbuild_8 ?_
  refine z_istore (lv' := [(4, .int 30), (3, .ref (ad 4 0)), (2, .int 0), (0, .ref (ad 0 0)), (1, .int a1)]) C dX11_unbuild_9 hl (by decide) rfl (onlast 0 rfl rfl rfl) (fun ls hl => ?_)
  refine lv_iconst (v := 0) C.x C.b dX11_unbuild_11 (by decide) ?_
  refine z_istore (lv' := [(5, .int 0), (4, .int 30), (3, .ref (ad 4 0)), (2, .int 0), (0, .ref (ad 0 0)), (1, .int a1)]) C dX11_unbuild_12 hl (by decide) rfl (onlast 0 rfl rfl rfl) (fun ls hl => ?_)
  replace hf := bn2_s hf; obtain ⟨q14, m15, hq14, hf⟩ := hf
  refine w_X11_unbuild_l14 C hR hB  fl _ _ _ _ _ _ Z (lv_sub hl [5, 3, 2, 1, 0] rfl) _ _ hq14 (fun ht H locs ls Z hl => ?_) (fun ht H locs ls Z hl => ?_)
  · replace hf := ite_t hf ht
    refine lv_bipush (v := 10) C.x C.b dX11_unbuild_51 (by decide) ?_
    refine z_aload C dX11_unbuild_53 (lv_at hl 0 rfl) ?_
    replace hf := drf_s hf; obtain ⟨j16, ej18, hj17, hf⟩ := hf
    refine z_nn [] ej18 ?_
    refine z_get C Z (lvC13 hj17) kC13 zc1 zin1 0 (by decide) k_312 rfl svC13_0 dX11_unbuild_55 ?_
    refine lv_imul C.x C.b dX11_unbuild_58 ?_
    refine lv_iload C.x C.b dX11_unbuild_59 (lv_at hl 1 rfl) ?_
    refine lv_iadd C.x C.b dX11_unbuild_61 ?_
    obtain ⟨rfl, rfl⟩ := pr_s hf
    exact z_iret C Z dX11_unbuild_62
  · replace hf := ite_f hf (by rw [ht]; decide)
    refine lv_iload_n C.x C.b dX11_unbuild_78 rfl (lv_at hl 0 rfl) ?_
    refine lv_iconst (v := (-1)) C.x C.b dX11_unbuild_79 (by decide) ?_
    refine lv_icmp_ne (tgt := 87) C.x C.b dX11_unbuild_80 (by decide) (fun hc19 => ?_) (fun hc19 => ?_)
    · replace hf := ite_f hf hc19
      refine lv_iconst (v := (-1)) C.x C.b dX11_unbuild_87 (by decide) ?_
      obtain ⟨rfl, rfl⟩ := pr_s hf
      exact z_iret C Z dX11_unbuild_88
    · replace hf := ite_t hf hc19
      refine lv_iload_n C.x C.b dX11_unbuild_83 rfl (lv_at hl 1 rfl) ?_
      refine lv_goto (tgt := 88) C.x C.b dX11_unbuild_84 (by decide) ?_
      obtain ⟨rfl, rfl⟩ := pr_s hf
      exact z_iret C Z dX11_unbuild_88
theorem dX11_known_0 : decode cX11_known 0 = .ok (.iload_n 1, 1) := by decide +kernel
theorem dX11_known_1 : decode cX11_known 1 = .ok (.invokestatic 207, 3) := by decide +kernel
theorem dX11_known_4 : decode cX11_known 4 = .ok (.ifCond .ne 6, 3) := by decide +kernel
theorem dX11_known_7 : decode cX11_known 7 = .ok (.bipush (-2), 2) := by decide +kernel
theorem dX11_known_9 : decode cX11_known 9 = .ok (.ireturn, 1) := by decide +kernel
theorem dX11_known_10 : decode cX11_known 10 = .ok (.iconst 0, 1) := by decide +kernel
theorem dX11_known_11 : decode cX11_known 11 = .ok (.istore_n 3, 1) := by decide +kernel
theorem dX11_known_12 : decode cX11_known 12 = .ok (.aload_n 0, 1) := by decide +kernel
theorem dX11_known_13 : decode cX11_known 13 = .ok (.getfield 20, 3) := by decide +kernel
theorem dX11_known_16 : decode cX11_known 16 = .ok (.astore 4, 2) := by decide +kernel
theorem dX11_known_18 : decode cX11_known 18 = .ok (.aload 4, 2) := by decide +kernel
theorem dX11_known_20 : decode cX11_known 20 = .ok (.arraylength, 1) := by decide +kernel
theorem dX11_known_21 : decode cX11_known 21 = .ok (.istore 5, 2) := by decide +kernel
theorem dX11_known_23 : decode cX11_known 23 = .ok (.iconst 0, 1) := by decide +kernel
theorem dX11_known_24 : decode cX11_known 24 = .ok (.istore 6, 2) := by decide +kernel
theorem dX11_known_26 : decode cX11_known 26 = .ok (.iload 6, 2) := by decide +kernel
theorem dX11_known_28 : decode cX11_known 28 = .ok (.iload 5, 2) := by decide +kernel
theorem dX11_known_30 : decode cX11_known 30 = .ok (.if_icmp .ge 53, 3) := by decide +kernel
theorem dX11_known_33 : decode cX11_known 33 = .ok (.aload 4, 2) := by decide +kernel
theorem dX11_known_35 : decode cX11_known 35 = .ok (.iload 6, 2) := by decide +kernel
theorem dX11_known_37 : decode cX11_known 37 = .ok (.aaload, 1) := by decide +kernel
theorem dX11_known_38 : decode cX11_known 38 = .ok (.astore 7, 2) := by decide +kernel
theorem dX11_known_40 : decode cX11_known 40 = .ok (.aload 7, 2) := by decide +kernel
theorem dX11_known_42 : decode cX11_known 42 = .ok (.ifnull 35, 3) := by decide +kernel
theorem dX11_known_45 : decode cX11_known 45 = .ok (.aload 7, 2) := by decide +kernel
theorem dX11_known_47 : decode cX11_known 47 = .ok (.invokevirtual 129, 3) := by decide +kernel
theorem dX11_known_50 : decode cX11_known 50 = .ok (.ifCond .eq 27, 3) := by decide +kernel
theorem dX11_known_53 : decode cX11_known 53 = .ok (.iload_n 2, 1) := by decide +kernel
theorem dX11_known_54 : decode cX11_known 54 = .ok (.ifCond .eq 11, 3) := by decide +kernel
theorem dX11_known_57 : decode cX11_known 57 = .ok (.aload 7, 2) := by decide +kernel
theorem dX11_known_59 : decode cX11_known 59 = .ok (.getfield 132, 3) := by decide +kernel
theorem dX11_known_62 : decode cX11_known 62 = .ok (.goto 8, 3) := by decide +kernel
theorem dX11_known_65 : decode cX11_known 65 = .ok (.aload 7, 2) := by decide +kernel
theorem dX11_known_67 : decode cX11_known 67 = .ok (.getfield 135, 3) := by decide +kernel
theorem dX11_known_70 : decode cX11_known 70 = .ok (.iload_n 1, 1) := by decide +kernel
theorem dX11_known_71 : decode cX11_known 71 = .ok (.if_icmp .gt 6, 3) := by decide +kernel
theorem dX11_known_74 : decode cX11_known 74 = .ok (.iinc 3 1, 3) := by decide +kernel
theorem dX11_known_77 : decode cX11_known 77 = .ok (.iinc 6 1, 3) := by decide +kernel
theorem dX11_known_80 : decode cX11_known 80 = .ok (.goto (-54), 3) := by decide +kernel
theorem dX11_known_83 : decode cX11_known 83 = .ok (.iload_n 3, 1) := by decide +kernel
theorem dX11_known_84 : decode cX11_known 84 = .ok (.ireturn, 1) := by decide +kernel
set_option maxRecDepth 100000 in
set_option maxHeartbeats 4000000 in
theorem w_X11_known_l26 {p : Program} {l : Launch} {e : Env} {R : Room} {s : State} {m : MethodId} {args : Array Value} {below : List Frame} {meth : Method} {c : Code} {cells slots : Nat} {Q : State → Prop} {K : KG} {ad : Nat → Nat → Nat} {fl : Nat} {g1 : Int32} {g2 : Int32} {g5 : Int32} (C : Cx p s m args meth c cX11_known 8 "GlassPalace" (some .int)) (hR : 2 ≤ R.frames ∧ 40 * (2) ≤ R.locals) (hB : cells ≤ R.cells ∧ slots ≤ R.slots) : ∀ (n : Nat) (u3 : Int32) (u6 : Int32) (M0 : Mem) (H : Heap) (locs : List Loc) (ls : Array Slot), Zd K LC ad M0 s H locs → lv_has ls 8 [(1, .int g1), (2, .int g2), (3, .int u3), (4, .ref (ad 3 0)), (5, .int g5), (6, .int u6)] → ∀ (q : Int32) (Mq : Mem), f_X11_known_l26 fl g1 g2 g5 n u3 u6 M0 = some (q, Mq) → (∀ (H : Heap) (locs : List Loc) (ls : Array Slot), Zd K LC ad Mq s H locs → lv_has ls 8 [(3, .int q)] → W p l e R s m args below meth c H locs cells slots Q (F0 m 83 ls [])) → W p l e R s m args below meth c H locs cells slots Q (F0 m 26 ls []) := by
  intro n
  induction n with
  | zero =>
    intro u3 u6 M0 H locs ls Z hl q Mq hf
    have hf : (none : Option (Int32 × Mem)) = some (q, Mq) := hf
    cases hf
  | succ n ih =>
    intro u3 u6 M0 H locs ls Z hl q Mq hf kx0
    replace hf : f_X11_known_l26_b (f_X11_known_l26 fl g1 g2 g5 n) fl g1 g2 g5 u3 u6 M0 = some (q, Mq) := hf
    unfold f_X11_known_l26_b at hf
    refine lv_iload C.x C.b dX11_known_26 (lv_at hl 5 rfl) ?_
    refine lv_iload C.x C.b dX11_known_28 (lv_at hl 4 rfl) ?_
    refine lv_icmp_ge (tgt := 83) C.x C.b dX11_known_30 (by decide) (fun hc4 => ?_) (fun hc4 => ?_)
    · replace hf := ite_t hf hc4
      obtain ⟨rfl, rfl⟩ := pr_s hf
      exact kx0 _ _ _ Z (lv_sub hl [2] rfl)
    · replace hf := ite_f hf hc4
      refine lv_aload C.x C.b dX11_known_33 (lv_at hl 3 rfl) ?_
      refine lv_iload C.x C.b dX11_known_35 (lv_at hl 5 rfl) ?_
      replace hf := asr_s hf; obtain ⟨hq5, hf⟩ := hf
      refine z_aald C Z (lvC3 Nat.zero_lt_one) kC3 3 rfl hq5 svC3 dX11_known_37 ?_
      replace hf := lt1_s hf; obtain ⟨c6, ec6, hf⟩ := hf
      refine z_renC ec6 ?_
      refine z_cstore (lv' := [(7, rf (ad 23) c6), (1, .int g1), (2, .int g2), (3, .int u3), (4, .ref (ad 3 0)), (5, .int g5), (6, .int u6)]) C dX11_known_38 hl (by decide) rfl (onlast 5 rfl rfl rfl) (fun ls hl => ?_)
      refine z_aload C dX11_known_40 (lv_at hl 0 rfl) ?_
      refine z_ifnull C dX11_known_42 (tgt := 77) (by decide) (fun hc7 => ?_) (fun hc7 => ?_)
      · replace hf := ite_t hf hc7
        replace hf := lt1_s hf; obtain ⟨x8, ex8, hf⟩ := hf
        refine z_iinc (v := x8) (lv' := [(6, .int x8), (7, rf (ad 23) c6), (1, .int g1), (2, .int g2), (3, .int u3), (4, .ref (ad 3 0)), (5, .int g5)]) C dX11_known_77 hl (k := 6) rfl (by rw [ex8]; rfl) (by decide) rfl (onlast 5 rfl rfl rfl) (fun ls hl => ?_)
        refine lv_goto (tgt := 26) C.x C.b dX11_known_80 (by decide) ?_
        exact ih _ _ _ _ _ _ Z (lv_sub hl [2, 3, 4, 5, 6, 0] rfl) _ _ hf kx0
      · replace hf := ite_f hf hc7
        refine z_aload C dX11_known_45 (lv_at hl 0 rfl) ?_
        replace hf := drf_s hf; obtain ⟨j9, ej11, hj10, hf⟩ := hf
        subst ej11
        refine z_nn [] (y := j9 + 1) rfl ?_
        replace hf := bn2_s hf; obtain ⟨v13, m12, hkm12, hf⟩ := hf
        refine z_cV (As := []) (rest := []) (st1 := [.int v13]) C Z mw_X4_isTold mv_X4_isTold k_516 (by decide) (z_hR hR (by decide)) (lvC23 hj10) kC23 zc4 (c_X4_isTold (l := l) (K := K) (ad := ad) hj10 hkm12) rfl hl.1 rfl (Nat.le_of_ble_eq_true rfl) dX11_known_47 hB rfl (fun H locs Z => ?_)
        refine lv_if_eq (tgt := 77) C.x C.b dX11_known_50 (by decide) (fun hc14 => ?_) (fun hc14 => ?_)
        · replace hf := ite_t hf hc14
          replace hf := lt1_s hf; obtain ⟨x15, ex15, hf⟩ := hf
          refine z_iinc (v := x15) (lv' := [(6, .int x15), (7, .ref (ad 23 j9)), (1, .int g1), (2, .int g2), (3, .int u3), (4, .ref (ad 3 0)), (5, .int g5)]) C dX11_known_77 hl (k := 6) rfl (by rw [ex15]; rfl) (by decide) rfl (onlast 5 rfl rfl rfl) (fun ls hl => ?_)
          refine lv_goto (tgt := 26) C.x C.b dX11_known_80 (by decide) ?_
          exact ih _ _ _ _ _ _ Z (lv_sub hl [2, 3, 4, 5, 6, 0] rfl) _ _ hf kx0
        · replace hf := ite_f hf hc14
          refine lv_iload_n C.x C.b dX11_known_53 rfl (lv_at hl 2 rfl) ?_
          replace hf := bn2_s hf; obtain ⟨q16, m17, hq16, hf⟩ := hf
          have kq16 : ∀ (H : Heap) (locs : List Loc) (ls : Array Slot), Zd K LC ad m17 s H locs → lv_has ls 8 [(1, .int g1), (2, .int g2), (3, .int u3), (4, .ref (ad 3 0)), (5, .int g5), (6, .int u6)] → W p l e R s m args below meth c H locs cells slots Q (F0 m 70 ls [.int q16]) := by
            intro H locs ls Z hl
            refine lv_iload_n C.x C.b dX11_known_70 rfl (lv_at hl 0 rfl) ?_
            refine lv_icmp_gt (tgt := 77) C.x C.b dX11_known_71 (by decide) (fun hc18 => ?_) (fun hc18 => ?_)
            · replace hf := ite_t hf hc18
              replace hf := lt1_s hf; obtain ⟨x19, ex19, hf⟩ := hf
              refine z_iinc (v := x19) (lv' := [(6, .int x19), (1, .int g1), (2, .int g2), (3, .int u3), (4, .ref (ad 3 0)), (5, .int g5)]) C dX11_known_77 hl (k := 5) rfl (by rw [ex19]; rfl) (by decide) rfl (onlast 4 rfl rfl rfl) (fun ls hl => ?_)
              refine lv_goto (tgt := 26) C.x C.b dX11_known_80 (by decide) ?_
              exact ih _ _ _ _ _ _ Z (lv_sub hl [1, 2, 3, 4, 5, 0] rfl) _ _ hf kx0
            · replace hf := ite_f hf hc18
              replace hf := lt1_s hf; obtain ⟨x20, ex20, hf⟩ := hf
              refine z_iinc (v := x20) (lv' := [(3, .int x20), (1, .int g1), (2, .int g2), (4, .ref (ad 3 0)), (5, .int g5), (6, .int u6)]) C dX11_known_74 hl (k := 2) rfl (by rw [ex20]; rfl) (by decide) rfl (onlast 1 rfl rfl rfl) (fun ls hl => ?_)
              replace hf := lt1_s hf; obtain ⟨x21, ex21, hf⟩ := hf
              refine z_iinc (v := x21) (lv' := [(6, .int x21), (3, .int x20), (1, .int g1), (2, .int g2), (4, .ref (ad 3 0)), (5, .int g5)]) C dX11_known_77 hl (k := 5) rfl (by rw [ex21]; rfl) (by decide) rfl (onlast 4 rfl rfl rfl) (fun ls hl => ?_)
              refine lv_goto (tgt := 26) C.x C.b dX11_known_80 (by decide) ?_
              exact ih _ _ _ _ _ _ Z (lv_sub hl [2, 3, 1, 4, 5, 0] rfl) _ _ hf kx0
          clear hf
          refine lv_if_eq (tgt := 65) C.x C.b dX11_known_54 (by decide) (fun hc22 => ?_) (fun hc22 => ?_)
          · have hf := ite_t hq16 hc22; clear hq16
            refine lv_aload C.x C.b dX11_known_65 (lv_at hl 0 rfl) ?_
            replace hf := asr_s hf; obtain ⟨hq23, hf⟩ := hf
            refine z_get C Z (lvC23 hq23) kC23 zc4 zin4 7 (by decide) k_477 rfl svC23_7 dX11_known_67 ?_
            obtain ⟨rfl, rfl⟩ := pr_s hf
            exact kq16 _ _ _ Z (lv_sub hl [1, 2, 3, 4, 5, 6] rfl)
          · have hf := ite_f hq16 hc22; clear hq16
            refine lv_aload C.x C.b dX11_known_57 (lv_at hl 0 rfl) ?_
            replace hf := asr_s hf; obtain ⟨hq24, hf⟩ := hf
            refine z_get C Z (lvC23 hq24) kC23 zc4 zin4 6 (by decide) k_475 rfl svC23_6 dX11_known_59 ?_
            refine lv_goto (tgt := 70) C.x C.b dX11_known_62 (by decide) ?_
            obtain ⟨rfl, rfl⟩ := pr_s hf
            exact kq16 _ _ _ Z (lv_sub hl [1, 2, 3, 4, 5, 6] rfl)
set_option maxRecDepth 100000 in
set_option maxHeartbeats 4000000 in
theorem c_X11_known {l : Launch} {K : KG} {ad : Nat → Nat → Nat} {fl : Nat} {a1 : Int32} {a2 : Int32} {M0 : Mem} {r9 : Int32} {M9 : Mem} (hf : f_X11_known fl a1 a2 M0 = some (r9, M9)) : Met l yX11_known (Cond.code yX11_known cX11_known 8 (some .int) :: ztb) (RM (2) 0 0) (zPc K LC ad M0 [.ref (ad 0 0), .int a1, .int a2]) (zQ K LC ad (some (.int r9)) M9) 0 0 (zA ad) := by
  refine z_enter (by decide) (Nat.le_of_ble_eq_true rfl) ?_
  intro p e s m args below meth c ls C hin hargs Z hl
  replace C : Cx p s m args meth c cX11_known 8 "GlassPalace" (some .int) := C
  replace hl : lv_has ls 8 [(0, .ref (ad 0 0)), (1, .int a1), (2, .int a2)] := hl
  have hR : 2 ≤ (RM (2) 0 0).frames ∧ 40 * (2) ≤ (RM (2) 0 0).locals := ⟨Nat.le_refl _, Nat.le_refl _⟩
  have hB : 0 ≤ (RM (2) 0 0).cells ∧ 0 ≤ (RM (2) 0 0).slots := ⟨Nat.zero_le _, Nat.zero_le _⟩
  unfold f_X11_known at hf
  refine lv_iload_n C.x C.b dX11_known_0 rfl (lv_at hl 1 rfl) ?_
  replace hf := bn2_s hf; obtain ⟨v2, m1, hkm1, hf⟩ := hf
  refine z_cS (As := [.int a1]) (rest := []) (st1 := [.int v2]) C Z mw_X11_isDay mv_X11_isDay k_685 (by decide) (z_hR hR (by decide)) (c_X11_isDay (l := l) (K := K) (ad := ad) hkm1) rfl hl.1 rfl (Nat.le_of_ble_eq_true rfl) dX11_known_1 hB rfl (fun H locs Z => ?_)
  refine lv_if_ne (tgt := 10) C.x C.b dX11_known_4 (by decide) (fun hc3 => ?_) (fun hc3 => ?_)
  · replace hf := ite_f hf hc3
    refine lv_iconst (v := 0) C.x C.b dX11_known_10 (by decide) ?_
    refine z_istore_n (lv' := [(3, .int 0), (0, .ref (ad 0 0)), (1, .int a1), (2, .int a2)]) C dX11_known_11 rfl hl (by decide) rfl (onlast 2 rfl rfl rfl) (fun ls hl => ?_)
    refine lv_aload_n C.x C.b dX11_known_12 rfl (lv_at hl 1 rfl) ?_
    refine z_get C Z (lvC0 Nat.zero_lt_one) kC0 zc11 zin11 3 (by decide) k_365 rfl svC0_3 dX11_known_13 ?_
    refine z_rstore (lv' := [(4, .ref (ad 3 0)), (3, .int 0), (0, .ref (ad 0 0)), (1, .int a1), (2, .int a2)]) C dX11_known_16 hl (by decide) rfl (onlast 0 rfl rfl rfl) (fun ls hl => ?_)
    refine lv_aload C.x C.b dX11_known_18 (lv_at hl 0 rfl) ?_
    refine z_alen C Z (lvC3 Nat.zero_lt_one) kC3 3 rfl (v := 60) (by decide) dX11_known_20 ?_
    refine z_istore (lv' := [(5, .int 60), (4, .ref (ad 3 0)), (3, .int 0), (0, .ref (ad 0 0)), (1, .int a1), (2, .int a2)]) C dX11_known_21 hl (by decide) rfl (onlast 0 rfl rfl rfl) (fun ls hl => ?_)
    refine lv_iconst (v := 0) C.x C.b dX11_known_23 (by decide) ?_
    refine z_istore (lv' := [(6, .int 0), (5, .int 60), (4, .ref (ad 3 0)), (3, .int 0), (0, .ref (ad 0 0)), (1, .int a1), (2, .int a2)]) C dX11_known_24 hl (by decide) rfl (onlast 0 rfl rfl rfl) (fun ls hl => ?_)
    replace hf := bn2_s hf; obtain ⟨q25, m26, hq25, hf⟩ := hf
    refine w_X11_known_l26 C hR hB  fl _ _ _ _ _ _ Z (lv_sub hl [5, 6, 3, 2, 1, 0] rfl) _ _ hq25 (fun H locs ls Z hl => ?_)
    refine lv_iload_n C.x C.b dX11_known_83 rfl (lv_at hl 0 rfl) ?_
    obtain ⟨rfl, rfl⟩ := pr_s hf
    exact z_iret C Z dX11_known_84
  · replace hf := ite_t hf hc3
    refine lv_bipush (v := (-2)) C.x C.b dX11_known_7 (by decide) ?_
    obtain ⟨rfl, rfl⟩ := pr_s hf
    exact z_iret C Z dX11_known_9
theorem dX11_act_0 : decode cX11_act 0 = .ok (.aload_n 0, 1) := by decide +kernel
theorem dX11_act_1 : decode cX11_act 1 = .ok (.getfield 74, 3) := by decide +kernel
theorem dX11_act_4 : decode cX11_act 4 = .ok (.iconst 0, 1) := by decide +kernel
theorem dX11_act_5 : decode cX11_act 5 = .ok (.putfield 374, 3) := by decide +kernel
theorem dX11_act_8 : decode cX11_act 8 = .ok (.aload_n 0, 1) := by decide +kernel
theorem dX11_act_9 : decode cX11_act 9 = .ok (.iload_n 1, 1) := by decide +kernel
theorem dX11_act_10 : decode cX11_act 10 = .ok (.invokevirtual 122, 3) := by decide +kernel
theorem dX11_act_13 : decode cX11_act 13 = .ok (.astore 4, 2) := by decide +kernel
theorem dX11_act_15 : decode cX11_act 15 = .ok (.aload 4, 2) := by decide +kernel
theorem dX11_act_17 : decode cX11_act 17 = .ok (.ifnonnull 7, 3) := by decide +kernel
theorem dX11_act_20 : decode cX11_act 20 = .ok (.iconst 0, 1) := by decide +kernel
theorem dX11_act_21 : decode cX11_act 21 = .ok (.goto 14, 3) := by decide +kernel
theorem dX11_act_24 : decode cX11_act 24 = .ok (.aload_n 0, 1) := by decide +kernel
theorem dX11_act_25 : decode cX11_act 25 = .ok (.getfield 74, 3) := by decide +kernel
theorem dX11_act_28 : decode cX11_act 28 = .ok (.aload 4, 2) := by decide +kernel
theorem dX11_act_30 : decode cX11_act 30 = .ok (.iload_n 2, 1) := by decide +kernel
theorem dX11_act_31 : decode cX11_act 31 = .ok (.iload_n 3, 1) := by decide +kernel
theorem dX11_act_32 : decode cX11_act 32 = .ok (.invokevirtual 377, 3) := by decide +kernel
theorem dX11_act_35 : decode cX11_act 35 = .ok (.ireturn, 1) := by decide +kernel
set_option maxRecDepth 100000 in
set_option maxHeartbeats 4000000 in
theorem c_X11_act {l : Launch} {K : KG} {ad : Nat → Nat → Nat} {fl : Nat} {a1 : Int32} {a2 : Int32} {a3 : Int32} {M0 : Mem} {r9 : Int32} {M9 : Mem} (hf : f_X11_act fl a1 a2 a3 M0 = some (r9, M9)) : Met l yX11_act (Cond.code yX11_act cX11_act 5 (some .int) :: ztb) (RM (60) 0 0) (zPc K LC ad M0 [.ref (ad 0 0), .int a1, .int a2, .int a3]) (zQ K LC ad (some (.int r9)) M9) 0 0 (zA ad) := by
  refine z_enter (by decide) (Nat.le_of_ble_eq_true rfl) ?_
  intro p e s m args below meth c ls C hin hargs Z hl
  replace C : Cx p s m args meth c cX11_act 5 "GlassPalace" (some .int) := C
  replace hl : lv_has ls 5 [(0, .ref (ad 0 0)), (1, .int a1), (2, .int a2), (3, .int a3)] := hl
  have hR : 60 ≤ (RM (60) 0 0).frames ∧ 40 * (60) ≤ (RM (60) 0 0).locals := ⟨Nat.le_refl _, Nat.le_refl _⟩
  have hB : 0 ≤ (RM (60) 0 0).cells ∧ 0 ≤ (RM (60) 0 0).slots := ⟨Nat.zero_le _, Nat.zero_le _⟩
  unfold f_X11_act at hf
  refine lv_aload_n C.x C.b dX11_act_0 rfl (lv_at hl 0 rfl) ?_
  refine z_get C Z (lvC0 Nat.zero_lt_one) kC0 zc11 zin11 13 (by decide) k_375 rfl svC0_13 dX11_act_1 ?_
  refine lv_iconst (v := 0) C.x C.b dX11_act_4 (by decide) ?_
  replace hf := lt1_s hf; obtain ⟨m1, em1, hf⟩ := hf
  refine z_put (M1 := m1) C Z (lvC11 Nat.zero_lt_one) (by decide) kC11 zc0 zin0 tyX0_ok nmX0 0 (by decide) k_296 rfl (zUp_I em1 stC11_0u) (Or.inl rfl) rfl rfl dX11_act_5 (fun H locs Z => ?_)
  refine lv_aload_n C.x C.b dX11_act_8 rfl (lv_at hl 0 rfl) ?_
  refine lv_iload_n C.x C.b dX11_act_9 rfl (lv_at hl 1 rfl) ?_
  replace hf := bn2_s hf; obtain ⟨c3, m2, hkm2, hf⟩ := hf
  refine z_cV (As := [.int a1]) (rest := []) (st1 := [rf (ad 23) c3]) C Z mw_X11_lotOf mv_X11_lotOf k_512 (by decide) (z_hR hR (by decide)) (lvC0 Nat.zero_lt_one) kC0 zc11 (c_X11_lotOf (l := l) (K := K) (ad := ad) hkm2) rfl hl.1 rfl (Nat.le_of_ble_eq_true rfl) dX11_act_10 hB rfl (fun H locs Z => ?_)
  refine z_cstore (lv' := [(4, rf (ad 23) c3), (0, .ref (ad 0 0)), (1, .int a1), (2, .int a2), (3, .int a3)]) C dX11_act_13 hl (by decide) rfl (onlast 3 rfl rfl rfl) (fun ls hl => ?_)
  refine z_aload C dX11_act_15 (lv_at hl 0 rfl) ?_
  refine z_ifnonnull C dX11_act_17 (tgt := 24) (by decide) (fun hc4 => ?_) (fun hc4 => ?_)
  · replace hf := ite_f hf hc4
    refine lv_aload_n C.x C.b dX11_act_24 rfl (lv_at hl 1 rfl) ?_
    refine z_get C Z (lvC0 Nat.zero_lt_one) kC0 zc11 zin11 13 (by decide) k_375 rfl svC0_13 dX11_act_25 ?_
    refine z_aload C dX11_act_28 (lv_at hl 0 rfl) ?_
    refine lv_iload_n C.x C.b dX11_act_30 rfl (lv_at hl 3 rfl) ?_
    refine lv_iload_n C.x C.b dX11_act_31 rfl (lv_at hl 4 rfl) ?_
    replace hf := bn2_s hf; obtain ⟨v6, m5, hkm5, hf⟩ := hf
    refine z_cV (As := [rf (ad 23) c3, .int a2, .int a3]) (rest := []) (st1 := [.int v6]) C Z mw_X0_perform mv_X0_perform k_1060 (by decide) (z_hR hR (by decide)) (lvC11 Nat.zero_lt_one) kC11 zc0 (c_X0_perform (l := l) (K := K) (ad := ad) hkm5) rfl hl.1 rfl (Nat.le_of_ble_eq_true rfl) dX11_act_32 hB rfl (fun H locs Z => ?_)
    obtain ⟨rfl, rfl⟩ := pr_s hf
    exact z_iret C Z dX11_act_35
  · replace hf := ite_t hf hc4
    refine lv_iconst (v := 0) C.x C.b dX11_act_20 (by decide) ?_
    refine lv_goto (tgt := 35) C.x C.b dX11_act_21 (by decide) ?_
    obtain ⟨rfl, rfl⟩ := pr_s hf
    exact z_iret C Z dX11_act_35
theorem dX11_trace_0 : decode cX11_trace 0 = .ok (.aload_n 0, 1) := by decide +kernel
theorem dX11_trace_1 : decode cX11_trace 1 = .ok (.getfield 74, 3) := by decide +kernel
theorem dX11_trace_4 : decode cX11_trace 4 = .ok (.iload_n 1, 1) := by decide +kernel
theorem dX11_trace_5 : decode cX11_trace 5 = .ok (.invokevirtual 381, 3) := by decide +kernel
theorem dX11_trace_8 : decode cX11_trace 8 = .ok (.ireturn, 1) := by decide +kernel
set_option maxRecDepth 100000 in
set_option maxHeartbeats 4000000 in
theorem c_X11_trace {l : Launch} {K : KG} {ad : Nat → Nat → Nat} {fl : Nat} {a1 : Int32} {M0 : Mem} {r9 : Int32} {M9 : Mem} (hf : f_X11_trace fl a1 M0 = some (r9, M9)) : Met l yX11_trace (Cond.code yX11_trace cX11_trace 2 (some .int) :: ztb) (RM (2) 0 0) (zPc K LC ad M0 [.ref (ad 0 0), .int a1]) (zQ K LC ad (some (.int r9)) M9) 0 0 (zA ad) := by
  refine z_enter (by decide) (Nat.le_of_ble_eq_true rfl) ?_
  intro p e s m args below meth c ls C hin hargs Z hl
  replace C : Cx p s m args meth c cX11_trace 2 "GlassPalace" (some .int) := C
  replace hl : lv_has ls 2 [(0, .ref (ad 0 0)), (1, .int a1)] := hl
  have hR : 2 ≤ (RM (2) 0 0).frames ∧ 40 * (2) ≤ (RM (2) 0 0).locals := ⟨Nat.le_refl _, Nat.le_refl _⟩
  have hB : 0 ≤ (RM (2) 0 0).cells ∧ 0 ≤ (RM (2) 0 0).slots := ⟨Nat.zero_le _, Nat.zero_le _⟩
  unfold f_X11_trace at hf
  refine lv_aload_n C.x C.b dX11_trace_0 rfl (lv_at hl 0 rfl) ?_
  refine z_get C Z (lvC0 Nat.zero_lt_one) kC0 zc11 zin11 13 (by decide) k_375 rfl svC0_13 dX11_trace_1 ?_
  refine lv_iload_n C.x C.b dX11_trace_4 rfl (lv_at hl 1 rfl) ?_
  replace hf := bn2_s hf; obtain ⟨v2, m1, hkm1, hf⟩ := hf
  refine z_cV (As := [.int a1]) (rest := []) (st1 := [.int v2]) C Z mw_X0_bodyAt mv_X0_bodyAt k_1084 (by decide) (z_hR hR (by decide)) (lvC11 Nat.zero_lt_one) kC11 zc0 (c_X0_bodyAt (l := l) (K := K) (ad := ad) hkm1) rfl hl.1 rfl (Nat.le_of_ble_eq_true rfl) dX11_trace_5 hB rfl (fun H locs Z => ?_)
  obtain ⟨rfl, rfl⟩ := pr_s hf
  exact z_iret C Z dX11_trace_8
theorem dX11_taken_0 : decode cX11_taken 0 = .ok (.iload_n 2, 1) := by decide +kernel
theorem dX11_taken_1 : decode cX11_taken 1 = .ok (.invokestatic 110, 3) := by decide +kernel
theorem dX11_taken_4 : decode cX11_taken 4 = .ok (.ifCond .ne 6, 3) := by decide +kernel
theorem dX11_taken_7 : decode cX11_taken 7 = .ok (.bipush (-2), 2) := by decide +kernel
theorem dX11_taken_9 : decode cX11_taken 9 = .ok (.ireturn, 1) := by decide +kernel
theorem dX11_taken_10 : decode cX11_taken 10 = .ok (.aload_n 0, 1) := by decide +kernel
theorem dX11_taken_11 : decode cX11_taken 11 = .ok (.iload_n 1, 1) := by decide +kernel
theorem dX11_taken_12 : decode cX11_taken 12 = .ok (.invokevirtual 122, 3) := by decide +kernel
theorem dX11_taken_15 : decode cX11_taken 15 = .ok (.astore_n 3, 1) := by decide +kernel
theorem dX11_taken_16 : decode cX11_taken 16 = .ok (.aload_n 3, 1) := by decide +kernel
theorem dX11_taken_17 : decode cX11_taken 17 = .ok (.ifnonnull 6, 3) := by decide +kernel
theorem dX11_taken_20 : decode cX11_taken 20 = .ok (.bipush (-11), 2) := by decide +kernel
theorem dX11_taken_22 : decode cX11_taken 22 = .ok (.ireturn, 1) := by decide +kernel
theorem dX11_taken_23 : decode cX11_taken 23 = .ok (.aload_n 3, 1) := by decide +kernel
theorem dX11_taken_24 : decode cX11_taken 24 = .ok (.iload_n 2, 1) := by decide +kernel
theorem dX11_taken_25 : decode cX11_taken 25 = .ok (.invokevirtual 384, 3) := by decide +kernel
theorem dX11_taken_28 : decode cX11_taken 28 = .ok (.ifCond .eq 10, 3) := by decide +kernel
theorem dX11_taken_31 : decode cX11_taken 31 = .ok (.aload_n 3, 1) := by decide +kernel
theorem dX11_taken_32 : decode cX11_taken 32 = .ok (.getfield 138, 3) := by decide +kernel
theorem dX11_taken_35 : decode cX11_taken 35 = .ok (.goto 5, 3) := by decide +kernel
theorem dX11_taken_38 : decode cX11_taken 38 = .ok (.bipush (-12), 2) := by decide +kernel
theorem dX11_taken_40 : decode cX11_taken 40 = .ok (.ireturn, 1) := by decide +kernel
set_option maxRecDepth 100000 in
set_option maxHeartbeats 4000000 in
theorem c_X11_taken {l : Launch} {K : KG} {ad : Nat → Nat → Nat} {fl : Nat} {a1 : Int32} {a2 : Int32} {M0 : Mem} {r9 : Int32} {M9 : Mem} (hf : f_X11_taken fl a1 a2 M0 = some (r9, M9)) : Met l yX11_taken (Cond.code yX11_taken cX11_taken 4 (some .int) :: ztb) (RM (2) 0 0) (zPc K LC ad M0 [.ref (ad 0 0), .int a1, .int a2]) (zQ K LC ad (some (.int r9)) M9) 0 0 (zA ad) := by
  refine z_enter (by decide) (Nat.le_of_ble_eq_true rfl) ?_
  intro p e s m args below meth c ls C hin hargs Z hl
  replace C : Cx p s m args meth c cX11_taken 4 "GlassPalace" (some .int) := C
  replace hl : lv_has ls 4 [(0, .ref (ad 0 0)), (1, .int a1), (2, .int a2)] := hl
  have hR : 2 ≤ (RM (2) 0 0).frames ∧ 40 * (2) ≤ (RM (2) 0 0).locals := ⟨Nat.le_refl _, Nat.le_refl _⟩
  have hB : 0 ≤ (RM (2) 0 0).cells ∧ 0 ≤ (RM (2) 0 0).slots := ⟨Nat.zero_le _, Nat.zero_le _⟩
  unfold f_X11_taken at hf
  refine lv_iload_n C.x C.b dX11_taken_0 rfl (lv_at hl 2 rfl) ?_
  replace hf := bn2_s hf; obtain ⟨v2, m1, hkm1, hf⟩ := hf
  refine z_cS (As := [.int a2]) (rest := []) (st1 := [.int v2]) C Z mw_X11_isKind mv_X11_isKind k_446 (by decide) (z_hR hR (by decide)) (c_X11_isKind (l := l) (K := K) (ad := ad) hkm1) rfl hl.1 rfl (Nat.le_of_ble_eq_true rfl) dX11_taken_1 hB rfl (fun H locs Z => ?_)
  refine lv_if_ne (tgt := 10) C.x C.b dX11_taken_4 (by decide) (fun hc3 => ?_) (fun hc3 => ?_)
  · replace hf := ite_f hf hc3
    refine lv_aload_n C.x C.b dX11_taken_10 rfl (lv_at hl 0 rfl) ?_
    refine lv_iload_n C.x C.b dX11_taken_11 rfl (lv_at hl 1 rfl) ?_
    replace hf := bn2_s hf; obtain ⟨c5, m4, hkm4, hf⟩ := hf
    refine z_cV (As := [.int a1]) (rest := []) (st1 := [rf (ad 23) c5]) C Z mw_X11_lotOf mv_X11_lotOf k_512 (by decide) (z_hR hR (by decide)) (lvC0 Nat.zero_lt_one) kC0 zc11 (c_X11_lotOf (l := l) (K := K) (ad := ad) hkm4) rfl hl.1 rfl (Nat.le_of_ble_eq_true rfl) dX11_taken_12 hB rfl (fun H locs Z => ?_)
    refine z_cstore_n (lv' := [(3, rf (ad 23) c5), (0, .ref (ad 0 0)), (1, .int a1), (2, .int a2)]) C dX11_taken_15 rfl hl (by decide) rfl (onlast 2 rfl rfl rfl) (fun ls hl => ?_)
    refine z_aload_n C dX11_taken_16 rfl (lv_at hl 0 rfl) ?_
    refine z_ifnonnull C dX11_taken_17 (tgt := 23) (by decide) (fun hc6 => ?_) (fun hc6 => ?_)
    · replace hf := ite_f hf hc6
      refine z_aload_n C dX11_taken_23 rfl (lv_at hl 0 rfl) ?_
      refine lv_iload_n C.x C.b dX11_taken_24 rfl (lv_at hl 3 rfl) ?_
      replace hf := drf_s hf; obtain ⟨j7, ej9, hj8, hf⟩ := hf
      subst ej9
      refine z_nn [.int a2] (y := j7 + 1) rfl ?_
      replace hf := bn2_s hf; obtain ⟨v11, m10, hkm10, hf⟩ := hf
      refine z_cV (As := [.int a2]) (rest := []) (st1 := [.int v11]) C Z mw_X4_isUnder mv_X4_isUnder k_1092 (by decide) (z_hR hR (by decide)) (lvC23 hj8) kC23 zc4 (c_X4_isUnder (l := l) (K := K) (ad := ad) hj8 hkm10) rfl hl.1 rfl (Nat.le_of_ble_eq_true rfl) dX11_taken_25 hB rfl (fun H locs Z => ?_)
      refine lv_if_eq (tgt := 38) C.x C.b dX11_taken_28 (by decide) (fun hc12 => ?_) (fun hc12 => ?_)
      · replace hf := ite_t hf hc12
        refine lv_bipush (v := (-12)) C.x C.b dX11_taken_38 (by decide) ?_
        obtain ⟨rfl, rfl⟩ := pr_s hf
        exact z_iret C Z dX11_taken_40
      · replace hf := ite_f hf hc12
        refine lv_aload_n C.x C.b dX11_taken_31 rfl (lv_at hl 0 rfl) ?_
        replace hf := asr_s hf; obtain ⟨hq13, hf⟩ := hf
        refine z_get C Z (lvC23 hq13) kC23 zc4 zin4 1 (by decide) k_462 rfl svC23_1 dX11_taken_32 ?_
        refine lv_goto (tgt := 40) C.x C.b dX11_taken_35 (by decide) ?_
        obtain ⟨rfl, rfl⟩ := pr_s hf
        exact z_iret C Z dX11_taken_40
    · replace hf := ite_t hf hc6
      refine lv_bipush (v := (-11)) C.x C.b dX11_taken_20 (by decide) ?_
      obtain ⟨rfl, rfl⟩ := pr_s hf
      exact z_iret C Z dX11_taken_22
  · replace hf := ite_t hf hc3
    refine lv_bipush (v := (-2)) C.x C.b dX11_taken_7 (by decide) ?_
    obtain ⟨rfl, rfl⟩ := pr_s hf
    exact z_iret C Z dX11_taken_9
theorem dX11_tapeOf_0 : decode cX11_tapeOf 0 = .ok (.iload_n 1, 1) := by decide +kernel
theorem dX11_tapeOf_1 : decode cX11_tapeOf 1 = .ok (.ifCond .lt 18, 3) := by decide +kernel
theorem dX11_tapeOf_4 : decode cX11_tapeOf 4 = .ok (.iload_n 1, 1) := by decide +kernel
theorem dX11_tapeOf_5 : decode cX11_tapeOf 5 = .ok (.bipush 6, 2) := by decide +kernel
theorem dX11_tapeOf_7 : decode cX11_tapeOf 7 = .ok (.if_icmp .ge 12, 3) := by decide +kernel
theorem dX11_tapeOf_10 : decode cX11_tapeOf 10 = .ok (.aload_n 0, 1) := by decide +kernel
theorem dX11_tapeOf_11 : decode cX11_tapeOf 11 = .ok (.getfield 80, 3) := by decide +kernel
theorem dX11_tapeOf_14 : decode cX11_tapeOf 14 = .ok (.iload_n 1, 1) := by decide +kernel
theorem dX11_tapeOf_15 : decode cX11_tapeOf 15 = .ok (.aaload, 1) := by decide +kernel
theorem dX11_tapeOf_16 : decode cX11_tapeOf 16 = .ok (.goto 4, 3) := by decide +kernel
theorem dX11_tapeOf_19 : decode cX11_tapeOf 19 = .ok (.aconst_null, 1) := by decide +kernel
theorem dX11_tapeOf_20 : decode cX11_tapeOf 20 = .ok (.areturn, 1) := by decide +kernel
set_option maxRecDepth 100000 in
set_option maxHeartbeats 4000000 in
theorem c_X11_tapeOf {l : Launch} {K : KG} {ad : Nat → Nat → Nat} {fl : Nat} {a1 : Int32} {M0 : Mem} {r9 : Nat} {M9 : Mem} (hf : f_X11_tapeOf fl a1 M0 = some (r9, M9)) : Met l yX11_tapeOf (Cond.code yX11_tapeOf cX11_tapeOf 2 (some (.object "GlassPalace$Tape")) :: ztb) (RM (1) 0 0) (zPc K LC ad M0 [.ref (ad 0 0), .int a1]) (zQ K LC ad (some (rf (ad 42) r9)) M9) 0 0 (zA ad) := by
  refine z_enter (by decide) (Nat.le_of_ble_eq_true rfl) ?_
  intro p e s m args below meth c ls C hin hargs Z hl
  replace C : Cx p s m args meth c cX11_tapeOf 2 "GlassPalace" (some (.object "GlassPalace$Tape")) := C
  replace hl : lv_has ls 2 [(0, .ref (ad 0 0)), (1, .int a1)] := hl
  have hR : 1 ≤ (RM (1) 0 0).frames ∧ 40 * (1) ≤ (RM (1) 0 0).locals := ⟨Nat.le_refl _, Nat.le_refl _⟩
  have hB : 0 ≤ (RM (1) 0 0).cells ∧ 0 ≤ (RM (1) 0 0).slots := ⟨Nat.zero_le _, Nat.zero_le _⟩
  unfold f_X11_tapeOf at hf
  refine lv_iload_n C.x C.b dX11_tapeOf_0 rfl (lv_at hl 1 rfl) ?_
  refine lv_if_lt (tgt := 19) C.x C.b dX11_tapeOf_1 (by decide) (fun hc1 => ?_) (fun hc1 => ?_)
  · replace hf := ite_t hf hc1
    refine lv_null C.x C.b dX11_tapeOf_19 ?_
    obtain ⟨rfl, rfl⟩ := pr_s hf
    exact z_aret (f := ad 42) (k := 0) C Z dX11_tapeOf_20
  · replace hf := ite_f hf hc1
    refine lv_iload_n C.x C.b dX11_tapeOf_4 rfl (lv_at hl 1 rfl) ?_
    refine lv_bipush (v := 6) C.x C.b dX11_tapeOf_5 (by decide) ?_
    refine lv_icmp_ge (tgt := 19) C.x C.b dX11_tapeOf_7 (by decide) (fun hc2 => ?_) (fun hc2 => ?_)
    · replace hf := ite_t hf hc2
      refine lv_null C.x C.b dX11_tapeOf_19 ?_
      obtain ⟨rfl, rfl⟩ := pr_s hf
      exact z_aret (f := ad 42) (k := 0) C Z dX11_tapeOf_20
    · replace hf := ite_f hf hc2
      refine lv_aload_n C.x C.b dX11_tapeOf_10 rfl (lv_at hl 0 rfl) ?_
      refine z_get C Z (lvC0 Nat.zero_lt_one) kC0 zc11 zin11 14 (by decide) k_376 rfl svC0_14 dX11_tapeOf_11 ?_
      refine lv_iload_n C.x C.b dX11_tapeOf_14 rfl (lv_at hl 1 rfl) ?_
      replace hf := asr_s hf; obtain ⟨hq3, hf⟩ := hf
      refine z_aald C Z (lvC12 Nat.zero_lt_one) kC12 7 rfl hq3 svC12 dX11_tapeOf_15 ?_
      refine lv_goto (tgt := 20) C.x C.b dX11_tapeOf_16 (by decide) ?_
      obtain ⟨rfl, rfl⟩ := pr_s hf
      exact z_aret (f := ad 42) (k := ((Int32.toNatClampNeg a1) + 1)) C Z dX11_tapeOf_20
theorem dX11_agrees_0 : decode cX11_agrees 0 = .ok (.aload_n 0, 1) := by decide +kernel
theorem dX11_agrees_1 : decode cX11_agrees 1 = .ok (.lload_n 1, 1) := by decide +kernel
theorem dX11_agrees_2 : decode cX11_agrees 2 = .ok (.l2i, 1) := by decide +kernel
theorem dX11_agrees_3 : decode cX11_agrees 3 = .ok (.invokevirtual 122, 3) := by decide +kernel
theorem dX11_agrees_6 : decode cX11_agrees 6 = .ok (.astore 5, 2) := by decide +kernel
theorem dX11_agrees_8 : decode cX11_agrees 8 = .ok (.aload 5, 2) := by decide +kernel
theorem dX11_agrees_10 : decode cX11_agrees 10 = .ok (.ifnull 26, 3) := by decide +kernel
theorem dX11_agrees_13 : decode cX11_agrees 13 = .ok (.aload 5, 2) := by decide +kernel
theorem dX11_agrees_15 : decode cX11_agrees 15 = .ok (.invokevirtual 129, 3) := by decide +kernel
theorem dX11_agrees_18 : decode cX11_agrees 18 = .ok (.ifCond .eq 18, 3) := by decide +kernel
theorem dX11_agrees_21 : decode cX11_agrees 21 = .ok (.aload 5, 2) := by decide +kernel
theorem dX11_agrees_23 : decode cX11_agrees 23 = .ok (.getfield 144, 3) := by decide +kernel
theorem dX11_agrees_26 : decode cX11_agrees 26 = .ok (.i2l, 1) := by decide +kernel
theorem dX11_agrees_27 : decode cX11_agrees 27 = .ok (.lload_n 3, 1) := by decide +kernel
theorem dX11_agrees_28 : decode cX11_agrees 28 = .ok (.lcmp, 1) := by decide +kernel
theorem dX11_agrees_29 : decode cX11_agrees 29 = .ok (.ifCond .ne 7, 3) := by decide +kernel
theorem dX11_agrees_32 : decode cX11_agrees 32 = .ok (.iconst 1, 1) := by decide +kernel
theorem dX11_agrees_33 : decode cX11_agrees 33 = .ok (.goto 4, 3) := by decide +kernel
theorem dX11_agrees_36 : decode cX11_agrees 36 = .ok (.iconst 0, 1) := by decide +kernel
theorem dX11_agrees_37 : decode cX11_agrees 37 = .ok (.ireturn, 1) := by decide +kernel
set_option maxRecDepth 100000 in
set_option maxHeartbeats 4000000 in
theorem c_X11_agrees {l : Launch} {K : KG} {ad : Nat → Nat → Nat} {fl : Nat} {a1 : Int64} {a2 : Int64} {M0 : Mem} {r9 : Int32} {M9 : Mem} (hf : f_X11_agrees fl a1 a2 M0 = some (r9, M9)) : Met l yX11_agrees (Cond.code yX11_agrees cX11_agrees 6 (some .boolean) :: ztb) (RM (2) 0 0) (zPc K LC ad M0 [.ref (ad 0 0), .long a1, .long a2]) (zQ K LC ad (some (.int r9)) M9) 0 0 (zA ad) := by
  refine z_enter (by decide) (Nat.le_of_ble_eq_true rfl) ?_
  intro p e s m args below meth c ls C hin hargs Z hl
  replace C : Cx p s m args meth c cX11_agrees 6 "GlassPalace" (some .boolean) := C
  replace hl : lv_has ls 6 [(0, .ref (ad 0 0)), (1, .long a1), (3, .long a2)] := hl
  have hR : 2 ≤ (RM (2) 0 0).frames ∧ 40 * (2) ≤ (RM (2) 0 0).locals := ⟨Nat.le_refl _, Nat.le_refl _⟩
  have hB : 0 ≤ (RM (2) 0 0).cells ∧ 0 ≤ (RM (2) 0 0).slots := ⟨Nat.zero_le _, Nat.zero_le _⟩
  unfold f_X11_agrees at hf
  refine lv_aload_n C.x C.b dX11_agrees_0 rfl (lv_at hl 0 rfl) ?_
  refine lv_lload_n C.x C.b dX11_agrees_1 rfl (lv_at hl 1 rfl) ?_
  refine z_l2i C dX11_agrees_2 ?_
  replace hf := bn2_s hf; obtain ⟨c2, m1, hkm1, hf⟩ := hf
  refine z_cV (As := [.int (Int64.toInt32 a1)]) (rest := []) (st1 := [rf (ad 23) c2]) C Z mw_X11_lotOf mv_X11_lotOf k_512 (by decide) (z_hR hR (by decide)) (lvC0 Nat.zero_lt_one) kC0 zc11 (c_X11_lotOf (l := l) (K := K) (ad := ad) hkm1) rfl hl.1 rfl (Nat.le_of_ble_eq_true rfl) dX11_agrees_3 hB rfl (fun H locs Z => ?_)
  refine z_cstore (lv' := [(5, rf (ad 23) c2), (0, .ref (ad 0 0)), (1, .long a1), (3, .long a2)]) C dX11_agrees_6 hl (by decide) rfl (nolast rfl) (fun ls hl => ?_)
  refine z_aload C dX11_agrees_8 (lv_at hl 0 rfl) ?_
  refine z_ifnull C dX11_agrees_10 (tgt := 36) (by decide) (fun hc3 => ?_) (fun hc3 => ?_)
  · replace hf := ite_t hf hc3
    refine lv_iconst (v := 0) C.x C.b dX11_agrees_36 (by decide) ?_
    obtain ⟨rfl, rfl⟩ := pr_s hf
    exact z_zret C Z rfl dX11_agrees_37
  · replace hf := ite_f hf hc3
    refine z_aload C dX11_agrees_13 (lv_at hl 0 rfl) ?_
    replace hf := drf_s hf; obtain ⟨j4, ej6, hj5, hf⟩ := hf
    subst ej6
    refine z_nn [] (y := j4 + 1) rfl ?_
    replace hf := bn2_s hf; obtain ⟨v8, m7, hkm7, hf⟩ := hf
    refine z_cV (As := []) (rest := []) (st1 := [.int v8]) C Z mw_X4_isTold mv_X4_isTold k_516 (by decide) (z_hR hR (by decide)) (lvC23 hj5) kC23 zc4 (c_X4_isTold (l := l) (K := K) (ad := ad) hj5 hkm7) rfl hl.1 rfl (Nat.le_of_ble_eq_true rfl) dX11_agrees_15 hB rfl (fun H locs Z => ?_)
    refine lv_if_eq (tgt := 36) C.x C.b dX11_agrees_18 (by decide) (fun hc9 => ?_) (fun hc9 => ?_)
    · replace hf := ite_t hf hc9
      refine lv_iconst (v := 0) C.x C.b dX11_agrees_36 (by decide) ?_
      obtain ⟨rfl, rfl⟩ := pr_s hf
      exact z_zret C Z rfl dX11_agrees_37
    · replace hf := ite_f hf hc9
      refine lv_aload C.x C.b dX11_agrees_21 (lv_at hl 0 rfl) ?_
      replace hf := asr_s hf; obtain ⟨hq10, hf⟩ := hf
      refine z_get C Z (lvC23 hq10) kC23 zc4 zin4 3 (by decide) k_467 rfl svC23_3 dX11_agrees_23 ?_
      refine z_i2l C dX11_agrees_26 ?_
      refine lv_lload_n C.x C.b dX11_agrees_27 rfl (lv_at hl 3 rfl) ?_
      refine W.lcmp C.x C.b dX11_agrees_28 ?_
      refine lv_if_ne (tgt := 36) C.x C.b dX11_agrees_29 (by decide) (fun hc11 => ?_) (fun hc11 => ?_)
      · replace hf := ite_f hf hc11
        refine lv_iconst (v := 0) C.x C.b dX11_agrees_36 (by decide) ?_
        obtain ⟨rfl, rfl⟩ := pr_s hf
        exact z_zret C Z rfl dX11_agrees_37
      · replace hf := ite_t hf hc11
        refine lv_iconst (v := 1) C.x C.b dX11_agrees_32 (by decide) ?_
        refine lv_goto (tgt := 37) C.x C.b dX11_agrees_33 (by decide) ?_
        obtain ⟨rfl, rfl⟩ := pr_s hf
        exact z_zret C Z rfl dX11_agrees_37
theorem dX11_list_0 : decode cX11_list 0 = .ok (.aload_n 0, 1) := by decide +kernel
theorem dX11_list_1 : decode cX11_list 1 = .ok (.iload_n 1, 1) := by decide +kernel
theorem dX11_list_2 : decode cX11_list 2 = .ok (.invokevirtual 387, 3) := by decide +kernel
theorem dX11_list_5 : decode cX11_list 5 = .ok (.astore 4, 2) := by decide +kernel
theorem dX11_list_7 : decode cX11_list 7 = .ok (.aload 4, 2) := by decide +kernel
theorem dX11_list_9 : decode cX11_list 9 = .ok (.ifnull 14, 3) := by decide +kernel
theorem dX11_list_12 : decode cX11_list 12 = .ok (.iload_n 3, 1) := by decide +kernel
theorem dX11_list_13 : decode cX11_list 13 = .ok (.iconst 1, 1) := by decide +kernel
theorem dX11_list_14 : decode cX11_list 14 = .ok (.if_icmp .lt 9, 3) := by decide +kernel
theorem dX11_list_17 : decode cX11_list 17 = .ok (.iload_n 3, 1) := by decide +kernel
theorem dX11_list_18 : decode cX11_list 18 = .ok (.bipush 20, 2) := by decide +kernel
theorem dX11_list_20 : decode cX11_list 20 = .ok (.if_icmp .le 7, 3) := by decide +kernel
theorem dX11_list_23 : decode cX11_list 23 = .ok (.ldc2_w 391, 3) := by decide +kernel
theorem dX11_list_26 : decode cX11_list 26 = .ok (.lreturn, 1) := by decide +kernel
theorem dX11_list_27 : decode cX11_list 27 = .ok (.aload 4, 2) := by decide +kernel
theorem dX11_list_29 : decode cX11_list 29 = .ok (.getfield 393, 3) := by decide +kernel
theorem dX11_list_32 : decode cX11_list 32 = .ok (.iconst (-1), 1) := by decide +kernel
theorem dX11_list_33 : decode cX11_list 33 = .ok (.if_icmp .eq 16, 3) := by decide +kernel
theorem dX11_list_36 : decode cX11_list 36 = .ok (.aload 4, 2) := by decide +kernel
theorem dX11_list_38 : decode cX11_list 38 = .ok (.getfield 393, 3) := by decide +kernel
theorem dX11_list_41 : decode cX11_list 41 = .ok (.iconst 2, 1) := by decide +kernel
theorem dX11_list_42 : decode cX11_list 42 = .ok (.if_icmp .eq 7, 3) := by decide +kernel
theorem dX11_list_45 : decode cX11_list 45 = .ok (.ldc2_w 396, 3) := by decide +kernel
theorem dX11_list_48 : decode cX11_list 48 = .ok (.lreturn, 1) := by decide +kernel
theorem dX11_list_49 : decode cX11_list 49 = .ok (.lconst 0, 1) := by decide +kernel
theorem dX11_list_50 : decode cX11_list 50 = .ok (.lstore 5, 2) := by decide +kernel
theorem dX11_list_52 : decode cX11_list 52 = .ok (.iconst 0, 1) := by decide +kernel
theorem dX11_list_53 : decode cX11_list 53 = .ok (.istore 7, 2) := by decide +kernel
theorem dX11_list_55 : decode cX11_list 55 = .ok (.iload 7, 2) := by decide +kernel
theorem dX11_list_57 : decode cX11_list 57 = .ok (.iload_n 3, 1) := by decide +kernel
theorem dX11_list_58 : decode cX11_list 58 = .ok (.if_icmp .ge 85, 3) := by decide +kernel
theorem dX11_list_61 : decode cX11_list 61 = .ok (.iload_n 2, 1) := by decide +kernel
theorem dX11_list_62 : decode cX11_list 62 = .ok (.i2l, 1) := by decide +kernel
theorem dX11_list_63 : decode cX11_list 63 = .ok (.ldc2_w 398, 3) := by decide +kernel
theorem dX11_list_66 : decode cX11_list 66 = .ok (.iload 7, 2) := by decide +kernel
theorem dX11_list_68 : decode cX11_list 68 = .ok (.i2l, 1) := by decide +kernel
theorem dX11_list_69 : decode cX11_list 69 = .ok (.lmul, 1) := by decide +kernel
theorem dX11_list_70 : decode cX11_list 70 = .ok (.ladd, 1) := by decide +kernel
theorem dX11_list_71 : decode cX11_list 71 = .ok (.lstore 8, 2) := by decide +kernel
theorem dX11_list_73 : decode cX11_list 73 = .ok (.aload 4, 2) := by decide +kernel
theorem dX11_list_75 : decode cX11_list 75 = .ok (.lload 8, 2) := by decide +kernel
theorem dX11_list_77 : decode cX11_list 77 = .ok (.invokevirtual 400, 3) := by decide +kernel
theorem dX11_list_80 : decode cX11_list 80 = .ok (.ifCond .eq 15, 3) := by decide +kernel
theorem dX11_list_83 : decode cX11_list 83 = .ok (.aload 4, 2) := by decide +kernel
theorem dX11_list_85 : decode cX11_list 85 = .ok (.lload 8, 2) := by decide +kernel
theorem dX11_list_87 : decode cX11_list 87 = .ok (.lconst 1, 1) := by decide +kernel
theorem dX11_list_88 : decode cX11_list 88 = .ok (.ladd, 1) := by decide +kernel
theorem dX11_list_89 : decode cX11_list 89 = .ok (.invokevirtual 400, 3) := by decide +kernel
theorem dX11_list_92 : decode cX11_list 92 = .ok (.ifCond .ne 10, 3) := by decide +kernel
theorem dX11_list_95 : decode cX11_list 95 = .ok (.lload 5, 2) := by decide +kernel
theorem dX11_list_97 : decode cX11_list 97 = .ok (.ldc2_w 404, 3) := by decide +kernel
theorem dX11_list_100 : decode cX11_list 100 = .ok (.ladd, 1) := by decide +kernel
theorem dX11_list_101 : decode cX11_list 101 = .ok (.lreturn, 1) := by decide +kernel
theorem dX11_list_102 : decode cX11_list 102 = .ok (.lload 5, 2) := by decide +kernel
theorem dX11_list_104 : decode cX11_list 104 = .ok (.aload_n 0, 1) := by decide +kernel
theorem dX11_list_105 : decode cX11_list 105 = .ok (.aload 4, 2) := by decide +kernel
theorem dX11_list_107 : decode cX11_list 107 = .ok (.lload 8, 2) := by decide +kernel
theorem dX11_list_109 : decode cX11_list 109 = .ok (.invokevirtual 406, 3) := by decide +kernel
theorem dX11_list_112 : decode cX11_list 112 = .ok (.aload 4, 2) := by decide +kernel
theorem dX11_list_114 : decode cX11_list 114 = .ok (.lload 8, 2) := by decide +kernel
theorem dX11_list_116 : decode cX11_list 116 = .ok (.lconst 1, 1) := by decide +kernel
theorem dX11_list_117 : decode cX11_list 117 = .ok (.ladd, 1) := by decide +kernel
theorem dX11_list_118 : decode cX11_list 118 = .ok (.invokevirtual 406, 3) := by decide +kernel
theorem dX11_list_121 : decode cX11_list 121 = .ok (.invokevirtual 410, 3) := by decide +kernel
theorem dX11_list_124 : decode cX11_list 124 = .ok (.ifCond .eq 9, 3) := by decide +kernel
theorem dX11_list_127 : decode cX11_list 127 = .ok (.ldc2_w 414, 3) := by decide +kernel
theorem dX11_list_130 : decode cX11_list 130 = .ok (.goto 4, 3) := by decide +kernel
theorem dX11_list_133 : decode cX11_list 133 = .ok (.lconst 1, 1) := by decide +kernel
theorem dX11_list_134 : decode cX11_list 134 = .ok (.ladd, 1) := by decide +kernel
theorem dX11_list_135 : decode cX11_list 135 = .ok (.lstore 5, 2) := by decide +kernel
theorem dX11_list_137 : decode cX11_list 137 = .ok (.iinc 7 1, 3) := by decide +kernel
theorem dX11_list_140 : decode cX11_list 140 = .ok (.goto (-85), 3) := by decide +kernel
theorem dX11_list_143 : decode cX11_list 143 = .ok (.lload 5, 2) := by decide +kernel
theorem dX11_list_145 : decode cX11_list 145 = .ok (.lreturn, 1) := by decide +kernel
set_option maxRecDepth 100000 in
set_option maxHeartbeats 4000000 in
theorem w_X11_list_l55 {p : Program} {l : Launch} {e : Env} {R : Room} {s : State} {m : MethodId} {args : Array Value} {below : List Frame} {meth : Method} {c : Code} {cells slots : Nat} {Q : State → Prop} {K : KG} {ad : Nat → Nat → Nat} {fl : Nat} {g2 : Int32} {g3 : Int32} {g4 : Nat} (C : Cx p s m args meth c cX11_list 10 "GlassPalace" (some .long)) (hR : 3 ≤ R.frames ∧ 40 * (3) ≤ R.locals) (hB : cells ≤ R.cells ∧ slots ≤ R.slots) : ∀ (n : Nat) (u5 : Int64) (u7 : Int32) (M0 : Mem) (H : Heap) (locs : List Loc) (ls : Array Slot), Zd K LC ad M0 s H locs → lv_has ls 10 [(0, .ref (ad 0 0)), (2, .int g2), (3, .int g3), (4, rf (ad 42) g4), (5, .long u5), (7, .int u7)] → ∀ (q : Nat × Int64) (Mq : Mem), f_X11_list_l55 fl g2 g3 g4 n u5 u7 M0 = some (q, Mq) → (q.1 = 0 → ∀ (H : Heap) (locs : List Loc) (ls : Array Slot), Zd K LC ad Mq s H locs → lv_has ls 10 [(5, .long q.2)] → W p l e R s m args below meth c H locs cells slots Q (F0 m 95 ls [])) → (q.1 = 1 → ∀ (H : Heap) (locs : List Loc) (ls : Array Slot), Zd K LC ad Mq s H locs → lv_has ls 10 [(5, .long q.2)] → W p l e R s m args below meth c H locs cells slots Q (F0 m 143 ls [])) → W p l e R s m args below meth c H locs cells slots Q (F0 m 55 ls []) := by
  intro n
  induction n with
  | zero =>
    intro u5 u7 M0 H locs ls Z hl q Mq hf
    have hf : (none : Option ((Nat × Int64) × Mem)) = some (q, Mq) := hf
    cases hf
  | succ n ih =>
    intro u5 u7 M0 H locs ls Z hl q Mq hf kx0 kx1
    replace hf : f_X11_list_l55_b (f_X11_list_l55 fl g2 g3 g4 n) fl g2 g3 g4 u5 u7 M0 = some (q, Mq) := hf
    unfold f_X11_list_l55_b at hf
    refine lv_iload C.x C.b dX11_list_55 (lv_at hl 5 rfl) ?_
    refine lv_iload_n C.x C.b dX11_list_57 rfl (lv_at hl 2 rfl) ?_
    refine lv_icmp_ge (tgt := 143) C.x C.b dX11_list_58 (by decide) (fun hc10 => ?_) (fun hc10 => ?_)
    · replace hf := ite_t hf hc10
      obtain ⟨rfl, rfl⟩ := pr_s hf
      exact kx1 rfl _ _ _ Z (lv_sub hl [4] rfl)
    · replace hf := ite_f hf hc10
      refine lv_iload_n C.x C.b dX11_list_61 rfl (lv_at hl 1 rfl) ?_
      refine z_i2l C dX11_list_62 ?_
      refine lv_ldc2 (v := 2) C.x C.b C.o (C.w k_1106) dX11_list_63 ?_
      refine lv_iload C.x C.b dX11_list_66 (lv_at hl 5 rfl) ?_
      refine z_i2l C dX11_list_68 ?_
      refine lv_lmul C.x C.b dX11_list_69 ?_
      refine lv_ladd C.x C.b dX11_list_70 ?_
      replace hf := lt1_s hf; obtain ⟨y11, ey11, hf⟩ := hf
      refine z_renL ey11 ?_
      refine z_lstore (lv' := [(8, .long y11), (0, .ref (ad 0 0)), (2, .int g2), (3, .int g3), (4, rf (ad 42) g4), (5, .long u5), (7, .int u7)]) C dX11_list_71 hl (by decide) rfl (onlast 5 rfl rfl rfl) (fun ls hl => ?_)
      refine z_aload C dX11_list_73 (lv_at hl 4 rfl) ?_
      refine lv_lload C.x C.b dX11_list_75 (lv_at hl 0 rfl) ?_
      replace hf := drf_s hf; obtain ⟨j12, ej14, hj13, hf⟩ := hf
      subst ej14
      refine z_nn [.long y11] (y := j12 + 1) rfl ?_
      replace hf := bn2_s hf; obtain ⟨v16, m15, hkm15, hf⟩ := hf
      refine z_cV (As := [.long y11]) (rest := []) (st1 := [.int v16]) C Z mw_X8_hasItem mv_X8_hasItem k_1107 (by decide) (z_hR hR (by decide)) (lvC42 hj13) kC42 zc8 (c_X8_hasItem (l := l) (K := K) (ad := ad) hj13 hkm15) rfl hl.1 rfl (Nat.le_of_ble_eq_true rfl) dX11_list_77 hB rfl (fun H locs Z => ?_)
      refine lv_if_eq (tgt := 95) C.x C.b dX11_list_80 (by decide) (fun hc17 => ?_) (fun hc17 => ?_)
      · replace hf := ite_t hf hc17
        obtain ⟨rfl, rfl⟩ := pr_s hf
        exact kx0 rfl _ _ _ Z (lv_sub hl [5] rfl)
      · replace hf := ite_f hf hc17
        refine lv_aload C.x C.b dX11_list_83 (lv_at hl 4 rfl) ?_
        refine lv_lload C.x C.b dX11_list_85 (lv_at hl 0 rfl) ?_
        refine lv_lconst (v := 1) C.x C.b dX11_list_87 (by decide) ?_
        refine lv_ladd C.x C.b dX11_list_88 ?_
        replace hf := bn2_s hf; obtain ⟨v19, m18, hkm18, hf⟩ := hf
        refine z_cV (As := [.long (y11 + 1)]) (rest := []) (st1 := [.int v19]) C Z mw_X8_hasItem mv_X8_hasItem k_1107 (by decide) (z_hR hR (by decide)) (lvC42 hj13) kC42 zc8 (c_X8_hasItem (l := l) (K := K) (ad := ad) hj13 hkm18) rfl hl.1 rfl (Nat.le_of_ble_eq_true rfl) dX11_list_89 hB rfl (fun H locs Z => ?_)
        refine lv_if_ne (tgt := 102) C.x C.b dX11_list_92 (by decide) (fun hc20 => ?_) (fun hc20 => ?_)
        · replace hf := ite_f hf hc20
          refine lv_lload C.x C.b dX11_list_102 (lv_at hl 5 rfl) ?_
          refine lv_aload_n C.x C.b dX11_list_104 rfl (lv_at hl 1 rfl) ?_
          refine lv_aload C.x C.b dX11_list_105 (lv_at hl 4 rfl) ?_
          refine lv_lload C.x C.b dX11_list_107 (lv_at hl 0 rfl) ?_
          replace hf := bn2_s hf; obtain ⟨y22, m21, hkm21, hf⟩ := hf
          refine z_cV (As := [.long y11]) (rest := [.ref (ad 0 0), .long u5]) (st1 := [.long y22, .ref (ad 0 0), .long u5]) C Z mw_X8_itemAt mv_X8_itemAt k_1113 (by decide) (z_hR hR (by decide)) (lvC42 hj13) kC42 zc8 (c_X8_itemAt (l := l) (K := K) (ad := ad) hj13 hkm21) rfl hl.1 rfl (Nat.le_of_ble_eq_true rfl) dX11_list_109 hB rfl (fun H locs Z => ?_)
          refine lv_aload C.x C.b dX11_list_112 (lv_at hl 4 rfl) ?_
          refine lv_lload C.x C.b dX11_list_114 (lv_at hl 0 rfl) ?_
          refine lv_lconst (v := 1) C.x C.b dX11_list_116 (by decide) ?_
          refine lv_ladd C.x C.b dX11_list_117 ?_
          replace hf := bn2_s hf; obtain ⟨y24, m23, hkm23, hf⟩ := hf
          refine z_cV (As := [.long (y11 + 1)]) (rest := [.long y22, .ref (ad 0 0), .long u5]) (st1 := [.long y24, .long y22, .ref (ad 0 0), .long u5]) C Z mw_X8_itemAt mv_X8_itemAt k_1113 (by decide) (z_hR hR (by decide)) (lvC42 hj13) kC42 zc8 (c_X8_itemAt (l := l) (K := K) (ad := ad) hj13 hkm23) rfl hl.1 rfl (Nat.le_of_ble_eq_true rfl) dX11_list_118 hB rfl (fun H locs Z => ?_)
          replace hf := bn2_s hf; obtain ⟨v26, m25, hkm25, hf⟩ := hf
          refine z_cV (As := [.long y22, .long y24]) (rest := [.long u5]) (st1 := [.int v26, .long u5]) C Z mw_X11_agrees mv_X11_agrees k_1118 (by decide) (z_hR hR (by decide)) (lvC0 Nat.zero_lt_one) kC0 zc11 (c_X11_agrees (l := l) (K := K) (ad := ad) hkm25) rfl hl.1 rfl (Nat.le_of_ble_eq_true rfl) dX11_list_121 hB rfl (fun H locs Z => ?_)
          refine lv_if_eq (tgt := 133) C.x C.b dX11_list_124 (by decide) (fun hc27 => ?_) (fun hc27 => ?_)
          · replace hf := ite_t hf hc27
            refine lv_lconst (v := 1) C.x C.b dX11_list_133 (by decide) ?_
            refine lv_ladd C.x C.b dX11_list_134 ?_
            replace hf := lt1_s hf; obtain ⟨y28, ey28, hf⟩ := hf
            refine z_renL ey28 ?_
            refine z_lstore (lv' := [(5, .long y28), (8, .long y11), (0, .ref (ad 0 0)), (2, .int g2), (3, .int g3), (4, .ref (ad 42 j12)), (7, .int u7)]) C dX11_list_135 hl (by decide) rfl (onlast 4 rfl rfl rfl) (fun ls hl => ?_)
            replace hf := lt1_s hf; obtain ⟨x29, ex29, hf⟩ := hf
            refine z_iinc (v := x29) (lv' := [(7, .int x29), (5, .long y28), (8, .long y11), (0, .ref (ad 0 0)), (2, .int g2), (3, .int g3), (4, .ref (ad 42 j12))]) C dX11_list_137 hl (k := 6) rfl (by rw [ex29]; rfl) (by decide) rfl (nolast rfl) (fun ls hl => ?_)
            refine lv_goto (tgt := 55) C.x C.b dX11_list_140 (by decide) ?_
            exact ih _ _ _ _ _ _ Z (lv_sub hl [3, 4, 5, 6, 1, 0] rfl) _ _ hf kx0 kx1
          · replace hf := ite_f hf hc27
            refine lv_ldc2 (v := 1000) C.x C.b C.o (C.w k_1122) dX11_list_127 ?_
            refine lv_goto (tgt := 134) C.x C.b dX11_list_130 (by decide) ?_
            refine lv_ladd C.x C.b dX11_list_134 ?_
            replace hf := lt1_s hf; obtain ⟨y30, ey30, hf⟩ := hf
            refine z_renL ey30 ?_
            refine z_lstore (lv' := [(5, .long y30), (8, .long y11), (0, .ref (ad 0 0)), (2, .int g2), (3, .int g3), (4, .ref (ad 42 j12)), (7, .int u7)]) C dX11_list_135 hl (by decide) rfl (onlast 4 rfl rfl rfl) (fun ls hl => ?_)
            replace hf := lt1_s hf; obtain ⟨x31, ex31, hf⟩ := hf
            refine z_iinc (v := x31) (lv' := [(7, .int x31), (5, .long y30), (8, .long y11), (0, .ref (ad 0 0)), (2, .int g2), (3, .int g3), (4, .ref (ad 42 j12))]) C dX11_list_137 hl (k := 6) rfl (by rw [ex31]; rfl) (by decide) rfl (nolast rfl) (fun ls hl => ?_)
            refine lv_goto (tgt := 55) C.x C.b dX11_list_140 (by decide) ?_
            exact ih _ _ _ _ _ _ Z (lv_sub hl [3, 4, 5, 6, 1, 0] rfl) _ _ hf kx0 kx1
        · replace hf := ite_t hf hc20
          obtain ⟨rfl, rfl⟩ := pr_s hf
          exact kx0 rfl _ _ _ Z (lv_sub hl [5] rfl)
set_option maxRecDepth 100000 in
set_option maxHeartbeats 4000000 in
theorem w_X11_list_b49 {p : Program} {l : Launch} {e : Env} {s : State} {m : MethodId} {args : Array Value} {below : List Frame} {meth : Method} {c : Code} {K : KG} {ad : Nat → Nat → Nat} {fl : Nat} {H : Heap} {locs : List Loc} {ls : Array Slot} {g2 : Int32} {g3 : Int32} {g4 : Nat} {M0 : Mem} {r9 : Int64} {M9 : Mem} (C : Cx p s m args meth c cX11_list 10 "GlassPalace" (some .long)) (hR : 3 ≤ (RM (3) 0 0).frames ∧ 40 * (3) ≤ (RM (3) 0 0).locals) (hB : 0 ≤ (RM (3) 0 0).cells ∧ 0 ≤ (RM (3) 0 0).slots) (Z : Zd K LC ad M0 s H locs) (hl : lv_has ls 10 [(0, .ref (ad 0 0)), (2, .int g2), (3, .int g3), (4, rf (ad 42) g4)]) (hf : f_X11_list_b49 fl g2 g3 g4 M0 = some (r9, M9)) : W p l e (RM (3) 0 0) s m args below meth c H locs 0 0 (MQ below (zQ K LC ad (some (.long r9)) M9) args s 0 0 (zA ad)) (F0 m 49 ls []) := by
  unfold f_X11_list_b49 at hf
  refine lv_lconst (v := 0) C.x C.b dX11_list_49 (by decide) ?_
  refine z_lstore (lv' := [(5, .long 0), (0, .ref (ad 0 0)), (2, .int g2), (3, .int g3), (4, rf (ad 42) g4)]) C dX11_list_50 hl (by decide) rfl (onlast 3 rfl (rf_cat _ _) rfl) (fun ls hl => ?_)
  refine lv_iconst (v := 0) C.x C.b dX11_list_52 (by decide) ?_
  refine z_istore (lv' := [(7, .int 0), (5, .long 0), (0, .ref (ad 0 0)), (2, .int g2), (3, .int g3), (4, rf (ad 42) g4)]) C dX11_list_53 hl (by decide) rfl (nolast rfl) (fun ls hl => ?_)
  replace hf := bn2_s hf; obtain ⟨q32, m33, hq32, hf⟩ := hf
  refine w_X11_list_l55 C hR hB  fl _ _ _ _ _ _ Z (lv_sub hl [2, 3, 4, 5, 1, 0] rfl) _ _ hq32 (fun ht H locs ls Z hl => ?_) (fun ht H locs ls Z hl => ?_)
  · replace hf := ite_t hf ht
    refine lv_lload C.x C.b dX11_list_95 (lv_at hl 0 rfl) ?_
    refine lv_ldc2 (v := 1000000) C.x C.b C.o (C.w k_1112) dX11_list_97 ?_
    refine lv_ladd C.x C.b dX11_list_100 ?_
    obtain ⟨rfl, rfl⟩ := pr_s hf
    exact z_lret C Z dX11_list_101
  · replace hf := ite_f hf (by rw [ht]; decide)
    refine lv_lload C.x C.b dX11_list_143 (lv_at hl 0 rfl) ?_
    obtain ⟨rfl, rfl⟩ := pr_s hf
    exact z_lret C Z dX11_list_145
set_option maxRecDepth 100000 in
set_option maxHeartbeats 4000000 in
theorem c_X11_list {l : Launch} {K : KG} {ad : Nat → Nat → Nat} {fl : Nat} {a1 : Int32} {a2 : Int32} {a3 : Int32} {M0 : Mem} {r9 : Int64} {M9 : Mem} (hf : f_X11_list fl a1 a2 a3 M0 = some (r9, M9)) : Met l yX11_list (Cond.code yX11_list cX11_list 10 (some .long) :: ztb) (RM (3) 0 0) (zPc K LC ad M0 [.ref (ad 0 0), .int a1, .int a2, .int a3]) (zQ K LC ad (some (.long r9)) M9) 0 0 (zA ad) := by
  refine z_enter (by decide) (Nat.le_of_ble_eq_true rfl) ?_
  intro p e s m args below meth c ls C hin hargs Z hl
  replace C : Cx p s m args meth c cX11_list 10 "GlassPalace" (some .long) := C
  replace hl : lv_has ls 10 [(0, .ref (ad 0 0)), (1, .int a1), (2, .int a2), (3, .int a3)] := hl
  have hR : 3 ≤ (RM (3) 0 0).frames ∧ 40 * (3) ≤ (RM (3) 0 0).locals := ⟨Nat.le_refl _, Nat.le_refl _⟩
  have hB : 0 ≤ (RM (3) 0 0).cells ∧ 0 ≤ (RM (3) 0 0).slots := ⟨Nat.zero_le _, Nat.zero_le _⟩
  unfold f_X11_list at hf
  refine lv_aload_n C.x C.b dX11_list_0 rfl (lv_at hl 0 rfl) ?_
  refine lv_iload_n C.x C.b dX11_list_1 rfl (lv_at hl 1 rfl) ?_
  replace hf := bn2_s hf; obtain ⟨c2, m1, hkm1, hf⟩ := hf
  refine z_cV (As := [.int a1]) (rest := []) (st1 := [rf (ad 42) c2]) C Z mw_X11_tapeOf mv_X11_tapeOf k_1100 (by decide) (z_hR hR (by decide)) (lvC0 Nat.zero_lt_one) kC0 zc11 (c_X11_tapeOf (l := l) (K := K) (ad := ad) hkm1) rfl hl.1 rfl (Nat.le_of_ble_eq_true rfl) dX11_list_2 hB rfl (fun H locs Z => ?_)
  refine z_cstore (lv' := [(4, rf (ad 42) c2), (0, .ref (ad 0 0)), (1, .int a1), (2, .int a2), (3, .int a3)]) C dX11_list_5 hl (by decide) rfl (onlast 3 rfl rfl rfl) (fun ls hl => ?_)
  refine z_aload C dX11_list_7 (lv_at hl 0 rfl) ?_
  refine z_ifnull C dX11_list_9 (tgt := 23) (by decide) (fun hc3 => ?_) (fun hc3 => ?_)
  · replace hf := ite_t hf hc3
    refine lv_ldc2 (v := (-9223372036854775808)) C.x C.b C.o (C.w k_1104) dX11_list_23 ?_
    obtain ⟨rfl, rfl⟩ := pr_s hf
    exact z_lret C Z dX11_list_26
  · replace hf := ite_f hf hc3
    refine lv_iload_n C.x C.b dX11_list_12 rfl (lv_at hl 4 rfl) ?_
    refine lv_iconst (v := 1) C.x C.b dX11_list_13 (by decide) ?_
    refine lv_icmp_lt (tgt := 23) C.x C.b dX11_list_14 (by decide) (fun hc4 => ?_) (fun hc4 => ?_)
    · replace hf := ite_t hf hc4
      refine lv_ldc2 (v := (-9223372036854775808)) C.x C.b C.o (C.w k_1104) dX11_list_23 ?_
      obtain ⟨rfl, rfl⟩ := pr_s hf
      exact z_lret C Z dX11_list_26
    · replace hf := ite_f hf hc4
      refine lv_iload_n C.x C.b dX11_list_17 rfl (lv_at hl 4 rfl) ?_
      refine lv_bipush (v := 20) C.x C.b dX11_list_18 (by decide) ?_
      refine lv_icmp_le (tgt := 27) C.x C.b dX11_list_20 (by decide) (fun hc5 => ?_) (fun hc5 => ?_)
      · replace hf := ite_t hf hc5
        refine z_aload C dX11_list_27 (lv_at hl 0 rfl) ?_
        replace hf := drf_s hf; obtain ⟨j6, ej8, hj7, hf⟩ := hf
        subst ej8
        refine z_nn [] (y := j6 + 1) rfl ?_
        refine z_get C Z (lvC42 hj7) kC42 zc8 zin8 0 (by decide) k_350 rfl svC42_0 dX11_list_29 ?_
        refine lv_iconst (v := (-1)) C.x C.b dX11_list_32 (by decide) ?_
        refine lv_icmp_eq (tgt := 49) C.x C.b dX11_list_33 (by decide) (fun hc9 => ?_) (fun hc9 => ?_)
        · replace hf := ite_t hf hc9
          exact w_X11_list_b49 C hR hB  Z (lv_sub hl [1, 3, 4, 0] rfl) hf
        · replace hf := ite_f hf hc9
          refine lv_aload C.x C.b dX11_list_36 (lv_at hl 0 rfl) ?_
          refine z_get C Z (lvC42 hj7) kC42 zc8 zin8 0 (by decide) k_350 rfl svC42_0 dX11_list_38 ?_
          refine lv_iconst (v := 2) C.x C.b dX11_list_41 (by decide) ?_
          refine lv_icmp_eq (tgt := 49) C.x C.b dX11_list_42 (by decide) (fun hc34 => ?_) (fun hc34 => ?_)
          · replace hf := ite_t hf hc34
            exact w_X11_list_b49 C hR hB  Z (lv_sub hl [1, 3, 4, 0] rfl) hf
          · replace hf := ite_f hf hc34
            refine lv_ldc2 (v := (-9223372036854775807)) C.x C.b C.o (C.w k_1105) dX11_list_45 ?_
            obtain ⟨rfl, rfl⟩ := pr_s hf
            exact z_lret C Z dX11_list_48
      · replace hf := ite_f hf hc5
        refine lv_ldc2 (v := (-9223372036854775808)) C.x C.b C.o (C.w k_1104) dX11_list_23 ?_
        obtain ⟨rfl, rfl⟩ := pr_s hf
        exact z_lret C Z dX11_list_26
theorem dX11_standingPieces_0 : decode cX11_standingPieces 0 = .ok (.iconst 0, 1) := by decide +kernel
theorem dX11_standingPieces_1 : decode cX11_standingPieces 1 = .ok (.istore_n 1, 1) := by decide +kernel
theorem dX11_standingPieces_2 : decode cX11_standingPieces 2 = .ok (.aload_n 0, 1) := by decide +kernel
theorem dX11_standingPieces_3 : decode cX11_standingPieces 3 = .ok (.getfield 20, 3) := by decide +kernel
theorem dX11_standingPieces_6 : decode cX11_standingPieces 6 = .ok (.astore_n 2, 1) := by decide +kernel
theorem dX11_standingPieces_7 : decode cX11_standingPieces 7 = .ok (.aload_n 2, 1) := by decide +kernel
theorem dX11_standingPieces_8 : decode cX11_standingPieces 8 = .ok (.arraylength, 1) := by decide +kernel
theorem dX11_standingPieces_9 : decode cX11_standingPieces 9 = .ok (.istore_n 3, 1) := by decide +kernel
theorem dX11_standingPieces_10 : decode cX11_standingPieces 10 = .ok (.iconst 0, 1) := by decide +kernel
theorem dX11_standingPieces_11 : decode cX11_standingPieces 11 = .ok (.istore 4, 2) := by decide +kernel
theorem dX11_standingPieces_13 : decode cX11_standingPieces 13 = .ok (.iload 4, 2) := by decide +kernel
theorem dX11_standingPieces_15 : decode cX11_standingPieces 15 = .ok (.iload_n 3, 1) := by decide +kernel
theorem dX11_standingPieces_16 : decode cX11_standingPieces 16 = .ok (.if_icmp .ge 32, 3) := by decide +kernel
theorem dX11_standingPieces_19 : decode cX11_standingPieces 19 = .ok (.aload_n 2, 1) := by decide +kernel
theorem dX11_standingPieces_20 : decode cX11_standingPieces 20 = .ok (.iload 4, 2) := by decide +kernel
theorem dX11_standingPieces_22 : decode cX11_standingPieces 22 = .ok (.aaload, 1) := by decide +kernel
theorem dX11_standingPieces_23 : decode cX11_standingPieces 23 = .ok (.astore 5, 2) := by decide +kernel
theorem dX11_standingPieces_25 : decode cX11_standingPieces 25 = .ok (.iload_n 1, 1) := by decide +kernel
theorem dX11_standingPieces_26 : decode cX11_standingPieces 26 = .ok (.aload 5, 2) := by decide +kernel
theorem dX11_standingPieces_28 : decode cX11_standingPieces 28 = .ok (.ifnonnull 7, 3) := by decide +kernel
theorem dX11_standingPieces_31 : decode cX11_standingPieces 31 = .ok (.iconst 0, 1) := by decide +kernel
theorem dX11_standingPieces_32 : decode cX11_standingPieces 32 = .ok (.goto 8, 3) := by decide +kernel
theorem dX11_standingPieces_35 : decode cX11_standingPieces 35 = .ok (.aload 5, 2) := by decide +kernel
theorem dX11_standingPieces_37 : decode cX11_standingPieces 37 = .ok (.getfield 463, 3) := by decide +kernel
theorem dX11_standingPieces_40 : decode cX11_standingPieces 40 = .ok (.iadd, 1) := by decide +kernel
theorem dX11_standingPieces_41 : decode cX11_standingPieces 41 = .ok (.istore_n 1, 1) := by decide +kernel
theorem dX11_standingPieces_42 : decode cX11_standingPieces 42 = .ok (.iinc 4 1, 3) := by decide +kernel
theorem dX11_standingPieces_45 : decode cX11_standingPieces 45 = .ok (.goto (-32), 3) := by decide +kernel
theorem dX11_standingPieces_48 : decode cX11_standingPieces 48 = .ok (.iload_n 1, 1) := by decide +kernel
theorem dX11_standingPieces_49 : decode cX11_standingPieces 49 = .ok (.ireturn, 1) := by decide +kernel
set_option maxRecDepth 100000 in
set_option maxHeartbeats 4000000 in
theorem w_X11_standingPieces_l13 {p : Program} {l : Launch} {e : Env} {R : Room} {s : State} {m : MethodId} {args : Array Value} {below : List Frame} {meth : Method} {c : Code} {cells slots : Nat} {Q : State → Prop} {K : KG} {ad : Nat → Nat → Nat} {fl : Nat} {g3 : Int32} (C : Cx p s m args meth c cX11_standingPieces 6 "GlassPalace" (some .int)) (hR : 1 ≤ R.frames ∧ 40 * (1) ≤ R.locals) (hB : cells ≤ R.cells ∧ slots ≤ R.slots) : ∀ (n : Nat) (u1 : Int32) (u4 : Int32) (M0 : Mem) (H : Heap) (locs : List Loc) (ls : Array Slot), Zd K LC ad M0 s H locs → lv_has ls 6 [(1, .int u1), (2, .ref (ad 3 0)), (3, .int g3), (4, .int u4)] → ∀ (q : Int32) (Mq : Mem), f_X11_standingPieces_l13 fl g3 n u1 u4 M0 = some (q, Mq) → (∀ (H : Heap) (locs : List Loc) (ls : Array Slot), Zd K LC ad Mq s H locs → lv_has ls 6 [(1, .int q)] → W p l e R s m args below meth c H locs cells slots Q (F0 m 48 ls [])) → W p l e R s m args below meth c H locs cells slots Q (F0 m 13 ls []) := by
  intro n
  induction n with
  | zero =>
    intro u1 u4 M0 H locs ls Z hl q Mq hf
    have hf : (none : Option (Int32 × Mem)) = some (q, Mq) := hf
    cases hf
  | succ n ih =>
    intro u1 u4 M0 H locs ls Z hl q Mq hf kx0
    replace hf : f_X11_standingPieces_l13_b (f_X11_standingPieces_l13 fl g3 n) fl g3 u1 u4 M0 = some (q, Mq) := hf
    unfold f_X11_standingPieces_l13_b at hf
    refine lv_iload C.x C.b dX11_standingPieces_13 (lv_at hl 3 rfl) ?_
    refine lv_iload_n C.x C.b dX11_standingPieces_15 rfl (lv_at hl 2 rfl) ?_
    refine lv_icmp_ge (tgt := 48) C.x C.b dX11_standingPieces_16 (by decide) (fun hc1 => ?_) (fun hc1 => ?_)
    · replace hf := ite_t hf hc1
      obtain ⟨rfl, rfl⟩ := pr_s hf
      exact kx0 _ _ _ Z (lv_sub hl [0] rfl)
    · replace hf := ite_f hf hc1
      refine lv_aload_n C.x C.b dX11_standingPieces_19 rfl (lv_at hl 1 rfl) ?_
      refine lv_iload C.x C.b dX11_standingPieces_20 (lv_at hl 3 rfl) ?_
      replace hf := asr_s hf; obtain ⟨hq2, hf⟩ := hf
      refine z_aald C Z (lvC3 Nat.zero_lt_one) kC3 3 rfl hq2 svC3 dX11_standingPieces_22 ?_
      replace hf := lt1_s hf; obtain ⟨c3, ec3, hf⟩ := hf
      refine z_renC ec3 ?_
      refine z_cstore (lv' := [(5, rf (ad 23) c3), (1, .int u1), (2, .ref (ad 3 0)), (3, .int g3), (4, .int u4)]) C dX11_standingPieces_23 hl (by decide) rfl (onlast 3 rfl rfl rfl) (fun ls hl => ?_)
      refine lv_iload_n C.x C.b dX11_standingPieces_25 rfl (lv_at hl 1 rfl) ?_
      refine z_aload C dX11_standingPieces_26 (lv_at hl 0 rfl) ?_
      refine z_ifnonnull C dX11_standingPieces_28 (tgt := 35) (by decide) (fun hc4 => ?_) (fun hc4 => ?_)
      · replace hf := ite_f hf hc4
        refine z_aload C dX11_standingPieces_35 (lv_at hl 0 rfl) ?_
        replace hf := drf_s hf; obtain ⟨j5, ej7, hj6, hf⟩ := hf
        subst ej7
        refine z_nn [] (y := j5 + 1) rfl ?_
        refine z_get C Z (lvC23 hj6) kC23 zc4 zin4 8 (by decide) k_480 rfl svC23_8 dX11_standingPieces_37 ?_
        refine lv_iadd C.x C.b dX11_standingPieces_40 ?_
        replace hf := lt1_s hf; obtain ⟨x8, ex8, hf⟩ := hf
        refine z_renI ex8 ?_
        refine z_istore_n (lv' := [(1, .int x8), (5, .ref (ad 23 j5)), (2, .ref (ad 3 0)), (3, .int g3), (4, .int u4)]) C dX11_standingPieces_41 rfl hl (by decide) rfl (nolast rfl) (fun ls hl => ?_)
        replace hf := lt1_s hf; obtain ⟨x9, ex9, hf⟩ := hf
        refine z_iinc (v := x9) (lv' := [(4, .int x9), (1, .int x8), (5, .ref (ad 23 j5)), (2, .ref (ad 3 0)), (3, .int g3)]) C dX11_standingPieces_42 hl (k := 4) rfl (by rw [ex9]; rfl) (by decide) rfl (onlast 3 rfl rfl rfl) (fun ls hl => ?_)
        refine lv_goto (tgt := 13) C.x C.b dX11_standingPieces_45 (by decide) ?_
        exact ih _ _ _ _ _ _ Z (lv_sub hl [1, 3, 4, 0] rfl) _ _ hf kx0
      · replace hf := ite_t hf hc4
        refine lv_iconst (v := 0) C.x C.b dX11_standingPieces_31 (by decide) ?_
        refine lv_goto (tgt := 40) C.x C.b dX11_standingPieces_32 (by decide) ?_
        refine lv_iadd C.x C.b dX11_standingPieces_40 ?_
        replace hf := lt1_s hf; obtain ⟨x10, ex10, hf⟩ := hf
        refine z_renI ex10 ?_
        refine z_istore_n (lv' := [(1, .int x10), (5, rf (ad 23) c3), (2, .ref (ad 3 0)), (3, .int g3), (4, .int u4)]) C dX11_standingPieces_41 rfl hl (by decide) rfl (nolast rfl) (fun ls hl => ?_)
        replace hf := lt1_s hf; obtain ⟨x11, ex11, hf⟩ := hf
        refine z_iinc (v := x11) (lv' := [(4, .int x11), (1, .int x10), (5, rf (ad 23) c3), (2, .ref (ad 3 0)), (3, .int g3)]) C dX11_standingPieces_42 hl (k := 4) rfl (by rw [ex11]; rfl) (by decide) rfl (onlast 3 rfl rfl rfl) (fun ls hl => ?_)
        refine lv_goto (tgt := 13) C.x C.b dX11_standingPieces_45 (by decide) ?_
        exact ih _ _ _ _ _ _ Z (lv_sub hl [1, 3, 4, 0] rfl) _ _ hf kx0
set_option maxRecDepth 100000 in
set_option maxHeartbeats 4000000 in
theorem c_X11_standingPieces {l : Launch} {K : KG} {ad : Nat → Nat → Nat} {fl : Nat}  {M0 : Mem} {r9 : Int32} {M9 : Mem} (hf : f_X11_standingPieces fl  M0 = some (r9, M9)) : Met l yX11_standingPieces (Cond.code yX11_standingPieces cX11_standingPieces 6 (some .int) :: ztb) (RM (1) 0 0) (zPc K LC ad M0 [.ref (ad 0 0)]) (zQ K LC ad (some (.int r9)) M9) 0 0 (zA ad) := by
  refine z_enter (by decide) (Nat.le_of_ble_eq_true rfl) ?_
  intro p e s m args below meth c ls C hin hargs Z hl
  replace C : Cx p s m args meth c cX11_standingPieces 6 "GlassPalace" (some .int) := C
  replace hl : lv_has ls 6 [(0, .ref (ad 0 0))] := hl
  have hR : 1 ≤ (RM (1) 0 0).frames ∧ 40 * (1) ≤ (RM (1) 0 0).locals := ⟨Nat.le_refl _, Nat.le_refl _⟩
  have hB : 0 ≤ (RM (1) 0 0).cells ∧ 0 ≤ (RM (1) 0 0).slots := ⟨Nat.zero_le _, Nat.zero_le _⟩
  unfold f_X11_standingPieces at hf
  refine lv_iconst (v := 0) C.x C.b dX11_standingPieces_0 (by decide) ?_
  refine z_istore_n (lv' := [(1, .int 0), (0, .ref (ad 0 0))]) C dX11_standingPieces_1 rfl hl (by decide) rfl (onlast 0 rfl rfl rfl) (fun ls hl => ?_)
  refine lv_aload_n C.x C.b dX11_standingPieces_2 rfl (lv_at hl 1 rfl) ?_
  refine z_get C Z (lvC0 Nat.zero_lt_one) kC0 zc11 zin11 3 (by decide) k_365 rfl svC0_3 dX11_standingPieces_3 ?_
  refine z_rstore_n (lv' := [(2, .ref (ad 3 0)), (1, .int 0), (0, .ref (ad 0 0))]) C dX11_standingPieces_6 rfl hl (by decide) rfl (onlast 0 rfl rfl rfl) (fun ls hl => ?_)
  refine lv_aload_n C.x C.b dX11_standingPieces_7 rfl (lv_at hl 0 rfl) ?_
  refine z_alen C Z (lvC3 Nat.zero_lt_one) kC3 3 rfl (v := 60) (by decide) dX11_standingPieces_8 ?_
  refine z_istore_n (lv' := [(3, .int 60), (2, .ref (ad 3 0)), (1, .int 0), (0, .ref (ad 0 0))]) C dX11_standingPieces_9 rfl hl (by decide) rfl (onlast 0 rfl rfl rfl) (fun ls hl => ?_)
  refine lv_iconst (v := 0) C.x C.b dX11_standingPieces_10 (by decide) ?_
  refine z_istore (lv' := [(4, .int 0), (3, .int 60), (2, .ref (ad 3 0)), (1, .int 0), (0, .ref (ad 0 0))]) C dX11_standingPieces_11 hl (by decide) rfl (onlast 0 rfl rfl rfl) (fun ls hl => ?_)
  replace hf := bn2_s hf; obtain ⟨q12, m13, hq12, hf⟩ := hf
  refine w_X11_standingPieces_l13 C hR hB  fl _ _ _ _ _ _ Z (lv_sub hl [3, 2, 1, 0] rfl) _ _ hq12 (fun H locs ls Z hl => ?_)
  refine lv_iload_n C.x C.b dX11_standingPieces_48 rfl (lv_at hl 0 rfl) ?_
  obtain ⟨rfl, rfl⟩ := pr_s hf
  exact z_iret C Z dX11_standingPieces_49
theorem dX11_brokenPieces_0 : decode cX11_brokenPieces 0 = .ok (.iconst 0, 1) := by decide +kernel
theorem dX11_brokenPieces_1 : decode cX11_brokenPieces 1 = .ok (.istore_n 1, 1) := by decide +kernel
theorem dX11_brokenPieces_2 : decode cX11_brokenPieces 2 = .ok (.aload_n 0, 1) := by decide +kernel
theorem dX11_brokenPieces_3 : decode cX11_brokenPieces 3 = .ok (.getfield 20, 3) := by decide +kernel
theorem dX11_brokenPieces_6 : decode cX11_brokenPieces 6 = .ok (.astore_n 2, 1) := by decide +kernel
theorem dX11_brokenPieces_7 : decode cX11_brokenPieces 7 = .ok (.aload_n 2, 1) := by decide +kernel
theorem dX11_brokenPieces_8 : decode cX11_brokenPieces 8 = .ok (.arraylength, 1) := by decide +kernel
theorem dX11_brokenPieces_9 : decode cX11_brokenPieces 9 = .ok (.istore_n 3, 1) := by decide +kernel
theorem dX11_brokenPieces_10 : decode cX11_brokenPieces 10 = .ok (.iconst 0, 1) := by decide +kernel
theorem dX11_brokenPieces_11 : decode cX11_brokenPieces 11 = .ok (.istore 4, 2) := by decide +kernel
theorem dX11_brokenPieces_13 : decode cX11_brokenPieces 13 = .ok (.iload 4, 2) := by decide +kernel
theorem dX11_brokenPieces_15 : decode cX11_brokenPieces 15 = .ok (.iload_n 3, 1) := by decide +kernel
theorem dX11_brokenPieces_16 : decode cX11_brokenPieces 16 = .ok (.if_icmp .ge 32, 3) := by decide +kernel
theorem dX11_brokenPieces_19 : decode cX11_brokenPieces 19 = .ok (.aload_n 2, 1) := by decide +kernel
theorem dX11_brokenPieces_20 : decode cX11_brokenPieces 20 = .ok (.iload 4, 2) := by decide +kernel
theorem dX11_brokenPieces_22 : decode cX11_brokenPieces 22 = .ok (.aaload, 1) := by decide +kernel
theorem dX11_brokenPieces_23 : decode cX11_brokenPieces 23 = .ok (.astore 5, 2) := by decide +kernel
theorem dX11_brokenPieces_25 : decode cX11_brokenPieces 25 = .ok (.iload_n 1, 1) := by decide +kernel
theorem dX11_brokenPieces_26 : decode cX11_brokenPieces 26 = .ok (.aload 5, 2) := by decide +kernel
theorem dX11_brokenPieces_28 : decode cX11_brokenPieces 28 = .ok (.ifnonnull 7, 3) := by decide +kernel
theorem dX11_brokenPieces_31 : decode cX11_brokenPieces 31 = .ok (.iconst 0, 1) := by decide +kernel
theorem dX11_brokenPieces_32 : decode cX11_brokenPieces 32 = .ok (.goto 8, 3) := by decide +kernel
theorem dX11_brokenPieces_35 : decode cX11_brokenPieces 35 = .ok (.aload 5, 2) := by decide +kernel
theorem dX11_brokenPieces_37 : decode cX11_brokenPieces 37 = .ok (.getfield 162, 3) := by decide +kernel
theorem dX11_brokenPieces_40 : decode cX11_brokenPieces 40 = .ok (.iadd, 1) := by decide +kernel
theorem dX11_brokenPieces_41 : decode cX11_brokenPieces 41 = .ok (.istore_n 1, 1) := by decide +kernel
theorem dX11_brokenPieces_42 : decode cX11_brokenPieces 42 = .ok (.iinc 4 1, 3) := by decide +kernel
theorem dX11_brokenPieces_45 : decode cX11_brokenPieces 45 = .ok (.goto (-32), 3) := by decide +kernel
theorem dX11_brokenPieces_48 : decode cX11_brokenPieces 48 = .ok (.iload_n 1, 1) := by decide +kernel
theorem dX11_brokenPieces_49 : decode cX11_brokenPieces 49 = .ok (.ireturn, 1) := by decide +kernel
set_option maxRecDepth 100000 in
set_option maxHeartbeats 4000000 in
theorem w_X11_brokenPieces_l13 {p : Program} {l : Launch} {e : Env} {R : Room} {s : State} {m : MethodId} {args : Array Value} {below : List Frame} {meth : Method} {c : Code} {cells slots : Nat} {Q : State → Prop} {K : KG} {ad : Nat → Nat → Nat} {fl : Nat} {g3 : Int32} (C : Cx p s m args meth c cX11_brokenPieces 6 "GlassPalace" (some .int)) (hR : 1 ≤ R.frames ∧ 40 * (1) ≤ R.locals) (hB : cells ≤ R.cells ∧ slots ≤ R.slots) : ∀ (n : Nat) (u1 : Int32) (u4 : Int32) (M0 : Mem) (H : Heap) (locs : List Loc) (ls : Array Slot), Zd K LC ad M0 s H locs → lv_has ls 6 [(1, .int u1), (2, .ref (ad 3 0)), (3, .int g3), (4, .int u4)] → ∀ (q : Int32) (Mq : Mem), f_X11_brokenPieces_l13 fl g3 n u1 u4 M0 = some (q, Mq) → (∀ (H : Heap) (locs : List Loc) (ls : Array Slot), Zd K LC ad Mq s H locs → lv_has ls 6 [(1, .int q)] → W p l e R s m args below meth c H locs cells slots Q (F0 m 48 ls [])) → W p l e R s m args below meth c H locs cells slots Q (F0 m 13 ls []) := by
  intro n
  induction n with
  | zero =>
    intro u1 u4 M0 H locs ls Z hl q Mq hf
    have hf : (none : Option (Int32 × Mem)) = some (q, Mq) := hf
    cases hf
  | succ n ih =>
    intro u1 u4 M0 H locs ls Z hl q Mq hf kx0
    replace hf : f_X11_brokenPieces_l13_b (f_X11_brokenPieces_l13 fl g3 n) fl g3 u1 u4 M0 = some (q, Mq) := hf
    unfold f_X11_brokenPieces_l13_b at hf
    refine lv_iload C.x C.b dX11_brokenPieces_13 (lv_at hl 3 rfl) ?_
    refine lv_iload_n C.x C.b dX11_brokenPieces_15 rfl (lv_at hl 2 rfl) ?_
    refine lv_icmp_ge (tgt := 48) C.x C.b dX11_brokenPieces_16 (by decide) (fun hc1 => ?_) (fun hc1 => ?_)
    · replace hf := ite_t hf hc1
      obtain ⟨rfl, rfl⟩ := pr_s hf
      exact kx0 _ _ _ Z (lv_sub hl [0] rfl)
    · replace hf := ite_f hf hc1
      refine lv_aload_n C.x C.b dX11_brokenPieces_19 rfl (lv_at hl 1 rfl) ?_
      refine lv_iload C.x C.b dX11_brokenPieces_20 (lv_at hl 3 rfl) ?_
      replace hf := asr_s hf; obtain ⟨hq2, hf⟩ := hf
      refine z_aald C Z (lvC3 Nat.zero_lt_one) kC3 3 rfl hq2 svC3 dX11_brokenPieces_22 ?_
      replace hf := lt1_s hf; obtain ⟨c3, ec3, hf⟩ := hf
      refine z_renC ec3 ?_
      refine z_cstore (lv' := [(5, rf (ad 23) c3), (1, .int u1), (2, .ref (ad 3 0)), (3, .int g3), (4, .int u4)]) C dX11_brokenPieces_23 hl (by decide) rfl (onlast 3 rfl rfl rfl) (fun ls hl => ?_)
      refine lv_iload_n C.x C.b dX11_brokenPieces_25 rfl (lv_at hl 1 rfl) ?_
      refine z_aload C dX11_brokenPieces_26 (lv_at hl 0 rfl) ?_
      refine z_ifnonnull C dX11_brokenPieces_28 (tgt := 35) (by decide) (fun hc4 => ?_) (fun hc4 => ?_)
      · replace hf := ite_f hf hc4
        refine z_aload C dX11_brokenPieces_35 (lv_at hl 0 rfl) ?_
        replace hf := drf_s hf; obtain ⟨j5, ej7, hj6, hf⟩ := hf
        subst ej7
        refine z_nn [] (y := j5 + 1) rfl ?_
        refine z_get C Z (lvC23 hj6) kC23 zc4 zin4 9 (by decide) k_482 rfl svC23_9 dX11_brokenPieces_37 ?_
        refine lv_iadd C.x C.b dX11_brokenPieces_40 ?_
        replace hf := lt1_s hf; obtain ⟨x8, ex8, hf⟩ := hf
        refine z_renI ex8 ?_
        refine z_istore_n (lv' := [(1, .int x8), (5, .ref (ad 23 j5)), (2, .ref (ad 3 0)), (3, .int g3), (4, .int u4)]) C dX11_brokenPieces_41 rfl hl (by decide) rfl (nolast rfl) (fun ls hl => ?_)
        replace hf := lt1_s hf; obtain ⟨x9, ex9, hf⟩ := hf
        refine z_iinc (v := x9) (lv' := [(4, .int x9), (1, .int x8), (5, .ref (ad 23 j5)), (2, .ref (ad 3 0)), (3, .int g3)]) C dX11_brokenPieces_42 hl (k := 4) rfl (by rw [ex9]; rfl) (by decide) rfl (onlast 3 rfl rfl rfl) (fun ls hl => ?_)
        refine lv_goto (tgt := 13) C.x C.b dX11_brokenPieces_45 (by decide) ?_
        exact ih _ _ _ _ _ _ Z (lv_sub hl [1, 3, 4, 0] rfl) _ _ hf kx0
      · replace hf := ite_t hf hc4
        refine lv_iconst (v := 0) C.x C.b dX11_brokenPieces_31 (by decide) ?_
        refine lv_goto (tgt := 40) C.x C.b dX11_brokenPieces_32 (by decide) ?_
        refine lv_iadd C.x C.b dX11_brokenPieces_40 ?_
        replace hf := lt1_s hf; obtain ⟨x10, ex10, hf⟩ := hf
        refine z_renI ex10 ?_
        refine z_istore_n (lv' := [(1, .int x10), (5, rf (ad 23) c3), (2, .ref (ad 3 0)), (3, .int g3), (4, .int u4)]) C dX11_brokenPieces_41 rfl hl (by decide) rfl (nolast rfl) (fun ls hl => ?_)
        replace hf := lt1_s hf; obtain ⟨x11, ex11, hf⟩ := hf
        refine z_iinc (v := x11) (lv' := [(4, .int x11), (1, .int x10), (5, rf (ad 23) c3), (2, .ref (ad 3 0)), (3, .int g3)]) C dX11_brokenPieces_42 hl (k := 4) rfl (by rw [ex11]; rfl) (by decide) rfl (onlast 3 rfl rfl rfl) (fun ls hl => ?_)
        refine lv_goto (tgt := 13) C.x C.b dX11_brokenPieces_45 (by decide) ?_
        exact ih _ _ _ _ _ _ Z (lv_sub hl [1, 3, 4, 0] rfl) _ _ hf kx0
set_option maxRecDepth 100000 in
set_option maxHeartbeats 4000000 in
theorem c_X11_brokenPieces {l : Launch} {K : KG} {ad : Nat → Nat → Nat} {fl : Nat}  {M0 : Mem} {r9 : Int32} {M9 : Mem} (hf : f_X11_brokenPieces fl  M0 = some (r9, M9)) : Met l yX11_brokenPieces (Cond.code yX11_brokenPieces cX11_brokenPieces 6 (some .int) :: ztb) (RM (1) 0 0) (zPc K LC ad M0 [.ref (ad 0 0)]) (zQ K LC ad (some (.int r9)) M9) 0 0 (zA ad) := by
  refine z_enter (by decide) (Nat.le_of_ble_eq_true rfl) ?_
  intro p e s m args below meth c ls C hin hargs Z hl
  replace C : Cx p s m args meth c cX11_brokenPieces 6 "GlassPalace" (some .int) := C
  replace hl : lv_has ls 6 [(0, .ref (ad 0 0))] := hl
  have hR : 1 ≤ (RM (1) 0 0).frames ∧ 40 * (1) ≤ (RM (1) 0 0).locals := ⟨Nat.le_refl _, Nat.le_refl _⟩
  have hB : 0 ≤ (RM (1) 0 0).cells ∧ 0 ≤ (RM (1) 0 0).slots := ⟨Nat.zero_le _, Nat.zero_le _⟩
  unfold f_X11_brokenPieces at hf
  refine lv_iconst (v := 0) C.x C.b dX11_brokenPieces_0 (by decide) ?_
  refine z_istore_n (lv' := [(1, .int 0), (0, .ref (ad 0 0))]) C dX11_brokenPieces_1 rfl hl (by decide) rfl (onlast 0 rfl rfl rfl) (fun ls hl => ?_)
  refine lv_aload_n C.x C.b dX11_brokenPieces_2 rfl (lv_at hl 1 rfl) ?_
  refine z_get C Z (lvC0 Nat.zero_lt_one) kC0 zc11 zin11 3 (by decide) k_365 rfl svC0_3 dX11_brokenPieces_3 ?_
  refine z_rstore_n (lv' := [(2, .ref (ad 3 0)), (1, .int 0), (0, .ref (ad 0 0))]) C dX11_brokenPieces_6 rfl hl (by decide) rfl (onlast 0 rfl rfl rfl) (fun ls hl => ?_)
  refine lv_aload_n C.x C.b dX11_brokenPieces_7 rfl (lv_at hl 0 rfl) ?_
  refine z_alen C Z (lvC3 Nat.zero_lt_one) kC3 3 rfl (v := 60) (by decide) dX11_brokenPieces_8 ?_
  refine z_istore_n (lv' := [(3, .int 60), (2, .ref (ad 3 0)), (1, .int 0), (0, .ref (ad 0 0))]) C dX11_brokenPieces_9 rfl hl (by decide) rfl (onlast 0 rfl rfl rfl) (fun ls hl => ?_)
  refine lv_iconst (v := 0) C.x C.b dX11_brokenPieces_10 (by decide) ?_
  refine z_istore (lv' := [(4, .int 0), (3, .int 60), (2, .ref (ad 3 0)), (1, .int 0), (0, .ref (ad 0 0))]) C dX11_brokenPieces_11 hl (by decide) rfl (onlast 0 rfl rfl rfl) (fun ls hl => ?_)
  replace hf := bn2_s hf; obtain ⟨q12, m13, hq12, hf⟩ := hf
  refine w_X11_brokenPieces_l13 C hR hB  fl _ _ _ _ _ _ Z (lv_sub hl [3, 2, 1, 0] rfl) _ _ hq12 (fun H locs ls Z hl => ?_)
  refine lv_iload_n C.x C.b dX11_brokenPieces_48 rfl (lv_at hl 0 rfl) ?_
  obtain ⟨rfl, rfl⟩ := pr_s hf
  exact z_iret C Z dX11_brokenPieces_49
theorem dX11_count_0 : decode cX11_count 0 = .ok (.iload_n 1, 1) := by decide +kernel
theorem dX11_count_1 : decode cX11_count 1 = .ok (.tableswitch 120 0 9 #[55, 60, 65, 73, 81, 86, 94, 102, 107, 112], 55) := by decide +kernel
theorem dX11_count_56 : decode cX11_count 56 = .ok (.aload_n 0, 1) := by decide +kernel
theorem dX11_count_57 : decode cX11_count 57 = .ok (.getfield 88, 3) := by decide +kernel
theorem dX11_count_60 : decode cX11_count 60 = .ok (.ireturn, 1) := by decide +kernel
theorem dX11_count_61 : decode cX11_count 61 = .ok (.aload_n 0, 1) := by decide +kernel
theorem dX11_count_62 : decode cX11_count 62 = .ok (.getfield 116, 3) := by decide +kernel
theorem dX11_count_65 : decode cX11_count 65 = .ok (.ireturn, 1) := by decide +kernel
theorem dX11_count_66 : decode cX11_count 66 = .ok (.aload_n 0, 1) := by decide +kernel
theorem dX11_count_67 : decode cX11_count 67 = .ok (.getfield 40, 3) := by decide +kernel
theorem dX11_count_70 : decode cX11_count 70 = .ok (.getfield 223, 3) := by decide +kernel
theorem dX11_count_73 : decode cX11_count 73 = .ok (.ireturn, 1) := by decide +kernel
theorem dX11_count_74 : decode cX11_count 74 = .ok (.aload_n 0, 1) := by decide +kernel
theorem dX11_count_75 : decode cX11_count 75 = .ok (.getfield 33, 3) := by decide +kernel
theorem dX11_count_78 : decode cX11_count 78 = .ok (.getfield 201, 3) := by decide +kernel
theorem dX11_count_81 : decode cX11_count 81 = .ok (.ireturn, 1) := by decide +kernel
theorem dX11_count_82 : decode cX11_count 82 = .ok (.aload_n 0, 1) := by decide +kernel
theorem dX11_count_83 : decode cX11_count 83 = .ok (.getfield 293, 3) := by decide +kernel
theorem dX11_count_86 : decode cX11_count 86 = .ok (.ireturn, 1) := by decide +kernel
theorem dX11_count_87 : decode cX11_count 87 = .ok (.aload_n 0, 1) := by decide +kernel
theorem dX11_count_88 : decode cX11_count 88 = .ok (.getfield 60, 3) := by decide +kernel
theorem dX11_count_91 : decode cX11_count 91 = .ok (.getfield 330, 3) := by decide +kernel
theorem dX11_count_94 : decode cX11_count 94 = .ok (.ireturn, 1) := by decide +kernel
theorem dX11_count_95 : decode cX11_count 95 = .ok (.aload_n 0, 1) := by decide +kernel
theorem dX11_count_96 : decode cX11_count 96 = .ok (.getfield 60, 3) := by decide +kernel
theorem dX11_count_99 : decode cX11_count 99 = .ok (.getfield 337, 3) := by decide +kernel
theorem dX11_count_102 : decode cX11_count 102 = .ok (.ireturn, 1) := by decide +kernel
theorem dX11_count_103 : decode cX11_count 103 = .ok (.aload_n 0, 1) := by decide +kernel
theorem dX11_count_104 : decode cX11_count 104 = .ok (.invokevirtual 416, 3) := by decide +kernel
theorem dX11_count_107 : decode cX11_count 107 = .ok (.ireturn, 1) := by decide +kernel
theorem dX11_count_108 : decode cX11_count 108 = .ok (.aload_n 0, 1) := by decide +kernel
theorem dX11_count_109 : decode cX11_count 109 = .ok (.invokevirtual 419, 3) := by decide +kernel
theorem dX11_count_112 : decode cX11_count 112 = .ok (.ireturn, 1) := by decide +kernel
theorem dX11_count_113 : decode cX11_count 113 = .ok (.aload_n 0, 1) := by decide +kernel
theorem dX11_count_114 : decode cX11_count 114 = .ok (.getfield 74, 3) := by decide +kernel
theorem dX11_count_117 : decode cX11_count 117 = .ok (.getfield 374, 3) := by decide +kernel
theorem dX11_count_120 : decode cX11_count 120 = .ok (.ireturn, 1) := by decide +kernel
theorem dX11_count_121 : decode cX11_count 121 = .ok (.bipush (-2), 2) := by decide +kernel
theorem dX11_count_123 : decode cX11_count 123 = .ok (.ireturn, 1) := by decide +kernel
set_option maxRecDepth 100000 in
set_option maxHeartbeats 4000000 in
theorem c_X11_count {l : Launch} {K : KG} {ad : Nat → Nat → Nat} {fl : Nat} {a1 : Int32} {M0 : Mem} {r9 : Int32} {M9 : Mem} (hf : f_X11_count fl a1 M0 = some (r9, M9)) : Met l yX11_count (Cond.code yX11_count cX11_count 2 (some .int) :: ztb) (RM (2) 0 0) (zPc K LC ad M0 [.ref (ad 0 0), .int a1]) (zQ K LC ad (some (.int r9)) M9) 0 0 (zA ad) := by
  refine z_enter (by decide) (Nat.le_of_ble_eq_true rfl) ?_
  intro p e s m args below meth c ls C hin hargs Z hl
  replace C : Cx p s m args meth c cX11_count 2 "GlassPalace" (some .int) := C
  replace hl : lv_has ls 2 [(0, .ref (ad 0 0)), (1, .int a1)] := hl
  have hR : 2 ≤ (RM (2) 0 0).frames ∧ 40 * (2) ≤ (RM (2) 0 0).locals := ⟨Nat.le_refl _, Nat.le_refl _⟩
  have hB : 0 ≤ (RM (2) 0 0).cells ∧ 0 ≤ (RM (2) 0 0).slots := ⟨Nat.zero_le _, Nat.zero_le _⟩
  unfold f_X11_count at hf
  refine lv_iload_n C.x C.b dX11_count_0 rfl (lv_at hl 1 rfl) ?_
  by_cases hx1 : a1 = 0
  · replace hf := ite_t hf hx1
    refine lv_tableIn (tgt := 56) C.x C.b dX11_count_1 (by rw [hx1]; decide) (by rw [hx1]; decide) (by rw [hx1]; rfl) (by decide) ?_
    refine lv_aload_n C.x C.b dX11_count_56 rfl (lv_at hl 0 rfl) ?_
    refine z_get C Z (lvC0 Nat.zero_lt_one) kC0 zc11 zin11 0 (by decide) k_362 rfl svC0_0 dX11_count_57 ?_
    obtain ⟨rfl, rfl⟩ := pr_s hf
    exact z_iret C Z dX11_count_60
  replace hf := ite_f hf hx1
  by_cases hx2 : a1 = 1
  · replace hf := ite_t hf hx2
    refine lv_tableIn (tgt := 61) C.x C.b dX11_count_1 (by rw [hx2]; decide) (by rw [hx2]; decide) (by rw [hx2]; rfl) (by decide) ?_
    refine lv_aload_n C.x C.b dX11_count_61 rfl (lv_at hl 0 rfl) ?_
    refine z_get C Z (lvC0 Nat.zero_lt_one) kC0 zc11 zin11 4 (by decide) k_366 rfl svC0_4 dX11_count_62 ?_
    obtain ⟨rfl, rfl⟩ := pr_s hf
    exact z_iret C Z dX11_count_65
  replace hf := ite_f hf hx2
  by_cases hx3 : a1 = 2
  · replace hf := ite_t hf hx3
    refine lv_tableIn (tgt := 66) C.x C.b dX11_count_1 (by rw [hx3]; decide) (by rw [hx3]; decide) (by rw [hx3]; rfl) (by decide) ?_
    refine lv_aload_n C.x C.b dX11_count_66 rfl (lv_at hl 0 rfl) ?_
    refine z_get C Z (lvC0 Nat.zero_lt_one) kC0 zc11 zin11 7 (by decide) k_369 rfl svC0_7 dX11_count_67 ?_
    refine z_get C Z (lvC6 Nat.zero_lt_one) kC6 zc3 zin3 0 (by decide) k_191 rfl svC6_0 dX11_count_70 ?_
    obtain ⟨rfl, rfl⟩ := pr_s hf
    exact z_iret C Z dX11_count_73
  replace hf := ite_f hf hx3
  by_cases hx4 : a1 = 3
  · replace hf := ite_t hf hx4
    refine lv_tableIn (tgt := 74) C.x C.b dX11_count_1 (by rw [hx4]; decide) (by rw [hx4]; decide) (by rw [hx4]; rfl) (by decide) ?_
    refine lv_aload_n C.x C.b dX11_count_74 rfl (lv_at hl 0 rfl) ?_
    refine z_get C Z (lvC0 Nat.zero_lt_one) kC0 zc11 zin11 6 (by decide) k_368 rfl svC0_6 dX11_count_75 ?_
    refine z_get C Z (lvC5 Nat.zero_lt_one) kC5 zc7 zin7 0 (by decide) k_142 rfl svC5_0 dX11_count_78 ?_
    obtain ⟨rfl, rfl⟩ := pr_s hf
    exact z_iret C Z dX11_count_81
  replace hf := ite_f hf hx4
  by_cases hx5 : a1 = 4
  · replace hf := ite_t hf hx5
    refine lv_tableIn (tgt := 82) C.x C.b dX11_count_1 (by rw [hx5]; decide) (by rw [hx5]; decide) (by rw [hx5]; rfl) (by decide) ?_
    refine lv_aload_n C.x C.b dX11_count_82 rfl (lv_at hl 0 rfl) ?_
    refine z_get C Z (lvC0 Nat.zero_lt_one) kC0 zc11 zin11 10 (by decide) k_372 rfl svC0_10 dX11_count_83 ?_
    obtain ⟨rfl, rfl⟩ := pr_s hf
    exact z_iret C Z dX11_count_86
  replace hf := ite_f hf hx5
  by_cases hx6 : a1 = 5
  · replace hf := ite_t hf hx6
    refine lv_tableIn (tgt := 87) C.x C.b dX11_count_1 (by rw [hx6]; decide) (by rw [hx6]; decide) (by rw [hx6]; rfl) (by decide) ?_
    refine lv_aload_n C.x C.b dX11_count_87 rfl (lv_at hl 0 rfl) ?_
    refine z_get C Z (lvC0 Nat.zero_lt_one) kC0 zc11 zin11 11 (by decide) k_373 rfl svC0_11 dX11_count_88 ?_
    refine z_get C Z (lvC9 Nat.zero_lt_one) kC9 zc6 zin6 0 (by decide) k_235 rfl svC9_0 dX11_count_91 ?_
    obtain ⟨rfl, rfl⟩ := pr_s hf
    exact z_iret C Z dX11_count_94
  replace hf := ite_f hf hx6
  by_cases hx7 : a1 = 6
  · replace hf := ite_t hf hx7
    refine lv_tableIn (tgt := 95) C.x C.b dX11_count_1 (by rw [hx7]; decide) (by rw [hx7]; decide) (by rw [hx7]; rfl) (by decide) ?_
    refine lv_aload_n C.x C.b dX11_count_95 rfl (lv_at hl 0 rfl) ?_
    refine z_get C Z (lvC0 Nat.zero_lt_one) kC0 zc11 zin11 11 (by decide) k_373 rfl svC0_11 dX11_count_96 ?_
    refine z_get C Z (lvC9 Nat.zero_lt_one) kC9 zc6 zin6 1 (by decide) k_237 rfl svC9_1 dX11_count_99 ?_
    obtain ⟨rfl, rfl⟩ := pr_s hf
    exact z_iret C Z dX11_count_102
  replace hf := ite_f hf hx7
  by_cases hx8 : a1 = 7
  · replace hf := ite_t hf hx8
    refine lv_tableIn (tgt := 103) C.x C.b dX11_count_1 (by rw [hx8]; decide) (by rw [hx8]; decide) (by rw [hx8]; rfl) (by decide) ?_
    refine lv_aload_n C.x C.b dX11_count_103 rfl (lv_at hl 0 rfl) ?_
    replace hf := bn2_s hf; obtain ⟨v10, m9, hkm9, hf⟩ := hf
    refine z_cV (As := []) (rest := []) (st1 := [.int v10]) C Z mw_X11_standingPieces mv_X11_standingPieces k_1127 (by decide) (z_hR hR (by decide)) (lvC0 Nat.zero_lt_one) kC0 zc11 (c_X11_standingPieces (l := l) (K := K) (ad := ad) hkm9) rfl hl.1 rfl (Nat.le_of_ble_eq_true rfl) dX11_count_104 hB rfl (fun H locs Z => ?_)
    obtain ⟨rfl, rfl⟩ := pr_s hf
    exact z_iret C Z dX11_count_107
  replace hf := ite_f hf hx8
  by_cases hx11 : a1 = 8
  · replace hf := ite_t hf hx11
    refine lv_tableIn (tgt := 108) C.x C.b dX11_count_1 (by rw [hx11]; decide) (by rw [hx11]; decide) (by rw [hx11]; rfl) (by decide) ?_
    refine lv_aload_n C.x C.b dX11_count_108 rfl (lv_at hl 0 rfl) ?_
    replace hf := bn2_s hf; obtain ⟨v13, m12, hkm12, hf⟩ := hf
    refine z_cV (As := []) (rest := []) (st1 := [.int v13]) C Z mw_X11_brokenPieces mv_X11_brokenPieces k_1131 (by decide) (z_hR hR (by decide)) (lvC0 Nat.zero_lt_one) kC0 zc11 (c_X11_brokenPieces (l := l) (K := K) (ad := ad) hkm12) rfl hl.1 rfl (Nat.le_of_ble_eq_true rfl) dX11_count_109 hB rfl (fun H locs Z => ?_)
    obtain ⟨rfl, rfl⟩ := pr_s hf
    exact z_iret C Z dX11_count_112
  replace hf := ite_f hf hx11
  by_cases hx14 : a1 = 9
  · replace hf := ite_t hf hx14
    refine lv_tableIn (tgt := 113) C.x C.b dX11_count_1 (by rw [hx14]; decide) (by rw [hx14]; decide) (by rw [hx14]; rfl) (by decide) ?_
    refine lv_aload_n C.x C.b dX11_count_113 rfl (lv_at hl 0 rfl) ?_
    refine z_get C Z (lvC0 Nat.zero_lt_one) kC0 zc11 zin11 13 (by decide) k_375 rfl svC0_13 dX11_count_114 ?_
    refine z_get C Z (lvC11 Nat.zero_lt_one) kC11 zc0 zin0 0 (by decide) k_296 rfl svC11_0 dX11_count_117 ?_
    obtain ⟨rfl, rfl⟩ := pr_s hf
    exact z_iret C Z dX11_count_120
  replace hf := ite_f hf hx14
  refine lv_tableOut (tgt := 121) C.x C.b dX11_count_1 (tab_out (fun k h1 h2 => by rcases (show k = 0 ∨ k = 1 ∨ k = 2 ∨ k = 3 ∨ k = 4 ∨ k = 5 ∨ k = 6 ∨ k = 7 ∨ k = 8 ∨ k = 9 by omega) with rfl | rfl | rfl | rfl | rfl | rfl | rfl | rfl | rfl | rfl <;> assumption)) (by decide) ?_
  refine lv_bipush (v := (-2)) C.x C.b dX11_count_121 (by decide) ?_
  obtain ⟨rfl, rfl⟩ := pr_s hf
  exact z_iret C Z dX11_count_123
theorem dX11_tape_0 : decode cX11_tape 0 = .ok (.aload_n 0, 1) := by decide +kernel
theorem dX11_tape_1 : decode cX11_tape 1 = .ok (.iload_n 1, 1) := by decide +kernel
theorem dX11_tape_2 : decode cX11_tape 2 = .ok (.invokevirtual 387, 3) := by decide +kernel
theorem dX11_tape_5 : decode cX11_tape 5 = .ok (.astore 4, 2) := by decide +kernel
theorem dX11_tape_7 : decode cX11_tape 7 = .ok (.aload 4, 2) := by decide +kernel
theorem dX11_tape_9 : decode cX11_tape 9 = .ok (.ifnonnull 5, 3) := by decide +kernel
theorem dX11_tape_12 : decode cX11_tape 12 = .ok (.iconst (-1), 1) := by decide +kernel
theorem dX11_tape_13 : decode cX11_tape 13 = .ok (.ireturn, 1) := by decide +kernel
theorem dX11_tape_14 : decode cX11_tape 14 = .ok (.iload_n 2, 1) := by decide +kernel
theorem dX11_tape_15 : decode cX11_tape 15 = .ok (.iconst (-1), 1) := by decide +kernel
theorem dX11_tape_16 : decode cX11_tape 16 = .ok (.if_icmp .lt 19, 3) := by decide +kernel
theorem dX11_tape_19 : decode cX11_tape 19 = .ok (.iload_n 2, 1) := by decide +kernel
theorem dX11_tape_20 : decode cX11_tape 20 = .ok (.iconst 4, 1) := by decide +kernel
theorem dX11_tape_21 : decode cX11_tape 21 = .ok (.if_icmp .gt 14, 3) := by decide +kernel
theorem dX11_tape_24 : decode cX11_tape 24 = .ok (.iload_n 2, 1) := by decide +kernel
theorem dX11_tape_25 : decode cX11_tape 25 = .ok (.iconst (-1), 1) := by decide +kernel
theorem dX11_tape_26 : decode cX11_tape 26 = .ok (.if_icmp .eq 12, 3) := by decide +kernel
theorem dX11_tape_29 : decode cX11_tape 29 = .ok (.iload_n 3, 1) := by decide +kernel
theorem dX11_tape_30 : decode cX11_tape 30 = .ok (.bipush 60, 2) := by decide +kernel
theorem dX11_tape_32 : decode cX11_tape 32 = .ok (.if_icmp .le 6, 3) := by decide +kernel
theorem dX11_tape_35 : decode cX11_tape 35 = .ok (.bipush (-2), 2) := by decide +kernel
theorem dX11_tape_37 : decode cX11_tape 37 = .ok (.ireturn, 1) := by decide +kernel
theorem dX11_tape_38 : decode cX11_tape 38 = .ok (.iload_n 2, 1) := by decide +kernel
theorem dX11_tape_39 : decode cX11_tape 39 = .ok (.iconst (-1), 1) := by decide +kernel
theorem dX11_tape_40 : decode cX11_tape 40 = .ok (.if_icmp .eq 10, 3) := by decide +kernel
theorem dX11_tape_43 : decode cX11_tape 43 = .ok (.iload_n 3, 1) := by decide +kernel
theorem dX11_tape_44 : decode cX11_tape 44 = .ok (.ifCond .ge 6, 3) := by decide +kernel
theorem dX11_tape_47 : decode cX11_tape 47 = .ok (.bipush (-14), 2) := by decide +kernel
theorem dX11_tape_49 : decode cX11_tape 49 = .ok (.ireturn, 1) := by decide +kernel
theorem dX11_tape_50 : decode cX11_tape 50 = .ok (.aload 4, 2) := by decide +kernel
theorem dX11_tape_52 : decode cX11_tape 52 = .ok (.iload_n 2, 1) := by decide +kernel
theorem dX11_tape_53 : decode cX11_tape 53 = .ok (.iload_n 2, 1) := by decide +kernel
theorem dX11_tape_54 : decode cX11_tape 54 = .ok (.iconst (-1), 1) := by decide +kernel
theorem dX11_tape_55 : decode cX11_tape 55 = .ok (.if_icmp .ne 7, 3) := by decide +kernel
theorem dX11_tape_58 : decode cX11_tape 58 = .ok (.iconst 0, 1) := by decide +kernel
theorem dX11_tape_59 : decode cX11_tape 59 = .ok (.goto 4, 3) := by decide +kernel
theorem dX11_tape_62 : decode cX11_tape 62 = .ok (.iload_n 3, 1) := by decide +kernel
theorem dX11_tape_63 : decode cX11_tape 63 = .ok (.invokevirtual 422, 3) := by decide +kernel
theorem dX11_tape_66 : decode cX11_tape 66 = .ok (.iconst 1, 1) := by decide +kernel
theorem dX11_tape_67 : decode cX11_tape 67 = .ok (.ireturn, 1) := by decide +kernel
set_option maxRecDepth 100000 in
set_option maxHeartbeats 4000000 in
theorem w_X11_tape_b63 {p : Program} {l : Launch} {e : Env} {s : State} {m : MethodId} {args : Array Value} {below : List Frame} {meth : Method} {c : Code} {K : KG} {ad : Nat → Nat → Nat} {fl : Nat} {H : Heap} {locs : List Loc} {ls : Array Slot} {z0 : Nat} {z1 : Int32} {z2 : Int32} {M0 : Mem} {r9 : Int32} {M9 : Mem} (C : Cx p s m args meth c cX11_tape 5 "GlassPalace" (some .int)) (hR : 2 ≤ (RM (2) 0 0).frames ∧ 40 * (2) ≤ (RM (2) 0 0).locals) (hB : 0 ≤ (RM (2) 0 0).cells ∧ 0 ≤ (RM (2) 0 0).slots) (Z : Zd K LC ad M0 s H locs) (hl : lv_has ls 5 []) (hf : f_X11_tape_b63 fl z0 z1 z2 M0 = some (r9, M9)) : W p l e (RM (2) 0 0) s m args below meth c H locs 0 0 (MQ below (zQ K LC ad (some (.int r9)) M9) args s 0 0 (zA ad)) (F0 m 63 ls [.int z2, .int z1, rf (ad 42) z0]) := by
  unfold f_X11_tape_b63 at hf
  replace hf := drf_s hf; obtain ⟨j10, ej12, hj11, hf⟩ := hf
  refine z_nn [.int z2, .int z1] ej12 ?_
  replace hf := bn1_s hf; obtain ⟨m13, hkm13, hf⟩ := hf
  refine z_cV (As := [.int z1, .int z2]) (rest := []) (st1 := []) C Z mw_X8_become mv_X8_become k_1139 (by decide) (z_hR hR (by decide)) (lvC42 hj11) kC42 zc8 (c_X8_become (l := l) (K := K) (ad := ad) hj11 hkm13) rfl hl.1 rfl (Nat.le_of_ble_eq_true rfl) dX11_tape_63 hB rfl (fun H locs Z => ?_)
  refine lv_iconst (v := 1) C.x C.b dX11_tape_66 (by decide) ?_
  obtain ⟨rfl, rfl⟩ := pr_s hf
  exact z_iret C Z dX11_tape_67
set_option maxRecDepth 100000 in
set_option maxHeartbeats 4000000 in
theorem w_X11_tape_b50 {p : Program} {l : Launch} {e : Env} {s : State} {m : MethodId} {args : Array Value} {below : List Frame} {meth : Method} {c : Code} {K : KG} {ad : Nat → Nat → Nat} {fl : Nat} {H : Heap} {locs : List Loc} {ls : Array Slot} {g2 : Int32} {g3 : Int32} {g4 : Nat} {M0 : Mem} {r9 : Int32} {M9 : Mem} (C : Cx p s m args meth c cX11_tape 5 "GlassPalace" (some .int)) (hR : 2 ≤ (RM (2) 0 0).frames ∧ 40 * (2) ≤ (RM (2) 0 0).locals) (hB : 0 ≤ (RM (2) 0 0).cells ∧ 0 ≤ (RM (2) 0 0).slots) (Z : Zd K LC ad M0 s H locs) (hl : lv_has ls 5 [(2, .int g2), (3, .int g3), (4, rf (ad 42) g4)]) (hf : f_X11_tape_b50 fl g2 g3 g4 M0 = some (r9, M9)) : W p l e (RM (2) 0 0) s m args below meth c H locs 0 0 (MQ below (zQ K LC ad (some (.int r9)) M9) args s 0 0 (zA ad)) (F0 m 50 ls []) := by
  unfold f_X11_tape_b50 at hf
  refine z_aload C dX11_tape_50 (lv_at hl 2 rfl) ?_
  refine lv_iload_n C.x C.b dX11_tape_52 rfl (lv_at hl 0 rfl) ?_
  refine lv_iload_n C.x C.b dX11_tape_53 rfl (lv_at hl 0 rfl) ?_
  refine lv_iconst (v := (-1)) C.x C.b dX11_tape_54 (by decide) ?_
  replace hf := bn2_s hf; obtain ⟨q8, m9, hq8, hf⟩ := hf
  have kq8 : ∀ (H : Heap) (locs : List Loc) (ls : Array Slot), Zd K LC ad m9 s H locs → lv_has ls 5 [] → W p l e (RM (2) 0 0) s m args below meth c H locs 0 0 (MQ below (zQ K LC ad (some (.int r9)) M9) args s 0 0 (zA ad)) (F0 m 63 ls [.int q8, .int g2, rf (ad 42) g4]) := by
    intro H locs ls Z hl
    exact w_X11_tape_b63 C hR hB  Z (lv_sub hl [] rfl) hf
  clear hf
  refine lv_icmp_ne (tgt := 62) C.x C.b dX11_tape_55 (by decide) (fun hc14 => ?_) (fun hc14 => ?_)
  · have hf := ite_f hq8 hc14; clear hq8
    refine lv_iload_n C.x C.b dX11_tape_62 rfl (lv_at hl 1 rfl) ?_
    obtain ⟨rfl, rfl⟩ := pr_s hf
    exact kq8 _ _ _ Z (lv_sub hl [] rfl)
  · have hf := ite_t hq8 hc14; clear hq8
    refine lv_iconst (v := 0) C.x C.b dX11_tape_58 (by decide) ?_
    refine lv_goto (tgt := 63) C.x C.b dX11_tape_59 (by decide) ?_
    obtain ⟨rfl, rfl⟩ := pr_s hf
    exact kq8 _ _ _ Z (lv_sub hl [] rfl)
set_option maxRecDepth 100000 in
set_option maxHeartbeats 4000000 in
theorem w_X11_tape_b38 {p : Program} {l : Launch} {e : Env} {s : State} {m : MethodId} {args : Array Value} {below : List Frame} {meth : Method} {c : Code} {K : KG} {ad : Nat → Nat → Nat} {fl : Nat} {H : Heap} {locs : List Loc} {ls : Array Slot} {g2 : Int32} {g3 : Int32} {g4 : Nat} {M0 : Mem} {r9 : Int32} {M9 : Mem} (C : Cx p s m args meth c cX11_tape 5 "GlassPalace" (some .int)) (hR : 2 ≤ (RM (2) 0 0).frames ∧ 40 * (2) ≤ (RM (2) 0 0).locals) (hB : 0 ≤ (RM (2) 0 0).cells ∧ 0 ≤ (RM (2) 0 0).slots) (Z : Zd K LC ad M0 s H locs) (hl : lv_has ls 5 [(2, .int g2), (3, .int g3), (4, rf (ad 42) g4)]) (hf : f_X11_tape_b38 fl g2 g3 g4 M0 = some (r9, M9)) : W p l e (RM (2) 0 0) s m args below meth c H locs 0 0 (MQ below (zQ K LC ad (some (.int r9)) M9) args s 0 0 (zA ad)) (F0 m 38 ls []) := by
  unfold f_X11_tape_b38 at hf
  refine lv_iload_n C.x C.b dX11_tape_38 rfl (lv_at hl 0 rfl) ?_
  refine lv_iconst (v := (-1)) C.x C.b dX11_tape_39 (by decide) ?_
  refine lv_icmp_eq (tgt := 50) C.x C.b dX11_tape_40 (by decide) (fun hc7 => ?_) (fun hc7 => ?_)
  · replace hf := ite_t hf hc7
    exact w_X11_tape_b50 C hR hB  Z (lv_sub hl [0, 1, 2] rfl) hf
  · replace hf := ite_f hf hc7
    refine lv_iload_n C.x C.b dX11_tape_43 rfl (lv_at hl 1 rfl) ?_
    refine lv_if_ge (tgt := 50) C.x C.b dX11_tape_44 (by decide) (fun hc15 => ?_) (fun hc15 => ?_)
    · replace hf := ite_t hf hc15
      exact w_X11_tape_b50 C hR hB  Z (lv_sub hl [0, 1, 2] rfl) hf
    · replace hf := ite_f hf hc15
      refine lv_bipush (v := (-14)) C.x C.b dX11_tape_47 (by decide) ?_
      obtain ⟨rfl, rfl⟩ := pr_s hf
      exact z_iret C Z dX11_tape_49
set_option maxRecDepth 100000 in
set_option maxHeartbeats 4000000 in
theorem c_X11_tape {l : Launch} {K : KG} {ad : Nat → Nat → Nat} {fl : Nat} {a1 : Int32} {a2 : Int32} {a3 : Int32} {M0 : Mem} {r9 : Int32} {M9 : Mem} (hf : f_X11_tape fl a1 a2 a3 M0 = some (r9, M9)) : Met l yX11_tape (Cond.code yX11_tape cX11_tape 5 (some .int) :: ztb) (RM (2) 0 0) (zPc K LC ad M0 [.ref (ad 0 0), .int a1, .int a2, .int a3]) (zQ K LC ad (some (.int r9)) M9) 0 0 (zA ad) := by
  refine z_enter (by decide) (Nat.le_of_ble_eq_true rfl) ?_
  intro p e s m args below meth c ls C hin hargs Z hl
  replace C : Cx p s m args meth c cX11_tape 5 "GlassPalace" (some .int) := C
  replace hl : lv_has ls 5 [(0, .ref (ad 0 0)), (1, .int a1), (2, .int a2), (3, .int a3)] := hl
  have hR : 2 ≤ (RM (2) 0 0).frames ∧ 40 * (2) ≤ (RM (2) 0 0).locals := ⟨Nat.le_refl _, Nat.le_refl _⟩
  have hB : 0 ≤ (RM (2) 0 0).cells ∧ 0 ≤ (RM (2) 0 0).slots := ⟨Nat.zero_le _, Nat.zero_le _⟩
  unfold f_X11_tape at hf
  refine lv_aload_n C.x C.b dX11_tape_0 rfl (lv_at hl 0 rfl) ?_
  refine lv_iload_n C.x C.b dX11_tape_1 rfl (lv_at hl 1 rfl) ?_
  replace hf := bn2_s hf; obtain ⟨c2, m1, hkm1, hf⟩ := hf
  refine z_cV (As := [.int a1]) (rest := []) (st1 := [rf (ad 42) c2]) C Z mw_X11_tapeOf mv_X11_tapeOf k_1100 (by decide) (z_hR hR (by decide)) (lvC0 Nat.zero_lt_one) kC0 zc11 (c_X11_tapeOf (l := l) (K := K) (ad := ad) hkm1) rfl hl.1 rfl (Nat.le_of_ble_eq_true rfl) dX11_tape_2 hB rfl (fun H locs Z => ?_)
  refine z_cstore (lv' := [(4, rf (ad 42) c2), (0, .ref (ad 0 0)), (1, .int a1), (2, .int a2), (3, .int a3)]) C dX11_tape_5 hl (by decide) rfl (onlast 3 rfl rfl rfl) (fun ls hl => ?_)
  refine z_aload C dX11_tape_7 (lv_at hl 0 rfl) ?_
  refine z_ifnonnull C dX11_tape_9 (tgt := 14) (by decide) (fun hc3 => ?_) (fun hc3 => ?_)
  · replace hf := ite_f hf hc3
    refine lv_iload_n C.x C.b dX11_tape_14 rfl (lv_at hl 3 rfl) ?_
    refine lv_iconst (v := (-1)) C.x C.b dX11_tape_15 (by decide) ?_
    refine lv_icmp_lt (tgt := 35) C.x C.b dX11_tape_16 (by decide) (fun hc4 => ?_) (fun hc4 => ?_)
    · replace hf := ite_t hf hc4
      refine lv_bipush (v := (-2)) C.x C.b dX11_tape_35 (by decide) ?_
      obtain ⟨rfl, rfl⟩ := pr_s hf
      exact z_iret C Z dX11_tape_37
    · replace hf := ite_f hf hc4
      refine lv_iload_n C.x C.b dX11_tape_19 rfl (lv_at hl 3 rfl) ?_
      refine lv_iconst (v := 4) C.x C.b dX11_tape_20 (by decide) ?_
      refine lv_icmp_gt (tgt := 35) C.x C.b dX11_tape_21 (by decide) (fun hc5 => ?_) (fun hc5 => ?_)
      · replace hf := ite_t hf hc5
        refine lv_bipush (v := (-2)) C.x C.b dX11_tape_35 (by decide) ?_
        obtain ⟨rfl, rfl⟩ := pr_s hf
        exact z_iret C Z dX11_tape_37
      · replace hf := ite_f hf hc5
        refine lv_iload_n C.x C.b dX11_tape_24 rfl (lv_at hl 3 rfl) ?_
        refine lv_iconst (v := (-1)) C.x C.b dX11_tape_25 (by decide) ?_
        refine lv_icmp_eq (tgt := 38) C.x C.b dX11_tape_26 (by decide) (fun hc6 => ?_) (fun hc6 => ?_)
        · replace hf := ite_t hf hc6
          exact w_X11_tape_b38 C hR hB  Z (lv_sub hl [3, 4, 0] rfl) hf
        · replace hf := ite_f hf hc6
          refine lv_iload_n C.x C.b dX11_tape_29 rfl (lv_at hl 4 rfl) ?_
          refine lv_bipush (v := 60) C.x C.b dX11_tape_30 (by decide) ?_
          refine lv_icmp_le (tgt := 38) C.x C.b dX11_tape_32 (by decide) (fun hc16 => ?_) (fun hc16 => ?_)
          · replace hf := ite_t hf hc16
            exact w_X11_tape_b38 C hR hB  Z (lv_sub hl [3, 4, 0] rfl) hf
          · replace hf := ite_f hf hc16
            refine lv_bipush (v := (-2)) C.x C.b dX11_tape_35 (by decide) ?_
            obtain ⟨rfl, rfl⟩ := pr_s hf
            exact z_iret C Z dX11_tape_37
  · replace hf := ite_t hf hc3
    refine lv_iconst (v := (-1)) C.x C.b dX11_tape_12 (by decide) ?_
    obtain ⟨rfl, rfl⟩ := pr_s hf
    exact z_iret C Z dX11_tape_13
theorem dX11_item_0 : decode cX11_item 0 = .ok (.aload_n 0, 1) := by decide +kernel
theorem dX11_item_1 : decode cX11_item 1 = .ok (.iload_n 1, 1) := by decide +kernel
theorem dX11_item_2 : decode cX11_item 2 = .ok (.invokevirtual 387, 3) := by decide +kernel
theorem dX11_item_5 : decode cX11_item 5 = .ok (.astore 5, 2) := by decide +kernel
theorem dX11_item_7 : decode cX11_item 7 = .ok (.aload 5, 2) := by decide +kernel
theorem dX11_item_9 : decode cX11_item 9 = .ok (.ifnonnull 5, 3) := by decide +kernel
theorem dX11_item_12 : decode cX11_item 12 = .ok (.iconst (-1), 1) := by decide +kernel
theorem dX11_item_13 : decode cX11_item 13 = .ok (.ireturn, 1) := by decide +kernel
theorem dX11_item_14 : decode cX11_item 14 = .ok (.aload 5, 2) := by decide +kernel
theorem dX11_item_16 : decode cX11_item 16 = .ok (.getfield 393, 3) := by decide +kernel
theorem dX11_item_19 : decode cX11_item 19 = .ok (.iconst (-1), 1) := by decide +kernel
theorem dX11_item_20 : decode cX11_item 20 = .ok (.if_icmp .ne 6, 3) := by decide +kernel
theorem dX11_item_23 : decode cX11_item 23 = .ok (.bipush (-11), 2) := by decide +kernel
theorem dX11_item_25 : decode cX11_item 25 = .ok (.ireturn, 1) := by decide +kernel
theorem dX11_item_26 : decode cX11_item 26 = .ok (.aload 5, 2) := by decide +kernel
theorem dX11_item_28 : decode cX11_item 28 = .ok (.iload_n 2, 1) := by decide +kernel
theorem dX11_item_29 : decode cX11_item 29 = .ok (.lload_n 3, 1) := by decide +kernel
theorem dX11_item_30 : decode cX11_item 30 = .ok (.invokevirtual 425, 3) := by decide +kernel
theorem dX11_item_33 : decode cX11_item 33 = .ok (.ifCond .eq 7, 3) := by decide +kernel
theorem dX11_item_36 : decode cX11_item 36 = .ok (.iconst 1, 1) := by decide +kernel
theorem dX11_item_37 : decode cX11_item 37 = .ok (.goto 5, 3) := by decide +kernel
theorem dX11_item_40 : decode cX11_item 40 = .ok (.bipush (-13), 2) := by decide +kernel
theorem dX11_item_42 : decode cX11_item 42 = .ok (.ireturn, 1) := by decide +kernel
set_option maxRecDepth 100000 in
set_option maxHeartbeats 4000000 in
theorem c_X11_item {l : Launch} {K : KG} {ad : Nat → Nat → Nat} {fl : Nat} {a1 : Int32} {a2 : Int32} {a3 : Int64} {M0 : Mem} {r9 : Int32} {M9 : Mem} (hf : f_X11_item fl a1 a2 a3 M0 = some (r9, M9)) : Met l yX11_item (Cond.code yX11_item cX11_item 6 (some .int) :: ztb) (RM (3) 0 0) (zPc K LC ad M0 [.ref (ad 0 0), .int a1, .int a2, .long a3]) (zQ K LC ad (some (.int r9)) M9) 0 0 (zA ad) := by
  refine z_enter (by decide) (Nat.le_of_ble_eq_true rfl) ?_
  intro p e s m args below meth c ls C hin hargs Z hl
  replace C : Cx p s m args meth c cX11_item 6 "GlassPalace" (some .int) := C
  replace hl : lv_has ls 6 [(0, .ref (ad 0 0)), (1, .int a1), (2, .int a2), (3, .long a3)] := hl
  have hR : 3 ≤ (RM (3) 0 0).frames ∧ 40 * (3) ≤ (RM (3) 0 0).locals := ⟨Nat.le_refl _, Nat.le_refl _⟩
  have hB : 0 ≤ (RM (3) 0 0).cells ∧ 0 ≤ (RM (3) 0 0).slots := ⟨Nat.zero_le _, Nat.zero_le _⟩
  unfold f_X11_item at hf
  refine lv_aload_n C.x C.b dX11_item_0 rfl (lv_at hl 0 rfl) ?_
  refine lv_iload_n C.x C.b dX11_item_1 rfl (lv_at hl 1 rfl) ?_
  replace hf := bn2_s hf; obtain ⟨c2, m1, hkm1, hf⟩ := hf
  refine z_cV (As := [.int a1]) (rest := []) (st1 := [rf (ad 42) c2]) C Z mw_X11_tapeOf mv_X11_tapeOf k_1100 (by decide) (z_hR hR (by decide)) (lvC0 Nat.zero_lt_one) kC0 zc11 (c_X11_tapeOf (l := l) (K := K) (ad := ad) hkm1) rfl hl.1 rfl (Nat.le_of_ble_eq_true rfl) dX11_item_2 hB rfl (fun H locs Z => ?_)
  refine z_cstore (lv' := [(5, rf (ad 42) c2), (0, .ref (ad 0 0)), (1, .int a1), (2, .int a2), (3, .long a3)]) C dX11_item_5 hl (by decide) rfl (nolast rfl) (fun ls hl => ?_)
  refine z_aload C dX11_item_7 (lv_at hl 0 rfl) ?_
  refine z_ifnonnull C dX11_item_9 (tgt := 14) (by decide) (fun hc3 => ?_) (fun hc3 => ?_)
  · replace hf := ite_f hf hc3
    refine z_aload C dX11_item_14 (lv_at hl 0 rfl) ?_
    replace hf := drf_s hf; obtain ⟨j4, ej6, hj5, hf⟩ := hf
    subst ej6
    refine z_nn [] (y := j4 + 1) rfl ?_
    refine z_get C Z (lvC42 hj5) kC42 zc8 zin8 0 (by decide) k_350 rfl svC42_0 dX11_item_16 ?_
    refine lv_iconst (v := (-1)) C.x C.b dX11_item_19 (by decide) ?_
    refine lv_icmp_ne (tgt := 26) C.x C.b dX11_item_20 (by decide) (fun hc7 => ?_) (fun hc7 => ?_)
    · replace hf := ite_f hf hc7
      refine lv_aload C.x C.b dX11_item_26 (lv_at hl 0 rfl) ?_
      refine lv_iload_n C.x C.b dX11_item_28 rfl (lv_at hl 3 rfl) ?_
      refine lv_lload_n C.x C.b dX11_item_29 rfl (lv_at hl 4 rfl) ?_
      replace hf := bn2_s hf; obtain ⟨v9, m8, hkm8, hf⟩ := hf
      refine z_cV (As := [.int a2, .long a3]) (rest := []) (st1 := [.int v9]) C Z mw_X8_put mv_X8_put k_1147 (by decide) (z_hR hR (by decide)) (lvC42 hj5) kC42 zc8 (c_X8_put (l := l) (K := K) (ad := ad) hj5 hkm8) rfl hl.1 rfl (Nat.le_of_ble_eq_true rfl) dX11_item_30 hB rfl (fun H locs Z => ?_)
      refine lv_if_eq (tgt := 40) C.x C.b dX11_item_33 (by decide) (fun hc10 => ?_) (fun hc10 => ?_)
      · replace hf := ite_t hf hc10
        refine lv_bipush (v := (-13)) C.x C.b dX11_item_40 (by decide) ?_
        obtain ⟨rfl, rfl⟩ := pr_s hf
        exact z_iret C Z dX11_item_42
      · replace hf := ite_f hf hc10
        refine lv_iconst (v := 1) C.x C.b dX11_item_36 (by decide) ?_
        refine lv_goto (tgt := 42) C.x C.b dX11_item_37 (by decide) ?_
        obtain ⟨rfl, rfl⟩ := pr_s hf
        exact z_iret C Z dX11_item_42
    · replace hf := ite_t hf hc7
      refine lv_bipush (v := (-11)) C.x C.b dX11_item_23 (by decide) ?_
      obtain ⟨rfl, rfl⟩ := pr_s hf
      exact z_iret C Z dX11_item_25
  · replace hf := ite_t hf hc3
    refine lv_iconst (v := (-1)) C.x C.b dX11_item_12 (by decide) ?_
    obtain ⟨rfl, rfl⟩ := pr_s hf
    exact z_iret C Z dX11_item_13
theorem dX11_read_0 : decode cX11_read 0 = .ok (.aload_n 0, 1) := by decide +kernel
theorem dX11_read_1 : decode cX11_read 1 = .ok (.iload_n 1, 1) := by decide +kernel
theorem dX11_read_2 : decode cX11_read 2 = .ok (.invokevirtual 387, 3) := by decide +kernel
theorem dX11_read_5 : decode cX11_read 5 = .ok (.astore_n 3, 1) := by decide +kernel
theorem dX11_read_6 : decode cX11_read 6 = .ok (.aload_n 3, 1) := by decide +kernel
theorem dX11_read_7 : decode cX11_read 7 = .ok (.ifnull 12, 3) := by decide +kernel
theorem dX11_read_10 : decode cX11_read 10 = .ok (.aload_n 3, 1) := by decide +kernel
theorem dX11_read_11 : decode cX11_read 11 = .ok (.iload_n 2, 1) := by decide +kernel
theorem dX11_read_12 : decode cX11_read 12 = .ok (.i2l, 1) := by decide +kernel
theorem dX11_read_13 : decode cX11_read 13 = .ok (.invokevirtual 400, 3) := by decide +kernel
theorem dX11_read_16 : decode cX11_read 16 = .ok (.ifCond .ne 9, 3) := by decide +kernel
theorem dX11_read_19 : decode cX11_read 19 = .ok (.ldc2_w 391, 3) := by decide +kernel
theorem dX11_read_22 : decode cX11_read 22 = .ok (.goto 9, 3) := by decide +kernel
theorem dX11_read_25 : decode cX11_read 25 = .ok (.aload_n 3, 1) := by decide +kernel
theorem dX11_read_26 : decode cX11_read 26 = .ok (.iload_n 2, 1) := by decide +kernel
theorem dX11_read_27 : decode cX11_read 27 = .ok (.i2l, 1) := by decide +kernel
theorem dX11_read_28 : decode cX11_read 28 = .ok (.invokevirtual 406, 3) := by decide +kernel
theorem dX11_read_31 : decode cX11_read 31 = .ok (.lreturn, 1) := by decide +kernel
set_option maxRecDepth 100000 in
set_option maxHeartbeats 4000000 in
theorem c_X11_read {l : Launch} {K : KG} {ad : Nat → Nat → Nat} {fl : Nat} {a1 : Int32} {a2 : Int32} {M0 : Mem} {r9 : Int64} {M9 : Mem} (hf : f_X11_read fl a1 a2 M0 = some (r9, M9)) : Met l yX11_read (Cond.code yX11_read cX11_read 4 (some .long) :: ztb) (RM (3) 0 0) (zPc K LC ad M0 [.ref (ad 0 0), .int a1, .int a2]) (zQ K LC ad (some (.long r9)) M9) 0 0 (zA ad) := by
  refine z_enter (by decide) (Nat.le_of_ble_eq_true rfl) ?_
  intro p e s m args below meth c ls C hin hargs Z hl
  replace C : Cx p s m args meth c cX11_read 4 "GlassPalace" (some .long) := C
  replace hl : lv_has ls 4 [(0, .ref (ad 0 0)), (1, .int a1), (2, .int a2)] := hl
  have hR : 3 ≤ (RM (3) 0 0).frames ∧ 40 * (3) ≤ (RM (3) 0 0).locals := ⟨Nat.le_refl _, Nat.le_refl _⟩
  have hB : 0 ≤ (RM (3) 0 0).cells ∧ 0 ≤ (RM (3) 0 0).slots := ⟨Nat.zero_le _, Nat.zero_le _⟩
  unfold f_X11_read at hf
  refine lv_aload_n C.x C.b dX11_read_0 rfl (lv_at hl 0 rfl) ?_
  refine lv_iload_n C.x C.b dX11_read_1 rfl (lv_at hl 1 rfl) ?_
  replace hf := bn2_s hf; obtain ⟨c2, m1, hkm1, hf⟩ := hf
  refine z_cV (As := [.int a1]) (rest := []) (st1 := [rf (ad 42) c2]) C Z mw_X11_tapeOf mv_X11_tapeOf k_1100 (by decide) (z_hR hR (by decide)) (lvC0 Nat.zero_lt_one) kC0 zc11 (c_X11_tapeOf (l := l) (K := K) (ad := ad) hkm1) rfl hl.1 rfl (Nat.le_of_ble_eq_true rfl) dX11_read_2 hB rfl (fun H locs Z => ?_)
  refine z_cstore_n (lv' := [(3, rf (ad 42) c2), (0, .ref (ad 0 0)), (1, .int a1), (2, .int a2)]) C dX11_read_5 rfl hl (by decide) rfl (onlast 2 rfl rfl rfl) (fun ls hl => ?_)
  refine z_aload_n C dX11_read_6 rfl (lv_at hl 0 rfl) ?_
  refine z_ifnull C dX11_read_7 (tgt := 19) (by decide) (fun hc3 => ?_) (fun hc3 => ?_)
  · replace hf := ite_t hf hc3
    refine lv_ldc2 (v := (-9223372036854775808)) C.x C.b C.o (C.w k_1104) dX11_read_19 ?_
    refine lv_goto (tgt := 31) C.x C.b dX11_read_22 (by decide) ?_
    obtain ⟨rfl, rfl⟩ := pr_s hf
    exact z_lret C Z dX11_read_31
  · replace hf := ite_f hf hc3
    refine z_aload_n C dX11_read_10 rfl (lv_at hl 0 rfl) ?_
    refine lv_iload_n C.x C.b dX11_read_11 rfl (lv_at hl 3 rfl) ?_
    refine z_i2l C dX11_read_12 ?_
    replace hf := drf_s hf; obtain ⟨j4, ej6, hj5, hf⟩ := hf
    subst ej6
    refine z_nn [.long (Int32.toInt64 a2)] (y := j4 + 1) rfl ?_
    replace hf := bn2_s hf; obtain ⟨v8, m7, hkm7, hf⟩ := hf
    refine z_cV (As := [.long (Int32.toInt64 a2)]) (rest := []) (st1 := [.int v8]) C Z mw_X8_hasItem mv_X8_hasItem k_1107 (by decide) (z_hR hR (by decide)) (lvC42 hj5) kC42 zc8 (c_X8_hasItem (l := l) (K := K) (ad := ad) hj5 hkm7) rfl hl.1 rfl (Nat.le_of_ble_eq_true rfl) dX11_read_13 hB rfl (fun H locs Z => ?_)
    refine lv_if_ne (tgt := 25) C.x C.b dX11_read_16 (by decide) (fun hc9 => ?_) (fun hc9 => ?_)
    · replace hf := ite_f hf hc9
      refine lv_aload_n C.x C.b dX11_read_25 rfl (lv_at hl 0 rfl) ?_
      refine lv_iload_n C.x C.b dX11_read_26 rfl (lv_at hl 3 rfl) ?_
      refine z_i2l C dX11_read_27 ?_
      replace hf := bn2_s hf; obtain ⟨y11, m10, hkm10, hf⟩ := hf
      refine z_cV (As := [.long (Int32.toInt64 a2)]) (rest := []) (st1 := [.long y11]) C Z mw_X8_itemAt mv_X8_itemAt k_1113 (by decide) (z_hR hR (by decide)) (lvC42 hj5) kC42 zc8 (c_X8_itemAt (l := l) (K := K) (ad := ad) hj5 hkm10) rfl hl.1 rfl (Nat.le_of_ble_eq_true rfl) dX11_read_28 hB rfl (fun H locs Z => ?_)
      obtain ⟨rfl, rfl⟩ := pr_s hf
      exact z_lret C Z dX11_read_31
    · replace hf := ite_t hf hc9
      refine lv_ldc2 (v := (-9223372036854775808)) C.x C.b C.o (C.w k_1104) dX11_read_19 ?_
      refine lv_goto (tgt := 31) C.x C.b dX11_read_22 (by decide) ?_
      obtain ⟨rfl, rfl⟩ := pr_s hf
      exact z_lret C Z dX11_read_31
theorem dX11_shift_0 : decode cX11_shift 0 = .ok (.aload_n 0, 1) := by decide +kernel
theorem dX11_shift_1 : decode cX11_shift 1 = .ok (.iload_n 1, 1) := by decide +kernel
theorem dX11_shift_2 : decode cX11_shift 2 = .ok (.invokevirtual 387, 3) := by decide +kernel
theorem dX11_shift_5 : decode cX11_shift 5 = .ok (.astore 6, 2) := by decide +kernel
theorem dX11_shift_7 : decode cX11_shift 7 = .ok (.aload_n 0, 1) := by decide +kernel
theorem dX11_shift_8 : decode cX11_shift 8 = .ok (.iload_n 3, 1) := by decide +kernel
theorem dX11_shift_9 : decode cX11_shift 9 = .ok (.invokevirtual 387, 3) := by decide +kernel
theorem dX11_shift_12 : decode cX11_shift 12 = .ok (.astore 7, 2) := by decide +kernel
theorem dX11_shift_14 : decode cX11_shift 14 = .ok (.aload 6, 2) := by decide +kernel
theorem dX11_shift_16 : decode cX11_shift 16 = .ok (.ifnull 8, 3) := by decide +kernel
theorem dX11_shift_19 : decode cX11_shift 19 = .ok (.aload 7, 2) := by decide +kernel
theorem dX11_shift_21 : decode cX11_shift 21 = .ok (.ifnonnull 5, 3) := by decide +kernel
theorem dX11_shift_24 : decode cX11_shift 24 = .ok (.iconst (-1), 1) := by decide +kernel
theorem dX11_shift_25 : decode cX11_shift 25 = .ok (.ireturn, 1) := by decide +kernel
theorem dX11_shift_26 : decode cX11_shift 26 = .ok (.aload 6, 2) := by decide +kernel
theorem dX11_shift_28 : decode cX11_shift 28 = .ok (.getfield 393, 3) := by decide +kernel
theorem dX11_shift_31 : decode cX11_shift 31 = .ok (.iconst (-1), 1) := by decide +kernel
theorem dX11_shift_32 : decode cX11_shift 32 = .ok (.if_icmp .eq 12, 3) := by decide +kernel
theorem dX11_shift_35 : decode cX11_shift 35 = .ok (.aload 7, 2) := by decide +kernel
theorem dX11_shift_37 : decode cX11_shift 37 = .ok (.getfield 393, 3) := by decide +kernel
theorem dX11_shift_40 : decode cX11_shift 40 = .ok (.iconst (-1), 1) := by decide +kernel
theorem dX11_shift_41 : decode cX11_shift 41 = .ok (.if_icmp .ne 6, 3) := by decide +kernel
theorem dX11_shift_44 : decode cX11_shift 44 = .ok (.bipush (-11), 2) := by decide +kernel
theorem dX11_shift_46 : decode cX11_shift 46 = .ok (.ireturn, 1) := by decide +kernel
theorem dX11_shift_47 : decode cX11_shift 47 = .ok (.aload 6, 2) := by decide +kernel
theorem dX11_shift_49 : decode cX11_shift 49 = .ok (.getfield 393, 3) := by decide +kernel
theorem dX11_shift_52 : decode cX11_shift 52 = .ok (.aload 7, 2) := by decide +kernel
theorem dX11_shift_54 : decode cX11_shift 54 = .ok (.getfield 393, 3) := by decide +kernel
theorem dX11_shift_57 : decode cX11_shift 57 = .ok (.if_icmp .eq 6, 3) := by decide +kernel
theorem dX11_shift_60 : decode cX11_shift 60 = .ok (.bipush (-12), 2) := by decide +kernel
theorem dX11_shift_62 : decode cX11_shift 62 = .ok (.ireturn, 1) := by decide +kernel
theorem dX11_shift_63 : decode cX11_shift 63 = .ok (.aload 6, 2) := by decide +kernel
theorem dX11_shift_65 : decode cX11_shift 65 = .ok (.iload_n 2, 1) := by decide +kernel
theorem dX11_shift_66 : decode cX11_shift 66 = .ok (.iload 5, 2) := by decide +kernel
theorem dX11_shift_68 : decode cX11_shift 68 = .ok (.invokevirtual 428, 3) := by decide +kernel
theorem dX11_shift_71 : decode cX11_shift 71 = .ok (.ifCond .eq 15, 3) := by decide +kernel
theorem dX11_shift_74 : decode cX11_shift 74 = .ok (.aload 7, 2) := by decide +kernel
theorem dX11_shift_76 : decode cX11_shift 76 = .ok (.iload 4, 2) := by decide +kernel
theorem dX11_shift_78 : decode cX11_shift 78 = .ok (.iload 5, 2) := by decide +kernel
theorem dX11_shift_80 : decode cX11_shift 80 = .ok (.invokevirtual 428, 3) := by decide +kernel
theorem dX11_shift_83 : decode cX11_shift 83 = .ok (.ifCond .ne 6, 3) := by decide +kernel
theorem dX11_shift_86 : decode cX11_shift 86 = .ok (.bipush (-13), 2) := by decide +kernel
theorem dX11_shift_88 : decode cX11_shift 88 = .ok (.ireturn, 1) := by decide +kernel
theorem dX11_shift_89 : decode cX11_shift 89 = .ok (.aload 6, 2) := by decide +kernel
theorem dX11_shift_91 : decode cX11_shift 91 = .ok (.getfield 431, 3) := by decide +kernel
theorem dX11_shift_94 : decode cX11_shift 94 = .ok (.iload_n 2, 1) := by decide +kernel
theorem dX11_shift_95 : decode cX11_shift 95 = .ok (.aload 7, 2) := by decide +kernel
theorem dX11_shift_97 : decode cX11_shift 97 = .ok (.getfield 431, 3) := by decide +kernel
theorem dX11_shift_100 : decode cX11_shift 100 = .ok (.iload 4, 2) := by decide +kernel
theorem dX11_shift_102 : decode cX11_shift 102 = .ok (.iload 5, 2) := by decide +kernel
theorem dX11_shift_104 : decode cX11_shift 104 = .ok (.invokestatic 435, 3) := by decide +kernel
theorem dX11_shift_107 : decode cX11_shift 107 = .ok (.iload 5, 2) := by decide +kernel
theorem dX11_shift_109 : decode cX11_shift 109 = .ok (.ireturn, 1) := by decide +kernel
set_option maxRecDepth 100000 in
set_option maxHeartbeats 4000000 in
theorem c_X11_shift {l : Launch} {K : KG} {ad : Nat → Nat → Nat} {fl : Nat} {a1 : Int32} {a2 : Int32} {a3 : Int32} {a4 : Int32} {a5 : Int32} {M0 : Mem} {r9 : Int32} {M9 : Mem} (hf : f_X11_shift fl a1 a2 a3 a4 a5 M0 = some (r9, M9)) : Met l yX11_shift (Cond.code yX11_shift cX11_shift 8 (some .int) :: ztb) (RM (2) 0 0) (zPc K LC ad M0 [.ref (ad 0 0), .int a1, .int a2, .int a3, .int a4, .int a5]) (zQ K LC ad (some (.int r9)) M9) 0 0 (zA ad) := by
  refine z_enter (by decide) (Nat.le_of_ble_eq_true rfl) ?_
  intro p e s m args below meth c ls C hin hargs Z hl
  replace C : Cx p s m args meth c cX11_shift 8 "GlassPalace" (some .int) := C
  replace hl : lv_has ls 8 [(0, .ref (ad 0 0)), (1, .int a1), (2, .int a2), (3, .int a3), (4, .int a4), (5, .int a5)] := hl
  have hR : 2 ≤ (RM (2) 0 0).frames ∧ 40 * (2) ≤ (RM (2) 0 0).locals := ⟨Nat.le_refl _, Nat.le_refl _⟩
  have hB : 0 ≤ (RM (2) 0 0).cells ∧ 0 ≤ (RM (2) 0 0).slots := ⟨Nat.zero_le _, Nat.zero_le _⟩
  unfold f_X11_shift at hf
  refine lv_aload_n C.x C.b dX11_shift_0 rfl (lv_at hl 0 rfl) ?_
  refine lv_iload_n C.x C.b dX11_shift_1 rfl (lv_at hl 1 rfl) ?_
  replace hf := bn2_s hf; obtain ⟨c2, m1, hkm1, hf⟩ := hf
  refine z_cV (As := [.int a1]) (rest := []) (st1 := [rf (ad 42) c2]) C Z mw_X11_tapeOf mv_X11_tapeOf k_1100 (by decide) (z_hR hR (by decide)) (lvC0 Nat.zero_lt_one) kC0 zc11 (c_X11_tapeOf (l := l) (K := K) (ad := ad) hkm1) rfl hl.1 rfl (Nat.le_of_ble_eq_true rfl) dX11_shift_2 hB rfl (fun H locs Z => ?_)
  refine z_cstore (lv' := [(6, rf (ad 42) c2), (0, .ref (ad 0 0)), (1, .int a1), (2, .int a2), (3, .int a3), (4, .int a4), (5, .int a5)]) C dX11_shift_5 hl (by decide) rfl (onlast 5 rfl rfl rfl) (fun ls hl => ?_)
  refine lv_aload_n C.x C.b dX11_shift_7 rfl (lv_at hl 1 rfl) ?_
  refine lv_iload_n C.x C.b dX11_shift_8 rfl (lv_at hl 4 rfl) ?_
  replace hf := bn2_s hf; obtain ⟨c4, m3, hkm3, hf⟩ := hf
  refine z_cV (As := [.int a3]) (rest := []) (st1 := [rf (ad 42) c4]) C Z mw_X11_tapeOf mv_X11_tapeOf k_1100 (by decide) (z_hR hR (by decide)) (lvC0 Nat.zero_lt_one) kC0 zc11 (c_X11_tapeOf (l := l) (K := K) (ad := ad) hkm3) rfl hl.1 rfl (Nat.le_of_ble_eq_true rfl) dX11_shift_9 hB rfl (fun H locs Z => ?_)
  refine z_cstore (lv' := [(7, rf (ad 42) c4), (6, rf (ad 42) c2), (0, .ref (ad 0 0)), (1, .int a1), (2, .int a2), (3, .int a3), (4, .int a4), (5, .int a5)]) C dX11_shift_12 hl (by decide) rfl (onlast 0 rfl (rf_cat _ _) rfl) (fun ls hl => ?_)
  refine z_aload C dX11_shift_14 (lv_at hl 1 rfl) ?_
  refine z_ifnull C dX11_shift_16 (tgt := 24) (by decide) (fun hc5 => ?_) (fun hc5 => ?_)
  · replace hf := ite_t hf hc5
    refine lv_iconst (v := (-1)) C.x C.b dX11_shift_24 (by decide) ?_
    obtain ⟨rfl, rfl⟩ := pr_s hf
    exact z_iret C Z dX11_shift_25
  · replace hf := ite_f hf hc5
    refine z_aload C dX11_shift_19 (lv_at hl 0 rfl) ?_
    refine z_ifnonnull C dX11_shift_21 (tgt := 26) (by decide) (fun hc6 => ?_) (fun hc6 => ?_)
    · replace hf := ite_f hf hc6
      refine z_aload C dX11_shift_26 (lv_at hl 1 rfl) ?_
      replace hf := drf_s hf; obtain ⟨j7, ej9, hj8, hf⟩ := hf
      subst ej9
      refine z_nn [] (y := j7 + 1) rfl ?_
      refine z_get C Z (lvC42 hj8) kC42 zc8 zin8 0 (by decide) k_350 rfl svC42_0 dX11_shift_28 ?_
      refine lv_iconst (v := (-1)) C.x C.b dX11_shift_31 (by decide) ?_
      refine lv_icmp_eq (tgt := 44) C.x C.b dX11_shift_32 (by decide) (fun hc10 => ?_) (fun hc10 => ?_)
      · replace hf := ite_t hf hc10
        refine lv_bipush (v := (-11)) C.x C.b dX11_shift_44 (by decide) ?_
        obtain ⟨rfl, rfl⟩ := pr_s hf
        exact z_iret C Z dX11_shift_46
      · replace hf := ite_f hf hc10
        refine z_aload C dX11_shift_35 (lv_at hl 0 rfl) ?_
        replace hf := drf_s hf; obtain ⟨j11, ej13, hj12, hf⟩ := hf
        subst ej13
        refine z_nn [] (y := j11 + 1) rfl ?_
        refine z_get C Z (lvC42 hj12) kC42 zc8 zin8 0 (by decide) k_350 rfl svC42_0 dX11_shift_37 ?_
        refine lv_iconst (v := (-1)) C.x C.b dX11_shift_40 (by decide) ?_
        refine lv_icmp_ne (tgt := 47) C.x C.b dX11_shift_41 (by decide) (fun hc14 => ?_) (fun hc14 => ?_)
        · replace hf := ite_f hf hc14
          refine lv_aload C.x C.b dX11_shift_47 (lv_at hl 1 rfl) ?_
          refine z_get C Z (lvC42 hj8) kC42 zc8 zin8 0 (by decide) k_350 rfl svC42_0 dX11_shift_49 ?_
          refine lv_aload C.x C.b dX11_shift_52 (lv_at hl 0 rfl) ?_
          refine z_get C Z (lvC42 hj12) kC42 zc8 zin8 0 (by decide) k_350 rfl svC42_0 dX11_shift_54 ?_
          refine lv_icmp_eq (tgt := 63) C.x C.b dX11_shift_57 (by decide) (fun hc15 => ?_) (fun hc15 => ?_)
          · replace hf := ite_t hf hc15
            refine lv_aload C.x C.b dX11_shift_63 (lv_at hl 1 rfl) ?_
            refine lv_iload_n C.x C.b dX11_shift_65 rfl (lv_at hl 4 rfl) ?_
            refine lv_iload C.x C.b dX11_shift_66 (lv_at hl 7 rfl) ?_
            replace hf := bn2_s hf; obtain ⟨v17, m16, hkm16, hf⟩ := hf
            refine z_cV (As := [.int a2, .int a5]) (rest := []) (st1 := [.int v17]) C Z mw_X8_hasItems mv_X8_hasItems k_1163 (by decide) (z_hR hR (by decide)) (lvC42 hj8) kC42 zc8 (c_X8_hasItems (l := l) (K := K) (ad := ad) hj8 hkm16) rfl hl.1 rfl (Nat.le_of_ble_eq_true rfl) dX11_shift_68 hB rfl (fun H locs Z => ?_)
            refine lv_if_eq (tgt := 86) C.x C.b dX11_shift_71 (by decide) (fun hc18 => ?_) (fun hc18 => ?_)
            · replace hf := ite_t hf hc18
              refine lv_bipush (v := (-13)) C.x C.b dX11_shift_86 (by decide) ?_
              obtain ⟨rfl, rfl⟩ := pr_s hf
              exact z_iret C Z dX11_shift_88
            · replace hf := ite_f hf hc18
              refine lv_aload C.x C.b dX11_shift_74 (lv_at hl 0 rfl) ?_
              refine lv_iload C.x C.b dX11_shift_76 (lv_at hl 6 rfl) ?_
              refine lv_iload C.x C.b dX11_shift_78 (lv_at hl 7 rfl) ?_
              replace hf := bn2_s hf; obtain ⟨v20, m19, hkm19, hf⟩ := hf
              refine z_cV (As := [.int a4, .int a5]) (rest := []) (st1 := [.int v20]) C Z mw_X8_hasItems mv_X8_hasItems k_1163 (by decide) (z_hR hR (by decide)) (lvC42 hj12) kC42 zc8 (c_X8_hasItems (l := l) (K := K) (ad := ad) hj12 hkm19) rfl hl.1 rfl (Nat.le_of_ble_eq_true rfl) dX11_shift_80 hB rfl (fun H locs Z => ?_)
              refine lv_if_ne (tgt := 89) C.x C.b dX11_shift_83 (by decide) (fun hc21 => ?_) (fun hc21 => ?_)
              · replace hf := ite_f hf hc21
                refine lv_aload C.x C.b dX11_shift_89 (lv_at hl 1 rfl) ?_
                refine z_get C Z (lvC42 hj8) kC42 zc8 zin8 1 (by decide) k_352 rfl svC42_1 dX11_shift_91 ?_
                refine lv_iload_n C.x C.b dX11_shift_94 rfl (lv_at hl 4 rfl) ?_
                refine lv_aload C.x C.b dX11_shift_95 (lv_at hl 0 rfl) ?_
                refine z_get C Z (lvC42 hj12) kC42 zc8 zin8 1 (by decide) k_352 rfl svC42_1 dX11_shift_97 ?_
                refine lv_iload C.x C.b dX11_shift_100 (lv_at hl 6 rfl) ?_
                refine lv_iload C.x C.b dX11_shift_102 (lv_at hl 7 rfl) ?_
                replace hf := asr_s hf; obtain ⟨hq22, hf⟩ := hf
                replace hf := lt1_s hf; obtain ⟨m23, em23, hf⟩ := hf
                refine z_copyL (M1 := m23) C Z k_1167 k_1169 k_1168 k_122 (lvC43 hj8) (lvC43 hj12) (by decide) kC43 kC43 rfl (fun _ => rfl) hq22 em23 hl.1 hR (by decide) (Nat.le_of_ble_eq_true rfl) dX11_shift_104 (fun H locs Z => ?_)
                refine lv_iload C.x C.b dX11_shift_107 (lv_at hl 7 rfl) ?_
                obtain ⟨rfl, rfl⟩ := pr_s hf
                exact z_iret C Z dX11_shift_109
              · replace hf := ite_t hf hc21
                refine lv_bipush (v := (-13)) C.x C.b dX11_shift_86 (by decide) ?_
                obtain ⟨rfl, rfl⟩ := pr_s hf
                exact z_iret C Z dX11_shift_88
          · replace hf := ite_f hf hc15
            refine lv_bipush (v := (-12)) C.x C.b dX11_shift_60 (by decide) ?_
            obtain ⟨rfl, rfl⟩ := pr_s hf
            exact z_iret C Z dX11_shift_62
        · replace hf := ite_t hf hc14
          refine lv_bipush (v := (-11)) C.x C.b dX11_shift_44 (by decide) ?_
          obtain ⟨rfl, rfl⟩ := pr_s hf
          exact z_iret C Z dX11_shift_46
    · replace hf := ite_t hf hc6
      refine lv_iconst (v := (-1)) C.x C.b dX11_shift_24 (by decide) ?_
      obtain ⟨rfl, rfl⟩ := pr_s hf
      exact z_iret C Z dX11_shift_25
