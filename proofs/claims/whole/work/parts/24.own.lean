theorem dX11_sell_0 : decode cX11_sell 0 = .ok (.aload_n 0, 1) := by decide +kernel
theorem dX11_sell_1 : decode cX11_sell 1 = .ok (.iload_n 1, 1) := by decide +kernel
theorem dX11_sell_2 : decode cX11_sell 2 = .ok (.invokevirtual 122, 3) := by decide +kernel
theorem dX11_sell_5 : decode cX11_sell 5 = .ok (.astore_n 3, 1) := by decide +kernel
theorem dX11_sell_6 : decode cX11_sell 6 = .ok (.aload_n 3, 1) := by decide +kernel
theorem dX11_sell_7 : decode cX11_sell 7 = .ok (.ifnonnull 5, 3) := by decide +kernel
theorem dX11_sell_10 : decode cX11_sell 10 = .ok (.iconst (-1), 1) := by decide +kernel
theorem dX11_sell_11 : decode cX11_sell 11 = .ok (.ireturn, 1) := by decide +kernel
theorem dX11_sell_12 : decode cX11_sell 12 = .ok (.iload_n 2, 1) := by decide +kernel
theorem dX11_sell_13 : decode cX11_sell 13 = .ok (.invokestatic 113, 3) := by decide +kernel
theorem dX11_sell_16 : decode cX11_sell 16 = .ok (.ifCond .ne 6, 3) := by decide +kernel
theorem dX11_sell_19 : decode cX11_sell 19 = .ok (.bipush (-2), 2) := by decide +kernel
theorem dX11_sell_21 : decode cX11_sell 21 = .ok (.ireturn, 1) := by decide +kernel
theorem dX11_sell_22 : decode cX11_sell 22 = .ok (.iload_n 2, 1) := by decide +kernel
theorem dX11_sell_23 : decode cX11_sell 23 = .ok (.aload_n 3, 1) := by decide +kernel
theorem dX11_sell_24 : decode cX11_sell 24 = .ok (.invokevirtual 150, 3) := by decide +kernel
theorem dX11_sell_27 : decode cX11_sell 27 = .ok (.if_icmp .le 6, 3) := by decide +kernel
theorem dX11_sell_30 : decode cX11_sell 30 = .ok (.bipush (-3), 2) := by decide +kernel
theorem dX11_sell_32 : decode cX11_sell 32 = .ok (.ireturn, 1) := by decide +kernel
theorem dX11_sell_33 : decode cX11_sell 33 = .ok (.aload_n 3, 1) := by decide +kernel
theorem dX11_sell_34 : decode cX11_sell 34 = .ok (.dup, 1) := by decide +kernel
theorem dX11_sell_35 : decode cX11_sell 35 = .ok (.getfield 165, 3) := by decide +kernel
theorem dX11_sell_38 : decode cX11_sell 38 = .ok (.iload_n 2, 1) := by decide +kernel
theorem dX11_sell_39 : decode cX11_sell 39 = .ok (.iadd, 1) := by decide +kernel
theorem dX11_sell_40 : decode cX11_sell 40 = .ok (.putfield 165, 3) := by decide +kernel
theorem dX11_sell_43 : decode cX11_sell 43 = .ok (.aload_n 3, 1) := by decide +kernel
theorem dX11_sell_44 : decode cX11_sell 44 = .ok (.invokevirtual 150, 3) := by decide +kernel
theorem dX11_sell_47 : decode cX11_sell 47 = .ok (.ireturn, 1) := by decide +kernel
set_option maxRecDepth 100000 in
set_option maxHeartbeats 4000000 in
theorem c_X11_sell {l : Launch} {K : KG} {ad : Nat → Nat → Nat} {fl : Nat} {a1 : Int32} {a2 : Int32} {M0 : Mem} {r9 : Int32} {M9 : Mem} (hf : f_X11_sell fl a1 a2 M0 = some (r9, M9)) : Met l yX11_sell (Cond.code yX11_sell cX11_sell 4 (some .int) :: ztb) (RM (3) 0 0) (zPc K LC ad M0 [.ref (ad 0 0), .int a1, .int a2]) (zQ K LC ad (some (.int r9)) M9) 0 0 (zA ad) := by
  refine z_enter (by decide) (Nat.le_of_ble_eq_true rfl) ?_
  intro p e s m args below meth c ls C hin hargs Z hl
  replace C : Cx p s m args meth c cX11_sell 4 "GlassPalace" (some .int) := C
  replace hl : lv_has ls 4 [(0, .ref (ad 0 0)), (1, .int a1), (2, .int a2)] := hl
  have hR : 3 ≤ (RM (3) 0 0).frames ∧ 40 * (3) ≤ (RM (3) 0 0).locals := ⟨Nat.le_refl _, Nat.le_refl _⟩
  have hB : 0 ≤ (RM (3) 0 0).cells ∧ 0 ≤ (RM (3) 0 0).slots := ⟨Nat.zero_le _, Nat.zero_le _⟩
  unfold f_X11_sell at hf
  refine lv_aload_n C.x C.b dX11_sell_0 rfl (lv_at hl 0 rfl) ?_
  refine lv_iload_n C.x C.b dX11_sell_1 rfl (lv_at hl 1 rfl) ?_
  replace hf := bn2_s hf; obtain ⟨c2, m1, hkm1, hf⟩ := hf
  refine z_cV (As := [.int a1]) (rest := []) (st1 := [rf (ad 23) c2]) C Z mw_X11_lotOf mv_X11_lotOf k_512 (by decide) (z_hR hR (by decide)) (lvC0 Nat.zero_lt_one) kC0 zc11 (c_X11_lotOf (l := l) (K := K) (ad := ad) hkm1) rfl hl.1 rfl (Nat.le_of_ble_eq_true rfl) dX11_sell_2 hB rfl (fun H locs Z => ?_)
  refine z_cstore_n (lv' := [(3, rf (ad 23) c2), (0, .ref (ad 0 0)), (1, .int a1), (2, .int a2)]) C dX11_sell_5 rfl hl (by decide) rfl (onlast 2 rfl rfl rfl) (fun ls hl => ?_)
  refine z_aload_n C dX11_sell_6 rfl (lv_at hl 0 rfl) ?_
  refine z_ifnonnull C dX11_sell_7 (tgt := 12) (by decide) (fun hc3 => ?_) (fun hc3 => ?_)
  · replace hf := ite_f hf hc3
    refine lv_iload_n C.x C.b dX11_sell_12 rfl (lv_at hl 3 rfl) ?_
    replace hf := bn2_s hf; obtain ⟨v5, m4, hkm4, hf⟩ := hf
    refine z_cS (As := [.int a2]) (rest := []) (st1 := [.int v5]) C Z mw_X11_isNumberOfPieces mv_X11_isNumberOfPieces k_449 (by decide) (z_hR hR (by decide)) (c_X11_isNumberOfPieces (l := l) (K := K) (ad := ad) hkm4) rfl hl.1 rfl (Nat.le_of_ble_eq_true rfl) dX11_sell_13 hB rfl (fun H locs Z => ?_)
    refine lv_if_ne (tgt := 22) C.x C.b dX11_sell_16 (by decide) (fun hc6 => ?_) (fun hc6 => ?_)
    · replace hf := ite_f hf hc6
      refine lv_iload_n C.x C.b dX11_sell_22 rfl (lv_at hl 3 rfl) ?_
      refine z_aload_n C dX11_sell_23 rfl (lv_at hl 0 rfl) ?_
      replace hf := drf_s hf; obtain ⟨j7, ej9, hj8, hf⟩ := hf
      subst ej9
      refine z_nn [] (y := j7 + 1) rfl ?_
      replace hf := bn2_s hf; obtain ⟨v11, m10, hkm10, hf⟩ := hf
      refine z_cV (As := []) (rest := [.int a2]) (st1 := [.int v11, .int a2]) C Z mw_X4_stock mv_X4_stock k_524 (by decide) (z_hR hR (by decide)) (lvC23 hj8) kC23 zc4 (c_X4_stock (l := l) (K := K) (ad := ad) hj8 hkm10) rfl hl.1 rfl (Nat.le_of_ble_eq_true rfl) dX11_sell_24 hB rfl (fun H locs Z => ?_)
      refine lv_icmp_le (tgt := 33) C.x C.b dX11_sell_27 (by decide) (fun hc12 => ?_) (fun hc12 => ?_)
      · replace hf := ite_t hf hc12
        refine lv_aload_n C.x C.b dX11_sell_33 rfl (lv_at hl 0 rfl) ?_
        refine lv_dup C.x C.b dX11_sell_34 rfl ?_
        replace hf := asr_s hf; obtain ⟨hq13, hf⟩ := hf
        refine z_get C Z (lvC23 hq13) kC23 zc4 zin4 10 (by decide) k_484 rfl svC23_10 dX11_sell_35 ?_
        refine lv_iload_n C.x C.b dX11_sell_38 rfl (lv_at hl 3 rfl) ?_
        refine lv_iadd C.x C.b dX11_sell_39 ?_
        replace hf := lt1_s hf; obtain ⟨m14, em14, hf⟩ := hf
        refine z_put (M1 := m14) C Z (lvC23 hq13) (by decide) kC23 zc4 zin4 tyX4_ok nmX4 10 (by decide) k_484 rfl (zUp_I em14 stC23_10u) (Or.inl rfl) rfl rfl dX11_sell_40 (fun H locs Z => ?_)
        refine lv_aload_n C.x C.b dX11_sell_43 rfl (lv_at hl 0 rfl) ?_
        replace hf := bn2_s hf; obtain ⟨v16, m15, hkm15, hf⟩ := hf
        refine z_cV (As := []) (rest := []) (st1 := [.int v16]) C Z mw_X4_stock mv_X4_stock k_524 (by decide) (z_hR hR (by decide)) (lvC23 (by rw [em14]; exact hq13)) kC23 zc4 (c_X4_stock (l := l) (K := K) (ad := ad) (by rw [em14]; exact hq13) hkm15) rfl hl.1 rfl (Nat.le_of_ble_eq_true rfl) dX11_sell_44 hB rfl (fun H locs Z => ?_)
        obtain ⟨rfl, rfl⟩ := pr_s hf
        exact z_iret C Z dX11_sell_47
      · replace hf := ite_f hf hc12
        refine lv_bipush (v := (-3)) C.x C.b dX11_sell_30 (by decide) ?_
        obtain ⟨rfl, rfl⟩ := pr_s hf
        exact z_iret C Z dX11_sell_32
    · replace hf := ite_t hf hc6
      refine lv_bipush (v := (-2)) C.x C.b dX11_sell_19 (by decide) ?_
      obtain ⟨rfl, rfl⟩ := pr_s hf
      exact z_iret C Z dX11_sell_21
  · replace hf := ite_t hf hc3
    refine lv_iconst (v := (-1)) C.x C.b dX11_sell_10 (by decide) ?_
    obtain ⟨rfl, rfl⟩ := pr_s hf
    exact z_iret C Z dX11_sell_11
theorem dX11_wants_0 : decode cX11_wants 0 = .ok (.aload_n 0, 1) := by decide +kernel
theorem dX11_wants_1 : decode cX11_wants 1 = .ok (.iload_n 1, 1) := by decide +kernel
theorem dX11_wants_2 : decode cX11_wants 2 = .ok (.invokevirtual 92, 3) := by decide +kernel
theorem dX11_wants_5 : decode cX11_wants 5 = .ok (.astore_n 2, 1) := by decide +kernel
theorem dX11_wants_6 : decode cX11_wants 6 = .ok (.aload_n 2, 1) := by decide +kernel
theorem dX11_wants_7 : decode cX11_wants 7 = .ok (.ifnonnull 7, 3) := by decide +kernel
theorem dX11_wants_10 : decode cX11_wants 10 = .ok (.iconst (-1), 1) := by decide +kernel
theorem dX11_wants_11 : decode cX11_wants 11 = .ok (.goto 7, 3) := by decide +kernel
theorem dX11_wants_14 : decode cX11_wants 14 = .ok (.aload_n 2, 1) := by decide +kernel
theorem dX11_wants_15 : decode cX11_wants 15 = .ok (.invokevirtual 168, 3) := by decide +kernel
theorem dX11_wants_18 : decode cX11_wants 18 = .ok (.ireturn, 1) := by decide +kernel
set_option maxRecDepth 100000 in
set_option maxHeartbeats 4000000 in
theorem c_X11_wants {l : Launch} {K : KG} {ad : Nat → Nat → Nat} {fl : Nat} {a1 : Int32} {M0 : Mem} {r9 : Int32} {M9 : Mem} (hf : f_X11_wants fl a1 M0 = some (r9, M9)) : Met l yX11_wants (Cond.code yX11_wants cX11_wants 3 (some .int) :: ztb) (RM (3) 0 0) (zPc K LC ad M0 [.ref (ad 0 0), .int a1]) (zQ K LC ad (some (.int r9)) M9) 0 0 (zA ad) := by
  refine z_enter (by decide) (Nat.le_of_ble_eq_true rfl) ?_
  intro p e s m args below meth c ls C hin hargs Z hl
  replace C : Cx p s m args meth c cX11_wants 3 "GlassPalace" (some .int) := C
  replace hl : lv_has ls 3 [(0, .ref (ad 0 0)), (1, .int a1)] := hl
  have hR : 3 ≤ (RM (3) 0 0).frames ∧ 40 * (3) ≤ (RM (3) 0 0).locals := ⟨Nat.le_refl _, Nat.le_refl _⟩
  have hB : 0 ≤ (RM (3) 0 0).cells ∧ 0 ≤ (RM (3) 0 0).slots := ⟨Nat.zero_le _, Nat.zero_le _⟩
  unfold f_X11_wants at hf
  refine lv_aload_n C.x C.b dX11_wants_0 rfl (lv_at hl 0 rfl) ?_
  refine lv_iload_n C.x C.b dX11_wants_1 rfl (lv_at hl 1 rfl) ?_
  replace hf := bn2_s hf; obtain ⟨c2, m1, hkm1, hf⟩ := hf
  refine z_cV (As := [.int a1]) (rest := []) (st1 := [rf (ad 13) c2]) C Z mw_X11_bayOf mv_X11_bayOf k_416 (by decide) (z_hR hR (by decide)) (lvC0 Nat.zero_lt_one) kC0 zc11 (c_X11_bayOf (l := l) (K := K) (ad := ad) hkm1) rfl hl.1 rfl (Nat.le_of_ble_eq_true rfl) dX11_wants_2 hB rfl (fun H locs Z => ?_)
  refine z_cstore_n (lv' := [(2, rf (ad 13) c2), (0, .ref (ad 0 0)), (1, .int a1)]) C dX11_wants_5 rfl hl (by decide) rfl (onlast 1 rfl rfl rfl) (fun ls hl => ?_)
  refine z_aload_n C dX11_wants_6 rfl (lv_at hl 0 rfl) ?_
  refine z_ifnonnull C dX11_wants_7 (tgt := 14) (by decide) (fun hc3 => ?_) (fun hc3 => ?_)
  · replace hf := ite_f hf hc3
    refine z_aload_n C dX11_wants_14 rfl (lv_at hl 0 rfl) ?_
    replace hf := drf_s hf; obtain ⟨j4, ej6, hj5, hf⟩ := hf
    subst ej6
    refine z_nn [] (y := j4 + 1) rfl ?_
    replace hf := bn2_s hf; obtain ⟨v8, m7, hkm7, hf⟩ := hf
    refine z_cV (As := []) (rest := []) (st1 := [.int v8]) C Z mw_X1_wantedLength mv_X1_wantedLength k_589 (by decide) (z_hR hR (by decide)) (lvC13 hj5) kC13 zc1 (c_X1_wantedLength (l := l) (K := K) (ad := ad) hj5 hkm7) rfl hl.1 rfl (Nat.le_of_ble_eq_true rfl) dX11_wants_15 hB rfl (fun H locs Z => ?_)
    obtain ⟨rfl, rfl⟩ := pr_s hf
    exact z_iret C Z dX11_wants_18
  · replace hf := ite_t hf hc3
    refine lv_iconst (v := (-1)) C.x C.b dX11_wants_10 (by decide) ?_
    refine lv_goto (tgt := 18) C.x C.b dX11_wants_11 (by decide) ?_
    obtain ⟨rfl, rfl⟩ := pr_s hf
    exact z_iret C Z dX11_wants_18
theorem dX11_hasLengthFor_0 : decode cX11_hasLengthFor 0 = .ok (.aload_n 1, 1) := by decide +kernel
theorem dX11_hasLengthFor_1 : decode cX11_hasLengthFor 1 = .ok (.invokevirtual 168, 3) := by decide +kernel
theorem dX11_hasLengthFor_4 : decode cX11_hasLengthFor 4 = .ok (.iload_n 2, 1) := by decide +kernel
theorem dX11_hasLengthFor_5 : decode cX11_hasLengthFor 5 = .ok (.isub, 1) := by decide +kernel
theorem dX11_hasLengthFor_6 : decode cX11_hasLengthFor 6 = .ok (.istore_n 3, 1) := by decide +kernel
theorem dX11_hasLengthFor_7 : decode cX11_hasLengthFor 7 = .ok (.iload_n 3, 1) := by decide +kernel
theorem dX11_hasLengthFor_8 : decode cX11_hasLengthFor 8 = .ok (.ifCond .lt 23, 3) := by decide +kernel
theorem dX11_hasLengthFor_11 : decode cX11_hasLengthFor 11 = .ok (.iload_n 3, 1) := by decide +kernel
theorem dX11_hasLengthFor_12 : decode cX11_hasLengthFor 12 = .ok (.aload_n 0, 1) := by decide +kernel
theorem dX11_hasLengthFor_13 : decode cX11_hasLengthFor 13 = .ok (.getfield 40, 3) := by decide +kernel
theorem dX11_hasLengthFor_16 : decode cX11_hasLengthFor 16 = .ok (.iconst 0, 1) := by decide +kernel
theorem dX11_hasLengthFor_17 : decode cX11_hasLengthFor 17 = .ok (.aload_n 0, 1) := by decide +kernel
theorem dX11_hasLengthFor_18 : decode cX11_hasLengthFor 18 = .ok (.getfield 88, 3) := by decide +kernel
theorem dX11_hasLengthFor_21 : decode cX11_hasLengthFor 21 = .ok (.invokevirtual 158, 3) := by decide +kernel
theorem dX11_hasLengthFor_24 : decode cX11_hasLengthFor 24 = .ok (.if_icmp .gt 7, 3) := by decide +kernel
theorem dX11_hasLengthFor_27 : decode cX11_hasLengthFor 27 = .ok (.iconst 1, 1) := by decide +kernel
theorem dX11_hasLengthFor_28 : decode cX11_hasLengthFor 28 = .ok (.goto 4, 3) := by decide +kernel
theorem dX11_hasLengthFor_31 : decode cX11_hasLengthFor 31 = .ok (.iconst 0, 1) := by decide +kernel
theorem dX11_hasLengthFor_32 : decode cX11_hasLengthFor 32 = .ok (.ireturn, 1) := by decide +kernel
set_option maxRecDepth 100000 in
set_option maxHeartbeats 4000000 in
theorem c_X11_hasLengthFor {l : Launch} {K : KG} {ad : Nat → Nat → Nat} {fl : Nat} {a1 : Nat} {a2 : Int32} {M0 : Mem} {r9 : Int32} {M9 : Mem} (hf : f_X11_hasLengthFor fl a1 a2 M0 = some (r9, M9)) : Met l yX11_hasLengthFor (Cond.code yX11_hasLengthFor cX11_hasLengthFor 4 (some .boolean) :: ztb) (RM (4) 0 0) (zPc K LC ad M0 [.ref (ad 0 0), rf (ad 13) a1, .int a2]) (zQ K LC ad (some (.int r9)) M9) 0 0 (zA ad) := by
  refine z_enter (by decide) (by simp [lg_sl, rf_cat, cat_i, cat_l, cat_r, cat_n]) ?_
  intro p e s m args below meth c ls C hin hargs Z hl
  replace C : Cx p s m args meth c cX11_hasLengthFor 4 "GlassPalace" (some .boolean) := C
  replace hl : lv_has ls 4 [(0, .ref (ad 0 0)), (1, rf (ad 13) a1), (2, .int a2)] := by simpa [lv_args, rf_cat, cat_i, cat_l, cat_r, cat_n] using hl
  have hR : 4 ≤ (RM (4) 0 0).frames ∧ 40 * (4) ≤ (RM (4) 0 0).locals := ⟨Nat.le_refl _, Nat.le_refl _⟩
  have hB : 0 ≤ (RM (4) 0 0).cells ∧ 0 ≤ (RM (4) 0 0).slots := ⟨Nat.zero_le _, Nat.zero_le _⟩
  unfold f_X11_hasLengthFor at hf
  refine z_aload_n C dX11_hasLengthFor_0 rfl (lv_at hl 1 rfl) ?_
  replace hf := drf_s hf; obtain ⟨j1, ej3, hj2, hf⟩ := hf
  subst ej3
  refine z_nn [] (y := j1 + 1) rfl ?_
  replace hf := bn2_s hf; obtain ⟨v5, m4, hkm4, hf⟩ := hf
  refine z_cV (As := []) (rest := []) (st1 := [.int v5]) C Z mw_X1_wantedLength mv_X1_wantedLength k_589 (by decide) (z_hR hR (by decide)) (lvC13 hj2) kC13 zc1 (c_X1_wantedLength (l := l) (K := K) (ad := ad) hj2 hkm4) rfl hl.1 rfl (Nat.le_of_ble_eq_true rfl) dX11_hasLengthFor_1 hB rfl (fun H locs Z => ?_)
  refine lv_iload_n C.x C.b dX11_hasLengthFor_4 rfl (lv_at hl 2 rfl) ?_
  refine lv_isub C.x C.b dX11_hasLengthFor_5 ?_
  replace hf := lt1_s hf; obtain ⟨x6, ex6, hf⟩ := hf
  refine z_renI ex6 ?_
  refine z_istore_n (lv' := [(3, .int x6), (0, .ref (ad 0 0)), (1, .ref (ad 13 j1)), (2, .int a2)]) C dX11_hasLengthFor_6 rfl hl (by decide) rfl (onlast 2 rfl rfl rfl) (fun ls hl => ?_)
  refine lv_iload_n C.x C.b dX11_hasLengthFor_7 rfl (lv_at hl 0 rfl) ?_
  refine lv_if_lt (tgt := 31) C.x C.b dX11_hasLengthFor_8 (by decide) (fun hc7 => ?_) (fun hc7 => ?_)
  · replace hf := ite_t hf hc7
    refine lv_iconst (v := 0) C.x C.b dX11_hasLengthFor_31 (by decide) ?_
    obtain ⟨rfl, rfl⟩ := pr_s hf
    exact z_zret C Z rfl dX11_hasLengthFor_32
  · replace hf := ite_f hf hc7
    refine lv_iload_n C.x C.b dX11_hasLengthFor_11 rfl (lv_at hl 0 rfl) ?_
    refine lv_aload_n C.x C.b dX11_hasLengthFor_12 rfl (lv_at hl 1 rfl) ?_
    refine z_get C Z (lvC0 Nat.zero_lt_one) kC0 zc11 zin11 7 (by decide) k_369 rfl svC0_7 dX11_hasLengthFor_13 ?_
    refine lv_iconst (v := 0) C.x C.b dX11_hasLengthFor_16 (by decide) ?_
    refine lv_aload_n C.x C.b dX11_hasLengthFor_17 rfl (lv_at hl 1 rfl) ?_
    refine z_get C Z (lvC0 Nat.zero_lt_one) kC0 zc11 zin11 0 (by decide) k_362 rfl svC0_0 dX11_hasLengthFor_18 ?_
    replace hf := bn2_s hf; obtain ⟨v9, m8, hkm8, hf⟩ := hf
    refine z_cV (As := [.int 0, .int (gI m4 0 0 0)]) (rest := [.int x6]) (st1 := [.int v9, .int x6]) C Z mw_X3_numberFor mv_X3_numberFor k_571 (by decide) (z_hR hR (by decide)) (lvC6 Nat.zero_lt_one) kC6 zc3 (c_X3_numberFor (l := l) (K := K) (ad := ad) hkm8) rfl hl.1 rfl (Nat.le_of_ble_eq_true rfl) dX11_hasLengthFor_21 hB rfl (fun H locs Z => ?_)
    refine lv_icmp_gt (tgt := 31) C.x C.b dX11_hasLengthFor_24 (by decide) (fun hc10 => ?_) (fun hc10 => ?_)
    · replace hf := ite_t hf hc10
      refine lv_iconst (v := 0) C.x C.b dX11_hasLengthFor_31 (by decide) ?_
      obtain ⟨rfl, rfl⟩ := pr_s hf
      exact z_zret C Z rfl dX11_hasLengthFor_32
    · replace hf := ite_f hf hc10
      refine lv_iconst (v := 1) C.x C.b dX11_hasLengthFor_27 (by decide) ?_
      refine lv_goto (tgt := 32) C.x C.b dX11_hasLengthFor_28 (by decide) ?_
      obtain ⟨rfl, rfl⟩ := pr_s hf
      exact z_zret C Z rfl dX11_hasLengthFor_32
theorem dX11_rightOf_0 : decode cX11_rightOf 0 = .ok (.aload_n 1, 1) := by decide +kernel
theorem dX11_rightOf_1 : decode cX11_rightOf 1 = .ok (.invokevirtual 444, 3) := by decide +kernel
theorem dX11_rightOf_4 : decode cX11_rightOf 4 = .ok (.iconst 5, 1) := by decide +kernel
theorem dX11_rightOf_5 : decode cX11_rightOf 5 = .ok (.if_icmp .ne 7, 3) := by decide +kernel
theorem dX11_rightOf_8 : decode cX11_rightOf 8 = .ok (.aconst_null, 1) := by decide +kernel
theorem dX11_rightOf_9 : decode cX11_rightOf 9 = .ok (.goto 13, 3) := by decide +kernel
theorem dX11_rightOf_12 : decode cX11_rightOf 12 = .ok (.aload_n 0, 1) := by decide +kernel
theorem dX11_rightOf_13 : decode cX11_rightOf 13 = .ok (.aload_n 1, 1) := by decide +kernel
theorem dX11_rightOf_14 : decode cX11_rightOf 14 = .ok (.getfield 264, 3) := by decide +kernel
theorem dX11_rightOf_17 : decode cX11_rightOf 17 = .ok (.iconst 1, 1) := by decide +kernel
theorem dX11_rightOf_18 : decode cX11_rightOf 18 = .ok (.iadd, 1) := by decide +kernel
theorem dX11_rightOf_19 : decode cX11_rightOf 19 = .ok (.invokevirtual 92, 3) := by decide +kernel
theorem dX11_rightOf_22 : decode cX11_rightOf 22 = .ok (.areturn, 1) := by decide +kernel
set_option maxRecDepth 100000 in
set_option maxHeartbeats 4000000 in
theorem c_X11_rightOf {l : Launch} {K : KG} {ad : Nat → Nat → Nat} {fl : Nat} {a1 : Nat} {M0 : Mem} {r9 : Nat} {M9 : Mem} (hf : f_X11_rightOf fl a1 M0 = some (r9, M9)) : Met l yX11_rightOf (Cond.code yX11_rightOf cX11_rightOf 2 (some (.object "GlassPalace$Bay")) :: ztb) (RM (3) 0 0) (zPc K LC ad M0 [.ref (ad 0 0), rf (ad 13) a1]) (zQ K LC ad (some (rf (ad 13) r9)) M9) 0 0 (zA ad) := by
  refine z_enter (by decide) (by simp [lg_sl, rf_cat, cat_i, cat_l, cat_r, cat_n]) ?_
  intro p e s m args below meth c ls C hin hargs Z hl
  replace C : Cx p s m args meth c cX11_rightOf 2 "GlassPalace" (some (.object "GlassPalace$Bay")) := C
  replace hl : lv_has ls 2 [(0, .ref (ad 0 0)), (1, rf (ad 13) a1)] := by simpa [lv_args, rf_cat, cat_i, cat_l, cat_r, cat_n] using hl
  have hR : 3 ≤ (RM (3) 0 0).frames ∧ 40 * (3) ≤ (RM (3) 0 0).locals := ⟨Nat.le_refl _, Nat.le_refl _⟩
  have hB : 0 ≤ (RM (3) 0 0).cells ∧ 0 ≤ (RM (3) 0 0).slots := ⟨Nat.zero_le _, Nat.zero_le _⟩
  unfold f_X11_rightOf at hf
  refine z_aload_n C dX11_rightOf_0 rfl (lv_at hl 1 rfl) ?_
  replace hf := drf_s hf; obtain ⟨j1, ej3, hj2, hf⟩ := hf
  subst ej3
  refine z_nn [] (y := j1 + 1) rfl ?_
  replace hf := bn2_s hf; obtain ⟨v5, m4, hkm4, hf⟩ := hf
  refine z_cV (As := []) (rest := []) (st1 := [.int v5]) C Z mw_X1_column mv_X1_column k_622 (by decide) (z_hR hR (by decide)) (lvC13 hj2) kC13 zc1 (c_X1_column (l := l) (K := K) (ad := ad) hj2 hkm4) rfl hl.1 rfl (Nat.le_of_ble_eq_true rfl) dX11_rightOf_1 hB rfl (fun H locs Z => ?_)
  refine lv_iconst (v := 5) C.x C.b dX11_rightOf_4 (by decide) ?_
  refine lv_icmp_ne (tgt := 12) C.x C.b dX11_rightOf_5 (by decide) (fun hc6 => ?_) (fun hc6 => ?_)
  · replace hf := ite_f hf hc6
    refine lv_aload_n C.x C.b dX11_rightOf_12 rfl (lv_at hl 0 rfl) ?_
    refine lv_aload_n C.x C.b dX11_rightOf_13 rfl (lv_at hl 1 rfl) ?_
    refine z_get C Z (lvC13 hj2) kC13 zc1 zin1 0 (by decide) k_312 rfl svC13_0 dX11_rightOf_14 ?_
    refine lv_iconst (v := 1) C.x C.b dX11_rightOf_17 (by decide) ?_
    refine lv_iadd C.x C.b dX11_rightOf_18 ?_
    replace hf := bn2_s hf; obtain ⟨c8, m7, hkm7, hf⟩ := hf
    refine z_cV (As := [.int ((gI m4 13 j1 0) + 1)]) (rest := []) (st1 := [rf (ad 13) c8]) C Z mw_X11_bayOf mv_X11_bayOf k_416 (by decide) (z_hR hR (by decide)) (lvC0 Nat.zero_lt_one) kC0 zc11 (c_X11_bayOf (l := l) (K := K) (ad := ad) hkm7) rfl hl.1 rfl (Nat.le_of_ble_eq_true rfl) dX11_rightOf_19 hB rfl (fun H locs Z => ?_)
    obtain ⟨rfl, rfl⟩ := pr_s hf
    exact z_aret (f := ad 13) (k := _) C Z dX11_rightOf_22
  · replace hf := ite_t hf hc6
    refine lv_null C.x C.b dX11_rightOf_8 ?_
    refine lv_goto (tgt := 22) C.x C.b dX11_rightOf_9 (by decide) ?_
    obtain ⟨rfl, rfl⟩ := pr_s hf
    exact z_aret (f := ad 13) (k := 0) C Z dX11_rightOf_22
theorem dX11_hasGroundFor_0 : decode cX11_hasGroundFor 0 = .ok (.iload_n 2, 1) := by decide +kernel
theorem dX11_hasGroundFor_1 : decode cX11_hasGroundFor 1 = .ok (.iconst 3, 1) := by decide +kernel
theorem dX11_hasGroundFor_2 : decode cX11_hasGroundFor 2 = .ok (.if_icmp .eq 8, 3) := by decide +kernel
theorem dX11_hasGroundFor_5 : decode cX11_hasGroundFor 5 = .ok (.iload_n 2, 1) := by decide +kernel
theorem dX11_hasGroundFor_6 : decode cX11_hasGroundFor 6 = .ok (.iconst 4, 1) := by decide +kernel
theorem dX11_hasGroundFor_7 : decode cX11_hasGroundFor 7 = .ok (.if_icmp .ne 9, 3) := by decide +kernel
theorem dX11_hasGroundFor_10 : decode cX11_hasGroundFor 10 = .ok (.aload_n 1, 1) := by decide +kernel
theorem dX11_hasGroundFor_11 : decode cX11_hasGroundFor 11 = .ok (.iconst 2, 1) := by decide +kernel
theorem dX11_hasGroundFor_12 : decode cX11_hasGroundFor 12 = .ok (.invokevirtual 247, 3) := by decide +kernel
theorem dX11_hasGroundFor_15 : decode cX11_hasGroundFor 15 = .ok (.ireturn, 1) := by decide +kernel
theorem dX11_hasGroundFor_16 : decode cX11_hasGroundFor 16 = .ok (.aload_n 0, 1) := by decide +kernel
theorem dX11_hasGroundFor_17 : decode cX11_hasGroundFor 17 = .ok (.aload_n 1, 1) := by decide +kernel
theorem dX11_hasGroundFor_18 : decode cX11_hasGroundFor 18 = .ok (.invokevirtual 456, 3) := by decide +kernel
theorem dX11_hasGroundFor_21 : decode cX11_hasGroundFor 21 = .ok (.astore_n 3, 1) := by decide +kernel
theorem dX11_hasGroundFor_22 : decode cX11_hasGroundFor 22 = .ok (.iload_n 2, 1) := by decide +kernel
theorem dX11_hasGroundFor_23 : decode cX11_hasGroundFor 23 = .ok (.iconst 2, 1) := by decide +kernel
theorem dX11_hasGroundFor_24 : decode cX11_hasGroundFor 24 = .ok (.if_icmp .ne 23, 3) := by decide +kernel
theorem dX11_hasGroundFor_27 : decode cX11_hasGroundFor 27 = .ok (.aload_n 1, 1) := by decide +kernel
theorem dX11_hasGroundFor_28 : decode cX11_hasGroundFor 28 = .ok (.iconst 1, 1) := by decide +kernel
theorem dX11_hasGroundFor_29 : decode cX11_hasGroundFor 29 = .ok (.invokevirtual 247, 3) := by decide +kernel
theorem dX11_hasGroundFor_32 : decode cX11_hasGroundFor 32 = .ok (.ifCond .eq 19, 3) := by decide +kernel
theorem dX11_hasGroundFor_35 : decode cX11_hasGroundFor 35 = .ok (.aload_n 3, 1) := by decide +kernel
theorem dX11_hasGroundFor_36 : decode cX11_hasGroundFor 36 = .ok (.ifnull 11, 3) := by decide +kernel
theorem dX11_hasGroundFor_39 : decode cX11_hasGroundFor 39 = .ok (.aload_n 3, 1) := by decide +kernel
theorem dX11_hasGroundFor_40 : decode cX11_hasGroundFor 40 = .ok (.iconst 1, 1) := by decide +kernel
theorem dX11_hasGroundFor_41 : decode cX11_hasGroundFor 41 = .ok (.invokevirtual 247, 3) := by decide +kernel
theorem dX11_hasGroundFor_44 : decode cX11_hasGroundFor 44 = .ok (.ifCond .eq 7, 3) := by decide +kernel
theorem dX11_hasGroundFor_47 : decode cX11_hasGroundFor 47 = .ok (.iconst 1, 1) := by decide +kernel
theorem dX11_hasGroundFor_48 : decode cX11_hasGroundFor 48 = .ok (.goto 4, 3) := by decide +kernel
theorem dX11_hasGroundFor_51 : decode cX11_hasGroundFor 51 = .ok (.iconst 0, 1) := by decide +kernel
theorem dX11_hasGroundFor_52 : decode cX11_hasGroundFor 52 = .ok (.ireturn, 1) := by decide +kernel
set_option maxRecDepth 100000 in
set_option maxHeartbeats 4000000 in
theorem w_X11_hasGroundFor_b10 {p : Program} {l : Launch} {e : Env} {s : State} {m : MethodId} {args : Array Value} {below : List Frame} {meth : Method} {c : Code} {K : KG} {ad : Nat → Nat → Nat} {fl : Nat} {H : Heap} {locs : List Loc} {ls : Array Slot} {g1 : Nat} {M0 : Mem} {r9 : Int32} {M9 : Mem} (C : Cx p s m args meth c cX11_hasGroundFor 4 "GlassPalace" (some .boolean)) (hR : 4 ≤ (RM (4) 0 0).frames ∧ 40 * (4) ≤ (RM (4) 0 0).locals) (hB : 0 ≤ (RM (4) 0 0).cells ∧ 0 ≤ (RM (4) 0 0).slots) (Z : Zd K LC ad M0 s H locs) (hl : lv_has ls 4 [(1, rf (ad 13) g1)]) (hf : f_X11_hasGroundFor_b10 fl g1 M0 = some (r9, M9)) : W p l e (RM (4) 0 0) s m args below meth c H locs 0 0 (MQ below (zQ K LC ad (some (.int r9)) M9) args s 0 0 (zA ad)) (F0 m 10 ls []) := by
  unfold f_X11_hasGroundFor_b10 at hf
  refine z_aload_n C dX11_hasGroundFor_10 rfl (lv_at hl 0 rfl) ?_
  refine lv_iconst (v := 2) C.x C.b dX11_hasGroundFor_11 (by decide) ?_
  replace hf := drf_s hf; obtain ⟨j2, ej4, hj3, hf⟩ := hf
  subst ej4
  refine z_nn [.int 2] (y := j2 + 1) rfl ?_
  replace hf := bn2_s hf; obtain ⟨v6, m5, hkm5, hf⟩ := hf
  refine z_cV (As := [.int 2]) (rest := []) (st1 := [.int v6]) C Z mw_X1_has mv_X1_has k_617 (by decide) (z_hR hR (by decide)) (lvC13 hj3) kC13 zc1 (c_X1_has (l := l) (K := K) (ad := ad) hj3 hkm5) rfl hl.1 rfl (Nat.le_of_ble_eq_true rfl) dX11_hasGroundFor_12 hB rfl (fun H locs Z => ?_)
  replace hf := asr_s hf; obtain ⟨hq7, hf⟩ := hf
  obtain ⟨rfl, rfl⟩ := pr_s hf
  exact z_zret C Z (jz01 hq7) dX11_hasGroundFor_15
set_option maxRecDepth 100000 in
set_option maxHeartbeats 4000000 in
theorem c_X11_hasGroundFor {l : Launch} {K : KG} {ad : Nat → Nat → Nat} {fl : Nat} {a1 : Nat} {a2 : Int32} {M0 : Mem} {r9 : Int32} {M9 : Mem} (hf : f_X11_hasGroundFor fl a1 a2 M0 = some (r9, M9)) : Met l yX11_hasGroundFor (Cond.code yX11_hasGroundFor cX11_hasGroundFor 4 (some .boolean) :: ztb) (RM (4) 0 0) (zPc K LC ad M0 [.ref (ad 0 0), rf (ad 13) a1, .int a2]) (zQ K LC ad (some (.int r9)) M9) 0 0 (zA ad) := by
  refine z_enter (by decide) (by simp [lg_sl, rf_cat, cat_i, cat_l, cat_r, cat_n]) ?_
  intro p e s m args below meth c ls C hin hargs Z hl
  replace C : Cx p s m args meth c cX11_hasGroundFor 4 "GlassPalace" (some .boolean) := C
  replace hl : lv_has ls 4 [(0, .ref (ad 0 0)), (1, rf (ad 13) a1), (2, .int a2)] := by simpa [lv_args, rf_cat, cat_i, cat_l, cat_r, cat_n] using hl
  have hR : 4 ≤ (RM (4) 0 0).frames ∧ 40 * (4) ≤ (RM (4) 0 0).locals := ⟨Nat.le_refl _, Nat.le_refl _⟩
  have hB : 0 ≤ (RM (4) 0 0).cells ∧ 0 ≤ (RM (4) 0 0).slots := ⟨Nat.zero_le _, Nat.zero_le _⟩
  unfold f_X11_hasGroundFor at hf
  refine lv_iload_n C.x C.b dX11_hasGroundFor_0 rfl (lv_at hl 2 rfl) ?_
  refine lv_iconst (v := 3) C.x C.b dX11_hasGroundFor_1 (by decide) ?_
  refine lv_icmp_eq (tgt := 10) C.x C.b dX11_hasGroundFor_2 (by decide) (fun hc1 => ?_) (fun hc1 => ?_)
  · replace hf := ite_t hf hc1
    exact w_X11_hasGroundFor_b10 C hR hB  Z (lv_sub hl [1] rfl) hf
  · replace hf := ite_f hf hc1
    refine lv_iload_n C.x C.b dX11_hasGroundFor_5 rfl (lv_at hl 2 rfl) ?_
    refine lv_iconst (v := 4) C.x C.b dX11_hasGroundFor_6 (by decide) ?_
    refine lv_icmp_ne (tgt := 16) C.x C.b dX11_hasGroundFor_7 (by decide) (fun hc8 => ?_) (fun hc8 => ?_)
    · replace hf := ite_f hf hc8
      refine lv_aload_n C.x C.b dX11_hasGroundFor_16 rfl (lv_at hl 0 rfl) ?_
      refine z_aload_n C dX11_hasGroundFor_17 rfl (lv_at hl 1 rfl) ?_
      replace hf := bn2_s hf; obtain ⟨c10, m9, hkm9, hf⟩ := hf
      refine z_cV (As := [rf (ad 13) a1]) (rest := []) (st1 := [rf (ad 13) c10]) C Z mw_X11_rightOf mv_X11_rightOf k_618 (by decide) (z_hR hR (by decide)) (lvC0 Nat.zero_lt_one) kC0 zc11 (c_X11_rightOf (l := l) (K := K) (ad := ad) hkm9) rfl hl.1 rfl (Nat.le_of_ble_eq_true rfl) dX11_hasGroundFor_18 hB rfl (fun H locs Z => ?_)
      refine z_cstore_n (lv' := [(3, rf (ad 13) c10), (0, .ref (ad 0 0)), (1, rf (ad 13) a1), (2, .int a2)]) C dX11_hasGroundFor_21 rfl hl (by decide) rfl (onlast 2 rfl rfl rfl) (fun ls hl => ?_)
      refine lv_iload_n C.x C.b dX11_hasGroundFor_22 rfl (lv_at hl 3 rfl) ?_
      refine lv_iconst (v := 2) C.x C.b dX11_hasGroundFor_23 (by decide) ?_
      refine lv_icmp_ne (tgt := 47) C.x C.b dX11_hasGroundFor_24 (by decide) (fun hc11 => ?_) (fun hc11 => ?_)
      · replace hf := ite_f hf hc11
        refine lv_iconst (v := 1) C.x C.b dX11_hasGroundFor_47 (by decide) ?_
        refine lv_goto (tgt := 52) C.x C.b dX11_hasGroundFor_48 (by decide) ?_
        obtain ⟨rfl, rfl⟩ := pr_s hf
        exact z_zret C Z rfl dX11_hasGroundFor_52
      · replace hf := ite_t hf hc11
        refine z_aload_n C dX11_hasGroundFor_27 rfl (lv_at hl 2 rfl) ?_
        refine lv_iconst (v := 1) C.x C.b dX11_hasGroundFor_28 (by decide) ?_
        replace hf := drf_s hf; obtain ⟨j12, ej14, hj13, hf⟩ := hf
        subst ej14
        refine z_nn [.int 1] (y := j12 + 1) rfl ?_
        replace hf := bn2_s hf; obtain ⟨v16, m15, hkm15, hf⟩ := hf
        refine z_cV (As := [.int 1]) (rest := []) (st1 := [.int v16]) C Z mw_X1_has mv_X1_has k_617 (by decide) (z_hR hR (by decide)) (lvC13 hj13) kC13 zc1 (c_X1_has (l := l) (K := K) (ad := ad) hj13 hkm15) rfl hl.1 rfl (Nat.le_of_ble_eq_true rfl) dX11_hasGroundFor_29 hB rfl (fun H locs Z => ?_)
        refine lv_if_eq (tgt := 51) C.x C.b dX11_hasGroundFor_32 (by decide) (fun hc17 => ?_) (fun hc17 => ?_)
        · replace hf := ite_t hf hc17
          refine lv_iconst (v := 0) C.x C.b dX11_hasGroundFor_51 (by decide) ?_
          obtain ⟨rfl, rfl⟩ := pr_s hf
          exact z_zret C Z rfl dX11_hasGroundFor_52
        · replace hf := ite_f hf hc17
          refine z_aload_n C dX11_hasGroundFor_35 rfl (lv_at hl 0 rfl) ?_
          refine z_ifnull C dX11_hasGroundFor_36 (tgt := 47) (by decide) (fun hc18 => ?_) (fun hc18 => ?_)
          · replace hf := ite_t hf hc18
            refine lv_iconst (v := 1) C.x C.b dX11_hasGroundFor_47 (by decide) ?_
            refine lv_goto (tgt := 52) C.x C.b dX11_hasGroundFor_48 (by decide) ?_
            obtain ⟨rfl, rfl⟩ := pr_s hf
            exact z_zret C Z rfl dX11_hasGroundFor_52
          · replace hf := ite_f hf hc18
            refine z_aload_n C dX11_hasGroundFor_39 rfl (lv_at hl 0 rfl) ?_
            refine lv_iconst (v := 1) C.x C.b dX11_hasGroundFor_40 (by decide) ?_
            replace hf := drf_s hf; obtain ⟨j19, ej21, hj20, hf⟩ := hf
            subst ej21
            refine z_nn [.int 1] (y := j19 + 1) rfl ?_
            replace hf := bn2_s hf; obtain ⟨v23, m22, hkm22, hf⟩ := hf
            refine z_cV (As := [.int 1]) (rest := []) (st1 := [.int v23]) C Z mw_X1_has mv_X1_has k_617 (by decide) (z_hR hR (by decide)) (lvC13 hj20) kC13 zc1 (c_X1_has (l := l) (K := K) (ad := ad) hj20 hkm22) rfl hl.1 rfl (Nat.le_of_ble_eq_true rfl) dX11_hasGroundFor_41 hB rfl (fun H locs Z => ?_)
            refine lv_if_eq (tgt := 51) C.x C.b dX11_hasGroundFor_44 (by decide) (fun hc24 => ?_) (fun hc24 => ?_)
            · replace hf := ite_t hf hc24
              refine lv_iconst (v := 0) C.x C.b dX11_hasGroundFor_51 (by decide) ?_
              obtain ⟨rfl, rfl⟩ := pr_s hf
              exact z_zret C Z rfl dX11_hasGroundFor_52
            · replace hf := ite_f hf hc24
              refine lv_iconst (v := 1) C.x C.b dX11_hasGroundFor_47 (by decide) ?_
              refine lv_goto (tgt := 52) C.x C.b dX11_hasGroundFor_48 (by decide) ?_
              obtain ⟨rfl, rfl⟩ := pr_s hf
              exact z_zret C Z rfl dX11_hasGroundFor_52
    · replace hf := ite_t hf hc8
      exact w_X11_hasGroundFor_b10 C hR hB  Z (lv_sub hl [1] rfl) hf
theorem dX11_hindrance_0 : decode cX11_hindrance 0 = .ok (.aload_n 1, 1) := by decide +kernel
theorem dX11_hindrance_1 : decode cX11_hindrance 1 = .ok (.invokevirtual 303, 3) := by decide +kernel
theorem dX11_hindrance_4 : decode cX11_hindrance 4 = .ok (.istore_n 3, 1) := by decide +kernel
theorem dX11_hindrance_5 : decode cX11_hindrance 5 = .ok (.aload_n 1, 1) := by decide +kernel
theorem dX11_hindrance_6 : decode cX11_hindrance 6 = .ok (.invokevirtual 150, 3) := by decide +kernel
theorem dX11_hindrance_9 : decode cX11_hindrance 9 = .ok (.iconst 1, 1) := by decide +kernel
theorem dX11_hindrance_10 : decode cX11_hindrance 10 = .ok (.if_icmp .ge 5, 3) := by decide +kernel
theorem dX11_hindrance_13 : decode cX11_hindrance 13 = .ok (.iconst 0, 1) := by decide +kernel
theorem dX11_hindrance_14 : decode cX11_hindrance 14 = .ok (.ireturn, 1) := by decide +kernel
theorem dX11_hindrance_15 : decode cX11_hindrance 15 = .ok (.aload_n 0, 1) := by decide +kernel
theorem dX11_hindrance_16 : decode cX11_hindrance 16 = .ok (.aload_n 1, 1) := by decide +kernel
theorem dX11_hindrance_17 : decode cX11_hindrance 17 = .ok (.invokevirtual 154, 3) := by decide +kernel
theorem dX11_hindrance_20 : decode cX11_hindrance 20 = .ok (.ifCond .eq 6, 3) := by decide +kernel
theorem dX11_hindrance_23 : decode cX11_hindrance 23 = .ok (.bipush (-2), 2) := by decide +kernel
theorem dX11_hindrance_25 : decode cX11_hindrance 25 = .ok (.ireturn, 1) := by decide +kernel
theorem dX11_hindrance_26 : decode cX11_hindrance 26 = .ok (.iload_n 3, 1) := by decide +kernel
theorem dX11_hindrance_27 : decode cX11_hindrance 27 = .ok (.ifCond .ne 6, 3) := by decide +kernel
theorem dX11_hindrance_30 : decode cX11_hindrance 30 = .ok (.bipush (-3), 2) := by decide +kernel
theorem dX11_hindrance_32 : decode cX11_hindrance 32 = .ok (.ireturn, 1) := by decide +kernel
theorem dX11_hindrance_33 : decode cX11_hindrance 33 = .ok (.aload_n 2, 1) := by decide +kernel
theorem dX11_hindrance_34 : decode cX11_hindrance 34 = .ok (.iload_n 3, 1) := by decide +kernel
theorem dX11_hindrance_35 : decode cX11_hindrance 35 = .ok (.invokevirtual 314, 3) := by decide +kernel
theorem dX11_hindrance_38 : decode cX11_hindrance 38 = .ok (.iconst 1, 1) := by decide +kernel
theorem dX11_hindrance_39 : decode cX11_hindrance 39 = .ok (.if_icmp .ge 6, 3) := by decide +kernel
theorem dX11_hindrance_42 : decode cX11_hindrance 42 = .ok (.bipush (-4), 2) := by decide +kernel
theorem dX11_hindrance_44 : decode cX11_hindrance 44 = .ok (.ireturn, 1) := by decide +kernel
theorem dX11_hindrance_45 : decode cX11_hindrance 45 = .ok (.iload_n 3, 1) := by decide +kernel
theorem dX11_hindrance_46 : decode cX11_hindrance 46 = .ok (.iconst 1, 1) := by decide +kernel
theorem dX11_hindrance_47 : decode cX11_hindrance 47 = .ok (.if_icmp .ne 18, 3) := by decide +kernel
theorem dX11_hindrance_50 : decode cX11_hindrance 50 = .ok (.aload_n 0, 1) := by decide +kernel
theorem dX11_hindrance_51 : decode cX11_hindrance 51 = .ok (.aload_n 2, 1) := by decide +kernel
theorem dX11_hindrance_52 : decode cX11_hindrance 52 = .ok (.aload_n 1, 1) := by decide +kernel
theorem dX11_hindrance_53 : decode cX11_hindrance 53 = .ok (.getfield 147, 3) := by decide +kernel
theorem dX11_hindrance_56 : decode cX11_hindrance 56 = .ok (.invokevirtual 450, 3) := by decide +kernel
theorem dX11_hindrance_59 : decode cX11_hindrance 59 = .ok (.ifCond .ne 6, 3) := by decide +kernel
theorem dX11_hindrance_62 : decode cX11_hindrance 62 = .ok (.bipush (-5), 2) := by decide +kernel
theorem dX11_hindrance_64 : decode cX11_hindrance 64 = .ok (.ireturn, 1) := by decide +kernel
theorem dX11_hindrance_65 : decode cX11_hindrance 65 = .ok (.iload_n 3, 1) := by decide +kernel
theorem dX11_hindrance_66 : decode cX11_hindrance 66 = .ok (.iconst 1, 1) := by decide +kernel
theorem dX11_hindrance_67 : decode cX11_hindrance 67 = .ok (.if_icmp .ne 13, 3) := by decide +kernel
theorem dX11_hindrance_70 : decode cX11_hindrance 70 = .ok (.aload_n 2, 1) := by decide +kernel
theorem dX11_hindrance_71 : decode cX11_hindrance 71 = .ok (.getfield 103, 3) := by decide +kernel
theorem dX11_hindrance_74 : decode cX11_hindrance 74 = .ok (.ifCond .le 6, 3) := by decide +kernel
theorem dX11_hindrance_77 : decode cX11_hindrance 77 = .ok (.bipush (-6), 2) := by decide +kernel
theorem dX11_hindrance_79 : decode cX11_hindrance 79 = .ok (.ireturn, 1) := by decide +kernel
theorem dX11_hindrance_80 : decode cX11_hindrance 80 = .ok (.aload_n 0, 1) := by decide +kernel
theorem dX11_hindrance_81 : decode cX11_hindrance 81 = .ok (.aload_n 2, 1) := by decide +kernel
theorem dX11_hindrance_82 : decode cX11_hindrance 82 = .ok (.iload_n 3, 1) := by decide +kernel
theorem dX11_hindrance_83 : decode cX11_hindrance 83 = .ok (.invokevirtual 453, 3) := by decide +kernel
theorem dX11_hindrance_86 : decode cX11_hindrance 86 = .ok (.ifCond .eq 7, 3) := by decide +kernel
theorem dX11_hindrance_89 : decode cX11_hindrance 89 = .ok (.iconst 1, 1) := by decide +kernel
theorem dX11_hindrance_90 : decode cX11_hindrance 90 = .ok (.goto 5, 3) := by decide +kernel
theorem dX11_hindrance_93 : decode cX11_hindrance 93 = .ok (.bipush (-7), 2) := by decide +kernel
theorem dX11_hindrance_95 : decode cX11_hindrance 95 = .ok (.ireturn, 1) := by decide +kernel
set_option maxRecDepth 100000 in
set_option maxHeartbeats 4000000 in
theorem w_X11_hindrance_b80 {p : Program} {l : Launch} {e : Env} {s : State} {m : MethodId} {args : Array Value} {below : List Frame} {meth : Method} {c : Code} {K : KG} {ad : Nat → Nat → Nat} {fl : Nat} {H : Heap} {locs : List Loc} {ls : Array Slot} {g2 : Nat} {g3 : Int32} {M0 : Mem} {r9 : Int32} {M9 : Mem} (C : Cx p s m args meth c cX11_hindrance 4 "GlassPalace" (some .int)) (hR : 6 ≤ (RM (6) 0 0).frames ∧ 40 * (6) ≤ (RM (6) 0 0).locals) (hB : 0 ≤ (RM (6) 0 0).cells ∧ 0 ≤ (RM (6) 0 0).slots) (Z : Zd K LC ad M0 s H locs) (hl : lv_has ls 4 [(0, .ref (ad 0 0)), (2, rf (ad 13) g2), (3, .int g3)]) (hf : f_X11_hindrance_b80 fl g2 g3 M0 = some (r9, M9)) : W p l e (RM (6) 0 0) s m args below meth c H locs 0 0 (MQ below (zQ K LC ad (some (.int r9)) M9) args s 0 0 (zA ad)) (F0 m 80 ls []) := by
  unfold f_X11_hindrance_b80 at hf
  refine lv_aload_n C.x C.b dX11_hindrance_80 rfl (lv_at hl 0 rfl) ?_
  refine z_aload_n C dX11_hindrance_81 rfl (lv_at hl 1 rfl) ?_
  refine lv_iload_n C.x C.b dX11_hindrance_82 rfl (lv_at hl 2 rfl) ?_
  replace hf := bn2_s hf; obtain ⟨v23, m22, hkm22, hf⟩ := hf
  refine z_cV (As := [rf (ad 13) g2, .int g3]) (rest := []) (st1 := [.int v23]) C Z mw_X11_hasGroundFor mv_X11_hasGroundFor k_613 (by decide) (z_hR hR (by decide)) (lvC0 Nat.zero_lt_one) kC0 zc11 (c_X11_hasGroundFor (l := l) (K := K) (ad := ad) hkm22) rfl hl.1 rfl (Nat.le_of_ble_eq_true rfl) dX11_hindrance_83 hB rfl (fun H locs Z => ?_)
  refine lv_if_eq (tgt := 93) C.x C.b dX11_hindrance_86 (by decide) (fun hc24 => ?_) (fun hc24 => ?_)
  · replace hf := ite_t hf hc24
    refine lv_bipush (v := (-7)) C.x C.b dX11_hindrance_93 (by decide) ?_
    obtain ⟨rfl, rfl⟩ := pr_s hf
    exact z_iret C Z dX11_hindrance_95
  · replace hf := ite_f hf hc24
    refine lv_iconst (v := 1) C.x C.b dX11_hindrance_89 (by decide) ?_
    refine lv_goto (tgt := 95) C.x C.b dX11_hindrance_90 (by decide) ?_
    obtain ⟨rfl, rfl⟩ := pr_s hf
    exact z_iret C Z dX11_hindrance_95
set_option maxRecDepth 100000 in
set_option maxHeartbeats 4000000 in
theorem w_X11_hindrance_b65 {p : Program} {l : Launch} {e : Env} {s : State} {m : MethodId} {args : Array Value} {below : List Frame} {meth : Method} {c : Code} {K : KG} {ad : Nat → Nat → Nat} {fl : Nat} {H : Heap} {locs : List Loc} {ls : Array Slot} {g2 : Nat} {g3 : Int32} {M0 : Mem} {r9 : Int32} {M9 : Mem} (C : Cx p s m args meth c cX11_hindrance 4 "GlassPalace" (some .int)) (hR : 6 ≤ (RM (6) 0 0).frames ∧ 40 * (6) ≤ (RM (6) 0 0).locals) (hB : 0 ≤ (RM (6) 0 0).cells ∧ 0 ≤ (RM (6) 0 0).slots) (Z : Zd K LC ad M0 s H locs) (hl : lv_has ls 4 [(0, .ref (ad 0 0)), (2, rf (ad 13) g2), (3, .int g3)]) (hf : f_X11_hindrance_b65 fl g2 g3 M0 = some (r9, M9)) : W p l e (RM (6) 0 0) s m args below meth c H locs 0 0 (MQ below (zQ K LC ad (some (.int r9)) M9) args s 0 0 (zA ad)) (F0 m 65 ls []) := by
  unfold f_X11_hindrance_b65 at hf
  refine lv_iload_n C.x C.b dX11_hindrance_65 rfl (lv_at hl 2 rfl) ?_
  refine lv_iconst (v := 1) C.x C.b dX11_hindrance_66 (by decide) ?_
  refine lv_icmp_ne (tgt := 80) C.x C.b dX11_hindrance_67 (by decide) (fun hc21 => ?_) (fun hc21 => ?_)
  · replace hf := ite_f hf hc21
    exact w_X11_hindrance_b80 C hR hB  Z (lv_sub hl [0, 1, 2] rfl) hf
  · replace hf := ite_t hf hc21
    refine z_aload_n C dX11_hindrance_70 rfl (lv_at hl 1 rfl) ?_
    replace hf := drf_s hf; obtain ⟨j25, ej27, hj26, hf⟩ := hf
    subst ej27
    refine z_nn [] (y := j25 + 1) rfl ?_
    refine z_get C Z (lvC13 hj26) kC13 zc1 zin1 2 (by decide) k_316 rfl svC13_2 dX11_hindrance_71 ?_
    refine lv_if_le (tgt := 80) C.x C.b dX11_hindrance_74 (by decide) (fun hc28 => ?_) (fun hc28 => ?_)
    · replace hf := ite_t hf hc28
      exact w_X11_hindrance_b80 C hR hB  Z (lv_sub hl [0, 1, 2] rfl) hf
    · replace hf := ite_f hf hc28
      refine lv_bipush (v := (-6)) C.x C.b dX11_hindrance_77 (by decide) ?_
      obtain ⟨rfl, rfl⟩ := pr_s hf
      exact z_iret C Z dX11_hindrance_79
set_option maxRecDepth 100000 in
set_option maxHeartbeats 4000000 in
theorem c_X11_hindrance {l : Launch} {K : KG} {ad : Nat → Nat → Nat} {fl : Nat} {a1 : Nat} {a2 : Nat} {M0 : Mem} {r9 : Int32} {M9 : Mem} (hf : f_X11_hindrance fl a1 a2 M0 = some (r9, M9)) : Met l yX11_hindrance (Cond.code yX11_hindrance cX11_hindrance 4 (some .int) :: ztb) (RM (6) 0 0) (zPc K LC ad M0 [.ref (ad 0 0), rf (ad 23) a1, rf (ad 13) a2]) (zQ K LC ad (some (.int r9)) M9) 0 0 (zA ad) := by
  refine z_enter (by decide) (by simp [lg_sl, rf_cat, cat_i, cat_l, cat_r, cat_n]) ?_
  intro p e s m args below meth c ls C hin hargs Z hl
  replace C : Cx p s m args meth c cX11_hindrance 4 "GlassPalace" (some .int) := C
  replace hl : lv_has ls 4 [(0, .ref (ad 0 0)), (1, rf (ad 23) a1), (2, rf (ad 13) a2)] := by simpa [lv_args, rf_cat, cat_i, cat_l, cat_r, cat_n] using hl
  have hR : 6 ≤ (RM (6) 0 0).frames ∧ 40 * (6) ≤ (RM (6) 0 0).locals := ⟨Nat.le_refl _, Nat.le_refl _⟩
  have hB : 0 ≤ (RM (6) 0 0).cells ∧ 0 ≤ (RM (6) 0 0).slots := ⟨Nat.zero_le _, Nat.zero_le _⟩
  unfold f_X11_hindrance at hf
  refine z_aload_n C dX11_hindrance_0 rfl (lv_at hl 1 rfl) ?_
  replace hf := drf_s hf; obtain ⟨j1, ej3, hj2, hf⟩ := hf
  subst ej3
  refine z_nn [] (y := j1 + 1) rfl ?_
  replace hf := bn2_s hf; obtain ⟨v5, m4, hkm4, hf⟩ := hf
  refine z_cV (As := []) (rest := []) (st1 := [.int v5]) C Z mw_X4_place mv_X4_place k_601 (by decide) (z_hR hR (by decide)) (lvC23 hj2) kC23 zc4 (c_X4_place (l := l) (K := K) (ad := ad) hj2 hkm4) rfl hl.1 rfl (Nat.le_of_ble_eq_true rfl) dX11_hindrance_1 hB rfl (fun H locs Z => ?_)
  refine z_istore_n (lv' := [(3, .int v5), (0, .ref (ad 0 0)), (1, .ref (ad 23 j1)), (2, rf (ad 13) a2)]) C dX11_hindrance_4 rfl hl (by decide) rfl (onlast 2 rfl (rf_cat _ _) rfl) (fun ls hl => ?_)
  refine lv_aload_n C.x C.b dX11_hindrance_5 rfl (lv_at hl 2 rfl) ?_
  replace hf := asr_s hf; obtain ⟨hq6, hf⟩ := hf
  replace hf := bn2_s hf; obtain ⟨v8, m7, hkm7, hf⟩ := hf
  refine z_cV (As := []) (rest := []) (st1 := [.int v8]) C Z mw_X4_stock mv_X4_stock k_524 (by decide) (z_hR hR (by decide)) (lvC23 hq6) kC23 zc4 (c_X4_stock (l := l) (K := K) (ad := ad) hq6 hkm7) rfl hl.1 rfl (Nat.le_of_ble_eq_true rfl) dX11_hindrance_6 hB rfl (fun H locs Z => ?_)
  refine lv_iconst (v := 1) C.x C.b dX11_hindrance_9 (by decide) ?_
  refine lv_icmp_ge (tgt := 15) C.x C.b dX11_hindrance_10 (by decide) (fun hc9 => ?_) (fun hc9 => ?_)
  · replace hf := ite_t hf hc9
    refine lv_aload_n C.x C.b dX11_hindrance_15 rfl (lv_at hl 1 rfl) ?_
    refine lv_aload_n C.x C.b dX11_hindrance_16 rfl (lv_at hl 2 rfl) ?_
    replace hf := bn2_s hf; obtain ⟨v11, m10, hkm10, hf⟩ := hf
    refine z_cV (As := [.ref (ad 23 j1)]) (rest := []) (st1 := [.int v11]) C Z mw_X11_isBarred mv_X11_isBarred k_529 (by decide) (z_hR hR (by decide)) (lvC0 Nat.zero_lt_one) kC0 zc11 (c_X11_isBarred (l := l) (K := K) (ad := ad) hkm10) rfl hl.1 rfl (Nat.le_of_ble_eq_true rfl) dX11_hindrance_17 hB rfl (fun H locs Z => ?_)
    refine lv_if_eq (tgt := 26) C.x C.b dX11_hindrance_20 (by decide) (fun hc12 => ?_) (fun hc12 => ?_)
    · replace hf := ite_t hf hc12
      refine lv_iload_n C.x C.b dX11_hindrance_26 rfl (lv_at hl 0 rfl) ?_
      refine lv_if_ne (tgt := 33) C.x C.b dX11_hindrance_27 (by decide) (fun hc13 => ?_) (fun hc13 => ?_)
      · replace hf := ite_f hf hc13
        refine z_aload_n C dX11_hindrance_33 rfl (lv_at hl 3 rfl) ?_
        refine lv_iload_n C.x C.b dX11_hindrance_34 rfl (lv_at hl 0 rfl) ?_
        replace hf := drf_s hf; obtain ⟨j14, ej16, hj15, hf⟩ := hf
        subst ej16
        refine z_nn [.int v5] (y := j14 + 1) rfl ?_
        replace hf := bn2_s hf; obtain ⟨v18, m17, hkm17, hf⟩ := hf
        refine z_cV (As := [.int v5]) (rest := []) (st1 := [.int v18]) C Z mw_X1_room mv_X1_room k_605 (by decide) (z_hR hR (by decide)) (lvC13 hj15) kC13 zc1 (c_X1_room (l := l) (K := K) (ad := ad) hj15 hkm17) rfl hl.1 rfl (Nat.le_of_ble_eq_true rfl) dX11_hindrance_35 hB rfl (fun H locs Z => ?_)
        refine lv_iconst (v := 1) C.x C.b dX11_hindrance_38 (by decide) ?_
        refine lv_icmp_ge (tgt := 45) C.x C.b dX11_hindrance_39 (by decide) (fun hc19 => ?_) (fun hc19 => ?_)
        · replace hf := ite_t hf hc19
          refine lv_iload_n C.x C.b dX11_hindrance_45 rfl (lv_at hl 0 rfl) ?_
          refine lv_iconst (v := 1) C.x C.b dX11_hindrance_46 (by decide) ?_
          refine lv_icmp_ne (tgt := 65) C.x C.b dX11_hindrance_47 (by decide) (fun hc20 => ?_) (fun hc20 => ?_)
          · replace hf := ite_f hf hc20
            exact w_X11_hindrance_b65 C hR hB  Z (lv_sub hl [1, 3, 0] rfl) hf
          · replace hf := ite_t hf hc20
            refine lv_aload_n C.x C.b dX11_hindrance_50 rfl (lv_at hl 1 rfl) ?_
            refine lv_aload_n C.x C.b dX11_hindrance_51 rfl (lv_at hl 3 rfl) ?_
            refine lv_aload_n C.x C.b dX11_hindrance_52 rfl (lv_at hl 2 rfl) ?_
            replace hf := asr_s hf; obtain ⟨hq29, hf⟩ := hf
            refine z_get C Z (lvC23 hq29) kC23 zc4 zin4 4 (by decide) k_471 rfl svC23_4 dX11_hindrance_53 ?_
            replace hf := bn2_s hf; obtain ⟨v31, m30, hkm30, hf⟩ := hf
            refine z_cV (As := [.ref (ad 13 j14), .int (gI m17 23 j1 4)]) (rest := []) (st1 := [.int v31]) C Z mw_X11_hasLengthFor mv_X11_hasLengthFor k_609 (by decide) (z_hR hR (by decide)) (lvC0 Nat.zero_lt_one) kC0 zc11 (c_X11_hasLengthFor (l := l) (K := K) (ad := ad) hkm30) rfl hl.1 rfl (Nat.le_of_ble_eq_true rfl) dX11_hindrance_56 hB rfl (fun H locs Z => ?_)
            refine lv_if_ne (tgt := 65) C.x C.b dX11_hindrance_59 (by decide) (fun hc32 => ?_) (fun hc32 => ?_)
            · replace hf := ite_f hf hc32
              exact w_X11_hindrance_b65 C hR hB  Z (lv_sub hl [1, 3, 0] rfl) hf
            · replace hf := ite_t hf hc32
              refine lv_bipush (v := (-5)) C.x C.b dX11_hindrance_62 (by decide) ?_
              obtain ⟨rfl, rfl⟩ := pr_s hf
              exact z_iret C Z dX11_hindrance_64
        · replace hf := ite_f hf hc19
          refine lv_bipush (v := (-4)) C.x C.b dX11_hindrance_42 (by decide) ?_
          obtain ⟨rfl, rfl⟩ := pr_s hf
          exact z_iret C Z dX11_hindrance_44
      · replace hf := ite_t hf hc13
        refine lv_bipush (v := (-3)) C.x C.b dX11_hindrance_30 (by decide) ?_
        obtain ⟨rfl, rfl⟩ := pr_s hf
        exact z_iret C Z dX11_hindrance_32
    · replace hf := ite_f hf hc12
      refine lv_bipush (v := (-2)) C.x C.b dX11_hindrance_23 (by decide) ?_
      obtain ⟨rfl, rfl⟩ := pr_s hf
      exact z_iret C Z dX11_hindrance_25
  · replace hf := ite_f hf hc9
    refine lv_iconst (v := 0) C.x C.b dX11_hindrance_13 (by decide) ?_
    obtain ⟨rfl, rfl⟩ := pr_s hf
    exact z_iret C Z dX11_hindrance_14
theorem dX11_fit_0 : decode cX11_fit 0 = .ok (.aload_n 0, 1) := by decide +kernel
theorem dX11_fit_1 : decode cX11_fit 1 = .ok (.iload_n 1, 1) := by decide +kernel
theorem dX11_fit_2 : decode cX11_fit 2 = .ok (.invokevirtual 122, 3) := by decide +kernel
theorem dX11_fit_5 : decode cX11_fit 5 = .ok (.astore_n 3, 1) := by decide +kernel
theorem dX11_fit_6 : decode cX11_fit 6 = .ok (.aload_n 0, 1) := by decide +kernel
theorem dX11_fit_7 : decode cX11_fit 7 = .ok (.iload_n 2, 1) := by decide +kernel
theorem dX11_fit_8 : decode cX11_fit 8 = .ok (.invokevirtual 92, 3) := by decide +kernel
theorem dX11_fit_11 : decode cX11_fit 11 = .ok (.astore 4, 2) := by decide +kernel
theorem dX11_fit_13 : decode cX11_fit 13 = .ok (.aload_n 3, 1) := by decide +kernel
theorem dX11_fit_14 : decode cX11_fit 14 = .ok (.ifnull 8, 3) := by decide +kernel
theorem dX11_fit_17 : decode cX11_fit 17 = .ok (.aload 4, 2) := by decide +kernel
theorem dX11_fit_19 : decode cX11_fit 19 = .ok (.ifnonnull 5, 3) := by decide +kernel
theorem dX11_fit_22 : decode cX11_fit 22 = .ok (.iconst (-1), 1) := by decide +kernel
theorem dX11_fit_23 : decode cX11_fit 23 = .ok (.ireturn, 1) := by decide +kernel
theorem dX11_fit_24 : decode cX11_fit 24 = .ok (.aload_n 0, 1) := by decide +kernel
theorem dX11_fit_25 : decode cX11_fit 25 = .ok (.aload_n 3, 1) := by decide +kernel
theorem dX11_fit_26 : decode cX11_fit 26 = .ok (.aload 4, 2) := by decide +kernel
theorem dX11_fit_28 : decode cX11_fit 28 = .ok (.invokevirtual 171, 3) := by decide +kernel
theorem dX11_fit_31 : decode cX11_fit 31 = .ok (.ireturn, 1) := by decide +kernel
set_option maxRecDepth 100000 in
set_option maxHeartbeats 4000000 in
theorem c_X11_fit {l : Launch} {K : KG} {ad : Nat → Nat → Nat} {fl : Nat} {a1 : Int32} {a2 : Int32} {M0 : Mem} {r9 : Int32} {M9 : Mem} (hf : f_X11_fit fl a1 a2 M0 = some (r9, M9)) : Met l yX11_fit (Cond.code yX11_fit cX11_fit 5 (some .int) :: ztb) (RM (7) 0 0) (zPc K LC ad M0 [.ref (ad 0 0), .int a1, .int a2]) (zQ K LC ad (some (.int r9)) M9) 0 0 (zA ad) := by
  refine z_enter (by decide) (Nat.le_of_ble_eq_true rfl) ?_
  intro p e s m args below meth c ls C hin hargs Z hl
  replace C : Cx p s m args meth c cX11_fit 5 "GlassPalace" (some .int) := C
  replace hl : lv_has ls 5 [(0, .ref (ad 0 0)), (1, .int a1), (2, .int a2)] := hl
  have hR : 7 ≤ (RM (7) 0 0).frames ∧ 40 * (7) ≤ (RM (7) 0 0).locals := ⟨Nat.le_refl _, Nat.le_refl _⟩
  have hB : 0 ≤ (RM (7) 0 0).cells ∧ 0 ≤ (RM (7) 0 0).slots := ⟨Nat.zero_le _, Nat.zero_le _⟩
  unfold f_X11_fit at hf
  refine lv_aload_n C.x C.b dX11_fit_0 rfl (lv_at hl 0 rfl) ?_
  refine lv_iload_n C.x C.b dX11_fit_1 rfl (lv_at hl 1 rfl) ?_
  replace hf := bn2_s hf; obtain ⟨c2, m1, hkm1, hf⟩ := hf
  refine z_cV (As := [.int a1]) (rest := []) (st1 := [rf (ad 23) c2]) C Z mw_X11_lotOf mv_X11_lotOf k_512 (by decide) (z_hR hR (by decide)) (lvC0 Nat.zero_lt_one) kC0 zc11 (c_X11_lotOf (l := l) (K := K) (ad := ad) hkm1) rfl hl.1 rfl (Nat.le_of_ble_eq_true rfl) dX11_fit_2 hB rfl (fun H locs Z => ?_)
  refine z_cstore_n (lv' := [(3, rf (ad 23) c2), (0, .ref (ad 0 0)), (1, .int a1), (2, .int a2)]) C dX11_fit_5 rfl hl (by decide) rfl (onlast 2 rfl rfl rfl) (fun ls hl => ?_)
  refine lv_aload_n C.x C.b dX11_fit_6 rfl (lv_at hl 1 rfl) ?_
  refine lv_iload_n C.x C.b dX11_fit_7 rfl (lv_at hl 3 rfl) ?_
  replace hf := bn2_s hf; obtain ⟨c4, m3, hkm3, hf⟩ := hf
  refine z_cV (As := [.int a2]) (rest := []) (st1 := [rf (ad 13) c4]) C Z mw_X11_bayOf mv_X11_bayOf k_416 (by decide) (z_hR hR (by decide)) (lvC0 Nat.zero_lt_one) kC0 zc11 (c_X11_bayOf (l := l) (K := K) (ad := ad) hkm3) rfl hl.1 rfl (Nat.le_of_ble_eq_true rfl) dX11_fit_8 hB rfl (fun H locs Z => ?_)
  refine z_cstore (lv' := [(4, rf (ad 13) c4), (3, rf (ad 23) c2), (0, .ref (ad 0 0)), (1, .int a1), (2, .int a2)]) C dX11_fit_11 hl (by decide) rfl (onlast 0 rfl (rf_cat _ _) rfl) (fun ls hl => ?_)
  refine z_aload_n C dX11_fit_13 rfl (lv_at hl 1 rfl) ?_
  refine z_ifnull C dX11_fit_14 (tgt := 22) (by decide) (fun hc5 => ?_) (fun hc5 => ?_)
  · replace hf := ite_t hf hc5
    refine lv_iconst (v := (-1)) C.x C.b dX11_fit_22 (by decide) ?_
    obtain ⟨rfl, rfl⟩ := pr_s hf
    exact z_iret C Z dX11_fit_23
  · replace hf := ite_f hf hc5
    refine z_aload C dX11_fit_17 (lv_at hl 0 rfl) ?_
    refine z_ifnonnull C dX11_fit_19 (tgt := 24) (by decide) (fun hc6 => ?_) (fun hc6 => ?_)
    · replace hf := ite_f hf hc6
      refine lv_aload_n C.x C.b dX11_fit_24 rfl (lv_at hl 2 rfl) ?_
      refine z_aload_n C dX11_fit_25 rfl (lv_at hl 1 rfl) ?_
      refine z_aload C dX11_fit_26 (lv_at hl 0 rfl) ?_
      replace hf := bn2_s hf; obtain ⟨v8, m7, hkm7, hf⟩ := hf
      refine z_cV (As := [rf (ad 23) c2, rf (ad 13) c4]) (rest := []) (st1 := [.int v8]) C Z mw_X11_hindrance mv_X11_hindrance k_597 (by decide) (z_hR hR (by decide)) (lvC0 Nat.zero_lt_one) kC0 zc11 (c_X11_hindrance (l := l) (K := K) (ad := ad) hkm7) rfl hl.1 rfl (Nat.le_of_ble_eq_true rfl) dX11_fit_28 hB rfl (fun H locs Z => ?_)
      obtain ⟨rfl, rfl⟩ := pr_s hf
      exact z_iret C Z dX11_fit_31
    · replace hf := ite_t hf hc6
      refine lv_iconst (v := (-1)) C.x C.b dX11_fit_22 (by decide) ?_
      obtain ⟨rfl, rfl⟩ := pr_s hf
      exact z_iret C Z dX11_fit_23
theorem dX11_set_0 : decode cX11_set 0 = .ok (.aload_n 0, 1) := by decide +kernel
theorem dX11_set_1 : decode cX11_set 1 = .ok (.iload_n 1, 1) := by decide +kernel
theorem dX11_set_2 : decode cX11_set 2 = .ok (.invokevirtual 122, 3) := by decide +kernel
theorem dX11_set_5 : decode cX11_set 5 = .ok (.astore_n 3, 1) := by decide +kernel
theorem dX11_set_6 : decode cX11_set 6 = .ok (.aload_n 0, 1) := by decide +kernel
theorem dX11_set_7 : decode cX11_set 7 = .ok (.iload_n 2, 1) := by decide +kernel
theorem dX11_set_8 : decode cX11_set 8 = .ok (.invokevirtual 92, 3) := by decide +kernel
theorem dX11_set_11 : decode cX11_set 11 = .ok (.astore 4, 2) := by decide +kernel
theorem dX11_set_13 : decode cX11_set 13 = .ok (.aload_n 3, 1) := by decide +kernel
theorem dX11_set_14 : decode cX11_set 14 = .ok (.ifnull 8, 3) := by decide +kernel
theorem dX11_set_17 : decode cX11_set 17 = .ok (.aload 4, 2) := by decide +kernel
theorem dX11_set_19 : decode cX11_set 19 = .ok (.ifnonnull 5, 3) := by decide +kernel
theorem dX11_set_22 : decode cX11_set 22 = .ok (.iconst (-1), 1) := by decide +kernel
theorem dX11_set_23 : decode cX11_set 23 = .ok (.ireturn, 1) := by decide +kernel
theorem dX11_set_24 : decode cX11_set 24 = .ok (.aload_n 0, 1) := by decide +kernel
theorem dX11_set_25 : decode cX11_set 25 = .ok (.aload_n 3, 1) := by decide +kernel
theorem dX11_set_26 : decode cX11_set 26 = .ok (.aload 4, 2) := by decide +kernel
theorem dX11_set_28 : decode cX11_set 28 = .ok (.invokevirtual 171, 3) := by decide +kernel
theorem dX11_set_31 : decode cX11_set 31 = .ok (.iconst 1, 1) := by decide +kernel
theorem dX11_set_32 : decode cX11_set 32 = .ok (.if_icmp .eq 6, 3) := by decide +kernel
theorem dX11_set_35 : decode cX11_set 35 = .ok (.bipush (-3), 2) := by decide +kernel
theorem dX11_set_37 : decode cX11_set 37 = .ok (.ireturn, 1) := by decide +kernel
theorem dX11_set_38 : decode cX11_set 38 = .ok (.aload 4, 2) := by decide +kernel
theorem dX11_set_40 : decode cX11_set 40 = .ok (.aload_n 3, 1) := by decide +kernel
theorem dX11_set_41 : decode cX11_set 41 = .ok (.invokevirtual 175, 3) := by decide +kernel
theorem dX11_set_44 : decode cX11_set 44 = .ok (.iconst 1, 1) := by decide +kernel
theorem dX11_set_45 : decode cX11_set 45 = .ok (.ireturn, 1) := by decide +kernel
set_option maxRecDepth 100000 in
set_option maxHeartbeats 4000000 in
theorem c_X11_set {l : Launch} {K : KG} {ad : Nat → Nat → Nat} {fl : Nat} {a1 : Int32} {a2 : Int32} {M0 : Mem} {r9 : Int32} {M9 : Mem} (hf : f_X11_set fl a1 a2 M0 = some (r9, M9)) : Met l yX11_set (Cond.code yX11_set cX11_set 5 (some .int) :: ztb) (RM (7) 0 0) (zPc K LC ad M0 [.ref (ad 0 0), .int a1, .int a2]) (zQ K LC ad (some (.int r9)) M9) 0 0 (zA ad) := by
  refine z_enter (by decide) (Nat.le_of_ble_eq_true rfl) ?_
  intro p e s m args below meth c ls C hin hargs Z hl
  replace C : Cx p s m args meth c cX11_set 5 "GlassPalace" (some .int) := C
  replace hl : lv_has ls 5 [(0, .ref (ad 0 0)), (1, .int a1), (2, .int a2)] := hl
  have hR : 7 ≤ (RM (7) 0 0).frames ∧ 40 * (7) ≤ (RM (7) 0 0).locals := ⟨Nat.le_refl _, Nat.le_refl _⟩
  have hB : 0 ≤ (RM (7) 0 0).cells ∧ 0 ≤ (RM (7) 0 0).slots := ⟨Nat.zero_le _, Nat.zero_le _⟩
  unfold f_X11_set at hf
  refine lv_aload_n C.x C.b dX11_set_0 rfl (lv_at hl 0 rfl) ?_
  refine lv_iload_n C.x C.b dX11_set_1 rfl (lv_at hl 1 rfl) ?_
  replace hf := bn2_s hf; obtain ⟨c2, m1, hkm1, hf⟩ := hf
  refine z_cV (As := [.int a1]) (rest := []) (st1 := [rf (ad 23) c2]) C Z mw_X11_lotOf mv_X11_lotOf k_512 (by decide) (z_hR hR (by decide)) (lvC0 Nat.zero_lt_one) kC0 zc11 (c_X11_lotOf (l := l) (K := K) (ad := ad) hkm1) rfl hl.1 rfl (Nat.le_of_ble_eq_true rfl) dX11_set_2 hB rfl (fun H locs Z => ?_)
  refine z_cstore_n (lv' := [(3, rf (ad 23) c2), (0, .ref (ad 0 0)), (1, .int a1), (2, .int a2)]) C dX11_set_5 rfl hl (by decide) rfl (onlast 2 rfl rfl rfl) (fun ls hl => ?_)
  refine lv_aload_n C.x C.b dX11_set_6 rfl (lv_at hl 1 rfl) ?_
  refine lv_iload_n C.x C.b dX11_set_7 rfl (lv_at hl 3 rfl) ?_
  replace hf := bn2_s hf; obtain ⟨c4, m3, hkm3, hf⟩ := hf
  refine z_cV (As := [.int a2]) (rest := []) (st1 := [rf (ad 13) c4]) C Z mw_X11_bayOf mv_X11_bayOf k_416 (by decide) (z_hR hR (by decide)) (lvC0 Nat.zero_lt_one) kC0 zc11 (c_X11_bayOf (l := l) (K := K) (ad := ad) hkm3) rfl hl.1 rfl (Nat.le_of_ble_eq_true rfl) dX11_set_8 hB rfl (fun H locs Z => ?_)
  refine z_cstore (lv' := [(4, rf (ad 13) c4), (3, rf (ad 23) c2), (0, .ref (ad 0 0)), (1, .int a1), (2, .int a2)]) C dX11_set_11 hl (by decide) rfl (onlast 0 rfl (rf_cat _ _) rfl) (fun ls hl => ?_)
  refine z_aload_n C dX11_set_13 rfl (lv_at hl 1 rfl) ?_
  refine z_ifnull C dX11_set_14 (tgt := 22) (by decide) (fun hc5 => ?_) (fun hc5 => ?_)
  · replace hf := ite_t hf hc5
    refine lv_iconst (v := (-1)) C.x C.b dX11_set_22 (by decide) ?_
    obtain ⟨rfl, rfl⟩ := pr_s hf
    exact z_iret C Z dX11_set_23
  · replace hf := ite_f hf hc5
    refine z_aload C dX11_set_17 (lv_at hl 0 rfl) ?_
    refine z_ifnonnull C dX11_set_19 (tgt := 24) (by decide) (fun hc6 => ?_) (fun hc6 => ?_)
    · replace hf := ite_f hf hc6
      refine lv_aload_n C.x C.b dX11_set_24 rfl (lv_at hl 2 rfl) ?_
      refine z_aload_n C dX11_set_25 rfl (lv_at hl 1 rfl) ?_
      refine z_aload C dX11_set_26 (lv_at hl 0 rfl) ?_
      replace hf := bn2_s hf; obtain ⟨v8, m7, hkm7, hf⟩ := hf
      refine z_cV (As := [rf (ad 23) c2, rf (ad 13) c4]) (rest := []) (st1 := [.int v8]) C Z mw_X11_hindrance mv_X11_hindrance k_597 (by decide) (z_hR hR (by decide)) (lvC0 Nat.zero_lt_one) kC0 zc11 (c_X11_hindrance (l := l) (K := K) (ad := ad) hkm7) rfl hl.1 rfl (Nat.le_of_ble_eq_true rfl) dX11_set_28 hB rfl (fun H locs Z => ?_)
      refine lv_iconst (v := 1) C.x C.b dX11_set_31 (by decide) ?_
      refine lv_icmp_eq (tgt := 38) C.x C.b dX11_set_32 (by decide) (fun hc9 => ?_) (fun hc9 => ?_)
      · replace hf := ite_t hf hc9
        refine z_aload C dX11_set_38 (lv_at hl 0 rfl) ?_
        refine z_aload_n C dX11_set_40 rfl (lv_at hl 1 rfl) ?_
        replace hf := drf_s hf; obtain ⟨j10, ej12, hj11, hf⟩ := hf
        subst ej12
        refine z_nn [rf (ad 23) c2] (y := j10 + 1) rfl ?_
        replace hf := bn1_s hf; obtain ⟨m13, hkm13, hf⟩ := hf
        refine z_cV (As := [rf (ad 23) c2]) (rest := []) (st1 := []) C Z mw_X1_put mv_X1_put k_630 (by decide) (z_hR hR (by decide)) (lvC13 hj11) kC13 zc1 (c_X1_put (l := l) (K := K) (ad := ad) hj11 hkm13) rfl hl.1 rfl (Nat.le_of_ble_eq_true rfl) dX11_set_41 hB rfl (fun H locs Z => ?_)
        refine lv_iconst (v := 1) C.x C.b dX11_set_44 (by decide) ?_
        obtain ⟨rfl, rfl⟩ := pr_s hf
        exact z_iret C Z dX11_set_45
      · replace hf := ite_f hf hc9
        refine lv_bipush (v := (-3)) C.x C.b dX11_set_35 (by decide) ?_
        obtain ⟨rfl, rfl⟩ := pr_s hf
        exact z_iret C Z dX11_set_37
    · replace hf := ite_t hf hc6
      refine lv_iconst (v := (-1)) C.x C.b dX11_set_22 (by decide) ?_
      obtain ⟨rfl, rfl⟩ := pr_s hf
      exact z_iret C Z dX11_set_23
theorem dX11_isPlace_0 : decode cX11_isPlace 0 = .ok (.iload_n 0, 1) := by decide +kernel
theorem dX11_isPlace_1 : decode cX11_isPlace 1 = .ok (.iconst 1, 1) := by decide +kernel
theorem dX11_isPlace_2 : decode cX11_isPlace 2 = .ok (.if_icmp .lt 12, 3) := by decide +kernel
theorem dX11_isPlace_5 : decode cX11_isPlace 5 = .ok (.iload_n 0, 1) := by decide +kernel
theorem dX11_isPlace_6 : decode cX11_isPlace 6 = .ok (.iconst 5, 1) := by decide +kernel
theorem dX11_isPlace_7 : decode cX11_isPlace 7 = .ok (.if_icmp .gt 7, 3) := by decide +kernel
theorem dX11_isPlace_10 : decode cX11_isPlace 10 = .ok (.iconst 1, 1) := by decide +kernel
theorem dX11_isPlace_11 : decode cX11_isPlace 11 = .ok (.goto 4, 3) := by decide +kernel
theorem dX11_isPlace_14 : decode cX11_isPlace 14 = .ok (.iconst 0, 1) := by decide +kernel
theorem dX11_isPlace_15 : decode cX11_isPlace 15 = .ok (.ireturn, 1) := by decide +kernel
set_option maxRecDepth 100000 in
set_option maxHeartbeats 4000000 in
theorem c_X11_isPlace {l : Launch} {K : KG} {ad : Nat → Nat → Nat} {fl : Nat} {a1 : Int32} {M0 : Mem} {r9 : Int32} {M9 : Mem} (hf : f_X11_isPlace fl a1 M0 = some (r9, M9)) : Met l yX11_isPlace (Cond.code yX11_isPlace cX11_isPlace 1 (some .boolean) :: ztb) (RM (1) 0 0) (zPc K LC ad M0 [.int a1]) (zQ K LC ad (some (.int r9)) M9) 0 0 (zA ad) := by
  refine z_enter (by decide) (Nat.le_of_ble_eq_true rfl) ?_
  intro p e s m args below meth c ls C hin hargs Z hl
  replace C : Cx p s m args meth c cX11_isPlace 1 "GlassPalace" (some .boolean) := C
  replace hl : lv_has ls 1 [(0, .int a1)] := hl
  have hR : 1 ≤ (RM (1) 0 0).frames ∧ 40 * (1) ≤ (RM (1) 0 0).locals := ⟨Nat.le_refl _, Nat.le_refl _⟩
  have hB : 0 ≤ (RM (1) 0 0).cells ∧ 0 ≤ (RM (1) 0 0).slots := ⟨Nat.zero_le _, Nat.zero_le _⟩
  unfold f_X11_isPlace at hf
  refine lv_iload_n C.x C.b dX11_isPlace_0 rfl (lv_at hl 0 rfl) ?_
  refine lv_iconst (v := 1) C.x C.b dX11_isPlace_1 (by decide) ?_
  refine lv_icmp_lt (tgt := 14) C.x C.b dX11_isPlace_2 (by decide) (fun hc1 => ?_) (fun hc1 => ?_)
  · replace hf := ite_t hf hc1
    refine lv_iconst (v := 0) C.x C.b dX11_isPlace_14 (by decide) ?_
    obtain ⟨rfl, rfl⟩ := pr_s hf
    exact z_zret C Z rfl dX11_isPlace_15
  · replace hf := ite_f hf hc1
    refine lv_iload_n C.x C.b dX11_isPlace_5 rfl (lv_at hl 0 rfl) ?_
    refine lv_iconst (v := 5) C.x C.b dX11_isPlace_6 (by decide) ?_
    refine lv_icmp_gt (tgt := 14) C.x C.b dX11_isPlace_7 (by decide) (fun hc2 => ?_) (fun hc2 => ?_)
    · replace hf := ite_t hf hc2
      refine lv_iconst (v := 0) C.x C.b dX11_isPlace_14 (by decide) ?_
      obtain ⟨rfl, rfl⟩ := pr_s hf
      exact z_zret C Z rfl dX11_isPlace_15
    · replace hf := ite_f hf hc2
      refine lv_iconst (v := 1) C.x C.b dX11_isPlace_10 (by decide) ?_
      refine lv_goto (tgt := 15) C.x C.b dX11_isPlace_11 (by decide) ?_
      obtain ⟨rfl, rfl⟩ := pr_s hf
      exact z_zret C Z rfl dX11_isPlace_15
theorem dX11_at_0 : decode cX11_at 0 = .ok (.aload_n 0, 1) := by decide +kernel
theorem dX11_at_1 : decode cX11_at 1 = .ok (.iload_n 1, 1) := by decide +kernel
theorem dX11_at_2 : decode cX11_at 2 = .ok (.invokevirtual 92, 3) := by decide +kernel
theorem dX11_at_5 : decode cX11_at 5 = .ok (.astore_n 3, 1) := by decide +kernel
theorem dX11_at_6 : decode cX11_at 6 = .ok (.aload_n 3, 1) := by decide +kernel
theorem dX11_at_7 : decode cX11_at 7 = .ok (.ifnull 10, 3) := by decide +kernel
theorem dX11_at_10 : decode cX11_at 10 = .ok (.iload_n 2, 1) := by decide +kernel
theorem dX11_at_11 : decode cX11_at 11 = .ok (.invokestatic 179, 3) := by decide +kernel
theorem dX11_at_14 : decode cX11_at 14 = .ok (.ifCond .ne 5, 3) := by decide +kernel
theorem dX11_at_17 : decode cX11_at 17 = .ok (.iconst (-1), 1) := by decide +kernel
theorem dX11_at_18 : decode cX11_at 18 = .ok (.ireturn, 1) := by decide +kernel
theorem dX11_at_19 : decode cX11_at 19 = .ok (.iload_n 2, 1) := by decide +kernel
theorem dX11_at_20 : decode cX11_at 20 = .ok (.iconst 3, 1) := by decide +kernel
theorem dX11_at_21 : decode cX11_at 21 = .ok (.if_icmp .ne 8, 3) := by decide +kernel
theorem dX11_at_24 : decode cX11_at 24 = .ok (.aload_n 3, 1) := by decide +kernel
theorem dX11_at_25 : decode cX11_at 25 = .ok (.getfield 182, 3) := by decide +kernel
theorem dX11_at_28 : decode cX11_at 28 = .ok (.ireturn, 1) := by decide +kernel
theorem dX11_at_29 : decode cX11_at 29 = .ok (.aload_n 3, 1) := by decide +kernel
theorem dX11_at_30 : decode cX11_at 30 = .ok (.iload_n 2, 1) := by decide +kernel
theorem dX11_at_31 : decode cX11_at 31 = .ok (.invokevirtual 185, 3) := by decide +kernel
theorem dX11_at_34 : decode cX11_at 34 = .ok (.astore 4, 2) := by decide +kernel
theorem dX11_at_36 : decode cX11_at 36 = .ok (.aload 4, 2) := by decide +kernel
theorem dX11_at_38 : decode cX11_at 38 = .ok (.ifnonnull 8, 3) := by decide +kernel
theorem dX11_at_41 : decode cX11_at 41 = .ok (.bipush (-5), 2) := by decide +kernel
theorem dX11_at_43 : decode cX11_at 43 = .ok (.goto 8, 3) := by decide +kernel
theorem dX11_at_46 : decode cX11_at 46 = .ok (.aload 4, 2) := by decide +kernel
theorem dX11_at_48 : decode cX11_at 48 = .ok (.getfield 188, 3) := by decide +kernel
theorem dX11_at_51 : decode cX11_at 51 = .ok (.ireturn, 1) := by decide +kernel
set_option maxRecDepth 100000 in
set_option maxHeartbeats 4000000 in
theorem c_X11_at {l : Launch} {K : KG} {ad : Nat → Nat → Nat} {fl : Nat} {a1 : Int32} {a2 : Int32} {M0 : Mem} {r9 : Int32} {M9 : Mem} (hf : f_X11_at fl a1 a2 M0 = some (r9, M9)) : Met l yX11_at (Cond.code yX11_at cX11_at 5 (some .int) :: ztb) (RM (3) 0 0) (zPc K LC ad M0 [.ref (ad 0 0), .int a1, .int a2]) (zQ K LC ad (some (.int r9)) M9) 0 0 (zA ad) := by
  refine z_enter (by decide) (Nat.le_of_ble_eq_true rfl) ?_
  intro p e s m args below meth c ls C hin hargs Z hl
  replace C : Cx p s m args meth c cX11_at 5 "GlassPalace" (some .int) := C
  replace hl : lv_has ls 5 [(0, .ref (ad 0 0)), (1, .int a1), (2, .int a2)] := hl
  have hR : 3 ≤ (RM (3) 0 0).frames ∧ 40 * (3) ≤ (RM (3) 0 0).locals := ⟨Nat.le_refl _, Nat.le_refl _⟩
  have hB : 0 ≤ (RM (3) 0 0).cells ∧ 0 ≤ (RM (3) 0 0).slots := ⟨Nat.zero_le _, Nat.zero_le _⟩
  unfold f_X11_at at hf
  refine lv_aload_n C.x C.b dX11_at_0 rfl (lv_at hl 0 rfl) ?_
  refine lv_iload_n C.x C.b dX11_at_1 rfl (lv_at hl 1 rfl) ?_
  replace hf := bn2_s hf; obtain ⟨c2, m1, hkm1, hf⟩ := hf
  refine z_cV (As := [.int a1]) (rest := []) (st1 := [rf (ad 13) c2]) C Z mw_X11_bayOf mv_X11_bayOf k_416 (by decide) (z_hR hR (by decide)) (lvC0 Nat.zero_lt_one) kC0 zc11 (c_X11_bayOf (l := l) (K := K) (ad := ad) hkm1) rfl hl.1 rfl (Nat.le_of_ble_eq_true rfl) dX11_at_2 hB rfl (fun H locs Z => ?_)
  refine z_cstore_n (lv' := [(3, rf (ad 13) c2), (0, .ref (ad 0 0)), (1, .int a1), (2, .int a2)]) C dX11_at_5 rfl hl (by decide) rfl (onlast 2 rfl rfl rfl) (fun ls hl => ?_)
  refine z_aload_n C dX11_at_6 rfl (lv_at hl 0 rfl) ?_
  refine z_ifnull C dX11_at_7 (tgt := 17) (by decide) (fun hc3 => ?_) (fun hc3 => ?_)
  · replace hf := ite_t hf hc3
    refine lv_iconst (v := (-1)) C.x C.b dX11_at_17 (by decide) ?_
    obtain ⟨rfl, rfl⟩ := pr_s hf
    exact z_iret C Z dX11_at_18
  · replace hf := ite_f hf hc3
    refine lv_iload_n C.x C.b dX11_at_10 rfl (lv_at hl 3 rfl) ?_
    replace hf := bn2_s hf; obtain ⟨v5, m4, hkm4, hf⟩ := hf
    refine z_cS (As := [.int a2]) (rest := []) (st1 := [.int v5]) C Z mw_X11_isPlace mv_X11_isPlace k_640 (by decide) (z_hR hR (by decide)) (c_X11_isPlace (l := l) (K := K) (ad := ad) hkm4) rfl hl.1 rfl (Nat.le_of_ble_eq_true rfl) dX11_at_11 hB rfl (fun H locs Z => ?_)
    refine lv_if_ne (tgt := 19) C.x C.b dX11_at_14 (by decide) (fun hc6 => ?_) (fun hc6 => ?_)
    · replace hf := ite_f hf hc6
      refine lv_iload_n C.x C.b dX11_at_19 rfl (lv_at hl 3 rfl) ?_
      refine lv_iconst (v := 3) C.x C.b dX11_at_20 (by decide) ?_
      refine lv_icmp_ne (tgt := 29) C.x C.b dX11_at_21 (by decide) (fun hc7 => ?_) (fun hc7 => ?_)
      · replace hf := ite_f hf hc7
        refine z_aload_n C dX11_at_29 rfl (lv_at hl 0 rfl) ?_
        refine lv_iload_n C.x C.b dX11_at_30 rfl (lv_at hl 3 rfl) ?_
        replace hf := drf_s hf; obtain ⟨j8, ej10, hj9, hf⟩ := hf
        subst ej10
        refine z_nn [.int a2] (y := j8 + 1) rfl ?_
        replace hf := bn2_s hf; obtain ⟨c12, m11, hkm11, hf⟩ := hf
        refine z_cV (As := [.int a2]) (rest := []) (st1 := [rf (ad 23) c12]) C Z mw_X1_latestAt mv_X1_latestAt k_643 (by decide) (z_hR hR (by decide)) (lvC13 hj9) kC13 zc1 (c_X1_latestAt (l := l) (K := K) (ad := ad) hj9 hkm11) rfl hl.1 rfl (Nat.le_of_ble_eq_true rfl) dX11_at_31 hB rfl (fun H locs Z => ?_)
        refine z_cstore (lv' := [(4, rf (ad 23) c12), (3, .ref (ad 13 j8)), (0, .ref (ad 0 0)), (1, .int a1), (2, .int a2)]) C dX11_at_34 hl (by decide) rfl (onlast 0 rfl rfl rfl) (fun ls hl => ?_)
        refine z_aload C dX11_at_36 (lv_at hl 0 rfl) ?_
        refine z_ifnonnull C dX11_at_38 (tgt := 46) (by decide) (fun hc13 => ?_) (fun hc13 => ?_)
        · replace hf := ite_f hf hc13
          refine z_aload C dX11_at_46 (lv_at hl 0 rfl) ?_
          replace hf := drf_s hf; obtain ⟨j14, ej16, hj15, hf⟩ := hf
          subst ej16
          refine z_nn [] (y := j14 + 1) rfl ?_
          refine z_get C Z (lvC23 hj15) kC23 zc4 zin4 0 (by decide) k_459 rfl svC23_0 dX11_at_48 ?_
          obtain ⟨rfl, rfl⟩ := pr_s hf
          exact z_iret C Z dX11_at_51
        · replace hf := ite_t hf hc13
          refine lv_bipush (v := (-5)) C.x C.b dX11_at_41 (by decide) ?_
          refine lv_goto (tgt := 51) C.x C.b dX11_at_43 (by decide) ?_
          obtain ⟨rfl, rfl⟩ := pr_s hf
          exact z_iret C Z dX11_at_51
      · replace hf := ite_t hf hc7
        refine z_aload_n C dX11_at_24 rfl (lv_at hl 0 rfl) ?_
        replace hf := drf_s hf; obtain ⟨j17, ej19, hj18, hf⟩ := hf
        subst ej19
        refine z_nn [] (y := j17 + 1) rfl ?_
        refine z_get C Z (lvC13 hj18) kC13 zc1 zin1 4 (by decide) k_321 rfl svC13_4 dX11_at_25 ?_
        obtain ⟨rfl, rfl⟩ := pr_s hf
        exact z_iret C Z dX11_at_28
    · replace hf := ite_t hf hc6
      refine lv_iconst (v := (-1)) C.x C.b dX11_at_17 (by decide) ?_
      obtain ⟨rfl, rfl⟩ := pr_s hf
      exact z_iret C Z dX11_at_18
theorem dX11_leftOf_0 : decode cX11_leftOf 0 = .ok (.aload_n 1, 1) := by decide +kernel
theorem dX11_leftOf_1 : decode cX11_leftOf 1 = .ok (.invokevirtual 444, 3) := by decide +kernel
theorem dX11_leftOf_4 : decode cX11_leftOf 4 = .ok (.ifCond .ne 7, 3) := by decide +kernel
theorem dX11_leftOf_7 : decode cX11_leftOf 7 = .ok (.aconst_null, 1) := by decide +kernel
theorem dX11_leftOf_8 : decode cX11_leftOf 8 = .ok (.goto 13, 3) := by decide +kernel
theorem dX11_leftOf_11 : decode cX11_leftOf 11 = .ok (.aload_n 0, 1) := by decide +kernel
theorem dX11_leftOf_12 : decode cX11_leftOf 12 = .ok (.aload_n 1, 1) := by decide +kernel
theorem dX11_leftOf_13 : decode cX11_leftOf 13 = .ok (.getfield 264, 3) := by decide +kernel
theorem dX11_leftOf_16 : decode cX11_leftOf 16 = .ok (.iconst 1, 1) := by decide +kernel
theorem dX11_leftOf_17 : decode cX11_leftOf 17 = .ok (.isub, 1) := by decide +kernel
theorem dX11_leftOf_18 : decode cX11_leftOf 18 = .ok (.invokevirtual 92, 3) := by decide +kernel
theorem dX11_leftOf_21 : decode cX11_leftOf 21 = .ok (.areturn, 1) := by decide +kernel
set_option maxRecDepth 100000 in
set_option maxHeartbeats 4000000 in
theorem c_X11_leftOf {l : Launch} {K : KG} {ad : Nat → Nat → Nat} {fl : Nat} {a1 : Nat} {M0 : Mem} {r9 : Nat} {M9 : Mem} (hf : f_X11_leftOf fl a1 M0 = some (r9, M9)) : Met l yX11_leftOf (Cond.code yX11_leftOf cX11_leftOf 2 (some (.object "GlassPalace$Bay")) :: ztb) (RM (3) 0 0) (zPc K LC ad M0 [.ref (ad 0 0), rf (ad 13) a1]) (zQ K LC ad (some (rf (ad 13) r9)) M9) 0 0 (zA ad) := by
  refine z_enter (by decide) (by simp [lg_sl, rf_cat, cat_i, cat_l, cat_r, cat_n]) ?_
  intro p e s m args below meth c ls C hin hargs Z hl
  replace C : Cx p s m args meth c cX11_leftOf 2 "GlassPalace" (some (.object "GlassPalace$Bay")) := C
  replace hl : lv_has ls 2 [(0, .ref (ad 0 0)), (1, rf (ad 13) a1)] := by simpa [lv_args, rf_cat, cat_i, cat_l, cat_r, cat_n] using hl
  have hR : 3 ≤ (RM (3) 0 0).frames ∧ 40 * (3) ≤ (RM (3) 0 0).locals := ⟨Nat.le_refl _, Nat.le_refl _⟩
  have hB : 0 ≤ (RM (3) 0 0).cells ∧ 0 ≤ (RM (3) 0 0).slots := ⟨Nat.zero_le _, Nat.zero_le _⟩
  unfold f_X11_leftOf at hf
  refine z_aload_n C dX11_leftOf_0 rfl (lv_at hl 1 rfl) ?_
  replace hf := drf_s hf; obtain ⟨j1, ej3, hj2, hf⟩ := hf
  subst ej3
  refine z_nn [] (y := j1 + 1) rfl ?_
  replace hf := bn2_s hf; obtain ⟨v5, m4, hkm4, hf⟩ := hf
  refine z_cV (As := []) (rest := []) (st1 := [.int v5]) C Z mw_X1_column mv_X1_column k_622 (by decide) (z_hR hR (by decide)) (lvC13 hj2) kC13 zc1 (c_X1_column (l := l) (K := K) (ad := ad) hj2 hkm4) rfl hl.1 rfl (Nat.le_of_ble_eq_true rfl) dX11_leftOf_1 hB rfl (fun H locs Z => ?_)
  refine lv_if_ne (tgt := 11) C.x C.b dX11_leftOf_4 (by decide) (fun hc6 => ?_) (fun hc6 => ?_)
  · replace hf := ite_f hf hc6
    refine lv_aload_n C.x C.b dX11_leftOf_11 rfl (lv_at hl 0 rfl) ?_
    refine lv_aload_n C.x C.b dX11_leftOf_12 rfl (lv_at hl 1 rfl) ?_
    refine z_get C Z (lvC13 hj2) kC13 zc1 zin1 0 (by decide) k_312 rfl svC13_0 dX11_leftOf_13 ?_
    refine lv_iconst (v := 1) C.x C.b dX11_leftOf_16 (by decide) ?_
    refine lv_isub C.x C.b dX11_leftOf_17 ?_
    replace hf := bn2_s hf; obtain ⟨c8, m7, hkm7, hf⟩ := hf
    refine z_cV (As := [.int ((gI m4 13 j1 0) - 1)]) (rest := []) (st1 := [rf (ad 13) c8]) C Z mw_X11_bayOf mv_X11_bayOf k_416 (by decide) (z_hR hR (by decide)) (lvC0 Nat.zero_lt_one) kC0 zc11 (c_X11_bayOf (l := l) (K := K) (ad := ad) hkm7) rfl hl.1 rfl (Nat.le_of_ble_eq_true rfl) dX11_leftOf_18 hB rfl (fun H locs Z => ?_)
    obtain ⟨rfl, rfl⟩ := pr_s hf
    exact z_aret (f := ad 13) (k := _) C Z dX11_leftOf_21
  · replace hf := ite_t hf hc6
    refine lv_null C.x C.b dX11_leftOf_7 ?_
    refine lv_goto (tgt := 21) C.x C.b dX11_leftOf_8 (by decide) ?_
    obtain ⟨rfl, rfl⟩ := pr_s hf
    exact z_aret (f := ad 13) (k := 0) C Z dX11_leftOf_21
theorem dX11_isNeeded_0 : decode cX11_isNeeded 0 = .ok (.iload_n 2, 1) := by decide +kernel
theorem dX11_isNeeded_1 : decode cX11_isNeeded 1 = .ok (.iconst 2, 1) := by decide +kernel
theorem dX11_isNeeded_2 : decode cX11_isNeeded 2 = .ok (.if_icmp .ne 25, 3) := by decide +kernel
theorem dX11_isNeeded_5 : decode cX11_isNeeded 5 = .ok (.aload_n 1, 1) := by decide +kernel
theorem dX11_isNeeded_6 : decode cX11_isNeeded 6 = .ok (.iconst 3, 1) := by decide +kernel
theorem dX11_isNeeded_7 : decode cX11_isNeeded 7 = .ok (.invokevirtual 247, 3) := by decide +kernel
theorem dX11_isNeeded_10 : decode cX11_isNeeded 10 = .ok (.ifCond .ne 11, 3) := by decide +kernel
theorem dX11_isNeeded_13 : decode cX11_isNeeded 13 = .ok (.aload_n 1, 1) := by decide +kernel
theorem dX11_isNeeded_14 : decode cX11_isNeeded 14 = .ok (.iconst 4, 1) := by decide +kernel
theorem dX11_isNeeded_15 : decode cX11_isNeeded 15 = .ok (.invokevirtual 247, 3) := by decide +kernel
theorem dX11_isNeeded_18 : decode cX11_isNeeded 18 = .ok (.ifCond .eq 7, 3) := by decide +kernel
theorem dX11_isNeeded_21 : decode cX11_isNeeded 21 = .ok (.iconst 1, 1) := by decide +kernel
theorem dX11_isNeeded_22 : decode cX11_isNeeded 22 = .ok (.goto 4, 3) := by decide +kernel
theorem dX11_isNeeded_25 : decode cX11_isNeeded 25 = .ok (.iconst 0, 1) := by decide +kernel
theorem dX11_isNeeded_26 : decode cX11_isNeeded 26 = .ok (.ireturn, 1) := by decide +kernel
theorem dX11_isNeeded_27 : decode cX11_isNeeded 27 = .ok (.aload_n 0, 1) := by decide +kernel
theorem dX11_isNeeded_28 : decode cX11_isNeeded 28 = .ok (.aload_n 1, 1) := by decide +kernel
theorem dX11_isNeeded_29 : decode cX11_isNeeded 29 = .ok (.invokevirtual 460, 3) := by decide +kernel
theorem dX11_isNeeded_32 : decode cX11_isNeeded 32 = .ok (.astore_n 3, 1) := by decide +kernel
theorem dX11_isNeeded_33 : decode cX11_isNeeded 33 = .ok (.iload_n 2, 1) := by decide +kernel
theorem dX11_isNeeded_34 : decode cX11_isNeeded 34 = .ok (.iconst 1, 1) := by decide +kernel
theorem dX11_isNeeded_35 : decode cX11_isNeeded 35 = .ok (.if_icmp .ne 27, 3) := by decide +kernel
theorem dX11_isNeeded_38 : decode cX11_isNeeded 38 = .ok (.aload_n 1, 1) := by decide +kernel
theorem dX11_isNeeded_39 : decode cX11_isNeeded 39 = .ok (.iconst 2, 1) := by decide +kernel
theorem dX11_isNeeded_40 : decode cX11_isNeeded 40 = .ok (.invokevirtual 247, 3) := by decide +kernel
theorem dX11_isNeeded_43 : decode cX11_isNeeded 43 = .ok (.ifCond .ne 15, 3) := by decide +kernel
theorem dX11_isNeeded_46 : decode cX11_isNeeded 46 = .ok (.aload_n 3, 1) := by decide +kernel
theorem dX11_isNeeded_47 : decode cX11_isNeeded 47 = .ok (.ifnull 15, 3) := by decide +kernel
theorem dX11_isNeeded_50 : decode cX11_isNeeded 50 = .ok (.aload_n 3, 1) := by decide +kernel
theorem dX11_isNeeded_51 : decode cX11_isNeeded 51 = .ok (.iconst 2, 1) := by decide +kernel
theorem dX11_isNeeded_52 : decode cX11_isNeeded 52 = .ok (.invokevirtual 247, 3) := by decide +kernel
theorem dX11_isNeeded_55 : decode cX11_isNeeded 55 = .ok (.ifCond .eq 7, 3) := by decide +kernel
theorem dX11_isNeeded_58 : decode cX11_isNeeded 58 = .ok (.iconst 1, 1) := by decide +kernel
theorem dX11_isNeeded_59 : decode cX11_isNeeded 59 = .ok (.goto 4, 3) := by decide +kernel
theorem dX11_isNeeded_62 : decode cX11_isNeeded 62 = .ok (.iconst 0, 1) := by decide +kernel
theorem dX11_isNeeded_63 : decode cX11_isNeeded 63 = .ok (.ireturn, 1) := by decide +kernel
set_option maxRecDepth 100000 in
set_option maxHeartbeats 4000000 in
theorem c_X11_isNeeded {l : Launch} {K : KG} {ad : Nat → Nat → Nat} {fl : Nat} {a1 : Nat} {a2 : Int32} {M0 : Mem} {r9 : Int32} {M9 : Mem} (hf : f_X11_isNeeded fl a1 a2 M0 = some (r9, M9)) : Met l yX11_isNeeded (Cond.code yX11_isNeeded cX11_isNeeded 4 (some .boolean) :: ztb) (RM (4) 0 0) (zPc K LC ad M0 [.ref (ad 0 0), rf (ad 13) a1, .int a2]) (zQ K LC ad (some (.int r9)) M9) 0 0 (zA ad) := by
  refine z_enter (by decide) (by simp [lg_sl, rf_cat, cat_i, cat_l, cat_r, cat_n]) ?_
  intro p e s m args below meth c ls C hin hargs Z hl
  replace C : Cx p s m args meth c cX11_isNeeded 4 "GlassPalace" (some .boolean) := C
  replace hl : lv_has ls 4 [(0, .ref (ad 0 0)), (1, rf (ad 13) a1), (2, .int a2)] := by simpa [lv_args, rf_cat, cat_i, cat_l, cat_r, cat_n] using hl
  have hR : 4 ≤ (RM (4) 0 0).frames ∧ 40 * (4) ≤ (RM (4) 0 0).locals := ⟨Nat.le_refl _, Nat.le_refl _⟩
  have hB : 0 ≤ (RM (4) 0 0).cells ∧ 0 ≤ (RM (4) 0 0).slots := ⟨Nat.zero_le _, Nat.zero_le _⟩
  unfold f_X11_isNeeded at hf
  refine lv_iload_n C.x C.b dX11_isNeeded_0 rfl (lv_at hl 2 rfl) ?_
  refine lv_iconst (v := 2) C.x C.b dX11_isNeeded_1 (by decide) ?_
  refine lv_icmp_ne (tgt := 27) C.x C.b dX11_isNeeded_2 (by decide) (fun hc1 => ?_) (fun hc1 => ?_)
  · replace hf := ite_f hf hc1
    refine lv_aload_n C.x C.b dX11_isNeeded_27 rfl (lv_at hl 0 rfl) ?_
    refine z_aload_n C dX11_isNeeded_28 rfl (lv_at hl 1 rfl) ?_
    replace hf := bn2_s hf; obtain ⟨c3, m2, hkm2, hf⟩ := hf
    refine z_cV (As := [rf (ad 13) a1]) (rest := []) (st1 := [rf (ad 13) c3]) C Z mw_X11_leftOf mv_X11_leftOf k_652 (by decide) (z_hR hR (by decide)) (lvC0 Nat.zero_lt_one) kC0 zc11 (c_X11_leftOf (l := l) (K := K) (ad := ad) hkm2) rfl hl.1 rfl (Nat.le_of_ble_eq_true rfl) dX11_isNeeded_29 hB rfl (fun H locs Z => ?_)
    refine z_cstore_n (lv' := [(3, rf (ad 13) c3), (0, .ref (ad 0 0)), (1, rf (ad 13) a1), (2, .int a2)]) C dX11_isNeeded_32 rfl hl (by decide) rfl (onlast 2 rfl rfl rfl) (fun ls hl => ?_)
    refine lv_iload_n C.x C.b dX11_isNeeded_33 rfl (lv_at hl 3 rfl) ?_
    refine lv_iconst (v := 1) C.x C.b dX11_isNeeded_34 (by decide) ?_
    refine lv_icmp_ne (tgt := 62) C.x C.b dX11_isNeeded_35 (by decide) (fun hc4 => ?_) (fun hc4 => ?_)
    · replace hf := ite_f hf hc4
      refine lv_iconst (v := 0) C.x C.b dX11_isNeeded_62 (by decide) ?_
      obtain ⟨rfl, rfl⟩ := pr_s hf
      exact z_zret C Z rfl dX11_isNeeded_63
    · replace hf := ite_t hf hc4
      refine z_aload_n C dX11_isNeeded_38 rfl (lv_at hl 2 rfl) ?_
      refine lv_iconst (v := 2) C.x C.b dX11_isNeeded_39 (by decide) ?_
      replace hf := drf_s hf; obtain ⟨j5, ej7, hj6, hf⟩ := hf
      subst ej7
      refine z_nn [.int 2] (y := j5 + 1) rfl ?_
      replace hf := bn2_s hf; obtain ⟨v9, m8, hkm8, hf⟩ := hf
      refine z_cV (As := [.int 2]) (rest := []) (st1 := [.int v9]) C Z mw_X1_has mv_X1_has k_617 (by decide) (z_hR hR (by decide)) (lvC13 hj6) kC13 zc1 (c_X1_has (l := l) (K := K) (ad := ad) hj6 hkm8) rfl hl.1 rfl (Nat.le_of_ble_eq_true rfl) dX11_isNeeded_40 hB rfl (fun H locs Z => ?_)
      refine lv_if_ne (tgt := 58) C.x C.b dX11_isNeeded_43 (by decide) (fun hc10 => ?_) (fun hc10 => ?_)
      · replace hf := ite_f hf hc10
        refine lv_iconst (v := 1) C.x C.b dX11_isNeeded_58 (by decide) ?_
        refine lv_goto (tgt := 63) C.x C.b dX11_isNeeded_59 (by decide) ?_
        obtain ⟨rfl, rfl⟩ := pr_s hf
        exact z_zret C Z rfl dX11_isNeeded_63
      · replace hf := ite_t hf hc10
        refine z_aload_n C dX11_isNeeded_46 rfl (lv_at hl 0 rfl) ?_
        refine z_ifnull C dX11_isNeeded_47 (tgt := 62) (by decide) (fun hc11 => ?_) (fun hc11 => ?_)
        · replace hf := ite_t hf hc11
          refine lv_iconst (v := 0) C.x C.b dX11_isNeeded_62 (by decide) ?_
          obtain ⟨rfl, rfl⟩ := pr_s hf
          exact z_zret C Z rfl dX11_isNeeded_63
        · replace hf := ite_f hf hc11
          refine z_aload_n C dX11_isNeeded_50 rfl (lv_at hl 0 rfl) ?_
          refine lv_iconst (v := 2) C.x C.b dX11_isNeeded_51 (by decide) ?_
          replace hf := drf_s hf; obtain ⟨j12, ej14, hj13, hf⟩ := hf
          subst ej14
          refine z_nn [.int 2] (y := j12 + 1) rfl ?_
          replace hf := bn2_s hf; obtain ⟨v16, m15, hkm15, hf⟩ := hf
          refine z_cV (As := [.int 2]) (rest := []) (st1 := [.int v16]) C Z mw_X1_has mv_X1_has k_617 (by decide) (z_hR hR (by decide)) (lvC13 hj13) kC13 zc1 (c_X1_has (l := l) (K := K) (ad := ad) hj13 hkm15) rfl hl.1 rfl (Nat.le_of_ble_eq_true rfl) dX11_isNeeded_52 hB rfl (fun H locs Z => ?_)
          refine lv_if_eq (tgt := 62) C.x C.b dX11_isNeeded_55 (by decide) (fun hc17 => ?_) (fun hc17 => ?_)
          · replace hf := ite_t hf hc17
            refine lv_iconst (v := 0) C.x C.b dX11_isNeeded_62 (by decide) ?_
            obtain ⟨rfl, rfl⟩ := pr_s hf
            exact z_zret C Z rfl dX11_isNeeded_63
          · replace hf := ite_f hf hc17
            refine lv_iconst (v := 1) C.x C.b dX11_isNeeded_58 (by decide) ?_
            refine lv_goto (tgt := 63) C.x C.b dX11_isNeeded_59 (by decide) ?_
            obtain ⟨rfl, rfl⟩ := pr_s hf
            exact z_zret C Z rfl dX11_isNeeded_63
  · replace hf := ite_t hf hc1
    refine z_aload_n C dX11_isNeeded_5 rfl (lv_at hl 1 rfl) ?_
    refine lv_iconst (v := 3) C.x C.b dX11_isNeeded_6 (by decide) ?_
    replace hf := drf_s hf; obtain ⟨j18, ej20, hj19, hf⟩ := hf
    subst ej20
    refine z_nn [.int 3] (y := j18 + 1) rfl ?_
    replace hf := bn2_s hf; obtain ⟨v22, m21, hkm21, hf⟩ := hf
    refine z_cV (As := [.int 3]) (rest := []) (st1 := [.int v22]) C Z mw_X1_has mv_X1_has k_617 (by decide) (z_hR hR (by decide)) (lvC13 hj19) kC13 zc1 (c_X1_has (l := l) (K := K) (ad := ad) hj19 hkm21) rfl hl.1 rfl (Nat.le_of_ble_eq_true rfl) dX11_isNeeded_7 hB rfl (fun H locs Z => ?_)
    refine lv_if_ne (tgt := 21) C.x C.b dX11_isNeeded_10 (by decide) (fun hc23 => ?_) (fun hc23 => ?_)
    · replace hf := ite_f hf hc23
      refine lv_iconst (v := 1) C.x C.b dX11_isNeeded_21 (by decide) ?_
      refine lv_goto (tgt := 26) C.x C.b dX11_isNeeded_22 (by decide) ?_
      obtain ⟨rfl, rfl⟩ := pr_s hf
      exact z_zret C Z rfl dX11_isNeeded_26
    · replace hf := ite_t hf hc23
      refine lv_aload_n C.x C.b dX11_isNeeded_13 rfl (lv_at hl 1 rfl) ?_
      refine lv_iconst (v := 4) C.x C.b dX11_isNeeded_14 (by decide) ?_
      replace hf := bn2_s hf; obtain ⟨v25, m24, hkm24, hf⟩ := hf
      refine z_cV (As := [.int 4]) (rest := []) (st1 := [.int v25]) C Z mw_X1_has mv_X1_has k_617 (by decide) (z_hR hR (by decide)) (lvC13 hj19) kC13 zc1 (c_X1_has (l := l) (K := K) (ad := ad) hj19 hkm24) rfl hl.1 rfl (Nat.le_of_ble_eq_true rfl) dX11_isNeeded_15 hB rfl (fun H locs Z => ?_)
      refine lv_if_eq (tgt := 25) C.x C.b dX11_isNeeded_18 (by decide) (fun hc26 => ?_) (fun hc26 => ?_)
      · replace hf := ite_t hf hc26
        refine lv_iconst (v := 0) C.x C.b dX11_isNeeded_25 (by decide) ?_
        obtain ⟨rfl, rfl⟩ := pr_s hf
        exact z_zret C Z rfl dX11_isNeeded_26
      · replace hf := ite_f hf hc26
        refine lv_iconst (v := 1) C.x C.b dX11_isNeeded_21 (by decide) ?_
        refine lv_goto (tgt := 26) C.x C.b dX11_isNeeded_22 (by decide) ?_
        obtain ⟨rfl, rfl⟩ := pr_s hf
        exact z_zret C Z rfl dX11_isNeeded_26
theorem dX11_down_0 : decode cX11_down 0 = .ok (.aload_n 0, 1) := by decide +kernel
theorem dX11_down_1 : decode cX11_down 1 = .ok (.iload_n 1, 1) := by decide +kernel
theorem dX11_down_2 : decode cX11_down 2 = .ok (.invokevirtual 92, 3) := by decide +kernel
theorem dX11_down_5 : decode cX11_down 5 = .ok (.astore_n 3, 1) := by decide +kernel
theorem dX11_down_6 : decode cX11_down 6 = .ok (.aload_n 3, 1) := by decide +kernel
theorem dX11_down_7 : decode cX11_down 7 = .ok (.ifnull 10, 3) := by decide +kernel
theorem dX11_down_10 : decode cX11_down 10 = .ok (.iload_n 2, 1) := by decide +kernel
theorem dX11_down_11 : decode cX11_down 11 = .ok (.invokestatic 179, 3) := by decide +kernel
theorem dX11_down_14 : decode cX11_down 14 = .ok (.ifCond .ne 5, 3) := by decide +kernel
theorem dX11_down_17 : decode cX11_down 17 = .ok (.iconst (-1), 1) := by decide +kernel
theorem dX11_down_18 : decode cX11_down 18 = .ok (.ireturn, 1) := by decide +kernel
theorem dX11_down_19 : decode cX11_down 19 = .ok (.aload_n 3, 1) := by decide +kernel
theorem dX11_down_20 : decode cX11_down 20 = .ok (.iload_n 2, 1) := by decide +kernel
theorem dX11_down_21 : decode cX11_down 21 = .ok (.invokevirtual 185, 3) := by decide +kernel
theorem dX11_down_24 : decode cX11_down 24 = .ok (.astore 4, 2) := by decide +kernel
theorem dX11_down_26 : decode cX11_down 26 = .ok (.aload 4, 2) := by decide +kernel
theorem dX11_down_28 : decode cX11_down 28 = .ok (.ifnull 12, 3) := by decide +kernel
theorem dX11_down_31 : decode cX11_down 31 = .ok (.aload_n 0, 1) := by decide +kernel
theorem dX11_down_32 : decode cX11_down 32 = .ok (.aload_n 3, 1) := by decide +kernel
theorem dX11_down_33 : decode cX11_down 33 = .ok (.iload_n 2, 1) := by decide +kernel
theorem dX11_down_34 : decode cX11_down 34 = .ok (.invokevirtual 191, 3) := by decide +kernel
theorem dX11_down_37 : decode cX11_down 37 = .ok (.ifCond .eq 6, 3) := by decide +kernel
theorem dX11_down_40 : decode cX11_down 40 = .ok (.bipush (-3), 2) := by decide +kernel
theorem dX11_down_42 : decode cX11_down 42 = .ok (.ireturn, 1) := by decide +kernel
theorem dX11_down_43 : decode cX11_down 43 = .ok (.aload_n 3, 1) := by decide +kernel
theorem dX11_down_44 : decode cX11_down 44 = .ok (.aload 4, 2) := by decide +kernel
theorem dX11_down_46 : decode cX11_down 46 = .ok (.invokevirtual 195, 3) := by decide +kernel
theorem dX11_down_49 : decode cX11_down 49 = .ok (.aload 4, 2) := by decide +kernel
theorem dX11_down_51 : decode cX11_down 51 = .ok (.getfield 188, 3) := by decide +kernel
theorem dX11_down_54 : decode cX11_down 54 = .ok (.ireturn, 1) := by decide +kernel
set_option maxRecDepth 100000 in
set_option maxHeartbeats 4000000 in
theorem c_X11_down {l : Launch} {K : KG} {ad : Nat → Nat → Nat} {fl : Nat} {a1 : Int32} {a2 : Int32} {M0 : Mem} {r9 : Int32} {M9 : Mem} (hf : f_X11_down fl a1 a2 M0 = some (r9, M9)) : Met l yX11_down (Cond.code yX11_down cX11_down 5 (some .int) :: ztb) (RM (5) 0 0) (zPc K LC ad M0 [.ref (ad 0 0), .int a1, .int a2]) (zQ K LC ad (some (.int r9)) M9) 0 0 (zA ad) := by
  refine z_enter (by decide) (Nat.le_of_ble_eq_true rfl) ?_
  intro p e s m args below meth c ls C hin hargs Z hl
  replace C : Cx p s m args meth c cX11_down 5 "GlassPalace" (some .int) := C
  replace hl : lv_has ls 5 [(0, .ref (ad 0 0)), (1, .int a1), (2, .int a2)] := hl
  have hR : 5 ≤ (RM (5) 0 0).frames ∧ 40 * (5) ≤ (RM (5) 0 0).locals := ⟨Nat.le_refl _, Nat.le_refl _⟩
  have hB : 0 ≤ (RM (5) 0 0).cells ∧ 0 ≤ (RM (5) 0 0).slots := ⟨Nat.zero_le _, Nat.zero_le _⟩
  unfold f_X11_down at hf
  refine lv_aload_n C.x C.b dX11_down_0 rfl (lv_at hl 0 rfl) ?_
  refine lv_iload_n C.x C.b dX11_down_1 rfl (lv_at hl 1 rfl) ?_
  replace hf := bn2_s hf; obtain ⟨c2, m1, hkm1, hf⟩ := hf
  refine z_cV (As := [.int a1]) (rest := []) (st1 := [rf (ad 13) c2]) C Z mw_X11_bayOf mv_X11_bayOf k_416 (by decide) (z_hR hR (by decide)) (lvC0 Nat.zero_lt_one) kC0 zc11 (c_X11_bayOf (l := l) (K := K) (ad := ad) hkm1) rfl hl.1 rfl (Nat.le_of_ble_eq_true rfl) dX11_down_2 hB rfl (fun H locs Z => ?_)
  refine z_cstore_n (lv' := [(3, rf (ad 13) c2), (0, .ref (ad 0 0)), (1, .int a1), (2, .int a2)]) C dX11_down_5 rfl hl (by decide) rfl (onlast 2 rfl rfl rfl) (fun ls hl => ?_)
  refine z_aload_n C dX11_down_6 rfl (lv_at hl 0 rfl) ?_
  refine z_ifnull C dX11_down_7 (tgt := 17) (by decide) (fun hc3 => ?_) (fun hc3 => ?_)
  · replace hf := ite_t hf hc3
    refine lv_iconst (v := (-1)) C.x C.b dX11_down_17 (by decide) ?_
    obtain ⟨rfl, rfl⟩ := pr_s hf
    exact z_iret C Z dX11_down_18
  · replace hf := ite_f hf hc3
    refine lv_iload_n C.x C.b dX11_down_10 rfl (lv_at hl 3 rfl) ?_
    replace hf := bn2_s hf; obtain ⟨v5, m4, hkm4, hf⟩ := hf
    refine z_cS (As := [.int a2]) (rest := []) (st1 := [.int v5]) C Z mw_X11_isPlace mv_X11_isPlace k_640 (by decide) (z_hR hR (by decide)) (c_X11_isPlace (l := l) (K := K) (ad := ad) hkm4) rfl hl.1 rfl (Nat.le_of_ble_eq_true rfl) dX11_down_11 hB rfl (fun H locs Z => ?_)
    refine lv_if_ne (tgt := 19) C.x C.b dX11_down_14 (by decide) (fun hc6 => ?_) (fun hc6 => ?_)
    · replace hf := ite_f hf hc6
      refine z_aload_n C dX11_down_19 rfl (lv_at hl 0 rfl) ?_
      refine lv_iload_n C.x C.b dX11_down_20 rfl (lv_at hl 3 rfl) ?_
      replace hf := drf_s hf; obtain ⟨j7, ej9, hj8, hf⟩ := hf
      subst ej9
      refine z_nn [.int a2] (y := j7 + 1) rfl ?_
      replace hf := bn2_s hf; obtain ⟨c11, m10, hkm10, hf⟩ := hf
      refine z_cV (As := [.int a2]) (rest := []) (st1 := [rf (ad 23) c11]) C Z mw_X1_latestAt mv_X1_latestAt k_643 (by decide) (z_hR hR (by decide)) (lvC13 hj8) kC13 zc1 (c_X1_latestAt (l := l) (K := K) (ad := ad) hj8 hkm10) rfl hl.1 rfl (Nat.le_of_ble_eq_true rfl) dX11_down_21 hB rfl (fun H locs Z => ?_)
      refine z_cstore (lv' := [(4, rf (ad 23) c11), (3, .ref (ad 13 j7)), (0, .ref (ad 0 0)), (1, .int a1), (2, .int a2)]) C dX11_down_24 hl (by decide) rfl (onlast 0 rfl rfl rfl) (fun ls hl => ?_)
      refine z_aload C dX11_down_26 (lv_at hl 0 rfl) ?_
      refine z_ifnull C dX11_down_28 (tgt := 40) (by decide) (fun hc12 => ?_) (fun hc12 => ?_)
      · replace hf := ite_t hf hc12
        refine lv_bipush (v := (-3)) C.x C.b dX11_down_40 (by decide) ?_
        obtain ⟨rfl, rfl⟩ := pr_s hf
        exact z_iret C Z dX11_down_42
      · replace hf := ite_f hf hc12
        refine lv_aload_n C.x C.b dX11_down_31 rfl (lv_at hl 2 rfl) ?_
        refine lv_aload_n C.x C.b dX11_down_32 rfl (lv_at hl 1 rfl) ?_
        refine lv_iload_n C.x C.b dX11_down_33 rfl (lv_at hl 4 rfl) ?_
        replace hf := bn2_s hf; obtain ⟨v14, m13, hkm13, hf⟩ := hf
        refine z_cV (As := [.ref (ad 13 j7), .int a2]) (rest := []) (st1 := [.int v14]) C Z mw_X11_isNeeded mv_X11_isNeeded k_648 (by decide) (z_hR hR (by decide)) (lvC0 Nat.zero_lt_one) kC0 zc11 (c_X11_isNeeded (l := l) (K := K) (ad := ad) hkm13) rfl hl.1 rfl (Nat.le_of_ble_eq_true rfl) dX11_down_34 hB rfl (fun H locs Z => ?_)
        refine lv_if_eq (tgt := 43) C.x C.b dX11_down_37 (by decide) (fun hc15 => ?_) (fun hc15 => ?_)
        · replace hf := ite_t hf hc15
          refine lv_aload_n C.x C.b dX11_down_43 rfl (lv_at hl 1 rfl) ?_
          refine z_aload C dX11_down_44 (lv_at hl 0 rfl) ?_
          replace hf := bn1_s hf; obtain ⟨m16, hkm16, hf⟩ := hf
          refine z_cV (As := [rf (ad 23) c11]) (rest := []) (st1 := []) C Z mw_X1_remove mv_X1_remove k_656 (by decide) (z_hR hR (by decide)) (lvC13 hj8) kC13 zc1 (c_X1_remove (l := l) (K := K) (ad := ad) hj8 hkm16) rfl hl.1 rfl (Nat.le_of_ble_eq_true rfl) dX11_down_46 hB rfl (fun H locs Z => ?_)
          refine z_aload C dX11_down_49 (lv_at hl 0 rfl) ?_
          replace hf := drf_s hf; obtain ⟨j17, ej19, hj18, hf⟩ := hf
          subst ej19
          refine z_nn [] (y := j17 + 1) rfl ?_
          refine z_get C Z (lvC23 hj18) kC23 zc4 zin4 0 (by decide) k_459 rfl svC23_0 dX11_down_51 ?_
          obtain ⟨rfl, rfl⟩ := pr_s hf
          exact z_iret C Z dX11_down_54
        · replace hf := ite_f hf hc15
          refine lv_bipush (v := (-3)) C.x C.b dX11_down_40 (by decide) ?_
          obtain ⟨rfl, rfl⟩ := pr_s hf
          exact z_iret C Z dX11_down_42
    · replace hf := ite_t hf hc6
      refine lv_iconst (v := (-1)) C.x C.b dX11_down_17 (by decide) ?_
      obtain ⟨rfl, rfl⟩ := pr_s hf
      exact z_iret C Z dX11_down_18
theorem dX11_cut_0 : decode cX11_cut 0 = .ok (.aload_n 0, 1) := by decide +kernel
theorem dX11_cut_1 : decode cX11_cut 1 = .ok (.iload_n 1, 1) := by decide +kernel
theorem dX11_cut_2 : decode cX11_cut 2 = .ok (.invokevirtual 92, 3) := by decide +kernel
theorem dX11_cut_5 : decode cX11_cut 5 = .ok (.astore_n 2, 1) := by decide +kernel
theorem dX11_cut_6 : decode cX11_cut 6 = .ok (.aload_n 2, 1) := by decide +kernel
theorem dX11_cut_7 : decode cX11_cut 7 = .ok (.ifnonnull 5, 3) := by decide +kernel
theorem dX11_cut_10 : decode cX11_cut 10 = .ok (.iconst (-1), 1) := by decide +kernel
theorem dX11_cut_11 : decode cX11_cut 11 = .ok (.ireturn, 1) := by decide +kernel
theorem dX11_cut_12 : decode cX11_cut 12 = .ok (.aload_n 2, 1) := by decide +kernel
theorem dX11_cut_13 : decode cX11_cut 13 = .ok (.getfield 103, 3) := by decide +kernel
theorem dX11_cut_16 : decode cX11_cut 16 = .ok (.ifCond .eq 18, 3) := by decide +kernel
theorem dX11_cut_19 : decode cX11_cut 19 = .ok (.aload_n 0, 1) := by decide +kernel
theorem dX11_cut_20 : decode cX11_cut 20 = .ok (.getfield 40, 3) := by decide +kernel
theorem dX11_cut_23 : decode cX11_cut 23 = .ok (.aload_n 2, 1) := by decide +kernel
theorem dX11_cut_24 : decode cX11_cut 24 = .ok (.aload_n 0, 1) := by decide +kernel
theorem dX11_cut_25 : decode cX11_cut 25 = .ok (.getfield 88, 3) := by decide +kernel
theorem dX11_cut_28 : decode cX11_cut 28 = .ok (.invokevirtual 198, 3) := by decide +kernel
theorem dX11_cut_31 : decode cX11_cut 31 = .ok (.ifCond .ne 6, 3) := by decide +kernel
theorem dX11_cut_34 : decode cX11_cut 34 = .ok (.bipush (-3), 2) := by decide +kernel
theorem dX11_cut_36 : decode cX11_cut 36 = .ok (.ireturn, 1) := by decide +kernel
theorem dX11_cut_37 : decode cX11_cut 37 = .ok (.aload_n 2, 1) := by decide +kernel
theorem dX11_cut_38 : decode cX11_cut 38 = .ok (.getfield 103, 3) := by decide +kernel
theorem dX11_cut_41 : decode cX11_cut 41 = .ok (.istore_n 3, 1) := by decide +kernel
theorem dX11_cut_42 : decode cX11_cut 42 = .ok (.aload_n 2, 1) := by decide +kernel
theorem dX11_cut_43 : decode cX11_cut 43 = .ok (.iconst 0, 1) := by decide +kernel
theorem dX11_cut_44 : decode cX11_cut 44 = .ok (.putfield 103, 3) := by decide +kernel
theorem dX11_cut_47 : decode cX11_cut 47 = .ok (.iload_n 3, 1) := by decide +kernel
theorem dX11_cut_48 : decode cX11_cut 48 = .ok (.ireturn, 1) := by decide +kernel
set_option maxRecDepth 100000 in
set_option maxHeartbeats 4000000 in
theorem c_X11_cut {l : Launch} {K : KG} {ad : Nat → Nat → Nat} {fl : Nat} {a1 : Int32} {M0 : Mem} {r9 : Int32} {M9 : Mem} (hf : f_X11_cut fl a1 M0 = some (r9, M9)) : Met l yX11_cut (Cond.code yX11_cut cX11_cut 4 (some .int) :: ztb) (RM (5) 0 0) (zPc K LC ad M0 [.ref (ad 0 0), .int a1]) (zQ K LC ad (some (.int r9)) M9) 0 0 (zA ad) := by
  refine z_enter (by decide) (Nat.le_of_ble_eq_true rfl) ?_
  intro p e s m args below meth c ls C hin hargs Z hl
  replace C : Cx p s m args meth c cX11_cut 4 "GlassPalace" (some .int) := C
  replace hl : lv_has ls 4 [(0, .ref (ad 0 0)), (1, .int a1)] := hl
  have hR : 5 ≤ (RM (5) 0 0).frames ∧ 40 * (5) ≤ (RM (5) 0 0).locals := ⟨Nat.le_refl _, Nat.le_refl _⟩
  have hB : 0 ≤ (RM (5) 0 0).cells ∧ 0 ≤ (RM (5) 0 0).slots := ⟨Nat.zero_le _, Nat.zero_le _⟩
  unfold f_X11_cut at hf
  refine lv_aload_n C.x C.b dX11_cut_0 rfl (lv_at hl 0 rfl) ?_
  refine lv_iload_n C.x C.b dX11_cut_1 rfl (lv_at hl 1 rfl) ?_
  replace hf := bn2_s hf; obtain ⟨c2, m1, hkm1, hf⟩ := hf
  refine z_cV (As := [.int a1]) (rest := []) (st1 := [rf (ad 13) c2]) C Z mw_X11_bayOf mv_X11_bayOf k_416 (by decide) (z_hR hR (by decide)) (lvC0 Nat.zero_lt_one) kC0 zc11 (c_X11_bayOf (l := l) (K := K) (ad := ad) hkm1) rfl hl.1 rfl (Nat.le_of_ble_eq_true rfl) dX11_cut_2 hB rfl (fun H locs Z => ?_)
  refine z_cstore_n (lv' := [(2, rf (ad 13) c2), (0, .ref (ad 0 0)), (1, .int a1)]) C dX11_cut_5 rfl hl (by decide) rfl (onlast 1 rfl rfl rfl) (fun ls hl => ?_)
  refine z_aload_n C dX11_cut_6 rfl (lv_at hl 0 rfl) ?_
  refine z_ifnonnull C dX11_cut_7 (tgt := 12) (by decide) (fun hc3 => ?_) (fun hc3 => ?_)
  · replace hf := ite_f hf hc3
    refine z_aload_n C dX11_cut_12 rfl (lv_at hl 0 rfl) ?_
    replace hf := drf_s hf; obtain ⟨j4, ej6, hj5, hf⟩ := hf
    subst ej6
    refine z_nn [] (y := j4 + 1) rfl ?_
    refine z_get C Z (lvC13 hj5) kC13 zc1 zin1 2 (by decide) k_316 rfl svC13_2 dX11_cut_13 ?_
    refine lv_if_eq (tgt := 34) C.x C.b dX11_cut_16 (by decide) (fun hc7 => ?_) (fun hc7 => ?_)
    · replace hf := ite_t hf hc7
      refine lv_bipush (v := (-3)) C.x C.b dX11_cut_34 (by decide) ?_
      obtain ⟨rfl, rfl⟩ := pr_s hf
      exact z_iret C Z dX11_cut_36
    · replace hf := ite_f hf hc7
      refine lv_aload_n C.x C.b dX11_cut_19 rfl (lv_at hl 1 rfl) ?_
      refine z_get C Z (lvC0 Nat.zero_lt_one) kC0 zc11 zin11 7 (by decide) k_369 rfl svC0_7 dX11_cut_20 ?_
      refine lv_aload_n C.x C.b dX11_cut_23 rfl (lv_at hl 0 rfl) ?_
      refine lv_aload_n C.x C.b dX11_cut_24 rfl (lv_at hl 1 rfl) ?_
      refine z_get C Z (lvC0 Nat.zero_lt_one) kC0 zc11 zin11 0 (by decide) k_362 rfl svC0_0 dX11_cut_25 ?_
      replace hf := bn2_s hf; obtain ⟨v9, m8, hkm8, hf⟩ := hf
      refine z_cV (As := [.ref (ad 13 j4), .int (gI m1 0 0 0)]) (rest := []) (st1 := [.int v9]) C Z mw_X3_mayCut mv_X3_mayCut k_664 (by decide) (z_hR hR (by decide)) (lvC6 Nat.zero_lt_one) kC6 zc3 (c_X3_mayCut (l := l) (K := K) (ad := ad) hkm8) rfl hl.1 rfl (Nat.le_of_ble_eq_true rfl) dX11_cut_28 hB rfl (fun H locs Z => ?_)
      refine lv_if_ne (tgt := 37) C.x C.b dX11_cut_31 (by decide) (fun hc10 => ?_) (fun hc10 => ?_)
      · replace hf := ite_f hf hc10
        refine lv_aload_n C.x C.b dX11_cut_37 rfl (lv_at hl 0 rfl) ?_
        refine z_get C Z (lvC13 hj5) kC13 zc1 zin1 2 (by decide) k_316 rfl svC13_2 dX11_cut_38 ?_
        replace hf := lt1_s hf; obtain ⟨x11, ex11, hf⟩ := hf
        refine z_renI ex11 ?_
        refine z_istore_n (lv' := [(3, .int x11), (2, .ref (ad 13 j4)), (0, .ref (ad 0 0)), (1, .int a1)]) C dX11_cut_41 rfl hl (by decide) rfl (onlast 0 rfl rfl rfl) (fun ls hl => ?_)
        refine lv_aload_n C.x C.b dX11_cut_42 rfl (lv_at hl 1 rfl) ?_
        refine lv_iconst (v := 0) C.x C.b dX11_cut_43 (by decide) ?_
        replace hf := lt1_s hf; obtain ⟨m12, em12, hf⟩ := hf
        refine z_put (M1 := m12) C Z (lvC13 hj5) (by decide) kC13 zc1 zin1 tyX1_ok nmX1 2 (by decide) k_316 rfl (zUp_I em12 stC13_2u) (Or.inl rfl) rfl rfl dX11_cut_44 (fun H locs Z => ?_)
        refine lv_iload_n C.x C.b dX11_cut_47 rfl (lv_at hl 0 rfl) ?_
        obtain ⟨rfl, rfl⟩ := pr_s hf
        exact z_iret C Z dX11_cut_48
      · replace hf := ite_t hf hc10
        refine lv_bipush (v := (-3)) C.x C.b dX11_cut_34 (by decide) ?_
        obtain ⟨rfl, rfl⟩ := pr_s hf
        exact z_iret C Z dX11_cut_36
  · replace hf := ite_t hf hc3
    refine lv_iconst (v := (-1)) C.x C.b dX11_cut_10 (by decide) ?_
    obtain ⟨rfl, rfl⟩ := pr_s hf
    exact z_iret C Z dX11_cut_11
theorem dX11_feed_0 : decode cX11_feed 0 = .ok (.iload_n 2, 1) := by decide +kernel
theorem dX11_feed_1 : decode cX11_feed 1 = .ok (.ifCond .lt 8, 3) := by decide +kernel
theorem dX11_feed_4 : decode cX11_feed 4 = .ok (.iload_n 2, 1) := by decide +kernel
theorem dX11_feed_5 : decode cX11_feed 5 = .ok (.iconst 4, 1) := by decide +kernel
theorem dX11_feed_6 : decode cX11_feed 6 = .ok (.if_icmp .le 6, 3) := by decide +kernel
theorem dX11_feed_9 : decode cX11_feed 9 = .ok (.bipush (-2), 2) := by decide +kernel
theorem dX11_feed_11 : decode cX11_feed 11 = .ok (.ireturn, 1) := by decide +kernel
theorem dX11_feed_12 : decode cX11_feed 12 = .ok (.iload_n 2, 1) := by decide +kernel
theorem dX11_feed_13 : decode cX11_feed 13 = .ok (.bipush 100, 2) := by decide +kernel
theorem dX11_feed_15 : decode cX11_feed 15 = .ok (.aload_n 0, 1) := by decide +kernel
theorem dX11_feed_16 : decode cX11_feed 16 = .ok (.getfield 33, 3) := by decide +kernel
theorem dX11_feed_19 : decode cX11_feed 19 = .ok (.getfield 201, 3) := by decide +kernel
theorem dX11_feed_22 : decode cX11_feed 22 = .ok (.isub, 1) := by decide +kernel
theorem dX11_feed_23 : decode cX11_feed 23 = .ok (.if_icmp .le 6, 3) := by decide +kernel
theorem dX11_feed_26 : decode cX11_feed 26 = .ok (.bipush (-4), 2) := by decide +kernel
theorem dX11_feed_28 : decode cX11_feed 28 = .ok (.ireturn, 1) := by decide +kernel
theorem dX11_feed_29 : decode cX11_feed 29 = .ok (.iload_n 2, 1) := by decide +kernel
theorem dX11_feed_30 : decode cX11_feed 30 = .ok (.iconst 1, 1) := by decide +kernel
theorem dX11_feed_31 : decode cX11_feed 31 = .ok (.isub, 1) := by decide +kernel
theorem dX11_feed_32 : decode cX11_feed 32 = .ok (.istore_n 3, 1) := by decide +kernel
theorem dX11_feed_33 : decode cX11_feed 33 = .ok (.iload_n 3, 1) := by decide +kernel
theorem dX11_feed_34 : decode cX11_feed 34 = .ok (.ifCond .lt 26, 3) := by decide +kernel
theorem dX11_feed_37 : decode cX11_feed 37 = .ok (.aload_n 0, 1) := by decide +kernel
theorem dX11_feed_38 : decode cX11_feed 38 = .ok (.getfield 33, 3) := by decide +kernel
theorem dX11_feed_41 : decode cX11_feed 41 = .ok (.iload_n 1, 1) := by decide +kernel
theorem dX11_feed_42 : decode cX11_feed 42 = .ok (.bipush 8, 2) := by decide +kernel
theorem dX11_feed_44 : decode cX11_feed 44 = .ok (.iload_n 3, 1) := by decide +kernel
theorem dX11_feed_45 : decode cX11_feed 45 = .ok (.imul, 1) := by decide +kernel
theorem dX11_feed_46 : decode cX11_feed 46 = .ok (.ishr, 1) := by decide +kernel
theorem dX11_feed_47 : decode cX11_feed 47 = .ok (.sipush 255, 3) := by decide +kernel
theorem dX11_feed_50 : decode cX11_feed 50 = .ok (.iand, 1) := by decide +kernel
theorem dX11_feed_51 : decode cX11_feed 51 = .ok (.invokevirtual 204, 3) := by decide +kernel
theorem dX11_feed_54 : decode cX11_feed 54 = .ok (.iinc 3 (-1), 3) := by decide +kernel
theorem dX11_feed_57 : decode cX11_feed 57 = .ok (.goto (-24), 3) := by decide +kernel
theorem dX11_feed_60 : decode cX11_feed 60 = .ok (.aload_n 0, 1) := by decide +kernel
theorem dX11_feed_61 : decode cX11_feed 61 = .ok (.getfield 33, 3) := by decide +kernel
theorem dX11_feed_64 : decode cX11_feed 64 = .ok (.getfield 201, 3) := by decide +kernel
theorem dX11_feed_67 : decode cX11_feed 67 = .ok (.ireturn, 1) := by decide +kernel
set_option maxRecDepth 100000 in
set_option maxHeartbeats 4000000 in
theorem w_X11_feed_l33 {p : Program} {l : Launch} {e : Env} {R : Room} {s : State} {m : MethodId} {args : Array Value} {below : List Frame} {meth : Method} {c : Code} {cells slots : Nat} {Q : State → Prop} {K : KG} {ad : Nat → Nat → Nat} {fl : Nat} {g1 : Int32} (C : Cx p s m args meth c cX11_feed 4 "GlassPalace" (some .int)) (hR : 2 ≤ R.frames ∧ 40 * (2) ≤ R.locals) (hB : cells ≤ R.cells ∧ slots ≤ R.slots) : ∀ (n : Nat) (u3 : Int32) (M0 : Mem) (H : Heap) (locs : List Loc) (ls : Array Slot), Zd K LC ad M0 s H locs → lv_has ls 4 [(0, .ref (ad 0 0)), (1, .int g1), (3, .int u3)] → ∀ (Mq : Mem), f_X11_feed_l33 fl g1 n u3 M0 = some Mq → (∀ (H : Heap) (locs : List Loc) (ls : Array Slot), Zd K LC ad Mq s H locs → lv_has ls 4 [(0, .ref (ad 0 0))] → W p l e R s m args below meth c H locs cells slots Q (F0 m 60 ls [])) → W p l e R s m args below meth c H locs cells slots Q (F0 m 33 ls []) := by
  intro n
  induction n with
  | zero =>
    intro u3 M0 H locs ls Z hl Mq hf
    have hf : (none : Option (Mem)) = some Mq := hf
    cases hf
  | succ n ih =>
    intro u3 M0 H locs ls Z hl Mq hf kx0
    replace hf : f_X11_feed_l33_b (f_X11_feed_l33 fl g1 n) fl g1 u3 M0 = some Mq := hf
    unfold f_X11_feed_l33_b at hf
    refine lv_iload_n C.x C.b dX11_feed_33 rfl (lv_at hl 2 rfl) ?_
    refine lv_if_lt (tgt := 60) C.x C.b dX11_feed_34 (by decide) (fun hc5 => ?_) (fun hc5 => ?_)
    · replace hf := ite_t hf hc5
      obtain rfl := sm_s hf
      exact kx0 _ _ _ Z (lv_sub hl [0] rfl)
    · replace hf := ite_f hf hc5
      refine lv_aload_n C.x C.b dX11_feed_37 rfl (lv_at hl 0 rfl) ?_
      refine z_get C Z (lvC0 Nat.zero_lt_one) kC0 zc11 zin11 6 (by decide) k_368 rfl svC0_6 dX11_feed_38 ?_
      refine lv_iload_n C.x C.b dX11_feed_41 rfl (lv_at hl 1 rfl) ?_
      refine lv_bipush (v := 8) C.x C.b dX11_feed_42 (by decide) ?_
      refine lv_iload_n C.x C.b dX11_feed_44 rfl (lv_at hl 2 rfl) ?_
      refine lv_imul C.x C.b dX11_feed_45 ?_
      refine z_ishr C dX11_feed_46 ?_
      refine lv_sipush (v := 255) C.x C.b dX11_feed_47 (by decide) ?_
      refine lv_iand C.x C.b dX11_feed_50 ?_
      replace hf := bn1_s hf; obtain ⟨m6, hkm6, hf⟩ := hf
      refine z_cV (As := [.int ((jshr g1 (8 * u3)) &&& 255)]) (rest := []) (st1 := []) C Z mw_X7_append mv_X7_append k_677 (by decide) (z_hR hR (by decide)) (lvC5 Nat.zero_lt_one) kC5 zc7 (c_X7_append (l := l) (K := K) (ad := ad) hkm6) rfl hl.1 rfl (Nat.le_of_ble_eq_true rfl) dX11_feed_51 hB rfl (fun H locs Z => ?_)
      replace hf := lt1_s hf; obtain ⟨x7, ex7, hf⟩ := hf
      refine z_iinc (v := x7) (lv' := [(3, .int x7), (0, .ref (ad 0 0)), (1, .int g1)]) C dX11_feed_54 hl (k := 2) rfl (by rw [ex7]; rfl) (by decide) rfl (nolast rfl) (fun ls hl => ?_)
      refine lv_goto (tgt := 33) C.x C.b dX11_feed_57 (by decide) ?_
      exact ih _ _ _ _ _ Z (lv_sub hl [1, 2, 0] rfl) _ hf kx0
set_option maxRecDepth 100000 in
set_option maxHeartbeats 4000000 in
theorem c_X11_feed {l : Launch} {K : KG} {ad : Nat → Nat → Nat} {fl : Nat} {a1 : Int32} {a2 : Int32} {M0 : Mem} {r9 : Int32} {M9 : Mem} (hf : f_X11_feed fl a1 a2 M0 = some (r9, M9)) : Met l yX11_feed (Cond.code yX11_feed cX11_feed 4 (some .int) :: ztb) (RM (2) 0 0) (zPc K LC ad M0 [.ref (ad 0 0), .int a1, .int a2]) (zQ K LC ad (some (.int r9)) M9) 0 0 (zA ad) := by
  refine z_enter (by decide) (Nat.le_of_ble_eq_true rfl) ?_
  intro p e s m args below meth c ls C hin hargs Z hl
  replace C : Cx p s m args meth c cX11_feed 4 "GlassPalace" (some .int) := C
  replace hl : lv_has ls 4 [(0, .ref (ad 0 0)), (1, .int a1), (2, .int a2)] := hl
  have hR : 2 ≤ (RM (2) 0 0).frames ∧ 40 * (2) ≤ (RM (2) 0 0).locals := ⟨Nat.le_refl _, Nat.le_refl _⟩
  have hB : 0 ≤ (RM (2) 0 0).cells ∧ 0 ≤ (RM (2) 0 0).slots := ⟨Nat.zero_le _, Nat.zero_le _⟩
  unfold f_X11_feed at hf
  refine lv_iload_n C.x C.b dX11_feed_0 rfl (lv_at hl 2 rfl) ?_
  refine lv_if_lt (tgt := 9) C.x C.b dX11_feed_1 (by decide) (fun hc1 => ?_) (fun hc1 => ?_)
  · replace hf := ite_t hf hc1
    refine lv_bipush (v := (-2)) C.x C.b dX11_feed_9 (by decide) ?_
    obtain ⟨rfl, rfl⟩ := pr_s hf
    exact z_iret C Z dX11_feed_11
  · replace hf := ite_f hf hc1
    refine lv_iload_n C.x C.b dX11_feed_4 rfl (lv_at hl 2 rfl) ?_
    refine lv_iconst (v := 4) C.x C.b dX11_feed_5 (by decide) ?_
    refine lv_icmp_le (tgt := 12) C.x C.b dX11_feed_6 (by decide) (fun hc2 => ?_) (fun hc2 => ?_)
    · replace hf := ite_t hf hc2
      refine lv_iload_n C.x C.b dX11_feed_12 rfl (lv_at hl 2 rfl) ?_
      refine lv_bipush (v := 100) C.x C.b dX11_feed_13 (by decide) ?_
      refine lv_aload_n C.x C.b dX11_feed_15 rfl (lv_at hl 0 rfl) ?_
      refine z_get C Z (lvC0 Nat.zero_lt_one) kC0 zc11 zin11 6 (by decide) k_368 rfl svC0_6 dX11_feed_16 ?_
      refine z_get C Z (lvC5 Nat.zero_lt_one) kC5 zc7 zin7 0 (by decide) k_142 rfl svC5_0 dX11_feed_19 ?_
      refine lv_isub C.x C.b dX11_feed_22 ?_
      refine lv_icmp_le (tgt := 29) C.x C.b dX11_feed_23 (by decide) (fun hc3 => ?_) (fun hc3 => ?_)
      · replace hf := ite_t hf hc3
        refine lv_iload_n C.x C.b dX11_feed_29 rfl (lv_at hl 2 rfl) ?_
        refine lv_iconst (v := 1) C.x C.b dX11_feed_30 (by decide) ?_
        refine lv_isub C.x C.b dX11_feed_31 ?_
        replace hf := lt1_s hf; obtain ⟨x4, ex4, hf⟩ := hf
        refine z_renI ex4 ?_
        refine z_istore_n (lv' := [(3, .int x4), (0, .ref (ad 0 0)), (1, .int a1), (2, .int a2)]) C dX11_feed_32 rfl hl (by decide) rfl (onlast 2 rfl rfl rfl) (fun ls hl => ?_)
        replace hf := bn1_s hf; obtain ⟨m9, hq8, hf⟩ := hf
        refine w_X11_feed_l33 C hR hB  fl _ _ _ _ _ Z (lv_sub hl [1, 2, 0] rfl) _ hq8 (fun H locs ls Z hl => ?_)
        refine lv_aload_n C.x C.b dX11_feed_60 rfl (lv_at hl 0 rfl) ?_
        refine z_get C Z (lvC0 Nat.zero_lt_one) kC0 zc11 zin11 6 (by decide) k_368 rfl svC0_6 dX11_feed_61 ?_
        refine z_get C Z (lvC5 Nat.zero_lt_one) kC5 zc7 zin7 0 (by decide) k_142 rfl svC5_0 dX11_feed_64 ?_
        obtain ⟨rfl, rfl⟩ := pr_s hf
        exact z_iret C Z dX11_feed_67
      · replace hf := ite_f hf hc3
        refine lv_bipush (v := (-4)) C.x C.b dX11_feed_26 (by decide) ?_
        obtain ⟨rfl, rfl⟩ := pr_s hf
        exact z_iret C Z dX11_feed_28
    · replace hf := ite_f hf hc2
      refine lv_bipush (v := (-2)) C.x C.b dX11_feed_9 (by decide) ?_
      obtain ⟨rfl, rfl⟩ := pr_s hf
      exact z_iret C Z dX11_feed_11
theorem dX11_isDay_0 : decode cX11_isDay 0 = .ok (.iload_n 0, 1) := by decide +kernel
theorem dX11_isDay_1 : decode cX11_isDay 1 = .ok (.ifCond .lt 14, 3) := by decide +kernel
theorem dX11_isDay_4 : decode cX11_isDay 4 = .ok (.iload_n 0, 1) := by decide +kernel
theorem dX11_isDay_5 : decode cX11_isDay 5 = .ok (.sipush 399, 3) := by decide +kernel
theorem dX11_isDay_8 : decode cX11_isDay 8 = .ok (.if_icmp .gt 7, 3) := by decide +kernel
theorem dX11_isDay_11 : decode cX11_isDay 11 = .ok (.iconst 1, 1) := by decide +kernel
theorem dX11_isDay_12 : decode cX11_isDay 12 = .ok (.goto 4, 3) := by decide +kernel
theorem dX11_isDay_15 : decode cX11_isDay 15 = .ok (.iconst 0, 1) := by decide +kernel
theorem dX11_isDay_16 : decode cX11_isDay 16 = .ok (.ireturn, 1) := by decide +kernel
set_option maxRecDepth 100000 in
set_option maxHeartbeats 4000000 in
theorem c_X11_isDay {l : Launch} {K : KG} {ad : Nat → Nat → Nat} {fl : Nat} {a1 : Int32} {M0 : Mem} {r9 : Int32} {M9 : Mem} (hf : f_X11_isDay fl a1 M0 = some (r9, M9)) : Met l yX11_isDay (Cond.code yX11_isDay cX11_isDay 1 (some .boolean) :: ztb) (RM (1) 0 0) (zPc K LC ad M0 [.int a1]) (zQ K LC ad (some (.int r9)) M9) 0 0 (zA ad) := by
  refine z_enter (by decide) (Nat.le_of_ble_eq_true rfl) ?_
  intro p e s m args below meth c ls C hin hargs Z hl
  replace C : Cx p s m args meth c cX11_isDay 1 "GlassPalace" (some .boolean) := C
  replace hl : lv_has ls 1 [(0, .int a1)] := hl
  have hR : 1 ≤ (RM (1) 0 0).frames ∧ 40 * (1) ≤ (RM (1) 0 0).locals := ⟨Nat.le_refl _, Nat.le_refl _⟩
  have hB : 0 ≤ (RM (1) 0 0).cells ∧ 0 ≤ (RM (1) 0 0).slots := ⟨Nat.zero_le _, Nat.zero_le _⟩
  unfold f_X11_isDay at hf
  refine lv_iload_n C.x C.b dX11_isDay_0 rfl (lv_at hl 0 rfl) ?_
  refine lv_if_lt (tgt := 15) C.x C.b dX11_isDay_1 (by decide) (fun hc1 => ?_) (fun hc1 => ?_)
  · replace hf := ite_t hf hc1
    refine lv_iconst (v := 0) C.x C.b dX11_isDay_15 (by decide) ?_
    obtain ⟨rfl, rfl⟩ := pr_s hf
    exact z_zret C Z rfl dX11_isDay_16
  · replace hf := ite_f hf hc1
    refine lv_iload_n C.x C.b dX11_isDay_4 rfl (lv_at hl 0 rfl) ?_
    refine lv_sipush (v := 399) C.x C.b dX11_isDay_5 (by decide) ?_
    refine lv_icmp_gt (tgt := 15) C.x C.b dX11_isDay_8 (by decide) (fun hc2 => ?_) (fun hc2 => ?_)
    · replace hf := ite_t hf hc2
      refine lv_iconst (v := 0) C.x C.b dX11_isDay_15 (by decide) ?_
      obtain ⟨rfl, rfl⟩ := pr_s hf
      exact z_zret C Z rfl dX11_isDay_16
    · replace hf := ite_f hf hc2
      refine lv_iconst (v := 1) C.x C.b dX11_isDay_11 (by decide) ?_
      refine lv_goto (tgt := 16) C.x C.b dX11_isDay_12 (by decide) ?_
      obtain ⟨rfl, rfl⟩ := pr_s hf
      exact z_zret C Z rfl dX11_isDay_16
theorem dX11_law_0 : decode cX11_law 0 = .ok (.iload_n 1, 1) := by decide +kernel
theorem dX11_law_1 : decode cX11_law 1 = .ok (.invokestatic 207, 3) := by decide +kernel
theorem dX11_law_4 : decode cX11_law 4 = .ok (.ifCond .ne 6, 3) := by decide +kernel
theorem dX11_law_7 : decode cX11_law 7 = .ok (.bipush (-2), 2) := by decide +kernel
theorem dX11_law_9 : decode cX11_law 9 = .ok (.ireturn, 1) := by decide +kernel
theorem dX11_law_10 : decode cX11_law 10 = .ok (.aload_n 0, 1) := by decide +kernel
theorem dX11_law_11 : decode cX11_law 11 = .ok (.getfield 40, 3) := by decide +kernel
theorem dX11_law_14 : decode cX11_law 14 = .ok (.invokevirtual 210, 3) := by decide +kernel
theorem dX11_law_17 : decode cX11_law 17 = .ok (.astore_n 2, 1) := by decide +kernel
theorem dX11_law_18 : decode cX11_law 18 = .ok (.aload_n 2, 1) := by decide +kernel
theorem dX11_law_19 : decode cX11_law 19 = .ok (.ifnonnull 6, 3) := by decide +kernel
theorem dX11_law_22 : decode cX11_law 22 = .ok (.bipush (-4), 2) := by decide +kernel
theorem dX11_law_24 : decode cX11_law 24 = .ok (.ireturn, 1) := by decide +kernel
theorem dX11_law_25 : decode cX11_law 25 = .ok (.aload_n 0, 1) := by decide +kernel
theorem dX11_law_26 : decode cX11_law 26 = .ok (.getfield 33, 3) := by decide +kernel
theorem dX11_law_29 : decode cX11_law 29 = .ok (.aload_n 2, 1) := by decide +kernel
theorem dX11_law_30 : decode cX11_law 30 = .ok (.invokevirtual 214, 3) := by decide +kernel
theorem dX11_law_33 : decode cX11_law 33 = .ok (.istore_n 3, 1) := by decide +kernel
theorem dX11_law_34 : decode cX11_law 34 = .ok (.aload_n 0, 1) := by decide +kernel
theorem dX11_law_35 : decode cX11_law 35 = .ok (.getfield 33, 3) := by decide +kernel
theorem dX11_law_38 : decode cX11_law 38 = .ok (.iconst 0, 1) := by decide +kernel
theorem dX11_law_39 : decode cX11_law 39 = .ok (.putfield 201, 3) := by decide +kernel
theorem dX11_law_42 : decode cX11_law 42 = .ok (.iload_n 3, 1) := by decide +kernel
theorem dX11_law_43 : decode cX11_law 43 = .ok (.ifCond .lt 8, 3) := by decide +kernel
theorem dX11_law_46 : decode cX11_law 46 = .ok (.bipush (-10), 2) := by decide +kernel
theorem dX11_law_48 : decode cX11_law 48 = .ok (.iload_n 3, 1) := by decide +kernel
theorem dX11_law_49 : decode cX11_law 49 = .ok (.isub, 1) := by decide +kernel
theorem dX11_law_50 : decode cX11_law 50 = .ok (.ireturn, 1) := by decide +kernel
theorem dX11_law_51 : decode cX11_law 51 = .ok (.aload_n 2, 1) := by decide +kernel
theorem dX11_law_52 : decode cX11_law 52 = .ok (.iload_n 1, 1) := by decide +kernel
theorem dX11_law_53 : decode cX11_law 53 = .ok (.putfield 218, 3) := by decide +kernel
theorem dX11_law_56 : decode cX11_law 56 = .ok (.aload_n 0, 1) := by decide +kernel
theorem dX11_law_57 : decode cX11_law 57 = .ok (.getfield 40, 3) := by decide +kernel
theorem dX11_law_60 : decode cX11_law 60 = .ok (.dup, 1) := by decide +kernel
theorem dX11_law_61 : decode cX11_law 61 = .ok (.getfield 223, 3) := by decide +kernel
theorem dX11_law_64 : decode cX11_law 64 = .ok (.iconst 1, 1) := by decide +kernel
theorem dX11_law_65 : decode cX11_law 65 = .ok (.iadd, 1) := by decide +kernel
theorem dX11_law_66 : decode cX11_law 66 = .ok (.putfield 223, 3) := by decide +kernel
theorem dX11_law_69 : decode cX11_law 69 = .ok (.aload_n 0, 1) := by decide +kernel
theorem dX11_law_70 : decode cX11_law 70 = .ok (.getfield 40, 3) := by decide +kernel
theorem dX11_law_73 : decode cX11_law 73 = .ok (.getfield 223, 3) := by decide +kernel
theorem dX11_law_76 : decode cX11_law 76 = .ok (.iconst 1, 1) := by decide +kernel
theorem dX11_law_77 : decode cX11_law 77 = .ok (.isub, 1) := by decide +kernel
theorem dX11_law_78 : decode cX11_law 78 = .ok (.ireturn, 1) := by decide +kernel
set_option maxRecDepth 100000 in
set_option maxHeartbeats 4000000 in
theorem c_X11_law {l : Launch} {K : KG} {ad : Nat → Nat → Nat} {fl : Nat} {a1 : Int32} {M0 : Mem} {r9 : Int32} {M9 : Mem} (hf : f_X11_law fl a1 M0 = some (r9, M9)) : Met l yX11_law (Cond.code yX11_law cX11_law 4 (some .int) :: ztb) (RM (44) 0 0) (zPc K LC ad M0 [.ref (ad 0 0), .int a1]) (zQ K LC ad (some (.int r9)) M9) 0 0 (zA ad) := by
  refine z_enter (by decide) (Nat.le_of_ble_eq_true rfl) ?_
  intro p e s m args below meth c ls C hin hargs Z hl
  replace C : Cx p s m args meth c cX11_law 4 "GlassPalace" (some .int) := C
  replace hl : lv_has ls 4 [(0, .ref (ad 0 0)), (1, .int a1)] := hl
  have hR : 44 ≤ (RM (44) 0 0).frames ∧ 40 * (44) ≤ (RM (44) 0 0).locals := ⟨Nat.le_refl _, Nat.le_refl _⟩
  have hB : 0 ≤ (RM (44) 0 0).cells ∧ 0 ≤ (RM (44) 0 0).slots := ⟨Nat.zero_le _, Nat.zero_le _⟩
  unfold f_X11_law at hf
  refine lv_iload_n C.x C.b dX11_law_0 rfl (lv_at hl 1 rfl) ?_
  replace hf := bn2_s hf; obtain ⟨v2, m1, hkm1, hf⟩ := hf
  refine z_cS (As := [.int a1]) (rest := []) (st1 := [.int v2]) C Z mw_X11_isDay mv_X11_isDay k_685 (by decide) (z_hR hR (by decide)) (c_X11_isDay (l := l) (K := K) (ad := ad) hkm1) rfl hl.1 rfl (Nat.le_of_ble_eq_true rfl) dX11_law_1 hB rfl (fun H locs Z => ?_)
  refine lv_if_ne (tgt := 10) C.x C.b dX11_law_4 (by decide) (fun hc3 => ?_) (fun hc3 => ?_)
  · replace hf := ite_f hf hc3
    refine lv_aload_n C.x C.b dX11_law_10 rfl (lv_at hl 0 rfl) ?_
    refine z_get C Z (lvC0 Nat.zero_lt_one) kC0 zc11 zin11 7 (by decide) k_369 rfl svC0_7 dX11_law_11 ?_
    replace hf := bn2_s hf; obtain ⟨c5, m4, hkm4, hf⟩ := hf
    refine z_cV (As := []) (rest := []) (st1 := [rf (ad 19) c5]) C Z mw_X3_nextText mv_X3_nextText k_688 (by decide) (z_hR hR (by decide)) (lvC6 Nat.zero_lt_one) kC6 zc3 (c_X3_nextText (l := l) (K := K) (ad := ad) hkm4) rfl hl.1 rfl (Nat.le_of_ble_eq_true rfl) dX11_law_14 hB rfl (fun H locs Z => ?_)
    refine z_cstore_n (lv' := [(2, rf (ad 19) c5), (0, .ref (ad 0 0)), (1, .int a1)]) C dX11_law_17 rfl hl (by decide) rfl (onlast 1 rfl rfl rfl) (fun ls hl => ?_)
    refine z_aload_n C dX11_law_18 rfl (lv_at hl 0 rfl) ?_
    refine z_ifnonnull C dX11_law_19 (tgt := 25) (by decide) (fun hc6 => ?_) (fun hc6 => ?_)
    · replace hf := ite_f hf hc6
      refine lv_aload_n C.x C.b dX11_law_25 rfl (lv_at hl 1 rfl) ?_
      refine z_get C Z (lvC0 Nat.zero_lt_one) kC0 zc11 zin11 6 (by decide) k_368 rfl svC0_6 dX11_law_26 ?_
      refine z_aload_n C dX11_law_29 rfl (lv_at hl 0 rfl) ?_
      replace hf := bn2_s hf; obtain ⟨v8, m7, hkm7, hf⟩ := hf
      refine z_cV (As := [rf (ad 19) c5]) (rest := []) (st1 := [.int v8]) C Z mw_X7_readInto mv_X7_readInto k_692 (by decide) (z_hR hR (by decide)) (lvC5 Nat.zero_lt_one) kC5 zc7 (c_X7_readInto (l := l) (K := K) (ad := ad) hkm7) rfl hl.1 rfl (Nat.le_of_ble_eq_true rfl) dX11_law_30 hB rfl (fun H locs Z => ?_)
      refine z_istore_n (lv' := [(3, .int v8), (2, rf (ad 19) c5), (0, .ref (ad 0 0)), (1, .int a1)]) C dX11_law_33 rfl hl (by decide) rfl (onlast 0 rfl (rf_cat _ _) rfl) (fun ls hl => ?_)
      refine lv_aload_n C.x C.b dX11_law_34 rfl (lv_at hl 2 rfl) ?_
      refine z_get C Z (lvC0 Nat.zero_lt_one) kC0 zc11 zin11 6 (by decide) k_368 rfl svC0_6 dX11_law_35 ?_
      refine lv_iconst (v := 0) C.x C.b dX11_law_38 (by decide) ?_
      replace hf := lt1_s hf; obtain ⟨m9, em9, hf⟩ := hf
      refine z_put (M1 := m9) C Z (lvC5 Nat.zero_lt_one) (by decide) kC5 zc7 zin7 tyX7_ok nmX7 0 (by decide) k_142 rfl (zUp_I em9 stC5_0u) (Or.inl rfl) rfl rfl dX11_law_39 (fun H locs Z => ?_)
      refine lv_iload_n C.x C.b dX11_law_42 rfl (lv_at hl 0 rfl) ?_
      refine lv_if_lt (tgt := 51) C.x C.b dX11_law_43 (by decide) (fun hc10 => ?_) (fun hc10 => ?_)
      · replace hf := ite_t hf hc10
        refine z_aload_n C dX11_law_51 rfl (lv_at hl 1 rfl) ?_
        refine lv_iload_n C.x C.b dX11_law_52 rfl (lv_at hl 3 rfl) ?_
        replace hf := drf_s hf; obtain ⟨j11, ej13, hj12, hf⟩ := hf
        subst ej13
        refine z_nn [.int a1] (y := j11 + 1) rfl ?_
        replace hf := lt1_s hf; obtain ⟨m14, em14, hf⟩ := hf
        refine z_put (M1 := m14) C Z (lvC19 hj12) (by decide) kC19 zc9 zin9 tyX9_ok nmX9 0 (by decide) k_170 rfl (zUp_I em14 stC19_0u) (Or.inl rfl) rfl rfl dX11_law_53 (fun H locs Z => ?_)
        refine lv_aload_n C.x C.b dX11_law_56 rfl (lv_at hl 2 rfl) ?_
        refine z_get C Z (lvC0 Nat.zero_lt_one) kC0 zc11 zin11 7 (by decide) k_369 rfl svC0_7 dX11_law_57 ?_
        refine lv_dup C.x C.b dX11_law_60 rfl ?_
        refine z_get C Z (lvC6 Nat.zero_lt_one) kC6 zc3 zin3 0 (by decide) k_191 rfl svC6_0 dX11_law_61 ?_
        refine lv_iconst (v := 1) C.x C.b dX11_law_64 (by decide) ?_
        refine lv_iadd C.x C.b dX11_law_65 ?_
        replace hf := lt1_s hf; obtain ⟨m15, em15, hf⟩ := hf
        refine z_put (M1 := m15) C Z (lvC6 Nat.zero_lt_one) (by decide) kC6 zc3 zin3 tyX3_ok nmX3 0 (by decide) k_191 rfl (zUp_I em15 stC6_0u) (Or.inl rfl) rfl rfl dX11_law_66 (fun H locs Z => ?_)
        refine lv_aload_n C.x C.b dX11_law_69 rfl (lv_at hl 2 rfl) ?_
        refine z_get C Z (lvC0 Nat.zero_lt_one) kC0 zc11 zin11 7 (by decide) k_369 rfl svC0_7 dX11_law_70 ?_
        refine z_get C Z (lvC6 Nat.zero_lt_one) kC6 zc3 zin3 0 (by decide) k_191 rfl svC6_0 dX11_law_73 ?_
        refine lv_iconst (v := 1) C.x C.b dX11_law_76 (by decide) ?_
        refine lv_isub C.x C.b dX11_law_77 ?_
        obtain ⟨rfl, rfl⟩ := pr_s hf
        exact z_iret C Z dX11_law_78
      · replace hf := ite_f hf hc10
        refine lv_bipush (v := (-10)) C.x C.b dX11_law_46 (by decide) ?_
        refine lv_iload_n C.x C.b dX11_law_48 rfl (lv_at hl 0 rfl) ?_
        refine lv_isub C.x C.b dX11_law_49 ?_
        obtain ⟨rfl, rfl⟩ := pr_s hf
        exact z_iret C Z dX11_law_50
    · replace hf := ite_t hf hc6
      refine lv_bipush (v := (-4)) C.x C.b dX11_law_22 (by decide) ?_
      obtain ⟨rfl, rfl⟩ := pr_s hf
      exact z_iret C Z dX11_law_24
  · replace hf := ite_t hf hc3
    refine lv_bipush (v := (-2)) C.x C.b dX11_law_7 (by decide) ?_
    obtain ⟨rfl, rfl⟩ := pr_s hf
    exact z_iret C Z dX11_law_9
theorem dX11_isWord_0 : decode cX11_isWord 0 = .ok (.iload_n 0, 1) := by decide +kernel
theorem dX11_isWord_1 : decode cX11_isWord 1 = .ok (.ifCond .lt 13, 3) := by decide +kernel
theorem dX11_isWord_4 : decode cX11_isWord 4 = .ok (.iload_n 0, 1) := by decide +kernel
theorem dX11_isWord_5 : decode cX11_isWord 5 = .ok (.bipush 6, 2) := by decide +kernel
theorem dX11_isWord_7 : decode cX11_isWord 7 = .ok (.if_icmp .ge 7, 3) := by decide +kernel
theorem dX11_isWord_10 : decode cX11_isWord 10 = .ok (.iconst 1, 1) := by decide +kernel
theorem dX11_isWord_11 : decode cX11_isWord 11 = .ok (.goto 4, 3) := by decide +kernel
theorem dX11_isWord_14 : decode cX11_isWord 14 = .ok (.iconst 0, 1) := by decide +kernel
theorem dX11_isWord_15 : decode cX11_isWord 15 = .ok (.ireturn, 1) := by decide +kernel
set_option maxRecDepth 100000 in
set_option maxHeartbeats 4000000 in
theorem c_X11_isWord {l : Launch} {K : KG} {ad : Nat → Nat → Nat} {fl : Nat} {a1 : Int32} {M0 : Mem} {r9 : Int32} {M9 : Mem} (hf : f_X11_isWord fl a1 M0 = some (r9, M9)) : Met l yX11_isWord (Cond.code yX11_isWord cX11_isWord 1 (some .boolean) :: ztb) (RM (1) 0 0) (zPc K LC ad M0 [.int a1]) (zQ K LC ad (some (.int r9)) M9) 0 0 (zA ad) := by
  refine z_enter (by decide) (Nat.le_of_ble_eq_true rfl) ?_
  intro p e s m args below meth c ls C hin hargs Z hl
  replace C : Cx p s m args meth c cX11_isWord 1 "GlassPalace" (some .boolean) := C
  replace hl : lv_has ls 1 [(0, .int a1)] := hl
  have hR : 1 ≤ (RM (1) 0 0).frames ∧ 40 * (1) ≤ (RM (1) 0 0).locals := ⟨Nat.le_refl _, Nat.le_refl _⟩
  have hB : 0 ≤ (RM (1) 0 0).cells ∧ 0 ≤ (RM (1) 0 0).slots := ⟨Nat.zero_le _, Nat.zero_le _⟩
  unfold f_X11_isWord at hf
  refine lv_iload_n C.x C.b dX11_isWord_0 rfl (lv_at hl 0 rfl) ?_
  refine lv_if_lt (tgt := 14) C.x C.b dX11_isWord_1 (by decide) (fun hc1 => ?_) (fun hc1 => ?_)
  · replace hf := ite_t hf hc1
    refine lv_iconst (v := 0) C.x C.b dX11_isWord_14 (by decide) ?_
    obtain ⟨rfl, rfl⟩ := pr_s hf
    exact z_zret C Z rfl dX11_isWord_15
  · replace hf := ite_f hf hc1
    refine lv_iload_n C.x C.b dX11_isWord_4 rfl (lv_at hl 0 rfl) ?_
    refine lv_bipush (v := 6) C.x C.b dX11_isWord_5 (by decide) ?_
    refine lv_icmp_ge (tgt := 14) C.x C.b dX11_isWord_7 (by decide) (fun hc2 => ?_) (fun hc2 => ?_)
    · replace hf := ite_t hf hc2
      refine lv_iconst (v := 0) C.x C.b dX11_isWord_14 (by decide) ?_
      obtain ⟨rfl, rfl⟩ := pr_s hf
      exact z_zret C Z rfl dX11_isWord_15
    · replace hf := ite_f hf hc2
      refine lv_iconst (v := 1) C.x C.b dX11_isWord_10 (by decide) ?_
      refine lv_goto (tgt := 15) C.x C.b dX11_isWord_11 (by decide) ?_
      obtain ⟨rfl, rfl⟩ := pr_s hf
      exact z_zret C Z rfl dX11_isWord_15
theorem dX11_force_0 : decode cX11_force 0 = .ok (.aload_n 0, 1) := by decide +kernel
theorem dX11_force_1 : decode cX11_force 1 = .ok (.iload_n 3, 1) := by decide +kernel
theorem dX11_force_2 : decode cX11_force 2 = .ok (.invokevirtual 92, 3) := by decide +kernel
theorem dX11_force_5 : decode cX11_force 5 = .ok (.astore 4, 2) := by decide +kernel
theorem dX11_force_7 : decode cX11_force 7 = .ok (.iload_n 1, 1) := by decide +kernel
theorem dX11_force_8 : decode cX11_force 8 = .ok (.invokestatic 226, 3) := by decide +kernel
theorem dX11_force_11 : decode cX11_force 11 = .ok (.ifCond .eq 25, 3) := by decide +kernel
theorem dX11_force_14 : decode cX11_force 14 = .ok (.iload_n 1, 1) := by decide +kernel
theorem dX11_force_15 : decode cX11_force 15 = .ok (.iconst 4, 1) := by decide +kernel
theorem dX11_force_16 : decode cX11_force 16 = .ok (.if_icmp .ne 8, 3) := by decide +kernel
theorem dX11_force_19 : decode cX11_force 19 = .ok (.aload 4, 2) := by decide +kernel
theorem dX11_force_21 : decode cX11_force 21 = .ok (.ifnull 15, 3) := by decide +kernel
theorem dX11_force_24 : decode cX11_force 24 = .ok (.iload_n 1, 1) := by decide +kernel
theorem dX11_force_25 : decode cX11_force 25 = .ok (.iconst 5, 1) := by decide +kernel
theorem dX11_force_26 : decode cX11_force 26 = .ok (.if_icmp .ne 12, 3) := by decide +kernel
theorem dX11_force_29 : decode cX11_force 29 = .ok (.iload_n 3, 1) := by decide +kernel
theorem dX11_force_30 : decode cX11_force 30 = .ok (.invokestatic 106, 3) := by decide +kernel
theorem dX11_force_33 : decode cX11_force 33 = .ok (.ifCond .ne 5, 3) := by decide +kernel
theorem dX11_force_36 : decode cX11_force 36 = .ok (.iconst (-1), 1) := by decide +kernel
theorem dX11_force_37 : decode cX11_force 37 = .ok (.ireturn, 1) := by decide +kernel
theorem dX11_force_38 : decode cX11_force 38 = .ok (.iload_n 2, 1) := by decide +kernel
theorem dX11_force_39 : decode cX11_force 39 = .ok (.invokestatic 207, 3) := by decide +kernel
theorem dX11_force_42 : decode cX11_force 42 = .ok (.ifCond .ne 6, 3) := by decide +kernel
theorem dX11_force_45 : decode cX11_force 45 = .ok (.bipush (-2), 2) := by decide +kernel
theorem dX11_force_47 : decode cX11_force 47 = .ok (.ireturn, 1) := by decide +kernel
theorem dX11_force_48 : decode cX11_force 48 = .ok (.iload_n 1, 1) := by decide +kernel
theorem dX11_force_49 : decode cX11_force 49 = .ok (.iconst 5, 1) := by decide +kernel
theorem dX11_force_50 : decode cX11_force 50 = .ok (.if_icmp .ne 21, 3) := by decide +kernel
theorem dX11_force_53 : decode cX11_force 53 = .ok (.aload_n 0, 1) := by decide +kernel
theorem dX11_force_54 : decode cX11_force 54 = .ok (.getfield 40, 3) := by decide +kernel
theorem dX11_force_57 : decode cX11_force 57 = .ok (.iload_n 3, 1) := by decide +kernel
theorem dX11_force_58 : decode cX11_force 58 = .ok (.iload_n 2, 1) := by decide +kernel
theorem dX11_force_59 : decode cX11_force 59 = .ok (.invokevirtual 229, 3) := by decide +kernel
theorem dX11_force_62 : decode cX11_force 62 = .ok (.ifCond .eq 7, 3) := by decide +kernel
theorem dX11_force_65 : decode cX11_force 65 = .ok (.iconst 1, 1) := by decide +kernel
theorem dX11_force_66 : decode cX11_force 66 = .ok (.goto 4, 3) := by decide +kernel
theorem dX11_force_69 : decode cX11_force 69 = .ok (.iconst 0, 1) := by decide +kernel
theorem dX11_force_70 : decode cX11_force 70 = .ok (.ireturn, 1) := by decide +kernel
theorem dX11_force_71 : decode cX11_force 71 = .ok (.iload_n 1, 1) := by decide +kernel
theorem dX11_force_72 : decode cX11_force 72 = .ok (.iconst 4, 1) := by decide +kernel
theorem dX11_force_73 : decode cX11_force 73 = .ok (.if_icmp .ne 27, 3) := by decide +kernel
theorem dX11_force_76 : decode cX11_force 76 = .ok (.aload 4, 2) := by decide +kernel
theorem dX11_force_78 : decode cX11_force 78 = .ok (.ifnull 20, 3) := by decide +kernel
theorem dX11_force_81 : decode cX11_force 81 = .ok (.aload_n 0, 1) := by decide +kernel
theorem dX11_force_82 : decode cX11_force 82 = .ok (.getfield 40, 3) := by decide +kernel
theorem dX11_force_85 : decode cX11_force 85 = .ok (.aload 4, 2) := by decide +kernel
theorem dX11_force_87 : decode cX11_force 87 = .ok (.iload_n 2, 1) := by decide +kernel
theorem dX11_force_88 : decode cX11_force 88 = .ok (.invokevirtual 198, 3) := by decide +kernel
theorem dX11_force_91 : decode cX11_force 91 = .ok (.ifCond .eq 7, 3) := by decide +kernel
theorem dX11_force_94 : decode cX11_force 94 = .ok (.iconst 1, 1) := by decide +kernel
theorem dX11_force_95 : decode cX11_force 95 = .ok (.goto 4, 3) := by decide +kernel
theorem dX11_force_98 : decode cX11_force 98 = .ok (.iconst 0, 1) := by decide +kernel
theorem dX11_force_99 : decode cX11_force 99 = .ok (.ireturn, 1) := by decide +kernel
theorem dX11_force_100 : decode cX11_force 100 = .ok (.aload_n 0, 1) := by decide +kernel
theorem dX11_force_101 : decode cX11_force 101 = .ok (.getfield 40, 3) := by decide +kernel
theorem dX11_force_104 : decode cX11_force 104 = .ok (.iload_n 1, 1) := by decide +kernel
theorem dX11_force_105 : decode cX11_force 105 = .ok (.iload_n 2, 1) := by decide +kernel
theorem dX11_force_106 : decode cX11_force 106 = .ok (.invokevirtual 158, 3) := by decide +kernel
theorem dX11_force_109 : decode cX11_force 109 = .ok (.ireturn, 1) := by decide +kernel
set_option maxRecDepth 100000 in
set_option maxHeartbeats 4000000 in
theorem w_X11_force_b38 {p : Program} {l : Launch} {e : Env} {s : State} {m : MethodId} {args : Array Value} {below : List Frame} {meth : Method} {c : Code} {K : KG} {ad : Nat → Nat → Nat} {fl : Nat} {H : Heap} {locs : List Loc} {ls : Array Slot} {g1 : Int32} {g2 : Int32} {g3 : Int32} {g4 : Nat} {M0 : Mem} {r9 : Int32} {M9 : Mem} (C : Cx p s m args meth c cX11_force 5 "GlassPalace" (some .int)) (hR : 5 ≤ (RM (5) 0 0).frames ∧ 40 * (5) ≤ (RM (5) 0 0).locals) (hB : 0 ≤ (RM (5) 0 0).cells ∧ 0 ≤ (RM (5) 0 0).slots) (Z : Zd K LC ad M0 s H locs) (hl : lv_has ls 5 [(0, .ref (ad 0 0)), (1, .int g1), (2, .int g2), (3, .int g3), (4, rf (ad 13) g4)]) (hf : f_X11_force_b38 fl g1 g2 g3 g4 M0 = some (r9, M9)) : W p l e (RM (5) 0 0) s m args below meth c H locs 0 0 (MQ below (zQ K LC ad (some (.int r9)) M9) args s 0 0 (zA ad)) (F0 m 38 ls []) := by
  unfold f_X11_force_b38 at hf
  refine lv_iload_n C.x C.b dX11_force_38 rfl (lv_at hl 2 rfl) ?_
  replace hf := bn2_s hf; obtain ⟨v9, m8, hkm8, hf⟩ := hf
  refine z_cS (As := [.int g2]) (rest := []) (st1 := [.int v9]) C Z mw_X11_isDay mv_X11_isDay k_685 (by decide) (z_hR hR (by decide)) (c_X11_isDay (l := l) (K := K) (ad := ad) hkm8) rfl hl.1 rfl (Nat.le_of_ble_eq_true rfl) dX11_force_39 hB rfl (fun H locs Z => ?_)
  refine lv_if_ne (tgt := 48) C.x C.b dX11_force_42 (by decide) (fun hc10 => ?_) (fun hc10 => ?_)
  · replace hf := ite_f hf hc10
    refine lv_iload_n C.x C.b dX11_force_48 rfl (lv_at hl 1 rfl) ?_
    refine lv_iconst (v := 5) C.x C.b dX11_force_49 (by decide) ?_
    refine lv_icmp_ne (tgt := 71) C.x C.b dX11_force_50 (by decide) (fun hc11 => ?_) (fun hc11 => ?_)
    · replace hf := ite_f hf hc11
      refine lv_iload_n C.x C.b dX11_force_71 rfl (lv_at hl 1 rfl) ?_
      refine lv_iconst (v := 4) C.x C.b dX11_force_72 (by decide) ?_
      refine lv_icmp_ne (tgt := 100) C.x C.b dX11_force_73 (by decide) (fun hc12 => ?_) (fun hc12 => ?_)
      · replace hf := ite_f hf hc12
        refine lv_aload_n C.x C.b dX11_force_100 rfl (lv_at hl 0 rfl) ?_
        refine z_get C Z (lvC0 Nat.zero_lt_one) kC0 zc11 zin11 7 (by decide) k_369 rfl svC0_7 dX11_force_101 ?_
        refine lv_iload_n C.x C.b dX11_force_104 rfl (lv_at hl 1 rfl) ?_
        refine lv_iload_n C.x C.b dX11_force_105 rfl (lv_at hl 2 rfl) ?_
        replace hf := bn2_s hf; obtain ⟨v14, m13, hkm13, hf⟩ := hf
        refine z_cV (As := [.int g1, .int g2]) (rest := []) (st1 := [.int v14]) C Z mw_X3_numberFor mv_X3_numberFor k_571 (by decide) (z_hR hR (by decide)) (lvC6 Nat.zero_lt_one) kC6 zc3 (c_X3_numberFor (l := l) (K := K) (ad := ad) hkm13) rfl hl.1 rfl (Nat.le_of_ble_eq_true rfl) dX11_force_106 hB rfl (fun H locs Z => ?_)
        obtain ⟨rfl, rfl⟩ := pr_s hf
        exact z_iret C Z dX11_force_109
      · replace hf := ite_t hf hc12
        refine z_aload C dX11_force_76 (lv_at hl 4 rfl) ?_
        refine z_ifnull C dX11_force_78 (tgt := 98) (by decide) (fun hc15 => ?_) (fun hc15 => ?_)
        · replace hf := ite_t hf hc15
          refine lv_iconst (v := 0) C.x C.b dX11_force_98 (by decide) ?_
          obtain ⟨rfl, rfl⟩ := pr_s hf
          exact z_iret C Z dX11_force_99
        · replace hf := ite_f hf hc15
          refine lv_aload_n C.x C.b dX11_force_81 rfl (lv_at hl 0 rfl) ?_
          refine z_get C Z (lvC0 Nat.zero_lt_one) kC0 zc11 zin11 7 (by decide) k_369 rfl svC0_7 dX11_force_82 ?_
          refine z_aload C dX11_force_85 (lv_at hl 4 rfl) ?_
          refine lv_iload_n C.x C.b dX11_force_87 rfl (lv_at hl 2 rfl) ?_
          replace hf := bn2_s hf; obtain ⟨v17, m16, hkm16, hf⟩ := hf
          refine z_cV (As := [rf (ad 13) g4, .int g2]) (rest := []) (st1 := [.int v17]) C Z mw_X3_mayCut mv_X3_mayCut k_664 (by decide) (z_hR hR (by decide)) (lvC6 Nat.zero_lt_one) kC6 zc3 (c_X3_mayCut (l := l) (K := K) (ad := ad) hkm16) rfl hl.1 rfl (Nat.le_of_ble_eq_true rfl) dX11_force_88 hB rfl (fun H locs Z => ?_)
          refine lv_if_eq (tgt := 98) C.x C.b dX11_force_91 (by decide) (fun hc18 => ?_) (fun hc18 => ?_)
          · replace hf := ite_t hf hc18
            refine lv_iconst (v := 0) C.x C.b dX11_force_98 (by decide) ?_
            obtain ⟨rfl, rfl⟩ := pr_s hf
            exact z_iret C Z dX11_force_99
          · replace hf := ite_f hf hc18
            refine lv_iconst (v := 1) C.x C.b dX11_force_94 (by decide) ?_
            refine lv_goto (tgt := 99) C.x C.b dX11_force_95 (by decide) ?_
            obtain ⟨rfl, rfl⟩ := pr_s hf
            exact z_iret C Z dX11_force_99
    · replace hf := ite_t hf hc11
      refine lv_aload_n C.x C.b dX11_force_53 rfl (lv_at hl 0 rfl) ?_
      refine z_get C Z (lvC0 Nat.zero_lt_one) kC0 zc11 zin11 7 (by decide) k_369 rfl svC0_7 dX11_force_54 ?_
      refine lv_iload_n C.x C.b dX11_force_57 rfl (lv_at hl 3 rfl) ?_
      refine lv_iload_n C.x C.b dX11_force_58 rfl (lv_at hl 2 rfl) ?_
      replace hf := bn2_s hf; obtain ⟨v20, m19, hkm19, hf⟩ := hf
      refine z_cV (As := [.int g3, .int g2]) (rest := []) (st1 := [.int v20]) C Z mw_X3_bars mv_X3_bars k_533 (by decide) (z_hR hR (by decide)) (lvC6 Nat.zero_lt_one) kC6 zc3 (c_X3_bars (l := l) (K := K) (ad := ad) hkm19) rfl hl.1 rfl (Nat.le_of_ble_eq_true rfl) dX11_force_59 hB rfl (fun H locs Z => ?_)
      refine lv_if_eq (tgt := 69) C.x C.b dX11_force_62 (by decide) (fun hc21 => ?_) (fun hc21 => ?_)
      · replace hf := ite_t hf hc21
        refine lv_iconst (v := 0) C.x C.b dX11_force_69 (by decide) ?_
        obtain ⟨rfl, rfl⟩ := pr_s hf
        exact z_iret C Z dX11_force_70
      · replace hf := ite_f hf hc21
        refine lv_iconst (v := 1) C.x C.b dX11_force_65 (by decide) ?_
        refine lv_goto (tgt := 70) C.x C.b dX11_force_66 (by decide) ?_
        obtain ⟨rfl, rfl⟩ := pr_s hf
        exact z_iret C Z dX11_force_70
  · replace hf := ite_t hf hc10
    refine lv_bipush (v := (-2)) C.x C.b dX11_force_45 (by decide) ?_
    obtain ⟨rfl, rfl⟩ := pr_s hf
    exact z_iret C Z dX11_force_47
set_option maxRecDepth 100000 in
set_option maxHeartbeats 4000000 in
theorem w_X11_force_b24 {p : Program} {l : Launch} {e : Env} {s : State} {m : MethodId} {args : Array Value} {below : List Frame} {meth : Method} {c : Code} {K : KG} {ad : Nat → Nat → Nat} {fl : Nat} {H : Heap} {locs : List Loc} {ls : Array Slot} {g1 : Int32} {g2 : Int32} {g3 : Int32} {g4 : Nat} {M0 : Mem} {r9 : Int32} {M9 : Mem} (C : Cx p s m args meth c cX11_force 5 "GlassPalace" (some .int)) (hR : 5 ≤ (RM (5) 0 0).frames ∧ 40 * (5) ≤ (RM (5) 0 0).locals) (hB : 0 ≤ (RM (5) 0 0).cells ∧ 0 ≤ (RM (5) 0 0).slots) (Z : Zd K LC ad M0 s H locs) (hl : lv_has ls 5 [(0, .ref (ad 0 0)), (1, .int g1), (2, .int g2), (3, .int g3), (4, rf (ad 13) g4)]) (hf : f_X11_force_b24 fl g1 g2 g3 g4 M0 = some (r9, M9)) : W p l e (RM (5) 0 0) s m args below meth c H locs 0 0 (MQ below (zQ K LC ad (some (.int r9)) M9) args s 0 0 (zA ad)) (F0 m 24 ls []) := by
  unfold f_X11_force_b24 at hf
  refine lv_iload_n C.x C.b dX11_force_24 rfl (lv_at hl 1 rfl) ?_
  refine lv_iconst (v := 5) C.x C.b dX11_force_25 (by decide) ?_
  refine lv_icmp_ne (tgt := 38) C.x C.b dX11_force_26 (by decide) (fun hc7 => ?_) (fun hc7 => ?_)
  · replace hf := ite_f hf hc7
    exact w_X11_force_b38 C hR hB  Z (lv_sub hl [0, 1, 2, 3, 4] rfl) hf
  · replace hf := ite_t hf hc7
    refine lv_iload_n C.x C.b dX11_force_29 rfl (lv_at hl 3 rfl) ?_
    replace hf := bn2_s hf; obtain ⟨v23, m22, hkm22, hf⟩ := hf
    refine z_cS (As := [.int g3]) (rest := []) (st1 := [.int v23]) C Z mw_X11_isFoundry mv_X11_isFoundry k_439 (by decide) (z_hR hR (by decide)) (c_X11_isFoundry (l := l) (K := K) (ad := ad) hkm22) rfl hl.1 rfl (Nat.le_of_ble_eq_true rfl) dX11_force_30 hB rfl (fun H locs Z => ?_)
    refine lv_if_ne (tgt := 38) C.x C.b dX11_force_33 (by decide) (fun hc24 => ?_) (fun hc24 => ?_)
    · replace hf := ite_f hf hc24
      exact w_X11_force_b38 C hR hB  Z (lv_sub hl [0, 1, 2, 3, 4] rfl) hf
    · replace hf := ite_t hf hc24
      refine lv_iconst (v := (-1)) C.x C.b dX11_force_36 (by decide) ?_
      obtain ⟨rfl, rfl⟩ := pr_s hf
      exact z_iret C Z dX11_force_37
set_option maxRecDepth 100000 in
set_option maxHeartbeats 4000000 in
theorem c_X11_force {l : Launch} {K : KG} {ad : Nat → Nat → Nat} {fl : Nat} {a1 : Int32} {a2 : Int32} {a3 : Int32} {M0 : Mem} {r9 : Int32} {M9 : Mem} (hf : f_X11_force fl a1 a2 a3 M0 = some (r9, M9)) : Met l yX11_force (Cond.code yX11_force cX11_force 5 (some .int) :: ztb) (RM (5) 0 0) (zPc K LC ad M0 [.ref (ad 0 0), .int a1, .int a2, .int a3]) (zQ K LC ad (some (.int r9)) M9) 0 0 (zA ad) := by
  refine z_enter (by decide) (Nat.le_of_ble_eq_true rfl) ?_
  intro p e s m args below meth c ls C hin hargs Z hl
  replace C : Cx p s m args meth c cX11_force 5 "GlassPalace" (some .int) := C
  replace hl : lv_has ls 5 [(0, .ref (ad 0 0)), (1, .int a1), (2, .int a2), (3, .int a3)] := hl
  have hR : 5 ≤ (RM (5) 0 0).frames ∧ 40 * (5) ≤ (RM (5) 0 0).locals := ⟨Nat.le_refl _, Nat.le_refl _⟩
  have hB : 0 ≤ (RM (5) 0 0).cells ∧ 0 ≤ (RM (5) 0 0).slots := ⟨Nat.zero_le _, Nat.zero_le _⟩
  unfold f_X11_force at hf
  refine lv_aload_n C.x C.b dX11_force_0 rfl (lv_at hl 0 rfl) ?_
  refine lv_iload_n C.x C.b dX11_force_1 rfl (lv_at hl 3 rfl) ?_
  replace hf := bn2_s hf; obtain ⟨c2, m1, hkm1, hf⟩ := hf
  refine z_cV (As := [.int a3]) (rest := []) (st1 := [rf (ad 13) c2]) C Z mw_X11_bayOf mv_X11_bayOf k_416 (by decide) (z_hR hR (by decide)) (lvC0 Nat.zero_lt_one) kC0 zc11 (c_X11_bayOf (l := l) (K := K) (ad := ad) hkm1) rfl hl.1 rfl (Nat.le_of_ble_eq_true rfl) dX11_force_2 hB rfl (fun H locs Z => ?_)
  refine z_cstore (lv' := [(4, rf (ad 13) c2), (0, .ref (ad 0 0)), (1, .int a1), (2, .int a2), (3, .int a3)]) C dX11_force_5 hl (by decide) rfl (onlast 3 rfl rfl rfl) (fun ls hl => ?_)
  refine lv_iload_n C.x C.b dX11_force_7 rfl (lv_at hl 2 rfl) ?_
  replace hf := bn2_s hf; obtain ⟨v4, m3, hkm3, hf⟩ := hf
  refine z_cS (As := [.int a1]) (rest := []) (st1 := [.int v4]) C Z mw_X11_isWord mv_X11_isWord k_812 (by decide) (z_hR hR (by decide)) (c_X11_isWord (l := l) (K := K) (ad := ad) hkm3) rfl hl.1 rfl (Nat.le_of_ble_eq_true rfl) dX11_force_8 hB rfl (fun H locs Z => ?_)
  refine lv_if_eq (tgt := 36) C.x C.b dX11_force_11 (by decide) (fun hc5 => ?_) (fun hc5 => ?_)
  · replace hf := ite_t hf hc5
    refine lv_iconst (v := (-1)) C.x C.b dX11_force_36 (by decide) ?_
    obtain ⟨rfl, rfl⟩ := pr_s hf
    exact z_iret C Z dX11_force_37
  · replace hf := ite_f hf hc5
    refine lv_iload_n C.x C.b dX11_force_14 rfl (lv_at hl 2 rfl) ?_
    refine lv_iconst (v := 4) C.x C.b dX11_force_15 (by decide) ?_
    refine lv_icmp_ne (tgt := 24) C.x C.b dX11_force_16 (by decide) (fun hc6 => ?_) (fun hc6 => ?_)
    · replace hf := ite_f hf hc6
      exact w_X11_force_b24 C hR hB  Z (lv_sub hl [1, 2, 3, 4, 0] rfl) hf
    · replace hf := ite_t hf hc6
      refine z_aload C dX11_force_19 (lv_at hl 0 rfl) ?_
      refine z_ifnull C dX11_force_21 (tgt := 36) (by decide) (fun hc25 => ?_) (fun hc25 => ?_)
      · replace hf := ite_t hf hc25
        refine lv_iconst (v := (-1)) C.x C.b dX11_force_36 (by decide) ?_
        obtain ⟨rfl, rfl⟩ := pr_s hf
        exact z_iret C Z dX11_force_37
      · replace hf := ite_f hf hc25
        exact w_X11_force_b24 C hR hB  Z (lv_sub hl [1, 2, 3, 4, 0] rfl) hf
theorem dX11_why_0 : decode cX11_why 0 = .ok (.iload_n 1, 1) := by decide +kernel
theorem dX11_why_1 : decode cX11_why 1 = .ok (.invokestatic 226, 3) := by decide +kernel
theorem dX11_why_4 : decode cX11_why 4 = .ok (.ifCond .ne 5, 3) := by decide +kernel
theorem dX11_why_7 : decode cX11_why 7 = .ok (.iconst (-1), 1) := by decide +kernel
theorem dX11_why_8 : decode cX11_why 8 = .ok (.ireturn, 1) := by decide +kernel
theorem dX11_why_9 : decode cX11_why 9 = .ok (.iload_n 2, 1) := by decide +kernel
theorem dX11_why_10 : decode cX11_why 10 = .ok (.invokestatic 207, 3) := by decide +kernel
theorem dX11_why_13 : decode cX11_why 13 = .ok (.ifCond .ne 6, 3) := by decide +kernel
theorem dX11_why_16 : decode cX11_why 16 = .ok (.bipush (-2), 2) := by decide +kernel
theorem dX11_why_18 : decode cX11_why 18 = .ok (.ireturn, 1) := by decide +kernel
theorem dX11_why_19 : decode cX11_why 19 = .ok (.aload_n 0, 1) := by decide +kernel
theorem dX11_why_20 : decode cX11_why 20 = .ok (.getfield 40, 3) := by decide +kernel
theorem dX11_why_23 : decode cX11_why 23 = .ok (.iload_n 1, 1) := by decide +kernel
theorem dX11_why_24 : decode cX11_why 24 = .ok (.iload_n 2, 1) := by decide +kernel
theorem dX11_why_25 : decode cX11_why 25 = .ok (.invokevirtual 233, 3) := by decide +kernel
theorem dX11_why_28 : decode cX11_why 28 = .ok (.istore_n 3, 1) := by decide +kernel
theorem dX11_why_29 : decode cX11_why 29 = .ok (.aload_n 0, 1) := by decide +kernel
theorem dX11_why_30 : decode cX11_why 30 = .ok (.getfield 40, 3) := by decide +kernel
theorem dX11_why_33 : decode cX11_why 33 = .ok (.iload_n 3, 1) := by decide +kernel
theorem dX11_why_34 : decode cX11_why 34 = .ok (.invokevirtual 236, 3) := by decide +kernel
theorem dX11_why_37 : decode cX11_why 37 = .ok (.astore 4, 2) := by decide +kernel
theorem dX11_why_39 : decode cX11_why 39 = .ok (.aload 4, 2) := by decide +kernel
theorem dX11_why_41 : decode cX11_why 41 = .ok (.ifnonnull 8, 3) := by decide +kernel
theorem dX11_why_44 : decode cX11_why 44 = .ok (.bipush (-5), 2) := by decide +kernel
theorem dX11_why_46 : decode cX11_why 46 = .ok (.goto 14, 3) := by decide +kernel
theorem dX11_why_49 : decode cX11_why 49 = .ok (.bipush 100, 2) := by decide +kernel
theorem dX11_why_51 : decode cX11_why 51 = .ok (.iload_n 3, 1) := by decide +kernel
theorem dX11_why_52 : decode cX11_why 52 = .ok (.imul, 1) := by decide +kernel
theorem dX11_why_53 : decode cX11_why 53 = .ok (.aload 4, 2) := by decide +kernel
theorem dX11_why_55 : decode cX11_why 55 = .ok (.iload_n 1, 1) := by decide +kernel
theorem dX11_why_56 : decode cX11_why 56 = .ok (.invokevirtual 240, 3) := by decide +kernel
theorem dX11_why_59 : decode cX11_why 59 = .ok (.iadd, 1) := by decide +kernel
theorem dX11_why_60 : decode cX11_why 60 = .ok (.ireturn, 1) := by decide +kernel
set_option maxRecDepth 100000 in
set_option maxHeartbeats 4000000 in
theorem c_X11_why {l : Launch} {K : KG} {ad : Nat → Nat → Nat} {fl : Nat} {a1 : Int32} {a2 : Int32} {M0 : Mem} {r9 : Int32} {M9 : Mem} (hf : f_X11_why fl a1 a2 M0 = some (r9, M9)) : Met l yX11_why (Cond.code yX11_why cX11_why 5 (some .int) :: ztb) (RM (3) 0 0) (zPc K LC ad M0 [.ref (ad 0 0), .int a1, .int a2]) (zQ K LC ad (some (.int r9)) M9) 0 0 (zA ad) := by
  refine z_enter (by decide) (Nat.le_of_ble_eq_true rfl) ?_
  intro p e s m args below meth c ls C hin hargs Z hl
  replace C : Cx p s m args meth c cX11_why 5 "GlassPalace" (some .int) := C
  replace hl : lv_has ls 5 [(0, .ref (ad 0 0)), (1, .int a1), (2, .int a2)] := hl
  have hR : 3 ≤ (RM (3) 0 0).frames ∧ 40 * (3) ≤ (RM (3) 0 0).locals := ⟨Nat.le_refl _, Nat.le_refl _⟩
  have hB : 0 ≤ (RM (3) 0 0).cells ∧ 0 ≤ (RM (3) 0 0).slots := ⟨Nat.zero_le _, Nat.zero_le _⟩
  unfold f_X11_why at hf
  refine lv_iload_n C.x C.b dX11_why_0 rfl (lv_at hl 1 rfl) ?_
  replace hf := bn2_s hf; obtain ⟨v2, m1, hkm1, hf⟩ := hf
  refine z_cS (As := [.int a1]) (rest := []) (st1 := [.int v2]) C Z mw_X11_isWord mv_X11_isWord k_812 (by decide) (z_hR hR (by decide)) (c_X11_isWord (l := l) (K := K) (ad := ad) hkm1) rfl hl.1 rfl (Nat.le_of_ble_eq_true rfl) dX11_why_1 hB rfl (fun H locs Z => ?_)
  refine lv_if_ne (tgt := 9) C.x C.b dX11_why_4 (by decide) (fun hc3 => ?_) (fun hc3 => ?_)
  · replace hf := ite_f hf hc3
    refine lv_iload_n C.x C.b dX11_why_9 rfl (lv_at hl 2 rfl) ?_
    replace hf := bn2_s hf; obtain ⟨v5, m4, hkm4, hf⟩ := hf
    refine z_cS (As := [.int a2]) (rest := []) (st1 := [.int v5]) C Z mw_X11_isDay mv_X11_isDay k_685 (by decide) (z_hR hR (by decide)) (c_X11_isDay (l := l) (K := K) (ad := ad) hkm4) rfl hl.1 rfl (Nat.le_of_ble_eq_true rfl) dX11_why_10 hB rfl (fun H locs Z => ?_)
    refine lv_if_ne (tgt := 19) C.x C.b dX11_why_13 (by decide) (fun hc6 => ?_) (fun hc6 => ?_)
    · replace hf := ite_f hf hc6
      refine lv_aload_n C.x C.b dX11_why_19 rfl (lv_at hl 0 rfl) ?_
      refine z_get C Z (lvC0 Nat.zero_lt_one) kC0 zc11 zin11 7 (by decide) k_369 rfl svC0_7 dX11_why_20 ?_
      refine lv_iload_n C.x C.b dX11_why_23 rfl (lv_at hl 1 rfl) ?_
      refine lv_iload_n C.x C.b dX11_why_24 rfl (lv_at hl 2 rfl) ?_
      replace hf := bn2_s hf; obtain ⟨v8, m7, hkm7, hf⟩ := hf
      refine z_cV (As := [.int a1, .int a2]) (rest := []) (st1 := [.int v8]) C Z mw_X3_textFor mv_X3_textFor k_819 (by decide) (z_hR hR (by decide)) (lvC6 Nat.zero_lt_one) kC6 zc3 (c_X3_textFor (l := l) (K := K) (ad := ad) hkm7) rfl hl.1 rfl (Nat.le_of_ble_eq_true rfl) dX11_why_25 hB rfl (fun H locs Z => ?_)
      refine z_istore_n (lv' := [(3, .int v8), (0, .ref (ad 0 0)), (1, .int a1), (2, .int a2)]) C dX11_why_28 rfl hl (by decide) rfl (onlast 2 rfl rfl rfl) (fun ls hl => ?_)
      refine lv_aload_n C.x C.b dX11_why_29 rfl (lv_at hl 1 rfl) ?_
      refine z_get C Z (lvC0 Nat.zero_lt_one) kC0 zc11 zin11 7 (by decide) k_369 rfl svC0_7 dX11_why_30 ?_
      refine lv_iload_n C.x C.b dX11_why_33 rfl (lv_at hl 0 rfl) ?_
      replace hf := bn2_s hf; obtain ⟨c10, m9, hkm9, hf⟩ := hf
      refine z_cV (As := [.int v8]) (rest := []) (st1 := [rf (ad 19) c10]) C Z mw_X3_textOf mv_X3_textOf k_820 (by decide) (z_hR hR (by decide)) (lvC6 Nat.zero_lt_one) kC6 zc3 (c_X3_textOf (l := l) (K := K) (ad := ad) hkm9) rfl hl.1 rfl (Nat.le_of_ble_eq_true rfl) dX11_why_34 hB rfl (fun H locs Z => ?_)
      refine z_cstore (lv' := [(4, rf (ad 19) c10), (3, .int v8), (0, .ref (ad 0 0)), (1, .int a1), (2, .int a2)]) C dX11_why_37 hl (by decide) rfl (onlast 0 rfl rfl rfl) (fun ls hl => ?_)
      refine z_aload C dX11_why_39 (lv_at hl 0 rfl) ?_
      refine z_ifnonnull C dX11_why_41 (tgt := 49) (by decide) (fun hc11 => ?_) (fun hc11 => ?_)
      · replace hf := ite_f hf hc11
        refine lv_bipush (v := 100) C.x C.b dX11_why_49 (by decide) ?_
        refine lv_iload_n C.x C.b dX11_why_51 rfl (lv_at hl 1 rfl) ?_
        refine lv_imul C.x C.b dX11_why_52 ?_
        refine z_aload C dX11_why_53 (lv_at hl 0 rfl) ?_
        refine lv_iload_n C.x C.b dX11_why_55 rfl (lv_at hl 3 rfl) ?_
        replace hf := drf_s hf; obtain ⟨j12, ej14, hj13, hf⟩ := hf
        subst ej14
        refine z_nn [.int a1] (y := j12 + 1) rfl ?_
        replace hf := bn2_s hf; obtain ⟨v16, m15, hkm15, hf⟩ := hf
        refine z_cV (As := [.int a1]) (rest := [.int (100 * v8)]) (st1 := [.int v16, .int (100 * v8)]) C Z mw_X9_lastClauseOf mv_X9_lastClauseOf k_821 (by decide) (z_hR hR (by decide)) (lvC19 hj13) kC19 zc9 (c_X9_lastClauseOf (l := l) (K := K) (ad := ad) hj13 hkm15) rfl hl.1 rfl (Nat.le_of_ble_eq_true rfl) dX11_why_56 hB rfl (fun H locs Z => ?_)
        refine lv_iadd C.x C.b dX11_why_59 ?_
        obtain ⟨rfl, rfl⟩ := pr_s hf
        exact z_iret C Z dX11_why_60
      · replace hf := ite_t hf hc11
        refine lv_bipush (v := (-5)) C.x C.b dX11_why_44 (by decide) ?_
        refine lv_goto (tgt := 60) C.x C.b dX11_why_46 (by decide) ?_
        obtain ⟨rfl, rfl⟩ := pr_s hf
        exact z_iret C Z dX11_why_60
    · replace hf := ite_t hf hc6
      refine lv_bipush (v := (-2)) C.x C.b dX11_why_16 (by decide) ?_
      obtain ⟨rfl, rfl⟩ := pr_s hf
      exact z_iret C Z dX11_why_18
  · replace hf := ite_t hf hc3
    refine lv_iconst (v := (-1)) C.x C.b dX11_why_7 (by decide) ?_
    obtain ⟨rfl, rfl⟩ := pr_s hf
    exact z_iret C Z dX11_why_8
theorem dX11_people_0 : decode cX11_people 0 = .ok (.aload_n 0, 1) := by decide +kernel
theorem dX11_people_1 : decode cX11_people 1 = .ok (.iload_n 1, 1) := by decide +kernel
theorem dX11_people_2 : decode cX11_people 2 = .ok (.invokevirtual 92, 3) := by decide +kernel
theorem dX11_people_5 : decode cX11_people 5 = .ok (.astore_n 3, 1) := by decide +kernel
theorem dX11_people_6 : decode cX11_people 6 = .ok (.aload_n 3, 1) := by decide +kernel
theorem dX11_people_7 : decode cX11_people 7 = .ok (.ifnonnull 5, 3) := by decide +kernel
theorem dX11_people_10 : decode cX11_people 10 = .ok (.iconst (-1), 1) := by decide +kernel
theorem dX11_people_11 : decode cX11_people 11 = .ok (.ireturn, 1) := by decide +kernel
theorem dX11_people_12 : decode cX11_people 12 = .ok (.iload_n 2, 1) := by decide +kernel
theorem dX11_people_13 : decode cX11_people 13 = .ok (.ifCond .lt 10, 3) := by decide +kernel
theorem dX11_people_16 : decode cX11_people 16 = .ok (.iload_n 2, 1) := by decide +kernel
theorem dX11_people_17 : decode cX11_people 17 = .ok (.sipush 200, 3) := by decide +kernel
theorem dX11_people_20 : decode cX11_people 20 = .ok (.if_icmp .le 6, 3) := by decide +kernel
theorem dX11_people_23 : decode cX11_people 23 = .ok (.bipush (-2), 2) := by decide +kernel
theorem dX11_people_25 : decode cX11_people 25 = .ok (.ireturn, 1) := by decide +kernel
theorem dX11_people_26 : decode cX11_people 26 = .ok (.aload_n 3, 1) := by decide +kernel
theorem dX11_people_27 : decode cX11_people 27 = .ok (.getfield 244, 3) := by decide +kernel
theorem dX11_people_30 : decode cX11_people 30 = .ok (.istore 4, 2) := by decide +kernel
theorem dX11_people_32 : decode cX11_people 32 = .ok (.aload_n 3, 1) := by decide +kernel
theorem dX11_people_33 : decode cX11_people 33 = .ok (.iload_n 2, 1) := by decide +kernel
theorem dX11_people_34 : decode cX11_people 34 = .ok (.putfield 244, 3) := by decide +kernel
theorem dX11_people_37 : decode cX11_people 37 = .ok (.iload 4, 2) := by decide +kernel
theorem dX11_people_39 : decode cX11_people 39 = .ok (.ireturn, 1) := by decide +kernel
set_option maxRecDepth 100000 in
set_option maxHeartbeats 4000000 in
theorem c_X11_people {l : Launch} {K : KG} {ad : Nat → Nat → Nat} {fl : Nat} {a1 : Int32} {a2 : Int32} {M0 : Mem} {r9 : Int32} {M9 : Mem} (hf : f_X11_people fl a1 a2 M0 = some (r9, M9)) : Met l yX11_people (Cond.code yX11_people cX11_people 5 (some .int) :: ztb) (RM (3) 0 0) (zPc K LC ad M0 [.ref (ad 0 0), .int a1, .int a2]) (zQ K LC ad (some (.int r9)) M9) 0 0 (zA ad) := by
  refine z_enter (by decide) (Nat.le_of_ble_eq_true rfl) ?_
  intro p e s m args below meth c ls C hin hargs Z hl
  replace C : Cx p s m args meth c cX11_people 5 "GlassPalace" (some .int) := C
  replace hl : lv_has ls 5 [(0, .ref (ad 0 0)), (1, .int a1), (2, .int a2)] := hl
  have hR : 3 ≤ (RM (3) 0 0).frames ∧ 40 * (3) ≤ (RM (3) 0 0).locals := ⟨Nat.le_refl _, Nat.le_refl _⟩
  have hB : 0 ≤ (RM (3) 0 0).cells ∧ 0 ≤ (RM (3) 0 0).slots := ⟨Nat.zero_le _, Nat.zero_le _⟩
  unfold f_X11_people at hf
  refine lv_aload_n C.x C.b dX11_people_0 rfl (lv_at hl 0 rfl) ?_
  refine lv_iload_n C.x C.b dX11_people_1 rfl (lv_at hl 1 rfl) ?_
  replace hf := bn2_s hf; obtain ⟨c2, m1, hkm1, hf⟩ := hf
  refine z_cV (As := [.int a1]) (rest := []) (st1 := [rf (ad 13) c2]) C Z mw_X11_bayOf mv_X11_bayOf k_416 (by decide) (z_hR hR (by decide)) (lvC0 Nat.zero_lt_one) kC0 zc11 (c_X11_bayOf (l := l) (K := K) (ad := ad) hkm1) rfl hl.1 rfl (Nat.le_of_ble_eq_true rfl) dX11_people_2 hB rfl (fun H locs Z => ?_)
  refine z_cstore_n (lv' := [(3, rf (ad 13) c2), (0, .ref (ad 0 0)), (1, .int a1), (2, .int a2)]) C dX11_people_5 rfl hl (by decide) rfl (onlast 2 rfl rfl rfl) (fun ls hl => ?_)
  refine z_aload_n C dX11_people_6 rfl (lv_at hl 0 rfl) ?_
  refine z_ifnonnull C dX11_people_7 (tgt := 12) (by decide) (fun hc3 => ?_) (fun hc3 => ?_)
  · replace hf := ite_f hf hc3
    refine lv_iload_n C.x C.b dX11_people_12 rfl (lv_at hl 3 rfl) ?_
    refine lv_if_lt (tgt := 23) C.x C.b dX11_people_13 (by decide) (fun hc4 => ?_) (fun hc4 => ?_)
    · replace hf := ite_t hf hc4
      refine lv_bipush (v := (-2)) C.x C.b dX11_people_23 (by decide) ?_
      obtain ⟨rfl, rfl⟩ := pr_s hf
      exact z_iret C Z dX11_people_25
    · replace hf := ite_f hf hc4
      refine lv_iload_n C.x C.b dX11_people_16 rfl (lv_at hl 3 rfl) ?_
      refine lv_sipush (v := 200) C.x C.b dX11_people_17 (by decide) ?_
      refine lv_icmp_le (tgt := 26) C.x C.b dX11_people_20 (by decide) (fun hc5 => ?_) (fun hc5 => ?_)
      · replace hf := ite_t hf hc5
        refine z_aload_n C dX11_people_26 rfl (lv_at hl 0 rfl) ?_
        replace hf := drf_s hf; obtain ⟨j6, ej8, hj7, hf⟩ := hf
        subst ej8
        refine z_nn [] (y := j6 + 1) rfl ?_
        refine z_get C Z (lvC13 hj7) kC13 zc1 zin1 3 (by decide) k_318 rfl svC13_3 dX11_people_27 ?_
        replace hf := lt1_s hf; obtain ⟨x9, ex9, hf⟩ := hf
        refine z_renI ex9 ?_
        refine z_istore (lv' := [(4, .int x9), (3, .ref (ad 13 j6)), (0, .ref (ad 0 0)), (1, .int a1), (2, .int a2)]) C dX11_people_30 hl (by decide) rfl (onlast 0 rfl rfl rfl) (fun ls hl => ?_)
        refine lv_aload_n C.x C.b dX11_people_32 rfl (lv_at hl 1 rfl) ?_
        refine lv_iload_n C.x C.b dX11_people_33 rfl (lv_at hl 4 rfl) ?_
        replace hf := lt1_s hf; obtain ⟨m10, em10, hf⟩ := hf
        refine z_put (M1 := m10) C Z (lvC13 hj7) (by decide) kC13 zc1 zin1 tyX1_ok nmX1 3 (by decide) k_318 rfl (zUp_I em10 stC13_3u) (Or.inl rfl) rfl rfl dX11_people_34 (fun H locs Z => ?_)
        refine lv_iload C.x C.b dX11_people_37 (lv_at hl 0 rfl) ?_
        obtain ⟨rfl, rfl⟩ := pr_s hf
        exact z_iret C Z dX11_people_39
      · replace hf := ite_f hf hc5
        refine lv_bipush (v := (-2)) C.x C.b dX11_people_23 (by decide) ?_
        obtain ⟨rfl, rfl⟩ := pr_s hf
        exact z_iret C Z dX11_people_25
  · replace hf := ite_t hf hc3
    refine lv_iconst (v := (-1)) C.x C.b dX11_people_10 (by decide) ?_
    obtain ⟨rfl, rfl⟩ := pr_s hf
    exact z_iret C Z dX11_people_11
theorem dX11_girderLoad_0 : decode cX11_girderLoad 0 = .ok (.aload_n 1, 1) := by decide +kernel
theorem dX11_girderLoad_1 : decode cX11_girderLoad 1 = .ok (.iconst 2, 1) := by decide +kernel
theorem dX11_girderLoad_2 : decode cX11_girderLoad 2 = .ok (.invokevirtual 247, 3) := by decide +kernel
theorem dX11_girderLoad_5 : decode cX11_girderLoad 5 = .ok (.ifCond .ne 5, 3) := by decide +kernel
theorem dX11_girderLoad_8 : decode cX11_girderLoad 8 = .ok (.iconst 0, 1) := by decide +kernel
theorem dX11_girderLoad_9 : decode cX11_girderLoad 9 = .ok (.ireturn, 1) := by decide +kernel
theorem dX11_girderLoad_10 : decode cX11_girderLoad 10 = .ok (.aload_n 0, 1) := by decide +kernel
theorem dX11_girderLoad_11 : decode cX11_girderLoad 11 = .ok (.getfield 40, 3) := by decide +kernel
theorem dX11_girderLoad_14 : decode cX11_girderLoad 14 = .ok (.iconst 2, 1) := by decide +kernel
theorem dX11_girderLoad_15 : decode cX11_girderLoad 15 = .ok (.aload_n 0, 1) := by decide +kernel
theorem dX11_girderLoad_16 : decode cX11_girderLoad 16 = .ok (.getfield 88, 3) := by decide +kernel
theorem dX11_girderLoad_19 : decode cX11_girderLoad 19 = .ok (.invokevirtual 158, 3) := by decide +kernel
theorem dX11_girderLoad_22 : decode cX11_girderLoad 22 = .ok (.aload_n 1, 1) := by decide +kernel
theorem dX11_girderLoad_23 : decode cX11_girderLoad 23 = .ok (.getfield 244, 3) := by decide +kernel
theorem dX11_girderLoad_26 : decode cX11_girderLoad 26 = .ok (.imul, 1) := by decide +kernel
theorem dX11_girderLoad_27 : decode cX11_girderLoad 27 = .ok (.aload_n 0, 1) := by decide +kernel
theorem dX11_girderLoad_28 : decode cX11_girderLoad 28 = .ok (.getfield 40, 3) := by decide +kernel
theorem dX11_girderLoad_31 : decode cX11_girderLoad 31 = .ok (.iconst 3, 1) := by decide +kernel
theorem dX11_girderLoad_32 : decode cX11_girderLoad 32 = .ok (.aload_n 0, 1) := by decide +kernel
theorem dX11_girderLoad_33 : decode cX11_girderLoad 33 = .ok (.getfield 88, 3) := by decide +kernel
theorem dX11_girderLoad_36 : decode cX11_girderLoad 36 = .ok (.invokevirtual 158, 3) := by decide +kernel
theorem dX11_girderLoad_39 : decode cX11_girderLoad 39 = .ok (.aload_n 1, 1) := by decide +kernel
theorem dX11_girderLoad_40 : decode cX11_girderLoad 40 = .ok (.getfield 182, 3) := by decide +kernel
theorem dX11_girderLoad_43 : decode cX11_girderLoad 43 = .ok (.imul, 1) := by decide +kernel
theorem dX11_girderLoad_44 : decode cX11_girderLoad 44 = .ok (.iadd, 1) := by decide +kernel
theorem dX11_girderLoad_45 : decode cX11_girderLoad 45 = .ok (.ireturn, 1) := by decide +kernel
set_option maxRecDepth 100000 in
set_option maxHeartbeats 4000000 in
theorem c_X11_girderLoad {l : Launch} {K : KG} {ad : Nat → Nat → Nat} {fl : Nat} {a1 : Nat} {M0 : Mem} {r9 : Int32} {M9 : Mem} (hf : f_X11_girderLoad fl a1 M0 = some (r9, M9)) : Met l yX11_girderLoad (Cond.code yX11_girderLoad cX11_girderLoad 2 (some .int) :: ztb) (RM (4) 0 0) (zPc K LC ad M0 [.ref (ad 0 0), rf (ad 13) a1]) (zQ K LC ad (some (.int r9)) M9) 0 0 (zA ad) := by
  refine z_enter (by decide) (by simp [lg_sl, rf_cat, cat_i, cat_l, cat_r, cat_n]) ?_
  intro p e s m args below meth c ls C hin hargs Z hl
  replace C : Cx p s m args meth c cX11_girderLoad 2 "GlassPalace" (some .int) := C
  replace hl : lv_has ls 2 [(0, .ref (ad 0 0)), (1, rf (ad 13) a1)] := by simpa [lv_args, rf_cat, cat_i, cat_l, cat_r, cat_n] using hl
  have hR : 4 ≤ (RM (4) 0 0).frames ∧ 40 * (4) ≤ (RM (4) 0 0).locals := ⟨Nat.le_refl _, Nat.le_refl _⟩
  have hB : 0 ≤ (RM (4) 0 0).cells ∧ 0 ≤ (RM (4) 0 0).slots := ⟨Nat.zero_le _, Nat.zero_le _⟩
  unfold f_X11_girderLoad at hf
  refine z_aload_n C dX11_girderLoad_0 rfl (lv_at hl 1 rfl) ?_
  refine lv_iconst (v := 2) C.x C.b dX11_girderLoad_1 (by decide) ?_
  replace hf := drf_s hf; obtain ⟨j1, ej3, hj2, hf⟩ := hf
  subst ej3
  refine z_nn [.int 2] (y := j1 + 1) rfl ?_
  replace hf := bn2_s hf; obtain ⟨v5, m4, hkm4, hf⟩ := hf
  refine z_cV (As := [.int 2]) (rest := []) (st1 := [.int v5]) C Z mw_X1_has mv_X1_has k_617 (by decide) (z_hR hR (by decide)) (lvC13 hj2) kC13 zc1 (c_X1_has (l := l) (K := K) (ad := ad) hj2 hkm4) rfl hl.1 rfl (Nat.le_of_ble_eq_true rfl) dX11_girderLoad_2 hB rfl (fun H locs Z => ?_)
  refine lv_if_ne (tgt := 10) C.x C.b dX11_girderLoad_5 (by decide) (fun hc6 => ?_) (fun hc6 => ?_)
  · replace hf := ite_f hf hc6
    refine lv_aload_n C.x C.b dX11_girderLoad_10 rfl (lv_at hl 0 rfl) ?_
    refine z_get C Z (lvC0 Nat.zero_lt_one) kC0 zc11 zin11 7 (by decide) k_369 rfl svC0_7 dX11_girderLoad_11 ?_
    refine lv_iconst (v := 2) C.x C.b dX11_girderLoad_14 (by decide) ?_
    refine lv_aload_n C.x C.b dX11_girderLoad_15 rfl (lv_at hl 0 rfl) ?_
    refine z_get C Z (lvC0 Nat.zero_lt_one) kC0 zc11 zin11 0 (by decide) k_362 rfl svC0_0 dX11_girderLoad_16 ?_
    replace hf := bn2_s hf; obtain ⟨v8, m7, hkm7, hf⟩ := hf
    refine z_cV (As := [.int 2, .int (gI m4 0 0 0)]) (rest := []) (st1 := [.int v8]) C Z mw_X3_numberFor mv_X3_numberFor k_571 (by decide) (z_hR hR (by decide)) (lvC6 Nat.zero_lt_one) kC6 zc3 (c_X3_numberFor (l := l) (K := K) (ad := ad) hkm7) rfl hl.1 rfl (Nat.le_of_ble_eq_true rfl) dX11_girderLoad_19 hB rfl (fun H locs Z => ?_)
    refine lv_aload_n C.x C.b dX11_girderLoad_22 rfl (lv_at hl 1 rfl) ?_
    refine z_get C Z (lvC13 hj2) kC13 zc1 zin1 3 (by decide) k_318 rfl svC13_3 dX11_girderLoad_23 ?_
    refine lv_imul C.x C.b dX11_girderLoad_26 ?_
    refine lv_aload_n C.x C.b dX11_girderLoad_27 rfl (lv_at hl 0 rfl) ?_
    refine z_get C Z (lvC0 Nat.zero_lt_one) kC0 zc11 zin11 7 (by decide) k_369 rfl svC0_7 dX11_girderLoad_28 ?_
    refine lv_iconst (v := 3) C.x C.b dX11_girderLoad_31 (by decide) ?_
    refine lv_aload_n C.x C.b dX11_girderLoad_32 rfl (lv_at hl 0 rfl) ?_
    refine z_get C Z (lvC0 Nat.zero_lt_one) kC0 zc11 zin11 0 (by decide) k_362 rfl svC0_0 dX11_girderLoad_33 ?_
    replace hf := bn2_s hf; obtain ⟨v10, m9, hkm9, hf⟩ := hf
    refine z_cV (As := [.int 3, .int (gI m7 0 0 0)]) (rest := [.int (v8 * (gI m7 13 j1 3))]) (st1 := [.int v10, .int (v8 * (gI m7 13 j1 3))]) C Z mw_X3_numberFor mv_X3_numberFor k_571 (by decide) (z_hR hR (by decide)) (lvC6 Nat.zero_lt_one) kC6 zc3 (c_X3_numberFor (l := l) (K := K) (ad := ad) hkm9) rfl hl.1 rfl (Nat.le_of_ble_eq_true rfl) dX11_girderLoad_36 hB rfl (fun H locs Z => ?_)
    refine lv_aload_n C.x C.b dX11_girderLoad_39 rfl (lv_at hl 1 rfl) ?_
    refine z_get C Z (lvC13 hj2) kC13 zc1 zin1 4 (by decide) k_321 rfl svC13_4 dX11_girderLoad_40 ?_
    refine lv_imul C.x C.b dX11_girderLoad_43 ?_
    refine lv_iadd C.x C.b dX11_girderLoad_44 ?_
    obtain ⟨rfl, rfl⟩ := pr_s hf
    exact z_iret C Z dX11_girderLoad_45
  · replace hf := ite_t hf hc6
    refine lv_iconst (v := 0) C.x C.b dX11_girderLoad_8 (by decide) ?_
    obtain ⟨rfl, rfl⟩ := pr_s hf
    exact z_iret C Z dX11_girderLoad_9
theorem dX11_columnLoad_0 : decode cX11_columnLoad 0 = .ok (.aload_n 0, 1) := by decide +kernel
theorem dX11_columnLoad_1 : decode cX11_columnLoad 1 = .ok (.aload_n 1, 1) := by decide +kernel
theorem dX11_columnLoad_2 : decode cX11_columnLoad 2 = .ok (.invokevirtual 460, 3) := by decide +kernel
theorem dX11_columnLoad_5 : decode cX11_columnLoad 5 = .ok (.astore_n 2, 1) := by decide +kernel
theorem dX11_columnLoad_6 : decode cX11_columnLoad 6 = .ok (.aload_n 0, 1) := by decide +kernel
theorem dX11_columnLoad_7 : decode cX11_columnLoad 7 = .ok (.aload_n 1, 1) := by decide +kernel
theorem dX11_columnLoad_8 : decode cX11_columnLoad 8 = .ok (.invokevirtual 250, 3) := by decide +kernel
theorem dX11_columnLoad_11 : decode cX11_columnLoad 11 = .ok (.aload_n 2, 1) := by decide +kernel
theorem dX11_columnLoad_12 : decode cX11_columnLoad 12 = .ok (.ifnonnull 7, 3) := by decide +kernel
theorem dX11_columnLoad_15 : decode cX11_columnLoad 15 = .ok (.iconst 0, 1) := by decide +kernel
theorem dX11_columnLoad_16 : decode cX11_columnLoad 16 = .ok (.goto 8, 3) := by decide +kernel
theorem dX11_columnLoad_19 : decode cX11_columnLoad 19 = .ok (.aload_n 0, 1) := by decide +kernel
theorem dX11_columnLoad_20 : decode cX11_columnLoad 20 = .ok (.aload_n 2, 1) := by decide +kernel
theorem dX11_columnLoad_21 : decode cX11_columnLoad 21 = .ok (.invokevirtual 250, 3) := by decide +kernel
theorem dX11_columnLoad_24 : decode cX11_columnLoad 24 = .ok (.iadd, 1) := by decide +kernel
theorem dX11_columnLoad_25 : decode cX11_columnLoad 25 = .ok (.ireturn, 1) := by decide +kernel
set_option maxRecDepth 100000 in
set_option maxHeartbeats 4000000 in
theorem c_X11_columnLoad {l : Launch} {K : KG} {ad : Nat → Nat → Nat} {fl : Nat} {a1 : Nat} {M0 : Mem} {r9 : Int32} {M9 : Mem} (hf : f_X11_columnLoad fl a1 M0 = some (r9, M9)) : Met l yX11_columnLoad (Cond.code yX11_columnLoad cX11_columnLoad 3 (some .int) :: ztb) (RM (5) 0 0) (zPc K LC ad M0 [.ref (ad 0 0), rf (ad 13) a1]) (zQ K LC ad (some (.int r9)) M9) 0 0 (zA ad) := by
  refine z_enter (by decide) (by simp [lg_sl, rf_cat, cat_i, cat_l, cat_r, cat_n]) ?_
  intro p e s m args below meth c ls C hin hargs Z hl
  replace C : Cx p s m args meth c cX11_columnLoad 3 "GlassPalace" (some .int) := C
  replace hl : lv_has ls 3 [(0, .ref (ad 0 0)), (1, rf (ad 13) a1)] := by simpa [lv_args, rf_cat, cat_i, cat_l, cat_r, cat_n] using hl
  have hR : 5 ≤ (RM (5) 0 0).frames ∧ 40 * (5) ≤ (RM (5) 0 0).locals := ⟨Nat.le_refl _, Nat.le_refl _⟩
  have hB : 0 ≤ (RM (5) 0 0).cells ∧ 0 ≤ (RM (5) 0 0).slots := ⟨Nat.zero_le _, Nat.zero_le _⟩
  unfold f_X11_columnLoad at hf
  refine lv_aload_n C.x C.b dX11_columnLoad_0 rfl (lv_at hl 0 rfl) ?_
  refine z_aload_n C dX11_columnLoad_1 rfl (lv_at hl 1 rfl) ?_
  replace hf := bn2_s hf; obtain ⟨c2, m1, hkm1, hf⟩ := hf
  refine z_cV (As := [rf (ad 13) a1]) (rest := []) (st1 := [rf (ad 13) c2]) C Z mw_X11_leftOf mv_X11_leftOf k_652 (by decide) (z_hR hR (by decide)) (lvC0 Nat.zero_lt_one) kC0 zc11 (c_X11_leftOf (l := l) (K := K) (ad := ad) hkm1) rfl hl.1 rfl (Nat.le_of_ble_eq_true rfl) dX11_columnLoad_2 hB rfl (fun H locs Z => ?_)
  refine z_cstore_n (lv' := [(2, rf (ad 13) c2), (0, .ref (ad 0 0)), (1, rf (ad 13) a1)]) C dX11_columnLoad_5 rfl hl (by decide) rfl (onlast 1 rfl (rf_cat _ _) rfl) (fun ls hl => ?_)
  refine lv_aload_n C.x C.b dX11_columnLoad_6 rfl (lv_at hl 1 rfl) ?_
  refine z_aload_n C dX11_columnLoad_7 rfl (lv_at hl 2 rfl) ?_
  replace hf := bn2_s hf; obtain ⟨v4, m3, hkm3, hf⟩ := hf
  refine z_cV (As := [rf (ad 13) a1]) (rest := []) (st1 := [.int v4]) C Z mw_X11_girderLoad mv_X11_girderLoad k_830 (by decide) (z_hR hR (by decide)) (lvC0 Nat.zero_lt_one) kC0 zc11 (c_X11_girderLoad (l := l) (K := K) (ad := ad) hkm3) rfl hl.1 rfl (Nat.le_of_ble_eq_true rfl) dX11_columnLoad_8 hB rfl (fun H locs Z => ?_)
  refine z_aload_n C dX11_columnLoad_11 rfl (lv_at hl 0 rfl) ?_
  refine z_ifnonnull C dX11_columnLoad_12 (tgt := 19) (by decide) (fun hc5 => ?_) (fun hc5 => ?_)
  · replace hf := ite_f hf hc5
    refine lv_aload_n C.x C.b dX11_columnLoad_19 rfl (lv_at hl 1 rfl) ?_
    refine z_aload_n C dX11_columnLoad_20 rfl (lv_at hl 0 rfl) ?_
    replace hf := bn2_s hf; obtain ⟨v7, m6, hkm6, hf⟩ := hf
    refine z_cV (As := [rf (ad 13) c2]) (rest := [.int v4]) (st1 := [.int v7, .int v4]) C Z mw_X11_girderLoad mv_X11_girderLoad k_830 (by decide) (z_hR hR (by decide)) (lvC0 Nat.zero_lt_one) kC0 zc11 (c_X11_girderLoad (l := l) (K := K) (ad := ad) hkm6) rfl hl.1 rfl (Nat.le_of_ble_eq_true rfl) dX11_columnLoad_21 hB rfl (fun H locs Z => ?_)
    refine lv_iadd C.x C.b dX11_columnLoad_24 ?_
    obtain ⟨rfl, rfl⟩ := pr_s hf
    exact z_iret C Z dX11_columnLoad_25
  · replace hf := ite_t hf hc5
    refine lv_iconst (v := 0) C.x C.b dX11_columnLoad_15 (by decide) ?_
    refine lv_goto (tgt := 24) C.x C.b dX11_columnLoad_16 (by decide) ?_
    refine lv_iadd C.x C.b dX11_columnLoad_24 ?_
    obtain ⟨rfl, rfl⟩ := pr_s hf
    exact z_iret C Z dX11_columnLoad_25
theorem dX11_girderHolds_0 : decode cX11_girderHolds 0 = .ok (.aload_n 1, 1) := by decide +kernel
theorem dX11_girderHolds_1 : decode cX11_girderHolds 1 = .ok (.iconst 2, 1) := by decide +kernel
theorem dX11_girderHolds_2 : decode cX11_girderHolds 2 = .ok (.invokevirtual 185, 3) := by decide +kernel
theorem dX11_girderHolds_5 : decode cX11_girderHolds 5 = .ok (.astore_n 2, 1) := by decide +kernel
theorem dX11_girderHolds_6 : decode cX11_girderHolds 6 = .ok (.aload_n 2, 1) := by decide +kernel
theorem dX11_girderHolds_7 : decode cX11_girderHolds 7 = .ok (.ifnull 15, 3) := by decide +kernel
theorem dX11_girderHolds_10 : decode cX11_girderHolds 10 = .ok (.aload_n 0, 1) := by decide +kernel
theorem dX11_girderHolds_11 : decode cX11_girderHolds 11 = .ok (.aload_n 1, 1) := by decide +kernel
theorem dX11_girderHolds_12 : decode cX11_girderHolds 12 = .ok (.invokevirtual 250, 3) := by decide +kernel
theorem dX11_girderHolds_15 : decode cX11_girderHolds 15 = .ok (.aload_n 2, 1) := by decide +kernel
theorem dX11_girderHolds_16 : decode cX11_girderHolds 16 = .ok (.getfield 147, 3) := by decide +kernel
theorem dX11_girderHolds_19 : decode cX11_girderHolds 19 = .ok (.if_icmp .gt 7, 3) := by decide +kernel
theorem dX11_girderHolds_22 : decode cX11_girderHolds 22 = .ok (.iconst 1, 1) := by decide +kernel
theorem dX11_girderHolds_23 : decode cX11_girderHolds 23 = .ok (.goto 4, 3) := by decide +kernel
theorem dX11_girderHolds_26 : decode cX11_girderHolds 26 = .ok (.iconst 0, 1) := by decide +kernel
theorem dX11_girderHolds_27 : decode cX11_girderHolds 27 = .ok (.ireturn, 1) := by decide +kernel
set_option maxRecDepth 100000 in
set_option maxHeartbeats 4000000 in
theorem c_X11_girderHolds {l : Launch} {K : KG} {ad : Nat → Nat → Nat} {fl : Nat} {a1 : Nat} {M0 : Mem} {r9 : Int32} {M9 : Mem} (hf : f_X11_girderHolds fl a1 M0 = some (r9, M9)) : Met l yX11_girderHolds (Cond.code yX11_girderHolds cX11_girderHolds 3 (some .boolean) :: ztb) (RM (5) 0 0) (zPc K LC ad M0 [.ref (ad 0 0), rf (ad 13) a1]) (zQ K LC ad (some (.int r9)) M9) 0 0 (zA ad) := by
  refine z_enter (by decide) (by simp [lg_sl, rf_cat, cat_i, cat_l, cat_r, cat_n]) ?_
  intro p e s m args below meth c ls C hin hargs Z hl
  replace C : Cx p s m args meth c cX11_girderHolds 3 "GlassPalace" (some .boolean) := C
  replace hl : lv_has ls 3 [(0, .ref (ad 0 0)), (1, rf (ad 13) a1)] := by simpa [lv_args, rf_cat, cat_i, cat_l, cat_r, cat_n] using hl
  have hR : 5 ≤ (RM (5) 0 0).frames ∧ 40 * (5) ≤ (RM (5) 0 0).locals := ⟨Nat.le_refl _, Nat.le_refl _⟩
  have hB : 0 ≤ (RM (5) 0 0).cells ∧ 0 ≤ (RM (5) 0 0).slots := ⟨Nat.zero_le _, Nat.zero_le _⟩
  unfold f_X11_girderHolds at hf
  refine z_aload_n C dX11_girderHolds_0 rfl (lv_at hl 1 rfl) ?_
  refine lv_iconst (v := 2) C.x C.b dX11_girderHolds_1 (by decide) ?_
  replace hf := drf_s hf; obtain ⟨j1, ej3, hj2, hf⟩ := hf
  subst ej3
  refine z_nn [.int 2] (y := j1 + 1) rfl ?_
  replace hf := bn2_s hf; obtain ⟨c5, m4, hkm4, hf⟩ := hf
  refine z_cV (As := [.int 2]) (rest := []) (st1 := [rf (ad 23) c5]) C Z mw_X1_latestAt mv_X1_latestAt k_643 (by decide) (z_hR hR (by decide)) (lvC13 hj2) kC13 zc1 (c_X1_latestAt (l := l) (K := K) (ad := ad) hj2 hkm4) rfl hl.1 rfl (Nat.le_of_ble_eq_true rfl) dX11_girderHolds_2 hB rfl (fun H locs Z => ?_)
  refine z_cstore_n (lv' := [(2, rf (ad 23) c5), (0, .ref (ad 0 0)), (1, .ref (ad 13 j1))]) C dX11_girderHolds_5 rfl hl (by decide) rfl (onlast 1 rfl rfl rfl) (fun ls hl => ?_)
  refine z_aload_n C dX11_girderHolds_6 rfl (lv_at hl 0 rfl) ?_
  refine z_ifnull C dX11_girderHolds_7 (tgt := 22) (by decide) (fun hc6 => ?_) (fun hc6 => ?_)
  · replace hf := ite_t hf hc6
    refine lv_iconst (v := 1) C.x C.b dX11_girderHolds_22 (by decide) ?_
    refine lv_goto (tgt := 27) C.x C.b dX11_girderHolds_23 (by decide) ?_
    obtain ⟨rfl, rfl⟩ := pr_s hf
    exact z_zret C Z rfl dX11_girderHolds_27
  · replace hf := ite_f hf hc6
    refine lv_aload_n C.x C.b dX11_girderHolds_10 rfl (lv_at hl 1 rfl) ?_
    refine lv_aload_n C.x C.b dX11_girderHolds_11 rfl (lv_at hl 2 rfl) ?_
    replace hf := bn2_s hf; obtain ⟨v8, m7, hkm7, hf⟩ := hf
    refine z_cV (As := [.ref (ad 13 j1)]) (rest := []) (st1 := [.int v8]) C Z mw_X11_girderLoad mv_X11_girderLoad k_830 (by decide) (z_hR hR (by decide)) (lvC0 Nat.zero_lt_one) kC0 zc11 (c_X11_girderLoad (l := l) (K := K) (ad := ad) hkm7) rfl hl.1 rfl (Nat.le_of_ble_eq_true rfl) dX11_girderHolds_12 hB rfl (fun H locs Z => ?_)
    refine z_aload_n C dX11_girderHolds_15 rfl (lv_at hl 0 rfl) ?_
    replace hf := drf_s hf; obtain ⟨j9, ej11, hj10, hf⟩ := hf
    subst ej11
    refine z_nn [] (y := j9 + 1) rfl ?_
    refine z_get C Z (lvC23 hj10) kC23 zc4 zin4 4 (by decide) k_471 rfl svC23_4 dX11_girderHolds_16 ?_
    refine lv_icmp_gt (tgt := 26) C.x C.b dX11_girderHolds_19 (by decide) (fun hc12 => ?_) (fun hc12 => ?_)
    · replace hf := ite_t hf hc12
      refine lv_iconst (v := 0) C.x C.b dX11_girderHolds_26 (by decide) ?_
      obtain ⟨rfl, rfl⟩ := pr_s hf
      exact z_zret C Z rfl dX11_girderHolds_27
    · replace hf := ite_f hf hc12
      refine lv_iconst (v := 1) C.x C.b dX11_girderHolds_22 (by decide) ?_
      refine lv_goto (tgt := 27) C.x C.b dX11_girderHolds_23 (by decide) ?_
      obtain ⟨rfl, rfl⟩ := pr_s hf
      exact z_zret C Z rfl dX11_girderHolds_27
theorem dX11_columnHolds_0 : decode cX11_columnHolds 0 = .ok (.aload_n 1, 1) := by decide +kernel
theorem dX11_columnHolds_1 : decode cX11_columnHolds 1 = .ok (.iconst 1, 1) := by decide +kernel
theorem dX11_columnHolds_2 : decode cX11_columnHolds 2 = .ok (.invokevirtual 185, 3) := by decide +kernel
theorem dX11_columnHolds_5 : decode cX11_columnHolds 5 = .ok (.astore_n 2, 1) := by decide +kernel
theorem dX11_columnHolds_6 : decode cX11_columnHolds 6 = .ok (.aload_n 2, 1) := by decide +kernel
theorem dX11_columnHolds_7 : decode cX11_columnHolds 7 = .ok (.ifnull 21, 3) := by decide +kernel
theorem dX11_columnHolds_10 : decode cX11_columnHolds 10 = .ok (.aload_n 0, 1) := by decide +kernel
theorem dX11_columnHolds_11 : decode cX11_columnHolds 11 = .ok (.aload_n 1, 1) := by decide +kernel
theorem dX11_columnHolds_12 : decode cX11_columnHolds 12 = .ok (.invokevirtual 254, 3) := by decide +kernel
theorem dX11_columnHolds_15 : decode cX11_columnHolds 15 = .ok (.sipush 600, 3) := by decide +kernel
theorem dX11_columnHolds_18 : decode cX11_columnHolds 18 = .ok (.iconst 3, 1) := by decide +kernel
theorem dX11_columnHolds_19 : decode cX11_columnHolds 19 = .ok (.aload_n 2, 1) := by decide +kernel
theorem dX11_columnHolds_20 : decode cX11_columnHolds 20 = .ok (.getfield 147, 3) := by decide +kernel
theorem dX11_columnHolds_23 : decode cX11_columnHolds 23 = .ok (.imul, 1) := by decide +kernel
theorem dX11_columnHolds_24 : decode cX11_columnHolds 24 = .ok (.isub, 1) := by decide +kernel
theorem dX11_columnHolds_25 : decode cX11_columnHolds 25 = .ok (.if_icmp .gt 7, 3) := by decide +kernel
theorem dX11_columnHolds_28 : decode cX11_columnHolds 28 = .ok (.iconst 1, 1) := by decide +kernel
theorem dX11_columnHolds_29 : decode cX11_columnHolds 29 = .ok (.goto 4, 3) := by decide +kernel
theorem dX11_columnHolds_32 : decode cX11_columnHolds 32 = .ok (.iconst 0, 1) := by decide +kernel
theorem dX11_columnHolds_33 : decode cX11_columnHolds 33 = .ok (.ireturn, 1) := by decide +kernel
set_option maxRecDepth 100000 in
set_option maxHeartbeats 4000000 in
theorem c_X11_columnHolds {l : Launch} {K : KG} {ad : Nat → Nat → Nat} {fl : Nat} {a1 : Nat} {M0 : Mem} {r9 : Int32} {M9 : Mem} (hf : f_X11_columnHolds fl a1 M0 = some (r9, M9)) : Met l yX11_columnHolds (Cond.code yX11_columnHolds cX11_columnHolds 3 (some .boolean) :: ztb) (RM (6) 0 0) (zPc K LC ad M0 [.ref (ad 0 0), rf (ad 13) a1]) (zQ K LC ad (some (.int r9)) M9) 0 0 (zA ad) := by
  refine z_enter (by decide) (by simp [lg_sl, rf_cat, cat_i, cat_l, cat_r, cat_n]) ?_
  intro p e s m args below meth c ls C hin hargs Z hl
  replace C : Cx p s m args meth c cX11_columnHolds 3 "GlassPalace" (some .boolean) := C
  replace hl : lv_has ls 3 [(0, .ref (ad 0 0)), (1, rf (ad 13) a1)] := by simpa [lv_args, rf_cat, cat_i, cat_l, cat_r, cat_n] using hl
  have hR : 6 ≤ (RM (6) 0 0).frames ∧ 40 * (6) ≤ (RM (6) 0 0).locals := ⟨Nat.le_refl _, Nat.le_refl _⟩
  have hB : 0 ≤ (RM (6) 0 0).cells ∧ 0 ≤ (RM (6) 0 0).slots := ⟨Nat.zero_le _, Nat.zero_le _⟩
  unfold f_X11_columnHolds at hf
  refine z_aload_n C dX11_columnHolds_0 rfl (lv_at hl 1 rfl) ?_
  refine lv_iconst (v := 1) C.x C.b dX11_columnHolds_1 (by decide) ?_
  replace hf := drf_s hf; obtain ⟨j1, ej3, hj2, hf⟩ := hf
  subst ej3
  refine z_nn [.int 1] (y := j1 + 1) rfl ?_
  replace hf := bn2_s hf; obtain ⟨c5, m4, hkm4, hf⟩ := hf
  refine z_cV (As := [.int 1]) (rest := []) (st1 := [rf (ad 23) c5]) C Z mw_X1_latestAt mv_X1_latestAt k_643 (by decide) (z_hR hR (by decide)) (lvC13 hj2) kC13 zc1 (c_X1_latestAt (l := l) (K := K) (ad := ad) hj2 hkm4) rfl hl.1 rfl (Nat.le_of_ble_eq_true rfl) dX11_columnHolds_2 hB rfl (fun H locs Z => ?_)
  refine z_cstore_n (lv' := [(2, rf (ad 23) c5), (0, .ref (ad 0 0)), (1, .ref (ad 13 j1))]) C dX11_columnHolds_5 rfl hl (by decide) rfl (onlast 1 rfl rfl rfl) (fun ls hl => ?_)
  refine z_aload_n C dX11_columnHolds_6 rfl (lv_at hl 0 rfl) ?_
  refine z_ifnull C dX11_columnHolds_7 (tgt := 28) (by decide) (fun hc6 => ?_) (fun hc6 => ?_)
  · replace hf := ite_t hf hc6
    refine lv_iconst (v := 1) C.x C.b dX11_columnHolds_28 (by decide) ?_
    refine lv_goto (tgt := 33) C.x C.b dX11_columnHolds_29 (by decide) ?_
    obtain ⟨rfl, rfl⟩ := pr_s hf
    exact z_zret C Z rfl dX11_columnHolds_33
  · replace hf := ite_f hf hc6
    refine lv_aload_n C.x C.b dX11_columnHolds_10 rfl (lv_at hl 1 rfl) ?_
    refine lv_aload_n C.x C.b dX11_columnHolds_11 rfl (lv_at hl 2 rfl) ?_
    replace hf := bn2_s hf; obtain ⟨v8, m7, hkm7, hf⟩ := hf
    refine z_cV (As := [.ref (ad 13 j1)]) (rest := []) (st1 := [.int v8]) C Z mw_X11_columnLoad mv_X11_columnLoad k_834 (by decide) (z_hR hR (by decide)) (lvC0 Nat.zero_lt_one) kC0 zc11 (c_X11_columnLoad (l := l) (K := K) (ad := ad) hkm7) rfl hl.1 rfl (Nat.le_of_ble_eq_true rfl) dX11_columnHolds_12 hB rfl (fun H locs Z => ?_)
    refine lv_sipush (v := 600) C.x C.b dX11_columnHolds_15 (by decide) ?_
    refine lv_iconst (v := 3) C.x C.b dX11_columnHolds_18 (by decide) ?_
    refine z_aload_n C dX11_columnHolds_19 rfl (lv_at hl 0 rfl) ?_
    replace hf := drf_s hf; obtain ⟨j9, ej11, hj10, hf⟩ := hf
    subst ej11
    refine z_nn [] (y := j9 + 1) rfl ?_
    refine z_get C Z (lvC23 hj10) kC23 zc4 zin4 4 (by decide) k_471 rfl svC23_4 dX11_columnHolds_20 ?_
    refine lv_imul C.x C.b dX11_columnHolds_23 ?_
    refine lv_isub C.x C.b dX11_columnHolds_24 ?_
    refine lv_icmp_gt (tgt := 32) C.x C.b dX11_columnHolds_25 (by decide) (fun hc12 => ?_) (fun hc12 => ?_)
    · replace hf := ite_t hf hc12
      refine lv_iconst (v := 0) C.x C.b dX11_columnHolds_32 (by decide) ?_
      obtain ⟨rfl, rfl⟩ := pr_s hf
      exact z_zret C Z rfl dX11_columnHolds_33
    · replace hf := ite_f hf hc12
      refine lv_iconst (v := 1) C.x C.b dX11_columnHolds_28 (by decide) ?_
      refine lv_goto (tgt := 33) C.x C.b dX11_columnHolds_29 (by decide) ?_
      obtain ⟨rfl, rfl⟩ := pr_s hf
      exact z_zret C Z rfl dX11_columnHolds_33
