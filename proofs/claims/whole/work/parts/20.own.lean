theorem dX0_bodyAt_0 : decode cX0_bodyAt 0 = .ok (.iload_n 1, 1) := by decide +kernel
theorem dX0_bodyAt_1 : decode cX0_bodyAt 1 = .ok (.ifCond .lt 29, 3) := by decide +kernel
theorem dX0_bodyAt_4 : decode cX0_bodyAt 4 = .ok (.iload_n 1, 1) := by decide +kernel
theorem dX0_bodyAt_5 : decode cX0_bodyAt 5 = .ok (.aload_n 0, 1) := by decide +kernel
theorem dX0_bodyAt_6 : decode cX0_bodyAt 6 = .ok (.getfield 15, 3) := by decide +kernel
theorem dX0_bodyAt_9 : decode cX0_bodyAt 9 = .ok (.if_icmp .ge 21, 3) := by decide +kernel
theorem dX0_bodyAt_12 : decode cX0_bodyAt 12 = .ok (.iload_n 1, 1) := by decide +kernel
theorem dX0_bodyAt_13 : decode cX0_bodyAt 13 = .ok (.aload_n 0, 1) := by decide +kernel
theorem dX0_bodyAt_14 : decode cX0_bodyAt 14 = .ok (.getfield 9, 3) := by decide +kernel
theorem dX0_bodyAt_17 : decode cX0_bodyAt 17 = .ok (.arraylength, 1) := by decide +kernel
theorem dX0_bodyAt_18 : decode cX0_bodyAt 18 = .ok (.if_icmp .ge 12, 3) := by decide +kernel
theorem dX0_bodyAt_21 : decode cX0_bodyAt 21 = .ok (.aload_n 0, 1) := by decide +kernel
theorem dX0_bodyAt_22 : decode cX0_bodyAt 22 = .ok (.getfield 9, 3) := by decide +kernel
theorem dX0_bodyAt_25 : decode cX0_bodyAt 25 = .ok (.iload_n 1, 1) := by decide +kernel
theorem dX0_bodyAt_26 : decode cX0_bodyAt 26 = .ok (.iaload, 1) := by decide +kernel
theorem dX0_bodyAt_27 : decode cX0_bodyAt 27 = .ok (.goto 4, 3) := by decide +kernel
theorem dX0_bodyAt_30 : decode cX0_bodyAt 30 = .ok (.iconst (-1), 1) := by decide +kernel
theorem dX0_bodyAt_31 : decode cX0_bodyAt 31 = .ok (.ireturn, 1) := by decide +kernel
set_option maxRecDepth 100000 in
set_option maxHeartbeats 4000000 in
theorem c_X0_bodyAt {l : Launch} {K : KG} {ad : Nat → Nat → Nat} {fl : Nat} {a1 : Int32} {M0 : Mem} {r9 : Int32} {M9 : Mem} (hf : f_X0_bodyAt fl a1 M0 = some (r9, M9)) : Met l yX0_bodyAt (Cond.code yX0_bodyAt cX0_bodyAt 2 (some .int) :: ztb) (RM (1) 0 0) (zPc K LC ad M0 [.ref (ad 11 0), .int a1]) (zQ K LC ad (some (.int r9)) M9) 0 0 (zA ad) := by
  refine z_enter (by decide) (Nat.le_of_ble_eq_true rfl) ?_
  intro p e s m args below meth c ls C hin hargs Z hl
  replace C : Cx p s m args meth c cX0_bodyAt 2 "GlassPalace$Acts" (some .int) := C
  replace hl : lv_has ls 2 [(0, .ref (ad 11 0)), (1, .int a1)] := hl
  have hR : 1 ≤ (RM (1) 0 0).frames ∧ 40 * (1) ≤ (RM (1) 0 0).locals := ⟨Nat.le_refl _, Nat.le_refl _⟩
  have hB : 0 ≤ (RM (1) 0 0).cells ∧ 0 ≤ (RM (1) 0 0).slots := ⟨Nat.zero_le _, Nat.zero_le _⟩
  unfold f_X0_bodyAt at hf
  refine lv_iload_n C.x C.b dX0_bodyAt_0 rfl (lv_at hl 1 rfl) ?_
  refine lv_if_lt (tgt := 30) C.x C.b dX0_bodyAt_1 (by decide) (fun hc1 => ?_) (fun hc1 => ?_)
  · replace hf := ite_t hf hc1
    refine lv_iconst (v := (-1)) C.x C.b dX0_bodyAt_30 (by decide) ?_
    obtain ⟨rfl, rfl⟩ := pr_s hf
    exact z_iret C Z dX0_bodyAt_31
  · replace hf := ite_f hf hc1
    refine lv_iload_n C.x C.b dX0_bodyAt_4 rfl (lv_at hl 1 rfl) ?_
    refine lv_aload_n C.x C.b dX0_bodyAt_5 rfl (lv_at hl 0 rfl) ?_
    refine z_get C Z (lvC11 Nat.zero_lt_one) kC11 zc0 zin0 0 (by decide) k_295 rfl svC11_0 dX0_bodyAt_6 ?_
    refine lv_icmp_ge (tgt := 30) C.x C.b dX0_bodyAt_9 (by decide) (fun hc2 => ?_) (fun hc2 => ?_)
    · replace hf := ite_t hf hc2
      refine lv_iconst (v := (-1)) C.x C.b dX0_bodyAt_30 (by decide) ?_
      obtain ⟨rfl, rfl⟩ := pr_s hf
      exact z_iret C Z dX0_bodyAt_31
    · replace hf := ite_f hf hc2
      refine lv_iload_n C.x C.b dX0_bodyAt_12 rfl (lv_at hl 1 rfl) ?_
      refine lv_aload_n C.x C.b dX0_bodyAt_13 rfl (lv_at hl 0 rfl) ?_
      refine z_get C Z (lvC11 Nat.zero_lt_one) kC11 zc0 zin0 1 (by decide) k_297 rfl svC11_1 dX0_bodyAt_14 ?_
      refine z_alen C Z (lvC41 Nat.zero_lt_one) kC41 0 rfl (v := 20) (by decide) dX0_bodyAt_17 ?_
      refine lv_icmp_ge (tgt := 30) C.x C.b dX0_bodyAt_18 (by decide) (fun hc3 => ?_) (fun hc3 => ?_)
      · replace hf := ite_t hf hc3
        refine lv_iconst (v := (-1)) C.x C.b dX0_bodyAt_30 (by decide) ?_
        obtain ⟨rfl, rfl⟩ := pr_s hf
        exact z_iret C Z dX0_bodyAt_31
      · replace hf := ite_f hf hc3
        refine lv_aload_n C.x C.b dX0_bodyAt_21 rfl (lv_at hl 0 rfl) ?_
        refine z_get C Z (lvC11 Nat.zero_lt_one) kC11 zc0 zin0 1 (by decide) k_297 rfl svC11_1 dX0_bodyAt_22 ?_
        refine lv_iload_n C.x C.b dX0_bodyAt_25 rfl (lv_at hl 1 rfl) ?_
        replace hf := asr_s hf; obtain ⟨hq4, hf⟩ := hf
        refine z_iald C Z (lvC41 Nat.zero_lt_one) kC41 hq4 svC41 dX0_bodyAt_26 ?_
        refine lv_goto (tgt := 31) C.x C.b dX0_bodyAt_27 (by decide) ?_
        obtain ⟨rfl, rfl⟩ := pr_s hf
        exact z_iret C Z dX0_bodyAt_31
theorem dX0_begin_0 : decode cX0_begin 0 = .ok (.aload_n 0, 1) := by decide +kernel
theorem dX0_begin_1 : decode cX0_begin 1 = .ok (.getfield 15, 3) := by decide +kernel
theorem dX0_begin_4 : decode cX0_begin 4 = .ok (.ifCond .lt 25, 3) := by decide +kernel
theorem dX0_begin_7 : decode cX0_begin 7 = .ok (.aload_n 0, 1) := by decide +kernel
theorem dX0_begin_8 : decode cX0_begin 8 = .ok (.getfield 15, 3) := by decide +kernel
theorem dX0_begin_11 : decode cX0_begin 11 = .ok (.aload_n 0, 1) := by decide +kernel
theorem dX0_begin_12 : decode cX0_begin 12 = .ok (.getfield 9, 3) := by decide +kernel
theorem dX0_begin_15 : decode cX0_begin 15 = .ok (.arraylength, 1) := by decide +kernel
theorem dX0_begin_16 : decode cX0_begin 16 = .ok (.if_icmp .ge 13, 3) := by decide +kernel
theorem dX0_begin_19 : decode cX0_begin 19 = .ok (.aload_n 0, 1) := by decide +kernel
theorem dX0_begin_20 : decode cX0_begin 20 = .ok (.getfield 9, 3) := by decide +kernel
theorem dX0_begin_23 : decode cX0_begin 23 = .ok (.aload_n 0, 1) := by decide +kernel
theorem dX0_begin_24 : decode cX0_begin 24 = .ok (.getfield 15, 3) := by decide +kernel
theorem dX0_begin_27 : decode cX0_begin 27 = .ok (.iload_n 1, 1) := by decide +kernel
theorem dX0_begin_28 : decode cX0_begin 28 = .ok (.iastore, 1) := by decide +kernel
theorem dX0_begin_29 : decode cX0_begin 29 = .ok (.aload_n 0, 1) := by decide +kernel
theorem dX0_begin_30 : decode cX0_begin 30 = .ok (.dup, 1) := by decide +kernel
theorem dX0_begin_31 : decode cX0_begin 31 = .ok (.getfield 15, 3) := by decide +kernel
theorem dX0_begin_34 : decode cX0_begin 34 = .ok (.iconst 1, 1) := by decide +kernel
theorem dX0_begin_35 : decode cX0_begin 35 = .ok (.iadd, 1) := by decide +kernel
theorem dX0_begin_36 : decode cX0_begin 36 = .ok (.putfield 15, 3) := by decide +kernel
theorem dX0_begin_39 : decode cX0_begin 39 = .ok (.return_, 1) := by decide +kernel
set_option maxRecDepth 100000 in
set_option maxHeartbeats 4000000 in
theorem w_X0_begin_b29 {p : Program} {l : Launch} {e : Env} {s : State} {m : MethodId} {args : Array Value} {below : List Frame} {meth : Method} {c : Code} {K : KG} {ad : Nat → Nat → Nat} {fl : Nat} {H : Heap} {locs : List Loc} {ls : Array Slot} {M0 : Mem} {M9 : Mem} (C : Cx p s m args meth c cX0_begin 2 "GlassPalace$Acts" none) (hR : 1 ≤ (RM (1) 0 0).frames ∧ 40 * (1) ≤ (RM (1) 0 0).locals) (hB : 0 ≤ (RM (1) 0 0).cells ∧ 0 ≤ (RM (1) 0 0).slots) (Z : Zd K LC ad M0 s H locs) (hl : lv_has ls 2 [(0, .ref (ad 11 0))]) (hf : f_X0_begin_b29 fl  M0 = some M9) : W p l e (RM (1) 0 0) s m args below meth c H locs 0 0 (MQ below (zQ K LC ad (none) M9) args s 0 0 (zA ad)) (F0 m 29 ls []) := by
  unfold f_X0_begin_b29 at hf
  refine lv_aload_n C.x C.b dX0_begin_29 rfl (lv_at hl 0 rfl) ?_
  refine lv_dup C.x C.b dX0_begin_30 rfl ?_
  refine z_get C Z (lvC11 Nat.zero_lt_one) kC11 zc0 zin0 0 (by decide) k_295 rfl svC11_0 dX0_begin_31 ?_
  refine lv_iconst (v := 1) C.x C.b dX0_begin_34 (by decide) ?_
  refine lv_iadd C.x C.b dX0_begin_35 ?_
  replace hf := lt1_s hf; obtain ⟨m3, em3, hf⟩ := hf
  refine z_put (M1 := m3) C Z (lvC11 Nat.zero_lt_one) (by decide) kC11 zc0 zin0 tyX0_ok nmX0 0 (by decide) k_295 rfl (zUp_I em3 stC11_0u) (Or.inl rfl) rfl rfl dX0_begin_36 (fun H locs Z => ?_)
  obtain rfl := sm_s hf
  exact z_vret C Z dX0_begin_39
set_option maxRecDepth 100000 in
set_option maxHeartbeats 4000000 in
theorem c_X0_begin {l : Launch} {K : KG} {ad : Nat → Nat → Nat} {fl : Nat} {a1 : Int32} {M0 : Mem} {M9 : Mem} (hf : f_X0_begin fl a1 M0 = some M9) : Met l yX0_begin (Cond.code yX0_begin cX0_begin 2 none :: ztb) (RM (1) 0 0) (zPc K LC ad M0 [.ref (ad 11 0), .int a1]) (zQ K LC ad (none) M9) 0 0 (zA ad) := by
  refine z_enter (by decide) (Nat.le_of_ble_eq_true rfl) ?_
  intro p e s m args below meth c ls C hin hargs Z hl
  replace C : Cx p s m args meth c cX0_begin 2 "GlassPalace$Acts" none := C
  replace hl : lv_has ls 2 [(0, .ref (ad 11 0)), (1, .int a1)] := hl
  have hR : 1 ≤ (RM (1) 0 0).frames ∧ 40 * (1) ≤ (RM (1) 0 0).locals := ⟨Nat.le_refl _, Nat.le_refl _⟩
  have hB : 0 ≤ (RM (1) 0 0).cells ∧ 0 ≤ (RM (1) 0 0).slots := ⟨Nat.zero_le _, Nat.zero_le _⟩
  unfold f_X0_begin at hf
  refine lv_aload_n C.x C.b dX0_begin_0 rfl (lv_at hl 0 rfl) ?_
  refine z_get C Z (lvC11 Nat.zero_lt_one) kC11 zc0 zin0 0 (by decide) k_295 rfl svC11_0 dX0_begin_1 ?_
  replace hf := bn1_s hf; obtain ⟨m2, hq1, hf⟩ := hf
  have kq1 : ∀ (H : Heap) (locs : List Loc) (ls : Array Slot), Zd K LC ad m2 s H locs → lv_has ls 2 [(0, .ref (ad 11 0))] → W p l e (RM (1) 0 0) s m args below meth c H locs 0 0 (MQ below (zQ K LC ad (none) M9) args s 0 0 (zA ad)) (F0 m 29 ls []) := by
    intro H locs ls Z hl
    exact w_X0_begin_b29 C hR hB  Z (lv_sub hl [0] rfl) hf
  clear hf
  refine lv_if_lt (tgt := 29) C.x C.b dX0_begin_4 (by decide) (fun hc4 => ?_) (fun hc4 => ?_)
  · have hf := ite_t hq1 hc4; clear hq1
    obtain rfl := sm_s hf
    exact kq1 _ _ _ Z (lv_sub hl [0] rfl)
  · have hf := ite_f hq1 hc4; clear hq1
    refine lv_aload_n C.x C.b dX0_begin_7 rfl (lv_at hl 0 rfl) ?_
    refine z_get C Z (lvC11 Nat.zero_lt_one) kC11 zc0 zin0 0 (by decide) k_295 rfl svC11_0 dX0_begin_8 ?_
    refine lv_aload_n C.x C.b dX0_begin_11 rfl (lv_at hl 0 rfl) ?_
    refine z_get C Z (lvC11 Nat.zero_lt_one) kC11 zc0 zin0 1 (by decide) k_297 rfl svC11_1 dX0_begin_12 ?_
    refine z_alen C Z (lvC41 Nat.zero_lt_one) kC41 0 rfl (v := 20) (by decide) dX0_begin_15 ?_
    refine lv_icmp_ge (tgt := 29) C.x C.b dX0_begin_16 (by decide) (fun hc5 => ?_) (fun hc5 => ?_)
    · replace hf := ite_t hf hc5
      obtain rfl := sm_s hf
      exact kq1 _ _ _ Z (lv_sub hl [0] rfl)
    · replace hf := ite_f hf hc5
      refine lv_aload_n C.x C.b dX0_begin_19 rfl (lv_at hl 0 rfl) ?_
      refine z_get C Z (lvC11 Nat.zero_lt_one) kC11 zc0 zin0 1 (by decide) k_297 rfl svC11_1 dX0_begin_20 ?_
      refine lv_aload_n C.x C.b dX0_begin_23 rfl (lv_at hl 0 rfl) ?_
      refine z_get C Z (lvC11 Nat.zero_lt_one) kC11 zc0 zin0 0 (by decide) k_295 rfl svC11_0 dX0_begin_24 ?_
      refine lv_iload_n C.x C.b dX0_begin_27 rfl (lv_at hl 1 rfl) ?_
      replace hf := asr_s hf; obtain ⟨hq6, hf⟩ := hf
      replace hf := lt1_s hf; obtain ⟨m7, em7, hf⟩ := hf
      refine z_iast (M1 := m7) C Z (lvC41 Nat.zero_lt_one) (by decide) kC41 hq6 em7 stC41u dX0_begin_28 (fun H locs Z => ?_)
      obtain rfl := sm_s hf
      exact kq1 _ _ _ Z (lv_sub hl [0] rfl)
theorem dX0_fitsFrom_0 : decode cX0_fitsFrom 0 = .ok (.iload_n 2, 1) := by decide +kernel
theorem dX0_fitsFrom_1 : decode cX0_fitsFrom 1 = .ok (.lookupswitch 85 #[(1, 35), (3, 54), (6, 69)], 35) := by decide +kernel
theorem dX0_fitsFrom_36 : decode cX0_fitsFrom 36 = .ok (.aload_n 0, 1) := by decide +kernel
theorem dX0_fitsFrom_37 : decode cX0_fitsFrom 37 = .ok (.bipush 20, 2) := by decide +kernel
theorem dX0_fitsFrom_39 : decode cX0_fitsFrom 39 = .ok (.invokevirtual 34, 3) := by decide +kernel
theorem dX0_fitsFrom_42 : decode cX0_fitsFrom 42 = .ok (.aload_n 0, 1) := by decide +kernel
theorem dX0_fitsFrom_43 : decode cX0_fitsFrom 43 = .ok (.aload_n 1, 1) := by decide +kernel
theorem dX0_fitsFrom_44 : decode cX0_fitsFrom 44 = .ok (.iconst 0, 1) := by decide +kernel
theorem dX0_fitsFrom_45 : decode cX0_fitsFrom 45 = .ok (.iload_n 3, 1) := by decide +kernel
theorem dX0_fitsFrom_46 : decode cX0_fitsFrom 46 = .ok (.invokevirtual 24, 3) := by decide +kernel
theorem dX0_fitsFrom_49 : decode cX0_fitsFrom 49 = .ok (.aload_n 1, 1) := by decide +kernel
theorem dX0_fitsFrom_50 : decode cX0_fitsFrom 50 = .ok (.getfield 38, 3) := by decide +kernel
theorem dX0_fitsFrom_53 : decode cX0_fitsFrom 53 = .ok (.ixor, 1) := by decide +kernel
theorem dX0_fitsFrom_54 : decode cX0_fitsFrom 54 = .ok (.ireturn, 1) := by decide +kernel
theorem dX0_fitsFrom_55 : decode cX0_fitsFrom 55 = .ok (.aload_n 0, 1) := by decide +kernel
theorem dX0_fitsFrom_56 : decode cX0_fitsFrom 56 = .ok (.bipush 40, 2) := by decide +kernel
theorem dX0_fitsFrom_58 : decode cX0_fitsFrom 58 = .ok (.invokevirtual 34, 3) := by decide +kernel
theorem dX0_fitsFrom_61 : decode cX0_fitsFrom 61 = .ok (.aload_n 0, 1) := by decide +kernel
theorem dX0_fitsFrom_62 : decode cX0_fitsFrom 62 = .ok (.aload_n 1, 1) := by decide +kernel
theorem dX0_fitsFrom_63 : decode cX0_fitsFrom 63 = .ok (.iconst 0, 1) := by decide +kernel
theorem dX0_fitsFrom_64 : decode cX0_fitsFrom 64 = .ok (.iload_n 3, 1) := by decide +kernel
theorem dX0_fitsFrom_65 : decode cX0_fitsFrom 65 = .ok (.invokevirtual 24, 3) := by decide +kernel
theorem dX0_fitsFrom_68 : decode cX0_fitsFrom 68 = .ok (.ineg, 1) := by decide +kernel
theorem dX0_fitsFrom_69 : decode cX0_fitsFrom 69 = .ok (.ireturn, 1) := by decide +kernel
theorem dX0_fitsFrom_70 : decode cX0_fitsFrom 70 = .ok (.aload_n 0, 1) := by decide +kernel
theorem dX0_fitsFrom_71 : decode cX0_fitsFrom 71 = .ok (.bipush 70, 2) := by decide +kernel
theorem dX0_fitsFrom_73 : decode cX0_fitsFrom 73 = .ok (.invokevirtual 34, 3) := by decide +kernel
theorem dX0_fitsFrom_76 : decode cX0_fitsFrom 76 = .ok (.aload_n 0, 1) := by decide +kernel
theorem dX0_fitsFrom_77 : decode cX0_fitsFrom 77 = .ok (.aload_n 1, 1) := by decide +kernel
theorem dX0_fitsFrom_78 : decode cX0_fitsFrom 78 = .ok (.iconst 1, 1) := by decide +kernel
theorem dX0_fitsFrom_79 : decode cX0_fitsFrom 79 = .ok (.iload_n 3, 1) := by decide +kernel
theorem dX0_fitsFrom_80 : decode cX0_fitsFrom 80 = .ok (.iconst 2, 1) := by decide +kernel
theorem dX0_fitsFrom_81 : decode cX0_fitsFrom 81 = .ok (.isub, 1) := by decide +kernel
theorem dX0_fitsFrom_82 : decode cX0_fitsFrom 82 = .ok (.invokevirtual 24, 3) := by decide +kernel
theorem dX0_fitsFrom_85 : decode cX0_fitsFrom 85 = .ok (.ireturn, 1) := by decide +kernel
theorem dX0_fitsFrom_86 : decode cX0_fitsFrom 86 = .ok (.aload_n 0, 1) := by decide +kernel
theorem dX0_fitsFrom_87 : decode cX0_fitsFrom 87 = .ok (.bipush 10, 2) := by decide +kernel
theorem dX0_fitsFrom_89 : decode cX0_fitsFrom 89 = .ok (.invokevirtual 34, 3) := by decide +kernel
theorem dX0_fitsFrom_92 : decode cX0_fitsFrom 92 = .ok (.iload_n 3, 1) := by decide +kernel
theorem dX0_fitsFrom_93 : decode cX0_fitsFrom 93 = .ok (.aload_n 1, 1) := by decide +kernel
theorem dX0_fitsFrom_94 : decode cX0_fitsFrom 94 = .ok (.getfield 41, 3) := by decide +kernel
theorem dX0_fitsFrom_97 : decode cX0_fitsFrom 97 = .ok (.iadd, 1) := by decide +kernel
theorem dX0_fitsFrom_98 : decode cX0_fitsFrom 98 = .ok (.ireturn, 1) := by decide +kernel
set_option maxRecDepth 100000 in
set_option maxHeartbeats 4000000 in
theorem c_X0_fitsFrom {l : Launch} {K : KG} {ad : Nat → Nat → Nat} {fl : Nat} : ∀ (d : Nat) (a1 : Nat) (a2 : Int32) (a3 : Int32) (M0 : Mem) (r9 : Int32) (M9 : Mem), f_X0_fitsFrom fl d a1 a2 a3 M0 = some (r9, M9) → Met l yX0_fitsFrom (Cond.code yX0_fitsFrom cX0_fitsFrom 4 (some .int) :: ztb) (RM (4 + 2 * d) 0 0) (zPc K LC ad M0 [.ref (ad 11 0), rf (ad 23) a1, .int a2, .int a3]) (zQ K LC ad (some (.int r9)) M9) 0 0 (zA ad) := by
  intro d
  induction d with
  | zero =>
    intro a1 a2 a3 M0 r9 M9 hf
    have hf : (none : Option (Int32 × Mem)) = some (r9, M9) := hf
    cases hf
  | succ d ih =>
    intro a1 a2 a3 M0 r9 M9 hf
    replace hf : f_X0_fitsFrom_b (f_X0_fitsFrom fl d) fl a1 a2 a3 M0 = some (r9, M9) := hf
    refine z_enter (by decide) (by simp [lg_sl, rf_cat, cat_i, cat_l, cat_r, cat_n]) ?_
    intro p e s m args below meth c ls C hin hargs Z hl
    replace C : Cx p s m args meth c cX0_fitsFrom 4 "GlassPalace$Acts" (some .int) := C
    replace hl : lv_has ls 4 [(0, .ref (ad 11 0)), (1, rf (ad 23) a1), (2, .int a2), (3, .int a3)] := by simpa [lv_args, rf_cat, cat_i, cat_l, cat_r, cat_n] using hl
    have hR : 4 + 2 * (d + 1) ≤ (RM (4 + 2 * (d + 1)) 0 0).frames ∧ 40 * (4 + 2 * (d + 1)) ≤ (RM (4 + 2 * (d + 1)) 0 0).locals := ⟨Nat.le_refl _, Nat.le_refl _⟩
    have hB : 0 ≤ (RM (4 + 2 * (d + 1)) 0 0).cells ∧ 0 ≤ (RM (4 + 2 * (d + 1)) 0 0).slots := ⟨Nat.zero_le _, Nat.zero_le _⟩
    unfold f_X0_fitsFrom_b at hf
    refine lv_iload_n C.x C.b dX0_fitsFrom_0 rfl (lv_at hl 2 rfl) ?_
    by_cases hx1 : a2 = 1
    · replace hf := ite_t hf hx1
      refine lv_lookup (tgt := 36) (off := 35) C.x C.b dX0_fitsFrom_1 (by decide) (by rw [hx1]; rfl) (by decide) ?_
      refine lv_aload_n C.x C.b dX0_fitsFrom_36 rfl (lv_at hl 0 rfl) ?_
      refine lv_bipush (v := 20) C.x C.b dX0_fitsFrom_37 (by decide) ?_
      replace hf := bn1_s hf; obtain ⟨m2, hkm2, hf⟩ := hf
      refine z_cV (As := [.int 20]) (rest := []) (st1 := []) C Z mw_X0_begin mv_X0_begin k_1068 (by decide) (z_hR hR (by omega)) (lvC11 Nat.zero_lt_one) kC11 zc0 (c_X0_begin (l := l) (K := K) (ad := ad) hkm2) rfl hl.1 rfl (Nat.le_of_ble_eq_true rfl) dX0_fitsFrom_39 hB rfl (fun H locs Z => ?_)
      refine lv_aload_n C.x C.b dX0_fitsFrom_42 rfl (lv_at hl 0 rfl) ?_
      refine z_aload_n C dX0_fitsFrom_43 rfl (lv_at hl 1 rfl) ?_
      refine lv_iconst (v := 0) C.x C.b dX0_fitsFrom_44 (by decide) ?_
      refine lv_iload_n C.x C.b dX0_fitsFrom_45 rfl (lv_at hl 3 rfl) ?_
      replace hf := bn2_s hf; obtain ⟨v4, m3, hkm3, hf⟩ := hf
      refine z_cV (As := [rf (ad 23) a1, .int 0, .int a3]) (rest := []) (st1 := [.int v4]) C Z mw_X0_fitsFrom mv_X0_fitsFrom k_1064 (by decide) (z_hR hR (by omega)) (lvC11 Nat.zero_lt_one) kC11 zc0 (ih _ _ _ _ _ _ hkm3) rfl hl.1 rfl (Nat.le_of_ble_eq_true rfl) dX0_fitsFrom_46 hB rfl (fun H locs Z => ?_)
      refine z_aload_n C dX0_fitsFrom_49 rfl (lv_at hl 1 rfl) ?_
      replace hf := drf_s hf; obtain ⟨j5, ej7, hj6, hf⟩ := hf
      subst ej7
      refine z_nn [] (y := j5 + 1) rfl ?_
      refine z_get C Z (lvC23 hj6) kC23 zc4 zin4 0 (by decide) k_458 rfl svC23_0 dX0_fitsFrom_50 ?_
      refine lv_ixor C.x C.b dX0_fitsFrom_53 ?_
      obtain ⟨rfl, rfl⟩ := pr_s hf
      exact z_iret C Z dX0_fitsFrom_54
    replace hf := ite_f hf hx1
    by_cases hx8 : a2 = 3
    · replace hf := ite_t hf hx8
      refine lv_lookup (tgt := 55) (off := 54) C.x C.b dX0_fitsFrom_1 (by decide) (by rw [hx8]; rfl) (by decide) ?_
      refine lv_aload_n C.x C.b dX0_fitsFrom_55 rfl (lv_at hl 0 rfl) ?_
      refine lv_bipush (v := 40) C.x C.b dX0_fitsFrom_56 (by decide) ?_
      replace hf := bn1_s hf; obtain ⟨m9, hkm9, hf⟩ := hf
      refine z_cV (As := [.int 40]) (rest := []) (st1 := []) C Z mw_X0_begin mv_X0_begin k_1068 (by decide) (z_hR hR (by omega)) (lvC11 Nat.zero_lt_one) kC11 zc0 (c_X0_begin (l := l) (K := K) (ad := ad) hkm9) rfl hl.1 rfl (Nat.le_of_ble_eq_true rfl) dX0_fitsFrom_58 hB rfl (fun H locs Z => ?_)
      refine lv_aload_n C.x C.b dX0_fitsFrom_61 rfl (lv_at hl 0 rfl) ?_
      refine z_aload_n C dX0_fitsFrom_62 rfl (lv_at hl 1 rfl) ?_
      refine lv_iconst (v := 0) C.x C.b dX0_fitsFrom_63 (by decide) ?_
      refine lv_iload_n C.x C.b dX0_fitsFrom_64 rfl (lv_at hl 3 rfl) ?_
      replace hf := bn2_s hf; obtain ⟨v11, m10, hkm10, hf⟩ := hf
      refine z_cV (As := [rf (ad 23) a1, .int 0, .int a3]) (rest := []) (st1 := [.int v11]) C Z mw_X0_fitsFrom mv_X0_fitsFrom k_1064 (by decide) (z_hR hR (by omega)) (lvC11 Nat.zero_lt_one) kC11 zc0 (ih _ _ _ _ _ _ hkm10) rfl hl.1 rfl (Nat.le_of_ble_eq_true rfl) dX0_fitsFrom_65 hB rfl (fun H locs Z => ?_)
      refine lv_ineg C.x C.b dX0_fitsFrom_68 ?_
      obtain ⟨rfl, rfl⟩ := pr_s hf
      exact z_iret C Z dX0_fitsFrom_69
    replace hf := ite_f hf hx8
    by_cases hx12 : a2 = 6
    · replace hf := ite_t hf hx12
      refine lv_lookup (tgt := 70) (off := 69) C.x C.b dX0_fitsFrom_1 (by decide) (by rw [hx12]; rfl) (by decide) ?_
      refine lv_aload_n C.x C.b dX0_fitsFrom_70 rfl (lv_at hl 0 rfl) ?_
      refine lv_bipush (v := 70) C.x C.b dX0_fitsFrom_71 (by decide) ?_
      replace hf := bn1_s hf; obtain ⟨m13, hkm13, hf⟩ := hf
      refine z_cV (As := [.int 70]) (rest := []) (st1 := []) C Z mw_X0_begin mv_X0_begin k_1068 (by decide) (z_hR hR (by omega)) (lvC11 Nat.zero_lt_one) kC11 zc0 (c_X0_begin (l := l) (K := K) (ad := ad) hkm13) rfl hl.1 rfl (Nat.le_of_ble_eq_true rfl) dX0_fitsFrom_73 hB rfl (fun H locs Z => ?_)
      refine lv_aload_n C.x C.b dX0_fitsFrom_76 rfl (lv_at hl 0 rfl) ?_
      refine z_aload_n C dX0_fitsFrom_77 rfl (lv_at hl 1 rfl) ?_
      refine lv_iconst (v := 1) C.x C.b dX0_fitsFrom_78 (by decide) ?_
      refine lv_iload_n C.x C.b dX0_fitsFrom_79 rfl (lv_at hl 3 rfl) ?_
      refine lv_iconst (v := 2) C.x C.b dX0_fitsFrom_80 (by decide) ?_
      refine lv_isub C.x C.b dX0_fitsFrom_81 ?_
      replace hf := bn2_s hf; obtain ⟨v15, m14, hkm14, hf⟩ := hf
      refine z_cV (As := [rf (ad 23) a1, .int 1, .int (a3 - 2)]) (rest := []) (st1 := [.int v15]) C Z mw_X0_fitsFrom mv_X0_fitsFrom k_1064 (by decide) (z_hR hR (by omega)) (lvC11 Nat.zero_lt_one) kC11 zc0 (ih _ _ _ _ _ _ hkm14) rfl hl.1 rfl (Nat.le_of_ble_eq_true rfl) dX0_fitsFrom_82 hB rfl (fun H locs Z => ?_)
      obtain ⟨rfl, rfl⟩ := pr_s hf
      exact z_iret C Z dX0_fitsFrom_85
    replace hf := ite_f hf hx12
    refine lv_lookup (tgt := 86) (off := 85) C.x C.b dX0_fitsFrom_1 (by decide) (by show Op.lookupswitch.offset [(1, 35), (3, 54), (6, 69)] 85 _ = 85; rw [lv_osw (a := 1) hx1 (by decide), lv_osw (a := 3) hx8 (by decide), lv_osw (a := 6) hx12 (by decide)]; rfl) (by decide) ?_
    refine lv_aload_n C.x C.b dX0_fitsFrom_86 rfl (lv_at hl 0 rfl) ?_
    refine lv_bipush (v := 10) C.x C.b dX0_fitsFrom_87 (by decide) ?_
    replace hf := bn1_s hf; obtain ⟨m16, hkm16, hf⟩ := hf
    refine z_cV (As := [.int 10]) (rest := []) (st1 := []) C Z mw_X0_begin mv_X0_begin k_1068 (by decide) (z_hR hR (by omega)) (lvC11 Nat.zero_lt_one) kC11 zc0 (c_X0_begin (l := l) (K := K) (ad := ad) hkm16) rfl hl.1 rfl (Nat.le_of_ble_eq_true rfl) dX0_fitsFrom_89 hB rfl (fun H locs Z => ?_)
    refine lv_iload_n C.x C.b dX0_fitsFrom_92 rfl (lv_at hl 3 rfl) ?_
    refine z_aload_n C dX0_fitsFrom_93 rfl (lv_at hl 1 rfl) ?_
    replace hf := drf_s hf; obtain ⟨j17, ej19, hj18, hf⟩ := hf
    subst ej19
    refine z_nn [] (y := j17 + 1) rfl ?_
    refine z_get C Z (lvC23 hj18) kC23 zc4 zin4 4 (by decide) k_470 rfl svC23_4 dX0_fitsFrom_94 ?_
    refine lv_iadd C.x C.b dX0_fitsFrom_97 ?_
    obtain ⟨rfl, rfl⟩ := pr_s hf
    exact z_iret C Z dX0_fitsFrom_98
theorem dX0_bearsFrom_0 : decode cX0_bearsFrom 0 = .ok (.iload_n 2, 1) := by decide +kernel
theorem dX0_bearsFrom_1 : decode cX0_bearsFrom 1 = .ok (.tableswitch 89 2 6 #[35, 89, 51, 89, 73], 35) := by decide +kernel
theorem dX0_bearsFrom_36 : decode cX0_bearsFrom 36 = .ok (.aload_n 0, 1) := by decide +kernel
theorem dX0_bearsFrom_37 : decode cX0_bearsFrom 37 = .ok (.bipush 30, 2) := by decide +kernel
theorem dX0_bearsFrom_39 : decode cX0_bearsFrom 39 = .ok (.invokevirtual 34, 3) := by decide +kernel
theorem dX0_bearsFrom_42 : decode cX0_bearsFrom 42 = .ok (.aload_n 0, 1) := by decide +kernel
theorem dX0_bearsFrom_43 : decode cX0_bearsFrom 43 = .ok (.aload_n 1, 1) := by decide +kernel
theorem dX0_bearsFrom_44 : decode cX0_bearsFrom 44 = .ok (.iconst 0, 1) := by decide +kernel
theorem dX0_bearsFrom_45 : decode cX0_bearsFrom 45 = .ok (.iload_n 3, 1) := by decide +kernel
theorem dX0_bearsFrom_46 : decode cX0_bearsFrom 46 = .ok (.iconst 3, 1) := by decide +kernel
theorem dX0_bearsFrom_47 : decode cX0_bearsFrom 47 = .ok (.imul, 1) := by decide +kernel
theorem dX0_bearsFrom_48 : decode cX0_bearsFrom 48 = .ok (.invokevirtual 28, 3) := by decide +kernel
theorem dX0_bearsFrom_51 : decode cX0_bearsFrom 51 = .ok (.ireturn, 1) := by decide +kernel
theorem dX0_bearsFrom_52 : decode cX0_bearsFrom 52 = .ok (.aload_n 0, 1) := by decide +kernel
theorem dX0_bearsFrom_53 : decode cX0_bearsFrom 53 = .ok (.bipush 50, 2) := by decide +kernel
theorem dX0_bearsFrom_55 : decode cX0_bearsFrom 55 = .ok (.invokevirtual 34, 3) := by decide +kernel
theorem dX0_bearsFrom_58 : decode cX0_bearsFrom 58 = .ok (.aload_n 0, 1) := by decide +kernel
theorem dX0_bearsFrom_59 : decode cX0_bearsFrom 59 = .ok (.aload_n 1, 1) := by decide +kernel
theorem dX0_bearsFrom_60 : decode cX0_bearsFrom 60 = .ok (.iconst 0, 1) := by decide +kernel
theorem dX0_bearsFrom_61 : decode cX0_bearsFrom 61 = .ok (.iload_n 3, 1) := by decide +kernel
theorem dX0_bearsFrom_62 : decode cX0_bearsFrom 62 = .ok (.invokevirtual 28, 3) := by decide +kernel
theorem dX0_bearsFrom_65 : decode cX0_bearsFrom 65 = .ok (.aload_n 0, 1) := by decide +kernel
theorem dX0_bearsFrom_66 : decode cX0_bearsFrom 66 = .ok (.aload_n 1, 1) := by decide +kernel
theorem dX0_bearsFrom_67 : decode cX0_bearsFrom 67 = .ok (.iconst 0, 1) := by decide +kernel
theorem dX0_bearsFrom_68 : decode cX0_bearsFrom 68 = .ok (.iconst 2, 1) := by decide +kernel
theorem dX0_bearsFrom_69 : decode cX0_bearsFrom 69 = .ok (.invokevirtual 24, 3) := by decide +kernel
theorem dX0_bearsFrom_72 : decode cX0_bearsFrom 72 = .ok (.iadd, 1) := by decide +kernel
theorem dX0_bearsFrom_73 : decode cX0_bearsFrom 73 = .ok (.ireturn, 1) := by decide +kernel
theorem dX0_bearsFrom_74 : decode cX0_bearsFrom 74 = .ok (.aload_n 0, 1) := by decide +kernel
theorem dX0_bearsFrom_75 : decode cX0_bearsFrom 75 = .ok (.bipush 71, 2) := by decide +kernel
theorem dX0_bearsFrom_77 : decode cX0_bearsFrom 77 = .ok (.invokevirtual 34, 3) := by decide +kernel
theorem dX0_bearsFrom_80 : decode cX0_bearsFrom 80 = .ok (.aload_n 0, 1) := by decide +kernel
theorem dX0_bearsFrom_81 : decode cX0_bearsFrom 81 = .ok (.aload_n 1, 1) := by decide +kernel
theorem dX0_bearsFrom_82 : decode cX0_bearsFrom 82 = .ok (.iconst 0, 1) := by decide +kernel
theorem dX0_bearsFrom_83 : decode cX0_bearsFrom 83 = .ok (.iload_n 3, 1) := by decide +kernel
theorem dX0_bearsFrom_84 : decode cX0_bearsFrom 84 = .ok (.invokevirtual 28, 3) := by decide +kernel
theorem dX0_bearsFrom_87 : decode cX0_bearsFrom 87 = .ok (.iconst 5, 1) := by decide +kernel
theorem dX0_bearsFrom_88 : decode cX0_bearsFrom 88 = .ok (.imul, 1) := by decide +kernel
theorem dX0_bearsFrom_89 : decode cX0_bearsFrom 89 = .ok (.ireturn, 1) := by decide +kernel
theorem dX0_bearsFrom_90 : decode cX0_bearsFrom 90 = .ok (.aload_n 0, 1) := by decide +kernel
theorem dX0_bearsFrom_91 : decode cX0_bearsFrom 91 = .ok (.bipush 11, 2) := by decide +kernel
theorem dX0_bearsFrom_93 : decode cX0_bearsFrom 93 = .ok (.invokevirtual 34, 3) := by decide +kernel
theorem dX0_bearsFrom_96 : decode cX0_bearsFrom 96 = .ok (.aload_n 0, 1) := by decide +kernel
theorem dX0_bearsFrom_97 : decode cX0_bearsFrom 97 = .ok (.aload_n 1, 1) := by decide +kernel
theorem dX0_bearsFrom_98 : decode cX0_bearsFrom 98 = .ok (.aload_n 1, 1) := by decide +kernel
theorem dX0_bearsFrom_99 : decode cX0_bearsFrom 99 = .ok (.getfield 19, 3) := by decide +kernel
theorem dX0_bearsFrom_102 : decode cX0_bearsFrom 102 = .ok (.iload_n 3, 1) := by decide +kernel
theorem dX0_bearsFrom_103 : decode cX0_bearsFrom 103 = .ok (.invokevirtual 24, 3) := by decide +kernel
theorem dX0_bearsFrom_106 : decode cX0_bearsFrom 106 = .ok (.aload_n 1, 1) := by decide +kernel
theorem dX0_bearsFrom_107 : decode cX0_bearsFrom 107 = .ok (.getfield 44, 3) := by decide +kernel
theorem dX0_bearsFrom_110 : decode cX0_bearsFrom 110 = .ok (.isub, 1) := by decide +kernel
theorem dX0_bearsFrom_111 : decode cX0_bearsFrom 111 = .ok (.ireturn, 1) := by decide +kernel
set_option maxRecDepth 100000 in
set_option maxHeartbeats 4000000 in
theorem c_X0_bearsFrom {l : Launch} {K : KG} {ad : Nat → Nat → Nat} {fl : Nat} : ∀ (d : Nat) (a1 : Nat) (a2 : Int32) (a3 : Int32) (M0 : Mem) (r9 : Int32) (M9 : Mem), f_X0_bearsFrom fl d a1 a2 a3 M0 = some (r9, M9) → Met l yX0_bearsFrom (Cond.code yX0_bearsFrom cX0_bearsFrom 4 (some .int) :: ztb) (RM (23 + 2 * d) 0 0) (zPc K LC ad M0 [.ref (ad 11 0), rf (ad 23) a1, .int a2, .int a3]) (zQ K LC ad (some (.int r9)) M9) 0 0 (zA ad) := by
  intro d
  induction d with
  | zero =>
    intro a1 a2 a3 M0 r9 M9 hf
    have hf : (none : Option (Int32 × Mem)) = some (r9, M9) := hf
    cases hf
  | succ d ih =>
    intro a1 a2 a3 M0 r9 M9 hf
    replace hf : f_X0_bearsFrom_b (f_X0_bearsFrom fl d) fl a1 a2 a3 M0 = some (r9, M9) := hf
    refine z_enter (by decide) (by simp [lg_sl, rf_cat, cat_i, cat_l, cat_r, cat_n]) ?_
    intro p e s m args below meth c ls C hin hargs Z hl
    replace C : Cx p s m args meth c cX0_bearsFrom 4 "GlassPalace$Acts" (some .int) := C
    replace hl : lv_has ls 4 [(0, .ref (ad 11 0)), (1, rf (ad 23) a1), (2, .int a2), (3, .int a3)] := by simpa [lv_args, rf_cat, cat_i, cat_l, cat_r, cat_n] using hl
    have hR : 23 + 2 * (d + 1) ≤ (RM (23 + 2 * (d + 1)) 0 0).frames ∧ 40 * (23 + 2 * (d + 1)) ≤ (RM (23 + 2 * (d + 1)) 0 0).locals := ⟨Nat.le_refl _, Nat.le_refl _⟩
    have hB : 0 ≤ (RM (23 + 2 * (d + 1)) 0 0).cells ∧ 0 ≤ (RM (23 + 2 * (d + 1)) 0 0).slots := ⟨Nat.zero_le _, Nat.zero_le _⟩
    unfold f_X0_bearsFrom_b at hf
    refine lv_iload_n C.x C.b dX0_bearsFrom_0 rfl (lv_at hl 2 rfl) ?_
    by_cases hx1 : a2 = 2
    · replace hf := ite_t hf hx1
      refine lv_tableIn (tgt := 36) C.x C.b dX0_bearsFrom_1 (by rw [hx1]; decide) (by rw [hx1]; decide) (by rw [hx1]; rfl) (by decide) ?_
      refine lv_aload_n C.x C.b dX0_bearsFrom_36 rfl (lv_at hl 0 rfl) ?_
      refine lv_bipush (v := 30) C.x C.b dX0_bearsFrom_37 (by decide) ?_
      replace hf := bn1_s hf; obtain ⟨m2, hkm2, hf⟩ := hf
      refine z_cV (As := [.int 30]) (rest := []) (st1 := []) C Z mw_X0_begin mv_X0_begin k_1068 (by decide) (z_hR hR (by omega)) (lvC11 Nat.zero_lt_one) kC11 zc0 (c_X0_begin (l := l) (K := K) (ad := ad) hkm2) rfl hl.1 rfl (Nat.le_of_ble_eq_true rfl) dX0_bearsFrom_39 hB rfl (fun H locs Z => ?_)
      refine lv_aload_n C.x C.b dX0_bearsFrom_42 rfl (lv_at hl 0 rfl) ?_
      refine z_aload_n C dX0_bearsFrom_43 rfl (lv_at hl 1 rfl) ?_
      refine lv_iconst (v := 0) C.x C.b dX0_bearsFrom_44 (by decide) ?_
      refine lv_iload_n C.x C.b dX0_bearsFrom_45 rfl (lv_at hl 3 rfl) ?_
      refine lv_iconst (v := 3) C.x C.b dX0_bearsFrom_46 (by decide) ?_
      refine lv_imul C.x C.b dX0_bearsFrom_47 ?_
      replace hf := bn2_s hf; obtain ⟨v4, m3, hkm3, hf⟩ := hf
      refine z_cV (As := [rf (ad 23) a1, .int 0, .int (a3 * 3)]) (rest := []) (st1 := [.int v4]) C Z mw_X0_bearsFrom mv_X0_bearsFrom k_1072 (by decide) (z_hR hR (by omega)) (lvC11 Nat.zero_lt_one) kC11 zc0 (ih _ _ _ _ _ _ hkm3) rfl hl.1 rfl (Nat.le_of_ble_eq_true rfl) dX0_bearsFrom_48 hB rfl (fun H locs Z => ?_)
      obtain ⟨rfl, rfl⟩ := pr_s hf
      exact z_iret C Z dX0_bearsFrom_51
    replace hf := ite_f hf hx1
    by_cases hx5 : a2 = 3
    · replace hf := ite_t hf hx5
      refine lv_tableIn (tgt := 90) C.x C.b dX0_bearsFrom_1 (by rw [hx5]; decide) (by rw [hx5]; decide) (by rw [hx5]; rfl) (by decide) ?_
      refine lv_aload_n C.x C.b dX0_bearsFrom_90 rfl (lv_at hl 0 rfl) ?_
      refine lv_bipush (v := 11) C.x C.b dX0_bearsFrom_91 (by decide) ?_
      replace hf := bn1_s hf; obtain ⟨m6, hkm6, hf⟩ := hf
      refine z_cV (As := [.int 11]) (rest := []) (st1 := []) C Z mw_X0_begin mv_X0_begin k_1068 (by decide) (z_hR hR (by omega)) (lvC11 Nat.zero_lt_one) kC11 zc0 (c_X0_begin (l := l) (K := K) (ad := ad) hkm6) rfl hl.1 rfl (Nat.le_of_ble_eq_true rfl) dX0_bearsFrom_93 hB rfl (fun H locs Z => ?_)
      refine lv_aload_n C.x C.b dX0_bearsFrom_96 rfl (lv_at hl 0 rfl) ?_
      refine z_aload_n C dX0_bearsFrom_97 rfl (lv_at hl 1 rfl) ?_
      refine z_aload_n C dX0_bearsFrom_98 rfl (lv_at hl 1 rfl) ?_
      replace hf := drf_s hf; obtain ⟨j7, ej9, hj8, hf⟩ := hf
      subst ej9
      refine z_nn [] (y := j7 + 1) rfl ?_
      refine z_get C Z (lvC23 hj8) kC23 zc4 zin4 1 (by decide) k_461 rfl svC23_1 dX0_bearsFrom_99 ?_
      refine lv_iload_n C.x C.b dX0_bearsFrom_102 rfl (lv_at hl 3 rfl) ?_
      replace hf := bn2_s hf; obtain ⟨v11, m10, hkm10, hf⟩ := hf
      refine z_cV (As := [.ref (ad 23 j7), .int (gI m6 23 j7 1), .int a3]) (rest := []) (st1 := [.int v11]) C Z mw_X0_fitsFrom mv_X0_fitsFrom k_1064 (by decide) (z_hR hR (by omega)) (lvC11 Nat.zero_lt_one) kC11 zc0 (c_X0_fitsFrom (l := l) (K := K) (ad := ad) 8 _ _ _ _ _ _ hkm10) rfl hl.1 rfl (Nat.le_of_ble_eq_true rfl) dX0_bearsFrom_103 hB rfl (fun H locs Z => ?_)
      refine lv_aload_n C.x C.b dX0_bearsFrom_106 rfl (lv_at hl 1 rfl) ?_
      replace hf := asr_s hf; obtain ⟨hq12, hf⟩ := hf
      refine z_get C Z (lvC23 hq12) kC23 zc4 zin4 2 (by decide) k_464 rfl svC23_2 dX0_bearsFrom_107 ?_
      refine lv_isub C.x C.b dX0_bearsFrom_110 ?_
      obtain ⟨rfl, rfl⟩ := pr_s hf
      exact z_iret C Z dX0_bearsFrom_111
    replace hf := ite_f hf hx5
    by_cases hx13 : a2 = 4
    · replace hf := ite_t hf hx13
      refine lv_tableIn (tgt := 52) C.x C.b dX0_bearsFrom_1 (by rw [hx13]; decide) (by rw [hx13]; decide) (by rw [hx13]; rfl) (by decide) ?_
      refine lv_aload_n C.x C.b dX0_bearsFrom_52 rfl (lv_at hl 0 rfl) ?_
      refine lv_bipush (v := 50) C.x C.b dX0_bearsFrom_53 (by decide) ?_
      replace hf := bn1_s hf; obtain ⟨m14, hkm14, hf⟩ := hf
      refine z_cV (As := [.int 50]) (rest := []) (st1 := []) C Z mw_X0_begin mv_X0_begin k_1068 (by decide) (z_hR hR (by omega)) (lvC11 Nat.zero_lt_one) kC11 zc0 (c_X0_begin (l := l) (K := K) (ad := ad) hkm14) rfl hl.1 rfl (Nat.le_of_ble_eq_true rfl) dX0_bearsFrom_55 hB rfl (fun H locs Z => ?_)
      refine lv_aload_n C.x C.b dX0_bearsFrom_58 rfl (lv_at hl 0 rfl) ?_
      refine z_aload_n C dX0_bearsFrom_59 rfl (lv_at hl 1 rfl) ?_
      refine lv_iconst (v := 0) C.x C.b dX0_bearsFrom_60 (by decide) ?_
      refine lv_iload_n C.x C.b dX0_bearsFrom_61 rfl (lv_at hl 3 rfl) ?_
      replace hf := bn2_s hf; obtain ⟨v16, m15, hkm15, hf⟩ := hf
      refine z_cV (As := [rf (ad 23) a1, .int 0, .int a3]) (rest := []) (st1 := [.int v16]) C Z mw_X0_bearsFrom mv_X0_bearsFrom k_1072 (by decide) (z_hR hR (by omega)) (lvC11 Nat.zero_lt_one) kC11 zc0 (ih _ _ _ _ _ _ hkm15) rfl hl.1 rfl (Nat.le_of_ble_eq_true rfl) dX0_bearsFrom_62 hB rfl (fun H locs Z => ?_)
      refine lv_aload_n C.x C.b dX0_bearsFrom_65 rfl (lv_at hl 0 rfl) ?_
      refine z_aload_n C dX0_bearsFrom_66 rfl (lv_at hl 1 rfl) ?_
      refine lv_iconst (v := 0) C.x C.b dX0_bearsFrom_67 (by decide) ?_
      refine lv_iconst (v := 2) C.x C.b dX0_bearsFrom_68 (by decide) ?_
      replace hf := bn2_s hf; obtain ⟨v18, m17, hkm17, hf⟩ := hf
      refine z_cV (As := [rf (ad 23) a1, .int 0, .int 2]) (rest := [.int v16]) (st1 := [.int v18, .int v16]) C Z mw_X0_fitsFrom mv_X0_fitsFrom k_1064 (by decide) (z_hR hR (by omega)) (lvC11 Nat.zero_lt_one) kC11 zc0 (c_X0_fitsFrom (l := l) (K := K) (ad := ad) 8 _ _ _ _ _ _ hkm17) rfl hl.1 rfl (Nat.le_of_ble_eq_true rfl) dX0_bearsFrom_69 hB rfl (fun H locs Z => ?_)
      refine lv_iadd C.x C.b dX0_bearsFrom_72 ?_
      obtain ⟨rfl, rfl⟩ := pr_s hf
      exact z_iret C Z dX0_bearsFrom_73
    replace hf := ite_f hf hx13
    by_cases hx19 : a2 = 5
    · replace hf := ite_t hf hx19
      refine lv_tableIn (tgt := 90) C.x C.b dX0_bearsFrom_1 (by rw [hx19]; decide) (by rw [hx19]; decide) (by rw [hx19]; rfl) (by decide) ?_
      refine lv_aload_n C.x C.b dX0_bearsFrom_90 rfl (lv_at hl 0 rfl) ?_
      refine lv_bipush (v := 11) C.x C.b dX0_bearsFrom_91 (by decide) ?_
      replace hf := bn1_s hf; obtain ⟨m20, hkm20, hf⟩ := hf
      refine z_cV (As := [.int 11]) (rest := []) (st1 := []) C Z mw_X0_begin mv_X0_begin k_1068 (by decide) (z_hR hR (by omega)) (lvC11 Nat.zero_lt_one) kC11 zc0 (c_X0_begin (l := l) (K := K) (ad := ad) hkm20) rfl hl.1 rfl (Nat.le_of_ble_eq_true rfl) dX0_bearsFrom_93 hB rfl (fun H locs Z => ?_)
      refine lv_aload_n C.x C.b dX0_bearsFrom_96 rfl (lv_at hl 0 rfl) ?_
      refine z_aload_n C dX0_bearsFrom_97 rfl (lv_at hl 1 rfl) ?_
      refine z_aload_n C dX0_bearsFrom_98 rfl (lv_at hl 1 rfl) ?_
      replace hf := drf_s hf; obtain ⟨j21, ej23, hj22, hf⟩ := hf
      subst ej23
      refine z_nn [] (y := j21 + 1) rfl ?_
      refine z_get C Z (lvC23 hj22) kC23 zc4 zin4 1 (by decide) k_461 rfl svC23_1 dX0_bearsFrom_99 ?_
      refine lv_iload_n C.x C.b dX0_bearsFrom_102 rfl (lv_at hl 3 rfl) ?_
      replace hf := bn2_s hf; obtain ⟨v25, m24, hkm24, hf⟩ := hf
      refine z_cV (As := [.ref (ad 23 j21), .int (gI m20 23 j21 1), .int a3]) (rest := []) (st1 := [.int v25]) C Z mw_X0_fitsFrom mv_X0_fitsFrom k_1064 (by decide) (z_hR hR (by omega)) (lvC11 Nat.zero_lt_one) kC11 zc0 (c_X0_fitsFrom (l := l) (K := K) (ad := ad) 8 _ _ _ _ _ _ hkm24) rfl hl.1 rfl (Nat.le_of_ble_eq_true rfl) dX0_bearsFrom_103 hB rfl (fun H locs Z => ?_)
      refine lv_aload_n C.x C.b dX0_bearsFrom_106 rfl (lv_at hl 1 rfl) ?_
      replace hf := asr_s hf; obtain ⟨hq26, hf⟩ := hf
      refine z_get C Z (lvC23 hq26) kC23 zc4 zin4 2 (by decide) k_464 rfl svC23_2 dX0_bearsFrom_107 ?_
      refine lv_isub C.x C.b dX0_bearsFrom_110 ?_
      obtain ⟨rfl, rfl⟩ := pr_s hf
      exact z_iret C Z dX0_bearsFrom_111
    replace hf := ite_f hf hx19
    by_cases hx27 : a2 = 6
    · replace hf := ite_t hf hx27
      refine lv_tableIn (tgt := 74) C.x C.b dX0_bearsFrom_1 (by rw [hx27]; decide) (by rw [hx27]; decide) (by rw [hx27]; rfl) (by decide) ?_
      refine lv_aload_n C.x C.b dX0_bearsFrom_74 rfl (lv_at hl 0 rfl) ?_
      refine lv_bipush (v := 71) C.x C.b dX0_bearsFrom_75 (by decide) ?_
      replace hf := bn1_s hf; obtain ⟨m28, hkm28, hf⟩ := hf
      refine z_cV (As := [.int 71]) (rest := []) (st1 := []) C Z mw_X0_begin mv_X0_begin k_1068 (by decide) (z_hR hR (by omega)) (lvC11 Nat.zero_lt_one) kC11 zc0 (c_X0_begin (l := l) (K := K) (ad := ad) hkm28) rfl hl.1 rfl (Nat.le_of_ble_eq_true rfl) dX0_bearsFrom_77 hB rfl (fun H locs Z => ?_)
      refine lv_aload_n C.x C.b dX0_bearsFrom_80 rfl (lv_at hl 0 rfl) ?_
      refine z_aload_n C dX0_bearsFrom_81 rfl (lv_at hl 1 rfl) ?_
      refine lv_iconst (v := 0) C.x C.b dX0_bearsFrom_82 (by decide) ?_
      refine lv_iload_n C.x C.b dX0_bearsFrom_83 rfl (lv_at hl 3 rfl) ?_
      replace hf := bn2_s hf; obtain ⟨v30, m29, hkm29, hf⟩ := hf
      refine z_cV (As := [rf (ad 23) a1, .int 0, .int a3]) (rest := []) (st1 := [.int v30]) C Z mw_X0_bearsFrom mv_X0_bearsFrom k_1072 (by decide) (z_hR hR (by omega)) (lvC11 Nat.zero_lt_one) kC11 zc0 (ih _ _ _ _ _ _ hkm29) rfl hl.1 rfl (Nat.le_of_ble_eq_true rfl) dX0_bearsFrom_84 hB rfl (fun H locs Z => ?_)
      refine lv_iconst (v := 5) C.x C.b dX0_bearsFrom_87 (by decide) ?_
      refine lv_imul C.x C.b dX0_bearsFrom_88 ?_
      obtain ⟨rfl, rfl⟩ := pr_s hf
      exact z_iret C Z dX0_bearsFrom_89
    replace hf := ite_f hf hx27
    refine lv_tableOut (tgt := 90) C.x C.b dX0_bearsFrom_1 (tab_out (fun k h1 h2 => by rcases (show k = 2 ∨ k = 3 ∨ k = 4 ∨ k = 5 ∨ k = 6 by omega) with rfl | rfl | rfl | rfl | rfl <;> assumption)) (by decide) ?_
    refine lv_aload_n C.x C.b dX0_bearsFrom_90 rfl (lv_at hl 0 rfl) ?_
    refine lv_bipush (v := 11) C.x C.b dX0_bearsFrom_91 (by decide) ?_
    replace hf := bn1_s hf; obtain ⟨m31, hkm31, hf⟩ := hf
    refine z_cV (As := [.int 11]) (rest := []) (st1 := []) C Z mw_X0_begin mv_X0_begin k_1068 (by decide) (z_hR hR (by omega)) (lvC11 Nat.zero_lt_one) kC11 zc0 (c_X0_begin (l := l) (K := K) (ad := ad) hkm31) rfl hl.1 rfl (Nat.le_of_ble_eq_true rfl) dX0_bearsFrom_93 hB rfl (fun H locs Z => ?_)
    refine lv_aload_n C.x C.b dX0_bearsFrom_96 rfl (lv_at hl 0 rfl) ?_
    refine z_aload_n C dX0_bearsFrom_97 rfl (lv_at hl 1 rfl) ?_
    refine z_aload_n C dX0_bearsFrom_98 rfl (lv_at hl 1 rfl) ?_
    replace hf := drf_s hf; obtain ⟨j32, ej34, hj33, hf⟩ := hf
    subst ej34
    refine z_nn [] (y := j32 + 1) rfl ?_
    refine z_get C Z (lvC23 hj33) kC23 zc4 zin4 1 (by decide) k_461 rfl svC23_1 dX0_bearsFrom_99 ?_
    refine lv_iload_n C.x C.b dX0_bearsFrom_102 rfl (lv_at hl 3 rfl) ?_
    replace hf := bn2_s hf; obtain ⟨v36, m35, hkm35, hf⟩ := hf
    refine z_cV (As := [.ref (ad 23 j32), .int (gI m31 23 j32 1), .int a3]) (rest := []) (st1 := [.int v36]) C Z mw_X0_fitsFrom mv_X0_fitsFrom k_1064 (by decide) (z_hR hR (by omega)) (lvC11 Nat.zero_lt_one) kC11 zc0 (c_X0_fitsFrom (l := l) (K := K) (ad := ad) 8 _ _ _ _ _ _ hkm35) rfl hl.1 rfl (Nat.le_of_ble_eq_true rfl) dX0_bearsFrom_103 hB rfl (fun H locs Z => ?_)
    refine lv_aload_n C.x C.b dX0_bearsFrom_106 rfl (lv_at hl 1 rfl) ?_
    replace hf := asr_s hf; obtain ⟨hq37, hf⟩ := hf
    refine z_get C Z (lvC23 hq37) kC23 zc4 zin4 2 (by decide) k_464 rfl svC23_2 dX0_bearsFrom_107 ?_
    refine lv_isub C.x C.b dX0_bearsFrom_110 ?_
    obtain ⟨rfl, rfl⟩ := pr_s hf
    exact z_iret C Z dX0_bearsFrom_111
theorem dX0_endsFrom_0 : decode cX0_endsFrom 0 = .ok (.iload_n 2, 1) := by decide +kernel
theorem dX0_endsFrom_1 : decode cX0_endsFrom 1 = .ok (.lookupswitch 85 #[(1, 35), (5, 60), (6, 35)], 35) := by decide +kernel
theorem dX0_endsFrom_36 : decode cX0_endsFrom 36 = .ok (.aload_n 0, 1) := by decide +kernel
theorem dX0_endsFrom_37 : decode cX0_endsFrom 37 = .ok (.bipush 21, 2) := by decide +kernel
theorem dX0_endsFrom_39 : decode cX0_endsFrom 39 = .ok (.invokevirtual 34, 3) := by decide +kernel
theorem dX0_endsFrom_42 : decode cX0_endsFrom 42 = .ok (.aload_n 0, 1) := by decide +kernel
theorem dX0_endsFrom_43 : decode cX0_endsFrom 43 = .ok (.aload_n 1, 1) := by decide +kernel
theorem dX0_endsFrom_44 : decode cX0_endsFrom 44 = .ok (.iconst 0, 1) := by decide +kernel
theorem dX0_endsFrom_45 : decode cX0_endsFrom 45 = .ok (.iload_n 3, 1) := by decide +kernel
theorem dX0_endsFrom_46 : decode cX0_endsFrom 46 = .ok (.invokevirtual 31, 3) := by decide +kernel
theorem dX0_endsFrom_49 : decode cX0_endsFrom 49 = .ok (.aload_n 0, 1) := by decide +kernel
theorem dX0_endsFrom_50 : decode cX0_endsFrom 50 = .ok (.aload_n 1, 1) := by decide +kernel
theorem dX0_endsFrom_51 : decode cX0_endsFrom 51 = .ok (.aload_n 1, 1) := by decide +kernel
theorem dX0_endsFrom_52 : decode cX0_endsFrom 52 = .ok (.getfield 19, 3) := by decide +kernel
theorem dX0_endsFrom_55 : decode cX0_endsFrom 55 = .ok (.iconst 1, 1) := by decide +kernel
theorem dX0_endsFrom_56 : decode cX0_endsFrom 56 = .ok (.invokevirtual 24, 3) := by decide +kernel
theorem dX0_endsFrom_59 : decode cX0_endsFrom 59 = .ok (.iadd, 1) := by decide +kernel
theorem dX0_endsFrom_60 : decode cX0_endsFrom 60 = .ok (.ireturn, 1) := by decide +kernel
theorem dX0_endsFrom_61 : decode cX0_endsFrom 61 = .ok (.aload_n 0, 1) := by decide +kernel
theorem dX0_endsFrom_62 : decode cX0_endsFrom 62 = .ok (.bipush 60, 2) := by decide +kernel
theorem dX0_endsFrom_64 : decode cX0_endsFrom 64 = .ok (.invokevirtual 34, 3) := by decide +kernel
theorem dX0_endsFrom_67 : decode cX0_endsFrom 67 = .ok (.aload_n 0, 1) := by decide +kernel
theorem dX0_endsFrom_68 : decode cX0_endsFrom 68 = .ok (.aload_n 1, 1) := by decide +kernel
theorem dX0_endsFrom_69 : decode cX0_endsFrom 69 = .ok (.aload_n 1, 1) := by decide +kernel
theorem dX0_endsFrom_70 : decode cX0_endsFrom 70 = .ok (.getfield 19, 3) := by decide +kernel
theorem dX0_endsFrom_73 : decode cX0_endsFrom 73 = .ok (.iload_n 3, 1) := by decide +kernel
theorem dX0_endsFrom_74 : decode cX0_endsFrom 74 = .ok (.invokevirtual 28, 3) := by decide +kernel
theorem dX0_endsFrom_77 : decode cX0_endsFrom 77 = .ok (.aload_n 0, 1) := by decide +kernel
theorem dX0_endsFrom_78 : decode cX0_endsFrom 78 = .ok (.aload_n 1, 1) := by decide +kernel
theorem dX0_endsFrom_79 : decode cX0_endsFrom 79 = .ok (.iconst 0, 1) := by decide +kernel
theorem dX0_endsFrom_80 : decode cX0_endsFrom 80 = .ok (.iload_n 3, 1) := by decide +kernel
theorem dX0_endsFrom_81 : decode cX0_endsFrom 81 = .ok (.invokevirtual 31, 3) := by decide +kernel
theorem dX0_endsFrom_84 : decode cX0_endsFrom 84 = .ok (.isub, 1) := by decide +kernel
theorem dX0_endsFrom_85 : decode cX0_endsFrom 85 = .ok (.ireturn, 1) := by decide +kernel
theorem dX0_endsFrom_86 : decode cX0_endsFrom 86 = .ok (.aload_n 0, 1) := by decide +kernel
theorem dX0_endsFrom_87 : decode cX0_endsFrom 87 = .ok (.bipush 12, 2) := by decide +kernel
theorem dX0_endsFrom_89 : decode cX0_endsFrom 89 = .ok (.invokevirtual 34, 3) := by decide +kernel
theorem dX0_endsFrom_92 : decode cX0_endsFrom 92 = .ok (.aload_n 0, 1) := by decide +kernel
theorem dX0_endsFrom_93 : decode cX0_endsFrom 93 = .ok (.aload_n 1, 1) := by decide +kernel
theorem dX0_endsFrom_94 : decode cX0_endsFrom 94 = .ok (.aload_n 1, 1) := by decide +kernel
theorem dX0_endsFrom_95 : decode cX0_endsFrom 95 = .ok (.getfield 19, 3) := by decide +kernel
theorem dX0_endsFrom_98 : decode cX0_endsFrom 98 = .ok (.iload_n 3, 1) := by decide +kernel
theorem dX0_endsFrom_99 : decode cX0_endsFrom 99 = .ok (.invokevirtual 28, 3) := by decide +kernel
theorem dX0_endsFrom_102 : decode cX0_endsFrom 102 = .ok (.iconst 2, 1) := by decide +kernel
theorem dX0_endsFrom_103 : decode cX0_endsFrom 103 = .ok (.imul, 1) := by decide +kernel
theorem dX0_endsFrom_104 : decode cX0_endsFrom 104 = .ok (.ireturn, 1) := by decide +kernel
set_option maxRecDepth 100000 in
set_option maxHeartbeats 4000000 in
theorem c_X0_endsFrom {l : Launch} {K : KG} {ad : Nat → Nat → Nat} {fl : Nat} : ∀ (d : Nat) (a1 : Nat) (a2 : Int32) (a3 : Int32) (M0 : Mem) (r9 : Int32) (M9 : Mem), f_X0_endsFrom fl d a1 a2 a3 M0 = some (r9, M9) → Met l yX0_endsFrom (Cond.code yX0_endsFrom cX0_endsFrom 4 (some .int) :: ztb) (RM (42 + 2 * d) 0 0) (zPc K LC ad M0 [.ref (ad 11 0), rf (ad 23) a1, .int a2, .int a3]) (zQ K LC ad (some (.int r9)) M9) 0 0 (zA ad) := by
  intro d
  induction d with
  | zero =>
    intro a1 a2 a3 M0 r9 M9 hf
    have hf : (none : Option (Int32 × Mem)) = some (r9, M9) := hf
    cases hf
  | succ d ih =>
    intro a1 a2 a3 M0 r9 M9 hf
    replace hf : f_X0_endsFrom_b (f_X0_endsFrom fl d) fl a1 a2 a3 M0 = some (r9, M9) := hf
    refine z_enter (by decide) (by simp [lg_sl, rf_cat, cat_i, cat_l, cat_r, cat_n]) ?_
    intro p e s m args below meth c ls C hin hargs Z hl
    replace C : Cx p s m args meth c cX0_endsFrom 4 "GlassPalace$Acts" (some .int) := C
    replace hl : lv_has ls 4 [(0, .ref (ad 11 0)), (1, rf (ad 23) a1), (2, .int a2), (3, .int a3)] := by simpa [lv_args, rf_cat, cat_i, cat_l, cat_r, cat_n] using hl
    have hR : 42 + 2 * (d + 1) ≤ (RM (42 + 2 * (d + 1)) 0 0).frames ∧ 40 * (42 + 2 * (d + 1)) ≤ (RM (42 + 2 * (d + 1)) 0 0).locals := ⟨Nat.le_refl _, Nat.le_refl _⟩
    have hB : 0 ≤ (RM (42 + 2 * (d + 1)) 0 0).cells ∧ 0 ≤ (RM (42 + 2 * (d + 1)) 0 0).slots := ⟨Nat.zero_le _, Nat.zero_le _⟩
    unfold f_X0_endsFrom_b at hf
    refine lv_iload_n C.x C.b dX0_endsFrom_0 rfl (lv_at hl 2 rfl) ?_
    by_cases hx1 : a2 = 1
    · replace hf := ite_t hf hx1
      refine lv_lookup (tgt := 36) (off := 35) C.x C.b dX0_endsFrom_1 (by decide) (by rw [hx1]; rfl) (by decide) ?_
      refine lv_aload_n C.x C.b dX0_endsFrom_36 rfl (lv_at hl 0 rfl) ?_
      refine lv_bipush (v := 21) C.x C.b dX0_endsFrom_37 (by decide) ?_
      replace hf := bn1_s hf; obtain ⟨m2, hkm2, hf⟩ := hf
      refine z_cV (As := [.int 21]) (rest := []) (st1 := []) C Z mw_X0_begin mv_X0_begin k_1068 (by decide) (z_hR hR (by omega)) (lvC11 Nat.zero_lt_one) kC11 zc0 (c_X0_begin (l := l) (K := K) (ad := ad) hkm2) rfl hl.1 rfl (Nat.le_of_ble_eq_true rfl) dX0_endsFrom_39 hB rfl (fun H locs Z => ?_)
      refine lv_aload_n C.x C.b dX0_endsFrom_42 rfl (lv_at hl 0 rfl) ?_
      refine z_aload_n C dX0_endsFrom_43 rfl (lv_at hl 1 rfl) ?_
      refine lv_iconst (v := 0) C.x C.b dX0_endsFrom_44 (by decide) ?_
      refine lv_iload_n C.x C.b dX0_endsFrom_45 rfl (lv_at hl 3 rfl) ?_
      replace hf := bn2_s hf; obtain ⟨v4, m3, hkm3, hf⟩ := hf
      refine z_cV (As := [rf (ad 23) a1, .int 0, .int a3]) (rest := []) (st1 := [.int v4]) C Z mw_X0_endsFrom mv_X0_endsFrom k_1076 (by decide) (z_hR hR (by omega)) (lvC11 Nat.zero_lt_one) kC11 zc0 (ih _ _ _ _ _ _ hkm3) rfl hl.1 rfl (Nat.le_of_ble_eq_true rfl) dX0_endsFrom_46 hB rfl (fun H locs Z => ?_)
      refine lv_aload_n C.x C.b dX0_endsFrom_49 rfl (lv_at hl 0 rfl) ?_
      refine z_aload_n C dX0_endsFrom_50 rfl (lv_at hl 1 rfl) ?_
      refine z_aload_n C dX0_endsFrom_51 rfl (lv_at hl 1 rfl) ?_
      replace hf := drf_s hf; obtain ⟨j5, ej7, hj6, hf⟩ := hf
      subst ej7
      refine z_nn [] (y := j5 + 1) rfl ?_
      refine z_get C Z (lvC23 hj6) kC23 zc4 zin4 1 (by decide) k_461 rfl svC23_1 dX0_endsFrom_52 ?_
      refine lv_iconst (v := 1) C.x C.b dX0_endsFrom_55 (by decide) ?_
      replace hf := bn2_s hf; obtain ⟨v9, m8, hkm8, hf⟩ := hf
      refine z_cV (As := [.ref (ad 23 j5), .int (gI m3 23 j5 1), .int 1]) (rest := [.int v4]) (st1 := [.int v9, .int v4]) C Z mw_X0_fitsFrom mv_X0_fitsFrom k_1064 (by decide) (z_hR hR (by omega)) (lvC11 Nat.zero_lt_one) kC11 zc0 (c_X0_fitsFrom (l := l) (K := K) (ad := ad) 8 _ _ _ _ _ _ hkm8) rfl hl.1 rfl (Nat.le_of_ble_eq_true rfl) dX0_endsFrom_56 hB rfl (fun H locs Z => ?_)
      refine lv_iadd C.x C.b dX0_endsFrom_59 ?_
      obtain ⟨rfl, rfl⟩ := pr_s hf
      exact z_iret C Z dX0_endsFrom_60
    replace hf := ite_f hf hx1
    by_cases hx10 : a2 = 5
    · replace hf := ite_t hf hx10
      refine lv_lookup (tgt := 61) (off := 60) C.x C.b dX0_endsFrom_1 (by decide) (by rw [hx10]; rfl) (by decide) ?_
      refine lv_aload_n C.x C.b dX0_endsFrom_61 rfl (lv_at hl 0 rfl) ?_
      refine lv_bipush (v := 60) C.x C.b dX0_endsFrom_62 (by decide) ?_
      replace hf := bn1_s hf; obtain ⟨m11, hkm11, hf⟩ := hf
      refine z_cV (As := [.int 60]) (rest := []) (st1 := []) C Z mw_X0_begin mv_X0_begin k_1068 (by decide) (z_hR hR (by omega)) (lvC11 Nat.zero_lt_one) kC11 zc0 (c_X0_begin (l := l) (K := K) (ad := ad) hkm11) rfl hl.1 rfl (Nat.le_of_ble_eq_true rfl) dX0_endsFrom_64 hB rfl (fun H locs Z => ?_)
      refine lv_aload_n C.x C.b dX0_endsFrom_67 rfl (lv_at hl 0 rfl) ?_
      refine z_aload_n C dX0_endsFrom_68 rfl (lv_at hl 1 rfl) ?_
      refine z_aload_n C dX0_endsFrom_69 rfl (lv_at hl 1 rfl) ?_
      replace hf := drf_s hf; obtain ⟨j12, ej14, hj13, hf⟩ := hf
      subst ej14
      refine z_nn [] (y := j12 + 1) rfl ?_
      refine z_get C Z (lvC23 hj13) kC23 zc4 zin4 1 (by decide) k_461 rfl svC23_1 dX0_endsFrom_70 ?_
      refine lv_iload_n C.x C.b dX0_endsFrom_73 rfl (lv_at hl 3 rfl) ?_
      replace hf := bn2_s hf; obtain ⟨v16, m15, hkm15, hf⟩ := hf
      refine z_cV (As := [.ref (ad 23 j12), .int (gI m11 23 j12 1), .int a3]) (rest := []) (st1 := [.int v16]) C Z mw_X0_bearsFrom mv_X0_bearsFrom k_1072 (by decide) (z_hR hR (by omega)) (lvC11 Nat.zero_lt_one) kC11 zc0 (c_X0_bearsFrom (l := l) (K := K) (ad := ad) 8 _ _ _ _ _ _ hkm15) rfl hl.1 rfl (Nat.le_of_ble_eq_true rfl) dX0_endsFrom_74 hB rfl (fun H locs Z => ?_)
      refine lv_aload_n C.x C.b dX0_endsFrom_77 rfl (lv_at hl 0 rfl) ?_
      refine lv_aload_n C.x C.b dX0_endsFrom_78 rfl (lv_at hl 1 rfl) ?_
      refine lv_iconst (v := 0) C.x C.b dX0_endsFrom_79 (by decide) ?_
      refine lv_iload_n C.x C.b dX0_endsFrom_80 rfl (lv_at hl 3 rfl) ?_
      replace hf := bn2_s hf; obtain ⟨v18, m17, hkm17, hf⟩ := hf
      refine z_cV (As := [.ref (ad 23 j12), .int 0, .int a3]) (rest := [.int v16]) (st1 := [.int v18, .int v16]) C Z mw_X0_endsFrom mv_X0_endsFrom k_1076 (by decide) (z_hR hR (by omega)) (lvC11 Nat.zero_lt_one) kC11 zc0 (ih _ _ _ _ _ _ hkm17) rfl hl.1 rfl (Nat.le_of_ble_eq_true rfl) dX0_endsFrom_81 hB rfl (fun H locs Z => ?_)
      refine lv_isub C.x C.b dX0_endsFrom_84 ?_
      obtain ⟨rfl, rfl⟩ := pr_s hf
      exact z_iret C Z dX0_endsFrom_85
    replace hf := ite_f hf hx10
    by_cases hx19 : a2 = 6
    · replace hf := ite_t hf hx19
      refine lv_lookup (tgt := 36) (off := 35) C.x C.b dX0_endsFrom_1 (by decide) (by rw [hx19]; rfl) (by decide) ?_
      refine lv_aload_n C.x C.b dX0_endsFrom_36 rfl (lv_at hl 0 rfl) ?_
      refine lv_bipush (v := 21) C.x C.b dX0_endsFrom_37 (by decide) ?_
      replace hf := bn1_s hf; obtain ⟨m20, hkm20, hf⟩ := hf
      refine z_cV (As := [.int 21]) (rest := []) (st1 := []) C Z mw_X0_begin mv_X0_begin k_1068 (by decide) (z_hR hR (by omega)) (lvC11 Nat.zero_lt_one) kC11 zc0 (c_X0_begin (l := l) (K := K) (ad := ad) hkm20) rfl hl.1 rfl (Nat.le_of_ble_eq_true rfl) dX0_endsFrom_39 hB rfl (fun H locs Z => ?_)
      refine lv_aload_n C.x C.b dX0_endsFrom_42 rfl (lv_at hl 0 rfl) ?_
      refine z_aload_n C dX0_endsFrom_43 rfl (lv_at hl 1 rfl) ?_
      refine lv_iconst (v := 0) C.x C.b dX0_endsFrom_44 (by decide) ?_
      refine lv_iload_n C.x C.b dX0_endsFrom_45 rfl (lv_at hl 3 rfl) ?_
      replace hf := bn2_s hf; obtain ⟨v22, m21, hkm21, hf⟩ := hf
      refine z_cV (As := [rf (ad 23) a1, .int 0, .int a3]) (rest := []) (st1 := [.int v22]) C Z mw_X0_endsFrom mv_X0_endsFrom k_1076 (by decide) (z_hR hR (by omega)) (lvC11 Nat.zero_lt_one) kC11 zc0 (ih _ _ _ _ _ _ hkm21) rfl hl.1 rfl (Nat.le_of_ble_eq_true rfl) dX0_endsFrom_46 hB rfl (fun H locs Z => ?_)
      refine lv_aload_n C.x C.b dX0_endsFrom_49 rfl (lv_at hl 0 rfl) ?_
      refine z_aload_n C dX0_endsFrom_50 rfl (lv_at hl 1 rfl) ?_
      refine z_aload_n C dX0_endsFrom_51 rfl (lv_at hl 1 rfl) ?_
      replace hf := drf_s hf; obtain ⟨j23, ej25, hj24, hf⟩ := hf
      subst ej25
      refine z_nn [] (y := j23 + 1) rfl ?_
      refine z_get C Z (lvC23 hj24) kC23 zc4 zin4 1 (by decide) k_461 rfl svC23_1 dX0_endsFrom_52 ?_
      refine lv_iconst (v := 1) C.x C.b dX0_endsFrom_55 (by decide) ?_
      replace hf := bn2_s hf; obtain ⟨v27, m26, hkm26, hf⟩ := hf
      refine z_cV (As := [.ref (ad 23 j23), .int (gI m21 23 j23 1), .int 1]) (rest := [.int v22]) (st1 := [.int v27, .int v22]) C Z mw_X0_fitsFrom mv_X0_fitsFrom k_1064 (by decide) (z_hR hR (by omega)) (lvC11 Nat.zero_lt_one) kC11 zc0 (c_X0_fitsFrom (l := l) (K := K) (ad := ad) 8 _ _ _ _ _ _ hkm26) rfl hl.1 rfl (Nat.le_of_ble_eq_true rfl) dX0_endsFrom_56 hB rfl (fun H locs Z => ?_)
      refine lv_iadd C.x C.b dX0_endsFrom_59 ?_
      obtain ⟨rfl, rfl⟩ := pr_s hf
      exact z_iret C Z dX0_endsFrom_60
    replace hf := ite_f hf hx19
    refine lv_lookup (tgt := 86) (off := 85) C.x C.b dX0_endsFrom_1 (by decide) (by show Op.lookupswitch.offset [(1, 35), (5, 60), (6, 35)] 85 _ = 85; rw [lv_osw (a := 1) hx1 (by decide), lv_osw (a := 5) hx10 (by decide), lv_osw (a := 6) hx19 (by decide)]; rfl) (by decide) ?_
    refine lv_aload_n C.x C.b dX0_endsFrom_86 rfl (lv_at hl 0 rfl) ?_
    refine lv_bipush (v := 12) C.x C.b dX0_endsFrom_87 (by decide) ?_
    replace hf := bn1_s hf; obtain ⟨m28, hkm28, hf⟩ := hf
    refine z_cV (As := [.int 12]) (rest := []) (st1 := []) C Z mw_X0_begin mv_X0_begin k_1068 (by decide) (z_hR hR (by omega)) (lvC11 Nat.zero_lt_one) kC11 zc0 (c_X0_begin (l := l) (K := K) (ad := ad) hkm28) rfl hl.1 rfl (Nat.le_of_ble_eq_true rfl) dX0_endsFrom_89 hB rfl (fun H locs Z => ?_)
    refine lv_aload_n C.x C.b dX0_endsFrom_92 rfl (lv_at hl 0 rfl) ?_
    refine z_aload_n C dX0_endsFrom_93 rfl (lv_at hl 1 rfl) ?_
    refine z_aload_n C dX0_endsFrom_94 rfl (lv_at hl 1 rfl) ?_
    replace hf := drf_s hf; obtain ⟨j29, ej31, hj30, hf⟩ := hf
    subst ej31
    refine z_nn [] (y := j29 + 1) rfl ?_
    refine z_get C Z (lvC23 hj30) kC23 zc4 zin4 1 (by decide) k_461 rfl svC23_1 dX0_endsFrom_95 ?_
    refine lv_iload_n C.x C.b dX0_endsFrom_98 rfl (lv_at hl 3 rfl) ?_
    replace hf := bn2_s hf; obtain ⟨v33, m32, hkm32, hf⟩ := hf
    refine z_cV (As := [.ref (ad 23 j29), .int (gI m28 23 j29 1), .int a3]) (rest := []) (st1 := [.int v33]) C Z mw_X0_bearsFrom mv_X0_bearsFrom k_1072 (by decide) (z_hR hR (by omega)) (lvC11 Nat.zero_lt_one) kC11 zc0 (c_X0_bearsFrom (l := l) (K := K) (ad := ad) 8 _ _ _ _ _ _ hkm32) rfl hl.1 rfl (Nat.le_of_ble_eq_true rfl) dX0_endsFrom_99 hB rfl (fun H locs Z => ?_)
    refine lv_iconst (v := 2) C.x C.b dX0_endsFrom_102 (by decide) ?_
    refine lv_imul C.x C.b dX0_endsFrom_103 ?_
    obtain ⟨rfl, rfl⟩ := pr_s hf
    exact z_iret C Z dX0_endsFrom_104
theorem dX0_perform_0 : decode cX0_perform 0 = .ok (.iload_n 2, 1) := by decide +kernel
theorem dX0_perform_1 : decode cX0_perform 1 = .ok (.tableswitch 60 0 2 #[27, 38, 49], 27) := by decide +kernel
theorem dX0_perform_28 : decode cX0_perform 28 = .ok (.aload_n 0, 1) := by decide +kernel
theorem dX0_perform_29 : decode cX0_perform 29 = .ok (.aload_n 1, 1) := by decide +kernel
theorem dX0_perform_30 : decode cX0_perform 30 = .ok (.aload_n 1, 1) := by decide +kernel
theorem dX0_perform_31 : decode cX0_perform 31 = .ok (.getfield 19, 3) := by decide +kernel
theorem dX0_perform_34 : decode cX0_perform 34 = .ok (.iload_n 3, 1) := by decide +kernel
theorem dX0_perform_35 : decode cX0_perform 35 = .ok (.invokevirtual 24, 3) := by decide +kernel
theorem dX0_perform_38 : decode cX0_perform 38 = .ok (.ireturn, 1) := by decide +kernel
theorem dX0_perform_39 : decode cX0_perform 39 = .ok (.aload_n 0, 1) := by decide +kernel
theorem dX0_perform_40 : decode cX0_perform 40 = .ok (.aload_n 1, 1) := by decide +kernel
theorem dX0_perform_41 : decode cX0_perform 41 = .ok (.aload_n 1, 1) := by decide +kernel
theorem dX0_perform_42 : decode cX0_perform 42 = .ok (.getfield 19, 3) := by decide +kernel
theorem dX0_perform_45 : decode cX0_perform 45 = .ok (.iload_n 3, 1) := by decide +kernel
theorem dX0_perform_46 : decode cX0_perform 46 = .ok (.invokevirtual 28, 3) := by decide +kernel
theorem dX0_perform_49 : decode cX0_perform 49 = .ok (.ireturn, 1) := by decide +kernel
theorem dX0_perform_50 : decode cX0_perform 50 = .ok (.aload_n 0, 1) := by decide +kernel
theorem dX0_perform_51 : decode cX0_perform 51 = .ok (.aload_n 1, 1) := by decide +kernel
theorem dX0_perform_52 : decode cX0_perform 52 = .ok (.aload_n 1, 1) := by decide +kernel
theorem dX0_perform_53 : decode cX0_perform 53 = .ok (.getfield 19, 3) := by decide +kernel
theorem dX0_perform_56 : decode cX0_perform 56 = .ok (.iload_n 3, 1) := by decide +kernel
theorem dX0_perform_57 : decode cX0_perform 57 = .ok (.invokevirtual 31, 3) := by decide +kernel
theorem dX0_perform_60 : decode cX0_perform 60 = .ok (.ireturn, 1) := by decide +kernel
theorem dX0_perform_61 : decode cX0_perform 61 = .ok (.iconst 0, 1) := by decide +kernel
theorem dX0_perform_62 : decode cX0_perform 62 = .ok (.ireturn, 1) := by decide +kernel
set_option maxRecDepth 100000 in
set_option maxHeartbeats 4000000 in
theorem c_X0_perform {l : Launch} {K : KG} {ad : Nat → Nat → Nat} {fl : Nat} {a1 : Nat} {a2 : Int32} {a3 : Int32} {M0 : Mem} {r9 : Int32} {M9 : Mem} (hf : f_X0_perform fl a1 a2 a3 M0 = some (r9, M9)) : Met l yX0_perform (Cond.code yX0_perform cX0_perform 4 (some .int) :: ztb) (RM (59) 0 0) (zPc K LC ad M0 [.ref (ad 11 0), rf (ad 23) a1, .int a2, .int a3]) (zQ K LC ad (some (.int r9)) M9) 0 0 (zA ad) := by
  refine z_enter (by decide) (by simp [lg_sl, rf_cat, cat_i, cat_l, cat_r, cat_n]) ?_
  intro p e s m args below meth c ls C hin hargs Z hl
  replace C : Cx p s m args meth c cX0_perform 4 "GlassPalace$Acts" (some .int) := C
  replace hl : lv_has ls 4 [(0, .ref (ad 11 0)), (1, rf (ad 23) a1), (2, .int a2), (3, .int a3)] := by simpa [lv_args, rf_cat, cat_i, cat_l, cat_r, cat_n] using hl
  have hR : 59 ≤ (RM (59) 0 0).frames ∧ 40 * (59) ≤ (RM (59) 0 0).locals := ⟨Nat.le_refl _, Nat.le_refl _⟩
  have hB : 0 ≤ (RM (59) 0 0).cells ∧ 0 ≤ (RM (59) 0 0).slots := ⟨Nat.zero_le _, Nat.zero_le _⟩
  unfold f_X0_perform at hf
  refine lv_iload_n C.x C.b dX0_perform_0 rfl (lv_at hl 2 rfl) ?_
  by_cases hx1 : a2 = 0
  · replace hf := ite_t hf hx1
    refine lv_tableIn (tgt := 28) C.x C.b dX0_perform_1 (by rw [hx1]; decide) (by rw [hx1]; decide) (by rw [hx1]; rfl) (by decide) ?_
    refine lv_aload_n C.x C.b dX0_perform_28 rfl (lv_at hl 0 rfl) ?_
    refine z_aload_n C dX0_perform_29 rfl (lv_at hl 1 rfl) ?_
    refine z_aload_n C dX0_perform_30 rfl (lv_at hl 1 rfl) ?_
    replace hf := drf_s hf; obtain ⟨j2, ej4, hj3, hf⟩ := hf
    subst ej4
    refine z_nn [] (y := j2 + 1) rfl ?_
    refine z_get C Z (lvC23 hj3) kC23 zc4 zin4 1 (by decide) k_461 rfl svC23_1 dX0_perform_31 ?_
    refine lv_iload_n C.x C.b dX0_perform_34 rfl (lv_at hl 3 rfl) ?_
    replace hf := bn2_s hf; obtain ⟨v6, m5, hkm5, hf⟩ := hf
    refine z_cV (As := [.ref (ad 23 j2), .int (gI M0 23 j2 1), .int a3]) (rest := []) (st1 := [.int v6]) C Z mw_X0_fitsFrom mv_X0_fitsFrom k_1064 (by decide) (z_hR hR (by decide)) (lvC11 Nat.zero_lt_one) kC11 zc0 (c_X0_fitsFrom (l := l) (K := K) (ad := ad) 8 _ _ _ _ _ _ hkm5) rfl hl.1 rfl (Nat.le_of_ble_eq_true rfl) dX0_perform_35 hB rfl (fun H locs Z => ?_)
    obtain ⟨rfl, rfl⟩ := pr_s hf
    exact z_iret C Z dX0_perform_38
  replace hf := ite_f hf hx1
  by_cases hx7 : a2 = 1
  · replace hf := ite_t hf hx7
    refine lv_tableIn (tgt := 39) C.x C.b dX0_perform_1 (by rw [hx7]; decide) (by rw [hx7]; decide) (by rw [hx7]; rfl) (by decide) ?_
    refine lv_aload_n C.x C.b dX0_perform_39 rfl (lv_at hl 0 rfl) ?_
    refine z_aload_n C dX0_perform_40 rfl (lv_at hl 1 rfl) ?_
    refine z_aload_n C dX0_perform_41 rfl (lv_at hl 1 rfl) ?_
    replace hf := drf_s hf; obtain ⟨j8, ej10, hj9, hf⟩ := hf
    subst ej10
    refine z_nn [] (y := j8 + 1) rfl ?_
    refine z_get C Z (lvC23 hj9) kC23 zc4 zin4 1 (by decide) k_461 rfl svC23_1 dX0_perform_42 ?_
    refine lv_iload_n C.x C.b dX0_perform_45 rfl (lv_at hl 3 rfl) ?_
    replace hf := bn2_s hf; obtain ⟨v12, m11, hkm11, hf⟩ := hf
    refine z_cV (As := [.ref (ad 23 j8), .int (gI M0 23 j8 1), .int a3]) (rest := []) (st1 := [.int v12]) C Z mw_X0_bearsFrom mv_X0_bearsFrom k_1072 (by decide) (z_hR hR (by decide)) (lvC11 Nat.zero_lt_one) kC11 zc0 (c_X0_bearsFrom (l := l) (K := K) (ad := ad) 8 _ _ _ _ _ _ hkm11) rfl hl.1 rfl (Nat.le_of_ble_eq_true rfl) dX0_perform_46 hB rfl (fun H locs Z => ?_)
    obtain ⟨rfl, rfl⟩ := pr_s hf
    exact z_iret C Z dX0_perform_49
  replace hf := ite_f hf hx7
  by_cases hx13 : a2 = 2
  · replace hf := ite_t hf hx13
    refine lv_tableIn (tgt := 50) C.x C.b dX0_perform_1 (by rw [hx13]; decide) (by rw [hx13]; decide) (by rw [hx13]; rfl) (by decide) ?_
    refine lv_aload_n C.x C.b dX0_perform_50 rfl (lv_at hl 0 rfl) ?_
    refine z_aload_n C dX0_perform_51 rfl (lv_at hl 1 rfl) ?_
    refine z_aload_n C dX0_perform_52 rfl (lv_at hl 1 rfl) ?_
    replace hf := drf_s hf; obtain ⟨j14, ej16, hj15, hf⟩ := hf
    subst ej16
    refine z_nn [] (y := j14 + 1) rfl ?_
    refine z_get C Z (lvC23 hj15) kC23 zc4 zin4 1 (by decide) k_461 rfl svC23_1 dX0_perform_53 ?_
    refine lv_iload_n C.x C.b dX0_perform_56 rfl (lv_at hl 3 rfl) ?_
    replace hf := bn2_s hf; obtain ⟨v18, m17, hkm17, hf⟩ := hf
    refine z_cV (As := [.ref (ad 23 j14), .int (gI M0 23 j14 1), .int a3]) (rest := []) (st1 := [.int v18]) C Z mw_X0_endsFrom mv_X0_endsFrom k_1076 (by decide) (z_hR hR (by decide)) (lvC11 Nat.zero_lt_one) kC11 zc0 (c_X0_endsFrom (l := l) (K := K) (ad := ad) 8 _ _ _ _ _ _ hkm17) rfl hl.1 rfl (Nat.le_of_ble_eq_true rfl) dX0_perform_57 hB rfl (fun H locs Z => ?_)
    obtain ⟨rfl, rfl⟩ := pr_s hf
    exact z_iret C Z dX0_perform_60
  replace hf := ite_f hf hx13
  refine lv_tableOut (tgt := 61) C.x C.b dX0_perform_1 (tab_out (fun k h1 h2 => by rcases (show k = 0 ∨ k = 1 ∨ k = 2 by omega) with rfl | rfl | rfl <;> assumption)) (by decide) ?_
  refine lv_iconst (v := 0) C.x C.b dX0_perform_61 (by decide) ?_
  obtain ⟨rfl, rfl⟩ := pr_s hf
  exact z_iret C Z dX0_perform_62
theorem dX1_column_0 : decode cX1_column 0 = .ok (.aload_n 0, 1) := by decide +kernel
theorem dX1_column_1 : decode cX1_column 1 = .ok (.getfield 24, 3) := by decide +kernel
theorem dX1_column_4 : decode cX1_column 4 = .ok (.bipush 6, 2) := by decide +kernel
theorem dX1_column_6 : decode cX1_column 6 = .ok (.irem, 1) := by decide +kernel
theorem dX1_column_7 : decode cX1_column 7 = .ok (.ireturn, 1) := by decide +kernel
set_option maxRecDepth 100000 in
set_option maxHeartbeats 4000000 in
theorem c_X1_column {l : Launch} {K : KG} {ad : Nat → Nat → Nat} {fl : Nat} {o : Nat} {M0 : Mem} {r9 : Int32} {M9 : Mem} (ho : o < 30) (hf : f_X1_column fl o M0 = some (r9, M9)) : Met l yX1_column (Cond.code yX1_column cX1_column 1 (some .int) :: ztb) (RM (1) 0 0) (zPc K LC ad M0 [.ref (ad 13 o)]) (zQ K LC ad (some (.int r9)) M9) 0 0 (zA ad) := by
  refine z_enter (by decide) (Nat.le_of_ble_eq_true rfl) ?_
  intro p e s m args below meth c ls C hin hargs Z hl
  replace C : Cx p s m args meth c cX1_column 1 "GlassPalace$Bay" (some .int) := C
  replace hl : lv_has ls 1 [(0, .ref (ad 13 o))] := hl
  have hR : 1 ≤ (RM (1) 0 0).frames ∧ 40 * (1) ≤ (RM (1) 0 0).locals := ⟨Nat.le_refl _, Nat.le_refl _⟩
  have hB : 0 ≤ (RM (1) 0 0).cells ∧ 0 ≤ (RM (1) 0 0).slots := ⟨Nat.zero_le _, Nat.zero_le _⟩
  unfold f_X1_column at hf
  refine lv_aload_n C.x C.b dX1_column_0 rfl (lv_at hl 0 rfl) ?_
  refine z_get C Z (lvC13 ho) kC13 zc1 zin1 0 (by decide) k_311 rfl svC13_0 dX1_column_1 ?_
  refine lv_bipush (v := 6) C.x C.b dX1_column_4 (by decide) ?_
  refine z_irem C dX1_column_6 (by decide) ?_
  obtain ⟨rfl, rfl⟩ := pr_s hf
  exact z_iret C Z dX1_column_7
theorem dX1_row_0 : decode cX1_row 0 = .ok (.aload_n 0, 1) := by decide +kernel
theorem dX1_row_1 : decode cX1_row 1 = .ok (.getfield 24, 3) := by decide +kernel
theorem dX1_row_4 : decode cX1_row 4 = .ok (.bipush 6, 2) := by decide +kernel
theorem dX1_row_6 : decode cX1_row 6 = .ok (.idiv, 1) := by decide +kernel
theorem dX1_row_7 : decode cX1_row 7 = .ok (.ireturn, 1) := by decide +kernel
set_option maxRecDepth 100000 in
set_option maxHeartbeats 4000000 in
theorem c_X1_row {l : Launch} {K : KG} {ad : Nat → Nat → Nat} {fl : Nat} {o : Nat} {M0 : Mem} {r9 : Int32} {M9 : Mem} (ho : o < 30) (hf : f_X1_row fl o M0 = some (r9, M9)) : Met l yX1_row (Cond.code yX1_row cX1_row 1 (some .int) :: ztb) (RM (1) 0 0) (zPc K LC ad M0 [.ref (ad 13 o)]) (zQ K LC ad (some (.int r9)) M9) 0 0 (zA ad) := by
  refine z_enter (by decide) (Nat.le_of_ble_eq_true rfl) ?_
  intro p e s m args below meth c ls C hin hargs Z hl
  replace C : Cx p s m args meth c cX1_row 1 "GlassPalace$Bay" (some .int) := C
  replace hl : lv_has ls 1 [(0, .ref (ad 13 o))] := hl
  have hR : 1 ≤ (RM (1) 0 0).frames ∧ 40 * (1) ≤ (RM (1) 0 0).locals := ⟨Nat.le_refl _, Nat.le_refl _⟩
  have hB : 0 ≤ (RM (1) 0 0).cells ∧ 0 ≤ (RM (1) 0 0).slots := ⟨Nat.zero_le _, Nat.zero_le _⟩
  unfold f_X1_row at hf
  refine lv_aload_n C.x C.b dX1_row_0 rfl (lv_at hl 0 rfl) ?_
  refine z_get C Z (lvC13 ho) kC13 zc1 zin1 0 (by decide) k_311 rfl svC13_0 dX1_row_1 ?_
  refine lv_bipush (v := 6) C.x C.b dX1_row_4 (by decide) ?_
  refine lv_idiv C.x C.b dX1_row_6 (by decide) ?_
  obtain ⟨rfl, rfl⟩ := pr_s hf
  exact z_iret C Z dX1_row_7
theorem dX1_wantedLength_0 : decode cX1_wantedLength 0 = .ok (.bipush 100, 2) := by decide +kernel
theorem dX1_wantedLength_2 : decode cX1_wantedLength 2 = .ok (.iconst 2, 1) := by decide +kernel
theorem dX1_wantedLength_3 : decode cX1_wantedLength 3 = .ok (.aload_n 0, 1) := by decide +kernel
theorem dX1_wantedLength_4 : decode cX1_wantedLength 4 = .ok (.getfield 27, 3) := by decide +kernel
theorem dX1_wantedLength_7 : decode cX1_wantedLength 7 = .ok (.imul, 1) := by decide +kernel
theorem dX1_wantedLength_8 : decode cX1_wantedLength 8 = .ok (.isub, 1) := by decide +kernel
theorem dX1_wantedLength_9 : decode cX1_wantedLength 9 = .ok (.ireturn, 1) := by decide +kernel
set_option maxRecDepth 100000 in
set_option maxHeartbeats 4000000 in
theorem c_X1_wantedLength {l : Launch} {K : KG} {ad : Nat → Nat → Nat} {fl : Nat} {o : Nat} {M0 : Mem} {r9 : Int32} {M9 : Mem} (ho : o < 30) (hf : f_X1_wantedLength fl o M0 = some (r9, M9)) : Met l yX1_wantedLength (Cond.code yX1_wantedLength cX1_wantedLength 1 (some .int) :: ztb) (RM (1) 0 0) (zPc K LC ad M0 [.ref (ad 13 o)]) (zQ K LC ad (some (.int r9)) M9) 0 0 (zA ad) := by
  refine z_enter (by decide) (Nat.le_of_ble_eq_true rfl) ?_
  intro p e s m args below meth c ls C hin hargs Z hl
  replace C : Cx p s m args meth c cX1_wantedLength 1 "GlassPalace$Bay" (some .int) := C
  replace hl : lv_has ls 1 [(0, .ref (ad 13 o))] := hl
  have hR : 1 ≤ (RM (1) 0 0).frames ∧ 40 * (1) ≤ (RM (1) 0 0).locals := ⟨Nat.le_refl _, Nat.le_refl _⟩
  have hB : 0 ≤ (RM (1) 0 0).cells ∧ 0 ≤ (RM (1) 0 0).slots := ⟨Nat.zero_le _, Nat.zero_le _⟩
  unfold f_X1_wantedLength at hf
  refine lv_bipush (v := 100) C.x C.b dX1_wantedLength_0 (by decide) ?_
  refine lv_iconst (v := 2) C.x C.b dX1_wantedLength_2 (by decide) ?_
  refine lv_aload_n C.x C.b dX1_wantedLength_3 rfl (lv_at hl 0 rfl) ?_
  refine z_get C Z (lvC13 ho) kC13 zc1 zin1 1 (by decide) k_314 rfl svC13_1 dX1_wantedLength_4 ?_
  refine lv_imul C.x C.b dX1_wantedLength_7 ?_
  refine lv_isub C.x C.b dX1_wantedLength_8 ?_
  obtain ⟨rfl, rfl⟩ := pr_s hf
  exact z_iret C Z dX1_wantedLength_9
theorem dX1_latestAt_0 : decode cX1_latestAt 0 = .ok (.iload_n 1, 1) := by decide +kernel
theorem dX1_latestAt_1 : decode cX1_latestAt 1 = .ok (.iconst 3, 1) := by decide +kernel
theorem dX1_latestAt_2 : decode cX1_latestAt 2 = .ok (.if_icmp .ne 35, 3) := by decide +kernel
theorem dX1_latestAt_5 : decode cX1_latestAt 5 = .ok (.aload_n 0, 1) := by decide +kernel
theorem dX1_latestAt_6 : decode cX1_latestAt 6 = .ok (.getfield 30, 3) := by decide +kernel
theorem dX1_latestAt_9 : decode cX1_latestAt 9 = .ok (.ifCond .le 26, 3) := by decide +kernel
theorem dX1_latestAt_12 : decode cX1_latestAt 12 = .ok (.aload_n 0, 1) := by decide +kernel
theorem dX1_latestAt_13 : decode cX1_latestAt 13 = .ok (.getfield 30, 3) := by decide +kernel
theorem dX1_latestAt_16 : decode cX1_latestAt 16 = .ok (.bipush 24, 2) := by decide +kernel
theorem dX1_latestAt_18 : decode cX1_latestAt 18 = .ok (.if_icmp .gt 17, 3) := by decide +kernel
theorem dX1_latestAt_21 : decode cX1_latestAt 21 = .ok (.aload_n 0, 1) := by decide +kernel
theorem dX1_latestAt_22 : decode cX1_latestAt 22 = .ok (.getfield 21, 3) := by decide +kernel
theorem dX1_latestAt_25 : decode cX1_latestAt 25 = .ok (.aload_n 0, 1) := by decide +kernel
theorem dX1_latestAt_26 : decode cX1_latestAt 26 = .ok (.getfield 30, 3) := by decide +kernel
theorem dX1_latestAt_29 : decode cX1_latestAt 29 = .ok (.iconst 1, 1) := by decide +kernel
theorem dX1_latestAt_30 : decode cX1_latestAt 30 = .ok (.isub, 1) := by decide +kernel
theorem dX1_latestAt_31 : decode cX1_latestAt 31 = .ok (.aaload, 1) := by decide +kernel
theorem dX1_latestAt_32 : decode cX1_latestAt 32 = .ok (.goto 4, 3) := by decide +kernel
theorem dX1_latestAt_35 : decode cX1_latestAt 35 = .ok (.aconst_null, 1) := by decide +kernel
theorem dX1_latestAt_36 : decode cX1_latestAt 36 = .ok (.areturn, 1) := by decide +kernel
theorem dX1_latestAt_37 : decode cX1_latestAt 37 = .ok (.iload_n 1, 1) := by decide +kernel
theorem dX1_latestAt_38 : decode cX1_latestAt 38 = .ok (.iconst 1, 1) := by decide +kernel
theorem dX1_latestAt_39 : decode cX1_latestAt 39 = .ok (.if_icmp .lt 17, 3) := by decide +kernel
theorem dX1_latestAt_42 : decode cX1_latestAt 42 = .ok (.iload_n 1, 1) := by decide +kernel
theorem dX1_latestAt_43 : decode cX1_latestAt 43 = .ok (.iconst 5, 1) := by decide +kernel
theorem dX1_latestAt_44 : decode cX1_latestAt 44 = .ok (.if_icmp .gt 12, 3) := by decide +kernel
theorem dX1_latestAt_47 : decode cX1_latestAt 47 = .ok (.aload_n 0, 1) := by decide +kernel
theorem dX1_latestAt_48 : decode cX1_latestAt 48 = .ok (.getfield 17, 3) := by decide +kernel
theorem dX1_latestAt_51 : decode cX1_latestAt 51 = .ok (.iload_n 1, 1) := by decide +kernel
theorem dX1_latestAt_52 : decode cX1_latestAt 52 = .ok (.aaload, 1) := by decide +kernel
theorem dX1_latestAt_53 : decode cX1_latestAt 53 = .ok (.goto 4, 3) := by decide +kernel
theorem dX1_latestAt_56 : decode cX1_latestAt 56 = .ok (.aconst_null, 1) := by decide +kernel
theorem dX1_latestAt_57 : decode cX1_latestAt 57 = .ok (.areturn, 1) := by decide +kernel
set_option maxRecDepth 100000 in
set_option maxHeartbeats 4000000 in
theorem c_X1_latestAt {l : Launch} {K : KG} {ad : Nat → Nat → Nat} {fl : Nat} {o : Nat} {a1 : Int32} {M0 : Mem} {r9 : Nat} {M9 : Mem} (ho : o < 30) (hf : f_X1_latestAt fl o a1 M0 = some (r9, M9)) : Met l yX1_latestAt (Cond.code yX1_latestAt cX1_latestAt 2 (some (.object "GlassPalace$Lot")) :: ztb) (RM (1) 0 0) (zPc K LC ad M0 [.ref (ad 13 o), .int a1]) (zQ K LC ad (some (rf (ad 23) r9)) M9) 0 0 (zA ad) := by
  refine z_enter (by decide) (Nat.le_of_ble_eq_true rfl) ?_
  intro p e s m args below meth c ls C hin hargs Z hl
  replace C : Cx p s m args meth c cX1_latestAt 2 "GlassPalace$Bay" (some (.object "GlassPalace$Lot")) := C
  replace hl : lv_has ls 2 [(0, .ref (ad 13 o)), (1, .int a1)] := hl
  have hR : 1 ≤ (RM (1) 0 0).frames ∧ 40 * (1) ≤ (RM (1) 0 0).locals := ⟨Nat.le_refl _, Nat.le_refl _⟩
  have hB : 0 ≤ (RM (1) 0 0).cells ∧ 0 ≤ (RM (1) 0 0).slots := ⟨Nat.zero_le _, Nat.zero_le _⟩
  unfold f_X1_latestAt at hf
  refine lv_iload_n C.x C.b dX1_latestAt_0 rfl (lv_at hl 1 rfl) ?_
  refine lv_iconst (v := 3) C.x C.b dX1_latestAt_1 (by decide) ?_
  refine lv_icmp_ne (tgt := 37) C.x C.b dX1_latestAt_2 (by decide) (fun hc1 => ?_) (fun hc1 => ?_)
  · replace hf := ite_f hf hc1
    refine lv_iload_n C.x C.b dX1_latestAt_37 rfl (lv_at hl 1 rfl) ?_
    refine lv_iconst (v := 1) C.x C.b dX1_latestAt_38 (by decide) ?_
    refine lv_icmp_lt (tgt := 56) C.x C.b dX1_latestAt_39 (by decide) (fun hc2 => ?_) (fun hc2 => ?_)
    · replace hf := ite_t hf hc2
      refine lv_null C.x C.b dX1_latestAt_56 ?_
      obtain ⟨rfl, rfl⟩ := pr_s hf
      exact z_aret (f := ad 23) (k := 0) C Z dX1_latestAt_57
    · replace hf := ite_f hf hc2
      refine lv_iload_n C.x C.b dX1_latestAt_42 rfl (lv_at hl 1 rfl) ?_
      refine lv_iconst (v := 5) C.x C.b dX1_latestAt_43 (by decide) ?_
      refine lv_icmp_gt (tgt := 56) C.x C.b dX1_latestAt_44 (by decide) (fun hc3 => ?_) (fun hc3 => ?_)
      · replace hf := ite_t hf hc3
        refine lv_null C.x C.b dX1_latestAt_56 ?_
        obtain ⟨rfl, rfl⟩ := pr_s hf
        exact z_aret (f := ad 23) (k := 0) C Z dX1_latestAt_57
      · replace hf := ite_f hf hc3
        refine lv_aload_n C.x C.b dX1_latestAt_47 rfl (lv_at hl 0 rfl) ?_
        refine z_get C Z (lvC13 ho) kC13 zc1 zin1 6 (by decide) k_325 rfl svC13_6 dX1_latestAt_48 ?_
        refine lv_iload_n C.x C.b dX1_latestAt_51 rfl (lv_at hl 1 rfl) ?_
        replace hf := asr_s hf; obtain ⟨hq4, hf⟩ := hf
        refine z_aald C Z (lvC14 ho) kC14 3 rfl hq4 svC14 dX1_latestAt_52 ?_
        refine lv_goto (tgt := 57) C.x C.b dX1_latestAt_53 (by decide) ?_
        obtain ⟨rfl, rfl⟩ := pr_s hf
        exact z_aret (f := ad 23) (k := _) C Z dX1_latestAt_57
  · replace hf := ite_t hf hc1
    refine lv_aload_n C.x C.b dX1_latestAt_5 rfl (lv_at hl 0 rfl) ?_
    refine z_get C Z (lvC13 ho) kC13 zc1 zin1 4 (by decide) k_320 rfl svC13_4 dX1_latestAt_6 ?_
    refine lv_if_le (tgt := 35) C.x C.b dX1_latestAt_9 (by decide) (fun hc5 => ?_) (fun hc5 => ?_)
    · replace hf := ite_t hf hc5
      refine lv_null C.x C.b dX1_latestAt_35 ?_
      obtain ⟨rfl, rfl⟩ := pr_s hf
      exact z_aret (f := ad 23) (k := 0) C Z dX1_latestAt_36
    · replace hf := ite_f hf hc5
      refine lv_aload_n C.x C.b dX1_latestAt_12 rfl (lv_at hl 0 rfl) ?_
      refine z_get C Z (lvC13 ho) kC13 zc1 zin1 4 (by decide) k_320 rfl svC13_4 dX1_latestAt_13 ?_
      refine lv_bipush (v := 24) C.x C.b dX1_latestAt_16 (by decide) ?_
      refine lv_icmp_gt (tgt := 35) C.x C.b dX1_latestAt_18 (by decide) (fun hc6 => ?_) (fun hc6 => ?_)
      · replace hf := ite_t hf hc6
        refine lv_null C.x C.b dX1_latestAt_35 ?_
        obtain ⟨rfl, rfl⟩ := pr_s hf
        exact z_aret (f := ad 23) (k := 0) C Z dX1_latestAt_36
      · replace hf := ite_f hf hc6
        refine lv_aload_n C.x C.b dX1_latestAt_21 rfl (lv_at hl 0 rfl) ?_
        refine z_get C Z (lvC13 ho) kC13 zc1 zin1 7 (by decide) k_326 rfl svC13_7 dX1_latestAt_22 ?_
        refine lv_aload_n C.x C.b dX1_latestAt_25 rfl (lv_at hl 0 rfl) ?_
        refine z_get C Z (lvC13 ho) kC13 zc1 zin1 4 (by decide) k_320 rfl svC13_4 dX1_latestAt_26 ?_
        refine lv_iconst (v := 1) C.x C.b dX1_latestAt_29 (by decide) ?_
        refine lv_isub C.x C.b dX1_latestAt_30 ?_
        replace hf := asr_s hf; obtain ⟨hq7, hf⟩ := hf
        refine z_aald C Z (lvC15 ho) kC15 3 rfl hq7 svC15 dX1_latestAt_31 ?_
        refine lv_goto (tgt := 36) C.x C.b dX1_latestAt_32 (by decide) ?_
        obtain ⟨rfl, rfl⟩ := pr_s hf
        exact z_aret (f := ad 23) (k := _) C Z dX1_latestAt_36
theorem dX1_has_0 : decode cX1_has 0 = .ok (.aload_n 0, 1) := by decide +kernel
theorem dX1_has_1 : decode cX1_has 1 = .ok (.iload_n 1, 1) := by decide +kernel
theorem dX1_has_2 : decode cX1_has 2 = .ok (.invokevirtual 33, 3) := by decide +kernel
theorem dX1_has_5 : decode cX1_has 5 = .ok (.ifnull 7, 3) := by decide +kernel
theorem dX1_has_8 : decode cX1_has 8 = .ok (.iconst 1, 1) := by decide +kernel
theorem dX1_has_9 : decode cX1_has 9 = .ok (.goto 4, 3) := by decide +kernel
theorem dX1_has_12 : decode cX1_has 12 = .ok (.iconst 0, 1) := by decide +kernel
theorem dX1_has_13 : decode cX1_has 13 = .ok (.ireturn, 1) := by decide +kernel
set_option maxRecDepth 100000 in
set_option maxHeartbeats 4000000 in
theorem c_X1_has {l : Launch} {K : KG} {ad : Nat → Nat → Nat} {fl : Nat} {o : Nat} {a1 : Int32} {M0 : Mem} {r9 : Int32} {M9 : Mem} (ho : o < 30) (hf : f_X1_has fl o a1 M0 = some (r9, M9)) : Met l yX1_has (Cond.code yX1_has cX1_has 2 (some .boolean) :: ztb) (RM (2) 0 0) (zPc K LC ad M0 [.ref (ad 13 o), .int a1]) (zQ K LC ad (some (.int r9)) M9) 0 0 (zA ad) := by
  refine z_enter (by decide) (Nat.le_of_ble_eq_true rfl) ?_
  intro p e s m args below meth c ls C hin hargs Z hl
  replace C : Cx p s m args meth c cX1_has 2 "GlassPalace$Bay" (some .boolean) := C
  replace hl : lv_has ls 2 [(0, .ref (ad 13 o)), (1, .int a1)] := hl
  have hR : 2 ≤ (RM (2) 0 0).frames ∧ 40 * (2) ≤ (RM (2) 0 0).locals := ⟨Nat.le_refl _, Nat.le_refl _⟩
  have hB : 0 ≤ (RM (2) 0 0).cells ∧ 0 ≤ (RM (2) 0 0).slots := ⟨Nat.zero_le _, Nat.zero_le _⟩
  unfold f_X1_has at hf
  refine lv_aload_n C.x C.b dX1_has_0 rfl (lv_at hl 0 rfl) ?_
  refine lv_iload_n C.x C.b dX1_has_1 rfl (lv_at hl 1 rfl) ?_
  replace hf := bn2_s hf; obtain ⟨c2, m1, hkm1, hf⟩ := hf
  refine z_cV (As := [.int a1]) (rest := []) (st1 := [rf (ad 23) c2]) C Z mw_X1_latestAt mv_X1_latestAt k_431 (by decide) (z_hR hR (by decide)) (lvC13 ho) kC13 zc1 (c_X1_latestAt (l := l) (K := K) (ad := ad) ho hkm1) rfl hl.1 rfl (Nat.le_of_ble_eq_true rfl) dX1_has_2 hB rfl (fun H locs Z => ?_)
  refine z_ifnull C dX1_has_5 (tgt := 12) (by decide) (fun hc3 => ?_) (fun hc3 => ?_)
  · replace hf := ite_t hf hc3
    refine lv_iconst (v := 0) C.x C.b dX1_has_12 (by decide) ?_
    obtain ⟨rfl, rfl⟩ := pr_s hf
    exact z_zret C Z rfl dX1_has_13
  · replace hf := ite_f hf hc3
    refine lv_iconst (v := 1) C.x C.b dX1_has_8 (by decide) ?_
    refine lv_goto (tgt := 13) C.x C.b dX1_has_9 (by decide) ?_
    obtain ⟨rfl, rfl⟩ := pr_s hf
    exact z_zret C Z rfl dX1_has_13
theorem dX1_room_0 : decode cX1_room 0 = .ok (.iload_n 1, 1) := by decide +kernel
theorem dX1_room_1 : decode cX1_room 1 = .ok (.iconst 3, 1) := by decide +kernel
theorem dX1_room_2 : decode cX1_room 2 = .ok (.if_icmp .ne 11, 3) := by decide +kernel
theorem dX1_room_5 : decode cX1_room 5 = .ok (.bipush 24, 2) := by decide +kernel
theorem dX1_room_7 : decode cX1_room 7 = .ok (.aload_n 0, 1) := by decide +kernel
theorem dX1_room_8 : decode cX1_room 8 = .ok (.getfield 30, 3) := by decide +kernel
theorem dX1_room_11 : decode cX1_room 11 = .ok (.isub, 1) := by decide +kernel
theorem dX1_room_12 : decode cX1_room 12 = .ok (.ireturn, 1) := by decide +kernel
theorem dX1_room_13 : decode cX1_room 13 = .ok (.aload_n 0, 1) := by decide +kernel
theorem dX1_room_14 : decode cX1_room 14 = .ok (.iload_n 1, 1) := by decide +kernel
theorem dX1_room_15 : decode cX1_room 15 = .ok (.invokevirtual 37, 3) := by decide +kernel
theorem dX1_room_18 : decode cX1_room 18 = .ok (.ifCond .eq 7, 3) := by decide +kernel
theorem dX1_room_21 : decode cX1_room 21 = .ok (.iconst 0, 1) := by decide +kernel
theorem dX1_room_22 : decode cX1_room 22 = .ok (.goto 4, 3) := by decide +kernel
theorem dX1_room_25 : decode cX1_room 25 = .ok (.iconst 1, 1) := by decide +kernel
theorem dX1_room_26 : decode cX1_room 26 = .ok (.ireturn, 1) := by decide +kernel
set_option maxRecDepth 100000 in
set_option maxHeartbeats 4000000 in
theorem c_X1_room {l : Launch} {K : KG} {ad : Nat → Nat → Nat} {fl : Nat} {o : Nat} {a1 : Int32} {M0 : Mem} {r9 : Int32} {M9 : Mem} (ho : o < 30) (hf : f_X1_room fl o a1 M0 = some (r9, M9)) : Met l yX1_room (Cond.code yX1_room cX1_room 2 (some .int) :: ztb) (RM (3) 0 0) (zPc K LC ad M0 [.ref (ad 13 o), .int a1]) (zQ K LC ad (some (.int r9)) M9) 0 0 (zA ad) := by
  refine z_enter (by decide) (Nat.le_of_ble_eq_true rfl) ?_
  intro p e s m args below meth c ls C hin hargs Z hl
  replace C : Cx p s m args meth c cX1_room 2 "GlassPalace$Bay" (some .int) := C
  replace hl : lv_has ls 2 [(0, .ref (ad 13 o)), (1, .int a1)] := hl
  have hR : 3 ≤ (RM (3) 0 0).frames ∧ 40 * (3) ≤ (RM (3) 0 0).locals := ⟨Nat.le_refl _, Nat.le_refl _⟩
  have hB : 0 ≤ (RM (3) 0 0).cells ∧ 0 ≤ (RM (3) 0 0).slots := ⟨Nat.zero_le _, Nat.zero_le _⟩
  unfold f_X1_room at hf
  refine lv_iload_n C.x C.b dX1_room_0 rfl (lv_at hl 1 rfl) ?_
  refine lv_iconst (v := 3) C.x C.b dX1_room_1 (by decide) ?_
  refine lv_icmp_ne (tgt := 13) C.x C.b dX1_room_2 (by decide) (fun hc1 => ?_) (fun hc1 => ?_)
  · replace hf := ite_f hf hc1
    refine lv_aload_n C.x C.b dX1_room_13 rfl (lv_at hl 0 rfl) ?_
    refine lv_iload_n C.x C.b dX1_room_14 rfl (lv_at hl 1 rfl) ?_
    replace hf := bn2_s hf; obtain ⟨v3, m2, hkm2, hf⟩ := hf
    refine z_cV (As := [.int a1]) (rest := []) (st1 := [.int v3]) C Z mw_X1_has mv_X1_has k_427 (by decide) (z_hR hR (by decide)) (lvC13 ho) kC13 zc1 (c_X1_has (l := l) (K := K) (ad := ad) ho hkm2) rfl hl.1 rfl (Nat.le_of_ble_eq_true rfl) dX1_room_15 hB rfl (fun H locs Z => ?_)
    refine lv_if_eq (tgt := 25) C.x C.b dX1_room_18 (by decide) (fun hc4 => ?_) (fun hc4 => ?_)
    · replace hf := ite_t hf hc4
      refine lv_iconst (v := 1) C.x C.b dX1_room_25 (by decide) ?_
      obtain ⟨rfl, rfl⟩ := pr_s hf
      exact z_iret C Z dX1_room_26
    · replace hf := ite_f hf hc4
      refine lv_iconst (v := 0) C.x C.b dX1_room_21 (by decide) ?_
      refine lv_goto (tgt := 26) C.x C.b dX1_room_22 (by decide) ?_
      obtain ⟨rfl, rfl⟩ := pr_s hf
      exact z_iret C Z dX1_room_26
  · replace hf := ite_t hf hc1
    refine lv_bipush (v := 24) C.x C.b dX1_room_5 (by decide) ?_
    refine lv_aload_n C.x C.b dX1_room_7 rfl (lv_at hl 0 rfl) ?_
    refine z_get C Z (lvC13 ho) kC13 zc1 zin1 4 (by decide) k_320 rfl svC13_4 dX1_room_8 ?_
    refine lv_isub C.x C.b dX1_room_11 ?_
    obtain ⟨rfl, rfl⟩ := pr_s hf
    exact z_iret C Z dX1_room_12
theorem dX1_isBare_0 : decode cX1_isBare 0 = .ok (.iconst 1, 1) := by decide +kernel
theorem dX1_isBare_1 : decode cX1_isBare 1 = .ok (.istore_n 1, 1) := by decide +kernel
theorem dX1_isBare_2 : decode cX1_isBare 2 = .ok (.iconst 1, 1) := by decide +kernel
theorem dX1_isBare_3 : decode cX1_isBare 3 = .ok (.istore_n 2, 1) := by decide +kernel
theorem dX1_isBare_4 : decode cX1_isBare 4 = .ok (.iload_n 2, 1) := by decide +kernel
theorem dX1_isBare_5 : decode cX1_isBare 5 = .ok (.iconst 5, 1) := by decide +kernel
theorem dX1_isBare_6 : decode cX1_isBare 6 = .ok (.if_icmp .gt 27, 3) := by decide +kernel
theorem dX1_isBare_9 : decode cX1_isBare 9 = .ok (.iload_n 1, 1) := by decide +kernel
theorem dX1_isBare_10 : decode cX1_isBare 10 = .ok (.ifCond .eq 15, 3) := by decide +kernel
theorem dX1_isBare_13 : decode cX1_isBare 13 = .ok (.aload_n 0, 1) := by decide +kernel
theorem dX1_isBare_14 : decode cX1_isBare 14 = .ok (.iload_n 2, 1) := by decide +kernel
theorem dX1_isBare_15 : decode cX1_isBare 15 = .ok (.invokevirtual 37, 3) := by decide +kernel
theorem dX1_isBare_18 : decode cX1_isBare 18 = .ok (.ifCond .ne 7, 3) := by decide +kernel
theorem dX1_isBare_21 : decode cX1_isBare 21 = .ok (.iconst 1, 1) := by decide +kernel
theorem dX1_isBare_22 : decode cX1_isBare 22 = .ok (.goto 4, 3) := by decide +kernel
theorem dX1_isBare_25 : decode cX1_isBare 25 = .ok (.iconst 0, 1) := by decide +kernel
theorem dX1_isBare_26 : decode cX1_isBare 26 = .ok (.istore_n 1, 1) := by decide +kernel
theorem dX1_isBare_27 : decode cX1_isBare 27 = .ok (.iinc 2 1, 3) := by decide +kernel
theorem dX1_isBare_30 : decode cX1_isBare 30 = .ok (.goto (-26), 3) := by decide +kernel
theorem dX1_isBare_33 : decode cX1_isBare 33 = .ok (.iload_n 1, 1) := by decide +kernel
theorem dX1_isBare_34 : decode cX1_isBare 34 = .ok (.ireturn, 1) := by decide +kernel
set_option maxRecDepth 100000 in
set_option maxHeartbeats 4000000 in
theorem w_X1_isBare_l4 {p : Program} {l : Launch} {e : Env} {R : Room} {s : State} {m : MethodId} {args : Array Value} {below : List Frame} {meth : Method} {c : Code} {cells slots : Nat} {Q : State → Prop} {K : KG} {ad : Nat → Nat → Nat} {fl : Nat} {g0 : Nat} (C : Cx p s m args meth c cX1_isBare 3 "GlassPalace$Bay" (some .boolean)) (hR : 3 ≤ R.frames ∧ 40 * (3) ≤ R.locals) (hB : cells ≤ R.cells ∧ slots ≤ R.slots) (hg0 : g0 < 30) : ∀ (n : Nat) (u1 : Int32) (u2 : Int32) (M0 : Mem) (H : Heap) (locs : List Loc) (ls : Array Slot), Zd K LC ad M0 s H locs → lv_has ls 3 [(0, .ref (ad 13 g0)), (1, .int u1), (2, .int u2)] → ∀ (q : Int32) (Mq : Mem), f_X1_isBare_l4 fl g0 n u1 u2 M0 = some (q, Mq) → (∀ (H : Heap) (locs : List Loc) (ls : Array Slot), Zd K LC ad Mq s H locs → lv_has ls 3 [(1, .int q)] → W p l e R s m args below meth c H locs cells slots Q (F0 m 33 ls [])) → W p l e R s m args below meth c H locs cells slots Q (F0 m 4 ls []) := by
  intro n
  induction n with
  | zero =>
    intro u1 u2 M0 H locs ls Z hl q Mq hf
    have hf : (none : Option (Int32 × Mem)) = some (q, Mq) := hf
    cases hf
  | succ n ih =>
    intro u1 u2 M0 H locs ls Z hl q Mq hf kx0
    replace hf : f_X1_isBare_l4_b (f_X1_isBare_l4 fl g0 n) fl g0 u1 u2 M0 = some (q, Mq) := hf
    unfold f_X1_isBare_l4_b at hf
    refine lv_iload_n C.x C.b dX1_isBare_4 rfl (lv_at hl 2 rfl) ?_
    refine lv_iconst (v := 5) C.x C.b dX1_isBare_5 (by decide) ?_
    refine lv_icmp_gt (tgt := 33) C.x C.b dX1_isBare_6 (by decide) (fun hc1 => ?_) (fun hc1 => ?_)
    · replace hf := ite_t hf hc1
      obtain ⟨rfl, rfl⟩ := pr_s hf
      exact kx0 _ _ _ Z (lv_sub hl [1] rfl)
    · replace hf := ite_f hf hc1
      refine lv_iload_n C.x C.b dX1_isBare_9 rfl (lv_at hl 1 rfl) ?_
      refine lv_if_eq (tgt := 25) C.x C.b dX1_isBare_10 (by decide) (fun hc2 => ?_) (fun hc2 => ?_)
      · replace hf := ite_t hf hc2
        refine lv_iconst (v := 0) C.x C.b dX1_isBare_25 (by decide) ?_
        refine z_istore_n (lv' := [(1, .int 0), (0, .ref (ad 13 g0)), (2, .int u2)]) C dX1_isBare_26 rfl hl (by decide) rfl (onlast 0 rfl rfl rfl) (fun ls hl => ?_)
        replace hf := lt1_s hf; obtain ⟨x3, ex3, hf⟩ := hf
        refine z_iinc (v := x3) (lv' := [(2, .int x3), (1, .int 0), (0, .ref (ad 13 g0))]) C dX1_isBare_27 hl (k := 2) rfl (by rw [ex3]; rfl) (by decide) rfl (onlast 0 rfl rfl rfl) (fun ls hl => ?_)
        refine lv_goto (tgt := 4) C.x C.b dX1_isBare_30 (by decide) ?_
        exact ih _ _ _ _ _ _ Z (lv_sub hl [2, 1, 0] rfl) _ _ hf kx0
      · replace hf := ite_f hf hc2
        refine lv_aload_n C.x C.b dX1_isBare_13 rfl (lv_at hl 0 rfl) ?_
        refine lv_iload_n C.x C.b dX1_isBare_14 rfl (lv_at hl 2 rfl) ?_
        replace hf := bn2_s hf; obtain ⟨v5, m4, hkm4, hf⟩ := hf
        refine z_cV (As := [.int u2]) (rest := []) (st1 := [.int v5]) C Z mw_X1_has mv_X1_has k_427 (by decide) (z_hR hR (by decide)) (lvC13 hg0) kC13 zc1 (c_X1_has (l := l) (K := K) (ad := ad) hg0 hkm4) rfl hl.1 rfl (Nat.le_of_ble_eq_true rfl) dX1_isBare_15 hB rfl (fun H locs Z => ?_)
        refine lv_if_ne (tgt := 25) C.x C.b dX1_isBare_18 (by decide) (fun hc6 => ?_) (fun hc6 => ?_)
        · replace hf := ite_f hf hc6
          refine lv_iconst (v := 0) C.x C.b dX1_isBare_25 (by decide) ?_
          refine z_istore_n (lv' := [(1, .int 0), (0, .ref (ad 13 g0)), (2, .int u2)]) C dX1_isBare_26 rfl hl (by decide) rfl (onlast 0 rfl rfl rfl) (fun ls hl => ?_)
          replace hf := lt1_s hf; obtain ⟨x7, ex7, hf⟩ := hf
          refine z_iinc (v := x7) (lv' := [(2, .int x7), (1, .int 0), (0, .ref (ad 13 g0))]) C dX1_isBare_27 hl (k := 2) rfl (by rw [ex7]; rfl) (by decide) rfl (onlast 0 rfl rfl rfl) (fun ls hl => ?_)
          refine lv_goto (tgt := 4) C.x C.b dX1_isBare_30 (by decide) ?_
          exact ih _ _ _ _ _ _ Z (lv_sub hl [2, 1, 0] rfl) _ _ hf kx0
        · replace hf := ite_t hf hc6
          refine lv_iconst (v := 1) C.x C.b dX1_isBare_21 (by decide) ?_
          refine lv_goto (tgt := 26) C.x C.b dX1_isBare_22 (by decide) ?_
          refine z_istore_n (lv' := [(1, .int 1), (0, .ref (ad 13 g0)), (2, .int u2)]) C dX1_isBare_26 rfl hl (by decide) rfl (onlast 0 rfl rfl rfl) (fun ls hl => ?_)
          replace hf := lt1_s hf; obtain ⟨x8, ex8, hf⟩ := hf
          refine z_iinc (v := x8) (lv' := [(2, .int x8), (1, .int 1), (0, .ref (ad 13 g0))]) C dX1_isBare_27 hl (k := 2) rfl (by rw [ex8]; rfl) (by decide) rfl (onlast 0 rfl rfl rfl) (fun ls hl => ?_)
          refine lv_goto (tgt := 4) C.x C.b dX1_isBare_30 (by decide) ?_
          exact ih _ _ _ _ _ _ Z (lv_sub hl [2, 1, 0] rfl) _ _ hf kx0
set_option maxRecDepth 100000 in
set_option maxHeartbeats 4000000 in
theorem c_X1_isBare {l : Launch} {K : KG} {ad : Nat → Nat → Nat} {fl : Nat} {o : Nat} {M0 : Mem} {r9 : Int32} {M9 : Mem} (ho : o < 30) (hf : f_X1_isBare fl o M0 = some (r9, M9)) : Met l yX1_isBare (Cond.code yX1_isBare cX1_isBare 3 (some .boolean) :: ztb) (RM (3) 0 0) (zPc K LC ad M0 [.ref (ad 13 o)]) (zQ K LC ad (some (.int r9)) M9) 0 0 (zA ad) := by
  refine z_enter (by decide) (Nat.le_of_ble_eq_true rfl) ?_
  intro p e s m args below meth c ls C hin hargs Z hl
  replace C : Cx p s m args meth c cX1_isBare 3 "GlassPalace$Bay" (some .boolean) := C
  replace hl : lv_has ls 3 [(0, .ref (ad 13 o))] := hl
  have hR : 3 ≤ (RM (3) 0 0).frames ∧ 40 * (3) ≤ (RM (3) 0 0).locals := ⟨Nat.le_refl _, Nat.le_refl _⟩
  have hB : 0 ≤ (RM (3) 0 0).cells ∧ 0 ≤ (RM (3) 0 0).slots := ⟨Nat.zero_le _, Nat.zero_le _⟩
  unfold f_X1_isBare at hf
  refine lv_iconst (v := 1) C.x C.b dX1_isBare_0 (by decide) ?_
  refine z_istore_n (lv' := [(1, .int 1), (0, .ref (ad 13 o))]) C dX1_isBare_1 rfl hl (by decide) rfl (onlast 0 rfl rfl rfl) (fun ls hl => ?_)
  refine lv_iconst (v := 1) C.x C.b dX1_isBare_2 (by decide) ?_
  refine z_istore_n (lv' := [(2, .int 1), (1, .int 1), (0, .ref (ad 13 o))]) C dX1_isBare_3 rfl hl (by decide) rfl (onlast 0 rfl rfl rfl) (fun ls hl => ?_)
  replace hf := bn2_s hf; obtain ⟨q9, m10, hq9, hf⟩ := hf
  refine w_X1_isBare_l4 C hR hB ho fl _ _ _ _ _ _ Z (lv_sub hl [2, 1, 0] rfl) _ _ hq9 (fun H locs ls Z hl => ?_)
  refine lv_iload_n C.x C.b dX1_isBare_33 rfl (lv_at hl 0 rfl) ?_
  replace hf := asr_s hf; obtain ⟨hq11, hf⟩ := hf
  obtain ⟨rfl, rfl⟩ := pr_s hf
  exact z_zret C Z (jz01 hq11) dX1_isBare_34
theorem dX4_place_0 : decode cX4_place 0 = .ok (.aload_n 0, 1) := by decide +kernel
theorem dX4_place_1 : decode cX4_place 1 = .ok (.getfield 21, 3) := by decide +kernel
theorem dX4_place_4 : decode cX4_place 4 = .ok (.bipush 6, 2) := by decide +kernel
theorem dX4_place_6 : decode cX4_place 6 = .ok (.if_icmp .ne 7, 3) := by decide +kernel
theorem dX4_place_9 : decode cX4_place 9 = .ok (.iconst 1, 1) := by decide +kernel
theorem dX4_place_10 : decode cX4_place 10 = .ok (.goto 7, 3) := by decide +kernel
theorem dX4_place_13 : decode cX4_place 13 = .ok (.aload_n 0, 1) := by decide +kernel
theorem dX4_place_14 : decode cX4_place 14 = .ok (.getfield 21, 3) := by decide +kernel
theorem dX4_place_17 : decode cX4_place 17 = .ok (.ireturn, 1) := by decide +kernel
set_option maxRecDepth 100000 in
set_option maxHeartbeats 4000000 in
theorem c_X4_place {l : Launch} {K : KG} {ad : Nat → Nat → Nat} {fl : Nat} {o : Nat} {M0 : Mem} {r9 : Int32} {M9 : Mem} (ho : o < gR M0 999 23 0) (hf : f_X4_place fl o M0 = some (r9, M9)) : Met l yX4_place (Cond.code yX4_place cX4_place 1 (some .int) :: ztb) (RM (1) 0 0) (zPc K LC ad M0 [.ref (ad 23 o)]) (zQ K LC ad (some (.int r9)) M9) 0 0 (zA ad) := by
  refine z_enter (by decide) (Nat.le_of_ble_eq_true rfl) ?_
  intro p e s m args below meth c ls C hin hargs Z hl
  replace C : Cx p s m args meth c cX4_place 1 "GlassPalace$Lot" (some .int) := C
  replace hl : lv_has ls 1 [(0, .ref (ad 23 o))] := hl
  have hR : 1 ≤ (RM (1) 0 0).frames ∧ 40 * (1) ≤ (RM (1) 0 0).locals := ⟨Nat.le_refl _, Nat.le_refl _⟩
  have hB : 0 ≤ (RM (1) 0 0).cells ∧ 0 ≤ (RM (1) 0 0).slots := ⟨Nat.zero_le _, Nat.zero_le _⟩
  unfold f_X4_place at hf
  refine lv_aload_n C.x C.b dX4_place_0 rfl (lv_at hl 0 rfl) ?_
  refine z_get C Z (lvC23 ho) kC23 zc4 zin4 1 (by decide) k_460 rfl svC23_1 dX4_place_1 ?_
  refine lv_bipush (v := 6) C.x C.b dX4_place_4 (by decide) ?_
  refine lv_icmp_ne (tgt := 13) C.x C.b dX4_place_6 (by decide) (fun hc1 => ?_) (fun hc1 => ?_)
  · replace hf := ite_f hf hc1
    refine lv_aload_n C.x C.b dX4_place_13 rfl (lv_at hl 0 rfl) ?_
    refine z_get C Z (lvC23 ho) kC23 zc4 zin4 1 (by decide) k_460 rfl svC23_1 dX4_place_14 ?_
    obtain ⟨rfl, rfl⟩ := pr_s hf
    exact z_iret C Z dX4_place_17
  · replace hf := ite_t hf hc1
    refine lv_iconst (v := 1) C.x C.b dX4_place_9 (by decide) ?_
    refine lv_goto (tgt := 17) C.x C.b dX4_place_10 (by decide) ?_
    obtain ⟨rfl, rfl⟩ := pr_s hf
    exact z_iret C Z dX4_place_17
theorem dX1_put_0 : decode cX1_put 0 = .ok (.aload_n 1, 1) := by decide +kernel
theorem dX1_put_1 : decode cX1_put 1 = .ok (.invokevirtual 41, 3) := by decide +kernel
theorem dX1_put_4 : decode cX1_put 4 = .ok (.istore_n 2, 1) := by decide +kernel
theorem dX1_put_5 : decode cX1_put 5 = .ok (.aload_n 0, 1) := by decide +kernel
theorem dX1_put_6 : decode cX1_put 6 = .ok (.iload_n 2, 1) := by decide +kernel
theorem dX1_put_7 : decode cX1_put 7 = .ok (.invokevirtual 45, 3) := by decide +kernel
theorem dX1_put_10 : decode cX1_put 10 = .ok (.iconst 1, 1) := by decide +kernel
theorem dX1_put_11 : decode cX1_put 11 = .ok (.if_icmp .ge 4, 3) := by decide +kernel
theorem dX1_put_14 : decode cX1_put 14 = .ok (.return_, 1) := by decide +kernel
theorem dX1_put_15 : decode cX1_put 15 = .ok (.iload_n 2, 1) := by decide +kernel
theorem dX1_put_16 : decode cX1_put 16 = .ok (.iconst 3, 1) := by decide +kernel
theorem dX1_put_17 : decode cX1_put 17 = .ok (.if_icmp .ne 33, 3) := by decide +kernel
theorem dX1_put_20 : decode cX1_put 20 = .ok (.aload_n 0, 1) := by decide +kernel
theorem dX1_put_21 : decode cX1_put 21 = .ok (.getfield 30, 3) := by decide +kernel
theorem dX1_put_24 : decode cX1_put 24 = .ok (.ifCond .lt 26, 3) := by decide +kernel
theorem dX1_put_27 : decode cX1_put 27 = .ok (.aload_n 0, 1) := by decide +kernel
theorem dX1_put_28 : decode cX1_put 28 = .ok (.getfield 21, 3) := by decide +kernel
theorem dX1_put_31 : decode cX1_put 31 = .ok (.aload_n 0, 1) := by decide +kernel
theorem dX1_put_32 : decode cX1_put 32 = .ok (.getfield 30, 3) := by decide +kernel
theorem dX1_put_35 : decode cX1_put 35 = .ok (.aload_n 1, 1) := by decide +kernel
theorem dX1_put_36 : decode cX1_put 36 = .ok (.aastore, 1) := by decide +kernel
theorem dX1_put_37 : decode cX1_put 37 = .ok (.aload_n 0, 1) := by decide +kernel
theorem dX1_put_38 : decode cX1_put 38 = .ok (.dup, 1) := by decide +kernel
theorem dX1_put_39 : decode cX1_put 39 = .ok (.getfield 30, 3) := by decide +kernel
theorem dX1_put_42 : decode cX1_put 42 = .ok (.iconst 1, 1) := by decide +kernel
theorem dX1_put_43 : decode cX1_put 43 = .ok (.iadd, 1) := by decide +kernel
theorem dX1_put_44 : decode cX1_put 44 = .ok (.putfield 30, 3) := by decide +kernel
theorem dX1_put_47 : decode cX1_put 47 = .ok (.goto 20, 3) := by decide +kernel
theorem dX1_put_50 : decode cX1_put 50 = .ok (.iload_n 2, 1) := by decide +kernel
theorem dX1_put_51 : decode cX1_put 51 = .ok (.iconst 1, 1) := by decide +kernel
theorem dX1_put_52 : decode cX1_put 52 = .ok (.if_icmp .lt 15, 3) := by decide +kernel
theorem dX1_put_55 : decode cX1_put 55 = .ok (.iload_n 2, 1) := by decide +kernel
theorem dX1_put_56 : decode cX1_put 56 = .ok (.iconst 5, 1) := by decide +kernel
theorem dX1_put_57 : decode cX1_put 57 = .ok (.if_icmp .gt 10, 3) := by decide +kernel
theorem dX1_put_60 : decode cX1_put 60 = .ok (.aload_n 0, 1) := by decide +kernel
theorem dX1_put_61 : decode cX1_put 61 = .ok (.getfield 17, 3) := by decide +kernel
theorem dX1_put_64 : decode cX1_put 64 = .ok (.iload_n 2, 1) := by decide +kernel
theorem dX1_put_65 : decode cX1_put 65 = .ok (.aload_n 1, 1) := by decide +kernel
theorem dX1_put_66 : decode cX1_put 66 = .ok (.aastore, 1) := by decide +kernel
theorem dX1_put_67 : decode cX1_put 67 = .ok (.iload_n 2, 1) := by decide +kernel
theorem dX1_put_68 : decode cX1_put 68 = .ok (.iconst 4, 1) := by decide +kernel
theorem dX1_put_69 : decode cX1_put 69 = .ok (.if_icmp .ne 8, 3) := by decide +kernel
theorem dX1_put_72 : decode cX1_put 72 = .ok (.aload_n 0, 1) := by decide +kernel
theorem dX1_put_73 : decode cX1_put 73 = .ok (.iconst (-1), 1) := by decide +kernel
theorem dX1_put_74 : decode cX1_put 74 = .ok (.putfield 9, 3) := by decide +kernel
theorem dX1_put_77 : decode cX1_put 77 = .ok (.aload_n 1, 1) := by decide +kernel
theorem dX1_put_78 : decode cX1_put 78 = .ok (.dup, 1) := by decide +kernel
theorem dX1_put_79 : decode cX1_put 79 = .ok (.getfield 49, 3) := by decide +kernel
theorem dX1_put_82 : decode cX1_put 82 = .ok (.iconst 1, 1) := by decide +kernel
theorem dX1_put_83 : decode cX1_put 83 = .ok (.iadd, 1) := by decide +kernel
theorem dX1_put_84 : decode cX1_put 84 = .ok (.putfield 49, 3) := by decide +kernel
theorem dX1_put_87 : decode cX1_put 87 = .ok (.return_, 1) := by decide +kernel
set_option maxRecDepth 100000 in
set_option maxHeartbeats 4000000 in
theorem w_X1_put_b77 {p : Program} {l : Launch} {e : Env} {s : State} {m : MethodId} {args : Array Value} {below : List Frame} {meth : Method} {c : Code} {K : KG} {ad : Nat → Nat → Nat} {fl : Nat} {H : Heap} {locs : List Loc} {ls : Array Slot} {g1 : Nat} {M0 : Mem} {M9 : Mem} (C : Cx p s m args meth c cX1_put 3 "GlassPalace$Bay" none) (hR : 4 ≤ (RM (4) 0 0).frames ∧ 40 * (4) ≤ (RM (4) 0 0).locals) (hB : 0 ≤ (RM (4) 0 0).cells ∧ 0 ≤ (RM (4) 0 0).slots) (Z : Zd K LC ad M0 s H locs) (hl : lv_has ls 3 [(1, rf (ad 23) g1)]) (hf : f_X1_put_b77 fl g1 M0 = some M9) : W p l e (RM (4) 0 0) s m args below meth c H locs 0 0 (MQ below (zQ K LC ad (none) M9) args s 0 0 (zA ad)) (F0 m 77 ls []) := by
  unfold f_X1_put_b77 at hf
  refine z_aload_n C dX1_put_77 rfl (lv_at hl 0 rfl) ?_
  refine lv_dup C.x C.b dX1_put_78 (rf_cat _ _) ?_
  replace hf := drf_s hf; obtain ⟨j13, ej15, hj14, hf⟩ := hf
  subst ej15
  refine z_nn [] (y := j13 + 1) rfl ?_
  refine z_get C Z (lvC23 hj14) kC23 zc4 zin4 8 (by decide) k_479 rfl svC23_8 dX1_put_79 ?_
  refine lv_iconst (v := 1) C.x C.b dX1_put_82 (by decide) ?_
  refine lv_iadd C.x C.b dX1_put_83 ?_
  replace hf := lt1_s hf; obtain ⟨m16, em16, hf⟩ := hf
  refine z_put (M1 := m16) C Z (lvC23 hj14) (by decide) kC23 zc4 zin4 tyX4_ok nmX4 8 (by decide) k_479 rfl (zUp_I em16 stC23_8u) (Or.inl rfl) rfl rfl dX1_put_84 (fun H locs Z => ?_)
  obtain rfl := sm_s hf
  exact z_vret C Z dX1_put_87
set_option maxRecDepth 100000 in
set_option maxHeartbeats 4000000 in
theorem w_X1_put_b67 {p : Program} {l : Launch} {e : Env} {s : State} {m : MethodId} {args : Array Value} {below : List Frame} {meth : Method} {c : Code} {K : KG} {ad : Nat → Nat → Nat} {fl : Nat} {H : Heap} {locs : List Loc} {ls : Array Slot} {g0 : Nat} {g1 : Nat} {g2 : Int32} {M0 : Mem} {M9 : Mem} (C : Cx p s m args meth c cX1_put 3 "GlassPalace$Bay" none) (hR : 4 ≤ (RM (4) 0 0).frames ∧ 40 * (4) ≤ (RM (4) 0 0).locals) (hB : 0 ≤ (RM (4) 0 0).cells ∧ 0 ≤ (RM (4) 0 0).slots) (hg0 : g0 < 30) (Z : Zd K LC ad M0 s H locs) (hl : lv_has ls 3 [(0, .ref (ad 13 g0)), (1, rf (ad 23) g1), (2, .int g2)]) (hf : f_X1_put_b67 fl g0 g1 g2 M0 = some M9) : W p l e (RM (4) 0 0) s m args below meth c H locs 0 0 (MQ below (zQ K LC ad (none) M9) args s 0 0 (zA ad)) (F0 m 67 ls []) := by
  unfold f_X1_put_b67 at hf
  refine lv_iload_n C.x C.b dX1_put_67 rfl (lv_at hl 2 rfl) ?_
  refine lv_iconst (v := 4) C.x C.b dX1_put_68 (by decide) ?_
  replace hf := bn1_s hf; obtain ⟨m12, hq11, hf⟩ := hf
  have kq11 : ∀ (H : Heap) (locs : List Loc) (ls : Array Slot), Zd K LC ad m12 s H locs → lv_has ls 3 [(1, rf (ad 23) g1)] → W p l e (RM (4) 0 0) s m args below meth c H locs 0 0 (MQ below (zQ K LC ad (none) M9) args s 0 0 (zA ad)) (F0 m 77 ls []) := by
    intro H locs ls Z hl
    exact w_X1_put_b77 C hR hB  Z (lv_sub hl [0] rfl) hf
  clear hf
  refine lv_icmp_ne (tgt := 77) C.x C.b dX1_put_69 (by decide) (fun hc17 => ?_) (fun hc17 => ?_)
  · have hf := ite_f hq11 hc17; clear hq11
    obtain rfl := sm_s hf
    exact kq11 _ _ _ Z (lv_sub hl [1] rfl)
  · have hf := ite_t hq11 hc17; clear hq11
    refine lv_aload_n C.x C.b dX1_put_72 rfl (lv_at hl 0 rfl) ?_
    refine lv_iconst (v := (-1)) C.x C.b dX1_put_73 (by decide) ?_
    replace hf := lt1_s hf; obtain ⟨m18, em18, hf⟩ := hf
    refine z_put (M1 := m18) C Z (lvC13 hg0) (by decide) kC13 zc1 zin1 tyX1_ok nmX1 5 (by decide) k_322 rfl (zUp_I em18 stC13_5u) (Or.inl rfl) rfl rfl dX1_put_74 (fun H locs Z => ?_)
    obtain rfl := sm_s hf
    exact kq11 _ _ _ Z (lv_sub hl [1] rfl)
set_option maxRecDepth 100000 in
set_option maxHeartbeats 4000000 in
theorem c_X1_put {l : Launch} {K : KG} {ad : Nat → Nat → Nat} {fl : Nat} {o : Nat} {a1 : Nat} {M0 : Mem} {M9 : Mem} (ho : o < 30) (hf : f_X1_put fl o a1 M0 = some M9) : Met l yX1_put (Cond.code yX1_put cX1_put 3 none :: ztb) (RM (4) 0 0) (zPc K LC ad M0 [.ref (ad 13 o), rf (ad 23) a1]) (zQ K LC ad (none) M9) 0 0 (zA ad) := by
  refine z_enter (by decide) (by simp [lg_sl, rf_cat, cat_i, cat_l, cat_r, cat_n]) ?_
  intro p e s m args below meth c ls C hin hargs Z hl
  replace C : Cx p s m args meth c cX1_put 3 "GlassPalace$Bay" none := C
  replace hl : lv_has ls 3 [(0, .ref (ad 13 o)), (1, rf (ad 23) a1)] := by simpa [lv_args, rf_cat, cat_i, cat_l, cat_r, cat_n] using hl
  have hR : 4 ≤ (RM (4) 0 0).frames ∧ 40 * (4) ≤ (RM (4) 0 0).locals := ⟨Nat.le_refl _, Nat.le_refl _⟩
  have hB : 0 ≤ (RM (4) 0 0).cells ∧ 0 ≤ (RM (4) 0 0).slots := ⟨Nat.zero_le _, Nat.zero_le _⟩
  unfold f_X1_put at hf
  refine z_aload_n C dX1_put_0 rfl (lv_at hl 1 rfl) ?_
  replace hf := drf_s hf; obtain ⟨j1, ej3, hj2, hf⟩ := hf
  subst ej3
  refine z_nn [] (y := j1 + 1) rfl ?_
  replace hf := bn2_s hf; obtain ⟨v5, m4, hkm4, hf⟩ := hf
  refine z_cV (As := []) (rest := []) (st1 := [.int v5]) C Z mw_X4_place mv_X4_place k_634 (by decide) (z_hR hR (by decide)) (lvC23 hj2) kC23 zc4 (c_X4_place (l := l) (K := K) (ad := ad) hj2 hkm4) rfl hl.1 rfl (Nat.le_of_ble_eq_true rfl) dX1_put_1 hB rfl (fun H locs Z => ?_)
  refine z_istore_n (lv' := [(2, .int v5), (0, .ref (ad 13 o)), (1, .ref (ad 23 j1))]) C dX1_put_4 rfl hl (by decide) rfl (onlast 1 rfl rfl rfl) (fun ls hl => ?_)
  refine lv_aload_n C.x C.b dX1_put_5 rfl (lv_at hl 1 rfl) ?_
  refine lv_iload_n C.x C.b dX1_put_6 rfl (lv_at hl 0 rfl) ?_
  replace hf := bn2_s hf; obtain ⟨v7, m6, hkm6, hf⟩ := hf
  refine z_cV (As := [.int v5]) (rest := []) (st1 := [.int v7]) C Z mw_X1_room mv_X1_room k_635 (by decide) (z_hR hR (by decide)) (lvC13 ho) kC13 zc1 (c_X1_room (l := l) (K := K) (ad := ad) ho hkm6) rfl hl.1 rfl (Nat.le_of_ble_eq_true rfl) dX1_put_7 hB rfl (fun H locs Z => ?_)
  refine lv_iconst (v := 1) C.x C.b dX1_put_10 (by decide) ?_
  refine lv_icmp_ge (tgt := 15) C.x C.b dX1_put_11 (by decide) (fun hc8 => ?_) (fun hc8 => ?_)
  · replace hf := ite_t hf hc8
    refine lv_iload_n C.x C.b dX1_put_15 rfl (lv_at hl 0 rfl) ?_
    refine lv_iconst (v := 3) C.x C.b dX1_put_16 (by decide) ?_
    replace hf := bn1_s hf; obtain ⟨m10, hq9, hf⟩ := hf
    have kq9 : ∀ (H : Heap) (locs : List Loc) (ls : Array Slot), Zd K LC ad m10 s H locs → lv_has ls 3 [(0, .ref (ad 13 o)), (1, .ref (ad 23 j1)), (2, .int v5)] → W p l e (RM (4) 0 0) s m args below meth c H locs 0 0 (MQ below (zQ K LC ad (none) M9) args s 0 0 (zA ad)) (F0 m 67 ls []) := by
      intro H locs ls Z hl
      exact w_X1_put_b67 C hR hB ho Z (lv_sub hl [0, 1, 2] rfl) hf
    clear hf
    refine lv_icmp_ne (tgt := 50) C.x C.b dX1_put_17 (by decide) (fun hc19 => ?_) (fun hc19 => ?_)
    · have hf := ite_f hq9 hc19; clear hq9
      refine lv_iload_n C.x C.b dX1_put_50 rfl (lv_at hl 0 rfl) ?_
      refine lv_iconst (v := 1) C.x C.b dX1_put_51 (by decide) ?_
      refine lv_icmp_lt (tgt := 67) C.x C.b dX1_put_52 (by decide) (fun hc20 => ?_) (fun hc20 => ?_)
      · replace hf := ite_t hf hc20
        obtain rfl := sm_s hf
        exact kq9 _ _ _ Z (lv_sub hl [1, 2, 0] rfl)
      · replace hf := ite_f hf hc20
        refine lv_iload_n C.x C.b dX1_put_55 rfl (lv_at hl 0 rfl) ?_
        refine lv_iconst (v := 5) C.x C.b dX1_put_56 (by decide) ?_
        refine lv_icmp_gt (tgt := 67) C.x C.b dX1_put_57 (by decide) (fun hc21 => ?_) (fun hc21 => ?_)
        · replace hf := ite_t hf hc21
          obtain rfl := sm_s hf
          exact kq9 _ _ _ Z (lv_sub hl [1, 2, 0] rfl)
        · replace hf := ite_f hf hc21
          refine lv_aload_n C.x C.b dX1_put_60 rfl (lv_at hl 1 rfl) ?_
          refine z_get C Z (lvC13 ho) kC13 zc1 zin1 6 (by decide) k_325 rfl svC13_6 dX1_put_61 ?_
          refine lv_iload_n C.x C.b dX1_put_64 rfl (lv_at hl 0 rfl) ?_
          refine lv_aload_n C.x C.b dX1_put_65 rfl (lv_at hl 2 rfl) ?_
          replace hf := asr_s hf; obtain ⟨hq22, hf⟩ := hf
          replace hf := asr_s hf; obtain ⟨hq23, hf⟩ := hf
          replace hf := lt1_s hf; obtain ⟨m24, em24, hf⟩ := hf
          refine z_aast (M1 := m24) (x := (j1 + 1)) C Z (lvC14 ho) (by decide) kC14 (t := 3) rfl kC23 zc4 (fun j ej => lvC23 (by omega)) hq22 em24 stC14 dX1_put_66 (fun H locs Z => ?_)
          obtain rfl := sm_s hf
          exact kq9 _ _ _ Z (lv_sub hl [1, 2, 0] rfl)
    · have hf := ite_t hq9 hc19; clear hq9
      refine lv_aload_n C.x C.b dX1_put_20 rfl (lv_at hl 1 rfl) ?_
      refine z_get C Z (lvC13 ho) kC13 zc1 zin1 4 (by decide) k_320 rfl svC13_4 dX1_put_21 ?_
      refine lv_if_lt (tgt := 50) C.x C.b dX1_put_24 (by decide) (fun hc25 => ?_) (fun hc25 => ?_)
      · replace hf := ite_t hf hc25
        refine lv_iload_n C.x C.b dX1_put_50 rfl (lv_at hl 0 rfl) ?_
        refine lv_iconst (v := 1) C.x C.b dX1_put_51 (by decide) ?_
        refine lv_icmp_lt (tgt := 67) C.x C.b dX1_put_52 (by decide) (fun hc26 => ?_) (fun hc26 => ?_)
        · replace hf := ite_t hf hc26
          obtain rfl := sm_s hf
          exact kq9 _ _ _ Z (lv_sub hl [1, 2, 0] rfl)
        · replace hf := ite_f hf hc26
          refine lv_iload_n C.x C.b dX1_put_55 rfl (lv_at hl 0 rfl) ?_
          refine lv_iconst (v := 5) C.x C.b dX1_put_56 (by decide) ?_
          refine lv_icmp_gt (tgt := 67) C.x C.b dX1_put_57 (by decide) (fun hc27 => ?_) (fun hc27 => ?_)
          · replace hf := ite_t hf hc27
            obtain rfl := sm_s hf
            exact kq9 _ _ _ Z (lv_sub hl [1, 2, 0] rfl)
          · replace hf := ite_f hf hc27
            refine lv_aload_n C.x C.b dX1_put_60 rfl (lv_at hl 1 rfl) ?_
            refine z_get C Z (lvC13 ho) kC13 zc1 zin1 6 (by decide) k_325 rfl svC13_6 dX1_put_61 ?_
            refine lv_iload_n C.x C.b dX1_put_64 rfl (lv_at hl 0 rfl) ?_
            refine lv_aload_n C.x C.b dX1_put_65 rfl (lv_at hl 2 rfl) ?_
            replace hf := asr_s hf; obtain ⟨hq28, hf⟩ := hf
            replace hf := asr_s hf; obtain ⟨hq29, hf⟩ := hf
            replace hf := lt1_s hf; obtain ⟨m30, em30, hf⟩ := hf
            refine z_aast (M1 := m30) (x := (j1 + 1)) C Z (lvC14 ho) (by decide) kC14 (t := 3) rfl kC23 zc4 (fun j ej => lvC23 (by omega)) hq28 em30 stC14 dX1_put_66 (fun H locs Z => ?_)
            obtain rfl := sm_s hf
            exact kq9 _ _ _ Z (lv_sub hl [1, 2, 0] rfl)
      · replace hf := ite_f hf hc25
        refine lv_aload_n C.x C.b dX1_put_27 rfl (lv_at hl 1 rfl) ?_
        refine z_get C Z (lvC13 ho) kC13 zc1 zin1 7 (by decide) k_326 rfl svC13_7 dX1_put_28 ?_
        refine lv_aload_n C.x C.b dX1_put_31 rfl (lv_at hl 1 rfl) ?_
        refine z_get C Z (lvC13 ho) kC13 zc1 zin1 4 (by decide) k_320 rfl svC13_4 dX1_put_32 ?_
        refine lv_aload_n C.x C.b dX1_put_35 rfl (lv_at hl 2 rfl) ?_
        replace hf := asr_s hf; obtain ⟨hq31, hf⟩ := hf
        replace hf := asr_s hf; obtain ⟨hq32, hf⟩ := hf
        replace hf := lt1_s hf; obtain ⟨m33, em33, hf⟩ := hf
        refine z_aast (M1 := m33) (x := (j1 + 1)) C Z (lvC15 ho) (by decide) kC15 (t := 3) rfl kC23 zc4 (fun j ej => lvC23 (by omega)) hq31 em33 stC15 dX1_put_36 (fun H locs Z => ?_)
        refine lv_aload_n C.x C.b dX1_put_37 rfl (lv_at hl 1 rfl) ?_
        refine lv_dup C.x C.b dX1_put_38 rfl ?_
        refine z_get C Z (lvC13 ho) kC13 zc1 zin1 4 (by decide) k_320 rfl svC13_4 dX1_put_39 ?_
        refine lv_iconst (v := 1) C.x C.b dX1_put_42 (by decide) ?_
        refine lv_iadd C.x C.b dX1_put_43 ?_
        replace hf := lt1_s hf; obtain ⟨m34, em34, hf⟩ := hf
        refine z_put (M1 := m34) C Z (lvC13 ho) (by decide) kC13 zc1 zin1 tyX1_ok nmX1 4 (by decide) k_320 rfl (zUp_I em34 stC13_4u) (Or.inl rfl) rfl rfl dX1_put_44 (fun H locs Z => ?_)
        refine lv_goto (tgt := 67) C.x C.b dX1_put_47 (by decide) ?_
        obtain rfl := sm_s hf
        exact kq9 _ _ _ Z (lv_sub hl [1, 2, 0] rfl)
  · replace hf := ite_f hf hc8
    obtain rfl := sm_s hf
    exact z_vret C Z dX1_put_14
theorem dX1_remove_0 : decode cX1_remove 0 = .ok (.aload_n 1, 1) := by decide +kernel
theorem dX1_remove_1 : decode cX1_remove 1 = .ok (.invokevirtual 41, 3) := by decide +kernel
theorem dX1_remove_4 : decode cX1_remove 4 = .ok (.istore_n 2, 1) := by decide +kernel
theorem dX1_remove_5 : decode cX1_remove 5 = .ok (.iload_n 2, 1) := by decide +kernel
theorem dX1_remove_6 : decode cX1_remove 6 = .ok (.iconst 3, 1) := by decide +kernel
theorem dX1_remove_7 : decode cX1_remove 7 = .ok (.if_icmp .ne 16, 3) := by decide +kernel
theorem dX1_remove_10 : decode cX1_remove 10 = .ok (.aload_n 0, 1) := by decide +kernel
theorem dX1_remove_11 : decode cX1_remove 11 = .ok (.dup, 1) := by decide +kernel
theorem dX1_remove_12 : decode cX1_remove 12 = .ok (.getfield 30, 3) := by decide +kernel
theorem dX1_remove_15 : decode cX1_remove 15 = .ok (.iconst 1, 1) := by decide +kernel
theorem dX1_remove_16 : decode cX1_remove 16 = .ok (.isub, 1) := by decide +kernel
theorem dX1_remove_17 : decode cX1_remove 17 = .ok (.putfield 30, 3) := by decide +kernel
theorem dX1_remove_20 : decode cX1_remove 20 = .ok (.goto 20, 3) := by decide +kernel
theorem dX1_remove_23 : decode cX1_remove 23 = .ok (.iload_n 2, 1) := by decide +kernel
theorem dX1_remove_24 : decode cX1_remove 24 = .ok (.iconst 1, 1) := by decide +kernel
theorem dX1_remove_25 : decode cX1_remove 25 = .ok (.if_icmp .lt 15, 3) := by decide +kernel
theorem dX1_remove_28 : decode cX1_remove 28 = .ok (.iload_n 2, 1) := by decide +kernel
theorem dX1_remove_29 : decode cX1_remove 29 = .ok (.iconst 5, 1) := by decide +kernel
theorem dX1_remove_30 : decode cX1_remove 30 = .ok (.if_icmp .gt 10, 3) := by decide +kernel
theorem dX1_remove_33 : decode cX1_remove 33 = .ok (.aload_n 0, 1) := by decide +kernel
theorem dX1_remove_34 : decode cX1_remove 34 = .ok (.getfield 17, 3) := by decide +kernel
theorem dX1_remove_37 : decode cX1_remove 37 = .ok (.iload_n 2, 1) := by decide +kernel
theorem dX1_remove_38 : decode cX1_remove 38 = .ok (.aconst_null, 1) := by decide +kernel
theorem dX1_remove_39 : decode cX1_remove 39 = .ok (.aastore, 1) := by decide +kernel
theorem dX1_remove_40 : decode cX1_remove 40 = .ok (.aload_n 1, 1) := by decide +kernel
theorem dX1_remove_41 : decode cX1_remove 41 = .ok (.dup, 1) := by decide +kernel
theorem dX1_remove_42 : decode cX1_remove 42 = .ok (.getfield 49, 3) := by decide +kernel
theorem dX1_remove_45 : decode cX1_remove 45 = .ok (.iconst 1, 1) := by decide +kernel
theorem dX1_remove_46 : decode cX1_remove 46 = .ok (.isub, 1) := by decide +kernel
theorem dX1_remove_47 : decode cX1_remove 47 = .ok (.putfield 49, 3) := by decide +kernel
theorem dX1_remove_50 : decode cX1_remove 50 = .ok (.return_, 1) := by decide +kernel
set_option maxRecDepth 100000 in
set_option maxHeartbeats 4000000 in
theorem w_X1_remove_b40 {p : Program} {l : Launch} {e : Env} {s : State} {m : MethodId} {args : Array Value} {below : List Frame} {meth : Method} {c : Code} {K : KG} {ad : Nat → Nat → Nat} {fl : Nat} {H : Heap} {locs : List Loc} {ls : Array Slot} {g1 : Nat} {M0 : Mem} {M9 : Mem} (C : Cx p s m args meth c cX1_remove 3 "GlassPalace$Bay" none) (hR : 2 ≤ (RM (2) 0 0).frames ∧ 40 * (2) ≤ (RM (2) 0 0).locals) (hB : 0 ≤ (RM (2) 0 0).cells ∧ 0 ≤ (RM (2) 0 0).slots) (Z : Zd K LC ad M0 s H locs) (hl : lv_has ls 3 [(1, rf (ad 23) g1)]) (hf : f_X1_remove_b40 fl g1 M0 = some M9) : W p l e (RM (2) 0 0) s m args below meth c H locs 0 0 (MQ below (zQ K LC ad (none) M9) args s 0 0 (zA ad)) (F0 m 40 ls []) := by
  unfold f_X1_remove_b40 at hf
  refine z_aload_n C dX1_remove_40 rfl (lv_at hl 0 rfl) ?_
  refine lv_dup C.x C.b dX1_remove_41 (rf_cat _ _) ?_
  replace hf := drf_s hf; obtain ⟨j8, ej10, hj9, hf⟩ := hf
  subst ej10
  refine z_nn [] (y := j8 + 1) rfl ?_
  refine z_get C Z (lvC23 hj9) kC23 zc4 zin4 8 (by decide) k_479 rfl svC23_8 dX1_remove_42 ?_
  refine lv_iconst (v := 1) C.x C.b dX1_remove_45 (by decide) ?_
  refine lv_isub C.x C.b dX1_remove_46 ?_
  replace hf := lt1_s hf; obtain ⟨m11, em11, hf⟩ := hf
  refine z_put (M1 := m11) C Z (lvC23 hj9) (by decide) kC23 zc4 zin4 tyX4_ok nmX4 8 (by decide) k_479 rfl (zUp_I em11 stC23_8u) (Or.inl rfl) rfl rfl dX1_remove_47 (fun H locs Z => ?_)
  obtain rfl := sm_s hf
  exact z_vret C Z dX1_remove_50
set_option maxRecDepth 100000 in
set_option maxHeartbeats 4000000 in
theorem c_X1_remove {l : Launch} {K : KG} {ad : Nat → Nat → Nat} {fl : Nat} {o : Nat} {a1 : Nat} {M0 : Mem} {M9 : Mem} (ho : o < 30) (hf : f_X1_remove fl o a1 M0 = some M9) : Met l yX1_remove (Cond.code yX1_remove cX1_remove 3 none :: ztb) (RM (2) 0 0) (zPc K LC ad M0 [.ref (ad 13 o), rf (ad 23) a1]) (zQ K LC ad (none) M9) 0 0 (zA ad) := by
  refine z_enter (by decide) (by simp [lg_sl, rf_cat, cat_i, cat_l, cat_r, cat_n]) ?_
  intro p e s m args below meth c ls C hin hargs Z hl
  replace C : Cx p s m args meth c cX1_remove 3 "GlassPalace$Bay" none := C
  replace hl : lv_has ls 3 [(0, .ref (ad 13 o)), (1, rf (ad 23) a1)] := by simpa [lv_args, rf_cat, cat_i, cat_l, cat_r, cat_n] using hl
  have hR : 2 ≤ (RM (2) 0 0).frames ∧ 40 * (2) ≤ (RM (2) 0 0).locals := ⟨Nat.le_refl _, Nat.le_refl _⟩
  have hB : 0 ≤ (RM (2) 0 0).cells ∧ 0 ≤ (RM (2) 0 0).slots := ⟨Nat.zero_le _, Nat.zero_le _⟩
  unfold f_X1_remove at hf
  refine z_aload_n C dX1_remove_0 rfl (lv_at hl 1 rfl) ?_
  replace hf := drf_s hf; obtain ⟨j1, ej3, hj2, hf⟩ := hf
  subst ej3
  refine z_nn [] (y := j1 + 1) rfl ?_
  replace hf := bn2_s hf; obtain ⟨v5, m4, hkm4, hf⟩ := hf
  refine z_cV (As := []) (rest := []) (st1 := [.int v5]) C Z mw_X4_place mv_X4_place k_634 (by decide) (z_hR hR (by decide)) (lvC23 hj2) kC23 zc4 (c_X4_place (l := l) (K := K) (ad := ad) hj2 hkm4) rfl hl.1 rfl (Nat.le_of_ble_eq_true rfl) dX1_remove_1 hB rfl (fun H locs Z => ?_)
  refine z_istore_n (lv' := [(2, .int v5), (0, .ref (ad 13 o)), (1, .ref (ad 23 j1))]) C dX1_remove_4 rfl hl (by decide) rfl (onlast 1 rfl rfl rfl) (fun ls hl => ?_)
  refine lv_iload_n C.x C.b dX1_remove_5 rfl (lv_at hl 0 rfl) ?_
  refine lv_iconst (v := 3) C.x C.b dX1_remove_6 (by decide) ?_
  replace hf := bn1_s hf; obtain ⟨m7, hq6, hf⟩ := hf
  have kq6 : ∀ (H : Heap) (locs : List Loc) (ls : Array Slot), Zd K LC ad m7 s H locs → lv_has ls 3 [(1, .ref (ad 23 j1))] → W p l e (RM (2) 0 0) s m args below meth c H locs 0 0 (MQ below (zQ K LC ad (none) M9) args s 0 0 (zA ad)) (F0 m 40 ls []) := by
    intro H locs ls Z hl
    exact w_X1_remove_b40 C hR hB  Z (lv_sub hl [0] rfl) hf
  clear hf
  refine lv_icmp_ne (tgt := 23) C.x C.b dX1_remove_7 (by decide) (fun hc12 => ?_) (fun hc12 => ?_)
  · have hf := ite_f hq6 hc12; clear hq6
    refine lv_iload_n C.x C.b dX1_remove_23 rfl (lv_at hl 0 rfl) ?_
    refine lv_iconst (v := 1) C.x C.b dX1_remove_24 (by decide) ?_
    refine lv_icmp_lt (tgt := 40) C.x C.b dX1_remove_25 (by decide) (fun hc13 => ?_) (fun hc13 => ?_)
    · replace hf := ite_t hf hc13
      obtain rfl := sm_s hf
      exact kq6 _ _ _ Z (lv_sub hl [2] rfl)
    · replace hf := ite_f hf hc13
      refine lv_iload_n C.x C.b dX1_remove_28 rfl (lv_at hl 0 rfl) ?_
      refine lv_iconst (v := 5) C.x C.b dX1_remove_29 (by decide) ?_
      refine lv_icmp_gt (tgt := 40) C.x C.b dX1_remove_30 (by decide) (fun hc14 => ?_) (fun hc14 => ?_)
      · replace hf := ite_t hf hc14
        obtain rfl := sm_s hf
        exact kq6 _ _ _ Z (lv_sub hl [2] rfl)
      · replace hf := ite_f hf hc14
        refine lv_aload_n C.x C.b dX1_remove_33 rfl (lv_at hl 1 rfl) ?_
        refine z_get C Z (lvC13 ho) kC13 zc1 zin1 6 (by decide) k_325 rfl svC13_6 dX1_remove_34 ?_
        refine lv_iload_n C.x C.b dX1_remove_37 rfl (lv_at hl 0 rfl) ?_
        refine lv_null C.x C.b dX1_remove_38 ?_
        replace hf := asr_s hf; obtain ⟨hq15, hf⟩ := hf
        replace hf := asr_s hf; obtain ⟨hq16, hf⟩ := hf
        replace hf := lt1_s hf; obtain ⟨m17, em17, hf⟩ := hf
        refine z_aast (M1 := m17) (x := 0) C Z (lvC14 ho) (by decide) kC14 (t := 3) rfl kC23 zc4 (fun j ej => lvC23 (by omega)) hq15 em17 stC14 dX1_remove_39 (fun H locs Z => ?_)
        obtain rfl := sm_s hf
        exact kq6 _ _ _ Z (lv_sub hl [2] rfl)
  · have hf := ite_t hq6 hc12; clear hq6
    refine lv_aload_n C.x C.b dX1_remove_10 rfl (lv_at hl 1 rfl) ?_
    refine lv_dup C.x C.b dX1_remove_11 rfl ?_
    refine z_get C Z (lvC13 ho) kC13 zc1 zin1 4 (by decide) k_320 rfl svC13_4 dX1_remove_12 ?_
    refine lv_iconst (v := 1) C.x C.b dX1_remove_15 (by decide) ?_
    refine lv_isub C.x C.b dX1_remove_16 ?_
    replace hf := lt1_s hf; obtain ⟨m18, em18, hf⟩ := hf
    refine z_put (M1 := m18) C Z (lvC13 ho) (by decide) kC13 zc1 zin1 tyX1_ok nmX1 4 (by decide) k_320 rfl (zUp_I em18 stC13_4u) (Or.inl rfl) rfl rfl dX1_remove_17 (fun H locs Z => ?_)
    refine lv_goto (tgt := 40) C.x C.b dX1_remove_20 (by decide) ?_
    obtain rfl := sm_s hf
    exact kq6 _ _ _ Z (lv_sub hl [2] rfl)
theorem dX2_init_0 : decode cX2_init 0 = .ok (.aload_n 0, 1) := by decide +kernel
theorem dX2_init_1 : decode cX2_init 1 = .ok (.invokespecial 3, 3) := by decide +kernel
theorem dX2_init_4 : decode cX2_init 4 = .ok (.aload_n 0, 1) := by decide +kernel
theorem dX2_init_5 : decode cX2_init 5 = .ok (.bipush (-5), 2) := by decide +kernel
theorem dX2_init_7 : decode cX2_init 7 = .ok (.putfield 9, 3) := by decide +kernel
theorem dX2_init_10 : decode cX2_init 10 = .ok (.aload_n 0, 1) := by decide +kernel
theorem dX2_init_11 : decode cX2_init 11 = .ok (.bipush (-5), 2) := by decide +kernel
theorem dX2_init_13 : decode cX2_init 13 = .ok (.putfield 15, 3) := by decide +kernel
theorem dX2_init_16 : decode cX2_init 16 = .ok (.aload_n 0, 1) := by decide +kernel
theorem dX2_init_17 : decode cX2_init 17 = .ok (.iload_n 1, 1) := by decide +kernel
theorem dX2_init_18 : decode cX2_init 18 = .ok (.putfield 18, 3) := by decide +kernel
theorem dX2_init_21 : decode cX2_init 21 = .ok (.aload_n 0, 1) := by decide +kernel
theorem dX2_init_22 : decode cX2_init 22 = .ok (.iload_n 2, 1) := by decide +kernel
theorem dX2_init_23 : decode cX2_init 23 = .ok (.putfield 21, 3) := by decide +kernel
theorem dX2_init_26 : decode cX2_init 26 = .ok (.return_, 1) := by decide +kernel
set_option maxRecDepth 100000 in
set_option maxHeartbeats 4000000 in
theorem c_X2_init {l : Launch} {K : KG} {ad : Nat → Nat → Nat} {fl : Nat} {o : Nat} {a1 : Int32} {a2 : Int32} {M0 : Mem} {M9 : Mem} (ho : o < gR M0 999 24 0) (hf : f_X2_init fl o a1 a2 M0 = some M9) : Met l yX2_init (Cond.code yX2_init cX2_init 3 none :: ztb) (RM (1) 0 0) (zPc K LC ad M0 [.ref (ad 24 o), .int a1, .int a2]) (zQ K LC ad (none) M9) 0 0 (zA ad) := by
  refine z_enter (by decide) (Nat.le_of_ble_eq_true rfl) ?_
  intro p e s m args below meth c ls C hin hargs Z hl
  replace C : Cx p s m args meth c cX2_init 3 "GlassPalace$Gang" none := C
  replace hl : lv_has ls 3 [(0, .ref (ad 24 o)), (1, .int a1), (2, .int a2)] := hl
  have hR : 1 ≤ (RM (1) 0 0).frames ∧ 40 * (1) ≤ (RM (1) 0 0).locals := ⟨Nat.le_refl _, Nat.le_refl _⟩
  have hB : 0 ≤ (RM (1) 0 0).cells ∧ 0 ≤ (RM (1) 0 0).slots := ⟨Nat.zero_le _, Nat.zero_le _⟩
  unfold f_X2_init at hf
  refine lv_aload_n C.x C.b dX2_init_0 rfl (lv_at hl 0 rfl) ?_
  refine z_obj C k_904 k_129 k_130 hl.1 hR (by decide) (Nat.le_of_ble_eq_true rfl) dX2_init_1 ?_
  refine lv_aload_n C.x C.b dX2_init_4 rfl (lv_at hl 0 rfl) ?_
  refine lv_bipush (v := (-5)) C.x C.b dX2_init_5 (by decide) ?_
  replace hf := lt1_s hf; obtain ⟨m1, em1, hf⟩ := hf
  refine z_put (M1 := m1) C Z (lvC24 ho) (by decide) kC24 zc2 zin2 tyX2_ok nmX2 1 (by decide) k_907 rfl (zUp_I em1 stC24_1u) (Or.inl rfl) rfl rfl dX2_init_7 (fun H locs Z => ?_)
  refine lv_aload_n C.x C.b dX2_init_10 rfl (lv_at hl 0 rfl) ?_
  refine lv_bipush (v := (-5)) C.x C.b dX2_init_11 (by decide) ?_
  replace hf := lt1_s hf; obtain ⟨m2, em2, hf⟩ := hf
  refine z_put (M1 := m2) C Z (lvC24 (by rw [em1]; exact ho)) (by decide) kC24 zc2 zin2 tyX2_ok nmX2 2 (by decide) k_909 rfl (zUp_I em2 stC24_2u) (Or.inl rfl) rfl rfl dX2_init_13 (fun H locs Z => ?_)
  refine lv_aload_n C.x C.b dX2_init_16 rfl (lv_at hl 0 rfl) ?_
  refine lv_iload_n C.x C.b dX2_init_17 rfl (lv_at hl 1 rfl) ?_
  replace hf := lt1_s hf; obtain ⟨m3, em3, hf⟩ := hf
  refine z_put (M1 := m3) C Z (lvC24 (by rw [em2, em1]; exact ho)) (by decide) kC24 zc2 zin2 tyX2_ok nmX2 0 (by decide) k_905 rfl (zUp_I em3 stC24_0u) (Or.inr ⟨hin rfl, rfl⟩) rfl rfl dX2_init_18 (fun H locs Z => ?_)
  refine lv_aload_n C.x C.b dX2_init_21 rfl (lv_at hl 0 rfl) ?_
  refine lv_iload_n C.x C.b dX2_init_22 rfl (lv_at hl 2 rfl) ?_
  replace hf := lt1_s hf; obtain ⟨m4, em4, hf⟩ := hf
  refine z_put (M1 := m4) C Z (lvC24 (by rw [em3, em2, em1]; exact ho)) (by decide) kC24 zc2 zin2 tyX2_ok nmX2 3 (by decide) k_911 rfl (zUp_I em4 stC24_3u) (Or.inr ⟨hin rfl, rfl⟩) rfl rfl dX2_init_23 (fun H locs Z => ?_)
  obtain rfl := sm_s hf
  exact z_vret C Z dX2_init_26
theorem dX2_pieces_0 : decode cX2_pieces 0 = .ok (.bipush 20, 2) := by decide +kernel
theorem dX2_pieces_2 : decode cX2_pieces 2 = .ok (.aload_n 0, 1) := by decide +kernel
theorem dX2_pieces_3 : decode cX2_pieces 3 = .ok (.getfield 21, 3) := by decide +kernel
theorem dX2_pieces_6 : decode cX2_pieces 6 = .ok (.aload_n 0, 1) := by decide +kernel
theorem dX2_pieces_7 : decode cX2_pieces 7 = .ok (.getfield 24, 3) := by decide +kernel
theorem dX2_pieces_10 : decode cX2_pieces 10 = .ok (.bipush 10, 2) := by decide +kernel
theorem dX2_pieces_12 : decode cX2_pieces 12 = .ok (.idiv, 1) := by decide +kernel
theorem dX2_pieces_13 : decode cX2_pieces 13 = .ok (.iadd, 1) := by decide +kernel
theorem dX2_pieces_14 : decode cX2_pieces 14 = .ok (.invokestatic 27, 3) := by decide +kernel
theorem dX2_pieces_17 : decode cX2_pieces 17 = .ok (.ireturn, 1) := by decide +kernel
set_option maxRecDepth 100000 in
set_option maxHeartbeats 4000000 in
theorem c_X2_pieces {l : Launch} {K : KG} {ad : Nat → Nat → Nat} {fl : Nat} {o : Nat} {M0 : Mem} {r9 : Int32} {M9 : Mem} (ho : o < gR M0 999 24 0) (hf : f_X2_pieces fl o M0 = some (r9, M9)) : Met l yX2_pieces (Cond.code yX2_pieces cX2_pieces 1 (some .int) :: ztb) (RM (1) 0 0) (zPc K LC ad M0 [.ref (ad 24 o)]) (zQ K LC ad (some (.int r9)) M9) 0 0 (zA ad) := by
  refine z_enter (by decide) (Nat.le_of_ble_eq_true rfl) ?_
  intro p e s m args below meth c ls C hin hargs Z hl
  replace C : Cx p s m args meth c cX2_pieces 1 "GlassPalace$Gang" (some .int) := C
  replace hl : lv_has ls 1 [(0, .ref (ad 24 o))] := hl
  have hR : 1 ≤ (RM (1) 0 0).frames ∧ 40 * (1) ≤ (RM (1) 0 0).locals := ⟨Nat.le_refl _, Nat.le_refl _⟩
  have hB : 0 ≤ (RM (1) 0 0).cells ∧ 0 ≤ (RM (1) 0 0).slots := ⟨Nat.zero_le _, Nat.zero_le _⟩
  unfold f_X2_pieces at hf
  refine lv_bipush (v := 20) C.x C.b dX2_pieces_0 (by decide) ?_
  refine lv_aload_n C.x C.b dX2_pieces_2 rfl (lv_at hl 0 rfl) ?_
  refine z_get C Z (lvC24 ho) kC24 zc2 zin2 3 (by decide) k_911 rfl svC24_3 dX2_pieces_3 ?_
  refine lv_aload_n C.x C.b dX2_pieces_6 rfl (lv_at hl 0 rfl) ?_
  refine z_get C Z (lvC24 ho) kC24 zc2 zin2 4 (by decide) k_912 rfl svC24_4 dX2_pieces_7 ?_
  refine lv_bipush (v := 10) C.x C.b dX2_pieces_10 (by decide) ?_
  refine lv_idiv C.x C.b dX2_pieces_12 (by decide) ?_
  refine lv_iadd C.x C.b dX2_pieces_13 ?_
  refine z_min C k_940 k_885 k_115 k_886 hl.1 hR (by decide) (Nat.le_of_ble_eq_true rfl) hB dX2_pieces_14 ?_
  obtain ⟨rfl, rfl⟩ := pr_s hf
  exact z_iret C Z dX2_pieces_17
theorem dX2_worked_0 : decode cX2_worked 0 = .ok (.aload_n 0, 1) := by decide +kernel
theorem dX2_worked_1 : decode cX2_worked 1 = .ok (.iload_n 1, 1) := by decide +kernel
theorem dX2_worked_2 : decode cX2_worked 2 = .ok (.putfield 9, 3) := by decide +kernel
theorem dX2_worked_5 : decode cX2_worked 5 = .ok (.aload_n 0, 1) := by decide +kernel
theorem dX2_worked_6 : decode cX2_worked 6 = .ok (.iload_n 2, 1) := by decide +kernel
theorem dX2_worked_7 : decode cX2_worked 7 = .ok (.putfield 15, 3) := by decide +kernel
theorem dX2_worked_10 : decode cX2_worked 10 = .ok (.aload_n 0, 1) := by decide +kernel
theorem dX2_worked_11 : decode cX2_worked 11 = .ok (.dup, 1) := by decide +kernel
theorem dX2_worked_12 : decode cX2_worked 12 = .ok (.getfield 24, 3) := by decide +kernel
theorem dX2_worked_15 : decode cX2_worked 15 = .ok (.iload_n 3, 1) := by decide +kernel
theorem dX2_worked_16 : decode cX2_worked 16 = .ok (.iadd, 1) := by decide +kernel
theorem dX2_worked_17 : decode cX2_worked 17 = .ok (.putfield 24, 3) := by decide +kernel
theorem dX2_worked_20 : decode cX2_worked 20 = .ok (.return_, 1) := by decide +kernel
set_option maxRecDepth 100000 in
set_option maxHeartbeats 4000000 in
theorem c_X2_worked {l : Launch} {K : KG} {ad : Nat → Nat → Nat} {fl : Nat} {o : Nat} {a1 : Int32} {a2 : Int32} {a3 : Int32} {M0 : Mem} {M9 : Mem} (ho : o < gR M0 999 24 0) (hf : f_X2_worked fl o a1 a2 a3 M0 = some M9) : Met l yX2_worked (Cond.code yX2_worked cX2_worked 4 none :: ztb) (RM (1) 0 0) (zPc K LC ad M0 [.ref (ad 24 o), .int a1, .int a2, .int a3]) (zQ K LC ad (none) M9) 0 0 (zA ad) := by
  refine z_enter (by decide) (Nat.le_of_ble_eq_true rfl) ?_
  intro p e s m args below meth c ls C hin hargs Z hl
  replace C : Cx p s m args meth c cX2_worked 4 "GlassPalace$Gang" none := C
  replace hl : lv_has ls 4 [(0, .ref (ad 24 o)), (1, .int a1), (2, .int a2), (3, .int a3)] := hl
  have hR : 1 ≤ (RM (1) 0 0).frames ∧ 40 * (1) ≤ (RM (1) 0 0).locals := ⟨Nat.le_refl _, Nat.le_refl _⟩
  have hB : 0 ≤ (RM (1) 0 0).cells ∧ 0 ≤ (RM (1) 0 0).slots := ⟨Nat.zero_le _, Nat.zero_le _⟩
  unfold f_X2_worked at hf
  refine lv_aload_n C.x C.b dX2_worked_0 rfl (lv_at hl 0 rfl) ?_
  refine lv_iload_n C.x C.b dX2_worked_1 rfl (lv_at hl 1 rfl) ?_
  replace hf := lt1_s hf; obtain ⟨m1, em1, hf⟩ := hf
  refine z_put (M1 := m1) C Z (lvC24 ho) (by decide) kC24 zc2 zin2 tyX2_ok nmX2 1 (by decide) k_907 rfl (zUp_I em1 stC24_1u) (Or.inl rfl) rfl rfl dX2_worked_2 (fun H locs Z => ?_)
  refine lv_aload_n C.x C.b dX2_worked_5 rfl (lv_at hl 0 rfl) ?_
  refine lv_iload_n C.x C.b dX2_worked_6 rfl (lv_at hl 2 rfl) ?_
  replace hf := lt1_s hf; obtain ⟨m2, em2, hf⟩ := hf
  refine z_put (M1 := m2) C Z (lvC24 (by rw [em1]; exact ho)) (by decide) kC24 zc2 zin2 tyX2_ok nmX2 2 (by decide) k_909 rfl (zUp_I em2 stC24_2u) (Or.inl rfl) rfl rfl dX2_worked_7 (fun H locs Z => ?_)
  refine lv_aload_n C.x C.b dX2_worked_10 rfl (lv_at hl 0 rfl) ?_
  refine lv_dup C.x C.b dX2_worked_11 rfl ?_
  refine z_get C Z (lvC24 (by rw [em2, em1]; exact ho)) kC24 zc2 zin2 4 (by decide) k_912 rfl svC24_4 dX2_worked_12 ?_
  refine lv_iload_n C.x C.b dX2_worked_15 rfl (lv_at hl 3 rfl) ?_
  refine lv_iadd C.x C.b dX2_worked_16 ?_
  replace hf := lt1_s hf; obtain ⟨m3, em3, hf⟩ := hf
  refine z_put (M1 := m3) C Z (lvC24 (by rw [em2, em1]; exact ho)) (by decide) kC24 zc2 zin2 tyX2_ok nmX2 4 (by decide) k_912 rfl (zUp_I em3 stC24_4u) (Or.inl rfl) rfl rfl dX2_worked_17 (fun H locs Z => ?_)
  obtain rfl := sm_s hf
  exact z_vret C Z dX2_worked_20
theorem dX3_nextText_0 : decode cX3_nextText 0 = .ok (.aload_n 0, 1) := by decide +kernel
theorem dX3_nextText_1 : decode cX3_nextText 1 = .ok (.getfield 22, 3) := by decide +kernel
theorem dX3_nextText_4 : decode cX3_nextText 4 = .ok (.ifCond .lt 24, 3) := by decide +kernel
theorem dX3_nextText_7 : decode cX3_nextText 7 = .ok (.aload_n 0, 1) := by decide +kernel
theorem dX3_nextText_8 : decode cX3_nextText 8 = .ok (.getfield 22, 3) := by decide +kernel
theorem dX3_nextText_11 : decode cX3_nextText 11 = .ok (.bipush 10, 2) := by decide +kernel
theorem dX3_nextText_13 : decode cX3_nextText 13 = .ok (.if_icmp .ge 15, 3) := by decide +kernel
theorem dX3_nextText_16 : decode cX3_nextText 16 = .ok (.aload_n 0, 1) := by decide +kernel
theorem dX3_nextText_17 : decode cX3_nextText 17 = .ok (.getfield 11, 3) := by decide +kernel
theorem dX3_nextText_20 : decode cX3_nextText 20 = .ok (.aload_n 0, 1) := by decide +kernel
theorem dX3_nextText_21 : decode cX3_nextText 21 = .ok (.getfield 22, 3) := by decide +kernel
theorem dX3_nextText_24 : decode cX3_nextText 24 = .ok (.aaload, 1) := by decide +kernel
theorem dX3_nextText_25 : decode cX3_nextText 25 = .ok (.goto 4, 3) := by decide +kernel
theorem dX3_nextText_28 : decode cX3_nextText 28 = .ok (.aconst_null, 1) := by decide +kernel
theorem dX3_nextText_29 : decode cX3_nextText 29 = .ok (.areturn, 1) := by decide +kernel
set_option maxRecDepth 100000 in
set_option maxHeartbeats 4000000 in
theorem c_X3_nextText {l : Launch} {K : KG} {ad : Nat → Nat → Nat} {fl : Nat}  {M0 : Mem} {r9 : Nat} {M9 : Mem} (hf : f_X3_nextText fl  M0 = some (r9, M9)) : Met l yX3_nextText (Cond.code yX3_nextText cX3_nextText 1 (some (.object "GlassPalace$Text")) :: ztb) (RM (1) 0 0) (zPc K LC ad M0 [.ref (ad 6 0)]) (zQ K LC ad (some (rf (ad 19) r9)) M9) 0 0 (zA ad) := by
  refine z_enter (by decide) (Nat.le_of_ble_eq_true rfl) ?_
  intro p e s m args below meth c ls C hin hargs Z hl
  replace C : Cx p s m args meth c cX3_nextText 1 "GlassPalace$Laws" (some (.object "GlassPalace$Text")) := C
  replace hl : lv_has ls 1 [(0, .ref (ad 6 0))] := hl
  have hR : 1 ≤ (RM (1) 0 0).frames ∧ 40 * (1) ≤ (RM (1) 0 0).locals := ⟨Nat.le_refl _, Nat.le_refl _⟩
  have hB : 0 ≤ (RM (1) 0 0).cells ∧ 0 ≤ (RM (1) 0 0).slots := ⟨Nat.zero_le _, Nat.zero_le _⟩
  unfold f_X3_nextText at hf
  refine lv_aload_n C.x C.b dX3_nextText_0 rfl (lv_at hl 0 rfl) ?_
  refine z_get C Z (lvC6 Nat.zero_lt_one) kC6 zc3 zin3 0 (by decide) k_190 rfl svC6_0 dX3_nextText_1 ?_
  refine lv_if_lt (tgt := 28) C.x C.b dX3_nextText_4 (by decide) (fun hc1 => ?_) (fun hc1 => ?_)
  · replace hf := ite_t hf hc1
    refine lv_null C.x C.b dX3_nextText_28 ?_
    obtain ⟨rfl, rfl⟩ := pr_s hf
    exact z_aret (f := ad 19) (k := 0) C Z dX3_nextText_29
  · replace hf := ite_f hf hc1
    refine lv_aload_n C.x C.b dX3_nextText_7 rfl (lv_at hl 0 rfl) ?_
    refine z_get C Z (lvC6 Nat.zero_lt_one) kC6 zc3 zin3 0 (by decide) k_190 rfl svC6_0 dX3_nextText_8 ?_
    refine lv_bipush (v := 10) C.x C.b dX3_nextText_11 (by decide) ?_
    refine lv_icmp_ge (tgt := 28) C.x C.b dX3_nextText_13 (by decide) (fun hc2 => ?_) (fun hc2 => ?_)
    · replace hf := ite_t hf hc2
      refine lv_null C.x C.b dX3_nextText_28 ?_
      obtain ⟨rfl, rfl⟩ := pr_s hf
      exact z_aret (f := ad 19) (k := 0) C Z dX3_nextText_29
    · replace hf := ite_f hf hc2
      refine lv_aload_n C.x C.b dX3_nextText_16 rfl (lv_at hl 0 rfl) ?_
      refine z_get C Z (lvC6 Nat.zero_lt_one) kC6 zc3 zin3 1 (by decide) k_192 rfl svC6_1 dX3_nextText_17 ?_
      refine lv_aload_n C.x C.b dX3_nextText_20 rfl (lv_at hl 0 rfl) ?_
      refine z_get C Z (lvC6 Nat.zero_lt_one) kC6 zc3 zin3 0 (by decide) k_190 rfl svC6_0 dX3_nextText_21 ?_
      replace hf := asr_s hf; obtain ⟨hq3, hf⟩ := hf
      refine z_aald C Z (lvC17 Nat.zero_lt_one) kC17 5 rfl hq3 svC17 dX3_nextText_24 ?_
      refine lv_goto (tgt := 29) C.x C.b dX3_nextText_25 (by decide) ?_
      obtain ⟨rfl, rfl⟩ := pr_s hf
      exact z_aret (f := ad 19) (k := ((Int32.toNatClampNeg (gI M0 6 0 0)) + 1)) C Z dX3_nextText_29
theorem dX3_textOf_0 : decode cX3_textOf 0 = .ok (.iload_n 1, 1) := by decide +kernel
theorem dX3_textOf_1 : decode cX3_textOf 1 = .ok (.ifCond .lt 26, 3) := by decide +kernel
theorem dX3_textOf_4 : decode cX3_textOf 4 = .ok (.iload_n 1, 1) := by decide +kernel
theorem dX3_textOf_5 : decode cX3_textOf 5 = .ok (.aload_n 0, 1) := by decide +kernel
theorem dX3_textOf_6 : decode cX3_textOf 6 = .ok (.getfield 22, 3) := by decide +kernel
theorem dX3_textOf_9 : decode cX3_textOf 9 = .ok (.if_icmp .ge 18, 3) := by decide +kernel
theorem dX3_textOf_12 : decode cX3_textOf 12 = .ok (.iload_n 1, 1) := by decide +kernel
theorem dX3_textOf_13 : decode cX3_textOf 13 = .ok (.bipush 10, 2) := by decide +kernel
theorem dX3_textOf_15 : decode cX3_textOf 15 = .ok (.if_icmp .ge 12, 3) := by decide +kernel
theorem dX3_textOf_18 : decode cX3_textOf 18 = .ok (.aload_n 0, 1) := by decide +kernel
theorem dX3_textOf_19 : decode cX3_textOf 19 = .ok (.getfield 11, 3) := by decide +kernel
theorem dX3_textOf_22 : decode cX3_textOf 22 = .ok (.iload_n 1, 1) := by decide +kernel
theorem dX3_textOf_23 : decode cX3_textOf 23 = .ok (.aaload, 1) := by decide +kernel
theorem dX3_textOf_24 : decode cX3_textOf 24 = .ok (.goto 4, 3) := by decide +kernel
theorem dX3_textOf_27 : decode cX3_textOf 27 = .ok (.aconst_null, 1) := by decide +kernel
theorem dX3_textOf_28 : decode cX3_textOf 28 = .ok (.areturn, 1) := by decide +kernel
set_option maxRecDepth 100000 in
set_option maxHeartbeats 4000000 in
theorem c_X3_textOf {l : Launch} {K : KG} {ad : Nat → Nat → Nat} {fl : Nat} {a1 : Int32} {M0 : Mem} {r9 : Nat} {M9 : Mem} (hf : f_X3_textOf fl a1 M0 = some (r9, M9)) : Met l yX3_textOf (Cond.code yX3_textOf cX3_textOf 2 (some (.object "GlassPalace$Text")) :: ztb) (RM (1) 0 0) (zPc K LC ad M0 [.ref (ad 6 0), .int a1]) (zQ K LC ad (some (rf (ad 19) r9)) M9) 0 0 (zA ad) := by
  refine z_enter (by decide) (Nat.le_of_ble_eq_true rfl) ?_
  intro p e s m args below meth c ls C hin hargs Z hl
  replace C : Cx p s m args meth c cX3_textOf 2 "GlassPalace$Laws" (some (.object "GlassPalace$Text")) := C
  replace hl : lv_has ls 2 [(0, .ref (ad 6 0)), (1, .int a1)] := hl
  have hR : 1 ≤ (RM (1) 0 0).frames ∧ 40 * (1) ≤ (RM (1) 0 0).locals := ⟨Nat.le_refl _, Nat.le_refl _⟩
  have hB : 0 ≤ (RM (1) 0 0).cells ∧ 0 ≤ (RM (1) 0 0).slots := ⟨Nat.zero_le _, Nat.zero_le _⟩
  unfold f_X3_textOf at hf
  refine lv_iload_n C.x C.b dX3_textOf_0 rfl (lv_at hl 1 rfl) ?_
  refine lv_if_lt (tgt := 27) C.x C.b dX3_textOf_1 (by decide) (fun hc1 => ?_) (fun hc1 => ?_)
  · replace hf := ite_t hf hc1
    refine lv_null C.x C.b dX3_textOf_27 ?_
    obtain ⟨rfl, rfl⟩ := pr_s hf
    exact z_aret (f := ad 19) (k := 0) C Z dX3_textOf_28
  · replace hf := ite_f hf hc1
    refine lv_iload_n C.x C.b dX3_textOf_4 rfl (lv_at hl 1 rfl) ?_
    refine lv_aload_n C.x C.b dX3_textOf_5 rfl (lv_at hl 0 rfl) ?_
    refine z_get C Z (lvC6 Nat.zero_lt_one) kC6 zc3 zin3 0 (by decide) k_190 rfl svC6_0 dX3_textOf_6 ?_
    refine lv_icmp_ge (tgt := 27) C.x C.b dX3_textOf_9 (by decide) (fun hc2 => ?_) (fun hc2 => ?_)
    · replace hf := ite_t hf hc2
      refine lv_null C.x C.b dX3_textOf_27 ?_
      obtain ⟨rfl, rfl⟩ := pr_s hf
      exact z_aret (f := ad 19) (k := 0) C Z dX3_textOf_28
    · replace hf := ite_f hf hc2
      refine lv_iload_n C.x C.b dX3_textOf_12 rfl (lv_at hl 1 rfl) ?_
      refine lv_bipush (v := 10) C.x C.b dX3_textOf_13 (by decide) ?_
      refine lv_icmp_ge (tgt := 27) C.x C.b dX3_textOf_15 (by decide) (fun hc3 => ?_) (fun hc3 => ?_)
      · replace hf := ite_t hf hc3
        refine lv_null C.x C.b dX3_textOf_27 ?_
        obtain ⟨rfl, rfl⟩ := pr_s hf
        exact z_aret (f := ad 19) (k := 0) C Z dX3_textOf_28
      · replace hf := ite_f hf hc3
        refine lv_aload_n C.x C.b dX3_textOf_18 rfl (lv_at hl 0 rfl) ?_
        refine z_get C Z (lvC6 Nat.zero_lt_one) kC6 zc3 zin3 1 (by decide) k_192 rfl svC6_1 dX3_textOf_19 ?_
        refine lv_iload_n C.x C.b dX3_textOf_22 rfl (lv_at hl 1 rfl) ?_
        replace hf := asr_s hf; obtain ⟨hq4, hf⟩ := hf
        refine z_aald C Z (lvC17 Nat.zero_lt_one) kC17 5 rfl hq4 svC17 dX3_textOf_23 ?_
        refine lv_goto (tgt := 28) C.x C.b dX3_textOf_24 (by decide) ?_
        obtain ⟨rfl, rfl⟩ := pr_s hf
        exact z_aret (f := ad 19) (k := ((Int32.toNatClampNeg a1) + 1)) C Z dX3_textOf_28
theorem dX9_lastClauseOf_0 : decode cX9_lastClauseOf 0 = .ok (.iconst (-1), 1) := by decide +kernel
theorem dX9_lastClauseOf_1 : decode cX9_lastClauseOf 1 = .ok (.istore_n 2, 1) := by decide +kernel
theorem dX9_lastClauseOf_2 : decode cX9_lastClauseOf 2 = .ok (.iconst 0, 1) := by decide +kernel
theorem dX9_lastClauseOf_3 : decode cX9_lastClauseOf 3 = .ok (.istore_n 3, 1) := by decide +kernel
theorem dX9_lastClauseOf_4 : decode cX9_lastClauseOf 4 = .ok (.iload_n 3, 1) := by decide +kernel
theorem dX9_lastClauseOf_5 : decode cX9_lastClauseOf 5 = .ok (.aload_n 0, 1) := by decide +kernel
theorem dX9_lastClauseOf_6 : decode cX9_lastClauseOf 6 = .ok (.getfield 21, 3) := by decide +kernel
theorem dX9_lastClauseOf_9 : decode cX9_lastClauseOf 9 = .ok (.if_icmp .ge 27, 3) := by decide +kernel
theorem dX9_lastClauseOf_12 : decode cX9_lastClauseOf 12 = .ok (.iload_n 3, 1) := by decide +kernel
theorem dX9_lastClauseOf_13 : decode cX9_lastClauseOf 13 = .ok (.bipush 8, 2) := by decide +kernel
theorem dX9_lastClauseOf_15 : decode cX9_lastClauseOf 15 = .ok (.if_icmp .ge 21, 3) := by decide +kernel
theorem dX9_lastClauseOf_18 : decode cX9_lastClauseOf 18 = .ok (.aload_n 0, 1) := by decide +kernel
theorem dX9_lastClauseOf_19 : decode cX9_lastClauseOf 19 = .ok (.getfield 9, 3) := by decide +kernel
theorem dX9_lastClauseOf_22 : decode cX9_lastClauseOf 22 = .ok (.iload_n 3, 1) := by decide +kernel
theorem dX9_lastClauseOf_23 : decode cX9_lastClauseOf 23 = .ok (.iaload, 1) := by decide +kernel
theorem dX9_lastClauseOf_24 : decode cX9_lastClauseOf 24 = .ok (.iload_n 1, 1) := by decide +kernel
theorem dX9_lastClauseOf_25 : decode cX9_lastClauseOf 25 = .ok (.if_icmp .ne 5, 3) := by decide +kernel
theorem dX9_lastClauseOf_28 : decode cX9_lastClauseOf 28 = .ok (.iload_n 3, 1) := by decide +kernel
theorem dX9_lastClauseOf_29 : decode cX9_lastClauseOf 29 = .ok (.istore_n 2, 1) := by decide +kernel
theorem dX9_lastClauseOf_30 : decode cX9_lastClauseOf 30 = .ok (.iinc 3 1, 3) := by decide +kernel
theorem dX9_lastClauseOf_33 : decode cX9_lastClauseOf 33 = .ok (.goto (-29), 3) := by decide +kernel
theorem dX9_lastClauseOf_36 : decode cX9_lastClauseOf 36 = .ok (.iload_n 2, 1) := by decide +kernel
theorem dX9_lastClauseOf_37 : decode cX9_lastClauseOf 37 = .ok (.ireturn, 1) := by decide +kernel
set_option maxRecDepth 100000 in
set_option maxHeartbeats 4000000 in
theorem w_X9_lastClauseOf_l4 {p : Program} {l : Launch} {e : Env} {R : Room} {s : State} {m : MethodId} {args : Array Value} {below : List Frame} {meth : Method} {c : Code} {cells slots : Nat} {Q : State → Prop} {K : KG} {ad : Nat → Nat → Nat} {fl : Nat} {g0 : Nat} {g1 : Int32} (C : Cx p s m args meth c cX9_lastClauseOf 4 "GlassPalace$Text" (some .int)) (hR : 1 ≤ R.frames ∧ 40 * (1) ≤ R.locals) (hB : cells ≤ R.cells ∧ slots ≤ R.slots) (hg0 : g0 < 10) : ∀ (n : Nat) (u2 : Int32) (u3 : Int32) (M0 : Mem) (H : Heap) (locs : List Loc) (ls : Array Slot), Zd K LC ad M0 s H locs → lv_has ls 4 [(0, .ref (ad 19 g0)), (1, .int g1), (2, .int u2), (3, .int u3)] → ∀ (q : Int32) (Mq : Mem), f_X9_lastClauseOf_l4 fl g0 g1 n u2 u3 M0 = some (q, Mq) → (∀ (H : Heap) (locs : List Loc) (ls : Array Slot), Zd K LC ad Mq s H locs → lv_has ls 4 [(2, .int q)] → W p l e R s m args below meth c H locs cells slots Q (F0 m 36 ls [])) → W p l e R s m args below meth c H locs cells slots Q (F0 m 4 ls []) := by
  intro n
  induction n with
  | zero =>
    intro u2 u3 M0 H locs ls Z hl q Mq hf
    have hf : (none : Option (Int32 × Mem)) = some (q, Mq) := hf
    cases hf
  | succ n ih =>
    intro u2 u3 M0 H locs ls Z hl q Mq hf kx0
    replace hf : f_X9_lastClauseOf_l4_b (f_X9_lastClauseOf_l4 fl g0 g1 n) fl g0 g1 u2 u3 M0 = some (q, Mq) := hf
    unfold f_X9_lastClauseOf_l4_b at hf
    refine lv_iload_n C.x C.b dX9_lastClauseOf_4 rfl (lv_at hl 3 rfl) ?_
    refine lv_aload_n C.x C.b dX9_lastClauseOf_5 rfl (lv_at hl 0 rfl) ?_
    refine z_get C Z (lvC19 hg0) kC19 zc9 zin9 2 (by decide) k_173 rfl svC19_2 dX9_lastClauseOf_6 ?_
    refine lv_icmp_ge (tgt := 36) C.x C.b dX9_lastClauseOf_9 (by decide) (fun hc1 => ?_) (fun hc1 => ?_)
    · replace hf := ite_t hf hc1
      obtain ⟨rfl, rfl⟩ := pr_s hf
      exact kx0 _ _ _ Z (lv_sub hl [2] rfl)
    · replace hf := ite_f hf hc1
      refine lv_iload_n C.x C.b dX9_lastClauseOf_12 rfl (lv_at hl 3 rfl) ?_
      refine lv_bipush (v := 8) C.x C.b dX9_lastClauseOf_13 (by decide) ?_
      refine lv_icmp_ge (tgt := 36) C.x C.b dX9_lastClauseOf_15 (by decide) (fun hc2 => ?_) (fun hc2 => ?_)
      · replace hf := ite_t hf hc2
        obtain ⟨rfl, rfl⟩ := pr_s hf
        exact kx0 _ _ _ Z (lv_sub hl [2] rfl)
      · replace hf := ite_f hf hc2
        refine lv_aload_n C.x C.b dX9_lastClauseOf_18 rfl (lv_at hl 0 rfl) ?_
        refine z_get C Z (lvC19 hg0) kC19 zc9 zin9 3 (by decide) k_174 rfl svC19_3 dX9_lastClauseOf_19 ?_
        refine lv_iload_n C.x C.b dX9_lastClauseOf_22 rfl (lv_at hl 3 rfl) ?_
        replace hf := asr_s hf; obtain ⟨hq3, hf⟩ := hf
        refine z_iald C Z (lvC20 hg0) kC20 hq3 svC20 dX9_lastClauseOf_23 ?_
        refine lv_iload_n C.x C.b dX9_lastClauseOf_24 rfl (lv_at hl 1 rfl) ?_
        refine lv_icmp_ne (tgt := 30) C.x C.b dX9_lastClauseOf_25 (by decide) (fun hc4 => ?_) (fun hc4 => ?_)
        · replace hf := ite_f hf hc4
          replace hf := lt1_s hf; obtain ⟨x5, ex5, hf⟩ := hf
          refine z_iinc (v := x5) (lv' := [(3, .int x5), (0, .ref (ad 19 g0)), (1, .int g1), (2, .int u2)]) C dX9_lastClauseOf_30 hl (k := 3) rfl (by rw [ex5]; rfl) (by decide) rfl (onlast 2 rfl rfl rfl) (fun ls hl => ?_)
          refine lv_goto (tgt := 4) C.x C.b dX9_lastClauseOf_33 (by decide) ?_
          exact ih _ _ _ _ _ _ Z (lv_sub hl [1, 2, 3, 0] rfl) _ _ hf kx0
        · replace hf := ite_t hf hc4
          refine lv_iload_n C.x C.b dX9_lastClauseOf_28 rfl (lv_at hl 3 rfl) ?_
          refine z_istore_n (lv' := [(2, .int u3), (0, .ref (ad 19 g0)), (1, .int g1), (3, .int u3)]) C dX9_lastClauseOf_29 rfl hl (by decide) rfl (onlast 1 rfl rfl rfl) (fun ls hl => ?_)
          replace hf := lt1_s hf; obtain ⟨x6, ex6, hf⟩ := hf
          refine z_iinc (v := x6) (lv' := [(3, .int x6), (2, .int u3), (0, .ref (ad 19 g0)), (1, .int g1)]) C dX9_lastClauseOf_30 hl (k := 3) rfl (by rw [ex6]; rfl) (by decide) rfl (onlast 0 rfl rfl rfl) (fun ls hl => ?_)
          refine lv_goto (tgt := 4) C.x C.b dX9_lastClauseOf_33 (by decide) ?_
          exact ih _ _ _ _ _ _ Z (lv_sub hl [2, 3, 1, 0] rfl) _ _ hf kx0
set_option maxRecDepth 100000 in
set_option maxHeartbeats 4000000 in
theorem c_X9_lastClauseOf {l : Launch} {K : KG} {ad : Nat → Nat → Nat} {fl : Nat} {o : Nat} {a1 : Int32} {M0 : Mem} {r9 : Int32} {M9 : Mem} (ho : o < 10) (hf : f_X9_lastClauseOf fl o a1 M0 = some (r9, M9)) : Met l yX9_lastClauseOf (Cond.code yX9_lastClauseOf cX9_lastClauseOf 4 (some .int) :: ztb) (RM (1) 0 0) (zPc K LC ad M0 [.ref (ad 19 o), .int a1]) (zQ K LC ad (some (.int r9)) M9) 0 0 (zA ad) := by
  refine z_enter (by decide) (Nat.le_of_ble_eq_true rfl) ?_
  intro p e s m args below meth c ls C hin hargs Z hl
  replace C : Cx p s m args meth c cX9_lastClauseOf 4 "GlassPalace$Text" (some .int) := C
  replace hl : lv_has ls 4 [(0, .ref (ad 19 o)), (1, .int a1)] := hl
  have hR : 1 ≤ (RM (1) 0 0).frames ∧ 40 * (1) ≤ (RM (1) 0 0).locals := ⟨Nat.le_refl _, Nat.le_refl _⟩
  have hB : 0 ≤ (RM (1) 0 0).cells ∧ 0 ≤ (RM (1) 0 0).slots := ⟨Nat.zero_le _, Nat.zero_le _⟩
  unfold f_X9_lastClauseOf at hf
  refine lv_iconst (v := (-1)) C.x C.b dX9_lastClauseOf_0 (by decide) ?_
  refine z_istore_n (lv' := [(2, .int (-1)), (0, .ref (ad 19 o)), (1, .int a1)]) C dX9_lastClauseOf_1 rfl hl (by decide) rfl (onlast 1 rfl rfl rfl) (fun ls hl => ?_)
  refine lv_iconst (v := 0) C.x C.b dX9_lastClauseOf_2 (by decide) ?_
  refine z_istore_n (lv' := [(3, .int 0), (2, .int (-1)), (0, .ref (ad 19 o)), (1, .int a1)]) C dX9_lastClauseOf_3 rfl hl (by decide) rfl (onlast 0 rfl rfl rfl) (fun ls hl => ?_)
  replace hf := bn2_s hf; obtain ⟨q7, m8, hq7, hf⟩ := hf
  refine w_X9_lastClauseOf_l4 C hR hB ho fl _ _ _ _ _ _ Z (lv_sub hl [2, 3, 1, 0] rfl) _ _ hq7 (fun H locs ls Z hl => ?_)
  refine lv_iload_n C.x C.b dX9_lastClauseOf_36 rfl (lv_at hl 0 rfl) ?_
  obtain ⟨rfl, rfl⟩ := pr_s hf
  exact z_iret C Z dX9_lastClauseOf_37
theorem dX3_textFor_0 : decode cX3_textFor 0 = .ok (.iconst (-1), 1) := by decide +kernel
theorem dX3_textFor_1 : decode cX3_textFor 1 = .ok (.istore_n 3, 1) := by decide +kernel
theorem dX3_textFor_2 : decode cX3_textFor 2 = .ok (.iconst 0, 1) := by decide +kernel
theorem dX3_textFor_3 : decode cX3_textFor 3 = .ok (.istore 4, 2) := by decide +kernel
theorem dX3_textFor_5 : decode cX3_textFor 5 = .ok (.iconst 0, 1) := by decide +kernel
theorem dX3_textFor_6 : decode cX3_textFor 6 = .ok (.istore 5, 2) := by decide +kernel
theorem dX3_textFor_8 : decode cX3_textFor 8 = .ok (.iload 5, 2) := by decide +kernel
theorem dX3_textFor_10 : decode cX3_textFor 10 = .ok (.aload_n 0, 1) := by decide +kernel
theorem dX3_textFor_11 : decode cX3_textFor 11 = .ok (.getfield 22, 3) := by decide +kernel
theorem dX3_textFor_14 : decode cX3_textFor 14 = .ok (.if_icmp .ge 63, 3) := by decide +kernel
theorem dX3_textFor_17 : decode cX3_textFor 17 = .ok (.iload 5, 2) := by decide +kernel
theorem dX3_textFor_19 : decode cX3_textFor 19 = .ok (.bipush 10, 2) := by decide +kernel
theorem dX3_textFor_21 : decode cX3_textFor 21 = .ok (.if_icmp .ge 56, 3) := by decide +kernel
theorem dX3_textFor_24 : decode cX3_textFor 24 = .ok (.aload_n 0, 1) := by decide +kernel
theorem dX3_textFor_25 : decode cX3_textFor 25 = .ok (.getfield 11, 3) := by decide +kernel
theorem dX3_textFor_28 : decode cX3_textFor 28 = .ok (.iload 5, 2) := by decide +kernel
theorem dX3_textFor_30 : decode cX3_textFor 30 = .ok (.aaload, 1) := by decide +kernel
theorem dX3_textFor_31 : decode cX3_textFor 31 = .ok (.astore 6, 2) := by decide +kernel
theorem dX3_textFor_33 : decode cX3_textFor 33 = .ok (.aload 6, 2) := by decide +kernel
theorem dX3_textFor_35 : decode cX3_textFor 35 = .ok (.getfield 26, 3) := by decide +kernel
theorem dX3_textFor_38 : decode cX3_textFor 38 = .ok (.iload_n 2, 1) := by decide +kernel
theorem dX3_textFor_39 : decode cX3_textFor 39 = .ok (.if_icmp .gt 32, 3) := by decide +kernel
theorem dX3_textFor_42 : decode cX3_textFor 42 = .ok (.aload 6, 2) := by decide +kernel
theorem dX3_textFor_44 : decode cX3_textFor 44 = .ok (.getfield 26, 3) := by decide +kernel
theorem dX3_textFor_47 : decode cX3_textFor 47 = .ok (.iload 4, 2) := by decide +kernel
theorem dX3_textFor_49 : decode cX3_textFor 49 = .ok (.if_icmp .lt 22, 3) := by decide +kernel
theorem dX3_textFor_52 : decode cX3_textFor 52 = .ok (.aload 6, 2) := by decide +kernel
theorem dX3_textFor_54 : decode cX3_textFor 54 = .ok (.iload_n 1, 1) := by decide +kernel
theorem dX3_textFor_55 : decode cX3_textFor 55 = .ok (.invokevirtual 29, 3) := by decide +kernel
theorem dX3_textFor_58 : decode cX3_textFor 58 = .ok (.ifCond .lt 13, 3) := by decide +kernel
theorem dX3_textFor_61 : decode cX3_textFor 61 = .ok (.iload 5, 2) := by decide +kernel
theorem dX3_textFor_63 : decode cX3_textFor 63 = .ok (.istore_n 3, 1) := by decide +kernel
theorem dX3_textFor_64 : decode cX3_textFor 64 = .ok (.aload 6, 2) := by decide +kernel
theorem dX3_textFor_66 : decode cX3_textFor 66 = .ok (.getfield 26, 3) := by decide +kernel
theorem dX3_textFor_69 : decode cX3_textFor 69 = .ok (.istore 4, 2) := by decide +kernel
theorem dX3_textFor_71 : decode cX3_textFor 71 = .ok (.iinc 5 1, 3) := by decide +kernel
theorem dX3_textFor_74 : decode cX3_textFor 74 = .ok (.goto (-66), 3) := by decide +kernel
theorem dX3_textFor_77 : decode cX3_textFor 77 = .ok (.iload_n 3, 1) := by decide +kernel
theorem dX3_textFor_78 : decode cX3_textFor 78 = .ok (.ireturn, 1) := by decide +kernel
set_option maxRecDepth 100000 in
set_option maxHeartbeats 4000000 in
theorem w_X3_textFor_l8 {p : Program} {l : Launch} {e : Env} {R : Room} {s : State} {m : MethodId} {args : Array Value} {below : List Frame} {meth : Method} {c : Code} {cells slots : Nat} {Q : State → Prop} {K : KG} {ad : Nat → Nat → Nat} {fl : Nat} {g1 : Int32} {g2 : Int32} (C : Cx p s m args meth c cX3_textFor 7 "GlassPalace$Laws" (some .int)) (hR : 2 ≤ R.frames ∧ 40 * (2) ≤ R.locals) (hB : cells ≤ R.cells ∧ slots ≤ R.slots) : ∀ (n : Nat) (u3 : Int32) (u4 : Int32) (u5 : Int32) (M0 : Mem) (H : Heap) (locs : List Loc) (ls : Array Slot), Zd K LC ad M0 s H locs → lv_has ls 7 [(0, .ref (ad 6 0)), (1, .int g1), (2, .int g2), (3, .int u3), (4, .int u4), (5, .int u5)] → ∀ (q : Int32) (Mq : Mem), f_X3_textFor_l8 fl g1 g2 n u3 u4 u5 M0 = some (q, Mq) → (∀ (H : Heap) (locs : List Loc) (ls : Array Slot), Zd K LC ad Mq s H locs → lv_has ls 7 [(3, .int q)] → W p l e R s m args below meth c H locs cells slots Q (F0 m 77 ls [])) → W p l e R s m args below meth c H locs cells slots Q (F0 m 8 ls []) := by
  intro n
  induction n with
  | zero =>
    intro u3 u4 u5 M0 H locs ls Z hl q Mq hf
    have hf : (none : Option (Int32 × Mem)) = some (q, Mq) := hf
    cases hf
  | succ n ih =>
    intro u3 u4 u5 M0 H locs ls Z hl q Mq hf kx0
    replace hf : f_X3_textFor_l8_b (f_X3_textFor_l8 fl g1 g2 n) fl g1 g2 u3 u4 u5 M0 = some (q, Mq) := hf
    unfold f_X3_textFor_l8_b at hf
    refine lv_iload C.x C.b dX3_textFor_8 (lv_at hl 5 rfl) ?_
    refine lv_aload_n C.x C.b dX3_textFor_10 rfl (lv_at hl 0 rfl) ?_
    refine z_get C Z (lvC6 Nat.zero_lt_one) kC6 zc3 zin3 0 (by decide) k_190 rfl svC6_0 dX3_textFor_11 ?_
    refine lv_icmp_ge (tgt := 77) C.x C.b dX3_textFor_14 (by decide) (fun hc1 => ?_) (fun hc1 => ?_)
    · replace hf := ite_t hf hc1
      obtain ⟨rfl, rfl⟩ := pr_s hf
      exact kx0 _ _ _ Z (lv_sub hl [3] rfl)
    · replace hf := ite_f hf hc1
      refine lv_iload C.x C.b dX3_textFor_17 (lv_at hl 5 rfl) ?_
      refine lv_bipush (v := 10) C.x C.b dX3_textFor_19 (by decide) ?_
      refine lv_icmp_ge (tgt := 77) C.x C.b dX3_textFor_21 (by decide) (fun hc2 => ?_) (fun hc2 => ?_)
      · replace hf := ite_t hf hc2
        obtain ⟨rfl, rfl⟩ := pr_s hf
        exact kx0 _ _ _ Z (lv_sub hl [3] rfl)
      · replace hf := ite_f hf hc2
        refine lv_aload_n C.x C.b dX3_textFor_24 rfl (lv_at hl 0 rfl) ?_
        refine z_get C Z (lvC6 Nat.zero_lt_one) kC6 zc3 zin3 1 (by decide) k_192 rfl svC6_1 dX3_textFor_25 ?_
        refine lv_iload C.x C.b dX3_textFor_28 (lv_at hl 5 rfl) ?_
        replace hf := asr_s hf; obtain ⟨hq3, hf⟩ := hf
        refine z_aald C Z (lvC17 Nat.zero_lt_one) kC17 5 rfl hq3 svC17 dX3_textFor_30 ?_
        refine z_rstore (lv' := [(6, .ref (ad 19 (Int32.toNatClampNeg u5))), (0, .ref (ad 6 0)), (1, .int g1), (2, .int g2), (3, .int u3), (4, .int u4), (5, .int u5)]) C dX3_textFor_31 hl (by decide) rfl (onlast 5 rfl rfl rfl) (fun ls hl => ?_)
        refine lv_aload C.x C.b dX3_textFor_33 (lv_at hl 0 rfl) ?_
        refine z_get C Z (lvC19 (vin_lt hq3)) kC19 zc9 zin9 0 (by decide) k_169 rfl svC19_0 dX3_textFor_35 ?_
        refine lv_iload_n C.x C.b dX3_textFor_38 rfl (lv_at hl 3 rfl) ?_
        refine lv_icmp_gt (tgt := 71) C.x C.b dX3_textFor_39 (by decide) (fun hc4 => ?_) (fun hc4 => ?_)
        · replace hf := ite_t hf hc4
          replace hf := lt1_s hf; obtain ⟨x5, ex5, hf⟩ := hf
          refine z_iinc (v := x5) (lv' := [(5, .int x5), (6, .ref (ad 19 (Int32.toNatClampNeg u5))), (0, .ref (ad 6 0)), (1, .int g1), (2, .int g2), (3, .int u3), (4, .int u4)]) C dX3_textFor_71 hl (k := 6) rfl (by rw [ex5]; rfl) (by decide) rfl (onlast 5 rfl rfl rfl) (fun ls hl => ?_)
          refine lv_goto (tgt := 8) C.x C.b dX3_textFor_74 (by decide) ?_
          exact ih _ _ _ _ _ _ _ Z (lv_sub hl [2, 3, 4, 5, 6, 0] rfl) _ _ hf kx0
        · replace hf := ite_f hf hc4
          refine lv_aload C.x C.b dX3_textFor_42 (lv_at hl 0 rfl) ?_
          refine z_get C Z (lvC19 (vin_lt hq3)) kC19 zc9 zin9 0 (by decide) k_169 rfl svC19_0 dX3_textFor_44 ?_
          refine lv_iload C.x C.b dX3_textFor_47 (lv_at hl 5 rfl) ?_
          refine lv_icmp_lt (tgt := 71) C.x C.b dX3_textFor_49 (by decide) (fun hc6 => ?_) (fun hc6 => ?_)
          · replace hf := ite_t hf hc6
            replace hf := lt1_s hf; obtain ⟨x7, ex7, hf⟩ := hf
            refine z_iinc (v := x7) (lv' := [(5, .int x7), (6, .ref (ad 19 (Int32.toNatClampNeg u5))), (0, .ref (ad 6 0)), (1, .int g1), (2, .int g2), (3, .int u3), (4, .int u4)]) C dX3_textFor_71 hl (k := 6) rfl (by rw [ex7]; rfl) (by decide) rfl (onlast 5 rfl rfl rfl) (fun ls hl => ?_)
            refine lv_goto (tgt := 8) C.x C.b dX3_textFor_74 (by decide) ?_
            exact ih _ _ _ _ _ _ _ Z (lv_sub hl [2, 3, 4, 5, 6, 0] rfl) _ _ hf kx0
          · replace hf := ite_f hf hc6
            refine lv_aload C.x C.b dX3_textFor_52 (lv_at hl 0 rfl) ?_
            refine lv_iload_n C.x C.b dX3_textFor_54 rfl (lv_at hl 2 rfl) ?_
            replace hf := bn2_s hf; obtain ⟨v9, m8, hkm8, hf⟩ := hf
            refine z_cV (As := [.int g1]) (rest := []) (st1 := [.int v9]) C Z mw_X9_lastClauseOf mv_X9_lastClauseOf k_545 (by decide) (z_hR hR (by decide)) (lvC19 (vin_lt hq3)) kC19 zc9 (c_X9_lastClauseOf (l := l) (K := K) (ad := ad) (vin_lt hq3) hkm8) rfl hl.1 rfl (Nat.le_of_ble_eq_true rfl) dX3_textFor_55 hB rfl (fun H locs Z => ?_)
            refine lv_if_lt (tgt := 71) C.x C.b dX3_textFor_58 (by decide) (fun hc10 => ?_) (fun hc10 => ?_)
            · replace hf := ite_t hf hc10
              replace hf := lt1_s hf; obtain ⟨x11, ex11, hf⟩ := hf
              refine z_iinc (v := x11) (lv' := [(5, .int x11), (6, .ref (ad 19 (Int32.toNatClampNeg u5))), (0, .ref (ad 6 0)), (1, .int g1), (2, .int g2), (3, .int u3), (4, .int u4)]) C dX3_textFor_71 hl (k := 6) rfl (by rw [ex11]; rfl) (by decide) rfl (onlast 5 rfl rfl rfl) (fun ls hl => ?_)
              refine lv_goto (tgt := 8) C.x C.b dX3_textFor_74 (by decide) ?_
              exact ih _ _ _ _ _ _ _ Z (lv_sub hl [2, 3, 4, 5, 6, 0] rfl) _ _ hf kx0
            · replace hf := ite_f hf hc10
              refine lv_iload C.x C.b dX3_textFor_61 (lv_at hl 6 rfl) ?_
              refine z_istore_n (lv' := [(3, .int u5), (6, .ref (ad 19 (Int32.toNatClampNeg u5))), (0, .ref (ad 6 0)), (1, .int g1), (2, .int g2), (4, .int u4), (5, .int u5)]) C dX3_textFor_63 rfl hl (by decide) rfl (onlast 3 rfl rfl rfl) (fun ls hl => ?_)
              refine lv_aload C.x C.b dX3_textFor_64 (lv_at hl 1 rfl) ?_
              refine z_get C Z (lvC19 (vin_lt hq3)) kC19 zc9 zin9 0 (by decide) k_169 rfl svC19_0 dX3_textFor_66 ?_
              replace hf := lt1_s hf; obtain ⟨x12, ex12, hf⟩ := hf
              refine z_renI ex12 ?_
              refine z_istore (lv' := [(4, .int x12), (3, .int u5), (6, .ref (ad 19 (Int32.toNatClampNeg u5))), (0, .ref (ad 6 0)), (1, .int g1), (2, .int g2), (5, .int u5)]) C dX3_textFor_69 hl (by decide) rfl (onlast 0 rfl rfl rfl) (fun ls hl => ?_)
              replace hf := lt1_s hf; obtain ⟨x13, ex13, hf⟩ := hf
              refine z_iinc (v := x13) (lv' := [(5, .int x13), (4, .int x12), (3, .int u5), (6, .ref (ad 19 (Int32.toNatClampNeg u5))), (0, .ref (ad 6 0)), (1, .int g1), (2, .int g2)]) C dX3_textFor_71 hl (k := 6) rfl (by rw [ex13]; rfl) (by decide) rfl (onlast 0 rfl rfl rfl) (fun ls hl => ?_)
              refine lv_goto (tgt := 8) C.x C.b dX3_textFor_74 (by decide) ?_
              exact ih _ _ _ _ _ _ _ Z (lv_sub hl [4, 5, 6, 2, 1, 0] rfl) _ _ hf kx0
set_option maxRecDepth 100000 in
set_option maxHeartbeats 4000000 in
theorem c_X3_textFor {l : Launch} {K : KG} {ad : Nat → Nat → Nat} {fl : Nat} {a1 : Int32} {a2 : Int32} {M0 : Mem} {r9 : Int32} {M9 : Mem} (hf : f_X3_textFor fl a1 a2 M0 = some (r9, M9)) : Met l yX3_textFor (Cond.code yX3_textFor cX3_textFor 7 (some .int) :: ztb) (RM (2) 0 0) (zPc K LC ad M0 [.ref (ad 6 0), .int a1, .int a2]) (zQ K LC ad (some (.int r9)) M9) 0 0 (zA ad) := by
  refine z_enter (by decide) (Nat.le_of_ble_eq_true rfl) ?_
  intro p e s m args below meth c ls C hin hargs Z hl
  replace C : Cx p s m args meth c cX3_textFor 7 "GlassPalace$Laws" (some .int) := C
  replace hl : lv_has ls 7 [(0, .ref (ad 6 0)), (1, .int a1), (2, .int a2)] := hl
  have hR : 2 ≤ (RM (2) 0 0).frames ∧ 40 * (2) ≤ (RM (2) 0 0).locals := ⟨Nat.le_refl _, Nat.le_refl _⟩
  have hB : 0 ≤ (RM (2) 0 0).cells ∧ 0 ≤ (RM (2) 0 0).slots := ⟨Nat.zero_le _, Nat.zero_le _⟩
  unfold f_X3_textFor at hf
  refine lv_iconst (v := (-1)) C.x C.b dX3_textFor_0 (by decide) ?_
  refine z_istore_n (lv' := [(3, .int (-1)), (0, .ref (ad 6 0)), (1, .int a1), (2, .int a2)]) C dX3_textFor_1 rfl hl (by decide) rfl (onlast 2 rfl rfl rfl) (fun ls hl => ?_)
  refine lv_iconst (v := 0) C.x C.b dX3_textFor_2 (by decide) ?_
  refine z_istore (lv' := [(4, .int 0), (3, .int (-1)), (0, .ref (ad 6 0)), (1, .int a1), (2, .int a2)]) C dX3_textFor_3 hl (by decide) rfl (onlast 0 rfl rfl rfl) (fun ls hl => ?_)
  refine lv_iconst (v := 0) C.x C.b dX3_textFor_5 (by decide) ?_
  refine z_istore (lv' := [(5, .int 0), (4, .int 0), (3, .int (-1)), (0, .ref (ad 6 0)), (1, .int a1), (2, .int a2)]) C dX3_textFor_6 hl (by decide) rfl (onlast 0 rfl rfl rfl) (fun ls hl => ?_)
  replace hf := bn2_s hf; obtain ⟨q14, m15, hq14, hf⟩ := hf
  refine w_X3_textFor_l8 C hR hB  fl _ _ _ _ _ _ _ Z (lv_sub hl [3, 4, 5, 2, 1, 0] rfl) _ _ hq14 (fun H locs ls Z hl => ?_)
  refine lv_iload_n C.x C.b dX3_textFor_77 rfl (lv_at hl 0 rfl) ?_
  obtain ⟨rfl, rfl⟩ := pr_s hf
  exact z_iret C Z dX3_textFor_78
theorem dX9_valueOf_0 : decode cX9_valueOf 0 = .ok (.iload_n 1, 1) := by decide +kernel
theorem dX9_valueOf_1 : decode cX9_valueOf 1 = .ok (.ifCond .lt 18, 3) := by decide +kernel
theorem dX9_valueOf_4 : decode cX9_valueOf 4 = .ok (.iload_n 1, 1) := by decide +kernel
theorem dX9_valueOf_5 : decode cX9_valueOf 5 = .ok (.bipush 8, 2) := by decide +kernel
theorem dX9_valueOf_7 : decode cX9_valueOf 7 = .ok (.if_icmp .ge 12, 3) := by decide +kernel
theorem dX9_valueOf_10 : decode cX9_valueOf 10 = .ok (.aload_n 0, 1) := by decide +kernel
theorem dX9_valueOf_11 : decode cX9_valueOf 11 = .ok (.getfield 15, 3) := by decide +kernel
theorem dX9_valueOf_14 : decode cX9_valueOf 14 = .ok (.iload_n 1, 1) := by decide +kernel
theorem dX9_valueOf_15 : decode cX9_valueOf 15 = .ok (.iaload, 1) := by decide +kernel
theorem dX9_valueOf_16 : decode cX9_valueOf 16 = .ok (.goto 4, 3) := by decide +kernel
theorem dX9_valueOf_19 : decode cX9_valueOf 19 = .ok (.iconst 0, 1) := by decide +kernel
theorem dX9_valueOf_20 : decode cX9_valueOf 20 = .ok (.ireturn, 1) := by decide +kernel
set_option maxRecDepth 100000 in
set_option maxHeartbeats 4000000 in
theorem c_X9_valueOf {l : Launch} {K : KG} {ad : Nat → Nat → Nat} {fl : Nat} {o : Nat} {a1 : Int32} {M0 : Mem} {r9 : Int32} {M9 : Mem} (ho : o < 10) (hf : f_X9_valueOf fl o a1 M0 = some (r9, M9)) : Met l yX9_valueOf (Cond.code yX9_valueOf cX9_valueOf 2 (some .int) :: ztb) (RM (1) 0 0) (zPc K LC ad M0 [.ref (ad 19 o), .int a1]) (zQ K LC ad (some (.int r9)) M9) 0 0 (zA ad) := by
  refine z_enter (by decide) (Nat.le_of_ble_eq_true rfl) ?_
  intro p e s m args below meth c ls C hin hargs Z hl
  replace C : Cx p s m args meth c cX9_valueOf 2 "GlassPalace$Text" (some .int) := C
  replace hl : lv_has ls 2 [(0, .ref (ad 19 o)), (1, .int a1)] := hl
  have hR : 1 ≤ (RM (1) 0 0).frames ∧ 40 * (1) ≤ (RM (1) 0 0).locals := ⟨Nat.le_refl _, Nat.le_refl _⟩
  have hB : 0 ≤ (RM (1) 0 0).cells ∧ 0 ≤ (RM (1) 0 0).slots := ⟨Nat.zero_le _, Nat.zero_le _⟩
  unfold f_X9_valueOf at hf
  refine lv_iload_n C.x C.b dX9_valueOf_0 rfl (lv_at hl 1 rfl) ?_
  refine lv_if_lt (tgt := 19) C.x C.b dX9_valueOf_1 (by decide) (fun hc1 => ?_) (fun hc1 => ?_)
  · replace hf := ite_t hf hc1
    refine lv_iconst (v := 0) C.x C.b dX9_valueOf_19 (by decide) ?_
    obtain ⟨rfl, rfl⟩ := pr_s hf
    exact z_iret C Z dX9_valueOf_20
  · replace hf := ite_f hf hc1
    refine lv_iload_n C.x C.b dX9_valueOf_4 rfl (lv_at hl 1 rfl) ?_
    refine lv_bipush (v := 8) C.x C.b dX9_valueOf_5 (by decide) ?_
    refine lv_icmp_ge (tgt := 19) C.x C.b dX9_valueOf_7 (by decide) (fun hc2 => ?_) (fun hc2 => ?_)
    · replace hf := ite_t hf hc2
      refine lv_iconst (v := 0) C.x C.b dX9_valueOf_19 (by decide) ?_
      obtain ⟨rfl, rfl⟩ := pr_s hf
      exact z_iret C Z dX9_valueOf_20
    · replace hf := ite_f hf hc2
      refine lv_aload_n C.x C.b dX9_valueOf_10 rfl (lv_at hl 0 rfl) ?_
      refine z_get C Z (lvC19 ho) kC19 zc9 zin9 4 (by decide) k_175 rfl svC19_4 dX9_valueOf_11 ?_
      refine lv_iload_n C.x C.b dX9_valueOf_14 rfl (lv_at hl 1 rfl) ?_
      replace hf := asr_s hf; obtain ⟨hq3, hf⟩ := hf
      refine z_iald C Z (lvC21 ho) kC21 hq3 svC21 dX9_valueOf_15 ?_
      refine lv_goto (tgt := 20) C.x C.b dX9_valueOf_16 (by decide) ?_
      obtain ⟨rfl, rfl⟩ := pr_s hf
      exact z_iret C Z dX9_valueOf_20
theorem dX3_numberFor_0 : decode cX3_numberFor 0 = .ok (.aload_n 0, 1) := by decide +kernel
theorem dX3_numberFor_1 : decode cX3_numberFor 1 = .ok (.aload_n 0, 1) := by decide +kernel
theorem dX3_numberFor_2 : decode cX3_numberFor 2 = .ok (.iload_n 1, 1) := by decide +kernel
theorem dX3_numberFor_3 : decode cX3_numberFor 3 = .ok (.iload_n 2, 1) := by decide +kernel
theorem dX3_numberFor_4 : decode cX3_numberFor 4 = .ok (.invokevirtual 33, 3) := by decide +kernel
theorem dX3_numberFor_7 : decode cX3_numberFor 7 = .ok (.invokevirtual 37, 3) := by decide +kernel
theorem dX3_numberFor_10 : decode cX3_numberFor 10 = .ok (.astore_n 3, 1) := by decide +kernel
theorem dX3_numberFor_11 : decode cX3_numberFor 11 = .ok (.aload_n 3, 1) := by decide +kernel
theorem dX3_numberFor_12 : decode cX3_numberFor 12 = .ok (.ifnull 13, 3) := by decide +kernel
theorem dX3_numberFor_15 : decode cX3_numberFor 15 = .ok (.aload_n 3, 1) := by decide +kernel
theorem dX3_numberFor_16 : decode cX3_numberFor 16 = .ok (.aload_n 3, 1) := by decide +kernel
theorem dX3_numberFor_17 : decode cX3_numberFor 17 = .ok (.iload_n 1, 1) := by decide +kernel
theorem dX3_numberFor_18 : decode cX3_numberFor 18 = .ok (.invokevirtual 29, 3) := by decide +kernel
theorem dX3_numberFor_21 : decode cX3_numberFor 21 = .ok (.invokevirtual 41, 3) := by decide +kernel
theorem dX3_numberFor_24 : decode cX3_numberFor 24 = .ok (.ireturn, 1) := by decide +kernel
theorem dX3_numberFor_25 : decode cX3_numberFor 25 = .ok (.iload_n 1, 1) := by decide +kernel
theorem dX3_numberFor_26 : decode cX3_numberFor 26 = .ok (.ifCond .lt 19, 3) := by decide +kernel
theorem dX3_numberFor_29 : decode cX3_numberFor 29 = .ok (.iload_n 1, 1) := by decide +kernel
theorem dX3_numberFor_30 : decode cX3_numberFor 30 = .ok (.getstatic 44, 3) := by decide +kernel
theorem dX3_numberFor_33 : decode cX3_numberFor 33 = .ok (.arraylength, 1) := by decide +kernel
theorem dX3_numberFor_34 : decode cX3_numberFor 34 = .ok (.if_icmp .ge 11, 3) := by decide +kernel
theorem dX3_numberFor_37 : decode cX3_numberFor 37 = .ok (.getstatic 44, 3) := by decide +kernel
theorem dX3_numberFor_40 : decode cX3_numberFor 40 = .ok (.iload_n 1, 1) := by decide +kernel
theorem dX3_numberFor_41 : decode cX3_numberFor 41 = .ok (.iaload, 1) := by decide +kernel
theorem dX3_numberFor_42 : decode cX3_numberFor 42 = .ok (.goto 4, 3) := by decide +kernel
theorem dX3_numberFor_45 : decode cX3_numberFor 45 = .ok (.iconst 0, 1) := by decide +kernel
theorem dX3_numberFor_46 : decode cX3_numberFor 46 = .ok (.ireturn, 1) := by decide +kernel
set_option maxRecDepth 100000 in
set_option maxHeartbeats 4000000 in
theorem c_X3_numberFor {l : Launch} {K : KG} {ad : Nat → Nat → Nat} {fl : Nat} {a1 : Int32} {a2 : Int32} {M0 : Mem} {r9 : Int32} {M9 : Mem} (hf : f_X3_numberFor fl a1 a2 M0 = some (r9, M9)) : Met l yX3_numberFor (Cond.code yX3_numberFor cX3_numberFor 4 (some .int) :: ztb) (RM (3) 0 0) (zPc K LC ad M0 [.ref (ad 6 0), .int a1, .int a2]) (zQ K LC ad (some (.int r9)) M9) 0 0 (zA ad) := by
  refine z_enter (by decide) (Nat.le_of_ble_eq_true rfl) ?_
  intro p e s m args below meth c ls C hin hargs Z hl
  replace C : Cx p s m args meth c cX3_numberFor 4 "GlassPalace$Laws" (some .int) := C
  replace hl : lv_has ls 4 [(0, .ref (ad 6 0)), (1, .int a1), (2, .int a2)] := hl
  have hR : 3 ≤ (RM (3) 0 0).frames ∧ 40 * (3) ≤ (RM (3) 0 0).locals := ⟨Nat.le_refl _, Nat.le_refl _⟩
  have hB : 0 ≤ (RM (3) 0 0).cells ∧ 0 ≤ (RM (3) 0 0).slots := ⟨Nat.zero_le _, Nat.zero_le _⟩
  unfold f_X3_numberFor at hf
  refine lv_aload_n C.x C.b dX3_numberFor_0 rfl (lv_at hl 0 rfl) ?_
  refine lv_aload_n C.x C.b dX3_numberFor_1 rfl (lv_at hl 0 rfl) ?_
  refine lv_iload_n C.x C.b dX3_numberFor_2 rfl (lv_at hl 1 rfl) ?_
  refine lv_iload_n C.x C.b dX3_numberFor_3 rfl (lv_at hl 2 rfl) ?_
  replace hf := bn2_s hf; obtain ⟨v2, m1, hkm1, hf⟩ := hf
  refine z_cV (As := [.int a1, .int a2]) (rest := [.ref (ad 6 0)]) (st1 := [.int v2, .ref (ad 6 0)]) C Z mw_X3_textFor mv_X3_textFor k_541 (by decide) (z_hR hR (by decide)) (lvC6 Nat.zero_lt_one) kC6 zc3 (c_X3_textFor (l := l) (K := K) (ad := ad) hkm1) rfl hl.1 rfl (Nat.le_of_ble_eq_true rfl) dX3_numberFor_4 hB rfl (fun H locs Z => ?_)
  replace hf := bn2_s hf; obtain ⟨c4, m3, hkm3, hf⟩ := hf
  refine z_cV (As := [.int v2]) (rest := []) (st1 := [rf (ad 19) c4]) C Z mw_X3_textOf mv_X3_textOf k_549 (by decide) (z_hR hR (by decide)) (lvC6 Nat.zero_lt_one) kC6 zc3 (c_X3_textOf (l := l) (K := K) (ad := ad) hkm3) rfl hl.1 rfl (Nat.le_of_ble_eq_true rfl) dX3_numberFor_7 hB rfl (fun H locs Z => ?_)
  refine z_cstore_n (lv' := [(3, rf (ad 19) c4), (0, .ref (ad 6 0)), (1, .int a1), (2, .int a2)]) C dX3_numberFor_10 rfl hl (by decide) rfl (onlast 2 rfl rfl rfl) (fun ls hl => ?_)
  refine z_aload_n C dX3_numberFor_11 rfl (lv_at hl 0 rfl) ?_
  refine z_ifnull C dX3_numberFor_12 (tgt := 25) (by decide) (fun hc5 => ?_) (fun hc5 => ?_)
  · replace hf := ite_t hf hc5
    refine lv_iload_n C.x C.b dX3_numberFor_25 rfl (lv_at hl 2 rfl) ?_
    refine lv_if_lt (tgt := 45) C.x C.b dX3_numberFor_26 (by decide) (fun hc6 => ?_) (fun hc6 => ?_)
    · replace hf := ite_t hf hc6
      refine lv_iconst (v := 0) C.x C.b dX3_numberFor_45 (by decide) ?_
      obtain ⟨rfl, rfl⟩ := pr_s hf
      exact z_iret C Z dX3_numberFor_46
    · replace hf := ite_f hf hc6
      refine lv_iload_n C.x C.b dX3_numberFor_29 rfl (lv_at hl 2 rfl) ?_
      refine va_gets C.x C.b Z.2.2.2.1.1 Z.2.1 C.o (C.w k_575) (fun _ h => h) dX3_numberFor_30 ?_
      refine va_tlen C.x C.b Z.2.2.2.1.2 Z.2.1 (v := 4) (by decide) dX3_numberFor_33 ?_
      refine lv_icmp_ge (tgt := 45) C.x C.b dX3_numberFor_34 (by decide) (fun hc7 => ?_) (fun hc7 => ?_)
      · replace hf := ite_t hf hc7
        refine lv_iconst (v := 0) C.x C.b dX3_numberFor_45 (by decide) ?_
        obtain ⟨rfl, rfl⟩ := pr_s hf
        exact z_iret C Z dX3_numberFor_46
      · replace hf := ite_f hf hc7
        refine va_gets C.x C.b Z.2.2.2.1.1 Z.2.1 C.o (C.w k_575) (fun _ h => h) dX3_numberFor_37 ?_
        refine lv_iload_n C.x C.b dX3_numberFor_40 rfl (lv_at hl 2 rfl) ?_
        replace hf := asr_s hf; obtain ⟨hq8, hf⟩ := hf
        refine z_ti C Z Z.2.2.2.1.2 hq8 dX3_numberFor_41 ?_
        refine lv_goto (tgt := 46) C.x C.b dX3_numberFor_42 (by decide) ?_
        obtain ⟨rfl, rfl⟩ := pr_s hf
        exact z_iret C Z dX3_numberFor_46
  · replace hf := ite_f hf hc5
    refine z_aload_n C dX3_numberFor_15 rfl (lv_at hl 0 rfl) ?_
    refine z_aload_n C dX3_numberFor_16 rfl (lv_at hl 0 rfl) ?_
    refine lv_iload_n C.x C.b dX3_numberFor_17 rfl (lv_at hl 2 rfl) ?_
    replace hf := drf_s hf; obtain ⟨j9, ej11, hj10, hf⟩ := hf
    subst ej11
    refine z_nn [.int a1] (y := j9 + 1) rfl ?_
    replace hf := bn2_s hf; obtain ⟨v13, m12, hkm12, hf⟩ := hf
    refine z_cV (As := [.int a1]) (rest := [.ref (ad 19 j9)]) (st1 := [.int v13, .ref (ad 19 j9)]) C Z mw_X9_lastClauseOf mv_X9_lastClauseOf k_545 (by decide) (z_hR hR (by decide)) (lvC19 hj10) kC19 zc9 (c_X9_lastClauseOf (l := l) (K := K) (ad := ad) hj10 hkm12) rfl hl.1 rfl (Nat.le_of_ble_eq_true rfl) dX3_numberFor_18 hB rfl (fun H locs Z => ?_)
    replace hf := bn2_s hf; obtain ⟨v15, m14, hkm14, hf⟩ := hf
    refine z_cV (As := [.int v13]) (rest := []) (st1 := [.int v15]) C Z mw_X9_valueOf mv_X9_valueOf k_553 (by decide) (z_hR hR (by decide)) (lvC19 hj10) kC19 zc9 (c_X9_valueOf (l := l) (K := K) (ad := ad) hj10 hkm14) rfl hl.1 rfl (Nat.le_of_ble_eq_true rfl) dX3_numberFor_21 hB rfl (fun H locs Z => ?_)
    obtain ⟨rfl, rfl⟩ := pr_s hf
    exact z_iret C Z dX3_numberFor_24
theorem dX9_testHolds_0 : decode cX9_testHolds 0 = .ok (.iload_n 0, 1) := by decide +kernel
theorem dX9_testHolds_1 : decode cX9_testHolds 1 = .ok (.sipush 1000, 3) := by decide +kernel
theorem dX9_testHolds_4 : decode cX9_testHolds 4 = .ok (.irem, 1) := by decide +kernel
theorem dX9_testHolds_5 : decode cX9_testHolds 5 = .ok (.istore_n 2, 1) := by decide +kernel
theorem dX9_testHolds_6 : decode cX9_testHolds 6 = .ok (.iload_n 0, 1) := by decide +kernel
theorem dX9_testHolds_7 : decode cX9_testHolds 7 = .ok (.sipush 1000, 3) := by decide +kernel
theorem dX9_testHolds_10 : decode cX9_testHolds 10 = .ok (.idiv, 1) := by decide +kernel
theorem dX9_testHolds_11 : decode cX9_testHolds 11 = .ok (.iconst 3, 1) := by decide +kernel
theorem dX9_testHolds_12 : decode cX9_testHolds 12 = .ok (.irem, 1) := by decide +kernel
theorem dX9_testHolds_13 : decode cX9_testHolds 13 = .ok (.istore_n 3, 1) := by decide +kernel
theorem dX9_testHolds_14 : decode cX9_testHolds 14 = .ok (.iload_n 0, 1) := by decide +kernel
theorem dX9_testHolds_15 : decode cX9_testHolds 15 = .ok (.sipush 1000, 3) := by decide +kernel
theorem dX9_testHolds_18 : decode cX9_testHolds 18 = .ok (.idiv, 1) := by decide +kernel
theorem dX9_testHolds_19 : decode cX9_testHolds 19 = .ok (.iconst 3, 1) := by decide +kernel
theorem dX9_testHolds_20 : decode cX9_testHolds 20 = .ok (.idiv, 1) := by decide +kernel
theorem dX9_testHolds_21 : decode cX9_testHolds 21 = .ok (.istore 4, 2) := by decide +kernel
theorem dX9_testHolds_23 : decode cX9_testHolds 23 = .ok (.iload 4, 2) := by decide +kernel
theorem dX9_testHolds_25 : decode cX9_testHolds 25 = .ok (.ifCond .lt 17, 3) := by decide +kernel
theorem dX9_testHolds_28 : decode cX9_testHolds 28 = .ok (.iload 4, 2) := by decide +kernel
theorem dX9_testHolds_30 : decode cX9_testHolds 30 = .ok (.aload_n 1, 1) := by decide +kernel
theorem dX9_testHolds_31 : decode cX9_testHolds 31 = .ok (.arraylength, 1) := by decide +kernel
theorem dX9_testHolds_32 : decode cX9_testHolds 32 = .ok (.if_icmp .ge 10, 3) := by decide +kernel
theorem dX9_testHolds_35 : decode cX9_testHolds 35 = .ok (.aload_n 1, 1) := by decide +kernel
theorem dX9_testHolds_36 : decode cX9_testHolds 36 = .ok (.iload 4, 2) := by decide +kernel
theorem dX9_testHolds_38 : decode cX9_testHolds 38 = .ok (.iaload, 1) := by decide +kernel
theorem dX9_testHolds_39 : decode cX9_testHolds 39 = .ok (.goto 4, 3) := by decide +kernel
theorem dX9_testHolds_42 : decode cX9_testHolds 42 = .ok (.iconst 0, 1) := by decide +kernel
theorem dX9_testHolds_43 : decode cX9_testHolds 43 = .ok (.istore 5, 2) := by decide +kernel
theorem dX9_testHolds_45 : decode cX9_testHolds 45 = .ok (.iload_n 3, 1) := by decide +kernel
theorem dX9_testHolds_46 : decode cX9_testHolds 46 = .ok (.lookupswitch 50 #[(0, 26), (1, 38)], 26) := by decide +kernel
theorem dX9_testHolds_72 : decode cX9_testHolds 72 = .ok (.iload 5, 2) := by decide +kernel
theorem dX9_testHolds_74 : decode cX9_testHolds 74 = .ok (.iload_n 2, 1) := by decide +kernel
theorem dX9_testHolds_75 : decode cX9_testHolds 75 = .ok (.if_icmp .ge 7, 3) := by decide +kernel
theorem dX9_testHolds_78 : decode cX9_testHolds 78 = .ok (.iconst 1, 1) := by decide +kernel
theorem dX9_testHolds_79 : decode cX9_testHolds 79 = .ok (.goto 4, 3) := by decide +kernel
theorem dX9_testHolds_82 : decode cX9_testHolds 82 = .ok (.iconst 0, 1) := by decide +kernel
theorem dX9_testHolds_83 : decode cX9_testHolds 83 = .ok (.ireturn, 1) := by decide +kernel
theorem dX9_testHolds_84 : decode cX9_testHolds 84 = .ok (.iload 5, 2) := by decide +kernel
theorem dX9_testHolds_86 : decode cX9_testHolds 86 = .ok (.iload_n 2, 1) := by decide +kernel
theorem dX9_testHolds_87 : decode cX9_testHolds 87 = .ok (.if_icmp .ne 7, 3) := by decide +kernel
theorem dX9_testHolds_90 : decode cX9_testHolds 90 = .ok (.iconst 1, 1) := by decide +kernel
theorem dX9_testHolds_91 : decode cX9_testHolds 91 = .ok (.goto 4, 3) := by decide +kernel
theorem dX9_testHolds_94 : decode cX9_testHolds 94 = .ok (.iconst 0, 1) := by decide +kernel
theorem dX9_testHolds_95 : decode cX9_testHolds 95 = .ok (.ireturn, 1) := by decide +kernel
theorem dX9_testHolds_96 : decode cX9_testHolds 96 = .ok (.iload 5, 2) := by decide +kernel
theorem dX9_testHolds_98 : decode cX9_testHolds 98 = .ok (.iload_n 2, 1) := by decide +kernel
theorem dX9_testHolds_99 : decode cX9_testHolds 99 = .ok (.if_icmp .le 7, 3) := by decide +kernel
theorem dX9_testHolds_102 : decode cX9_testHolds 102 = .ok (.iconst 1, 1) := by decide +kernel
theorem dX9_testHolds_103 : decode cX9_testHolds 103 = .ok (.goto 4, 3) := by decide +kernel
theorem dX9_testHolds_106 : decode cX9_testHolds 106 = .ok (.iconst 0, 1) := by decide +kernel
theorem dX9_testHolds_107 : decode cX9_testHolds 107 = .ok (.ireturn, 1) := by decide +kernel
set_option maxRecDepth 100000 in
set_option maxHeartbeats 4000000 in
theorem w_X9_testHolds_b43 {p : Program} {l : Launch} {e : Env} {s : State} {m : MethodId} {args : Array Value} {below : List Frame} {meth : Method} {c : Code} {K : KG} {ad : Nat → Nat → Nat} {fl : Nat} {H : Heap} {locs : List Loc} {ls : Array Slot} {g2 : Int32} {g3 : Int32} {z0 : Int32} {M0 : Mem} {r9 : Int32} {M9 : Mem} (C : Cx p s m args meth c cX9_testHolds 6 "GlassPalace$Text" (some .boolean)) (hR : 1 ≤ (RM (1) 0 0).frames ∧ 40 * (1) ≤ (RM (1) 0 0).locals) (hB : 0 ≤ (RM (1) 0 0).cells ∧ 0 ≤ (RM (1) 0 0).slots) (Z : Zd K LC ad M0 s H locs) (hl : lv_has ls 6 [(2, .int g2), (3, .int g3)]) (hf : f_X9_testHolds_b43 fl g2 g3 z0 M0 = some (r9, M9)) : W p l e (RM (1) 0 0) s m args below meth c H locs 0 0 (MQ below (zQ K LC ad (some (.int r9)) M9) args s 0 0 (zA ad)) (F0 m 43 ls [.int z0]) := by
  unfold f_X9_testHolds_b43 at hf
  refine z_istore (lv' := [(5, .int z0), (2, .int g2), (3, .int g3)]) C dX9_testHolds_43 hl (by decide) rfl (nolast rfl) (fun ls hl => ?_)
  refine lv_iload_n C.x C.b dX9_testHolds_45 rfl (lv_at hl 2 rfl) ?_
  by_cases hx6 : g3 = 0
  · replace hf := ite_t hf hx6
    refine lv_lookup (tgt := 72) (off := 26) C.x C.b dX9_testHolds_46 (by decide) (by rw [hx6]; rfl) (by decide) ?_
    refine lv_iload C.x C.b dX9_testHolds_72 (lv_at hl 0 rfl) ?_
    refine lv_iload_n C.x C.b dX9_testHolds_74 rfl (lv_at hl 1 rfl) ?_
    refine lv_icmp_ge (tgt := 82) C.x C.b dX9_testHolds_75 (by decide) (fun hc7 => ?_) (fun hc7 => ?_)
    · replace hf := ite_t hf hc7
      refine lv_iconst (v := 0) C.x C.b dX9_testHolds_82 (by decide) ?_
      obtain ⟨rfl, rfl⟩ := pr_s hf
      exact z_zret C Z rfl dX9_testHolds_83
    · replace hf := ite_f hf hc7
      refine lv_iconst (v := 1) C.x C.b dX9_testHolds_78 (by decide) ?_
      refine lv_goto (tgt := 83) C.x C.b dX9_testHolds_79 (by decide) ?_
      obtain ⟨rfl, rfl⟩ := pr_s hf
      exact z_zret C Z rfl dX9_testHolds_83
  replace hf := ite_f hf hx6
  by_cases hx8 : g3 = 1
  · replace hf := ite_t hf hx8
    refine lv_lookup (tgt := 84) (off := 38) C.x C.b dX9_testHolds_46 (by decide) (by rw [hx8]; rfl) (by decide) ?_
    refine lv_iload C.x C.b dX9_testHolds_84 (lv_at hl 0 rfl) ?_
    refine lv_iload_n C.x C.b dX9_testHolds_86 rfl (lv_at hl 1 rfl) ?_
    refine lv_icmp_ne (tgt := 94) C.x C.b dX9_testHolds_87 (by decide) (fun hc9 => ?_) (fun hc9 => ?_)
    · replace hf := ite_f hf hc9
      refine lv_iconst (v := 0) C.x C.b dX9_testHolds_94 (by decide) ?_
      obtain ⟨rfl, rfl⟩ := pr_s hf
      exact z_zret C Z rfl dX9_testHolds_95
    · replace hf := ite_t hf hc9
      refine lv_iconst (v := 1) C.x C.b dX9_testHolds_90 (by decide) ?_
      refine lv_goto (tgt := 95) C.x C.b dX9_testHolds_91 (by decide) ?_
      obtain ⟨rfl, rfl⟩ := pr_s hf
      exact z_zret C Z rfl dX9_testHolds_95
  replace hf := ite_f hf hx8
  refine lv_lookup (tgt := 96) (off := 50) C.x C.b dX9_testHolds_46 (by decide) (by show Op.lookupswitch.offset [(0, 26), (1, 38)] 50 _ = 50; rw [lv_osw (a := 0) hx6 (by decide), lv_osw (a := 1) hx8 (by decide)]; rfl) (by decide) ?_
  refine lv_iload C.x C.b dX9_testHolds_96 (lv_at hl 0 rfl) ?_
  refine lv_iload_n C.x C.b dX9_testHolds_98 rfl (lv_at hl 1 rfl) ?_
  refine lv_icmp_le (tgt := 106) C.x C.b dX9_testHolds_99 (by decide) (fun hc10 => ?_) (fun hc10 => ?_)
  · replace hf := ite_t hf hc10
    refine lv_iconst (v := 0) C.x C.b dX9_testHolds_106 (by decide) ?_
    obtain ⟨rfl, rfl⟩ := pr_s hf
    exact z_zret C Z rfl dX9_testHolds_107
  · replace hf := ite_f hf hc10
    refine lv_iconst (v := 1) C.x C.b dX9_testHolds_102 (by decide) ?_
    refine lv_goto (tgt := 107) C.x C.b dX9_testHolds_103 (by decide) ?_
    obtain ⟨rfl, rfl⟩ := pr_s hf
    exact z_zret C Z rfl dX9_testHolds_107
set_option maxRecDepth 100000 in
set_option maxHeartbeats 4000000 in
theorem c_X9_testHolds {l : Launch} {K : KG} {ad : Nat → Nat → Nat} {fl : Nat} {a1 : Int32} {M0 : Mem} {r9 : Int32} {M9 : Mem} (hf : f_X9_testHolds fl a1 M0 = some (r9, M9)) : Met l yX9_testHolds (Cond.code yX9_testHolds cX9_testHolds 6 (some .boolean) :: ztb) (RM (1) 0 0) (zPc K LC ad M0 [.int a1, .ref (ad 18 0)]) (zQ K LC ad (some (.int r9)) M9) 0 0 (zA ad) := by
  refine z_enter (by decide) (Nat.le_of_ble_eq_true rfl) ?_
  intro p e s m args below meth c ls C hin hargs Z hl
  replace C : Cx p s m args meth c cX9_testHolds 6 "GlassPalace$Text" (some .boolean) := C
  replace hl : lv_has ls 6 [(0, .int a1), (1, .ref (ad 18 0))] := hl
  have hR : 1 ≤ (RM (1) 0 0).frames ∧ 40 * (1) ≤ (RM (1) 0 0).locals := ⟨Nat.le_refl _, Nat.le_refl _⟩
  have hB : 0 ≤ (RM (1) 0 0).cells ∧ 0 ≤ (RM (1) 0 0).slots := ⟨Nat.zero_le _, Nat.zero_le _⟩
  unfold f_X9_testHolds at hf
  refine lv_iload_n C.x C.b dX9_testHolds_0 rfl (lv_at hl 0 rfl) ?_
  refine lv_sipush (v := 1000) C.x C.b dX9_testHolds_1 (by decide) ?_
  refine z_irem C dX9_testHolds_4 (by decide) ?_
  replace hf := lt1_s hf; obtain ⟨x1, ex1, hf⟩ := hf
  refine z_renI ex1 ?_
  refine z_istore_n (lv' := [(2, .int x1), (0, .int a1), (1, .ref (ad 18 0))]) C dX9_testHolds_5 rfl hl (by decide) rfl (onlast 1 rfl rfl rfl) (fun ls hl => ?_)
  refine lv_iload_n C.x C.b dX9_testHolds_6 rfl (lv_at hl 1 rfl) ?_
  refine lv_sipush (v := 1000) C.x C.b dX9_testHolds_7 (by decide) ?_
  refine lv_idiv C.x C.b dX9_testHolds_10 (by decide) ?_
  refine lv_iconst (v := 3) C.x C.b dX9_testHolds_11 (by decide) ?_
  refine z_irem C dX9_testHolds_12 (by decide) ?_
  replace hf := lt1_s hf; obtain ⟨x2, ex2, hf⟩ := hf
  refine z_renI ex2 ?_
  refine z_istore_n (lv' := [(3, .int x2), (2, .int x1), (0, .int a1), (1, .ref (ad 18 0))]) C dX9_testHolds_13 rfl hl (by decide) rfl (onlast 0 rfl rfl rfl) (fun ls hl => ?_)
  refine lv_iload_n C.x C.b dX9_testHolds_14 rfl (lv_at hl 2 rfl) ?_
  refine lv_sipush (v := 1000) C.x C.b dX9_testHolds_15 (by decide) ?_
  refine lv_idiv C.x C.b dX9_testHolds_18 (by decide) ?_
  refine lv_iconst (v := 3) C.x C.b dX9_testHolds_19 (by decide) ?_
  refine lv_idiv C.x C.b dX9_testHolds_20 (by decide) ?_
  replace hf := lt1_s hf; obtain ⟨x3, ex3, hf⟩ := hf
  refine z_renI ex3 ?_
  refine z_istore (lv' := [(4, .int x3), (3, .int x2), (2, .int x1), (0, .int a1), (1, .ref (ad 18 0))]) C dX9_testHolds_21 hl (by decide) rfl (onlast 0 rfl rfl rfl) (fun ls hl => ?_)
  refine lv_iload C.x C.b dX9_testHolds_23 (lv_at hl 0 rfl) ?_
  replace hf := bn2_s hf; obtain ⟨q4, m5, hq4, hf⟩ := hf
  have kq4 : ∀ (H : Heap) (locs : List Loc) (ls : Array Slot), Zd K LC ad m5 s H locs → lv_has ls 6 [(2, .int x1), (3, .int x2)] → W p l e (RM (1) 0 0) s m args below meth c H locs 0 0 (MQ below (zQ K LC ad (some (.int r9)) M9) args s 0 0 (zA ad)) (F0 m 43 ls [.int q4]) := by
    intro H locs ls Z hl
    exact w_X9_testHolds_b43 C hR hB  Z (lv_sub hl [0, 1] rfl) hf
  clear hf
  refine lv_if_lt (tgt := 42) C.x C.b dX9_testHolds_25 (by decide) (fun hc11 => ?_) (fun hc11 => ?_)
  · have hf := ite_t hq4 hc11; clear hq4
    refine lv_iconst (v := 0) C.x C.b dX9_testHolds_42 (by decide) ?_
    obtain ⟨rfl, rfl⟩ := pr_s hf
    exact kq4 _ _ _ Z (lv_sub hl [2, 1] rfl)
  · have hf := ite_f hq4 hc11; clear hq4
    refine lv_iload C.x C.b dX9_testHolds_28 (lv_at hl 0 rfl) ?_
    refine lv_aload_n C.x C.b dX9_testHolds_30 rfl (lv_at hl 4 rfl) ?_
    refine z_alen C Z (lvC18 Nat.zero_lt_one) kC18 0 rfl (v := 6) (by decide) dX9_testHolds_31 ?_
    refine lv_icmp_ge (tgt := 42) C.x C.b dX9_testHolds_32 (by decide) (fun hc12 => ?_) (fun hc12 => ?_)
    · replace hf := ite_t hf hc12
      refine lv_iconst (v := 0) C.x C.b dX9_testHolds_42 (by decide) ?_
      obtain ⟨rfl, rfl⟩ := pr_s hf
      exact kq4 _ _ _ Z (lv_sub hl [2, 1] rfl)
    · replace hf := ite_f hf hc12
      refine lv_aload_n C.x C.b dX9_testHolds_35 rfl (lv_at hl 4 rfl) ?_
      refine lv_iload C.x C.b dX9_testHolds_36 (lv_at hl 0 rfl) ?_
      replace hf := asr_s hf; obtain ⟨hq13, hf⟩ := hf
      refine z_iald C Z (lvC18 Nat.zero_lt_one) kC18 hq13 svC18 dX9_testHolds_38 ?_
      refine lv_goto (tgt := 43) C.x C.b dX9_testHolds_39 (by decide) ?_
      obtain ⟨rfl, rfl⟩ := pr_s hf
      exact kq4 _ _ _ Z (lv_sub hl [2, 1] rfl)
