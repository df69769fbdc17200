theorem dX12_taken_0 : decode cX12_taken 0 = .ok (.aload_n 0, 1) := by decide +kernel
theorem dX12_taken_1 : decode cX12_taken 1 = .ok (.iload_n 2, 1) := by decide +kernel
theorem dX12_taken_2 : decode cX12_taken 2 = .ok (.iconst 0, 1) := by decide +kernel
theorem dX12_taken_3 : decode cX12_taken 3 = .ok (.bipush 6, 2) := by decide +kernel
theorem dX12_taken_5 : decode cX12_taken 5 = .ok (.invokevirtual 3, 3) := by decide +kernel
theorem dX12_taken_8 : decode cX12_taken 8 = .ok (.ifCond .ne 6, 3) := by decide +kernel
theorem dX12_taken_11 : decode cX12_taken 11 = .ok (.bipush (-2), 2) := by decide +kernel
theorem dX12_taken_13 : decode cX12_taken 13 = .ok (.ireturn, 1) := by decide +kernel
theorem dX12_taken_14 : decode cX12_taken 14 = .ok (.aload_n 0, 1) := by decide +kernel
theorem dX12_taken_15 : decode cX12_taken 15 = .ok (.iload_n 1, 1) := by decide +kernel
theorem dX12_taken_16 : decode cX12_taken 16 = .ok (.invokevirtual 251, 3) := by decide +kernel
theorem dX12_taken_19 : decode cX12_taken 19 = .ok (.ifCond .ne 6, 3) := by decide +kernel
theorem dX12_taken_22 : decode cX12_taken 22 = .ok (.bipush (-11), 2) := by decide +kernel
theorem dX12_taken_24 : decode cX12_taken 24 = .ok (.ireturn, 1) := by decide +kernel
theorem dX12_taken_25 : decode cX12_taken 25 = .ok (.iload_n 2, 1) := by decide +kernel
theorem dX12_taken_26 : decode cX12_taken 26 = .ok (.ifCond .eq 29, 3) := by decide +kernel
theorem dX12_taken_29 : decode cX12_taken 29 = .ok (.aload_n 0, 1) := by decide +kernel
theorem dX12_taken_30 : decode cX12_taken 30 = .ok (.getfield 37, 3) := by decide +kernel
theorem dX12_taken_33 : decode cX12_taken 33 = .ok (.iload_n 1, 1) := by decide +kernel
theorem dX12_taken_34 : decode cX12_taken 34 = .ok (.iaload, 1) := by decide +kernel
theorem dX12_taken_35 : decode cX12_taken 35 = .ok (.iload_n 2, 1) := by decide +kernel
theorem dX12_taken_36 : decode cX12_taken 36 = .ok (.if_icmp .eq 19, 3) := by decide +kernel
theorem dX12_taken_39 : decode cX12_taken 39 = .ok (.iload_n 2, 1) := by decide +kernel
theorem dX12_taken_40 : decode cX12_taken 40 = .ok (.iconst 1, 1) := by decide +kernel
theorem dX12_taken_41 : decode cX12_taken 41 = .ok (.if_icmp .ne 23, 3) := by decide +kernel
theorem dX12_taken_44 : decode cX12_taken 44 = .ok (.aload_n 0, 1) := by decide +kernel
theorem dX12_taken_45 : decode cX12_taken 45 = .ok (.getfield 37, 3) := by decide +kernel
theorem dX12_taken_48 : decode cX12_taken 48 = .ok (.iload_n 1, 1) := by decide +kernel
theorem dX12_taken_49 : decode cX12_taken 49 = .ok (.iaload, 1) := by decide +kernel
theorem dX12_taken_50 : decode cX12_taken 50 = .ok (.bipush 6, 2) := by decide +kernel
theorem dX12_taken_52 : decode cX12_taken 52 = .ok (.if_icmp .ne 12, 3) := by decide +kernel
theorem dX12_taken_55 : decode cX12_taken 55 = .ok (.aload_n 0, 1) := by decide +kernel
theorem dX12_taken_56 : decode cX12_taken 56 = .ok (.getfield 37, 3) := by decide +kernel
theorem dX12_taken_59 : decode cX12_taken 59 = .ok (.iload_n 1, 1) := by decide +kernel
theorem dX12_taken_60 : decode cX12_taken 60 = .ok (.iaload, 1) := by decide +kernel
theorem dX12_taken_61 : decode cX12_taken 61 = .ok (.goto 5, 3) := by decide +kernel
theorem dX12_taken_64 : decode cX12_taken 64 = .ok (.bipush (-12), 2) := by decide +kernel
theorem dX12_taken_66 : decode cX12_taken 66 = .ok (.ireturn, 1) := by decide +kernel
set_option maxRecDepth 100000 in
set_option maxHeartbeats 4000000 in
theorem c_X12_taken {l : Launch} {K : KG} {ad : Nat → Nat → Nat} {fl : Nat} {a1 : Int32} {a2 : Int32} {M0 : Mem} {r9 : Int32} {M9 : Mem} (hf : f_X12_taken fl a1 a2 M0 = some (r9, M9)) : Met l yX12_taken (Cond.code yX12_taken cX12_taken 3 (some .int) :: ztb) (RM (3) 0 0) (zPc K LM ad M0 [.ref (ad 0 0), .int a1, .int a2]) (zQ K LM ad (some (.int r9)) M9) 0 0 (zA ad) := by
  refine z_enter (by decide) (Nat.le_of_ble_eq_true rfl) ?_
  intro p e s m args below meth c ls C hin hargs Z hl
  replace C : Cx p s m args meth c cX12_taken 3 "GlassPalaceModel" (some .int) := C
  replace hl : lv_has ls 3 [(0, .ref (ad 0 0)), (1, .int a1), (2, .int a2)] := hl
  have hR : 3 ≤ (RM (3) 0 0).frames ∧ 40 * (3) ≤ (RM (3) 0 0).locals := ⟨Nat.le_refl _, Nat.le_refl _⟩
  have hB : 0 ≤ (RM (3) 0 0).cells ∧ 0 ≤ (RM (3) 0 0).slots := ⟨Nat.zero_le _, Nat.zero_le _⟩
  unfold f_X12_taken at hf
  refine lv_aload_n C.x C.b dX12_taken_0 rfl (lv_at hl 0 rfl) ?_
  refine lv_iload_n C.x C.b dX12_taken_1 rfl (lv_at hl 2 rfl) ?_
  refine lv_iconst (v := 0) C.x C.b dX12_taken_2 (by decide) ?_
  refine lv_bipush (v := 6) C.x C.b dX12_taken_3 (by decide) ?_
  replace hf := bn2_s hf; obtain ⟨v2, m1, hkm1, hf⟩ := hf
  refine z_cV (As := [.int a2, .int 0, .int 6]) (rest := []) (st1 := [.int v2]) C Z mw_X12_in mv_X12_in k_1398 (by decide) (z_hR hR (by decide)) (lvM0 Nat.zero_lt_one) kM0 zc12 (c_X12_in (l := l) (K := K) (ad := ad) hkm1) rfl hl.1 rfl (Nat.le_of_ble_eq_true rfl) dX12_taken_5 hB rfl (fun H locs Z => ?_)
  refine lv_if_ne (tgt := 14) C.x C.b dX12_taken_8 (by decide) (fun hc3 => ?_) (fun hc3 => ?_)
  · replace hf := ite_f hf hc3
    refine lv_aload_n C.x C.b dX12_taken_14 rfl (lv_at hl 0 rfl) ?_
    refine lv_iload_n C.x C.b dX12_taken_15 rfl (lv_at hl 1 rfl) ?_
    replace hf := bn2_s hf; obtain ⟨v5, m4, hkm4, hf⟩ := hf
    refine z_cV (As := [.int a1]) (rest := []) (st1 := [.int v5]) C Z mw_X12_isLot mv_X12_isLot k_1434 (by decide) (z_hR hR (by decide)) (lvM0 Nat.zero_lt_one) kM0 zc12 (c_X12_isLot (l := l) (K := K) (ad := ad) hkm4) rfl hl.1 rfl (Nat.le_of_ble_eq_true rfl) dX12_taken_16 hB rfl (fun H locs Z => ?_)
    refine lv_if_ne (tgt := 25) C.x C.b dX12_taken_19 (by decide) (fun hc6 => ?_) (fun hc6 => ?_)
    · replace hf := ite_f hf hc6
      refine lv_iload_n C.x C.b dX12_taken_25 rfl (lv_at hl 2 rfl) ?_
      refine lv_if_eq (tgt := 55) C.x C.b dX12_taken_26 (by decide) (fun hc7 => ?_) (fun hc7 => ?_)
      · replace hf := ite_t hf hc7
        refine lv_aload_n C.x C.b dX12_taken_55 rfl (lv_at hl 0 rfl) ?_
        refine z_get C Z (lvM0 Nat.zero_lt_one) kM0 zc12 zin12 6 (by decide) k_1182 rfl svM0_6 dX12_taken_56 ?_
        refine lv_iload_n C.x C.b dX12_taken_59 rfl (lv_at hl 1 rfl) ?_
        replace hf := asr_s hf; obtain ⟨hq8, hf⟩ := hf
        refine z_iald C Z (lvM5 Nat.zero_lt_one) kM5 hq8 svM5 dX12_taken_60 ?_
        refine lv_goto (tgt := 66) C.x C.b dX12_taken_61 (by decide) ?_
        obtain ⟨rfl, rfl⟩ := pr_s hf
        exact z_iret C Z dX12_taken_66
      · replace hf := ite_f hf hc7
        refine lv_aload_n C.x C.b dX12_taken_29 rfl (lv_at hl 0 rfl) ?_
        refine z_get C Z (lvM0 Nat.zero_lt_one) kM0 zc12 zin12 6 (by decide) k_1182 rfl svM0_6 dX12_taken_30 ?_
        refine lv_iload_n C.x C.b dX12_taken_33 rfl (lv_at hl 1 rfl) ?_
        replace hf := asr_s hf; obtain ⟨hq9, hf⟩ := hf
        refine z_iald C Z (lvM5 Nat.zero_lt_one) kM5 hq9 svM5 dX12_taken_34 ?_
        refine lv_iload_n C.x C.b dX12_taken_35 rfl (lv_at hl 2 rfl) ?_
        refine lv_icmp_eq (tgt := 55) C.x C.b dX12_taken_36 (by decide) (fun hc10 => ?_) (fun hc10 => ?_)
        · replace hf := ite_t hf hc10
          refine lv_aload_n C.x C.b dX12_taken_55 rfl (lv_at hl 0 rfl) ?_
          refine z_get C Z (lvM0 Nat.zero_lt_one) kM0 zc12 zin12 6 (by decide) k_1182 rfl svM0_6 dX12_taken_56 ?_
          refine lv_iload_n C.x C.b dX12_taken_59 rfl (lv_at hl 1 rfl) ?_
          replace hf := asr_s hf; obtain ⟨hq11, hf⟩ := hf
          refine z_iald C Z (lvM5 Nat.zero_lt_one) kM5 hq11 svM5 dX12_taken_60 ?_
          refine lv_goto (tgt := 66) C.x C.b dX12_taken_61 (by decide) ?_
          obtain ⟨rfl, rfl⟩ := pr_s hf
          exact z_iret C Z dX12_taken_66
        · replace hf := ite_f hf hc10
          refine lv_iload_n C.x C.b dX12_taken_39 rfl (lv_at hl 2 rfl) ?_
          refine lv_iconst (v := 1) C.x C.b dX12_taken_40 (by decide) ?_
          refine lv_icmp_ne (tgt := 64) C.x C.b dX12_taken_41 (by decide) (fun hc12 => ?_) (fun hc12 => ?_)
          · replace hf := ite_f hf hc12
            refine lv_bipush (v := (-12)) C.x C.b dX12_taken_64 (by decide) ?_
            obtain ⟨rfl, rfl⟩ := pr_s hf
            exact z_iret C Z dX12_taken_66
          · replace hf := ite_t hf hc12
            refine lv_aload_n C.x C.b dX12_taken_44 rfl (lv_at hl 0 rfl) ?_
            refine z_get C Z (lvM0 Nat.zero_lt_one) kM0 zc12 zin12 6 (by decide) k_1182 rfl svM0_6 dX12_taken_45 ?_
            refine lv_iload_n C.x C.b dX12_taken_48 rfl (lv_at hl 1 rfl) ?_
            replace hf := asr_s hf; obtain ⟨hq13, hf⟩ := hf
            refine z_iald C Z (lvM5 Nat.zero_lt_one) kM5 hq13 svM5 dX12_taken_49 ?_
            refine lv_bipush (v := 6) C.x C.b dX12_taken_50 (by decide) ?_
            refine lv_icmp_ne (tgt := 64) C.x C.b dX12_taken_52 (by decide) (fun hc14 => ?_) (fun hc14 => ?_)
            · replace hf := ite_f hf hc14
              refine lv_bipush (v := (-12)) C.x C.b dX12_taken_64 (by decide) ?_
              obtain ⟨rfl, rfl⟩ := pr_s hf
              exact z_iret C Z dX12_taken_66
            · replace hf := ite_t hf hc14
              refine lv_aload_n C.x C.b dX12_taken_55 rfl (lv_at hl 0 rfl) ?_
              refine z_get C Z (lvM0 Nat.zero_lt_one) kM0 zc12 zin12 6 (by decide) k_1182 rfl svM0_6 dX12_taken_56 ?_
              refine lv_iload_n C.x C.b dX12_taken_59 rfl (lv_at hl 1 rfl) ?_
              replace hf := asr_s hf; obtain ⟨hq15, hf⟩ := hf
              refine z_iald C Z (lvM5 Nat.zero_lt_one) kM5 hq15 svM5 dX12_taken_60 ?_
              refine lv_goto (tgt := 66) C.x C.b dX12_taken_61 (by decide) ?_
              obtain ⟨rfl, rfl⟩ := pr_s hf
              exact z_iret C Z dX12_taken_66
    · replace hf := ite_t hf hc6
      refine lv_bipush (v := (-11)) C.x C.b dX12_taken_22 (by decide) ?_
      obtain ⟨rfl, rfl⟩ := pr_s hf
      exact z_iret C Z dX12_taken_24
  · replace hf := ite_t hf hc3
    refine lv_bipush (v := (-2)) C.x C.b dX12_taken_11 (by decide) ?_
    obtain ⟨rfl, rfl⟩ := pr_s hf
    exact z_iret C Z dX12_taken_13
theorem dX12_standing_0 : decode cX12_standing 0 = .ok (.iconst 0, 1) := by decide +kernel
theorem dX12_standing_1 : decode cX12_standing 1 = .ok (.istore_n 1, 1) := by decide +kernel
theorem dX12_standing_2 : decode cX12_standing 2 = .ok (.iconst 0, 1) := by decide +kernel
theorem dX12_standing_3 : decode cX12_standing 3 = .ok (.istore_n 2, 1) := by decide +kernel
theorem dX12_standing_4 : decode cX12_standing 4 = .ok (.iload_n 2, 1) := by decide +kernel
theorem dX12_standing_5 : decode cX12_standing 5 = .ok (.sipush 150, 3) := by decide +kernel
theorem dX12_standing_8 : decode cX12_standing 8 = .ok (.if_icmp .ge 26, 3) := by decide +kernel
theorem dX12_standing_11 : decode cX12_standing 11 = .ok (.iload_n 1, 1) := by decide +kernel
theorem dX12_standing_12 : decode cX12_standing 12 = .ok (.aload_n 0, 1) := by decide +kernel
theorem dX12_standing_13 : decode cX12_standing 13 = .ok (.getfield 68, 3) := by decide +kernel
theorem dX12_standing_16 : decode cX12_standing 16 = .ok (.iload_n 2, 1) := by decide +kernel
theorem dX12_standing_17 : decode cX12_standing 17 = .ok (.iaload, 1) := by decide +kernel
theorem dX12_standing_18 : decode cX12_standing 18 = .ok (.ifCond .lt 7, 3) := by decide +kernel
theorem dX12_standing_21 : decode cX12_standing 21 = .ok (.iconst 1, 1) := by decide +kernel
theorem dX12_standing_22 : decode cX12_standing 22 = .ok (.goto 4, 3) := by decide +kernel
theorem dX12_standing_25 : decode cX12_standing 25 = .ok (.iconst 0, 1) := by decide +kernel
theorem dX12_standing_26 : decode cX12_standing 26 = .ok (.iadd, 1) := by decide +kernel
theorem dX12_standing_27 : decode cX12_standing 27 = .ok (.istore_n 1, 1) := by decide +kernel
theorem dX12_standing_28 : decode cX12_standing 28 = .ok (.iinc 2 1, 3) := by decide +kernel
theorem dX12_standing_31 : decode cX12_standing 31 = .ok (.goto (-27), 3) := by decide +kernel
theorem dX12_standing_34 : decode cX12_standing 34 = .ok (.iconst 0, 1) := by decide +kernel
theorem dX12_standing_35 : decode cX12_standing 35 = .ok (.istore_n 2, 1) := by decide +kernel
theorem dX12_standing_36 : decode cX12_standing 36 = .ok (.iload_n 2, 1) := by decide +kernel
theorem dX12_standing_37 : decode cX12_standing 37 = .ok (.bipush 30, 2) := by decide +kernel
theorem dX12_standing_39 : decode cX12_standing 39 = .ok (.if_icmp .ge 18, 3) := by decide +kernel
theorem dX12_standing_42 : decode cX12_standing 42 = .ok (.iload_n 1, 1) := by decide +kernel
theorem dX12_standing_43 : decode cX12_standing 43 = .ok (.aload_n 0, 1) := by decide +kernel
theorem dX12_standing_44 : decode cX12_standing 44 = .ok (.getfield 71, 3) := by decide +kernel
theorem dX12_standing_47 : decode cX12_standing 47 = .ok (.iload_n 2, 1) := by decide +kernel
theorem dX12_standing_48 : decode cX12_standing 48 = .ok (.iaload, 1) := by decide +kernel
theorem dX12_standing_49 : decode cX12_standing 49 = .ok (.iadd, 1) := by decide +kernel
theorem dX12_standing_50 : decode cX12_standing 50 = .ok (.istore_n 1, 1) := by decide +kernel
theorem dX12_standing_51 : decode cX12_standing 51 = .ok (.iinc 2 1, 3) := by decide +kernel
theorem dX12_standing_54 : decode cX12_standing 54 = .ok (.goto (-18), 3) := by decide +kernel
theorem dX12_standing_57 : decode cX12_standing 57 = .ok (.iload_n 1, 1) := by decide +kernel
theorem dX12_standing_58 : decode cX12_standing 58 = .ok (.ireturn, 1) := by decide +kernel
set_option maxRecDepth 100000 in
set_option maxHeartbeats 4000000 in
theorem w_X12_standing_l4 {p : Program} {l : Launch} {e : Env} {R : Room} {s : State} {m : MethodId} {args : Array Value} {below : List Frame} {meth : Method} {c : Code} {cells slots : Nat} {Q : State → Prop} {K : KG} {ad : Nat → Nat → Nat} {fl : Nat} (C : Cx p s m args meth c cX12_standing 3 "GlassPalaceModel" (some .int)) (hR : 1 ≤ R.frames ∧ 40 * (1) ≤ R.locals) (hB : cells ≤ R.cells ∧ slots ≤ R.slots) : ∀ (n : Nat) (u1 : Int32) (u2 : Int32) (M0 : Mem) (H : Heap) (locs : List Loc) (ls : Array Slot), Zd K LM ad M0 s H locs → lv_has ls 3 [(0, .ref (ad 0 0)), (1, .int u1), (2, .int u2)] → ∀ (q : Int32) (Mq : Mem), f_X12_standing_l4 fl  n u1 u2 M0 = some (q, Mq) → (∀ (H : Heap) (locs : List Loc) (ls : Array Slot), Zd K LM ad Mq s H locs → lv_has ls 3 [(0, .ref (ad 0 0)), (1, .int q)] → W p l e R s m args below meth c H locs cells slots Q (F0 m 34 ls [])) → W p l e R s m args below meth c H locs cells slots Q (F0 m 4 ls []) := by
  intro n
  induction n with
  | zero =>
    intro u1 u2 M0 H locs ls Z hl q Mq hf
    have hf : (none : Option (Int32 × Mem)) = some (q, Mq) := hf
    cases hf
  | succ n ih =>
    intro u1 u2 M0 H locs ls Z hl q Mq hf kx0
    replace hf : f_X12_standing_l4_b (f_X12_standing_l4 fl  n) fl  u1 u2 M0 = some (q, Mq) := hf
    unfold f_X12_standing_l4_b at hf
    refine lv_iload_n C.x C.b dX12_standing_4 rfl (lv_at hl 2 rfl) ?_
    refine lv_sipush (v := 150) C.x C.b dX12_standing_5 (by decide) ?_
    refine lv_icmp_ge (tgt := 34) C.x C.b dX12_standing_8 (by decide) (fun hc1 => ?_) (fun hc1 => ?_)
    · replace hf := ite_t hf hc1
      obtain ⟨rfl, rfl⟩ := pr_s hf
      exact kx0 _ _ _ Z (lv_sub hl [0, 1] rfl)
    · replace hf := ite_f hf hc1
      refine lv_iload_n C.x C.b dX12_standing_11 rfl (lv_at hl 1 rfl) ?_
      refine lv_aload_n C.x C.b dX12_standing_12 rfl (lv_at hl 0 rfl) ?_
      refine z_get C Z (lvM0 Nat.zero_lt_one) kM0 zc12 zin12 16 (by decide) k_1192 rfl svM0_16 dX12_standing_13 ?_
      refine lv_iload_n C.x C.b dX12_standing_16 rfl (lv_at hl 2 rfl) ?_
      replace hf := asr_s hf; obtain ⟨hq2, hf⟩ := hf
      refine z_iald C Z (lvM14 Nat.zero_lt_one) kM14 hq2 svM14 dX12_standing_17 ?_
      refine lv_if_lt (tgt := 25) C.x C.b dX12_standing_18 (by decide) (fun hc3 => ?_) (fun hc3 => ?_)
      · replace hf := ite_t hf hc3
        refine lv_iconst (v := 0) C.x C.b dX12_standing_25 (by decide) ?_
        refine lv_iadd C.x C.b dX12_standing_26 ?_
        replace hf := lt1_s hf; obtain ⟨x4, ex4, hf⟩ := hf
        refine z_renI ex4 ?_
        refine z_istore_n (lv' := [(1, .int x4), (0, .ref (ad 0 0)), (2, .int u2)]) C dX12_standing_27 rfl hl (by decide) rfl (onlast 0 rfl rfl rfl) (fun ls hl => ?_)
        replace hf := lt1_s hf; obtain ⟨x5, ex5, hf⟩ := hf
        refine z_iinc (v := x5) (lv' := [(2, .int x5), (1, .int x4), (0, .ref (ad 0 0))]) C dX12_standing_28 hl (k := 2) rfl (by rw [ex5]; rfl) (by decide) rfl (onlast 0 rfl rfl rfl) (fun ls hl => ?_)
        refine lv_goto (tgt := 4) C.x C.b dX12_standing_31 (by decide) ?_
        exact ih _ _ _ _ _ _ Z (lv_sub hl [2, 1, 0] rfl) _ _ hf kx0
      · replace hf := ite_f hf hc3
        refine lv_iconst (v := 1) C.x C.b dX12_standing_21 (by decide) ?_
        refine lv_goto (tgt := 26) C.x C.b dX12_standing_22 (by decide) ?_
        refine lv_iadd C.x C.b dX12_standing_26 ?_
        replace hf := lt1_s hf; obtain ⟨x6, ex6, hf⟩ := hf
        refine z_renI ex6 ?_
        refine z_istore_n (lv' := [(1, .int x6), (0, .ref (ad 0 0)), (2, .int u2)]) C dX12_standing_27 rfl hl (by decide) rfl (onlast 0 rfl rfl rfl) (fun ls hl => ?_)
        replace hf := lt1_s hf; obtain ⟨x7, ex7, hf⟩ := hf
        refine z_iinc (v := x7) (lv' := [(2, .int x7), (1, .int x6), (0, .ref (ad 0 0))]) C dX12_standing_28 hl (k := 2) rfl (by rw [ex7]; rfl) (by decide) rfl (onlast 0 rfl rfl rfl) (fun ls hl => ?_)
        refine lv_goto (tgt := 4) C.x C.b dX12_standing_31 (by decide) ?_
        exact ih _ _ _ _ _ _ Z (lv_sub hl [2, 1, 0] rfl) _ _ hf kx0
set_option maxRecDepth 100000 in
set_option maxHeartbeats 4000000 in
theorem w_X12_standing_l36 {p : Program} {l : Launch} {e : Env} {R : Room} {s : State} {m : MethodId} {args : Array Value} {below : List Frame} {meth : Method} {c : Code} {cells slots : Nat} {Q : State → Prop} {K : KG} {ad : Nat → Nat → Nat} {fl : Nat} (C : Cx p s m args meth c cX12_standing 3 "GlassPalaceModel" (some .int)) (hR : 1 ≤ R.frames ∧ 40 * (1) ≤ R.locals) (hB : cells ≤ R.cells ∧ slots ≤ R.slots) : ∀ (n : Nat) (u1 : Int32) (u2 : Int32) (M0 : Mem) (H : Heap) (locs : List Loc) (ls : Array Slot), Zd K LM ad M0 s H locs → lv_has ls 3 [(0, .ref (ad 0 0)), (1, .int u1), (2, .int u2)] → ∀ (q : Int32) (Mq : Mem), f_X12_standing_l36 fl  n u1 u2 M0 = some (q, Mq) → (∀ (H : Heap) (locs : List Loc) (ls : Array Slot), Zd K LM ad Mq s H locs → lv_has ls 3 [(1, .int q)] → W p l e R s m args below meth c H locs cells slots Q (F0 m 57 ls [])) → W p l e R s m args below meth c H locs cells slots Q (F0 m 36 ls []) := by
  intro n
  induction n with
  | zero =>
    intro u1 u2 M0 H locs ls Z hl q Mq hf
    have hf : (none : Option (Int32 × Mem)) = some (q, Mq) := hf
    cases hf
  | succ n ih =>
    intro u1 u2 M0 H locs ls Z hl q Mq hf kx0
    replace hf : f_X12_standing_l36_b (f_X12_standing_l36 fl  n) fl  u1 u2 M0 = some (q, Mq) := hf
    unfold f_X12_standing_l36_b at hf
    refine lv_iload_n C.x C.b dX12_standing_36 rfl (lv_at hl 2 rfl) ?_
    refine lv_bipush (v := 30) C.x C.b dX12_standing_37 (by decide) ?_
    refine lv_icmp_ge (tgt := 57) C.x C.b dX12_standing_39 (by decide) (fun hc10 => ?_) (fun hc10 => ?_)
    · replace hf := ite_t hf hc10
      obtain ⟨rfl, rfl⟩ := pr_s hf
      exact kx0 _ _ _ Z (lv_sub hl [1] rfl)
    · replace hf := ite_f hf hc10
      refine lv_iload_n C.x C.b dX12_standing_42 rfl (lv_at hl 1 rfl) ?_
      refine lv_aload_n C.x C.b dX12_standing_43 rfl (lv_at hl 0 rfl) ?_
      refine z_get C Z (lvM0 Nat.zero_lt_one) kM0 zc12 zin12 17 (by decide) k_1193 rfl svM0_17 dX12_standing_44 ?_
      refine lv_iload_n C.x C.b dX12_standing_47 rfl (lv_at hl 2 rfl) ?_
      replace hf := asr_s hf; obtain ⟨hq11, hf⟩ := hf
      refine z_iald C Z (lvM15 Nat.zero_lt_one) kM15 hq11 svM15 dX12_standing_48 ?_
      refine lv_iadd C.x C.b dX12_standing_49 ?_
      replace hf := lt1_s hf; obtain ⟨x12, ex12, hf⟩ := hf
      refine z_renI ex12 ?_
      refine z_istore_n (lv' := [(1, .int x12), (0, .ref (ad 0 0)), (2, .int u2)]) C dX12_standing_50 rfl hl (by decide) rfl (onlast 0 rfl rfl rfl) (fun ls hl => ?_)
      replace hf := lt1_s hf; obtain ⟨x13, ex13, hf⟩ := hf
      refine z_iinc (v := x13) (lv' := [(2, .int x13), (1, .int x12), (0, .ref (ad 0 0))]) C dX12_standing_51 hl (k := 2) rfl (by rw [ex13]; rfl) (by decide) rfl (onlast 0 rfl rfl rfl) (fun ls hl => ?_)
      refine lv_goto (tgt := 36) C.x C.b dX12_standing_54 (by decide) ?_
      exact ih _ _ _ _ _ _ Z (lv_sub hl [2, 1, 0] rfl) _ _ hf kx0
set_option maxRecDepth 100000 in
set_option maxHeartbeats 4000000 in
theorem c_X12_standing {l : Launch} {K : KG} {ad : Nat → Nat → Nat} {fl : Nat}  {M0 : Mem} {r9 : Int32} {M9 : Mem} (hf : f_X12_standing fl  M0 = some (r9, M9)) : Met l yX12_standing (Cond.code yX12_standing cX12_standing 3 (some .int) :: ztb) (RM (1) 0 0) (zPc K LM ad M0 [.ref (ad 0 0)]) (zQ K LM ad (some (.int r9)) M9) 0 0 (zA ad) := by
  refine z_enter (by decide) (Nat.le_of_ble_eq_true rfl) ?_
  intro p e s m args below meth c ls C hin hargs Z hl
  replace C : Cx p s m args meth c cX12_standing 3 "GlassPalaceModel" (some .int) := C
  replace hl : lv_has ls 3 [(0, .ref (ad 0 0))] := hl
  have hR : 1 ≤ (RM (1) 0 0).frames ∧ 40 * (1) ≤ (RM (1) 0 0).locals := ⟨Nat.le_refl _, Nat.le_refl _⟩
  have hB : 0 ≤ (RM (1) 0 0).cells ∧ 0 ≤ (RM (1) 0 0).slots := ⟨Nat.zero_le _, Nat.zero_le _⟩
  unfold f_X12_standing at hf
  refine lv_iconst (v := 0) C.x C.b dX12_standing_0 (by decide) ?_
  refine z_istore_n (lv' := [(1, .int 0), (0, .ref (ad 0 0))]) C dX12_standing_1 rfl hl (by decide) rfl (onlast 0 rfl rfl rfl) (fun ls hl => ?_)
  refine lv_iconst (v := 0) C.x C.b dX12_standing_2 (by decide) ?_
  refine z_istore_n (lv' := [(2, .int 0), (1, .int 0), (0, .ref (ad 0 0))]) C dX12_standing_3 rfl hl (by decide) rfl (onlast 0 rfl rfl rfl) (fun ls hl => ?_)
  replace hf := bn2_s hf; obtain ⟨q8, m9, hq8, hf⟩ := hf
  refine w_X12_standing_l4 C hR hB  fl _ _ _ _ _ _ Z (lv_sub hl [2, 1, 0] rfl) _ _ hq8 (fun H locs ls Z hl => ?_)
  refine lv_iconst (v := 0) C.x C.b dX12_standing_34 (by decide) ?_
  refine z_istore_n (lv' := [(2, .int 0), (0, .ref (ad 0 0)), (1, .int q8)]) C dX12_standing_35 rfl hl (by decide) rfl (onlast 1 rfl rfl rfl) (fun ls hl => ?_)
  replace hf := bn2_s hf; obtain ⟨q14, m15, hq14, hf⟩ := hf
  refine w_X12_standing_l36 C hR hB  fl _ _ _ _ _ _ Z (lv_sub hl [1, 2, 0] rfl) _ _ hq14 (fun H locs ls Z hl => ?_)
  refine lv_iload_n C.x C.b dX12_standing_57 rfl (lv_at hl 0 rfl) ?_
  obtain ⟨rfl, rfl⟩ := pr_s hf
  exact z_iret C Z dX12_standing_58
theorem dX12_count_0 : decode cX12_count 0 = .ok (.iload_n 1, 1) := by decide +kernel
theorem dX12_count_1 : decode cX12_count 1 = .ok (.tableswitch 105 0 9 #[55, 60, 65, 70, 75, 80, 85, 90, 95, 100], 55) := by decide +kernel
theorem dX12_count_56 : decode cX12_count 56 = .ok (.aload_n 0, 1) := by decide +kernel
theorem dX12_count_57 : decode cX12_count 57 = .ok (.getfield 17, 3) := by decide +kernel
theorem dX12_count_60 : decode cX12_count 60 = .ok (.ireturn, 1) := by decide +kernel
theorem dX12_count_61 : decode cX12_count 61 = .ok (.aload_n 0, 1) := by decide +kernel
theorem dX12_count_62 : decode cX12_count 62 = .ok (.getfield 21, 3) := by decide +kernel
theorem dX12_count_65 : decode cX12_count 65 = .ok (.ireturn, 1) := by decide +kernel
theorem dX12_count_66 : decode cX12_count 66 = .ok (.aload_n 0, 1) := by decide +kernel
theorem dX12_count_67 : decode cX12_count 67 = .ok (.getfield 83, 3) := by decide +kernel
theorem dX12_count_70 : decode cX12_count 70 = .ok (.ireturn, 1) := by decide +kernel
theorem dX12_count_71 : decode cX12_count 71 = .ok (.aload_n 0, 1) := by decide +kernel
theorem dX12_count_72 : decode cX12_count 72 = .ok (.getfield 86, 3) := by decide +kernel
theorem dX12_count_75 : decode cX12_count 75 = .ok (.ireturn, 1) := by decide +kernel
theorem dX12_count_76 : decode cX12_count 76 = .ok (.aload_n 0, 1) := by decide +kernel
theorem dX12_count_77 : decode cX12_count 77 = .ok (.getfield 152, 3) := by decide +kernel
theorem dX12_count_80 : decode cX12_count 80 = .ok (.ireturn, 1) := by decide +kernel
theorem dX12_count_81 : decode cX12_count 81 = .ok (.aload_n 0, 1) := by decide +kernel
theorem dX12_count_82 : decode cX12_count 82 = .ok (.getfield 173, 3) := by decide +kernel
theorem dX12_count_85 : decode cX12_count 85 = .ok (.ireturn, 1) := by decide +kernel
theorem dX12_count_86 : decode cX12_count 86 = .ok (.aload_n 0, 1) := by decide +kernel
theorem dX12_count_87 : decode cX12_count 87 = .ok (.getfield 176, 3) := by decide +kernel
theorem dX12_count_90 : decode cX12_count 90 = .ok (.ireturn, 1) := by decide +kernel
theorem dX12_count_91 : decode cX12_count 91 = .ok (.aload_n 0, 1) := by decide +kernel
theorem dX12_count_92 : decode cX12_count 92 = .ok (.invokevirtual 405, 3) := by decide +kernel
theorem dX12_count_95 : decode cX12_count 95 = .ok (.ireturn, 1) := by decide +kernel
theorem dX12_count_96 : decode cX12_count 96 = .ok (.aload_n 0, 1) := by decide +kernel
theorem dX12_count_97 : decode cX12_count 97 = .ok (.getfield 65, 3) := by decide +kernel
theorem dX12_count_100 : decode cX12_count 100 = .ok (.ireturn, 1) := by decide +kernel
theorem dX12_count_101 : decode cX12_count 101 = .ok (.aload_n 0, 1) := by decide +kernel
theorem dX12_count_102 : decode cX12_count 102 = .ok (.getfield 218, 3) := by decide +kernel
theorem dX12_count_105 : decode cX12_count 105 = .ok (.ireturn, 1) := by decide +kernel
theorem dX12_count_106 : decode cX12_count 106 = .ok (.bipush (-2), 2) := by decide +kernel
theorem dX12_count_108 : decode cX12_count 108 = .ok (.ireturn, 1) := by decide +kernel
set_option maxRecDepth 100000 in
set_option maxHeartbeats 4000000 in
theorem c_X12_count {l : Launch} {K : KG} {ad : Nat → Nat → Nat} {fl : Nat} {a1 : Int32} {M0 : Mem} {r9 : Int32} {M9 : Mem} (hf : f_X12_count fl a1 M0 = some (r9, M9)) : Met l yX12_count (Cond.code yX12_count cX12_count 2 (some .int) :: ztb) (RM (2) 0 0) (zPc K LM ad M0 [.ref (ad 0 0), .int a1]) (zQ K LM ad (some (.int r9)) M9) 0 0 (zA ad) := by
  refine z_enter (by decide) (Nat.le_of_ble_eq_true rfl) ?_
  intro p e s m args below meth c ls C hin hargs Z hl
  replace C : Cx p s m args meth c cX12_count 2 "GlassPalaceModel" (some .int) := C
  replace hl : lv_has ls 2 [(0, .ref (ad 0 0)), (1, .int a1)] := hl
  have hR : 2 ≤ (RM (2) 0 0).frames ∧ 40 * (2) ≤ (RM (2) 0 0).locals := ⟨Nat.le_refl _, Nat.le_refl _⟩
  have hB : 0 ≤ (RM (2) 0 0).cells ∧ 0 ≤ (RM (2) 0 0).slots := ⟨Nat.zero_le _, Nat.zero_le _⟩
  unfold f_X12_count at hf
  refine lv_iload_n C.x C.b dX12_count_0 rfl (lv_at hl 1 rfl) ?_
  by_cases hx1 : a1 = 0
  · replace hf := ite_t hf hx1
    refine lv_tableIn (tgt := 56) C.x C.b dX12_count_1 (by rw [hx1]; decide) (by rw [hx1]; decide) (by rw [hx1]; rfl) (by decide) ?_
    refine lv_aload_n C.x C.b dX12_count_56 rfl (lv_at hl 0 rfl) ?_
    refine z_get C Z (lvM0 Nat.zero_lt_one) kM0 zc12 zin12 0 (by decide) k_1176 rfl svM0_0 dX12_count_57 ?_
    obtain ⟨rfl, rfl⟩ := pr_s hf
    exact z_iret C Z dX12_count_60
  replace hf := ite_f hf hx1
  by_cases hx2 : a1 = 1
  · replace hf := ite_t hf hx2
    refine lv_tableIn (tgt := 61) C.x C.b dX12_count_1 (by rw [hx2]; decide) (by rw [hx2]; decide) (by rw [hx2]; rfl) (by decide) ?_
    refine lv_aload_n C.x C.b dX12_count_61 rfl (lv_at hl 0 rfl) ?_
    refine z_get C Z (lvM0 Nat.zero_lt_one) kM0 zc12 zin12 1 (by decide) k_1177 rfl svM0_1 dX12_count_62 ?_
    obtain ⟨rfl, rfl⟩ := pr_s hf
    exact z_iret C Z dX12_count_65
  replace hf := ite_f hf hx2
  by_cases hx3 : a1 = 2
  · replace hf := ite_t hf hx3
    refine lv_tableIn (tgt := 66) C.x C.b dX12_count_1 (by rw [hx3]; decide) (by rw [hx3]; decide) (by rw [hx3]; rfl) (by decide) ?_
    refine lv_aload_n C.x C.b dX12_count_66 rfl (lv_at hl 0 rfl) ?_
    refine z_get C Z (lvM0 Nat.zero_lt_one) kM0 zc12 zin12 21 (by decide) k_1197 rfl svM0_21 dX12_count_67 ?_
    obtain ⟨rfl, rfl⟩ := pr_s hf
    exact z_iret C Z dX12_count_70
  replace hf := ite_f hf hx3
  by_cases hx4 : a1 = 3
  · replace hf := ite_t hf hx4
    refine lv_tableIn (tgt := 71) C.x C.b dX12_count_1 (by rw [hx4]; decide) (by rw [hx4]; decide) (by rw [hx4]; rfl) (by decide) ?_
    refine lv_aload_n C.x C.b dX12_count_71 rfl (lv_at hl 0 rfl) ?_
    refine z_get C Z (lvM0 Nat.zero_lt_one) kM0 zc12 zin12 22 (by decide) k_1198 rfl svM0_22 dX12_count_72 ?_
    obtain ⟨rfl, rfl⟩ := pr_s hf
    exact z_iret C Z dX12_count_75
  replace hf := ite_f hf hx4
  by_cases hx5 : a1 = 4
  · replace hf := ite_t hf hx5
    refine lv_tableIn (tgt := 76) C.x C.b dX12_count_1 (by rw [hx5]; decide) (by rw [hx5]; decide) (by rw [hx5]; rfl) (by decide) ?_
    refine lv_aload_n C.x C.b dX12_count_76 rfl (lv_at hl 0 rfl) ?_
    refine z_get C Z (lvM0 Nat.zero_lt_one) kM0 zc12 zin12 44 (by decide) k_1220 rfl svM0_44 dX12_count_77 ?_
    obtain ⟨rfl, rfl⟩ := pr_s hf
    exact z_iret C Z dX12_count_80
  replace hf := ite_f hf hx5
  by_cases hx6 : a1 = 5
  · replace hf := ite_t hf hx6
    refine lv_tableIn (tgt := 81) C.x C.b dX12_count_1 (by rw [hx6]; decide) (by rw [hx6]; decide) (by rw [hx6]; rfl) (by decide) ?_
    refine lv_aload_n C.x C.b dX12_count_81 rfl (lv_at hl 0 rfl) ?_
    refine z_get C Z (lvM0 Nat.zero_lt_one) kM0 zc12 zin12 51 (by decide) k_1227 rfl svM0_51 dX12_count_82 ?_
    obtain ⟨rfl, rfl⟩ := pr_s hf
    exact z_iret C Z dX12_count_85
  replace hf := ite_f hf hx6
  by_cases hx7 : a1 = 6
  · replace hf := ite_t hf hx7
    refine lv_tableIn (tgt := 86) C.x C.b dX12_count_1 (by rw [hx7]; decide) (by rw [hx7]; decide) (by rw [hx7]; rfl) (by decide) ?_
    refine lv_aload_n C.x C.b dX12_count_86 rfl (lv_at hl 0 rfl) ?_
    refine z_get C Z (lvM0 Nat.zero_lt_one) kM0 zc12 zin12 52 (by decide) k_1228 rfl svM0_52 dX12_count_87 ?_
    obtain ⟨rfl, rfl⟩ := pr_s hf
    exact z_iret C Z dX12_count_90
  replace hf := ite_f hf hx7
  by_cases hx8 : a1 = 7
  · replace hf := ite_t hf hx8
    refine lv_tableIn (tgt := 91) C.x C.b dX12_count_1 (by rw [hx8]; decide) (by rw [hx8]; decide) (by rw [hx8]; rfl) (by decide) ?_
    refine lv_aload_n C.x C.b dX12_count_91 rfl (lv_at hl 0 rfl) ?_
    replace hf := bn2_s hf; obtain ⟨v10, m9, hkm9, hf⟩ := hf
    refine z_cV (As := []) (rest := []) (st1 := [.int v10]) C Z mw_X12_standing mv_X12_standing k_1777 (by decide) (z_hR hR (by decide)) (lvM0 Nat.zero_lt_one) kM0 zc12 (c_X12_standing (l := l) (K := K) (ad := ad) hkm9) rfl hl.1 rfl (Nat.le_of_ble_eq_true rfl) dX12_count_92 hB rfl (fun H locs Z => ?_)
    obtain ⟨rfl, rfl⟩ := pr_s hf
    exact z_iret C Z dX12_count_95
  replace hf := ite_f hf hx8
  by_cases hx11 : a1 = 8
  · replace hf := ite_t hf hx11
    refine lv_tableIn (tgt := 96) C.x C.b dX12_count_1 (by rw [hx11]; decide) (by rw [hx11]; decide) (by rw [hx11]; rfl) (by decide) ?_
    refine lv_aload_n C.x C.b dX12_count_96 rfl (lv_at hl 0 rfl) ?_
    refine z_get C Z (lvM0 Nat.zero_lt_one) kM0 zc12 zin12 15 (by decide) k_1191 rfl svM0_15 dX12_count_97 ?_
    obtain ⟨rfl, rfl⟩ := pr_s hf
    exact z_iret C Z dX12_count_100
  replace hf := ite_f hf hx11
  by_cases hx12 : a1 = 9
  · replace hf := ite_t hf hx12
    refine lv_tableIn (tgt := 101) C.x C.b dX12_count_1 (by rw [hx12]; decide) (by rw [hx12]; decide) (by rw [hx12]; rfl) (by decide) ?_
    refine lv_aload_n C.x C.b dX12_count_101 rfl (lv_at hl 0 rfl) ?_
    refine z_get C Z (lvM0 Nat.zero_lt_one) kM0 zc12 zin12 66 (by decide) k_1242 rfl svM0_66 dX12_count_102 ?_
    obtain ⟨rfl, rfl⟩ := pr_s hf
    exact z_iret C Z dX12_count_105
  replace hf := ite_f hf hx12
  refine lv_tableOut (tgt := 106) C.x C.b dX12_count_1 (tab_out (fun k h1 h2 => by rcases (show k = 0 ∨ k = 1 ∨ k = 2 ∨ k = 3 ∨ k = 4 ∨ k = 5 ∨ k = 6 ∨ k = 7 ∨ k = 8 ∨ k = 9 by omega) with rfl | rfl | rfl | rfl | rfl | rfl | rfl | rfl | rfl | rfl <;> assumption)) (by decide) ?_
  refine lv_bipush (v := (-2)) C.x C.b dX12_count_106 (by decide) ?_
  obtain ⟨rfl, rfl⟩ := pr_s hf
  exact z_iret C Z dX12_count_108
theorem dX12_isTape_0 : decode cX12_isTape 0 = .ok (.aload_n 0, 1) := by decide +kernel
theorem dX12_isTape_1 : decode cX12_isTape 1 = .ok (.iload_n 1, 1) := by decide +kernel
theorem dX12_isTape_2 : decode cX12_isTape 2 = .ok (.iconst 0, 1) := by decide +kernel
theorem dX12_isTape_3 : decode cX12_isTape 3 = .ok (.iconst 5, 1) := by decide +kernel
theorem dX12_isTape_4 : decode cX12_isTape 4 = .ok (.invokevirtual 3, 3) := by decide +kernel
theorem dX12_isTape_7 : decode cX12_isTape 7 = .ok (.ireturn, 1) := by decide +kernel
set_option maxRecDepth 100000 in
set_option maxHeartbeats 4000000 in
theorem c_X12_isTape {l : Launch} {K : KG} {ad : Nat → Nat → Nat} {fl : Nat} {a1 : Int32} {M0 : Mem} {r9 : Int32} {M9 : Mem} (hf : f_X12_isTape fl a1 M0 = some (r9, M9)) : Met l yX12_isTape (Cond.code yX12_isTape cX12_isTape 2 (some .boolean) :: ztb) (RM (2) 0 0) (zPc K LM ad M0 [.ref (ad 0 0), .int a1]) (zQ K LM ad (some (.int r9)) M9) 0 0 (zA ad) := by
  refine z_enter (by decide) (Nat.le_of_ble_eq_true rfl) ?_
  intro p e s m args below meth c ls C hin hargs Z hl
  replace C : Cx p s m args meth c cX12_isTape 2 "GlassPalaceModel" (some .boolean) := C
  replace hl : lv_has ls 2 [(0, .ref (ad 0 0)), (1, .int a1)] := hl
  have hR : 2 ≤ (RM (2) 0 0).frames ∧ 40 * (2) ≤ (RM (2) 0 0).locals := ⟨Nat.le_refl _, Nat.le_refl _⟩
  have hB : 0 ≤ (RM (2) 0 0).cells ∧ 0 ≤ (RM (2) 0 0).slots := ⟨Nat.zero_le _, Nat.zero_le _⟩
  unfold f_X12_isTape at hf
  refine lv_aload_n C.x C.b dX12_isTape_0 rfl (lv_at hl 0 rfl) ?_
  refine lv_iload_n C.x C.b dX12_isTape_1 rfl (lv_at hl 1 rfl) ?_
  refine lv_iconst (v := 0) C.x C.b dX12_isTape_2 (by decide) ?_
  refine lv_iconst (v := 5) C.x C.b dX12_isTape_3 (by decide) ?_
  replace hf := bn2_s hf; obtain ⟨v2, m1, hkm1, hf⟩ := hf
  refine z_cV (As := [.int a1, .int 0, .int 5]) (rest := []) (st1 := [.int v2]) C Z mw_X12_in mv_X12_in k_1398 (by decide) (z_hR hR (by decide)) (lvM0 Nat.zero_lt_one) kM0 zc12 (c_X12_in (l := l) (K := K) (ad := ad) hkm1) rfl hl.1 rfl (Nat.le_of_ble_eq_true rfl) dX12_isTape_4 hB rfl (fun H locs Z => ?_)
  replace hf := asr_s hf; obtain ⟨hq3, hf⟩ := hf
  obtain ⟨rfl, rfl⟩ := pr_s hf
  exact z_zret C Z (jz01 hq3) dX12_isTape_7
theorem dX12_list_0 : decode cX12_list 0 = .ok (.aload_n 0, 1) := by decide +kernel
theorem dX12_list_1 : decode cX12_list 1 = .ok (.iload_n 1, 1) := by decide +kernel
theorem dX12_list_2 : decode cX12_list 2 = .ok (.invokevirtual 408, 3) := by decide +kernel
theorem dX12_list_5 : decode cX12_list 5 = .ok (.ifCond .eq 14, 3) := by decide +kernel
theorem dX12_list_8 : decode cX12_list 8 = .ok (.aload_n 0, 1) := by decide +kernel
theorem dX12_list_9 : decode cX12_list 9 = .ok (.iload_n 3, 1) := by decide +kernel
theorem dX12_list_10 : decode cX12_list 10 = .ok (.iconst 1, 1) := by decide +kernel
theorem dX12_list_11 : decode cX12_list 11 = .ok (.bipush 20, 2) := by decide +kernel
theorem dX12_list_13 : decode cX12_list 13 = .ok (.invokevirtual 3, 3) := by decide +kernel
theorem dX12_list_16 : decode cX12_list 16 = .ok (.ifCond .ne 7, 3) := by decide +kernel
theorem dX12_list_19 : decode cX12_list 19 = .ok (.ldc2_w 411, 3) := by decide +kernel
theorem dX12_list_22 : decode cX12_list 22 = .ok (.lreturn, 1) := by decide +kernel
theorem dX12_list_23 : decode cX12_list 23 = .ok (.aload_n 0, 1) := by decide +kernel
theorem dX12_list_24 : decode cX12_list 24 = .ok (.getfield 224, 3) := by decide +kernel
theorem dX12_list_27 : decode cX12_list 27 = .ok (.iload_n 1, 1) := by decide +kernel
theorem dX12_list_28 : decode cX12_list 28 = .ok (.iaload, 1) := by decide +kernel
theorem dX12_list_29 : decode cX12_list 29 = .ok (.ifCond .lt 17, 3) := by decide +kernel
theorem dX12_list_32 : decode cX12_list 32 = .ok (.aload_n 0, 1) := by decide +kernel
theorem dX12_list_33 : decode cX12_list 33 = .ok (.getfield 224, 3) := by decide +kernel
theorem dX12_list_36 : decode cX12_list 36 = .ok (.iload_n 1, 1) := by decide +kernel
theorem dX12_list_37 : decode cX12_list 37 = .ok (.iaload, 1) := by decide +kernel
theorem dX12_list_38 : decode cX12_list 38 = .ok (.iconst 2, 1) := by decide +kernel
theorem dX12_list_39 : decode cX12_list 39 = .ok (.if_icmp .eq 7, 3) := by decide +kernel
theorem dX12_list_42 : decode cX12_list 42 = .ok (.ldc2_w 413, 3) := by decide +kernel
theorem dX12_list_45 : decode cX12_list 45 = .ok (.lreturn, 1) := by decide +kernel
theorem dX12_list_46 : decode cX12_list 46 = .ok (.lconst 0, 1) := by decide +kernel
theorem dX12_list_47 : decode cX12_list 47 = .ok (.lstore 4, 2) := by decide +kernel
theorem dX12_list_49 : decode cX12_list 49 = .ok (.iconst 0, 1) := by decide +kernel
theorem dX12_list_50 : decode cX12_list 50 = .ok (.istore 6, 2) := by decide +kernel
theorem dX12_list_52 : decode cX12_list 52 = .ok (.iload 6, 2) := by decide +kernel
theorem dX12_list_54 : decode cX12_list 54 = .ok (.iload_n 3, 1) := by decide +kernel
theorem dX12_list_55 : decode cX12_list 55 = .ok (.if_icmp .ge 129, 3) := by decide +kernel
theorem dX12_list_58 : decode cX12_list 58 = .ok (.aload_n 0, 1) := by decide +kernel
theorem dX12_list_59 : decode cX12_list 59 = .ok (.getfield 224, 3) := by decide +kernel
theorem dX12_list_62 : decode cX12_list 62 = .ok (.iload_n 1, 1) := by decide +kernel
theorem dX12_list_63 : decode cX12_list 63 = .ok (.iaload, 1) := by decide +kernel
theorem dX12_list_64 : decode cX12_list 64 = .ok (.ifCond .lt 24, 3) := by decide +kernel
theorem dX12_list_67 : decode cX12_list 67 = .ok (.iload_n 2, 1) := by decide +kernel
theorem dX12_list_68 : decode cX12_list 68 = .ok (.ifCond .lt 20, 3) := by decide +kernel
theorem dX12_list_71 : decode cX12_list 71 = .ok (.iload_n 2, 1) := by decide +kernel
theorem dX12_list_72 : decode cX12_list 72 = .ok (.aload_n 0, 1) := by decide +kernel
theorem dX12_list_73 : decode cX12_list 73 = .ok (.getfield 227, 3) := by decide +kernel
theorem dX12_list_76 : decode cX12_list 76 = .ok (.iload_n 1, 1) := by decide +kernel
theorem dX12_list_77 : decode cX12_list 77 = .ok (.iaload, 1) := by decide +kernel
theorem dX12_list_78 : decode cX12_list 78 = .ok (.iconst 2, 1) := by decide +kernel
theorem dX12_list_79 : decode cX12_list 79 = .ok (.iload 6, 2) := by decide +kernel
theorem dX12_list_81 : decode cX12_list 81 = .ok (.imul, 1) := by decide +kernel
theorem dX12_list_82 : decode cX12_list 82 = .ok (.isub, 1) := by decide +kernel
theorem dX12_list_83 : decode cX12_list 83 = .ok (.iconst 2, 1) := by decide +kernel
theorem dX12_list_84 : decode cX12_list 84 = .ok (.isub, 1) := by decide +kernel
theorem dX12_list_85 : decode cX12_list 85 = .ok (.if_icmp .le 10, 3) := by decide +kernel
theorem dX12_list_88 : decode cX12_list 88 = .ok (.lload 4, 2) := by decide +kernel
theorem dX12_list_90 : decode cX12_list 90 = .ok (.ldc2_w 415, 3) := by decide +kernel
theorem dX12_list_93 : decode cX12_list 93 = .ok (.ladd, 1) := by decide +kernel
theorem dX12_list_94 : decode cX12_list 94 = .ok (.lreturn, 1) := by decide +kernel
theorem dX12_list_95 : decode cX12_list 95 = .ok (.aload_n 0, 1) := by decide +kernel
theorem dX12_list_96 : decode cX12_list 96 = .ok (.getfield 230, 3) := by decide +kernel
theorem dX12_list_99 : decode cX12_list 99 = .ok (.bipush 60, 2) := by decide +kernel
theorem dX12_list_101 : decode cX12_list 101 = .ok (.iload_n 1, 1) := by decide +kernel
theorem dX12_list_102 : decode cX12_list 102 = .ok (.imul, 1) := by decide +kernel
theorem dX12_list_103 : decode cX12_list 103 = .ok (.iload_n 2, 1) := by decide +kernel
theorem dX12_list_104 : decode cX12_list 104 = .ok (.iadd, 1) := by decide +kernel
theorem dX12_list_105 : decode cX12_list 105 = .ok (.iconst 2, 1) := by decide +kernel
theorem dX12_list_106 : decode cX12_list 106 = .ok (.iload 6, 2) := by decide +kernel
theorem dX12_list_108 : decode cX12_list 108 = .ok (.imul, 1) := by decide +kernel
theorem dX12_list_109 : decode cX12_list 109 = .ok (.iadd, 1) := by decide +kernel
theorem dX12_list_110 : decode cX12_list 110 = .ok (.laload, 1) := by decide +kernel
theorem dX12_list_111 : decode cX12_list 111 = .ok (.l2i, 1) := by decide +kernel
theorem dX12_list_112 : decode cX12_list 112 = .ok (.istore 7, 2) := by decide +kernel
theorem dX12_list_114 : decode cX12_list 114 = .ok (.aload_n 0, 1) := by decide +kernel
theorem dX12_list_115 : decode cX12_list 115 = .ok (.getfield 230, 3) := by decide +kernel
theorem dX12_list_118 : decode cX12_list 118 = .ok (.bipush 60, 2) := by decide +kernel
theorem dX12_list_120 : decode cX12_list 120 = .ok (.iload_n 1, 1) := by decide +kernel
theorem dX12_list_121 : decode cX12_list 121 = .ok (.imul, 1) := by decide +kernel
theorem dX12_list_122 : decode cX12_list 122 = .ok (.iload_n 2, 1) := by decide +kernel
theorem dX12_list_123 : decode cX12_list 123 = .ok (.iadd, 1) := by decide +kernel
theorem dX12_list_124 : decode cX12_list 124 = .ok (.iconst 2, 1) := by decide +kernel
theorem dX12_list_125 : decode cX12_list 125 = .ok (.iload 6, 2) := by decide +kernel
theorem dX12_list_127 : decode cX12_list 127 = .ok (.imul, 1) := by decide +kernel
theorem dX12_list_128 : decode cX12_list 128 = .ok (.iadd, 1) := by decide +kernel
theorem dX12_list_129 : decode cX12_list 129 = .ok (.iconst 1, 1) := by decide +kernel
theorem dX12_list_130 : decode cX12_list 130 = .ok (.iadd, 1) := by decide +kernel
theorem dX12_list_131 : decode cX12_list 131 = .ok (.laload, 1) := by decide +kernel
theorem dX12_list_132 : decode cX12_list 132 = .ok (.l2i, 1) := by decide +kernel
theorem dX12_list_133 : decode cX12_list 133 = .ok (.istore 8, 2) := by decide +kernel
theorem dX12_list_135 : decode cX12_list 135 = .ok (.lload 4, 2) := by decide +kernel
theorem dX12_list_137 : decode cX12_list 137 = .ok (.aload_n 0, 1) := by decide +kernel
theorem dX12_list_138 : decode cX12_list 138 = .ok (.iload 7, 2) := by decide +kernel
theorem dX12_list_140 : decode cX12_list 140 = .ok (.invokevirtual 251, 3) := by decide +kernel
theorem dX12_list_143 : decode cX12_list 143 = .ok (.ifCond .eq 31, 3) := by decide +kernel
theorem dX12_list_146 : decode cX12_list 146 = .ok (.aload_n 0, 1) := by decide +kernel
theorem dX12_list_147 : decode cX12_list 147 = .ok (.getfield 52, 3) := by decide +kernel
theorem dX12_list_150 : decode cX12_list 150 = .ok (.iload 7, 2) := by decide +kernel
theorem dX12_list_152 : decode cX12_list 152 = .ok (.iaload, 1) := by decide +kernel
theorem dX12_list_153 : decode cX12_list 153 = .ok (.ifCond .lt 21, 3) := by decide +kernel
theorem dX12_list_156 : decode cX12_list 156 = .ok (.aload_n 0, 1) := by decide +kernel
theorem dX12_list_157 : decode cX12_list 157 = .ok (.getfield 43, 3) := by decide +kernel
theorem dX12_list_160 : decode cX12_list 160 = .ok (.iload 7, 2) := by decide +kernel
theorem dX12_list_162 : decode cX12_list 162 = .ok (.iaload, 1) := by decide +kernel
theorem dX12_list_163 : decode cX12_list 163 = .ok (.iload 8, 2) := by decide +kernel
theorem dX12_list_165 : decode cX12_list 165 = .ok (.if_icmp .ne 9, 3) := by decide +kernel
theorem dX12_list_168 : decode cX12_list 168 = .ok (.ldc2_w 417, 3) := by decide +kernel
theorem dX12_list_171 : decode cX12_list 171 = .ok (.goto 4, 3) := by decide +kernel
theorem dX12_list_174 : decode cX12_list 174 = .ok (.lconst 1, 1) := by decide +kernel
theorem dX12_list_175 : decode cX12_list 175 = .ok (.ladd, 1) := by decide +kernel
theorem dX12_list_176 : decode cX12_list 176 = .ok (.lstore 4, 2) := by decide +kernel
theorem dX12_list_178 : decode cX12_list 178 = .ok (.iinc 6 1, 3) := by decide +kernel
theorem dX12_list_181 : decode cX12_list 181 = .ok (.goto (-129), 3) := by decide +kernel
theorem dX12_list_184 : decode cX12_list 184 = .ok (.lload 4, 2) := by decide +kernel
theorem dX12_list_186 : decode cX12_list 186 = .ok (.lreturn, 1) := by decide +kernel
set_option maxRecDepth 100000 in
set_option maxHeartbeats 4000000 in
theorem w_X12_list_l52 {p : Program} {l : Launch} {e : Env} {R : Room} {s : State} {m : MethodId} {args : Array Value} {below : List Frame} {meth : Method} {c : Code} {cells slots : Nat} {Q : State → Prop} {K : KG} {ad : Nat → Nat → Nat} {fl : Nat} {g1 : Int32} {g2 : Int32} {g3 : Int32} (C : Cx p s m args meth c cX12_list 9 "GlassPalaceModel" (some .long)) (hR : 3 ≤ R.frames ∧ 40 * (3) ≤ R.locals) (hB : cells ≤ R.cells ∧ slots ≤ R.slots) : ∀ (n : Nat) (u4 : Int64) (u6 : Int32) (M0 : Mem) (H : Heap) (locs : List Loc) (ls : Array Slot), Zd K LM ad M0 s H locs → lv_has ls 9 [(0, .ref (ad 0 0)), (1, .int g1), (2, .int g2), (3, .int g3), (4, .long u4), (6, .int u6)] → ∀ (q : Nat × Int64) (Mq : Mem), f_X12_list_l52 fl g1 g2 g3 n u4 u6 M0 = some (q, Mq) → (q.1 = 0 → ∀ (H : Heap) (locs : List Loc) (ls : Array Slot), Zd K LM ad Mq s H locs → lv_has ls 9 [(4, .long q.2)] → W p l e R s m args below meth c H locs cells slots Q (F0 m 88 ls [])) → (q.1 = 1 → ∀ (H : Heap) (locs : List Loc) (ls : Array Slot), Zd K LM ad Mq s H locs → lv_has ls 9 [(4, .long q.2)] → W p l e R s m args below meth c H locs cells slots Q (F0 m 184 ls [])) → W p l e R s m args below meth c H locs cells slots Q (F0 m 52 ls []) := by
  intro n
  induction n with
  | zero =>
    intro u4 u6 M0 H locs ls Z hl q Mq hf
    have hf : (none : Option ((Nat × Int64) × Mem)) = some (q, Mq) := hf
    cases hf
  | succ n ih =>
    intro u4 u6 M0 H locs ls Z hl q Mq hf kx0 kx1
    replace hf : f_X12_list_l52_b (f_X12_list_l52 fl g1 g2 g3 n) fl g1 g2 g3 u4 u6 M0 = some (q, Mq) := hf
    unfold f_X12_list_l52_b at hf
    refine lv_iload C.x C.b dX12_list_52 (lv_at hl 5 rfl) ?_
    refine lv_iload_n C.x C.b dX12_list_54 rfl (lv_at hl 3 rfl) ?_
    refine lv_icmp_ge (tgt := 184) C.x C.b dX12_list_55 (by decide) (fun hc9 => ?_) (fun hc9 => ?_)
    · replace hf := ite_t hf hc9
      obtain ⟨rfl, rfl⟩ := pr_s hf
      exact kx1 rfl _ _ _ Z (lv_sub hl [4] rfl)
    · replace hf := ite_f hf hc9
      refine lv_aload_n C.x C.b dX12_list_58 rfl (lv_at hl 0 rfl) ?_
      refine z_get C Z (lvM0 Nat.zero_lt_one) kM0 zc12 zin12 68 (by decide) k_1244 rfl svM0_68 dX12_list_59 ?_
      refine lv_iload_n C.x C.b dX12_list_62 rfl (lv_at hl 1 rfl) ?_
      replace hf := asr_s hf; obtain ⟨hq10, hf⟩ := hf
      refine z_iald C Z (lvM52 Nat.zero_lt_one) kM52 hq10 svM52 dX12_list_63 ?_
      refine lv_if_lt (tgt := 88) C.x C.b dX12_list_64 (by decide) (fun hc11 => ?_) (fun hc11 => ?_)
      · replace hf := ite_t hf hc11
        obtain ⟨rfl, rfl⟩ := pr_s hf
        exact kx0 rfl _ _ _ Z (lv_sub hl [4] rfl)
      · replace hf := ite_f hf hc11
        refine lv_iload_n C.x C.b dX12_list_67 rfl (lv_at hl 2 rfl) ?_
        refine lv_if_lt (tgt := 88) C.x C.b dX12_list_68 (by decide) (fun hc12 => ?_) (fun hc12 => ?_)
        · replace hf := ite_t hf hc12
          obtain ⟨rfl, rfl⟩ := pr_s hf
          exact kx0 rfl _ _ _ Z (lv_sub hl [4] rfl)
        · replace hf := ite_f hf hc12
          refine lv_iload_n C.x C.b dX12_list_71 rfl (lv_at hl 2 rfl) ?_
          refine lv_aload_n C.x C.b dX12_list_72 rfl (lv_at hl 0 rfl) ?_
          refine z_get C Z (lvM0 Nat.zero_lt_one) kM0 zc12 zin12 69 (by decide) k_1245 rfl svM0_69 dX12_list_73 ?_
          refine lv_iload_n C.x C.b dX12_list_76 rfl (lv_at hl 1 rfl) ?_
          replace hf := asr_s hf; obtain ⟨hq13, hf⟩ := hf
          refine z_iald C Z (lvM53 Nat.zero_lt_one) kM53 hq13 svM53 dX12_list_77 ?_
          refine lv_iconst (v := 2) C.x C.b dX12_list_78 (by decide) ?_
          refine lv_iload C.x C.b dX12_list_79 (lv_at hl 5 rfl) ?_
          refine lv_imul C.x C.b dX12_list_81 ?_
          refine lv_isub C.x C.b dX12_list_82 ?_
          refine lv_iconst (v := 2) C.x C.b dX12_list_83 (by decide) ?_
          refine lv_isub C.x C.b dX12_list_84 ?_
          refine lv_icmp_le (tgt := 95) C.x C.b dX12_list_85 (by decide) (fun hc14 => ?_) (fun hc14 => ?_)
          · replace hf := ite_t hf hc14
            refine lv_aload_n C.x C.b dX12_list_95 rfl (lv_at hl 0 rfl) ?_
            refine z_get C Z (lvM0 Nat.zero_lt_one) kM0 zc12 zin12 70 (by decide) k_1246 rfl svM0_70 dX12_list_96 ?_
            refine lv_bipush (v := 60) C.x C.b dX12_list_99 (by decide) ?_
            refine lv_iload_n C.x C.b dX12_list_101 rfl (lv_at hl 1 rfl) ?_
            refine lv_imul C.x C.b dX12_list_102 ?_
            refine lv_iload_n C.x C.b dX12_list_103 rfl (lv_at hl 2 rfl) ?_
            refine lv_iadd C.x C.b dX12_list_104 ?_
            refine lv_iconst (v := 2) C.x C.b dX12_list_105 (by decide) ?_
            refine lv_iload C.x C.b dX12_list_106 (lv_at hl 5 rfl) ?_
            refine lv_imul C.x C.b dX12_list_108 ?_
            refine lv_iadd C.x C.b dX12_list_109 ?_
            replace hf := asr_s hf; obtain ⟨hq15, hf⟩ := hf
            refine z_lald C Z (lvM54 Nat.zero_lt_one) kM54 hq15 svM54 dX12_list_110 ?_
            refine z_l2i C dX12_list_111 ?_
            replace hf := lt1_s hf; obtain ⟨x16, ex16, hf⟩ := hf
            refine z_renI ex16 ?_
            refine z_istore (lv' := [(7, .int x16), (0, .ref (ad 0 0)), (1, .int g1), (2, .int g2), (3, .int g3), (4, .long u4), (6, .int u6)]) C dX12_list_112 hl (by decide) rfl (onlast 5 rfl rfl rfl) (fun ls hl => ?_)
            refine lv_aload_n C.x C.b dX12_list_114 rfl (lv_at hl 1 rfl) ?_
            refine z_get C Z (lvM0 Nat.zero_lt_one) kM0 zc12 zin12 70 (by decide) k_1246 rfl svM0_70 dX12_list_115 ?_
            refine lv_bipush (v := 60) C.x C.b dX12_list_118 (by decide) ?_
            refine lv_iload_n C.x C.b dX12_list_120 rfl (lv_at hl 2 rfl) ?_
            refine lv_imul C.x C.b dX12_list_121 ?_
            refine lv_iload_n C.x C.b dX12_list_122 rfl (lv_at hl 3 rfl) ?_
            refine lv_iadd C.x C.b dX12_list_123 ?_
            refine lv_iconst (v := 2) C.x C.b dX12_list_124 (by decide) ?_
            refine lv_iload C.x C.b dX12_list_125 (lv_at hl 6 rfl) ?_
            refine lv_imul C.x C.b dX12_list_127 ?_
            refine lv_iadd C.x C.b dX12_list_128 ?_
            refine lv_iconst (v := 1) C.x C.b dX12_list_129 (by decide) ?_
            refine lv_iadd C.x C.b dX12_list_130 ?_
            replace hf := asr_s hf; obtain ⟨hq17, hf⟩ := hf
            refine z_lald C Z (lvM54 Nat.zero_lt_one) kM54 hq17 svM54 dX12_list_131 ?_
            refine z_l2i C dX12_list_132 ?_
            replace hf := lt1_s hf; obtain ⟨x18, ex18, hf⟩ := hf
            refine z_renI ex18 ?_
            refine z_istore (lv' := [(8, .int x18), (7, .int x16), (0, .ref (ad 0 0)), (1, .int g1), (2, .int g2), (3, .int g3), (4, .long u4), (6, .int u6)]) C dX12_list_133 hl (by decide) rfl (onlast 0 rfl rfl rfl) (fun ls hl => ?_)
            refine lv_lload C.x C.b dX12_list_135 (lv_at hl 6 rfl) ?_
            refine lv_aload_n C.x C.b dX12_list_137 rfl (lv_at hl 2 rfl) ?_
            refine lv_iload C.x C.b dX12_list_138 (lv_at hl 1 rfl) ?_
            replace hf := bn2_s hf; obtain ⟨v20, m19, hkm19, hf⟩ := hf
            refine z_cV (As := [.int x16]) (rest := [.long u4]) (st1 := [.int v20, .long u4]) C Z mw_X12_isLot mv_X12_isLot k_1434 (by decide) (z_hR hR (by decide)) (lvM0 Nat.zero_lt_one) kM0 zc12 (c_X12_isLot (l := l) (K := K) (ad := ad) hkm19) rfl hl.1 rfl (Nat.le_of_ble_eq_true rfl) dX12_list_140 hB rfl (fun H locs Z => ?_)
            refine lv_if_eq (tgt := 174) C.x C.b dX12_list_143 (by decide) (fun hc21 => ?_) (fun hc21 => ?_)
            · replace hf := ite_t hf hc21
              refine lv_lconst (v := 1) C.x C.b dX12_list_174 (by decide) ?_
              refine lv_ladd C.x C.b dX12_list_175 ?_
              replace hf := lt1_s hf; obtain ⟨y22, ey22, hf⟩ := hf
              refine z_renL ey22 ?_
              refine z_lstore (lv' := [(4, .long y22), (8, .int x18), (7, .int x16), (0, .ref (ad 0 0)), (1, .int g1), (2, .int g2), (3, .int g3), (6, .int u6)]) C dX12_list_176 hl (by decide) rfl (onlast 5 rfl rfl rfl) (fun ls hl => ?_)
              replace hf := lt1_s hf; obtain ⟨x23, ex23, hf⟩ := hf
              refine z_iinc (v := x23) (lv' := [(6, .int x23), (4, .long y22), (8, .int x18), (7, .int x16), (0, .ref (ad 0 0)), (1, .int g1), (2, .int g2), (3, .int g3)]) C dX12_list_178 hl (k := 7) rfl (by rw [ex23]; rfl) (by decide) rfl (nolast rfl) (fun ls hl => ?_)
              refine lv_goto (tgt := 52) C.x C.b dX12_list_181 (by decide) ?_
              exact ih _ _ _ _ _ _ Z (lv_sub hl [4, 5, 6, 7, 1, 0] rfl) _ _ hf kx0 kx1
            · replace hf := ite_f hf hc21
              refine lv_aload_n C.x C.b dX12_list_146 rfl (lv_at hl 2 rfl) ?_
              refine z_get C Z (lvM0 Nat.zero_lt_one) kM0 zc12 zin12 11 (by decide) k_1187 rfl svM0_11 dX12_list_147 ?_
              refine lv_iload C.x C.b dX12_list_150 (lv_at hl 1 rfl) ?_
              replace hf := asr_s hf; obtain ⟨hq24, hf⟩ := hf
              refine z_iald C Z (lvM10 Nat.zero_lt_one) kM10 hq24 svM10 dX12_list_152 ?_
              refine lv_if_lt (tgt := 174) C.x C.b dX12_list_153 (by decide) (fun hc25 => ?_) (fun hc25 => ?_)
              · replace hf := ite_t hf hc25
                refine lv_lconst (v := 1) C.x C.b dX12_list_174 (by decide) ?_
                refine lv_ladd C.x C.b dX12_list_175 ?_
                replace hf := lt1_s hf; obtain ⟨y26, ey26, hf⟩ := hf
                refine z_renL ey26 ?_
                refine z_lstore (lv' := [(4, .long y26), (8, .int x18), (7, .int x16), (0, .ref (ad 0 0)), (1, .int g1), (2, .int g2), (3, .int g3), (6, .int u6)]) C dX12_list_176 hl (by decide) rfl (onlast 5 rfl rfl rfl) (fun ls hl => ?_)
                replace hf := lt1_s hf; obtain ⟨x27, ex27, hf⟩ := hf
                refine z_iinc (v := x27) (lv' := [(6, .int x27), (4, .long y26), (8, .int x18), (7, .int x16), (0, .ref (ad 0 0)), (1, .int g1), (2, .int g2), (3, .int g3)]) C dX12_list_178 hl (k := 7) rfl (by rw [ex27]; rfl) (by decide) rfl (nolast rfl) (fun ls hl => ?_)
                refine lv_goto (tgt := 52) C.x C.b dX12_list_181 (by decide) ?_
                exact ih _ _ _ _ _ _ Z (lv_sub hl [4, 5, 6, 7, 1, 0] rfl) _ _ hf kx0 kx1
              · replace hf := ite_f hf hc25
                refine lv_aload_n C.x C.b dX12_list_156 rfl (lv_at hl 2 rfl) ?_
                refine z_get C Z (lvM0 Nat.zero_lt_one) kM0 zc12 zin12 8 (by decide) k_1184 rfl svM0_8 dX12_list_157 ?_
                refine lv_iload C.x C.b dX12_list_160 (lv_at hl 1 rfl) ?_
                replace hf := asr_s hf; obtain ⟨hq28, hf⟩ := hf
                refine z_iald C Z (lvM7 Nat.zero_lt_one) kM7 hq28 svM7 dX12_list_162 ?_
                refine lv_iload C.x C.b dX12_list_163 (lv_at hl 0 rfl) ?_
                refine lv_icmp_ne (tgt := 174) C.x C.b dX12_list_165 (by decide) (fun hc29 => ?_) (fun hc29 => ?_)
                · replace hf := ite_f hf hc29
                  refine lv_lconst (v := 1) C.x C.b dX12_list_174 (by decide) ?_
                  refine lv_ladd C.x C.b dX12_list_175 ?_
                  replace hf := lt1_s hf; obtain ⟨y30, ey30, hf⟩ := hf
                  refine z_renL ey30 ?_
                  refine z_lstore (lv' := [(4, .long y30), (8, .int x18), (7, .int x16), (0, .ref (ad 0 0)), (1, .int g1), (2, .int g2), (3, .int g3), (6, .int u6)]) C dX12_list_176 hl (by decide) rfl (onlast 5 rfl rfl rfl) (fun ls hl => ?_)
                  replace hf := lt1_s hf; obtain ⟨x31, ex31, hf⟩ := hf
                  refine z_iinc (v := x31) (lv' := [(6, .int x31), (4, .long y30), (8, .int x18), (7, .int x16), (0, .ref (ad 0 0)), (1, .int g1), (2, .int g2), (3, .int g3)]) C dX12_list_178 hl (k := 7) rfl (by rw [ex31]; rfl) (by decide) rfl (nolast rfl) (fun ls hl => ?_)
                  refine lv_goto (tgt := 52) C.x C.b dX12_list_181 (by decide) ?_
                  exact ih _ _ _ _ _ _ Z (lv_sub hl [4, 5, 6, 7, 1, 0] rfl) _ _ hf kx0 kx1
                · replace hf := ite_t hf hc29
                  refine lv_ldc2 (v := 1000) C.x C.b C.o (C.w k_1792) dX12_list_168 ?_
                  refine lv_goto (tgt := 175) C.x C.b dX12_list_171 (by decide) ?_
                  refine lv_ladd C.x C.b dX12_list_175 ?_
                  replace hf := lt1_s hf; obtain ⟨y32, ey32, hf⟩ := hf
                  refine z_renL ey32 ?_
                  refine z_lstore (lv' := [(4, .long y32), (8, .int x18), (7, .int x16), (0, .ref (ad 0 0)), (1, .int g1), (2, .int g2), (3, .int g3), (6, .int u6)]) C dX12_list_176 hl (by decide) rfl (onlast 5 rfl rfl rfl) (fun ls hl => ?_)
                  replace hf := lt1_s hf; obtain ⟨x33, ex33, hf⟩ := hf
                  refine z_iinc (v := x33) (lv' := [(6, .int x33), (4, .long y32), (8, .int x18), (7, .int x16), (0, .ref (ad 0 0)), (1, .int g1), (2, .int g2), (3, .int g3)]) C dX12_list_178 hl (k := 7) rfl (by rw [ex33]; rfl) (by decide) rfl (nolast rfl) (fun ls hl => ?_)
                  refine lv_goto (tgt := 52) C.x C.b dX12_list_181 (by decide) ?_
                  exact ih _ _ _ _ _ _ Z (lv_sub hl [4, 5, 6, 7, 1, 0] rfl) _ _ hf kx0 kx1
          · replace hf := ite_f hf hc14
            obtain ⟨rfl, rfl⟩ := pr_s hf
            exact kx0 rfl _ _ _ Z (lv_sub hl [4] rfl)
set_option maxRecDepth 100000 in
set_option maxHeartbeats 4000000 in
theorem w_X12_list_b46 {p : Program} {l : Launch} {e : Env} {s : State} {m : MethodId} {args : Array Value} {below : List Frame} {meth : Method} {c : Code} {K : KG} {ad : Nat → Nat → Nat} {fl : Nat} {H : Heap} {locs : List Loc} {ls : Array Slot} {g1 : Int32} {g2 : Int32} {g3 : Int32} {M0 : Mem} {r9 : Int64} {M9 : Mem} (C : Cx p s m args meth c cX12_list 9 "GlassPalaceModel" (some .long)) (hR : 3 ≤ (RM (3) 0 0).frames ∧ 40 * (3) ≤ (RM (3) 0 0).locals) (hB : 0 ≤ (RM (3) 0 0).cells ∧ 0 ≤ (RM (3) 0 0).slots) (Z : Zd K LM ad M0 s H locs) (hl : lv_has ls 9 [(0, .ref (ad 0 0)), (1, .int g1), (2, .int g2), (3, .int g3)]) (hf : f_X12_list_b46 fl g1 g2 g3 M0 = some (r9, M9)) : W p l e (RM (3) 0 0) s m args below meth c H locs 0 0 (MQ below (zQ K LM ad (some (.long r9)) M9) args s 0 0 (zA ad)) (F0 m 46 ls []) := by
  unfold f_X12_list_b46 at hf
  refine lv_lconst (v := 0) C.x C.b dX12_list_46 (by decide) ?_
  refine z_lstore (lv' := [(4, .long 0), (0, .ref (ad 0 0)), (1, .int g1), (2, .int g2), (3, .int g3)]) C dX12_list_47 hl (by decide) rfl (onlast 3 rfl rfl rfl) (fun ls hl => ?_)
  refine lv_iconst (v := 0) C.x C.b dX12_list_49 (by decide) ?_
  refine z_istore (lv' := [(6, .int 0), (4, .long 0), (0, .ref (ad 0 0)), (1, .int g1), (2, .int g2), (3, .int g3)]) C dX12_list_50 hl (by decide) rfl (nolast rfl) (fun ls hl => ?_)
  replace hf := bn2_s hf; obtain ⟨q34, m35, hq34, hf⟩ := hf
  refine w_X12_list_l52 C hR hB  fl _ _ _ _ _ _ Z (lv_sub hl [2, 3, 4, 5, 1, 0] rfl) _ _ hq34 (fun ht H locs ls Z hl => ?_) (fun ht H locs ls Z hl => ?_)
  · replace hf := ite_t hf ht
    refine lv_lload C.x C.b dX12_list_88 (lv_at hl 0 rfl) ?_
    refine lv_ldc2 (v := 1000000) C.x C.b C.o (C.w k_1791) dX12_list_90 ?_
    refine lv_ladd C.x C.b dX12_list_93 ?_
    obtain ⟨rfl, rfl⟩ := pr_s hf
    exact z_lret C Z dX12_list_94
  · replace hf := ite_f hf (by rw [ht]; decide)
    refine lv_lload C.x C.b dX12_list_184 (lv_at hl 0 rfl) ?_
    obtain ⟨rfl, rfl⟩ := pr_s hf
    exact z_lret C Z dX12_list_186
set_option maxRecDepth 100000 in
set_option maxHeartbeats 4000000 in
theorem c_X12_list {l : Launch} {K : KG} {ad : Nat → Nat → Nat} {fl : Nat} {a1 : Int32} {a2 : Int32} {a3 : Int32} {M0 : Mem} {r9 : Int64} {M9 : Mem} (hf : f_X12_list fl a1 a2 a3 M0 = some (r9, M9)) : Met l yX12_list (Cond.code yX12_list cX12_list 9 (some .long) :: ztb) (RM (3) 0 0) (zPc K LM ad M0 [.ref (ad 0 0), .int a1, .int a2, .int a3]) (zQ K LM ad (some (.long r9)) M9) 0 0 (zA ad) := by
  refine z_enter (by decide) (Nat.le_of_ble_eq_true rfl) ?_
  intro p e s m args below meth c ls C hin hargs Z hl
  replace C : Cx p s m args meth c cX12_list 9 "GlassPalaceModel" (some .long) := C
  replace hl : lv_has ls 9 [(0, .ref (ad 0 0)), (1, .int a1), (2, .int a2), (3, .int a3)] := hl
  have hR : 3 ≤ (RM (3) 0 0).frames ∧ 40 * (3) ≤ (RM (3) 0 0).locals := ⟨Nat.le_refl _, Nat.le_refl _⟩
  have hB : 0 ≤ (RM (3) 0 0).cells ∧ 0 ≤ (RM (3) 0 0).slots := ⟨Nat.zero_le _, Nat.zero_le _⟩
  unfold f_X12_list at hf
  refine lv_aload_n C.x C.b dX12_list_0 rfl (lv_at hl 0 rfl) ?_
  refine lv_iload_n C.x C.b dX12_list_1 rfl (lv_at hl 1 rfl) ?_
  replace hf := bn2_s hf; obtain ⟨v2, m1, hkm1, hf⟩ := hf
  refine z_cV (As := [.int a1]) (rest := []) (st1 := [.int v2]) C Z mw_X12_isTape mv_X12_isTape k_1785 (by decide) (z_hR hR (by decide)) (lvM0 Nat.zero_lt_one) kM0 zc12 (c_X12_isTape (l := l) (K := K) (ad := ad) hkm1) rfl hl.1 rfl (Nat.le_of_ble_eq_true rfl) dX12_list_2 hB rfl (fun H locs Z => ?_)
  refine lv_if_eq (tgt := 19) C.x C.b dX12_list_5 (by decide) (fun hc3 => ?_) (fun hc3 => ?_)
  · replace hf := ite_t hf hc3
    refine lv_ldc2 (v := (-9223372036854775808)) C.x C.b C.o (C.w k_1789) dX12_list_19 ?_
    obtain ⟨rfl, rfl⟩ := pr_s hf
    exact z_lret C Z dX12_list_22
  · replace hf := ite_f hf hc3
    refine lv_aload_n C.x C.b dX12_list_8 rfl (lv_at hl 0 rfl) ?_
    refine lv_iload_n C.x C.b dX12_list_9 rfl (lv_at hl 3 rfl) ?_
    refine lv_iconst (v := 1) C.x C.b dX12_list_10 (by decide) ?_
    refine lv_bipush (v := 20) C.x C.b dX12_list_11 (by decide) ?_
    replace hf := bn2_s hf; obtain ⟨v5, m4, hkm4, hf⟩ := hf
    refine z_cV (As := [.int a3, .int 1, .int 20]) (rest := []) (st1 := [.int v5]) C Z mw_X12_in mv_X12_in k_1398 (by decide) (z_hR hR (by decide)) (lvM0 Nat.zero_lt_one) kM0 zc12 (c_X12_in (l := l) (K := K) (ad := ad) hkm4) rfl hl.1 rfl (Nat.le_of_ble_eq_true rfl) dX12_list_13 hB rfl (fun H locs Z => ?_)
    refine lv_if_ne (tgt := 23) C.x C.b dX12_list_16 (by decide) (fun hc6 => ?_) (fun hc6 => ?_)
    · replace hf := ite_f hf hc6
      refine lv_aload_n C.x C.b dX12_list_23 rfl (lv_at hl 0 rfl) ?_
      refine z_get C Z (lvM0 Nat.zero_lt_one) kM0 zc12 zin12 68 (by decide) k_1244 rfl svM0_68 dX12_list_24 ?_
      refine lv_iload_n C.x C.b dX12_list_27 rfl (lv_at hl 1 rfl) ?_
      replace hf := asr_s hf; obtain ⟨hq7, hf⟩ := hf
      refine z_iald C Z (lvM52 Nat.zero_lt_one) kM52 hq7 svM52 dX12_list_28 ?_
      refine lv_if_lt (tgt := 46) C.x C.b dX12_list_29 (by decide) (fun hc8 => ?_) (fun hc8 => ?_)
      · replace hf := ite_t hf hc8
        exact w_X12_list_b46 C hR hB  Z (lv_sub hl [0, 1, 2, 3] rfl) hf
      · replace hf := ite_f hf hc8
        refine lv_aload_n C.x C.b dX12_list_32 rfl (lv_at hl 0 rfl) ?_
        refine z_get C Z (lvM0 Nat.zero_lt_one) kM0 zc12 zin12 68 (by decide) k_1244 rfl svM0_68 dX12_list_33 ?_
        refine lv_iload_n C.x C.b dX12_list_36 rfl (lv_at hl 1 rfl) ?_
        replace hf := asr_s hf; obtain ⟨hq36, hf⟩ := hf
        refine z_iald C Z (lvM52 Nat.zero_lt_one) kM52 hq36 svM52 dX12_list_37 ?_
        refine lv_iconst (v := 2) C.x C.b dX12_list_38 (by decide) ?_
        refine lv_icmp_eq (tgt := 46) C.x C.b dX12_list_39 (by decide) (fun hc37 => ?_) (fun hc37 => ?_)
        · replace hf := ite_t hf hc37
          exact w_X12_list_b46 C hR hB  Z (lv_sub hl [0, 1, 2, 3] rfl) hf
        · replace hf := ite_f hf hc37
          refine lv_ldc2 (v := (-9223372036854775807)) C.x C.b C.o (C.w k_1790) dX12_list_42 ?_
          obtain ⟨rfl, rfl⟩ := pr_s hf
          exact z_lret C Z dX12_list_45
    · replace hf := ite_t hf hc6
      refine lv_ldc2 (v := (-9223372036854775808)) C.x C.b C.o (C.w k_1789) dX12_list_19 ?_
      obtain ⟨rfl, rfl⟩ := pr_s hf
      exact z_lret C Z dX12_list_22
theorem dX12_tape_0 : decode cX12_tape 0 = .ok (.aload_n 0, 1) := by decide +kernel
theorem dX12_tape_1 : decode cX12_tape 1 = .ok (.iload_n 1, 1) := by decide +kernel
theorem dX12_tape_2 : decode cX12_tape 2 = .ok (.invokevirtual 408, 3) := by decide +kernel
theorem dX12_tape_5 : decode cX12_tape 5 = .ok (.ifCond .ne 5, 3) := by decide +kernel
theorem dX12_tape_8 : decode cX12_tape 8 = .ok (.iconst (-1), 1) := by decide +kernel
theorem dX12_tape_9 : decode cX12_tape 9 = .ok (.ireturn, 1) := by decide +kernel
theorem dX12_tape_10 : decode cX12_tape 10 = .ok (.aload_n 0, 1) := by decide +kernel
theorem dX12_tape_11 : decode cX12_tape 11 = .ok (.iload_n 2, 1) := by decide +kernel
theorem dX12_tape_12 : decode cX12_tape 12 = .ok (.iconst (-1), 1) := by decide +kernel
theorem dX12_tape_13 : decode cX12_tape 13 = .ok (.iconst 4, 1) := by decide +kernel
theorem dX12_tape_14 : decode cX12_tape 14 = .ok (.invokevirtual 3, 3) := by decide +kernel
theorem dX12_tape_17 : decode cX12_tape 17 = .ok (.ifCond .eq 13, 3) := by decide +kernel
theorem dX12_tape_20 : decode cX12_tape 20 = .ok (.iload_n 2, 1) := by decide +kernel
theorem dX12_tape_21 : decode cX12_tape 21 = .ok (.ifCond .lt 12, 3) := by decide +kernel
theorem dX12_tape_24 : decode cX12_tape 24 = .ok (.iload_n 3, 1) := by decide +kernel
theorem dX12_tape_25 : decode cX12_tape 25 = .ok (.bipush 60, 2) := by decide +kernel
theorem dX12_tape_27 : decode cX12_tape 27 = .ok (.if_icmp .le 6, 3) := by decide +kernel
theorem dX12_tape_30 : decode cX12_tape 30 = .ok (.bipush (-2), 2) := by decide +kernel
theorem dX12_tape_32 : decode cX12_tape 32 = .ok (.ireturn, 1) := by decide +kernel
theorem dX12_tape_33 : decode cX12_tape 33 = .ok (.iload_n 2, 1) := by decide +kernel
theorem dX12_tape_34 : decode cX12_tape 34 = .ok (.ifCond .lt 10, 3) := by decide +kernel
theorem dX12_tape_37 : decode cX12_tape 37 = .ok (.iload_n 3, 1) := by decide +kernel
theorem dX12_tape_38 : decode cX12_tape 38 = .ok (.ifCond .ge 6, 3) := by decide +kernel
theorem dX12_tape_41 : decode cX12_tape 41 = .ok (.bipush (-14), 2) := by decide +kernel
theorem dX12_tape_43 : decode cX12_tape 43 = .ok (.ireturn, 1) := by decide +kernel
theorem dX12_tape_44 : decode cX12_tape 44 = .ok (.aload_n 0, 1) := by decide +kernel
theorem dX12_tape_45 : decode cX12_tape 45 = .ok (.getfield 224, 3) := by decide +kernel
theorem dX12_tape_48 : decode cX12_tape 48 = .ok (.iload_n 1, 1) := by decide +kernel
theorem dX12_tape_49 : decode cX12_tape 49 = .ok (.iload_n 2, 1) := by decide +kernel
theorem dX12_tape_50 : decode cX12_tape 50 = .ok (.iastore, 1) := by decide +kernel
theorem dX12_tape_51 : decode cX12_tape 51 = .ok (.aload_n 0, 1) := by decide +kernel
theorem dX12_tape_52 : decode cX12_tape 52 = .ok (.getfield 227, 3) := by decide +kernel
theorem dX12_tape_55 : decode cX12_tape 55 = .ok (.iload_n 1, 1) := by decide +kernel
theorem dX12_tape_56 : decode cX12_tape 56 = .ok (.iload_n 2, 1) := by decide +kernel
theorem dX12_tape_57 : decode cX12_tape 57 = .ok (.ifCond .ge 7, 3) := by decide +kernel
theorem dX12_tape_60 : decode cX12_tape 60 = .ok (.iconst 0, 1) := by decide +kernel
theorem dX12_tape_61 : decode cX12_tape 61 = .ok (.goto 4, 3) := by decide +kernel
theorem dX12_tape_64 : decode cX12_tape 64 = .ok (.iload_n 3, 1) := by decide +kernel
theorem dX12_tape_65 : decode cX12_tape 65 = .ok (.iastore, 1) := by decide +kernel
theorem dX12_tape_66 : decode cX12_tape 66 = .ok (.iconst 0, 1) := by decide +kernel
theorem dX12_tape_67 : decode cX12_tape 67 = .ok (.istore 4, 2) := by decide +kernel
theorem dX12_tape_69 : decode cX12_tape 69 = .ok (.iload 4, 2) := by decide +kernel
theorem dX12_tape_71 : decode cX12_tape 71 = .ok (.bipush 60, 2) := by decide +kernel
theorem dX12_tape_73 : decode cX12_tape 73 = .ok (.if_icmp .ge 22, 3) := by decide +kernel
theorem dX12_tape_76 : decode cX12_tape 76 = .ok (.aload_n 0, 1) := by decide +kernel
theorem dX12_tape_77 : decode cX12_tape 77 = .ok (.getfield 230, 3) := by decide +kernel
theorem dX12_tape_80 : decode cX12_tape 80 = .ok (.bipush 60, 2) := by decide +kernel
theorem dX12_tape_82 : decode cX12_tape 82 = .ok (.iload_n 1, 1) := by decide +kernel
theorem dX12_tape_83 : decode cX12_tape 83 = .ok (.imul, 1) := by decide +kernel
theorem dX12_tape_84 : decode cX12_tape 84 = .ok (.iload 4, 2) := by decide +kernel
theorem dX12_tape_86 : decode cX12_tape 86 = .ok (.iadd, 1) := by decide +kernel
theorem dX12_tape_87 : decode cX12_tape 87 = .ok (.lconst 0, 1) := by decide +kernel
theorem dX12_tape_88 : decode cX12_tape 88 = .ok (.lastore, 1) := by decide +kernel
theorem dX12_tape_89 : decode cX12_tape 89 = .ok (.iinc 4 1, 3) := by decide +kernel
theorem dX12_tape_92 : decode cX12_tape 92 = .ok (.goto (-23), 3) := by decide +kernel
theorem dX12_tape_95 : decode cX12_tape 95 = .ok (.iconst 1, 1) := by decide +kernel
theorem dX12_tape_96 : decode cX12_tape 96 = .ok (.ireturn, 1) := by decide +kernel
set_option maxRecDepth 100000 in
set_option maxHeartbeats 4000000 in
theorem w_X12_tape_l69 {p : Program} {l : Launch} {e : Env} {R : Room} {s : State} {m : MethodId} {args : Array Value} {below : List Frame} {meth : Method} {c : Code} {cells slots : Nat} {Q : State → Prop} {K : KG} {ad : Nat → Nat → Nat} {fl : Nat} {g1 : Int32} (C : Cx p s m args meth c cX12_tape 5 "GlassPalaceModel" (some .int)) (hR : 3 ≤ R.frames ∧ 40 * (3) ≤ R.locals) (hB : cells ≤ R.cells ∧ slots ≤ R.slots) : ∀ (n : Nat) (u4 : Int32) (M0 : Mem) (H : Heap) (locs : List Loc) (ls : Array Slot), Zd K LM ad M0 s H locs → lv_has ls 5 [(0, .ref (ad 0 0)), (1, .int g1), (4, .int u4)] → ∀ (Mq : Mem), f_X12_tape_l69 fl g1 n u4 M0 = some Mq → (∀ (H : Heap) (locs : List Loc) (ls : Array Slot), Zd K LM ad Mq s H locs → lv_has ls 5 [] → W p l e R s m args below meth c H locs cells slots Q (F0 m 95 ls [])) → W p l e R s m args below meth c H locs cells slots Q (F0 m 69 ls []) := by
  intro n
  induction n with
  | zero =>
    intro u4 M0 H locs ls Z hl Mq hf
    have hf : (none : Option (Mem)) = some Mq := hf
    cases hf
  | succ n ih =>
    intro u4 M0 H locs ls Z hl Mq hf kx0
    replace hf : f_X12_tape_l69_b (f_X12_tape_l69 fl g1 n) fl g1 u4 M0 = some Mq := hf
    unfold f_X12_tape_l69_b at hf
    refine lv_iload C.x C.b dX12_tape_69 (lv_at hl 2 rfl) ?_
    refine lv_bipush (v := 60) C.x C.b dX12_tape_71 (by decide) ?_
    refine lv_icmp_ge (tgt := 95) C.x C.b dX12_tape_73 (by decide) (fun hc15 => ?_) (fun hc15 => ?_)
    · replace hf := ite_t hf hc15
      obtain rfl := sm_s hf
      exact kx0 _ _ _ Z (lv_sub hl [] rfl)
    · replace hf := ite_f hf hc15
      refine lv_aload_n C.x C.b dX12_tape_76 rfl (lv_at hl 0 rfl) ?_
      refine z_get C Z (lvM0 Nat.zero_lt_one) kM0 zc12 zin12 70 (by decide) k_1246 rfl svM0_70 dX12_tape_77 ?_
      refine lv_bipush (v := 60) C.x C.b dX12_tape_80 (by decide) ?_
      refine lv_iload_n C.x C.b dX12_tape_82 rfl (lv_at hl 1 rfl) ?_
      refine lv_imul C.x C.b dX12_tape_83 ?_
      refine lv_iload C.x C.b dX12_tape_84 (lv_at hl 2 rfl) ?_
      refine lv_iadd C.x C.b dX12_tape_86 ?_
      refine lv_lconst (v := 0) C.x C.b dX12_tape_87 (by decide) ?_
      replace hf := asr_s hf; obtain ⟨hq16, hf⟩ := hf
      replace hf := lt1_s hf; obtain ⟨m17, em17, hf⟩ := hf
      refine z_last (M1 := m17) C Z (lvM54 Nat.zero_lt_one) (by decide) kM54 hq16 em17 stM54u dX12_tape_88 (fun H locs Z => ?_)
      replace hf := lt1_s hf; obtain ⟨x18, ex18, hf⟩ := hf
      refine z_iinc (v := x18) (lv' := [(4, .int x18), (0, .ref (ad 0 0)), (1, .int g1)]) C dX12_tape_89 hl (k := 2) rfl (by rw [ex18]; rfl) (by decide) rfl (nolast rfl) (fun ls hl => ?_)
      refine lv_goto (tgt := 69) C.x C.b dX12_tape_92 (by decide) ?_
      exact ih _ _ _ _ _ Z (lv_sub hl [1, 2, 0] rfl) _ hf kx0
set_option maxRecDepth 100000 in
set_option maxHeartbeats 4000000 in
theorem w_X12_tape_b65 {p : Program} {l : Launch} {e : Env} {s : State} {m : MethodId} {args : Array Value} {below : List Frame} {meth : Method} {c : Code} {K : KG} {ad : Nat → Nat → Nat} {fl : Nat} {H : Heap} {locs : List Loc} {ls : Array Slot} {g1 : Int32} {z1 : Int32} {z2 : Int32} {M0 : Mem} {r9 : Int32} {M9 : Mem} (C : Cx p s m args meth c cX12_tape 5 "GlassPalaceModel" (some .int)) (hR : 3 ≤ (RM (3) 0 0).frames ∧ 40 * (3) ≤ (RM (3) 0 0).locals) (hB : 0 ≤ (RM (3) 0 0).cells ∧ 0 ≤ (RM (3) 0 0).slots) (Z : Zd K LM ad M0 s H locs) (hl : lv_has ls 5 [(0, .ref (ad 0 0)), (1, .int g1)]) (hf : f_X12_tape_b65 fl g1 z1 z2 M0 = some (r9, M9)) : W p l e (RM (3) 0 0) s m args below meth c H locs 0 0 (MQ below (zQ K LM ad (some (.int r9)) M9) args s 0 0 (zA ad)) (F0 m 65 ls [.int z2, .int z1, .ref (ad 53 0)]) := by
  unfold f_X12_tape_b65 at hf
  replace hf := asr_s hf; obtain ⟨hq13, hf⟩ := hf
  replace hf := lt1_s hf; obtain ⟨m14, em14, hf⟩ := hf
  refine z_iast (M1 := m14) C Z (lvM53 Nat.zero_lt_one) (by decide) kM53 hq13 em14 stM53u dX12_tape_65 (fun H locs Z => ?_)
  refine lv_iconst (v := 0) C.x C.b dX12_tape_66 (by decide) ?_
  refine z_istore (lv' := [(4, .int 0), (0, .ref (ad 0 0)), (1, .int g1)]) C dX12_tape_67 hl (by decide) rfl (nolast rfl) (fun ls hl => ?_)
  replace hf := bn1_s hf; obtain ⟨m20, hq19, hf⟩ := hf
  refine w_X12_tape_l69 C hR hB  fl _ _ _ _ _ Z (lv_sub hl [1, 2, 0] rfl) _ hq19 (fun H locs ls Z hl => ?_)
  refine lv_iconst (v := 1) C.x C.b dX12_tape_95 (by decide) ?_
  obtain ⟨rfl, rfl⟩ := pr_s hf
  exact z_iret C Z dX12_tape_96
set_option maxRecDepth 100000 in
set_option maxHeartbeats 4000000 in
theorem w_X12_tape_b44 {p : Program} {l : Launch} {e : Env} {s : State} {m : MethodId} {args : Array Value} {below : List Frame} {meth : Method} {c : Code} {K : KG} {ad : Nat → Nat → Nat} {fl : Nat} {H : Heap} {locs : List Loc} {ls : Array Slot} {g1 : Int32} {g2 : Int32} {g3 : Int32} {M0 : Mem} {r9 : Int32} {M9 : Mem} (C : Cx p s m args meth c cX12_tape 5 "GlassPalaceModel" (some .int)) (hR : 3 ≤ (RM (3) 0 0).frames ∧ 40 * (3) ≤ (RM (3) 0 0).locals) (hB : 0 ≤ (RM (3) 0 0).cells ∧ 0 ≤ (RM (3) 0 0).slots) (Z : Zd K LM ad M0 s H locs) (hl : lv_has ls 5 [(0, .ref (ad 0 0)), (1, .int g1), (2, .int g2), (3, .int g3)]) (hf : f_X12_tape_b44 fl g1 g2 g3 M0 = some (r9, M9)) : W p l e (RM (3) 0 0) s m args below meth c H locs 0 0 (MQ below (zQ K LM ad (some (.int r9)) M9) args s 0 0 (zA ad)) (F0 m 44 ls []) := by
  unfold f_X12_tape_b44 at hf
  refine lv_aload_n C.x C.b dX12_tape_44 rfl (lv_at hl 0 rfl) ?_
  refine z_get C Z (lvM0 Nat.zero_lt_one) kM0 zc12 zin12 68 (by decide) k_1244 rfl svM0_68 dX12_tape_45 ?_
  refine lv_iload_n C.x C.b dX12_tape_48 rfl (lv_at hl 1 rfl) ?_
  refine lv_iload_n C.x C.b dX12_tape_49 rfl (lv_at hl 2 rfl) ?_
  replace hf := asr_s hf; obtain ⟨hq9, hf⟩ := hf
  replace hf := lt1_s hf; obtain ⟨m10, em10, hf⟩ := hf
  refine z_iast (M1 := m10) C Z (lvM52 Nat.zero_lt_one) (by decide) kM52 hq9 em10 stM52u dX12_tape_50 (fun H locs Z => ?_)
  refine lv_aload_n C.x C.b dX12_tape_51 rfl (lv_at hl 0 rfl) ?_
  refine z_get C Z (lvM0 Nat.zero_lt_one) kM0 zc12 zin12 69 (by decide) k_1245 rfl svM0_69 dX12_tape_52 ?_
  refine lv_iload_n C.x C.b dX12_tape_55 rfl (lv_at hl 1 rfl) ?_
  refine lv_iload_n C.x C.b dX12_tape_56 rfl (lv_at hl 2 rfl) ?_
  replace hf := bn2_s hf; obtain ⟨q11, m12, hq11, hf⟩ := hf
  have kq11 : ∀ (H : Heap) (locs : List Loc) (ls : Array Slot), Zd K LM ad m12 s H locs → lv_has ls 5 [(0, .ref (ad 0 0)), (1, .int g1)] → W p l e (RM (3) 0 0) s m args below meth c H locs 0 0 (MQ below (zQ K LM ad (some (.int r9)) M9) args s 0 0 (zA ad)) (F0 m 65 ls [.int q11, .int g1, .ref (ad 53 0)]) := by
    intro H locs ls Z hl
    exact w_X12_tape_b65 C hR hB  Z (lv_sub hl [0, 1] rfl) hf
  clear hf
  refine lv_if_ge (tgt := 64) C.x C.b dX12_tape_57 (by decide) (fun hc21 => ?_) (fun hc21 => ?_)
  · have hf := ite_t hq11 hc21; clear hq11
    refine lv_iload_n C.x C.b dX12_tape_64 rfl (lv_at hl 3 rfl) ?_
    obtain ⟨rfl, rfl⟩ := pr_s hf
    exact kq11 _ _ _ Z (lv_sub hl [0, 1] rfl)
  · have hf := ite_f hq11 hc21; clear hq11
    refine lv_iconst (v := 0) C.x C.b dX12_tape_60 (by decide) ?_
    refine lv_goto (tgt := 65) C.x C.b dX12_tape_61 (by decide) ?_
    obtain ⟨rfl, rfl⟩ := pr_s hf
    exact kq11 _ _ _ Z (lv_sub hl [0, 1] rfl)
set_option maxRecDepth 100000 in
set_option maxHeartbeats 4000000 in
theorem w_X12_tape_b33 {p : Program} {l : Launch} {e : Env} {s : State} {m : MethodId} {args : Array Value} {below : List Frame} {meth : Method} {c : Code} {K : KG} {ad : Nat → Nat → Nat} {fl : Nat} {H : Heap} {locs : List Loc} {ls : Array Slot} {g1 : Int32} {g2 : Int32} {g3 : Int32} {M0 : Mem} {r9 : Int32} {M9 : Mem} (C : Cx p s m args meth c cX12_tape 5 "GlassPalaceModel" (some .int)) (hR : 3 ≤ (RM (3) 0 0).frames ∧ 40 * (3) ≤ (RM (3) 0 0).locals) (hB : 0 ≤ (RM (3) 0 0).cells ∧ 0 ≤ (RM (3) 0 0).slots) (Z : Zd K LM ad M0 s H locs) (hl : lv_has ls 5 [(0, .ref (ad 0 0)), (1, .int g1), (2, .int g2), (3, .int g3)]) (hf : f_X12_tape_b33 fl g1 g2 g3 M0 = some (r9, M9)) : W p l e (RM (3) 0 0) s m args below meth c H locs 0 0 (MQ below (zQ K LM ad (some (.int r9)) M9) args s 0 0 (zA ad)) (F0 m 33 ls []) := by
  unfold f_X12_tape_b33 at hf
  refine lv_iload_n C.x C.b dX12_tape_33 rfl (lv_at hl 2 rfl) ?_
  refine lv_if_lt (tgt := 44) C.x C.b dX12_tape_34 (by decide) (fun hc8 => ?_) (fun hc8 => ?_)
  · replace hf := ite_t hf hc8
    exact w_X12_tape_b44 C hR hB  Z (lv_sub hl [0, 1, 2, 3] rfl) hf
  · replace hf := ite_f hf hc8
    refine lv_iload_n C.x C.b dX12_tape_37 rfl (lv_at hl 3 rfl) ?_
    refine lv_if_ge (tgt := 44) C.x C.b dX12_tape_38 (by decide) (fun hc22 => ?_) (fun hc22 => ?_)
    · replace hf := ite_t hf hc22
      exact w_X12_tape_b44 C hR hB  Z (lv_sub hl [0, 1, 2, 3] rfl) hf
    · replace hf := ite_f hf hc22
      refine lv_bipush (v := (-14)) C.x C.b dX12_tape_41 (by decide) ?_
      obtain ⟨rfl, rfl⟩ := pr_s hf
      exact z_iret C Z dX12_tape_43
set_option maxRecDepth 100000 in
set_option maxHeartbeats 4000000 in
theorem c_X12_tape {l : Launch} {K : KG} {ad : Nat → Nat → Nat} {fl : Nat} {a1 : Int32} {a2 : Int32} {a3 : Int32} {M0 : Mem} {r9 : Int32} {M9 : Mem} (hf : f_X12_tape fl a1 a2 a3 M0 = some (r9, M9)) : Met l yX12_tape (Cond.code yX12_tape cX12_tape 5 (some .int) :: ztb) (RM (3) 0 0) (zPc K LM ad M0 [.ref (ad 0 0), .int a1, .int a2, .int a3]) (zQ K LM ad (some (.int r9)) M9) 0 0 (zA ad) := by
  refine z_enter (by decide) (Nat.le_of_ble_eq_true rfl) ?_
  intro p e s m args below meth c ls C hin hargs Z hl
  replace C : Cx p s m args meth c cX12_tape 5 "GlassPalaceModel" (some .int) := C
  replace hl : lv_has ls 5 [(0, .ref (ad 0 0)), (1, .int a1), (2, .int a2), (3, .int a3)] := hl
  have hR : 3 ≤ (RM (3) 0 0).frames ∧ 40 * (3) ≤ (RM (3) 0 0).locals := ⟨Nat.le_refl _, Nat.le_refl _⟩
  have hB : 0 ≤ (RM (3) 0 0).cells ∧ 0 ≤ (RM (3) 0 0).slots := ⟨Nat.zero_le _, Nat.zero_le _⟩
  unfold f_X12_tape at hf
  refine lv_aload_n C.x C.b dX12_tape_0 rfl (lv_at hl 0 rfl) ?_
  refine lv_iload_n C.x C.b dX12_tape_1 rfl (lv_at hl 1 rfl) ?_
  replace hf := bn2_s hf; obtain ⟨v2, m1, hkm1, hf⟩ := hf
  refine z_cV (As := [.int a1]) (rest := []) (st1 := [.int v2]) C Z mw_X12_isTape mv_X12_isTape k_1785 (by decide) (z_hR hR (by decide)) (lvM0 Nat.zero_lt_one) kM0 zc12 (c_X12_isTape (l := l) (K := K) (ad := ad) hkm1) rfl hl.1 rfl (Nat.le_of_ble_eq_true rfl) dX12_tape_2 hB rfl (fun H locs Z => ?_)
  refine lv_if_ne (tgt := 10) C.x C.b dX12_tape_5 (by decide) (fun hc3 => ?_) (fun hc3 => ?_)
  · replace hf := ite_f hf hc3
    refine lv_aload_n C.x C.b dX12_tape_10 rfl (lv_at hl 0 rfl) ?_
    refine lv_iload_n C.x C.b dX12_tape_11 rfl (lv_at hl 2 rfl) ?_
    refine lv_iconst (v := (-1)) C.x C.b dX12_tape_12 (by decide) ?_
    refine lv_iconst (v := 4) C.x C.b dX12_tape_13 (by decide) ?_
    replace hf := bn2_s hf; obtain ⟨v5, m4, hkm4, hf⟩ := hf
    refine z_cV (As := [.int a2, .int (-1), .int 4]) (rest := []) (st1 := [.int v5]) C Z mw_X12_in mv_X12_in k_1398 (by decide) (z_hR hR (by decide)) (lvM0 Nat.zero_lt_one) kM0 zc12 (c_X12_in (l := l) (K := K) (ad := ad) hkm4) rfl hl.1 rfl (Nat.le_of_ble_eq_true rfl) dX12_tape_14 hB rfl (fun H locs Z => ?_)
    refine lv_if_eq (tgt := 30) C.x C.b dX12_tape_17 (by decide) (fun hc6 => ?_) (fun hc6 => ?_)
    · replace hf := ite_t hf hc6
      refine lv_bipush (v := (-2)) C.x C.b dX12_tape_30 (by decide) ?_
      obtain ⟨rfl, rfl⟩ := pr_s hf
      exact z_iret C Z dX12_tape_32
    · replace hf := ite_f hf hc6
      refine lv_iload_n C.x C.b dX12_tape_20 rfl (lv_at hl 2 rfl) ?_
      refine lv_if_lt (tgt := 33) C.x C.b dX12_tape_21 (by decide) (fun hc7 => ?_) (fun hc7 => ?_)
      · replace hf := ite_t hf hc7
        exact w_X12_tape_b33 C hR hB  Z (lv_sub hl [0, 1, 2, 3] rfl) hf
      · replace hf := ite_f hf hc7
        refine lv_iload_n C.x C.b dX12_tape_24 rfl (lv_at hl 3 rfl) ?_
        refine lv_bipush (v := 60) C.x C.b dX12_tape_25 (by decide) ?_
        refine lv_icmp_le (tgt := 33) C.x C.b dX12_tape_27 (by decide) (fun hc23 => ?_) (fun hc23 => ?_)
        · replace hf := ite_t hf hc23
          exact w_X12_tape_b33 C hR hB  Z (lv_sub hl [0, 1, 2, 3] rfl) hf
        · replace hf := ite_f hf hc23
          refine lv_bipush (v := (-2)) C.x C.b dX12_tape_30 (by decide) ?_
          obtain ⟨rfl, rfl⟩ := pr_s hf
          exact z_iret C Z dX12_tape_32
  · replace hf := ite_t hf hc3
    refine lv_iconst (v := (-1)) C.x C.b dX12_tape_8 (by decide) ?_
    obtain ⟨rfl, rfl⟩ := pr_s hf
    exact z_iret C Z dX12_tape_9
theorem dX12_narrow_0 : decode cX12_narrow 0 = .ok (.iload_n 1, 1) := by decide +kernel
theorem dX12_narrow_1 : decode cX12_narrow 1 = .ok (.ifCond .ne 10, 3) := by decide +kernel
theorem dX12_narrow_4 : decode cX12_narrow 4 = .ok (.lload_n 2, 1) := by decide +kernel
theorem dX12_narrow_5 : decode cX12_narrow 5 = .ok (.l2i, 1) := by decide +kernel
theorem dX12_narrow_6 : decode cX12_narrow 6 = .ok (.i2b, 1) := by decide +kernel
theorem dX12_narrow_7 : decode cX12_narrow 7 = .ok (.i2l, 1) := by decide +kernel
theorem dX12_narrow_8 : decode cX12_narrow 8 = .ok (.goto 46, 3) := by decide +kernel
theorem dX12_narrow_11 : decode cX12_narrow 11 = .ok (.iload_n 1, 1) := by decide +kernel
theorem dX12_narrow_12 : decode cX12_narrow 12 = .ok (.iconst 1, 1) := by decide +kernel
theorem dX12_narrow_13 : decode cX12_narrow 13 = .ok (.if_icmp .ne 10, 3) := by decide +kernel
theorem dX12_narrow_16 : decode cX12_narrow 16 = .ok (.lload_n 2, 1) := by decide +kernel
theorem dX12_narrow_17 : decode cX12_narrow 17 = .ok (.l2i, 1) := by decide +kernel
theorem dX12_narrow_18 : decode cX12_narrow 18 = .ok (.i2s, 1) := by decide +kernel
theorem dX12_narrow_19 : decode cX12_narrow 19 = .ok (.i2l, 1) := by decide +kernel
theorem dX12_narrow_20 : decode cX12_narrow 20 = .ok (.goto 34, 3) := by decide +kernel
theorem dX12_narrow_23 : decode cX12_narrow 23 = .ok (.iload_n 1, 1) := by decide +kernel
theorem dX12_narrow_24 : decode cX12_narrow 24 = .ok (.iconst 2, 1) := by decide +kernel
theorem dX12_narrow_25 : decode cX12_narrow 25 = .ok (.if_icmp .ne 9, 3) := by decide +kernel
theorem dX12_narrow_28 : decode cX12_narrow 28 = .ok (.lload_n 2, 1) := by decide +kernel
theorem dX12_narrow_29 : decode cX12_narrow 29 = .ok (.l2i, 1) := by decide +kernel
theorem dX12_narrow_30 : decode cX12_narrow 30 = .ok (.i2l, 1) := by decide +kernel
theorem dX12_narrow_31 : decode cX12_narrow 31 = .ok (.goto 23, 3) := by decide +kernel
theorem dX12_narrow_34 : decode cX12_narrow 34 = .ok (.iload_n 1, 1) := by decide +kernel
theorem dX12_narrow_35 : decode cX12_narrow 35 = .ok (.iconst 4, 1) := by decide +kernel
theorem dX12_narrow_36 : decode cX12_narrow 36 = .ok (.if_icmp .ne 17, 3) := by decide +kernel
theorem dX12_narrow_39 : decode cX12_narrow 39 = .ok (.lload_n 2, 1) := by decide +kernel
theorem dX12_narrow_40 : decode cX12_narrow 40 = .ok (.lconst 0, 1) := by decide +kernel
theorem dX12_narrow_41 : decode cX12_narrow 41 = .ok (.lcmp, 1) := by decide +kernel
theorem dX12_narrow_42 : decode cX12_narrow 42 = .ok (.ifCond .eq 7, 3) := by decide +kernel
theorem dX12_narrow_45 : decode cX12_narrow 45 = .ok (.lconst 1, 1) := by decide +kernel
theorem dX12_narrow_46 : decode cX12_narrow 46 = .ok (.goto 8, 3) := by decide +kernel
theorem dX12_narrow_49 : decode cX12_narrow 49 = .ok (.lconst 0, 1) := by decide +kernel
theorem dX12_narrow_50 : decode cX12_narrow 50 = .ok (.goto 4, 3) := by decide +kernel
theorem dX12_narrow_53 : decode cX12_narrow 53 = .ok (.lload_n 2, 1) := by decide +kernel
theorem dX12_narrow_54 : decode cX12_narrow 54 = .ok (.lreturn, 1) := by decide +kernel
set_option maxRecDepth 100000 in
set_option maxHeartbeats 4000000 in
theorem c_X12_narrow {l : Launch} {K : KG} {ad : Nat → Nat → Nat} {fl : Nat} {a1 : Int32} {a2 : Int64} {M0 : Mem} {r9 : Int64} {M9 : Mem} (hf : f_X12_narrow fl a1 a2 M0 = some (r9, M9)) : Met l yX12_narrow (Cond.code yX12_narrow cX12_narrow 4 (some .long) :: ztb) (RM (1) 0 0) (zPc K LM ad M0 [.ref (ad 0 0), .int a1, .long a2]) (zQ K LM ad (some (.long r9)) M9) 0 0 (zA ad) := by
  refine z_enter (by decide) (Nat.le_of_ble_eq_true rfl) ?_
  intro p e s m args below meth c ls C hin hargs Z hl
  replace C : Cx p s m args meth c cX12_narrow 4 "GlassPalaceModel" (some .long) := C
  replace hl : lv_has ls 4 [(0, .ref (ad 0 0)), (1, .int a1), (2, .long a2)] := hl
  have hR : 1 ≤ (RM (1) 0 0).frames ∧ 40 * (1) ≤ (RM (1) 0 0).locals := ⟨Nat.le_refl _, Nat.le_refl _⟩
  have hB : 0 ≤ (RM (1) 0 0).cells ∧ 0 ≤ (RM (1) 0 0).slots := ⟨Nat.zero_le _, Nat.zero_le _⟩
  unfold f_X12_narrow at hf
  refine lv_iload_n C.x C.b dX12_narrow_0 rfl (lv_at hl 1 rfl) ?_
  refine lv_if_ne (tgt := 11) C.x C.b dX12_narrow_1 (by decide) (fun hc1 => ?_) (fun hc1 => ?_)
  · replace hf := ite_f hf hc1
    refine lv_iload_n C.x C.b dX12_narrow_11 rfl (lv_at hl 1 rfl) ?_
    refine lv_iconst (v := 1) C.x C.b dX12_narrow_12 (by decide) ?_
    refine lv_icmp_ne (tgt := 23) C.x C.b dX12_narrow_13 (by decide) (fun hc2 => ?_) (fun hc2 => ?_)
    · replace hf := ite_f hf hc2
      refine lv_iload_n C.x C.b dX12_narrow_23 rfl (lv_at hl 1 rfl) ?_
      refine lv_iconst (v := 2) C.x C.b dX12_narrow_24 (by decide) ?_
      refine lv_icmp_ne (tgt := 34) C.x C.b dX12_narrow_25 (by decide) (fun hc3 => ?_) (fun hc3 => ?_)
      · replace hf := ite_f hf hc3
        refine lv_iload_n C.x C.b dX12_narrow_34 rfl (lv_at hl 1 rfl) ?_
        refine lv_iconst (v := 4) C.x C.b dX12_narrow_35 (by decide) ?_
        refine lv_icmp_ne (tgt := 53) C.x C.b dX12_narrow_36 (by decide) (fun hc4 => ?_) (fun hc4 => ?_)
        · replace hf := ite_f hf hc4
          refine lv_lload_n C.x C.b dX12_narrow_53 rfl (lv_at hl 2 rfl) ?_
          obtain ⟨rfl, rfl⟩ := pr_s hf
          exact z_lret C Z dX12_narrow_54
        · replace hf := ite_t hf hc4
          refine lv_lload_n C.x C.b dX12_narrow_39 rfl (lv_at hl 2 rfl) ?_
          refine lv_lconst (v := 0) C.x C.b dX12_narrow_40 (by decide) ?_
          refine W.lcmp C.x C.b dX12_narrow_41 ?_
          refine lv_if_eq (tgt := 49) C.x C.b dX12_narrow_42 (by decide) (fun hc5 => ?_) (fun hc5 => ?_)
          · replace hf := ite_t hf hc5
            refine lv_lconst (v := 0) C.x C.b dX12_narrow_49 (by decide) ?_
            refine lv_goto (tgt := 54) C.x C.b dX12_narrow_50 (by decide) ?_
            obtain ⟨rfl, rfl⟩ := pr_s hf
            exact z_lret C Z dX12_narrow_54
          · replace hf := ite_f hf hc5
            refine lv_lconst (v := 1) C.x C.b dX12_narrow_45 (by decide) ?_
            refine lv_goto (tgt := 54) C.x C.b dX12_narrow_46 (by decide) ?_
            obtain ⟨rfl, rfl⟩ := pr_s hf
            exact z_lret C Z dX12_narrow_54
      · replace hf := ite_t hf hc3
        refine lv_lload_n C.x C.b dX12_narrow_28 rfl (lv_at hl 2 rfl) ?_
        refine z_l2i C dX12_narrow_29 ?_
        refine z_i2l C dX12_narrow_30 ?_
        refine lv_goto (tgt := 54) C.x C.b dX12_narrow_31 (by decide) ?_
        obtain ⟨rfl, rfl⟩ := pr_s hf
        exact z_lret C Z dX12_narrow_54
    · replace hf := ite_t hf hc2
      refine lv_lload_n C.x C.b dX12_narrow_16 rfl (lv_at hl 2 rfl) ?_
      refine z_l2i C dX12_narrow_17 ?_
      refine z_i2s C dX12_narrow_18 ?_
      refine z_i2l C dX12_narrow_19 ?_
      refine lv_goto (tgt := 54) C.x C.b dX12_narrow_20 (by decide) ?_
      obtain ⟨rfl, rfl⟩ := pr_s hf
      exact z_lret C Z dX12_narrow_54
  · replace hf := ite_t hf hc1
    refine lv_lload_n C.x C.b dX12_narrow_4 rfl (lv_at hl 2 rfl) ?_
    refine z_l2i C dX12_narrow_5 ?_
    refine z_i2b C dX12_narrow_6 ?_
    refine z_i2l C dX12_narrow_7 ?_
    refine lv_goto (tgt := 54) C.x C.b dX12_narrow_8 (by decide) ?_
    obtain ⟨rfl, rfl⟩ := pr_s hf
    exact z_lret C Z dX12_narrow_54
theorem dX12_item_0 : decode cX12_item 0 = .ok (.aload_n 0, 1) := by decide +kernel
theorem dX12_item_1 : decode cX12_item 1 = .ok (.iload_n 1, 1) := by decide +kernel
theorem dX12_item_2 : decode cX12_item 2 = .ok (.invokevirtual 408, 3) := by decide +kernel
theorem dX12_item_5 : decode cX12_item 5 = .ok (.ifCond .ne 5, 3) := by decide +kernel
theorem dX12_item_8 : decode cX12_item 8 = .ok (.iconst (-1), 1) := by decide +kernel
theorem dX12_item_9 : decode cX12_item 9 = .ok (.ireturn, 1) := by decide +kernel
theorem dX12_item_10 : decode cX12_item 10 = .ok (.aload_n 0, 1) := by decide +kernel
theorem dX12_item_11 : decode cX12_item 11 = .ok (.getfield 224, 3) := by decide +kernel
theorem dX12_item_14 : decode cX12_item 14 = .ok (.iload_n 1, 1) := by decide +kernel
theorem dX12_item_15 : decode cX12_item 15 = .ok (.iaload, 1) := by decide +kernel
theorem dX12_item_16 : decode cX12_item 16 = .ok (.ifCond .ge 6, 3) := by decide +kernel
theorem dX12_item_19 : decode cX12_item 19 = .ok (.bipush (-11), 2) := by decide +kernel
theorem dX12_item_21 : decode cX12_item 21 = .ok (.ireturn, 1) := by decide +kernel
theorem dX12_item_22 : decode cX12_item 22 = .ok (.aload_n 0, 1) := by decide +kernel
theorem dX12_item_23 : decode cX12_item 23 = .ok (.iload_n 2, 1) := by decide +kernel
theorem dX12_item_24 : decode cX12_item 24 = .ok (.iconst 0, 1) := by decide +kernel
theorem dX12_item_25 : decode cX12_item 25 = .ok (.aload_n 0, 1) := by decide +kernel
theorem dX12_item_26 : decode cX12_item 26 = .ok (.getfield 227, 3) := by decide +kernel
theorem dX12_item_29 : decode cX12_item 29 = .ok (.iload_n 1, 1) := by decide +kernel
theorem dX12_item_30 : decode cX12_item 30 = .ok (.iaload, 1) := by decide +kernel
theorem dX12_item_31 : decode cX12_item 31 = .ok (.iconst 1, 1) := by decide +kernel
theorem dX12_item_32 : decode cX12_item 32 = .ok (.isub, 1) := by decide +kernel
theorem dX12_item_33 : decode cX12_item 33 = .ok (.invokevirtual 3, 3) := by decide +kernel
theorem dX12_item_36 : decode cX12_item 36 = .ok (.ifCond .ne 6, 3) := by decide +kernel
theorem dX12_item_39 : decode cX12_item 39 = .ok (.bipush (-13), 2) := by decide +kernel
theorem dX12_item_41 : decode cX12_item 41 = .ok (.ireturn, 1) := by decide +kernel
theorem dX12_item_42 : decode cX12_item 42 = .ok (.aload_n 0, 1) := by decide +kernel
theorem dX12_item_43 : decode cX12_item 43 = .ok (.getfield 230, 3) := by decide +kernel
theorem dX12_item_46 : decode cX12_item 46 = .ok (.bipush 60, 2) := by decide +kernel
theorem dX12_item_48 : decode cX12_item 48 = .ok (.iload_n 1, 1) := by decide +kernel
theorem dX12_item_49 : decode cX12_item 49 = .ok (.imul, 1) := by decide +kernel
theorem dX12_item_50 : decode cX12_item 50 = .ok (.iload_n 2, 1) := by decide +kernel
theorem dX12_item_51 : decode cX12_item 51 = .ok (.iadd, 1) := by decide +kernel
theorem dX12_item_52 : decode cX12_item 52 = .ok (.aload_n 0, 1) := by decide +kernel
theorem dX12_item_53 : decode cX12_item 53 = .ok (.aload_n 0, 1) := by decide +kernel
theorem dX12_item_54 : decode cX12_item 54 = .ok (.getfield 224, 3) := by decide +kernel
theorem dX12_item_57 : decode cX12_item 57 = .ok (.iload_n 1, 1) := by decide +kernel
theorem dX12_item_58 : decode cX12_item 58 = .ok (.iaload, 1) := by decide +kernel
theorem dX12_item_59 : decode cX12_item 59 = .ok (.lload_n 3, 1) := by decide +kernel
theorem dX12_item_60 : decode cX12_item 60 = .ok (.invokevirtual 419, 3) := by decide +kernel
theorem dX12_item_63 : decode cX12_item 63 = .ok (.lastore, 1) := by decide +kernel
theorem dX12_item_64 : decode cX12_item 64 = .ok (.iconst 1, 1) := by decide +kernel
theorem dX12_item_65 : decode cX12_item 65 = .ok (.ireturn, 1) := by decide +kernel
set_option maxRecDepth 100000 in
set_option maxHeartbeats 4000000 in
theorem c_X12_item {l : Launch} {K : KG} {ad : Nat → Nat → Nat} {fl : Nat} {a1 : Int32} {a2 : Int32} {a3 : Int64} {M0 : Mem} {r9 : Int32} {M9 : Mem} (hf : f_X12_item fl a1 a2 a3 M0 = some (r9, M9)) : Met l yX12_item (Cond.code yX12_item cX12_item 5 (some .int) :: ztb) (RM (3) 0 0) (zPc K LM ad M0 [.ref (ad 0 0), .int a1, .int a2, .long a3]) (zQ K LM ad (some (.int r9)) M9) 0 0 (zA ad) := by
  refine z_enter (by decide) (Nat.le_of_ble_eq_true rfl) ?_
  intro p e s m args below meth c ls C hin hargs Z hl
  replace C : Cx p s m args meth c cX12_item 5 "GlassPalaceModel" (some .int) := C
  replace hl : lv_has ls 5 [(0, .ref (ad 0 0)), (1, .int a1), (2, .int a2), (3, .long a3)] := hl
  have hR : 3 ≤ (RM (3) 0 0).frames ∧ 40 * (3) ≤ (RM (3) 0 0).locals := ⟨Nat.le_refl _, Nat.le_refl _⟩
  have hB : 0 ≤ (RM (3) 0 0).cells ∧ 0 ≤ (RM (3) 0 0).slots := ⟨Nat.zero_le _, Nat.zero_le _⟩
  unfold f_X12_item at hf
  refine lv_aload_n C.x C.b dX12_item_0 rfl (lv_at hl 0 rfl) ?_
  refine lv_iload_n C.x C.b dX12_item_1 rfl (lv_at hl 1 rfl) ?_
  replace hf := bn2_s hf; obtain ⟨v2, m1, hkm1, hf⟩ := hf
  refine z_cV (As := [.int a1]) (rest := []) (st1 := [.int v2]) C Z mw_X12_isTape mv_X12_isTape k_1785 (by decide) (z_hR hR (by decide)) (lvM0 Nat.zero_lt_one) kM0 zc12 (c_X12_isTape (l := l) (K := K) (ad := ad) hkm1) rfl hl.1 rfl (Nat.le_of_ble_eq_true rfl) dX12_item_2 hB rfl (fun H locs Z => ?_)
  refine lv_if_ne (tgt := 10) C.x C.b dX12_item_5 (by decide) (fun hc3 => ?_) (fun hc3 => ?_)
  · replace hf := ite_f hf hc3
    refine lv_aload_n C.x C.b dX12_item_10 rfl (lv_at hl 0 rfl) ?_
    refine z_get C Z (lvM0 Nat.zero_lt_one) kM0 zc12 zin12 68 (by decide) k_1244 rfl svM0_68 dX12_item_11 ?_
    refine lv_iload_n C.x C.b dX12_item_14 rfl (lv_at hl 1 rfl) ?_
    replace hf := asr_s hf; obtain ⟨hq4, hf⟩ := hf
    refine z_iald C Z (lvM52 Nat.zero_lt_one) kM52 hq4 svM52 dX12_item_15 ?_
    refine lv_if_ge (tgt := 22) C.x C.b dX12_item_16 (by decide) (fun hc5 => ?_) (fun hc5 => ?_)
    · replace hf := ite_t hf hc5
      refine lv_aload_n C.x C.b dX12_item_22 rfl (lv_at hl 0 rfl) ?_
      refine lv_iload_n C.x C.b dX12_item_23 rfl (lv_at hl 2 rfl) ?_
      refine lv_iconst (v := 0) C.x C.b dX12_item_24 (by decide) ?_
      refine lv_aload_n C.x C.b dX12_item_25 rfl (lv_at hl 0 rfl) ?_
      refine z_get C Z (lvM0 Nat.zero_lt_one) kM0 zc12 zin12 69 (by decide) k_1245 rfl svM0_69 dX12_item_26 ?_
      refine lv_iload_n C.x C.b dX12_item_29 rfl (lv_at hl 1 rfl) ?_
      replace hf := asr_s hf; obtain ⟨hq6, hf⟩ := hf
      refine z_iald C Z (lvM53 Nat.zero_lt_one) kM53 hq6 svM53 dX12_item_30 ?_
      refine lv_iconst (v := 1) C.x C.b dX12_item_31 (by decide) ?_
      refine lv_isub C.x C.b dX12_item_32 ?_
      replace hf := bn2_s hf; obtain ⟨v8, m7, hkm7, hf⟩ := hf
      refine z_cV (As := [.int a2, .int 0, .int ((gI m1 53 0 (Int32.toNatClampNeg a1)) - 1)]) (rest := []) (st1 := [.int v8]) C Z mw_X12_in mv_X12_in k_1398 (by decide) (z_hR hR (by decide)) (lvM0 Nat.zero_lt_one) kM0 zc12 (c_X12_in (l := l) (K := K) (ad := ad) hkm7) rfl hl.1 rfl (Nat.le_of_ble_eq_true rfl) dX12_item_33 hB rfl (fun H locs Z => ?_)
      refine lv_if_ne (tgt := 42) C.x C.b dX12_item_36 (by decide) (fun hc9 => ?_) (fun hc9 => ?_)
      · replace hf := ite_f hf hc9
        refine lv_aload_n C.x C.b dX12_item_42 rfl (lv_at hl 0 rfl) ?_
        refine z_get C Z (lvM0 Nat.zero_lt_one) kM0 zc12 zin12 70 (by decide) k_1246 rfl svM0_70 dX12_item_43 ?_
        refine lv_bipush (v := 60) C.x C.b dX12_item_46 (by decide) ?_
        refine lv_iload_n C.x C.b dX12_item_48 rfl (lv_at hl 1 rfl) ?_
        refine lv_imul C.x C.b dX12_item_49 ?_
        refine lv_iload_n C.x C.b dX12_item_50 rfl (lv_at hl 2 rfl) ?_
        refine lv_iadd C.x C.b dX12_item_51 ?_
        refine lv_aload_n C.x C.b dX12_item_52 rfl (lv_at hl 0 rfl) ?_
        refine lv_aload_n C.x C.b dX12_item_53 rfl (lv_at hl 0 rfl) ?_
        refine z_get C Z (lvM0 Nat.zero_lt_one) kM0 zc12 zin12 68 (by decide) k_1244 rfl svM0_68 dX12_item_54 ?_
        refine lv_iload_n C.x C.b dX12_item_57 rfl (lv_at hl 1 rfl) ?_
        replace hf := asr_s hf; obtain ⟨hq10, hf⟩ := hf
        refine z_iald C Z (lvM52 Nat.zero_lt_one) kM52 hq10 svM52 dX12_item_58 ?_
        refine lv_lload_n C.x C.b dX12_item_59 rfl (lv_at hl 3 rfl) ?_
        replace hf := bn2_s hf; obtain ⟨y12, m11, hkm11, hf⟩ := hf
        refine z_cV (As := [.int (gI m7 52 0 (Int32.toNatClampNeg a1)), .long a3]) (rest := [.int ((60 * a1) + a2), .ref (ad 54 0)]) (st1 := [.long y12, .int ((60 * a1) + a2), .ref (ad 54 0)]) C Z mw_X12_narrow mv_X12_narrow k_1801 (by decide) (z_hR hR (by decide)) (lvM0 Nat.zero_lt_one) kM0 zc12 (c_X12_narrow (l := l) (K := K) (ad := ad) hkm11) rfl hl.1 rfl (Nat.le_of_ble_eq_true rfl) dX12_item_60 hB rfl (fun H locs Z => ?_)
        replace hf := asr_s hf; obtain ⟨hq13, hf⟩ := hf
        replace hf := lt1_s hf; obtain ⟨m14, em14, hf⟩ := hf
        refine z_last (M1 := m14) C Z (lvM54 Nat.zero_lt_one) (by decide) kM54 hq13 em14 stM54u dX12_item_63 (fun H locs Z => ?_)
        refine lv_iconst (v := 1) C.x C.b dX12_item_64 (by decide) ?_
        obtain ⟨rfl, rfl⟩ := pr_s hf
        exact z_iret C Z dX12_item_65
      · replace hf := ite_t hf hc9
        refine lv_bipush (v := (-13)) C.x C.b dX12_item_39 (by decide) ?_
        obtain ⟨rfl, rfl⟩ := pr_s hf
        exact z_iret C Z dX12_item_41
    · replace hf := ite_f hf hc5
      refine lv_bipush (v := (-11)) C.x C.b dX12_item_19 (by decide) ?_
      obtain ⟨rfl, rfl⟩ := pr_s hf
      exact z_iret C Z dX12_item_21
  · replace hf := ite_t hf hc3
    refine lv_iconst (v := (-1)) C.x C.b dX12_item_8 (by decide) ?_
    obtain ⟨rfl, rfl⟩ := pr_s hf
    exact z_iret C Z dX12_item_9
theorem dX12_read_0 : decode cX12_read 0 = .ok (.aload_n 0, 1) := by decide +kernel
theorem dX12_read_1 : decode cX12_read 1 = .ok (.iload_n 1, 1) := by decide +kernel
theorem dX12_read_2 : decode cX12_read 2 = .ok (.invokevirtual 408, 3) := by decide +kernel
theorem dX12_read_5 : decode cX12_read 5 = .ok (.ifCond .eq 29, 3) := by decide +kernel
theorem dX12_read_8 : decode cX12_read 8 = .ok (.aload_n 0, 1) := by decide +kernel
theorem dX12_read_9 : decode cX12_read 9 = .ok (.getfield 224, 3) := by decide +kernel
theorem dX12_read_12 : decode cX12_read 12 = .ok (.iload_n 1, 1) := by decide +kernel
theorem dX12_read_13 : decode cX12_read 13 = .ok (.iaload, 1) := by decide +kernel
theorem dX12_read_14 : decode cX12_read 14 = .ok (.ifCond .lt 20, 3) := by decide +kernel
theorem dX12_read_17 : decode cX12_read 17 = .ok (.aload_n 0, 1) := by decide +kernel
theorem dX12_read_18 : decode cX12_read 18 = .ok (.iload_n 2, 1) := by decide +kernel
theorem dX12_read_19 : decode cX12_read 19 = .ok (.iconst 0, 1) := by decide +kernel
theorem dX12_read_20 : decode cX12_read 20 = .ok (.aload_n 0, 1) := by decide +kernel
theorem dX12_read_21 : decode cX12_read 21 = .ok (.getfield 227, 3) := by decide +kernel
theorem dX12_read_24 : decode cX12_read 24 = .ok (.iload_n 1, 1) := by decide +kernel
theorem dX12_read_25 : decode cX12_read 25 = .ok (.iaload, 1) := by decide +kernel
theorem dX12_read_26 : decode cX12_read 26 = .ok (.iconst 1, 1) := by decide +kernel
theorem dX12_read_27 : decode cX12_read 27 = .ok (.isub, 1) := by decide +kernel
theorem dX12_read_28 : decode cX12_read 28 = .ok (.invokevirtual 3, 3) := by decide +kernel
theorem dX12_read_31 : decode cX12_read 31 = .ok (.ifCond .ne 9, 3) := by decide +kernel
theorem dX12_read_34 : decode cX12_read 34 = .ok (.ldc2_w 411, 3) := by decide +kernel
theorem dX12_read_37 : decode cX12_read 37 = .ok (.goto 14, 3) := by decide +kernel
theorem dX12_read_40 : decode cX12_read 40 = .ok (.aload_n 0, 1) := by decide +kernel
theorem dX12_read_41 : decode cX12_read 41 = .ok (.getfield 230, 3) := by decide +kernel
theorem dX12_read_44 : decode cX12_read 44 = .ok (.bipush 60, 2) := by decide +kernel
theorem dX12_read_46 : decode cX12_read 46 = .ok (.iload_n 1, 1) := by decide +kernel
theorem dX12_read_47 : decode cX12_read 47 = .ok (.imul, 1) := by decide +kernel
theorem dX12_read_48 : decode cX12_read 48 = .ok (.iload_n 2, 1) := by decide +kernel
theorem dX12_read_49 : decode cX12_read 49 = .ok (.iadd, 1) := by decide +kernel
theorem dX12_read_50 : decode cX12_read 50 = .ok (.laload, 1) := by decide +kernel
theorem dX12_read_51 : decode cX12_read 51 = .ok (.lreturn, 1) := by decide +kernel
set_option maxRecDepth 100000 in
set_option maxHeartbeats 4000000 in
theorem c_X12_read {l : Launch} {K : KG} {ad : Nat → Nat → Nat} {fl : Nat} {a1 : Int32} {a2 : Int32} {M0 : Mem} {r9 : Int64} {M9 : Mem} (hf : f_X12_read fl a1 a2 M0 = some (r9, M9)) : Met l yX12_read (Cond.code yX12_read cX12_read 3 (some .long) :: ztb) (RM (3) 0 0) (zPc K LM ad M0 [.ref (ad 0 0), .int a1, .int a2]) (zQ K LM ad (some (.long r9)) M9) 0 0 (zA ad) := by
  refine z_enter (by decide) (Nat.le_of_ble_eq_true rfl) ?_
  intro p e s m args below meth c ls C hin hargs Z hl
  replace C : Cx p s m args meth c cX12_read 3 "GlassPalaceModel" (some .long) := C
  replace hl : lv_has ls 3 [(0, .ref (ad 0 0)), (1, .int a1), (2, .int a2)] := hl
  have hR : 3 ≤ (RM (3) 0 0).frames ∧ 40 * (3) ≤ (RM (3) 0 0).locals := ⟨Nat.le_refl _, Nat.le_refl _⟩
  have hB : 0 ≤ (RM (3) 0 0).cells ∧ 0 ≤ (RM (3) 0 0).slots := ⟨Nat.zero_le _, Nat.zero_le _⟩
  unfold f_X12_read at hf
  refine lv_aload_n C.x C.b dX12_read_0 rfl (lv_at hl 0 rfl) ?_
  refine lv_iload_n C.x C.b dX12_read_1 rfl (lv_at hl 1 rfl) ?_
  replace hf := bn2_s hf; obtain ⟨v2, m1, hkm1, hf⟩ := hf
  refine z_cV (As := [.int a1]) (rest := []) (st1 := [.int v2]) C Z mw_X12_isTape mv_X12_isTape k_1785 (by decide) (z_hR hR (by decide)) (lvM0 Nat.zero_lt_one) kM0 zc12 (c_X12_isTape (l := l) (K := K) (ad := ad) hkm1) rfl hl.1 rfl (Nat.le_of_ble_eq_true rfl) dX12_read_2 hB rfl (fun H locs Z => ?_)
  refine lv_if_eq (tgt := 34) C.x C.b dX12_read_5 (by decide) (fun hc3 => ?_) (fun hc3 => ?_)
  · replace hf := ite_t hf hc3
    refine lv_ldc2 (v := (-9223372036854775808)) C.x C.b C.o (C.w k_1789) dX12_read_34 ?_
    refine lv_goto (tgt := 51) C.x C.b dX12_read_37 (by decide) ?_
    obtain ⟨rfl, rfl⟩ := pr_s hf
    exact z_lret C Z dX12_read_51
  · replace hf := ite_f hf hc3
    refine lv_aload_n C.x C.b dX12_read_8 rfl (lv_at hl 0 rfl) ?_
    refine z_get C Z (lvM0 Nat.zero_lt_one) kM0 zc12 zin12 68 (by decide) k_1244 rfl svM0_68 dX12_read_9 ?_
    refine lv_iload_n C.x C.b dX12_read_12 rfl (lv_at hl 1 rfl) ?_
    replace hf := asr_s hf; obtain ⟨hq4, hf⟩ := hf
    refine z_iald C Z (lvM52 Nat.zero_lt_one) kM52 hq4 svM52 dX12_read_13 ?_
    refine lv_if_lt (tgt := 34) C.x C.b dX12_read_14 (by decide) (fun hc5 => ?_) (fun hc5 => ?_)
    · replace hf := ite_t hf hc5
      refine lv_ldc2 (v := (-9223372036854775808)) C.x C.b C.o (C.w k_1789) dX12_read_34 ?_
      refine lv_goto (tgt := 51) C.x C.b dX12_read_37 (by decide) ?_
      obtain ⟨rfl, rfl⟩ := pr_s hf
      exact z_lret C Z dX12_read_51
    · replace hf := ite_f hf hc5
      refine lv_aload_n C.x C.b dX12_read_17 rfl (lv_at hl 0 rfl) ?_
      refine lv_iload_n C.x C.b dX12_read_18 rfl (lv_at hl 2 rfl) ?_
      refine lv_iconst (v := 0) C.x C.b dX12_read_19 (by decide) ?_
      refine lv_aload_n C.x C.b dX12_read_20 rfl (lv_at hl 0 rfl) ?_
      refine z_get C Z (lvM0 Nat.zero_lt_one) kM0 zc12 zin12 69 (by decide) k_1245 rfl svM0_69 dX12_read_21 ?_
      refine lv_iload_n C.x C.b dX12_read_24 rfl (lv_at hl 1 rfl) ?_
      replace hf := asr_s hf; obtain ⟨hq6, hf⟩ := hf
      refine z_iald C Z (lvM53 Nat.zero_lt_one) kM53 hq6 svM53 dX12_read_25 ?_
      refine lv_iconst (v := 1) C.x C.b dX12_read_26 (by decide) ?_
      refine lv_isub C.x C.b dX12_read_27 ?_
      replace hf := bn2_s hf; obtain ⟨v8, m7, hkm7, hf⟩ := hf
      refine z_cV (As := [.int a2, .int 0, .int ((gI m1 53 0 (Int32.toNatClampNeg a1)) - 1)]) (rest := []) (st1 := [.int v8]) C Z mw_X12_in mv_X12_in k_1398 (by decide) (z_hR hR (by decide)) (lvM0 Nat.zero_lt_one) kM0 zc12 (c_X12_in (l := l) (K := K) (ad := ad) hkm7) rfl hl.1 rfl (Nat.le_of_ble_eq_true rfl) dX12_read_28 hB rfl (fun H locs Z => ?_)
      refine lv_if_ne (tgt := 40) C.x C.b dX12_read_31 (by decide) (fun hc9 => ?_) (fun hc9 => ?_)
      · replace hf := ite_f hf hc9
        refine lv_aload_n C.x C.b dX12_read_40 rfl (lv_at hl 0 rfl) ?_
        refine z_get C Z (lvM0 Nat.zero_lt_one) kM0 zc12 zin12 70 (by decide) k_1246 rfl svM0_70 dX12_read_41 ?_
        refine lv_bipush (v := 60) C.x C.b dX12_read_44 (by decide) ?_
        refine lv_iload_n C.x C.b dX12_read_46 rfl (lv_at hl 1 rfl) ?_
        refine lv_imul C.x C.b dX12_read_47 ?_
        refine lv_iload_n C.x C.b dX12_read_48 rfl (lv_at hl 2 rfl) ?_
        refine lv_iadd C.x C.b dX12_read_49 ?_
        replace hf := asr_s hf; obtain ⟨hq10, hf⟩ := hf
        refine z_lald C Z (lvM54 Nat.zero_lt_one) kM54 hq10 svM54 dX12_read_50 ?_
        obtain ⟨rfl, rfl⟩ := pr_s hf
        exact z_lret C Z dX12_read_51
      · replace hf := ite_t hf hc9
        refine lv_ldc2 (v := (-9223372036854775808)) C.x C.b C.o (C.w k_1789) dX12_read_34 ?_
        refine lv_goto (tgt := 51) C.x C.b dX12_read_37 (by decide) ?_
        obtain ⟨rfl, rfl⟩ := pr_s hf
        exact z_lret C Z dX12_read_51
theorem dX12_shift_0 : decode cX12_shift 0 = .ok (.aload_n 0, 1) := by decide +kernel
theorem dX12_shift_1 : decode cX12_shift 1 = .ok (.iload_n 1, 1) := by decide +kernel
theorem dX12_shift_2 : decode cX12_shift 2 = .ok (.invokevirtual 408, 3) := by decide +kernel
theorem dX12_shift_5 : decode cX12_shift 5 = .ok (.ifCond .eq 11, 3) := by decide +kernel
theorem dX12_shift_8 : decode cX12_shift 8 = .ok (.aload_n 0, 1) := by decide +kernel
theorem dX12_shift_9 : decode cX12_shift 9 = .ok (.iload_n 3, 1) := by decide +kernel
theorem dX12_shift_10 : decode cX12_shift 10 = .ok (.invokevirtual 408, 3) := by decide +kernel
theorem dX12_shift_13 : decode cX12_shift 13 = .ok (.ifCond .ne 5, 3) := by decide +kernel
theorem dX12_shift_16 : decode cX12_shift 16 = .ok (.iconst (-1), 1) := by decide +kernel
theorem dX12_shift_17 : decode cX12_shift 17 = .ok (.ireturn, 1) := by decide +kernel
theorem dX12_shift_18 : decode cX12_shift 18 = .ok (.aload_n 0, 1) := by decide +kernel
theorem dX12_shift_19 : decode cX12_shift 19 = .ok (.getfield 224, 3) := by decide +kernel
theorem dX12_shift_22 : decode cX12_shift 22 = .ok (.iload_n 1, 1) := by decide +kernel
theorem dX12_shift_23 : decode cX12_shift 23 = .ok (.iaload, 1) := by decide +kernel
theorem dX12_shift_24 : decode cX12_shift 24 = .ok (.ifCond .lt 12, 3) := by decide +kernel
theorem dX12_shift_27 : decode cX12_shift 27 = .ok (.aload_n 0, 1) := by decide +kernel
theorem dX12_shift_28 : decode cX12_shift 28 = .ok (.getfield 224, 3) := by decide +kernel
theorem dX12_shift_31 : decode cX12_shift 31 = .ok (.iload_n 3, 1) := by decide +kernel
theorem dX12_shift_32 : decode cX12_shift 32 = .ok (.iaload, 1) := by decide +kernel
theorem dX12_shift_33 : decode cX12_shift 33 = .ok (.ifCond .ge 6, 3) := by decide +kernel
theorem dX12_shift_36 : decode cX12_shift 36 = .ok (.bipush (-11), 2) := by decide +kernel
theorem dX12_shift_38 : decode cX12_shift 38 = .ok (.ireturn, 1) := by decide +kernel
theorem dX12_shift_39 : decode cX12_shift 39 = .ok (.aload_n 0, 1) := by decide +kernel
theorem dX12_shift_40 : decode cX12_shift 40 = .ok (.getfield 224, 3) := by decide +kernel
theorem dX12_shift_43 : decode cX12_shift 43 = .ok (.iload_n 1, 1) := by decide +kernel
theorem dX12_shift_44 : decode cX12_shift 44 = .ok (.iaload, 1) := by decide +kernel
theorem dX12_shift_45 : decode cX12_shift 45 = .ok (.aload_n 0, 1) := by decide +kernel
theorem dX12_shift_46 : decode cX12_shift 46 = .ok (.getfield 224, 3) := by decide +kernel
theorem dX12_shift_49 : decode cX12_shift 49 = .ok (.iload_n 3, 1) := by decide +kernel
theorem dX12_shift_50 : decode cX12_shift 50 = .ok (.iaload, 1) := by decide +kernel
theorem dX12_shift_51 : decode cX12_shift 51 = .ok (.if_icmp .eq 6, 3) := by decide +kernel
theorem dX12_shift_54 : decode cX12_shift 54 = .ok (.bipush (-12), 2) := by decide +kernel
theorem dX12_shift_56 : decode cX12_shift 56 = .ok (.ireturn, 1) := by decide +kernel
theorem dX12_shift_57 : decode cX12_shift 57 = .ok (.iload 5, 2) := by decide +kernel
theorem dX12_shift_59 : decode cX12_shift 59 = .ok (.ifCond .lt 39, 3) := by decide +kernel
theorem dX12_shift_62 : decode cX12_shift 62 = .ok (.iload_n 2, 1) := by decide +kernel
theorem dX12_shift_63 : decode cX12_shift 63 = .ok (.ifCond .lt 35, 3) := by decide +kernel
theorem dX12_shift_66 : decode cX12_shift 66 = .ok (.iload 4, 2) := by decide +kernel
theorem dX12_shift_68 : decode cX12_shift 68 = .ok (.ifCond .lt 30, 3) := by decide +kernel
theorem dX12_shift_71 : decode cX12_shift 71 = .ok (.iload_n 2, 1) := by decide +kernel
theorem dX12_shift_72 : decode cX12_shift 72 = .ok (.aload_n 0, 1) := by decide +kernel
theorem dX12_shift_73 : decode cX12_shift 73 = .ok (.getfield 227, 3) := by decide +kernel
theorem dX12_shift_76 : decode cX12_shift 76 = .ok (.iload_n 1, 1) := by decide +kernel
theorem dX12_shift_77 : decode cX12_shift 77 = .ok (.iaload, 1) := by decide +kernel
theorem dX12_shift_78 : decode cX12_shift 78 = .ok (.iload 5, 2) := by decide +kernel
theorem dX12_shift_80 : decode cX12_shift 80 = .ok (.isub, 1) := by decide +kernel
theorem dX12_shift_81 : decode cX12_shift 81 = .ok (.if_icmp .gt 17, 3) := by decide +kernel
theorem dX12_shift_84 : decode cX12_shift 84 = .ok (.iload 4, 2) := by decide +kernel
theorem dX12_shift_86 : decode cX12_shift 86 = .ok (.aload_n 0, 1) := by decide +kernel
theorem dX12_shift_87 : decode cX12_shift 87 = .ok (.getfield 227, 3) := by decide +kernel
theorem dX12_shift_90 : decode cX12_shift 90 = .ok (.iload_n 3, 1) := by decide +kernel
theorem dX12_shift_91 : decode cX12_shift 91 = .ok (.iaload, 1) := by decide +kernel
theorem dX12_shift_92 : decode cX12_shift 92 = .ok (.iload 5, 2) := by decide +kernel
theorem dX12_shift_94 : decode cX12_shift 94 = .ok (.isub, 1) := by decide +kernel
theorem dX12_shift_95 : decode cX12_shift 95 = .ok (.if_icmp .le 6, 3) := by decide +kernel
theorem dX12_shift_98 : decode cX12_shift 98 = .ok (.bipush (-13), 2) := by decide +kernel
theorem dX12_shift_100 : decode cX12_shift 100 = .ok (.ireturn, 1) := by decide +kernel
theorem dX12_shift_101 : decode cX12_shift 101 = .ok (.iconst 0, 1) := by decide +kernel
theorem dX12_shift_102 : decode cX12_shift 102 = .ok (.istore 6, 2) := by decide +kernel
theorem dX12_shift_104 : decode cX12_shift 104 = .ok (.iload 6, 2) := by decide +kernel
theorem dX12_shift_106 : decode cX12_shift 106 = .ok (.iload 5, 2) := by decide +kernel
theorem dX12_shift_108 : decode cX12_shift 108 = .ok (.if_icmp .ge 30, 3) := by decide +kernel
theorem dX12_shift_111 : decode cX12_shift 111 = .ok (.aload_n 0, 1) := by decide +kernel
theorem dX12_shift_112 : decode cX12_shift 112 = .ok (.getfield 234, 3) := by decide +kernel
theorem dX12_shift_115 : decode cX12_shift 115 = .ok (.iload 6, 2) := by decide +kernel
theorem dX12_shift_117 : decode cX12_shift 117 = .ok (.aload_n 0, 1) := by decide +kernel
theorem dX12_shift_118 : decode cX12_shift 118 = .ok (.getfield 230, 3) := by decide +kernel
theorem dX12_shift_121 : decode cX12_shift 121 = .ok (.bipush 60, 2) := by decide +kernel
theorem dX12_shift_123 : decode cX12_shift 123 = .ok (.iload_n 1, 1) := by decide +kernel
theorem dX12_shift_124 : decode cX12_shift 124 = .ok (.imul, 1) := by decide +kernel
theorem dX12_shift_125 : decode cX12_shift 125 = .ok (.iload_n 2, 1) := by decide +kernel
theorem dX12_shift_126 : decode cX12_shift 126 = .ok (.iadd, 1) := by decide +kernel
theorem dX12_shift_127 : decode cX12_shift 127 = .ok (.iload 6, 2) := by decide +kernel
theorem dX12_shift_129 : decode cX12_shift 129 = .ok (.iadd, 1) := by decide +kernel
theorem dX12_shift_130 : decode cX12_shift 130 = .ok (.laload, 1) := by decide +kernel
theorem dX12_shift_131 : decode cX12_shift 131 = .ok (.lastore, 1) := by decide +kernel
theorem dX12_shift_132 : decode cX12_shift 132 = .ok (.iinc 6 1, 3) := by decide +kernel
theorem dX12_shift_135 : decode cX12_shift 135 = .ok (.goto (-31), 3) := by decide +kernel
theorem dX12_shift_138 : decode cX12_shift 138 = .ok (.iconst 0, 1) := by decide +kernel
theorem dX12_shift_139 : decode cX12_shift 139 = .ok (.istore 6, 2) := by decide +kernel
theorem dX12_shift_141 : decode cX12_shift 141 = .ok (.iload 6, 2) := by decide +kernel
theorem dX12_shift_143 : decode cX12_shift 143 = .ok (.iload 5, 2) := by decide +kernel
theorem dX12_shift_145 : decode cX12_shift 145 = .ok (.if_icmp .ge 31, 3) := by decide +kernel
theorem dX12_shift_148 : decode cX12_shift 148 = .ok (.aload_n 0, 1) := by decide +kernel
theorem dX12_shift_149 : decode cX12_shift 149 = .ok (.getfield 230, 3) := by decide +kernel
theorem dX12_shift_152 : decode cX12_shift 152 = .ok (.bipush 60, 2) := by decide +kernel
theorem dX12_shift_154 : decode cX12_shift 154 = .ok (.iload_n 3, 1) := by decide +kernel
theorem dX12_shift_155 : decode cX12_shift 155 = .ok (.imul, 1) := by decide +kernel
theorem dX12_shift_156 : decode cX12_shift 156 = .ok (.iload 4, 2) := by decide +kernel
theorem dX12_shift_158 : decode cX12_shift 158 = .ok (.iadd, 1) := by decide +kernel
theorem dX12_shift_159 : decode cX12_shift 159 = .ok (.iload 6, 2) := by decide +kernel
theorem dX12_shift_161 : decode cX12_shift 161 = .ok (.iadd, 1) := by decide +kernel
theorem dX12_shift_162 : decode cX12_shift 162 = .ok (.aload_n 0, 1) := by decide +kernel
theorem dX12_shift_163 : decode cX12_shift 163 = .ok (.getfield 234, 3) := by decide +kernel
theorem dX12_shift_166 : decode cX12_shift 166 = .ok (.iload 6, 2) := by decide +kernel
theorem dX12_shift_168 : decode cX12_shift 168 = .ok (.laload, 1) := by decide +kernel
theorem dX12_shift_169 : decode cX12_shift 169 = .ok (.lastore, 1) := by decide +kernel
theorem dX12_shift_170 : decode cX12_shift 170 = .ok (.iinc 6 1, 3) := by decide +kernel
theorem dX12_shift_173 : decode cX12_shift 173 = .ok (.goto (-32), 3) := by decide +kernel
theorem dX12_shift_176 : decode cX12_shift 176 = .ok (.iload 5, 2) := by decide +kernel
theorem dX12_shift_178 : decode cX12_shift 178 = .ok (.ireturn, 1) := by decide +kernel
set_option maxRecDepth 100000 in
set_option maxHeartbeats 4000000 in
theorem w_X12_shift_l104 {p : Program} {l : Launch} {e : Env} {R : Room} {s : State} {m : MethodId} {args : Array Value} {below : List Frame} {meth : Method} {c : Code} {cells slots : Nat} {Q : State → Prop} {K : KG} {ad : Nat → Nat → Nat} {fl : Nat} {g1 : Int32} {g2 : Int32} {g3 : Int32} {g4 : Int32} {g5 : Int32} (C : Cx p s m args meth c cX12_shift 7 "GlassPalaceModel" (some .int)) (hR : 3 ≤ R.frames ∧ 40 * (3) ≤ R.locals) (hB : cells ≤ R.cells ∧ slots ≤ R.slots) : ∀ (n : Nat) (u6 : Int32) (M0 : Mem) (H : Heap) (locs : List Loc) (ls : Array Slot), Zd K LM ad M0 s H locs → lv_has ls 7 [(0, .ref (ad 0 0)), (1, .int g1), (2, .int g2), (3, .int g3), (4, .int g4), (5, .int g5), (6, .int u6)] → ∀ (Mq : Mem), f_X12_shift_l104 fl g1 g2 g3 g4 g5 n u6 M0 = some Mq → (∀ (H : Heap) (locs : List Loc) (ls : Array Slot), Zd K LM ad Mq s H locs → lv_has ls 7 [(0, .ref (ad 0 0)), (3, .int g3), (4, .int g4), (5, .int g5)] → W p l e R s m args below meth c H locs cells slots Q (F0 m 138 ls [])) → W p l e R s m args below meth c H locs cells slots Q (F0 m 104 ls []) := by
  intro n
  induction n with
  | zero =>
    intro u6 M0 H locs ls Z hl Mq hf
    have hf : (none : Option (Mem)) = some Mq := hf
    cases hf
  | succ n ih =>
    intro u6 M0 H locs ls Z hl Mq hf kx0
    replace hf : f_X12_shift_l104_b (f_X12_shift_l104 fl g1 g2 g3 g4 g5 n) fl g1 g2 g3 g4 g5 u6 M0 = some Mq := hf
    unfold f_X12_shift_l104_b at hf
    refine lv_iload C.x C.b dX12_shift_104 (lv_at hl 6 rfl) ?_
    refine lv_iload C.x C.b dX12_shift_106 (lv_at hl 5 rfl) ?_
    refine lv_icmp_ge (tgt := 138) C.x C.b dX12_shift_108 (by decide) (fun hc21 => ?_) (fun hc21 => ?_)
    · replace hf := ite_t hf hc21
      obtain rfl := sm_s hf
      exact kx0 _ _ _ Z (lv_sub hl [0, 3, 4, 5] rfl)
    · replace hf := ite_f hf hc21
      refine lv_aload_n C.x C.b dX12_shift_111 rfl (lv_at hl 0 rfl) ?_
      refine z_get C Z (lvM0 Nat.zero_lt_one) kM0 zc12 zin12 71 (by decide) k_1247 rfl svM0_71 dX12_shift_112 ?_
      refine lv_iload C.x C.b dX12_shift_115 (lv_at hl 6 rfl) ?_
      refine lv_aload_n C.x C.b dX12_shift_117 rfl (lv_at hl 0 rfl) ?_
      refine z_get C Z (lvM0 Nat.zero_lt_one) kM0 zc12 zin12 70 (by decide) k_1246 rfl svM0_70 dX12_shift_118 ?_
      refine lv_bipush (v := 60) C.x C.b dX12_shift_121 (by decide) ?_
      refine lv_iload_n C.x C.b dX12_shift_123 rfl (lv_at hl 1 rfl) ?_
      refine lv_imul C.x C.b dX12_shift_124 ?_
      refine lv_iload_n C.x C.b dX12_shift_125 rfl (lv_at hl 2 rfl) ?_
      refine lv_iadd C.x C.b dX12_shift_126 ?_
      refine lv_iload C.x C.b dX12_shift_127 (lv_at hl 6 rfl) ?_
      refine lv_iadd C.x C.b dX12_shift_129 ?_
      replace hf := asr_s hf; obtain ⟨hq22, hf⟩ := hf
      refine z_lald C Z (lvM54 Nat.zero_lt_one) kM54 hq22 svM54 dX12_shift_130 ?_
      replace hf := asr_s hf; obtain ⟨hq23, hf⟩ := hf
      replace hf := lt1_s hf; obtain ⟨m24, em24, hf⟩ := hf
      refine z_last (M1 := m24) C Z (lvM55 Nat.zero_lt_one) (by decide) kM55 hq23 em24 stM55u dX12_shift_131 (fun H locs Z => ?_)
      replace hf := lt1_s hf; obtain ⟨x25, ex25, hf⟩ := hf
      refine z_iinc (v := x25) (lv' := [(6, .int x25), (0, .ref (ad 0 0)), (1, .int g1), (2, .int g2), (3, .int g3), (4, .int g4), (5, .int g5)]) C dX12_shift_132 hl (k := 6) rfl (by rw [ex25]; rfl) (by decide) rfl (onlast 5 rfl rfl rfl) (fun ls hl => ?_)
      refine lv_goto (tgt := 104) C.x C.b dX12_shift_135 (by decide) ?_
      exact ih _ _ _ _ _ Z (lv_sub hl [1, 2, 3, 4, 5, 6, 0] rfl) _ hf kx0
set_option maxRecDepth 100000 in
set_option maxHeartbeats 4000000 in
theorem w_X12_shift_l141 {p : Program} {l : Launch} {e : Env} {R : Room} {s : State} {m : MethodId} {args : Array Value} {below : List Frame} {meth : Method} {c : Code} {cells slots : Nat} {Q : State → Prop} {K : KG} {ad : Nat → Nat → Nat} {fl : Nat} {g3 : Int32} {g4 : Int32} {g5 : Int32} (C : Cx p s m args meth c cX12_shift 7 "GlassPalaceModel" (some .int)) (hR : 3 ≤ R.frames ∧ 40 * (3) ≤ R.locals) (hB : cells ≤ R.cells ∧ slots ≤ R.slots) : ∀ (n : Nat) (u6 : Int32) (M0 : Mem) (H : Heap) (locs : List Loc) (ls : Array Slot), Zd K LM ad M0 s H locs → lv_has ls 7 [(0, .ref (ad 0 0)), (3, .int g3), (4, .int g4), (5, .int g5), (6, .int u6)] → ∀ (Mq : Mem), f_X12_shift_l141 fl g3 g4 g5 n u6 M0 = some Mq → (∀ (H : Heap) (locs : List Loc) (ls : Array Slot), Zd K LM ad Mq s H locs → lv_has ls 7 [(5, .int g5)] → W p l e R s m args below meth c H locs cells slots Q (F0 m 176 ls [])) → W p l e R s m args below meth c H locs cells slots Q (F0 m 141 ls []) := by
  intro n
  induction n with
  | zero =>
    intro u6 M0 H locs ls Z hl Mq hf
    have hf : (none : Option (Mem)) = some Mq := hf
    cases hf
  | succ n ih =>
    intro u6 M0 H locs ls Z hl Mq hf kx0
    replace hf : f_X12_shift_l141_b (f_X12_shift_l141 fl g3 g4 g5 n) fl g3 g4 g5 u6 M0 = some Mq := hf
    unfold f_X12_shift_l141_b at hf
    refine lv_iload C.x C.b dX12_shift_141 (lv_at hl 4 rfl) ?_
    refine lv_iload C.x C.b dX12_shift_143 (lv_at hl 3 rfl) ?_
    refine lv_icmp_ge (tgt := 176) C.x C.b dX12_shift_145 (by decide) (fun hc28 => ?_) (fun hc28 => ?_)
    · replace hf := ite_t hf hc28
      obtain rfl := sm_s hf
      exact kx0 _ _ _ Z (lv_sub hl [3] rfl)
    · replace hf := ite_f hf hc28
      refine lv_aload_n C.x C.b dX12_shift_148 rfl (lv_at hl 0 rfl) ?_
      refine z_get C Z (lvM0 Nat.zero_lt_one) kM0 zc12 zin12 70 (by decide) k_1246 rfl svM0_70 dX12_shift_149 ?_
      refine lv_bipush (v := 60) C.x C.b dX12_shift_152 (by decide) ?_
      refine lv_iload_n C.x C.b dX12_shift_154 rfl (lv_at hl 1 rfl) ?_
      refine lv_imul C.x C.b dX12_shift_155 ?_
      refine lv_iload C.x C.b dX12_shift_156 (lv_at hl 2 rfl) ?_
      refine lv_iadd C.x C.b dX12_shift_158 ?_
      refine lv_iload C.x C.b dX12_shift_159 (lv_at hl 4 rfl) ?_
      refine lv_iadd C.x C.b dX12_shift_161 ?_
      refine lv_aload_n C.x C.b dX12_shift_162 rfl (lv_at hl 0 rfl) ?_
      refine z_get C Z (lvM0 Nat.zero_lt_one) kM0 zc12 zin12 71 (by decide) k_1247 rfl svM0_71 dX12_shift_163 ?_
      refine lv_iload C.x C.b dX12_shift_166 (lv_at hl 4 rfl) ?_
      replace hf := asr_s hf; obtain ⟨hq29, hf⟩ := hf
      refine z_lald C Z (lvM55 Nat.zero_lt_one) kM55 hq29 svM55 dX12_shift_168 ?_
      replace hf := asr_s hf; obtain ⟨hq30, hf⟩ := hf
      replace hf := lt1_s hf; obtain ⟨m31, em31, hf⟩ := hf
      refine z_last (M1 := m31) C Z (lvM54 Nat.zero_lt_one) (by decide) kM54 hq30 em31 stM54u dX12_shift_169 (fun H locs Z => ?_)
      replace hf := lt1_s hf; obtain ⟨x32, ex32, hf⟩ := hf
      refine z_iinc (v := x32) (lv' := [(6, .int x32), (0, .ref (ad 0 0)), (3, .int g3), (4, .int g4), (5, .int g5)]) C dX12_shift_170 hl (k := 4) rfl (by rw [ex32]; rfl) (by decide) rfl (onlast 3 rfl rfl rfl) (fun ls hl => ?_)
      refine lv_goto (tgt := 141) C.x C.b dX12_shift_173 (by decide) ?_
      exact ih _ _ _ _ _ Z (lv_sub hl [1, 2, 3, 4, 0] rfl) _ hf kx0
set_option maxRecDepth 100000 in
set_option maxHeartbeats 4000000 in
theorem c_X12_shift {l : Launch} {K : KG} {ad : Nat → Nat → Nat} {fl : Nat} {a1 : Int32} {a2 : Int32} {a3 : Int32} {a4 : Int32} {a5 : Int32} {M0 : Mem} {r9 : Int32} {M9 : Mem} (hf : f_X12_shift fl a1 a2 a3 a4 a5 M0 = some (r9, M9)) : Met l yX12_shift (Cond.code yX12_shift cX12_shift 7 (some .int) :: ztb) (RM (3) 0 0) (zPc K LM ad M0 [.ref (ad 0 0), .int a1, .int a2, .int a3, .int a4, .int a5]) (zQ K LM ad (some (.int r9)) M9) 0 0 (zA ad) := by
  refine z_enter (by decide) (Nat.le_of_ble_eq_true rfl) ?_
  intro p e s m args below meth c ls C hin hargs Z hl
  replace C : Cx p s m args meth c cX12_shift 7 "GlassPalaceModel" (some .int) := C
  replace hl : lv_has ls 7 [(0, .ref (ad 0 0)), (1, .int a1), (2, .int a2), (3, .int a3), (4, .int a4), (5, .int a5)] := hl
  have hR : 3 ≤ (RM (3) 0 0).frames ∧ 40 * (3) ≤ (RM (3) 0 0).locals := ⟨Nat.le_refl _, Nat.le_refl _⟩
  have hB : 0 ≤ (RM (3) 0 0).cells ∧ 0 ≤ (RM (3) 0 0).slots := ⟨Nat.zero_le _, Nat.zero_le _⟩
  unfold f_X12_shift at hf
  refine lv_aload_n C.x C.b dX12_shift_0 rfl (lv_at hl 0 rfl) ?_
  refine lv_iload_n C.x C.b dX12_shift_1 rfl (lv_at hl 1 rfl) ?_
  replace hf := bn2_s hf; obtain ⟨v2, m1, hkm1, hf⟩ := hf
  refine z_cV (As := [.int a1]) (rest := []) (st1 := [.int v2]) C Z mw_X12_isTape mv_X12_isTape k_1785 (by decide) (z_hR hR (by decide)) (lvM0 Nat.zero_lt_one) kM0 zc12 (c_X12_isTape (l := l) (K := K) (ad := ad) hkm1) rfl hl.1 rfl (Nat.le_of_ble_eq_true rfl) dX12_shift_2 hB rfl (fun H locs Z => ?_)
  refine lv_if_eq (tgt := 16) C.x C.b dX12_shift_5 (by decide) (fun hc3 => ?_) (fun hc3 => ?_)
  · replace hf := ite_t hf hc3
    refine lv_iconst (v := (-1)) C.x C.b dX12_shift_16 (by decide) ?_
    obtain ⟨rfl, rfl⟩ := pr_s hf
    exact z_iret C Z dX12_shift_17
  · replace hf := ite_f hf hc3
    refine lv_aload_n C.x C.b dX12_shift_8 rfl (lv_at hl 0 rfl) ?_
    refine lv_iload_n C.x C.b dX12_shift_9 rfl (lv_at hl 3 rfl) ?_
    replace hf := bn2_s hf; obtain ⟨v5, m4, hkm4, hf⟩ := hf
    refine z_cV (As := [.int a3]) (rest := []) (st1 := [.int v5]) C Z mw_X12_isTape mv_X12_isTape k_1785 (by decide) (z_hR hR (by decide)) (lvM0 Nat.zero_lt_one) kM0 zc12 (c_X12_isTape (l := l) (K := K) (ad := ad) hkm4) rfl hl.1 rfl (Nat.le_of_ble_eq_true rfl) dX12_shift_10 hB rfl (fun H locs Z => ?_)
    refine lv_if_ne (tgt := 18) C.x C.b dX12_shift_13 (by decide) (fun hc6 => ?_) (fun hc6 => ?_)
    · replace hf := ite_f hf hc6
      refine lv_aload_n C.x C.b dX12_shift_18 rfl (lv_at hl 0 rfl) ?_
      refine z_get C Z (lvM0 Nat.zero_lt_one) kM0 zc12 zin12 68 (by decide) k_1244 rfl svM0_68 dX12_shift_19 ?_
      refine lv_iload_n C.x C.b dX12_shift_22 rfl (lv_at hl 1 rfl) ?_
      replace hf := asr_s hf; obtain ⟨hq7, hf⟩ := hf
      refine z_iald C Z (lvM52 Nat.zero_lt_one) kM52 hq7 svM52 dX12_shift_23 ?_
      refine lv_if_lt (tgt := 36) C.x C.b dX12_shift_24 (by decide) (fun hc8 => ?_) (fun hc8 => ?_)
      · replace hf := ite_t hf hc8
        refine lv_bipush (v := (-11)) C.x C.b dX12_shift_36 (by decide) ?_
        obtain ⟨rfl, rfl⟩ := pr_s hf
        exact z_iret C Z dX12_shift_38
      · replace hf := ite_f hf hc8
        refine lv_aload_n C.x C.b dX12_shift_27 rfl (lv_at hl 0 rfl) ?_
        refine z_get C Z (lvM0 Nat.zero_lt_one) kM0 zc12 zin12 68 (by decide) k_1244 rfl svM0_68 dX12_shift_28 ?_
        refine lv_iload_n C.x C.b dX12_shift_31 rfl (lv_at hl 3 rfl) ?_
        replace hf := asr_s hf; obtain ⟨hq9, hf⟩ := hf
        refine z_iald C Z (lvM52 Nat.zero_lt_one) kM52 hq9 svM52 dX12_shift_32 ?_
        refine lv_if_ge (tgt := 39) C.x C.b dX12_shift_33 (by decide) (fun hc10 => ?_) (fun hc10 => ?_)
        · replace hf := ite_t hf hc10
          refine lv_aload_n C.x C.b dX12_shift_39 rfl (lv_at hl 0 rfl) ?_
          refine z_get C Z (lvM0 Nat.zero_lt_one) kM0 zc12 zin12 68 (by decide) k_1244 rfl svM0_68 dX12_shift_40 ?_
          refine lv_iload_n C.x C.b dX12_shift_43 rfl (lv_at hl 1 rfl) ?_
          replace hf := asr_s hf; obtain ⟨hq11, hf⟩ := hf
          refine z_iald C Z (lvM52 Nat.zero_lt_one) kM52 hq11 svM52 dX12_shift_44 ?_
          refine lv_aload_n C.x C.b dX12_shift_45 rfl (lv_at hl 0 rfl) ?_
          refine z_get C Z (lvM0 Nat.zero_lt_one) kM0 zc12 zin12 68 (by decide) k_1244 rfl svM0_68 dX12_shift_46 ?_
          refine lv_iload_n C.x C.b dX12_shift_49 rfl (lv_at hl 3 rfl) ?_
          replace hf := asr_s hf; obtain ⟨hq12, hf⟩ := hf
          refine z_iald C Z (lvM52 Nat.zero_lt_one) kM52 hq12 svM52 dX12_shift_50 ?_
          refine lv_icmp_eq (tgt := 57) C.x C.b dX12_shift_51 (by decide) (fun hc13 => ?_) (fun hc13 => ?_)
          · replace hf := ite_t hf hc13
            refine lv_iload C.x C.b dX12_shift_57 (lv_at hl 5 rfl) ?_
            refine lv_if_lt (tgt := 98) C.x C.b dX12_shift_59 (by decide) (fun hc14 => ?_) (fun hc14 => ?_)
            · replace hf := ite_t hf hc14
              refine lv_bipush (v := (-13)) C.x C.b dX12_shift_98 (by decide) ?_
              obtain ⟨rfl, rfl⟩ := pr_s hf
              exact z_iret C Z dX12_shift_100
            · replace hf := ite_f hf hc14
              refine lv_iload_n C.x C.b dX12_shift_62 rfl (lv_at hl 2 rfl) ?_
              refine lv_if_lt (tgt := 98) C.x C.b dX12_shift_63 (by decide) (fun hc15 => ?_) (fun hc15 => ?_)
              · replace hf := ite_t hf hc15
                refine lv_bipush (v := (-13)) C.x C.b dX12_shift_98 (by decide) ?_
                obtain ⟨rfl, rfl⟩ := pr_s hf
                exact z_iret C Z dX12_shift_100
              · replace hf := ite_f hf hc15
                refine lv_iload C.x C.b dX12_shift_66 (lv_at hl 4 rfl) ?_
                refine lv_if_lt (tgt := 98) C.x C.b dX12_shift_68 (by decide) (fun hc16 => ?_) (fun hc16 => ?_)
                · replace hf := ite_t hf hc16
                  refine lv_bipush (v := (-13)) C.x C.b dX12_shift_98 (by decide) ?_
                  obtain ⟨rfl, rfl⟩ := pr_s hf
                  exact z_iret C Z dX12_shift_100
                · replace hf := ite_f hf hc16
                  refine lv_iload_n C.x C.b dX12_shift_71 rfl (lv_at hl 2 rfl) ?_
                  refine lv_aload_n C.x C.b dX12_shift_72 rfl (lv_at hl 0 rfl) ?_
                  refine z_get C Z (lvM0 Nat.zero_lt_one) kM0 zc12 zin12 69 (by decide) k_1245 rfl svM0_69 dX12_shift_73 ?_
                  refine lv_iload_n C.x C.b dX12_shift_76 rfl (lv_at hl 1 rfl) ?_
                  replace hf := asr_s hf; obtain ⟨hq17, hf⟩ := hf
                  refine z_iald C Z (lvM53 Nat.zero_lt_one) kM53 hq17 svM53 dX12_shift_77 ?_
                  refine lv_iload C.x C.b dX12_shift_78 (lv_at hl 5 rfl) ?_
                  refine lv_isub C.x C.b dX12_shift_80 ?_
                  refine lv_icmp_gt (tgt := 98) C.x C.b dX12_shift_81 (by decide) (fun hc18 => ?_) (fun hc18 => ?_)
                  · replace hf := ite_t hf hc18
                    refine lv_bipush (v := (-13)) C.x C.b dX12_shift_98 (by decide) ?_
                    obtain ⟨rfl, rfl⟩ := pr_s hf
                    exact z_iret C Z dX12_shift_100
                  · replace hf := ite_f hf hc18
                    refine lv_iload C.x C.b dX12_shift_84 (lv_at hl 4 rfl) ?_
                    refine lv_aload_n C.x C.b dX12_shift_86 rfl (lv_at hl 0 rfl) ?_
                    refine z_get C Z (lvM0 Nat.zero_lt_one) kM0 zc12 zin12 69 (by decide) k_1245 rfl svM0_69 dX12_shift_87 ?_
                    refine lv_iload_n C.x C.b dX12_shift_90 rfl (lv_at hl 3 rfl) ?_
                    replace hf := asr_s hf; obtain ⟨hq19, hf⟩ := hf
                    refine z_iald C Z (lvM53 Nat.zero_lt_one) kM53 hq19 svM53 dX12_shift_91 ?_
                    refine lv_iload C.x C.b dX12_shift_92 (lv_at hl 5 rfl) ?_
                    refine lv_isub C.x C.b dX12_shift_94 ?_
                    refine lv_icmp_le (tgt := 101) C.x C.b dX12_shift_95 (by decide) (fun hc20 => ?_) (fun hc20 => ?_)
                    · replace hf := ite_t hf hc20
                      refine lv_iconst (v := 0) C.x C.b dX12_shift_101 (by decide) ?_
                      refine z_istore (lv' := [(6, .int 0), (0, .ref (ad 0 0)), (1, .int a1), (2, .int a2), (3, .int a3), (4, .int a4), (5, .int a5)]) C dX12_shift_102 hl (by decide) rfl (onlast 5 rfl rfl rfl) (fun ls hl => ?_)
                      replace hf := bn1_s hf; obtain ⟨m27, hq26, hf⟩ := hf
                      refine w_X12_shift_l104 C hR hB  fl _ _ _ _ _ Z (lv_sub hl [1, 2, 3, 4, 5, 6, 0] rfl) _ hq26 (fun H locs ls Z hl => ?_)
                      refine lv_iconst (v := 0) C.x C.b dX12_shift_138 (by decide) ?_
                      refine z_istore (lv' := [(6, .int 0), (0, .ref (ad 0 0)), (3, .int a3), (4, .int a4), (5, .int a5)]) C dX12_shift_139 hl (by decide) rfl (onlast 3 rfl rfl rfl) (fun ls hl => ?_)
                      replace hf := bn1_s hf; obtain ⟨m34, hq33, hf⟩ := hf
                      refine w_X12_shift_l141 C hR hB  fl _ _ _ _ _ Z (lv_sub hl [1, 2, 3, 4, 0] rfl) _ hq33 (fun H locs ls Z hl => ?_)
                      refine lv_iload C.x C.b dX12_shift_176 (lv_at hl 0 rfl) ?_
                      obtain ⟨rfl, rfl⟩ := pr_s hf
                      exact z_iret C Z dX12_shift_178
                    · replace hf := ite_f hf hc20
                      refine lv_bipush (v := (-13)) C.x C.b dX12_shift_98 (by decide) ?_
                      obtain ⟨rfl, rfl⟩ := pr_s hf
                      exact z_iret C Z dX12_shift_100
          · replace hf := ite_f hf hc13
            refine lv_bipush (v := (-12)) C.x C.b dX12_shift_54 (by decide) ?_
            obtain ⟨rfl, rfl⟩ := pr_s hf
            exact z_iret C Z dX12_shift_56
        · replace hf := ite_f hf hc10
          refine lv_bipush (v := (-11)) C.x C.b dX12_shift_36 (by decide) ?_
          obtain ⟨rfl, rfl⟩ := pr_s hf
          exact z_iret C Z dX12_shift_38
    · replace hf := ite_t hf hc6
      refine lv_iconst (v := (-1)) C.x C.b dX12_shift_16 (by decide) ?_
      obtain ⟨rfl, rfl⟩ := pr_s hf
      exact z_iret C Z dX12_shift_17
