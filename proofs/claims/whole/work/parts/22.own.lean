theorem dX6_coinOf_0 : decode cX6_coinOf 0 = .ok (.iconst 0, 1) := by decide +kernel
theorem dX6_coinOf_1 : decode cX6_coinOf 1 = .ok (.istore_n 2, 1) := by decide +kernel
theorem dX6_coinOf_2 : decode cX6_coinOf 2 = .ok (.iconst 0, 1) := by decide +kernel
theorem dX6_coinOf_3 : decode cX6_coinOf 3 = .ok (.istore_n 3, 1) := by decide +kernel
theorem dX6_coinOf_4 : decode cX6_coinOf 4 = .ok (.iload_n 3, 1) := by decide +kernel
theorem dX6_coinOf_5 : decode cX6_coinOf 5 = .ok (.aload_n 0, 1) := by decide +kernel
theorem dX6_coinOf_6 : decode cX6_coinOf 6 = .ok (.getfield 40, 3) := by decide +kernel
theorem dX6_coinOf_9 : decode cX6_coinOf 9 = .ok (.if_icmp .ge 37, 3) := by decide +kernel
theorem dX6_coinOf_12 : decode cX6_coinOf 12 = .ok (.iload_n 3, 1) := by decide +kernel
theorem dX6_coinOf_13 : decode cX6_coinOf 13 = .ok (.bipush 8, 2) := by decide +kernel
theorem dX6_coinOf_15 : decode cX6_coinOf 15 = .ok (.if_icmp .ge 31, 3) := by decide +kernel
theorem dX6_coinOf_18 : decode cX6_coinOf 18 = .ok (.iload_n 2, 1) := by decide +kernel
theorem dX6_coinOf_19 : decode cX6_coinOf 19 = .ok (.iload_n 1, 1) := by decide +kernel
theorem dX6_coinOf_20 : decode cX6_coinOf 20 = .ok (.iload_n 3, 1) := by decide +kernel
theorem dX6_coinOf_21 : decode cX6_coinOf 21 = .ok (.ishr, 1) := by decide +kernel
theorem dX6_coinOf_22 : decode cX6_coinOf 22 = .ok (.iconst 1, 1) := by decide +kernel
theorem dX6_coinOf_23 : decode cX6_coinOf 23 = .ok (.iand, 1) := by decide +kernel
theorem dX6_coinOf_24 : decode cX6_coinOf 24 = .ok (.iconst 1, 1) := by decide +kernel
theorem dX6_coinOf_25 : decode cX6_coinOf 25 = .ok (.if_icmp .ne 12, 3) := by decide +kernel
theorem dX6_coinOf_28 : decode cX6_coinOf 28 = .ok (.aload_n 0, 1) := by decide +kernel
theorem dX6_coinOf_29 : decode cX6_coinOf 29 = .ok (.getfield 33, 3) := by decide +kernel
theorem dX6_coinOf_32 : decode cX6_coinOf 32 = .ok (.iload_n 3, 1) := by decide +kernel
theorem dX6_coinOf_33 : decode cX6_coinOf 33 = .ok (.iaload, 1) := by decide +kernel
theorem dX6_coinOf_34 : decode cX6_coinOf 34 = .ok (.goto 4, 3) := by decide +kernel
theorem dX6_coinOf_37 : decode cX6_coinOf 37 = .ok (.iconst 0, 1) := by decide +kernel
theorem dX6_coinOf_38 : decode cX6_coinOf 38 = .ok (.iadd, 1) := by decide +kernel
theorem dX6_coinOf_39 : decode cX6_coinOf 39 = .ok (.istore_n 2, 1) := by decide +kernel
theorem dX6_coinOf_40 : decode cX6_coinOf 40 = .ok (.iinc 3 1, 3) := by decide +kernel
theorem dX6_coinOf_43 : decode cX6_coinOf 43 = .ok (.goto (-39), 3) := by decide +kernel
theorem dX6_coinOf_46 : decode cX6_coinOf 46 = .ok (.iload_n 2, 1) := by decide +kernel
theorem dX6_coinOf_47 : decode cX6_coinOf 47 = .ok (.ireturn, 1) := by decide +kernel
set_option maxRecDepth 100000 in
set_option maxHeartbeats 4000000 in
theorem w_X6_coinOf_l4 {p : Program} {l : Launch} {e : Env} {R : Room} {s : State} {m : MethodId} {args : Array Value} {below : List Frame} {meth : Method} {c : Code} {cells slots : Nat} {Q : State → Prop} {K : KG} {ad : Nat → Nat → Nat} {fl : Nat} {g1 : Int32} (C : Cx p s m args meth c cX6_coinOf 4 "GlassPalace$Plan" (some .int)) (hR : 1 ≤ R.frames ∧ 40 * (1) ≤ R.locals) (hB : cells ≤ R.cells ∧ slots ≤ R.slots) : ∀ (n : Nat) (u2 : Int32) (u3 : Int32) (M0 : Mem) (H : Heap) (locs : List Loc) (ls : Array Slot), Zd K LC ad M0 s H locs → lv_has ls 4 [(0, .ref (ad 9 0)), (1, .int g1), (2, .int u2), (3, .int u3)] → ∀ (q : Int32) (Mq : Mem), f_X6_coinOf_l4 fl g1 n u2 u3 M0 = some (q, Mq) → (∀ (H : Heap) (locs : List Loc) (ls : Array Slot), Zd K LC ad Mq s H locs → lv_has ls 4 [(2, .int q)] → W p l e R s m args below meth c H locs cells slots Q (F0 m 46 ls [])) → W p l e R s m args below meth c H locs cells slots Q (F0 m 4 ls []) := by
  intro n
  induction n with
  | zero =>
    intro u2 u3 M0 H locs ls Z hl q Mq hf
    have hf : (none : Option (Int32 × Mem)) = some (q, Mq) := hf
    cases hf
  | succ n ih =>
    intro u2 u3 M0 H locs ls Z hl q Mq hf kx0
    replace hf : f_X6_coinOf_l4_b (f_X6_coinOf_l4 fl g1 n) fl g1 u2 u3 M0 = some (q, Mq) := hf
    unfold f_X6_coinOf_l4_b at hf
    refine lv_iload_n C.x C.b dX6_coinOf_4 rfl (lv_at hl 3 rfl) ?_
    refine lv_aload_n C.x C.b dX6_coinOf_5 rfl (lv_at hl 0 rfl) ?_
    refine z_get C Z (lvC9 Nat.zero_lt_one) kC9 zc6 zin6 1 (by decide) k_236 rfl svC9_1 dX6_coinOf_6 ?_
    refine lv_icmp_ge (tgt := 46) C.x C.b dX6_coinOf_9 (by decide) (fun hc1 => ?_) (fun hc1 => ?_)
    · replace hf := ite_t hf hc1
      obtain ⟨rfl, rfl⟩ := pr_s hf
      exact kx0 _ _ _ Z (lv_sub hl [2] rfl)
    · replace hf := ite_f hf hc1
      refine lv_iload_n C.x C.b dX6_coinOf_12 rfl (lv_at hl 3 rfl) ?_
      refine lv_bipush (v := 8) C.x C.b dX6_coinOf_13 (by decide) ?_
      refine lv_icmp_ge (tgt := 46) C.x C.b dX6_coinOf_15 (by decide) (fun hc2 => ?_) (fun hc2 => ?_)
      · replace hf := ite_t hf hc2
        obtain ⟨rfl, rfl⟩ := pr_s hf
        exact kx0 _ _ _ Z (lv_sub hl [2] rfl)
      · replace hf := ite_f hf hc2
        refine lv_iload_n C.x C.b dX6_coinOf_18 rfl (lv_at hl 2 rfl) ?_
        refine lv_iload_n C.x C.b dX6_coinOf_19 rfl (lv_at hl 1 rfl) ?_
        refine lv_iload_n C.x C.b dX6_coinOf_20 rfl (lv_at hl 3 rfl) ?_
        refine z_ishr C dX6_coinOf_21 ?_
        refine lv_iconst (v := 1) C.x C.b dX6_coinOf_22 (by decide) ?_
        refine lv_iand C.x C.b dX6_coinOf_23 ?_
        refine lv_iconst (v := 1) C.x C.b dX6_coinOf_24 (by decide) ?_
        refine lv_icmp_ne (tgt := 37) C.x C.b dX6_coinOf_25 (by decide) (fun hc3 => ?_) (fun hc3 => ?_)
        · replace hf := ite_f hf hc3
          refine lv_iconst (v := 0) C.x C.b dX6_coinOf_37 (by decide) ?_
          refine lv_iadd C.x C.b dX6_coinOf_38 ?_
          replace hf := lt1_s hf; obtain ⟨x4, ex4, hf⟩ := hf
          refine z_renI ex4 ?_
          refine z_istore_n (lv' := [(2, .int x4), (0, .ref (ad 9 0)), (1, .int g1), (3, .int u3)]) C dX6_coinOf_39 rfl hl (by decide) rfl (onlast 1 rfl rfl rfl) (fun ls hl => ?_)
          replace hf := lt1_s hf; obtain ⟨x5, ex5, hf⟩ := hf
          refine z_iinc (v := x5) (lv' := [(3, .int x5), (2, .int x4), (0, .ref (ad 9 0)), (1, .int g1)]) C dX6_coinOf_40 hl (k := 3) rfl (by rw [ex5]; rfl) (by decide) rfl (onlast 0 rfl rfl rfl) (fun ls hl => ?_)
          refine lv_goto (tgt := 4) C.x C.b dX6_coinOf_43 (by decide) ?_
          exact ih _ _ _ _ _ _ Z (lv_sub hl [2, 3, 1, 0] rfl) _ _ hf kx0
        · replace hf := ite_t hf hc3
          refine lv_aload_n C.x C.b dX6_coinOf_28 rfl (lv_at hl 0 rfl) ?_
          refine z_get C Z (lvC9 Nat.zero_lt_one) kC9 zc6 zin6 9 (by decide) k_248 rfl svC9_9 dX6_coinOf_29 ?_
          refine lv_iload_n C.x C.b dX6_coinOf_32 rfl (lv_at hl 3 rfl) ?_
          replace hf := asr_s hf; obtain ⟨hq6, hf⟩ := hf
          refine z_iald C Z (lvC37 Nat.zero_lt_one) kC37 hq6 svC37 dX6_coinOf_33 ?_
          refine lv_goto (tgt := 38) C.x C.b dX6_coinOf_34 (by decide) ?_
          refine lv_iadd C.x C.b dX6_coinOf_38 ?_
          replace hf := lt1_s hf; obtain ⟨x7, ex7, hf⟩ := hf
          refine z_renI ex7 ?_
          refine z_istore_n (lv' := [(2, .int x7), (0, .ref (ad 9 0)), (1, .int g1), (3, .int u3)]) C dX6_coinOf_39 rfl hl (by decide) rfl (onlast 1 rfl rfl rfl) (fun ls hl => ?_)
          replace hf := lt1_s hf; obtain ⟨x8, ex8, hf⟩ := hf
          refine z_iinc (v := x8) (lv' := [(3, .int x8), (2, .int x7), (0, .ref (ad 9 0)), (1, .int g1)]) C dX6_coinOf_40 hl (k := 3) rfl (by rw [ex8]; rfl) (by decide) rfl (onlast 0 rfl rfl rfl) (fun ls hl => ?_)
          refine lv_goto (tgt := 4) C.x C.b dX6_coinOf_43 (by decide) ?_
          exact ih _ _ _ _ _ _ Z (lv_sub hl [2, 3, 1, 0] rfl) _ _ hf kx0
set_option maxRecDepth 100000 in
set_option maxHeartbeats 4000000 in
theorem c_X6_coinOf {l : Launch} {K : KG} {ad : Nat → Nat → Nat} {fl : Nat} {a1 : Int32} {M0 : Mem} {r9 : Int32} {M9 : Mem} (hf : f_X6_coinOf fl a1 M0 = some (r9, M9)) : Met l yX6_coinOf (Cond.code yX6_coinOf cX6_coinOf 4 (some .int) :: ztb) (RM (1) 0 0) (zPc K LC ad M0 [.ref (ad 9 0), .int a1]) (zQ K LC ad (some (.int r9)) M9) 0 0 (zA ad) := by
  refine z_enter (by decide) (Nat.le_of_ble_eq_true rfl) ?_
  intro p e s m args below meth c ls C hin hargs Z hl
  replace C : Cx p s m args meth c cX6_coinOf 4 "GlassPalace$Plan" (some .int) := C
  replace hl : lv_has ls 4 [(0, .ref (ad 9 0)), (1, .int a1)] := hl
  have hR : 1 ≤ (RM (1) 0 0).frames ∧ 40 * (1) ≤ (RM (1) 0 0).locals := ⟨Nat.le_refl _, Nat.le_refl _⟩
  have hB : 0 ≤ (RM (1) 0 0).cells ∧ 0 ≤ (RM (1) 0 0).slots := ⟨Nat.zero_le _, Nat.zero_le _⟩
  unfold f_X6_coinOf at hf
  refine lv_iconst (v := 0) C.x C.b dX6_coinOf_0 (by decide) ?_
  refine z_istore_n (lv' := [(2, .int 0), (0, .ref (ad 9 0)), (1, .int a1)]) C dX6_coinOf_1 rfl hl (by decide) rfl (onlast 1 rfl rfl rfl) (fun ls hl => ?_)
  refine lv_iconst (v := 0) C.x C.b dX6_coinOf_2 (by decide) ?_
  refine z_istore_n (lv' := [(3, .int 0), (2, .int 0), (0, .ref (ad 9 0)), (1, .int a1)]) C dX6_coinOf_3 rfl hl (by decide) rfl (onlast 0 rfl rfl rfl) (fun ls hl => ?_)
  replace hf := bn2_s hf; obtain ⟨q9, m10, hq9, hf⟩ := hf
  refine w_X6_coinOf_l4 C hR hB  fl _ _ _ _ _ _ Z (lv_sub hl [2, 3, 1, 0] rfl) _ _ hq9 (fun H locs ls Z hl => ?_)
  refine lv_iload_n C.x C.b dX6_coinOf_46 rfl (lv_at hl 0 rfl) ?_
  obtain ⟨rfl, rfl⟩ := pr_s hf
  exact z_iret C Z dX6_coinOf_47
theorem dJ6_bitCount_0f7a4_0 : decode cJ6_bitCount_0f7a4 0 = .ok (.iload_n 0, 1) := by decide +kernel
theorem dJ6_bitCount_0f7a4_1 : decode cJ6_bitCount_0f7a4 1 = .ok (.iload_n 0, 1) := by decide +kernel
theorem dJ6_bitCount_0f7a4_2 : decode cJ6_bitCount_0f7a4 2 = .ok (.iconst 1, 1) := by decide +kernel
theorem dJ6_bitCount_0f7a4_3 : decode cJ6_bitCount_0f7a4 3 = .ok (.iushr, 1) := by decide +kernel
theorem dJ6_bitCount_0f7a4_4 : decode cJ6_bitCount_0f7a4 4 = .ok (.ldc_w 265, 3) := by decide +kernel
theorem dJ6_bitCount_0f7a4_7 : decode cJ6_bitCount_0f7a4 7 = .ok (.iand, 1) := by decide +kernel
theorem dJ6_bitCount_0f7a4_8 : decode cJ6_bitCount_0f7a4 8 = .ok (.isub, 1) := by decide +kernel
theorem dJ6_bitCount_0f7a4_9 : decode cJ6_bitCount_0f7a4 9 = .ok (.istore_n 0, 1) := by decide +kernel
theorem dJ6_bitCount_0f7a4_10 : decode cJ6_bitCount_0f7a4 10 = .ok (.iload_n 0, 1) := by decide +kernel
theorem dJ6_bitCount_0f7a4_11 : decode cJ6_bitCount_0f7a4 11 = .ok (.ldc_w 266, 3) := by decide +kernel
theorem dJ6_bitCount_0f7a4_14 : decode cJ6_bitCount_0f7a4 14 = .ok (.iand, 1) := by decide +kernel
theorem dJ6_bitCount_0f7a4_15 : decode cJ6_bitCount_0f7a4 15 = .ok (.iload_n 0, 1) := by decide +kernel
theorem dJ6_bitCount_0f7a4_16 : decode cJ6_bitCount_0f7a4 16 = .ok (.iconst 2, 1) := by decide +kernel
theorem dJ6_bitCount_0f7a4_17 : decode cJ6_bitCount_0f7a4 17 = .ok (.iushr, 1) := by decide +kernel
theorem dJ6_bitCount_0f7a4_18 : decode cJ6_bitCount_0f7a4 18 = .ok (.ldc_w 266, 3) := by decide +kernel
theorem dJ6_bitCount_0f7a4_21 : decode cJ6_bitCount_0f7a4 21 = .ok (.iand, 1) := by decide +kernel
theorem dJ6_bitCount_0f7a4_22 : decode cJ6_bitCount_0f7a4 22 = .ok (.iadd, 1) := by decide +kernel
theorem dJ6_bitCount_0f7a4_23 : decode cJ6_bitCount_0f7a4 23 = .ok (.istore_n 0, 1) := by decide +kernel
theorem dJ6_bitCount_0f7a4_24 : decode cJ6_bitCount_0f7a4 24 = .ok (.iload_n 0, 1) := by decide +kernel
theorem dJ6_bitCount_0f7a4_25 : decode cJ6_bitCount_0f7a4 25 = .ok (.iload_n 0, 1) := by decide +kernel
theorem dJ6_bitCount_0f7a4_26 : decode cJ6_bitCount_0f7a4 26 = .ok (.iconst 4, 1) := by decide +kernel
theorem dJ6_bitCount_0f7a4_27 : decode cJ6_bitCount_0f7a4 27 = .ok (.iushr, 1) := by decide +kernel
theorem dJ6_bitCount_0f7a4_28 : decode cJ6_bitCount_0f7a4 28 = .ok (.iadd, 1) := by decide +kernel
theorem dJ6_bitCount_0f7a4_29 : decode cJ6_bitCount_0f7a4 29 = .ok (.ldc_w 267, 3) := by decide +kernel
theorem dJ6_bitCount_0f7a4_32 : decode cJ6_bitCount_0f7a4 32 = .ok (.iand, 1) := by decide +kernel
theorem dJ6_bitCount_0f7a4_33 : decode cJ6_bitCount_0f7a4 33 = .ok (.istore_n 0, 1) := by decide +kernel
theorem dJ6_bitCount_0f7a4_34 : decode cJ6_bitCount_0f7a4 34 = .ok (.iload_n 0, 1) := by decide +kernel
theorem dJ6_bitCount_0f7a4_35 : decode cJ6_bitCount_0f7a4 35 = .ok (.iload_n 0, 1) := by decide +kernel
theorem dJ6_bitCount_0f7a4_36 : decode cJ6_bitCount_0f7a4 36 = .ok (.bipush 8, 2) := by decide +kernel
theorem dJ6_bitCount_0f7a4_38 : decode cJ6_bitCount_0f7a4 38 = .ok (.iushr, 1) := by decide +kernel
theorem dJ6_bitCount_0f7a4_39 : decode cJ6_bitCount_0f7a4 39 = .ok (.iadd, 1) := by decide +kernel
theorem dJ6_bitCount_0f7a4_40 : decode cJ6_bitCount_0f7a4 40 = .ok (.istore_n 0, 1) := by decide +kernel
theorem dJ6_bitCount_0f7a4_41 : decode cJ6_bitCount_0f7a4 41 = .ok (.iload_n 0, 1) := by decide +kernel
theorem dJ6_bitCount_0f7a4_42 : decode cJ6_bitCount_0f7a4 42 = .ok (.iload_n 0, 1) := by decide +kernel
theorem dJ6_bitCount_0f7a4_43 : decode cJ6_bitCount_0f7a4 43 = .ok (.bipush 16, 2) := by decide +kernel
theorem dJ6_bitCount_0f7a4_45 : decode cJ6_bitCount_0f7a4 45 = .ok (.iushr, 1) := by decide +kernel
theorem dJ6_bitCount_0f7a4_46 : decode cJ6_bitCount_0f7a4 46 = .ok (.iadd, 1) := by decide +kernel
theorem dJ6_bitCount_0f7a4_47 : decode cJ6_bitCount_0f7a4 47 = .ok (.istore_n 0, 1) := by decide +kernel
theorem dJ6_bitCount_0f7a4_48 : decode cJ6_bitCount_0f7a4 48 = .ok (.iload_n 0, 1) := by decide +kernel
theorem dJ6_bitCount_0f7a4_49 : decode cJ6_bitCount_0f7a4 49 = .ok (.bipush 63, 2) := by decide +kernel
theorem dJ6_bitCount_0f7a4_51 : decode cJ6_bitCount_0f7a4 51 = .ok (.iand, 1) := by decide +kernel
theorem dJ6_bitCount_0f7a4_52 : decode cJ6_bitCount_0f7a4 52 = .ok (.ireturn, 1) := by decide +kernel
set_option maxRecDepth 100000 in
set_option maxHeartbeats 4000000 in
theorem c_J6_bitCount_0f7a4 {l : Launch} {K : KG} {ad : Nat → Nat → Nat} {fl : Nat} {a1 : Int32} {M0 : Mem} {r9 : Int32} {M9 : Mem} (hf : f_J6_bitCount_0f7a4 fl a1 M0 = some (r9, M9)) : Met l yJ6_bitCount_0f7a4 (Cond.code yJ6_bitCount_0f7a4 cJ6_bitCount_0f7a4 1 (some .int) :: ztb) (RM (1) 0 0) (zPc K LC ad M0 [.int a1]) (zQ K LC ad (some (.int r9)) M9) 0 0 (zA ad) := by
  refine z_enter (by decide) (Nat.le_of_ble_eq_true rfl) ?_
  intro p e s m args below meth c ls C hin hargs Z hl
  replace C : Cx p s m args meth c cJ6_bitCount_0f7a4 1 "java/lang/Integer" (some .int) := C
  replace hl : lv_has ls 1 [(0, .int a1)] := hl
  have hR : 1 ≤ (RM (1) 0 0).frames ∧ 40 * (1) ≤ (RM (1) 0 0).locals := ⟨Nat.le_refl _, Nat.le_refl _⟩
  have hB : 0 ≤ (RM (1) 0 0).cells ∧ 0 ≤ (RM (1) 0 0).slots := ⟨Nat.zero_le _, Nat.zero_le _⟩
  unfold f_J6_bitCount_0f7a4 at hf
  refine lv_iload_n C.x C.b dJ6_bitCount_0f7a4_0 rfl (lv_at hl 0 rfl) ?_
  refine lv_iload_n C.x C.b dJ6_bitCount_0f7a4_1 rfl (lv_at hl 0 rfl) ?_
  refine lv_iconst (v := 1) C.x C.b dJ6_bitCount_0f7a4_2 (by decide) ?_
  refine z_iushr C dJ6_bitCount_0f7a4_3 ?_
  refine lv_ldcw (v := 1431655765) C.x C.b C.o (C.w k_1017) dJ6_bitCount_0f7a4_4 ?_
  refine lv_iand C.x C.b dJ6_bitCount_0f7a4_7 ?_
  refine lv_isub C.x C.b dJ6_bitCount_0f7a4_8 ?_
  replace hf := lt1_s hf; obtain ⟨x1, ex1, hf⟩ := hf
  refine z_renI ex1 ?_
  refine z_istore_n (lv' := [(0, .int x1)]) C dJ6_bitCount_0f7a4_9 rfl hl (by decide) rfl (nolast rfl) (fun ls hl => ?_)
  refine lv_iload_n C.x C.b dJ6_bitCount_0f7a4_10 rfl (lv_at hl 0 rfl) ?_
  refine lv_ldcw (v := 858993459) C.x C.b C.o (C.w k_1018) dJ6_bitCount_0f7a4_11 ?_
  refine lv_iand C.x C.b dJ6_bitCount_0f7a4_14 ?_
  refine lv_iload_n C.x C.b dJ6_bitCount_0f7a4_15 rfl (lv_at hl 0 rfl) ?_
  refine lv_iconst (v := 2) C.x C.b dJ6_bitCount_0f7a4_16 (by decide) ?_
  refine z_iushr C dJ6_bitCount_0f7a4_17 ?_
  refine lv_ldcw (v := 858993459) C.x C.b C.o (C.w k_1018) dJ6_bitCount_0f7a4_18 ?_
  refine lv_iand C.x C.b dJ6_bitCount_0f7a4_21 ?_
  refine lv_iadd C.x C.b dJ6_bitCount_0f7a4_22 ?_
  replace hf := lt1_s hf; obtain ⟨x2, ex2, hf⟩ := hf
  refine z_renI ex2 ?_
  refine z_istore_n (lv' := [(0, .int x2)]) C dJ6_bitCount_0f7a4_23 rfl hl (by decide) rfl (nolast rfl) (fun ls hl => ?_)
  refine lv_iload_n C.x C.b dJ6_bitCount_0f7a4_24 rfl (lv_at hl 0 rfl) ?_
  refine lv_iload_n C.x C.b dJ6_bitCount_0f7a4_25 rfl (lv_at hl 0 rfl) ?_
  refine lv_iconst (v := 4) C.x C.b dJ6_bitCount_0f7a4_26 (by decide) ?_
  refine z_iushr C dJ6_bitCount_0f7a4_27 ?_
  refine lv_iadd C.x C.b dJ6_bitCount_0f7a4_28 ?_
  refine lv_ldcw (v := 252645135) C.x C.b C.o (C.w k_1019) dJ6_bitCount_0f7a4_29 ?_
  refine lv_iand C.x C.b dJ6_bitCount_0f7a4_32 ?_
  replace hf := lt1_s hf; obtain ⟨x3, ex3, hf⟩ := hf
  refine z_renI ex3 ?_
  refine z_istore_n (lv' := [(0, .int x3)]) C dJ6_bitCount_0f7a4_33 rfl hl (by decide) rfl (nolast rfl) (fun ls hl => ?_)
  refine lv_iload_n C.x C.b dJ6_bitCount_0f7a4_34 rfl (lv_at hl 0 rfl) ?_
  refine lv_iload_n C.x C.b dJ6_bitCount_0f7a4_35 rfl (lv_at hl 0 rfl) ?_
  refine lv_bipush (v := 8) C.x C.b dJ6_bitCount_0f7a4_36 (by decide) ?_
  refine z_iushr C dJ6_bitCount_0f7a4_38 ?_
  refine lv_iadd C.x C.b dJ6_bitCount_0f7a4_39 ?_
  replace hf := lt1_s hf; obtain ⟨x4, ex4, hf⟩ := hf
  refine z_renI ex4 ?_
  refine z_istore_n (lv' := [(0, .int x4)]) C dJ6_bitCount_0f7a4_40 rfl hl (by decide) rfl (nolast rfl) (fun ls hl => ?_)
  refine lv_iload_n C.x C.b dJ6_bitCount_0f7a4_41 rfl (lv_at hl 0 rfl) ?_
  refine lv_iload_n C.x C.b dJ6_bitCount_0f7a4_42 rfl (lv_at hl 0 rfl) ?_
  refine lv_bipush (v := 16) C.x C.b dJ6_bitCount_0f7a4_43 (by decide) ?_
  refine z_iushr C dJ6_bitCount_0f7a4_45 ?_
  refine lv_iadd C.x C.b dJ6_bitCount_0f7a4_46 ?_
  replace hf := lt1_s hf; obtain ⟨x5, ex5, hf⟩ := hf
  refine z_renI ex5 ?_
  refine z_istore_n (lv' := [(0, .int x5)]) C dJ6_bitCount_0f7a4_47 rfl hl (by decide) rfl (nolast rfl) (fun ls hl => ?_)
  refine lv_iload_n C.x C.b dJ6_bitCount_0f7a4_48 rfl (lv_at hl 0 rfl) ?_
  refine lv_bipush (v := 63) C.x C.b dJ6_bitCount_0f7a4_49 (by decide) ?_
  refine lv_iand C.x C.b dJ6_bitCount_0f7a4_51 ?_
  obtain ⟨rfl, rfl⟩ := pr_s hf
  exact z_iret C Z dJ6_bitCount_0f7a4_52
theorem dX6_cheapestSet_0 : decode cX6_cheapestSet 0 = .ok (.bipush (-5), 2) := by decide +kernel
theorem dX6_cheapestSet_2 : decode cX6_cheapestSet 2 = .ok (.istore_n 1, 1) := by decide +kernel
theorem dX6_cheapestSet_3 : decode cX6_cheapestSet 3 = .ok (.iconst 0, 1) := by decide +kernel
theorem dX6_cheapestSet_4 : decode cX6_cheapestSet 4 = .ok (.istore_n 2, 1) := by decide +kernel
theorem dX6_cheapestSet_5 : decode cX6_cheapestSet 5 = .ok (.iconst 0, 1) := by decide +kernel
theorem dX6_cheapestSet_6 : decode cX6_cheapestSet 6 = .ok (.istore_n 3, 1) := by decide +kernel
theorem dX6_cheapestSet_7 : decode cX6_cheapestSet 7 = .ok (.iload_n 3, 1) := by decide +kernel
theorem dX6_cheapestSet_8 : decode cX6_cheapestSet 8 = .ok (.iconst 1, 1) := by decide +kernel
theorem dX6_cheapestSet_9 : decode cX6_cheapestSet 9 = .ok (.aload_n 0, 1) := by decide +kernel
theorem dX6_cheapestSet_10 : decode cX6_cheapestSet 10 = .ok (.getfield 40, 3) := by decide +kernel
theorem dX6_cheapestSet_13 : decode cX6_cheapestSet 13 = .ok (.ishl, 1) := by decide +kernel
theorem dX6_cheapestSet_14 : decode cX6_cheapestSet 14 = .ok (.if_icmp .ge 70, 3) := by decide +kernel
theorem dX6_cheapestSet_17 : decode cX6_cheapestSet 17 = .ok (.aload_n 0, 1) := by decide +kernel
theorem dX6_cheapestSet_18 : decode cX6_cheapestSet 18 = .ok (.iload_n 3, 1) := by decide +kernel
theorem dX6_cheapestSet_19 : decode cX6_cheapestSet 19 = .ok (.invokevirtual 51, 3) := by decide +kernel
theorem dX6_cheapestSet_22 : decode cX6_cheapestSet 22 = .ok (.istore 4, 2) := by decide +kernel
theorem dX6_cheapestSet_24 : decode cX6_cheapestSet 24 = .ok (.iload_n 1, 1) := by decide +kernel
theorem dX6_cheapestSet_25 : decode cX6_cheapestSet 25 = .ok (.bipush (-5), 2) := by decide +kernel
theorem dX6_cheapestSet_27 : decode cX6_cheapestSet 27 = .ok (.if_icmp .eq 26, 3) := by decide +kernel
theorem dX6_cheapestSet_30 : decode cX6_cheapestSet 30 = .ok (.iload 4, 2) := by decide +kernel
theorem dX6_cheapestSet_32 : decode cX6_cheapestSet 32 = .ok (.iload_n 2, 1) := by decide +kernel
theorem dX6_cheapestSet_33 : decode cX6_cheapestSet 33 = .ok (.if_icmp .lt 20, 3) := by decide +kernel
theorem dX6_cheapestSet_36 : decode cX6_cheapestSet 36 = .ok (.iload 4, 2) := by decide +kernel
theorem dX6_cheapestSet_38 : decode cX6_cheapestSet 38 = .ok (.iload_n 2, 1) := by decide +kernel
theorem dX6_cheapestSet_39 : decode cX6_cheapestSet 39 = .ok (.if_icmp .ne 18, 3) := by decide +kernel
theorem dX6_cheapestSet_42 : decode cX6_cheapestSet 42 = .ok (.iload_n 3, 1) := by decide +kernel
theorem dX6_cheapestSet_43 : decode cX6_cheapestSet 43 = .ok (.invokestatic 55, 3) := by decide +kernel
theorem dX6_cheapestSet_46 : decode cX6_cheapestSet 46 = .ok (.iload_n 1, 1) := by decide +kernel
theorem dX6_cheapestSet_47 : decode cX6_cheapestSet 47 = .ok (.invokestatic 55, 3) := by decide +kernel
theorem dX6_cheapestSet_50 : decode cX6_cheapestSet 50 = .ok (.if_icmp .ge 7, 3) := by decide +kernel
theorem dX6_cheapestSet_53 : decode cX6_cheapestSet 53 = .ok (.iconst 1, 1) := by decide +kernel
theorem dX6_cheapestSet_54 : decode cX6_cheapestSet 54 = .ok (.goto 4, 3) := by decide +kernel
theorem dX6_cheapestSet_57 : decode cX6_cheapestSet 57 = .ok (.iconst 0, 1) := by decide +kernel
theorem dX6_cheapestSet_58 : decode cX6_cheapestSet 58 = .ok (.istore 5, 2) := by decide +kernel
theorem dX6_cheapestSet_60 : decode cX6_cheapestSet 60 = .ok (.iload 5, 2) := by decide +kernel
theorem dX6_cheapestSet_62 : decode cX6_cheapestSet 62 = .ok (.ifCond .eq 16, 3) := by decide +kernel
theorem dX6_cheapestSet_65 : decode cX6_cheapestSet 65 = .ok (.aload_n 0, 1) := by decide +kernel
theorem dX6_cheapestSet_66 : decode cX6_cheapestSet 66 = .ok (.iload_n 3, 1) := by decide +kernel
theorem dX6_cheapestSet_67 : decode cX6_cheapestSet 67 = .ok (.invokevirtual 60, 3) := by decide +kernel
theorem dX6_cheapestSet_70 : decode cX6_cheapestSet 70 = .ok (.ifCond .ge 8, 3) := by decide +kernel
theorem dX6_cheapestSet_73 : decode cX6_cheapestSet 73 = .ok (.iload_n 3, 1) := by decide +kernel
theorem dX6_cheapestSet_74 : decode cX6_cheapestSet 74 = .ok (.istore_n 1, 1) := by decide +kernel
theorem dX6_cheapestSet_75 : decode cX6_cheapestSet 75 = .ok (.iload 4, 2) := by decide +kernel
theorem dX6_cheapestSet_77 : decode cX6_cheapestSet 77 = .ok (.istore_n 2, 1) := by decide +kernel
theorem dX6_cheapestSet_78 : decode cX6_cheapestSet 78 = .ok (.iinc 3 1, 3) := by decide +kernel
theorem dX6_cheapestSet_81 : decode cX6_cheapestSet 81 = .ok (.goto (-74), 3) := by decide +kernel
theorem dX6_cheapestSet_84 : decode cX6_cheapestSet 84 = .ok (.iload_n 1, 1) := by decide +kernel
theorem dX6_cheapestSet_85 : decode cX6_cheapestSet 85 = .ok (.ireturn, 1) := by decide +kernel
set_option maxRecDepth 100000 in
set_option maxHeartbeats 4000000 in
theorem w_X6_cheapestSet_l7 {p : Program} {l : Launch} {e : Env} {R : Room} {s : State} {m : MethodId} {args : Array Value} {below : List Frame} {meth : Method} {c : Code} {cells slots : Nat} {Q : State → Prop} {K : KG} {ad : Nat → Nat → Nat} {fl : Nat} (C : Cx p s m args meth c cX6_cheapestSet 6 "GlassPalace$Plan" (some .int)) (hR : 3 ≤ R.frames ∧ 40 * (3) ≤ R.locals) (hB : cells ≤ R.cells ∧ slots ≤ R.slots) : ∀ (n : Nat) (u1 : Int32) (u2 : Int32) (u3 : Int32) (M0 : Mem) (H : Heap) (locs : List Loc) (ls : Array Slot), Zd K LC ad M0 s H locs → lv_has ls 6 [(0, .ref (ad 9 0)), (1, .int u1), (2, .int u2), (3, .int u3)] → ∀ (q : Int32) (Mq : Mem), f_X6_cheapestSet_l7 fl  n u1 u2 u3 M0 = some (q, Mq) → (∀ (H : Heap) (locs : List Loc) (ls : Array Slot), Zd K LC ad Mq s H locs → lv_has ls 6 [(1, .int q)] → W p l e R s m args below meth c H locs cells slots Q (F0 m 84 ls [])) → W p l e R s m args below meth c H locs cells slots Q (F0 m 7 ls []) := by
  intro n
  induction n with
  | zero =>
    intro u1 u2 u3 M0 H locs ls Z hl q Mq hf
    have hf : (none : Option (Int32 × Mem)) = some (q, Mq) := hf
    cases hf
  | succ n ih =>
    intro u1 u2 u3 M0 H locs ls Z hl q Mq hf kx0
    replace hf : f_X6_cheapestSet_l7_b (f_X6_cheapestSet_l7 fl  n) fl  u1 u2 u3 M0 = some (q, Mq) := hf
    unfold f_X6_cheapestSet_l7_b at hf
    refine lv_iload_n C.x C.b dX6_cheapestSet_7 rfl (lv_at hl 3 rfl) ?_
    refine lv_iconst (v := 1) C.x C.b dX6_cheapestSet_8 (by decide) ?_
    refine lv_aload_n C.x C.b dX6_cheapestSet_9 rfl (lv_at hl 0 rfl) ?_
    refine z_get C Z (lvC9 Nat.zero_lt_one) kC9 zc6 zin6 1 (by decide) k_236 rfl svC9_1 dX6_cheapestSet_10 ?_
    refine z_ishl C dX6_cheapestSet_13 ?_
    refine lv_icmp_ge (tgt := 84) C.x C.b dX6_cheapestSet_14 (by decide) (fun hc1 => ?_) (fun hc1 => ?_)
    · replace hf := ite_t hf hc1
      obtain ⟨rfl, rfl⟩ := pr_s hf
      exact kx0 _ _ _ Z (lv_sub hl [1] rfl)
    · replace hf := ite_f hf hc1
      refine lv_aload_n C.x C.b dX6_cheapestSet_17 rfl (lv_at hl 0 rfl) ?_
      refine lv_iload_n C.x C.b dX6_cheapestSet_18 rfl (lv_at hl 3 rfl) ?_
      replace hf := bn2_s hf; obtain ⟨v3, m2, hkm2, hf⟩ := hf
      refine z_cV (As := [.int u3]) (rest := []) (st1 := [.int v3]) C Z mw_X6_coinOf mv_X6_coinOf k_1010 (by decide) (z_hR hR (by decide)) (lvC9 Nat.zero_lt_one) kC9 zc6 (c_X6_coinOf (l := l) (K := K) (ad := ad) hkm2) rfl hl.1 rfl (Nat.le_of_ble_eq_true rfl) dX6_cheapestSet_19 hB rfl (fun H locs Z => ?_)
      refine z_istore (lv' := [(4, .int v3), (0, .ref (ad 9 0)), (1, .int u1), (2, .int u2), (3, .int u3)]) C dX6_cheapestSet_22 hl (by decide) rfl (onlast 3 rfl rfl rfl) (fun ls hl => ?_)
      refine lv_iload_n C.x C.b dX6_cheapestSet_24 rfl (lv_at hl 2 rfl) ?_
      refine lv_bipush (v := (-5)) C.x C.b dX6_cheapestSet_25 (by decide) ?_
      replace hf := bn2_s hf; obtain ⟨q4, m5, hq4, hf⟩ := hf
      have kq4 : ∀ (H : Heap) (locs : List Loc) (ls : Array Slot), Zd K LC ad m5 s H locs → lv_has ls 6 [(0, .ref (ad 9 0)), (1, .int u1), (2, .int u2), (3, .int u3), (4, .int v3)] → W p l e R s m args below meth c H locs cells slots Q (F0 m 58 ls [.int q4]) := by
        intro H locs ls Z hl
        refine z_istore (lv' := [(5, .int q4), (0, .ref (ad 9 0)), (1, .int u1), (2, .int u2), (3, .int u3), (4, .int v3)]) C dX6_cheapestSet_58 hl (by decide) rfl (onlast 4 rfl rfl rfl) (fun ls hl => ?_)
        refine lv_iload C.x C.b dX6_cheapestSet_60 (lv_at hl 0 rfl) ?_
        refine lv_if_eq (tgt := 78) C.x C.b dX6_cheapestSet_62 (by decide) (fun hc6 => ?_) (fun hc6 => ?_)
        · replace hf := ite_t hf hc6
          replace hf := lt1_s hf; obtain ⟨x7, ex7, hf⟩ := hf
          refine z_iinc (v := x7) (lv' := [(3, .int x7), (5, .int q4), (0, .ref (ad 9 0)), (1, .int u1), (2, .int u2), (4, .int v3)]) C dX6_cheapestSet_78 hl (k := 4) rfl (by rw [ex7]; rfl) (by decide) rfl (onlast 3 rfl rfl rfl) (fun ls hl => ?_)
          refine lv_goto (tgt := 7) C.x C.b dX6_cheapestSet_81 (by decide) ?_
          exact ih _ _ _ _ _ _ _ Z (lv_sub hl [2, 3, 4, 0] rfl) _ _ hf kx0
        · replace hf := ite_f hf hc6
          refine lv_aload_n C.x C.b dX6_cheapestSet_65 rfl (lv_at hl 1 rfl) ?_
          refine lv_iload_n C.x C.b dX6_cheapestSet_66 rfl (lv_at hl 4 rfl) ?_
          replace hf := bn2_s hf; obtain ⟨v9, m8, hkm8, hf⟩ := hf
          refine z_cV (As := [.int u3]) (rest := []) (st1 := [.int v9]) C Z mw_X6_firstLack mv_X6_firstLack k_1020 (by decide) (z_hR hR (by decide)) (lvC9 Nat.zero_lt_one) kC9 zc6 (c_X6_firstLack (l := l) (K := K) (ad := ad) hkm8) rfl hl.1 rfl (Nat.le_of_ble_eq_true rfl) dX6_cheapestSet_67 hB rfl (fun H locs Z => ?_)
          refine lv_if_ge (tgt := 78) C.x C.b dX6_cheapestSet_70 (by decide) (fun hc10 => ?_) (fun hc10 => ?_)
          · replace hf := ite_t hf hc10
            replace hf := lt1_s hf; obtain ⟨x11, ex11, hf⟩ := hf
            refine z_iinc (v := x11) (lv' := [(3, .int x11), (5, .int q4), (0, .ref (ad 9 0)), (1, .int u1), (2, .int u2), (4, .int v3)]) C dX6_cheapestSet_78 hl (k := 4) rfl (by rw [ex11]; rfl) (by decide) rfl (onlast 3 rfl rfl rfl) (fun ls hl => ?_)
            refine lv_goto (tgt := 7) C.x C.b dX6_cheapestSet_81 (by decide) ?_
            exact ih _ _ _ _ _ _ _ Z (lv_sub hl [2, 3, 4, 0] rfl) _ _ hf kx0
          · replace hf := ite_f hf hc10
            refine lv_iload_n C.x C.b dX6_cheapestSet_73 rfl (lv_at hl 4 rfl) ?_
            refine z_istore_n (lv' := [(1, .int u3), (5, .int q4), (0, .ref (ad 9 0)), (2, .int u2), (3, .int u3), (4, .int v3)]) C dX6_cheapestSet_74 rfl hl (by decide) rfl (onlast 1 rfl rfl rfl) (fun ls hl => ?_)
            refine lv_iload C.x C.b dX6_cheapestSet_75 (lv_at hl 5 rfl) ?_
            refine z_istore_n (lv' := [(2, .int v3), (1, .int u3), (5, .int q4), (0, .ref (ad 9 0)), (3, .int u3), (4, .int v3)]) C dX6_cheapestSet_77 rfl hl (by decide) rfl (onlast 0 rfl rfl rfl) (fun ls hl => ?_)
            replace hf := lt1_s hf; obtain ⟨x12, ex12, hf⟩ := hf
            refine z_iinc (v := x12) (lv' := [(3, .int x12), (2, .int v3), (1, .int u3), (5, .int q4), (0, .ref (ad 9 0)), (4, .int v3)]) C dX6_cheapestSet_78 hl (k := 4) rfl (by rw [ex12]; rfl) (by decide) rfl (onlast 0 rfl rfl rfl) (fun ls hl => ?_)
            refine lv_goto (tgt := 7) C.x C.b dX6_cheapestSet_81 (by decide) ?_
            exact ih _ _ _ _ _ _ _ Z (lv_sub hl [4, 2, 1, 0] rfl) _ _ hf kx0
      clear hf
      refine lv_icmp_eq (tgt := 53) C.x C.b dX6_cheapestSet_27 (by decide) (fun hc13 => ?_) (fun hc13 => ?_)
      · have hf := ite_t hq4 hc13; clear hq4
        refine lv_iconst (v := 1) C.x C.b dX6_cheapestSet_53 (by decide) ?_
        refine lv_goto (tgt := 58) C.x C.b dX6_cheapestSet_54 (by decide) ?_
        obtain ⟨rfl, rfl⟩ := pr_s hf
        exact kq4 _ _ _ Z (lv_sub hl [1, 2, 3, 4, 0] rfl)
      · have hf := ite_f hq4 hc13; clear hq4
        refine lv_iload C.x C.b dX6_cheapestSet_30 (lv_at hl 0 rfl) ?_
        refine lv_iload_n C.x C.b dX6_cheapestSet_32 rfl (lv_at hl 3 rfl) ?_
        refine lv_icmp_lt (tgt := 53) C.x C.b dX6_cheapestSet_33 (by decide) (fun hc14 => ?_) (fun hc14 => ?_)
        · replace hf := ite_t hf hc14
          refine lv_iconst (v := 1) C.x C.b dX6_cheapestSet_53 (by decide) ?_
          refine lv_goto (tgt := 58) C.x C.b dX6_cheapestSet_54 (by decide) ?_
          obtain ⟨rfl, rfl⟩ := pr_s hf
          exact kq4 _ _ _ Z (lv_sub hl [1, 2, 3, 4, 0] rfl)
        · replace hf := ite_f hf hc14
          refine lv_iload C.x C.b dX6_cheapestSet_36 (lv_at hl 0 rfl) ?_
          refine lv_iload_n C.x C.b dX6_cheapestSet_38 rfl (lv_at hl 3 rfl) ?_
          refine lv_icmp_ne (tgt := 57) C.x C.b dX6_cheapestSet_39 (by decide) (fun hc15 => ?_) (fun hc15 => ?_)
          · replace hf := ite_f hf hc15
            refine lv_iconst (v := 0) C.x C.b dX6_cheapestSet_57 (by decide) ?_
            obtain ⟨rfl, rfl⟩ := pr_s hf
            exact kq4 _ _ _ Z (lv_sub hl [1, 2, 3, 4, 0] rfl)
          · replace hf := ite_t hf hc15
            refine lv_iload_n C.x C.b dX6_cheapestSet_42 rfl (lv_at hl 4 rfl) ?_
            replace hf := bn2_s hf; obtain ⟨v17, m16, hkm16, hf⟩ := hf
            refine z_cS (As := [.int u3]) (rest := []) (st1 := [.int v17]) C Z mw_J6_bitCount_0f7a4 mv_J6_bitCount_0f7a4 k_1014 (by decide) (z_hR hR (by decide)) (c_J6_bitCount_0f7a4 (l := l) (K := K) (ad := ad) hkm16) rfl hl.1 rfl (Nat.le_of_ble_eq_true rfl) dX6_cheapestSet_43 hB rfl (fun H locs Z => ?_)
            refine lv_iload_n C.x C.b dX6_cheapestSet_46 rfl (lv_at hl 2 rfl) ?_
            replace hf := bn2_s hf; obtain ⟨v19, m18, hkm18, hf⟩ := hf
            refine z_cS (As := [.int u1]) (rest := [.int v17]) (st1 := [.int v19, .int v17]) C Z mw_J6_bitCount_0f7a4 mv_J6_bitCount_0f7a4 k_1014 (by decide) (z_hR hR (by decide)) (c_J6_bitCount_0f7a4 (l := l) (K := K) (ad := ad) hkm18) rfl hl.1 rfl (Nat.le_of_ble_eq_true rfl) dX6_cheapestSet_47 hB rfl (fun H locs Z => ?_)
            refine lv_icmp_ge (tgt := 57) C.x C.b dX6_cheapestSet_50 (by decide) (fun hc20 => ?_) (fun hc20 => ?_)
            · replace hf := ite_t hf hc20
              refine lv_iconst (v := 0) C.x C.b dX6_cheapestSet_57 (by decide) ?_
              obtain ⟨rfl, rfl⟩ := pr_s hf
              exact kq4 _ _ _ Z (lv_sub hl [1, 2, 3, 4, 0] rfl)
            · replace hf := ite_f hf hc20
              refine lv_iconst (v := 1) C.x C.b dX6_cheapestSet_53 (by decide) ?_
              refine lv_goto (tgt := 58) C.x C.b dX6_cheapestSet_54 (by decide) ?_
              obtain ⟨rfl, rfl⟩ := pr_s hf
              exact kq4 _ _ _ Z (lv_sub hl [1, 2, 3, 4, 0] rfl)
set_option maxRecDepth 100000 in
set_option maxHeartbeats 4000000 in
theorem c_X6_cheapestSet {l : Launch} {K : KG} {ad : Nat → Nat → Nat} {fl : Nat}  {M0 : Mem} {r9 : Int32} {M9 : Mem} (hf : f_X6_cheapestSet fl  M0 = some (r9, M9)) : Met l yX6_cheapestSet (Cond.code yX6_cheapestSet cX6_cheapestSet 6 (some .int) :: ztb) (RM (3) 0 0) (zPc K LC ad M0 [.ref (ad 9 0)]) (zQ K LC ad (some (.int r9)) M9) 0 0 (zA ad) := by
  refine z_enter (by decide) (Nat.le_of_ble_eq_true rfl) ?_
  intro p e s m args below meth c ls C hin hargs Z hl
  replace C : Cx p s m args meth c cX6_cheapestSet 6 "GlassPalace$Plan" (some .int) := C
  replace hl : lv_has ls 6 [(0, .ref (ad 9 0))] := hl
  have hR : 3 ≤ (RM (3) 0 0).frames ∧ 40 * (3) ≤ (RM (3) 0 0).locals := ⟨Nat.le_refl _, Nat.le_refl _⟩
  have hB : 0 ≤ (RM (3) 0 0).cells ∧ 0 ≤ (RM (3) 0 0).slots := ⟨Nat.zero_le _, Nat.zero_le _⟩
  unfold f_X6_cheapestSet at hf
  refine lv_bipush (v := (-5)) C.x C.b dX6_cheapestSet_0 (by decide) ?_
  refine z_istore_n (lv' := [(1, .int (-5)), (0, .ref (ad 9 0))]) C dX6_cheapestSet_2 rfl hl (by decide) rfl (onlast 0 rfl rfl rfl) (fun ls hl => ?_)
  refine lv_iconst (v := 0) C.x C.b dX6_cheapestSet_3 (by decide) ?_
  refine z_istore_n (lv' := [(2, .int 0), (1, .int (-5)), (0, .ref (ad 9 0))]) C dX6_cheapestSet_4 rfl hl (by decide) rfl (onlast 0 rfl rfl rfl) (fun ls hl => ?_)
  refine lv_iconst (v := 0) C.x C.b dX6_cheapestSet_5 (by decide) ?_
  refine z_istore_n (lv' := [(3, .int 0), (2, .int 0), (1, .int (-5)), (0, .ref (ad 9 0))]) C dX6_cheapestSet_6 rfl hl (by decide) rfl (onlast 0 rfl rfl rfl) (fun ls hl => ?_)
  replace hf := bn2_s hf; obtain ⟨q21, m22, hq21, hf⟩ := hf
  refine w_X6_cheapestSet_l7 C hR hB  fl _ _ _ _ _ _ _ Z (lv_sub hl [3, 2, 1, 0] rfl) _ _ hq21 (fun H locs ls Z hl => ?_)
  refine lv_iload_n C.x C.b dX6_cheapestSet_84 rfl (lv_at hl 0 rfl) ?_
  obtain ⟨rfl, rfl⟩ := pr_s hf
  exact z_iret C Z dX6_cheapestSet_85
theorem dX7_append_0 : decode cX7_append 0 = .ok (.aload_n 0, 1) := by decide +kernel
theorem dX7_append_1 : decode cX7_append 1 = .ok (.getfield 15, 3) := by decide +kernel
theorem dX7_append_4 : decode cX7_append 4 = .ok (.ifCond .lt 32, 3) := by decide +kernel
theorem dX7_append_7 : decode cX7_append 7 = .ok (.aload_n 0, 1) := by decide +kernel
theorem dX7_append_8 : decode cX7_append 8 = .ok (.getfield 15, 3) := by decide +kernel
theorem dX7_append_11 : decode cX7_append 11 = .ok (.bipush 100, 2) := by decide +kernel
theorem dX7_append_13 : decode cX7_append 13 = .ok (.if_icmp .ge 23, 3) := by decide +kernel
theorem dX7_append_16 : decode cX7_append 16 = .ok (.aload_n 0, 1) := by decide +kernel
theorem dX7_append_17 : decode cX7_append 17 = .ok (.getfield 9, 3) := by decide +kernel
theorem dX7_append_20 : decode cX7_append 20 = .ok (.aload_n 0, 1) := by decide +kernel
theorem dX7_append_21 : decode cX7_append 21 = .ok (.getfield 15, 3) := by decide +kernel
theorem dX7_append_24 : decode cX7_append 24 = .ok (.iload_n 1, 1) := by decide +kernel
theorem dX7_append_25 : decode cX7_append 25 = .ok (.iastore, 1) := by decide +kernel
theorem dX7_append_26 : decode cX7_append 26 = .ok (.aload_n 0, 1) := by decide +kernel
theorem dX7_append_27 : decode cX7_append 27 = .ok (.dup, 1) := by decide +kernel
theorem dX7_append_28 : decode cX7_append 28 = .ok (.getfield 15, 3) := by decide +kernel
theorem dX7_append_31 : decode cX7_append 31 = .ok (.iconst 1, 1) := by decide +kernel
theorem dX7_append_32 : decode cX7_append 32 = .ok (.iadd, 1) := by decide +kernel
theorem dX7_append_33 : decode cX7_append 33 = .ok (.putfield 15, 3) := by decide +kernel
theorem dX7_append_36 : decode cX7_append 36 = .ok (.return_, 1) := by decide +kernel
set_option maxRecDepth 100000 in
set_option maxHeartbeats 4000000 in
theorem c_X7_append {l : Launch} {K : KG} {ad : Nat → Nat → Nat} {fl : Nat} {a1 : Int32} {M0 : Mem} {M9 : Mem} (hf : f_X7_append fl a1 M0 = some M9) : Met l yX7_append (Cond.code yX7_append cX7_append 2 none :: ztb) (RM (1) 0 0) (zPc K LC ad M0 [.ref (ad 5 0), .int a1]) (zQ K LC ad (none) M9) 0 0 (zA ad) := by
  refine z_enter (by decide) (Nat.le_of_ble_eq_true rfl) ?_
  intro p e s m args below meth c ls C hin hargs Z hl
  replace C : Cx p s m args meth c cX7_append 2 "GlassPalace$Script" none := C
  replace hl : lv_has ls 2 [(0, .ref (ad 5 0)), (1, .int a1)] := hl
  have hR : 1 ≤ (RM (1) 0 0).frames ∧ 40 * (1) ≤ (RM (1) 0 0).locals := ⟨Nat.le_refl _, Nat.le_refl _⟩
  have hB : 0 ≤ (RM (1) 0 0).cells ∧ 0 ≤ (RM (1) 0 0).slots := ⟨Nat.zero_le _, Nat.zero_le _⟩
  unfold f_X7_append at hf
  refine lv_aload_n C.x C.b dX7_append_0 rfl (lv_at hl 0 rfl) ?_
  refine z_get C Z (lvC5 Nat.zero_lt_one) kC5 zc7 zin7 0 (by decide) k_141 rfl svC5_0 dX7_append_1 ?_
  refine lv_if_lt (tgt := 36) C.x C.b dX7_append_4 (by decide) (fun hc1 => ?_) (fun hc1 => ?_)
  · replace hf := ite_t hf hc1
    obtain rfl := sm_s hf
    exact z_vret C Z dX7_append_36
  · replace hf := ite_f hf hc1
    refine lv_aload_n C.x C.b dX7_append_7 rfl (lv_at hl 0 rfl) ?_
    refine z_get C Z (lvC5 Nat.zero_lt_one) kC5 zc7 zin7 0 (by decide) k_141 rfl svC5_0 dX7_append_8 ?_
    refine lv_bipush (v := 100) C.x C.b dX7_append_11 (by decide) ?_
    refine lv_icmp_ge (tgt := 36) C.x C.b dX7_append_13 (by decide) (fun hc2 => ?_) (fun hc2 => ?_)
    · replace hf := ite_t hf hc2
      obtain rfl := sm_s hf
      exact z_vret C Z dX7_append_36
    · replace hf := ite_f hf hc2
      refine lv_aload_n C.x C.b dX7_append_16 rfl (lv_at hl 0 rfl) ?_
      refine z_get C Z (lvC5 Nat.zero_lt_one) kC5 zc7 zin7 1 (by decide) k_143 rfl svC5_1 dX7_append_17 ?_
      refine lv_aload_n C.x C.b dX7_append_20 rfl (lv_at hl 0 rfl) ?_
      refine z_get C Z (lvC5 Nat.zero_lt_one) kC5 zc7 zin7 0 (by decide) k_141 rfl svC5_0 dX7_append_21 ?_
      refine lv_iload_n C.x C.b dX7_append_24 rfl (lv_at hl 1 rfl) ?_
      replace hf := asr_s hf; obtain ⟨hq3, hf⟩ := hf
      replace hf := lt1_s hf; obtain ⟨m4, em4, hf⟩ := hf
      refine z_iast (M1 := m4) C Z (lvC16 Nat.zero_lt_one) (by decide) kC16 hq3 em4 stC16u dX7_append_25 (fun H locs Z => ?_)
      refine lv_aload_n C.x C.b dX7_append_26 rfl (lv_at hl 0 rfl) ?_
      refine lv_dup C.x C.b dX7_append_27 rfl ?_
      refine z_get C Z (lvC5 Nat.zero_lt_one) kC5 zc7 zin7 0 (by decide) k_141 rfl svC5_0 dX7_append_28 ?_
      refine lv_iconst (v := 1) C.x C.b dX7_append_31 (by decide) ?_
      refine lv_iadd C.x C.b dX7_append_32 ?_
      replace hf := lt1_s hf; obtain ⟨m5, em5, hf⟩ := hf
      refine z_put (M1 := m5) C Z (lvC5 Nat.zero_lt_one) (by decide) kC5 zc7 zin7 tyX7_ok nmX7 0 (by decide) k_141 rfl (zUp_I em5 stC5_0u) (Or.inl rfl) rfl rfl dX7_append_33 (fun H locs Z => ?_)
      obtain rfl := sm_s hf
      exact z_vret C Z dX7_append_36
theorem dX9_empty_0 : decode cX9_empty 0 = .ok (.aload_n 0, 1) := by decide +kernel
theorem dX9_empty_1 : decode cX9_empty 1 = .ok (.iconst 0, 1) := by decide +kernel
theorem dX9_empty_2 : decode cX9_empty 2 = .ok (.putfield 21, 3) := by decide +kernel
theorem dX9_empty_5 : decode cX9_empty 5 = .ok (.aload_n 0, 1) := by decide +kernel
theorem dX9_empty_6 : decode cX9_empty 6 = .ok (.iconst 0, 1) := by decide +kernel
theorem dX9_empty_7 : decode cX9_empty 7 = .ok (.putfield 25, 3) := by decide +kernel
theorem dX9_empty_10 : decode cX9_empty 10 = .ok (.return_, 1) := by decide +kernel
set_option maxRecDepth 100000 in
set_option maxHeartbeats 4000000 in
theorem c_X9_empty {l : Launch} {K : KG} {ad : Nat → Nat → Nat} {fl : Nat} {o : Nat} {M0 : Mem} {M9 : Mem} (ho : o < 10) (hf : f_X9_empty fl o M0 = some M9) : Met l yX9_empty (Cond.code yX9_empty cX9_empty 1 none :: ztb) (RM (1) 0 0) (zPc K LC ad M0 [.ref (ad 19 o)]) (zQ K LC ad (none) M9) 0 0 (zA ad) := by
  refine z_enter (by decide) (Nat.le_of_ble_eq_true rfl) ?_
  intro p e s m args below meth c ls C hin hargs Z hl
  replace C : Cx p s m args meth c cX9_empty 1 "GlassPalace$Text" none := C
  replace hl : lv_has ls 1 [(0, .ref (ad 19 o))] := hl
  have hR : 1 ≤ (RM (1) 0 0).frames ∧ 40 * (1) ≤ (RM (1) 0 0).locals := ⟨Nat.le_refl _, Nat.le_refl _⟩
  have hB : 0 ≤ (RM (1) 0 0).cells ∧ 0 ≤ (RM (1) 0 0).slots := ⟨Nat.zero_le _, Nat.zero_le _⟩
  unfold f_X9_empty at hf
  refine lv_aload_n C.x C.b dX9_empty_0 rfl (lv_at hl 0 rfl) ?_
  refine lv_iconst (v := 0) C.x C.b dX9_empty_1 (by decide) ?_
  replace hf := lt1_s hf; obtain ⟨m1, em1, hf⟩ := hf
  refine z_put (M1 := m1) C Z (lvC19 ho) (by decide) kC19 zc9 zin9 tyX9_ok nmX9 2 (by decide) k_173 rfl (zUp_I em1 stC19_2u) (Or.inl rfl) rfl rfl dX9_empty_2 (fun H locs Z => ?_)
  refine lv_aload_n C.x C.b dX9_empty_5 rfl (lv_at hl 0 rfl) ?_
  refine lv_iconst (v := 0) C.x C.b dX9_empty_6 (by decide) ?_
  replace hf := lt1_s hf; obtain ⟨m2, em2, hf⟩ := hf
  refine z_put (M1 := m2) C Z (lvC19 ho) (by decide) kC19 zc9 zin9 tyX9_ok nmX9 1 (by decide) k_171 rfl (zUp_I em2 stC19_1u) (Or.inl rfl) rfl rfl dX9_empty_7 (fun H locs Z => ?_)
  obtain rfl := sm_s hf
  exact z_vret C Z dX9_empty_10
theorem dX7_bytesLike_0 : decode cX7_bytesLike 0 = .ok (.iconst 0, 1) := by decide +kernel
theorem dX7_bytesLike_1 : decode cX7_bytesLike 1 = .ok (.istore_n 3, 1) := by decide +kernel
theorem dX7_bytesLike_2 : decode cX7_bytesLike 2 = .ok (.iload_n 3, 1) := by decide +kernel
theorem dX7_bytesLike_3 : decode cX7_bytesLike 3 = .ok (.iload_n 2, 1) := by decide +kernel
theorem dX7_bytesLike_4 : decode cX7_bytesLike 4 = .ok (.if_icmp .ge 66, 3) := by decide +kernel
theorem dX7_bytesLike_7 : decode cX7_bytesLike 7 = .ok (.iload_n 1, 1) := by decide +kernel
theorem dX7_bytesLike_8 : decode cX7_bytesLike 8 = .ok (.iload_n 3, 1) := by decide +kernel
theorem dX7_bytesLike_9 : decode cX7_bytesLike 9 = .ok (.iadd, 1) := by decide +kernel
theorem dX7_bytesLike_10 : decode cX7_bytesLike 10 = .ok (.ldc 74, 2) := by decide +kernel
theorem dX7_bytesLike_12 : decode cX7_bytesLike 12 = .ok (.invokevirtual 76, 3) := by decide +kernel
theorem dX7_bytesLike_15 : decode cX7_bytesLike 15 = .ok (.if_icmp .ge 55, 3) := by decide +kernel
theorem dX7_bytesLike_18 : decode cX7_bytesLike 18 = .ok (.aload_n 0, 1) := by decide +kernel
theorem dX7_bytesLike_19 : decode cX7_bytesLike 19 = .ok (.getfield 19, 3) := by decide +kernel
theorem dX7_bytesLike_22 : decode cX7_bytesLike 22 = .ok (.iload_n 3, 1) := by decide +kernel
theorem dX7_bytesLike_23 : decode cX7_bytesLike 23 = .ok (.iadd, 1) := by decide +kernel
theorem dX7_bytesLike_24 : decode cX7_bytesLike 24 = .ok (.aload_n 0, 1) := by decide +kernel
theorem dX7_bytesLike_25 : decode cX7_bytesLike 25 = .ok (.getfield 15, 3) := by decide +kernel
theorem dX7_bytesLike_28 : decode cX7_bytesLike 28 = .ok (.if_icmp .ge 42, 3) := by decide +kernel
theorem dX7_bytesLike_31 : decode cX7_bytesLike 31 = .ok (.aload_n 0, 1) := by decide +kernel
theorem dX7_bytesLike_32 : decode cX7_bytesLike 32 = .ok (.getfield 19, 3) := by decide +kernel
theorem dX7_bytesLike_35 : decode cX7_bytesLike 35 = .ok (.iload_n 3, 1) := by decide +kernel
theorem dX7_bytesLike_36 : decode cX7_bytesLike 36 = .ok (.iadd, 1) := by decide +kernel
theorem dX7_bytesLike_37 : decode cX7_bytesLike 37 = .ok (.bipush 100, 2) := by decide +kernel
theorem dX7_bytesLike_39 : decode cX7_bytesLike 39 = .ok (.if_icmp .ge 31, 3) := by decide +kernel
theorem dX7_bytesLike_42 : decode cX7_bytesLike 42 = .ok (.aload_n 0, 1) := by decide +kernel
theorem dX7_bytesLike_43 : decode cX7_bytesLike 43 = .ok (.getfield 9, 3) := by decide +kernel
theorem dX7_bytesLike_46 : decode cX7_bytesLike 46 = .ok (.aload_n 0, 1) := by decide +kernel
theorem dX7_bytesLike_47 : decode cX7_bytesLike 47 = .ok (.getfield 19, 3) := by decide +kernel
theorem dX7_bytesLike_50 : decode cX7_bytesLike 50 = .ok (.iload_n 3, 1) := by decide +kernel
theorem dX7_bytesLike_51 : decode cX7_bytesLike 51 = .ok (.iadd, 1) := by decide +kernel
theorem dX7_bytesLike_52 : decode cX7_bytesLike 52 = .ok (.iaload, 1) := by decide +kernel
theorem dX7_bytesLike_53 : decode cX7_bytesLike 53 = .ok (.ldc 74, 2) := by decide +kernel
theorem dX7_bytesLike_55 : decode cX7_bytesLike 55 = .ok (.iload_n 1, 1) := by decide +kernel
theorem dX7_bytesLike_56 : decode cX7_bytesLike 56 = .ok (.iload_n 3, 1) := by decide +kernel
theorem dX7_bytesLike_57 : decode cX7_bytesLike 57 = .ok (.iadd, 1) := by decide +kernel
theorem dX7_bytesLike_58 : decode cX7_bytesLike 58 = .ok (.invokevirtual 80, 3) := by decide +kernel
theorem dX7_bytesLike_61 : decode cX7_bytesLike 61 = .ok (.if_icmp .ne 9, 3) := by decide +kernel
theorem dX7_bytesLike_64 : decode cX7_bytesLike 64 = .ok (.iinc 3 1, 3) := by decide +kernel
theorem dX7_bytesLike_67 : decode cX7_bytesLike 67 = .ok (.goto (-65), 3) := by decide +kernel
theorem dX7_bytesLike_70 : decode cX7_bytesLike 70 = .ok (.iload_n 3, 1) := by decide +kernel
theorem dX7_bytesLike_71 : decode cX7_bytesLike 71 = .ok (.ireturn, 1) := by decide +kernel
set_option maxRecDepth 100000 in
set_option maxHeartbeats 4000000 in
theorem w_X7_bytesLike_l2 {p : Program} {l : Launch} {e : Env} {R : Room} {s : State} {m : MethodId} {args : Array Value} {below : List Frame} {meth : Method} {c : Code} {cells slots : Nat} {Q : State → Prop} {K : KG} {ad : Nat → Nat → Nat} {fl : Nat} {g1 : Int32} {g2 : Int32} (C : Cx p s m args meth c cX7_bytesLike 4 "GlassPalace$Script" (some .int)) (hR : 6 ≤ R.frames ∧ 40 * (6) ≤ R.locals) (hB : cells ≤ R.cells ∧ slots ≤ R.slots) : ∀ (n : Nat) (u3 : Int32) (M0 : Mem) (H : Heap) (locs : List Loc) (ls : Array Slot), Zd K LC ad M0 s H locs → lv_has ls 4 [(0, .ref (ad 5 0)), (1, .int g1), (2, .int g2), (3, .int u3)] → ∀ (q : Int32) (Mq : Mem), f_X7_bytesLike_l2 fl g1 g2 n u3 M0 = some (q, Mq) → (∀ (H : Heap) (locs : List Loc) (ls : Array Slot), Zd K LC ad Mq s H locs → lv_has ls 4 [(3, .int q)] → W p l e R s m args below meth c H locs cells slots Q (F0 m 70 ls [])) → W p l e R s m args below meth c H locs cells slots Q (F0 m 2 ls []) := by
  intro n
  induction n with
  | zero =>
    intro u3 M0 H locs ls Z hl q Mq hf
    have hf : (none : Option (Int32 × Mem)) = some (q, Mq) := hf
    cases hf
  | succ n ih =>
    intro u3 M0 H locs ls Z hl q Mq hf kx0
    replace hf : f_X7_bytesLike_l2_b (f_X7_bytesLike_l2 fl g1 g2 n) fl g1 g2 u3 M0 = some (q, Mq) := hf
    unfold f_X7_bytesLike_l2_b at hf
    refine lv_iload_n C.x C.b dX7_bytesLike_2 rfl (lv_at hl 3 rfl) ?_
    refine lv_iload_n C.x C.b dX7_bytesLike_3 rfl (lv_at hl 2 rfl) ?_
    refine lv_icmp_ge (tgt := 70) C.x C.b dX7_bytesLike_4 (by decide) (fun hc1 => ?_) (fun hc1 => ?_)
    · replace hf := ite_t hf hc1
      obtain ⟨rfl, rfl⟩ := pr_s hf
      exact kx0 _ _ _ Z (lv_sub hl [3] rfl)
    · replace hf := ite_f hf hc1
      refine lv_iload_n C.x C.b dX7_bytesLike_7 rfl (lv_at hl 1 rfl) ?_
      refine lv_iload_n C.x C.b dX7_bytesLike_8 rfl (lv_at hl 3 rfl) ?_
      refine lv_iadd C.x C.b dX7_bytesLike_9 ?_
      refine va_ldcS C.x C.b C.o Z.2.2.2.2.2.1 dX7_bytesLike_10 ?_
      refine z_str (As := []) (rest := [.int (g1 + u3)]) (st1 := [.int 27, .int (g1 + u3)]) C Z mw_J0_length_8abf5 mv_J0_length_8abf5 k_715 (by decide) (z_hR hR (by decide)) rfl (c_J0_length_8abf5 (l := l) (K := K) (L := LC) (ad := ad) (M := M0)) rfl hl.1 rfl (Nat.le_of_ble_eq_true rfl) dX7_bytesLike_12 hB rfl (fun H locs Z => ?_)
      refine lv_icmp_ge (tgt := 70) C.x C.b dX7_bytesLike_15 (by decide) (fun hc2 => ?_) (fun hc2 => ?_)
      · replace hf := ite_t hf hc2
        obtain ⟨rfl, rfl⟩ := pr_s hf
        exact kx0 _ _ _ Z (lv_sub hl [3] rfl)
      · replace hf := ite_f hf hc2
        refine lv_aload_n C.x C.b dX7_bytesLike_18 rfl (lv_at hl 0 rfl) ?_
        refine z_get C Z (lvC5 Nat.zero_lt_one) kC5 zc7 zin7 2 (by decide) k_144 rfl svC5_2 dX7_bytesLike_19 ?_
        refine lv_iload_n C.x C.b dX7_bytesLike_22 rfl (lv_at hl 3 rfl) ?_
        refine lv_iadd C.x C.b dX7_bytesLike_23 ?_
        refine lv_aload_n C.x C.b dX7_bytesLike_24 rfl (lv_at hl 0 rfl) ?_
        refine z_get C Z (lvC5 Nat.zero_lt_one) kC5 zc7 zin7 0 (by decide) k_141 rfl svC5_0 dX7_bytesLike_25 ?_
        refine lv_icmp_ge (tgt := 70) C.x C.b dX7_bytesLike_28 (by decide) (fun hc3 => ?_) (fun hc3 => ?_)
        · replace hf := ite_t hf hc3
          obtain ⟨rfl, rfl⟩ := pr_s hf
          exact kx0 _ _ _ Z (lv_sub hl [3] rfl)
        · replace hf := ite_f hf hc3
          refine lv_aload_n C.x C.b dX7_bytesLike_31 rfl (lv_at hl 0 rfl) ?_
          refine z_get C Z (lvC5 Nat.zero_lt_one) kC5 zc7 zin7 2 (by decide) k_144 rfl svC5_2 dX7_bytesLike_32 ?_
          refine lv_iload_n C.x C.b dX7_bytesLike_35 rfl (lv_at hl 3 rfl) ?_
          refine lv_iadd C.x C.b dX7_bytesLike_36 ?_
          refine lv_bipush (v := 100) C.x C.b dX7_bytesLike_37 (by decide) ?_
          refine lv_icmp_ge (tgt := 70) C.x C.b dX7_bytesLike_39 (by decide) (fun hc4 => ?_) (fun hc4 => ?_)
          · replace hf := ite_t hf hc4
            obtain ⟨rfl, rfl⟩ := pr_s hf
            exact kx0 _ _ _ Z (lv_sub hl [3] rfl)
          · replace hf := ite_f hf hc4
            refine lv_aload_n C.x C.b dX7_bytesLike_42 rfl (lv_at hl 0 rfl) ?_
            refine z_get C Z (lvC5 Nat.zero_lt_one) kC5 zc7 zin7 1 (by decide) k_143 rfl svC5_1 dX7_bytesLike_43 ?_
            refine lv_aload_n C.x C.b dX7_bytesLike_46 rfl (lv_at hl 0 rfl) ?_
            refine z_get C Z (lvC5 Nat.zero_lt_one) kC5 zc7 zin7 2 (by decide) k_144 rfl svC5_2 dX7_bytesLike_47 ?_
            refine lv_iload_n C.x C.b dX7_bytesLike_50 rfl (lv_at hl 3 rfl) ?_
            refine lv_iadd C.x C.b dX7_bytesLike_51 ?_
            replace hf := asr_s hf; obtain ⟨hq5, hf⟩ := hf
            refine z_iald C Z (lvC16 Nat.zero_lt_one) kC16 hq5 svC16 dX7_bytesLike_52 ?_
            refine va_ldcS C.x C.b C.o Z.2.2.2.2.2.1 dX7_bytesLike_53 ?_
            refine lv_iload_n C.x C.b dX7_bytesLike_55 rfl (lv_at hl 1 rfl) ?_
            refine lv_iload_n C.x C.b dX7_bytesLike_56 rfl (lv_at hl 3 rfl) ?_
            refine lv_iadd C.x C.b dX7_bytesLike_57 ?_
            replace hf := asr_s hf; obtain ⟨hq6, hf⟩ := hf
            refine z_str (As := [.int (g1 + u3)]) (rest := [.int (gI M0 16 0 (Int32.toNatClampNeg ((gI M0 5 0 2) + u3)))]) (st1 := [.int (tSp (Int32.toNatClampNeg (g1 + u3))), .int (gI M0 16 0 (Int32.toNatClampNeg ((gI M0 5 0 2) + u3)))]) C Z mw_J0_charAt_5068e mv_J0_charAt_5068e k_725 (by decide) (z_hR hR (by decide)) rfl (c_J0_charAt_5068e (l := l) (K := K) (L := LC) (ad := ad) (M := M0) hq6 Z.2.2.2.2.2.2.2.2.2) rfl hl.1 rfl (Nat.le_of_ble_eq_true rfl) dX7_bytesLike_58 hB rfl (fun H locs Z => ?_)
            refine lv_icmp_ne (tgt := 70) C.x C.b dX7_bytesLike_61 (by decide) (fun hc7 => ?_) (fun hc7 => ?_)
            · replace hf := ite_f hf hc7
              obtain ⟨rfl, rfl⟩ := pr_s hf
              exact kx0 _ _ _ Z (lv_sub hl [3] rfl)
            · replace hf := ite_t hf hc7
              replace hf := lt1_s hf; obtain ⟨x8, ex8, hf⟩ := hf
              refine z_iinc (v := x8) (lv' := [(3, .int x8), (0, .ref (ad 5 0)), (1, .int g1), (2, .int g2)]) C dX7_bytesLike_64 hl (k := 3) rfl (by rw [ex8]; rfl) (by decide) rfl (onlast 2 rfl rfl rfl) (fun ls hl => ?_)
              refine lv_goto (tgt := 2) C.x C.b dX7_bytesLike_67 (by decide) ?_
              exact ih _ _ _ _ _ Z (lv_sub hl [1, 2, 3, 0] rfl) _ _ hf kx0
set_option maxRecDepth 100000 in
set_option maxHeartbeats 4000000 in
theorem c_X7_bytesLike {l : Launch} {K : KG} {ad : Nat → Nat → Nat} {fl : Nat} {a1 : Int32} {a2 : Int32} {M0 : Mem} {r9 : Int32} {M9 : Mem} (hf : f_X7_bytesLike fl a1 a2 M0 = some (r9, M9)) : Met l yX7_bytesLike (Cond.code yX7_bytesLike cX7_bytesLike 4 (some .int) :: ztb) (RM (6) 0 0) (zPc K LC ad M0 [.ref (ad 5 0), .int a1, .int a2]) (zQ K LC ad (some (.int r9)) M9) 0 0 (zA ad) := by
  refine z_enter (by decide) (Nat.le_of_ble_eq_true rfl) ?_
  intro p e s m args below meth c ls C hin hargs Z hl
  replace C : Cx p s m args meth c cX7_bytesLike 4 "GlassPalace$Script" (some .int) := C
  replace hl : lv_has ls 4 [(0, .ref (ad 5 0)), (1, .int a1), (2, .int a2)] := hl
  have hR : 6 ≤ (RM (6) 0 0).frames ∧ 40 * (6) ≤ (RM (6) 0 0).locals := ⟨Nat.le_refl _, Nat.le_refl _⟩
  have hB : 0 ≤ (RM (6) 0 0).cells ∧ 0 ≤ (RM (6) 0 0).slots := ⟨Nat.zero_le _, Nat.zero_le _⟩
  unfold f_X7_bytesLike at hf
  refine lv_iconst (v := 0) C.x C.b dX7_bytesLike_0 (by decide) ?_
  refine z_istore_n (lv' := [(3, .int 0), (0, .ref (ad 5 0)), (1, .int a1), (2, .int a2)]) C dX7_bytesLike_1 rfl hl (by decide) rfl (onlast 2 rfl rfl rfl) (fun ls hl => ?_)
  replace hf := bn2_s hf; obtain ⟨q9, m10, hq9, hf⟩ := hf
  refine w_X7_bytesLike_l2 C hR hB  fl _ _ _ _ _ Z (lv_sub hl [1, 2, 3, 0] rfl) _ _ hq9 (fun H locs ls Z hl => ?_)
  refine lv_iload_n C.x C.b dX7_bytesLike_70 rfl (lv_at hl 0 rfl) ?_
  obtain ⟨rfl, rfl⟩ := pr_s hf
  exact z_iret C Z dX7_bytesLike_71
theorem dX7_fail_0 : decode cX7_fail 0 = .ok (.aload_n 0, 1) := by decide +kernel
theorem dX7_fail_1 : decode cX7_fail 1 = .ok (.getfield 22, 3) := by decide +kernel
theorem dX7_fail_4 : decode cX7_fail 4 = .ok (.iconst (-1), 1) := by decide +kernel
theorem dX7_fail_5 : decode cX7_fail 5 = .ok (.if_icmp .ne 11, 3) := by decide +kernel
theorem dX7_fail_8 : decode cX7_fail 8 = .ok (.aload_n 0, 1) := by decide +kernel
theorem dX7_fail_9 : decode cX7_fail 9 = .ok (.aload_n 0, 1) := by decide +kernel
theorem dX7_fail_10 : decode cX7_fail 10 = .ok (.getfield 19, 3) := by decide +kernel
theorem dX7_fail_13 : decode cX7_fail 13 = .ok (.putfield 22, 3) := by decide +kernel
theorem dX7_fail_16 : decode cX7_fail 16 = .ok (.return_, 1) := by decide +kernel
set_option maxRecDepth 100000 in
set_option maxHeartbeats 4000000 in
theorem c_X7_fail {l : Launch} {K : KG} {ad : Nat → Nat → Nat} {fl : Nat}  {M0 : Mem} {M9 : Mem} (hf : f_X7_fail fl  M0 = some M9) : Met l yX7_fail (Cond.code yX7_fail cX7_fail 1 none :: ztb) (RM (1) 0 0) (zPc K LC ad M0 [.ref (ad 5 0)]) (zQ K LC ad (none) M9) 0 0 (zA ad) := by
  refine z_enter (by decide) (Nat.le_of_ble_eq_true rfl) ?_
  intro p e s m args below meth c ls C hin hargs Z hl
  replace C : Cx p s m args meth c cX7_fail 1 "GlassPalace$Script" none := C
  replace hl : lv_has ls 1 [(0, .ref (ad 5 0))] := hl
  have hR : 1 ≤ (RM (1) 0 0).frames ∧ 40 * (1) ≤ (RM (1) 0 0).locals := ⟨Nat.le_refl _, Nat.le_refl _⟩
  have hB : 0 ≤ (RM (1) 0 0).cells ∧ 0 ≤ (RM (1) 0 0).slots := ⟨Nat.zero_le _, Nat.zero_le _⟩
  unfold f_X7_fail at hf
  refine lv_aload_n C.x C.b dX7_fail_0 rfl (lv_at hl 0 rfl) ?_
  refine z_get C Z (lvC5 Nat.zero_lt_one) kC5 zc7 zin7 3 (by decide) k_145 rfl svC5_3 dX7_fail_1 ?_
  refine lv_iconst (v := (-1)) C.x C.b dX7_fail_4 (by decide) ?_
  refine lv_icmp_ne (tgt := 16) C.x C.b dX7_fail_5 (by decide) (fun hc1 => ?_) (fun hc1 => ?_)
  · replace hf := ite_f hf hc1
    obtain rfl := sm_s hf
    exact z_vret C Z dX7_fail_16
  · replace hf := ite_t hf hc1
    refine lv_aload_n C.x C.b dX7_fail_8 rfl (lv_at hl 0 rfl) ?_
    refine lv_aload_n C.x C.b dX7_fail_9 rfl (lv_at hl 0 rfl) ?_
    refine z_get C Z (lvC5 Nat.zero_lt_one) kC5 zc7 zin7 2 (by decide) k_144 rfl svC5_2 dX7_fail_10 ?_
    replace hf := lt1_s hf; obtain ⟨m2, em2, hf⟩ := hf
    refine z_put (M1 := m2) C Z (lvC5 Nat.zero_lt_one) (by decide) kC5 zc7 zin7 tyX7_ok nmX7 3 (by decide) k_145 rfl (zUp_I em2 stC5_3u) (Or.inl rfl) rfl rfl dX7_fail_13 (fun H locs Z => ?_)
    obtain rfl := sm_s hf
    exact z_vret C Z dX7_fail_16
theorem dX7_readWord_0 : decode cX7_readWord 0 = .ok (.iconst 0, 1) := by decide +kernel
theorem dX7_readWord_1 : decode cX7_readWord 1 = .ok (.istore_n 1, 1) := by decide +kernel
theorem dX7_readWord_2 : decode cX7_readWord 2 = .ok (.iconst 0, 1) := by decide +kernel
theorem dX7_readWord_3 : decode cX7_readWord 3 = .ok (.istore_n 2, 1) := by decide +kernel
theorem dX7_readWord_4 : decode cX7_readWord 4 = .ok (.iload_n 2, 1) := by decide +kernel
theorem dX7_readWord_5 : decode cX7_readWord 5 = .ok (.bipush 6, 2) := by decide +kernel
theorem dX7_readWord_7 : decode cX7_readWord 7 = .ok (.if_icmp .ge 60, 3) := by decide +kernel
theorem dX7_readWord_10 : decode cX7_readWord 10 = .ok (.getstatic 62, 3) := by decide +kernel
theorem dX7_readWord_13 : decode cX7_readWord 13 = .ok (.iload_n 2, 1) := by decide +kernel
theorem dX7_readWord_14 : decode cX7_readWord 14 = .ok (.iconst 1, 1) := by decide +kernel
theorem dX7_readWord_15 : decode cX7_readWord 15 = .ok (.iadd, 1) := by decide +kernel
theorem dX7_readWord_16 : decode cX7_readWord 16 = .ok (.iaload, 1) := by decide +kernel
theorem dX7_readWord_17 : decode cX7_readWord 17 = .ok (.getstatic 62, 3) := by decide +kernel
theorem dX7_readWord_20 : decode cX7_readWord 20 = .ok (.iload_n 2, 1) := by decide +kernel
theorem dX7_readWord_21 : decode cX7_readWord 21 = .ok (.iaload, 1) := by decide +kernel
theorem dX7_readWord_22 : decode cX7_readWord 22 = .ok (.isub, 1) := by decide +kernel
theorem dX7_readWord_23 : decode cX7_readWord 23 = .ok (.istore_n 3, 1) := by decide +kernel
theorem dX7_readWord_24 : decode cX7_readWord 24 = .ok (.aload_n 0, 1) := by decide +kernel
theorem dX7_readWord_25 : decode cX7_readWord 25 = .ok (.getstatic 62, 3) := by decide +kernel
theorem dX7_readWord_28 : decode cX7_readWord 28 = .ok (.iload_n 2, 1) := by decide +kernel
theorem dX7_readWord_29 : decode cX7_readWord 29 = .ok (.iaload, 1) := by decide +kernel
theorem dX7_readWord_30 : decode cX7_readWord 30 = .ok (.iload_n 3, 1) := by decide +kernel
theorem dX7_readWord_31 : decode cX7_readWord 31 = .ok (.invokevirtual 65, 3) := by decide +kernel
theorem dX7_readWord_34 : decode cX7_readWord 34 = .ok (.istore 4, 2) := by decide +kernel
theorem dX7_readWord_36 : decode cX7_readWord 36 = .ok (.iload 4, 2) := by decide +kernel
theorem dX7_readWord_38 : decode cX7_readWord 38 = .ok (.iload_n 3, 1) := by decide +kernel
theorem dX7_readWord_39 : decode cX7_readWord 39 = .ok (.if_icmp .ne 15, 3) := by decide +kernel
theorem dX7_readWord_42 : decode cX7_readWord 42 = .ok (.aload_n 0, 1) := by decide +kernel
theorem dX7_readWord_43 : decode cX7_readWord 43 = .ok (.dup, 1) := by decide +kernel
theorem dX7_readWord_44 : decode cX7_readWord 44 = .ok (.getfield 19, 3) := by decide +kernel
theorem dX7_readWord_47 : decode cX7_readWord 47 = .ok (.iload_n 3, 1) := by decide +kernel
theorem dX7_readWord_48 : decode cX7_readWord 48 = .ok (.iadd, 1) := by decide +kernel
theorem dX7_readWord_49 : decode cX7_readWord 49 = .ok (.putfield 19, 3) := by decide +kernel
theorem dX7_readWord_52 : decode cX7_readWord 52 = .ok (.iload_n 2, 1) := by decide +kernel
theorem dX7_readWord_53 : decode cX7_readWord 53 = .ok (.ireturn, 1) := by decide +kernel
theorem dX7_readWord_54 : decode cX7_readWord 54 = .ok (.iload_n 1, 1) := by decide +kernel
theorem dX7_readWord_55 : decode cX7_readWord 55 = .ok (.iload 4, 2) := by decide +kernel
theorem dX7_readWord_57 : decode cX7_readWord 57 = .ok (.invokestatic 69, 3) := by decide +kernel
theorem dX7_readWord_60 : decode cX7_readWord 60 = .ok (.istore_n 1, 1) := by decide +kernel
theorem dX7_readWord_61 : decode cX7_readWord 61 = .ok (.iinc 2 1, 3) := by decide +kernel
theorem dX7_readWord_64 : decode cX7_readWord 64 = .ok (.goto (-60), 3) := by decide +kernel
theorem dX7_readWord_67 : decode cX7_readWord 67 = .ok (.aload_n 0, 1) := by decide +kernel
theorem dX7_readWord_68 : decode cX7_readWord 68 = .ok (.dup, 1) := by decide +kernel
theorem dX7_readWord_69 : decode cX7_readWord 69 = .ok (.getfield 19, 3) := by decide +kernel
theorem dX7_readWord_72 : decode cX7_readWord 72 = .ok (.iload_n 1, 1) := by decide +kernel
theorem dX7_readWord_73 : decode cX7_readWord 73 = .ok (.iadd, 1) := by decide +kernel
theorem dX7_readWord_74 : decode cX7_readWord 74 = .ok (.putfield 19, 3) := by decide +kernel
theorem dX7_readWord_77 : decode cX7_readWord 77 = .ok (.aload_n 0, 1) := by decide +kernel
theorem dX7_readWord_78 : decode cX7_readWord 78 = .ok (.invokevirtual 38, 3) := by decide +kernel
theorem dX7_readWord_81 : decode cX7_readWord 81 = .ok (.iconst (-1), 1) := by decide +kernel
theorem dX7_readWord_82 : decode cX7_readWord 82 = .ok (.ireturn, 1) := by decide +kernel
set_option maxRecDepth 100000 in
set_option maxHeartbeats 4000000 in
theorem w_X7_readWord_l4 {p : Program} {l : Launch} {e : Env} {R : Room} {s : State} {m : MethodId} {args : Array Value} {below : List Frame} {meth : Method} {c : Code} {cells slots : Nat} {Q : State → Prop} {K : KG} {ad : Nat → Nat → Nat} {fl : Nat} (C : Cx p s m args meth c cX7_readWord 5 "GlassPalace$Script" (some .int)) (hR : 7 ≤ R.frames ∧ 40 * (7) ≤ R.locals) (hB : cells ≤ R.cells ∧ slots ≤ R.slots) : ∀ (n : Nat) (u1 : Int32) (u2 : Int32) (M0 : Mem) (H : Heap) (locs : List Loc) (ls : Array Slot), Zd K LC ad M0 s H locs → lv_has ls 5 [(0, .ref (ad 5 0)), (1, .int u1), (2, .int u2)] → ∀ (q : Nat × Int32 × Int32 × Int32) (Mq : Mem), f_X7_readWord_l4 fl  n u1 u2 M0 = some (q, Mq) → (q.1 = 0 → ∀ (H : Heap) (locs : List Loc) (ls : Array Slot), Zd K LC ad Mq s H locs → lv_has ls 5 [(0, .ref (ad 5 0)), (2, .int q.2.2.1), (3, .int q.2.2.2)] → W p l e R s m args below meth c H locs cells slots Q (F0 m 42 ls [])) → (q.1 = 1 → ∀ (H : Heap) (locs : List Loc) (ls : Array Slot), Zd K LC ad Mq s H locs → lv_has ls 5 [(0, .ref (ad 5 0)), (1, .int q.2.1)] → W p l e R s m args below meth c H locs cells slots Q (F0 m 67 ls [])) → W p l e R s m args below meth c H locs cells slots Q (F0 m 4 ls []) := by
  intro n
  induction n with
  | zero =>
    intro u1 u2 M0 H locs ls Z hl q Mq hf
    have hf : (none : Option ((Nat × Int32 × Int32 × Int32) × Mem)) = some (q, Mq) := hf
    cases hf
  | succ n ih =>
    intro u1 u2 M0 H locs ls Z hl q Mq hf kx0 kx1
    replace hf : f_X7_readWord_l4_b (f_X7_readWord_l4 fl  n) fl  u1 u2 M0 = some (q, Mq) := hf
    unfold f_X7_readWord_l4_b at hf
    refine lv_iload_n C.x C.b dX7_readWord_4 rfl (lv_at hl 2 rfl) ?_
    refine lv_bipush (v := 6) C.x C.b dX7_readWord_5 (by decide) ?_
    refine lv_icmp_ge (tgt := 67) C.x C.b dX7_readWord_7 (by decide) (fun hc1 => ?_) (fun hc1 => ?_)
    · replace hf := ite_t hf hc1
      obtain ⟨rfl, rfl⟩ := pr_s hf
      exact kx1 rfl _ _ _ Z (lv_sub hl [0, 1] rfl)
    · replace hf := ite_f hf hc1
      refine va_gets C.x C.b Z.2.2.2.2.1.1 Z.2.1 C.o (C.w k_708) (fun _ h => h) dX7_readWord_10 ?_
      refine lv_iload_n C.x C.b dX7_readWord_13 rfl (lv_at hl 2 rfl) ?_
      refine lv_iconst (v := 1) C.x C.b dX7_readWord_14 (by decide) ?_
      refine lv_iadd C.x C.b dX7_readWord_15 ?_
      replace hf := asr_s hf; obtain ⟨hq2, hf⟩ := hf
      refine z_ti C Z Z.2.2.2.2.1.2 hq2 dX7_readWord_16 ?_
      refine va_gets C.x C.b Z.2.2.2.2.1.1 Z.2.1 C.o (C.w k_708) (fun _ h => h) dX7_readWord_17 ?_
      refine lv_iload_n C.x C.b dX7_readWord_20 rfl (lv_at hl 2 rfl) ?_
      replace hf := asr_s hf; obtain ⟨hq3, hf⟩ := hf
      refine z_ti C Z Z.2.2.2.2.1.2 hq3 dX7_readWord_21 ?_
      refine lv_isub C.x C.b dX7_readWord_22 ?_
      replace hf := lt1_s hf; obtain ⟨x4, ex4, hf⟩ := hf
      refine z_renI ex4 ?_
      refine z_istore_n (lv' := [(3, .int x4), (0, .ref (ad 5 0)), (1, .int u1), (2, .int u2)]) C dX7_readWord_23 rfl hl (by decide) rfl (onlast 2 rfl rfl rfl) (fun ls hl => ?_)
      refine lv_aload_n C.x C.b dX7_readWord_24 rfl (lv_at hl 1 rfl) ?_
      refine va_gets C.x C.b Z.2.2.2.2.1.1 Z.2.1 C.o (C.w k_708) (fun _ h => h) dX7_readWord_25 ?_
      refine lv_iload_n C.x C.b dX7_readWord_28 rfl (lv_at hl 3 rfl) ?_
      replace hf := asr_s hf; obtain ⟨hq5, hf⟩ := hf
      refine z_ti C Z Z.2.2.2.2.1.2 hq5 dX7_readWord_29 ?_
      refine lv_iload_n C.x C.b dX7_readWord_30 rfl (lv_at hl 0 rfl) ?_
      replace hf := bn2_s hf; obtain ⟨v7, m6, hkm6, hf⟩ := hf
      refine z_cV (As := [.int (tSt (Int32.toNatClampNeg u2)), .int x4]) (rest := []) (st1 := [.int v7]) C Z mw_X7_bytesLike mv_X7_bytesLike k_710 (by decide) (z_hR hR (by decide)) (lvC5 Nat.zero_lt_one) kC5 zc7 (c_X7_bytesLike (l := l) (K := K) (ad := ad) hkm6) rfl hl.1 rfl (Nat.le_of_ble_eq_true rfl) dX7_readWord_31 hB rfl (fun H locs Z => ?_)
      refine z_istore (lv' := [(4, .int v7), (3, .int x4), (0, .ref (ad 5 0)), (1, .int u1), (2, .int u2)]) C dX7_readWord_34 hl (by decide) rfl (onlast 0 rfl rfl rfl) (fun ls hl => ?_)
      refine lv_iload C.x C.b dX7_readWord_36 (lv_at hl 0 rfl) ?_
      refine lv_iload_n C.x C.b dX7_readWord_38 rfl (lv_at hl 1 rfl) ?_
      refine lv_icmp_ne (tgt := 54) C.x C.b dX7_readWord_39 (by decide) (fun hc8 => ?_) (fun hc8 => ?_)
      · replace hf := ite_f hf hc8
        refine lv_iload_n C.x C.b dX7_readWord_54 rfl (lv_at hl 3 rfl) ?_
        refine lv_iload C.x C.b dX7_readWord_55 (lv_at hl 0 rfl) ?_
        refine z_max C k_763 k_562 k_115 k_563 hl.1 hR (by decide) (Nat.le_of_ble_eq_true rfl) hB dX7_readWord_57 ?_
        replace hf := lt1_s hf; obtain ⟨x9, ex9, hf⟩ := hf
        refine z_renI ex9 ?_
        refine z_istore_n (lv' := [(1, .int x9), (4, .int v7), (3, .int x4), (0, .ref (ad 5 0)), (2, .int u2)]) C dX7_readWord_60 rfl hl (by decide) rfl (onlast 2 rfl rfl rfl) (fun ls hl => ?_)
        replace hf := lt1_s hf; obtain ⟨x10, ex10, hf⟩ := hf
        refine z_iinc (v := x10) (lv' := [(2, .int x10), (1, .int x9), (4, .int v7), (3, .int x4), (0, .ref (ad 5 0))]) C dX7_readWord_61 hl (k := 4) rfl (by rw [ex10]; rfl) (by decide) rfl (onlast 0 rfl rfl rfl) (fun ls hl => ?_)
        refine lv_goto (tgt := 4) C.x C.b dX7_readWord_64 (by decide) ?_
        exact ih _ _ _ _ _ _ Z (lv_sub hl [4, 1, 0] rfl) _ _ hf kx0 kx1
      · replace hf := ite_t hf hc8
        obtain ⟨rfl, rfl⟩ := pr_s hf
        exact kx0 rfl _ _ _ Z (lv_sub hl [2, 4, 1] rfl)
set_option maxRecDepth 100000 in
set_option maxHeartbeats 4000000 in
theorem c_X7_readWord {l : Launch} {K : KG} {ad : Nat → Nat → Nat} {fl : Nat}  {M0 : Mem} {r9 : Int32} {M9 : Mem} (hf : f_X7_readWord fl  M0 = some (r9, M9)) : Met l yX7_readWord (Cond.code yX7_readWord cX7_readWord 5 (some .int) :: ztb) (RM (7) 0 0) (zPc K LC ad M0 [.ref (ad 5 0)]) (zQ K LC ad (some (.int r9)) M9) 0 0 (zA ad) := by
  refine z_enter (by decide) (Nat.le_of_ble_eq_true rfl) ?_
  intro p e s m args below meth c ls C hin hargs Z hl
  replace C : Cx p s m args meth c cX7_readWord 5 "GlassPalace$Script" (some .int) := C
  replace hl : lv_has ls 5 [(0, .ref (ad 5 0))] := hl
  have hR : 7 ≤ (RM (7) 0 0).frames ∧ 40 * (7) ≤ (RM (7) 0 0).locals := ⟨Nat.le_refl _, Nat.le_refl _⟩
  have hB : 0 ≤ (RM (7) 0 0).cells ∧ 0 ≤ (RM (7) 0 0).slots := ⟨Nat.zero_le _, Nat.zero_le _⟩
  unfold f_X7_readWord at hf
  refine lv_iconst (v := 0) C.x C.b dX7_readWord_0 (by decide) ?_
  refine z_istore_n (lv' := [(1, .int 0), (0, .ref (ad 5 0))]) C dX7_readWord_1 rfl hl (by decide) rfl (onlast 0 rfl rfl rfl) (fun ls hl => ?_)
  refine lv_iconst (v := 0) C.x C.b dX7_readWord_2 (by decide) ?_
  refine z_istore_n (lv' := [(2, .int 0), (1, .int 0), (0, .ref (ad 5 0))]) C dX7_readWord_3 rfl hl (by decide) rfl (onlast 0 rfl rfl rfl) (fun ls hl => ?_)
  replace hf := bn2_s hf; obtain ⟨q11, m12, hq11, hf⟩ := hf
  refine w_X7_readWord_l4 C hR hB  fl _ _ _ _ _ _ Z (lv_sub hl [2, 1, 0] rfl) _ _ hq11 (fun ht H locs ls Z hl => ?_) (fun ht H locs ls Z hl => ?_)
  · replace hf := ite_t hf ht
    refine lv_aload_n C.x C.b dX7_readWord_42 rfl (lv_at hl 0 rfl) ?_
    refine lv_dup C.x C.b dX7_readWord_43 rfl ?_
    refine z_get C Z (lvC5 Nat.zero_lt_one) kC5 zc7 zin7 2 (by decide) k_144 rfl svC5_2 dX7_readWord_44 ?_
    refine lv_iload_n C.x C.b dX7_readWord_47 rfl (lv_at hl 2 rfl) ?_
    refine lv_iadd C.x C.b dX7_readWord_48 ?_
    replace hf := lt1_s hf; obtain ⟨m13, em13, hf⟩ := hf
    refine z_put (M1 := m13) C Z (lvC5 Nat.zero_lt_one) (by decide) kC5 zc7 zin7 tyX7_ok nmX7 2 (by decide) k_144 rfl (zUp_I em13 stC5_2u) (Or.inl rfl) rfl rfl dX7_readWord_49 (fun H locs Z => ?_)
    refine lv_iload_n C.x C.b dX7_readWord_52 rfl (lv_at hl 1 rfl) ?_
    obtain ⟨rfl, rfl⟩ := pr_s hf
    exact z_iret C Z dX7_readWord_53
  · replace hf := ite_f hf (by rw [ht]; decide)
    refine lv_aload_n C.x C.b dX7_readWord_67 rfl (lv_at hl 0 rfl) ?_
    refine lv_dup C.x C.b dX7_readWord_68 rfl ?_
    refine z_get C Z (lvC5 Nat.zero_lt_one) kC5 zc7 zin7 2 (by decide) k_144 rfl svC5_2 dX7_readWord_69 ?_
    refine lv_iload_n C.x C.b dX7_readWord_72 rfl (lv_at hl 1 rfl) ?_
    refine lv_iadd C.x C.b dX7_readWord_73 ?_
    replace hf := lt1_s hf; obtain ⟨m14, em14, hf⟩ := hf
    refine z_put (M1 := m14) C Z (lvC5 Nat.zero_lt_one) (by decide) kC5 zc7 zin7 tyX7_ok nmX7 2 (by decide) k_144 rfl (zUp_I em14 stC5_2u) (Or.inl rfl) rfl rfl dX7_readWord_74 (fun H locs Z => ?_)
    refine lv_aload_n C.x C.b dX7_readWord_77 rfl (lv_at hl 0 rfl) ?_
    replace hf := bn1_s hf; obtain ⟨m15, hkm15, hf⟩ := hf
    refine z_cV (As := []) (rest := []) (st1 := []) C Z mw_X7_fail mv_X7_fail k_764 (by decide) (z_hR hR (by decide)) (lvC5 Nat.zero_lt_one) kC5 zc7 (c_X7_fail (l := l) (K := K) (ad := ad) hkm15) rfl hl.1 rfl (Nat.le_of_ble_eq_true rfl) dX7_readWord_78 hB rfl (fun H locs Z => ?_)
    refine lv_iconst (v := (-1)) C.x C.b dX7_readWord_81 (by decide) ?_
    obtain ⟨rfl, rfl⟩ := pr_s hf
    exact z_iret C Z dX7_readWord_82
theorem dX9_addClause_0 : decode cX9_addClause 0 = .ok (.aload_n 0, 1) := by decide +kernel
theorem dX9_addClause_1 : decode cX9_addClause 1 = .ok (.getfield 21, 3) := by decide +kernel
theorem dX9_addClause_4 : decode cX9_addClause 4 = .ok (.ifCond .lt 42, 3) := by decide +kernel
theorem dX9_addClause_7 : decode cX9_addClause 7 = .ok (.aload_n 0, 1) := by decide +kernel
theorem dX9_addClause_8 : decode cX9_addClause 8 = .ok (.getfield 21, 3) := by decide +kernel
theorem dX9_addClause_11 : decode cX9_addClause 11 = .ok (.bipush 8, 2) := by decide +kernel
theorem dX9_addClause_13 : decode cX9_addClause 13 = .ok (.if_icmp .ge 33, 3) := by decide +kernel
theorem dX9_addClause_16 : decode cX9_addClause 16 = .ok (.aload_n 0, 1) := by decide +kernel
theorem dX9_addClause_17 : decode cX9_addClause 17 = .ok (.getfield 9, 3) := by decide +kernel
theorem dX9_addClause_20 : decode cX9_addClause 20 = .ok (.aload_n 0, 1) := by decide +kernel
theorem dX9_addClause_21 : decode cX9_addClause 21 = .ok (.getfield 21, 3) := by decide +kernel
theorem dX9_addClause_24 : decode cX9_addClause 24 = .ok (.iload_n 1, 1) := by decide +kernel
theorem dX9_addClause_25 : decode cX9_addClause 25 = .ok (.iastore, 1) := by decide +kernel
theorem dX9_addClause_26 : decode cX9_addClause 26 = .ok (.aload_n 0, 1) := by decide +kernel
theorem dX9_addClause_27 : decode cX9_addClause 27 = .ok (.getfield 15, 3) := by decide +kernel
theorem dX9_addClause_30 : decode cX9_addClause 30 = .ok (.aload_n 0, 1) := by decide +kernel
theorem dX9_addClause_31 : decode cX9_addClause 31 = .ok (.getfield 21, 3) := by decide +kernel
theorem dX9_addClause_34 : decode cX9_addClause 34 = .ok (.iload_n 2, 1) := by decide +kernel
theorem dX9_addClause_35 : decode cX9_addClause 35 = .ok (.iastore, 1) := by decide +kernel
theorem dX9_addClause_36 : decode cX9_addClause 36 = .ok (.aload_n 0, 1) := by decide +kernel
theorem dX9_addClause_37 : decode cX9_addClause 37 = .ok (.dup, 1) := by decide +kernel
theorem dX9_addClause_38 : decode cX9_addClause 38 = .ok (.getfield 21, 3) := by decide +kernel
theorem dX9_addClause_41 : decode cX9_addClause 41 = .ok (.iconst 1, 1) := by decide +kernel
theorem dX9_addClause_42 : decode cX9_addClause 42 = .ok (.iadd, 1) := by decide +kernel
theorem dX9_addClause_43 : decode cX9_addClause 43 = .ok (.putfield 21, 3) := by decide +kernel
theorem dX9_addClause_46 : decode cX9_addClause 46 = .ok (.return_, 1) := by decide +kernel
set_option maxRecDepth 100000 in
set_option maxHeartbeats 4000000 in
theorem c_X9_addClause {l : Launch} {K : KG} {ad : Nat → Nat → Nat} {fl : Nat} {o : Nat} {a1 : Int32} {a2 : Int32} {M0 : Mem} {M9 : Mem} (ho : o < 10) (hf : f_X9_addClause fl o a1 a2 M0 = some M9) : Met l yX9_addClause (Cond.code yX9_addClause cX9_addClause 3 none :: ztb) (RM (1) 0 0) (zPc K LC ad M0 [.ref (ad 19 o), .int a1, .int a2]) (zQ K LC ad (none) M9) 0 0 (zA ad) := by
  refine z_enter (by decide) (Nat.le_of_ble_eq_true rfl) ?_
  intro p e s m args below meth c ls C hin hargs Z hl
  replace C : Cx p s m args meth c cX9_addClause 3 "GlassPalace$Text" none := C
  replace hl : lv_has ls 3 [(0, .ref (ad 19 o)), (1, .int a1), (2, .int a2)] := hl
  have hR : 1 ≤ (RM (1) 0 0).frames ∧ 40 * (1) ≤ (RM (1) 0 0).locals := ⟨Nat.le_refl _, Nat.le_refl _⟩
  have hB : 0 ≤ (RM (1) 0 0).cells ∧ 0 ≤ (RM (1) 0 0).slots := ⟨Nat.zero_le _, Nat.zero_le _⟩
  unfold f_X9_addClause at hf
  refine lv_aload_n C.x C.b dX9_addClause_0 rfl (lv_at hl 0 rfl) ?_
  refine z_get C Z (lvC19 ho) kC19 zc9 zin9 2 (by decide) k_173 rfl svC19_2 dX9_addClause_1 ?_
  refine lv_if_lt (tgt := 46) C.x C.b dX9_addClause_4 (by decide) (fun hc1 => ?_) (fun hc1 => ?_)
  · replace hf := ite_t hf hc1
    obtain rfl := sm_s hf
    exact z_vret C Z dX9_addClause_46
  · replace hf := ite_f hf hc1
    refine lv_aload_n C.x C.b dX9_addClause_7 rfl (lv_at hl 0 rfl) ?_
    refine z_get C Z (lvC19 ho) kC19 zc9 zin9 2 (by decide) k_173 rfl svC19_2 dX9_addClause_8 ?_
    refine lv_bipush (v := 8) C.x C.b dX9_addClause_11 (by decide) ?_
    refine lv_icmp_ge (tgt := 46) C.x C.b dX9_addClause_13 (by decide) (fun hc2 => ?_) (fun hc2 => ?_)
    · replace hf := ite_t hf hc2
      obtain rfl := sm_s hf
      exact z_vret C Z dX9_addClause_46
    · replace hf := ite_f hf hc2
      refine lv_aload_n C.x C.b dX9_addClause_16 rfl (lv_at hl 0 rfl) ?_
      refine z_get C Z (lvC19 ho) kC19 zc9 zin9 3 (by decide) k_174 rfl svC19_3 dX9_addClause_17 ?_
      refine lv_aload_n C.x C.b dX9_addClause_20 rfl (lv_at hl 0 rfl) ?_
      refine z_get C Z (lvC19 ho) kC19 zc9 zin9 2 (by decide) k_173 rfl svC19_2 dX9_addClause_21 ?_
      refine lv_iload_n C.x C.b dX9_addClause_24 rfl (lv_at hl 1 rfl) ?_
      replace hf := asr_s hf; obtain ⟨hq3, hf⟩ := hf
      replace hf := lt1_s hf; obtain ⟨m4, em4, hf⟩ := hf
      refine z_iast (M1 := m4) C Z (lvC20 ho) (by decide) kC20 hq3 em4 stC20u dX9_addClause_25 (fun H locs Z => ?_)
      refine lv_aload_n C.x C.b dX9_addClause_26 rfl (lv_at hl 0 rfl) ?_
      refine z_get C Z (lvC19 ho) kC19 zc9 zin9 4 (by decide) k_175 rfl svC19_4 dX9_addClause_27 ?_
      refine lv_aload_n C.x C.b dX9_addClause_30 rfl (lv_at hl 0 rfl) ?_
      refine z_get C Z (lvC19 ho) kC19 zc9 zin9 2 (by decide) k_173 rfl svC19_2 dX9_addClause_31 ?_
      refine lv_iload_n C.x C.b dX9_addClause_34 rfl (lv_at hl 2 rfl) ?_
      replace hf := asr_s hf; obtain ⟨hq5, hf⟩ := hf
      replace hf := lt1_s hf; obtain ⟨m6, em6, hf⟩ := hf
      refine z_iast (M1 := m6) C Z (lvC21 ho) (by decide) kC21 hq5 em6 stC21u dX9_addClause_35 (fun H locs Z => ?_)
      refine lv_aload_n C.x C.b dX9_addClause_36 rfl (lv_at hl 0 rfl) ?_
      refine lv_dup C.x C.b dX9_addClause_37 rfl ?_
      refine z_get C Z (lvC19 ho) kC19 zc9 zin9 2 (by decide) k_173 rfl svC19_2 dX9_addClause_38 ?_
      refine lv_iconst (v := 1) C.x C.b dX9_addClause_41 (by decide) ?_
      refine lv_iadd C.x C.b dX9_addClause_42 ?_
      replace hf := lt1_s hf; obtain ⟨m7, em7, hf⟩ := hf
      refine z_put (M1 := m7) C Z (lvC19 ho) (by decide) kC19 zc9 zin9 tyX9_ok nmX9 2 (by decide) k_173 rfl (zUp_I em7 stC19_2u) (Or.inl rfl) rfl rfl dX9_addClause_43 (fun H locs Z => ?_)
      obtain rfl := sm_s hf
      exact z_vret C Z dX9_addClause_46
theorem dX9_addCode_0 : decode cX9_addCode 0 = .ok (.aload_n 0, 1) := by decide +kernel
theorem dX9_addCode_1 : decode cX9_addCode 1 = .ok (.getfield 25, 3) := by decide +kernel
theorem dX9_addCode_4 : decode cX9_addCode 4 = .ok (.ifCond .lt 32, 3) := by decide +kernel
theorem dX9_addCode_7 : decode cX9_addCode 7 = .ok (.aload_n 0, 1) := by decide +kernel
theorem dX9_addCode_8 : decode cX9_addCode 8 = .ok (.getfield 25, 3) := by decide +kernel
theorem dX9_addCode_11 : decode cX9_addCode 11 = .ok (.bipush 100, 2) := by decide +kernel
theorem dX9_addCode_13 : decode cX9_addCode 13 = .ok (.if_icmp .ge 23, 3) := by decide +kernel
theorem dX9_addCode_16 : decode cX9_addCode 16 = .ok (.aload_n 0, 1) := by decide +kernel
theorem dX9_addCode_17 : decode cX9_addCode 17 = .ok (.getfield 18, 3) := by decide +kernel
theorem dX9_addCode_20 : decode cX9_addCode 20 = .ok (.aload_n 0, 1) := by decide +kernel
theorem dX9_addCode_21 : decode cX9_addCode 21 = .ok (.getfield 25, 3) := by decide +kernel
theorem dX9_addCode_24 : decode cX9_addCode 24 = .ok (.iload_n 1, 1) := by decide +kernel
theorem dX9_addCode_25 : decode cX9_addCode 25 = .ok (.iastore, 1) := by decide +kernel
theorem dX9_addCode_26 : decode cX9_addCode 26 = .ok (.aload_n 0, 1) := by decide +kernel
theorem dX9_addCode_27 : decode cX9_addCode 27 = .ok (.dup, 1) := by decide +kernel
theorem dX9_addCode_28 : decode cX9_addCode 28 = .ok (.getfield 25, 3) := by decide +kernel
theorem dX9_addCode_31 : decode cX9_addCode 31 = .ok (.iconst 1, 1) := by decide +kernel
theorem dX9_addCode_32 : decode cX9_addCode 32 = .ok (.iadd, 1) := by decide +kernel
theorem dX9_addCode_33 : decode cX9_addCode 33 = .ok (.putfield 25, 3) := by decide +kernel
theorem dX9_addCode_36 : decode cX9_addCode 36 = .ok (.return_, 1) := by decide +kernel
set_option maxRecDepth 100000 in
set_option maxHeartbeats 4000000 in
theorem c_X9_addCode {l : Launch} {K : KG} {ad : Nat → Nat → Nat} {fl : Nat} {o : Nat} {a1 : Int32} {M0 : Mem} {M9 : Mem} (ho : o < 10) (hf : f_X9_addCode fl o a1 M0 = some M9) : Met l yX9_addCode (Cond.code yX9_addCode cX9_addCode 2 none :: ztb) (RM (1) 0 0) (zPc K LC ad M0 [.ref (ad 19 o), .int a1]) (zQ K LC ad (none) M9) 0 0 (zA ad) := by
  refine z_enter (by decide) (Nat.le_of_ble_eq_true rfl) ?_
  intro p e s m args below meth c ls C hin hargs Z hl
  replace C : Cx p s m args meth c cX9_addCode 2 "GlassPalace$Text" none := C
  replace hl : lv_has ls 2 [(0, .ref (ad 19 o)), (1, .int a1)] := hl
  have hR : 1 ≤ (RM (1) 0 0).frames ∧ 40 * (1) ≤ (RM (1) 0 0).locals := ⟨Nat.le_refl _, Nat.le_refl _⟩
  have hB : 0 ≤ (RM (1) 0 0).cells ∧ 0 ≤ (RM (1) 0 0).slots := ⟨Nat.zero_le _, Nat.zero_le _⟩
  unfold f_X9_addCode at hf
  refine lv_aload_n C.x C.b dX9_addCode_0 rfl (lv_at hl 0 rfl) ?_
  refine z_get C Z (lvC19 ho) kC19 zc9 zin9 1 (by decide) k_171 rfl svC19_1 dX9_addCode_1 ?_
  refine lv_if_lt (tgt := 36) C.x C.b dX9_addCode_4 (by decide) (fun hc1 => ?_) (fun hc1 => ?_)
  · replace hf := ite_t hf hc1
    obtain rfl := sm_s hf
    exact z_vret C Z dX9_addCode_36
  · replace hf := ite_f hf hc1
    refine lv_aload_n C.x C.b dX9_addCode_7 rfl (lv_at hl 0 rfl) ?_
    refine z_get C Z (lvC19 ho) kC19 zc9 zin9 1 (by decide) k_171 rfl svC19_1 dX9_addCode_8 ?_
    refine lv_bipush (v := 100) C.x C.b dX9_addCode_11 (by decide) ?_
    refine lv_icmp_ge (tgt := 36) C.x C.b dX9_addCode_13 (by decide) (fun hc2 => ?_) (fun hc2 => ?_)
    · replace hf := ite_t hf hc2
      obtain rfl := sm_s hf
      exact z_vret C Z dX9_addCode_36
    · replace hf := ite_f hf hc2
      refine lv_aload_n C.x C.b dX9_addCode_16 rfl (lv_at hl 0 rfl) ?_
      refine z_get C Z (lvC19 ho) kC19 zc9 zin9 5 (by decide) k_176 rfl svC19_5 dX9_addCode_17 ?_
      refine lv_aload_n C.x C.b dX9_addCode_20 rfl (lv_at hl 0 rfl) ?_
      refine z_get C Z (lvC19 ho) kC19 zc9 zin9 1 (by decide) k_171 rfl svC19_1 dX9_addCode_21 ?_
      refine lv_iload_n C.x C.b dX9_addCode_24 rfl (lv_at hl 1 rfl) ?_
      replace hf := asr_s hf; obtain ⟨hq3, hf⟩ := hf
      replace hf := lt1_s hf; obtain ⟨m4, em4, hf⟩ := hf
      refine z_iast (M1 := m4) C Z (lvC22 ho) (by decide) kC22 hq3 em4 stC22u dX9_addCode_25 (fun H locs Z => ?_)
      refine lv_aload_n C.x C.b dX9_addCode_26 rfl (lv_at hl 0 rfl) ?_
      refine lv_dup C.x C.b dX9_addCode_27 rfl ?_
      refine z_get C Z (lvC19 ho) kC19 zc9 zin9 1 (by decide) k_171 rfl svC19_1 dX9_addCode_28 ?_
      refine lv_iconst (v := 1) C.x C.b dX9_addCode_31 (by decide) ?_
      refine lv_iadd C.x C.b dX9_addCode_32 ?_
      replace hf := lt1_s hf; obtain ⟨m5, em5, hf⟩ := hf
      refine z_put (M1 := m5) C Z (lvC19 ho) (by decide) kC19 zc9 zin9 tyX9_ok nmX9 1 (by decide) k_171 rfl (zUp_I em5 stC19_1u) (Or.inl rfl) rfl rfl dX9_addCode_33 (fun H locs Z => ?_)
      obtain rfl := sm_s hf
      exact z_vret C Z dX9_addCode_36
theorem dX7_look_0 : decode cX7_look 0 = .ok (.aload_n 0, 1) := by decide +kernel
theorem dX7_look_1 : decode cX7_look 1 = .ok (.getfield 22, 3) := by decide +kernel
theorem dX7_look_4 : decode cX7_look 4 = .ok (.iconst (-1), 1) := by decide +kernel
theorem dX7_look_5 : decode cX7_look 5 = .ok (.if_icmp .ne 34, 3) := by decide +kernel
theorem dX7_look_8 : decode cX7_look 8 = .ok (.aload_n 0, 1) := by decide +kernel
theorem dX7_look_9 : decode cX7_look 9 = .ok (.getfield 19, 3) := by decide +kernel
theorem dX7_look_12 : decode cX7_look 12 = .ok (.ifCond .lt 27, 3) := by decide +kernel
theorem dX7_look_15 : decode cX7_look 15 = .ok (.aload_n 0, 1) := by decide +kernel
theorem dX7_look_16 : decode cX7_look 16 = .ok (.getfield 19, 3) := by decide +kernel
theorem dX7_look_19 : decode cX7_look 19 = .ok (.aload_n 0, 1) := by decide +kernel
theorem dX7_look_20 : decode cX7_look 20 = .ok (.getfield 15, 3) := by decide +kernel
theorem dX7_look_23 : decode cX7_look 23 = .ok (.if_icmp .ge 16, 3) := by decide +kernel
theorem dX7_look_26 : decode cX7_look 26 = .ok (.aload_n 0, 1) := by decide +kernel
theorem dX7_look_27 : decode cX7_look 27 = .ok (.getfield 19, 3) := by decide +kernel
theorem dX7_look_30 : decode cX7_look 30 = .ok (.bipush 100, 2) := by decide +kernel
theorem dX7_look_32 : decode cX7_look 32 = .ok (.if_icmp .ge 7, 3) := by decide +kernel
theorem dX7_look_35 : decode cX7_look 35 = .ok (.iconst 1, 1) := by decide +kernel
theorem dX7_look_36 : decode cX7_look 36 = .ok (.goto 4, 3) := by decide +kernel
theorem dX7_look_39 : decode cX7_look 39 = .ok (.iconst 0, 1) := by decide +kernel
theorem dX7_look_40 : decode cX7_look 40 = .ok (.istore_n 1, 1) := by decide +kernel
theorem dX7_look_41 : decode cX7_look 41 = .ok (.iload_n 1, 1) := by decide +kernel
theorem dX7_look_42 : decode cX7_look 42 = .ok (.ifCond .eq 15, 3) := by decide +kernel
theorem dX7_look_45 : decode cX7_look 45 = .ok (.aload_n 0, 1) := by decide +kernel
theorem dX7_look_46 : decode cX7_look 46 = .ok (.getfield 9, 3) := by decide +kernel
theorem dX7_look_49 : decode cX7_look 49 = .ok (.aload_n 0, 1) := by decide +kernel
theorem dX7_look_50 : decode cX7_look 50 = .ok (.getfield 19, 3) := by decide +kernel
theorem dX7_look_53 : decode cX7_look 53 = .ok (.iaload, 1) := by decide +kernel
theorem dX7_look_54 : decode cX7_look 54 = .ok (.goto 4, 3) := by decide +kernel
theorem dX7_look_57 : decode cX7_look 57 = .ok (.iconst (-1), 1) := by decide +kernel
theorem dX7_look_58 : decode cX7_look 58 = .ok (.ireturn, 1) := by decide +kernel
set_option maxRecDepth 100000 in
set_option maxHeartbeats 4000000 in
theorem w_X7_look_b40 {p : Program} {l : Launch} {e : Env} {s : State} {m : MethodId} {args : Array Value} {below : List Frame} {meth : Method} {c : Code} {K : KG} {ad : Nat → Nat → Nat} {fl : Nat} {H : Heap} {locs : List Loc} {ls : Array Slot} {z0 : Int32} {M0 : Mem} {r9 : Int32} {M9 : Mem} (C : Cx p s m args meth c cX7_look 2 "GlassPalace$Script" (some .int)) (hR : 1 ≤ (RM (1) 0 0).frames ∧ 40 * (1) ≤ (RM (1) 0 0).locals) (hB : 0 ≤ (RM (1) 0 0).cells ∧ 0 ≤ (RM (1) 0 0).slots) (Z : Zd K LC ad M0 s H locs) (hl : lv_has ls 2 [(0, .ref (ad 5 0))]) (hf : f_X7_look_b40 fl z0 M0 = some (r9, M9)) : W p l e (RM (1) 0 0) s m args below meth c H locs 0 0 (MQ below (zQ K LC ad (some (.int r9)) M9) args s 0 0 (zA ad)) (F0 m 40 ls [.int z0]) := by
  unfold f_X7_look_b40 at hf
  refine z_istore_n (lv' := [(1, .int z0), (0, .ref (ad 5 0))]) C dX7_look_40 rfl hl (by decide) rfl (onlast 0 rfl rfl rfl) (fun ls hl => ?_)
  refine lv_iload_n C.x C.b dX7_look_41 rfl (lv_at hl 0 rfl) ?_
  refine lv_if_eq (tgt := 57) C.x C.b dX7_look_42 (by decide) (fun hc3 => ?_) (fun hc3 => ?_)
  · replace hf := ite_t hf hc3
    refine lv_iconst (v := (-1)) C.x C.b dX7_look_57 (by decide) ?_
    obtain ⟨rfl, rfl⟩ := pr_s hf
    exact z_iret C Z dX7_look_58
  · replace hf := ite_f hf hc3
    refine lv_aload_n C.x C.b dX7_look_45 rfl (lv_at hl 1 rfl) ?_
    refine z_get C Z (lvC5 Nat.zero_lt_one) kC5 zc7 zin7 1 (by decide) k_143 rfl svC5_1 dX7_look_46 ?_
    refine lv_aload_n C.x C.b dX7_look_49 rfl (lv_at hl 1 rfl) ?_
    refine z_get C Z (lvC5 Nat.zero_lt_one) kC5 zc7 zin7 2 (by decide) k_144 rfl svC5_2 dX7_look_50 ?_
    replace hf := asr_s hf; obtain ⟨hq4, hf⟩ := hf
    refine z_iald C Z (lvC16 Nat.zero_lt_one) kC16 hq4 svC16 dX7_look_53 ?_
    refine lv_goto (tgt := 58) C.x C.b dX7_look_54 (by decide) ?_
    obtain ⟨rfl, rfl⟩ := pr_s hf
    exact z_iret C Z dX7_look_58
set_option maxRecDepth 100000 in
set_option maxHeartbeats 4000000 in
theorem c_X7_look {l : Launch} {K : KG} {ad : Nat → Nat → Nat} {fl : Nat}  {M0 : Mem} {r9 : Int32} {M9 : Mem} (hf : f_X7_look fl  M0 = some (r9, M9)) : Met l yX7_look (Cond.code yX7_look cX7_look 2 (some .int) :: ztb) (RM (1) 0 0) (zPc K LC ad M0 [.ref (ad 5 0)]) (zQ K LC ad (some (.int r9)) M9) 0 0 (zA ad) := by
  refine z_enter (by decide) (Nat.le_of_ble_eq_true rfl) ?_
  intro p e s m args below meth c ls C hin hargs Z hl
  replace C : Cx p s m args meth c cX7_look 2 "GlassPalace$Script" (some .int) := C
  replace hl : lv_has ls 2 [(0, .ref (ad 5 0))] := hl
  have hR : 1 ≤ (RM (1) 0 0).frames ∧ 40 * (1) ≤ (RM (1) 0 0).locals := ⟨Nat.le_refl _, Nat.le_refl _⟩
  have hB : 0 ≤ (RM (1) 0 0).cells ∧ 0 ≤ (RM (1) 0 0).slots := ⟨Nat.zero_le _, Nat.zero_le _⟩
  unfold f_X7_look at hf
  refine lv_aload_n C.x C.b dX7_look_0 rfl (lv_at hl 0 rfl) ?_
  refine z_get C Z (lvC5 Nat.zero_lt_one) kC5 zc7 zin7 3 (by decide) k_145 rfl svC5_3 dX7_look_1 ?_
  refine lv_iconst (v := (-1)) C.x C.b dX7_look_4 (by decide) ?_
  replace hf := bn2_s hf; obtain ⟨q1, m2, hq1, hf⟩ := hf
  have kq1 : ∀ (H : Heap) (locs : List Loc) (ls : Array Slot), Zd K LC ad m2 s H locs → lv_has ls 2 [(0, .ref (ad 5 0))] → W p l e (RM (1) 0 0) s m args below meth c H locs 0 0 (MQ below (zQ K LC ad (some (.int r9)) M9) args s 0 0 (zA ad)) (F0 m 40 ls [.int q1]) := by
    intro H locs ls Z hl
    exact w_X7_look_b40 C hR hB  Z (lv_sub hl [0] rfl) hf
  clear hf
  refine lv_icmp_ne (tgt := 39) C.x C.b dX7_look_5 (by decide) (fun hc5 => ?_) (fun hc5 => ?_)
  · have hf := ite_f hq1 hc5; clear hq1
    refine lv_iconst (v := 0) C.x C.b dX7_look_39 (by decide) ?_
    obtain ⟨rfl, rfl⟩ := pr_s hf
    exact kq1 _ _ _ Z (lv_sub hl [0] rfl)
  · have hf := ite_t hq1 hc5; clear hq1
    refine lv_aload_n C.x C.b dX7_look_8 rfl (lv_at hl 0 rfl) ?_
    refine z_get C Z (lvC5 Nat.zero_lt_one) kC5 zc7 zin7 2 (by decide) k_144 rfl svC5_2 dX7_look_9 ?_
    refine lv_if_lt (tgt := 39) C.x C.b dX7_look_12 (by decide) (fun hc6 => ?_) (fun hc6 => ?_)
    · replace hf := ite_t hf hc6
      refine lv_iconst (v := 0) C.x C.b dX7_look_39 (by decide) ?_
      obtain ⟨rfl, rfl⟩ := pr_s hf
      exact kq1 _ _ _ Z (lv_sub hl [0] rfl)
    · replace hf := ite_f hf hc6
      refine lv_aload_n C.x C.b dX7_look_15 rfl (lv_at hl 0 rfl) ?_
      refine z_get C Z (lvC5 Nat.zero_lt_one) kC5 zc7 zin7 2 (by decide) k_144 rfl svC5_2 dX7_look_16 ?_
      refine lv_aload_n C.x C.b dX7_look_19 rfl (lv_at hl 0 rfl) ?_
      refine z_get C Z (lvC5 Nat.zero_lt_one) kC5 zc7 zin7 0 (by decide) k_141 rfl svC5_0 dX7_look_20 ?_
      refine lv_icmp_ge (tgt := 39) C.x C.b dX7_look_23 (by decide) (fun hc7 => ?_) (fun hc7 => ?_)
      · replace hf := ite_t hf hc7
        refine lv_iconst (v := 0) C.x C.b dX7_look_39 (by decide) ?_
        obtain ⟨rfl, rfl⟩ := pr_s hf
        exact kq1 _ _ _ Z (lv_sub hl [0] rfl)
      · replace hf := ite_f hf hc7
        refine lv_aload_n C.x C.b dX7_look_26 rfl (lv_at hl 0 rfl) ?_
        refine z_get C Z (lvC5 Nat.zero_lt_one) kC5 zc7 zin7 2 (by decide) k_144 rfl svC5_2 dX7_look_27 ?_
        refine lv_bipush (v := 100) C.x C.b dX7_look_30 (by decide) ?_
        refine lv_icmp_ge (tgt := 39) C.x C.b dX7_look_32 (by decide) (fun hc8 => ?_) (fun hc8 => ?_)
        · replace hf := ite_t hf hc8
          refine lv_iconst (v := 0) C.x C.b dX7_look_39 (by decide) ?_
          obtain ⟨rfl, rfl⟩ := pr_s hf
          exact kq1 _ _ _ Z (lv_sub hl [0] rfl)
        · replace hf := ite_f hf hc8
          refine lv_iconst (v := 1) C.x C.b dX7_look_35 (by decide) ?_
          refine lv_goto (tgt := 40) C.x C.b dX7_look_36 (by decide) ?_
          obtain ⟨rfl, rfl⟩ := pr_s hf
          exact kq1 _ _ _ Z (lv_sub hl [0] rfl)
theorem dX7_readEither_0 : decode cX7_readEither 0 = .ok (.iconst 0, 1) := by decide +kernel
theorem dX7_readEither_1 : decode cX7_readEither 1 = .ok (.istore_n 3, 1) := by decide +kernel
theorem dX7_readEither_2 : decode cX7_readEither 2 = .ok (.iconst 0, 1) := by decide +kernel
theorem dX7_readEither_3 : decode cX7_readEither 3 = .ok (.istore 4, 2) := by decide +kernel
theorem dX7_readEither_5 : decode cX7_readEither 5 = .ok (.iconst 1, 1) := by decide +kernel
theorem dX7_readEither_6 : decode cX7_readEither 6 = .ok (.istore 5, 2) := by decide +kernel
theorem dX7_readEither_8 : decode cX7_readEither 8 = .ok (.iconst 0, 1) := by decide +kernel
theorem dX7_readEither_9 : decode cX7_readEither 9 = .ok (.istore 6, 2) := by decide +kernel
theorem dX7_readEither_11 : decode cX7_readEither 11 = .ok (.iload 5, 2) := by decide +kernel
theorem dX7_readEither_13 : decode cX7_readEither 13 = .ok (.ifCond .eq 117, 3) := by decide +kernel
theorem dX7_readEither_16 : decode cX7_readEither 16 = .ok (.iload 6, 2) := by decide +kernel
theorem dX7_readEither_18 : decode cX7_readEither 18 = .ok (.bipush 100, 2) := by decide +kernel
theorem dX7_readEither_20 : decode cX7_readEither 20 = .ok (.if_icmp .ge 110, 3) := by decide +kernel
theorem dX7_readEither_23 : decode cX7_readEither 23 = .ok (.aload_n 0, 1) := by decide +kernel
theorem dX7_readEither_24 : decode cX7_readEither 24 = .ok (.aload_n 1, 1) := by decide +kernel
theorem dX7_readEither_25 : decode cX7_readEither 25 = .ok (.iload_n 2, 1) := by decide +kernel
theorem dX7_readEither_26 : decode cX7_readEither 26 = .ok (.invokevirtual 84, 3) := by decide +kernel
theorem dX7_readEither_29 : decode cX7_readEither 29 = .ok (.iload_n 3, 1) := by decide +kernel
theorem dX7_readEither_30 : decode cX7_readEither 30 = .ok (.ifCond .eq 8, 3) := by decide +kernel
theorem dX7_readEither_33 : decode cX7_readEither 33 = .ok (.aload_n 1, 1) := by decide +kernel
theorem dX7_readEither_34 : decode cX7_readEither 34 = .ok (.iconst (-1), 1) := by decide +kernel
theorem dX7_readEither_35 : decode cX7_readEither 35 = .ok (.invokevirtual 55, 3) := by decide +kernel
theorem dX7_readEither_38 : decode cX7_readEither 38 = .ok (.aload_n 0, 1) := by decide +kernel
theorem dX7_readEither_39 : decode cX7_readEither 39 = .ok (.invokevirtual 34, 3) := by decide +kernel
theorem dX7_readEither_42 : decode cX7_readEither 42 = .ok (.bipush 38, 2) := by decide +kernel
theorem dX7_readEither_44 : decode cX7_readEither 44 = .ok (.if_icmp .ne 7, 3) := by decide +kernel
theorem dX7_readEither_47 : decode cX7_readEither 47 = .ok (.iconst 1, 1) := by decide +kernel
theorem dX7_readEither_48 : decode cX7_readEither 48 = .ok (.goto 4, 3) := by decide +kernel
theorem dX7_readEither_51 : decode cX7_readEither 51 = .ok (.iconst 0, 1) := by decide +kernel
theorem dX7_readEither_52 : decode cX7_readEither 52 = .ok (.istore_n 3, 1) := by decide +kernel
theorem dX7_readEither_53 : decode cX7_readEither 53 = .ok (.iload_n 3, 1) := by decide +kernel
theorem dX7_readEither_54 : decode cX7_readEither 54 = .ok (.ifCond .ne 14, 3) := by decide +kernel
theorem dX7_readEither_57 : decode cX7_readEither 57 = .ok (.iload 4, 2) := by decide +kernel
theorem dX7_readEither_59 : decode cX7_readEither 59 = .ok (.ifCond .eq 9, 3) := by decide +kernel
theorem dX7_readEither_62 : decode cX7_readEither 62 = .ok (.aload_n 1, 1) := by decide +kernel
theorem dX7_readEither_63 : decode cX7_readEither 63 = .ok (.bipush (-2), 2) := by decide +kernel
theorem dX7_readEither_65 : decode cX7_readEither 65 = .ok (.invokevirtual 55, 3) := by decide +kernel
theorem dX7_readEither_68 : decode cX7_readEither 68 = .ok (.aload_n 0, 1) := by decide +kernel
theorem dX7_readEither_69 : decode cX7_readEither 69 = .ok (.invokevirtual 34, 3) := by decide +kernel
theorem dX7_readEither_72 : decode cX7_readEither 72 = .ok (.bipush 124, 2) := by decide +kernel
theorem dX7_readEither_74 : decode cX7_readEither 74 = .ok (.if_icmp .eq 12, 3) := by decide +kernel
theorem dX7_readEither_77 : decode cX7_readEither 77 = .ok (.iload_n 3, 1) := by decide +kernel
theorem dX7_readEither_78 : decode cX7_readEither 78 = .ok (.ifCond .eq 12, 3) := by decide +kernel
theorem dX7_readEither_81 : decode cX7_readEither 81 = .ok (.iload 4, 2) := by decide +kernel
theorem dX7_readEither_83 : decode cX7_readEither 83 = .ok (.ifCond .eq 7, 3) := by decide +kernel
theorem dX7_readEither_86 : decode cX7_readEither 86 = .ok (.iconst 1, 1) := by decide +kernel
theorem dX7_readEither_87 : decode cX7_readEither 87 = .ok (.goto 4, 3) := by decide +kernel
theorem dX7_readEither_90 : decode cX7_readEither 90 = .ok (.iconst 0, 1) := by decide +kernel
theorem dX7_readEither_91 : decode cX7_readEither 91 = .ok (.istore 4, 2) := by decide +kernel
theorem dX7_readEither_93 : decode cX7_readEither 93 = .ok (.iload_n 3, 1) := by decide +kernel
theorem dX7_readEither_94 : decode cX7_readEither 94 = .ok (.ifCond .ne 8, 3) := by decide +kernel
theorem dX7_readEither_97 : decode cX7_readEither 97 = .ok (.iload 4, 2) := by decide +kernel
theorem dX7_readEither_99 : decode cX7_readEither 99 = .ok (.ifCond .eq 7, 3) := by decide +kernel
theorem dX7_readEither_102 : decode cX7_readEither 102 = .ok (.iconst 1, 1) := by decide +kernel
theorem dX7_readEither_103 : decode cX7_readEither 103 = .ok (.goto 4, 3) := by decide +kernel
theorem dX7_readEither_106 : decode cX7_readEither 106 = .ok (.iconst 0, 1) := by decide +kernel
theorem dX7_readEither_107 : decode cX7_readEither 107 = .ok (.istore 5, 2) := by decide +kernel
theorem dX7_readEither_109 : decode cX7_readEither 109 = .ok (.iload 5, 2) := by decide +kernel
theorem dX7_readEither_111 : decode cX7_readEither 111 = .ok (.ifCond .eq 13, 3) := by decide +kernel
theorem dX7_readEither_114 : decode cX7_readEither 114 = .ok (.aload_n 0, 1) := by decide +kernel
theorem dX7_readEither_115 : decode cX7_readEither 115 = .ok (.dup, 1) := by decide +kernel
theorem dX7_readEither_116 : decode cX7_readEither 116 = .ok (.getfield 19, 3) := by decide +kernel
theorem dX7_readEither_119 : decode cX7_readEither 119 = .ok (.iconst 1, 1) := by decide +kernel
theorem dX7_readEither_120 : decode cX7_readEither 120 = .ok (.iadd, 1) := by decide +kernel
theorem dX7_readEither_121 : decode cX7_readEither 121 = .ok (.putfield 19, 3) := by decide +kernel
theorem dX7_readEither_124 : decode cX7_readEither 124 = .ok (.iinc 6 1, 3) := by decide +kernel
theorem dX7_readEither_127 : decode cX7_readEither 127 = .ok (.goto (-116), 3) := by decide +kernel
theorem dX7_readEither_130 : decode cX7_readEither 130 = .ok (.return_, 1) := by decide +kernel
set_option maxRecDepth 100000 in
set_option maxHeartbeats 4000000 in
theorem w_X7_readEither_l11 {hh : Nat} {p : Program} {l : Launch} {e : Env} {R : Room} {s : State} {m : MethodId} {args : Array Value} {below : List Frame} {meth : Method} {c : Code} {cells slots : Nat} {Q : State → Prop} {K : KG} {ad : Nat → Nat → Nat} {fl : Nat} {one : Nat → Int32 → Mem → Option Mem} {g1 : Nat} {g2 : Int32} (C : Cx p s m args meth c cX7_readEither 7 "GlassPalace$Script" none) (hR : hh + 1 ≤ R.frames ∧ 40 * (hh + 1) ≤ R.locals) (hB : cells ≤ R.cells ∧ slots ≤ R.slots) (hone : ∀ (a1 : Nat) (a2 : Int32) (M M9 : Mem), one a1 a2 M = some M9 → Met l yX7_readOne (Cond.code yX7_readOne cX7_readOne 4 none :: ztb) (RM hh 0 0) (zPc K LC ad M [.ref (ad 5 0), rf (ad 19) a1, .int a2]) (zQ K LC ad none M9) 0 0 (zA ad)) (hhb : 20 ≤ hh) : ∀ (n : Nat) (u3 : Int32) (u4 : Int32) (u5 : Int32) (u6 : Int32) (M0 : Mem) (H : Heap) (locs : List Loc) (ls : Array Slot), Zd K LC ad M0 s H locs → lv_has ls 7 [(0, .ref (ad 5 0)), (1, rf (ad 19) g1), (2, .int g2), (3, .int u3), (4, .int u4), (5, .int u5), (6, .int u6)] → ∀ (Mq : Mem), f_X7_readEither_l11 fl one g1 g2 n u3 u4 u5 u6 M0 = some Mq → (∀ (H : Heap) (locs : List Loc) (ls : Array Slot), Zd K LC ad Mq s H locs → lv_has ls 7 [] → W p l e R s m args below meth c H locs cells slots Q (F0 m 130 ls [])) → W p l e R s m args below meth c H locs cells slots Q (F0 m 11 ls []) := by
  intro n
  induction n with
  | zero =>
    intro u3 u4 u5 u6 M0 H locs ls Z hl Mq hf
    have hf : (none : Option (Mem)) = some Mq := hf
    cases hf
  | succ n ih =>
    intro u3 u4 u5 u6 M0 H locs ls Z hl Mq hf kx0
    replace hf : f_X7_readEither_l11_b (f_X7_readEither_l11 fl one g1 g2 n) fl one g1 g2 u3 u4 u5 u6 M0 = some Mq := hf
    unfold f_X7_readEither_l11_b at hf
    refine lv_iload C.x C.b dX7_readEither_11 (lv_at hl 5 rfl) ?_
    refine lv_if_eq (tgt := 130) C.x C.b dX7_readEither_13 (by decide) (fun hc1 => ?_) (fun hc1 => ?_)
    · replace hf := ite_t hf hc1
      obtain rfl := sm_s hf
      exact kx0 _ _ _ Z (lv_sub hl [] rfl)
    · replace hf := ite_f hf hc1
      refine lv_iload C.x C.b dX7_readEither_16 (lv_at hl 6 rfl) ?_
      refine lv_bipush (v := 100) C.x C.b dX7_readEither_18 (by decide) ?_
      refine lv_icmp_ge (tgt := 130) C.x C.b dX7_readEither_20 (by decide) (fun hc2 => ?_) (fun hc2 => ?_)
      · replace hf := ite_t hf hc2
        obtain rfl := sm_s hf
        exact kx0 _ _ _ Z (lv_sub hl [] rfl)
      · replace hf := ite_f hf hc2
        refine lv_aload_n C.x C.b dX7_readEither_23 rfl (lv_at hl 0 rfl) ?_
        refine z_aload_n C dX7_readEither_24 rfl (lv_at hl 1 rfl) ?_
        refine lv_iload_n C.x C.b dX7_readEither_25 rfl (lv_at hl 2 rfl) ?_
        replace hf := bn1_s hf; obtain ⟨m3, hkm3, hf⟩ := hf
        refine z_cV (As := [rf (ad 19) g1, .int g2]) (rest := []) (st1 := []) C Z mw_X7_readOne mv_X7_readOne k_776 (by decide) (z_hR hR (by omega)) (lvC5 Nat.zero_lt_one) kC5 zc7 (hone _ _ _ _ hkm3) rfl hl.1 rfl (Nat.le_of_ble_eq_true rfl) dX7_readEither_26 hB rfl (fun H locs Z => ?_)
        refine lv_iload_n C.x C.b dX7_readEither_29 rfl (lv_at hl 3 rfl) ?_
        replace hf := bn1_s hf; obtain ⟨m5, hq4, hf⟩ := hf
        have kq4 : ∀ (H : Heap) (locs : List Loc) (ls : Array Slot), Zd K LC ad m5 s H locs → lv_has ls 7 [(0, .ref (ad 5 0)), (1, rf (ad 19) g1), (2, .int g2), (4, .int u4), (6, .int u6)] → W p l e R s m args below meth c H locs cells slots Q (F0 m 38 ls []) := by
          intro H locs ls Z hl
          refine lv_aload_n C.x C.b dX7_readEither_38 rfl (lv_at hl 0 rfl) ?_
          replace hf := bn2_s hf; obtain ⟨v7, m6, hkm6, hf⟩ := hf
          refine z_cV (As := []) (rest := []) (st1 := [.int v7]) C Z mw_X7_look mv_X7_look k_780 (by decide) (z_hR hR (by omega)) (lvC5 Nat.zero_lt_one) kC5 zc7 (c_X7_look (l := l) (K := K) (ad := ad) hkm6) rfl hl.1 rfl (Nat.le_of_ble_eq_true rfl) dX7_readEither_39 hB rfl (fun H locs Z => ?_)
          refine lv_bipush (v := 38) C.x C.b dX7_readEither_42 (by decide) ?_
          replace hf := bn2_s hf; obtain ⟨q8, m9, hq8, hf⟩ := hf
          have kq8 : ∀ (H : Heap) (locs : List Loc) (ls : Array Slot), Zd K LC ad m9 s H locs → lv_has ls 7 [(0, .ref (ad 5 0)), (1, rf (ad 19) g1), (2, .int g2), (4, .int u4), (6, .int u6)] → W p l e R s m args below meth c H locs cells slots Q (F0 m 52 ls [.int q8]) := by
            intro H locs ls Z hl
            refine z_istore_n (lv' := [(3, .int q8), (0, .ref (ad 5 0)), (1, rf (ad 19) g1), (2, .int g2), (4, .int u4), (6, .int u6)]) C dX7_readEither_52 rfl hl (by decide) rfl (onlast 2 rfl rfl rfl) (fun ls hl => ?_)
            refine lv_iload_n C.x C.b dX7_readEither_53 rfl (lv_at hl 0 rfl) ?_
            replace hf := bn1_s hf; obtain ⟨m11, hq10, hf⟩ := hf
            have kq10 : ∀ (H : Heap) (locs : List Loc) (ls : Array Slot), Zd K LC ad m11 s H locs → lv_has ls 7 [(0, .ref (ad 5 0)), (1, rf (ad 19) g1), (2, .int g2), (3, .int q8), (4, .int u4), (6, .int u6)] → W p l e R s m args below meth c H locs cells slots Q (F0 m 68 ls []) := by
              intro H locs ls Z hl
              refine lv_aload_n C.x C.b dX7_readEither_68 rfl (lv_at hl 0 rfl) ?_
              replace hf := bn2_s hf; obtain ⟨v13, m12, hkm12, hf⟩ := hf
              refine z_cV (As := []) (rest := []) (st1 := [.int v13]) C Z mw_X7_look mv_X7_look k_780 (by decide) (z_hR hR (by omega)) (lvC5 Nat.zero_lt_one) kC5 zc7 (c_X7_look (l := l) (K := K) (ad := ad) hkm12) rfl hl.1 rfl (Nat.le_of_ble_eq_true rfl) dX7_readEither_69 hB rfl (fun H locs Z => ?_)
              refine lv_bipush (v := 124) C.x C.b dX7_readEither_72 (by decide) ?_
              replace hf := bn2_s hf; obtain ⟨q14, m15, hq14, hf⟩ := hf
              have kq14 : ∀ (H : Heap) (locs : List Loc) (ls : Array Slot), Zd K LC ad m15 s H locs → lv_has ls 7 [(0, .ref (ad 5 0)), (1, rf (ad 19) g1), (2, .int g2), (3, .int q8), (6, .int u6)] → W p l e R s m args below meth c H locs cells slots Q (F0 m 91 ls [.int q14]) := by
                intro H locs ls Z hl
                refine z_istore (lv' := [(4, .int q14), (0, .ref (ad 5 0)), (1, rf (ad 19) g1), (2, .int g2), (3, .int q8), (6, .int u6)]) C dX7_readEither_91 hl (by decide) rfl (onlast 3 rfl rfl rfl) (fun ls hl => ?_)
                refine lv_iload_n C.x C.b dX7_readEither_93 rfl (lv_at hl 4 rfl) ?_
                replace hf := bn2_s hf; obtain ⟨q16, m17, hq16, hf⟩ := hf
                have kq16 : ∀ (H : Heap) (locs : List Loc) (ls : Array Slot), Zd K LC ad m17 s H locs → lv_has ls 7 [(0, .ref (ad 5 0)), (1, rf (ad 19) g1), (2, .int g2), (3, .int q8), (4, .int q14), (6, .int u6)] → W p l e R s m args below meth c H locs cells slots Q (F0 m 107 ls [.int q16]) := by
                  intro H locs ls Z hl
                  refine z_istore (lv' := [(5, .int q16), (0, .ref (ad 5 0)), (1, rf (ad 19) g1), (2, .int g2), (3, .int q8), (4, .int q14), (6, .int u6)]) C dX7_readEither_107 hl (by decide) rfl (onlast 4 rfl rfl rfl) (fun ls hl => ?_)
                  refine lv_iload C.x C.b dX7_readEither_109 (lv_at hl 0 rfl) ?_
                  refine lv_if_eq (tgt := 124) C.x C.b dX7_readEither_111 (by decide) (fun hc18 => ?_) (fun hc18 => ?_)
                  · replace hf := ite_t hf hc18
                    replace hf := lt1_s hf; obtain ⟨x19, ex19, hf⟩ := hf
                    refine z_iinc (v := x19) (lv' := [(6, .int x19), (5, .int q16), (0, .ref (ad 5 0)), (1, rf (ad 19) g1), (2, .int g2), (3, .int q8), (4, .int q14)]) C dX7_readEither_124 hl (k := 6) rfl (by rw [ex19]; rfl) (by decide) rfl (onlast 0 rfl rfl rfl) (fun ls hl => ?_)
                    refine lv_goto (tgt := 11) C.x C.b dX7_readEither_127 (by decide) ?_
                    exact ih _ _ _ _ _ _ _ _ Z (lv_sub hl [2, 3, 4, 5, 6, 1, 0] rfl) _ hf kx0
                  · replace hf := ite_f hf hc18
                    refine lv_aload_n C.x C.b dX7_readEither_114 rfl (lv_at hl 1 rfl) ?_
                    refine lv_dup C.x C.b dX7_readEither_115 rfl ?_
                    refine z_get C Z (lvC5 Nat.zero_lt_one) kC5 zc7 zin7 2 (by decide) k_144 rfl svC5_2 dX7_readEither_116 ?_
                    refine lv_iconst (v := 1) C.x C.b dX7_readEither_119 (by decide) ?_
                    refine lv_iadd C.x C.b dX7_readEither_120 ?_
                    replace hf := lt1_s hf; obtain ⟨m20, em20, hf⟩ := hf
                    refine z_put (M1 := m20) C Z (lvC5 Nat.zero_lt_one) (by decide) kC5 zc7 zin7 tyX7_ok nmX7 2 (by decide) k_144 rfl (zUp_I em20 stC5_2u) (Or.inl rfl) rfl rfl dX7_readEither_121 (fun H locs Z => ?_)
                    replace hf := lt1_s hf; obtain ⟨x21, ex21, hf⟩ := hf
                    refine z_iinc (v := x21) (lv' := [(6, .int x21), (5, .int q16), (0, .ref (ad 5 0)), (1, rf (ad 19) g1), (2, .int g2), (3, .int q8), (4, .int q14)]) C dX7_readEither_124 hl (k := 6) rfl (by rw [ex21]; rfl) (by decide) rfl (onlast 0 rfl rfl rfl) (fun ls hl => ?_)
                    refine lv_goto (tgt := 11) C.x C.b dX7_readEither_127 (by decide) ?_
                    exact ih _ _ _ _ _ _ _ _ Z (lv_sub hl [2, 3, 4, 5, 6, 1, 0] rfl) _ hf kx0
                clear hf
                refine lv_if_ne (tgt := 102) C.x C.b dX7_readEither_94 (by decide) (fun hc22 => ?_) (fun hc22 => ?_)
                · have hf := ite_f hq16 hc22; clear hq16
                  refine lv_iconst (v := 1) C.x C.b dX7_readEither_102 (by decide) ?_
                  refine lv_goto (tgt := 107) C.x C.b dX7_readEither_103 (by decide) ?_
                  obtain ⟨rfl, rfl⟩ := pr_s hf
                  exact kq16 _ _ _ Z (lv_sub hl [1, 2, 3, 4, 0, 5] rfl)
                · have hf := ite_t hq16 hc22; clear hq16
                  refine lv_iload C.x C.b dX7_readEither_97 (lv_at hl 0 rfl) ?_
                  refine lv_if_eq (tgt := 106) C.x C.b dX7_readEither_99 (by decide) (fun hc23 => ?_) (fun hc23 => ?_)
                  · replace hf := ite_t hf hc23
                    refine lv_iconst (v := 0) C.x C.b dX7_readEither_106 (by decide) ?_
                    obtain ⟨rfl, rfl⟩ := pr_s hf
                    exact kq16 _ _ _ Z (lv_sub hl [1, 2, 3, 4, 0, 5] rfl)
                  · replace hf := ite_f hf hc23
                    refine lv_iconst (v := 1) C.x C.b dX7_readEither_102 (by decide) ?_
                    refine lv_goto (tgt := 107) C.x C.b dX7_readEither_103 (by decide) ?_
                    obtain ⟨rfl, rfl⟩ := pr_s hf
                    exact kq16 _ _ _ Z (lv_sub hl [1, 2, 3, 4, 0, 5] rfl)
              clear hf
              refine lv_icmp_eq (tgt := 86) C.x C.b dX7_readEither_74 (by decide) (fun hc24 => ?_) (fun hc24 => ?_)
              · have hf := ite_t hq14 hc24; clear hq14
                refine lv_iconst (v := 1) C.x C.b dX7_readEither_86 (by decide) ?_
                refine lv_goto (tgt := 91) C.x C.b dX7_readEither_87 (by decide) ?_
                obtain ⟨rfl, rfl⟩ := pr_s hf
                exact kq14 _ _ _ Z (lv_sub hl [0, 1, 2, 3, 5] rfl)
              · have hf := ite_f hq14 hc24; clear hq14
                refine lv_iload_n C.x C.b dX7_readEither_77 rfl (lv_at hl 3 rfl) ?_
                refine lv_if_eq (tgt := 90) C.x C.b dX7_readEither_78 (by decide) (fun hc25 => ?_) (fun hc25 => ?_)
                · replace hf := ite_t hf hc25
                  refine lv_iconst (v := 0) C.x C.b dX7_readEither_90 (by decide) ?_
                  obtain ⟨rfl, rfl⟩ := pr_s hf
                  exact kq14 _ _ _ Z (lv_sub hl [0, 1, 2, 3, 5] rfl)
                · replace hf := ite_f hf hc25
                  refine lv_iload C.x C.b dX7_readEither_81 (lv_at hl 4 rfl) ?_
                  refine lv_if_eq (tgt := 90) C.x C.b dX7_readEither_83 (by decide) (fun hc26 => ?_) (fun hc26 => ?_)
                  · replace hf := ite_t hf hc26
                    refine lv_iconst (v := 0) C.x C.b dX7_readEither_90 (by decide) ?_
                    obtain ⟨rfl, rfl⟩ := pr_s hf
                    exact kq14 _ _ _ Z (lv_sub hl [0, 1, 2, 3, 5] rfl)
                  · replace hf := ite_f hf hc26
                    refine lv_iconst (v := 1) C.x C.b dX7_readEither_86 (by decide) ?_
                    refine lv_goto (tgt := 91) C.x C.b dX7_readEither_87 (by decide) ?_
                    obtain ⟨rfl, rfl⟩ := pr_s hf
                    exact kq14 _ _ _ Z (lv_sub hl [0, 1, 2, 3, 5] rfl)
            clear hf
            refine lv_if_ne (tgt := 68) C.x C.b dX7_readEither_54 (by decide) (fun hc27 => ?_) (fun hc27 => ?_)
            · have hf := ite_f hq10 hc27; clear hq10
              obtain rfl := sm_s hf
              exact kq10 _ _ _ Z (lv_sub hl [1, 2, 3, 0, 4, 5] rfl)
            · have hf := ite_t hq10 hc27; clear hq10
              refine lv_iload C.x C.b dX7_readEither_57 (lv_at hl 4 rfl) ?_
              refine lv_if_eq (tgt := 68) C.x C.b dX7_readEither_59 (by decide) (fun hc28 => ?_) (fun hc28 => ?_)
              · replace hf := ite_t hf hc28
                obtain rfl := sm_s hf
                exact kq10 _ _ _ Z (lv_sub hl [1, 2, 3, 0, 4, 5] rfl)
              · replace hf := ite_f hf hc28
                refine z_aload_n C dX7_readEither_62 rfl (lv_at hl 2 rfl) ?_
                refine lv_bipush (v := (-2)) C.x C.b dX7_readEither_63 (by decide) ?_
                replace hf := drf_s hf; obtain ⟨j29, ej31, hj30, hf⟩ := hf
                subst ej31
                refine z_nn [.int (-2)] (y := j29 + 1) rfl ?_
                replace hf := bn1_s hf; obtain ⟨m32, hkm32, hf⟩ := hf
                refine z_cV (As := [.int (-2)]) (rest := []) (st1 := []) C Z mw_X9_addCode mv_X9_addCode k_784 (by decide) (z_hR hR (by omega)) (lvC19 hj30) kC19 zc9 (c_X9_addCode (l := l) (K := K) (ad := ad) hj30 hkm32) rfl hl.1 rfl (Nat.le_of_ble_eq_true rfl) dX7_readEither_65 hB rfl (fun H locs Z => ?_)
                obtain rfl := sm_s hf
                exact kq10 _ _ _ Z (lv_sub hl [1, 2, 3, 0, 4, 5] rfl)
          clear hf
          refine lv_icmp_ne (tgt := 51) C.x C.b dX7_readEither_44 (by decide) (fun hc33 => ?_) (fun hc33 => ?_)
          · have hf := ite_f hq8 hc33; clear hq8
            refine lv_iconst (v := 0) C.x C.b dX7_readEither_51 (by decide) ?_
            obtain ⟨rfl, rfl⟩ := pr_s hf
            exact kq8 _ _ _ Z (lv_sub hl [0, 1, 2, 3, 4] rfl)
          · have hf := ite_t hq8 hc33; clear hq8
            refine lv_iconst (v := 1) C.x C.b dX7_readEither_47 (by decide) ?_
            refine lv_goto (tgt := 52) C.x C.b dX7_readEither_48 (by decide) ?_
            obtain ⟨rfl, rfl⟩ := pr_s hf
            exact kq8 _ _ _ Z (lv_sub hl [0, 1, 2, 3, 4] rfl)
        clear hf
        refine lv_if_eq (tgt := 38) C.x C.b dX7_readEither_30 (by decide) (fun hc34 => ?_) (fun hc34 => ?_)
        · have hf := ite_t hq4 hc34; clear hq4
          obtain rfl := sm_s hf
          exact kq4 _ _ _ Z (lv_sub hl [0, 1, 2, 4, 6] rfl)
        · have hf := ite_f hq4 hc34; clear hq4
          refine z_aload_n C dX7_readEither_33 rfl (lv_at hl 1 rfl) ?_
          refine lv_iconst (v := (-1)) C.x C.b dX7_readEither_34 (by decide) ?_
          replace hf := drf_s hf; obtain ⟨j35, ej37, hj36, hf⟩ := hf
          subst ej37
          refine z_nn [.int (-1)] (y := j35 + 1) rfl ?_
          replace hf := bn1_s hf; obtain ⟨m38, hkm38, hf⟩ := hf
          refine z_cV (As := [.int (-1)]) (rest := []) (st1 := []) C Z mw_X9_addCode mv_X9_addCode k_784 (by decide) (z_hR hR (by omega)) (lvC19 hj36) kC19 zc9 (c_X9_addCode (l := l) (K := K) (ad := ad) hj36 hkm38) rfl hl.1 rfl (Nat.le_of_ble_eq_true rfl) dX7_readEither_35 hB rfl (fun H locs Z => ?_)
          obtain rfl := sm_s hf
          exact kq4 _ _ _ Z (lv_sub hl [0, 1, 2, 4, 6] rfl)
set_option maxRecDepth 100000 in
set_option maxHeartbeats 4000000 in
theorem c_X7_readEither {hh : Nat} {l : Launch} {K : KG} {ad : Nat → Nat → Nat} {fl : Nat} {one : Nat → Int32 → Mem → Option Mem} {a1 : Nat} {a2 : Int32} {M0 : Mem} {M9 : Mem} (hone : ∀ (a1 : Nat) (a2 : Int32) (M M9 : Mem), one a1 a2 M = some M9 → Met l yX7_readOne (Cond.code yX7_readOne cX7_readOne 4 none :: ztb) (RM hh 0 0) (zPc K LC ad M [.ref (ad 5 0), rf (ad 19) a1, .int a2]) (zQ K LC ad none M9) 0 0 (zA ad)) (hhb : 20 ≤ hh) (hf : f_X7_readEither fl one a1 a2 M0 = some M9) : Met l yX7_readEither (Cond.code yX7_readEither cX7_readEither 7 none :: ztb) (RM (hh + 1) 0 0) (zPc K LC ad M0 [.ref (ad 5 0), rf (ad 19) a1, .int a2]) (zQ K LC ad (none) M9) 0 0 (zA ad) := by
  refine z_enter (by decide) (by simp [lg_sl, rf_cat, cat_i, cat_l, cat_r, cat_n]) ?_
  intro p e s m args below meth c ls C hin hargs Z hl
  replace C : Cx p s m args meth c cX7_readEither 7 "GlassPalace$Script" none := C
  replace hl : lv_has ls 7 [(0, .ref (ad 5 0)), (1, rf (ad 19) a1), (2, .int a2)] := by simpa [lv_args, rf_cat, cat_i, cat_l, cat_r, cat_n] using hl
  have hR : hh + 1 ≤ (RM (hh + 1) 0 0).frames ∧ 40 * (hh + 1) ≤ (RM (hh + 1) 0 0).locals := ⟨Nat.le_refl _, Nat.le_refl _⟩
  have hB : 0 ≤ (RM (hh + 1) 0 0).cells ∧ 0 ≤ (RM (hh + 1) 0 0).slots := ⟨Nat.zero_le _, Nat.zero_le _⟩
  unfold f_X7_readEither at hf
  refine lv_iconst (v := 0) C.x C.b dX7_readEither_0 (by decide) ?_
  refine z_istore_n (lv' := [(3, .int 0), (0, .ref (ad 5 0)), (1, rf (ad 19) a1), (2, .int a2)]) C dX7_readEither_1 rfl hl (by decide) rfl (onlast 2 rfl rfl rfl) (fun ls hl => ?_)
  refine lv_iconst (v := 0) C.x C.b dX7_readEither_2 (by decide) ?_
  refine z_istore (lv' := [(4, .int 0), (3, .int 0), (0, .ref (ad 5 0)), (1, rf (ad 19) a1), (2, .int a2)]) C dX7_readEither_3 hl (by decide) rfl (onlast 0 rfl rfl rfl) (fun ls hl => ?_)
  refine lv_iconst (v := 1) C.x C.b dX7_readEither_5 (by decide) ?_
  refine z_istore (lv' := [(5, .int 1), (4, .int 0), (3, .int 0), (0, .ref (ad 5 0)), (1, rf (ad 19) a1), (2, .int a2)]) C dX7_readEither_6 hl (by decide) rfl (onlast 0 rfl rfl rfl) (fun ls hl => ?_)
  refine lv_iconst (v := 0) C.x C.b dX7_readEither_8 (by decide) ?_
  refine z_istore (lv' := [(6, .int 0), (5, .int 1), (4, .int 0), (3, .int 0), (0, .ref (ad 5 0)), (1, rf (ad 19) a1), (2, .int a2)]) C dX7_readEither_9 hl (by decide) rfl (onlast 0 rfl rfl rfl) (fun ls hl => ?_)
  replace hf := bn1_s hf; obtain ⟨m40, hq39, hf⟩ := hf
  refine w_X7_readEither_l11 C hR hB hone hhb  fl _ _ _ _ _ _ _ _ Z (lv_sub hl [4, 5, 6, 3, 2, 1, 0] rfl) _ hq39 (fun H locs ls Z hl => ?_)
  obtain rfl := sm_s hf
  exact z_vret C Z dX7_readEither_130
theorem dX7_readNumber_0 : decode cX7_readNumber 0 = .ok (.iconst 0, 1) := by decide +kernel
theorem dX7_readNumber_1 : decode cX7_readNumber 1 = .ok (.istore_n 1, 1) := by decide +kernel
theorem dX7_readNumber_2 : decode cX7_readNumber 2 = .ok (.iconst 0, 1) := by decide +kernel
theorem dX7_readNumber_3 : decode cX7_readNumber 3 = .ok (.istore_n 2, 1) := by decide +kernel
theorem dX7_readNumber_4 : decode cX7_readNumber 4 = .ok (.iload_n 2, 1) := by decide +kernel
theorem dX7_readNumber_5 : decode cX7_readNumber 5 = .ok (.iconst 3, 1) := by decide +kernel
theorem dX7_readNumber_6 : decode cX7_readNumber 6 = .ok (.if_icmp .ge 50, 3) := by decide +kernel
theorem dX7_readNumber_9 : decode cX7_readNumber 9 = .ok (.aload_n 0, 1) := by decide +kernel
theorem dX7_readNumber_10 : decode cX7_readNumber 10 = .ok (.invokevirtual 34, 3) := by decide +kernel
theorem dX7_readNumber_13 : decode cX7_readNumber 13 = .ok (.bipush 48, 2) := by decide +kernel
theorem dX7_readNumber_15 : decode cX7_readNumber 15 = .ok (.if_icmp .lt 41, 3) := by decide +kernel
theorem dX7_readNumber_18 : decode cX7_readNumber 18 = .ok (.aload_n 0, 1) := by decide +kernel
theorem dX7_readNumber_19 : decode cX7_readNumber 19 = .ok (.invokevirtual 34, 3) := by decide +kernel
theorem dX7_readNumber_22 : decode cX7_readNumber 22 = .ok (.bipush 57, 2) := by decide +kernel
theorem dX7_readNumber_24 : decode cX7_readNumber 24 = .ok (.if_icmp .gt 32, 3) := by decide +kernel
theorem dX7_readNumber_27 : decode cX7_readNumber 27 = .ok (.bipush 10, 2) := by decide +kernel
theorem dX7_readNumber_29 : decode cX7_readNumber 29 = .ok (.iload_n 1, 1) := by decide +kernel
theorem dX7_readNumber_30 : decode cX7_readNumber 30 = .ok (.imul, 1) := by decide +kernel
theorem dX7_readNumber_31 : decode cX7_readNumber 31 = .ok (.aload_n 0, 1) := by decide +kernel
theorem dX7_readNumber_32 : decode cX7_readNumber 32 = .ok (.invokevirtual 34, 3) := by decide +kernel
theorem dX7_readNumber_35 : decode cX7_readNumber 35 = .ok (.iadd, 1) := by decide +kernel
theorem dX7_readNumber_36 : decode cX7_readNumber 36 = .ok (.bipush 48, 2) := by decide +kernel
theorem dX7_readNumber_38 : decode cX7_readNumber 38 = .ok (.isub, 1) := by decide +kernel
theorem dX7_readNumber_39 : decode cX7_readNumber 39 = .ok (.istore_n 1, 1) := by decide +kernel
theorem dX7_readNumber_40 : decode cX7_readNumber 40 = .ok (.iinc 2 1, 3) := by decide +kernel
theorem dX7_readNumber_43 : decode cX7_readNumber 43 = .ok (.aload_n 0, 1) := by decide +kernel
theorem dX7_readNumber_44 : decode cX7_readNumber 44 = .ok (.dup, 1) := by decide +kernel
theorem dX7_readNumber_45 : decode cX7_readNumber 45 = .ok (.getfield 19, 3) := by decide +kernel
theorem dX7_readNumber_48 : decode cX7_readNumber 48 = .ok (.iconst 1, 1) := by decide +kernel
theorem dX7_readNumber_49 : decode cX7_readNumber 49 = .ok (.iadd, 1) := by decide +kernel
theorem dX7_readNumber_50 : decode cX7_readNumber 50 = .ok (.putfield 19, 3) := by decide +kernel
theorem dX7_readNumber_53 : decode cX7_readNumber 53 = .ok (.goto (-49), 3) := by decide +kernel
theorem dX7_readNumber_56 : decode cX7_readNumber 56 = .ok (.iload_n 2, 1) := by decide +kernel
theorem dX7_readNumber_57 : decode cX7_readNumber 57 = .ok (.ifCond .ne 7, 3) := by decide +kernel
theorem dX7_readNumber_60 : decode cX7_readNumber 60 = .ok (.aload_n 0, 1) := by decide +kernel
theorem dX7_readNumber_61 : decode cX7_readNumber 61 = .ok (.invokevirtual 38, 3) := by decide +kernel
theorem dX7_readNumber_64 : decode cX7_readNumber 64 = .ok (.iload_n 1, 1) := by decide +kernel
theorem dX7_readNumber_65 : decode cX7_readNumber 65 = .ok (.ireturn, 1) := by decide +kernel
set_option maxRecDepth 100000 in
set_option maxHeartbeats 4000000 in
theorem w_X7_readNumber_l4 {p : Program} {l : Launch} {e : Env} {R : Room} {s : State} {m : MethodId} {args : Array Value} {below : List Frame} {meth : Method} {c : Code} {cells slots : Nat} {Q : State → Prop} {K : KG} {ad : Nat → Nat → Nat} {fl : Nat} (C : Cx p s m args meth c cX7_readNumber 3 "GlassPalace$Script" (some .int)) (hR : 2 ≤ R.frames ∧ 40 * (2) ≤ R.locals) (hB : cells ≤ R.cells ∧ slots ≤ R.slots) : ∀ (n : Nat) (u1 : Int32) (u2 : Int32) (M0 : Mem) (H : Heap) (locs : List Loc) (ls : Array Slot), Zd K LC ad M0 s H locs → lv_has ls 3 [(0, .ref (ad 5 0)), (1, .int u1), (2, .int u2)] → ∀ (q : Int32 × Int32) (Mq : Mem), f_X7_readNumber_l4 fl  n u1 u2 M0 = some (q, Mq) → (∀ (H : Heap) (locs : List Loc) (ls : Array Slot), Zd K LC ad Mq s H locs → lv_has ls 3 [(0, .ref (ad 5 0)), (1, .int q.1), (2, .int q.2)] → W p l e R s m args below meth c H locs cells slots Q (F0 m 56 ls [])) → W p l e R s m args below meth c H locs cells slots Q (F0 m 4 ls []) := by
  intro n
  induction n with
  | zero =>
    intro u1 u2 M0 H locs ls Z hl q Mq hf
    have hf : (none : Option ((Int32 × Int32) × Mem)) = some (q, Mq) := hf
    cases hf
  | succ n ih =>
    intro u1 u2 M0 H locs ls Z hl q Mq hf kx0
    replace hf : f_X7_readNumber_l4_b (f_X7_readNumber_l4 fl  n) fl  u1 u2 M0 = some (q, Mq) := hf
    unfold f_X7_readNumber_l4_b at hf
    refine lv_iload_n C.x C.b dX7_readNumber_4 rfl (lv_at hl 2 rfl) ?_
    refine lv_iconst (v := 3) C.x C.b dX7_readNumber_5 (by decide) ?_
    refine lv_icmp_ge (tgt := 56) C.x C.b dX7_readNumber_6 (by decide) (fun hc1 => ?_) (fun hc1 => ?_)
    · replace hf := ite_t hf hc1
      obtain ⟨rfl, rfl⟩ := pr_s hf
      exact kx0 _ _ _ Z (lv_sub hl [0, 1, 2] rfl)
    · replace hf := ite_f hf hc1
      refine lv_aload_n C.x C.b dX7_readNumber_9 rfl (lv_at hl 0 rfl) ?_
      replace hf := bn2_s hf; obtain ⟨v3, m2, hkm2, hf⟩ := hf
      refine z_cV (As := []) (rest := []) (st1 := [.int v3]) C Z mw_X7_look mv_X7_look k_780 (by decide) (z_hR hR (by decide)) (lvC5 Nat.zero_lt_one) kC5 zc7 (c_X7_look (l := l) (K := K) (ad := ad) hkm2) rfl hl.1 rfl (Nat.le_of_ble_eq_true rfl) dX7_readNumber_10 hB rfl (fun H locs Z => ?_)
      refine lv_bipush (v := 48) C.x C.b dX7_readNumber_13 (by decide) ?_
      refine lv_icmp_lt (tgt := 56) C.x C.b dX7_readNumber_15 (by decide) (fun hc4 => ?_) (fun hc4 => ?_)
      · replace hf := ite_t hf hc4
        obtain ⟨rfl, rfl⟩ := pr_s hf
        exact kx0 _ _ _ Z (lv_sub hl [0, 1, 2] rfl)
      · replace hf := ite_f hf hc4
        refine lv_aload_n C.x C.b dX7_readNumber_18 rfl (lv_at hl 0 rfl) ?_
        replace hf := bn2_s hf; obtain ⟨v6, m5, hkm5, hf⟩ := hf
        refine z_cV (As := []) (rest := []) (st1 := [.int v6]) C Z mw_X7_look mv_X7_look k_780 (by decide) (z_hR hR (by decide)) (lvC5 Nat.zero_lt_one) kC5 zc7 (c_X7_look (l := l) (K := K) (ad := ad) hkm5) rfl hl.1 rfl (Nat.le_of_ble_eq_true rfl) dX7_readNumber_19 hB rfl (fun H locs Z => ?_)
        refine lv_bipush (v := 57) C.x C.b dX7_readNumber_22 (by decide) ?_
        refine lv_icmp_gt (tgt := 56) C.x C.b dX7_readNumber_24 (by decide) (fun hc7 => ?_) (fun hc7 => ?_)
        · replace hf := ite_t hf hc7
          obtain ⟨rfl, rfl⟩ := pr_s hf
          exact kx0 _ _ _ Z (lv_sub hl [0, 1, 2] rfl)
        · replace hf := ite_f hf hc7
          refine lv_bipush (v := 10) C.x C.b dX7_readNumber_27 (by decide) ?_
          refine lv_iload_n C.x C.b dX7_readNumber_29 rfl (lv_at hl 1 rfl) ?_
          refine lv_imul C.x C.b dX7_readNumber_30 ?_
          refine lv_aload_n C.x C.b dX7_readNumber_31 rfl (lv_at hl 0 rfl) ?_
          replace hf := bn2_s hf; obtain ⟨v9, m8, hkm8, hf⟩ := hf
          refine z_cV (As := []) (rest := [.int (10 * u1)]) (st1 := [.int v9, .int (10 * u1)]) C Z mw_X7_look mv_X7_look k_780 (by decide) (z_hR hR (by decide)) (lvC5 Nat.zero_lt_one) kC5 zc7 (c_X7_look (l := l) (K := K) (ad := ad) hkm8) rfl hl.1 rfl (Nat.le_of_ble_eq_true rfl) dX7_readNumber_32 hB rfl (fun H locs Z => ?_)
          refine lv_iadd C.x C.b dX7_readNumber_35 ?_
          refine lv_bipush (v := 48) C.x C.b dX7_readNumber_36 (by decide) ?_
          refine lv_isub C.x C.b dX7_readNumber_38 ?_
          replace hf := lt1_s hf; obtain ⟨x10, ex10, hf⟩ := hf
          refine z_renI ex10 ?_
          refine z_istore_n (lv' := [(1, .int x10), (0, .ref (ad 5 0)), (2, .int u2)]) C dX7_readNumber_39 rfl hl (by decide) rfl (onlast 0 rfl rfl rfl) (fun ls hl => ?_)
          replace hf := lt1_s hf; obtain ⟨x11, ex11, hf⟩ := hf
          refine z_iinc (v := x11) (lv' := [(2, .int x11), (1, .int x10), (0, .ref (ad 5 0))]) C dX7_readNumber_40 hl (k := 2) rfl (by rw [ex11]; rfl) (by decide) rfl (onlast 0 rfl rfl rfl) (fun ls hl => ?_)
          refine lv_aload_n C.x C.b dX7_readNumber_43 rfl (lv_at hl 2 rfl) ?_
          refine lv_dup C.x C.b dX7_readNumber_44 rfl ?_
          refine z_get C Z (lvC5 Nat.zero_lt_one) kC5 zc7 zin7 2 (by decide) k_144 rfl svC5_2 dX7_readNumber_45 ?_
          refine lv_iconst (v := 1) C.x C.b dX7_readNumber_48 (by decide) ?_
          refine lv_iadd C.x C.b dX7_readNumber_49 ?_
          replace hf := lt1_s hf; obtain ⟨m12, em12, hf⟩ := hf
          refine z_put (M1 := m12) C Z (lvC5 Nat.zero_lt_one) (by decide) kC5 zc7 zin7 tyX7_ok nmX7 2 (by decide) k_144 rfl (zUp_I em12 stC5_2u) (Or.inl rfl) rfl rfl dX7_readNumber_50 (fun H locs Z => ?_)
          refine lv_goto (tgt := 4) C.x C.b dX7_readNumber_53 (by decide) ?_
          exact ih _ _ _ _ _ _ Z (lv_sub hl [2, 1, 0] rfl) _ _ hf kx0
set_option maxRecDepth 100000 in
set_option maxHeartbeats 4000000 in
theorem w_X7_readNumber_b56 {p : Program} {l : Launch} {e : Env} {s : State} {m : MethodId} {args : Array Value} {below : List Frame} {meth : Method} {c : Code} {K : KG} {ad : Nat → Nat → Nat} {fl : Nat} {H : Heap} {locs : List Loc} {ls : Array Slot} {g1 : Int32} {g2 : Int32} {M0 : Mem} {r9 : Int32} {M9 : Mem} (C : Cx p s m args meth c cX7_readNumber 3 "GlassPalace$Script" (some .int)) (hR : 2 ≤ (RM (2) 0 0).frames ∧ 40 * (2) ≤ (RM (2) 0 0).locals) (hB : 0 ≤ (RM (2) 0 0).cells ∧ 0 ≤ (RM (2) 0 0).slots) (Z : Zd K LC ad M0 s H locs) (hl : lv_has ls 3 [(0, .ref (ad 5 0)), (1, .int g1), (2, .int g2)]) (hf : f_X7_readNumber_b56 fl g1 g2 M0 = some (r9, M9)) : W p l e (RM (2) 0 0) s m args below meth c H locs 0 0 (MQ below (zQ K LC ad (some (.int r9)) M9) args s 0 0 (zA ad)) (F0 m 56 ls []) := by
  unfold f_X7_readNumber_b56 at hf
  refine lv_iload_n C.x C.b dX7_readNumber_56 rfl (lv_at hl 2 rfl) ?_
  refine lv_if_ne (tgt := 64) C.x C.b dX7_readNumber_57 (by decide) (fun hc15 => ?_) (fun hc15 => ?_)
  · replace hf := ite_f hf hc15
    refine lv_iload_n C.x C.b dX7_readNumber_64 rfl (lv_at hl 1 rfl) ?_
    obtain ⟨rfl, rfl⟩ := pr_s hf
    exact z_iret C Z dX7_readNumber_65
  · replace hf := ite_t hf hc15
    refine lv_aload_n C.x C.b dX7_readNumber_60 rfl (lv_at hl 0 rfl) ?_
    replace hf := bn1_s hf; obtain ⟨m16, hkm16, hf⟩ := hf
    refine z_cV (As := []) (rest := []) (st1 := []) C Z mw_X7_fail mv_X7_fail k_764 (by decide) (z_hR hR (by decide)) (lvC5 Nat.zero_lt_one) kC5 zc7 (c_X7_fail (l := l) (K := K) (ad := ad) hkm16) rfl hl.1 rfl (Nat.le_of_ble_eq_true rfl) dX7_readNumber_61 hB rfl (fun H locs Z => ?_)
    refine lv_iload_n C.x C.b dX7_readNumber_64 rfl (lv_at hl 1 rfl) ?_
    obtain ⟨rfl, rfl⟩ := pr_s hf
    exact z_iret C Z dX7_readNumber_65
set_option maxRecDepth 100000 in
set_option maxHeartbeats 4000000 in
theorem c_X7_readNumber {l : Launch} {K : KG} {ad : Nat → Nat → Nat} {fl : Nat}  {M0 : Mem} {r9 : Int32} {M9 : Mem} (hf : f_X7_readNumber fl  M0 = some (r9, M9)) : Met l yX7_readNumber (Cond.code yX7_readNumber cX7_readNumber 3 (some .int) :: ztb) (RM (2) 0 0) (zPc K LC ad M0 [.ref (ad 5 0)]) (zQ K LC ad (some (.int r9)) M9) 0 0 (zA ad) := by
  refine z_enter (by decide) (Nat.le_of_ble_eq_true rfl) ?_
  intro p e s m args below meth c ls C hin hargs Z hl
  replace C : Cx p s m args meth c cX7_readNumber 3 "GlassPalace$Script" (some .int) := C
  replace hl : lv_has ls 3 [(0, .ref (ad 5 0))] := hl
  have hR : 2 ≤ (RM (2) 0 0).frames ∧ 40 * (2) ≤ (RM (2) 0 0).locals := ⟨Nat.le_refl _, Nat.le_refl _⟩
  have hB : 0 ≤ (RM (2) 0 0).cells ∧ 0 ≤ (RM (2) 0 0).slots := ⟨Nat.zero_le _, Nat.zero_le _⟩
  unfold f_X7_readNumber at hf
  refine lv_iconst (v := 0) C.x C.b dX7_readNumber_0 (by decide) ?_
  refine z_istore_n (lv' := [(1, .int 0), (0, .ref (ad 5 0))]) C dX7_readNumber_1 rfl hl (by decide) rfl (onlast 0 rfl rfl rfl) (fun ls hl => ?_)
  refine lv_iconst (v := 0) C.x C.b dX7_readNumber_2 (by decide) ?_
  refine z_istore_n (lv' := [(2, .int 0), (1, .int 0), (0, .ref (ad 5 0))]) C dX7_readNumber_3 rfl hl (by decide) rfl (onlast 0 rfl rfl rfl) (fun ls hl => ?_)
  replace hf := bn2_s hf; obtain ⟨q13, m14, hq13, hf⟩ := hf
  refine w_X7_readNumber_l4 C hR hB  fl _ _ _ _ _ _ Z (lv_sub hl [2, 1, 0] rfl) _ _ hq13 (fun H locs ls Z hl => ?_)
  exact w_X7_readNumber_b56 C hR hB  Z (lv_sub hl [0, 1, 2] rfl) hf
theorem dX9_letterOf_0 : decode cX9_letterOf 0 = .ok (.iload_n 0, 1) := by decide +kernel
theorem dX9_letterOf_1 : decode cX9_letterOf 1 = .ok (.tableswitch 99 99 116 #[91, 95, 99, 97, 99, 99, 99, 99, 99, 89, 99, 99, 99, 99, 99, 93, 99, 87], 87) := by decide +kernel
theorem dX9_letterOf_88 : decode cX9_letterOf 88 = .ok (.iconst 0, 1) := by decide +kernel
theorem dX9_letterOf_89 : decode cX9_letterOf 89 = .ok (.ireturn, 1) := by decide +kernel
theorem dX9_letterOf_90 : decode cX9_letterOf 90 = .ok (.iconst 1, 1) := by decide +kernel
theorem dX9_letterOf_91 : decode cX9_letterOf 91 = .ok (.ireturn, 1) := by decide +kernel
theorem dX9_letterOf_92 : decode cX9_letterOf 92 = .ok (.iconst 2, 1) := by decide +kernel
theorem dX9_letterOf_93 : decode cX9_letterOf 93 = .ok (.ireturn, 1) := by decide +kernel
theorem dX9_letterOf_94 : decode cX9_letterOf 94 = .ok (.iconst 3, 1) := by decide +kernel
theorem dX9_letterOf_95 : decode cX9_letterOf 95 = .ok (.ireturn, 1) := by decide +kernel
theorem dX9_letterOf_96 : decode cX9_letterOf 96 = .ok (.iconst 4, 1) := by decide +kernel
theorem dX9_letterOf_97 : decode cX9_letterOf 97 = .ok (.ireturn, 1) := by decide +kernel
theorem dX9_letterOf_98 : decode cX9_letterOf 98 = .ok (.iconst 5, 1) := by decide +kernel
theorem dX9_letterOf_99 : decode cX9_letterOf 99 = .ok (.ireturn, 1) := by decide +kernel
theorem dX9_letterOf_100 : decode cX9_letterOf 100 = .ok (.iconst (-1), 1) := by decide +kernel
theorem dX9_letterOf_101 : decode cX9_letterOf 101 = .ok (.ireturn, 1) := by decide +kernel
set_option maxRecDepth 100000 in
set_option maxHeartbeats 4000000 in
theorem c_X9_letterOf {l : Launch} {K : KG} {ad : Nat → Nat → Nat} {fl : Nat} {a1 : Int32} {M0 : Mem} {r9 : Int32} {M9 : Mem} (hf : f_X9_letterOf fl a1 M0 = some (r9, M9)) : Met l yX9_letterOf (Cond.code yX9_letterOf cX9_letterOf 1 (some .int) :: ztb) (RM (1) 0 0) (zPc K LC ad M0 [.int a1]) (zQ K LC ad (some (.int r9)) M9) 0 0 (zA ad) := by
  refine z_enter (by decide) (Nat.le_of_ble_eq_true rfl) ?_
  intro p e s m args below meth c ls C hin hargs Z hl
  replace C : Cx p s m args meth c cX9_letterOf 1 "GlassPalace$Text" (some .int) := C
  replace hl : lv_has ls 1 [(0, .int a1)] := hl
  have hR : 1 ≤ (RM (1) 0 0).frames ∧ 40 * (1) ≤ (RM (1) 0 0).locals := ⟨Nat.le_refl _, Nat.le_refl _⟩
  have hB : 0 ≤ (RM (1) 0 0).cells ∧ 0 ≤ (RM (1) 0 0).slots := ⟨Nat.zero_le _, Nat.zero_le _⟩
  unfold f_X9_letterOf at hf
  refine lv_iload_n C.x C.b dX9_letterOf_0 rfl (lv_at hl 0 rfl) ?_
  by_cases hx1 : a1 = 99
  · replace hf := ite_t hf hx1
    refine lv_tableIn (tgt := 92) C.x C.b dX9_letterOf_1 (by rw [hx1]; decide) (by rw [hx1]; decide) (by rw [hx1]; rfl) (by decide) ?_
    refine lv_iconst (v := 2) C.x C.b dX9_letterOf_92 (by decide) ?_
    obtain ⟨rfl, rfl⟩ := pr_s hf
    exact z_iret C Z dX9_letterOf_93
  replace hf := ite_f hf hx1
  by_cases hx2 : a1 = 100
  · replace hf := ite_t hf hx2
    refine lv_tableIn (tgt := 96) C.x C.b dX9_letterOf_1 (by rw [hx2]; decide) (by rw [hx2]; decide) (by rw [hx2]; rfl) (by decide) ?_
    refine lv_iconst (v := 4) C.x C.b dX9_letterOf_96 (by decide) ?_
    obtain ⟨rfl, rfl⟩ := pr_s hf
    exact z_iret C Z dX9_letterOf_97
  replace hf := ite_f hf hx2
  by_cases hx3 : a1 = 101
  · replace hf := ite_t hf hx3
    refine lv_tableIn (tgt := 100) C.x C.b dX9_letterOf_1 (by rw [hx3]; decide) (by rw [hx3]; decide) (by rw [hx3]; rfl) (by decide) ?_
    refine lv_iconst (v := (-1)) C.x C.b dX9_letterOf_100 (by decide) ?_
    obtain ⟨rfl, rfl⟩ := pr_s hf
    exact z_iret C Z dX9_letterOf_101
  replace hf := ite_f hf hx3
  by_cases hx4 : a1 = 102
  · replace hf := ite_t hf hx4
    refine lv_tableIn (tgt := 98) C.x C.b dX9_letterOf_1 (by rw [hx4]; decide) (by rw [hx4]; decide) (by rw [hx4]; rfl) (by decide) ?_
    refine lv_iconst (v := 5) C.x C.b dX9_letterOf_98 (by decide) ?_
    obtain ⟨rfl, rfl⟩ := pr_s hf
    exact z_iret C Z dX9_letterOf_99
  replace hf := ite_f hf hx4
  by_cases hx5 : a1 = 103
  · replace hf := ite_t hf hx5
    refine lv_tableIn (tgt := 100) C.x C.b dX9_letterOf_1 (by rw [hx5]; decide) (by rw [hx5]; decide) (by rw [hx5]; rfl) (by decide) ?_
    refine lv_iconst (v := (-1)) C.x C.b dX9_letterOf_100 (by decide) ?_
    obtain ⟨rfl, rfl⟩ := pr_s hf
    exact z_iret C Z dX9_letterOf_101
  replace hf := ite_f hf hx5
  by_cases hx6 : a1 = 104
  · replace hf := ite_t hf hx6
    refine lv_tableIn (tgt := 100) C.x C.b dX9_letterOf_1 (by rw [hx6]; decide) (by rw [hx6]; decide) (by rw [hx6]; rfl) (by decide) ?_
    refine lv_iconst (v := (-1)) C.x C.b dX9_letterOf_100 (by decide) ?_
    obtain ⟨rfl, rfl⟩ := pr_s hf
    exact z_iret C Z dX9_letterOf_101
  replace hf := ite_f hf hx6
  by_cases hx7 : a1 = 105
  · replace hf := ite_t hf hx7
    refine lv_tableIn (tgt := 100) C.x C.b dX9_letterOf_1 (by rw [hx7]; decide) (by rw [hx7]; decide) (by rw [hx7]; rfl) (by decide) ?_
    refine lv_iconst (v := (-1)) C.x C.b dX9_letterOf_100 (by decide) ?_
    obtain ⟨rfl, rfl⟩ := pr_s hf
    exact z_iret C Z dX9_letterOf_101
  replace hf := ite_f hf hx7
  by_cases hx8 : a1 = 106
  · replace hf := ite_t hf hx8
    refine lv_tableIn (tgt := 100) C.x C.b dX9_letterOf_1 (by rw [hx8]; decide) (by rw [hx8]; decide) (by rw [hx8]; rfl) (by decide) ?_
    refine lv_iconst (v := (-1)) C.x C.b dX9_letterOf_100 (by decide) ?_
    obtain ⟨rfl, rfl⟩ := pr_s hf
    exact z_iret C Z dX9_letterOf_101
  replace hf := ite_f hf hx8
  by_cases hx9 : a1 = 107
  · replace hf := ite_t hf hx9
    refine lv_tableIn (tgt := 100) C.x C.b dX9_letterOf_1 (by rw [hx9]; decide) (by rw [hx9]; decide) (by rw [hx9]; rfl) (by decide) ?_
    refine lv_iconst (v := (-1)) C.x C.b dX9_letterOf_100 (by decide) ?_
    obtain ⟨rfl, rfl⟩ := pr_s hf
    exact z_iret C Z dX9_letterOf_101
  replace hf := ite_f hf hx9
  by_cases hx10 : a1 = 108
  · replace hf := ite_t hf hx10
    refine lv_tableIn (tgt := 90) C.x C.b dX9_letterOf_1 (by rw [hx10]; decide) (by rw [hx10]; decide) (by rw [hx10]; rfl) (by decide) ?_
    refine lv_iconst (v := 1) C.x C.b dX9_letterOf_90 (by decide) ?_
    obtain ⟨rfl, rfl⟩ := pr_s hf
    exact z_iret C Z dX9_letterOf_91
  replace hf := ite_f hf hx10
  by_cases hx11 : a1 = 109
  · replace hf := ite_t hf hx11
    refine lv_tableIn (tgt := 100) C.x C.b dX9_letterOf_1 (by rw [hx11]; decide) (by rw [hx11]; decide) (by rw [hx11]; rfl) (by decide) ?_
    refine lv_iconst (v := (-1)) C.x C.b dX9_letterOf_100 (by decide) ?_
    obtain ⟨rfl, rfl⟩ := pr_s hf
    exact z_iret C Z dX9_letterOf_101
  replace hf := ite_f hf hx11
  by_cases hx12 : a1 = 110
  · replace hf := ite_t hf hx12
    refine lv_tableIn (tgt := 100) C.x C.b dX9_letterOf_1 (by rw [hx12]; decide) (by rw [hx12]; decide) (by rw [hx12]; rfl) (by decide) ?_
    refine lv_iconst (v := (-1)) C.x C.b dX9_letterOf_100 (by decide) ?_
    obtain ⟨rfl, rfl⟩ := pr_s hf
    exact z_iret C Z dX9_letterOf_101
  replace hf := ite_f hf hx12
  by_cases hx13 : a1 = 111
  · replace hf := ite_t hf hx13
    refine lv_tableIn (tgt := 100) C.x C.b dX9_letterOf_1 (by rw [hx13]; decide) (by rw [hx13]; decide) (by rw [hx13]; rfl) (by decide) ?_
    refine lv_iconst (v := (-1)) C.x C.b dX9_letterOf_100 (by decide) ?_
    obtain ⟨rfl, rfl⟩ := pr_s hf
    exact z_iret C Z dX9_letterOf_101
  replace hf := ite_f hf hx13
  by_cases hx14 : a1 = 112
  · replace hf := ite_t hf hx14
    refine lv_tableIn (tgt := 100) C.x C.b dX9_letterOf_1 (by rw [hx14]; decide) (by rw [hx14]; decide) (by rw [hx14]; rfl) (by decide) ?_
    refine lv_iconst (v := (-1)) C.x C.b dX9_letterOf_100 (by decide) ?_
    obtain ⟨rfl, rfl⟩ := pr_s hf
    exact z_iret C Z dX9_letterOf_101
  replace hf := ite_f hf hx14
  by_cases hx15 : a1 = 113
  · replace hf := ite_t hf hx15
    refine lv_tableIn (tgt := 100) C.x C.b dX9_letterOf_1 (by rw [hx15]; decide) (by rw [hx15]; decide) (by rw [hx15]; rfl) (by decide) ?_
    refine lv_iconst (v := (-1)) C.x C.b dX9_letterOf_100 (by decide) ?_
    obtain ⟨rfl, rfl⟩ := pr_s hf
    exact z_iret C Z dX9_letterOf_101
  replace hf := ite_f hf hx15
  by_cases hx16 : a1 = 114
  · replace hf := ite_t hf hx16
    refine lv_tableIn (tgt := 94) C.x C.b dX9_letterOf_1 (by rw [hx16]; decide) (by rw [hx16]; decide) (by rw [hx16]; rfl) (by decide) ?_
    refine lv_iconst (v := 3) C.x C.b dX9_letterOf_94 (by decide) ?_
    obtain ⟨rfl, rfl⟩ := pr_s hf
    exact z_iret C Z dX9_letterOf_95
  replace hf := ite_f hf hx16
  by_cases hx17 : a1 = 115
  · replace hf := ite_t hf hx17
    refine lv_tableIn (tgt := 100) C.x C.b dX9_letterOf_1 (by rw [hx17]; decide) (by rw [hx17]; decide) (by rw [hx17]; rfl) (by decide) ?_
    refine lv_iconst (v := (-1)) C.x C.b dX9_letterOf_100 (by decide) ?_
    obtain ⟨rfl, rfl⟩ := pr_s hf
    exact z_iret C Z dX9_letterOf_101
  replace hf := ite_f hf hx17
  by_cases hx18 : a1 = 116
  · replace hf := ite_t hf hx18
    refine lv_tableIn (tgt := 88) C.x C.b dX9_letterOf_1 (by rw [hx18]; decide) (by rw [hx18]; decide) (by rw [hx18]; rfl) (by decide) ?_
    refine lv_iconst (v := 0) C.x C.b dX9_letterOf_88 (by decide) ?_
    obtain ⟨rfl, rfl⟩ := pr_s hf
    exact z_iret C Z dX9_letterOf_89
  replace hf := ite_f hf hx18
  refine lv_tableOut (tgt := 100) C.x C.b dX9_letterOf_1 (tab_out (fun k h1 h2 => by rcases (show k = 99 ∨ k = 100 ∨ k = 101 ∨ k = 102 ∨ k = 103 ∨ k = 104 ∨ k = 105 ∨ k = 106 ∨ k = 107 ∨ k = 108 ∨ k = 109 ∨ k = 110 ∨ k = 111 ∨ k = 112 ∨ k = 113 ∨ k = 114 ∨ k = 115 ∨ k = 116 by omega) with rfl | rfl | rfl | rfl | rfl | rfl | rfl | rfl | rfl | rfl | rfl | rfl | rfl | rfl | rfl | rfl | rfl | rfl <;> assumption)) (by decide) ?_
  refine lv_iconst (v := (-1)) C.x C.b dX9_letterOf_100 (by decide) ?_
  obtain ⟨rfl, rfl⟩ := pr_s hf
  exact z_iret C Z dX9_letterOf_101
theorem dX9_relationOf_0 : decode cX9_relationOf 0 = .ok (.iload_n 0, 1) := by decide +kernel
theorem dX9_relationOf_1 : decode cX9_relationOf 1 = .ok (.tableswitch 33 60 62 #[27, 29, 31], 27) := by decide +kernel
theorem dX9_relationOf_28 : decode cX9_relationOf 28 = .ok (.iconst 0, 1) := by decide +kernel
theorem dX9_relationOf_29 : decode cX9_relationOf 29 = .ok (.ireturn, 1) := by decide +kernel
theorem dX9_relationOf_30 : decode cX9_relationOf 30 = .ok (.iconst 1, 1) := by decide +kernel
theorem dX9_relationOf_31 : decode cX9_relationOf 31 = .ok (.ireturn, 1) := by decide +kernel
theorem dX9_relationOf_32 : decode cX9_relationOf 32 = .ok (.iconst 2, 1) := by decide +kernel
theorem dX9_relationOf_33 : decode cX9_relationOf 33 = .ok (.ireturn, 1) := by decide +kernel
theorem dX9_relationOf_34 : decode cX9_relationOf 34 = .ok (.iconst (-1), 1) := by decide +kernel
theorem dX9_relationOf_35 : decode cX9_relationOf 35 = .ok (.ireturn, 1) := by decide +kernel
set_option maxRecDepth 100000 in
set_option maxHeartbeats 4000000 in
theorem c_X9_relationOf {l : Launch} {K : KG} {ad : Nat → Nat → Nat} {fl : Nat} {a1 : Int32} {M0 : Mem} {r9 : Int32} {M9 : Mem} (hf : f_X9_relationOf fl a1 M0 = some (r9, M9)) : Met l yX9_relationOf (Cond.code yX9_relationOf cX9_relationOf 1 (some .int) :: ztb) (RM (1) 0 0) (zPc K LC ad M0 [.int a1]) (zQ K LC ad (some (.int r9)) M9) 0 0 (zA ad) := by
  refine z_enter (by decide) (Nat.le_of_ble_eq_true rfl) ?_
  intro p e s m args below meth c ls C hin hargs Z hl
  replace C : Cx p s m args meth c cX9_relationOf 1 "GlassPalace$Text" (some .int) := C
  replace hl : lv_has ls 1 [(0, .int a1)] := hl
  have hR : 1 ≤ (RM (1) 0 0).frames ∧ 40 * (1) ≤ (RM (1) 0 0).locals := ⟨Nat.le_refl _, Nat.le_refl _⟩
  have hB : 0 ≤ (RM (1) 0 0).cells ∧ 0 ≤ (RM (1) 0 0).slots := ⟨Nat.zero_le _, Nat.zero_le _⟩
  unfold f_X9_relationOf at hf
  refine lv_iload_n C.x C.b dX9_relationOf_0 rfl (lv_at hl 0 rfl) ?_
  by_cases hx1 : a1 = 60
  · replace hf := ite_t hf hx1
    refine lv_tableIn (tgt := 28) C.x C.b dX9_relationOf_1 (by rw [hx1]; decide) (by rw [hx1]; decide) (by rw [hx1]; rfl) (by decide) ?_
    refine lv_iconst (v := 0) C.x C.b dX9_relationOf_28 (by decide) ?_
    obtain ⟨rfl, rfl⟩ := pr_s hf
    exact z_iret C Z dX9_relationOf_29
  replace hf := ite_f hf hx1
  by_cases hx2 : a1 = 61
  · replace hf := ite_t hf hx2
    refine lv_tableIn (tgt := 30) C.x C.b dX9_relationOf_1 (by rw [hx2]; decide) (by rw [hx2]; decide) (by rw [hx2]; rfl) (by decide) ?_
    refine lv_iconst (v := 1) C.x C.b dX9_relationOf_30 (by decide) ?_
    obtain ⟨rfl, rfl⟩ := pr_s hf
    exact z_iret C Z dX9_relationOf_31
  replace hf := ite_f hf hx2
  by_cases hx3 : a1 = 62
  · replace hf := ite_t hf hx3
    refine lv_tableIn (tgt := 32) C.x C.b dX9_relationOf_1 (by rw [hx3]; decide) (by rw [hx3]; decide) (by rw [hx3]; rfl) (by decide) ?_
    refine lv_iconst (v := 2) C.x C.b dX9_relationOf_32 (by decide) ?_
    obtain ⟨rfl, rfl⟩ := pr_s hf
    exact z_iret C Z dX9_relationOf_33
  replace hf := ite_f hf hx3
  refine lv_tableOut (tgt := 34) C.x C.b dX9_relationOf_1 (tab_out (fun k h1 h2 => by rcases (show k = 60 ∨ k = 61 ∨ k = 62 by omega) with rfl | rfl | rfl <;> assumption)) (by decide) ?_
  refine lv_iconst (v := (-1)) C.x C.b dX9_relationOf_34 (by decide) ?_
  obtain ⟨rfl, rfl⟩ := pr_s hf
  exact z_iret C Z dX9_relationOf_35
theorem dX9_addTest_0 : decode cX9_addTest 0 = .ok (.aload_n 0, 1) := by decide +kernel
theorem dX9_addTest_1 : decode cX9_addTest 1 = .ok (.iload_n 1, 1) := by decide +kernel
theorem dX9_addTest_2 : decode cX9_addTest 2 = .ok (.iconst 3, 1) := by decide +kernel
theorem dX9_addTest_3 : decode cX9_addTest 3 = .ok (.imul, 1) := by decide +kernel
theorem dX9_addTest_4 : decode cX9_addTest 4 = .ok (.iload_n 2, 1) := by decide +kernel
theorem dX9_addTest_5 : decode cX9_addTest 5 = .ok (.iadd, 1) := by decide +kernel
theorem dX9_addTest_6 : decode cX9_addTest 6 = .ok (.sipush 1000, 3) := by decide +kernel
theorem dX9_addTest_9 : decode cX9_addTest 9 = .ok (.imul, 1) := by decide +kernel
theorem dX9_addTest_10 : decode cX9_addTest 10 = .ok (.iload_n 3, 1) := by decide +kernel
theorem dX9_addTest_11 : decode cX9_addTest 11 = .ok (.iadd, 1) := by decide +kernel
theorem dX9_addTest_12 : decode cX9_addTest 12 = .ok (.invokevirtual 28, 3) := by decide +kernel
theorem dX9_addTest_15 : decode cX9_addTest 15 = .ok (.return_, 1) := by decide +kernel
set_option maxRecDepth 100000 in
set_option maxHeartbeats 4000000 in
theorem c_X9_addTest {l : Launch} {K : KG} {ad : Nat → Nat → Nat} {fl : Nat} {o : Nat} {a1 : Int32} {a2 : Int32} {a3 : Int32} {M0 : Mem} {M9 : Mem} (ho : o < 10) (hf : f_X9_addTest fl o a1 a2 a3 M0 = some M9) : Met l yX9_addTest (Cond.code yX9_addTest cX9_addTest 4 none :: ztb) (RM (2) 0 0) (zPc K LC ad M0 [.ref (ad 19 o), .int a1, .int a2, .int a3]) (zQ K LC ad (none) M9) 0 0 (zA ad) := by
  refine z_enter (by decide) (Nat.le_of_ble_eq_true rfl) ?_
  intro p e s m args below meth c ls C hin hargs Z hl
  replace C : Cx p s m args meth c cX9_addTest 4 "GlassPalace$Text" none := C
  replace hl : lv_has ls 4 [(0, .ref (ad 19 o)), (1, .int a1), (2, .int a2), (3, .int a3)] := hl
  have hR : 2 ≤ (RM (2) 0 0).frames ∧ 40 * (2) ≤ (RM (2) 0 0).locals := ⟨Nat.le_refl _, Nat.le_refl _⟩
  have hB : 0 ≤ (RM (2) 0 0).cells ∧ 0 ≤ (RM (2) 0 0).slots := ⟨Nat.zero_le _, Nat.zero_le _⟩
  unfold f_X9_addTest at hf
  refine lv_aload_n C.x C.b dX9_addTest_0 rfl (lv_at hl 0 rfl) ?_
  refine lv_iload_n C.x C.b dX9_addTest_1 rfl (lv_at hl 1 rfl) ?_
  refine lv_iconst (v := 3) C.x C.b dX9_addTest_2 (by decide) ?_
  refine lv_imul C.x C.b dX9_addTest_3 ?_
  refine lv_iload_n C.x C.b dX9_addTest_4 rfl (lv_at hl 2 rfl) ?_
  refine lv_iadd C.x C.b dX9_addTest_5 ?_
  refine lv_sipush (v := 1000) C.x C.b dX9_addTest_6 (by decide) ?_
  refine lv_imul C.x C.b dX9_addTest_9 ?_
  refine lv_iload_n C.x C.b dX9_addTest_10 rfl (lv_at hl 3 rfl) ?_
  refine lv_iadd C.x C.b dX9_addTest_11 ?_
  replace hf := bn1_s hf; obtain ⟨m1, hkm1, hf⟩ := hf
  refine z_cV (As := [.int ((((a1 * 3) + a2) * 1000) + a3)]) (rest := []) (st1 := []) C Z mw_X9_addCode mv_X9_addCode k_806 (by decide) (z_hR hR (by decide)) (lvC19 ho) kC19 zc9 (c_X9_addCode (l := l) (K := K) (ad := ad) ho hkm1) rfl hl.1 rfl (Nat.le_of_ble_eq_true rfl) dX9_addTest_12 hB rfl (fun H locs Z => ?_)
  obtain rfl := sm_s hf
  exact z_vret C Z dX9_addTest_15
theorem dX7_readTest_0 : decode cX7_readTest 0 = .ok (.aload_n 0, 1) := by decide +kernel
theorem dX7_readTest_1 : decode cX7_readTest 1 = .ok (.invokevirtual 34, 3) := by decide +kernel
theorem dX7_readTest_4 : decode cX7_readTest 4 = .ok (.invokestatic 90, 3) := by decide +kernel
theorem dX7_readTest_7 : decode cX7_readTest 7 = .ok (.istore_n 2, 1) := by decide +kernel
theorem dX7_readTest_8 : decode cX7_readTest 8 = .ok (.iload_n 2, 1) := by decide +kernel
theorem dX7_readTest_9 : decode cX7_readTest 9 = .ok (.ifCond .ge 7, 3) := by decide +kernel
theorem dX7_readTest_12 : decode cX7_readTest 12 = .ok (.aload_n 0, 1) := by decide +kernel
theorem dX7_readTest_13 : decode cX7_readTest 13 = .ok (.invokevirtual 38, 3) := by decide +kernel
theorem dX7_readTest_16 : decode cX7_readTest 16 = .ok (.aload_n 0, 1) := by decide +kernel
theorem dX7_readTest_17 : decode cX7_readTest 17 = .ok (.dup, 1) := by decide +kernel
theorem dX7_readTest_18 : decode cX7_readTest 18 = .ok (.getfield 19, 3) := by decide +kernel
theorem dX7_readTest_21 : decode cX7_readTest 21 = .ok (.iconst 1, 1) := by decide +kernel
theorem dX7_readTest_22 : decode cX7_readTest 22 = .ok (.iadd, 1) := by decide +kernel
theorem dX7_readTest_23 : decode cX7_readTest 23 = .ok (.putfield 19, 3) := by decide +kernel
theorem dX7_readTest_26 : decode cX7_readTest 26 = .ok (.aload_n 0, 1) := by decide +kernel
theorem dX7_readTest_27 : decode cX7_readTest 27 = .ok (.invokevirtual 34, 3) := by decide +kernel
theorem dX7_readTest_30 : decode cX7_readTest 30 = .ok (.invokestatic 94, 3) := by decide +kernel
theorem dX7_readTest_33 : decode cX7_readTest 33 = .ok (.istore_n 3, 1) := by decide +kernel
theorem dX7_readTest_34 : decode cX7_readTest 34 = .ok (.iload_n 3, 1) := by decide +kernel
theorem dX7_readTest_35 : decode cX7_readTest 35 = .ok (.ifCond .ge 7, 3) := by decide +kernel
theorem dX7_readTest_38 : decode cX7_readTest 38 = .ok (.aload_n 0, 1) := by decide +kernel
theorem dX7_readTest_39 : decode cX7_readTest 39 = .ok (.invokevirtual 38, 3) := by decide +kernel
theorem dX7_readTest_42 : decode cX7_readTest 42 = .ok (.aload_n 0, 1) := by decide +kernel
theorem dX7_readTest_43 : decode cX7_readTest 43 = .ok (.dup, 1) := by decide +kernel
theorem dX7_readTest_44 : decode cX7_readTest 44 = .ok (.getfield 19, 3) := by decide +kernel
theorem dX7_readTest_47 : decode cX7_readTest 47 = .ok (.iconst 1, 1) := by decide +kernel
theorem dX7_readTest_48 : decode cX7_readTest 48 = .ok (.iadd, 1) := by decide +kernel
theorem dX7_readTest_49 : decode cX7_readTest 49 = .ok (.putfield 19, 3) := by decide +kernel
theorem dX7_readTest_52 : decode cX7_readTest 52 = .ok (.aload_n 1, 1) := by decide +kernel
theorem dX7_readTest_53 : decode cX7_readTest 53 = .ok (.iload_n 2, 1) := by decide +kernel
theorem dX7_readTest_54 : decode cX7_readTest 54 = .ok (.iload_n 3, 1) := by decide +kernel
theorem dX7_readTest_55 : decode cX7_readTest 55 = .ok (.aload_n 0, 1) := by decide +kernel
theorem dX7_readTest_56 : decode cX7_readTest 56 = .ok (.invokevirtual 59, 3) := by decide +kernel
theorem dX7_readTest_59 : decode cX7_readTest 59 = .ok (.invokevirtual 97, 3) := by decide +kernel
theorem dX7_readTest_62 : decode cX7_readTest 62 = .ok (.return_, 1) := by decide +kernel
set_option maxRecDepth 100000 in
set_option maxHeartbeats 4000000 in
theorem w_X7_readTest_b42 {p : Program} {l : Launch} {e : Env} {s : State} {m : MethodId} {args : Array Value} {below : List Frame} {meth : Method} {c : Code} {K : KG} {ad : Nat → Nat → Nat} {fl : Nat} {H : Heap} {locs : List Loc} {ls : Array Slot} {g1 : Nat} {g2 : Int32} {g3 : Int32} {M0 : Mem} {M9 : Mem} (C : Cx p s m args meth c cX7_readTest 4 "GlassPalace$Script" none) (hR : 3 ≤ (RM (3) 0 0).frames ∧ 40 * (3) ≤ (RM (3) 0 0).locals) (hB : 0 ≤ (RM (3) 0 0).cells ∧ 0 ≤ (RM (3) 0 0).slots) (Z : Zd K LC ad M0 s H locs) (hl : lv_has ls 4 [(0, .ref (ad 5 0)), (1, rf (ad 19) g1), (2, .int g2), (3, .int g3)]) (hf : f_X7_readTest_b42 fl g1 g2 g3 M0 = some M9) : W p l e (RM (3) 0 0) s m args below meth c H locs 0 0 (MQ below (zQ K LC ad (none) M9) args s 0 0 (zA ad)) (F0 m 42 ls []) := by
  unfold f_X7_readTest_b42 at hf
  refine lv_aload_n C.x C.b dX7_readTest_42 rfl (lv_at hl 0 rfl) ?_
  refine lv_dup C.x C.b dX7_readTest_43 rfl ?_
  refine z_get C Z (lvC5 Nat.zero_lt_one) kC5 zc7 zin7 2 (by decide) k_144 rfl svC5_2 dX7_readTest_44 ?_
  refine lv_iconst (v := 1) C.x C.b dX7_readTest_47 (by decide) ?_
  refine lv_iadd C.x C.b dX7_readTest_48 ?_
  replace hf := lt1_s hf; obtain ⟨m14, em14, hf⟩ := hf
  refine z_put (M1 := m14) C Z (lvC5 Nat.zero_lt_one) (by decide) kC5 zc7 zin7 tyX7_ok nmX7 2 (by decide) k_144 rfl (zUp_I em14 stC5_2u) (Or.inl rfl) rfl rfl dX7_readTest_49 (fun H locs Z => ?_)
  refine z_aload_n C dX7_readTest_52 rfl (lv_at hl 1 rfl) ?_
  refine lv_iload_n C.x C.b dX7_readTest_53 rfl (lv_at hl 2 rfl) ?_
  refine lv_iload_n C.x C.b dX7_readTest_54 rfl (lv_at hl 3 rfl) ?_
  refine lv_aload_n C.x C.b dX7_readTest_55 rfl (lv_at hl 0 rfl) ?_
  replace hf := bn2_s hf; obtain ⟨v16, m15, hkm15, hf⟩ := hf
  refine z_cV (As := []) (rest := [.int g3, .int g2, rf (ad 19) g1]) (st1 := [.int v16, .int g3, .int g2, rf (ad 19) g1]) C Z mw_X7_readNumber mv_X7_readNumber k_798 (by decide) (z_hR hR (by decide)) (lvC5 Nat.zero_lt_one) kC5 zc7 (c_X7_readNumber (l := l) (K := K) (ad := ad) hkm15) rfl hl.1 rfl (by simp [rf_cat, cat_i, cat_l, cat_r, cat_n]) dX7_readTest_56 hB rfl (fun H locs Z => ?_)
  replace hf := drf_s hf; obtain ⟨j17, ej19, hj18, hf⟩ := hf
  subst ej19
  refine z_nn [.int v16, .int g3, .int g2] (y := j17 + 1) rfl ?_
  replace hf := bn1_s hf; obtain ⟨m20, hkm20, hf⟩ := hf
  refine z_cV (As := [.int g2, .int g3, .int v16]) (rest := []) (st1 := []) C Z mw_X9_addTest mv_X9_addTest k_802 (by decide) (z_hR hR (by decide)) (lvC19 hj18) kC19 zc9 (c_X9_addTest (l := l) (K := K) (ad := ad) hj18 hkm20) rfl hl.1 rfl (Nat.le_of_ble_eq_true rfl) dX7_readTest_59 hB rfl (fun H locs Z => ?_)
  obtain rfl := sm_s hf
  exact z_vret C Z dX7_readTest_62
set_option maxRecDepth 100000 in
set_option maxHeartbeats 4000000 in
theorem w_X7_readTest_b16 {p : Program} {l : Launch} {e : Env} {s : State} {m : MethodId} {args : Array Value} {below : List Frame} {meth : Method} {c : Code} {K : KG} {ad : Nat → Nat → Nat} {fl : Nat} {H : Heap} {locs : List Loc} {ls : Array Slot} {g1 : Nat} {g2 : Int32} {M0 : Mem} {M9 : Mem} (C : Cx p s m args meth c cX7_readTest 4 "GlassPalace$Script" none) (hR : 3 ≤ (RM (3) 0 0).frames ∧ 40 * (3) ≤ (RM (3) 0 0).locals) (hB : 0 ≤ (RM (3) 0 0).cells ∧ 0 ≤ (RM (3) 0 0).slots) (Z : Zd K LC ad M0 s H locs) (hl : lv_has ls 4 [(0, .ref (ad 5 0)), (1, rf (ad 19) g1), (2, .int g2)]) (hf : f_X7_readTest_b16 fl g1 g2 M0 = some M9) : W p l e (RM (3) 0 0) s m args below meth c H locs 0 0 (MQ below (zQ K LC ad (none) M9) args s 0 0 (zA ad)) (F0 m 16 ls []) := by
  unfold f_X7_readTest_b16 at hf
  refine lv_aload_n C.x C.b dX7_readTest_16 rfl (lv_at hl 0 rfl) ?_
  refine lv_dup C.x C.b dX7_readTest_17 rfl ?_
  refine z_get C Z (lvC5 Nat.zero_lt_one) kC5 zc7 zin7 2 (by decide) k_144 rfl svC5_2 dX7_readTest_18 ?_
  refine lv_iconst (v := 1) C.x C.b dX7_readTest_21 (by decide) ?_
  refine lv_iadd C.x C.b dX7_readTest_22 ?_
  replace hf := lt1_s hf; obtain ⟨m7, em7, hf⟩ := hf
  refine z_put (M1 := m7) C Z (lvC5 Nat.zero_lt_one) (by decide) kC5 zc7 zin7 tyX7_ok nmX7 2 (by decide) k_144 rfl (zUp_I em7 stC5_2u) (Or.inl rfl) rfl rfl dX7_readTest_23 (fun H locs Z => ?_)
  refine lv_aload_n C.x C.b dX7_readTest_26 rfl (lv_at hl 0 rfl) ?_
  replace hf := bn2_s hf; obtain ⟨v9, m8, hkm8, hf⟩ := hf
  refine z_cV (As := []) (rest := []) (st1 := [.int v9]) C Z mw_X7_look mv_X7_look k_780 (by decide) (z_hR hR (by decide)) (lvC5 Nat.zero_lt_one) kC5 zc7 (c_X7_look (l := l) (K := K) (ad := ad) hkm8) rfl hl.1 rfl (Nat.le_of_ble_eq_true rfl) dX7_readTest_27 hB rfl (fun H locs Z => ?_)
  replace hf := bn2_s hf; obtain ⟨v11, m10, hkm10, hf⟩ := hf
  refine z_cS (As := [.int v9]) (rest := []) (st1 := [.int v11]) C Z mw_X9_relationOf mv_X9_relationOf k_795 (by decide) (z_hR hR (by decide)) (c_X9_relationOf (l := l) (K := K) (ad := ad) hkm10) rfl hl.1 rfl (Nat.le_of_ble_eq_true rfl) dX7_readTest_30 hB rfl (fun H locs Z => ?_)
  refine z_istore_n (lv' := [(3, .int v11), (0, .ref (ad 5 0)), (1, rf (ad 19) g1), (2, .int g2)]) C dX7_readTest_33 rfl hl (by decide) rfl (onlast 2 rfl rfl rfl) (fun ls hl => ?_)
  refine lv_iload_n C.x C.b dX7_readTest_34 rfl (lv_at hl 0 rfl) ?_
  replace hf := bn1_s hf; obtain ⟨m13, hq12, hf⟩ := hf
  have kq12 : ∀ (H : Heap) (locs : List Loc) (ls : Array Slot), Zd K LC ad m13 s H locs → lv_has ls 4 [(0, .ref (ad 5 0)), (1, rf (ad 19) g1), (2, .int g2), (3, .int v11)] → W p l e (RM (3) 0 0) s m args below meth c H locs 0 0 (MQ below (zQ K LC ad (none) M9) args s 0 0 (zA ad)) (F0 m 42 ls []) := by
    intro H locs ls Z hl
    exact w_X7_readTest_b42 C hR hB  Z (lv_sub hl [0, 1, 2, 3] rfl) hf
  clear hf
  refine lv_if_ge (tgt := 42) C.x C.b dX7_readTest_35 (by decide) (fun hc21 => ?_) (fun hc21 => ?_)
  · have hf := ite_t hq12 hc21; clear hq12
    obtain rfl := sm_s hf
    exact kq12 _ _ _ Z (lv_sub hl [1, 2, 3, 0] rfl)
  · have hf := ite_f hq12 hc21; clear hq12
    refine lv_aload_n C.x C.b dX7_readTest_38 rfl (lv_at hl 1 rfl) ?_
    replace hf := bn1_s hf; obtain ⟨m22, hkm22, hf⟩ := hf
    refine z_cV (As := []) (rest := []) (st1 := []) C Z mw_X7_fail mv_X7_fail k_764 (by decide) (z_hR hR (by decide)) (lvC5 Nat.zero_lt_one) kC5 zc7 (c_X7_fail (l := l) (K := K) (ad := ad) hkm22) rfl hl.1 rfl (Nat.le_of_ble_eq_true rfl) dX7_readTest_39 hB rfl (fun H locs Z => ?_)
    obtain rfl := sm_s hf
    exact kq12 _ _ _ Z (lv_sub hl [1, 2, 3, 0] rfl)
set_option maxRecDepth 100000 in
set_option maxHeartbeats 4000000 in
theorem c_X7_readTest {l : Launch} {K : KG} {ad : Nat → Nat → Nat} {fl : Nat} {a1 : Nat} {M0 : Mem} {M9 : Mem} (hf : f_X7_readTest fl a1 M0 = some M9) : Met l yX7_readTest (Cond.code yX7_readTest cX7_readTest 4 none :: ztb) (RM (3) 0 0) (zPc K LC ad M0 [.ref (ad 5 0), rf (ad 19) a1]) (zQ K LC ad (none) M9) 0 0 (zA ad) := by
  refine z_enter (by decide) (by simp [lg_sl, rf_cat, cat_i, cat_l, cat_r, cat_n]) ?_
  intro p e s m args below meth c ls C hin hargs Z hl
  replace C : Cx p s m args meth c cX7_readTest 4 "GlassPalace$Script" none := C
  replace hl : lv_has ls 4 [(0, .ref (ad 5 0)), (1, rf (ad 19) a1)] := by simpa [lv_args, rf_cat, cat_i, cat_l, cat_r, cat_n] using hl
  have hR : 3 ≤ (RM (3) 0 0).frames ∧ 40 * (3) ≤ (RM (3) 0 0).locals := ⟨Nat.le_refl _, Nat.le_refl _⟩
  have hB : 0 ≤ (RM (3) 0 0).cells ∧ 0 ≤ (RM (3) 0 0).slots := ⟨Nat.zero_le _, Nat.zero_le _⟩
  unfold f_X7_readTest at hf
  refine lv_aload_n C.x C.b dX7_readTest_0 rfl (lv_at hl 0 rfl) ?_
  replace hf := bn2_s hf; obtain ⟨v2, m1, hkm1, hf⟩ := hf
  refine z_cV (As := []) (rest := []) (st1 := [.int v2]) C Z mw_X7_look mv_X7_look k_780 (by decide) (z_hR hR (by decide)) (lvC5 Nat.zero_lt_one) kC5 zc7 (c_X7_look (l := l) (K := K) (ad := ad) hkm1) rfl hl.1 rfl (Nat.le_of_ble_eq_true rfl) dX7_readTest_1 hB rfl (fun H locs Z => ?_)
  replace hf := bn2_s hf; obtain ⟨v4, m3, hkm3, hf⟩ := hf
  refine z_cS (As := [.int v2]) (rest := []) (st1 := [.int v4]) C Z mw_X9_letterOf mv_X9_letterOf k_792 (by decide) (z_hR hR (by decide)) (c_X9_letterOf (l := l) (K := K) (ad := ad) hkm3) rfl hl.1 rfl (Nat.le_of_ble_eq_true rfl) dX7_readTest_4 hB rfl (fun H locs Z => ?_)
  refine z_istore_n (lv' := [(2, .int v4), (0, .ref (ad 5 0)), (1, rf (ad 19) a1)]) C dX7_readTest_7 rfl hl (by decide) rfl (onlast 1 rfl (rf_cat _ _) rfl) (fun ls hl => ?_)
  refine lv_iload_n C.x C.b dX7_readTest_8 rfl (lv_at hl 0 rfl) ?_
  replace hf := bn1_s hf; obtain ⟨m6, hq5, hf⟩ := hf
  have kq5 : ∀ (H : Heap) (locs : List Loc) (ls : Array Slot), Zd K LC ad m6 s H locs → lv_has ls 4 [(0, .ref (ad 5 0)), (1, rf (ad 19) a1), (2, .int v4)] → W p l e (RM (3) 0 0) s m args below meth c H locs 0 0 (MQ below (zQ K LC ad (none) M9) args s 0 0 (zA ad)) (F0 m 16 ls []) := by
    intro H locs ls Z hl
    exact w_X7_readTest_b16 C hR hB  Z (lv_sub hl [0, 1, 2] rfl) hf
  clear hf
  refine lv_if_ge (tgt := 16) C.x C.b dX7_readTest_9 (by decide) (fun hc23 => ?_) (fun hc23 => ?_)
  · have hf := ite_t hq5 hc23; clear hq5
    obtain rfl := sm_s hf
    exact kq5 _ _ _ Z (lv_sub hl [1, 2, 0] rfl)
  · have hf := ite_f hq5 hc23; clear hq5
    refine lv_aload_n C.x C.b dX7_readTest_12 rfl (lv_at hl 1 rfl) ?_
    replace hf := bn1_s hf; obtain ⟨m24, hkm24, hf⟩ := hf
    refine z_cV (As := []) (rest := []) (st1 := []) C Z mw_X7_fail mv_X7_fail k_764 (by decide) (z_hR hR (by decide)) (lvC5 Nat.zero_lt_one) kC5 zc7 (c_X7_fail (l := l) (K := K) (ad := ad) hkm24) rfl hl.1 rfl (Nat.le_of_ble_eq_true rfl) dX7_readTest_13 hB rfl (fun H locs Z => ?_)
    obtain rfl := sm_s hf
    exact kq5 _ _ _ Z (lv_sub hl [1, 2, 0] rfl)
theorem dX7_readOne_0 : decode cX7_readOne 0 = .ok (.iload_n 2, 1) := by decide +kernel
theorem dX7_readOne_1 : decode cX7_readOne 1 = .ok (.iconst 4, 1) := by decide +kernel
theorem dX7_readOne_2 : decode cX7_readOne 2 = .ok (.if_icmp .ge 10, 3) := by decide +kernel
theorem dX7_readOne_5 : decode cX7_readOne 5 = .ok (.aload_n 0, 1) := by decide +kernel
theorem dX7_readOne_6 : decode cX7_readOne 6 = .ok (.invokevirtual 34, 3) := by decide +kernel
theorem dX7_readOne_9 : decode cX7_readOne 9 = .ok (.goto 4, 3) := by decide +kernel
theorem dX7_readOne_12 : decode cX7_readOne 12 = .ok (.iconst (-1), 1) := by decide +kernel
theorem dX7_readOne_13 : decode cX7_readOne 13 = .ok (.istore_n 3, 1) := by decide +kernel
theorem dX7_readOne_14 : decode cX7_readOne 14 = .ok (.iload_n 3, 1) := by decide +kernel
theorem dX7_readOne_15 : decode cX7_readOne 15 = .ok (.bipush 33, 2) := by decide +kernel
theorem dX7_readOne_17 : decode cX7_readOne 17 = .ok (.if_icmp .ne 30, 3) := by decide +kernel
theorem dX7_readOne_20 : decode cX7_readOne 20 = .ok (.aload_n 0, 1) := by decide +kernel
theorem dX7_readOne_21 : decode cX7_readOne 21 = .ok (.dup, 1) := by decide +kernel
theorem dX7_readOne_22 : decode cX7_readOne 22 = .ok (.getfield 19, 3) := by decide +kernel
theorem dX7_readOne_25 : decode cX7_readOne 25 = .ok (.iconst 1, 1) := by decide +kernel
theorem dX7_readOne_26 : decode cX7_readOne 26 = .ok (.iadd, 1) := by decide +kernel
theorem dX7_readOne_27 : decode cX7_readOne 27 = .ok (.putfield 19, 3) := by decide +kernel
theorem dX7_readOne_30 : decode cX7_readOne 30 = .ok (.aload_n 0, 1) := by decide +kernel
theorem dX7_readOne_31 : decode cX7_readOne 31 = .ok (.aload_n 1, 1) := by decide +kernel
theorem dX7_readOne_32 : decode cX7_readOne 32 = .ok (.iload_n 2, 1) := by decide +kernel
theorem dX7_readOne_33 : decode cX7_readOne 33 = .ok (.iconst 1, 1) := by decide +kernel
theorem dX7_readOne_34 : decode cX7_readOne 34 = .ok (.iadd, 1) := by decide +kernel
theorem dX7_readOne_35 : decode cX7_readOne 35 = .ok (.invokevirtual 84, 3) := by decide +kernel
theorem dX7_readOne_38 : decode cX7_readOne 38 = .ok (.aload_n 1, 1) := by decide +kernel
theorem dX7_readOne_39 : decode cX7_readOne 39 = .ok (.bipush (-3), 2) := by decide +kernel
theorem dX7_readOne_41 : decode cX7_readOne 41 = .ok (.invokevirtual 55, 3) := by decide +kernel
theorem dX7_readOne_44 : decode cX7_readOne 44 = .ok (.goto 61, 3) := by decide +kernel
theorem dX7_readOne_47 : decode cX7_readOne 47 = .ok (.iload_n 3, 1) := by decide +kernel
theorem dX7_readOne_48 : decode cX7_readOne 48 = .ok (.bipush 40, 2) := by decide +kernel
theorem dX7_readOne_50 : decode cX7_readOne 50 = .ok (.if_icmp .ne 50, 3) := by decide +kernel
theorem dX7_readOne_53 : decode cX7_readOne 53 = .ok (.aload_n 0, 1) := by decide +kernel
theorem dX7_readOne_54 : decode cX7_readOne 54 = .ok (.dup, 1) := by decide +kernel
theorem dX7_readOne_55 : decode cX7_readOne 55 = .ok (.getfield 19, 3) := by decide +kernel
theorem dX7_readOne_58 : decode cX7_readOne 58 = .ok (.iconst 1, 1) := by decide +kernel
theorem dX7_readOne_59 : decode cX7_readOne 59 = .ok (.iadd, 1) := by decide +kernel
theorem dX7_readOne_60 : decode cX7_readOne 60 = .ok (.putfield 19, 3) := by decide +kernel
theorem dX7_readOne_63 : decode cX7_readOne 63 = .ok (.aload_n 0, 1) := by decide +kernel
theorem dX7_readOne_64 : decode cX7_readOne 64 = .ok (.aload_n 1, 1) := by decide +kernel
theorem dX7_readOne_65 : decode cX7_readOne 65 = .ok (.iload_n 2, 1) := by decide +kernel
theorem dX7_readOne_66 : decode cX7_readOne 66 = .ok (.iconst 1, 1) := by decide +kernel
theorem dX7_readOne_67 : decode cX7_readOne 67 = .ok (.iadd, 1) := by decide +kernel
theorem dX7_readOne_68 : decode cX7_readOne 68 = .ok (.invokevirtual 51, 3) := by decide +kernel
theorem dX7_readOne_71 : decode cX7_readOne 71 = .ok (.aload_n 0, 1) := by decide +kernel
theorem dX7_readOne_72 : decode cX7_readOne 72 = .ok (.invokevirtual 34, 3) := by decide +kernel
theorem dX7_readOne_75 : decode cX7_readOne 75 = .ok (.bipush 41, 2) := by decide +kernel
theorem dX7_readOne_77 : decode cX7_readOne 77 = .ok (.if_icmp .ne 16, 3) := by decide +kernel
theorem dX7_readOne_80 : decode cX7_readOne 80 = .ok (.aload_n 0, 1) := by decide +kernel
theorem dX7_readOne_81 : decode cX7_readOne 81 = .ok (.dup, 1) := by decide +kernel
theorem dX7_readOne_82 : decode cX7_readOne 82 = .ok (.getfield 19, 3) := by decide +kernel
theorem dX7_readOne_85 : decode cX7_readOne 85 = .ok (.iconst 1, 1) := by decide +kernel
theorem dX7_readOne_86 : decode cX7_readOne 86 = .ok (.iadd, 1) := by decide +kernel
theorem dX7_readOne_87 : decode cX7_readOne 87 = .ok (.putfield 19, 3) := by decide +kernel
theorem dX7_readOne_90 : decode cX7_readOne 90 = .ok (.goto 15, 3) := by decide +kernel
theorem dX7_readOne_93 : decode cX7_readOne 93 = .ok (.aload_n 0, 1) := by decide +kernel
theorem dX7_readOne_94 : decode cX7_readOne 94 = .ok (.invokevirtual 38, 3) := by decide +kernel
theorem dX7_readOne_97 : decode cX7_readOne 97 = .ok (.goto 8, 3) := by decide +kernel
theorem dX7_readOne_100 : decode cX7_readOne 100 = .ok (.aload_n 0, 1) := by decide +kernel
theorem dX7_readOne_101 : decode cX7_readOne 101 = .ok (.aload_n 1, 1) := by decide +kernel
theorem dX7_readOne_102 : decode cX7_readOne 102 = .ok (.invokevirtual 87, 3) := by decide +kernel
theorem dX7_readOne_105 : decode cX7_readOne 105 = .ok (.return_, 1) := by decide +kernel
set_option maxRecDepth 100000 in
set_option maxHeartbeats 4000000 in
theorem c_X7_readOne {l : Launch} {K : KG} {ad : Nat → Nat → Nat} {fl : Nat} : ∀ (d : Nat) (a1 : Nat) (a2 : Int32) (M0 : Mem) (M9 : Mem), f_X7_readOne fl d a1 a2 M0 = some M9 → Met l yX7_readOne (Cond.code yX7_readOne cX7_readOne 4 none :: ztb) (RM (24 + 2 * d) 0 0) (zPc K LC ad M0 [.ref (ad 5 0), rf (ad 19) a1, .int a2]) (zQ K LC ad (none) M9) 0 0 (zA ad) := by
  intro d
  induction d with
  | zero =>
    intro a1 a2 M0 M9 hf
    have hf : (none : Option (Mem)) = some M9 := hf
    cases hf
  | succ d ih =>
    intro a1 a2 M0 M9 hf
    replace hf : f_X7_readOne_b (f_X7_readOne fl d) fl a1 a2 M0 = some M9 := hf
    refine z_enter (by decide) (by simp [lg_sl, rf_cat, cat_i, cat_l, cat_r, cat_n]) ?_
    intro p e s m args below meth c ls C hin hargs Z hl
    replace C : Cx p s m args meth c cX7_readOne 4 "GlassPalace$Script" none := C
    replace hl : lv_has ls 4 [(0, .ref (ad 5 0)), (1, rf (ad 19) a1), (2, .int a2)] := by simpa [lv_args, rf_cat, cat_i, cat_l, cat_r, cat_n] using hl
    have hR : 24 + 2 * (d + 1) ≤ (RM (24 + 2 * (d + 1)) 0 0).frames ∧ 40 * (24 + 2 * (d + 1)) ≤ (RM (24 + 2 * (d + 1)) 0 0).locals := ⟨Nat.le_refl _, Nat.le_refl _⟩
    have hB : 0 ≤ (RM (24 + 2 * (d + 1)) 0 0).cells ∧ 0 ≤ (RM (24 + 2 * (d + 1)) 0 0).slots := ⟨Nat.zero_le _, Nat.zero_le _⟩
    unfold f_X7_readOne_b at hf
    refine lv_iload_n C.x C.b dX7_readOne_0 rfl (lv_at hl 2 rfl) ?_
    refine lv_iconst (v := 4) C.x C.b dX7_readOne_1 (by decide) ?_
    replace hf := bn2_s hf; obtain ⟨q1, m2, hq1, hf⟩ := hf
    have kq1 : ∀ (H : Heap) (locs : List Loc) (ls : Array Slot), Zd K LC ad m2 s H locs → lv_has ls 4 [(0, .ref (ad 5 0)), (1, rf (ad 19) a1), (2, .int a2)] → W p l e (RM (24 + 2 * (d + 1)) 0 0) s m args below meth c H locs 0 0 (MQ below (zQ K LC ad (none) M9) args s 0 0 (zA ad)) (F0 m 13 ls [.int q1]) := by
      intro H locs ls Z hl
      refine z_istore_n (lv' := [(3, .int q1), (0, .ref (ad 5 0)), (1, rf (ad 19) a1), (2, .int a2)]) C dX7_readOne_13 rfl hl (by decide) rfl (onlast 2 rfl rfl rfl) (fun ls hl => ?_)
      refine lv_iload_n C.x C.b dX7_readOne_14 rfl (lv_at hl 0 rfl) ?_
      refine lv_bipush (v := 33) C.x C.b dX7_readOne_15 (by decide) ?_
      refine lv_icmp_ne (tgt := 47) C.x C.b dX7_readOne_17 (by decide) (fun hc3 => ?_) (fun hc3 => ?_)
      · replace hf := ite_f hf hc3
        refine lv_iload_n C.x C.b dX7_readOne_47 rfl (lv_at hl 0 rfl) ?_
        refine lv_bipush (v := 40) C.x C.b dX7_readOne_48 (by decide) ?_
        refine lv_icmp_ne (tgt := 100) C.x C.b dX7_readOne_50 (by decide) (fun hc4 => ?_) (fun hc4 => ?_)
        · replace hf := ite_f hf hc4
          refine lv_aload_n C.x C.b dX7_readOne_100 rfl (lv_at hl 1 rfl) ?_
          refine z_aload_n C dX7_readOne_101 rfl (lv_at hl 2 rfl) ?_
          replace hf := bn1_s hf; obtain ⟨m5, hkm5, hf⟩ := hf
          refine z_cV (As := [rf (ad 19) a1]) (rest := []) (st1 := []) C Z mw_X7_readTest mv_X7_readTest k_788 (by decide) (z_hR hR (by omega)) (lvC5 Nat.zero_lt_one) kC5 zc7 (c_X7_readTest (l := l) (K := K) (ad := ad) hkm5) rfl hl.1 rfl (Nat.le_of_ble_eq_true rfl) dX7_readOne_102 hB rfl (fun H locs Z => ?_)
          obtain rfl := sm_s hf
          exact z_vret C Z dX7_readOne_105
        · replace hf := ite_t hf hc4
          refine lv_aload_n C.x C.b dX7_readOne_53 rfl (lv_at hl 1 rfl) ?_
          refine lv_dup C.x C.b dX7_readOne_54 rfl ?_
          refine z_get C Z (lvC5 Nat.zero_lt_one) kC5 zc7 zin7 2 (by decide) k_144 rfl svC5_2 dX7_readOne_55 ?_
          refine lv_iconst (v := 1) C.x C.b dX7_readOne_58 (by decide) ?_
          refine lv_iadd C.x C.b dX7_readOne_59 ?_
          replace hf := lt1_s hf; obtain ⟨m6, em6, hf⟩ := hf
          refine z_put (M1 := m6) C Z (lvC5 Nat.zero_lt_one) (by decide) kC5 zc7 zin7 tyX7_ok nmX7 2 (by decide) k_144 rfl (zUp_I em6 stC5_2u) (Or.inl rfl) rfl rfl dX7_readOne_60 (fun H locs Z => ?_)
          refine lv_aload_n C.x C.b dX7_readOne_63 rfl (lv_at hl 1 rfl) ?_
          refine z_aload_n C dX7_readOne_64 rfl (lv_at hl 2 rfl) ?_
          refine lv_iload_n C.x C.b dX7_readOne_65 rfl (lv_at hl 3 rfl) ?_
          refine lv_iconst (v := 1) C.x C.b dX7_readOne_66 (by decide) ?_
          refine lv_iadd C.x C.b dX7_readOne_67 ?_
          replace hf := bn1_s hf; obtain ⟨m7, hkm7, hf⟩ := hf
          refine z_cV (As := [rf (ad 19) a1, .int (a2 + 1)]) (rest := []) (st1 := []) C Z mw_X7_readEither mv_X7_readEither k_772 (by decide) (z_hR hR (by omega)) (lvC5 Nat.zero_lt_one) kC5 zc7 (c_X7_readEither (l := l) (K := K) (ad := ad) (hh := 24 + 2 * d) (fun _ _ _ _ h1 => ih _ _ _ _ h1) (by omega) hkm7) rfl hl.1 rfl (Nat.le_of_ble_eq_true rfl) dX7_readOne_68 hB rfl (fun H locs Z => ?_)
          refine lv_aload_n C.x C.b dX7_readOne_71 rfl (lv_at hl 1 rfl) ?_
          replace hf := bn2_s hf; obtain ⟨v9, m8, hkm8, hf⟩ := hf
          refine z_cV (As := []) (rest := []) (st1 := [.int v9]) C Z mw_X7_look mv_X7_look k_780 (by decide) (z_hR hR (by omega)) (lvC5 Nat.zero_lt_one) kC5 zc7 (c_X7_look (l := l) (K := K) (ad := ad) hkm8) rfl hl.1 rfl (Nat.le_of_ble_eq_true rfl) dX7_readOne_72 hB rfl (fun H locs Z => ?_)
          refine lv_bipush (v := 41) C.x C.b dX7_readOne_75 (by decide) ?_
          refine lv_icmp_ne (tgt := 93) C.x C.b dX7_readOne_77 (by decide) (fun hc10 => ?_) (fun hc10 => ?_)
          · replace hf := ite_f hf hc10
            refine lv_aload_n C.x C.b dX7_readOne_93 rfl (lv_at hl 1 rfl) ?_
            replace hf := bn1_s hf; obtain ⟨m11, hkm11, hf⟩ := hf
            refine z_cV (As := []) (rest := []) (st1 := []) C Z mw_X7_fail mv_X7_fail k_764 (by decide) (z_hR hR (by omega)) (lvC5 Nat.zero_lt_one) kC5 zc7 (c_X7_fail (l := l) (K := K) (ad := ad) hkm11) rfl hl.1 rfl (Nat.le_of_ble_eq_true rfl) dX7_readOne_94 hB rfl (fun H locs Z => ?_)
            refine lv_goto (tgt := 105) C.x C.b dX7_readOne_97 (by decide) ?_
            obtain rfl := sm_s hf
            exact z_vret C Z dX7_readOne_105
          · replace hf := ite_t hf hc10
            refine lv_aload_n C.x C.b dX7_readOne_80 rfl (lv_at hl 1 rfl) ?_
            refine lv_dup C.x C.b dX7_readOne_81 rfl ?_
            refine z_get C Z (lvC5 Nat.zero_lt_one) kC5 zc7 zin7 2 (by decide) k_144 rfl svC5_2 dX7_readOne_82 ?_
            refine lv_iconst (v := 1) C.x C.b dX7_readOne_85 (by decide) ?_
            refine lv_iadd C.x C.b dX7_readOne_86 ?_
            replace hf := lt1_s hf; obtain ⟨m12, em12, hf⟩ := hf
            refine z_put (M1 := m12) C Z (lvC5 Nat.zero_lt_one) (by decide) kC5 zc7 zin7 tyX7_ok nmX7 2 (by decide) k_144 rfl (zUp_I em12 stC5_2u) (Or.inl rfl) rfl rfl dX7_readOne_87 (fun H locs Z => ?_)
            refine lv_goto (tgt := 105) C.x C.b dX7_readOne_90 (by decide) ?_
            obtain rfl := sm_s hf
            exact z_vret C Z dX7_readOne_105
      · replace hf := ite_t hf hc3
        refine lv_aload_n C.x C.b dX7_readOne_20 rfl (lv_at hl 1 rfl) ?_
        refine lv_dup C.x C.b dX7_readOne_21 rfl ?_
        refine z_get C Z (lvC5 Nat.zero_lt_one) kC5 zc7 zin7 2 (by decide) k_144 rfl svC5_2 dX7_readOne_22 ?_
        refine lv_iconst (v := 1) C.x C.b dX7_readOne_25 (by decide) ?_
        refine lv_iadd C.x C.b dX7_readOne_26 ?_
        replace hf := lt1_s hf; obtain ⟨m13, em13, hf⟩ := hf
        refine z_put (M1 := m13) C Z (lvC5 Nat.zero_lt_one) (by decide) kC5 zc7 zin7 tyX7_ok nmX7 2 (by decide) k_144 rfl (zUp_I em13 stC5_2u) (Or.inl rfl) rfl rfl dX7_readOne_27 (fun H locs Z => ?_)
        refine lv_aload_n C.x C.b dX7_readOne_30 rfl (lv_at hl 1 rfl) ?_
        refine z_aload_n C dX7_readOne_31 rfl (lv_at hl 2 rfl) ?_
        refine lv_iload_n C.x C.b dX7_readOne_32 rfl (lv_at hl 3 rfl) ?_
        refine lv_iconst (v := 1) C.x C.b dX7_readOne_33 (by decide) ?_
        refine lv_iadd C.x C.b dX7_readOne_34 ?_
        replace hf := bn1_s hf; obtain ⟨m14, hkm14, hf⟩ := hf
        refine z_cV (As := [rf (ad 19) a1, .int (a2 + 1)]) (rest := []) (st1 := []) C Z mw_X7_readOne mv_X7_readOne k_776 (by decide) (z_hR hR (by omega)) (lvC5 Nat.zero_lt_one) kC5 zc7 (ih _ _ _ _ hkm14) rfl hl.1 rfl (Nat.le_of_ble_eq_true rfl) dX7_readOne_35 hB rfl (fun H locs Z => ?_)
        refine z_aload_n C dX7_readOne_38 rfl (lv_at hl 2 rfl) ?_
        refine lv_bipush (v := (-3)) C.x C.b dX7_readOne_39 (by decide) ?_
        replace hf := drf_s hf; obtain ⟨j15, ej17, hj16, hf⟩ := hf
        subst ej17
        refine z_nn [.int (-3)] (y := j15 + 1) rfl ?_
        replace hf := bn1_s hf; obtain ⟨m18, hkm18, hf⟩ := hf
        refine z_cV (As := [.int (-3)]) (rest := []) (st1 := []) C Z mw_X9_addCode mv_X9_addCode k_784 (by decide) (z_hR hR (by omega)) (lvC19 hj16) kC19 zc9 (c_X9_addCode (l := l) (K := K) (ad := ad) hj16 hkm18) rfl hl.1 rfl (Nat.le_of_ble_eq_true rfl) dX7_readOne_41 hB rfl (fun H locs Z => ?_)
        refine lv_goto (tgt := 105) C.x C.b dX7_readOne_44 (by decide) ?_
        obtain rfl := sm_s hf
        exact z_vret C Z dX7_readOne_105
    clear hf
    refine lv_icmp_ge (tgt := 12) C.x C.b dX7_readOne_2 (by decide) (fun hc19 => ?_) (fun hc19 => ?_)
    · have hf := ite_t hq1 hc19; clear hq1
      refine lv_iconst (v := (-1)) C.x C.b dX7_readOne_12 (by decide) ?_
      obtain ⟨rfl, rfl⟩ := pr_s hf
      exact kq1 _ _ _ Z (lv_sub hl [0, 1, 2] rfl)
    · have hf := ite_f hq1 hc19; clear hq1
      refine lv_aload_n C.x C.b dX7_readOne_5 rfl (lv_at hl 0 rfl) ?_
      replace hf := bn2_s hf; obtain ⟨v21, m20, hkm20, hf⟩ := hf
      refine z_cV (As := []) (rest := []) (st1 := [.int v21]) C Z mw_X7_look mv_X7_look k_780 (by decide) (z_hR hR (by omega)) (lvC5 Nat.zero_lt_one) kC5 zc7 (c_X7_look (l := l) (K := K) (ad := ad) hkm20) rfl hl.1 rfl (Nat.le_of_ble_eq_true rfl) dX7_readOne_6 hB rfl (fun H locs Z => ?_)
      refine lv_goto (tgt := 13) C.x C.b dX7_readOne_9 (by decide) ?_
      obtain ⟨rfl, rfl⟩ := pr_s hf
      exact kq1 _ _ _ Z (lv_sub hl [0, 1, 2] rfl)
theorem dX7_readClause_0 : decode cX7_readClause 0 = .ok (.aload_n 0, 1) := by decide +kernel
theorem dX7_readClause_1 : decode cX7_readClause 1 = .ok (.invokevirtual 41, 3) := by decide +kernel
theorem dX7_readClause_4 : decode cX7_readClause 4 = .ok (.istore_n 2, 1) := by decide +kernel
theorem dX7_readClause_5 : decode cX7_readClause 5 = .ok (.iload_n 2, 1) := by decide +kernel
theorem dX7_readClause_6 : decode cX7_readClause 6 = .ok (.iconst 4, 1) := by decide +kernel
theorem dX7_readClause_7 : decode cX7_readClause 7 = .ok (.if_icmp .eq 8, 3) := by decide +kernel
theorem dX7_readClause_10 : decode cX7_readClause 10 = .ok (.iload_n 2, 1) := by decide +kernel
theorem dX7_readClause_11 : decode cX7_readClause 11 = .ok (.iconst 5, 1) := by decide +kernel
theorem dX7_readClause_12 : decode cX7_readClause 12 = .ok (.if_icmp .ne 27, 3) := by decide +kernel
theorem dX7_readClause_15 : decode cX7_readClause 15 = .ok (.aload_n 1, 1) := by decide +kernel
theorem dX7_readClause_16 : decode cX7_readClause 16 = .ok (.iload_n 2, 1) := by decide +kernel
theorem dX7_readClause_17 : decode cX7_readClause 17 = .ok (.aload_n 1, 1) := by decide +kernel
theorem dX7_readClause_18 : decode cX7_readClause 18 = .ok (.getfield 44, 3) := by decide +kernel
theorem dX7_readClause_21 : decode cX7_readClause 21 = .ok (.invokevirtual 47, 3) := by decide +kernel
theorem dX7_readClause_24 : decode cX7_readClause 24 = .ok (.aload_n 0, 1) := by decide +kernel
theorem dX7_readClause_25 : decode cX7_readClause 25 = .ok (.aload_n 1, 1) := by decide +kernel
theorem dX7_readClause_26 : decode cX7_readClause 26 = .ok (.iconst 0, 1) := by decide +kernel
theorem dX7_readClause_27 : decode cX7_readClause 27 = .ok (.invokevirtual 51, 3) := by decide +kernel
theorem dX7_readClause_30 : decode cX7_readClause 30 = .ok (.aload_n 1, 1) := by decide +kernel
theorem dX7_readClause_31 : decode cX7_readClause 31 = .ok (.bipush (-4), 2) := by decide +kernel
theorem dX7_readClause_33 : decode cX7_readClause 33 = .ok (.invokevirtual 55, 3) := by decide +kernel
theorem dX7_readClause_36 : decode cX7_readClause 36 = .ok (.goto 12, 3) := by decide +kernel
theorem dX7_readClause_39 : decode cX7_readClause 39 = .ok (.aload_n 1, 1) := by decide +kernel
theorem dX7_readClause_40 : decode cX7_readClause 40 = .ok (.iload_n 2, 1) := by decide +kernel
theorem dX7_readClause_41 : decode cX7_readClause 41 = .ok (.aload_n 0, 1) := by decide +kernel
theorem dX7_readClause_42 : decode cX7_readClause 42 = .ok (.invokevirtual 59, 3) := by decide +kernel
theorem dX7_readClause_45 : decode cX7_readClause 45 = .ok (.invokevirtual 47, 3) := by decide +kernel
theorem dX7_readClause_48 : decode cX7_readClause 48 = .ok (.return_, 1) := by decide +kernel
set_option maxRecDepth 100000 in
set_option maxHeartbeats 4000000 in
theorem w_X7_readClause_b15 {p : Program} {l : Launch} {e : Env} {s : State} {m : MethodId} {args : Array Value} {below : List Frame} {meth : Method} {c : Code} {K : KG} {ad : Nat → Nat → Nat} {fl : Nat} {H : Heap} {locs : List Loc} {ls : Array Slot} {g1 : Nat} {g2 : Int32} {M0 : Mem} {M9 : Mem} (C : Cx p s m args meth c cX7_readClause 3 "GlassPalace$Script" none) (hR : 42 ≤ (RM (42) 0 0).frames ∧ 40 * (42) ≤ (RM (42) 0 0).locals) (hB : 0 ≤ (RM (42) 0 0).cells ∧ 0 ≤ (RM (42) 0 0).slots) (Z : Zd K LC ad M0 s H locs) (hl : lv_has ls 3 [(0, .ref (ad 5 0)), (1, rf (ad 19) g1), (2, .int g2)]) (hf : f_X7_readClause_b15 fl g1 g2 M0 = some M9) : W p l e (RM (42) 0 0) s m args below meth c H locs 0 0 (MQ below (zQ K LC ad (none) M9) args s 0 0 (zA ad)) (F0 m 15 ls []) := by
  unfold f_X7_readClause_b15 at hf
  refine z_aload_n C dX7_readClause_15 rfl (lv_at hl 1 rfl) ?_
  refine lv_iload_n C.x C.b dX7_readClause_16 rfl (lv_at hl 2 rfl) ?_
  refine z_aload_n C dX7_readClause_17 rfl (lv_at hl 1 rfl) ?_
  replace hf := drf_s hf; obtain ⟨j4, ej6, hj5, hf⟩ := hf
  subst ej6
  refine z_nn [] (y := j4 + 1) rfl ?_
  refine z_get C Z (lvC19 hj5) kC19 zc9 zin9 1 (by decide) k_172 rfl svC19_1 dX7_readClause_18 ?_
  replace hf := bn1_s hf; obtain ⟨m7, hkm7, hf⟩ := hf
  refine z_cV (As := [.int g2, .int (gI M0 19 j4 1)]) (rest := []) (st1 := []) C Z mw_X9_addClause mv_X9_addClause k_768 (by decide) (z_hR hR (by decide)) (lvC19 hj5) kC19 zc9 (c_X9_addClause (l := l) (K := K) (ad := ad) hj5 hkm7) rfl hl.1 rfl (Nat.le_of_ble_eq_true rfl) dX7_readClause_21 hB rfl (fun H locs Z => ?_)
  refine lv_aload_n C.x C.b dX7_readClause_24 rfl (lv_at hl 0 rfl) ?_
  refine lv_aload_n C.x C.b dX7_readClause_25 rfl (lv_at hl 1 rfl) ?_
  refine lv_iconst (v := 0) C.x C.b dX7_readClause_26 (by decide) ?_
  replace hf := bn1_s hf; obtain ⟨m8, hkm8, hf⟩ := hf
  refine z_cV (As := [.ref (ad 19 j4), .int 0]) (rest := []) (st1 := []) C Z mw_X7_readEither mv_X7_readEither k_772 (by decide) (z_hR hR (by decide)) (lvC5 Nat.zero_lt_one) kC5 zc7 (c_X7_readEither (l := l) (K := K) (ad := ad) (fun _ _ _ _ h1 => c_X7_readOne 8 _ _ _ _ h1) (by decide) hkm8) rfl hl.1 rfl (Nat.le_of_ble_eq_true rfl) dX7_readClause_27 hB rfl (fun H locs Z => ?_)
  refine lv_aload_n C.x C.b dX7_readClause_30 rfl (lv_at hl 1 rfl) ?_
  refine lv_bipush (v := (-4)) C.x C.b dX7_readClause_31 (by decide) ?_
  replace hf := bn1_s hf; obtain ⟨m9, hkm9, hf⟩ := hf
  refine z_cV (As := [.int (-4)]) (rest := []) (st1 := []) C Z mw_X9_addCode mv_X9_addCode k_784 (by decide) (z_hR hR (by decide)) (lvC19 hj5) kC19 zc9 (c_X9_addCode (l := l) (K := K) (ad := ad) hj5 hkm9) rfl hl.1 rfl (Nat.le_of_ble_eq_true rfl) dX7_readClause_33 hB rfl (fun H locs Z => ?_)
  refine lv_goto (tgt := 48) C.x C.b dX7_readClause_36 (by decide) ?_
  obtain rfl := sm_s hf
  exact z_vret C Z dX7_readClause_48
set_option maxRecDepth 100000 in
set_option maxHeartbeats 4000000 in
theorem c_X7_readClause {l : Launch} {K : KG} {ad : Nat → Nat → Nat} {fl : Nat} {a1 : Nat} {M0 : Mem} {M9 : Mem} (hf : f_X7_readClause fl a1 M0 = some M9) : Met l yX7_readClause (Cond.code yX7_readClause cX7_readClause 3 none :: ztb) (RM (42) 0 0) (zPc K LC ad M0 [.ref (ad 5 0), rf (ad 19) a1]) (zQ K LC ad (none) M9) 0 0 (zA ad) := by
  refine z_enter (by decide) (by simp [lg_sl, rf_cat, cat_i, cat_l, cat_r, cat_n]) ?_
  intro p e s m args below meth c ls C hin hargs Z hl
  replace C : Cx p s m args meth c cX7_readClause 3 "GlassPalace$Script" none := C
  replace hl : lv_has ls 3 [(0, .ref (ad 5 0)), (1, rf (ad 19) a1)] := by simpa [lv_args, rf_cat, cat_i, cat_l, cat_r, cat_n] using hl
  have hR : 42 ≤ (RM (42) 0 0).frames ∧ 40 * (42) ≤ (RM (42) 0 0).locals := ⟨Nat.le_refl _, Nat.le_refl _⟩
  have hB : 0 ≤ (RM (42) 0 0).cells ∧ 0 ≤ (RM (42) 0 0).slots := ⟨Nat.zero_le _, Nat.zero_le _⟩
  unfold f_X7_readClause at hf
  refine lv_aload_n C.x C.b dX7_readClause_0 rfl (lv_at hl 0 rfl) ?_
  replace hf := bn2_s hf; obtain ⟨v2, m1, hkm1, hf⟩ := hf
  refine z_cV (As := []) (rest := []) (st1 := [.int v2]) C Z mw_X7_readWord mv_X7_readWord k_704 (by decide) (z_hR hR (by decide)) (lvC5 Nat.zero_lt_one) kC5 zc7 (c_X7_readWord (l := l) (K := K) (ad := ad) hkm1) rfl hl.1 rfl (Nat.le_of_ble_eq_true rfl) dX7_readClause_1 hB rfl (fun H locs Z => ?_)
  refine z_istore_n (lv' := [(2, .int v2), (0, .ref (ad 5 0)), (1, rf (ad 19) a1)]) C dX7_readClause_4 rfl hl (by decide) rfl (onlast 1 rfl (rf_cat _ _) rfl) (fun ls hl => ?_)
  refine lv_iload_n C.x C.b dX7_readClause_5 rfl (lv_at hl 0 rfl) ?_
  refine lv_iconst (v := 4) C.x C.b dX7_readClause_6 (by decide) ?_
  refine lv_icmp_eq (tgt := 15) C.x C.b dX7_readClause_7 (by decide) (fun hc3 => ?_) (fun hc3 => ?_)
  · replace hf := ite_t hf hc3
    exact w_X7_readClause_b15 C hR hB  Z (lv_sub hl [1, 2, 0] rfl) hf
  · replace hf := ite_f hf hc3
    refine lv_iload_n C.x C.b dX7_readClause_10 rfl (lv_at hl 0 rfl) ?_
    refine lv_iconst (v := 5) C.x C.b dX7_readClause_11 (by decide) ?_
    refine lv_icmp_ne (tgt := 39) C.x C.b dX7_readClause_12 (by decide) (fun hc10 => ?_) (fun hc10 => ?_)
    · replace hf := ite_f hf hc10
      refine z_aload_n C dX7_readClause_39 rfl (lv_at hl 2 rfl) ?_
      refine lv_iload_n C.x C.b dX7_readClause_40 rfl (lv_at hl 0 rfl) ?_
      refine lv_aload_n C.x C.b dX7_readClause_41 rfl (lv_at hl 1 rfl) ?_
      replace hf := bn2_s hf; obtain ⟨v12, m11, hkm11, hf⟩ := hf
      refine z_cV (As := []) (rest := [.int v2, rf (ad 19) a1]) (st1 := [.int v12, .int v2, rf (ad 19) a1]) C Z mw_X7_readNumber mv_X7_readNumber k_798 (by decide) (z_hR hR (by decide)) (lvC5 Nat.zero_lt_one) kC5 zc7 (c_X7_readNumber (l := l) (K := K) (ad := ad) hkm11) rfl hl.1 rfl (by simp [rf_cat, cat_i, cat_l, cat_r, cat_n]) dX7_readClause_42 hB rfl (fun H locs Z => ?_)
      replace hf := drf_s hf; obtain ⟨j13, ej15, hj14, hf⟩ := hf
      subst ej15
      refine z_nn [.int v12, .int v2] (y := j13 + 1) rfl ?_
      replace hf := bn1_s hf; obtain ⟨m16, hkm16, hf⟩ := hf
      refine z_cV (As := [.int v2, .int v12]) (rest := []) (st1 := []) C Z mw_X9_addClause mv_X9_addClause k_768 (by decide) (z_hR hR (by decide)) (lvC19 hj14) kC19 zc9 (c_X9_addClause (l := l) (K := K) (ad := ad) hj14 hkm16) rfl hl.1 rfl (Nat.le_of_ble_eq_true rfl) dX7_readClause_45 hB rfl (fun H locs Z => ?_)
      obtain rfl := sm_s hf
      exact z_vret C Z dX7_readClause_48
    · replace hf := ite_t hf hc10
      exact w_X7_readClause_b15 C hR hB  Z (lv_sub hl [1, 2, 0] rfl) hf
theorem dX7_readInto_0 : decode cX7_readInto 0 = .ok (.aload_n 0, 1) := by decide +kernel
theorem dX7_readInto_1 : decode cX7_readInto 1 = .ok (.iconst 0, 1) := by decide +kernel
theorem dX7_readInto_2 : decode cX7_readInto 2 = .ok (.putfield 19, 3) := by decide +kernel
theorem dX7_readInto_5 : decode cX7_readInto 5 = .ok (.aload_n 0, 1) := by decide +kernel
theorem dX7_readInto_6 : decode cX7_readInto 6 = .ok (.iconst (-1), 1) := by decide +kernel
theorem dX7_readInto_7 : decode cX7_readInto 7 = .ok (.putfield 22, 3) := by decide +kernel
theorem dX7_readInto_10 : decode cX7_readInto 10 = .ok (.aload_n 1, 1) := by decide +kernel
theorem dX7_readInto_11 : decode cX7_readInto 11 = .ok (.invokevirtual 25, 3) := by decide +kernel
theorem dX7_readInto_14 : decode cX7_readInto 14 = .ok (.iconst 1, 1) := by decide +kernel
theorem dX7_readInto_15 : decode cX7_readInto 15 = .ok (.istore_n 2, 1) := by decide +kernel
theorem dX7_readInto_16 : decode cX7_readInto 16 = .ok (.iconst 1, 1) := by decide +kernel
theorem dX7_readInto_17 : decode cX7_readInto 17 = .ok (.istore_n 3, 1) := by decide +kernel
theorem dX7_readInto_18 : decode cX7_readInto 18 = .ok (.iload_n 2, 1) := by decide +kernel
theorem dX7_readInto_19 : decode cX7_readInto 19 = .ok (.ifCond .eq 55, 3) := by decide +kernel
theorem dX7_readInto_22 : decode cX7_readInto 22 = .ok (.iload_n 3, 1) := by decide +kernel
theorem dX7_readInto_23 : decode cX7_readInto 23 = .ok (.bipush 8, 2) := by decide +kernel
theorem dX7_readInto_25 : decode cX7_readInto 25 = .ok (.if_icmp .gt 49, 3) := by decide +kernel
theorem dX7_readInto_28 : decode cX7_readInto 28 = .ok (.aload_n 0, 1) := by decide +kernel
theorem dX7_readInto_29 : decode cX7_readInto 29 = .ok (.aload_n 1, 1) := by decide +kernel
theorem dX7_readInto_30 : decode cX7_readInto 30 = .ok (.invokevirtual 30, 3) := by decide +kernel
theorem dX7_readInto_33 : decode cX7_readInto 33 = .ok (.aload_n 0, 1) := by decide +kernel
theorem dX7_readInto_34 : decode cX7_readInto 34 = .ok (.invokevirtual 34, 3) := by decide +kernel
theorem dX7_readInto_37 : decode cX7_readInto 37 = .ok (.bipush 59, 2) := by decide +kernel
theorem dX7_readInto_39 : decode cX7_readInto 39 = .ok (.if_icmp .ne 13, 3) := by decide +kernel
theorem dX7_readInto_42 : decode cX7_readInto 42 = .ok (.iload_n 3, 1) := by decide +kernel
theorem dX7_readInto_43 : decode cX7_readInto 43 = .ok (.bipush 8, 2) := by decide +kernel
theorem dX7_readInto_45 : decode cX7_readInto 45 = .ok (.if_icmp .ge 7, 3) := by decide +kernel
theorem dX7_readInto_48 : decode cX7_readInto 48 = .ok (.iconst 1, 1) := by decide +kernel
theorem dX7_readInto_49 : decode cX7_readInto 49 = .ok (.goto 4, 3) := by decide +kernel
theorem dX7_readInto_52 : decode cX7_readInto 52 = .ok (.iconst 0, 1) := by decide +kernel
theorem dX7_readInto_53 : decode cX7_readInto 53 = .ok (.istore_n 2, 1) := by decide +kernel
theorem dX7_readInto_54 : decode cX7_readInto 54 = .ok (.iload_n 2, 1) := by decide +kernel
theorem dX7_readInto_55 : decode cX7_readInto 55 = .ok (.ifCond .eq 13, 3) := by decide +kernel
theorem dX7_readInto_58 : decode cX7_readInto 58 = .ok (.aload_n 0, 1) := by decide +kernel
theorem dX7_readInto_59 : decode cX7_readInto 59 = .ok (.dup, 1) := by decide +kernel
theorem dX7_readInto_60 : decode cX7_readInto 60 = .ok (.getfield 19, 3) := by decide +kernel
theorem dX7_readInto_63 : decode cX7_readInto 63 = .ok (.iconst 1, 1) := by decide +kernel
theorem dX7_readInto_64 : decode cX7_readInto 64 = .ok (.iadd, 1) := by decide +kernel
theorem dX7_readInto_65 : decode cX7_readInto 65 = .ok (.putfield 19, 3) := by decide +kernel
theorem dX7_readInto_68 : decode cX7_readInto 68 = .ok (.iinc 3 1, 3) := by decide +kernel
theorem dX7_readInto_71 : decode cX7_readInto 71 = .ok (.goto (-53), 3) := by decide +kernel
theorem dX7_readInto_74 : decode cX7_readInto 74 = .ok (.aload_n 0, 1) := by decide +kernel
theorem dX7_readInto_75 : decode cX7_readInto 75 = .ok (.getfield 19, 3) := by decide +kernel
theorem dX7_readInto_78 : decode cX7_readInto 78 = .ok (.aload_n 0, 1) := by decide +kernel
theorem dX7_readInto_79 : decode cX7_readInto 79 = .ok (.getfield 15, 3) := by decide +kernel
theorem dX7_readInto_82 : decode cX7_readInto 82 = .ok (.if_icmp .ge 7, 3) := by decide +kernel
theorem dX7_readInto_85 : decode cX7_readInto 85 = .ok (.aload_n 0, 1) := by decide +kernel
theorem dX7_readInto_86 : decode cX7_readInto 86 = .ok (.invokevirtual 38, 3) := by decide +kernel
theorem dX7_readInto_89 : decode cX7_readInto 89 = .ok (.aload_n 0, 1) := by decide +kernel
theorem dX7_readInto_90 : decode cX7_readInto 90 = .ok (.getfield 22, 3) := by decide +kernel
theorem dX7_readInto_93 : decode cX7_readInto 93 = .ok (.ireturn, 1) := by decide +kernel
set_option maxRecDepth 100000 in
set_option maxHeartbeats 4000000 in
theorem w_X7_readInto_l18 {p : Program} {l : Launch} {e : Env} {R : Room} {s : State} {m : MethodId} {args : Array Value} {below : List Frame} {meth : Method} {c : Code} {cells slots : Nat} {Q : State → Prop} {K : KG} {ad : Nat → Nat → Nat} {fl : Nat} {g1 : Nat} (C : Cx p s m args meth c cX7_readInto 4 "GlassPalace$Script" (some .int)) (hR : 43 ≤ R.frames ∧ 40 * (43) ≤ R.locals) (hB : cells ≤ R.cells ∧ slots ≤ R.slots) (hg1 : g1 < 10) : ∀ (n : Nat) (u2 : Int32) (u3 : Int32) (M0 : Mem) (H : Heap) (locs : List Loc) (ls : Array Slot), Zd K LC ad M0 s H locs → lv_has ls 4 [(0, .ref (ad 5 0)), (1, .ref (ad 19 g1)), (2, .int u2), (3, .int u3)] → ∀ (Mq : Mem), f_X7_readInto_l18 fl g1 n u2 u3 M0 = some Mq → (∀ (H : Heap) (locs : List Loc) (ls : Array Slot), Zd K LC ad Mq s H locs → lv_has ls 4 [(0, .ref (ad 5 0))] → W p l e R s m args below meth c H locs cells slots Q (F0 m 74 ls [])) → W p l e R s m args below meth c H locs cells slots Q (F0 m 18 ls []) := by
  intro n
  induction n with
  | zero =>
    intro u2 u3 M0 H locs ls Z hl Mq hf
    have hf : (none : Option (Mem)) = some Mq := hf
    cases hf
  | succ n ih =>
    intro u2 u3 M0 H locs ls Z hl Mq hf kx0
    replace hf : f_X7_readInto_l18_b (f_X7_readInto_l18 fl g1 n) fl g1 u2 u3 M0 = some Mq := hf
    unfold f_X7_readInto_l18_b at hf
    refine lv_iload_n C.x C.b dX7_readInto_18 rfl (lv_at hl 2 rfl) ?_
    refine lv_if_eq (tgt := 74) C.x C.b dX7_readInto_19 (by decide) (fun hc7 => ?_) (fun hc7 => ?_)
    · replace hf := ite_t hf hc7
      obtain rfl := sm_s hf
      exact kx0 _ _ _ Z (lv_sub hl [0] rfl)
    · replace hf := ite_f hf hc7
      refine lv_iload_n C.x C.b dX7_readInto_22 rfl (lv_at hl 3 rfl) ?_
      refine lv_bipush (v := 8) C.x C.b dX7_readInto_23 (by decide) ?_
      refine lv_icmp_gt (tgt := 74) C.x C.b dX7_readInto_25 (by decide) (fun hc8 => ?_) (fun hc8 => ?_)
      · replace hf := ite_t hf hc8
        obtain rfl := sm_s hf
        exact kx0 _ _ _ Z (lv_sub hl [0] rfl)
      · replace hf := ite_f hf hc8
        refine lv_aload_n C.x C.b dX7_readInto_28 rfl (lv_at hl 0 rfl) ?_
        refine lv_aload_n C.x C.b dX7_readInto_29 rfl (lv_at hl 1 rfl) ?_
        replace hf := bn1_s hf; obtain ⟨m9, hkm9, hf⟩ := hf
        refine z_cV (As := [.ref (ad 19 g1)]) (rest := []) (st1 := []) C Z mw_X7_readClause mv_X7_readClause k_700 (by decide) (z_hR hR (by decide)) (lvC5 Nat.zero_lt_one) kC5 zc7 (c_X7_readClause (l := l) (K := K) (ad := ad) hkm9) rfl hl.1 rfl (Nat.le_of_ble_eq_true rfl) dX7_readInto_30 hB rfl (fun H locs Z => ?_)
        refine lv_aload_n C.x C.b dX7_readInto_33 rfl (lv_at hl 0 rfl) ?_
        replace hf := bn2_s hf; obtain ⟨v11, m10, hkm10, hf⟩ := hf
        refine z_cV (As := []) (rest := []) (st1 := [.int v11]) C Z mw_X7_look mv_X7_look k_780 (by decide) (z_hR hR (by decide)) (lvC5 Nat.zero_lt_one) kC5 zc7 (c_X7_look (l := l) (K := K) (ad := ad) hkm10) rfl hl.1 rfl (Nat.le_of_ble_eq_true rfl) dX7_readInto_34 hB rfl (fun H locs Z => ?_)
        refine lv_bipush (v := 59) C.x C.b dX7_readInto_37 (by decide) ?_
        replace hf := bn2_s hf; obtain ⟨q12, m13, hq12, hf⟩ := hf
        have kq12 : ∀ (H : Heap) (locs : List Loc) (ls : Array Slot), Zd K LC ad m13 s H locs → lv_has ls 4 [(0, .ref (ad 5 0)), (1, .ref (ad 19 g1)), (3, .int u3)] → W p l e R s m args below meth c H locs cells slots Q (F0 m 53 ls [.int q12]) := by
          intro H locs ls Z hl
          refine z_istore_n (lv' := [(2, .int q12), (0, .ref (ad 5 0)), (1, .ref (ad 19 g1)), (3, .int u3)]) C dX7_readInto_53 rfl hl (by decide) rfl (onlast 1 rfl rfl rfl) (fun ls hl => ?_)
          refine lv_iload_n C.x C.b dX7_readInto_54 rfl (lv_at hl 0 rfl) ?_
          refine lv_if_eq (tgt := 68) C.x C.b dX7_readInto_55 (by decide) (fun hc14 => ?_) (fun hc14 => ?_)
          · replace hf := ite_t hf hc14
            replace hf := lt1_s hf; obtain ⟨x15, ex15, hf⟩ := hf
            refine z_iinc (v := x15) (lv' := [(3, .int x15), (2, .int q12), (0, .ref (ad 5 0)), (1, .ref (ad 19 g1))]) C dX7_readInto_68 hl (k := 3) rfl (by rw [ex15]; rfl) (by decide) rfl (onlast 0 rfl rfl rfl) (fun ls hl => ?_)
            refine lv_goto (tgt := 18) C.x C.b dX7_readInto_71 (by decide) ?_
            exact ih _ _ _ _ _ _ Z (lv_sub hl [2, 3, 1, 0] rfl) _ hf kx0
          · replace hf := ite_f hf hc14
            refine lv_aload_n C.x C.b dX7_readInto_58 rfl (lv_at hl 1 rfl) ?_
            refine lv_dup C.x C.b dX7_readInto_59 rfl ?_
            refine z_get C Z (lvC5 Nat.zero_lt_one) kC5 zc7 zin7 2 (by decide) k_144 rfl svC5_2 dX7_readInto_60 ?_
            refine lv_iconst (v := 1) C.x C.b dX7_readInto_63 (by decide) ?_
            refine lv_iadd C.x C.b dX7_readInto_64 ?_
            replace hf := lt1_s hf; obtain ⟨m16, em16, hf⟩ := hf
            refine z_put (M1 := m16) C Z (lvC5 Nat.zero_lt_one) (by decide) kC5 zc7 zin7 tyX7_ok nmX7 2 (by decide) k_144 rfl (zUp_I em16 stC5_2u) (Or.inl rfl) rfl rfl dX7_readInto_65 (fun H locs Z => ?_)
            replace hf := lt1_s hf; obtain ⟨x17, ex17, hf⟩ := hf
            refine z_iinc (v := x17) (lv' := [(3, .int x17), (2, .int q12), (0, .ref (ad 5 0)), (1, .ref (ad 19 g1))]) C dX7_readInto_68 hl (k := 3) rfl (by rw [ex17]; rfl) (by decide) rfl (onlast 0 rfl rfl rfl) (fun ls hl => ?_)
            refine lv_goto (tgt := 18) C.x C.b dX7_readInto_71 (by decide) ?_
            exact ih _ _ _ _ _ _ Z (lv_sub hl [2, 3, 1, 0] rfl) _ hf kx0
        clear hf
        refine lv_icmp_ne (tgt := 52) C.x C.b dX7_readInto_39 (by decide) (fun hc18 => ?_) (fun hc18 => ?_)
        · have hf := ite_f hq12 hc18; clear hq12
          refine lv_iconst (v := 0) C.x C.b dX7_readInto_52 (by decide) ?_
          obtain ⟨rfl, rfl⟩ := pr_s hf
          exact kq12 _ _ _ Z (lv_sub hl [0, 1, 3] rfl)
        · have hf := ite_t hq12 hc18; clear hq12
          refine lv_iload_n C.x C.b dX7_readInto_42 rfl (lv_at hl 3 rfl) ?_
          refine lv_bipush (v := 8) C.x C.b dX7_readInto_43 (by decide) ?_
          refine lv_icmp_ge (tgt := 52) C.x C.b dX7_readInto_45 (by decide) (fun hc19 => ?_) (fun hc19 => ?_)
          · replace hf := ite_t hf hc19
            refine lv_iconst (v := 0) C.x C.b dX7_readInto_52 (by decide) ?_
            obtain ⟨rfl, rfl⟩ := pr_s hf
            exact kq12 _ _ _ Z (lv_sub hl [0, 1, 3] rfl)
          · replace hf := ite_f hf hc19
            refine lv_iconst (v := 1) C.x C.b dX7_readInto_48 (by decide) ?_
            refine lv_goto (tgt := 53) C.x C.b dX7_readInto_49 (by decide) ?_
            obtain ⟨rfl, rfl⟩ := pr_s hf
            exact kq12 _ _ _ Z (lv_sub hl [0, 1, 3] rfl)
set_option maxRecDepth 100000 in
set_option maxHeartbeats 4000000 in
theorem w_X7_readInto_b74 {p : Program} {l : Launch} {e : Env} {s : State} {m : MethodId} {args : Array Value} {below : List Frame} {meth : Method} {c : Code} {K : KG} {ad : Nat → Nat → Nat} {fl : Nat} {H : Heap} {locs : List Loc} {ls : Array Slot} {M0 : Mem} {r9 : Int32} {M9 : Mem} (C : Cx p s m args meth c cX7_readInto 4 "GlassPalace$Script" (some .int)) (hR : 43 ≤ (RM (43) 0 0).frames ∧ 40 * (43) ≤ (RM (43) 0 0).locals) (hB : 0 ≤ (RM (43) 0 0).cells ∧ 0 ≤ (RM (43) 0 0).slots) (Z : Zd K LC ad M0 s H locs) (hl : lv_has ls 4 [(0, .ref (ad 5 0))]) (hf : f_X7_readInto_b74 fl  M0 = some (r9, M9)) : W p l e (RM (43) 0 0) s m args below meth c H locs 0 0 (MQ below (zQ K LC ad (some (.int r9)) M9) args s 0 0 (zA ad)) (F0 m 74 ls []) := by
  unfold f_X7_readInto_b74 at hf
  refine lv_aload_n C.x C.b dX7_readInto_74 rfl (lv_at hl 0 rfl) ?_
  refine z_get C Z (lvC5 Nat.zero_lt_one) kC5 zc7 zin7 2 (by decide) k_144 rfl svC5_2 dX7_readInto_75 ?_
  refine lv_aload_n C.x C.b dX7_readInto_78 rfl (lv_at hl 0 rfl) ?_
  refine z_get C Z (lvC5 Nat.zero_lt_one) kC5 zc7 zin7 0 (by decide) k_141 rfl svC5_0 dX7_readInto_79 ?_
  refine lv_icmp_ge (tgt := 89) C.x C.b dX7_readInto_82 (by decide) (fun hc22 => ?_) (fun hc22 => ?_)
  · replace hf := ite_t hf hc22
    refine lv_aload_n C.x C.b dX7_readInto_89 rfl (lv_at hl 0 rfl) ?_
    refine z_get C Z (lvC5 Nat.zero_lt_one) kC5 zc7 zin7 3 (by decide) k_145 rfl svC5_3 dX7_readInto_90 ?_
    obtain ⟨rfl, rfl⟩ := pr_s hf
    exact z_iret C Z dX7_readInto_93
  · replace hf := ite_f hf hc22
    refine lv_aload_n C.x C.b dX7_readInto_85 rfl (lv_at hl 0 rfl) ?_
    replace hf := bn1_s hf; obtain ⟨m23, hkm23, hf⟩ := hf
    refine z_cV (As := []) (rest := []) (st1 := []) C Z mw_X7_fail mv_X7_fail k_764 (by decide) (z_hR hR (by decide)) (lvC5 Nat.zero_lt_one) kC5 zc7 (c_X7_fail (l := l) (K := K) (ad := ad) hkm23) rfl hl.1 rfl (Nat.le_of_ble_eq_true rfl) dX7_readInto_86 hB rfl (fun H locs Z => ?_)
    refine lv_aload_n C.x C.b dX7_readInto_89 rfl (lv_at hl 0 rfl) ?_
    refine z_get C Z (lvC5 Nat.zero_lt_one) kC5 zc7 zin7 3 (by decide) k_145 rfl svC5_3 dX7_readInto_90 ?_
    obtain ⟨rfl, rfl⟩ := pr_s hf
    exact z_iret C Z dX7_readInto_93
set_option maxRecDepth 100000 in
set_option maxHeartbeats 4000000 in
theorem c_X7_readInto {l : Launch} {K : KG} {ad : Nat → Nat → Nat} {fl : Nat} {a1 : Nat} {M0 : Mem} {r9 : Int32} {M9 : Mem} (hf : f_X7_readInto fl a1 M0 = some (r9, M9)) : Met l yX7_readInto (Cond.code yX7_readInto cX7_readInto 4 (some .int) :: ztb) (RM (43) 0 0) (zPc K LC ad M0 [.ref (ad 5 0), rf (ad 19) a1]) (zQ K LC ad (some (.int r9)) M9) 0 0 (zA ad) := by
  refine z_enter (by decide) (by simp [lg_sl, rf_cat, cat_i, cat_l, cat_r, cat_n]) ?_
  intro p e s m args below meth c ls C hin hargs Z hl
  replace C : Cx p s m args meth c cX7_readInto 4 "GlassPalace$Script" (some .int) := C
  replace hl : lv_has ls 4 [(0, .ref (ad 5 0)), (1, rf (ad 19) a1)] := by simpa [lv_args, rf_cat, cat_i, cat_l, cat_r, cat_n] using hl
  have hR : 43 ≤ (RM (43) 0 0).frames ∧ 40 * (43) ≤ (RM (43) 0 0).locals := ⟨Nat.le_refl _, Nat.le_refl _⟩
  have hB : 0 ≤ (RM (43) 0 0).cells ∧ 0 ≤ (RM (43) 0 0).slots := ⟨Nat.zero_le _, Nat.zero_le _⟩
  unfold f_X7_readInto at hf
  refine lv_aload_n C.x C.b dX7_readInto_0 rfl (lv_at hl 0 rfl) ?_
  refine lv_iconst (v := 0) C.x C.b dX7_readInto_1 (by decide) ?_
  replace hf := lt1_s hf; obtain ⟨m1, em1, hf⟩ := hf
  refine z_put (M1 := m1) C Z (lvC5 Nat.zero_lt_one) (by decide) kC5 zc7 zin7 tyX7_ok nmX7 2 (by decide) k_144 rfl (zUp_I em1 stC5_2u) (Or.inl rfl) rfl rfl dX7_readInto_2 (fun H locs Z => ?_)
  refine lv_aload_n C.x C.b dX7_readInto_5 rfl (lv_at hl 0 rfl) ?_
  refine lv_iconst (v := (-1)) C.x C.b dX7_readInto_6 (by decide) ?_
  replace hf := lt1_s hf; obtain ⟨m2, em2, hf⟩ := hf
  refine z_put (M1 := m2) C Z (lvC5 Nat.zero_lt_one) (by decide) kC5 zc7 zin7 tyX7_ok nmX7 3 (by decide) k_145 rfl (zUp_I em2 stC5_3u) (Or.inl rfl) rfl rfl dX7_readInto_7 (fun H locs Z => ?_)
  refine z_aload_n C dX7_readInto_10 rfl (lv_at hl 1 rfl) ?_
  replace hf := drf_s hf; obtain ⟨j3, ej5, hj4, hf⟩ := hf
  subst ej5
  refine z_nn [] (y := j3 + 1) rfl ?_
  replace hf := bn1_s hf; obtain ⟨m6, hkm6, hf⟩ := hf
  refine z_cV (As := []) (rest := []) (st1 := []) C Z mw_X9_empty mv_X9_empty k_696 (by decide) (z_hR hR (by decide)) (lvC19 hj4) kC19 zc9 (c_X9_empty (l := l) (K := K) (ad := ad) hj4 hkm6) rfl hl.1 rfl (Nat.le_of_ble_eq_true rfl) dX7_readInto_11 hB rfl (fun H locs Z => ?_)
  refine lv_iconst (v := 1) C.x C.b dX7_readInto_14 (by decide) ?_
  refine z_istore_n (lv' := [(2, .int 1), (0, .ref (ad 5 0)), (1, .ref (ad 19 j3))]) C dX7_readInto_15 rfl hl (by decide) rfl (onlast 1 rfl rfl rfl) (fun ls hl => ?_)
  refine lv_iconst (v := 1) C.x C.b dX7_readInto_16 (by decide) ?_
  refine z_istore_n (lv' := [(3, .int 1), (2, .int 1), (0, .ref (ad 5 0)), (1, .ref (ad 19 j3))]) C dX7_readInto_17 rfl hl (by decide) rfl (onlast 0 rfl rfl rfl) (fun ls hl => ?_)
  replace hf := bn1_s hf; obtain ⟨m21, hq20, hf⟩ := hf
  refine w_X7_readInto_l18 C hR hB hj4 fl _ _ _ _ _ _ Z (lv_sub hl [2, 3, 1, 0] rfl) _ hq20 (fun H locs ls Z hl => ?_)
  exact w_X7_readInto_b74 C hR hB  Z (lv_sub hl [0] rfl) hf
