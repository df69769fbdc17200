theorem dX8_become_0 : decode cX8_become 0 = .ok (.aload_n 0, 1) := by decide +kernel
theorem dX8_become_1 : decode cX8_become 1 = .ok (.iload_n 1, 1) := by decide +kernel
theorem dX8_become_2 : decode cX8_become 2 = .ok (.putfield 9, 3) := by decide +kernel
theorem dX8_become_5 : decode cX8_become 5 = .ok (.aload_n 0, 1) := by decide +kernel
theorem dX8_become_6 : decode cX8_become 6 = .ok (.iload_n 2, 1) := by decide +kernel
theorem dX8_become_7 : decode cX8_become 7 = .ok (.putfield 19, 3) := by decide +kernel
theorem dX8_become_10 : decode cX8_become 10 = .ok (.iconst 0, 1) := by decide +kernel
theorem dX8_become_11 : decode cX8_become 11 = .ok (.istore_n 3, 1) := by decide +kernel
theorem dX8_become_12 : decode cX8_become 12 = .ok (.iload_n 3, 1) := by decide +kernel
theorem dX8_become_13 : decode cX8_become 13 = .ok (.bipush 60, 2) := by decide +kernel
theorem dX8_become_15 : decode cX8_become 15 = .ok (.if_icmp .ge 16, 3) := by decide +kernel
theorem dX8_become_18 : decode cX8_become 18 = .ok (.aload_n 0, 1) := by decide +kernel
theorem dX8_become_19 : decode cX8_become 19 = .ok (.getfield 15, 3) := by decide +kernel
theorem dX8_become_22 : decode cX8_become 22 = .ok (.iload_n 3, 1) := by decide +kernel
theorem dX8_become_23 : decode cX8_become 23 = .ok (.lconst 0, 1) := by decide +kernel
theorem dX8_become_24 : decode cX8_become 24 = .ok (.lastore, 1) := by decide +kernel
theorem dX8_become_25 : decode cX8_become 25 = .ok (.iinc 3 1, 3) := by decide +kernel
theorem dX8_become_28 : decode cX8_become 28 = .ok (.goto (-16), 3) := by decide +kernel
theorem dX8_become_31 : decode cX8_become 31 = .ok (.return_, 1) := by decide +kernel
set_option maxRecDepth 100000 in
set_option maxHeartbeats 4000000 in
theorem w_X8_become_l12 {p : Program} {l : Launch} {e : Env} {R : Room} {s : State} {m : MethodId} {args : Array Value} {below : List Frame} {meth : Method} {c : Code} {cells slots : Nat} {Q : State → Prop} {K : KG} {ad : Nat → Nat → Nat} {fl : Nat} {g0 : Nat} (C : Cx p s m args meth c cX8_become 4 "GlassPalace$Tape" none) (hR : 1 ≤ R.frames ∧ 40 * (1) ≤ R.locals) (hB : cells ≤ R.cells ∧ slots ≤ R.slots) (hg0 : g0 < 6) : ∀ (n : Nat) (u3 : Int32) (M0 : Mem) (H : Heap) (locs : List Loc) (ls : Array Slot), Zd K LC ad M0 s H locs → lv_has ls 4 [(0, .ref (ad 42 g0)), (3, .int u3)] → ∀ (Mq : Mem), f_X8_become_l12 fl g0 n u3 M0 = some Mq → (∀ (H : Heap) (locs : List Loc) (ls : Array Slot), Zd K LC ad Mq s H locs → lv_has ls 4 [] → W p l e R s m args below meth c H locs cells slots Q (F0 m 31 ls [])) → W p l e R s m args below meth c H locs cells slots Q (F0 m 12 ls []) := by
  intro n
  induction n with
  | zero =>
    intro u3 M0 H locs ls Z hl Mq hf
    have hf : (none : Option (Mem)) = some Mq := hf
    cases hf
  | succ n ih =>
    intro u3 M0 H locs ls Z hl Mq hf kx0
    replace hf : f_X8_become_l12_b (f_X8_become_l12 fl g0 n) fl g0 u3 M0 = some Mq := hf
    unfold f_X8_become_l12_b at hf
    refine lv_iload_n C.x C.b dX8_become_12 rfl (lv_at hl 1 rfl) ?_
    refine lv_bipush (v := 60) C.x C.b dX8_become_13 (by decide) ?_
    refine lv_icmp_ge (tgt := 31) C.x C.b dX8_become_15 (by decide) (fun hc3 => ?_) (fun hc3 => ?_)
    · replace hf := ite_t hf hc3
      obtain rfl := sm_s hf
      exact kx0 _ _ _ Z (lv_sub hl [] rfl)
    · replace hf := ite_f hf hc3
      refine lv_aload_n C.x C.b dX8_become_18 rfl (lv_at hl 0 rfl) ?_
      refine z_get C Z (lvC42 hg0) kC42 zc8 zin8 1 (by decide) k_351 rfl svC42_1 dX8_become_19 ?_
      refine lv_iload_n C.x C.b dX8_become_22 rfl (lv_at hl 1 rfl) ?_
      refine lv_lconst (v := 0) C.x C.b dX8_become_23 (by decide) ?_
      replace hf := asr_s hf; obtain ⟨hq4, hf⟩ := hf
      replace hf := lt1_s hf; obtain ⟨m5, em5, hf⟩ := hf
      refine z_last (M1 := m5) C Z (lvC43 hg0) (by decide) kC43 hq4 em5 stC43u dX8_become_24 (fun H locs Z => ?_)
      replace hf := lt1_s hf; obtain ⟨x6, ex6, hf⟩ := hf
      refine z_iinc (v := x6) (lv' := [(3, .int x6), (0, .ref (ad 42 g0))]) C dX8_become_25 hl (k := 1) rfl (by rw [ex6]; rfl) (by decide) rfl (nolast rfl) (fun ls hl => ?_)
      refine lv_goto (tgt := 12) C.x C.b dX8_become_28 (by decide) ?_
      exact ih _ _ _ _ _ Z (lv_sub hl [1, 0] rfl) _ hf kx0
set_option maxRecDepth 100000 in
set_option maxHeartbeats 4000000 in
theorem c_X8_become {l : Launch} {K : KG} {ad : Nat → Nat → Nat} {fl : Nat} {o : Nat} {a1 : Int32} {a2 : Int32} {M0 : Mem} {M9 : Mem} (ho : o < 6) (hf : f_X8_become fl o a1 a2 M0 = some M9) : Met l yX8_become (Cond.code yX8_become cX8_become 4 none :: ztb) (RM (1) 0 0) (zPc K LC ad M0 [.ref (ad 42 o), .int a1, .int a2]) (zQ K LC ad (none) M9) 0 0 (zA ad) := by
  refine z_enter (by decide) (Nat.le_of_ble_eq_true rfl) ?_
  intro p e s m args below meth c ls C hin hargs Z hl
  replace C : Cx p s m args meth c cX8_become 4 "GlassPalace$Tape" none := C
  replace hl : lv_has ls 4 [(0, .ref (ad 42 o)), (1, .int a1), (2, .int a2)] := hl
  have hR : 1 ≤ (RM (1) 0 0).frames ∧ 40 * (1) ≤ (RM (1) 0 0).locals := ⟨Nat.le_refl _, Nat.le_refl _⟩
  have hB : 0 ≤ (RM (1) 0 0).cells ∧ 0 ≤ (RM (1) 0 0).slots := ⟨Nat.zero_le _, Nat.zero_le _⟩
  unfold f_X8_become at hf
  refine lv_aload_n C.x C.b dX8_become_0 rfl (lv_at hl 0 rfl) ?_
  refine lv_iload_n C.x C.b dX8_become_1 rfl (lv_at hl 1 rfl) ?_
  replace hf := lt1_s hf; obtain ⟨m1, em1, hf⟩ := hf
  refine z_put (M1 := m1) C Z (lvC42 ho) (by decide) kC42 zc8 zin8 tyX8_ok nmX8 0 (by decide) k_349 rfl (zUp_I em1 stC42_0u) (Or.inl rfl) rfl rfl dX8_become_2 (fun H locs Z => ?_)
  refine lv_aload_n C.x C.b dX8_become_5 rfl (lv_at hl 0 rfl) ?_
  refine lv_iload_n C.x C.b dX8_become_6 rfl (lv_at hl 2 rfl) ?_
  replace hf := lt1_s hf; obtain ⟨m2, em2, hf⟩ := hf
  refine z_put (M1 := m2) C Z (lvC42 ho) (by decide) kC42 zc8 zin8 tyX8_ok nmX8 2 (by decide) k_353 rfl (zUp_I em2 stC42_2u) (Or.inl rfl) rfl rfl dX8_become_7 (fun H locs Z => ?_)
  refine lv_iconst (v := 0) C.x C.b dX8_become_10 (by decide) ?_
  refine z_istore_n (lv' := [(3, .int 0), (0, .ref (ad 42 o)), (1, .int a1), (2, .int a2)]) C dX8_become_11 rfl hl (by decide) rfl (onlast 2 rfl rfl rfl) (fun ls hl => ?_)
  replace hf := bn1_s hf; obtain ⟨m8, hq7, hf⟩ := hf
  refine w_X8_become_l12 C hR hB ho fl _ _ _ _ _ Z (lv_sub hl [1, 0] rfl) _ hq7 (fun H locs ls Z hl => ?_)
  obtain rfl := sm_s hf
  exact z_vret C Z dX8_become_31
theorem dX8_hasItem_0 : decode cX8_hasItem 0 = .ok (.lload_n 1, 1) := by decide +kernel
theorem dX8_hasItem_1 : decode cX8_hasItem 1 = .ok (.lconst 0, 1) := by decide +kernel
theorem dX8_hasItem_2 : decode cX8_hasItem 2 = .ok (.lcmp, 1) := by decide +kernel
theorem dX8_hasItem_3 : decode cX8_hasItem 3 = .ok (.ifCond .lt 25, 3) := by decide +kernel
theorem dX8_hasItem_6 : decode cX8_hasItem 6 = .ok (.lload_n 1, 1) := by decide +kernel
theorem dX8_hasItem_7 : decode cX8_hasItem 7 = .ok (.aload_n 0, 1) := by decide +kernel
theorem dX8_hasItem_8 : decode cX8_hasItem 8 = .ok (.getfield 19, 3) := by decide +kernel
theorem dX8_hasItem_11 : decode cX8_hasItem 11 = .ok (.i2l, 1) := by decide +kernel
theorem dX8_hasItem_12 : decode cX8_hasItem 12 = .ok (.lcmp, 1) := by decide +kernel
theorem dX8_hasItem_13 : decode cX8_hasItem 13 = .ok (.ifCond .ge 15, 3) := by decide +kernel
theorem dX8_hasItem_16 : decode cX8_hasItem 16 = .ok (.lload_n 1, 1) := by decide +kernel
theorem dX8_hasItem_17 : decode cX8_hasItem 17 = .ok (.ldc2_w 22, 3) := by decide +kernel
theorem dX8_hasItem_20 : decode cX8_hasItem 20 = .ok (.lcmp, 1) := by decide +kernel
theorem dX8_hasItem_21 : decode cX8_hasItem 21 = .ok (.ifCond .ge 7, 3) := by decide +kernel
theorem dX8_hasItem_24 : decode cX8_hasItem 24 = .ok (.iconst 1, 1) := by decide +kernel
theorem dX8_hasItem_25 : decode cX8_hasItem 25 = .ok (.goto 4, 3) := by decide +kernel
theorem dX8_hasItem_28 : decode cX8_hasItem 28 = .ok (.iconst 0, 1) := by decide +kernel
theorem dX8_hasItem_29 : decode cX8_hasItem 29 = .ok (.ireturn, 1) := by decide +kernel
set_option maxRecDepth 100000 in
set_option maxHeartbeats 4000000 in
theorem c_X8_hasItem {l : Launch} {K : KG} {ad : Nat → Nat → Nat} {fl : Nat} {o : Nat} {a1 : Int64} {M0 : Mem} {r9 : Int32} {M9 : Mem} (ho : o < 6) (hf : f_X8_hasItem fl o a1 M0 = some (r9, M9)) : Met l yX8_hasItem (Cond.code yX8_hasItem cX8_hasItem 3 (some .boolean) :: ztb) (RM (1) 0 0) (zPc K LC ad M0 [.ref (ad 42 o), .long a1]) (zQ K LC ad (some (.int r9)) M9) 0 0 (zA ad) := by
  refine z_enter (by decide) (Nat.le_of_ble_eq_true rfl) ?_
  intro p e s m args below meth c ls C hin hargs Z hl
  replace C : Cx p s m args meth c cX8_hasItem 3 "GlassPalace$Tape" (some .boolean) := C
  replace hl : lv_has ls 3 [(0, .ref (ad 42 o)), (1, .long a1)] := hl
  have hR : 1 ≤ (RM (1) 0 0).frames ∧ 40 * (1) ≤ (RM (1) 0 0).locals := ⟨Nat.le_refl _, Nat.le_refl _⟩
  have hB : 0 ≤ (RM (1) 0 0).cells ∧ 0 ≤ (RM (1) 0 0).slots := ⟨Nat.zero_le _, Nat.zero_le _⟩
  unfold f_X8_hasItem at hf
  refine lv_lload_n C.x C.b dX8_hasItem_0 rfl (lv_at hl 1 rfl) ?_
  refine lv_lconst (v := 0) C.x C.b dX8_hasItem_1 (by decide) ?_
  refine W.lcmp C.x C.b dX8_hasItem_2 ?_
  refine lv_if_lt (tgt := 28) C.x C.b dX8_hasItem_3 (by decide) (fun hc1 => ?_) (fun hc1 => ?_)
  · replace hf := ite_t hf hc1
    refine lv_iconst (v := 0) C.x C.b dX8_hasItem_28 (by decide) ?_
    obtain ⟨rfl, rfl⟩ := pr_s hf
    exact z_zret C Z rfl dX8_hasItem_29
  · replace hf := ite_f hf hc1
    refine lv_lload_n C.x C.b dX8_hasItem_6 rfl (lv_at hl 1 rfl) ?_
    refine lv_aload_n C.x C.b dX8_hasItem_7 rfl (lv_at hl 0 rfl) ?_
    refine z_get C Z (lvC42 ho) kC42 zc8 zin8 2 (by decide) k_353 rfl svC42_2 dX8_hasItem_8 ?_
    refine z_i2l C dX8_hasItem_11 ?_
    refine W.lcmp C.x C.b dX8_hasItem_12 ?_
    refine lv_if_ge (tgt := 28) C.x C.b dX8_hasItem_13 (by decide) (fun hc2 => ?_) (fun hc2 => ?_)
    · replace hf := ite_t hf hc2
      refine lv_iconst (v := 0) C.x C.b dX8_hasItem_28 (by decide) ?_
      obtain ⟨rfl, rfl⟩ := pr_s hf
      exact z_zret C Z rfl dX8_hasItem_29
    · replace hf := ite_f hf hc2
      refine lv_lload_n C.x C.b dX8_hasItem_16 rfl (lv_at hl 1 rfl) ?_
      refine lv_ldc2 (v := 60) C.x C.b C.o (C.w k_1111) dX8_hasItem_17 ?_
      refine W.lcmp C.x C.b dX8_hasItem_20 ?_
      refine lv_if_ge (tgt := 28) C.x C.b dX8_hasItem_21 (by decide) (fun hc3 => ?_) (fun hc3 => ?_)
      · replace hf := ite_t hf hc3
        refine lv_iconst (v := 0) C.x C.b dX8_hasItem_28 (by decide) ?_
        obtain ⟨rfl, rfl⟩ := pr_s hf
        exact z_zret C Z rfl dX8_hasItem_29
      · replace hf := ite_f hf hc3
        refine lv_iconst (v := 1) C.x C.b dX8_hasItem_24 (by decide) ?_
        refine lv_goto (tgt := 29) C.x C.b dX8_hasItem_25 (by decide) ?_
        obtain ⟨rfl, rfl⟩ := pr_s hf
        exact z_zret C Z rfl dX8_hasItem_29
theorem dX8_hasItems_0 : decode cX8_hasItems 0 = .ok (.iload_n 1, 1) := by decide +kernel
theorem dX8_hasItems_1 : decode cX8_hasItems 1 = .ok (.ifCond .lt 25, 3) := by decide +kernel
theorem dX8_hasItems_4 : decode cX8_hasItems 4 = .ok (.iload_n 2, 1) := by decide +kernel
theorem dX8_hasItems_5 : decode cX8_hasItems 5 = .ok (.ifCond .lt 21, 3) := by decide +kernel
theorem dX8_hasItems_8 : decode cX8_hasItems 8 = .ok (.iload_n 1, 1) := by decide +kernel
theorem dX8_hasItems_9 : decode cX8_hasItems 9 = .ok (.i2l, 1) := by decide +kernel
theorem dX8_hasItems_10 : decode cX8_hasItems 10 = .ok (.iload_n 2, 1) := by decide +kernel
theorem dX8_hasItems_11 : decode cX8_hasItems 11 = .ok (.i2l, 1) := by decide +kernel
theorem dX8_hasItems_12 : decode cX8_hasItems 12 = .ok (.ladd, 1) := by decide +kernel
theorem dX8_hasItems_13 : decode cX8_hasItems 13 = .ok (.aload_n 0, 1) := by decide +kernel
theorem dX8_hasItems_14 : decode cX8_hasItems 14 = .ok (.getfield 19, 3) := by decide +kernel
theorem dX8_hasItems_17 : decode cX8_hasItems 17 = .ok (.i2l, 1) := by decide +kernel
theorem dX8_hasItems_18 : decode cX8_hasItems 18 = .ok (.lcmp, 1) := by decide +kernel
theorem dX8_hasItems_19 : decode cX8_hasItems 19 = .ok (.ifCond .gt 7, 3) := by decide +kernel
theorem dX8_hasItems_22 : decode cX8_hasItems 22 = .ok (.iconst 1, 1) := by decide +kernel
theorem dX8_hasItems_23 : decode cX8_hasItems 23 = .ok (.goto 4, 3) := by decide +kernel
theorem dX8_hasItems_26 : decode cX8_hasItems 26 = .ok (.iconst 0, 1) := by decide +kernel
theorem dX8_hasItems_27 : decode cX8_hasItems 27 = .ok (.ireturn, 1) := by decide +kernel
set_option maxRecDepth 100000 in
set_option maxHeartbeats 4000000 in
theorem c_X8_hasItems {l : Launch} {K : KG} {ad : Nat → Nat → Nat} {fl : Nat} {o : Nat} {a1 : Int32} {a2 : Int32} {M0 : Mem} {r9 : Int32} {M9 : Mem} (ho : o < 6) (hf : f_X8_hasItems fl o a1 a2 M0 = some (r9, M9)) : Met l yX8_hasItems (Cond.code yX8_hasItems cX8_hasItems 3 (some .boolean) :: ztb) (RM (1) 0 0) (zPc K LC ad M0 [.ref (ad 42 o), .int a1, .int a2]) (zQ K LC ad (some (.int r9)) M9) 0 0 (zA ad) := by
  refine z_enter (by decide) (Nat.le_of_ble_eq_true rfl) ?_
  intro p e s m args below meth c ls C hin hargs Z hl
  replace C : Cx p s m args meth c cX8_hasItems 3 "GlassPalace$Tape" (some .boolean) := C
  replace hl : lv_has ls 3 [(0, .ref (ad 42 o)), (1, .int a1), (2, .int a2)] := hl
  have hR : 1 ≤ (RM (1) 0 0).frames ∧ 40 * (1) ≤ (RM (1) 0 0).locals := ⟨Nat.le_refl _, Nat.le_refl _⟩
  have hB : 0 ≤ (RM (1) 0 0).cells ∧ 0 ≤ (RM (1) 0 0).slots := ⟨Nat.zero_le _, Nat.zero_le _⟩
  unfold f_X8_hasItems at hf
  refine lv_iload_n C.x C.b dX8_hasItems_0 rfl (lv_at hl 1 rfl) ?_
  refine lv_if_lt (tgt := 26) C.x C.b dX8_hasItems_1 (by decide) (fun hc1 => ?_) (fun hc1 => ?_)
  · replace hf := ite_t hf hc1
    refine lv_iconst (v := 0) C.x C.b dX8_hasItems_26 (by decide) ?_
    obtain ⟨rfl, rfl⟩ := pr_s hf
    exact z_zret C Z rfl dX8_hasItems_27
  · replace hf := ite_f hf hc1
    refine lv_iload_n C.x C.b dX8_hasItems_4 rfl (lv_at hl 2 rfl) ?_
    refine lv_if_lt (tgt := 26) C.x C.b dX8_hasItems_5 (by decide) (fun hc2 => ?_) (fun hc2 => ?_)
    · replace hf := ite_t hf hc2
      refine lv_iconst (v := 0) C.x C.b dX8_hasItems_26 (by decide) ?_
      obtain ⟨rfl, rfl⟩ := pr_s hf
      exact z_zret C Z rfl dX8_hasItems_27
    · replace hf := ite_f hf hc2
      refine lv_iload_n C.x C.b dX8_hasItems_8 rfl (lv_at hl 1 rfl) ?_
      refine z_i2l C dX8_hasItems_9 ?_
      refine lv_iload_n C.x C.b dX8_hasItems_10 rfl (lv_at hl 2 rfl) ?_
      refine z_i2l C dX8_hasItems_11 ?_
      refine lv_ladd C.x C.b dX8_hasItems_12 ?_
      refine lv_aload_n C.x C.b dX8_hasItems_13 rfl (lv_at hl 0 rfl) ?_
      refine z_get C Z (lvC42 ho) kC42 zc8 zin8 2 (by decide) k_353 rfl svC42_2 dX8_hasItems_14 ?_
      refine z_i2l C dX8_hasItems_17 ?_
      refine W.lcmp C.x C.b dX8_hasItems_18 ?_
      refine lv_if_gt (tgt := 26) C.x C.b dX8_hasItems_19 (by decide) (fun hc3 => ?_) (fun hc3 => ?_)
      · replace hf := ite_t hf hc3
        refine lv_iconst (v := 0) C.x C.b dX8_hasItems_26 (by decide) ?_
        obtain ⟨rfl, rfl⟩ := pr_s hf
        exact z_zret C Z rfl dX8_hasItems_27
      · replace hf := ite_f hf hc3
        refine lv_iconst (v := 1) C.x C.b dX8_hasItems_22 (by decide) ?_
        refine lv_goto (tgt := 27) C.x C.b dX8_hasItems_23 (by decide) ?_
        obtain ⟨rfl, rfl⟩ := pr_s hf
        exact z_zret C Z rfl dX8_hasItems_27
theorem dX8_itemAt_0 : decode cX8_itemAt 0 = .ok (.aload_n 0, 1) := by decide +kernel
theorem dX8_itemAt_1 : decode cX8_itemAt 1 = .ok (.lload_n 1, 1) := by decide +kernel
theorem dX8_itemAt_2 : decode cX8_itemAt 2 = .ok (.invokevirtual 24, 3) := by decide +kernel
theorem dX8_itemAt_5 : decode cX8_itemAt 5 = .ok (.ifCond .eq 13, 3) := by decide +kernel
theorem dX8_itemAt_8 : decode cX8_itemAt 8 = .ok (.aload_n 0, 1) := by decide +kernel
theorem dX8_itemAt_9 : decode cX8_itemAt 9 = .ok (.getfield 15, 3) := by decide +kernel
theorem dX8_itemAt_12 : decode cX8_itemAt 12 = .ok (.lload_n 1, 1) := by decide +kernel
theorem dX8_itemAt_13 : decode cX8_itemAt 13 = .ok (.l2i, 1) := by decide +kernel
theorem dX8_itemAt_14 : decode cX8_itemAt 14 = .ok (.laload, 1) := by decide +kernel
theorem dX8_itemAt_15 : decode cX8_itemAt 15 = .ok (.goto 4, 3) := by decide +kernel
theorem dX8_itemAt_18 : decode cX8_itemAt 18 = .ok (.lconst 0, 1) := by decide +kernel
theorem dX8_itemAt_19 : decode cX8_itemAt 19 = .ok (.lreturn, 1) := by decide +kernel
set_option maxRecDepth 100000 in
set_option maxHeartbeats 4000000 in
theorem c_X8_itemAt {l : Launch} {K : KG} {ad : Nat → Nat → Nat} {fl : Nat} {o : Nat} {a1 : Int64} {M0 : Mem} {r9 : Int64} {M9 : Mem} (ho : o < 6) (hf : f_X8_itemAt fl o a1 M0 = some (r9, M9)) : Met l yX8_itemAt (Cond.code yX8_itemAt cX8_itemAt 3 (some .long) :: ztb) (RM (2) 0 0) (zPc K LC ad M0 [.ref (ad 42 o), .long a1]) (zQ K LC ad (some (.long r9)) M9) 0 0 (zA ad) := by
  refine z_enter (by decide) (Nat.le_of_ble_eq_true rfl) ?_
  intro p e s m args below meth c ls C hin hargs Z hl
  replace C : Cx p s m args meth c cX8_itemAt 3 "GlassPalace$Tape" (some .long) := C
  replace hl : lv_has ls 3 [(0, .ref (ad 42 o)), (1, .long a1)] := hl
  have hR : 2 ≤ (RM (2) 0 0).frames ∧ 40 * (2) ≤ (RM (2) 0 0).locals := ⟨Nat.le_refl _, Nat.le_refl _⟩
  have hB : 0 ≤ (RM (2) 0 0).cells ∧ 0 ≤ (RM (2) 0 0).slots := ⟨Nat.zero_le _, Nat.zero_le _⟩
  unfold f_X8_itemAt at hf
  refine lv_aload_n C.x C.b dX8_itemAt_0 rfl (lv_at hl 0 rfl) ?_
  refine lv_lload_n C.x C.b dX8_itemAt_1 rfl (lv_at hl 1 rfl) ?_
  replace hf := bn2_s hf; obtain ⟨v2, m1, hkm1, hf⟩ := hf
  refine z_cV (As := [.long a1]) (rest := []) (st1 := [.int v2]) C Z mw_X8_hasItem mv_X8_hasItem k_1117 (by decide) (z_hR hR (by decide)) (lvC42 ho) kC42 zc8 (c_X8_hasItem (l := l) (K := K) (ad := ad) ho hkm1) rfl hl.1 rfl (Nat.le_of_ble_eq_true rfl) dX8_itemAt_2 hB rfl (fun H locs Z => ?_)
  refine lv_if_eq (tgt := 18) C.x C.b dX8_itemAt_5 (by decide) (fun hc3 => ?_) (fun hc3 => ?_)
  · replace hf := ite_t hf hc3
    refine lv_lconst (v := 0) C.x C.b dX8_itemAt_18 (by decide) ?_
    obtain ⟨rfl, rfl⟩ := pr_s hf
    exact z_lret C Z dX8_itemAt_19
  · replace hf := ite_f hf hc3
    refine lv_aload_n C.x C.b dX8_itemAt_8 rfl (lv_at hl 0 rfl) ?_
    refine z_get C Z (lvC42 ho) kC42 zc8 zin8 1 (by decide) k_351 rfl svC42_1 dX8_itemAt_9 ?_
    refine lv_lload_n C.x C.b dX8_itemAt_12 rfl (lv_at hl 1 rfl) ?_
    refine z_l2i C dX8_itemAt_13 ?_
    replace hf := asr_s hf; obtain ⟨hq4, hf⟩ := hf
    refine z_lald C Z (lvC43 ho) kC43 hq4 svC43 dX8_itemAt_14 ?_
    refine lv_goto (tgt := 19) C.x C.b dX8_itemAt_15 (by decide) ?_
    obtain ⟨rfl, rfl⟩ := pr_s hf
    exact z_lret C Z dX8_itemAt_19
theorem dX8_trimmed_0 : decode cX8_trimmed 0 = .ok (.aload_n 0, 1) := by decide +kernel
theorem dX8_trimmed_1 : decode cX8_trimmed 1 = .ok (.getfield 9, 3) := by decide +kernel
theorem dX8_trimmed_4 : decode cX8_trimmed 4 = .ok (.tableswitch 48 0 3 #[32, 37, 42, 46], 32) := by decide +kernel
theorem dX8_trimmed_36 : decode cX8_trimmed 36 = .ok (.lload_n 1, 1) := by decide +kernel
theorem dX8_trimmed_37 : decode cX8_trimmed 37 = .ok (.l2i, 1) := by decide +kernel
theorem dX8_trimmed_38 : decode cX8_trimmed 38 = .ok (.i2b, 1) := by decide +kernel
theorem dX8_trimmed_39 : decode cX8_trimmed 39 = .ok (.i2l, 1) := by decide +kernel
theorem dX8_trimmed_40 : decode cX8_trimmed 40 = .ok (.lreturn, 1) := by decide +kernel
theorem dX8_trimmed_41 : decode cX8_trimmed 41 = .ok (.lload_n 1, 1) := by decide +kernel
theorem dX8_trimmed_42 : decode cX8_trimmed 42 = .ok (.l2i, 1) := by decide +kernel
theorem dX8_trimmed_43 : decode cX8_trimmed 43 = .ok (.i2s, 1) := by decide +kernel
theorem dX8_trimmed_44 : decode cX8_trimmed 44 = .ok (.i2l, 1) := by decide +kernel
theorem dX8_trimmed_45 : decode cX8_trimmed 45 = .ok (.lreturn, 1) := by decide +kernel
theorem dX8_trimmed_46 : decode cX8_trimmed 46 = .ok (.lload_n 1, 1) := by decide +kernel
theorem dX8_trimmed_47 : decode cX8_trimmed 47 = .ok (.l2i, 1) := by decide +kernel
theorem dX8_trimmed_48 : decode cX8_trimmed 48 = .ok (.i2l, 1) := by decide +kernel
theorem dX8_trimmed_49 : decode cX8_trimmed 49 = .ok (.lreturn, 1) := by decide +kernel
theorem dX8_trimmed_50 : decode cX8_trimmed 50 = .ok (.lload_n 1, 1) := by decide +kernel
theorem dX8_trimmed_51 : decode cX8_trimmed 51 = .ok (.lreturn, 1) := by decide +kernel
theorem dX8_trimmed_52 : decode cX8_trimmed 52 = .ok (.lload_n 1, 1) := by decide +kernel
theorem dX8_trimmed_53 : decode cX8_trimmed 53 = .ok (.lconst 0, 1) := by decide +kernel
theorem dX8_trimmed_54 : decode cX8_trimmed 54 = .ok (.lcmp, 1) := by decide +kernel
theorem dX8_trimmed_55 : decode cX8_trimmed 55 = .ok (.ifCond .eq 7, 3) := by decide +kernel
theorem dX8_trimmed_58 : decode cX8_trimmed 58 = .ok (.lconst 1, 1) := by decide +kernel
theorem dX8_trimmed_59 : decode cX8_trimmed 59 = .ok (.goto 4, 3) := by decide +kernel
theorem dX8_trimmed_62 : decode cX8_trimmed 62 = .ok (.lconst 0, 1) := by decide +kernel
theorem dX8_trimmed_63 : decode cX8_trimmed 63 = .ok (.lreturn, 1) := by decide +kernel
set_option maxRecDepth 100000 in
set_option maxHeartbeats 4000000 in
theorem c_X8_trimmed {l : Launch} {K : KG} {ad : Nat → Nat → Nat} {fl : Nat} {o : Nat} {a1 : Int64} {M0 : Mem} {r9 : Int64} {M9 : Mem} (ho : o < 6) (hf : f_X8_trimmed fl o a1 M0 = some (r9, M9)) : Met l yX8_trimmed (Cond.code yX8_trimmed cX8_trimmed 3 (some .long) :: ztb) (RM (1) 0 0) (zPc K LC ad M0 [.ref (ad 42 o), .long a1]) (zQ K LC ad (some (.long r9)) M9) 0 0 (zA ad) := by
  refine z_enter (by decide) (Nat.le_of_ble_eq_true rfl) ?_
  intro p e s m args below meth c ls C hin hargs Z hl
  replace C : Cx p s m args meth c cX8_trimmed 3 "GlassPalace$Tape" (some .long) := C
  replace hl : lv_has ls 3 [(0, .ref (ad 42 o)), (1, .long a1)] := hl
  have hR : 1 ≤ (RM (1) 0 0).frames ∧ 40 * (1) ≤ (RM (1) 0 0).locals := ⟨Nat.le_refl _, Nat.le_refl _⟩
  have hB : 0 ≤ (RM (1) 0 0).cells ∧ 0 ≤ (RM (1) 0 0).slots := ⟨Nat.zero_le _, Nat.zero_le _⟩
  unfold f_X8_trimmed at hf
  refine lv_aload_n C.x C.b dX8_trimmed_0 rfl (lv_at hl 0 rfl) ?_
  refine z_get C Z (lvC42 ho) kC42 zc8 zin8 0 (by decide) k_349 rfl svC42_0 dX8_trimmed_1 ?_
  by_cases hx1 : (gI M0 42 o 0) = 0
  · replace hf := ite_t hf hx1
    refine lv_tableIn (tgt := 36) C.x C.b dX8_trimmed_4 (by rw [hx1]; decide) (by rw [hx1]; decide) (by rw [hx1]; rfl) (by decide) ?_
    refine lv_lload_n C.x C.b dX8_trimmed_36 rfl (lv_at hl 1 rfl) ?_
    refine z_l2i C dX8_trimmed_37 ?_
    refine z_i2b C dX8_trimmed_38 ?_
    refine z_i2l C dX8_trimmed_39 ?_
    obtain ⟨rfl, rfl⟩ := pr_s hf
    exact z_lret C Z dX8_trimmed_40
  replace hf := ite_f hf hx1
  by_cases hx2 : (gI M0 42 o 0) = 1
  · replace hf := ite_t hf hx2
    refine lv_tableIn (tgt := 41) C.x C.b dX8_trimmed_4 (by rw [hx2]; decide) (by rw [hx2]; decide) (by rw [hx2]; rfl) (by decide) ?_
    refine lv_lload_n C.x C.b dX8_trimmed_41 rfl (lv_at hl 1 rfl) ?_
    refine z_l2i C dX8_trimmed_42 ?_
    refine z_i2s C dX8_trimmed_43 ?_
    refine z_i2l C dX8_trimmed_44 ?_
    obtain ⟨rfl, rfl⟩ := pr_s hf
    exact z_lret C Z dX8_trimmed_45
  replace hf := ite_f hf hx2
  by_cases hx3 : (gI M0 42 o 0) = 2
  · replace hf := ite_t hf hx3
    refine lv_tableIn (tgt := 46) C.x C.b dX8_trimmed_4 (by rw [hx3]; decide) (by rw [hx3]; decide) (by rw [hx3]; rfl) (by decide) ?_
    refine lv_lload_n C.x C.b dX8_trimmed_46 rfl (lv_at hl 1 rfl) ?_
    refine z_l2i C dX8_trimmed_47 ?_
    refine z_i2l C dX8_trimmed_48 ?_
    obtain ⟨rfl, rfl⟩ := pr_s hf
    exact z_lret C Z dX8_trimmed_49
  replace hf := ite_f hf hx3
  by_cases hx4 : (gI M0 42 o 0) = 3
  · replace hf := ite_t hf hx4
    refine lv_tableIn (tgt := 50) C.x C.b dX8_trimmed_4 (by rw [hx4]; decide) (by rw [hx4]; decide) (by rw [hx4]; rfl) (by decide) ?_
    refine lv_lload_n C.x C.b dX8_trimmed_50 rfl (lv_at hl 1 rfl) ?_
    obtain ⟨rfl, rfl⟩ := pr_s hf
    exact z_lret C Z dX8_trimmed_51
  replace hf := ite_f hf hx4
  refine lv_tableOut (tgt := 52) C.x C.b dX8_trimmed_4 (tab_out (fun k h1 h2 => by rcases (show k = 0 ∨ k = 1 ∨ k = 2 ∨ k = 3 by omega) with rfl | rfl | rfl | rfl <;> assumption)) (by decide) ?_
  refine lv_lload_n C.x C.b dX8_trimmed_52 rfl (lv_at hl 1 rfl) ?_
  refine lv_lconst (v := 0) C.x C.b dX8_trimmed_53 (by decide) ?_
  refine W.lcmp C.x C.b dX8_trimmed_54 ?_
  refine lv_if_eq (tgt := 62) C.x C.b dX8_trimmed_55 (by decide) (fun hc5 => ?_) (fun hc5 => ?_)
  · replace hf := ite_t hf hc5
    refine lv_lconst (v := 0) C.x C.b dX8_trimmed_62 (by decide) ?_
    obtain ⟨rfl, rfl⟩ := pr_s hf
    exact z_lret C Z dX8_trimmed_63
  · replace hf := ite_f hf hc5
    refine lv_lconst (v := 1) C.x C.b dX8_trimmed_58 (by decide) ?_
    refine lv_goto (tgt := 63) C.x C.b dX8_trimmed_59 (by decide) ?_
    obtain ⟨rfl, rfl⟩ := pr_s hf
    exact z_lret C Z dX8_trimmed_63
theorem dX8_put_0 : decode cX8_put 0 = .ok (.aload_n 0, 1) := by decide +kernel
theorem dX8_put_1 : decode cX8_put 1 = .ok (.iload_n 1, 1) := by decide +kernel
theorem dX8_put_2 : decode cX8_put 2 = .ok (.i2l, 1) := by decide +kernel
theorem dX8_put_3 : decode cX8_put 3 = .ok (.invokevirtual 24, 3) := by decide +kernel
theorem dX8_put_6 : decode cX8_put 6 = .ok (.ifCond .ne 5, 3) := by decide +kernel
theorem dX8_put_9 : decode cX8_put 9 = .ok (.iconst 0, 1) := by decide +kernel
theorem dX8_put_10 : decode cX8_put 10 = .ok (.ireturn, 1) := by decide +kernel
theorem dX8_put_11 : decode cX8_put 11 = .ok (.aload_n 0, 1) := by decide +kernel
theorem dX8_put_12 : decode cX8_put 12 = .ok (.getfield 15, 3) := by decide +kernel
theorem dX8_put_15 : decode cX8_put 15 = .ok (.iload_n 1, 1) := by decide +kernel
theorem dX8_put_16 : decode cX8_put 16 = .ok (.aload_n 0, 1) := by decide +kernel
theorem dX8_put_17 : decode cX8_put 17 = .ok (.lload_n 2, 1) := by decide +kernel
theorem dX8_put_18 : decode cX8_put 18 = .ok (.invokevirtual 28, 3) := by decide +kernel
theorem dX8_put_21 : decode cX8_put 21 = .ok (.lastore, 1) := by decide +kernel
theorem dX8_put_22 : decode cX8_put 22 = .ok (.iconst 1, 1) := by decide +kernel
theorem dX8_put_23 : decode cX8_put 23 = .ok (.ireturn, 1) := by decide +kernel
set_option maxRecDepth 100000 in
set_option maxHeartbeats 4000000 in
theorem c_X8_put {l : Launch} {K : KG} {ad : Nat → Nat → Nat} {fl : Nat} {o : Nat} {a1 : Int32} {a2 : Int64} {M0 : Mem} {r9 : Int32} {M9 : Mem} (ho : o < 6) (hf : f_X8_put fl o a1 a2 M0 = some (r9, M9)) : Met l yX8_put (Cond.code yX8_put cX8_put 4 (some .boolean) :: ztb) (RM (2) 0 0) (zPc K LC ad M0 [.ref (ad 42 o), .int a1, .long a2]) (zQ K LC ad (some (.int r9)) M9) 0 0 (zA ad) := by
  refine z_enter (by decide) (Nat.le_of_ble_eq_true rfl) ?_
  intro p e s m args below meth c ls C hin hargs Z hl
  replace C : Cx p s m args meth c cX8_put 4 "GlassPalace$Tape" (some .boolean) := C
  replace hl : lv_has ls 4 [(0, .ref (ad 42 o)), (1, .int a1), (2, .long a2)] := hl
  have hR : 2 ≤ (RM (2) 0 0).frames ∧ 40 * (2) ≤ (RM (2) 0 0).locals := ⟨Nat.le_refl _, Nat.le_refl _⟩
  have hB : 0 ≤ (RM (2) 0 0).cells ∧ 0 ≤ (RM (2) 0 0).slots := ⟨Nat.zero_le _, Nat.zero_le _⟩
  unfold f_X8_put at hf
  refine lv_aload_n C.x C.b dX8_put_0 rfl (lv_at hl 0 rfl) ?_
  refine lv_iload_n C.x C.b dX8_put_1 rfl (lv_at hl 1 rfl) ?_
  refine z_i2l C dX8_put_2 ?_
  replace hf := bn2_s hf; obtain ⟨v2, m1, hkm1, hf⟩ := hf
  refine z_cV (As := [.long (Int32.toInt64 a1)]) (rest := []) (st1 := [.int v2]) C Z mw_X8_hasItem mv_X8_hasItem k_1117 (by decide) (z_hR hR (by decide)) (lvC42 ho) kC42 zc8 (c_X8_hasItem (l := l) (K := K) (ad := ad) ho hkm1) rfl hl.1 rfl (Nat.le_of_ble_eq_true rfl) dX8_put_3 hB rfl (fun H locs Z => ?_)
  refine lv_if_ne (tgt := 11) C.x C.b dX8_put_6 (by decide) (fun hc3 => ?_) (fun hc3 => ?_)
  · replace hf := ite_f hf hc3
    refine lv_aload_n C.x C.b dX8_put_11 rfl (lv_at hl 0 rfl) ?_
    refine z_get C Z (lvC42 ho) kC42 zc8 zin8 1 (by decide) k_351 rfl svC42_1 dX8_put_12 ?_
    refine lv_iload_n C.x C.b dX8_put_15 rfl (lv_at hl 1 rfl) ?_
    refine lv_aload_n C.x C.b dX8_put_16 rfl (lv_at hl 0 rfl) ?_
    refine lv_lload_n C.x C.b dX8_put_17 rfl (lv_at hl 2 rfl) ?_
    replace hf := bn2_s hf; obtain ⟨y5, m4, hkm4, hf⟩ := hf
    refine z_cV (As := [.long a2]) (rest := [.int a1, .ref (ad 43 o)]) (st1 := [.long y5, .int a1, .ref (ad 43 o)]) C Z mw_X8_trimmed mv_X8_trimmed k_1151 (by decide) (z_hR hR (by decide)) (lvC42 ho) kC42 zc8 (c_X8_trimmed (l := l) (K := K) (ad := ad) ho hkm4) rfl hl.1 rfl (Nat.le_of_ble_eq_true rfl) dX8_put_18 hB rfl (fun H locs Z => ?_)
    replace hf := asr_s hf; obtain ⟨hq6, hf⟩ := hf
    replace hf := lt1_s hf; obtain ⟨m7, em7, hf⟩ := hf
    refine z_last (M1 := m7) C Z (lvC43 ho) (by decide) kC43 hq6 em7 stC43u dX8_put_21 (fun H locs Z => ?_)
    refine lv_iconst (v := 1) C.x C.b dX8_put_22 (by decide) ?_
    obtain ⟨rfl, rfl⟩ := pr_s hf
    exact z_zret C Z rfl dX8_put_23
  · replace hf := ite_t hf hc3
    refine lv_iconst (v := 0) C.x C.b dX8_put_9 (by decide) ?_
    obtain ⟨rfl, rfl⟩ := pr_s hf
    exact z_zret C Z rfl dX8_put_10
theorem dX10_drain_0 : decode cX10_drain 0 = .ok (.aload_n 1, 1) := by decide +kernel
theorem dX10_drain_1 : decode cX10_drain 1 = .ok (.iconst 4, 1) := by decide +kernel
theorem dX10_drain_2 : decode cX10_drain 2 = .ok (.invokevirtual 47, 3) := by decide +kernel
theorem dX10_drain_5 : decode cX10_drain 5 = .ok (.astore_n 3, 1) := by decide +kernel
theorem dX10_drain_6 : decode cX10_drain 6 = .ok (.aload_n 3, 1) := by decide +kernel
theorem dX10_drain_7 : decode cX10_drain 7 = .ok (.ifnonnull 7, 3) := by decide +kernel
theorem dX10_drain_10 : decode cX10_drain 10 = .ok (.iconst 0, 1) := by decide +kernel
theorem dX10_drain_11 : decode cX10_drain 11 = .ok (.goto 16, 3) := by decide +kernel
theorem dX10_drain_14 : decode cX10_drain 14 = .ok (.aload_n 0, 1) := by decide +kernel
theorem dX10_drain_15 : decode cX10_drain 15 = .ok (.getfield 15, 3) := by decide +kernel
theorem dX10_drain_18 : decode cX10_drain 18 = .ok (.iload_n 2, 1) := by decide +kernel
theorem dX10_drain_19 : decode cX10_drain 19 = .ok (.iaload, 1) := by decide +kernel
theorem dX10_drain_20 : decode cX10_drain 20 = .ok (.aload_n 3, 1) := by decide +kernel
theorem dX10_drain_21 : decode cX10_drain 21 = .ok (.getfield 51, 3) := by decide +kernel
theorem dX10_drain_24 : decode cX10_drain 24 = .ok (.invokestatic 56, 3) := by decide +kernel
theorem dX10_drain_27 : decode cX10_drain 27 = .ok (.istore 4, 2) := by decide +kernel
theorem dX10_drain_29 : decode cX10_drain 29 = .ok (.aload_n 0, 1) := by decide +kernel
theorem dX10_drain_30 : decode cX10_drain 30 = .ok (.getfield 15, 3) := by decide +kernel
theorem dX10_drain_33 : decode cX10_drain 33 = .ok (.iload_n 2, 1) := by decide +kernel
theorem dX10_drain_34 : decode cX10_drain 34 = .ok (.dup2, 1) := by decide +kernel
theorem dX10_drain_35 : decode cX10_drain 35 = .ok (.iaload, 1) := by decide +kernel
theorem dX10_drain_36 : decode cX10_drain 36 = .ok (.iload 4, 2) := by decide +kernel
theorem dX10_drain_38 : decode cX10_drain 38 = .ok (.isub, 1) := by decide +kernel
theorem dX10_drain_39 : decode cX10_drain 39 = .ok (.iastore, 1) := by decide +kernel
theorem dX10_drain_40 : decode cX10_drain 40 = .ok (.aload_n 1, 1) := by decide +kernel
theorem dX10_drain_41 : decode cX10_drain 41 = .ok (.getfield 59, 3) := by decide +kernel
theorem dX10_drain_44 : decode cX10_drain 44 = .ok (.ifCond .lt 26, 3) := by decide +kernel
theorem dX10_drain_47 : decode cX10_drain 47 = .ok (.aload_n 1, 1) := by decide +kernel
theorem dX10_drain_48 : decode cX10_drain 48 = .ok (.getfield 59, 3) := by decide +kernel
theorem dX10_drain_51 : decode cX10_drain 51 = .ok (.bipush 30, 2) := by decide +kernel
theorem dX10_drain_53 : decode cX10_drain 53 = .ok (.if_icmp .ge 17, 3) := by decide +kernel
theorem dX10_drain_56 : decode cX10_drain 56 = .ok (.aload_n 0, 1) := by decide +kernel
theorem dX10_drain_57 : decode cX10_drain 57 = .ok (.getfield 24, 3) := by decide +kernel
theorem dX10_drain_60 : decode cX10_drain 60 = .ok (.aload_n 1, 1) := by decide +kernel
theorem dX10_drain_61 : decode cX10_drain 61 = .ok (.getfield 59, 3) := by decide +kernel
theorem dX10_drain_64 : decode cX10_drain 64 = .ok (.dup2, 1) := by decide +kernel
theorem dX10_drain_65 : decode cX10_drain 65 = .ok (.iaload, 1) := by decide +kernel
theorem dX10_drain_66 : decode cX10_drain 66 = .ok (.iload 4, 2) := by decide +kernel
theorem dX10_drain_68 : decode cX10_drain 68 = .ok (.iadd, 1) := by decide +kernel
theorem dX10_drain_69 : decode cX10_drain 69 = .ok (.iastore, 1) := by decide +kernel
theorem dX10_drain_70 : decode cX10_drain 70 = .ok (.return_, 1) := by decide +kernel
set_option maxRecDepth 100000 in
set_option maxHeartbeats 4000000 in
theorem w_X10_drain_b27 {p : Program} {l : Launch} {e : Env} {s : State} {m : MethodId} {args : Array Value} {below : List Frame} {meth : Method} {c : Code} {K : KG} {ad : Nat → Nat → Nat} {fl : Nat} {H : Heap} {locs : List Loc} {ls : Array Slot} {g1 : Nat} {g2 : Int32} {z0 : Int32} {M0 : Mem} {M9 : Mem} (C : Cx p s m args meth c cX10_drain 5 "GlassPalace$Water" none) (hR : 2 ≤ (RM (2) 0 0).frames ∧ 40 * (2) ≤ (RM (2) 0 0).locals) (hB : 0 ≤ (RM (2) 0 0).cells ∧ 0 ≤ (RM (2) 0 0).slots) (Z : Zd K LC ad M0 s H locs) (hl : lv_has ls 5 [(0, .ref (ad 7 0)), (1, rf (ad 13) g1), (2, .int g2)]) (hf : f_X10_drain_b27 fl g1 g2 z0 M0 = some M9) : W p l e (RM (2) 0 0) s m args below meth c H locs 0 0 (MQ below (zQ K LC ad (none) M9) args s 0 0 (zA ad)) (F0 m 27 ls [.int z0]) := by
  unfold f_X10_drain_b27 at hf
  refine z_istore (lv' := [(4, .int z0), (0, .ref (ad 7 0)), (1, rf (ad 13) g1), (2, .int g2)]) C dX10_drain_27 hl (by decide) rfl (nolast rfl) (fun ls hl => ?_)
  refine lv_aload_n C.x C.b dX10_drain_29 rfl (lv_at hl 1 rfl) ?_
  refine z_get C Z (lvC7 Nat.zero_lt_one) kC7 zc10 zin10 1 (by decide) k_209 rfl svC7_1 dX10_drain_30 ?_
  refine lv_iload_n C.x C.b dX10_drain_33 rfl (lv_at hl 3 rfl) ?_
  refine lv_dup2_11 C.x C.b dX10_drain_34 rfl rfl ?_
  replace hf := asr_s hf; obtain ⟨hq8, hf⟩ := hf
  refine z_iald C Z (lvC26 Nat.zero_lt_one) kC26 hq8 svC26 dX10_drain_35 ?_
  refine lv_iload C.x C.b dX10_drain_36 (lv_at hl 0 rfl) ?_
  refine lv_isub C.x C.b dX10_drain_38 ?_
  replace hf := asr_s hf; obtain ⟨hq9, hf⟩ := hf
  replace hf := lt1_s hf; obtain ⟨m10, em10, hf⟩ := hf
  refine z_iast (M1 := m10) C Z (lvC26 Nat.zero_lt_one) (by decide) kC26 hq9 em10 stC26u dX10_drain_39 (fun H locs Z => ?_)
  refine z_aload_n C dX10_drain_40 rfl (lv_at hl 2 rfl) ?_
  replace hf := drf_s hf; obtain ⟨j11, ej13, hj12, hf⟩ := hf
  subst ej13
  refine z_nn [] (y := j11 + 1) rfl ?_
  refine z_get C Z (lvC13 hj12) kC13 zc1 zin1 5 (by decide) k_323 rfl svC13_5 dX10_drain_41 ?_
  refine lv_if_lt (tgt := 70) C.x C.b dX10_drain_44 (by decide) (fun hc14 => ?_) (fun hc14 => ?_)
  · replace hf := ite_t hf hc14
    obtain rfl := sm_s hf
    exact z_vret C Z dX10_drain_70
  · replace hf := ite_f hf hc14
    refine lv_aload_n C.x C.b dX10_drain_47 rfl (lv_at hl 2 rfl) ?_
    refine z_get C Z (lvC13 hj12) kC13 zc1 zin1 5 (by decide) k_323 rfl svC13_5 dX10_drain_48 ?_
    refine lv_bipush (v := 30) C.x C.b dX10_drain_51 (by decide) ?_
    refine lv_icmp_ge (tgt := 70) C.x C.b dX10_drain_53 (by decide) (fun hc15 => ?_) (fun hc15 => ?_)
    · replace hf := ite_t hf hc15
      obtain rfl := sm_s hf
      exact z_vret C Z dX10_drain_70
    · replace hf := ite_f hf hc15
      refine lv_aload_n C.x C.b dX10_drain_56 rfl (lv_at hl 1 rfl) ?_
      refine z_get C Z (lvC7 Nat.zero_lt_one) kC7 zc10 zin10 4 (by decide) k_214 rfl svC7_4 dX10_drain_57 ?_
      refine lv_aload_n C.x C.b dX10_drain_60 rfl (lv_at hl 2 rfl) ?_
      refine z_get C Z (lvC13 hj12) kC13 zc1 zin1 5 (by decide) k_323 rfl svC13_5 dX10_drain_61 ?_
      refine lv_dup2_11 C.x C.b dX10_drain_64 rfl rfl ?_
      replace hf := asr_s hf; obtain ⟨hq16, hf⟩ := hf
      refine z_iald C Z (lvC29 Nat.zero_lt_one) kC29 hq16 svC29 dX10_drain_65 ?_
      refine lv_iload C.x C.b dX10_drain_66 (lv_at hl 0 rfl) ?_
      refine lv_iadd C.x C.b dX10_drain_68 ?_
      replace hf := asr_s hf; obtain ⟨hq17, hf⟩ := hf
      replace hf := lt1_s hf; obtain ⟨m18, em18, hf⟩ := hf
      refine z_iast (M1 := m18) C Z (lvC29 Nat.zero_lt_one) (by decide) kC29 hq17 em18 stC29u dX10_drain_69 (fun H locs Z => ?_)
      obtain rfl := sm_s hf
      exact z_vret C Z dX10_drain_70
set_option maxRecDepth 100000 in
set_option maxHeartbeats 4000000 in
theorem c_X10_drain {l : Launch} {K : KG} {ad : Nat → Nat → Nat} {fl : Nat} {a1 : Nat} {a2 : Int32} {M0 : Mem} {M9 : Mem} (hf : f_X10_drain fl a1 a2 M0 = some M9) : Met l yX10_drain (Cond.code yX10_drain cX10_drain 5 none :: ztb) (RM (2) 0 0) (zPc K LC ad M0 [.ref (ad 7 0), rf (ad 13) a1, .int a2]) (zQ K LC ad (none) M9) 0 0 (zA ad) := by
  refine z_enter (by decide) (by simp [lg_sl, rf_cat, cat_i, cat_l, cat_r, cat_n]) ?_
  intro p e s m args below meth c ls C hin hargs Z hl
  replace C : Cx p s m args meth c cX10_drain 5 "GlassPalace$Water" none := C
  replace hl : lv_has ls 5 [(0, .ref (ad 7 0)), (1, rf (ad 13) a1), (2, .int a2)] := by simpa [lv_args, rf_cat, cat_i, cat_l, cat_r, cat_n] using hl
  have hR : 2 ≤ (RM (2) 0 0).frames ∧ 40 * (2) ≤ (RM (2) 0 0).locals := ⟨Nat.le_refl _, Nat.le_refl _⟩
  have hB : 0 ≤ (RM (2) 0 0).cells ∧ 0 ≤ (RM (2) 0 0).slots := ⟨Nat.zero_le _, Nat.zero_le _⟩
  unfold f_X10_drain at hf
  refine z_aload_n C dX10_drain_0 rfl (lv_at hl 1 rfl) ?_
  refine lv_iconst (v := 4) C.x C.b dX10_drain_1 (by decide) ?_
  replace hf := drf_s hf; obtain ⟨j1, ej3, hj2, hf⟩ := hf
  subst ej3
  refine z_nn [.int 4] (y := j1 + 1) rfl ?_
  replace hf := bn2_s hf; obtain ⟨c5, m4, hkm4, hf⟩ := hf
  refine z_cV (As := [.int 4]) (rest := []) (st1 := [rf (ad 23) c5]) C Z mw_X1_latestAt mv_X1_latestAt k_883 (by decide) (z_hR hR (by decide)) (lvC13 hj2) kC13 zc1 (c_X1_latestAt (l := l) (K := K) (ad := ad) hj2 hkm4) rfl hl.1 rfl (Nat.le_of_ble_eq_true rfl) dX10_drain_2 hB rfl (fun H locs Z => ?_)
  refine z_cstore_n (lv' := [(3, rf (ad 23) c5), (0, .ref (ad 7 0)), (1, .ref (ad 13 j1)), (2, .int a2)]) C dX10_drain_5 rfl hl (by decide) rfl (onlast 2 rfl rfl rfl) (fun ls hl => ?_)
  refine z_aload_n C dX10_drain_6 rfl (lv_at hl 0 rfl) ?_
  replace hf := bn2_s hf; obtain ⟨q6, m7, hq6, hf⟩ := hf
  have kq6 : ∀ (H : Heap) (locs : List Loc) (ls : Array Slot), Zd K LC ad m7 s H locs → lv_has ls 5 [(0, .ref (ad 7 0)), (1, .ref (ad 13 j1)), (2, .int a2)] → W p l e (RM (2) 0 0) s m args below meth c H locs 0 0 (MQ below (zQ K LC ad (none) M9) args s 0 0 (zA ad)) (F0 m 27 ls [.int q6]) := by
    intro H locs ls Z hl
    exact w_X10_drain_b27 C hR hB  Z (lv_sub hl [0, 1, 2] rfl) hf
  clear hf
  refine z_ifnonnull C dX10_drain_7 (tgt := 14) (by decide) (fun hc19 => ?_) (fun hc19 => ?_)
  · have hf := ite_f hq6 hc19; clear hq6
    refine lv_aload_n C.x C.b dX10_drain_14 rfl (lv_at hl 1 rfl) ?_
    refine z_get C Z (lvC7 Nat.zero_lt_one) kC7 zc10 zin10 1 (by decide) k_209 rfl svC7_1 dX10_drain_15 ?_
    refine lv_iload_n C.x C.b dX10_drain_18 rfl (lv_at hl 3 rfl) ?_
    replace hf := asr_s hf; obtain ⟨hq20, hf⟩ := hf
    refine z_iald C Z (lvC26 Nat.zero_lt_one) kC26 hq20 svC26 dX10_drain_19 ?_
    refine z_aload_n C dX10_drain_20 rfl (lv_at hl 0 rfl) ?_
    replace hf := drf_s hf; obtain ⟨j21, ej23, hj22, hf⟩ := hf
    subst ej23
    refine z_nn [] (y := j21 + 1) rfl ?_
    refine z_get C Z (lvC23 hj22) kC23 zc4 zin4 4 (by decide) k_469 rfl svC23_4 dX10_drain_21 ?_
    refine z_min C k_884 k_885 k_115 k_886 hl.1 hR (by decide) (Nat.le_of_ble_eq_true rfl) hB dX10_drain_24 ?_
    obtain ⟨rfl, rfl⟩ := pr_s hf
    exact kq6 _ _ _ Z (lv_sub hl [1, 2, 3] rfl)
  · have hf := ite_t hq6 hc19; clear hq6
    refine lv_iconst (v := 0) C.x C.b dX10_drain_10 (by decide) ?_
    refine lv_goto (tgt := 27) C.x C.b dX10_drain_11 (by decide) ?_
    obtain ⟨rfl, rfl⟩ := pr_s hf
    exact kq6 _ _ _ Z (lv_sub hl [1, 2, 3] rfl)
theorem dX10_runHour_0 : decode cX10_runHour 0 = .ok (.iconst 0, 1) := by decide +kernel
theorem dX10_runHour_1 : decode cX10_runHour 1 = .ok (.istore_n 3, 1) := by decide +kernel
theorem dX10_runHour_2 : decode cX10_runHour 2 = .ok (.iload_n 3, 1) := by decide +kernel
theorem dX10_runHour_3 : decode cX10_runHour 3 = .ok (.bipush 30, 2) := by decide +kernel
theorem dX10_runHour_5 : decode cX10_runHour 5 = .ok (.if_icmp .ge 16, 3) := by decide +kernel
theorem dX10_runHour_8 : decode cX10_runHour 8 = .ok (.aload_n 0, 1) := by decide +kernel
theorem dX10_runHour_9 : decode cX10_runHour 9 = .ok (.getfield 24, 3) := by decide +kernel
theorem dX10_runHour_12 : decode cX10_runHour 12 = .ok (.iload_n 3, 1) := by decide +kernel
theorem dX10_runHour_13 : decode cX10_runHour 13 = .ok (.iconst 0, 1) := by decide +kernel
theorem dX10_runHour_14 : decode cX10_runHour 14 = .ok (.iastore, 1) := by decide +kernel
theorem dX10_runHour_15 : decode cX10_runHour 15 = .ok (.iinc 3 1, 3) := by decide +kernel
theorem dX10_runHour_18 : decode cX10_runHour 18 = .ok (.goto (-16), 3) := by decide +kernel
theorem dX10_runHour_21 : decode cX10_runHour 21 = .ok (.iconst 0, 1) := by decide +kernel
theorem dX10_runHour_22 : decode cX10_runHour 22 = .ok (.istore_n 3, 1) := by decide +kernel
theorem dX10_runHour_23 : decode cX10_runHour 23 = .ok (.iload_n 3, 1) := by decide +kernel
theorem dX10_runHour_24 : decode cX10_runHour 24 = .ok (.bipush 30, 2) := by decide +kernel
theorem dX10_runHour_26 : decode cX10_runHour 26 = .ok (.if_icmp .ge 88, 3) := by decide +kernel
theorem dX10_runHour_29 : decode cX10_runHour 29 = .ok (.iload_n 3, 1) := by decide +kernel
theorem dX10_runHour_30 : decode cX10_runHour 30 = .ok (.aload_n 1, 1) := by decide +kernel
theorem dX10_runHour_31 : decode cX10_runHour 31 = .ok (.arraylength, 1) := by decide +kernel
theorem dX10_runHour_32 : decode cX10_runHour 32 = .ok (.if_icmp .ge 82, 3) := by decide +kernel
theorem dX10_runHour_35 : decode cX10_runHour 35 = .ok (.aload_n 1, 1) := by decide +kernel
theorem dX10_runHour_36 : decode cX10_runHour 36 = .ok (.iload_n 3, 1) := by decide +kernel
theorem dX10_runHour_37 : decode cX10_runHour 37 = .ok (.aaload, 1) := by decide +kernel
theorem dX10_runHour_38 : decode cX10_runHour 38 = .ok (.astore 4, 2) := by decide +kernel
theorem dX10_runHour_40 : decode cX10_runHour 40 = .ok (.aload 4, 2) := by decide +kernel
theorem dX10_runHour_42 : decode cX10_runHour 42 = .ok (.ifnull 66, 3) := by decide +kernel
theorem dX10_runHour_45 : decode cX10_runHour 45 = .ok (.aload 4, 2) := by decide +kernel
theorem dX10_runHour_47 : decode cX10_runHour 47 = .ok (.getfield 31, 3) := by decide +kernel
theorem dX10_runHour_50 : decode cX10_runHour 50 = .ok (.ifCond .le 58, 3) := by decide +kernel
theorem dX10_runHour_53 : decode cX10_runHour 53 = .ok (.aload_n 0, 1) := by decide +kernel
theorem dX10_runHour_54 : decode cX10_runHour 54 = .ok (.getfield 15, 3) := by decide +kernel
theorem dX10_runHour_57 : decode cX10_runHour 57 = .ok (.iload_n 3, 1) := by decide +kernel
theorem dX10_runHour_58 : decode cX10_runHour 58 = .ok (.dup2, 1) := by decide +kernel
theorem dX10_runHour_59 : decode cX10_runHour 59 = .ok (.iaload, 1) := by decide +kernel
theorem dX10_runHour_60 : decode cX10_runHour 60 = .ok (.iload_n 2, 1) := by decide +kernel
theorem dX10_runHour_61 : decode cX10_runHour 61 = .ok (.aload 4, 2) := by decide +kernel
theorem dX10_runHour_63 : decode cX10_runHour 63 = .ok (.getfield 31, 3) := by decide +kernel
theorem dX10_runHour_66 : decode cX10_runHour 66 = .ok (.imul, 1) := by decide +kernel
theorem dX10_runHour_67 : decode cX10_runHour 67 = .ok (.bipush 8, 2) := by decide +kernel
theorem dX10_runHour_69 : decode cX10_runHour 69 = .ok (.idiv, 1) := by decide +kernel
theorem dX10_runHour_70 : decode cX10_runHour 70 = .ok (.aload_n 0, 1) := by decide +kernel
theorem dX10_runHour_71 : decode cX10_runHour 71 = .ok (.getfield 21, 3) := by decide +kernel
theorem dX10_runHour_74 : decode cX10_runHour 74 = .ok (.iload_n 3, 1) := by decide +kernel
theorem dX10_runHour_75 : decode cX10_runHour 75 = .ok (.iaload, 1) := by decide +kernel
theorem dX10_runHour_76 : decode cX10_runHour 76 = .ok (.iadd, 1) := by decide +kernel
theorem dX10_runHour_77 : decode cX10_runHour 77 = .ok (.iadd, 1) := by decide +kernel
theorem dX10_runHour_78 : decode cX10_runHour 78 = .ok (.iastore, 1) := by decide +kernel
theorem dX10_runHour_79 : decode cX10_runHour 79 = .ok (.aload_n 0, 1) := by decide +kernel
theorem dX10_runHour_80 : decode cX10_runHour 80 = .ok (.aload 4, 2) := by decide +kernel
theorem dX10_runHour_82 : decode cX10_runHour 82 = .ok (.iload_n 3, 1) := by decide +kernel
theorem dX10_runHour_83 : decode cX10_runHour 83 = .ok (.invokevirtual 37, 3) := by decide +kernel
theorem dX10_runHour_86 : decode cX10_runHour 86 = .ok (.aload_n 0, 1) := by decide +kernel
theorem dX10_runHour_87 : decode cX10_runHour 87 = .ok (.getfield 18, 3) := by decide +kernel
theorem dX10_runHour_90 : decode cX10_runHour 90 = .ok (.iload_n 3, 1) := by decide +kernel
theorem dX10_runHour_91 : decode cX10_runHour 91 = .ok (.dup2, 1) := by decide +kernel
theorem dX10_runHour_92 : decode cX10_runHour 92 = .ok (.iaload, 1) := by decide +kernel
theorem dX10_runHour_93 : decode cX10_runHour 93 = .ok (.iconst 0, 1) := by decide +kernel
theorem dX10_runHour_94 : decode cX10_runHour 94 = .ok (.aload_n 0, 1) := by decide +kernel
theorem dX10_runHour_95 : decode cX10_runHour 95 = .ok (.getfield 15, 3) := by decide +kernel
theorem dX10_runHour_98 : decode cX10_runHour 98 = .ok (.iload_n 3, 1) := by decide +kernel
theorem dX10_runHour_99 : decode cX10_runHour 99 = .ok (.iaload, 1) := by decide +kernel
theorem dX10_runHour_100 : decode cX10_runHour 100 = .ok (.bipush 50, 2) := by decide +kernel
theorem dX10_runHour_102 : decode cX10_runHour 102 = .ok (.isub, 1) := by decide +kernel
theorem dX10_runHour_103 : decode cX10_runHour 103 = .ok (.invokestatic 41, 3) := by decide +kernel
theorem dX10_runHour_106 : decode cX10_runHour 106 = .ok (.iadd, 1) := by decide +kernel
theorem dX10_runHour_107 : decode cX10_runHour 107 = .ok (.iastore, 1) := by decide +kernel
theorem dX10_runHour_108 : decode cX10_runHour 108 = .ok (.iinc 3 1, 3) := by decide +kernel
theorem dX10_runHour_111 : decode cX10_runHour 111 = .ok (.goto (-88), 3) := by decide +kernel
theorem dX10_runHour_114 : decode cX10_runHour 114 = .ok (.iconst 0, 1) := by decide +kernel
theorem dX10_runHour_115 : decode cX10_runHour 115 = .ok (.istore_n 3, 1) := by decide +kernel
theorem dX10_runHour_116 : decode cX10_runHour 116 = .ok (.iload_n 3, 1) := by decide +kernel
theorem dX10_runHour_117 : decode cX10_runHour 117 = .ok (.bipush 30, 2) := by decide +kernel
theorem dX10_runHour_119 : decode cX10_runHour 119 = .ok (.if_icmp .ge 21, 3) := by decide +kernel
theorem dX10_runHour_122 : decode cX10_runHour 122 = .ok (.aload_n 0, 1) := by decide +kernel
theorem dX10_runHour_123 : decode cX10_runHour 123 = .ok (.getfield 21, 3) := by decide +kernel
theorem dX10_runHour_126 : decode cX10_runHour 126 = .ok (.iload_n 3, 1) := by decide +kernel
theorem dX10_runHour_127 : decode cX10_runHour 127 = .ok (.aload_n 0, 1) := by decide +kernel
theorem dX10_runHour_128 : decode cX10_runHour 128 = .ok (.getfield 24, 3) := by decide +kernel
theorem dX10_runHour_131 : decode cX10_runHour 131 = .ok (.iload_n 3, 1) := by decide +kernel
theorem dX10_runHour_132 : decode cX10_runHour 132 = .ok (.iaload, 1) := by decide +kernel
theorem dX10_runHour_133 : decode cX10_runHour 133 = .ok (.iastore, 1) := by decide +kernel
theorem dX10_runHour_134 : decode cX10_runHour 134 = .ok (.iinc 3 1, 3) := by decide +kernel
theorem dX10_runHour_137 : decode cX10_runHour 137 = .ok (.goto (-21), 3) := by decide +kernel
theorem dX10_runHour_140 : decode cX10_runHour 140 = .ok (.return_, 1) := by decide +kernel
set_option maxRecDepth 100000 in
set_option maxHeartbeats 4000000 in
theorem w_X10_runHour_l2 {p : Program} {l : Launch} {e : Env} {R : Room} {s : State} {m : MethodId} {args : Array Value} {below : List Frame} {meth : Method} {c : Code} {cells slots : Nat} {Q : State → Prop} {K : KG} {ad : Nat → Nat → Nat} {fl : Nat} {g2 : Int32} (C : Cx p s m args meth c cX10_runHour 5 "GlassPalace$Water" none) (hR : 3 ≤ R.frames ∧ 40 * (3) ≤ R.locals) (hB : cells ≤ R.cells ∧ slots ≤ R.slots) : ∀ (n : Nat) (u3 : Int32) (M0 : Mem) (H : Heap) (locs : List Loc) (ls : Array Slot), Zd K LC ad M0 s H locs → lv_has ls 5 [(0, .ref (ad 7 0)), (1, .ref (ad 4 0)), (2, .int g2), (3, .int u3)] → ∀ (Mq : Mem), f_X10_runHour_l2 fl g2 n u3 M0 = some Mq → (∀ (H : Heap) (locs : List Loc) (ls : Array Slot), Zd K LC ad Mq s H locs → lv_has ls 5 [(0, .ref (ad 7 0)), (1, .ref (ad 4 0)), (2, .int g2)] → W p l e R s m args below meth c H locs cells slots Q (F0 m 21 ls [])) → W p l e R s m args below meth c H locs cells slots Q (F0 m 2 ls []) := by
  intro n
  induction n with
  | zero =>
    intro u3 M0 H locs ls Z hl Mq hf
    have hf : (none : Option (Mem)) = some Mq := hf
    cases hf
  | succ n ih =>
    intro u3 M0 H locs ls Z hl Mq hf kx0
    replace hf : f_X10_runHour_l2_b (f_X10_runHour_l2 fl g2 n) fl g2 u3 M0 = some Mq := hf
    unfold f_X10_runHour_l2_b at hf
    refine lv_iload_n C.x C.b dX10_runHour_2 rfl (lv_at hl 3 rfl) ?_
    refine lv_bipush (v := 30) C.x C.b dX10_runHour_3 (by decide) ?_
    refine lv_icmp_ge (tgt := 21) C.x C.b dX10_runHour_5 (by decide) (fun hc1 => ?_) (fun hc1 => ?_)
    · replace hf := ite_t hf hc1
      obtain rfl := sm_s hf
      exact kx0 _ _ _ Z (lv_sub hl [0, 1, 2] rfl)
    · replace hf := ite_f hf hc1
      refine lv_aload_n C.x C.b dX10_runHour_8 rfl (lv_at hl 0 rfl) ?_
      refine z_get C Z (lvC7 Nat.zero_lt_one) kC7 zc10 zin10 4 (by decide) k_214 rfl svC7_4 dX10_runHour_9 ?_
      refine lv_iload_n C.x C.b dX10_runHour_12 rfl (lv_at hl 3 rfl) ?_
      refine lv_iconst (v := 0) C.x C.b dX10_runHour_13 (by decide) ?_
      replace hf := asr_s hf; obtain ⟨hq2, hf⟩ := hf
      replace hf := lt1_s hf; obtain ⟨m3, em3, hf⟩ := hf
      refine z_iast (M1 := m3) C Z (lvC29 Nat.zero_lt_one) (by decide) kC29 hq2 em3 stC29u dX10_runHour_14 (fun H locs Z => ?_)
      replace hf := lt1_s hf; obtain ⟨x4, ex4, hf⟩ := hf
      refine z_iinc (v := x4) (lv' := [(3, .int x4), (0, .ref (ad 7 0)), (1, .ref (ad 4 0)), (2, .int g2)]) C dX10_runHour_15 hl (k := 3) rfl (by rw [ex4]; rfl) (by decide) rfl (onlast 2 rfl rfl rfl) (fun ls hl => ?_)
      refine lv_goto (tgt := 2) C.x C.b dX10_runHour_18 (by decide) ?_
      exact ih _ _ _ _ _ Z (lv_sub hl [1, 2, 3, 0] rfl) _ hf kx0
set_option maxRecDepth 100000 in
set_option maxHeartbeats 4000000 in
theorem w_X10_runHour_l23 {p : Program} {l : Launch} {e : Env} {R : Room} {s : State} {m : MethodId} {args : Array Value} {below : List Frame} {meth : Method} {c : Code} {cells slots : Nat} {Q : State → Prop} {K : KG} {ad : Nat → Nat → Nat} {fl : Nat} {g2 : Int32} (C : Cx p s m args meth c cX10_runHour 5 "GlassPalace$Water" none) (hR : 3 ≤ R.frames ∧ 40 * (3) ≤ R.locals) (hB : cells ≤ R.cells ∧ slots ≤ R.slots) : ∀ (n : Nat) (u3 : Int32) (M0 : Mem) (H : Heap) (locs : List Loc) (ls : Array Slot), Zd K LC ad M0 s H locs → lv_has ls 5 [(0, .ref (ad 7 0)), (1, .ref (ad 4 0)), (2, .int g2), (3, .int u3)] → ∀ (Mq : Mem), f_X10_runHour_l23 fl g2 n u3 M0 = some Mq → (∀ (H : Heap) (locs : List Loc) (ls : Array Slot), Zd K LC ad Mq s H locs → lv_has ls 5 [(0, .ref (ad 7 0))] → W p l e R s m args below meth c H locs cells slots Q (F0 m 114 ls [])) → W p l e R s m args below meth c H locs cells slots Q (F0 m 23 ls []) := by
  intro n
  induction n with
  | zero =>
    intro u3 M0 H locs ls Z hl Mq hf
    have hf : (none : Option (Mem)) = some Mq := hf
    cases hf
  | succ n ih =>
    intro u3 M0 H locs ls Z hl Mq hf kx0
    replace hf : f_X10_runHour_l23_b (f_X10_runHour_l23 fl g2 n) fl g2 u3 M0 = some Mq := hf
    unfold f_X10_runHour_l23_b at hf
    refine lv_iload_n C.x C.b dX10_runHour_23 rfl (lv_at hl 3 rfl) ?_
    refine lv_bipush (v := 30) C.x C.b dX10_runHour_24 (by decide) ?_
    refine lv_icmp_ge (tgt := 114) C.x C.b dX10_runHour_26 (by decide) (fun hc7 => ?_) (fun hc7 => ?_)
    · replace hf := ite_t hf hc7
      obtain rfl := sm_s hf
      exact kx0 _ _ _ Z (lv_sub hl [0] rfl)
    · replace hf := ite_f hf hc7
      refine lv_iload_n C.x C.b dX10_runHour_29 rfl (lv_at hl 3 rfl) ?_
      refine lv_aload_n C.x C.b dX10_runHour_30 rfl (lv_at hl 1 rfl) ?_
      refine z_alen C Z (lvC4 Nat.zero_lt_one) kC4 4 rfl (v := 30) (by decide) dX10_runHour_31 ?_
      refine lv_icmp_ge (tgt := 114) C.x C.b dX10_runHour_32 (by decide) (fun hc8 => ?_) (fun hc8 => ?_)
      · replace hf := ite_t hf hc8
        obtain rfl := sm_s hf
        exact kx0 _ _ _ Z (lv_sub hl [0] rfl)
      · replace hf := ite_f hf hc8
        refine lv_aload_n C.x C.b dX10_runHour_35 rfl (lv_at hl 1 rfl) ?_
        refine lv_iload_n C.x C.b dX10_runHour_36 rfl (lv_at hl 3 rfl) ?_
        replace hf := asr_s hf; obtain ⟨hq9, hf⟩ := hf
        refine z_aald C Z (lvC4 Nat.zero_lt_one) kC4 4 rfl hq9 svC4 dX10_runHour_37 ?_
        refine z_rstore (lv' := [(4, .ref (ad 13 (Int32.toNatClampNeg u3))), (0, .ref (ad 7 0)), (1, .ref (ad 4 0)), (2, .int g2), (3, .int u3)]) C dX10_runHour_38 hl (by decide) rfl (onlast 3 rfl rfl rfl) (fun ls hl => ?_)
        refine lv_aload C.x C.b dX10_runHour_40 (lv_at hl 0 rfl) ?_
        refine lv_ifnull C.x C.b dX10_runHour_42 ?_
        refine lv_aload C.x C.b dX10_runHour_45 (lv_at hl 0 rfl) ?_
        refine z_get C Z (lvC13 (vin_lt hq9)) kC13 zc1 zin1 4 (by decide) k_319 rfl svC13_4 dX10_runHour_47 ?_
        refine lv_if_le (tgt := 108) C.x C.b dX10_runHour_50 (by decide) (fun hc10 => ?_) (fun hc10 => ?_)
        · replace hf := ite_t hf hc10
          replace hf := lt1_s hf; obtain ⟨x11, ex11, hf⟩ := hf
          refine z_iinc (v := x11) (lv' := [(3, .int x11), (4, .ref (ad 13 (Int32.toNatClampNeg u3))), (0, .ref (ad 7 0)), (1, .ref (ad 4 0)), (2, .int g2)]) C dX10_runHour_108 hl (k := 4) rfl (by rw [ex11]; rfl) (by decide) rfl (onlast 3 rfl rfl rfl) (fun ls hl => ?_)
          refine lv_goto (tgt := 23) C.x C.b dX10_runHour_111 (by decide) ?_
          exact ih _ _ _ _ _ Z (lv_sub hl [2, 3, 4, 0] rfl) _ hf kx0
        · replace hf := ite_f hf hc10
          refine lv_aload_n C.x C.b dX10_runHour_53 rfl (lv_at hl 1 rfl) ?_
          refine z_get C Z (lvC7 Nat.zero_lt_one) kC7 zc10 zin10 1 (by decide) k_209 rfl svC7_1 dX10_runHour_54 ?_
          refine lv_iload_n C.x C.b dX10_runHour_57 rfl (lv_at hl 4 rfl) ?_
          refine lv_dup2_11 C.x C.b dX10_runHour_58 rfl rfl ?_
          replace hf := asr_s hf; obtain ⟨hq12, hf⟩ := hf
          refine z_iald C Z (lvC26 Nat.zero_lt_one) kC26 hq12 svC26 dX10_runHour_59 ?_
          refine lv_iload_n C.x C.b dX10_runHour_60 rfl (lv_at hl 3 rfl) ?_
          refine lv_aload C.x C.b dX10_runHour_61 (lv_at hl 0 rfl) ?_
          refine z_get C Z (lvC13 (vin_lt hq9)) kC13 zc1 zin1 4 (by decide) k_319 rfl svC13_4 dX10_runHour_63 ?_
          refine lv_imul C.x C.b dX10_runHour_66 ?_
          refine lv_bipush (v := 8) C.x C.b dX10_runHour_67 (by decide) ?_
          refine lv_idiv C.x C.b dX10_runHour_69 (by decide) ?_
          refine lv_aload_n C.x C.b dX10_runHour_70 rfl (lv_at hl 1 rfl) ?_
          refine z_get C Z (lvC7 Nat.zero_lt_one) kC7 zc10 zin10 3 (by decide) k_213 rfl svC7_3 dX10_runHour_71 ?_
          refine lv_iload_n C.x C.b dX10_runHour_74 rfl (lv_at hl 4 rfl) ?_
          replace hf := asr_s hf; obtain ⟨hq13, hf⟩ := hf
          refine z_iald C Z (lvC28 Nat.zero_lt_one) kC28 hq13 svC28 dX10_runHour_75 ?_
          refine lv_iadd C.x C.b dX10_runHour_76 ?_
          refine lv_iadd C.x C.b dX10_runHour_77 ?_
          replace hf := asr_s hf; obtain ⟨hq14, hf⟩ := hf
          replace hf := lt1_s hf; obtain ⟨m15, em15, hf⟩ := hf
          refine z_iast (M1 := m15) C Z (lvC26 Nat.zero_lt_one) (by decide) kC26 hq14 em15 stC26u dX10_runHour_78 (fun H locs Z => ?_)
          refine lv_aload_n C.x C.b dX10_runHour_79 rfl (lv_at hl 1 rfl) ?_
          refine lv_aload C.x C.b dX10_runHour_80 (lv_at hl 0 rfl) ?_
          refine lv_iload_n C.x C.b dX10_runHour_82 rfl (lv_at hl 4 rfl) ?_
          replace hf := bn1_s hf; obtain ⟨m16, hkm16, hf⟩ := hf
          refine z_cV (As := [.ref (ad 13 (Int32.toNatClampNeg u3)), .int u3]) (rest := []) (st1 := []) C Z mw_X10_drain mv_X10_drain k_879 (by decide) (z_hR hR (by decide)) (lvC7 Nat.zero_lt_one) kC7 zc10 (c_X10_drain (l := l) (K := K) (ad := ad) hkm16) rfl hl.1 rfl (Nat.le_of_ble_eq_true rfl) dX10_runHour_83 hB rfl (fun H locs Z => ?_)
          refine lv_aload_n C.x C.b dX10_runHour_86 rfl (lv_at hl 1 rfl) ?_
          refine z_get C Z (lvC7 Nat.zero_lt_one) kC7 zc10 zin10 2 (by decide) k_211 rfl svC7_2 dX10_runHour_87 ?_
          refine lv_iload_n C.x C.b dX10_runHour_90 rfl (lv_at hl 4 rfl) ?_
          refine lv_dup2_11 C.x C.b dX10_runHour_91 rfl rfl ?_
          replace hf := asr_s hf; obtain ⟨hq17, hf⟩ := hf
          refine z_iald C Z (lvC27 Nat.zero_lt_one) kC27 hq17 svC27 dX10_runHour_92 ?_
          refine lv_iconst (v := 0) C.x C.b dX10_runHour_93 (by decide) ?_
          refine lv_aload_n C.x C.b dX10_runHour_94 rfl (lv_at hl 1 rfl) ?_
          refine z_get C Z (lvC7 Nat.zero_lt_one) kC7 zc10 zin10 1 (by decide) k_209 rfl svC7_1 dX10_runHour_95 ?_
          refine lv_iload_n C.x C.b dX10_runHour_98 rfl (lv_at hl 4 rfl) ?_
          replace hf := asr_s hf; obtain ⟨hq18, hf⟩ := hf
          refine z_iald C Z (lvC26 Nat.zero_lt_one) kC26 hq18 svC26 dX10_runHour_99 ?_
          refine lv_bipush (v := 50) C.x C.b dX10_runHour_100 (by decide) ?_
          refine lv_isub C.x C.b dX10_runHour_102 ?_
          refine z_max C k_887 k_562 k_115 k_563 hl.1 hR (by decide) (Nat.le_of_ble_eq_true rfl) hB dX10_runHour_103 ?_
          refine lv_iadd C.x C.b dX10_runHour_106 ?_
          replace hf := asr_s hf; obtain ⟨hq19, hf⟩ := hf
          replace hf := lt1_s hf; obtain ⟨m20, em20, hf⟩ := hf
          refine z_iast (M1 := m20) C Z (lvC27 Nat.zero_lt_one) (by decide) kC27 hq19 em20 stC27u dX10_runHour_107 (fun H locs Z => ?_)
          replace hf := lt1_s hf; obtain ⟨x21, ex21, hf⟩ := hf
          refine z_iinc (v := x21) (lv' := [(3, .int x21), (4, .ref (ad 13 (Int32.toNatClampNeg u3))), (0, .ref (ad 7 0)), (1, .ref (ad 4 0)), (2, .int g2)]) C dX10_runHour_108 hl (k := 4) rfl (by rw [ex21]; rfl) (by decide) rfl (onlast 3 rfl rfl rfl) (fun ls hl => ?_)
          refine lv_goto (tgt := 23) C.x C.b dX10_runHour_111 (by decide) ?_
          exact ih _ _ _ _ _ Z (lv_sub hl [2, 3, 4, 0] rfl) _ hf kx0
set_option maxRecDepth 100000 in
set_option maxHeartbeats 4000000 in
theorem w_X10_runHour_l116 {p : Program} {l : Launch} {e : Env} {R : Room} {s : State} {m : MethodId} {args : Array Value} {below : List Frame} {meth : Method} {c : Code} {cells slots : Nat} {Q : State → Prop} {K : KG} {ad : Nat → Nat → Nat} {fl : Nat} (C : Cx p s m args meth c cX10_runHour 5 "GlassPalace$Water" none) (hR : 3 ≤ R.frames ∧ 40 * (3) ≤ R.locals) (hB : cells ≤ R.cells ∧ slots ≤ R.slots) : ∀ (n : Nat) (u3 : Int32) (M0 : Mem) (H : Heap) (locs : List Loc) (ls : Array Slot), Zd K LC ad M0 s H locs → lv_has ls 5 [(0, .ref (ad 7 0)), (3, .int u3)] → ∀ (Mq : Mem), f_X10_runHour_l116 fl  n u3 M0 = some Mq → (∀ (H : Heap) (locs : List Loc) (ls : Array Slot), Zd K LC ad Mq s H locs → lv_has ls 5 [] → W p l e R s m args below meth c H locs cells slots Q (F0 m 140 ls [])) → W p l e R s m args below meth c H locs cells slots Q (F0 m 116 ls []) := by
  intro n
  induction n with
  | zero =>
    intro u3 M0 H locs ls Z hl Mq hf
    have hf : (none : Option (Mem)) = some Mq := hf
    cases hf
  | succ n ih =>
    intro u3 M0 H locs ls Z hl Mq hf kx0
    replace hf : f_X10_runHour_l116_b (f_X10_runHour_l116 fl  n) fl  u3 M0 = some Mq := hf
    unfold f_X10_runHour_l116_b at hf
    refine lv_iload_n C.x C.b dX10_runHour_116 rfl (lv_at hl 1 rfl) ?_
    refine lv_bipush (v := 30) C.x C.b dX10_runHour_117 (by decide) ?_
    refine lv_icmp_ge (tgt := 140) C.x C.b dX10_runHour_119 (by decide) (fun hc24 => ?_) (fun hc24 => ?_)
    · replace hf := ite_t hf hc24
      obtain rfl := sm_s hf
      exact kx0 _ _ _ Z (lv_sub hl [] rfl)
    · replace hf := ite_f hf hc24
      refine lv_aload_n C.x C.b dX10_runHour_122 rfl (lv_at hl 0 rfl) ?_
      refine z_get C Z (lvC7 Nat.zero_lt_one) kC7 zc10 zin10 3 (by decide) k_213 rfl svC7_3 dX10_runHour_123 ?_
      refine lv_iload_n C.x C.b dX10_runHour_126 rfl (lv_at hl 1 rfl) ?_
      refine lv_aload_n C.x C.b dX10_runHour_127 rfl (lv_at hl 0 rfl) ?_
      refine z_get C Z (lvC7 Nat.zero_lt_one) kC7 zc10 zin10 4 (by decide) k_214 rfl svC7_4 dX10_runHour_128 ?_
      refine lv_iload_n C.x C.b dX10_runHour_131 rfl (lv_at hl 1 rfl) ?_
      replace hf := asr_s hf; obtain ⟨hq25, hf⟩ := hf
      refine z_iald C Z (lvC29 Nat.zero_lt_one) kC29 hq25 svC29 dX10_runHour_132 ?_
      replace hf := asr_s hf; obtain ⟨hq26, hf⟩ := hf
      replace hf := lt1_s hf; obtain ⟨m27, em27, hf⟩ := hf
      refine z_iast (M1 := m27) C Z (lvC28 Nat.zero_lt_one) (by decide) kC28 hq26 em27 stC28u dX10_runHour_133 (fun H locs Z => ?_)
      replace hf := lt1_s hf; obtain ⟨x28, ex28, hf⟩ := hf
      refine z_iinc (v := x28) (lv' := [(3, .int x28), (0, .ref (ad 7 0))]) C dX10_runHour_134 hl (k := 1) rfl (by rw [ex28]; rfl) (by decide) rfl (nolast rfl) (fun ls hl => ?_)
      refine lv_goto (tgt := 116) C.x C.b dX10_runHour_137 (by decide) ?_
      exact ih _ _ _ _ _ Z (lv_sub hl [1, 0] rfl) _ hf kx0
set_option maxRecDepth 100000 in
set_option maxHeartbeats 4000000 in
theorem w_X10_runHour_b114 {p : Program} {l : Launch} {e : Env} {s : State} {m : MethodId} {args : Array Value} {below : List Frame} {meth : Method} {c : Code} {K : KG} {ad : Nat → Nat → Nat} {fl : Nat} {H : Heap} {locs : List Loc} {ls : Array Slot} {M0 : Mem} {M9 : Mem} (C : Cx p s m args meth c cX10_runHour 5 "GlassPalace$Water" none) (hR : 3 ≤ (RM (3) 0 0).frames ∧ 40 * (3) ≤ (RM (3) 0 0).locals) (hB : 0 ≤ (RM (3) 0 0).cells ∧ 0 ≤ (RM (3) 0 0).slots) (Z : Zd K LC ad M0 s H locs) (hl : lv_has ls 5 [(0, .ref (ad 7 0))]) (hf : f_X10_runHour_b114 fl  M0 = some M9) : W p l e (RM (3) 0 0) s m args below meth c H locs 0 0 (MQ below (zQ K LC ad (none) M9) args s 0 0 (zA ad)) (F0 m 114 ls []) := by
  unfold f_X10_runHour_b114 at hf
  refine lv_iconst (v := 0) C.x C.b dX10_runHour_114 (by decide) ?_
  refine z_istore_n (lv' := [(3, .int 0), (0, .ref (ad 7 0))]) C dX10_runHour_115 rfl hl (by decide) rfl (nolast rfl) (fun ls hl => ?_)
  replace hf := bn1_s hf; obtain ⟨m30, hq29, hf⟩ := hf
  refine w_X10_runHour_l116 C hR hB  fl _ _ _ _ _ Z (lv_sub hl [1, 0] rfl) _ hq29 (fun H locs ls Z hl => ?_)
  obtain rfl := sm_s hf
  exact z_vret C Z dX10_runHour_140
set_option maxRecDepth 100000 in
set_option maxHeartbeats 4000000 in
theorem c_X10_runHour {l : Launch} {K : KG} {ad : Nat → Nat → Nat} {fl : Nat} {a2 : Int32} {M0 : Mem} {M9 : Mem} (hf : f_X10_runHour fl a2 M0 = some M9) : Met l yX10_runHour (Cond.code yX10_runHour cX10_runHour 5 none :: ztb) (RM (3) 0 0) (zPc K LC ad M0 [.ref (ad 7 0), .ref (ad 4 0), .int a2]) (zQ K LC ad (none) M9) 0 0 (zA ad) := by
  refine z_enter (by decide) (Nat.le_of_ble_eq_true rfl) ?_
  intro p e s m args below meth c ls C hin hargs Z hl
  replace C : Cx p s m args meth c cX10_runHour 5 "GlassPalace$Water" none := C
  replace hl : lv_has ls 5 [(0, .ref (ad 7 0)), (1, .ref (ad 4 0)), (2, .int a2)] := hl
  have hR : 3 ≤ (RM (3) 0 0).frames ∧ 40 * (3) ≤ (RM (3) 0 0).locals := ⟨Nat.le_refl _, Nat.le_refl _⟩
  have hB : 0 ≤ (RM (3) 0 0).cells ∧ 0 ≤ (RM (3) 0 0).slots := ⟨Nat.zero_le _, Nat.zero_le _⟩
  unfold f_X10_runHour at hf
  refine lv_iconst (v := 0) C.x C.b dX10_runHour_0 (by decide) ?_
  refine z_istore_n (lv' := [(3, .int 0), (0, .ref (ad 7 0)), (1, .ref (ad 4 0)), (2, .int a2)]) C dX10_runHour_1 rfl hl (by decide) rfl (onlast 2 rfl rfl rfl) (fun ls hl => ?_)
  replace hf := bn1_s hf; obtain ⟨m6, hq5, hf⟩ := hf
  refine w_X10_runHour_l2 C hR hB  fl _ _ _ _ _ Z (lv_sub hl [1, 2, 3, 0] rfl) _ hq5 (fun H locs ls Z hl => ?_)
  refine lv_iconst (v := 0) C.x C.b dX10_runHour_21 (by decide) ?_
  refine z_istore_n (lv' := [(3, .int 0), (0, .ref (ad 7 0)), (1, .ref (ad 4 0)), (2, .int a2)]) C dX10_runHour_22 rfl hl (by decide) rfl (onlast 2 rfl rfl rfl) (fun ls hl => ?_)
  replace hf := bn1_s hf; obtain ⟨m23, hq22, hf⟩ := hf
  refine w_X10_runHour_l23 C hR hB  fl _ _ _ _ _ Z (lv_sub hl [1, 2, 3, 0] rfl) _ hq22 (fun H locs ls Z hl => ?_)
  exact w_X10_runHour_b114 C hR hB  Z (lv_sub hl [0] rfl) hf
theorem dX10_runThrough_0 : decode cX10_runThrough 0 = .ok (.iconst 0, 1) := by decide +kernel
theorem dX10_runThrough_1 : decode cX10_runThrough 1 = .ok (.istore_n 3, 1) := by decide +kernel
theorem dX10_runThrough_2 : decode cX10_runThrough 2 = .ok (.iload_n 3, 1) := by decide +kernel
theorem dX10_runThrough_3 : decode cX10_runThrough 3 = .ok (.bipush 30, 2) := by decide +kernel
theorem dX10_runThrough_5 : decode cX10_runThrough 5 = .ok (.if_icmp .ge 30, 3) := by decide +kernel
theorem dX10_runThrough_8 : decode cX10_runThrough 8 = .ok (.aload_n 0, 1) := by decide +kernel
theorem dX10_runThrough_9 : decode cX10_runThrough 9 = .ok (.getfield 15, 3) := by decide +kernel
theorem dX10_runThrough_12 : decode cX10_runThrough 12 = .ok (.iload_n 3, 1) := by decide +kernel
theorem dX10_runThrough_13 : decode cX10_runThrough 13 = .ok (.iconst 0, 1) := by decide +kernel
theorem dX10_runThrough_14 : decode cX10_runThrough 14 = .ok (.iastore, 1) := by decide +kernel
theorem dX10_runThrough_15 : decode cX10_runThrough 15 = .ok (.aload_n 0, 1) := by decide +kernel
theorem dX10_runThrough_16 : decode cX10_runThrough 16 = .ok (.getfield 21, 3) := by decide +kernel
theorem dX10_runThrough_19 : decode cX10_runThrough 19 = .ok (.iload_n 3, 1) := by decide +kernel
theorem dX10_runThrough_20 : decode cX10_runThrough 20 = .ok (.iconst 0, 1) := by decide +kernel
theorem dX10_runThrough_21 : decode cX10_runThrough 21 = .ok (.iastore, 1) := by decide +kernel
theorem dX10_runThrough_22 : decode cX10_runThrough 22 = .ok (.aload_n 0, 1) := by decide +kernel
theorem dX10_runThrough_23 : decode cX10_runThrough 23 = .ok (.getfield 18, 3) := by decide +kernel
theorem dX10_runThrough_26 : decode cX10_runThrough 26 = .ok (.iload_n 3, 1) := by decide +kernel
theorem dX10_runThrough_27 : decode cX10_runThrough 27 = .ok (.iconst 0, 1) := by decide +kernel
theorem dX10_runThrough_28 : decode cX10_runThrough 28 = .ok (.iastore, 1) := by decide +kernel
theorem dX10_runThrough_29 : decode cX10_runThrough 29 = .ok (.iinc 3 1, 3) := by decide +kernel
theorem dX10_runThrough_32 : decode cX10_runThrough 32 = .ok (.goto (-30), 3) := by decide +kernel
theorem dX10_runThrough_35 : decode cX10_runThrough 35 = .ok (.iconst 0, 1) := by decide +kernel
theorem dX10_runThrough_36 : decode cX10_runThrough 36 = .ok (.istore_n 3, 1) := by decide +kernel
theorem dX10_runThrough_37 : decode cX10_runThrough 37 = .ok (.iload_n 3, 1) := by decide +kernel
theorem dX10_runThrough_38 : decode cX10_runThrough 38 = .ok (.iload_n 2, 1) := by decide +kernel
theorem dX10_runThrough_39 : decode cX10_runThrough 39 = .ok (.if_icmp .gt 26, 3) := by decide +kernel
theorem dX10_runThrough_42 : decode cX10_runThrough 42 = .ok (.iload_n 3, 1) := by decide +kernel
theorem dX10_runThrough_43 : decode cX10_runThrough 43 = .ok (.bipush 24, 2) := by decide +kernel
theorem dX10_runThrough_45 : decode cX10_runThrough 45 = .ok (.if_icmp .ge 20, 3) := by decide +kernel
theorem dX10_runThrough_48 : decode cX10_runThrough 48 = .ok (.aload_n 0, 1) := by decide +kernel
theorem dX10_runThrough_49 : decode cX10_runThrough 49 = .ok (.aload_n 1, 1) := by decide +kernel
theorem dX10_runThrough_50 : decode cX10_runThrough 50 = .ok (.aload_n 0, 1) := by decide +kernel
theorem dX10_runThrough_51 : decode cX10_runThrough 51 = .ok (.getfield 9, 3) := by decide +kernel
theorem dX10_runThrough_54 : decode cX10_runThrough 54 = .ok (.iload_n 3, 1) := by decide +kernel
theorem dX10_runThrough_55 : decode cX10_runThrough 55 = .ok (.iaload, 1) := by decide +kernel
theorem dX10_runThrough_56 : decode cX10_runThrough 56 = .ok (.invokevirtual 27, 3) := by decide +kernel
theorem dX10_runThrough_59 : decode cX10_runThrough 59 = .ok (.iinc 3 1, 3) := by decide +kernel
theorem dX10_runThrough_62 : decode cX10_runThrough 62 = .ok (.goto (-25), 3) := by decide +kernel
theorem dX10_runThrough_65 : decode cX10_runThrough 65 = .ok (.return_, 1) := by decide +kernel
set_option maxRecDepth 100000 in
set_option maxHeartbeats 4000000 in
theorem w_X10_runThrough_l2 {p : Program} {l : Launch} {e : Env} {R : Room} {s : State} {m : MethodId} {args : Array Value} {below : List Frame} {meth : Method} {c : Code} {cells slots : Nat} {Q : State → Prop} {K : KG} {ad : Nat → Nat → Nat} {fl : Nat} {g2 : Int32} (C : Cx p s m args meth c cX10_runThrough 4 "GlassPalace$Water" none) (hR : 4 ≤ R.frames ∧ 40 * (4) ≤ R.locals) (hB : cells ≤ R.cells ∧ slots ≤ R.slots) : ∀ (n : Nat) (u3 : Int32) (M0 : Mem) (H : Heap) (locs : List Loc) (ls : Array Slot), Zd K LC ad M0 s H locs → lv_has ls 4 [(0, .ref (ad 7 0)), (1, .ref (ad 4 0)), (2, .int g2), (3, .int u3)] → ∀ (Mq : Mem), f_X10_runThrough_l2 fl g2 n u3 M0 = some Mq → (∀ (H : Heap) (locs : List Loc) (ls : Array Slot), Zd K LC ad Mq s H locs → lv_has ls 4 [(0, .ref (ad 7 0)), (1, .ref (ad 4 0)), (2, .int g2)] → W p l e R s m args below meth c H locs cells slots Q (F0 m 35 ls [])) → W p l e R s m args below meth c H locs cells slots Q (F0 m 2 ls []) := by
  intro n
  induction n with
  | zero =>
    intro u3 M0 H locs ls Z hl Mq hf
    have hf : (none : Option (Mem)) = some Mq := hf
    cases hf
  | succ n ih =>
    intro u3 M0 H locs ls Z hl Mq hf kx0
    replace hf : f_X10_runThrough_l2_b (f_X10_runThrough_l2 fl g2 n) fl g2 u3 M0 = some Mq := hf
    unfold f_X10_runThrough_l2_b at hf
    refine lv_iload_n C.x C.b dX10_runThrough_2 rfl (lv_at hl 3 rfl) ?_
    refine lv_bipush (v := 30) C.x C.b dX10_runThrough_3 (by decide) ?_
    refine lv_icmp_ge (tgt := 35) C.x C.b dX10_runThrough_5 (by decide) (fun hc1 => ?_) (fun hc1 => ?_)
    · replace hf := ite_t hf hc1
      obtain rfl := sm_s hf
      exact kx0 _ _ _ Z (lv_sub hl [0, 1, 2] rfl)
    · replace hf := ite_f hf hc1
      refine lv_aload_n C.x C.b dX10_runThrough_8 rfl (lv_at hl 0 rfl) ?_
      refine z_get C Z (lvC7 Nat.zero_lt_one) kC7 zc10 zin10 1 (by decide) k_209 rfl svC7_1 dX10_runThrough_9 ?_
      refine lv_iload_n C.x C.b dX10_runThrough_12 rfl (lv_at hl 3 rfl) ?_
      refine lv_iconst (v := 0) C.x C.b dX10_runThrough_13 (by decide) ?_
      replace hf := asr_s hf; obtain ⟨hq2, hf⟩ := hf
      replace hf := lt1_s hf; obtain ⟨m3, em3, hf⟩ := hf
      refine z_iast (M1 := m3) C Z (lvC26 Nat.zero_lt_one) (by decide) kC26 hq2 em3 stC26u dX10_runThrough_14 (fun H locs Z => ?_)
      refine lv_aload_n C.x C.b dX10_runThrough_15 rfl (lv_at hl 0 rfl) ?_
      refine z_get C Z (lvC7 Nat.zero_lt_one) kC7 zc10 zin10 3 (by decide) k_213 rfl svC7_3 dX10_runThrough_16 ?_
      refine lv_iload_n C.x C.b dX10_runThrough_19 rfl (lv_at hl 3 rfl) ?_
      refine lv_iconst (v := 0) C.x C.b dX10_runThrough_20 (by decide) ?_
      replace hf := asr_s hf; obtain ⟨hq4, hf⟩ := hf
      replace hf := lt1_s hf; obtain ⟨m5, em5, hf⟩ := hf
      refine z_iast (M1 := m5) C Z (lvC28 Nat.zero_lt_one) (by decide) kC28 hq4 em5 stC28u dX10_runThrough_21 (fun H locs Z => ?_)
      refine lv_aload_n C.x C.b dX10_runThrough_22 rfl (lv_at hl 0 rfl) ?_
      refine z_get C Z (lvC7 Nat.zero_lt_one) kC7 zc10 zin10 2 (by decide) k_211 rfl svC7_2 dX10_runThrough_23 ?_
      refine lv_iload_n C.x C.b dX10_runThrough_26 rfl (lv_at hl 3 rfl) ?_
      refine lv_iconst (v := 0) C.x C.b dX10_runThrough_27 (by decide) ?_
      replace hf := asr_s hf; obtain ⟨hq6, hf⟩ := hf
      replace hf := lt1_s hf; obtain ⟨m7, em7, hf⟩ := hf
      refine z_iast (M1 := m7) C Z (lvC27 Nat.zero_lt_one) (by decide) kC27 hq6 em7 stC27u dX10_runThrough_28 (fun H locs Z => ?_)
      replace hf := lt1_s hf; obtain ⟨x8, ex8, hf⟩ := hf
      refine z_iinc (v := x8) (lv' := [(3, .int x8), (0, .ref (ad 7 0)), (1, .ref (ad 4 0)), (2, .int g2)]) C dX10_runThrough_29 hl (k := 3) rfl (by rw [ex8]; rfl) (by decide) rfl (onlast 2 rfl rfl rfl) (fun ls hl => ?_)
      refine lv_goto (tgt := 2) C.x C.b dX10_runThrough_32 (by decide) ?_
      exact ih _ _ _ _ _ Z (lv_sub hl [1, 2, 3, 0] rfl) _ hf kx0
set_option maxRecDepth 100000 in
set_option maxHeartbeats 4000000 in
theorem w_X10_runThrough_l37 {p : Program} {l : Launch} {e : Env} {R : Room} {s : State} {m : MethodId} {args : Array Value} {below : List Frame} {meth : Method} {c : Code} {cells slots : Nat} {Q : State → Prop} {K : KG} {ad : Nat → Nat → Nat} {fl : Nat} {g2 : Int32} (C : Cx p s m args meth c cX10_runThrough 4 "GlassPalace$Water" none) (hR : 4 ≤ R.frames ∧ 40 * (4) ≤ R.locals) (hB : cells ≤ R.cells ∧ slots ≤ R.slots) : ∀ (n : Nat) (u3 : Int32) (M0 : Mem) (H : Heap) (locs : List Loc) (ls : Array Slot), Zd K LC ad M0 s H locs → lv_has ls 4 [(0, .ref (ad 7 0)), (1, .ref (ad 4 0)), (2, .int g2), (3, .int u3)] → ∀ (Mq : Mem), f_X10_runThrough_l37 fl g2 n u3 M0 = some Mq → (∀ (H : Heap) (locs : List Loc) (ls : Array Slot), Zd K LC ad Mq s H locs → lv_has ls 4 [] → W p l e R s m args below meth c H locs cells slots Q (F0 m 65 ls [])) → W p l e R s m args below meth c H locs cells slots Q (F0 m 37 ls []) := by
  intro n
  induction n with
  | zero =>
    intro u3 M0 H locs ls Z hl Mq hf
    have hf : (none : Option (Mem)) = some Mq := hf
    cases hf
  | succ n ih =>
    intro u3 M0 H locs ls Z hl Mq hf kx0
    replace hf : f_X10_runThrough_l37_b (f_X10_runThrough_l37 fl g2 n) fl g2 u3 M0 = some Mq := hf
    unfold f_X10_runThrough_l37_b at hf
    refine lv_iload_n C.x C.b dX10_runThrough_37 rfl (lv_at hl 3 rfl) ?_
    refine lv_iload_n C.x C.b dX10_runThrough_38 rfl (lv_at hl 2 rfl) ?_
    refine lv_icmp_gt (tgt := 65) C.x C.b dX10_runThrough_39 (by decide) (fun hc11 => ?_) (fun hc11 => ?_)
    · replace hf := ite_t hf hc11
      obtain rfl := sm_s hf
      exact kx0 _ _ _ Z (lv_sub hl [] rfl)
    · replace hf := ite_f hf hc11
      refine lv_iload_n C.x C.b dX10_runThrough_42 rfl (lv_at hl 3 rfl) ?_
      refine lv_bipush (v := 24) C.x C.b dX10_runThrough_43 (by decide) ?_
      refine lv_icmp_ge (tgt := 65) C.x C.b dX10_runThrough_45 (by decide) (fun hc12 => ?_) (fun hc12 => ?_)
      · replace hf := ite_t hf hc12
        obtain rfl := sm_s hf
        exact kx0 _ _ _ Z (lv_sub hl [] rfl)
      · replace hf := ite_f hf hc12
        refine lv_aload_n C.x C.b dX10_runThrough_48 rfl (lv_at hl 0 rfl) ?_
        refine lv_aload_n C.x C.b dX10_runThrough_49 rfl (lv_at hl 1 rfl) ?_
        refine lv_aload_n C.x C.b dX10_runThrough_50 rfl (lv_at hl 0 rfl) ?_
        refine z_get C Z (lvC7 Nat.zero_lt_one) kC7 zc10 zin10 0 (by decide) k_207 rfl svC7_0 dX10_runThrough_51 ?_
        refine lv_iload_n C.x C.b dX10_runThrough_54 rfl (lv_at hl 3 rfl) ?_
        replace hf := asr_s hf; obtain ⟨hq13, hf⟩ := hf
        refine z_iald C Z (lvC25 Nat.zero_lt_one) kC25 hq13 svC25 dX10_runThrough_55 ?_
        replace hf := bn1_s hf; obtain ⟨m14, hkm14, hf⟩ := hf
        refine z_cV (As := [.ref (ad 4 0), .int (gI M0 25 0 (Int32.toNatClampNeg u3))]) (rest := []) (st1 := []) C Z mw_X10_runHour mv_X10_runHour k_875 (by decide) (z_hR hR (by decide)) (lvC7 Nat.zero_lt_one) kC7 zc10 (c_X10_runHour (l := l) (K := K) (ad := ad) hkm14) rfl hl.1 rfl (Nat.le_of_ble_eq_true rfl) dX10_runThrough_56 hB rfl (fun H locs Z => ?_)
        replace hf := lt1_s hf; obtain ⟨x15, ex15, hf⟩ := hf
        refine z_iinc (v := x15) (lv' := [(3, .int x15), (0, .ref (ad 7 0)), (1, .ref (ad 4 0)), (2, .int g2)]) C dX10_runThrough_59 hl (k := 3) rfl (by rw [ex15]; rfl) (by decide) rfl (onlast 2 rfl rfl rfl) (fun ls hl => ?_)
        refine lv_goto (tgt := 37) C.x C.b dX10_runThrough_62 (by decide) ?_
        exact ih _ _ _ _ _ Z (lv_sub hl [1, 2, 3, 0] rfl) _ hf kx0
set_option maxRecDepth 100000 in
set_option maxHeartbeats 4000000 in
theorem c_X10_runThrough {l : Launch} {K : KG} {ad : Nat → Nat → Nat} {fl : Nat} {a2 : Int32} {M0 : Mem} {M9 : Mem} (hf : f_X10_runThrough fl a2 M0 = some M9) : Met l yX10_runThrough (Cond.code yX10_runThrough cX10_runThrough 4 none :: ztb) (RM (4) 0 0) (zPc K LC ad M0 [.ref (ad 7 0), .ref (ad 4 0), .int a2]) (zQ K LC ad (none) M9) 0 0 (zA ad) := by
  refine z_enter (by decide) (Nat.le_of_ble_eq_true rfl) ?_
  intro p e s m args below meth c ls C hin hargs Z hl
  replace C : Cx p s m args meth c cX10_runThrough 4 "GlassPalace$Water" none := C
  replace hl : lv_has ls 4 [(0, .ref (ad 7 0)), (1, .ref (ad 4 0)), (2, .int a2)] := hl
  have hR : 4 ≤ (RM (4) 0 0).frames ∧ 40 * (4) ≤ (RM (4) 0 0).locals := ⟨Nat.le_refl _, Nat.le_refl _⟩
  have hB : 0 ≤ (RM (4) 0 0).cells ∧ 0 ≤ (RM (4) 0 0).slots := ⟨Nat.zero_le _, Nat.zero_le _⟩
  unfold f_X10_runThrough at hf
  refine lv_iconst (v := 0) C.x C.b dX10_runThrough_0 (by decide) ?_
  refine z_istore_n (lv' := [(3, .int 0), (0, .ref (ad 7 0)), (1, .ref (ad 4 0)), (2, .int a2)]) C dX10_runThrough_1 rfl hl (by decide) rfl (onlast 2 rfl rfl rfl) (fun ls hl => ?_)
  replace hf := bn1_s hf; obtain ⟨m10, hq9, hf⟩ := hf
  refine w_X10_runThrough_l2 C hR hB  fl _ _ _ _ _ Z (lv_sub hl [1, 2, 3, 0] rfl) _ hq9 (fun H locs ls Z hl => ?_)
  refine lv_iconst (v := 0) C.x C.b dX10_runThrough_35 (by decide) ?_
  refine z_istore_n (lv' := [(3, .int 0), (0, .ref (ad 7 0)), (1, .ref (ad 4 0)), (2, .int a2)]) C dX10_runThrough_36 rfl hl (by decide) rfl (onlast 2 rfl rfl rfl) (fun ls hl => ?_)
  replace hf := bn1_s hf; obtain ⟨m17, hq16, hf⟩ := hf
  refine w_X10_runThrough_l37 C hR hB  fl _ _ _ _ _ Z (lv_sub hl [1, 2, 3, 0] rfl) _ hq16 (fun H locs ls Z hl => ?_)
  obtain rfl := sm_s hf
  exact z_vret C Z dX10_runThrough_65
theorem dX10_leaksOfAll_0 : decode cX10_leaksOfAll 0 = .ok (.iconst 0, 1) := by decide +kernel
theorem dX10_leaksOfAll_1 : decode cX10_leaksOfAll 1 = .ok (.istore_n 1, 1) := by decide +kernel
theorem dX10_leaksOfAll_2 : decode cX10_leaksOfAll 2 = .ok (.iconst 0, 1) := by decide +kernel
theorem dX10_leaksOfAll_3 : decode cX10_leaksOfAll 3 = .ok (.istore_n 2, 1) := by decide +kernel
theorem dX10_leaksOfAll_4 : decode cX10_leaksOfAll 4 = .ok (.iload_n 2, 1) := by decide +kernel
theorem dX10_leaksOfAll_5 : decode cX10_leaksOfAll 5 = .ok (.bipush 30, 2) := by decide +kernel
theorem dX10_leaksOfAll_7 : decode cX10_leaksOfAll 7 = .ok (.if_icmp .ge 18, 3) := by decide +kernel
theorem dX10_leaksOfAll_10 : decode cX10_leaksOfAll 10 = .ok (.iload_n 1, 1) := by decide +kernel
theorem dX10_leaksOfAll_11 : decode cX10_leaksOfAll 11 = .ok (.aload_n 0, 1) := by decide +kernel
theorem dX10_leaksOfAll_12 : decode cX10_leaksOfAll 12 = .ok (.getfield 18, 3) := by decide +kernel
theorem dX10_leaksOfAll_15 : decode cX10_leaksOfAll 15 = .ok (.iload_n 2, 1) := by decide +kernel
theorem dX10_leaksOfAll_16 : decode cX10_leaksOfAll 16 = .ok (.iaload, 1) := by decide +kernel
theorem dX10_leaksOfAll_17 : decode cX10_leaksOfAll 17 = .ok (.iadd, 1) := by decide +kernel
theorem dX10_leaksOfAll_18 : decode cX10_leaksOfAll 18 = .ok (.istore_n 1, 1) := by decide +kernel
theorem dX10_leaksOfAll_19 : decode cX10_leaksOfAll 19 = .ok (.iinc 2 1, 3) := by decide +kernel
theorem dX10_leaksOfAll_22 : decode cX10_leaksOfAll 22 = .ok (.goto (-18), 3) := by decide +kernel
theorem dX10_leaksOfAll_25 : decode cX10_leaksOfAll 25 = .ok (.iload_n 1, 1) := by decide +kernel
theorem dX10_leaksOfAll_26 : decode cX10_leaksOfAll 26 = .ok (.ireturn, 1) := by decide +kernel
set_option maxRecDepth 100000 in
set_option maxHeartbeats 4000000 in
theorem w_X10_leaksOfAll_l4 {p : Program} {l : Launch} {e : Env} {R : Room} {s : State} {m : MethodId} {args : Array Value} {below : List Frame} {meth : Method} {c : Code} {cells slots : Nat} {Q : State → Prop} {K : KG} {ad : Nat → Nat → Nat} {fl : Nat} (C : Cx p s m args meth c cX10_leaksOfAll 3 "GlassPalace$Water" (some .int)) (hR : 1 ≤ R.frames ∧ 40 * (1) ≤ R.locals) (hB : cells ≤ R.cells ∧ slots ≤ R.slots) : ∀ (n : Nat) (u1 : Int32) (u2 : Int32) (M0 : Mem) (H : Heap) (locs : List Loc) (ls : Array Slot), Zd K LC ad M0 s H locs → lv_has ls 3 [(0, .ref (ad 7 0)), (1, .int u1), (2, .int u2)] → ∀ (q : Int32) (Mq : Mem), f_X10_leaksOfAll_l4 fl  n u1 u2 M0 = some (q, Mq) → (∀ (H : Heap) (locs : List Loc) (ls : Array Slot), Zd K LC ad Mq s H locs → lv_has ls 3 [(1, .int q)] → W p l e R s m args below meth c H locs cells slots Q (F0 m 25 ls [])) → W p l e R s m args below meth c H locs cells slots Q (F0 m 4 ls []) := by
  intro n
  induction n with
  | zero =>
    intro u1 u2 M0 H locs ls Z hl q Mq hf
    have hf : (none : Option (Int32 × Mem)) = some (q, Mq) := hf
    cases hf
  | succ n ih =>
    intro u1 u2 M0 H locs ls Z hl q Mq hf kx0
    replace hf : f_X10_leaksOfAll_l4_b (f_X10_leaksOfAll_l4 fl  n) fl  u1 u2 M0 = some (q, Mq) := hf
    unfold f_X10_leaksOfAll_l4_b at hf
    refine lv_iload_n C.x C.b dX10_leaksOfAll_4 rfl (lv_at hl 2 rfl) ?_
    refine lv_bipush (v := 30) C.x C.b dX10_leaksOfAll_5 (by decide) ?_
    refine lv_icmp_ge (tgt := 25) C.x C.b dX10_leaksOfAll_7 (by decide) (fun hc1 => ?_) (fun hc1 => ?_)
    · replace hf := ite_t hf hc1
      obtain ⟨rfl, rfl⟩ := pr_s hf
      exact kx0 _ _ _ Z (lv_sub hl [1] rfl)
    · replace hf := ite_f hf hc1
      refine lv_iload_n C.x C.b dX10_leaksOfAll_10 rfl (lv_at hl 1 rfl) ?_
      refine lv_aload_n C.x C.b dX10_leaksOfAll_11 rfl (lv_at hl 0 rfl) ?_
      refine z_get C Z (lvC7 Nat.zero_lt_one) kC7 zc10 zin10 2 (by decide) k_211 rfl svC7_2 dX10_leaksOfAll_12 ?_
      refine lv_iload_n C.x C.b dX10_leaksOfAll_15 rfl (lv_at hl 2 rfl) ?_
      replace hf := asr_s hf; obtain ⟨hq2, hf⟩ := hf
      refine z_iald C Z (lvC27 Nat.zero_lt_one) kC27 hq2 svC27 dX10_leaksOfAll_16 ?_
      refine lv_iadd C.x C.b dX10_leaksOfAll_17 ?_
      replace hf := lt1_s hf; obtain ⟨x3, ex3, hf⟩ := hf
      refine z_renI ex3 ?_
      refine z_istore_n (lv' := [(1, .int x3), (0, .ref (ad 7 0)), (2, .int u2)]) C dX10_leaksOfAll_18 rfl hl (by decide) rfl (onlast 0 rfl rfl rfl) (fun ls hl => ?_)
      replace hf := lt1_s hf; obtain ⟨x4, ex4, hf⟩ := hf
      refine z_iinc (v := x4) (lv' := [(2, .int x4), (1, .int x3), (0, .ref (ad 7 0))]) C dX10_leaksOfAll_19 hl (k := 2) rfl (by rw [ex4]; rfl) (by decide) rfl (onlast 0 rfl rfl rfl) (fun ls hl => ?_)
      refine lv_goto (tgt := 4) C.x C.b dX10_leaksOfAll_22 (by decide) ?_
      exact ih _ _ _ _ _ _ Z (lv_sub hl [2, 1, 0] rfl) _ _ hf kx0
set_option maxRecDepth 100000 in
set_option maxHeartbeats 4000000 in
theorem c_X10_leaksOfAll {l : Launch} {K : KG} {ad : Nat → Nat → Nat} {fl : Nat}  {M0 : Mem} {r9 : Int32} {M9 : Mem} (hf : f_X10_leaksOfAll fl  M0 = some (r9, M9)) : Met l yX10_leaksOfAll (Cond.code yX10_leaksOfAll cX10_leaksOfAll 3 (some .int) :: ztb) (RM (1) 0 0) (zPc K LC ad M0 [.ref (ad 7 0)]) (zQ K LC ad (some (.int r9)) M9) 0 0 (zA ad) := by
  refine z_enter (by decide) (Nat.le_of_ble_eq_true rfl) ?_
  intro p e s m args below meth c ls C hin hargs Z hl
  replace C : Cx p s m args meth c cX10_leaksOfAll 3 "GlassPalace$Water" (some .int) := C
  replace hl : lv_has ls 3 [(0, .ref (ad 7 0))] := hl
  have hR : 1 ≤ (RM (1) 0 0).frames ∧ 40 * (1) ≤ (RM (1) 0 0).locals := ⟨Nat.le_refl _, Nat.le_refl _⟩
  have hB : 0 ≤ (RM (1) 0 0).cells ∧ 0 ≤ (RM (1) 0 0).slots := ⟨Nat.zero_le _, Nat.zero_le _⟩
  unfold f_X10_leaksOfAll at hf
  refine lv_iconst (v := 0) C.x C.b dX10_leaksOfAll_0 (by decide) ?_
  refine z_istore_n (lv' := [(1, .int 0), (0, .ref (ad 7 0))]) C dX10_leaksOfAll_1 rfl hl (by decide) rfl (onlast 0 rfl rfl rfl) (fun ls hl => ?_)
  refine lv_iconst (v := 0) C.x C.b dX10_leaksOfAll_2 (by decide) ?_
  refine z_istore_n (lv' := [(2, .int 0), (1, .int 0), (0, .ref (ad 7 0))]) C dX10_leaksOfAll_3 rfl hl (by decide) rfl (onlast 0 rfl rfl rfl) (fun ls hl => ?_)
  replace hf := bn2_s hf; obtain ⟨q5, m6, hq5, hf⟩ := hf
  refine w_X10_leaksOfAll_l4 C hR hB  fl _ _ _ _ _ _ Z (lv_sub hl [2, 1, 0] rfl) _ _ hq5 (fun H locs ls Z hl => ?_)
  refine lv_iload_n C.x C.b dX10_leaksOfAll_25 rfl (lv_at hl 0 rfl) ?_
  obtain ⟨rfl, rfl⟩ := pr_s hf
  exact z_iret C Z dX10_leaksOfAll_26
theorem dX11_pass_0 : decode cX11_pass 0 = .ok (.iload_n 1, 1) := by decide +kernel
theorem dX11_pass_1 : decode cX11_pass 1 = .ok (.iconst 1, 1) := by decide +kernel
theorem dX11_pass_2 : decode cX11_pass 2 = .ok (.if_icmp .lt 21, 3) := by decide +kernel
theorem dX11_pass_5 : decode cX11_pass 5 = .ok (.iload_n 1, 1) := by decide +kernel
theorem dX11_pass_6 : decode cX11_pass 6 = .ok (.bipush 50, 2) := by decide +kernel
theorem dX11_pass_8 : decode cX11_pass 8 = .ok (.if_icmp .gt 15, 3) := by decide +kernel
theorem dX11_pass_11 : decode cX11_pass 11 = .ok (.iload_n 1, 1) := by decide +kernel
theorem dX11_pass_12 : decode cX11_pass 12 = .ok (.sipush 399, 3) := by decide +kernel
theorem dX11_pass_15 : decode cX11_pass 15 = .ok (.aload_n 0, 1) := by decide +kernel
theorem dX11_pass_16 : decode cX11_pass 16 = .ok (.getfield 88, 3) := by decide +kernel
theorem dX11_pass_19 : decode cX11_pass 19 = .ok (.isub, 1) := by decide +kernel
theorem dX11_pass_20 : decode cX11_pass 20 = .ok (.if_icmp .le 6, 3) := by decide +kernel
theorem dX11_pass_23 : decode cX11_pass 23 = .ok (.bipush (-2), 2) := by decide +kernel
theorem dX11_pass_25 : decode cX11_pass 25 = .ok (.ireturn, 1) := by decide +kernel
theorem dX11_pass_26 : decode cX11_pass 26 = .ok (.aload_n 0, 1) := by decide +kernel
theorem dX11_pass_27 : decode cX11_pass 27 = .ok (.dup, 1) := by decide +kernel
theorem dX11_pass_28 : decode cX11_pass 28 = .ok (.getfield 88, 3) := by decide +kernel
theorem dX11_pass_31 : decode cX11_pass 31 = .ok (.iload_n 1, 1) := by decide +kernel
theorem dX11_pass_32 : decode cX11_pass 32 = .ok (.iadd, 1) := by decide +kernel
theorem dX11_pass_33 : decode cX11_pass 33 = .ok (.putfield 88, 3) := by decide +kernel
theorem dX11_pass_36 : decode cX11_pass 36 = .ok (.aload_n 0, 1) := by decide +kernel
theorem dX11_pass_37 : decode cX11_pass 37 = .ok (.getfield 88, 3) := by decide +kernel
theorem dX11_pass_40 : decode cX11_pass 40 = .ok (.ireturn, 1) := by decide +kernel
set_option maxRecDepth 100000 in
set_option maxHeartbeats 4000000 in
theorem c_X11_pass {l : Launch} {K : KG} {ad : Nat → Nat → Nat} {fl : Nat} {a1 : Int32} {M0 : Mem} {r9 : Int32} {M9 : Mem} (hf : f_X11_pass fl a1 M0 = some (r9, M9)) : Met l yX11_pass (Cond.code yX11_pass cX11_pass 2 (some .int) :: ztb) (RM (1) 0 0) (zPc K LC ad M0 [.ref (ad 0 0), .int a1]) (zQ K LC ad (some (.int r9)) M9) 0 0 (zA ad) := by
  refine z_enter (by decide) (Nat.le_of_ble_eq_true rfl) ?_
  intro p e s m args below meth c ls C hin hargs Z hl
  replace C : Cx p s m args meth c cX11_pass 2 "GlassPalace" (some .int) := C
  replace hl : lv_has ls 2 [(0, .ref (ad 0 0)), (1, .int a1)] := hl
  have hR : 1 ≤ (RM (1) 0 0).frames ∧ 40 * (1) ≤ (RM (1) 0 0).locals := ⟨Nat.le_refl _, Nat.le_refl _⟩
  have hB : 0 ≤ (RM (1) 0 0).cells ∧ 0 ≤ (RM (1) 0 0).slots := ⟨Nat.zero_le _, Nat.zero_le _⟩
  unfold f_X11_pass at hf
  refine lv_iload_n C.x C.b dX11_pass_0 rfl (lv_at hl 1 rfl) ?_
  refine lv_iconst (v := 1) C.x C.b dX11_pass_1 (by decide) ?_
  refine lv_icmp_lt (tgt := 23) C.x C.b dX11_pass_2 (by decide) (fun hc1 => ?_) (fun hc1 => ?_)
  · replace hf := ite_t hf hc1
    refine lv_bipush (v := (-2)) C.x C.b dX11_pass_23 (by decide) ?_
    obtain ⟨rfl, rfl⟩ := pr_s hf
    exact z_iret C Z dX11_pass_25
  · replace hf := ite_f hf hc1
    refine lv_iload_n C.x C.b dX11_pass_5 rfl (lv_at hl 1 rfl) ?_
    refine lv_bipush (v := 50) C.x C.b dX11_pass_6 (by decide) ?_
    refine lv_icmp_gt (tgt := 23) C.x C.b dX11_pass_8 (by decide) (fun hc2 => ?_) (fun hc2 => ?_)
    · replace hf := ite_t hf hc2
      refine lv_bipush (v := (-2)) C.x C.b dX11_pass_23 (by decide) ?_
      obtain ⟨rfl, rfl⟩ := pr_s hf
      exact z_iret C Z dX11_pass_25
    · replace hf := ite_f hf hc2
      refine lv_iload_n C.x C.b dX11_pass_11 rfl (lv_at hl 1 rfl) ?_
      refine lv_sipush (v := 399) C.x C.b dX11_pass_12 (by decide) ?_
      refine lv_aload_n C.x C.b dX11_pass_15 rfl (lv_at hl 0 rfl) ?_
      refine z_get C Z (lvC0 Nat.zero_lt_one) kC0 zc11 zin11 0 (by decide) k_362 rfl svC0_0 dX11_pass_16 ?_
      refine lv_isub C.x C.b dX11_pass_19 ?_
      refine lv_icmp_le (tgt := 26) C.x C.b dX11_pass_20 (by decide) (fun hc3 => ?_) (fun hc3 => ?_)
      · replace hf := ite_t hf hc3
        refine lv_aload_n C.x C.b dX11_pass_26 rfl (lv_at hl 0 rfl) ?_
        refine lv_dup C.x C.b dX11_pass_27 rfl ?_
        refine z_get C Z (lvC0 Nat.zero_lt_one) kC0 zc11 zin11 0 (by decide) k_362 rfl svC0_0 dX11_pass_28 ?_
        refine lv_iload_n C.x C.b dX11_pass_31 rfl (lv_at hl 1 rfl) ?_
        refine lv_iadd C.x C.b dX11_pass_32 ?_
        replace hf := lt1_s hf; obtain ⟨m4, em4, hf⟩ := hf
        refine z_put (M1 := m4) C Z (lvC0 Nat.zero_lt_one) (by decide) kC0 zc11 zin11 tyX11_ok nmX11 0 (by decide) k_362 rfl (zUp_I em4 stC0_0u) (Or.inl rfl) rfl rfl dX11_pass_33 (fun H locs Z => ?_)
        refine lv_aload_n C.x C.b dX11_pass_36 rfl (lv_at hl 0 rfl) ?_
        refine z_get C Z (lvC0 Nat.zero_lt_one) kC0 zc11 zin11 0 (by decide) k_362 rfl svC0_0 dX11_pass_37 ?_
        obtain ⟨rfl, rfl⟩ := pr_s hf
        exact z_iret C Z dX11_pass_40
      · replace hf := ite_f hf hc3
        refine lv_bipush (v := (-2)) C.x C.b dX11_pass_23 (by decide) ?_
        obtain ⟨rfl, rfl⟩ := pr_s hf
        exact z_iret C Z dX11_pass_25
theorem dX11_isBay_0 : decode cX11_isBay 0 = .ok (.iload_n 0, 1) := by decide +kernel
theorem dX11_isBay_1 : decode cX11_isBay 1 = .ok (.ifCond .lt 13, 3) := by decide +kernel
theorem dX11_isBay_4 : decode cX11_isBay 4 = .ok (.iload_n 0, 1) := by decide +kernel
theorem dX11_isBay_5 : decode cX11_isBay 5 = .ok (.bipush 30, 2) := by decide +kernel
theorem dX11_isBay_7 : decode cX11_isBay 7 = .ok (.if_icmp .ge 7, 3) := by decide +kernel
theorem dX11_isBay_10 : decode cX11_isBay 10 = .ok (.iconst 1, 1) := by decide +kernel
theorem dX11_isBay_11 : decode cX11_isBay 11 = .ok (.goto 4, 3) := by decide +kernel
theorem dX11_isBay_14 : decode cX11_isBay 14 = .ok (.iconst 0, 1) := by decide +kernel
theorem dX11_isBay_15 : decode cX11_isBay 15 = .ok (.ireturn, 1) := by decide +kernel
set_option maxRecDepth 100000 in
set_option maxHeartbeats 4000000 in
theorem c_X11_isBay {l : Launch} {K : KG} {ad : Nat → Nat → Nat} {fl : Nat} {a1 : Int32} {M0 : Mem} {r9 : Int32} {M9 : Mem} (hf : f_X11_isBay fl a1 M0 = some (r9, M9)) : Met l yX11_isBay (Cond.code yX11_isBay cX11_isBay 1 (some .boolean) :: ztb) (RM (1) 0 0) (zPc K LC ad M0 [.int a1]) (zQ K LC ad (some (.int r9)) M9) 0 0 (zA ad) := by
  refine z_enter (by decide) (Nat.le_of_ble_eq_true rfl) ?_
  intro p e s m args below meth c ls C hin hargs Z hl
  replace C : Cx p s m args meth c cX11_isBay 1 "GlassPalace" (some .boolean) := C
  replace hl : lv_has ls 1 [(0, .int a1)] := hl
  have hR : 1 ≤ (RM (1) 0 0).frames ∧ 40 * (1) ≤ (RM (1) 0 0).locals := ⟨Nat.le_refl _, Nat.le_refl _⟩
  have hB : 0 ≤ (RM (1) 0 0).cells ∧ 0 ≤ (RM (1) 0 0).slots := ⟨Nat.zero_le _, Nat.zero_le _⟩
  unfold f_X11_isBay at hf
  refine lv_iload_n C.x C.b dX11_isBay_0 rfl (lv_at hl 0 rfl) ?_
  refine lv_if_lt (tgt := 14) C.x C.b dX11_isBay_1 (by decide) (fun hc1 => ?_) (fun hc1 => ?_)
  · replace hf := ite_t hf hc1
    refine lv_iconst (v := 0) C.x C.b dX11_isBay_14 (by decide) ?_
    obtain ⟨rfl, rfl⟩ := pr_s hf
    exact z_zret C Z rfl dX11_isBay_15
  · replace hf := ite_f hf hc1
    refine lv_iload_n C.x C.b dX11_isBay_4 rfl (lv_at hl 0 rfl) ?_
    refine lv_bipush (v := 30) C.x C.b dX11_isBay_5 (by decide) ?_
    refine lv_icmp_ge (tgt := 14) C.x C.b dX11_isBay_7 (by decide) (fun hc2 => ?_) (fun hc2 => ?_)
    · replace hf := ite_t hf hc2
      refine lv_iconst (v := 0) C.x C.b dX11_isBay_14 (by decide) ?_
      obtain ⟨rfl, rfl⟩ := pr_s hf
      exact z_zret C Z rfl dX11_isBay_15
    · replace hf := ite_f hf hc2
      refine lv_iconst (v := 1) C.x C.b dX11_isBay_10 (by decide) ?_
      refine lv_goto (tgt := 15) C.x C.b dX11_isBay_11 (by decide) ?_
      obtain ⟨rfl, rfl⟩ := pr_s hf
      exact z_zret C Z rfl dX11_isBay_15
theorem dX11_bayOf_0 : decode cX11_bayOf 0 = .ok (.iload_n 1, 1) := by decide +kernel
theorem dX11_bayOf_1 : decode cX11_bayOf 1 = .ok (.invokestatic 277, 3) := by decide +kernel
theorem dX11_bayOf_4 : decode cX11_bayOf 4 = .ok (.ifCond .eq 12, 3) := by decide +kernel
theorem dX11_bayOf_7 : decode cX11_bayOf 7 = .ok (.aload_n 0, 1) := by decide +kernel
theorem dX11_bayOf_8 : decode cX11_bayOf 8 = .ok (.getfield 26, 3) := by decide +kernel
theorem dX11_bayOf_11 : decode cX11_bayOf 11 = .ok (.iload_n 1, 1) := by decide +kernel
theorem dX11_bayOf_12 : decode cX11_bayOf 12 = .ok (.aaload, 1) := by decide +kernel
theorem dX11_bayOf_13 : decode cX11_bayOf 13 = .ok (.goto 4, 3) := by decide +kernel
theorem dX11_bayOf_16 : decode cX11_bayOf 16 = .ok (.aconst_null, 1) := by decide +kernel
theorem dX11_bayOf_17 : decode cX11_bayOf 17 = .ok (.areturn, 1) := by decide +kernel
set_option maxRecDepth 100000 in
set_option maxHeartbeats 4000000 in
theorem c_X11_bayOf {l : Launch} {K : KG} {ad : Nat → Nat → Nat} {fl : Nat} {a1 : Int32} {M0 : Mem} {r9 : Nat} {M9 : Mem} (hf : f_X11_bayOf fl a1 M0 = some (r9, M9)) : Met l yX11_bayOf (Cond.code yX11_bayOf cX11_bayOf 2 (some (.object "GlassPalace$Bay")) :: ztb) (RM (2) 0 0) (zPc K LC ad M0 [.ref (ad 0 0), .int a1]) (zQ K LC ad (some (rf (ad 13) r9)) M9) 0 0 (zA ad) := by
  refine z_enter (by decide) (Nat.le_of_ble_eq_true rfl) ?_
  intro p e s m args below meth c ls C hin hargs Z hl
  replace C : Cx p s m args meth c cX11_bayOf 2 "GlassPalace" (some (.object "GlassPalace$Bay")) := C
  replace hl : lv_has ls 2 [(0, .ref (ad 0 0)), (1, .int a1)] := hl
  have hR : 2 ≤ (RM (2) 0 0).frames ∧ 40 * (2) ≤ (RM (2) 0 0).locals := ⟨Nat.le_refl _, Nat.le_refl _⟩
  have hB : 0 ≤ (RM (2) 0 0).cells ∧ 0 ≤ (RM (2) 0 0).slots := ⟨Nat.zero_le _, Nat.zero_le _⟩
  unfold f_X11_bayOf at hf
  refine lv_iload_n C.x C.b dX11_bayOf_0 rfl (lv_at hl 1 rfl) ?_
  replace hf := bn2_s hf; obtain ⟨v2, m1, hkm1, hf⟩ := hf
  refine z_cS (As := [.int a1]) (rest := []) (st1 := [.int v2]) C Z mw_X11_isBay mv_X11_isBay k_420 (by decide) (z_hR hR (by decide)) (c_X11_isBay (l := l) (K := K) (ad := ad) hkm1) rfl hl.1 rfl (Nat.le_of_ble_eq_true rfl) dX11_bayOf_1 hB rfl (fun H locs Z => ?_)
  refine lv_if_eq (tgt := 16) C.x C.b dX11_bayOf_4 (by decide) (fun hc3 => ?_) (fun hc3 => ?_)
  · replace hf := ite_t hf hc3
    refine lv_null C.x C.b dX11_bayOf_16 ?_
    obtain ⟨rfl, rfl⟩ := pr_s hf
    exact z_aret (f := ad 13) (k := 0) C Z dX11_bayOf_17
  · replace hf := ite_f hf hc3
    refine lv_aload_n C.x C.b dX11_bayOf_7 rfl (lv_at hl 0 rfl) ?_
    refine z_get C Z (lvC0 Nat.zero_lt_one) kC0 zc11 zin11 5 (by decide) k_367 rfl svC0_5 dX11_bayOf_8 ?_
    refine lv_iload_n C.x C.b dX11_bayOf_11 rfl (lv_at hl 1 rfl) ?_
    replace hf := asr_s hf; obtain ⟨hq4, hf⟩ := hf
    refine z_aald C Z (lvC4 Nat.zero_lt_one) kC4 4 rfl hq4 svC4 dX11_bayOf_12 ?_
    refine lv_goto (tgt := 17) C.x C.b dX11_bayOf_13 (by decide) ?_
    obtain ⟨rfl, rfl⟩ := pr_s hf
    exact z_aret (f := ad 13) (k := ((Int32.toNatClampNeg a1) + 1)) C Z dX11_bayOf_17
theorem dX11_bay_0 : decode cX11_bay 0 = .ok (.aload_n 0, 1) := by decide +kernel
theorem dX11_bay_1 : decode cX11_bay 1 = .ok (.iload_n 1, 1) := by decide +kernel
theorem dX11_bay_2 : decode cX11_bay 2 = .ok (.invokevirtual 92, 3) := by decide +kernel
theorem dX11_bay_5 : decode cX11_bay 5 = .ok (.astore 4, 2) := by decide +kernel
theorem dX11_bay_7 : decode cX11_bay 7 = .ok (.aload 4, 2) := by decide +kernel
theorem dX11_bay_9 : decode cX11_bay 9 = .ok (.ifnull 12, 3) := by decide +kernel
theorem dX11_bay_12 : decode cX11_bay 12 = .ok (.iload_n 2, 1) := by decide +kernel
theorem dX11_bay_13 : decode cX11_bay 13 = .ok (.ifCond .lt 8, 3) := by decide +kernel
theorem dX11_bay_16 : decode cX11_bay 16 = .ok (.iload_n 2, 1) := by decide +kernel
theorem dX11_bay_17 : decode cX11_bay 17 = .ok (.iconst 1, 1) := by decide +kernel
theorem dX11_bay_18 : decode cX11_bay 18 = .ok (.if_icmp .le 5, 3) := by decide +kernel
theorem dX11_bay_21 : decode cX11_bay 21 = .ok (.iconst (-1), 1) := by decide +kernel
theorem dX11_bay_22 : decode cX11_bay 22 = .ok (.ireturn, 1) := by decide +kernel
theorem dX11_bay_23 : decode cX11_bay 23 = .ok (.iload_n 3, 1) := by decide +kernel
theorem dX11_bay_24 : decode cX11_bay 24 = .ok (.ifCond .lt 18, 3) := by decide +kernel
theorem dX11_bay_27 : decode cX11_bay 27 = .ok (.iload_n 3, 1) := by decide +kernel
theorem dX11_bay_28 : decode cX11_bay 28 = .ok (.iload_n 2, 1) := by decide +kernel
theorem dX11_bay_29 : decode cX11_bay 29 = .ok (.ifCond .ne 8, 3) := by decide +kernel
theorem dX11_bay_32 : decode cX11_bay 32 = .ok (.bipush 20, 2) := by decide +kernel
theorem dX11_bay_34 : decode cX11_bay 34 = .ok (.goto 5, 3) := by decide +kernel
theorem dX11_bay_37 : decode cX11_bay 37 = .ok (.bipush 60, 2) := by decide +kernel
theorem dX11_bay_39 : decode cX11_bay 39 = .ok (.if_icmp .le 6, 3) := by decide +kernel
theorem dX11_bay_42 : decode cX11_bay 42 = .ok (.bipush (-2), 2) := by decide +kernel
theorem dX11_bay_44 : decode cX11_bay 44 = .ok (.ireturn, 1) := by decide +kernel
theorem dX11_bay_45 : decode cX11_bay 45 = .ok (.aload 4, 2) := by decide +kernel
theorem dX11_bay_47 : decode cX11_bay 47 = .ok (.invokevirtual 96, 3) := by decide +kernel
theorem dX11_bay_50 : decode cX11_bay 50 = .ok (.ifCond .ne 6, 3) := by decide +kernel
theorem dX11_bay_53 : decode cX11_bay 53 = .ok (.bipush (-3), 2) := by decide +kernel
theorem dX11_bay_55 : decode cX11_bay 55 = .ok (.ireturn, 1) := by decide +kernel
theorem dX11_bay_56 : decode cX11_bay 56 = .ok (.iload_n 2, 1) := by decide +kernel
theorem dX11_bay_57 : decode cX11_bay 57 = .ok (.ifCond .ne 11, 3) := by decide +kernel
theorem dX11_bay_60 : decode cX11_bay 60 = .ok (.aload 4, 2) := by decide +kernel
theorem dX11_bay_62 : decode cX11_bay 62 = .ok (.getfield 100, 3) := by decide +kernel
theorem dX11_bay_65 : decode cX11_bay 65 = .ok (.goto 8, 3) := by decide +kernel
theorem dX11_bay_68 : decode cX11_bay 68 = .ok (.aload 4, 2) := by decide +kernel
theorem dX11_bay_70 : decode cX11_bay 70 = .ok (.getfield 103, 3) := by decide +kernel
theorem dX11_bay_73 : decode cX11_bay 73 = .ok (.istore 5, 2) := by decide +kernel
theorem dX11_bay_75 : decode cX11_bay 75 = .ok (.iload_n 2, 1) := by decide +kernel
theorem dX11_bay_76 : decode cX11_bay 76 = .ok (.ifCond .ne 12, 3) := by decide +kernel
theorem dX11_bay_79 : decode cX11_bay 79 = .ok (.aload 4, 2) := by decide +kernel
theorem dX11_bay_81 : decode cX11_bay 81 = .ok (.iload_n 3, 1) := by decide +kernel
theorem dX11_bay_82 : decode cX11_bay 82 = .ok (.putfield 100, 3) := by decide +kernel
theorem dX11_bay_85 : decode cX11_bay 85 = .ok (.goto 9, 3) := by decide +kernel
theorem dX11_bay_88 : decode cX11_bay 88 = .ok (.aload 4, 2) := by decide +kernel
theorem dX11_bay_90 : decode cX11_bay 90 = .ok (.iload_n 3, 1) := by decide +kernel
theorem dX11_bay_91 : decode cX11_bay 91 = .ok (.putfield 103, 3) := by decide +kernel
theorem dX11_bay_94 : decode cX11_bay 94 = .ok (.iload 5, 2) := by decide +kernel
theorem dX11_bay_96 : decode cX11_bay 96 = .ok (.ireturn, 1) := by decide +kernel
set_option maxRecDepth 100000 in
set_option maxHeartbeats 4000000 in
theorem w_X11_bay_b73 {p : Program} {l : Launch} {e : Env} {s : State} {m : MethodId} {args : Array Value} {below : List Frame} {meth : Method} {c : Code} {K : KG} {ad : Nat → Nat → Nat} {fl : Nat} {H : Heap} {locs : List Loc} {ls : Array Slot} {g2 : Int32} {g3 : Int32} {g4 : Nat} {z0 : Int32} {M0 : Mem} {r9 : Int32} {M9 : Mem} (C : Cx p s m args meth c cX11_bay 6 "GlassPalace" (some .int)) (hR : 4 ≤ (RM (4) 0 0).frames ∧ 40 * (4) ≤ (RM (4) 0 0).locals) (hB : 0 ≤ (RM (4) 0 0).cells ∧ 0 ≤ (RM (4) 0 0).slots) (Z : Zd K LC ad M0 s H locs) (hl : lv_has ls 6 [(2, .int g2), (3, .int g3), (4, rf (ad 13) g4)]) (hf : f_X11_bay_b73 fl g2 g3 g4 z0 M0 = some (r9, M9)) : W p l e (RM (4) 0 0) s m args below meth c H locs 0 0 (MQ below (zQ K LC ad (some (.int r9)) M9) args s 0 0 (zA ad)) (F0 m 73 ls [.int z0]) := by
  unfold f_X11_bay_b73 at hf
  refine z_istore (lv' := [(5, .int z0), (2, .int g2), (3, .int g3), (4, rf (ad 13) g4)]) C dX11_bay_73 hl (by decide) rfl (onlast 2 rfl (rf_cat _ _) rfl) (fun ls hl => ?_)
  refine lv_iload_n C.x C.b dX11_bay_75 rfl (lv_at hl 1 rfl) ?_
  refine lv_if_ne (tgt := 88) C.x C.b dX11_bay_76 (by decide) (fun hc18 => ?_) (fun hc18 => ?_)
  · replace hf := ite_f hf hc18
    refine z_aload C dX11_bay_88 (lv_at hl 3 rfl) ?_
    refine lv_iload_n C.x C.b dX11_bay_90 rfl (lv_at hl 2 rfl) ?_
    replace hf := drf_s hf; obtain ⟨j19, ej21, hj20, hf⟩ := hf
    subst ej21
    refine z_nn [.int g3] (y := j19 + 1) rfl ?_
    replace hf := lt1_s hf; obtain ⟨m22, em22, hf⟩ := hf
    refine z_put (M1 := m22) C Z (lvC13 hj20) (by decide) kC13 zc1 zin1 tyX1_ok nmX1 2 (by decide) k_316 rfl (zUp_I em22 stC13_2u) (Or.inl rfl) rfl rfl dX11_bay_91 (fun H locs Z => ?_)
    refine lv_iload C.x C.b dX11_bay_94 (lv_at hl 0 rfl) ?_
    obtain ⟨rfl, rfl⟩ := pr_s hf
    exact z_iret C Z dX11_bay_96
  · replace hf := ite_t hf hc18
    refine z_aload C dX11_bay_79 (lv_at hl 3 rfl) ?_
    refine lv_iload_n C.x C.b dX11_bay_81 rfl (lv_at hl 2 rfl) ?_
    replace hf := drf_s hf; obtain ⟨j23, ej25, hj24, hf⟩ := hf
    subst ej25
    refine z_nn [.int g3] (y := j23 + 1) rfl ?_
    replace hf := lt1_s hf; obtain ⟨m26, em26, hf⟩ := hf
    refine z_put (M1 := m26) C Z (lvC13 hj24) (by decide) kC13 zc1 zin1 tyX1_ok nmX1 1 (by decide) k_313 rfl (zUp_I em26 stC13_1u) (Or.inl rfl) rfl rfl dX11_bay_82 (fun H locs Z => ?_)
    refine lv_goto (tgt := 94) C.x C.b dX11_bay_85 (by decide) ?_
    refine lv_iload C.x C.b dX11_bay_94 (lv_at hl 0 rfl) ?_
    obtain ⟨rfl, rfl⟩ := pr_s hf
    exact z_iret C Z dX11_bay_96
set_option maxRecDepth 100000 in
set_option maxHeartbeats 4000000 in
theorem w_X11_bay_b39 {p : Program} {l : Launch} {e : Env} {s : State} {m : MethodId} {args : Array Value} {below : List Frame} {meth : Method} {c : Code} {K : KG} {ad : Nat → Nat → Nat} {fl : Nat} {H : Heap} {locs : List Loc} {ls : Array Slot} {g2 : Int32} {g3 : Int32} {g4 : Nat} {z0 : Int32} {z1 : Int32} {M0 : Mem} {r9 : Int32} {M9 : Mem} (C : Cx p s m args meth c cX11_bay 6 "GlassPalace" (some .int)) (hR : 4 ≤ (RM (4) 0 0).frames ∧ 40 * (4) ≤ (RM (4) 0 0).locals) (hB : 0 ≤ (RM (4) 0 0).cells ∧ 0 ≤ (RM (4) 0 0).slots) (Z : Zd K LC ad M0 s H locs) (hl : lv_has ls 6 [(2, .int g2), (3, .int g3), (4, rf (ad 13) g4)]) (hf : f_X11_bay_b39 fl g2 g3 g4 z0 z1 M0 = some (r9, M9)) : W p l e (RM (4) 0 0) s m args below meth c H locs 0 0 (MQ below (zQ K LC ad (some (.int r9)) M9) args s 0 0 (zA ad)) (F0 m 39 ls [.int z1, .int z0]) := by
  unfold f_X11_bay_b39 at hf
  refine lv_icmp_le (tgt := 45) C.x C.b dX11_bay_39 (by decide) (fun hc9 => ?_) (fun hc9 => ?_)
  · replace hf := ite_t hf hc9
    refine z_aload C dX11_bay_45 (lv_at hl 2 rfl) ?_
    replace hf := drf_s hf; obtain ⟨j10, ej12, hj11, hf⟩ := hf
    subst ej12
    refine z_nn [] (y := j10 + 1) rfl ?_
    replace hf := bn2_s hf; obtain ⟨v14, m13, hkm13, hf⟩ := hf
    refine z_cV (As := []) (rest := []) (st1 := [.int v14]) C Z mw_X1_isBare mv_X1_isBare k_423 (by decide) (z_hR hR (by decide)) (lvC13 hj11) kC13 zc1 (c_X1_isBare (l := l) (K := K) (ad := ad) hj11 hkm13) rfl hl.1 rfl (Nat.le_of_ble_eq_true rfl) dX11_bay_47 hB rfl (fun H locs Z => ?_)
    refine lv_if_ne (tgt := 56) C.x C.b dX11_bay_50 (by decide) (fun hc15 => ?_) (fun hc15 => ?_)
    · replace hf := ite_f hf hc15
      refine lv_iload_n C.x C.b dX11_bay_56 rfl (lv_at hl 0 rfl) ?_
      replace hf := bn2_s hf; obtain ⟨q16, m17, hq16, hf⟩ := hf
      have kq16 : ∀ (H : Heap) (locs : List Loc) (ls : Array Slot), Zd K LC ad m17 s H locs → lv_has ls 6 [(2, .int g2), (3, .int g3), (4, .ref (ad 13 j10))] → W p l e (RM (4) 0 0) s m args below meth c H locs 0 0 (MQ below (zQ K LC ad (some (.int r9)) M9) args s 0 0 (zA ad)) (F0 m 73 ls [.int q16]) := by
        intro H locs ls Z hl
        exact w_X11_bay_b73 C hR hB  Z (lv_sub hl [0, 1, 2] rfl) hf
      clear hf
      refine lv_if_ne (tgt := 68) C.x C.b dX11_bay_57 (by decide) (fun hc27 => ?_) (fun hc27 => ?_)
      · have hf := ite_f hq16 hc27; clear hq16
        refine lv_aload C.x C.b dX11_bay_68 (lv_at hl 2 rfl) ?_
        refine z_get C Z (lvC13 hj11) kC13 zc1 zin1 2 (by decide) k_316 rfl svC13_2 dX11_bay_70 ?_
        obtain ⟨rfl, rfl⟩ := pr_s hf
        exact kq16 _ _ _ Z (lv_sub hl [0, 1, 2] rfl)
      · have hf := ite_t hq16 hc27; clear hq16
        refine lv_aload C.x C.b dX11_bay_60 (lv_at hl 2 rfl) ?_
        refine z_get C Z (lvC13 hj11) kC13 zc1 zin1 1 (by decide) k_313 rfl svC13_1 dX11_bay_62 ?_
        refine lv_goto (tgt := 73) C.x C.b dX11_bay_65 (by decide) ?_
        obtain ⟨rfl, rfl⟩ := pr_s hf
        exact kq16 _ _ _ Z (lv_sub hl [0, 1, 2] rfl)
    · replace hf := ite_t hf hc15
      refine lv_bipush (v := (-3)) C.x C.b dX11_bay_53 (by decide) ?_
      obtain ⟨rfl, rfl⟩ := pr_s hf
      exact z_iret C Z dX11_bay_55
  · replace hf := ite_f hf hc9
    refine lv_bipush (v := (-2)) C.x C.b dX11_bay_42 (by decide) ?_
    obtain ⟨rfl, rfl⟩ := pr_s hf
    exact z_iret C Z dX11_bay_44
set_option maxRecDepth 100000 in
set_option maxHeartbeats 4000000 in
theorem c_X11_bay {l : Launch} {K : KG} {ad : Nat → Nat → Nat} {fl : Nat} {a1 : Int32} {a2 : Int32} {a3 : Int32} {M0 : Mem} {r9 : Int32} {M9 : Mem} (hf : f_X11_bay fl a1 a2 a3 M0 = some (r9, M9)) : Met l yX11_bay (Cond.code yX11_bay cX11_bay 6 (some .int) :: ztb) (RM (4) 0 0) (zPc K LC ad M0 [.ref (ad 0 0), .int a1, .int a2, .int a3]) (zQ K LC ad (some (.int r9)) M9) 0 0 (zA ad) := by
  refine z_enter (by decide) (Nat.le_of_ble_eq_true rfl) ?_
  intro p e s m args below meth c ls C hin hargs Z hl
  replace C : Cx p s m args meth c cX11_bay 6 "GlassPalace" (some .int) := C
  replace hl : lv_has ls 6 [(0, .ref (ad 0 0)), (1, .int a1), (2, .int a2), (3, .int a3)] := hl
  have hR : 4 ≤ (RM (4) 0 0).frames ∧ 40 * (4) ≤ (RM (4) 0 0).locals := ⟨Nat.le_refl _, Nat.le_refl _⟩
  have hB : 0 ≤ (RM (4) 0 0).cells ∧ 0 ≤ (RM (4) 0 0).slots := ⟨Nat.zero_le _, Nat.zero_le _⟩
  unfold f_X11_bay at hf
  refine lv_aload_n C.x C.b dX11_bay_0 rfl (lv_at hl 0 rfl) ?_
  refine lv_iload_n C.x C.b dX11_bay_1 rfl (lv_at hl 1 rfl) ?_
  replace hf := bn2_s hf; obtain ⟨c2, m1, hkm1, hf⟩ := hf
  refine z_cV (As := [.int a1]) (rest := []) (st1 := [rf (ad 13) c2]) C Z mw_X11_bayOf mv_X11_bayOf k_416 (by decide) (z_hR hR (by decide)) (lvC0 Nat.zero_lt_one) kC0 zc11 (c_X11_bayOf (l := l) (K := K) (ad := ad) hkm1) rfl hl.1 rfl (Nat.le_of_ble_eq_true rfl) dX11_bay_2 hB rfl (fun H locs Z => ?_)
  refine z_cstore (lv' := [(4, rf (ad 13) c2), (0, .ref (ad 0 0)), (1, .int a1), (2, .int a2), (3, .int a3)]) C dX11_bay_5 hl (by decide) rfl (onlast 3 rfl rfl rfl) (fun ls hl => ?_)
  refine z_aload C dX11_bay_7 (lv_at hl 0 rfl) ?_
  refine z_ifnull C dX11_bay_9 (tgt := 21) (by decide) (fun hc3 => ?_) (fun hc3 => ?_)
  · replace hf := ite_t hf hc3
    refine lv_iconst (v := (-1)) C.x C.b dX11_bay_21 (by decide) ?_
    obtain ⟨rfl, rfl⟩ := pr_s hf
    exact z_iret C Z dX11_bay_22
  · replace hf := ite_f hf hc3
    refine lv_iload_n C.x C.b dX11_bay_12 rfl (lv_at hl 3 rfl) ?_
    refine lv_if_lt (tgt := 21) C.x C.b dX11_bay_13 (by decide) (fun hc4 => ?_) (fun hc4 => ?_)
    · replace hf := ite_t hf hc4
      refine lv_iconst (v := (-1)) C.x C.b dX11_bay_21 (by decide) ?_
      obtain ⟨rfl, rfl⟩ := pr_s hf
      exact z_iret C Z dX11_bay_22
    · replace hf := ite_f hf hc4
      refine lv_iload_n C.x C.b dX11_bay_16 rfl (lv_at hl 3 rfl) ?_
      refine lv_iconst (v := 1) C.x C.b dX11_bay_17 (by decide) ?_
      refine lv_icmp_le (tgt := 23) C.x C.b dX11_bay_18 (by decide) (fun hc5 => ?_) (fun hc5 => ?_)
      · replace hf := ite_t hf hc5
        refine lv_iload_n C.x C.b dX11_bay_23 rfl (lv_at hl 4 rfl) ?_
        refine lv_if_lt (tgt := 42) C.x C.b dX11_bay_24 (by decide) (fun hc6 => ?_) (fun hc6 => ?_)
        · replace hf := ite_t hf hc6
          refine lv_bipush (v := (-2)) C.x C.b dX11_bay_42 (by decide) ?_
          obtain ⟨rfl, rfl⟩ := pr_s hf
          exact z_iret C Z dX11_bay_44
        · replace hf := ite_f hf hc6
          refine lv_iload_n C.x C.b dX11_bay_27 rfl (lv_at hl 4 rfl) ?_
          refine lv_iload_n C.x C.b dX11_bay_28 rfl (lv_at hl 3 rfl) ?_
          replace hf := bn2_s hf; obtain ⟨q7, m8, hq7, hf⟩ := hf
          have kq7 : ∀ (H : Heap) (locs : List Loc) (ls : Array Slot), Zd K LC ad m8 s H locs → lv_has ls 6 [(2, .int a2), (3, .int a3), (4, rf (ad 13) c2)] → W p l e (RM (4) 0 0) s m args below meth c H locs 0 0 (MQ below (zQ K LC ad (some (.int r9)) M9) args s 0 0 (zA ad)) (F0 m 39 ls [.int q7, .int a3]) := by
            intro H locs ls Z hl
            exact w_X11_bay_b39 C hR hB  Z (lv_sub hl [0, 1, 2] rfl) hf
          clear hf
          refine lv_if_ne (tgt := 37) C.x C.b dX11_bay_29 (by decide) (fun hc28 => ?_) (fun hc28 => ?_)
          · have hf := ite_f hq7 hc28; clear hq7
            refine lv_bipush (v := 60) C.x C.b dX11_bay_37 (by decide) ?_
            obtain ⟨rfl, rfl⟩ := pr_s hf
            exact kq7 _ _ _ Z (lv_sub hl [3, 4, 0] rfl)
          · have hf := ite_t hq7 hc28; clear hq7
            refine lv_bipush (v := 20) C.x C.b dX11_bay_32 (by decide) ?_
            refine lv_goto (tgt := 39) C.x C.b dX11_bay_34 (by decide) ?_
            obtain ⟨rfl, rfl⟩ := pr_s hf
            exact kq7 _ _ _ Z (lv_sub hl [3, 4, 0] rfl)
      · replace hf := ite_f hf hc5
        refine lv_iconst (v := (-1)) C.x C.b dX11_bay_21 (by decide) ?_
        obtain ⟨rfl, rfl⟩ := pr_s hf
        exact z_iret C Z dX11_bay_22
theorem dX11_isFoundry_0 : decode cX11_isFoundry 0 = .ok (.iload_n 0, 1) := by decide +kernel
theorem dX11_isFoundry_1 : decode cX11_isFoundry 1 = .ok (.ifCond .lt 13, 3) := by decide +kernel
theorem dX11_isFoundry_4 : decode cX11_isFoundry 4 = .ok (.iload_n 0, 1) := by decide +kernel
theorem dX11_isFoundry_5 : decode cX11_isFoundry 5 = .ok (.bipush 8, 2) := by decide +kernel
theorem dX11_isFoundry_7 : decode cX11_isFoundry 7 = .ok (.if_icmp .ge 7, 3) := by decide +kernel
theorem dX11_isFoundry_10 : decode cX11_isFoundry 10 = .ok (.iconst 1, 1) := by decide +kernel
theorem dX11_isFoundry_11 : decode cX11_isFoundry 11 = .ok (.goto 4, 3) := by decide +kernel
theorem dX11_isFoundry_14 : decode cX11_isFoundry 14 = .ok (.iconst 0, 1) := by decide +kernel
theorem dX11_isFoundry_15 : decode cX11_isFoundry 15 = .ok (.ireturn, 1) := by decide +kernel
set_option maxRecDepth 100000 in
set_option maxHeartbeats 4000000 in
theorem c_X11_isFoundry {l : Launch} {K : KG} {ad : Nat → Nat → Nat} {fl : Nat} {a1 : Int32} {M0 : Mem} {r9 : Int32} {M9 : Mem} (hf : f_X11_isFoundry fl a1 M0 = some (r9, M9)) : Met l yX11_isFoundry (Cond.code yX11_isFoundry cX11_isFoundry 1 (some .boolean) :: ztb) (RM (1) 0 0) (zPc K LC ad M0 [.int a1]) (zQ K LC ad (some (.int r9)) M9) 0 0 (zA ad) := by
  refine z_enter (by decide) (Nat.le_of_ble_eq_true rfl) ?_
  intro p e s m args below meth c ls C hin hargs Z hl
  replace C : Cx p s m args meth c cX11_isFoundry 1 "GlassPalace" (some .boolean) := C
  replace hl : lv_has ls 1 [(0, .int a1)] := hl
  have hR : 1 ≤ (RM (1) 0 0).frames ∧ 40 * (1) ≤ (RM (1) 0 0).locals := ⟨Nat.le_refl _, Nat.le_refl _⟩
  have hB : 0 ≤ (RM (1) 0 0).cells ∧ 0 ≤ (RM (1) 0 0).slots := ⟨Nat.zero_le _, Nat.zero_le _⟩
  unfold f_X11_isFoundry at hf
  refine lv_iload_n C.x C.b dX11_isFoundry_0 rfl (lv_at hl 0 rfl) ?_
  refine lv_if_lt (tgt := 14) C.x C.b dX11_isFoundry_1 (by decide) (fun hc1 => ?_) (fun hc1 => ?_)
  · replace hf := ite_t hf hc1
    refine lv_iconst (v := 0) C.x C.b dX11_isFoundry_14 (by decide) ?_
    obtain ⟨rfl, rfl⟩ := pr_s hf
    exact z_zret C Z rfl dX11_isFoundry_15
  · replace hf := ite_f hf hc1
    refine lv_iload_n C.x C.b dX11_isFoundry_4 rfl (lv_at hl 0 rfl) ?_
    refine lv_bipush (v := 8) C.x C.b dX11_isFoundry_5 (by decide) ?_
    refine lv_icmp_ge (tgt := 14) C.x C.b dX11_isFoundry_7 (by decide) (fun hc2 => ?_) (fun hc2 => ?_)
    · replace hf := ite_t hf hc2
      refine lv_iconst (v := 0) C.x C.b dX11_isFoundry_14 (by decide) ?_
      obtain ⟨rfl, rfl⟩ := pr_s hf
      exact z_zret C Z rfl dX11_isFoundry_15
    · replace hf := ite_f hf hc2
      refine lv_iconst (v := 1) C.x C.b dX11_isFoundry_10 (by decide) ?_
      refine lv_goto (tgt := 15) C.x C.b dX11_isFoundry_11 (by decide) ?_
      obtain ⟨rfl, rfl⟩ := pr_s hf
      exact z_zret C Z rfl dX11_isFoundry_15
theorem dX11_foundry_0 : decode cX11_foundry 0 = .ok (.iload_n 1, 1) := by decide +kernel
theorem dX11_foundry_1 : decode cX11_foundry 1 = .ok (.invokestatic 106, 3) := by decide +kernel
theorem dX11_foundry_4 : decode cX11_foundry 4 = .ok (.ifCond .ne 5, 3) := by decide +kernel
theorem dX11_foundry_7 : decode cX11_foundry 7 = .ok (.iconst (-1), 1) := by decide +kernel
theorem dX11_foundry_8 : decode cX11_foundry 8 = .ok (.ireturn, 1) := by decide +kernel
theorem dX11_foundry_9 : decode cX11_foundry 9 = .ok (.iload_n 2, 1) := by decide +kernel
theorem dX11_foundry_10 : decode cX11_foundry 10 = .ok (.iconst 1, 1) := by decide +kernel
theorem dX11_foundry_11 : decode cX11_foundry 11 = .ok (.if_icmp .lt 14, 3) := by decide +kernel
theorem dX11_foundry_14 : decode cX11_foundry 14 = .ok (.iload_n 3, 1) := by decide +kernel
theorem dX11_foundry_15 : decode cX11_foundry 15 = .ok (.bipush 60, 2) := by decide +kernel
theorem dX11_foundry_17 : decode cX11_foundry 17 = .ok (.if_icmp .gt 8, 3) := by decide +kernel
theorem dX11_foundry_20 : decode cX11_foundry 20 = .ok (.iload_n 2, 1) := by decide +kernel
theorem dX11_foundry_21 : decode cX11_foundry 21 = .ok (.iload_n 3, 1) := by decide +kernel
theorem dX11_foundry_22 : decode cX11_foundry 22 = .ok (.if_icmp .le 6, 3) := by decide +kernel
theorem dX11_foundry_25 : decode cX11_foundry 25 = .ok (.bipush (-2), 2) := by decide +kernel
theorem dX11_foundry_27 : decode cX11_foundry 27 = .ok (.ireturn, 1) := by decide +kernel
theorem dX11_foundry_28 : decode cX11_foundry 28 = .ok (.aload_n 0, 1) := by decide +kernel
theorem dX11_foundry_29 : decode cX11_foundry 29 = .ok (.getfield 11, 3) := by decide +kernel
theorem dX11_foundry_32 : decode cX11_foundry 32 = .ok (.iload_n 1, 1) := by decide +kernel
theorem dX11_foundry_33 : decode cX11_foundry 33 = .ok (.iload_n 2, 1) := by decide +kernel
theorem dX11_foundry_34 : decode cX11_foundry 34 = .ok (.iastore, 1) := by decide +kernel
theorem dX11_foundry_35 : decode cX11_foundry 35 = .ok (.aload_n 0, 1) := by decide +kernel
theorem dX11_foundry_36 : decode cX11_foundry 36 = .ok (.getfield 15, 3) := by decide +kernel
theorem dX11_foundry_39 : decode cX11_foundry 39 = .ok (.iload_n 1, 1) := by decide +kernel
theorem dX11_foundry_40 : decode cX11_foundry 40 = .ok (.iload_n 3, 1) := by decide +kernel
theorem dX11_foundry_41 : decode cX11_foundry 41 = .ok (.iastore, 1) := by decide +kernel
theorem dX11_foundry_42 : decode cX11_foundry 42 = .ok (.iconst 1, 1) := by decide +kernel
theorem dX11_foundry_43 : decode cX11_foundry 43 = .ok (.ireturn, 1) := by decide +kernel
set_option maxRecDepth 100000 in
set_option maxHeartbeats 4000000 in
theorem c_X11_foundry {l : Launch} {K : KG} {ad : Nat → Nat → Nat} {fl : Nat} {a1 : Int32} {a2 : Int32} {a3 : Int32} {M0 : Mem} {r9 : Int32} {M9 : Mem} (hf : f_X11_foundry fl a1 a2 a3 M0 = some (r9, M9)) : Met l yX11_foundry (Cond.code yX11_foundry cX11_foundry 4 (some .int) :: ztb) (RM (2) 0 0) (zPc K LC ad M0 [.ref (ad 0 0), .int a1, .int a2, .int a3]) (zQ K LC ad (some (.int r9)) M9) 0 0 (zA ad) := by
  refine z_enter (by decide) (Nat.le_of_ble_eq_true rfl) ?_
  intro p e s m args below meth c ls C hin hargs Z hl
  replace C : Cx p s m args meth c cX11_foundry 4 "GlassPalace" (some .int) := C
  replace hl : lv_has ls 4 [(0, .ref (ad 0 0)), (1, .int a1), (2, .int a2), (3, .int a3)] := hl
  have hR : 2 ≤ (RM (2) 0 0).frames ∧ 40 * (2) ≤ (RM (2) 0 0).locals := ⟨Nat.le_refl _, Nat.le_refl _⟩
  have hB : 0 ≤ (RM (2) 0 0).cells ∧ 0 ≤ (RM (2) 0 0).slots := ⟨Nat.zero_le _, Nat.zero_le _⟩
  unfold f_X11_foundry at hf
  refine lv_iload_n C.x C.b dX11_foundry_0 rfl (lv_at hl 1 rfl) ?_
  replace hf := bn2_s hf; obtain ⟨v2, m1, hkm1, hf⟩ := hf
  refine z_cS (As := [.int a1]) (rest := []) (st1 := [.int v2]) C Z mw_X11_isFoundry mv_X11_isFoundry k_439 (by decide) (z_hR hR (by decide)) (c_X11_isFoundry (l := l) (K := K) (ad := ad) hkm1) rfl hl.1 rfl (Nat.le_of_ble_eq_true rfl) dX11_foundry_1 hB rfl (fun H locs Z => ?_)
  refine lv_if_ne (tgt := 9) C.x C.b dX11_foundry_4 (by decide) (fun hc3 => ?_) (fun hc3 => ?_)
  · replace hf := ite_f hf hc3
    refine lv_iload_n C.x C.b dX11_foundry_9 rfl (lv_at hl 2 rfl) ?_
    refine lv_iconst (v := 1) C.x C.b dX11_foundry_10 (by decide) ?_
    refine lv_icmp_lt (tgt := 25) C.x C.b dX11_foundry_11 (by decide) (fun hc4 => ?_) (fun hc4 => ?_)
    · replace hf := ite_t hf hc4
      refine lv_bipush (v := (-2)) C.x C.b dX11_foundry_25 (by decide) ?_
      obtain ⟨rfl, rfl⟩ := pr_s hf
      exact z_iret C Z dX11_foundry_27
    · replace hf := ite_f hf hc4
      refine lv_iload_n C.x C.b dX11_foundry_14 rfl (lv_at hl 3 rfl) ?_
      refine lv_bipush (v := 60) C.x C.b dX11_foundry_15 (by decide) ?_
      refine lv_icmp_gt (tgt := 25) C.x C.b dX11_foundry_17 (by decide) (fun hc5 => ?_) (fun hc5 => ?_)
      · replace hf := ite_t hf hc5
        refine lv_bipush (v := (-2)) C.x C.b dX11_foundry_25 (by decide) ?_
        obtain ⟨rfl, rfl⟩ := pr_s hf
        exact z_iret C Z dX11_foundry_27
      · replace hf := ite_f hf hc5
        refine lv_iload_n C.x C.b dX11_foundry_20 rfl (lv_at hl 2 rfl) ?_
        refine lv_iload_n C.x C.b dX11_foundry_21 rfl (lv_at hl 3 rfl) ?_
        refine lv_icmp_le (tgt := 28) C.x C.b dX11_foundry_22 (by decide) (fun hc6 => ?_) (fun hc6 => ?_)
        · replace hf := ite_t hf hc6
          refine lv_aload_n C.x C.b dX11_foundry_28 rfl (lv_at hl 0 rfl) ?_
          refine z_get C Z (lvC0 Nat.zero_lt_one) kC0 zc11 zin11 1 (by decide) k_363 rfl svC0_1 dX11_foundry_29 ?_
          refine lv_iload_n C.x C.b dX11_foundry_32 rfl (lv_at hl 1 rfl) ?_
          refine lv_iload_n C.x C.b dX11_foundry_33 rfl (lv_at hl 2 rfl) ?_
          replace hf := asr_s hf; obtain ⟨hq7, hf⟩ := hf
          replace hf := lt1_s hf; obtain ⟨m8, em8, hf⟩ := hf
          refine z_iast (M1 := m8) C Z (lvC1 Nat.zero_lt_one) (by decide) kC1 hq7 em8 stC1u dX11_foundry_34 (fun H locs Z => ?_)
          refine lv_aload_n C.x C.b dX11_foundry_35 rfl (lv_at hl 0 rfl) ?_
          refine z_get C Z (lvC0 Nat.zero_lt_one) kC0 zc11 zin11 2 (by decide) k_364 rfl svC0_2 dX11_foundry_36 ?_
          refine lv_iload_n C.x C.b dX11_foundry_39 rfl (lv_at hl 1 rfl) ?_
          refine lv_iload_n C.x C.b dX11_foundry_40 rfl (lv_at hl 3 rfl) ?_
          replace hf := asr_s hf; obtain ⟨hq9, hf⟩ := hf
          replace hf := lt1_s hf; obtain ⟨m10, em10, hf⟩ := hf
          refine z_iast (M1 := m10) C Z (lvC2 Nat.zero_lt_one) (by decide) kC2 hq9 em10 stC2u dX11_foundry_41 (fun H locs Z => ?_)
          refine lv_iconst (v := 1) C.x C.b dX11_foundry_42 (by decide) ?_
          obtain ⟨rfl, rfl⟩ := pr_s hf
          exact z_iret C Z dX11_foundry_43
        · replace hf := ite_f hf hc6
          refine lv_bipush (v := (-2)) C.x C.b dX11_foundry_25 (by decide) ?_
          obtain ⟨rfl, rfl⟩ := pr_s hf
          exact z_iret C Z dX11_foundry_27
  · replace hf := ite_t hf hc3
    refine lv_iconst (v := (-1)) C.x C.b dX11_foundry_7 (by decide) ?_
    obtain ⟨rfl, rfl⟩ := pr_s hf
    exact z_iret C Z dX11_foundry_8
theorem dX11_isKind_0 : decode cX11_isKind 0 = .ok (.iload_n 0, 1) := by decide +kernel
theorem dX11_isKind_1 : decode cX11_isKind 1 = .ok (.ifCond .lt 13, 3) := by decide +kernel
theorem dX11_isKind_4 : decode cX11_isKind 4 = .ok (.iload_n 0, 1) := by decide +kernel
theorem dX11_isKind_5 : decode cX11_isKind 5 = .ok (.bipush 6, 2) := by decide +kernel
theorem dX11_isKind_7 : decode cX11_isKind 7 = .ok (.if_icmp .gt 7, 3) := by decide +kernel
theorem dX11_isKind_10 : decode cX11_isKind 10 = .ok (.iconst 1, 1) := by decide +kernel
theorem dX11_isKind_11 : decode cX11_isKind 11 = .ok (.goto 4, 3) := by decide +kernel
theorem dX11_isKind_14 : decode cX11_isKind 14 = .ok (.iconst 0, 1) := by decide +kernel
theorem dX11_isKind_15 : decode cX11_isKind 15 = .ok (.ireturn, 1) := by decide +kernel
set_option maxRecDepth 100000 in
set_option maxHeartbeats 4000000 in
theorem c_X11_isKind {l : Launch} {K : KG} {ad : Nat → Nat → Nat} {fl : Nat} {a1 : Int32} {M0 : Mem} {r9 : Int32} {M9 : Mem} (hf : f_X11_isKind fl a1 M0 = some (r9, M9)) : Met l yX11_isKind (Cond.code yX11_isKind cX11_isKind 1 (some .boolean) :: ztb) (RM (1) 0 0) (zPc K LC ad M0 [.int a1]) (zQ K LC ad (some (.int r9)) M9) 0 0 (zA ad) := by
  refine z_enter (by decide) (Nat.le_of_ble_eq_true rfl) ?_
  intro p e s m args below meth c ls C hin hargs Z hl
  replace C : Cx p s m args meth c cX11_isKind 1 "GlassPalace" (some .boolean) := C
  replace hl : lv_has ls 1 [(0, .int a1)] := hl
  have hR : 1 ≤ (RM (1) 0 0).frames ∧ 40 * (1) ≤ (RM (1) 0 0).locals := ⟨Nat.le_refl _, Nat.le_refl _⟩
  have hB : 0 ≤ (RM (1) 0 0).cells ∧ 0 ≤ (RM (1) 0 0).slots := ⟨Nat.zero_le _, Nat.zero_le _⟩
  unfold f_X11_isKind at hf
  refine lv_iload_n C.x C.b dX11_isKind_0 rfl (lv_at hl 0 rfl) ?_
  refine lv_if_lt (tgt := 14) C.x C.b dX11_isKind_1 (by decide) (fun hc1 => ?_) (fun hc1 => ?_)
  · replace hf := ite_t hf hc1
    refine lv_iconst (v := 0) C.x C.b dX11_isKind_14 (by decide) ?_
    obtain ⟨rfl, rfl⟩ := pr_s hf
    exact z_zret C Z rfl dX11_isKind_15
  · replace hf := ite_f hf hc1
    refine lv_iload_n C.x C.b dX11_isKind_4 rfl (lv_at hl 0 rfl) ?_
    refine lv_bipush (v := 6) C.x C.b dX11_isKind_5 (by decide) ?_
    refine lv_icmp_gt (tgt := 14) C.x C.b dX11_isKind_7 (by decide) (fun hc2 => ?_) (fun hc2 => ?_)
    · replace hf := ite_t hf hc2
      refine lv_iconst (v := 0) C.x C.b dX11_isKind_14 (by decide) ?_
      obtain ⟨rfl, rfl⟩ := pr_s hf
      exact z_zret C Z rfl dX11_isKind_15
    · replace hf := ite_f hf hc2
      refine lv_iconst (v := 1) C.x C.b dX11_isKind_10 (by decide) ?_
      refine lv_goto (tgt := 15) C.x C.b dX11_isKind_11 (by decide) ?_
      obtain ⟨rfl, rfl⟩ := pr_s hf
      exact z_zret C Z rfl dX11_isKind_15
theorem dX11_isNumberOfPieces_0 : decode cX11_isNumberOfPieces 0 = .ok (.iload_n 0, 1) := by decide +kernel
theorem dX11_isNumberOfPieces_1 : decode cX11_isNumberOfPieces 1 = .ok (.iconst 1, 1) := by decide +kernel
theorem dX11_isNumberOfPieces_2 : decode cX11_isNumberOfPieces 2 = .ok (.if_icmp .lt 14, 3) := by decide +kernel
theorem dX11_isNumberOfPieces_5 : decode cX11_isNumberOfPieces 5 = .ok (.iload_n 0, 1) := by decide +kernel
theorem dX11_isNumberOfPieces_6 : decode cX11_isNumberOfPieces 6 = .ok (.sipush 999, 3) := by decide +kernel
theorem dX11_isNumberOfPieces_9 : decode cX11_isNumberOfPieces 9 = .ok (.if_icmp .gt 7, 3) := by decide +kernel
theorem dX11_isNumberOfPieces_12 : decode cX11_isNumberOfPieces 12 = .ok (.iconst 1, 1) := by decide +kernel
theorem dX11_isNumberOfPieces_13 : decode cX11_isNumberOfPieces 13 = .ok (.goto 4, 3) := by decide +kernel
theorem dX11_isNumberOfPieces_16 : decode cX11_isNumberOfPieces 16 = .ok (.iconst 0, 1) := by decide +kernel
theorem dX11_isNumberOfPieces_17 : decode cX11_isNumberOfPieces 17 = .ok (.ireturn, 1) := by decide +kernel
set_option maxRecDepth 100000 in
set_option maxHeartbeats 4000000 in
theorem c_X11_isNumberOfPieces {l : Launch} {K : KG} {ad : Nat → Nat → Nat} {fl : Nat} {a1 : Int32} {M0 : Mem} {r9 : Int32} {M9 : Mem} (hf : f_X11_isNumberOfPieces fl a1 M0 = some (r9, M9)) : Met l yX11_isNumberOfPieces (Cond.code yX11_isNumberOfPieces cX11_isNumberOfPieces 1 (some .boolean) :: ztb) (RM (1) 0 0) (zPc K LC ad M0 [.int a1]) (zQ K LC ad (some (.int r9)) M9) 0 0 (zA ad) := by
  refine z_enter (by decide) (Nat.le_of_ble_eq_true rfl) ?_
  intro p e s m args below meth c ls C hin hargs Z hl
  replace C : Cx p s m args meth c cX11_isNumberOfPieces 1 "GlassPalace" (some .boolean) := C
  replace hl : lv_has ls 1 [(0, .int a1)] := hl
  have hR : 1 ≤ (RM (1) 0 0).frames ∧ 40 * (1) ≤ (RM (1) 0 0).locals := ⟨Nat.le_refl _, Nat.le_refl _⟩
  have hB : 0 ≤ (RM (1) 0 0).cells ∧ 0 ≤ (RM (1) 0 0).slots := ⟨Nat.zero_le _, Nat.zero_le _⟩
  unfold f_X11_isNumberOfPieces at hf
  refine lv_iload_n C.x C.b dX11_isNumberOfPieces_0 rfl (lv_at hl 0 rfl) ?_
  refine lv_iconst (v := 1) C.x C.b dX11_isNumberOfPieces_1 (by decide) ?_
  refine lv_icmp_lt (tgt := 16) C.x C.b dX11_isNumberOfPieces_2 (by decide) (fun hc1 => ?_) (fun hc1 => ?_)
  · replace hf := ite_t hf hc1
    refine lv_iconst (v := 0) C.x C.b dX11_isNumberOfPieces_16 (by decide) ?_
    obtain ⟨rfl, rfl⟩ := pr_s hf
    exact z_zret C Z rfl dX11_isNumberOfPieces_17
  · replace hf := ite_f hf hc1
    refine lv_iload_n C.x C.b dX11_isNumberOfPieces_5 rfl (lv_at hl 0 rfl) ?_
    refine lv_sipush (v := 999) C.x C.b dX11_isNumberOfPieces_6 (by decide) ?_
    refine lv_icmp_gt (tgt := 16) C.x C.b dX11_isNumberOfPieces_9 (by decide) (fun hc2 => ?_) (fun hc2 => ?_)
    · replace hf := ite_t hf hc2
      refine lv_iconst (v := 0) C.x C.b dX11_isNumberOfPieces_16 (by decide) ?_
      obtain ⟨rfl, rfl⟩ := pr_s hf
      exact z_zret C Z rfl dX11_isNumberOfPieces_17
    · replace hf := ite_f hf hc2
      refine lv_iconst (v := 1) C.x C.b dX11_isNumberOfPieces_12 (by decide) ?_
      refine lv_goto (tgt := 17) C.x C.b dX11_isNumberOfPieces_13 (by decide) ?_
      obtain ⟨rfl, rfl⟩ := pr_s hf
      exact z_zret C Z rfl dX11_isNumberOfPieces_17
theorem dX11_order_0 : decode cX11_order 0 = .ok (.iload_n 1, 1) := by decide +kernel
theorem dX11_order_1 : decode cX11_order 1 = .ok (.invokestatic 110, 3) := by decide +kernel
theorem dX11_order_4 : decode cX11_order 4 = .ok (.ifCond .eq 10, 3) := by decide +kernel
theorem dX11_order_7 : decode cX11_order 7 = .ok (.iload_n 2, 1) := by decide +kernel
theorem dX11_order_8 : decode cX11_order 8 = .ok (.invokestatic 106, 3) := by decide +kernel
theorem dX11_order_11 : decode cX11_order 11 = .ok (.ifCond .ne 5, 3) := by decide +kernel
theorem dX11_order_14 : decode cX11_order 14 = .ok (.iconst (-1), 1) := by decide +kernel
theorem dX11_order_15 : decode cX11_order 15 = .ok (.ireturn, 1) := by decide +kernel
theorem dX11_order_16 : decode cX11_order 16 = .ok (.iload_n 3, 1) := by decide +kernel
theorem dX11_order_17 : decode cX11_order 17 = .ok (.invokestatic 113, 3) := by decide +kernel
theorem dX11_order_20 : decode cX11_order 20 = .ok (.ifCond .eq 16, 3) := by decide +kernel
theorem dX11_order_23 : decode cX11_order 23 = .ok (.iload 4, 2) := by decide +kernel
theorem dX11_order_25 : decode cX11_order 25 = .ok (.ifCond .lt 11, 3) := by decide +kernel
theorem dX11_order_28 : decode cX11_order 28 = .ok (.iload 4, 2) := by decide +kernel
theorem dX11_order_30 : decode cX11_order 30 = .ok (.sipush 999, 3) := by decide +kernel
theorem dX11_order_33 : decode cX11_order 33 = .ok (.if_icmp .le 6, 3) := by decide +kernel
theorem dX11_order_36 : decode cX11_order 36 = .ok (.bipush (-2), 2) := by decide +kernel
theorem dX11_order_38 : decode cX11_order 38 = .ok (.ireturn, 1) := by decide +kernel
theorem dX11_order_39 : decode cX11_order 39 = .ok (.aload_n 0, 1) := by decide +kernel
theorem dX11_order_40 : decode cX11_order 40 = .ok (.getfield 116, 3) := by decide +kernel
theorem dX11_order_43 : decode cX11_order 43 = .ok (.bipush 60, 2) := by decide +kernel
theorem dX11_order_45 : decode cX11_order 45 = .ok (.if_icmp .lt 6, 3) := by decide +kernel
theorem dX11_order_48 : decode cX11_order 48 = .ok (.bipush (-4), 2) := by decide +kernel
theorem dX11_order_50 : decode cX11_order 50 = .ok (.ireturn, 1) := by decide +kernel
theorem dX11_order_51 : decode cX11_order 51 = .ok (.aload_n 0, 1) := by decide +kernel
theorem dX11_order_52 : decode cX11_order 52 = .ok (.getfield 20, 3) := by decide +kernel
theorem dX11_order_55 : decode cX11_order 55 = .ok (.aload_n 0, 1) := by decide +kernel
theorem dX11_order_56 : decode cX11_order 56 = .ok (.getfield 116, 3) := by decide +kernel
theorem dX11_order_59 : decode cX11_order 59 = .ok (.new 18, 3) := by decide +kernel
theorem dX11_order_62 : decode cX11_order 62 = .ok (.dup, 1) := by decide +kernel
theorem dX11_order_63 : decode cX11_order 63 = .ok (.aload_n 0, 1) := by decide +kernel
theorem dX11_order_64 : decode cX11_order 64 = .ok (.getfield 116, 3) := by decide +kernel
theorem dX11_order_67 : decode cX11_order 67 = .ok (.iload_n 1, 1) := by decide +kernel
theorem dX11_order_68 : decode cX11_order 68 = .ok (.iload_n 2, 1) := by decide +kernel
theorem dX11_order_69 : decode cX11_order 69 = .ok (.iload_n 3, 1) := by decide +kernel
theorem dX11_order_70 : decode cX11_order 70 = .ok (.iload 4, 2) := by decide +kernel
theorem dX11_order_72 : decode cX11_order 72 = .ok (.aload_n 0, 1) := by decide +kernel
theorem dX11_order_73 : decode cX11_order 73 = .ok (.getfield 88, 3) := by decide +kernel
theorem dX11_order_76 : decode cX11_order 76 = .ok (.invokespecial 119, 3) := by decide +kernel
theorem dX11_order_79 : decode cX11_order 79 = .ok (.aastore, 1) := by decide +kernel
theorem dX11_order_80 : decode cX11_order 80 = .ok (.aload_n 0, 1) := by decide +kernel
theorem dX11_order_81 : decode cX11_order 81 = .ok (.dup, 1) := by decide +kernel
theorem dX11_order_82 : decode cX11_order 82 = .ok (.getfield 116, 3) := by decide +kernel
theorem dX11_order_85 : decode cX11_order 85 = .ok (.iconst 1, 1) := by decide +kernel
theorem dX11_order_86 : decode cX11_order 86 = .ok (.iadd, 1) := by decide +kernel
theorem dX11_order_87 : decode cX11_order 87 = .ok (.putfield 116, 3) := by decide +kernel
theorem dX11_order_90 : decode cX11_order 90 = .ok (.aload_n 0, 1) := by decide +kernel
theorem dX11_order_91 : decode cX11_order 91 = .ok (.getfield 116, 3) := by decide +kernel
theorem dX11_order_94 : decode cX11_order 94 = .ok (.iconst 1, 1) := by decide +kernel
theorem dX11_order_95 : decode cX11_order 95 = .ok (.isub, 1) := by decide +kernel
theorem dX11_order_96 : decode cX11_order 96 = .ok (.ireturn, 1) := by decide +kernel
set_option maxRecDepth 100000 in
set_option maxHeartbeats 4000000 in
theorem c_X11_order {l : Launch} {K : KG} {ad : Nat → Nat → Nat} {fl : Nat} {a1 : Int32} {a2 : Int32} {a3 : Int32} {a4 : Int32} {M0 : Mem} {r9 : Int32} {M9 : Mem} (hf : f_X11_order fl a1 a2 a3 a4 M0 = some (r9, M9)) : Met l yX11_order (Cond.code yX11_order cX11_order 5 (some .int) :: ztb) (RM (2) 1 11) (zPc K LC ad M0 [.ref (ad 0 0), .int a1, .int a2, .int a3, .int a4]) (zQ K LC ad (some (.int r9)) M9) 1 11 (zA ad) := by
  refine z_enter (by decide) (Nat.le_of_ble_eq_true rfl) ?_
  intro p e s m args below meth c ls C hin hargs Z hl
  replace C : Cx p s m args meth c cX11_order 5 "GlassPalace" (some .int) := C
  replace hl : lv_has ls 5 [(0, .ref (ad 0 0)), (1, .int a1), (2, .int a2), (3, .int a3), (4, .int a4)] := hl
  have hR : 2 ≤ (RM (2) 1 11).frames ∧ 40 * (2) ≤ (RM (2) 1 11).locals := ⟨Nat.le_refl _, Nat.le_refl _⟩
  have hB : 0 ≤ (RM (2) 1 11).cells ∧ 0 ≤ (RM (2) 1 11).slots := ⟨Nat.zero_le _, Nat.zero_le _⟩
  unfold f_X11_order at hf
  refine lv_iload_n C.x C.b dX11_order_0 rfl (lv_at hl 1 rfl) ?_
  replace hf := bn2_s hf; obtain ⟨v2, m1, hkm1, hf⟩ := hf
  refine z_cS (As := [.int a1]) (rest := []) (st1 := [.int v2]) C Z mw_X11_isKind mv_X11_isKind k_446 (by decide) (z_hR hR (by decide)) (c_X11_isKind (l := l) (K := K) (ad := ad) hkm1) rfl hl.1 rfl (Nat.le_of_ble_eq_true rfl) dX11_order_1 hB rfl (fun H locs Z => ?_)
  refine lv_if_eq (tgt := 14) C.x C.b dX11_order_4 (by decide) (fun hc3 => ?_) (fun hc3 => ?_)
  · replace hf := ite_t hf hc3
    refine lv_iconst (v := (-1)) C.x C.b dX11_order_14 (by decide) ?_
    obtain ⟨rfl, rfl⟩ := pr_s hf
    refine W.widen (k := 1) (n := 11) (by decide) (by decide) ?_
    exact z_iret C Z dX11_order_15
  · replace hf := ite_f hf hc3
    refine lv_iload_n C.x C.b dX11_order_7 rfl (lv_at hl 2 rfl) ?_
    replace hf := bn2_s hf; obtain ⟨v5, m4, hkm4, hf⟩ := hf
    refine z_cS (As := [.int a2]) (rest := []) (st1 := [.int v5]) C Z mw_X11_isFoundry mv_X11_isFoundry k_439 (by decide) (z_hR hR (by decide)) (c_X11_isFoundry (l := l) (K := K) (ad := ad) hkm4) rfl hl.1 rfl (Nat.le_of_ble_eq_true rfl) dX11_order_8 hB rfl (fun H locs Z => ?_)
    refine lv_if_ne (tgt := 16) C.x C.b dX11_order_11 (by decide) (fun hc6 => ?_) (fun hc6 => ?_)
    · replace hf := ite_f hf hc6
      refine lv_iload_n C.x C.b dX11_order_16 rfl (lv_at hl 3 rfl) ?_
      replace hf := bn2_s hf; obtain ⟨v8, m7, hkm7, hf⟩ := hf
      refine z_cS (As := [.int a3]) (rest := []) (st1 := [.int v8]) C Z mw_X11_isNumberOfPieces mv_X11_isNumberOfPieces k_449 (by decide) (z_hR hR (by decide)) (c_X11_isNumberOfPieces (l := l) (K := K) (ad := ad) hkm7) rfl hl.1 rfl (Nat.le_of_ble_eq_true rfl) dX11_order_17 hB rfl (fun H locs Z => ?_)
      refine lv_if_eq (tgt := 36) C.x C.b dX11_order_20 (by decide) (fun hc9 => ?_) (fun hc9 => ?_)
      · replace hf := ite_t hf hc9
        refine lv_bipush (v := (-2)) C.x C.b dX11_order_36 (by decide) ?_
        obtain ⟨rfl, rfl⟩ := pr_s hf
        refine W.widen (k := 1) (n := 11) (by decide) (by decide) ?_
        exact z_iret C Z dX11_order_38
      · replace hf := ite_f hf hc9
        refine lv_iload C.x C.b dX11_order_23 (lv_at hl 4 rfl) ?_
        refine lv_if_lt (tgt := 36) C.x C.b dX11_order_25 (by decide) (fun hc10 => ?_) (fun hc10 => ?_)
        · replace hf := ite_t hf hc10
          refine lv_bipush (v := (-2)) C.x C.b dX11_order_36 (by decide) ?_
          obtain ⟨rfl, rfl⟩ := pr_s hf
          refine W.widen (k := 1) (n := 11) (by decide) (by decide) ?_
          exact z_iret C Z dX11_order_38
        · replace hf := ite_f hf hc10
          refine lv_iload C.x C.b dX11_order_28 (lv_at hl 4 rfl) ?_
          refine lv_sipush (v := 999) C.x C.b dX11_order_30 (by decide) ?_
          refine lv_icmp_le (tgt := 39) C.x C.b dX11_order_33 (by decide) (fun hc11 => ?_) (fun hc11 => ?_)
          · replace hf := ite_t hf hc11
            refine lv_aload_n C.x C.b dX11_order_39 rfl (lv_at hl 0 rfl) ?_
            refine z_get C Z (lvC0 Nat.zero_lt_one) kC0 zc11 zin11 4 (by decide) k_366 rfl svC0_4 dX11_order_40 ?_
            refine lv_bipush (v := 60) C.x C.b dX11_order_43 (by decide) ?_
            refine lv_icmp_lt (tgt := 51) C.x C.b dX11_order_45 (by decide) (fun hc12 => ?_) (fun hc12 => ?_)
            · replace hf := ite_t hf hc12
              refine lv_aload_n C.x C.b dX11_order_51 rfl (lv_at hl 0 rfl) ?_
              refine z_get C Z (lvC0 Nat.zero_lt_one) kC0 zc11 zin11 3 (by decide) k_365 rfl svC0_3 dX11_order_52 ?_
              refine lv_aload_n C.x C.b dX11_order_55 rfl (lv_at hl 0 rfl) ?_
              refine z_get C Z (lvC0 Nat.zero_lt_one) kC0 zc11 zin11 4 (by decide) k_366 rfl svC0_4 dX11_order_56 ?_
              replace hf := asr_s hf; obtain ⟨hq13, hf⟩ := hf
              replace hf := lt1_s hf; obtain ⟨i14, ei14, hf⟩ := hf
              replace hf := lt1_s hf; obtain ⟨m15, em15, hf⟩ := hf
              refine z_new (M1 := m15) C Z kC23 zc4 zin4 tyX4_ok k_131 k_452 k_114 (by decide) ei14 (by rw [ei14]; exact hq13) em15 (fun j hj => newC23 ei14 em15 j hj) (ei14.symm) (lcNC23 ei14 em15) (lcOC23 em15) lcHC (Nat.le_of_ble_eq_true rfl) (Nat.le_of_ble_eq_true rfl) dX11_order_59 (fun H Z => ?_)
              have hj16 : i14 < gR m15 999 23 0 := by rw [em15, gR_sN, if_pos ⟨rfl, rfl, rfl⟩, ei14]; exact Nat.lt_succ_self _
              refine lv_dup C.x C.b dX11_order_62 rfl ?_
              refine lv_aload_n C.x C.b dX11_order_63 rfl (lv_at hl 0 rfl) ?_
              refine z_get C Z (lvC0 Nat.zero_lt_one) kC0 zc11 zin11 4 (by decide) k_366 rfl svC0_4 dX11_order_64 ?_
              refine lv_iload_n C.x C.b dX11_order_67 rfl (lv_at hl 1 rfl) ?_
              refine lv_iload_n C.x C.b dX11_order_68 rfl (lv_at hl 2 rfl) ?_
              refine lv_iload_n C.x C.b dX11_order_69 rfl (lv_at hl 3 rfl) ?_
              refine lv_iload C.x C.b dX11_order_70 (lv_at hl 4 rfl) ?_
              refine lv_aload_n C.x C.b dX11_order_72 rfl (lv_at hl 0 rfl) ?_
              refine z_get C Z (lvC0 Nat.zero_lt_one) kC0 zc11 zin11 0 (by decide) k_362 rfl svC0_0 dX11_order_73 ?_
              replace hf := bn1_s hf; obtain ⟨m17, hkm17, hf⟩ := hf
              refine z_cI (As := [.int (gI m15 0 0 4), .int a1, .int a2, .int a3, .int a4, .int (gI m15 0 0 0)]) (rest := [.ref (ad 23 i14), .int (gI m7 0 0 4), .ref (ad 3 0)]) C Z mw_X4_init mv_X4_init rfl k_453 (by decide) (z_hR hR (by decide)) (c_X4_init (l := l) (K := K) (ad := ad) hj16 hkm17) rfl hl.1 rfl (Nat.le_of_ble_eq_true rfl) dX11_order_76 ⟨Nat.le_of_ble_eq_true rfl, Nat.le_of_ble_eq_true rfl⟩ (fun H locs Z => ?_)
              replace hf := asr_s hf; obtain ⟨hq18, hf⟩ := hf
              replace hf := asr_s hf; obtain ⟨hq19, hf⟩ := hf
              replace hf := lt1_s hf; obtain ⟨m20, em20, hf⟩ := hf
              refine z_aast (M1 := m20) (x := (i14 + 1)) C Z (lvC3 Nat.zero_lt_one) (by decide) kC3 (t := 3) rfl kC23 zc4 (fun j ej => lvC23 (by omega)) hq18 em20 stC3 dX11_order_79 (fun H locs Z => ?_)
              refine lv_aload_n C.x C.b dX11_order_80 rfl (lv_at hl 0 rfl) ?_
              refine lv_dup C.x C.b dX11_order_81 rfl ?_
              refine z_get C Z (lvC0 Nat.zero_lt_one) kC0 zc11 zin11 4 (by decide) k_366 rfl svC0_4 dX11_order_82 ?_
              refine lv_iconst (v := 1) C.x C.b dX11_order_85 (by decide) ?_
              refine lv_iadd C.x C.b dX11_order_86 ?_
              replace hf := lt1_s hf; obtain ⟨m21, em21, hf⟩ := hf
              refine z_put (M1 := m21) C Z (lvC0 Nat.zero_lt_one) (by decide) kC0 zc11 zin11 tyX11_ok nmX11 4 (by decide) k_366 rfl (zUp_I em21 stC0_4u) (Or.inl rfl) rfl rfl dX11_order_87 (fun H locs Z => ?_)
              refine lv_aload_n C.x C.b dX11_order_90 rfl (lv_at hl 0 rfl) ?_
              refine z_get C Z (lvC0 Nat.zero_lt_one) kC0 zc11 zin11 4 (by decide) k_366 rfl svC0_4 dX11_order_91 ?_
              refine lv_iconst (v := 1) C.x C.b dX11_order_94 (by decide) ?_
              refine lv_isub C.x C.b dX11_order_95 ?_
              obtain ⟨rfl, rfl⟩ := pr_s hf
              exact z_iret C Z dX11_order_96
            · replace hf := ite_f hf hc12
              refine lv_bipush (v := (-4)) C.x C.b dX11_order_48 (by decide) ?_
              obtain ⟨rfl, rfl⟩ := pr_s hf
              refine W.widen (k := 1) (n := 11) (by decide) (by decide) ?_
              exact z_iret C Z dX11_order_50
          · replace hf := ite_f hf hc11
            refine lv_bipush (v := (-2)) C.x C.b dX11_order_36 (by decide) ?_
            obtain ⟨rfl, rfl⟩ := pr_s hf
            refine W.widen (k := 1) (n := 11) (by decide) (by decide) ?_
            exact z_iret C Z dX11_order_38
    · replace hf := ite_t hf hc6
      refine lv_iconst (v := (-1)) C.x C.b dX11_order_14 (by decide) ?_
      obtain ⟨rfl, rfl⟩ := pr_s hf
      refine W.widen (k := 1) (n := 11) (by decide) (by decide) ?_
      exact z_iret C Z dX11_order_15
theorem dX11_lotOf_0 : decode cX11_lotOf 0 = .ok (.iload_n 1, 1) := by decide +kernel
theorem dX11_lotOf_1 : decode cX11_lotOf 1 = .ok (.ifCond .lt 18, 3) := by decide +kernel
theorem dX11_lotOf_4 : decode cX11_lotOf 4 = .ok (.iload_n 1, 1) := by decide +kernel
theorem dX11_lotOf_5 : decode cX11_lotOf 5 = .ok (.bipush 60, 2) := by decide +kernel
theorem dX11_lotOf_7 : decode cX11_lotOf 7 = .ok (.if_icmp .ge 12, 3) := by decide +kernel
theorem dX11_lotOf_10 : decode cX11_lotOf 10 = .ok (.aload_n 0, 1) := by decide +kernel
theorem dX11_lotOf_11 : decode cX11_lotOf 11 = .ok (.getfield 20, 3) := by decide +kernel
theorem dX11_lotOf_14 : decode cX11_lotOf 14 = .ok (.iload_n 1, 1) := by decide +kernel
theorem dX11_lotOf_15 : decode cX11_lotOf 15 = .ok (.aaload, 1) := by decide +kernel
theorem dX11_lotOf_16 : decode cX11_lotOf 16 = .ok (.goto 4, 3) := by decide +kernel
theorem dX11_lotOf_19 : decode cX11_lotOf 19 = .ok (.aconst_null, 1) := by decide +kernel
theorem dX11_lotOf_20 : decode cX11_lotOf 20 = .ok (.areturn, 1) := by decide +kernel
set_option maxRecDepth 100000 in
set_option maxHeartbeats 4000000 in
theorem c_X11_lotOf {l : Launch} {K : KG} {ad : Nat → Nat → Nat} {fl : Nat} {a1 : Int32} {M0 : Mem} {r9 : Nat} {M9 : Mem} (hf : f_X11_lotOf fl a1 M0 = some (r9, M9)) : Met l yX11_lotOf (Cond.code yX11_lotOf cX11_lotOf 2 (some (.object "GlassPalace$Lot")) :: ztb) (RM (1) 0 0) (zPc K LC ad M0 [.ref (ad 0 0), .int a1]) (zQ K LC ad (some (rf (ad 23) r9)) M9) 0 0 (zA ad) := by
  refine z_enter (by decide) (Nat.le_of_ble_eq_true rfl) ?_
  intro p e s m args below meth c ls C hin hargs Z hl
  replace C : Cx p s m args meth c cX11_lotOf 2 "GlassPalace" (some (.object "GlassPalace$Lot")) := C
  replace hl : lv_has ls 2 [(0, .ref (ad 0 0)), (1, .int a1)] := hl
  have hR : 1 ≤ (RM (1) 0 0).frames ∧ 40 * (1) ≤ (RM (1) 0 0).locals := ⟨Nat.le_refl _, Nat.le_refl _⟩
  have hB : 0 ≤ (RM (1) 0 0).cells ∧ 0 ≤ (RM (1) 0 0).slots := ⟨Nat.zero_le _, Nat.zero_le _⟩
  unfold f_X11_lotOf at hf
  refine lv_iload_n C.x C.b dX11_lotOf_0 rfl (lv_at hl 1 rfl) ?_
  refine lv_if_lt (tgt := 19) C.x C.b dX11_lotOf_1 (by decide) (fun hc1 => ?_) (fun hc1 => ?_)
  · replace hf := ite_t hf hc1
    refine lv_null C.x C.b dX11_lotOf_19 ?_
    obtain ⟨rfl, rfl⟩ := pr_s hf
    exact z_aret (f := ad 23) (k := 0) C Z dX11_lotOf_20
  · replace hf := ite_f hf hc1
    refine lv_iload_n C.x C.b dX11_lotOf_4 rfl (lv_at hl 1 rfl) ?_
    refine lv_bipush (v := 60) C.x C.b dX11_lotOf_5 (by decide) ?_
    refine lv_icmp_ge (tgt := 19) C.x C.b dX11_lotOf_7 (by decide) (fun hc2 => ?_) (fun hc2 => ?_)
    · replace hf := ite_t hf hc2
      refine lv_null C.x C.b dX11_lotOf_19 ?_
      obtain ⟨rfl, rfl⟩ := pr_s hf
      exact z_aret (f := ad 23) (k := 0) C Z dX11_lotOf_20
    · replace hf := ite_f hf hc2
      refine lv_aload_n C.x C.b dX11_lotOf_10 rfl (lv_at hl 0 rfl) ?_
      refine z_get C Z (lvC0 Nat.zero_lt_one) kC0 zc11 zin11 3 (by decide) k_365 rfl svC0_3 dX11_lotOf_11 ?_
      refine lv_iload_n C.x C.b dX11_lotOf_14 rfl (lv_at hl 1 rfl) ?_
      replace hf := asr_s hf; obtain ⟨hq3, hf⟩ := hf
      refine z_aald C Z (lvC3 Nat.zero_lt_one) kC3 3 rfl hq3 svC3 dX11_lotOf_15 ?_
      refine lv_goto (tgt := 20) C.x C.b dX11_lotOf_16 (by decide) ?_
      obtain ⟨rfl, rfl⟩ := pr_s hf
      exact z_aret (f := ad 23) (k := _) C Z dX11_lotOf_20
theorem dX11_come_0 : decode cX11_come 0 = .ok (.aload_n 0, 1) := by decide +kernel
theorem dX11_come_1 : decode cX11_come 1 = .ok (.iload_n 1, 1) := by decide +kernel
theorem dX11_come_2 : decode cX11_come 2 = .ok (.invokevirtual 122, 3) := by decide +kernel
theorem dX11_come_5 : decode cX11_come 5 = .ok (.astore_n 3, 1) := by decide +kernel
theorem dX11_come_6 : decode cX11_come 6 = .ok (.aload_n 3, 1) := by decide +kernel
theorem dX11_come_7 : decode cX11_come 7 = .ok (.ifnonnull 5, 3) := by decide +kernel
theorem dX11_come_10 : decode cX11_come 10 = .ok (.iconst (-1), 1) := by decide +kernel
theorem dX11_come_11 : decode cX11_come 11 = .ok (.ireturn, 1) := by decide +kernel
theorem dX11_come_12 : decode cX11_come 12 = .ok (.iload_n 2, 1) := by decide +kernel
theorem dX11_come_13 : decode cX11_come 13 = .ok (.aload_n 3, 1) := by decide +kernel
theorem dX11_come_14 : decode cX11_come 14 = .ok (.getfield 126, 3) := by decide +kernel
theorem dX11_come_17 : decode cX11_come 17 = .ok (.if_icmp .lt 11, 3) := by decide +kernel
theorem dX11_come_20 : decode cX11_come 20 = .ok (.iload_n 2, 1) := by decide +kernel
theorem dX11_come_21 : decode cX11_come 21 = .ok (.aload_n 0, 1) := by decide +kernel
theorem dX11_come_22 : decode cX11_come 22 = .ok (.getfield 88, 3) := by decide +kernel
theorem dX11_come_25 : decode cX11_come 25 = .ok (.if_icmp .le 6, 3) := by decide +kernel
theorem dX11_come_28 : decode cX11_come 28 = .ok (.bipush (-2), 2) := by decide +kernel
theorem dX11_come_30 : decode cX11_come 30 = .ok (.ireturn, 1) := by decide +kernel
theorem dX11_come_31 : decode cX11_come 31 = .ok (.aload_n 3, 1) := by decide +kernel
theorem dX11_come_32 : decode cX11_come 32 = .ok (.invokevirtual 129, 3) := by decide +kernel
theorem dX11_come_35 : decode cX11_come 35 = .ok (.ifCond .eq 6, 3) := by decide +kernel
theorem dX11_come_38 : decode cX11_come 38 = .ok (.bipush (-3), 2) := by decide +kernel
theorem dX11_come_40 : decode cX11_come 40 = .ok (.ireturn, 1) := by decide +kernel
theorem dX11_come_41 : decode cX11_come 41 = .ok (.aload_n 3, 1) := by decide +kernel
theorem dX11_come_42 : decode cX11_come 42 = .ok (.iload_n 2, 1) := by decide +kernel
theorem dX11_come_43 : decode cX11_come 43 = .ok (.putfield 132, 3) := by decide +kernel
theorem dX11_come_46 : decode cX11_come 46 = .ok (.aload_n 3, 1) := by decide +kernel
theorem dX11_come_47 : decode cX11_come 47 = .ok (.aload_n 0, 1) := by decide +kernel
theorem dX11_come_48 : decode cX11_come 48 = .ok (.getfield 88, 3) := by decide +kernel
theorem dX11_come_51 : decode cX11_come 51 = .ok (.putfield 135, 3) := by decide +kernel
theorem dX11_come_54 : decode cX11_come 54 = .ok (.iconst 1, 1) := by decide +kernel
theorem dX11_come_55 : decode cX11_come 55 = .ok (.ireturn, 1) := by decide +kernel
set_option maxRecDepth 100000 in
set_option maxHeartbeats 4000000 in
theorem c_X11_come {l : Launch} {K : KG} {ad : Nat → Nat → Nat} {fl : Nat} {a1 : Int32} {a2 : Int32} {M0 : Mem} {r9 : Int32} {M9 : Mem} (hf : f_X11_come fl a1 a2 M0 = some (r9, M9)) : Met l yX11_come (Cond.code yX11_come cX11_come 4 (some .int) :: ztb) (RM (2) 0 0) (zPc K LC ad M0 [.ref (ad 0 0), .int a1, .int a2]) (zQ K LC ad (some (.int r9)) M9) 0 0 (zA ad) := by
  refine z_enter (by decide) (Nat.le_of_ble_eq_true rfl) ?_
  intro p e s m args below meth c ls C hin hargs Z hl
  replace C : Cx p s m args meth c cX11_come 4 "GlassPalace" (some .int) := C
  replace hl : lv_has ls 4 [(0, .ref (ad 0 0)), (1, .int a1), (2, .int a2)] := hl
  have hR : 2 ≤ (RM (2) 0 0).frames ∧ 40 * (2) ≤ (RM (2) 0 0).locals := ⟨Nat.le_refl _, Nat.le_refl _⟩
  have hB : 0 ≤ (RM (2) 0 0).cells ∧ 0 ≤ (RM (2) 0 0).slots := ⟨Nat.zero_le _, Nat.zero_le _⟩
  unfold f_X11_come at hf
  refine lv_aload_n C.x C.b dX11_come_0 rfl (lv_at hl 0 rfl) ?_
  refine lv_iload_n C.x C.b dX11_come_1 rfl (lv_at hl 1 rfl) ?_
  replace hf := bn2_s hf; obtain ⟨c2, m1, hkm1, hf⟩ := hf
  refine z_cV (As := [.int a1]) (rest := []) (st1 := [rf (ad 23) c2]) C Z mw_X11_lotOf mv_X11_lotOf k_512 (by decide) (z_hR hR (by decide)) (lvC0 Nat.zero_lt_one) kC0 zc11 (c_X11_lotOf (l := l) (K := K) (ad := ad) hkm1) rfl hl.1 rfl (Nat.le_of_ble_eq_true rfl) dX11_come_2 hB rfl (fun H locs Z => ?_)
  refine z_cstore_n (lv' := [(3, rf (ad 23) c2), (0, .ref (ad 0 0)), (1, .int a1), (2, .int a2)]) C dX11_come_5 rfl hl (by decide) rfl (onlast 2 rfl rfl rfl) (fun ls hl => ?_)
  refine z_aload_n C dX11_come_6 rfl (lv_at hl 0 rfl) ?_
  refine z_ifnonnull C dX11_come_7 (tgt := 12) (by decide) (fun hc3 => ?_) (fun hc3 => ?_)
  · replace hf := ite_f hf hc3
    refine lv_iload_n C.x C.b dX11_come_12 rfl (lv_at hl 3 rfl) ?_
    refine z_aload_n C dX11_come_13 rfl (lv_at hl 0 rfl) ?_
    replace hf := drf_s hf; obtain ⟨j4, ej6, hj5, hf⟩ := hf
    subst ej6
    refine z_nn [] (y := j4 + 1) rfl ?_
    refine z_get C Z (lvC23 hj5) kC23 zc4 zin4 5 (by decide) k_473 rfl svC23_5 dX11_come_14 ?_
    refine lv_icmp_lt (tgt := 28) C.x C.b dX11_come_17 (by decide) (fun hc7 => ?_) (fun hc7 => ?_)
    · replace hf := ite_t hf hc7
      refine lv_bipush (v := (-2)) C.x C.b dX11_come_28 (by decide) ?_
      obtain ⟨rfl, rfl⟩ := pr_s hf
      exact z_iret C Z dX11_come_30
    · replace hf := ite_f hf hc7
      refine lv_iload_n C.x C.b dX11_come_20 rfl (lv_at hl 3 rfl) ?_
      refine lv_aload_n C.x C.b dX11_come_21 rfl (lv_at hl 1 rfl) ?_
      refine z_get C Z (lvC0 Nat.zero_lt_one) kC0 zc11 zin11 0 (by decide) k_362 rfl svC0_0 dX11_come_22 ?_
      refine lv_icmp_le (tgt := 31) C.x C.b dX11_come_25 (by decide) (fun hc8 => ?_) (fun hc8 => ?_)
      · replace hf := ite_t hf hc8
        refine lv_aload_n C.x C.b dX11_come_31 rfl (lv_at hl 0 rfl) ?_
        replace hf := bn2_s hf; obtain ⟨v10, m9, hkm9, hf⟩ := hf
        refine z_cV (As := []) (rest := []) (st1 := [.int v10]) C Z mw_X4_isTold mv_X4_isTold k_516 (by decide) (z_hR hR (by decide)) (lvC23 hj5) kC23 zc4 (c_X4_isTold (l := l) (K := K) (ad := ad) hj5 hkm9) rfl hl.1 rfl (Nat.le_of_ble_eq_true rfl) dX11_come_32 hB rfl (fun H locs Z => ?_)
        refine lv_if_eq (tgt := 41) C.x C.b dX11_come_35 (by decide) (fun hc11 => ?_) (fun hc11 => ?_)
        · replace hf := ite_t hf hc11
          refine lv_aload_n C.x C.b dX11_come_41 rfl (lv_at hl 0 rfl) ?_
          refine lv_iload_n C.x C.b dX11_come_42 rfl (lv_at hl 3 rfl) ?_
          replace hf := asr_s hf; obtain ⟨hq12, hf⟩ := hf
          replace hf := lt1_s hf; obtain ⟨m13, em13, hf⟩ := hf
          refine z_put (M1 := m13) C Z (lvC23 hq12) (by decide) kC23 zc4 zin4 tyX4_ok nmX4 6 (by decide) k_475 rfl (zUp_I em13 stC23_6u) (Or.inl rfl) rfl rfl dX11_come_43 (fun H locs Z => ?_)
          refine lv_aload_n C.x C.b dX11_come_46 rfl (lv_at hl 0 rfl) ?_
          refine lv_aload_n C.x C.b dX11_come_47 rfl (lv_at hl 1 rfl) ?_
          refine z_get C Z (lvC0 Nat.zero_lt_one) kC0 zc11 zin11 0 (by decide) k_362 rfl svC0_0 dX11_come_48 ?_
          replace hf := lt1_s hf; obtain ⟨m14, em14, hf⟩ := hf
          refine z_put (M1 := m14) C Z (lvC23 (by rw [em13]; exact hq12)) (by decide) kC23 zc4 zin4 tyX4_ok nmX4 7 (by decide) k_477 rfl (zUp_I em14 stC23_7u) (Or.inl rfl) rfl rfl dX11_come_51 (fun H locs Z => ?_)
          refine lv_iconst (v := 1) C.x C.b dX11_come_54 (by decide) ?_
          obtain ⟨rfl, rfl⟩ := pr_s hf
          exact z_iret C Z dX11_come_55
        · replace hf := ite_f hf hc11
          refine lv_bipush (v := (-3)) C.x C.b dX11_come_38 (by decide) ?_
          obtain ⟨rfl, rfl⟩ := pr_s hf
          exact z_iret C Z dX11_come_40
      · replace hf := ite_f hf hc8
        refine lv_bipush (v := (-2)) C.x C.b dX11_come_28 (by decide) ?_
        obtain ⟨rfl, rfl⟩ := pr_s hf
        exact z_iret C Z dX11_come_30
  · replace hf := ite_t hf hc3
    refine lv_iconst (v := (-1)) C.x C.b dX11_come_10 (by decide) ?_
    obtain ⟨rfl, rfl⟩ := pr_s hf
    exact z_iret C Z dX11_come_11
theorem dX11_isBarred_0 : decode cX11_isBarred 0 = .ok (.aload_n 0, 1) := by decide +kernel
theorem dX11_isBarred_1 : decode cX11_isBarred 1 = .ok (.getfield 40, 3) := by decide +kernel
theorem dX11_isBarred_4 : decode cX11_isBarred 4 = .ok (.aload_n 1, 1) := by decide +kernel
theorem dX11_isBarred_5 : decode cX11_isBarred 5 = .ok (.getfield 141, 3) := by decide +kernel
theorem dX11_isBarred_8 : decode cX11_isBarred 8 = .ok (.aload_n 0, 1) := by decide +kernel
theorem dX11_isBarred_9 : decode cX11_isBarred 9 = .ok (.getfield 88, 3) := by decide +kernel
theorem dX11_isBarred_12 : decode cX11_isBarred 12 = .ok (.invokevirtual 229, 3) := by decide +kernel
theorem dX11_isBarred_15 : decode cX11_isBarred 15 = .ok (.ifCond .eq 5, 3) := by decide +kernel
theorem dX11_isBarred_18 : decode cX11_isBarred 18 = .ok (.iconst 1, 1) := by decide +kernel
theorem dX11_isBarred_19 : decode cX11_isBarred 19 = .ok (.ireturn, 1) := by decide +kernel
theorem dX11_isBarred_20 : decode cX11_isBarred 20 = .ok (.aload_n 0, 1) := by decide +kernel
theorem dX11_isBarred_21 : decode cX11_isBarred 21 = .ok (.getfield 20, 3) := by decide +kernel
theorem dX11_isBarred_24 : decode cX11_isBarred 24 = .ok (.astore_n 2, 1) := by decide +kernel
theorem dX11_isBarred_25 : decode cX11_isBarred 25 = .ok (.aload_n 2, 1) := by decide +kernel
theorem dX11_isBarred_26 : decode cX11_isBarred 26 = .ok (.arraylength, 1) := by decide +kernel
theorem dX11_isBarred_27 : decode cX11_isBarred 27 = .ok (.istore_n 3, 1) := by decide +kernel
theorem dX11_isBarred_28 : decode cX11_isBarred 28 = .ok (.iconst 0, 1) := by decide +kernel
theorem dX11_isBarred_29 : decode cX11_isBarred 29 = .ok (.istore 4, 2) := by decide +kernel
theorem dX11_isBarred_31 : decode cX11_isBarred 31 = .ok (.iload 4, 2) := by decide +kernel
theorem dX11_isBarred_33 : decode cX11_isBarred 33 = .ok (.iload_n 3, 1) := by decide +kernel
theorem dX11_isBarred_34 : decode cX11_isBarred 34 = .ok (.if_icmp .ge 39, 3) := by decide +kernel
theorem dX11_isBarred_37 : decode cX11_isBarred 37 = .ok (.aload_n 2, 1) := by decide +kernel
theorem dX11_isBarred_38 : decode cX11_isBarred 38 = .ok (.iload 4, 2) := by decide +kernel
theorem dX11_isBarred_40 : decode cX11_isBarred 40 = .ok (.aaload, 1) := by decide +kernel
theorem dX11_isBarred_41 : decode cX11_isBarred 41 = .ok (.astore 5, 2) := by decide +kernel
theorem dX11_isBarred_43 : decode cX11_isBarred 43 = .ok (.aload 5, 2) := by decide +kernel
theorem dX11_isBarred_45 : decode cX11_isBarred 45 = .ok (.ifnull 22, 3) := by decide +kernel
theorem dX11_isBarred_48 : decode cX11_isBarred 48 = .ok (.aload 5, 2) := by decide +kernel
theorem dX11_isBarred_50 : decode cX11_isBarred 50 = .ok (.getfield 162, 3) := by decide +kernel
theorem dX11_isBarred_53 : decode cX11_isBarred 53 = .ok (.ifCond .le 14, 3) := by decide +kernel
theorem dX11_isBarred_56 : decode cX11_isBarred 56 = .ok (.aload 5, 2) := by decide +kernel
theorem dX11_isBarred_58 : decode cX11_isBarred 58 = .ok (.aload_n 1, 1) := by decide +kernel
theorem dX11_isBarred_59 : decode cX11_isBarred 59 = .ok (.invokevirtual 447, 3) := by decide +kernel
theorem dX11_isBarred_62 : decode cX11_isBarred 62 = .ok (.ifCond .eq 5, 3) := by decide +kernel
theorem dX11_isBarred_65 : decode cX11_isBarred 65 = .ok (.iconst 1, 1) := by decide +kernel
theorem dX11_isBarred_66 : decode cX11_isBarred 66 = .ok (.ireturn, 1) := by decide +kernel
theorem dX11_isBarred_67 : decode cX11_isBarred 67 = .ok (.iinc 4 1, 3) := by decide +kernel
theorem dX11_isBarred_70 : decode cX11_isBarred 70 = .ok (.goto (-39), 3) := by decide +kernel
theorem dX11_isBarred_73 : decode cX11_isBarred 73 = .ok (.iconst 0, 1) := by decide +kernel
theorem dX11_isBarred_74 : decode cX11_isBarred 74 = .ok (.ireturn, 1) := by decide +kernel
set_option maxRecDepth 100000 in
set_option maxHeartbeats 4000000 in
theorem w_X11_isBarred_l31 {p : Program} {l : Launch} {e : Env} {R : Room} {s : State} {m : MethodId} {args : Array Value} {below : List Frame} {meth : Method} {c : Code} {cells slots : Nat} {Q : State → Prop} {K : KG} {ad : Nat → Nat → Nat} {fl : Nat} {g1 : Nat} {g3 : Int32} (C : Cx p s m args meth c cX11_isBarred 6 "GlassPalace" (some .boolean)) (hR : 5 ≤ R.frames ∧ 40 * (5) ≤ R.locals) (hB : cells ≤ R.cells ∧ slots ≤ R.slots) : ∀ (n : Nat) (u4 : Int32) (M0 : Mem) (H : Heap) (locs : List Loc) (ls : Array Slot), Zd K LC ad M0 s H locs → lv_has ls 6 [(1, rf (ad 23) g1), (2, .ref (ad 3 0)), (3, .int g3), (4, .int u4)] → ∀ (q : Nat) (Mq : Mem), f_X11_isBarred_l31 fl g1 g3 n u4 M0 = some (q, Mq) → (q = 0 → ∀ (H : Heap) (locs : List Loc) (ls : Array Slot), Zd K LC ad Mq s H locs → lv_has ls 6 [] → W p l e R s m args below meth c H locs cells slots Q (F0 m 65 ls [])) → (q = 1 → ∀ (H : Heap) (locs : List Loc) (ls : Array Slot), Zd K LC ad Mq s H locs → lv_has ls 6 [] → W p l e R s m args below meth c H locs cells slots Q (F0 m 73 ls [])) → W p l e R s m args below meth c H locs cells slots Q (F0 m 31 ls []) := by
  intro n
  induction n with
  | zero =>
    intro u4 M0 H locs ls Z hl q Mq hf
    have hf : (none : Option (Nat × Mem)) = some (q, Mq) := hf
    cases hf
  | succ n ih =>
    intro u4 M0 H locs ls Z hl q Mq hf kx0 kx1
    replace hf : f_X11_isBarred_l31_b (f_X11_isBarred_l31 fl g1 g3 n) fl g1 g3 u4 M0 = some (q, Mq) := hf
    unfold f_X11_isBarred_l31_b at hf
    refine lv_iload C.x C.b dX11_isBarred_31 (lv_at hl 3 rfl) ?_
    refine lv_iload_n C.x C.b dX11_isBarred_33 rfl (lv_at hl 2 rfl) ?_
    refine lv_icmp_ge (tgt := 73) C.x C.b dX11_isBarred_34 (by decide) (fun hc7 => ?_) (fun hc7 => ?_)
    · replace hf := ite_t hf hc7
      obtain ⟨rfl, rfl⟩ := pr_s hf
      exact kx1 rfl _ _ _ Z (lv_sub hl [] rfl)
    · replace hf := ite_f hf hc7
      refine lv_aload_n C.x C.b dX11_isBarred_37 rfl (lv_at hl 1 rfl) ?_
      refine lv_iload C.x C.b dX11_isBarred_38 (lv_at hl 3 rfl) ?_
      replace hf := asr_s hf; obtain ⟨hq8, hf⟩ := hf
      refine z_aald C Z (lvC3 Nat.zero_lt_one) kC3 3 rfl hq8 svC3 dX11_isBarred_40 ?_
      replace hf := lt1_s hf; obtain ⟨c9, ec9, hf⟩ := hf
      refine z_renC ec9 ?_
      refine z_cstore (lv' := [(5, rf (ad 23) c9), (1, rf (ad 23) g1), (2, .ref (ad 3 0)), (3, .int g3), (4, .int u4)]) C dX11_isBarred_41 hl (by decide) rfl (onlast 3 rfl rfl rfl) (fun ls hl => ?_)
      refine z_aload C dX11_isBarred_43 (lv_at hl 0 rfl) ?_
      refine z_ifnull C dX11_isBarred_45 (tgt := 67) (by decide) (fun hc10 => ?_) (fun hc10 => ?_)
      · replace hf := ite_t hf hc10
        replace hf := lt1_s hf; obtain ⟨x11, ex11, hf⟩ := hf
        refine z_iinc (v := x11) (lv' := [(4, .int x11), (5, rf (ad 23) c9), (1, rf (ad 23) g1), (2, .ref (ad 3 0)), (3, .int g3)]) C dX11_isBarred_67 hl (k := 4) rfl (by rw [ex11]; rfl) (by decide) rfl (onlast 3 rfl rfl rfl) (fun ls hl => ?_)
        refine lv_goto (tgt := 31) C.x C.b dX11_isBarred_70 (by decide) ?_
        exact ih _ _ _ _ _ Z (lv_sub hl [2, 3, 4, 0] rfl) _ _ hf kx0 kx1
      · replace hf := ite_f hf hc10
        refine z_aload C dX11_isBarred_48 (lv_at hl 0 rfl) ?_
        replace hf := drf_s hf; obtain ⟨j12, ej14, hj13, hf⟩ := hf
        subst ej14
        refine z_nn [] (y := j12 + 1) rfl ?_
        refine z_get C Z (lvC23 hj13) kC23 zc4 zin4 9 (by decide) k_482 rfl svC23_9 dX11_isBarred_50 ?_
        refine lv_if_le (tgt := 67) C.x C.b dX11_isBarred_53 (by decide) (fun hc15 => ?_) (fun hc15 => ?_)
        · replace hf := ite_t hf hc15
          replace hf := lt1_s hf; obtain ⟨x16, ex16, hf⟩ := hf
          refine z_iinc (v := x16) (lv' := [(4, .int x16), (5, .ref (ad 23 j12)), (1, rf (ad 23) g1), (2, .ref (ad 3 0)), (3, .int g3)]) C dX11_isBarred_67 hl (k := 4) rfl (by rw [ex16]; rfl) (by decide) rfl (onlast 3 rfl rfl rfl) (fun ls hl => ?_)
          refine lv_goto (tgt := 31) C.x C.b dX11_isBarred_70 (by decide) ?_
          exact ih _ _ _ _ _ Z (lv_sub hl [2, 3, 4, 0] rfl) _ _ hf kx0 kx1
        · replace hf := ite_f hf hc15
          refine lv_aload C.x C.b dX11_isBarred_56 (lv_at hl 0 rfl) ?_
          refine z_aload_n C dX11_isBarred_58 rfl (lv_at hl 1 rfl) ?_
          replace hf := bn2_s hf; obtain ⟨v18, m17, hkm17, hf⟩ := hf
          refine z_cV (As := [rf (ad 23) g1]) (rest := []) (st1 := [.int v18]) C Z mw_X4_isOrderedLike mv_X4_isOrderedLike k_567 (by decide) (z_hR hR (by decide)) (lvC23 hj13) kC23 zc4 (c_X4_isOrderedLike (l := l) (K := K) (ad := ad) hj13 hkm17) rfl hl.1 rfl (Nat.le_of_ble_eq_true rfl) dX11_isBarred_59 hB rfl (fun H locs Z => ?_)
          refine lv_if_eq (tgt := 67) C.x C.b dX11_isBarred_62 (by decide) (fun hc19 => ?_) (fun hc19 => ?_)
          · replace hf := ite_t hf hc19
            replace hf := lt1_s hf; obtain ⟨x20, ex20, hf⟩ := hf
            refine z_iinc (v := x20) (lv' := [(4, .int x20), (5, .ref (ad 23 j12)), (1, rf (ad 23) g1), (2, .ref (ad 3 0)), (3, .int g3)]) C dX11_isBarred_67 hl (k := 4) rfl (by rw [ex20]; rfl) (by decide) rfl (onlast 3 rfl rfl rfl) (fun ls hl => ?_)
            refine lv_goto (tgt := 31) C.x C.b dX11_isBarred_70 (by decide) ?_
            exact ih _ _ _ _ _ Z (lv_sub hl [2, 3, 4, 0] rfl) _ _ hf kx0 kx1
          · replace hf := ite_f hf hc19
            obtain ⟨rfl, rfl⟩ := pr_s hf
            exact kx0 rfl _ _ _ Z (lv_sub hl [] rfl)
set_option maxRecDepth 100000 in
set_option maxHeartbeats 4000000 in
theorem c_X11_isBarred {l : Launch} {K : KG} {ad : Nat → Nat → Nat} {fl : Nat} {a1 : Nat} {M0 : Mem} {r9 : Int32} {M9 : Mem} (hf : f_X11_isBarred fl a1 M0 = some (r9, M9)) : Met l yX11_isBarred (Cond.code yX11_isBarred cX11_isBarred 6 (some .boolean) :: ztb) (RM (5) 0 0) (zPc K LC ad M0 [.ref (ad 0 0), rf (ad 23) a1]) (zQ K LC ad (some (.int r9)) M9) 0 0 (zA ad) := by
  refine z_enter (by decide) (by simp [lg_sl, rf_cat, cat_i, cat_l, cat_r, cat_n]) ?_
  intro p e s m args below meth c ls C hin hargs Z hl
  replace C : Cx p s m args meth c cX11_isBarred 6 "GlassPalace" (some .boolean) := C
  replace hl : lv_has ls 6 [(0, .ref (ad 0 0)), (1, rf (ad 23) a1)] := by simpa [lv_args, rf_cat, cat_i, cat_l, cat_r, cat_n] using hl
  have hR : 5 ≤ (RM (5) 0 0).frames ∧ 40 * (5) ≤ (RM (5) 0 0).locals := ⟨Nat.le_refl _, Nat.le_refl _⟩
  have hB : 0 ≤ (RM (5) 0 0).cells ∧ 0 ≤ (RM (5) 0 0).slots := ⟨Nat.zero_le _, Nat.zero_le _⟩
  unfold f_X11_isBarred at hf
  refine lv_aload_n C.x C.b dX11_isBarred_0 rfl (lv_at hl 0 rfl) ?_
  refine z_get C Z (lvC0 Nat.zero_lt_one) kC0 zc11 zin11 7 (by decide) k_369 rfl svC0_7 dX11_isBarred_1 ?_
  refine z_aload_n C dX11_isBarred_4 rfl (lv_at hl 1 rfl) ?_
  replace hf := drf_s hf; obtain ⟨j1, ej3, hj2, hf⟩ := hf
  subst ej3
  refine z_nn [] (y := j1 + 1) rfl ?_
  refine z_get C Z (lvC23 hj2) kC23 zc4 zin4 2 (by decide) k_465 rfl svC23_2 dX11_isBarred_5 ?_
  refine lv_aload_n C.x C.b dX11_isBarred_8 rfl (lv_at hl 0 rfl) ?_
  refine z_get C Z (lvC0 Nat.zero_lt_one) kC0 zc11 zin11 0 (by decide) k_362 rfl svC0_0 dX11_isBarred_9 ?_
  replace hf := bn2_s hf; obtain ⟨v5, m4, hkm4, hf⟩ := hf
  refine z_cV (As := [.int (gI M0 23 j1 2), .int (gI M0 0 0 0)]) (rest := []) (st1 := [.int v5]) C Z mw_X3_bars mv_X3_bars k_533 (by decide) (z_hR hR (by decide)) (lvC6 Nat.zero_lt_one) kC6 zc3 (c_X3_bars (l := l) (K := K) (ad := ad) hkm4) rfl hl.1 rfl (Nat.le_of_ble_eq_true rfl) dX11_isBarred_12 hB rfl (fun H locs Z => ?_)
  refine lv_if_eq (tgt := 20) C.x C.b dX11_isBarred_15 (by decide) (fun hc6 => ?_) (fun hc6 => ?_)
  · replace hf := ite_t hf hc6
    refine lv_aload_n C.x C.b dX11_isBarred_20 rfl (lv_at hl 0 rfl) ?_
    refine z_get C Z (lvC0 Nat.zero_lt_one) kC0 zc11 zin11 3 (by decide) k_365 rfl svC0_3 dX11_isBarred_21 ?_
    refine z_rstore_n (lv' := [(2, .ref (ad 3 0)), (0, .ref (ad 0 0)), (1, .ref (ad 23 j1))]) C dX11_isBarred_24 rfl hl (by decide) rfl (onlast 1 rfl rfl rfl) (fun ls hl => ?_)
    refine lv_aload_n C.x C.b dX11_isBarred_25 rfl (lv_at hl 0 rfl) ?_
    refine z_alen C Z (lvC3 Nat.zero_lt_one) kC3 3 rfl (v := 60) (by decide) dX11_isBarred_26 ?_
    refine z_istore_n (lv' := [(3, .int 60), (2, .ref (ad 3 0)), (0, .ref (ad 0 0)), (1, .ref (ad 23 j1))]) C dX11_isBarred_27 rfl hl (by decide) rfl (onlast 0 rfl rfl rfl) (fun ls hl => ?_)
    refine lv_iconst (v := 0) C.x C.b dX11_isBarred_28 (by decide) ?_
    refine z_istore (lv' := [(4, .int 0), (3, .int 60), (2, .ref (ad 3 0)), (0, .ref (ad 0 0)), (1, .ref (ad 23 j1))]) C dX11_isBarred_29 hl (by decide) rfl (onlast 0 rfl rfl rfl) (fun ls hl => ?_)
    replace hf := bn2_s hf; obtain ⟨q21, m22, hq21, hf⟩ := hf
    refine w_X11_isBarred_l31 C hR hB  fl _ _ _ _ _ Z (lv_sub hl [4, 2, 1, 0] rfl) _ _ hq21 (fun ht H locs ls Z hl => ?_) (fun ht H locs ls Z hl => ?_)
    · replace hf := ite_t hf ht
      refine lv_iconst (v := 1) C.x C.b dX11_isBarred_65 (by decide) ?_
      obtain ⟨rfl, rfl⟩ := pr_s hf
      exact z_zret C Z rfl dX11_isBarred_66
    · replace hf := ite_f hf (by rw [ht]; decide)
      refine lv_iconst (v := 0) C.x C.b dX11_isBarred_73 (by decide) ?_
      obtain ⟨rfl, rfl⟩ := pr_s hf
      exact z_zret C Z rfl dX11_isBarred_74
  · replace hf := ite_f hf hc6
    refine lv_iconst (v := 1) C.x C.b dX11_isBarred_18 (by decide) ?_
    obtain ⟨rfl, rfl⟩ := pr_s hf
    exact z_zret C Z rfl dX11_isBarred_19
theorem dX11_of_0 : decode cX11_of 0 = .ok (.aload_n 0, 1) := by decide +kernel
theorem dX11_of_1 : decode cX11_of 1 = .ok (.iload_n 1, 1) := by decide +kernel
theorem dX11_of_2 : decode cX11_of 2 = .ok (.invokevirtual 122, 3) := by decide +kernel
theorem dX11_of_5 : decode cX11_of 5 = .ok (.astore_n 3, 1) := by decide +kernel
theorem dX11_of_6 : decode cX11_of 6 = .ok (.aload_n 3, 1) := by decide +kernel
theorem dX11_of_7 : decode cX11_of 7 = .ok (.ifnonnull 5, 3) := by decide +kernel
theorem dX11_of_10 : decode cX11_of 10 = .ok (.iconst (-1), 1) := by decide +kernel
theorem dX11_of_11 : decode cX11_of 11 = .ok (.ireturn, 1) := by decide +kernel
theorem dX11_of_12 : decode cX11_of 12 = .ok (.iload_n 2, 1) := by decide +kernel
theorem dX11_of_13 : decode cX11_of 13 = .ok (.tableswitch 118 0 8 #[51, 56, 61, 66, 71, 76, 81, 86, 100], 51) := by decide +kernel
theorem dX11_of_64 : decode cX11_of 64 = .ok (.aload_n 3, 1) := by decide +kernel
theorem dX11_of_65 : decode cX11_of 65 = .ok (.getfield 138, 3) := by decide +kernel
theorem dX11_of_68 : decode cX11_of 68 = .ok (.ireturn, 1) := by decide +kernel
theorem dX11_of_69 : decode cX11_of 69 = .ok (.aload_n 3, 1) := by decide +kernel
theorem dX11_of_70 : decode cX11_of 70 = .ok (.getfield 141, 3) := by decide +kernel
theorem dX11_of_73 : decode cX11_of 73 = .ok (.ireturn, 1) := by decide +kernel
theorem dX11_of_74 : decode cX11_of 74 = .ok (.aload_n 3, 1) := by decide +kernel
theorem dX11_of_75 : decode cX11_of 75 = .ok (.getfield 144, 3) := by decide +kernel
theorem dX11_of_78 : decode cX11_of 78 = .ok (.ireturn, 1) := by decide +kernel
theorem dX11_of_79 : decode cX11_of 79 = .ok (.aload_n 3, 1) := by decide +kernel
theorem dX11_of_80 : decode cX11_of 80 = .ok (.getfield 147, 3) := by decide +kernel
theorem dX11_of_83 : decode cX11_of 83 = .ok (.ireturn, 1) := by decide +kernel
theorem dX11_of_84 : decode cX11_of 84 = .ok (.aload_n 3, 1) := by decide +kernel
theorem dX11_of_85 : decode cX11_of 85 = .ok (.getfield 126, 3) := by decide +kernel
theorem dX11_of_88 : decode cX11_of 88 = .ok (.ireturn, 1) := by decide +kernel
theorem dX11_of_89 : decode cX11_of 89 = .ok (.aload_n 3, 1) := by decide +kernel
theorem dX11_of_90 : decode cX11_of 90 = .ok (.getfield 132, 3) := by decide +kernel
theorem dX11_of_93 : decode cX11_of 93 = .ok (.ireturn, 1) := by decide +kernel
theorem dX11_of_94 : decode cX11_of 94 = .ok (.aload_n 3, 1) := by decide +kernel
theorem dX11_of_95 : decode cX11_of 95 = .ok (.invokevirtual 150, 3) := by decide +kernel
theorem dX11_of_98 : decode cX11_of 98 = .ok (.ireturn, 1) := by decide +kernel
theorem dX11_of_99 : decode cX11_of 99 = .ok (.aload_n 0, 1) := by decide +kernel
theorem dX11_of_100 : decode cX11_of 100 = .ok (.aload_n 3, 1) := by decide +kernel
theorem dX11_of_101 : decode cX11_of 101 = .ok (.invokevirtual 154, 3) := by decide +kernel
theorem dX11_of_104 : decode cX11_of 104 = .ok (.ifCond .eq 7, 3) := by decide +kernel
theorem dX11_of_107 : decode cX11_of 107 = .ok (.iconst 1, 1) := by decide +kernel
theorem dX11_of_108 : decode cX11_of 108 = .ok (.goto 4, 3) := by decide +kernel
theorem dX11_of_111 : decode cX11_of 111 = .ok (.iconst 0, 1) := by decide +kernel
theorem dX11_of_112 : decode cX11_of 112 = .ok (.ireturn, 1) := by decide +kernel
theorem dX11_of_113 : decode cX11_of 113 = .ok (.aload_n 3, 1) := by decide +kernel
theorem dX11_of_114 : decode cX11_of 114 = .ok (.getfield 144, 3) := by decide +kernel
theorem dX11_of_117 : decode cX11_of 117 = .ok (.aload_n 0, 1) := by decide +kernel
theorem dX11_of_118 : decode cX11_of 118 = .ok (.getfield 40, 3) := by decide +kernel
theorem dX11_of_121 : decode cX11_of 121 = .ok (.iconst 1, 1) := by decide +kernel
theorem dX11_of_122 : decode cX11_of 122 = .ok (.aload_n 3, 1) := by decide +kernel
theorem dX11_of_123 : decode cX11_of 123 = .ok (.getfield 126, 3) := by decide +kernel
theorem dX11_of_126 : decode cX11_of 126 = .ok (.invokevirtual 158, 3) := by decide +kernel
theorem dX11_of_129 : decode cX11_of 129 = .ok (.imul, 1) := by decide +kernel
theorem dX11_of_130 : decode cX11_of 130 = .ok (.ireturn, 1) := by decide +kernel
theorem dX11_of_131 : decode cX11_of 131 = .ok (.iconst (-1), 1) := by decide +kernel
theorem dX11_of_132 : decode cX11_of 132 = .ok (.ireturn, 1) := by decide +kernel
set_option maxRecDepth 100000 in
set_option maxHeartbeats 4000000 in
theorem c_X11_of {l : Launch} {K : KG} {ad : Nat → Nat → Nat} {fl : Nat} {a1 : Int32} {a2 : Int32} {M0 : Mem} {r9 : Int32} {M9 : Mem} (hf : f_X11_of fl a1 a2 M0 = some (r9, M9)) : Met l yX11_of (Cond.code yX11_of cX11_of 4 (some .int) :: ztb) (RM (6) 0 0) (zPc K LC ad M0 [.ref (ad 0 0), .int a1, .int a2]) (zQ K LC ad (some (.int r9)) M9) 0 0 (zA ad) := by
  refine z_enter (by decide) (Nat.le_of_ble_eq_true rfl) ?_
  intro p e s m args below meth c ls C hin hargs Z hl
  replace C : Cx p s m args meth c cX11_of 4 "GlassPalace" (some .int) := C
  replace hl : lv_has ls 4 [(0, .ref (ad 0 0)), (1, .int a1), (2, .int a2)] := hl
  have hR : 6 ≤ (RM (6) 0 0).frames ∧ 40 * (6) ≤ (RM (6) 0 0).locals := ⟨Nat.le_refl _, Nat.le_refl _⟩
  have hB : 0 ≤ (RM (6) 0 0).cells ∧ 0 ≤ (RM (6) 0 0).slots := ⟨Nat.zero_le _, Nat.zero_le _⟩
  unfold f_X11_of at hf
  refine lv_aload_n C.x C.b dX11_of_0 rfl (lv_at hl 0 rfl) ?_
  refine lv_iload_n C.x C.b dX11_of_1 rfl (lv_at hl 1 rfl) ?_
  replace hf := bn2_s hf; obtain ⟨c2, m1, hkm1, hf⟩ := hf
  refine z_cV (As := [.int a1]) (rest := []) (st1 := [rf (ad 23) c2]) C Z mw_X11_lotOf mv_X11_lotOf k_512 (by decide) (z_hR hR (by decide)) (lvC0 Nat.zero_lt_one) kC0 zc11 (c_X11_lotOf (l := l) (K := K) (ad := ad) hkm1) rfl hl.1 rfl (Nat.le_of_ble_eq_true rfl) dX11_of_2 hB rfl (fun H locs Z => ?_)
  refine z_cstore_n (lv' := [(3, rf (ad 23) c2), (0, .ref (ad 0 0)), (1, .int a1), (2, .int a2)]) C dX11_of_5 rfl hl (by decide) rfl (onlast 2 rfl rfl rfl) (fun ls hl => ?_)
  refine z_aload_n C dX11_of_6 rfl (lv_at hl 0 rfl) ?_
  refine z_ifnonnull C dX11_of_7 (tgt := 12) (by decide) (fun hc3 => ?_) (fun hc3 => ?_)
  · replace hf := ite_f hf hc3
    refine lv_iload_n C.x C.b dX11_of_12 rfl (lv_at hl 3 rfl) ?_
    by_cases hx4 : a2 = 0
    · replace hf := ite_t hf hx4
      refine lv_tableIn (tgt := 64) C.x C.b dX11_of_13 (by rw [hx4]; decide) (by rw [hx4]; decide) (by rw [hx4]; rfl) (by decide) ?_
      refine z_aload_n C dX11_of_64 rfl (lv_at hl 0 rfl) ?_
      replace hf := drf_s hf; obtain ⟨j5, ej7, hj6, hf⟩ := hf
      subst ej7
      refine z_nn [] (y := j5 + 1) rfl ?_
      refine z_get C Z (lvC23 hj6) kC23 zc4 zin4 1 (by decide) k_462 rfl svC23_1 dX11_of_65 ?_
      obtain ⟨rfl, rfl⟩ := pr_s hf
      exact z_iret C Z dX11_of_68
    replace hf := ite_f hf hx4
    by_cases hx8 : a2 = 1
    · replace hf := ite_t hf hx8
      refine lv_tableIn (tgt := 69) C.x C.b dX11_of_13 (by rw [hx8]; decide) (by rw [hx8]; decide) (by rw [hx8]; rfl) (by decide) ?_
      refine z_aload_n C dX11_of_69 rfl (lv_at hl 0 rfl) ?_
      replace hf := drf_s hf; obtain ⟨j9, ej11, hj10, hf⟩ := hf
      subst ej11
      refine z_nn [] (y := j9 + 1) rfl ?_
      refine z_get C Z (lvC23 hj10) kC23 zc4 zin4 2 (by decide) k_465 rfl svC23_2 dX11_of_70 ?_
      obtain ⟨rfl, rfl⟩ := pr_s hf
      exact z_iret C Z dX11_of_73
    replace hf := ite_f hf hx8
    by_cases hx12 : a2 = 2
    · replace hf := ite_t hf hx12
      refine lv_tableIn (tgt := 74) C.x C.b dX11_of_13 (by rw [hx12]; decide) (by rw [hx12]; decide) (by rw [hx12]; rfl) (by decide) ?_
      refine z_aload_n C dX11_of_74 rfl (lv_at hl 0 rfl) ?_
      replace hf := drf_s hf; obtain ⟨j13, ej15, hj14, hf⟩ := hf
      subst ej15
      refine z_nn [] (y := j13 + 1) rfl ?_
      refine z_get C Z (lvC23 hj14) kC23 zc4 zin4 3 (by decide) k_467 rfl svC23_3 dX11_of_75 ?_
      obtain ⟨rfl, rfl⟩ := pr_s hf
      exact z_iret C Z dX11_of_78
    replace hf := ite_f hf hx12
    by_cases hx16 : a2 = 3
    · replace hf := ite_t hf hx16
      refine lv_tableIn (tgt := 79) C.x C.b dX11_of_13 (by rw [hx16]; decide) (by rw [hx16]; decide) (by rw [hx16]; rfl) (by decide) ?_
      refine z_aload_n C dX11_of_79 rfl (lv_at hl 0 rfl) ?_
      replace hf := drf_s hf; obtain ⟨j17, ej19, hj18, hf⟩ := hf
      subst ej19
      refine z_nn [] (y := j17 + 1) rfl ?_
      refine z_get C Z (lvC23 hj18) kC23 zc4 zin4 4 (by decide) k_471 rfl svC23_4 dX11_of_80 ?_
      obtain ⟨rfl, rfl⟩ := pr_s hf
      exact z_iret C Z dX11_of_83
    replace hf := ite_f hf hx16
    by_cases hx20 : a2 = 4
    · replace hf := ite_t hf hx20
      refine lv_tableIn (tgt := 84) C.x C.b dX11_of_13 (by rw [hx20]; decide) (by rw [hx20]; decide) (by rw [hx20]; rfl) (by decide) ?_
      refine z_aload_n C dX11_of_84 rfl (lv_at hl 0 rfl) ?_
      replace hf := drf_s hf; obtain ⟨j21, ej23, hj22, hf⟩ := hf
      subst ej23
      refine z_nn [] (y := j21 + 1) rfl ?_
      refine z_get C Z (lvC23 hj22) kC23 zc4 zin4 5 (by decide) k_473 rfl svC23_5 dX11_of_85 ?_
      obtain ⟨rfl, rfl⟩ := pr_s hf
      exact z_iret C Z dX11_of_88
    replace hf := ite_f hf hx20
    by_cases hx24 : a2 = 5
    · replace hf := ite_t hf hx24
      refine lv_tableIn (tgt := 89) C.x C.b dX11_of_13 (by rw [hx24]; decide) (by rw [hx24]; decide) (by rw [hx24]; rfl) (by decide) ?_
      refine z_aload_n C dX11_of_89 rfl (lv_at hl 0 rfl) ?_
      replace hf := drf_s hf; obtain ⟨j25, ej27, hj26, hf⟩ := hf
      subst ej27
      refine z_nn [] (y := j25 + 1) rfl ?_
      refine z_get C Z (lvC23 hj26) kC23 zc4 zin4 6 (by decide) k_475 rfl svC23_6 dX11_of_90 ?_
      obtain ⟨rfl, rfl⟩ := pr_s hf
      exact z_iret C Z dX11_of_93
    replace hf := ite_f hf hx24
    by_cases hx28 : a2 = 6
    · replace hf := ite_t hf hx28
      refine lv_tableIn (tgt := 94) C.x C.b dX11_of_13 (by rw [hx28]; decide) (by rw [hx28]; decide) (by rw [hx28]; rfl) (by decide) ?_
      refine z_aload_n C dX11_of_94 rfl (lv_at hl 0 rfl) ?_
      replace hf := drf_s hf; obtain ⟨j29, ej31, hj30, hf⟩ := hf
      subst ej31
      refine z_nn [] (y := j29 + 1) rfl ?_
      replace hf := bn2_s hf; obtain ⟨v33, m32, hkm32, hf⟩ := hf
      refine z_cV (As := []) (rest := []) (st1 := [.int v33]) C Z mw_X4_stock mv_X4_stock k_524 (by decide) (z_hR hR (by decide)) (lvC23 hj30) kC23 zc4 (c_X4_stock (l := l) (K := K) (ad := ad) hj30 hkm32) rfl hl.1 rfl (Nat.le_of_ble_eq_true rfl) dX11_of_95 hB rfl (fun H locs Z => ?_)
      obtain ⟨rfl, rfl⟩ := pr_s hf
      exact z_iret C Z dX11_of_98
    replace hf := ite_f hf hx28
    by_cases hx34 : a2 = 7
    · replace hf := ite_t hf hx34
      refine lv_tableIn (tgt := 99) C.x C.b dX11_of_13 (by rw [hx34]; decide) (by rw [hx34]; decide) (by rw [hx34]; rfl) (by decide) ?_
      refine lv_aload_n C.x C.b dX11_of_99 rfl (lv_at hl 1 rfl) ?_
      refine z_aload_n C dX11_of_100 rfl (lv_at hl 0 rfl) ?_
      replace hf := bn2_s hf; obtain ⟨v36, m35, hkm35, hf⟩ := hf
      refine z_cV (As := [rf (ad 23) c2]) (rest := []) (st1 := [.int v36]) C Z mw_X11_isBarred mv_X11_isBarred k_529 (by decide) (z_hR hR (by decide)) (lvC0 Nat.zero_lt_one) kC0 zc11 (c_X11_isBarred (l := l) (K := K) (ad := ad) hkm35) rfl hl.1 rfl (Nat.le_of_ble_eq_true rfl) dX11_of_101 hB rfl (fun H locs Z => ?_)
      refine lv_if_eq (tgt := 111) C.x C.b dX11_of_104 (by decide) (fun hc37 => ?_) (fun hc37 => ?_)
      · replace hf := ite_t hf hc37
        refine lv_iconst (v := 0) C.x C.b dX11_of_111 (by decide) ?_
        obtain ⟨rfl, rfl⟩ := pr_s hf
        exact z_iret C Z dX11_of_112
      · replace hf := ite_f hf hc37
        refine lv_iconst (v := 1) C.x C.b dX11_of_107 (by decide) ?_
        refine lv_goto (tgt := 112) C.x C.b dX11_of_108 (by decide) ?_
        obtain ⟨rfl, rfl⟩ := pr_s hf
        exact z_iret C Z dX11_of_112
    replace hf := ite_f hf hx34
    by_cases hx38 : a2 = 8
    · replace hf := ite_t hf hx38
      refine lv_tableIn (tgt := 113) C.x C.b dX11_of_13 (by rw [hx38]; decide) (by rw [hx38]; decide) (by rw [hx38]; rfl) (by decide) ?_
      refine z_aload_n C dX11_of_113 rfl (lv_at hl 0 rfl) ?_
      replace hf := drf_s hf; obtain ⟨j39, ej41, hj40, hf⟩ := hf
      subst ej41
      refine z_nn [] (y := j39 + 1) rfl ?_
      refine z_get C Z (lvC23 hj40) kC23 zc4 zin4 3 (by decide) k_467 rfl svC23_3 dX11_of_114 ?_
      refine lv_aload_n C.x C.b dX11_of_117 rfl (lv_at hl 1 rfl) ?_
      refine z_get C Z (lvC0 Nat.zero_lt_one) kC0 zc11 zin11 7 (by decide) k_369 rfl svC0_7 dX11_of_118 ?_
      refine lv_iconst (v := 1) C.x C.b dX11_of_121 (by decide) ?_
      refine lv_aload_n C.x C.b dX11_of_122 rfl (lv_at hl 0 rfl) ?_
      refine z_get C Z (lvC23 hj40) kC23 zc4 zin4 5 (by decide) k_473 rfl svC23_5 dX11_of_123 ?_
      replace hf := bn2_s hf; obtain ⟨v43, m42, hkm42, hf⟩ := hf
      refine z_cV (As := [.int 1, .int (gI m1 23 j39 5)]) (rest := [.int (gI m1 23 j39 3)]) (st1 := [.int v43, .int (gI m1 23 j39 3)]) C Z mw_X3_numberFor mv_X3_numberFor k_571 (by decide) (z_hR hR (by decide)) (lvC6 Nat.zero_lt_one) kC6 zc3 (c_X3_numberFor (l := l) (K := K) (ad := ad) hkm42) rfl hl.1 rfl (Nat.le_of_ble_eq_true rfl) dX11_of_126 hB rfl (fun H locs Z => ?_)
      refine lv_imul C.x C.b dX11_of_129 ?_
      obtain ⟨rfl, rfl⟩ := pr_s hf
      exact z_iret C Z dX11_of_130
    replace hf := ite_f hf hx38
    refine lv_tableOut (tgt := 131) C.x C.b dX11_of_13 (tab_out (fun k h1 h2 => by rcases (show k = 0 ∨ k = 1 ∨ k = 2 ∨ k = 3 ∨ k = 4 ∨ k = 5 ∨ k = 6 ∨ k = 7 ∨ k = 8 by omega) with rfl | rfl | rfl | rfl | rfl | rfl | rfl | rfl | rfl <;> assumption)) (by decide) ?_
    refine lv_iconst (v := (-1)) C.x C.b dX11_of_131 (by decide) ?_
    obtain ⟨rfl, rfl⟩ := pr_s hf
    exact z_iret C Z dX11_of_132
  · replace hf := ite_t hf hc3
    refine lv_iconst (v := (-1)) C.x C.b dX11_of_10 (by decide) ?_
    obtain ⟨rfl, rfl⟩ := pr_s hf
    exact z_iret C Z dX11_of_11
theorem dX11_tried_0 : decode cX11_tried 0 = .ok (.aload_n 0, 1) := by decide +kernel
theorem dX11_tried_1 : decode cX11_tried 1 = .ok (.iload_n 1, 1) := by decide +kernel
theorem dX11_tried_2 : decode cX11_tried 2 = .ok (.invokevirtual 122, 3) := by decide +kernel
theorem dX11_tried_5 : decode cX11_tried 5 = .ok (.astore_n 3, 1) := by decide +kernel
theorem dX11_tried_6 : decode cX11_tried 6 = .ok (.aload_n 3, 1) := by decide +kernel
theorem dX11_tried_7 : decode cX11_tried 7 = .ok (.ifnonnull 5, 3) := by decide +kernel
theorem dX11_tried_10 : decode cX11_tried 10 = .ok (.iconst (-1), 1) := by decide +kernel
theorem dX11_tried_11 : decode cX11_tried 11 = .ok (.ireturn, 1) := by decide +kernel
theorem dX11_tried_12 : decode cX11_tried 12 = .ok (.iload_n 2, 1) := by decide +kernel
theorem dX11_tried_13 : decode cX11_tried 13 = .ok (.ifCond .lt 10, 3) := by decide +kernel
theorem dX11_tried_16 : decode cX11_tried 16 = .ok (.iload_n 2, 1) := by decide +kernel
theorem dX11_tried_17 : decode cX11_tried 17 = .ok (.sipush 2000, 3) := by decide +kernel
theorem dX11_tried_20 : decode cX11_tried 20 = .ok (.if_icmp .le 6, 3) := by decide +kernel
theorem dX11_tried_23 : decode cX11_tried 23 = .ok (.bipush (-2), 2) := by decide +kernel
theorem dX11_tried_25 : decode cX11_tried 25 = .ok (.ireturn, 1) := by decide +kernel
theorem dX11_tried_26 : decode cX11_tried 26 = .ok (.aload_n 3, 1) := by decide +kernel
theorem dX11_tried_27 : decode cX11_tried 27 = .ok (.invokevirtual 150, 3) := by decide +kernel
theorem dX11_tried_30 : decode cX11_tried 30 = .ok (.iconst 1, 1) := by decide +kernel
theorem dX11_tried_31 : decode cX11_tried 31 = .ok (.if_icmp .ge 6, 3) := by decide +kernel
theorem dX11_tried_34 : decode cX11_tried 34 = .ok (.bipush (-3), 2) := by decide +kernel
theorem dX11_tried_36 : decode cX11_tried 36 = .ok (.ireturn, 1) := by decide +kernel
theorem dX11_tried_37 : decode cX11_tried 37 = .ok (.iload_n 2, 1) := by decide +kernel
theorem dX11_tried_38 : decode cX11_tried 38 = .ok (.aload_n 3, 1) := by decide +kernel
theorem dX11_tried_39 : decode cX11_tried 39 = .ok (.getfield 138, 3) := by decide +kernel
theorem dX11_tried_42 : decode cX11_tried 42 = .ok (.iconst 2, 1) := by decide +kernel
theorem dX11_tried_43 : decode cX11_tried 43 = .ok (.if_icmp .ne 10, 3) := by decide +kernel
theorem dX11_tried_46 : decode cX11_tried 46 = .ok (.aload_n 3, 1) := by decide +kernel
theorem dX11_tried_47 : decode cX11_tried 47 = .ok (.getfield 147, 3) := by decide +kernel
theorem dX11_tried_50 : decode cX11_tried 50 = .ok (.goto 5, 3) := by decide +kernel
theorem dX11_tried_53 : decode cX11_tried 53 = .ok (.bipush 100, 2) := by decide +kernel
theorem dX11_tried_55 : decode cX11_tried 55 = .ok (.if_icmp .gt 5, 3) := by decide +kernel
theorem dX11_tried_58 : decode cX11_tried 58 = .ok (.iconst 1, 1) := by decide +kernel
theorem dX11_tried_59 : decode cX11_tried 59 = .ok (.ireturn, 1) := by decide +kernel
theorem dX11_tried_60 : decode cX11_tried 60 = .ok (.aload_n 3, 1) := by decide +kernel
theorem dX11_tried_61 : decode cX11_tried 61 = .ok (.dup, 1) := by decide +kernel
theorem dX11_tried_62 : decode cX11_tried 62 = .ok (.getfield 162, 3) := by decide +kernel
theorem dX11_tried_65 : decode cX11_tried 65 = .ok (.iconst 1, 1) := by decide +kernel
theorem dX11_tried_66 : decode cX11_tried 66 = .ok (.iadd, 1) := by decide +kernel
theorem dX11_tried_67 : decode cX11_tried 67 = .ok (.putfield 162, 3) := by decide +kernel
theorem dX11_tried_70 : decode cX11_tried 70 = .ok (.iconst 0, 1) := by decide +kernel
theorem dX11_tried_71 : decode cX11_tried 71 = .ok (.ireturn, 1) := by decide +kernel
set_option maxRecDepth 100000 in
set_option maxHeartbeats 4000000 in
theorem w_X11_tried_b55 {p : Program} {l : Launch} {e : Env} {s : State} {m : MethodId} {args : Array Value} {below : List Frame} {meth : Method} {c : Code} {K : KG} {ad : Nat → Nat → Nat} {fl : Nat} {H : Heap} {locs : List Loc} {ls : Array Slot} {g3 : Nat} {z0 : Int32} {z1 : Int32} {M0 : Mem} {r9 : Int32} {M9 : Mem} (C : Cx p s m args meth c cX11_tried 4 "GlassPalace" (some .int)) (hR : 3 ≤ (RM (3) 0 0).frames ∧ 40 * (3) ≤ (RM (3) 0 0).locals) (hB : 0 ≤ (RM (3) 0 0).cells ∧ 0 ≤ (RM (3) 0 0).slots) (Z : Zd K LC ad M0 s H locs) (hl : lv_has ls 4 [(3, rf (ad 23) g3)]) (hf : f_X11_tried_b55 fl g3 z0 z1 M0 = some (r9, M9)) : W p l e (RM (3) 0 0) s m args below meth c H locs 0 0 (MQ below (zQ K LC ad (some (.int r9)) M9) args s 0 0 (zA ad)) (F0 m 55 ls [.int z1, .int z0]) := by
  unfold f_X11_tried_b55 at hf
  refine lv_icmp_gt (tgt := 60) C.x C.b dX11_tried_55 (by decide) (fun hc15 => ?_) (fun hc15 => ?_)
  · replace hf := ite_t hf hc15
    refine z_aload_n C dX11_tried_60 rfl (lv_at hl 0 rfl) ?_
    refine lv_dup C.x C.b dX11_tried_61 (rf_cat _ _) ?_
    replace hf := drf_s hf; obtain ⟨j16, ej18, hj17, hf⟩ := hf
    subst ej18
    refine z_nn [] (y := j16 + 1) rfl ?_
    refine z_get C Z (lvC23 hj17) kC23 zc4 zin4 9 (by decide) k_482 rfl svC23_9 dX11_tried_62 ?_
    refine lv_iconst (v := 1) C.x C.b dX11_tried_65 (by decide) ?_
    refine lv_iadd C.x C.b dX11_tried_66 ?_
    replace hf := lt1_s hf; obtain ⟨m19, em19, hf⟩ := hf
    refine z_put (M1 := m19) C Z (lvC23 hj17) (by decide) kC23 zc4 zin4 tyX4_ok nmX4 9 (by decide) k_482 rfl (zUp_I em19 stC23_9u) (Or.inl rfl) rfl rfl dX11_tried_67 (fun H locs Z => ?_)
    refine lv_iconst (v := 0) C.x C.b dX11_tried_70 (by decide) ?_
    obtain ⟨rfl, rfl⟩ := pr_s hf
    exact z_iret C Z dX11_tried_71
  · replace hf := ite_f hf hc15
    refine lv_iconst (v := 1) C.x C.b dX11_tried_58 (by decide) ?_
    obtain ⟨rfl, rfl⟩ := pr_s hf
    exact z_iret C Z dX11_tried_59
set_option maxRecDepth 100000 in
set_option maxHeartbeats 4000000 in
theorem c_X11_tried {l : Launch} {K : KG} {ad : Nat → Nat → Nat} {fl : Nat} {a1 : Int32} {a2 : Int32} {M0 : Mem} {r9 : Int32} {M9 : Mem} (hf : f_X11_tried fl a1 a2 M0 = some (r9, M9)) : Met l yX11_tried (Cond.code yX11_tried cX11_tried 4 (some .int) :: ztb) (RM (3) 0 0) (zPc K LC ad M0 [.ref (ad 0 0), .int a1, .int a2]) (zQ K LC ad (some (.int r9)) M9) 0 0 (zA ad) := by
  refine z_enter (by decide) (Nat.le_of_ble_eq_true rfl) ?_
  intro p e s m args below meth c ls C hin hargs Z hl
  replace C : Cx p s m args meth c cX11_tried 4 "GlassPalace" (some .int) := C
  replace hl : lv_has ls 4 [(0, .ref (ad 0 0)), (1, .int a1), (2, .int a2)] := hl
  have hR : 3 ≤ (RM (3) 0 0).frames ∧ 40 * (3) ≤ (RM (3) 0 0).locals := ⟨Nat.le_refl _, Nat.le_refl _⟩
  have hB : 0 ≤ (RM (3) 0 0).cells ∧ 0 ≤ (RM (3) 0 0).slots := ⟨Nat.zero_le _, Nat.zero_le _⟩
  unfold f_X11_tried at hf
  refine lv_aload_n C.x C.b dX11_tried_0 rfl (lv_at hl 0 rfl) ?_
  refine lv_iload_n C.x C.b dX11_tried_1 rfl (lv_at hl 1 rfl) ?_
  replace hf := bn2_s hf; obtain ⟨c2, m1, hkm1, hf⟩ := hf
  refine z_cV (As := [.int a1]) (rest := []) (st1 := [rf (ad 23) c2]) C Z mw_X11_lotOf mv_X11_lotOf k_512 (by decide) (z_hR hR (by decide)) (lvC0 Nat.zero_lt_one) kC0 zc11 (c_X11_lotOf (l := l) (K := K) (ad := ad) hkm1) rfl hl.1 rfl (Nat.le_of_ble_eq_true rfl) dX11_tried_2 hB rfl (fun H locs Z => ?_)
  refine z_cstore_n (lv' := [(3, rf (ad 23) c2), (0, .ref (ad 0 0)), (1, .int a1), (2, .int a2)]) C dX11_tried_5 rfl hl (by decide) rfl (onlast 2 rfl rfl rfl) (fun ls hl => ?_)
  refine z_aload_n C dX11_tried_6 rfl (lv_at hl 0 rfl) ?_
  refine z_ifnonnull C dX11_tried_7 (tgt := 12) (by decide) (fun hc3 => ?_) (fun hc3 => ?_)
  · replace hf := ite_f hf hc3
    refine lv_iload_n C.x C.b dX11_tried_12 rfl (lv_at hl 3 rfl) ?_
    refine lv_if_lt (tgt := 23) C.x C.b dX11_tried_13 (by decide) (fun hc4 => ?_) (fun hc4 => ?_)
    · replace hf := ite_t hf hc4
      refine lv_bipush (v := (-2)) C.x C.b dX11_tried_23 (by decide) ?_
      obtain ⟨rfl, rfl⟩ := pr_s hf
      exact z_iret C Z dX11_tried_25
    · replace hf := ite_f hf hc4
      refine lv_iload_n C.x C.b dX11_tried_16 rfl (lv_at hl 3 rfl) ?_
      refine lv_sipush (v := 2000) C.x C.b dX11_tried_17 (by decide) ?_
      refine lv_icmp_le (tgt := 26) C.x C.b dX11_tried_20 (by decide) (fun hc5 => ?_) (fun hc5 => ?_)
      · replace hf := ite_t hf hc5
        refine z_aload_n C dX11_tried_26 rfl (lv_at hl 0 rfl) ?_
        replace hf := drf_s hf; obtain ⟨j6, ej8, hj7, hf⟩ := hf
        subst ej8
        refine z_nn [] (y := j6 + 1) rfl ?_
        replace hf := bn2_s hf; obtain ⟨v10, m9, hkm9, hf⟩ := hf
        refine z_cV (As := []) (rest := []) (st1 := [.int v10]) C Z mw_X4_stock mv_X4_stock k_524 (by decide) (z_hR hR (by decide)) (lvC23 hj7) kC23 zc4 (c_X4_stock (l := l) (K := K) (ad := ad) hj7 hkm9) rfl hl.1 rfl (Nat.le_of_ble_eq_true rfl) dX11_tried_27 hB rfl (fun H locs Z => ?_)
        refine lv_iconst (v := 1) C.x C.b dX11_tried_30 (by decide) ?_
        refine lv_icmp_ge (tgt := 37) C.x C.b dX11_tried_31 (by decide) (fun hc11 => ?_) (fun hc11 => ?_)
        · replace hf := ite_t hf hc11
          refine lv_iload_n C.x C.b dX11_tried_37 rfl (lv_at hl 3 rfl) ?_
          refine lv_aload_n C.x C.b dX11_tried_38 rfl (lv_at hl 0 rfl) ?_
          replace hf := asr_s hf; obtain ⟨hq12, hf⟩ := hf
          refine z_get C Z (lvC23 hq12) kC23 zc4 zin4 1 (by decide) k_462 rfl svC23_1 dX11_tried_39 ?_
          refine lv_iconst (v := 2) C.x C.b dX11_tried_42 (by decide) ?_
          replace hf := bn2_s hf; obtain ⟨q13, m14, hq13, hf⟩ := hf
          have kq13 : ∀ (H : Heap) (locs : List Loc) (ls : Array Slot), Zd K LC ad m14 s H locs → lv_has ls 4 [(3, .ref (ad 23 j6))] → W p l e (RM (3) 0 0) s m args below meth c H locs 0 0 (MQ below (zQ K LC ad (some (.int r9)) M9) args s 0 0 (zA ad)) (F0 m 55 ls [.int q13, .int a2]) := by
            intro H locs ls Z hl
            exact w_X11_tried_b55 C hR hB  Z (lv_sub hl [0] rfl) hf
          clear hf
          refine lv_icmp_ne (tgt := 53) C.x C.b dX11_tried_43 (by decide) (fun hc20 => ?_) (fun hc20 => ?_)
          · have hf := ite_f hq13 hc20; clear hq13
            refine lv_bipush (v := 100) C.x C.b dX11_tried_53 (by decide) ?_
            obtain ⟨rfl, rfl⟩ := pr_s hf
            exact kq13 _ _ _ Z (lv_sub hl [0] rfl)
          · have hf := ite_t hq13 hc20; clear hq13
            refine lv_aload_n C.x C.b dX11_tried_46 rfl (lv_at hl 0 rfl) ?_
            refine z_get C Z (lvC23 hq12) kC23 zc4 zin4 4 (by decide) k_471 rfl svC23_4 dX11_tried_47 ?_
            refine lv_goto (tgt := 55) C.x C.b dX11_tried_50 (by decide) ?_
            obtain ⟨rfl, rfl⟩ := pr_s hf
            exact kq13 _ _ _ Z (lv_sub hl [0] rfl)
        · replace hf := ite_f hf hc11
          refine lv_bipush (v := (-3)) C.x C.b dX11_tried_34 (by decide) ?_
          obtain ⟨rfl, rfl⟩ := pr_s hf
          exact z_iret C Z dX11_tried_36
      · replace hf := ite_f hf hc5
        refine lv_bipush (v := (-2)) C.x C.b dX11_tried_23 (by decide) ?_
        obtain ⟨rfl, rfl⟩ := pr_s hf
        exact z_iret C Z dX11_tried_25
  · replace hf := ite_t hf hc3
    refine lv_iconst (v := (-1)) C.x C.b dX11_tried_10 (by decide) ?_
    obtain ⟨rfl, rfl⟩ := pr_s hf
    exact z_iret C Z dX11_tried_11
