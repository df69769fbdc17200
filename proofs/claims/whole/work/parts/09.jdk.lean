theorem dJ0_coder_7d493_0 : decode cJ0_coder_7d493 0 = .ok (.getstatic 38, 3) := by decide +kernel
theorem dJ0_coder_7d493_3 : decode cJ0_coder_7d493 3 = .ok (.ifCond .eq 10, 3) := by decide +kernel
theorem dJ0_coder_7d493_6 : decode cJ0_coder_7d493 6 = .ok (.aload_n 0, 1) := by decide +kernel
theorem dJ0_coder_7d493_7 : decode cJ0_coder_7d493 7 = .ok (.getfield 15, 3) := by decide +kernel
theorem dJ0_coder_7d493_10 : decode cJ0_coder_7d493 10 = .ok (.goto 4, 3) := by decide +kernel
theorem dJ0_coder_7d493_13 : decode cJ0_coder_7d493 13 = .ok (.iconst 1, 1) := by decide +kernel
theorem dJ0_coder_7d493_14 : decode cJ0_coder_7d493 14 = .ok (.ireturn, 1) := by decide +kernel
theorem dJ0_isLatin1_aae02_0 : decode cJ0_isLatin1_aae02 0 = .ok (.getstatic 38, 3) := by decide +kernel
theorem dJ0_isLatin1_aae02_3 : decode cJ0_isLatin1_aae02 3 = .ok (.ifCond .eq 14, 3) := by decide +kernel
theorem dJ0_isLatin1_aae02_6 : decode cJ0_isLatin1_aae02 6 = .ok (.aload_n 0, 1) := by decide +kernel
theorem dJ0_isLatin1_aae02_7 : decode cJ0_isLatin1_aae02 7 = .ok (.getfield 15, 3) := by decide +kernel
theorem dJ0_isLatin1_aae02_10 : decode cJ0_isLatin1_aae02 10 = .ok (.ifCond .ne 7, 3) := by decide +kernel
theorem dJ0_isLatin1_aae02_13 : decode cJ0_isLatin1_aae02 13 = .ok (.iconst 1, 1) := by decide +kernel
theorem dJ0_isLatin1_aae02_14 : decode cJ0_isLatin1_aae02 14 = .ok (.goto 4, 3) := by decide +kernel
theorem dJ0_isLatin1_aae02_17 : decode cJ0_isLatin1_aae02 17 = .ok (.iconst 0, 1) := by decide +kernel
theorem dJ0_isLatin1_aae02_18 : decode cJ0_isLatin1_aae02 18 = .ok (.ireturn, 1) := by decide +kernel
theorem dJ3_checkIndex_8e157_0 : decode cJ3_checkIndex_8e157 0 = .ok (.iload_n 0, 1) := by decide +kernel
theorem dJ3_checkIndex_8e157_1 : decode cJ3_checkIndex_8e157 1 = .ok (.ifCond .lt 8, 3) := by decide +kernel
theorem dJ3_checkIndex_8e157_4 : decode cJ3_checkIndex_8e157 4 = .ok (.iload_n 0, 1) := by decide +kernel
theorem dJ3_checkIndex_8e157_5 : decode cJ3_checkIndex_8e157 5 = .ok (.iload_n 1, 1) := by decide +kernel
theorem dJ3_checkIndex_8e157_6 : decode cJ3_checkIndex_8e157 6 = .ok (.if_icmp .lt 10, 3) := by decide +kernel
theorem dJ3_checkIndex_8e157_9 : decode cJ3_checkIndex_8e157 9 = .ok (.aload_n 2, 1) := by decide +kernel
theorem dJ3_checkIndex_8e157_10 : decode cJ3_checkIndex_8e157 10 = .ok (.iload_n 0, 1) := by decide +kernel
theorem dJ3_checkIndex_8e157_11 : decode cJ3_checkIndex_8e157 11 = .ok (.iload_n 1, 1) := by decide +kernel
theorem dJ3_checkIndex_8e157_12 : decode cJ3_checkIndex_8e157 12 = .ok (.invokestatic 95, 3) := by decide +kernel
theorem dJ3_checkIndex_8e157_15 : decode cJ3_checkIndex_8e157 15 = .ok (.athrow, 1) := by decide +kernel
theorem dJ3_checkIndex_8e157_16 : decode cJ3_checkIndex_8e157 16 = .ok (.iload_n 0, 1) := by decide +kernel
theorem dJ3_checkIndex_8e157_17 : decode cJ3_checkIndex_8e157 17 = .ok (.ireturn, 1) := by decide +kernel
theorem dJ0_checkIndex_df160_0 : decode cJ0_checkIndex_df160 0 = .ok (.iload_n 0, 1) := by decide +kernel
theorem dJ0_checkIndex_df160_1 : decode cJ0_checkIndex_df160 1 = .ok (.iload_n 1, 1) := by decide +kernel
theorem dJ0_checkIndex_df160_2 : decode cJ0_checkIndex_df160 2 = .ok (.getstatic 1053, 3) := by decide +kernel
theorem dJ0_checkIndex_df160_5 : decode cJ0_checkIndex_df160 5 = .ok (.invokestatic 1059, 3) := by decide +kernel
theorem dJ0_checkIndex_df160_8 : decode cJ0_checkIndex_df160 8 = .ok (.pop, 1) := by decide +kernel
theorem dJ0_checkIndex_df160_9 : decode cJ0_checkIndex_df160 9 = .ok (.return_, 1) := by decide +kernel
theorem dJ1_charAt_3b067_0 : decode cJ1_charAt_3b067 0 = .ok (.iload_n 1, 1) := by decide +kernel
theorem dJ1_charAt_3b067_1 : decode cJ1_charAt_3b067 1 = .ok (.aload_n 0, 1) := by decide +kernel
theorem dJ1_charAt_3b067_2 : decode cJ1_charAt_3b067 2 = .ok (.arraylength, 1) := by decide +kernel
theorem dJ1_charAt_3b067_3 : decode cJ1_charAt_3b067 3 = .ok (.invokestatic 9, 3) := by decide +kernel
theorem dJ1_charAt_3b067_6 : decode cJ1_charAt_3b067 6 = .ok (.aload_n 0, 1) := by decide +kernel
theorem dJ1_charAt_3b067_7 : decode cJ1_charAt_3b067 7 = .ok (.iload_n 1, 1) := by decide +kernel
theorem dJ1_charAt_3b067_8 : decode cJ1_charAt_3b067 8 = .ok (.baload, 1) := by decide +kernel
theorem dJ1_charAt_3b067_9 : decode cJ1_charAt_3b067 9 = .ok (.sipush 255, 3) := by decide +kernel
theorem dJ1_charAt_3b067_12 : decode cJ1_charAt_3b067 12 = .ok (.iand, 1) := by decide +kernel
theorem dJ1_charAt_3b067_13 : decode cJ1_charAt_3b067 13 = .ok (.i2c, 1) := by decide +kernel
theorem dJ1_charAt_3b067_14 : decode cJ1_charAt_3b067 14 = .ok (.ireturn, 1) := by decide +kernel
theorem dJ0_length_8abf5_0 : decode cJ0_length_8abf5 0 = .ok (.aload_n 0, 1) := by decide +kernel
theorem dJ0_length_8abf5_1 : decode cJ0_length_8abf5 1 = .ok (.getfield 9, 3) := by decide +kernel
theorem dJ0_length_8abf5_4 : decode cJ0_length_8abf5 4 = .ok (.arraylength, 1) := by decide +kernel
theorem dJ0_length_8abf5_5 : decode cJ0_length_8abf5 5 = .ok (.aload_n 0, 1) := by decide +kernel
theorem dJ0_length_8abf5_6 : decode cJ0_length_8abf5 6 = .ok (.invokevirtual 335, 3) := by decide +kernel
theorem dJ0_length_8abf5_9 : decode cJ0_length_8abf5 9 = .ok (.ishr, 1) := by decide +kernel
theorem dJ0_length_8abf5_10 : decode cJ0_length_8abf5 10 = .ok (.ireturn, 1) := by decide +kernel
theorem dJ0_charAt_5068e_0 : decode cJ0_charAt_5068e 0 = .ok (.aload_n 0, 1) := by decide +kernel
theorem dJ0_charAt_5068e_1 : decode cJ0_charAt_5068e 1 = .ok (.invokevirtual 492, 3) := by decide +kernel
theorem dJ0_charAt_5068e_4 : decode cJ0_charAt_5068e 4 = .ok (.ifCond .eq 12, 3) := by decide +kernel
theorem dJ0_charAt_5068e_7 : decode cJ0_charAt_5068e 7 = .ok (.aload_n 0, 1) := by decide +kernel
theorem dJ0_charAt_5068e_8 : decode cJ0_charAt_5068e 8 = .ok (.getfield 9, 3) := by decide +kernel
theorem dJ0_charAt_5068e_11 : decode cJ0_charAt_5068e 11 = .ok (.iload_n 1, 1) := by decide +kernel
theorem dJ0_charAt_5068e_12 : decode cJ0_charAt_5068e 12 = .ok (.invokestatic 495, 3) := by decide +kernel
theorem dJ0_charAt_5068e_15 : decode cJ0_charAt_5068e 15 = .ok (.ireturn, 1) := by decide +kernel
theorem dJ0_charAt_5068e_16 : decode cJ0_charAt_5068e 16 = .ok (.aload_n 0, 1) := by decide +kernel
theorem dJ0_charAt_5068e_17 : decode cJ0_charAt_5068e 17 = .ok (.getfield 9, 3) := by decide +kernel
theorem dJ0_charAt_5068e_20 : decode cJ0_charAt_5068e 20 = .ok (.iload_n 1, 1) := by decide +kernel
theorem dJ0_charAt_5068e_21 : decode cJ0_charAt_5068e 21 = .ok (.invokestatic 498, 3) := by decide +kernel
theorem dJ0_charAt_5068e_24 : decode cJ0_charAt_5068e 24 = .ok (.ireturn, 1) := by decide +kernel
theorem sp_char : ∀ j, j < 27 → ((tSp j &&& 255).toUInt32 % 65536).toInt32 = tSp j := by decide +kernel
theorem sp_nar : ∀ j, j < 27 → narrow .char (.int (tSp j)) = .int (tSp j) := by decide +kernel
set_option maxRecDepth 100000 in
set_option maxHeartbeats 4000000 in
theorem c_J0_coder_7d493 {l : Launch} {K : KG} {L : Lay} {ad : Nat → Nat → Nat} {M : Mem} : Met l yJ0_coder_7d493 (Cond.code yJ0_coder_7d493 cJ0_coder_7d493 1 (some .byte) :: ztb) (RM 1 0 0) (zPc K L ad M [.ref (kSq K)]) (zQ K L ad (some (.int 0)) M) 0 0 (zA ad) := by
  refine z_enter (by decide) (Nat.le_of_ble_eq_true rfl) ?_
  intro p e s m args below meth c ls C hin hargs Z hl
  replace C : Cx p s m args meth c cJ0_coder_7d493 1 "java/lang/String" (some .byte) := C
  replace hl : lv_has ls 1 [(0, .ref (kSq K))] := hl
  have hR : 1 ≤ (RM 1 0 0).frames ∧ 40 * 1 ≤ (RM 1 0 0).locals := ⟨Nat.le_refl _, Nat.le_refl _⟩
  have hB : 0 ≤ (RM 1 0 0).cells ∧ 0 ≤ (RM 1 0 0).slots := ⟨Nat.zero_le _, Nat.zero_le _⟩
  refine va_gets C.x C.b Z.2.2.2.2.2.2.2.1 Z.2.1 C.o (C.w k_723) (fun _ h => h) dJ0_coder_7d493_0 ?_
  refine lv_if_eq (tgt := 13) C.x C.b dJ0_coder_7d493_3 (by decide) (fun h => absurd h (by decide)) (fun _ => ?_)
  refine lv_aload_n C.x C.b dJ0_coder_7d493_6 rfl (lv_at hl 0 rfl) ?_
  refine vk_getf C.x C.b (Z.2.2.2.2.2.2.1.1 0 (by decide)).2.1 Z.2.1 C.o (C.w k_1815) (fun _ h => h) dJ0_coder_7d493_7 ?_
  refine lv_goto (tgt := 14) C.x C.b dJ0_coder_7d493_10 (by decide) ?_
  exact z_zret C Z rfl dJ0_coder_7d493_14
set_option maxRecDepth 100000 in
set_option maxHeartbeats 4000000 in
theorem c_J0_isLatin1_aae02 {l : Launch} {K : KG} {L : Lay} {ad : Nat → Nat → Nat} {M : Mem} : Met l yJ0_isLatin1_aae02 (Cond.code yJ0_isLatin1_aae02 cJ0_isLatin1_aae02 1 (some .boolean) :: ztb) (RM 1 0 0) (zPc K L ad M [.ref (kSq K)]) (zQ K L ad (some (.int 1)) M) 0 0 (zA ad) := by
  refine z_enter (by decide) (Nat.le_of_ble_eq_true rfl) ?_
  intro p e s m args below meth c ls C hin hargs Z hl
  replace C : Cx p s m args meth c cJ0_isLatin1_aae02 1 "java/lang/String" (some .boolean) := C
  replace hl : lv_has ls 1 [(0, .ref (kSq K))] := hl
  have hR : 1 ≤ (RM 1 0 0).frames ∧ 40 * 1 ≤ (RM 1 0 0).locals := ⟨Nat.le_refl _, Nat.le_refl _⟩
  have hB : 0 ≤ (RM 1 0 0).cells ∧ 0 ≤ (RM 1 0 0).slots := ⟨Nat.zero_le _, Nat.zero_le _⟩
  refine va_gets C.x C.b Z.2.2.2.2.2.2.2.1 Z.2.1 C.o (C.w k_723) (fun _ h => h) dJ0_isLatin1_aae02_0 ?_
  refine lv_if_eq (tgt := 17) C.x C.b dJ0_isLatin1_aae02_3 (by decide) (fun h => absurd h (by decide)) (fun _ => ?_)
  refine lv_aload_n C.x C.b dJ0_isLatin1_aae02_6 rfl (lv_at hl 0 rfl) ?_
  refine vk_getf C.x C.b (Z.2.2.2.2.2.2.1.1 0 (by decide)).2.1 Z.2.1 C.o (C.w k_1815) (fun _ h => h) dJ0_isLatin1_aae02_7 ?_
  refine lv_if_ne (tgt := 17) C.x C.b dJ0_isLatin1_aae02_10 (by decide) (fun h => absurd rfl h) (fun _ => ?_)
  refine lv_iconst (v := 1) C.x C.b dJ0_isLatin1_aae02_13 (by decide) ?_
  refine lv_goto (tgt := 18) C.x C.b dJ0_isLatin1_aae02_14 (by decide) ?_
  exact z_zret C Z rfl dJ0_isLatin1_aae02_18
theorem vin_b {i : Int32} (h : vq i 27) : ¬ i < 0 ∧ i < 27 := by
  have h1 := vp_in_iff.mp h
  refine ⟨fun q => h (Or.inl q), Int32.lt_iff_toInt_lt.mpr ?_⟩
  exact h1.2
theorem si_cat {K : KG} (h : kSi K = .null ∨ ∃ t, kSi K = .ref t) : (kSi K).category = 1 := by rcases h with h | ⟨t, h⟩ <;> rw [h] <;> rfl
set_option maxRecDepth 100000 in
set_option maxHeartbeats 4000000 in
theorem c_J3_checkIndex_8e157 {l : Launch} {K : KG} {L : Lay} {ad : Nat → Nat → Nat} {M : Mem} {i : Int32} (hi : vq i 27) (hs : kSi K = .null ∨ ∃ t, kSi K = .ref t) : Met l yJ3_checkIndex_8e157 (Cond.code yJ3_checkIndex_8e157 cJ3_checkIndex_8e157 3 (some .int) :: ztb) (RM 1 0 0) (zPc K L ad M [.int i, .int 27, kSi K]) (zQ K L ad (some (.int i)) M) 0 0 (zA ad) := by
  refine z_enter (by decide) (by rcases hs with h | ⟨t, h⟩ <;> rw [h] <;> exact Nat.le_of_ble_eq_true rfl) ?_
  intro p e s m args below meth c ls C hin hargs Z hl
  replace C : Cx p s m args meth c cJ3_checkIndex_8e157 3 "jdk/internal/util/Preconditions" (some .int) := C
  replace hl : lv_has ls 3 [(0, .int i), (1, .int 27), (2, kSi K)] := hl
  refine lv_iload_n C.x C.b dJ3_checkIndex_8e157_0 rfl (lv_at hl 0 rfl) ?_
  refine lv_if_lt (tgt := 9) C.x C.b dJ3_checkIndex_8e157_1 (by decide) (fun h => absurd h (vin_b hi).1) (fun _ => ?_)
  refine lv_iload_n C.x C.b dJ3_checkIndex_8e157_4 rfl (lv_at hl 0 rfl) ?_
  refine lv_iload_n C.x C.b dJ3_checkIndex_8e157_5 rfl (lv_at hl 1 rfl) ?_
  refine lv_icmp_lt (tgt := 16) C.x C.b dJ3_checkIndex_8e157_6 (by decide) (fun _ => ?_) (fun h => absurd (vin_b hi).2 h)
  refine lv_iload_n C.x C.b dJ3_checkIndex_8e157_16 rfl (lv_at hl 0 rfl) ?_
  exact z_iret C Z dJ3_checkIndex_8e157_17
set_option maxRecDepth 100000 in
set_option maxHeartbeats 4000000 in
theorem c_J0_checkIndex_df160 {l : Launch} {K : KG} {L : Lay} {ad : Nat → Nat → Nat} {M : Mem} {i : Int32} (hi : vq i 27) (hs : kSi K = .null ∨ ∃ t, kSi K = .ref t) : Met l yJ0_checkIndex_df160 (Cond.code yJ0_checkIndex_df160 cJ0_checkIndex_df160 2 none :: ztb) (RM 2 0 0) (zPc K L ad M [.int i, .int 27]) (zQ K L ad (none) M) 0 0 (zA ad) := by
  refine z_enter (by decide) (Nat.le_of_ble_eq_true rfl) ?_
  intro p e s m args below meth c ls C hin hargs Z hl
  replace C : Cx p s m args meth c cJ0_checkIndex_df160 2 "java/lang/String" none := C
  replace hl : lv_has ls 2 [(0, .int i), (1, .int 27)] := hl
  have hR : 2 ≤ (RM 2 0 0).frames ∧ 40 * 2 ≤ (RM 2 0 0).locals := ⟨Nat.le_refl _, Nat.le_refl _⟩
  have hB : 0 ≤ (RM 2 0 0).cells ∧ 0 ≤ (RM 2 0 0).slots := ⟨Nat.zero_le _, Nat.zero_le _⟩
  refine lv_iload_n C.x C.b dJ0_checkIndex_df160_0 rfl (lv_at hl 0 rfl) ?_
  refine lv_iload_n C.x C.b dJ0_checkIndex_df160_1 rfl (lv_at hl 1 rfl) ?_
  refine va_gets C.x C.b Z.2.2.2.2.2.2.2.2.1 Z.2.1 C.o (C.w k_739) (fun _ h => h) dJ0_checkIndex_df160_2 ?_
  refine z_cS (As := [.int i, .int 27, kSi K]) (rest := []) (st1 := [.int i]) C Z mw_J3_checkIndex_8e157 mv_J3_checkIndex_8e157 k_741 (by decide) (z_hR hR (by decide)) (c_J3_checkIndex_8e157 hi hs) rfl hl.1 rfl (Nat.le_of_ble_eq_true rfl) dJ0_checkIndex_df160_5 hB rfl (fun H locs Z => ?_)
  refine lv_pop C.x C.b dJ0_checkIndex_df160_8 rfl ?_
  exact z_vret C Z dJ0_checkIndex_df160_9
set_option maxRecDepth 100000 in
set_option maxHeartbeats 4000000 in
theorem c_J1_charAt_3b067 {l : Launch} {K : KG} {L : Lay} {ad : Nat → Nat → Nat} {M : Mem} {i : Int32} (hi : vq i 27) (hs : kSi K = .null ∨ ∃ t, kSi K = .ref t) : Met l yJ1_charAt_3b067 (Cond.code yJ1_charAt_3b067 cJ1_charAt_3b067 2 (some .char) :: ztb) (RM 3 0 0) (zPc K L ad M [.ref (kSv K), .int i]) (zQ K L ad (some (.int (tSp (Int32.toNatClampNeg i)))) M) 0 0 (zA ad) := by
  refine z_enter (by decide) (Nat.le_of_ble_eq_true rfl) ?_
  intro p e s m args below meth c ls C hin hargs Z hl
  replace C : Cx p s m args meth c cJ1_charAt_3b067 2 "java/lang/StringLatin1" (some .char) := C
  replace hl : lv_has ls 2 [(0, .ref (kSv K)), (1, .int i)] := hl
  have hR : 3 ≤ (RM 3 0 0).frames ∧ 40 * 3 ≤ (RM 3 0 0).locals := ⟨Nat.le_refl _, Nat.le_refl _⟩
  have hB : 0 ≤ (RM 3 0 0).cells ∧ 0 ≤ (RM 3 0 0).slots := ⟨Nat.zero_le _, Nat.zero_le _⟩
  refine lv_iload_n C.x C.b dJ1_charAt_3b067_0 rfl (lv_at hl 1 rfl) ?_
  refine lv_aload_n C.x C.b dJ1_charAt_3b067_1 rfl (lv_at hl 0 rfl) ?_
  refine va_tlen C.x C.b (Z.2.2.2.2.2.2.1.1 0 (by decide)).2.2.2 Z.2.1 (v := 27) (by decide) dJ1_charAt_3b067_2 ?_
  refine z_cS (As := [.int i, .int 27]) (rest := []) (st1 := []) C Z mw_J0_checkIndex_df160 mv_J0_checkIndex_df160 k_736 (by decide) (z_hR hR (by decide)) (c_J0_checkIndex_df160 hi hs) rfl hl.1 rfl (Nat.le_of_ble_eq_true rfl) dJ1_charAt_3b067_3 hB rfl (fun H locs Z => ?_)
  refine lv_aload_n C.x C.b dJ1_charAt_3b067_6 rfl (lv_at hl 0 rfl) ?_
  refine lv_iload_n C.x C.b dJ1_charAt_3b067_7 rfl (lv_at hl 1 rfl) ?_
  refine va_tb C.x C.b (Z.2.2.2.2.2.2.1.1 0 (by decide)).2.2.2 Z.2.1 hi (v := .int (tSp (Int32.toNatClampNeg i))) rfl dJ1_charAt_3b067_8 ?_
  refine lv_sipush (v := 255) C.x C.b dJ1_charAt_3b067_9 (by decide) ?_
  refine lv_iand C.x C.b dJ1_charAt_3b067_12 ?_
  refine lv_i2c (v := tSp (Int32.toNatClampNeg i)) C.x C.b dJ1_charAt_3b067_13 (sp_char _ (vin_lt hi)) ?_
  exact z_zret C Z (sp_nar _ (vin_lt hi)) dJ1_charAt_3b067_14
set_option maxRecDepth 100000 in
set_option maxHeartbeats 4000000 in
theorem c_J0_length_8abf5 {l : Launch} {K : KG} {L : Lay} {ad : Nat → Nat → Nat} {M : Mem} : Met l yJ0_length_8abf5 (Cond.code yJ0_length_8abf5 cJ0_length_8abf5 1 (some .int) :: ztb) (RM 2 0 0) (zPc K L ad M [.ref (kSq K)]) (zQ K L ad (some (.int 27)) M) 0 0 (zA ad) := by
  refine z_enter (by decide) (Nat.le_of_ble_eq_true rfl) ?_
  intro p e s m args below meth c ls C hin hargs Z hl
  replace C : Cx p s m args meth c cJ0_length_8abf5 1 "java/lang/String" (some .int) := C
  replace hl : lv_has ls 1 [(0, .ref (kSq K))] := hl
  have hR : 2 ≤ (RM 2 0 0).frames ∧ 40 * 2 ≤ (RM 2 0 0).locals := ⟨Nat.le_refl _, Nat.le_refl _⟩
  have hB : 0 ≤ (RM 2 0 0).cells ∧ 0 ≤ (RM 2 0 0).slots := ⟨Nat.zero_le _, Nat.zero_le _⟩
  refine lv_aload_n C.x C.b dJ0_length_8abf5_0 rfl (lv_at hl 0 rfl) ?_
  refine vk_getf C.x C.b (Z.2.2.2.2.2.2.1.1 0 (by decide)).2.2.1 Z.2.1 C.o (C.w k_1814) (fun _ h => h) dJ0_length_8abf5_1 ?_
  refine va_tlen C.x C.b (Z.2.2.2.2.2.2.1.1 0 (by decide)).2.2.2 Z.2.1 (v := 27) (by decide) dJ0_length_8abf5_4 ?_
  refine lv_aload_n C.x C.b dJ0_length_8abf5_5 rfl (lv_at hl 0 rfl) ?_
  refine z_str (As := []) (rest := [.int 27]) (st1 := [.int 0, .int 27]) C Z mw_J0_coder_7d493 mv_J0_coder_7d493 k_719 (by decide) (z_hR hR (by decide)) rfl c_J0_coder_7d493 rfl hl.1 rfl (Nat.le_of_ble_eq_true rfl) dJ0_length_8abf5_6 hB rfl (fun H locs Z => ?_)
  refine z_ishr C dJ0_length_8abf5_9 ?_
  exact z_iret (v := 27) C Z dJ0_length_8abf5_10
set_option maxRecDepth 100000 in
set_option maxHeartbeats 4000000 in
theorem c_J0_charAt_5068e {l : Launch} {K : KG} {L : Lay} {ad : Nat → Nat → Nat} {M : Mem} {i : Int32} (hi : vq i 27) (hs : kSi K = .null ∨ ∃ t, kSi K = .ref t) : Met l yJ0_charAt_5068e (Cond.code yJ0_charAt_5068e cJ0_charAt_5068e 2 (some .char) :: ztb) (RM 4 0 0) (zPc K L ad M [.ref (kSq K), .int i]) (zQ K L ad (some (.int (tSp (Int32.toNatClampNeg i)))) M) 0 0 (zA ad) := by
  refine z_enter (by decide) (Nat.le_of_ble_eq_true rfl) ?_
  intro p e s m args below meth c ls C hin hargs Z hl
  replace C : Cx p s m args meth c cJ0_charAt_5068e 2 "java/lang/String" (some .char) := C
  replace hl : lv_has ls 2 [(0, .ref (kSq K)), (1, .int i)] := hl
  have hR : 4 ≤ (RM 4 0 0).frames ∧ 40 * 4 ≤ (RM 4 0 0).locals := ⟨Nat.le_refl _, Nat.le_refl _⟩
  have hB : 0 ≤ (RM 4 0 0).cells ∧ 0 ≤ (RM 4 0 0).slots := ⟨Nat.zero_le _, Nat.zero_le _⟩
  refine lv_aload_n C.x C.b dJ0_charAt_5068e_0 rfl (lv_at hl 0 rfl) ?_
  refine z_str (As := []) (rest := []) (st1 := [.int 1]) C Z mw_J0_isLatin1_aae02 mv_J0_isLatin1_aae02 k_729 (by decide) (z_hR hR (by decide)) rfl c_J0_isLatin1_aae02 rfl hl.1 rfl (Nat.le_of_ble_eq_true rfl) dJ0_charAt_5068e_1 hB rfl (fun H locs Z => ?_)
  refine lv_if_eq (tgt := 16) C.x C.b dJ0_charAt_5068e_4 (by decide) (fun h => absurd h (by decide)) (fun _ => ?_)
  refine lv_aload_n C.x C.b dJ0_charAt_5068e_7 rfl (lv_at hl 0 rfl) ?_
  refine vk_getf C.x C.b (Z.2.2.2.2.2.2.1.1 0 (by decide)).2.2.1 Z.2.1 C.o (C.w k_1814) (fun _ h => h) dJ0_charAt_5068e_8 ?_
  refine lv_iload_n C.x C.b dJ0_charAt_5068e_11 rfl (lv_at hl 1 rfl) ?_
  refine z_cS (As := [.ref (kSv K), .int i]) (rest := []) (st1 := [.int (tSp (Int32.toNatClampNeg i))]) C Z mw_J1_charAt_3b067 mv_J1_charAt_3b067 k_733 (by decide) (z_hR hR (by decide)) (c_J1_charAt_3b067 hi hs) rfl hl.1 rfl (Nat.le_of_ble_eq_true rfl) dJ0_charAt_5068e_12 hB rfl (fun H locs Z => ?_)
  exact z_zret C Z (sp_nar _ (vin_lt hi)) dJ0_charAt_5068e_15
