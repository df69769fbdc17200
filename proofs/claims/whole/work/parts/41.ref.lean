theorem dX12_settle_0 : decode cX12_settle 0 = .ok (.aload_n 0, 1) := by decide +kernel
theorem dX12_settle_1 : decode cX12_settle 1 = .ok (.getfield 131, 3) := by decide +kernel
theorem dX12_settle_4 : decode cX12_settle 4 = .ok (.ifCond .le 154, 3) := by decide +kernel
theorem dX12_settle_7 : decode cX12_settle 7 = .ok (.aload_n 0, 1) := by decide +kernel
theorem dX12_settle_8 : decode cX12_settle 8 = .ok (.getfield 125, 3) := by decide +kernel
theorem dX12_settle_11 : decode cX12_settle 11 = .ok (.aload_n 0, 1) := by decide +kernel
theorem dX12_settle_12 : decode cX12_settle 12 = .ok (.getfield 131, 3) := by decide +kernel
theorem dX12_settle_15 : decode cX12_settle 15 = .ok (.iconst 1, 1) := by decide +kernel
theorem dX12_settle_16 : decode cX12_settle 16 = .ok (.isub, 1) := by decide +kernel
theorem dX12_settle_17 : decode cX12_settle 17 = .ok (.iaload, 1) := by decide +kernel
theorem dX12_settle_18 : decode cX12_settle 18 = .ok (.bipush 38, 2) := by decide +kernel
theorem dX12_settle_20 : decode cX12_settle 20 = .ok (.if_icmp .eq 25, 3) := by decide +kernel
theorem dX12_settle_23 : decode cX12_settle 23 = .ok (.aload_n 0, 1) := by decide +kernel
theorem dX12_settle_24 : decode cX12_settle 24 = .ok (.getfield 125, 3) := by decide +kernel
theorem dX12_settle_27 : decode cX12_settle 27 = .ok (.aload_n 0, 1) := by decide +kernel
theorem dX12_settle_28 : decode cX12_settle 28 = .ok (.getfield 131, 3) := by decide +kernel
theorem dX12_settle_31 : decode cX12_settle 31 = .ok (.iconst 1, 1) := by decide +kernel
theorem dX12_settle_32 : decode cX12_settle 32 = .ok (.isub, 1) := by decide +kernel
theorem dX12_settle_33 : decode cX12_settle 33 = .ok (.iaload, 1) := by decide +kernel
theorem dX12_settle_34 : decode cX12_settle 34 = .ok (.bipush 124, 2) := by decide +kernel
theorem dX12_settle_36 : decode cX12_settle 36 = .ok (.if_icmp .ne 122, 3) := by decide +kernel
theorem dX12_settle_39 : decode cX12_settle 39 = .ok (.iload_n 1, 1) := by decide +kernel
theorem dX12_settle_40 : decode cX12_settle 40 = .ok (.bipush 38, 2) := by decide +kernel
theorem dX12_settle_42 : decode cX12_settle 42 = .ok (.if_icmp .eq 116, 3) := by decide +kernel
theorem dX12_settle_45 : decode cX12_settle 45 = .ok (.aload_n 0, 1) := by decide +kernel
theorem dX12_settle_46 : decode cX12_settle 46 = .ok (.dup, 1) := by decide +kernel
theorem dX12_settle_47 : decode cX12_settle 47 = .ok (.getfield 131, 3) := by decide +kernel
theorem dX12_settle_50 : decode cX12_settle 50 = .ok (.iconst 1, 1) := by decide +kernel
theorem dX12_settle_51 : decode cX12_settle 51 = .ok (.isub, 1) := by decide +kernel
theorem dX12_settle_52 : decode cX12_settle 52 = .ok (.putfield 131, 3) := by decide +kernel
theorem dX12_settle_55 : decode cX12_settle 55 = .ok (.aload_n 0, 1) := by decide +kernel
theorem dX12_settle_56 : decode cX12_settle 56 = .ok (.dup, 1) := by decide +kernel
theorem dX12_settle_57 : decode cX12_settle 57 = .ok (.getfield 134, 3) := by decide +kernel
theorem dX12_settle_60 : decode cX12_settle 60 = .ok (.iconst 1, 1) := by decide +kernel
theorem dX12_settle_61 : decode cX12_settle 61 = .ok (.isub, 1) := by decide +kernel
theorem dX12_settle_62 : decode cX12_settle 62 = .ok (.putfield 134, 3) := by decide +kernel
theorem dX12_settle_65 : decode cX12_settle 65 = .ok (.aload_n 0, 1) := by decide +kernel
theorem dX12_settle_66 : decode cX12_settle 66 = .ok (.getfield 128, 3) := by decide +kernel
theorem dX12_settle_69 : decode cX12_settle 69 = .ok (.aload_n 0, 1) := by decide +kernel
theorem dX12_settle_70 : decode cX12_settle 70 = .ok (.getfield 134, 3) := by decide +kernel
theorem dX12_settle_73 : decode cX12_settle 73 = .ok (.iconst 1, 1) := by decide +kernel
theorem dX12_settle_74 : decode cX12_settle 74 = .ok (.isub, 1) := by decide +kernel
theorem dX12_settle_75 : decode cX12_settle 75 = .ok (.aload_n 0, 1) := by decide +kernel
theorem dX12_settle_76 : decode cX12_settle 76 = .ok (.getfield 125, 3) := by decide +kernel
theorem dX12_settle_79 : decode cX12_settle 79 = .ok (.aload_n 0, 1) := by decide +kernel
theorem dX12_settle_80 : decode cX12_settle 80 = .ok (.getfield 131, 3) := by decide +kernel
theorem dX12_settle_83 : decode cX12_settle 83 = .ok (.iaload, 1) := by decide +kernel
theorem dX12_settle_84 : decode cX12_settle 84 = .ok (.bipush 38, 2) := by decide +kernel
theorem dX12_settle_86 : decode cX12_settle 86 = .ok (.if_icmp .ne 37, 3) := by decide +kernel
theorem dX12_settle_89 : decode cX12_settle 89 = .ok (.aload_n 0, 1) := by decide +kernel
theorem dX12_settle_90 : decode cX12_settle 90 = .ok (.getfield 128, 3) := by decide +kernel
theorem dX12_settle_93 : decode cX12_settle 93 = .ok (.aload_n 0, 1) := by decide +kernel
theorem dX12_settle_94 : decode cX12_settle 94 = .ok (.getfield 134, 3) := by decide +kernel
theorem dX12_settle_97 : decode cX12_settle 97 = .ok (.iconst 1, 1) := by decide +kernel
theorem dX12_settle_98 : decode cX12_settle 98 = .ok (.isub, 1) := by decide +kernel
theorem dX12_settle_99 : decode cX12_settle 99 = .ok (.baload, 1) := by decide +kernel
theorem dX12_settle_100 : decode cX12_settle 100 = .ok (.ifCond .eq 19, 3) := by decide +kernel
theorem dX12_settle_103 : decode cX12_settle 103 = .ok (.aload_n 0, 1) := by decide +kernel
theorem dX12_settle_104 : decode cX12_settle 104 = .ok (.getfield 128, 3) := by decide +kernel
theorem dX12_settle_107 : decode cX12_settle 107 = .ok (.aload_n 0, 1) := by decide +kernel
theorem dX12_settle_108 : decode cX12_settle 108 = .ok (.getfield 134, 3) := by decide +kernel
theorem dX12_settle_111 : decode cX12_settle 111 = .ok (.baload, 1) := by decide +kernel
theorem dX12_settle_112 : decode cX12_settle 112 = .ok (.ifCond .eq 7, 3) := by decide +kernel
theorem dX12_settle_115 : decode cX12_settle 115 = .ok (.iconst 1, 1) := by decide +kernel
theorem dX12_settle_116 : decode cX12_settle 116 = .ok (.goto 38, 3) := by decide +kernel
theorem dX12_settle_119 : decode cX12_settle 119 = .ok (.iconst 0, 1) := by decide +kernel
theorem dX12_settle_120 : decode cX12_settle 120 = .ok (.goto 34, 3) := by decide +kernel
theorem dX12_settle_123 : decode cX12_settle 123 = .ok (.aload_n 0, 1) := by decide +kernel
theorem dX12_settle_124 : decode cX12_settle 124 = .ok (.getfield 128, 3) := by decide +kernel
theorem dX12_settle_127 : decode cX12_settle 127 = .ok (.aload_n 0, 1) := by decide +kernel
theorem dX12_settle_128 : decode cX12_settle 128 = .ok (.getfield 134, 3) := by decide +kernel
theorem dX12_settle_131 : decode cX12_settle 131 = .ok (.iconst 1, 1) := by decide +kernel
theorem dX12_settle_132 : decode cX12_settle 132 = .ok (.isub, 1) := by decide +kernel
theorem dX12_settle_133 : decode cX12_settle 133 = .ok (.baload, 1) := by decide +kernel
theorem dX12_settle_134 : decode cX12_settle 134 = .ok (.ifCond .ne 15, 3) := by decide +kernel
theorem dX12_settle_137 : decode cX12_settle 137 = .ok (.aload_n 0, 1) := by decide +kernel
theorem dX12_settle_138 : decode cX12_settle 138 = .ok (.getfield 128, 3) := by decide +kernel
theorem dX12_settle_141 : decode cX12_settle 141 = .ok (.aload_n 0, 1) := by decide +kernel
theorem dX12_settle_142 : decode cX12_settle 142 = .ok (.getfield 134, 3) := by decide +kernel
theorem dX12_settle_145 : decode cX12_settle 145 = .ok (.baload, 1) := by decide +kernel
theorem dX12_settle_146 : decode cX12_settle 146 = .ok (.ifCond .eq 7, 3) := by decide +kernel
theorem dX12_settle_149 : decode cX12_settle 149 = .ok (.iconst 1, 1) := by decide +kernel
theorem dX12_settle_150 : decode cX12_settle 150 = .ok (.goto 4, 3) := by decide +kernel
theorem dX12_settle_153 : decode cX12_settle 153 = .ok (.iconst 0, 1) := by decide +kernel
theorem dX12_settle_154 : decode cX12_settle 154 = .ok (.bastore, 1) := by decide +kernel
theorem dX12_settle_155 : decode cX12_settle 155 = .ok (.goto (-155), 3) := by decide +kernel
theorem dX12_settle_158 : decode cX12_settle 158 = .ok (.return_, 1) := by decide +kernel
set_option maxRecDepth 100000 in
set_option maxHeartbeats 4000000 in
theorem w_X12_settle_l0 {p : Program} {l : Launch} {e : Env} {R : Room} {s : State} {m : MethodId} {args : Array Value} {below : List Frame} {meth : Method} {c : Code} {cells slots : Nat} {Q : State → Prop} {K : KG} {ad : Nat → Nat → Nat} {fl : Nat} {g1 : Int32} (C : Cx p s m args meth c cX12_settle 2 "GlassPalaceModel" none) (hR : 1 ≤ R.frames ∧ 40 * (1) ≤ R.locals) (hB : cells ≤ R.cells ∧ slots ≤ R.slots) : ∀ (n : Nat)  (M0 : Mem) (H : Heap) (locs : List Loc) (ls : Array Slot), Zd K LM ad M0 s H locs → lv_has ls 2 [(0, .ref (ad 0 0)), (1, .int g1)] → ∀ (Mq : Mem), f_X12_settle_l0 fl g1 n  M0 = some Mq → (∀ (H : Heap) (locs : List Loc) (ls : Array Slot), Zd K LM ad Mq s H locs → lv_has ls 2 [] → W p l e R s m args below meth c H locs cells slots Q (F0 m 158 ls [])) → W p l e R s m args below meth c H locs cells slots Q (F0 m 0 ls []) := by
  intro n
  induction n with
  | zero =>
    intro  M0 H locs ls Z hl Mq hf
    have hf : (none : Option (Mem)) = some Mq := hf
    cases hf
  | succ n ih =>
    intro  M0 H locs ls Z hl Mq hf kx0
    replace hf : f_X12_settle_l0_b (f_X12_settle_l0 fl g1 n) fl g1  M0 = some Mq := hf
    unfold f_X12_settle_l0_b at hf
    refine lv_aload_n C.x C.b dX12_settle_0 rfl (lv_at hl 0 rfl) ?_
    refine z_get C Z (lvM0 Nat.zero_lt_one) kM0 zc12 zin12 37 (by decide) k_1213 rfl svM0_37 dX12_settle_1 ?_
    refine lv_if_le (tgt := 158) C.x C.b dX12_settle_4 (by decide) (fun hc1 => ?_) (fun hc1 => ?_)
    · replace hf := ite_t hf hc1
      obtain rfl := sm_s hf
      exact kx0 _ _ _ Z (lv_sub hl [] rfl)
    · replace hf := ite_f hf hc1
      refine lv_aload_n C.x C.b dX12_settle_7 rfl (lv_at hl 0 rfl) ?_
      refine z_get C Z (lvM0 Nat.zero_lt_one) kM0 zc12 zin12 35 (by decide) k_1211 rfl svM0_35 dX12_settle_8 ?_
      refine lv_aload_n C.x C.b dX12_settle_11 rfl (lv_at hl 0 rfl) ?_
      refine z_get C Z (lvM0 Nat.zero_lt_one) kM0 zc12 zin12 37 (by decide) k_1213 rfl svM0_37 dX12_settle_12 ?_
      refine lv_iconst (v := 1) C.x C.b dX12_settle_15 (by decide) ?_
      refine lv_isub C.x C.b dX12_settle_16 ?_
      replace hf := asr_s hf; obtain ⟨hq2, hf⟩ := hf
      refine z_iald C Z (lvM26 Nat.zero_lt_one) kM26 hq2 svM26 dX12_settle_17 ?_
      refine lv_bipush (v := 38) C.x C.b dX12_settle_18 (by decide) ?_
      refine lv_icmp_eq (tgt := 45) C.x C.b dX12_settle_20 (by decide) (fun hc3 => ?_) (fun hc3 => ?_)
      · replace hf := ite_t hf hc3
        refine lv_aload_n C.x C.b dX12_settle_45 rfl (lv_at hl 0 rfl) ?_
        refine lv_dup C.x C.b dX12_settle_46 rfl ?_
        refine z_get C Z (lvM0 Nat.zero_lt_one) kM0 zc12 zin12 37 (by decide) k_1213 rfl svM0_37 dX12_settle_47 ?_
        refine lv_iconst (v := 1) C.x C.b dX12_settle_50 (by decide) ?_
        refine lv_isub C.x C.b dX12_settle_51 ?_
        replace hf := lt1_s hf; obtain ⟨m4, em4, hf⟩ := hf
        refine z_put (M1 := m4) C Z (lvM0 Nat.zero_lt_one) (by decide) kM0 zc12 zin12 tyX12_ok nmX12 37 (by decide) k_1213 rfl (zUp_I em4 stM0_37u) (Or.inl rfl) rfl rfl dX12_settle_52 (fun H locs Z => ?_)
        refine lv_aload_n C.x C.b dX12_settle_55 rfl (lv_at hl 0 rfl) ?_
        refine lv_dup C.x C.b dX12_settle_56 rfl ?_
        refine z_get C Z (lvM0 Nat.zero_lt_one) kM0 zc12 zin12 38 (by decide) k_1214 rfl svM0_38 dX12_settle_57 ?_
        refine lv_iconst (v := 1) C.x C.b dX12_settle_60 (by decide) ?_
        refine lv_isub C.x C.b dX12_settle_61 ?_
        replace hf := lt1_s hf; obtain ⟨m5, em5, hf⟩ := hf
        refine z_put (M1 := m5) C Z (lvM0 Nat.zero_lt_one) (by decide) kM0 zc12 zin12 tyX12_ok nmX12 38 (by decide) k_1214 rfl (zUp_I em5 stM0_38u) (Or.inl rfl) rfl rfl dX12_settle_62 (fun H locs Z => ?_)
        refine lv_aload_n C.x C.b dX12_settle_65 rfl (lv_at hl 0 rfl) ?_
        refine z_get C Z (lvM0 Nat.zero_lt_one) kM0 zc12 zin12 36 (by decide) k_1212 rfl svM0_36 dX12_settle_66 ?_
        refine lv_aload_n C.x C.b dX12_settle_69 rfl (lv_at hl 0 rfl) ?_
        refine z_get C Z (lvM0 Nat.zero_lt_one) kM0 zc12 zin12 38 (by decide) k_1214 rfl svM0_38 dX12_settle_70 ?_
        refine lv_iconst (v := 1) C.x C.b dX12_settle_73 (by decide) ?_
        refine lv_isub C.x C.b dX12_settle_74 ?_
        refine lv_aload_n C.x C.b dX12_settle_75 rfl (lv_at hl 0 rfl) ?_
        refine z_get C Z (lvM0 Nat.zero_lt_one) kM0 zc12 zin12 35 (by decide) k_1211 rfl svM0_35 dX12_settle_76 ?_
        refine lv_aload_n C.x C.b dX12_settle_79 rfl (lv_at hl 0 rfl) ?_
        refine z_get C Z (lvM0 Nat.zero_lt_one) kM0 zc12 zin12 37 (by decide) k_1213 rfl svM0_37 dX12_settle_80 ?_
        replace hf := asr_s hf; obtain ⟨hq6, hf⟩ := hf
        refine z_iald C Z (lvM26 Nat.zero_lt_one) kM26 hq6 svM26 dX12_settle_83 ?_
        refine lv_bipush (v := 38) C.x C.b dX12_settle_84 (by decide) ?_
        refine lv_icmp_ne (tgt := 123) C.x C.b dX12_settle_86 (by decide) (fun hc7 => ?_) (fun hc7 => ?_)
        · replace hf := ite_f hf hc7
          refine lv_aload_n C.x C.b dX12_settle_123 rfl (lv_at hl 0 rfl) ?_
          refine z_get C Z (lvM0 Nat.zero_lt_one) kM0 zc12 zin12 36 (by decide) k_1212 rfl svM0_36 dX12_settle_124 ?_
          refine lv_aload_n C.x C.b dX12_settle_127 rfl (lv_at hl 0 rfl) ?_
          refine z_get C Z (lvM0 Nat.zero_lt_one) kM0 zc12 zin12 38 (by decide) k_1214 rfl svM0_38 dX12_settle_128 ?_
          refine lv_iconst (v := 1) C.x C.b dX12_settle_131 (by decide) ?_
          refine lv_isub C.x C.b dX12_settle_132 ?_
          replace hf := asr_s hf; obtain ⟨hq8, hf⟩ := hf
          refine z_zald C Z (lvM27 Nat.zero_lt_one) kM27 hq8 svM27 dX12_settle_133 ?_
          refine lv_if_ne (tgt := 149) C.x C.b dX12_settle_134 (by decide) (fun hc9 => ?_) (fun hc9 => ?_)
          · replace hf := ite_f hf hc9
            refine lv_iconst (v := 1) C.x C.b dX12_settle_149 (by decide) ?_
            refine lv_goto (tgt := 154) C.x C.b dX12_settle_150 (by decide) ?_
            replace hf := asr_s hf; obtain ⟨hq10, hf⟩ := hf
            replace hf := lt1_s hf; obtain ⟨m11, em11, hf⟩ := hf
            refine z_zast (M1 := m11) C Z (lvM27 Nat.zero_lt_one) (by decide) kM27 hq10 em11 stM27u dX12_settle_154 (fun H locs Z => ?_)
            refine lv_goto (tgt := 0) C.x C.b dX12_settle_155 (by decide) ?_
            exact ih  _ _ _ _ Z (lv_sub hl [0, 1] rfl) _ hf kx0
          · replace hf := ite_t hf hc9
            refine lv_aload_n C.x C.b dX12_settle_137 rfl (lv_at hl 0 rfl) ?_
            refine z_get C Z (lvM0 Nat.zero_lt_one) kM0 zc12 zin12 36 (by decide) k_1212 rfl svM0_36 dX12_settle_138 ?_
            refine lv_aload_n C.x C.b dX12_settle_141 rfl (lv_at hl 0 rfl) ?_
            refine z_get C Z (lvM0 Nat.zero_lt_one) kM0 zc12 zin12 38 (by decide) k_1214 rfl svM0_38 dX12_settle_142 ?_
            replace hf := asr_s hf; obtain ⟨hq12, hf⟩ := hf
            refine z_zald C Z (lvM27 Nat.zero_lt_one) kM27 hq12 svM27 dX12_settle_145 ?_
            refine lv_if_eq (tgt := 153) C.x C.b dX12_settle_146 (by decide) (fun hc13 => ?_) (fun hc13 => ?_)
            · replace hf := ite_t hf hc13
              refine lv_iconst (v := 0) C.x C.b dX12_settle_153 (by decide) ?_
              replace hf := asr_s hf; obtain ⟨hq14, hf⟩ := hf
              replace hf := lt1_s hf; obtain ⟨m15, em15, hf⟩ := hf
              refine z_zast (M1 := m15) C Z (lvM27 Nat.zero_lt_one) (by decide) kM27 hq14 em15 stM27u dX12_settle_154 (fun H locs Z => ?_)
              refine lv_goto (tgt := 0) C.x C.b dX12_settle_155 (by decide) ?_
              exact ih  _ _ _ _ Z (lv_sub hl [0, 1] rfl) _ hf kx0
            · replace hf := ite_f hf hc13
              refine lv_iconst (v := 1) C.x C.b dX12_settle_149 (by decide) ?_
              refine lv_goto (tgt := 154) C.x C.b dX12_settle_150 (by decide) ?_
              replace hf := asr_s hf; obtain ⟨hq16, hf⟩ := hf
              replace hf := lt1_s hf; obtain ⟨m17, em17, hf⟩ := hf
              refine z_zast (M1 := m17) C Z (lvM27 Nat.zero_lt_one) (by decide) kM27 hq16 em17 stM27u dX12_settle_154 (fun H locs Z => ?_)
              refine lv_goto (tgt := 0) C.x C.b dX12_settle_155 (by decide) ?_
              exact ih  _ _ _ _ Z (lv_sub hl [0, 1] rfl) _ hf kx0
        · replace hf := ite_t hf hc7
          refine lv_aload_n C.x C.b dX12_settle_89 rfl (lv_at hl 0 rfl) ?_
          refine z_get C Z (lvM0 Nat.zero_lt_one) kM0 zc12 zin12 36 (by decide) k_1212 rfl svM0_36 dX12_settle_90 ?_
          refine lv_aload_n C.x C.b dX12_settle_93 rfl (lv_at hl 0 rfl) ?_
          refine z_get C Z (lvM0 Nat.zero_lt_one) kM0 zc12 zin12 38 (by decide) k_1214 rfl svM0_38 dX12_settle_94 ?_
          refine lv_iconst (v := 1) C.x C.b dX12_settle_97 (by decide) ?_
          refine lv_isub C.x C.b dX12_settle_98 ?_
          replace hf := asr_s hf; obtain ⟨hq18, hf⟩ := hf
          refine z_zald C Z (lvM27 Nat.zero_lt_one) kM27 hq18 svM27 dX12_settle_99 ?_
          refine lv_if_eq (tgt := 119) C.x C.b dX12_settle_100 (by decide) (fun hc19 => ?_) (fun hc19 => ?_)
          · replace hf := ite_t hf hc19
            refine lv_iconst (v := 0) C.x C.b dX12_settle_119 (by decide) ?_
            refine lv_goto (tgt := 154) C.x C.b dX12_settle_120 (by decide) ?_
            replace hf := asr_s hf; obtain ⟨hq20, hf⟩ := hf
            replace hf := lt1_s hf; obtain ⟨m21, em21, hf⟩ := hf
            refine z_zast (M1 := m21) C Z (lvM27 Nat.zero_lt_one) (by decide) kM27 hq20 em21 stM27u dX12_settle_154 (fun H locs Z => ?_)
            refine lv_goto (tgt := 0) C.x C.b dX12_settle_155 (by decide) ?_
            exact ih  _ _ _ _ Z (lv_sub hl [0, 1] rfl) _ hf kx0
          · replace hf := ite_f hf hc19
            refine lv_aload_n C.x C.b dX12_settle_103 rfl (lv_at hl 0 rfl) ?_
            refine z_get C Z (lvM0 Nat.zero_lt_one) kM0 zc12 zin12 36 (by decide) k_1212 rfl svM0_36 dX12_settle_104 ?_
            refine lv_aload_n C.x C.b dX12_settle_107 rfl (lv_at hl 0 rfl) ?_
            refine z_get C Z (lvM0 Nat.zero_lt_one) kM0 zc12 zin12 38 (by decide) k_1214 rfl svM0_38 dX12_settle_108 ?_
            replace hf := asr_s hf; obtain ⟨hq22, hf⟩ := hf
            refine z_zald C Z (lvM27 Nat.zero_lt_one) kM27 hq22 svM27 dX12_settle_111 ?_
            refine lv_if_eq (tgt := 119) C.x C.b dX12_settle_112 (by decide) (fun hc23 => ?_) (fun hc23 => ?_)
            · replace hf := ite_t hf hc23
              refine lv_iconst (v := 0) C.x C.b dX12_settle_119 (by decide) ?_
              refine lv_goto (tgt := 154) C.x C.b dX12_settle_120 (by decide) ?_
              replace hf := asr_s hf; obtain ⟨hq24, hf⟩ := hf
              replace hf := lt1_s hf; obtain ⟨m25, em25, hf⟩ := hf
              refine z_zast (M1 := m25) C Z (lvM27 Nat.zero_lt_one) (by decide) kM27 hq24 em25 stM27u dX12_settle_154 (fun H locs Z => ?_)
              refine lv_goto (tgt := 0) C.x C.b dX12_settle_155 (by decide) ?_
              exact ih  _ _ _ _ Z (lv_sub hl [0, 1] rfl) _ hf kx0
            · replace hf := ite_f hf hc23
              refine lv_iconst (v := 1) C.x C.b dX12_settle_115 (by decide) ?_
              refine lv_goto (tgt := 154) C.x C.b dX12_settle_116 (by decide) ?_
              replace hf := asr_s hf; obtain ⟨hq26, hf⟩ := hf
              replace hf := lt1_s hf; obtain ⟨m27, em27, hf⟩ := hf
              refine z_zast (M1 := m27) C Z (lvM27 Nat.zero_lt_one) (by decide) kM27 hq26 em27 stM27u dX12_settle_154 (fun H locs Z => ?_)
              refine lv_goto (tgt := 0) C.x C.b dX12_settle_155 (by decide) ?_
              exact ih  _ _ _ _ Z (lv_sub hl [0, 1] rfl) _ hf kx0
      · replace hf := ite_f hf hc3
        refine lv_aload_n C.x C.b dX12_settle_23 rfl (lv_at hl 0 rfl) ?_
        refine z_get C Z (lvM0 Nat.zero_lt_one) kM0 zc12 zin12 35 (by decide) k_1211 rfl svM0_35 dX12_settle_24 ?_
        refine lv_aload_n C.x C.b dX12_settle_27 rfl (lv_at hl 0 rfl) ?_
        refine z_get C Z (lvM0 Nat.zero_lt_one) kM0 zc12 zin12 37 (by decide) k_1213 rfl svM0_37 dX12_settle_28 ?_
        refine lv_iconst (v := 1) C.x C.b dX12_settle_31 (by decide) ?_
        refine lv_isub C.x C.b dX12_settle_32 ?_
        replace hf := asr_s hf; obtain ⟨hq28, hf⟩ := hf
        refine z_iald C Z (lvM26 Nat.zero_lt_one) kM26 hq28 svM26 dX12_settle_33 ?_
        refine lv_bipush (v := 124) C.x C.b dX12_settle_34 (by decide) ?_
        refine lv_icmp_ne (tgt := 158) C.x C.b dX12_settle_36 (by decide) (fun hc29 => ?_) (fun hc29 => ?_)
        · replace hf := ite_f hf hc29
          obtain rfl := sm_s hf
          exact kx0 _ _ _ Z (lv_sub hl [] rfl)
        · replace hf := ite_t hf hc29
          refine lv_iload_n C.x C.b dX12_settle_39 rfl (lv_at hl 1 rfl) ?_
          refine lv_bipush (v := 38) C.x C.b dX12_settle_40 (by decide) ?_
          refine lv_icmp_eq (tgt := 158) C.x C.b dX12_settle_42 (by decide) (fun hc30 => ?_) (fun hc30 => ?_)
          · replace hf := ite_t hf hc30
            obtain rfl := sm_s hf
            exact kx0 _ _ _ Z (lv_sub hl [] rfl)
          · replace hf := ite_f hf hc30
            refine lv_aload_n C.x C.b dX12_settle_45 rfl (lv_at hl 0 rfl) ?_
            refine lv_dup C.x C.b dX12_settle_46 rfl ?_
            refine z_get C Z (lvM0 Nat.zero_lt_one) kM0 zc12 zin12 37 (by decide) k_1213 rfl svM0_37 dX12_settle_47 ?_
            refine lv_iconst (v := 1) C.x C.b dX12_settle_50 (by decide) ?_
            refine lv_isub C.x C.b dX12_settle_51 ?_
            replace hf := lt1_s hf; obtain ⟨m31, em31, hf⟩ := hf
            refine z_put (M1 := m31) C Z (lvM0 Nat.zero_lt_one) (by decide) kM0 zc12 zin12 tyX12_ok nmX12 37 (by decide) k_1213 rfl (zUp_I em31 stM0_37u) (Or.inl rfl) rfl rfl dX12_settle_52 (fun H locs Z => ?_)
            refine lv_aload_n C.x C.b dX12_settle_55 rfl (lv_at hl 0 rfl) ?_
            refine lv_dup C.x C.b dX12_settle_56 rfl ?_
            refine z_get C Z (lvM0 Nat.zero_lt_one) kM0 zc12 zin12 38 (by decide) k_1214 rfl svM0_38 dX12_settle_57 ?_
            refine lv_iconst (v := 1) C.x C.b dX12_settle_60 (by decide) ?_
            refine lv_isub C.x C.b dX12_settle_61 ?_
            replace hf := lt1_s hf; obtain ⟨m32, em32, hf⟩ := hf
            refine z_put (M1 := m32) C Z (lvM0 Nat.zero_lt_one) (by decide) kM0 zc12 zin12 tyX12_ok nmX12 38 (by decide) k_1214 rfl (zUp_I em32 stM0_38u) (Or.inl rfl) rfl rfl dX12_settle_62 (fun H locs Z => ?_)
            refine lv_aload_n C.x C.b dX12_settle_65 rfl (lv_at hl 0 rfl) ?_
            refine z_get C Z (lvM0 Nat.zero_lt_one) kM0 zc12 zin12 36 (by decide) k_1212 rfl svM0_36 dX12_settle_66 ?_
            refine lv_aload_n C.x C.b dX12_settle_69 rfl (lv_at hl 0 rfl) ?_
            refine z_get C Z (lvM0 Nat.zero_lt_one) kM0 zc12 zin12 38 (by decide) k_1214 rfl svM0_38 dX12_settle_70 ?_
            refine lv_iconst (v := 1) C.x C.b dX12_settle_73 (by decide) ?_
            refine lv_isub C.x C.b dX12_settle_74 ?_
            refine lv_aload_n C.x C.b dX12_settle_75 rfl (lv_at hl 0 rfl) ?_
            refine z_get C Z (lvM0 Nat.zero_lt_one) kM0 zc12 zin12 35 (by decide) k_1211 rfl svM0_35 dX12_settle_76 ?_
            refine lv_aload_n C.x C.b dX12_settle_79 rfl (lv_at hl 0 rfl) ?_
            refine z_get C Z (lvM0 Nat.zero_lt_one) kM0 zc12 zin12 37 (by decide) k_1213 rfl svM0_37 dX12_settle_80 ?_
            replace hf := asr_s hf; obtain ⟨hq33, hf⟩ := hf
            refine z_iald C Z (lvM26 Nat.zero_lt_one) kM26 hq33 svM26 dX12_settle_83 ?_
            refine lv_bipush (v := 38) C.x C.b dX12_settle_84 (by decide) ?_
            refine lv_icmp_ne (tgt := 123) C.x C.b dX12_settle_86 (by decide) (fun hc34 => ?_) (fun hc34 => ?_)
            · replace hf := ite_f hf hc34
              refine lv_aload_n C.x C.b dX12_settle_123 rfl (lv_at hl 0 rfl) ?_
              refine z_get C Z (lvM0 Nat.zero_lt_one) kM0 zc12 zin12 36 (by decide) k_1212 rfl svM0_36 dX12_settle_124 ?_
              refine lv_aload_n C.x C.b dX12_settle_127 rfl (lv_at hl 0 rfl) ?_
              refine z_get C Z (lvM0 Nat.zero_lt_one) kM0 zc12 zin12 38 (by decide) k_1214 rfl svM0_38 dX12_settle_128 ?_
              refine lv_iconst (v := 1) C.x C.b dX12_settle_131 (by decide) ?_
              refine lv_isub C.x C.b dX12_settle_132 ?_
              replace hf := asr_s hf; obtain ⟨hq35, hf⟩ := hf
              refine z_zald C Z (lvM27 Nat.zero_lt_one) kM27 hq35 svM27 dX12_settle_133 ?_
              refine lv_if_ne (tgt := 149) C.x C.b dX12_settle_134 (by decide) (fun hc36 => ?_) (fun hc36 => ?_)
              · replace hf := ite_f hf hc36
                refine lv_iconst (v := 1) C.x C.b dX12_settle_149 (by decide) ?_
                refine lv_goto (tgt := 154) C.x C.b dX12_settle_150 (by decide) ?_
                replace hf := asr_s hf; obtain ⟨hq37, hf⟩ := hf
                replace hf := lt1_s hf; obtain ⟨m38, em38, hf⟩ := hf
                refine z_zast (M1 := m38) C Z (lvM27 Nat.zero_lt_one) (by decide) kM27 hq37 em38 stM27u dX12_settle_154 (fun H locs Z => ?_)
                refine lv_goto (tgt := 0) C.x C.b dX12_settle_155 (by decide) ?_
                exact ih  _ _ _ _ Z (lv_sub hl [0, 1] rfl) _ hf kx0
              · replace hf := ite_t hf hc36
                refine lv_aload_n C.x C.b dX12_settle_137 rfl (lv_at hl 0 rfl) ?_
                refine z_get C Z (lvM0 Nat.zero_lt_one) kM0 zc12 zin12 36 (by decide) k_1212 rfl svM0_36 dX12_settle_138 ?_
                refine lv_aload_n C.x C.b dX12_settle_141 rfl (lv_at hl 0 rfl) ?_
                refine z_get C Z (lvM0 Nat.zero_lt_one) kM0 zc12 zin12 38 (by decide) k_1214 rfl svM0_38 dX12_settle_142 ?_
                replace hf := asr_s hf; obtain ⟨hq39, hf⟩ := hf
                refine z_zald C Z (lvM27 Nat.zero_lt_one) kM27 hq39 svM27 dX12_settle_145 ?_
                refine lv_if_eq (tgt := 153) C.x C.b dX12_settle_146 (by decide) (fun hc40 => ?_) (fun hc40 => ?_)
                · replace hf := ite_t hf hc40
                  refine lv_iconst (v := 0) C.x C.b dX12_settle_153 (by decide) ?_
                  replace hf := asr_s hf; obtain ⟨hq41, hf⟩ := hf
                  replace hf := lt1_s hf; obtain ⟨m42, em42, hf⟩ := hf
                  refine z_zast (M1 := m42) C Z (lvM27 Nat.zero_lt_one) (by decide) kM27 hq41 em42 stM27u dX12_settle_154 (fun H locs Z => ?_)
                  refine lv_goto (tgt := 0) C.x C.b dX12_settle_155 (by decide) ?_
                  exact ih  _ _ _ _ Z (lv_sub hl [0, 1] rfl) _ hf kx0
                · replace hf := ite_f hf hc40
                  refine lv_iconst (v := 1) C.x C.b dX12_settle_149 (by decide) ?_
                  refine lv_goto (tgt := 154) C.x C.b dX12_settle_150 (by decide) ?_
                  replace hf := asr_s hf; obtain ⟨hq43, hf⟩ := hf
                  replace hf := lt1_s hf; obtain ⟨m44, em44, hf⟩ := hf
                  refine z_zast (M1 := m44) C Z (lvM27 Nat.zero_lt_one) (by decide) kM27 hq43 em44 stM27u dX12_settle_154 (fun H locs Z => ?_)
                  refine lv_goto (tgt := 0) C.x C.b dX12_settle_155 (by decide) ?_
                  exact ih  _ _ _ _ Z (lv_sub hl [0, 1] rfl) _ hf kx0
            · replace hf := ite_t hf hc34
              refine lv_aload_n C.x C.b dX12_settle_89 rfl (lv_at hl 0 rfl) ?_
              refine z_get C Z (lvM0 Nat.zero_lt_one) kM0 zc12 zin12 36 (by decide) k_1212 rfl svM0_36 dX12_settle_90 ?_
              refine lv_aload_n C.x C.b dX12_settle_93 rfl (lv_at hl 0 rfl) ?_
              refine z_get C Z (lvM0 Nat.zero_lt_one) kM0 zc12 zin12 38 (by decide) k_1214 rfl svM0_38 dX12_settle_94 ?_
              refine lv_iconst (v := 1) C.x C.b dX12_settle_97 (by decide) ?_
              refine lv_isub C.x C.b dX12_settle_98 ?_
              replace hf := asr_s hf; obtain ⟨hq45, hf⟩ := hf
              refine z_zald C Z (lvM27 Nat.zero_lt_one) kM27 hq45 svM27 dX12_settle_99 ?_
              refine lv_if_eq (tgt := 119) C.x C.b dX12_settle_100 (by decide) (fun hc46 => ?_) (fun hc46 => ?_)
              · replace hf := ite_t hf hc46
                refine lv_iconst (v := 0) C.x C.b dX12_settle_119 (by decide) ?_
                refine lv_goto (tgt := 154) C.x C.b dX12_settle_120 (by decide) ?_
                replace hf := asr_s hf; obtain ⟨hq47, hf⟩ := hf
                replace hf := lt1_s hf; obtain ⟨m48, em48, hf⟩ := hf
                refine z_zast (M1 := m48) C Z (lvM27 Nat.zero_lt_one) (by decide) kM27 hq47 em48 stM27u dX12_settle_154 (fun H locs Z => ?_)
                refine lv_goto (tgt := 0) C.x C.b dX12_settle_155 (by decide) ?_
                exact ih  _ _ _ _ Z (lv_sub hl [0, 1] rfl) _ hf kx0
              · replace hf := ite_f hf hc46
                refine lv_aload_n C.x C.b dX12_settle_103 rfl (lv_at hl 0 rfl) ?_
                refine z_get C Z (lvM0 Nat.zero_lt_one) kM0 zc12 zin12 36 (by decide) k_1212 rfl svM0_36 dX12_settle_104 ?_
                refine lv_aload_n C.x C.b dX12_settle_107 rfl (lv_at hl 0 rfl) ?_
                refine z_get C Z (lvM0 Nat.zero_lt_one) kM0 zc12 zin12 38 (by decide) k_1214 rfl svM0_38 dX12_settle_108 ?_
                replace hf := asr_s hf; obtain ⟨hq49, hf⟩ := hf
                refine z_zald C Z (lvM27 Nat.zero_lt_one) kM27 hq49 svM27 dX12_settle_111 ?_
                refine lv_if_eq (tgt := 119) C.x C.b dX12_settle_112 (by decide) (fun hc50 => ?_) (fun hc50 => ?_)
                · replace hf := ite_t hf hc50
                  refine lv_iconst (v := 0) C.x C.b dX12_settle_119 (by decide) ?_
                  refine lv_goto (tgt := 154) C.x C.b dX12_settle_120 (by decide) ?_
                  replace hf := asr_s hf; obtain ⟨hq51, hf⟩ := hf
                  replace hf := lt1_s hf; obtain ⟨m52, em52, hf⟩ := hf
                  refine z_zast (M1 := m52) C Z (lvM27 Nat.zero_lt_one) (by decide) kM27 hq51 em52 stM27u dX12_settle_154 (fun H locs Z => ?_)
                  refine lv_goto (tgt := 0) C.x C.b dX12_settle_155 (by decide) ?_
                  exact ih  _ _ _ _ Z (lv_sub hl [0, 1] rfl) _ hf kx0
                · replace hf := ite_f hf hc50
                  refine lv_iconst (v := 1) C.x C.b dX12_settle_115 (by decide) ?_
                  refine lv_goto (tgt := 154) C.x C.b dX12_settle_116 (by decide) ?_
                  replace hf := asr_s hf; obtain ⟨hq53, hf⟩ := hf
                  replace hf := lt1_s hf; obtain ⟨m54, em54, hf⟩ := hf
                  refine z_zast (M1 := m54) C Z (lvM27 Nat.zero_lt_one) (by decide) kM27 hq53 em54 stM27u dX12_settle_154 (fun H locs Z => ?_)
                  refine lv_goto (tgt := 0) C.x C.b dX12_settle_155 (by decide) ?_
                  exact ih  _ _ _ _ Z (lv_sub hl [0, 1] rfl) _ hf kx0
set_option maxRecDepth 100000 in
set_option maxHeartbeats 4000000 in
theorem c_X12_settle {l : Launch} {K : KG} {ad : Nat → Nat → Nat} {fl : Nat} {a1 : Int32} {M0 : Mem} {M9 : Mem} (hf : f_X12_settle fl a1 M0 = some M9) : Met l yX12_settle (Cond.code yX12_settle cX12_settle 2 none :: ztb) (RM (1) 0 0) (zPc K LM ad M0 [.ref (ad 0 0), .int a1]) (zQ K LM ad (none) M9) 0 0 (zA ad) := by
  refine z_enter (by decide) (Nat.le_of_ble_eq_true rfl) ?_
  intro p e s m args below meth c ls C hin hargs Z hl
  replace C : Cx p s m args meth c cX12_settle 2 "GlassPalaceModel" none := C
  replace hl : lv_has ls 2 [(0, .ref (ad 0 0)), (1, .int a1)] := hl
  have hR : 1 ≤ (RM (1) 0 0).frames ∧ 40 * (1) ≤ (RM (1) 0 0).locals := ⟨Nat.le_refl _, Nat.le_refl _⟩
  have hB : 0 ≤ (RM (1) 0 0).cells ∧ 0 ≤ (RM (1) 0 0).slots := ⟨Nat.zero_le _, Nat.zero_le _⟩
  unfold f_X12_settle at hf
  replace hf := bn1_s hf; obtain ⟨m56, hq55, hf⟩ := hf
  refine w_X12_settle_l0 C hR hB  fl  _ _ _ _ Z (lv_sub hl [0, 1] rfl) _ hq55 (fun H locs ls Z hl => ?_)
  obtain rfl := sm_s hf
  exact z_vret C Z dX12_settle_158
theorem dX12_takesE_0 : decode cX12_takesE 0 = .ok (.aload_n 0, 1) := by decide +kernel
theorem dX12_takesE_1 : decode cX12_takesE 1 = .ok (.iconst 0, 1) := by decide +kernel
theorem dX12_takesE_2 : decode cX12_takesE 2 = .ok (.putfield 131, 3) := by decide +kernel
theorem dX12_takesE_5 : decode cX12_takesE 5 = .ok (.aload_n 0, 1) := by decide +kernel
theorem dX12_takesE_6 : decode cX12_takesE 6 = .ok (.iconst 0, 1) := by decide +kernel
theorem dX12_takesE_7 : decode cX12_takesE 7 = .ok (.putfield 134, 3) := by decide +kernel
theorem dX12_takesE_10 : decode cX12_takesE 10 = .ok (.aload_n 0, 1) := by decide +kernel
theorem dX12_takesE_11 : decode cX12_takesE 11 = .ok (.iconst 0, 1) := by decide +kernel
theorem dX12_takesE_12 : decode cX12_takesE 12 = .ok (.putfield 137, 3) := by decide +kernel
theorem dX12_takesE_15 : decode cX12_takesE 15 = .ok (.iconst 1, 1) := by decide +kernel
theorem dX12_takesE_16 : decode cX12_takesE 16 = .ok (.istore_n 1, 1) := by decide +kernel
theorem dX12_takesE_17 : decode cX12_takesE 17 = .ok (.aload_n 0, 1) := by decide +kernel
theorem dX12_takesE_18 : decode cX12_takesE 18 = .ok (.invokevirtual 286, 3) := by decide +kernel
theorem dX12_takesE_21 : decode cX12_takesE 21 = .ok (.istore_n 2, 1) := by decide +kernel
theorem dX12_takesE_22 : decode cX12_takesE 22 = .ok (.iload_n 1, 1) := by decide +kernel
theorem dX12_takesE_23 : decode cX12_takesE 23 = .ok (.ifCond .eq 82, 3) := by decide +kernel
theorem dX12_takesE_26 : decode cX12_takesE 26 = .ok (.iload_n 2, 1) := by decide +kernel
theorem dX12_takesE_27 : decode cX12_takesE 27 = .ok (.bipush 33, 2) := by decide +kernel
theorem dX12_takesE_29 : decode cX12_takesE 29 = .ok (.if_icmp .eq 9, 3) := by decide +kernel
theorem dX12_takesE_32 : decode cX12_takesE 32 = .ok (.iload_n 2, 1) := by decide +kernel
theorem dX12_takesE_33 : decode cX12_takesE 33 = .ok (.bipush 40, 2) := by decide +kernel
theorem dX12_takesE_35 : decode cX12_takesE 35 = .ok (.if_icmp .ne 56, 3) := by decide +kernel
theorem dX12_takesE_38 : decode cX12_takesE 38 = .ok (.aload_n 0, 1) := by decide +kernel
theorem dX12_takesE_39 : decode cX12_takesE 39 = .ok (.getfield 137, 3) := by decide +kernel
theorem dX12_takesE_42 : decode cX12_takesE 42 = .ok (.iconst 4, 1) := by decide +kernel
theorem dX12_takesE_43 : decode cX12_takesE 43 = .ok (.if_icmp .ne 5, 3) := by decide +kernel
theorem dX12_takesE_46 : decode cX12_takesE 46 = .ok (.iconst 0, 1) := by decide +kernel
theorem dX12_takesE_47 : decode cX12_takesE 47 = .ok (.ireturn, 1) := by decide +kernel
theorem dX12_takesE_48 : decode cX12_takesE 48 = .ok (.aload_n 0, 1) := by decide +kernel
theorem dX12_takesE_49 : decode cX12_takesE 49 = .ok (.dup, 1) := by decide +kernel
theorem dX12_takesE_50 : decode cX12_takesE 50 = .ok (.getfield 137, 3) := by decide +kernel
theorem dX12_takesE_53 : decode cX12_takesE 53 = .ok (.iconst 1, 1) := by decide +kernel
theorem dX12_takesE_54 : decode cX12_takesE 54 = .ok (.iadd, 1) := by decide +kernel
theorem dX12_takesE_55 : decode cX12_takesE 55 = .ok (.putfield 137, 3) := by decide +kernel
theorem dX12_takesE_58 : decode cX12_takesE 58 = .ok (.aload_n 0, 1) := by decide +kernel
theorem dX12_takesE_59 : decode cX12_takesE 59 = .ok (.getfield 125, 3) := by decide +kernel
theorem dX12_takesE_62 : decode cX12_takesE 62 = .ok (.aload_n 0, 1) := by decide +kernel
theorem dX12_takesE_63 : decode cX12_takesE 63 = .ok (.getfield 131, 3) := by decide +kernel
theorem dX12_takesE_66 : decode cX12_takesE 66 = .ok (.iload_n 2, 1) := by decide +kernel
theorem dX12_takesE_67 : decode cX12_takesE 67 = .ok (.iastore, 1) := by decide +kernel
theorem dX12_takesE_68 : decode cX12_takesE 68 = .ok (.aload_n 0, 1) := by decide +kernel
theorem dX12_takesE_69 : decode cX12_takesE 69 = .ok (.dup, 1) := by decide +kernel
theorem dX12_takesE_70 : decode cX12_takesE 70 = .ok (.getfield 131, 3) := by decide +kernel
theorem dX12_takesE_73 : decode cX12_takesE 73 = .ok (.iconst 1, 1) := by decide +kernel
theorem dX12_takesE_74 : decode cX12_takesE 74 = .ok (.iadd, 1) := by decide +kernel
theorem dX12_takesE_75 : decode cX12_takesE 75 = .ok (.putfield 131, 3) := by decide +kernel
theorem dX12_takesE_78 : decode cX12_takesE 78 = .ok (.aload_n 0, 1) := by decide +kernel
theorem dX12_takesE_79 : decode cX12_takesE 79 = .ok (.dup, 1) := by decide +kernel
theorem dX12_takesE_80 : decode cX12_takesE 80 = .ok (.getfield 116, 3) := by decide +kernel
theorem dX12_takesE_83 : decode cX12_takesE 83 = .ok (.iconst 1, 1) := by decide +kernel
theorem dX12_takesE_84 : decode cX12_takesE 84 = .ok (.iadd, 1) := by decide +kernel
theorem dX12_takesE_85 : decode cX12_takesE 85 = .ok (.putfield 116, 3) := by decide +kernel
theorem dX12_takesE_88 : decode cX12_takesE 88 = .ok (.goto (-71), 3) := by decide +kernel
theorem dX12_takesE_91 : decode cX12_takesE 91 = .ok (.aload_n 0, 1) := by decide +kernel
theorem dX12_takesE_92 : decode cX12_takesE 92 = .ok (.invokevirtual 304, 3) := by decide +kernel
theorem dX12_takesE_95 : decode cX12_takesE 95 = .ok (.ifCond .eq 8, 3) := by decide +kernel
theorem dX12_takesE_98 : decode cX12_takesE 98 = .ok (.iconst 0, 1) := by decide +kernel
theorem dX12_takesE_99 : decode cX12_takesE 99 = .ok (.istore_n 1, 1) := by decide +kernel
theorem dX12_takesE_100 : decode cX12_takesE 100 = .ok (.goto (-83), 3) := by decide +kernel
theorem dX12_takesE_103 : decode cX12_takesE 103 = .ok (.iconst 0, 1) := by decide +kernel
theorem dX12_takesE_104 : decode cX12_takesE 104 = .ok (.ireturn, 1) := by decide +kernel
theorem dX12_takesE_105 : decode cX12_takesE 105 = .ok (.iload_n 2, 1) := by decide +kernel
theorem dX12_takesE_106 : decode cX12_takesE 106 = .ok (.bipush 38, 2) := by decide +kernel
theorem dX12_takesE_108 : decode cX12_takesE 108 = .ok (.if_icmp .eq 9, 3) := by decide +kernel
theorem dX12_takesE_111 : decode cX12_takesE 111 = .ok (.iload_n 2, 1) := by decide +kernel
theorem dX12_takesE_112 : decode cX12_takesE 112 = .ok (.bipush 124, 2) := by decide +kernel
theorem dX12_takesE_114 : decode cX12_takesE 114 = .ok (.if_icmp .ne 43, 3) := by decide +kernel
theorem dX12_takesE_117 : decode cX12_takesE 117 = .ok (.aload_n 0, 1) := by decide +kernel
theorem dX12_takesE_118 : decode cX12_takesE 118 = .ok (.iload_n 2, 1) := by decide +kernel
theorem dX12_takesE_119 : decode cX12_takesE 119 = .ok (.invokevirtual 307, 3) := by decide +kernel
theorem dX12_takesE_122 : decode cX12_takesE 122 = .ok (.aload_n 0, 1) := by decide +kernel
theorem dX12_takesE_123 : decode cX12_takesE 123 = .ok (.getfield 125, 3) := by decide +kernel
theorem dX12_takesE_126 : decode cX12_takesE 126 = .ok (.aload_n 0, 1) := by decide +kernel
theorem dX12_takesE_127 : decode cX12_takesE 127 = .ok (.getfield 131, 3) := by decide +kernel
theorem dX12_takesE_130 : decode cX12_takesE 130 = .ok (.iload_n 2, 1) := by decide +kernel
theorem dX12_takesE_131 : decode cX12_takesE 131 = .ok (.iastore, 1) := by decide +kernel
theorem dX12_takesE_132 : decode cX12_takesE 132 = .ok (.aload_n 0, 1) := by decide +kernel
theorem dX12_takesE_133 : decode cX12_takesE 133 = .ok (.dup, 1) := by decide +kernel
theorem dX12_takesE_134 : decode cX12_takesE 134 = .ok (.getfield 131, 3) := by decide +kernel
theorem dX12_takesE_137 : decode cX12_takesE 137 = .ok (.iconst 1, 1) := by decide +kernel
theorem dX12_takesE_138 : decode cX12_takesE 138 = .ok (.iadd, 1) := by decide +kernel
theorem dX12_takesE_139 : decode cX12_takesE 139 = .ok (.putfield 131, 3) := by decide +kernel
theorem dX12_takesE_142 : decode cX12_takesE 142 = .ok (.iconst 1, 1) := by decide +kernel
theorem dX12_takesE_143 : decode cX12_takesE 143 = .ok (.istore_n 1, 1) := by decide +kernel
theorem dX12_takesE_144 : decode cX12_takesE 144 = .ok (.aload_n 0, 1) := by decide +kernel
theorem dX12_takesE_145 : decode cX12_takesE 145 = .ok (.dup, 1) := by decide +kernel
theorem dX12_takesE_146 : decode cX12_takesE 146 = .ok (.getfield 116, 3) := by decide +kernel
theorem dX12_takesE_149 : decode cX12_takesE 149 = .ok (.iconst 1, 1) := by decide +kernel
theorem dX12_takesE_150 : decode cX12_takesE 150 = .ok (.iadd, 1) := by decide +kernel
theorem dX12_takesE_151 : decode cX12_takesE 151 = .ok (.putfield 116, 3) := by decide +kernel
theorem dX12_takesE_154 : decode cX12_takesE 154 = .ok (.goto (-137), 3) := by decide +kernel
theorem dX12_takesE_157 : decode cX12_takesE 157 = .ok (.aload_n 0, 1) := by decide +kernel
theorem dX12_takesE_158 : decode cX12_takesE 158 = .ok (.bipush 124, 2) := by decide +kernel
theorem dX12_takesE_160 : decode cX12_takesE 160 = .ok (.invokevirtual 307, 3) := by decide +kernel
theorem dX12_takesE_163 : decode cX12_takesE 163 = .ok (.aload_n 0, 1) := by decide +kernel
theorem dX12_takesE_164 : decode cX12_takesE 164 = .ok (.getfield 131, 3) := by decide +kernel
theorem dX12_takesE_167 : decode cX12_takesE 167 = .ok (.ifCond .ne 5, 3) := by decide +kernel
theorem dX12_takesE_170 : decode cX12_takesE 170 = .ok (.iconst 1, 1) := by decide +kernel
theorem dX12_takesE_171 : decode cX12_takesE 171 = .ok (.ireturn, 1) := by decide +kernel
theorem dX12_takesE_172 : decode cX12_takesE 172 = .ok (.iload_n 2, 1) := by decide +kernel
theorem dX12_takesE_173 : decode cX12_takesE 173 = .ok (.bipush 41, 2) := by decide +kernel
theorem dX12_takesE_175 : decode cX12_takesE 175 = .ok (.if_icmp .eq 5, 3) := by decide +kernel
theorem dX12_takesE_178 : decode cX12_takesE 178 = .ok (.iconst 0, 1) := by decide +kernel
theorem dX12_takesE_179 : decode cX12_takesE 179 = .ok (.ireturn, 1) := by decide +kernel
theorem dX12_takesE_180 : decode cX12_takesE 180 = .ok (.aload_n 0, 1) := by decide +kernel
theorem dX12_takesE_181 : decode cX12_takesE 181 = .ok (.dup, 1) := by decide +kernel
theorem dX12_takesE_182 : decode cX12_takesE 182 = .ok (.getfield 131, 3) := by decide +kernel
theorem dX12_takesE_185 : decode cX12_takesE 185 = .ok (.iconst 1, 1) := by decide +kernel
theorem dX12_takesE_186 : decode cX12_takesE 186 = .ok (.isub, 1) := by decide +kernel
theorem dX12_takesE_187 : decode cX12_takesE 187 = .ok (.putfield 131, 3) := by decide +kernel
theorem dX12_takesE_190 : decode cX12_takesE 190 = .ok (.aload_n 0, 1) := by decide +kernel
theorem dX12_takesE_191 : decode cX12_takesE 191 = .ok (.dup, 1) := by decide +kernel
theorem dX12_takesE_192 : decode cX12_takesE 192 = .ok (.getfield 137, 3) := by decide +kernel
theorem dX12_takesE_195 : decode cX12_takesE 195 = .ok (.iconst 1, 1) := by decide +kernel
theorem dX12_takesE_196 : decode cX12_takesE 196 = .ok (.isub, 1) := by decide +kernel
theorem dX12_takesE_197 : decode cX12_takesE 197 = .ok (.putfield 137, 3) := by decide +kernel
theorem dX12_takesE_200 : decode cX12_takesE 200 = .ok (.aload_n 0, 1) := by decide +kernel
theorem dX12_takesE_201 : decode cX12_takesE 201 = .ok (.dup, 1) := by decide +kernel
theorem dX12_takesE_202 : decode cX12_takesE 202 = .ok (.getfield 134, 3) := by decide +kernel
theorem dX12_takesE_205 : decode cX12_takesE 205 = .ok (.iconst 1, 1) := by decide +kernel
theorem dX12_takesE_206 : decode cX12_takesE 206 = .ok (.isub, 1) := by decide +kernel
theorem dX12_takesE_207 : decode cX12_takesE 207 = .ok (.putfield 134, 3) := by decide +kernel
theorem dX12_takesE_210 : decode cX12_takesE 210 = .ok (.aload_n 0, 1) := by decide +kernel
theorem dX12_takesE_211 : decode cX12_takesE 211 = .ok (.dup, 1) := by decide +kernel
theorem dX12_takesE_212 : decode cX12_takesE 212 = .ok (.getfield 116, 3) := by decide +kernel
theorem dX12_takesE_215 : decode cX12_takesE 215 = .ok (.iconst 1, 1) := by decide +kernel
theorem dX12_takesE_216 : decode cX12_takesE 216 = .ok (.iadd, 1) := by decide +kernel
theorem dX12_takesE_217 : decode cX12_takesE 217 = .ok (.putfield 116, 3) := by decide +kernel
theorem dX12_takesE_220 : decode cX12_takesE 220 = .ok (.aload_n 0, 1) := by decide +kernel
theorem dX12_takesE_221 : decode cX12_takesE 221 = .ok (.aload_n 0, 1) := by decide +kernel
theorem dX12_takesE_222 : decode cX12_takesE 222 = .ok (.getfield 128, 3) := by decide +kernel
theorem dX12_takesE_225 : decode cX12_takesE 225 = .ok (.aload_n 0, 1) := by decide +kernel
theorem dX12_takesE_226 : decode cX12_takesE 226 = .ok (.getfield 134, 3) := by decide +kernel
theorem dX12_takesE_229 : decode cX12_takesE 229 = .ok (.baload, 1) := by decide +kernel
theorem dX12_takesE_230 : decode cX12_takesE 230 = .ok (.invokevirtual 300, 3) := by decide +kernel
theorem dX12_takesE_233 : decode cX12_takesE 233 = .ok (.goto (-216), 3) := by decide +kernel
set_option maxRecDepth 100000 in
set_option maxHeartbeats 4000000 in
theorem w_X12_takesE_l17 {p : Program} {l : Launch} {e : Env} {R : Room} {s : State} {m : MethodId} {args : Array Value} {below : List Frame} {meth : Method} {c : Code} {cells slots : Nat} {Q : State → Prop} {K : KG} {ad : Nat → Nat → Nat} {fl : Nat} (C : Cx p s m args meth c cX12_takesE 3 "GlassPalaceModel" (some .boolean)) (hR : 5 ≤ R.frames ∧ 40 * (5) ≤ R.locals) (hB : cells ≤ R.cells ∧ slots ≤ R.slots) : ∀ (n : Nat) (u1 : Int32) (M0 : Mem) (H : Heap) (locs : List Loc) (ls : Array Slot), Zd K LM ad M0 s H locs → lv_has ls 3 [(0, .ref (ad 0 0)), (1, .int u1)] → ∀ (q : Nat) (Mq : Mem), f_X12_takesE_l17 fl  n u1 M0 = some (q, Mq) → (q = 0 → ∀ (H : Heap) (locs : List Loc) (ls : Array Slot), Zd K LM ad Mq s H locs → lv_has ls 3 [] → W p l e R s m args below meth c H locs cells slots Q (F0 m 46 ls [])) → (q = 1 → ∀ (H : Heap) (locs : List Loc) (ls : Array Slot), Zd K LM ad Mq s H locs → lv_has ls 3 [] → W p l e R s m args below meth c H locs cells slots Q (F0 m 103 ls [])) → (q = 2 → ∀ (H : Heap) (locs : List Loc) (ls : Array Slot), Zd K LM ad Mq s H locs → lv_has ls 3 [] → W p l e R s m args below meth c H locs cells slots Q (F0 m 170 ls [])) → (q = 3 → ∀ (H : Heap) (locs : List Loc) (ls : Array Slot), Zd K LM ad Mq s H locs → lv_has ls 3 [] → W p l e R s m args below meth c H locs cells slots Q (F0 m 178 ls [])) → W p l e R s m args below meth c H locs cells slots Q (F0 m 17 ls []) := by
  intro n
  induction n with
  | zero =>
    intro u1 M0 H locs ls Z hl q Mq hf
    have hf : (none : Option (Nat × Mem)) = some (q, Mq) := hf
    cases hf
  | succ n ih =>
    intro u1 M0 H locs ls Z hl q Mq hf kx0 kx1 kx2 kx3
    replace hf : f_X12_takesE_l17_b (f_X12_takesE_l17 fl  n) fl  u1 M0 = some (q, Mq) := hf
    unfold f_X12_takesE_l17_b at hf
    refine lv_aload_n C.x C.b dX12_takesE_17 rfl (lv_at hl 0 rfl) ?_
    replace hf := bn2_s hf; obtain ⟨v5, m4, hkm4, hf⟩ := hf
    refine z_cV (As := []) (rest := []) (st1 := [.int v5]) C Z mw_X12_next mv_X12_next k_1470 (by decide) (z_hR hR (by decide)) (lvM0 Nat.zero_lt_one) kM0 zc12 (c_X12_next (l := l) (K := K) (ad := ad) hkm4) rfl hl.1 rfl (Nat.le_of_ble_eq_true rfl) dX12_takesE_18 hB rfl (fun H locs Z => ?_)
    refine z_istore_n (lv' := [(2, .int v5), (0, .ref (ad 0 0)), (1, .int u1)]) C dX12_takesE_21 rfl hl (by decide) rfl (onlast 1 rfl rfl rfl) (fun ls hl => ?_)
    refine lv_iload_n C.x C.b dX12_takesE_22 rfl (lv_at hl 2 rfl) ?_
    refine lv_if_eq (tgt := 105) C.x C.b dX12_takesE_23 (by decide) (fun hc6 => ?_) (fun hc6 => ?_)
    · replace hf := ite_t hf hc6
      refine lv_iload_n C.x C.b dX12_takesE_105 rfl (lv_at hl 0 rfl) ?_
      refine lv_bipush (v := 38) C.x C.b dX12_takesE_106 (by decide) ?_
      refine lv_icmp_eq (tgt := 117) C.x C.b dX12_takesE_108 (by decide) (fun hc7 => ?_) (fun hc7 => ?_)
      · replace hf := ite_t hf hc7
        refine lv_aload_n C.x C.b dX12_takesE_117 rfl (lv_at hl 1 rfl) ?_
        refine lv_iload_n C.x C.b dX12_takesE_118 rfl (lv_at hl 0 rfl) ?_
        replace hf := bn1_s hf; obtain ⟨m8, hkm8, hf⟩ := hf
        refine z_cV (As := [.int v5]) (rest := []) (st1 := []) C Z mw_X12_settle mv_X12_settle k_1505 (by decide) (z_hR hR (by decide)) (lvM0 Nat.zero_lt_one) kM0 zc12 (c_X12_settle (l := l) (K := K) (ad := ad) hkm8) rfl hl.1 rfl (Nat.le_of_ble_eq_true rfl) dX12_takesE_119 hB rfl (fun H locs Z => ?_)
        refine lv_aload_n C.x C.b dX12_takesE_122 rfl (lv_at hl 1 rfl) ?_
        refine z_get C Z (lvM0 Nat.zero_lt_one) kM0 zc12 zin12 35 (by decide) k_1211 rfl svM0_35 dX12_takesE_123 ?_
        refine lv_aload_n C.x C.b dX12_takesE_126 rfl (lv_at hl 1 rfl) ?_
        refine z_get C Z (lvM0 Nat.zero_lt_one) kM0 zc12 zin12 37 (by decide) k_1213 rfl svM0_37 dX12_takesE_127 ?_
        refine lv_iload_n C.x C.b dX12_takesE_130 rfl (lv_at hl 0 rfl) ?_
        replace hf := asr_s hf; obtain ⟨hq9, hf⟩ := hf
        replace hf := lt1_s hf; obtain ⟨m10, em10, hf⟩ := hf
        refine z_iast (M1 := m10) C Z (lvM26 Nat.zero_lt_one) (by decide) kM26 hq9 em10 stM26u dX12_takesE_131 (fun H locs Z => ?_)
        refine lv_aload_n C.x C.b dX12_takesE_132 rfl (lv_at hl 1 rfl) ?_
        refine lv_dup C.x C.b dX12_takesE_133 rfl ?_
        refine z_get C Z (lvM0 Nat.zero_lt_one) kM0 zc12 zin12 37 (by decide) k_1213 rfl svM0_37 dX12_takesE_134 ?_
        refine lv_iconst (v := 1) C.x C.b dX12_takesE_137 (by decide) ?_
        refine lv_iadd C.x C.b dX12_takesE_138 ?_
        replace hf := lt1_s hf; obtain ⟨m11, em11, hf⟩ := hf
        refine z_put (M1 := m11) C Z (lvM0 Nat.zero_lt_one) (by decide) kM0 zc12 zin12 tyX12_ok nmX12 37 (by decide) k_1213 rfl (zUp_I em11 stM0_37u) (Or.inl rfl) rfl rfl dX12_takesE_139 (fun H locs Z => ?_)
        refine lv_iconst (v := 1) C.x C.b dX12_takesE_142 (by decide) ?_
        refine z_istore_n (lv' := [(1, .int 1), (2, .int v5), (0, .ref (ad 0 0))]) C dX12_takesE_143 rfl hl (by decide) rfl (onlast 1 rfl rfl rfl) (fun ls hl => ?_)
        refine lv_aload_n C.x C.b dX12_takesE_144 rfl (lv_at hl 2 rfl) ?_
        refine lv_dup C.x C.b dX12_takesE_145 rfl ?_
        refine z_get C Z (lvM0 Nat.zero_lt_one) kM0 zc12 zin12 32 (by decide) k_1208 rfl svM0_32 dX12_takesE_146 ?_
        refine lv_iconst (v := 1) C.x C.b dX12_takesE_149 (by decide) ?_
        refine lv_iadd C.x C.b dX12_takesE_150 ?_
        replace hf := lt1_s hf; obtain ⟨m12, em12, hf⟩ := hf
        refine z_put (M1 := m12) C Z (lvM0 Nat.zero_lt_one) (by decide) kM0 zc12 zin12 tyX12_ok nmX12 32 (by decide) k_1208 rfl (zUp_I em12 stM0_32u) (Or.inl rfl) rfl rfl dX12_takesE_151 (fun H locs Z => ?_)
        refine lv_goto (tgt := 17) C.x C.b dX12_takesE_154 (by decide) ?_
        exact ih _ _ _ _ _ Z (lv_sub hl [2, 0] rfl) _ _ hf kx0 kx1 kx2 kx3
      · replace hf := ite_f hf hc7
        refine lv_iload_n C.x C.b dX12_takesE_111 rfl (lv_at hl 0 rfl) ?_
        refine lv_bipush (v := 124) C.x C.b dX12_takesE_112 (by decide) ?_
        refine lv_icmp_ne (tgt := 157) C.x C.b dX12_takesE_114 (by decide) (fun hc13 => ?_) (fun hc13 => ?_)
        · replace hf := ite_f hf hc13
          refine lv_aload_n C.x C.b dX12_takesE_157 rfl (lv_at hl 1 rfl) ?_
          refine lv_bipush (v := 124) C.x C.b dX12_takesE_158 (by decide) ?_
          replace hf := bn1_s hf; obtain ⟨m14, hkm14, hf⟩ := hf
          refine z_cV (As := [.int 124]) (rest := []) (st1 := []) C Z mw_X12_settle mv_X12_settle k_1505 (by decide) (z_hR hR (by decide)) (lvM0 Nat.zero_lt_one) kM0 zc12 (c_X12_settle (l := l) (K := K) (ad := ad) hkm14) rfl hl.1 rfl (Nat.le_of_ble_eq_true rfl) dX12_takesE_160 hB rfl (fun H locs Z => ?_)
          refine lv_aload_n C.x C.b dX12_takesE_163 rfl (lv_at hl 1 rfl) ?_
          refine z_get C Z (lvM0 Nat.zero_lt_one) kM0 zc12 zin12 37 (by decide) k_1213 rfl svM0_37 dX12_takesE_164 ?_
          refine lv_if_ne (tgt := 172) C.x C.b dX12_takesE_167 (by decide) (fun hc15 => ?_) (fun hc15 => ?_)
          · replace hf := ite_f hf hc15
            refine lv_iload_n C.x C.b dX12_takesE_172 rfl (lv_at hl 0 rfl) ?_
            refine lv_bipush (v := 41) C.x C.b dX12_takesE_173 (by decide) ?_
            refine lv_icmp_eq (tgt := 180) C.x C.b dX12_takesE_175 (by decide) (fun hc16 => ?_) (fun hc16 => ?_)
            · replace hf := ite_t hf hc16
              refine lv_aload_n C.x C.b dX12_takesE_180 rfl (lv_at hl 1 rfl) ?_
              refine lv_dup C.x C.b dX12_takesE_181 rfl ?_
              refine z_get C Z (lvM0 Nat.zero_lt_one) kM0 zc12 zin12 37 (by decide) k_1213 rfl svM0_37 dX12_takesE_182 ?_
              refine lv_iconst (v := 1) C.x C.b dX12_takesE_185 (by decide) ?_
              refine lv_isub C.x C.b dX12_takesE_186 ?_
              replace hf := lt1_s hf; obtain ⟨m17, em17, hf⟩ := hf
              refine z_put (M1 := m17) C Z (lvM0 Nat.zero_lt_one) (by decide) kM0 zc12 zin12 tyX12_ok nmX12 37 (by decide) k_1213 rfl (zUp_I em17 stM0_37u) (Or.inl rfl) rfl rfl dX12_takesE_187 (fun H locs Z => ?_)
              refine lv_aload_n C.x C.b dX12_takesE_190 rfl (lv_at hl 1 rfl) ?_
              refine lv_dup C.x C.b dX12_takesE_191 rfl ?_
              refine z_get C Z (lvM0 Nat.zero_lt_one) kM0 zc12 zin12 39 (by decide) k_1215 rfl svM0_39 dX12_takesE_192 ?_
              refine lv_iconst (v := 1) C.x C.b dX12_takesE_195 (by decide) ?_
              refine lv_isub C.x C.b dX12_takesE_196 ?_
              replace hf := lt1_s hf; obtain ⟨m18, em18, hf⟩ := hf
              refine z_put (M1 := m18) C Z (lvM0 Nat.zero_lt_one) (by decide) kM0 zc12 zin12 tyX12_ok nmX12 39 (by decide) k_1215 rfl (zUp_I em18 stM0_39u) (Or.inl rfl) rfl rfl dX12_takesE_197 (fun H locs Z => ?_)
              refine lv_aload_n C.x C.b dX12_takesE_200 rfl (lv_at hl 1 rfl) ?_
              refine lv_dup C.x C.b dX12_takesE_201 rfl ?_
              refine z_get C Z (lvM0 Nat.zero_lt_one) kM0 zc12 zin12 38 (by decide) k_1214 rfl svM0_38 dX12_takesE_202 ?_
              refine lv_iconst (v := 1) C.x C.b dX12_takesE_205 (by decide) ?_
              refine lv_isub C.x C.b dX12_takesE_206 ?_
              replace hf := lt1_s hf; obtain ⟨m19, em19, hf⟩ := hf
              refine z_put (M1 := m19) C Z (lvM0 Nat.zero_lt_one) (by decide) kM0 zc12 zin12 tyX12_ok nmX12 38 (by decide) k_1214 rfl (zUp_I em19 stM0_38u) (Or.inl rfl) rfl rfl dX12_takesE_207 (fun H locs Z => ?_)
              refine lv_aload_n C.x C.b dX12_takesE_210 rfl (lv_at hl 1 rfl) ?_
              refine lv_dup C.x C.b dX12_takesE_211 rfl ?_
              refine z_get C Z (lvM0 Nat.zero_lt_one) kM0 zc12 zin12 32 (by decide) k_1208 rfl svM0_32 dX12_takesE_212 ?_
              refine lv_iconst (v := 1) C.x C.b dX12_takesE_215 (by decide) ?_
              refine lv_iadd C.x C.b dX12_takesE_216 ?_
              replace hf := lt1_s hf; obtain ⟨m20, em20, hf⟩ := hf
              refine z_put (M1 := m20) C Z (lvM0 Nat.zero_lt_one) (by decide) kM0 zc12 zin12 tyX12_ok nmX12 32 (by decide) k_1208 rfl (zUp_I em20 stM0_32u) (Or.inl rfl) rfl rfl dX12_takesE_217 (fun H locs Z => ?_)
              refine lv_aload_n C.x C.b dX12_takesE_220 rfl (lv_at hl 1 rfl) ?_
              refine lv_aload_n C.x C.b dX12_takesE_221 rfl (lv_at hl 1 rfl) ?_
              refine z_get C Z (lvM0 Nat.zero_lt_one) kM0 zc12 zin12 36 (by decide) k_1212 rfl svM0_36 dX12_takesE_222 ?_
              refine lv_aload_n C.x C.b dX12_takesE_225 rfl (lv_at hl 1 rfl) ?_
              refine z_get C Z (lvM0 Nat.zero_lt_one) kM0 zc12 zin12 38 (by decide) k_1214 rfl svM0_38 dX12_takesE_226 ?_
              replace hf := asr_s hf; obtain ⟨hq21, hf⟩ := hf
              refine z_zald C Z (lvM27 Nat.zero_lt_one) kM27 hq21 svM27 dX12_takesE_229 ?_
              replace hf := bn1_s hf; obtain ⟨m22, hkm22, hf⟩ := hf
              refine z_cV (As := [.int (gI m20 27 0 (Int32.toNatClampNeg (gI m20 0 0 38)))]) (rest := []) (st1 := []) C Z mw_X12_push mv_X12_push k_1501 (by decide) (z_hR hR (by decide)) (lvM0 Nat.zero_lt_one) kM0 zc12 (c_X12_push (l := l) (K := K) (ad := ad) hkm22) rfl hl.1 rfl (Nat.le_of_ble_eq_true rfl) dX12_takesE_230 hB rfl (fun H locs Z => ?_)
              refine lv_goto (tgt := 17) C.x C.b dX12_takesE_233 (by decide) ?_
              exact ih _ _ _ _ _ Z (lv_sub hl [1, 2] rfl) _ _ hf kx0 kx1 kx2 kx3
            · replace hf := ite_f hf hc16
              obtain ⟨rfl, rfl⟩ := pr_s hf
              exact kx3 rfl _ _ _ Z (lv_sub hl [] rfl)
          · replace hf := ite_t hf hc15
            obtain ⟨rfl, rfl⟩ := pr_s hf
            exact kx2 rfl _ _ _ Z (lv_sub hl [] rfl)
        · replace hf := ite_t hf hc13
          refine lv_aload_n C.x C.b dX12_takesE_117 rfl (lv_at hl 1 rfl) ?_
          refine lv_iload_n C.x C.b dX12_takesE_118 rfl (lv_at hl 0 rfl) ?_
          replace hf := bn1_s hf; obtain ⟨m23, hkm23, hf⟩ := hf
          refine z_cV (As := [.int v5]) (rest := []) (st1 := []) C Z mw_X12_settle mv_X12_settle k_1505 (by decide) (z_hR hR (by decide)) (lvM0 Nat.zero_lt_one) kM0 zc12 (c_X12_settle (l := l) (K := K) (ad := ad) hkm23) rfl hl.1 rfl (Nat.le_of_ble_eq_true rfl) dX12_takesE_119 hB rfl (fun H locs Z => ?_)
          refine lv_aload_n C.x C.b dX12_takesE_122 rfl (lv_at hl 1 rfl) ?_
          refine z_get C Z (lvM0 Nat.zero_lt_one) kM0 zc12 zin12 35 (by decide) k_1211 rfl svM0_35 dX12_takesE_123 ?_
          refine lv_aload_n C.x C.b dX12_takesE_126 rfl (lv_at hl 1 rfl) ?_
          refine z_get C Z (lvM0 Nat.zero_lt_one) kM0 zc12 zin12 37 (by decide) k_1213 rfl svM0_37 dX12_takesE_127 ?_
          refine lv_iload_n C.x C.b dX12_takesE_130 rfl (lv_at hl 0 rfl) ?_
          replace hf := asr_s hf; obtain ⟨hq24, hf⟩ := hf
          replace hf := lt1_s hf; obtain ⟨m25, em25, hf⟩ := hf
          refine z_iast (M1 := m25) C Z (lvM26 Nat.zero_lt_one) (by decide) kM26 hq24 em25 stM26u dX12_takesE_131 (fun H locs Z => ?_)
          refine lv_aload_n C.x C.b dX12_takesE_132 rfl (lv_at hl 1 rfl) ?_
          refine lv_dup C.x C.b dX12_takesE_133 rfl ?_
          refine z_get C Z (lvM0 Nat.zero_lt_one) kM0 zc12 zin12 37 (by decide) k_1213 rfl svM0_37 dX12_takesE_134 ?_
          refine lv_iconst (v := 1) C.x C.b dX12_takesE_137 (by decide) ?_
          refine lv_iadd C.x C.b dX12_takesE_138 ?_
          replace hf := lt1_s hf; obtain ⟨m26, em26, hf⟩ := hf
          refine z_put (M1 := m26) C Z (lvM0 Nat.zero_lt_one) (by decide) kM0 zc12 zin12 tyX12_ok nmX12 37 (by decide) k_1213 rfl (zUp_I em26 stM0_37u) (Or.inl rfl) rfl rfl dX12_takesE_139 (fun H locs Z => ?_)
          refine lv_iconst (v := 1) C.x C.b dX12_takesE_142 (by decide) ?_
          refine z_istore_n (lv' := [(1, .int 1), (2, .int v5), (0, .ref (ad 0 0))]) C dX12_takesE_143 rfl hl (by decide) rfl (onlast 1 rfl rfl rfl) (fun ls hl => ?_)
          refine lv_aload_n C.x C.b dX12_takesE_144 rfl (lv_at hl 2 rfl) ?_
          refine lv_dup C.x C.b dX12_takesE_145 rfl ?_
          refine z_get C Z (lvM0 Nat.zero_lt_one) kM0 zc12 zin12 32 (by decide) k_1208 rfl svM0_32 dX12_takesE_146 ?_
          refine lv_iconst (v := 1) C.x C.b dX12_takesE_149 (by decide) ?_
          refine lv_iadd C.x C.b dX12_takesE_150 ?_
          replace hf := lt1_s hf; obtain ⟨m27, em27, hf⟩ := hf
          refine z_put (M1 := m27) C Z (lvM0 Nat.zero_lt_one) (by decide) kM0 zc12 zin12 tyX12_ok nmX12 32 (by decide) k_1208 rfl (zUp_I em27 stM0_32u) (Or.inl rfl) rfl rfl dX12_takesE_151 (fun H locs Z => ?_)
          refine lv_goto (tgt := 17) C.x C.b dX12_takesE_154 (by decide) ?_
          exact ih _ _ _ _ _ Z (lv_sub hl [2, 0] rfl) _ _ hf kx0 kx1 kx2 kx3
    · replace hf := ite_f hf hc6
      refine lv_iload_n C.x C.b dX12_takesE_26 rfl (lv_at hl 0 rfl) ?_
      refine lv_bipush (v := 33) C.x C.b dX12_takesE_27 (by decide) ?_
      refine lv_icmp_eq (tgt := 38) C.x C.b dX12_takesE_29 (by decide) (fun hc28 => ?_) (fun hc28 => ?_)
      · replace hf := ite_t hf hc28
        refine lv_aload_n C.x C.b dX12_takesE_38 rfl (lv_at hl 1 rfl) ?_
        refine z_get C Z (lvM0 Nat.zero_lt_one) kM0 zc12 zin12 39 (by decide) k_1215 rfl svM0_39 dX12_takesE_39 ?_
        refine lv_iconst (v := 4) C.x C.b dX12_takesE_42 (by decide) ?_
        refine lv_icmp_ne (tgt := 48) C.x C.b dX12_takesE_43 (by decide) (fun hc29 => ?_) (fun hc29 => ?_)
        · replace hf := ite_f hf hc29
          refine lv_aload_n C.x C.b dX12_takesE_48 rfl (lv_at hl 1 rfl) ?_
          refine lv_dup C.x C.b dX12_takesE_49 rfl ?_
          refine z_get C Z (lvM0 Nat.zero_lt_one) kM0 zc12 zin12 39 (by decide) k_1215 rfl svM0_39 dX12_takesE_50 ?_
          refine lv_iconst (v := 1) C.x C.b dX12_takesE_53 (by decide) ?_
          refine lv_iadd C.x C.b dX12_takesE_54 ?_
          replace hf := lt1_s hf; obtain ⟨m30, em30, hf⟩ := hf
          refine z_put (M1 := m30) C Z (lvM0 Nat.zero_lt_one) (by decide) kM0 zc12 zin12 tyX12_ok nmX12 39 (by decide) k_1215 rfl (zUp_I em30 stM0_39u) (Or.inl rfl) rfl rfl dX12_takesE_55 (fun H locs Z => ?_)
          refine lv_aload_n C.x C.b dX12_takesE_58 rfl (lv_at hl 1 rfl) ?_
          refine z_get C Z (lvM0 Nat.zero_lt_one) kM0 zc12 zin12 35 (by decide) k_1211 rfl svM0_35 dX12_takesE_59 ?_
          refine lv_aload_n C.x C.b dX12_takesE_62 rfl (lv_at hl 1 rfl) ?_
          refine z_get C Z (lvM0 Nat.zero_lt_one) kM0 zc12 zin12 37 (by decide) k_1213 rfl svM0_37 dX12_takesE_63 ?_
          refine lv_iload_n C.x C.b dX12_takesE_66 rfl (lv_at hl 0 rfl) ?_
          replace hf := asr_s hf; obtain ⟨hq31, hf⟩ := hf
          replace hf := lt1_s hf; obtain ⟨m32, em32, hf⟩ := hf
          refine z_iast (M1 := m32) C Z (lvM26 Nat.zero_lt_one) (by decide) kM26 hq31 em32 stM26u dX12_takesE_67 (fun H locs Z => ?_)
          refine lv_aload_n C.x C.b dX12_takesE_68 rfl (lv_at hl 1 rfl) ?_
          refine lv_dup C.x C.b dX12_takesE_69 rfl ?_
          refine z_get C Z (lvM0 Nat.zero_lt_one) kM0 zc12 zin12 37 (by decide) k_1213 rfl svM0_37 dX12_takesE_70 ?_
          refine lv_iconst (v := 1) C.x C.b dX12_takesE_73 (by decide) ?_
          refine lv_iadd C.x C.b dX12_takesE_74 ?_
          replace hf := lt1_s hf; obtain ⟨m33, em33, hf⟩ := hf
          refine z_put (M1 := m33) C Z (lvM0 Nat.zero_lt_one) (by decide) kM0 zc12 zin12 tyX12_ok nmX12 37 (by decide) k_1213 rfl (zUp_I em33 stM0_37u) (Or.inl rfl) rfl rfl dX12_takesE_75 (fun H locs Z => ?_)
          refine lv_aload_n C.x C.b dX12_takesE_78 rfl (lv_at hl 1 rfl) ?_
          refine lv_dup C.x C.b dX12_takesE_79 rfl ?_
          refine z_get C Z (lvM0 Nat.zero_lt_one) kM0 zc12 zin12 32 (by decide) k_1208 rfl svM0_32 dX12_takesE_80 ?_
          refine lv_iconst (v := 1) C.x C.b dX12_takesE_83 (by decide) ?_
          refine lv_iadd C.x C.b dX12_takesE_84 ?_
          replace hf := lt1_s hf; obtain ⟨m34, em34, hf⟩ := hf
          refine z_put (M1 := m34) C Z (lvM0 Nat.zero_lt_one) (by decide) kM0 zc12 zin12 tyX12_ok nmX12 32 (by decide) k_1208 rfl (zUp_I em34 stM0_32u) (Or.inl rfl) rfl rfl dX12_takesE_85 (fun H locs Z => ?_)
          refine lv_goto (tgt := 17) C.x C.b dX12_takesE_88 (by decide) ?_
          exact ih _ _ _ _ _ Z (lv_sub hl [1, 2] rfl) _ _ hf kx0 kx1 kx2 kx3
        · replace hf := ite_t hf hc29
          obtain ⟨rfl, rfl⟩ := pr_s hf
          exact kx0 rfl _ _ _ Z (lv_sub hl [] rfl)
      · replace hf := ite_f hf hc28
        refine lv_iload_n C.x C.b dX12_takesE_32 rfl (lv_at hl 0 rfl) ?_
        refine lv_bipush (v := 40) C.x C.b dX12_takesE_33 (by decide) ?_
        refine lv_icmp_ne (tgt := 91) C.x C.b dX12_takesE_35 (by decide) (fun hc35 => ?_) (fun hc35 => ?_)
        · replace hf := ite_f hf hc35
          refine lv_aload_n C.x C.b dX12_takesE_91 rfl (lv_at hl 1 rfl) ?_
          replace hf := bn2_s hf; obtain ⟨v37, m36, hkm36, hf⟩ := hf
          refine z_cV (As := []) (rest := []) (st1 := [.int v37]) C Z mw_X12_takesTest mv_X12_takesTest k_1497 (by decide) (z_hR hR (by decide)) (lvM0 Nat.zero_lt_one) kM0 zc12 (c_X12_takesTest (l := l) (K := K) (ad := ad) hkm36) rfl hl.1 rfl (Nat.le_of_ble_eq_true rfl) dX12_takesE_92 hB rfl (fun H locs Z => ?_)
          refine lv_if_eq (tgt := 103) C.x C.b dX12_takesE_95 (by decide) (fun hc38 => ?_) (fun hc38 => ?_)
          · replace hf := ite_t hf hc38
            obtain ⟨rfl, rfl⟩ := pr_s hf
            exact kx1 rfl _ _ _ Z (lv_sub hl [] rfl)
          · replace hf := ite_f hf hc38
            refine lv_iconst (v := 0) C.x C.b dX12_takesE_98 (by decide) ?_
            refine z_istore_n (lv' := [(1, .int 0), (2, .int v5), (0, .ref (ad 0 0))]) C dX12_takesE_99 rfl hl (by decide) rfl (onlast 1 rfl rfl rfl) (fun ls hl => ?_)
            refine lv_goto (tgt := 17) C.x C.b dX12_takesE_100 (by decide) ?_
            exact ih _ _ _ _ _ Z (lv_sub hl [2, 0] rfl) _ _ hf kx0 kx1 kx2 kx3
        · replace hf := ite_t hf hc35
          refine lv_aload_n C.x C.b dX12_takesE_38 rfl (lv_at hl 1 rfl) ?_
          refine z_get C Z (lvM0 Nat.zero_lt_one) kM0 zc12 zin12 39 (by decide) k_1215 rfl svM0_39 dX12_takesE_39 ?_
          refine lv_iconst (v := 4) C.x C.b dX12_takesE_42 (by decide) ?_
          refine lv_icmp_ne (tgt := 48) C.x C.b dX12_takesE_43 (by decide) (fun hc39 => ?_) (fun hc39 => ?_)
          · replace hf := ite_f hf hc39
            refine lv_aload_n C.x C.b dX12_takesE_48 rfl (lv_at hl 1 rfl) ?_
            refine lv_dup C.x C.b dX12_takesE_49 rfl ?_
            refine z_get C Z (lvM0 Nat.zero_lt_one) kM0 zc12 zin12 39 (by decide) k_1215 rfl svM0_39 dX12_takesE_50 ?_
            refine lv_iconst (v := 1) C.x C.b dX12_takesE_53 (by decide) ?_
            refine lv_iadd C.x C.b dX12_takesE_54 ?_
            replace hf := lt1_s hf; obtain ⟨m40, em40, hf⟩ := hf
            refine z_put (M1 := m40) C Z (lvM0 Nat.zero_lt_one) (by decide) kM0 zc12 zin12 tyX12_ok nmX12 39 (by decide) k_1215 rfl (zUp_I em40 stM0_39u) (Or.inl rfl) rfl rfl dX12_takesE_55 (fun H locs Z => ?_)
            refine lv_aload_n C.x C.b dX12_takesE_58 rfl (lv_at hl 1 rfl) ?_
            refine z_get C Z (lvM0 Nat.zero_lt_one) kM0 zc12 zin12 35 (by decide) k_1211 rfl svM0_35 dX12_takesE_59 ?_
            refine lv_aload_n C.x C.b dX12_takesE_62 rfl (lv_at hl 1 rfl) ?_
            refine z_get C Z (lvM0 Nat.zero_lt_one) kM0 zc12 zin12 37 (by decide) k_1213 rfl svM0_37 dX12_takesE_63 ?_
            refine lv_iload_n C.x C.b dX12_takesE_66 rfl (lv_at hl 0 rfl) ?_
            replace hf := asr_s hf; obtain ⟨hq41, hf⟩ := hf
            replace hf := lt1_s hf; obtain ⟨m42, em42, hf⟩ := hf
            refine z_iast (M1 := m42) C Z (lvM26 Nat.zero_lt_one) (by decide) kM26 hq41 em42 stM26u dX12_takesE_67 (fun H locs Z => ?_)
            refine lv_aload_n C.x C.b dX12_takesE_68 rfl (lv_at hl 1 rfl) ?_
            refine lv_dup C.x C.b dX12_takesE_69 rfl ?_
            refine z_get C Z (lvM0 Nat.zero_lt_one) kM0 zc12 zin12 37 (by decide) k_1213 rfl svM0_37 dX12_takesE_70 ?_
            refine lv_iconst (v := 1) C.x C.b dX12_takesE_73 (by decide) ?_
            refine lv_iadd C.x C.b dX12_takesE_74 ?_
            replace hf := lt1_s hf; obtain ⟨m43, em43, hf⟩ := hf
            refine z_put (M1 := m43) C Z (lvM0 Nat.zero_lt_one) (by decide) kM0 zc12 zin12 tyX12_ok nmX12 37 (by decide) k_1213 rfl (zUp_I em43 stM0_37u) (Or.inl rfl) rfl rfl dX12_takesE_75 (fun H locs Z => ?_)
            refine lv_aload_n C.x C.b dX12_takesE_78 rfl (lv_at hl 1 rfl) ?_
            refine lv_dup C.x C.b dX12_takesE_79 rfl ?_
            refine z_get C Z (lvM0 Nat.zero_lt_one) kM0 zc12 zin12 32 (by decide) k_1208 rfl svM0_32 dX12_takesE_80 ?_
            refine lv_iconst (v := 1) C.x C.b dX12_takesE_83 (by decide) ?_
            refine lv_iadd C.x C.b dX12_takesE_84 ?_
            replace hf := lt1_s hf; obtain ⟨m44, em44, hf⟩ := hf
            refine z_put (M1 := m44) C Z (lvM0 Nat.zero_lt_one) (by decide) kM0 zc12 zin12 tyX12_ok nmX12 32 (by decide) k_1208 rfl (zUp_I em44 stM0_32u) (Or.inl rfl) rfl rfl dX12_takesE_85 (fun H locs Z => ?_)
            refine lv_goto (tgt := 17) C.x C.b dX12_takesE_88 (by decide) ?_
            exact ih _ _ _ _ _ Z (lv_sub hl [1, 2] rfl) _ _ hf kx0 kx1 kx2 kx3
          · replace hf := ite_t hf hc39
            obtain ⟨rfl, rfl⟩ := pr_s hf
            exact kx0 rfl _ _ _ Z (lv_sub hl [] rfl)
set_option maxRecDepth 100000 in
set_option maxHeartbeats 4000000 in
theorem c_X12_takesE {l : Launch} {K : KG} {ad : Nat → Nat → Nat} {fl : Nat}  {M0 : Mem} {r9 : Int32} {M9 : Mem} (hf : f_X12_takesE fl  M0 = some (r9, M9)) : Met l yX12_takesE (Cond.code yX12_takesE cX12_takesE 3 (some .boolean) :: ztb) (RM (5) 0 0) (zPc K LM ad M0 [.ref (ad 0 0)]) (zQ K LM ad (some (.int r9)) M9) 0 0 (zA ad) := by
  refine z_enter (by decide) (Nat.le_of_ble_eq_true rfl) ?_
  intro p e s m args below meth c ls C hin hargs Z hl
  replace C : Cx p s m args meth c cX12_takesE 3 "GlassPalaceModel" (some .boolean) := C
  replace hl : lv_has ls 3 [(0, .ref (ad 0 0))] := hl
  have hR : 5 ≤ (RM (5) 0 0).frames ∧ 40 * (5) ≤ (RM (5) 0 0).locals := ⟨Nat.le_refl _, Nat.le_refl _⟩
  have hB : 0 ≤ (RM (5) 0 0).cells ∧ 0 ≤ (RM (5) 0 0).slots := ⟨Nat.zero_le _, Nat.zero_le _⟩
  unfold f_X12_takesE at hf
  refine lv_aload_n C.x C.b dX12_takesE_0 rfl (lv_at hl 0 rfl) ?_
  refine lv_iconst (v := 0) C.x C.b dX12_takesE_1 (by decide) ?_
  replace hf := lt1_s hf; obtain ⟨m1, em1, hf⟩ := hf
  refine z_put (M1 := m1) C Z (lvM0 Nat.zero_lt_one) (by decide) kM0 zc12 zin12 tyX12_ok nmX12 37 (by decide) k_1213 rfl (zUp_I em1 stM0_37u) (Or.inl rfl) rfl rfl dX12_takesE_2 (fun H locs Z => ?_)
  refine lv_aload_n C.x C.b dX12_takesE_5 rfl (lv_at hl 0 rfl) ?_
  refine lv_iconst (v := 0) C.x C.b dX12_takesE_6 (by decide) ?_
  replace hf := lt1_s hf; obtain ⟨m2, em2, hf⟩ := hf
  refine z_put (M1 := m2) C Z (lvM0 Nat.zero_lt_one) (by decide) kM0 zc12 zin12 tyX12_ok nmX12 38 (by decide) k_1214 rfl (zUp_I em2 stM0_38u) (Or.inl rfl) rfl rfl dX12_takesE_7 (fun H locs Z => ?_)
  refine lv_aload_n C.x C.b dX12_takesE_10 rfl (lv_at hl 0 rfl) ?_
  refine lv_iconst (v := 0) C.x C.b dX12_takesE_11 (by decide) ?_
  replace hf := lt1_s hf; obtain ⟨m3, em3, hf⟩ := hf
  refine z_put (M1 := m3) C Z (lvM0 Nat.zero_lt_one) (by decide) kM0 zc12 zin12 tyX12_ok nmX12 39 (by decide) k_1215 rfl (zUp_I em3 stM0_39u) (Or.inl rfl) rfl rfl dX12_takesE_12 (fun H locs Z => ?_)
  refine lv_iconst (v := 1) C.x C.b dX12_takesE_15 (by decide) ?_
  refine z_istore_n (lv' := [(1, .int 1), (0, .ref (ad 0 0))]) C dX12_takesE_16 rfl hl (by decide) rfl (onlast 0 rfl rfl rfl) (fun ls hl => ?_)
  replace hf := bn2_s hf; obtain ⟨q45, m46, hq45, hf⟩ := hf
  refine w_X12_takesE_l17 C hR hB  fl _ _ _ _ _ Z (lv_sub hl [1, 0] rfl) _ _ hq45 (fun ht H locs ls Z hl => ?_) (fun ht H locs ls Z hl => ?_) (fun ht H locs ls Z hl => ?_) (fun ht H locs ls Z hl => ?_)
  · replace hf := ite_t hf ht
    refine lv_iconst (v := 0) C.x C.b dX12_takesE_46 (by decide) ?_
    obtain ⟨rfl, rfl⟩ := pr_s hf
    exact z_zret C Z rfl dX12_takesE_47
  · replace hf := ite_f hf (by rw [ht]; decide)
    replace hf := ite_t hf ht
    refine lv_iconst (v := 0) C.x C.b dX12_takesE_103 (by decide) ?_
    obtain ⟨rfl, rfl⟩ := pr_s hf
    exact z_zret C Z rfl dX12_takesE_104
  · replace hf := ite_f hf (by rw [ht]; decide)
    replace hf := ite_f hf (by rw [ht]; decide)
    replace hf := ite_t hf ht
    refine lv_iconst (v := 1) C.x C.b dX12_takesE_170 (by decide) ?_
    obtain ⟨rfl, rfl⟩ := pr_s hf
    exact z_zret C Z rfl dX12_takesE_171
  · replace hf := ite_f hf (by rw [ht]; decide)
    replace hf := ite_f hf (by rw [ht]; decide)
    replace hf := ite_f hf (by rw [ht]; decide)
    refine lv_iconst (v := 0) C.x C.b dX12_takesE_178 (by decide) ?_
    obtain ⟨rfl, rfl⟩ := pr_s hf
    exact z_zret C Z rfl dX12_takesE_179
theorem dX12_takesClause_0 : decode cX12_takesClause 0 = .ok (.aload_n 0, 1) := by decide +kernel
theorem dX12_takesClause_1 : decode cX12_takesClause 1 = .ok (.invokevirtual 317, 3) := by decide +kernel
theorem dX12_takesClause_4 : decode cX12_takesClause 4 = .ok (.istore_n 1, 1) := by decide +kernel
theorem dX12_takesClause_5 : decode cX12_takesClause 5 = .ok (.iload_n 1, 1) := by decide +kernel
theorem dX12_takesClause_6 : decode cX12_takesClause 6 = .ok (.ifCond .lt 25, 3) := by decide +kernel
theorem dX12_takesClause_9 : decode cX12_takesClause 9 = .ok (.iload_n 1, 1) := by decide +kernel
theorem dX12_takesClause_10 : decode cX12_takesClause 10 = .ok (.iconst 4, 1) := by decide +kernel
theorem dX12_takesClause_11 : decode cX12_takesClause 11 = .ok (.if_icmp .ge 13, 3) := by decide +kernel
theorem dX12_takesClause_14 : decode cX12_takesClause 14 = .ok (.aload_n 0, 1) := by decide +kernel
theorem dX12_takesClause_15 : decode cX12_takesClause 15 = .ok (.invokevirtual 297, 3) := by decide +kernel
theorem dX12_takesClause_18 : decode cX12_takesClause 18 = .ok (.ifCond .ne 15, 3) := by decide +kernel
theorem dX12_takesClause_21 : decode cX12_takesClause 21 = .ok (.goto 10, 3) := by decide +kernel
theorem dX12_takesClause_24 : decode cX12_takesClause 24 = .ok (.aload_n 0, 1) := by decide +kernel
theorem dX12_takesClause_25 : decode cX12_takesClause 25 = .ok (.invokevirtual 320, 3) := by decide +kernel
theorem dX12_takesClause_28 : decode cX12_takesClause 28 = .ok (.ifCond .ne 5, 3) := by decide +kernel
theorem dX12_takesClause_31 : decode cX12_takesClause 31 = .ok (.iconst 0, 1) := by decide +kernel
theorem dX12_takesClause_32 : decode cX12_takesClause 32 = .ok (.ireturn, 1) := by decide +kernel
theorem dX12_takesClause_33 : decode cX12_takesClause 33 = .ok (.aload_n 0, 1) := by decide +kernel
theorem dX12_takesClause_34 : decode cX12_takesClause 34 = .ok (.getfield 101, 3) := by decide +kernel
theorem dX12_takesClause_37 : decode cX12_takesClause 37 = .ok (.iload_n 1, 1) := by decide +kernel
theorem dX12_takesClause_38 : decode cX12_takesClause 38 = .ok (.aload_n 0, 1) := by decide +kernel
theorem dX12_takesClause_39 : decode cX12_takesClause 39 = .ok (.getfield 119, 3) := by decide +kernel
theorem dX12_takesClause_42 : decode cX12_takesClause 42 = .ok (.iastore, 1) := by decide +kernel
theorem dX12_takesClause_43 : decode cX12_takesClause 43 = .ok (.aload_n 0, 1) := by decide +kernel
theorem dX12_takesClause_44 : decode cX12_takesClause 44 = .ok (.getfield 104, 3) := by decide +kernel
theorem dX12_takesClause_47 : decode cX12_takesClause 47 = .ok (.iload_n 1, 1) := by decide +kernel
theorem dX12_takesClause_48 : decode cX12_takesClause 48 = .ok (.aload_n 0, 1) := by decide +kernel
theorem dX12_takesClause_49 : decode cX12_takesClause 49 = .ok (.getfield 122, 3) := by decide +kernel
theorem dX12_takesClause_52 : decode cX12_takesClause 52 = .ok (.iastore, 1) := by decide +kernel
theorem dX12_takesClause_53 : decode cX12_takesClause 53 = .ok (.aload_n 0, 1) := by decide +kernel
theorem dX12_takesClause_54 : decode cX12_takesClause 54 = .ok (.getfield 107, 3) := by decide +kernel
theorem dX12_takesClause_57 : decode cX12_takesClause 57 = .ok (.iload_n 1, 1) := by decide +kernel
theorem dX12_takesClause_58 : decode cX12_takesClause 58 = .ok (.iload_n 1, 1) := by decide +kernel
theorem dX12_takesClause_59 : decode cX12_takesClause 59 = .ok (.iconst 3, 1) := by decide +kernel
theorem dX12_takesClause_60 : decode cX12_takesClause 60 = .ok (.if_icmp .le 16, 3) := by decide +kernel
theorem dX12_takesClause_63 : decode cX12_takesClause 63 = .ok (.aload_n 0, 1) := by decide +kernel
theorem dX12_takesClause_64 : decode cX12_takesClause 64 = .ok (.getfield 128, 3) := by decide +kernel
theorem dX12_takesClause_67 : decode cX12_takesClause 67 = .ok (.iconst 0, 1) := by decide +kernel
theorem dX12_takesClause_68 : decode cX12_takesClause 68 = .ok (.baload, 1) := by decide +kernel
theorem dX12_takesClause_69 : decode cX12_takesClause 69 = .ok (.ifCond .eq 7, 3) := by decide +kernel
theorem dX12_takesClause_72 : decode cX12_takesClause 72 = .ok (.iconst 1, 1) := by decide +kernel
theorem dX12_takesClause_73 : decode cX12_takesClause 73 = .ok (.goto 4, 3) := by decide +kernel
theorem dX12_takesClause_76 : decode cX12_takesClause 76 = .ok (.iconst 0, 1) := by decide +kernel
theorem dX12_takesClause_77 : decode cX12_takesClause 77 = .ok (.bastore, 1) := by decide +kernel
theorem dX12_takesClause_78 : decode cX12_takesClause 78 = .ok (.iconst 1, 1) := by decide +kernel
theorem dX12_takesClause_79 : decode cX12_takesClause 79 = .ok (.ireturn, 1) := by decide +kernel
set_option maxRecDepth 100000 in
set_option maxHeartbeats 4000000 in
theorem w_X12_takesClause_b33 {p : Program} {l : Launch} {e : Env} {s : State} {m : MethodId} {args : Array Value} {below : List Frame} {meth : Method} {c : Code} {K : KG} {ad : Nat → Nat → Nat} {fl : Nat} {H : Heap} {locs : List Loc} {ls : Array Slot} {g1 : Int32} {M0 : Mem} {r9 : Int32} {M9 : Mem} (C : Cx p s m args meth c cX12_takesClause 2 "GlassPalaceModel" (some .boolean)) (hR : 6 ≤ (RM (6) 0 0).frames ∧ 40 * (6) ≤ (RM (6) 0 0).locals) (hB : 0 ≤ (RM (6) 0 0).cells ∧ 0 ≤ (RM (6) 0 0).slots) (Z : Zd K LM ad M0 s H locs) (hl : lv_has ls 2 [(0, .ref (ad 0 0)), (1, .int g1)]) (hf : f_X12_takesClause_b33 fl g1 M0 = some (r9, M9)) : W p l e (RM (6) 0 0) s m args below meth c H locs 0 0 (MQ below (zQ K LM ad (some (.int r9)) M9) args s 0 0 (zA ad)) (F0 m 33 ls []) := by
  unfold f_X12_takesClause_b33 at hf
  refine lv_aload_n C.x C.b dX12_takesClause_33 rfl (lv_at hl 0 rfl) ?_
  refine z_get C Z (lvM0 Nat.zero_lt_one) kM0 zc12 zin12 27 (by decide) k_1203 rfl svM0_27 dX12_takesClause_34 ?_
  refine lv_iload_n C.x C.b dX12_takesClause_37 rfl (lv_at hl 1 rfl) ?_
  refine lv_aload_n C.x C.b dX12_takesClause_38 rfl (lv_at hl 0 rfl) ?_
  refine z_get C Z (lvM0 Nat.zero_lt_one) kM0 zc12 zin12 33 (by decide) k_1209 rfl svM0_33 dX12_takesClause_39 ?_
  replace hf := asr_s hf; obtain ⟨hq8, hf⟩ := hf
  replace hf := lt1_s hf; obtain ⟨m9, em9, hf⟩ := hf
  refine z_iast (M1 := m9) C Z (lvM23 Nat.zero_lt_one) (by decide) kM23 hq8 em9 stM23u dX12_takesClause_42 (fun H locs Z => ?_)
  refine lv_aload_n C.x C.b dX12_takesClause_43 rfl (lv_at hl 0 rfl) ?_
  refine z_get C Z (lvM0 Nat.zero_lt_one) kM0 zc12 zin12 28 (by decide) k_1204 rfl svM0_28 dX12_takesClause_44 ?_
  refine lv_iload_n C.x C.b dX12_takesClause_47 rfl (lv_at hl 1 rfl) ?_
  refine lv_aload_n C.x C.b dX12_takesClause_48 rfl (lv_at hl 0 rfl) ?_
  refine z_get C Z (lvM0 Nat.zero_lt_one) kM0 zc12 zin12 34 (by decide) k_1210 rfl svM0_34 dX12_takesClause_49 ?_
  replace hf := asr_s hf; obtain ⟨hq10, hf⟩ := hf
  replace hf := lt1_s hf; obtain ⟨m11, em11, hf⟩ := hf
  refine z_iast (M1 := m11) C Z (lvM24 Nat.zero_lt_one) (by decide) kM24 hq10 em11 stM24u dX12_takesClause_52 (fun H locs Z => ?_)
  refine lv_aload_n C.x C.b dX12_takesClause_53 rfl (lv_at hl 0 rfl) ?_
  refine z_get C Z (lvM0 Nat.zero_lt_one) kM0 zc12 zin12 29 (by decide) k_1205 rfl svM0_29 dX12_takesClause_54 ?_
  refine lv_iload_n C.x C.b dX12_takesClause_57 rfl (lv_at hl 1 rfl) ?_
  refine lv_iload_n C.x C.b dX12_takesClause_58 rfl (lv_at hl 1 rfl) ?_
  refine lv_iconst (v := 3) C.x C.b dX12_takesClause_59 (by decide) ?_
  refine lv_icmp_le (tgt := 76) C.x C.b dX12_takesClause_60 (by decide) (fun hc12 => ?_) (fun hc12 => ?_)
  · replace hf := ite_t hf hc12
    refine lv_iconst (v := 0) C.x C.b dX12_takesClause_76 (by decide) ?_
    replace hf := asr_s hf; obtain ⟨hq13, hf⟩ := hf
    replace hf := lt1_s hf; obtain ⟨m14, em14, hf⟩ := hf
    refine z_zast (M1 := m14) C Z (lvM25 Nat.zero_lt_one) (by decide) kM25 hq13 em14 stM25u dX12_takesClause_77 (fun H locs Z => ?_)
    refine lv_iconst (v := 1) C.x C.b dX12_takesClause_78 (by decide) ?_
    obtain ⟨rfl, rfl⟩ := pr_s hf
    exact z_zret C Z rfl dX12_takesClause_79
  · replace hf := ite_f hf hc12
    refine lv_aload_n C.x C.b dX12_takesClause_63 rfl (lv_at hl 0 rfl) ?_
    refine z_get C Z (lvM0 Nat.zero_lt_one) kM0 zc12 zin12 36 (by decide) k_1212 rfl svM0_36 dX12_takesClause_64 ?_
    refine lv_iconst (v := 0) C.x C.b dX12_takesClause_67 (by decide) ?_
    replace hf := asr_s hf; obtain ⟨hq15, hf⟩ := hf
    refine z_zald C Z (lvM27 Nat.zero_lt_one) kM27 hq15 svM27 dX12_takesClause_68 ?_
    refine lv_if_eq (tgt := 76) C.x C.b dX12_takesClause_69 (by decide) (fun hc16 => ?_) (fun hc16 => ?_)
    · replace hf := ite_t hf hc16
      refine lv_iconst (v := 0) C.x C.b dX12_takesClause_76 (by decide) ?_
      replace hf := asr_s hf; obtain ⟨hq17, hf⟩ := hf
      replace hf := lt1_s hf; obtain ⟨m18, em18, hf⟩ := hf
      refine z_zast (M1 := m18) C Z (lvM25 Nat.zero_lt_one) (by decide) kM25 hq17 em18 stM25u dX12_takesClause_77 (fun H locs Z => ?_)
      refine lv_iconst (v := 1) C.x C.b dX12_takesClause_78 (by decide) ?_
      obtain ⟨rfl, rfl⟩ := pr_s hf
      exact z_zret C Z rfl dX12_takesClause_79
    · replace hf := ite_f hf hc16
      refine lv_iconst (v := 1) C.x C.b dX12_takesClause_72 (by decide) ?_
      refine lv_goto (tgt := 77) C.x C.b dX12_takesClause_73 (by decide) ?_
      replace hf := asr_s hf; obtain ⟨hq19, hf⟩ := hf
      replace hf := lt1_s hf; obtain ⟨m20, em20, hf⟩ := hf
      refine z_zast (M1 := m20) C Z (lvM25 Nat.zero_lt_one) (by decide) kM25 hq19 em20 stM25u dX12_takesClause_77 (fun H locs Z => ?_)
      refine lv_iconst (v := 1) C.x C.b dX12_takesClause_78 (by decide) ?_
      obtain ⟨rfl, rfl⟩ := pr_s hf
      exact z_zret C Z rfl dX12_takesClause_79
set_option maxRecDepth 100000 in
set_option maxHeartbeats 4000000 in
theorem c_X12_takesClause {l : Launch} {K : KG} {ad : Nat → Nat → Nat} {fl : Nat}  {M0 : Mem} {r9 : Int32} {M9 : Mem} (hf : f_X12_takesClause fl  M0 = some (r9, M9)) : Met l yX12_takesClause (Cond.code yX12_takesClause cX12_takesClause 2 (some .boolean) :: ztb) (RM (6) 0 0) (zPc K LM ad M0 [.ref (ad 0 0)]) (zQ K LM ad (some (.int r9)) M9) 0 0 (zA ad) := by
  refine z_enter (by decide) (Nat.le_of_ble_eq_true rfl) ?_
  intro p e s m args below meth c ls C hin hargs Z hl
  replace C : Cx p s m args meth c cX12_takesClause 2 "GlassPalaceModel" (some .boolean) := C
  replace hl : lv_has ls 2 [(0, .ref (ad 0 0))] := hl
  have hR : 6 ≤ (RM (6) 0 0).frames ∧ 40 * (6) ≤ (RM (6) 0 0).locals := ⟨Nat.le_refl _, Nat.le_refl _⟩
  have hB : 0 ≤ (RM (6) 0 0).cells ∧ 0 ≤ (RM (6) 0 0).slots := ⟨Nat.zero_le _, Nat.zero_le _⟩
  unfold f_X12_takesClause at hf
  refine lv_aload_n C.x C.b dX12_takesClause_0 rfl (lv_at hl 0 rfl) ?_
  replace hf := bn2_s hf; obtain ⟨v2, m1, hkm1, hf⟩ := hf
  refine z_cV (As := []) (rest := []) (st1 := [.int v2]) C Z mw_X12_takesAnyWord mv_X12_takesAnyWord k_1466 (by decide) (z_hR hR (by decide)) (lvM0 Nat.zero_lt_one) kM0 zc12 (c_X12_takesAnyWord (l := l) (K := K) (ad := ad) hkm1) rfl hl.1 rfl (Nat.le_of_ble_eq_true rfl) dX12_takesClause_1 hB rfl (fun H locs Z => ?_)
  refine z_istore_n (lv' := [(1, .int v2), (0, .ref (ad 0 0))]) C dX12_takesClause_4 rfl hl (by decide) rfl (onlast 0 rfl rfl rfl) (fun ls hl => ?_)
  refine lv_iload_n C.x C.b dX12_takesClause_5 rfl (lv_at hl 0 rfl) ?_
  refine lv_if_lt (tgt := 31) C.x C.b dX12_takesClause_6 (by decide) (fun hc3 => ?_) (fun hc3 => ?_)
  · replace hf := ite_t hf hc3
    refine lv_iconst (v := 0) C.x C.b dX12_takesClause_31 (by decide) ?_
    obtain ⟨rfl, rfl⟩ := pr_s hf
    exact z_zret C Z rfl dX12_takesClause_32
  · replace hf := ite_f hf hc3
    refine lv_iload_n C.x C.b dX12_takesClause_9 rfl (lv_at hl 0 rfl) ?_
    refine lv_iconst (v := 4) C.x C.b dX12_takesClause_10 (by decide) ?_
    refine lv_icmp_ge (tgt := 24) C.x C.b dX12_takesClause_11 (by decide) (fun hc4 => ?_) (fun hc4 => ?_)
    · replace hf := ite_t hf hc4
      refine lv_aload_n C.x C.b dX12_takesClause_24 rfl (lv_at hl 1 rfl) ?_
      replace hf := bn2_s hf; obtain ⟨v6, m5, hkm5, hf⟩ := hf
      refine z_cV (As := []) (rest := []) (st1 := [.int v6]) C Z mw_X12_takesE mv_X12_takesE k_1493 (by decide) (z_hR hR (by decide)) (lvM0 Nat.zero_lt_one) kM0 zc12 (c_X12_takesE (l := l) (K := K) (ad := ad) hkm5) rfl hl.1 rfl (Nat.le_of_ble_eq_true rfl) dX12_takesClause_25 hB rfl (fun H locs Z => ?_)
      refine lv_if_ne (tgt := 33) C.x C.b dX12_takesClause_28 (by decide) (fun hc7 => ?_) (fun hc7 => ?_)
      · replace hf := ite_f hf hc7
        exact w_X12_takesClause_b33 C hR hB  Z (lv_sub hl [1, 0] rfl) hf
      · replace hf := ite_t hf hc7
        refine lv_iconst (v := 0) C.x C.b dX12_takesClause_31 (by decide) ?_
        obtain ⟨rfl, rfl⟩ := pr_s hf
        exact z_zret C Z rfl dX12_takesClause_32
    · replace hf := ite_f hf hc4
      refine lv_aload_n C.x C.b dX12_takesClause_14 rfl (lv_at hl 1 rfl) ?_
      replace hf := bn2_s hf; obtain ⟨v22, m21, hkm21, hf⟩ := hf
      refine z_cV (As := []) (rest := []) (st1 := [.int v22]) C Z mw_X12_takesNumber mv_X12_takesNumber k_1485 (by decide) (z_hR hR (by decide)) (lvM0 Nat.zero_lt_one) kM0 zc12 (c_X12_takesNumber (l := l) (K := K) (ad := ad) hkm21) rfl hl.1 rfl (Nat.le_of_ble_eq_true rfl) dX12_takesClause_15 hB rfl (fun H locs Z => ?_)
      refine lv_if_ne (tgt := 33) C.x C.b dX12_takesClause_18 (by decide) (fun hc23 => ?_) (fun hc23 => ?_)
      · replace hf := ite_f hf hc23
        exact w_X12_takesClause_b33 C hR hB  Z (lv_sub hl [1, 0] rfl) hf
      · replace hf := ite_t hf hc23
        refine lv_goto (tgt := 31) C.x C.b dX12_takesClause_21 (by decide) ?_
        refine lv_iconst (v := 0) C.x C.b dX12_takesClause_31 (by decide) ?_
        obtain ⟨rfl, rfl⟩ := pr_s hf
        exact z_zret C Z rfl dX12_takesClause_32
theorem dX12_goes_0 : decode cX12_goes 0 = .ok (.aload_n 0, 1) := by decide +kernel
theorem dX12_goes_1 : decode cX12_goes 1 = .ok (.bipush 100, 2) := by decide +kernel
theorem dX12_goes_3 : decode cX12_goes 3 = .ok (.iload_n 1, 1) := by decide +kernel
theorem dX12_goes_4 : decode cX12_goes 4 = .ok (.imul, 1) := by decide +kernel
theorem dX12_goes_5 : decode cX12_goes 5 = .ok (.putfield 110, 3) := by decide +kernel
theorem dX12_goes_8 : decode cX12_goes 8 = .ok (.aload_n 0, 1) := by decide +kernel
theorem dX12_goes_9 : decode cX12_goes 9 = .ok (.aload_n 0, 1) := by decide +kernel
theorem dX12_goes_10 : decode cX12_goes 10 = .ok (.getfield 95, 3) := by decide +kernel
theorem dX12_goes_13 : decode cX12_goes 13 = .ok (.iload_n 1, 1) := by decide +kernel
theorem dX12_goes_14 : decode cX12_goes 14 = .ok (.iaload, 1) := by decide +kernel
theorem dX12_goes_15 : decode cX12_goes 15 = .ok (.putfield 113, 3) := by decide +kernel
theorem dX12_goes_18 : decode cX12_goes 18 = .ok (.aload_n 0, 1) := by decide +kernel
theorem dX12_goes_19 : decode cX12_goes 19 = .ok (.iconst 0, 1) := by decide +kernel
theorem dX12_goes_20 : decode cX12_goes 20 = .ok (.putfield 116, 3) := by decide +kernel
theorem dX12_goes_23 : decode cX12_goes 23 = .ok (.aload_n 0, 1) := by decide +kernel
theorem dX12_goes_24 : decode cX12_goes 24 = .ok (.iconst 0, 1) := by decide +kernel
theorem dX12_goes_25 : decode cX12_goes 25 = .ok (.putfield 119, 3) := by decide +kernel
theorem dX12_goes_28 : decode cX12_goes 28 = .ok (.iconst 0, 1) := by decide +kernel
theorem dX12_goes_29 : decode cX12_goes 29 = .ok (.istore_n 2, 1) := by decide +kernel
theorem dX12_goes_30 : decode cX12_goes 30 = .ok (.iload_n 2, 1) := by decide +kernel
theorem dX12_goes_31 : decode cX12_goes 31 = .ok (.bipush 6, 2) := by decide +kernel
theorem dX12_goes_33 : decode cX12_goes 33 = .ok (.if_icmp .ge 16, 3) := by decide +kernel
theorem dX12_goes_36 : decode cX12_goes 36 = .ok (.aload_n 0, 1) := by decide +kernel
theorem dX12_goes_37 : decode cX12_goes 37 = .ok (.getfield 101, 3) := by decide +kernel
theorem dX12_goes_40 : decode cX12_goes 40 = .ok (.iload_n 2, 1) := by decide +kernel
theorem dX12_goes_41 : decode cX12_goes 41 = .ok (.iconst (-1), 1) := by decide +kernel
theorem dX12_goes_42 : decode cX12_goes 42 = .ok (.iastore, 1) := by decide +kernel
theorem dX12_goes_43 : decode cX12_goes 43 = .ok (.iinc 2 1, 3) := by decide +kernel
theorem dX12_goes_46 : decode cX12_goes 46 = .ok (.goto (-16), 3) := by decide +kernel
theorem dX12_goes_49 : decode cX12_goes 49 = .ok (.aload_n 0, 1) := by decide +kernel
theorem dX12_goes_50 : decode cX12_goes 50 = .ok (.invokevirtual 323, 3) := by decide +kernel
theorem dX12_goes_53 : decode cX12_goes 53 = .ok (.ifCond .ne 5, 3) := by decide +kernel
theorem dX12_goes_56 : decode cX12_goes 56 = .ok (.iconst 0, 1) := by decide +kernel
theorem dX12_goes_57 : decode cX12_goes 57 = .ok (.ireturn, 1) := by decide +kernel
theorem dX12_goes_58 : decode cX12_goes 58 = .ok (.aload_n 0, 1) := by decide +kernel
theorem dX12_goes_59 : decode cX12_goes 59 = .ok (.dup, 1) := by decide +kernel
theorem dX12_goes_60 : decode cX12_goes 60 = .ok (.getfield 119, 3) := by decide +kernel
theorem dX12_goes_63 : decode cX12_goes 63 = .ok (.iconst 1, 1) := by decide +kernel
theorem dX12_goes_64 : decode cX12_goes 64 = .ok (.iadd, 1) := by decide +kernel
theorem dX12_goes_65 : decode cX12_goes 65 = .ok (.putfield 119, 3) := by decide +kernel
theorem dX12_goes_68 : decode cX12_goes 68 = .ok (.aload_n 0, 1) := by decide +kernel
theorem dX12_goes_69 : decode cX12_goes 69 = .ok (.getfield 116, 3) := by decide +kernel
theorem dX12_goes_72 : decode cX12_goes 72 = .ok (.aload_n 0, 1) := by decide +kernel
theorem dX12_goes_73 : decode cX12_goes 73 = .ok (.getfield 113, 3) := by decide +kernel
theorem dX12_goes_76 : decode cX12_goes 76 = .ok (.if_icmp .ne 5, 3) := by decide +kernel
theorem dX12_goes_79 : decode cX12_goes 79 = .ok (.iconst 1, 1) := by decide +kernel
theorem dX12_goes_80 : decode cX12_goes 80 = .ok (.ireturn, 1) := by decide +kernel
theorem dX12_goes_81 : decode cX12_goes 81 = .ok (.aload_n 0, 1) := by decide +kernel
theorem dX12_goes_82 : decode cX12_goes 82 = .ok (.getfield 119, 3) := by decide +kernel
theorem dX12_goes_85 : decode cX12_goes 85 = .ok (.bipush 8, 2) := by decide +kernel
theorem dX12_goes_87 : decode cX12_goes 87 = .ok (.if_icmp .eq 12, 3) := by decide +kernel
theorem dX12_goes_90 : decode cX12_goes 90 = .ok (.aload_n 0, 1) := by decide +kernel
theorem dX12_goes_91 : decode cX12_goes 91 = .ok (.bipush 59, 2) := by decide +kernel
theorem dX12_goes_93 : decode cX12_goes 93 = .ok (.invokevirtual 290, 3) := by decide +kernel
theorem dX12_goes_96 : decode cX12_goes 96 = .ok (.ifCond .ne (-47), 3) := by decide +kernel
theorem dX12_goes_99 : decode cX12_goes 99 = .ok (.iconst 0, 1) := by decide +kernel
theorem dX12_goes_100 : decode cX12_goes 100 = .ok (.ireturn, 1) := by decide +kernel
set_option maxRecDepth 100000 in
set_option maxHeartbeats 4000000 in
theorem w_X12_goes_l30 {p : Program} {l : Launch} {e : Env} {R : Room} {s : State} {m : MethodId} {args : Array Value} {below : List Frame} {meth : Method} {c : Code} {cells slots : Nat} {Q : State → Prop} {K : KG} {ad : Nat → Nat → Nat} {fl : Nat} (C : Cx p s m args meth c cX12_goes 3 "GlassPalaceModel" (some .boolean)) (hR : 7 ≤ R.frames ∧ 40 * (7) ≤ R.locals) (hB : cells ≤ R.cells ∧ slots ≤ R.slots) : ∀ (n : Nat) (u2 : Int32) (M0 : Mem) (H : Heap) (locs : List Loc) (ls : Array Slot), Zd K LM ad M0 s H locs → lv_has ls 3 [(0, .ref (ad 0 0)), (2, .int u2)] → ∀ (Mq : Mem), f_X12_goes_l30 fl  n u2 M0 = some Mq → (∀ (H : Heap) (locs : List Loc) (ls : Array Slot), Zd K LM ad Mq s H locs → lv_has ls 3 [(0, .ref (ad 0 0))] → W p l e R s m args below meth c H locs cells slots Q (F0 m 49 ls [])) → W p l e R s m args below meth c H locs cells slots Q (F0 m 30 ls []) := by
  intro n
  induction n with
  | zero =>
    intro u2 M0 H locs ls Z hl Mq hf
    have hf : (none : Option (Mem)) = some Mq := hf
    cases hf
  | succ n ih =>
    intro u2 M0 H locs ls Z hl Mq hf kx0
    replace hf : f_X12_goes_l30_b (f_X12_goes_l30 fl  n) fl  u2 M0 = some Mq := hf
    unfold f_X12_goes_l30_b at hf
    refine lv_iload_n C.x C.b dX12_goes_30 rfl (lv_at hl 1 rfl) ?_
    refine lv_bipush (v := 6) C.x C.b dX12_goes_31 (by decide) ?_
    refine lv_icmp_ge (tgt := 49) C.x C.b dX12_goes_33 (by decide) (fun hc6 => ?_) (fun hc6 => ?_)
    · replace hf := ite_t hf hc6
      obtain rfl := sm_s hf
      exact kx0 _ _ _ Z (lv_sub hl [0] rfl)
    · replace hf := ite_f hf hc6
      refine lv_aload_n C.x C.b dX12_goes_36 rfl (lv_at hl 0 rfl) ?_
      refine z_get C Z (lvM0 Nat.zero_lt_one) kM0 zc12 zin12 27 (by decide) k_1203 rfl svM0_27 dX12_goes_37 ?_
      refine lv_iload_n C.x C.b dX12_goes_40 rfl (lv_at hl 1 rfl) ?_
      refine lv_iconst (v := (-1)) C.x C.b dX12_goes_41 (by decide) ?_
      replace hf := asr_s hf; obtain ⟨hq7, hf⟩ := hf
      replace hf := lt1_s hf; obtain ⟨m8, em8, hf⟩ := hf
      refine z_iast (M1 := m8) C Z (lvM23 Nat.zero_lt_one) (by decide) kM23 hq7 em8 stM23u dX12_goes_42 (fun H locs Z => ?_)
      replace hf := lt1_s hf; obtain ⟨x9, ex9, hf⟩ := hf
      refine z_iinc (v := x9) (lv' := [(2, .int x9), (0, .ref (ad 0 0))]) C dX12_goes_43 hl (k := 1) rfl (by rw [ex9]; rfl) (by decide) rfl (nolast rfl) (fun ls hl => ?_)
      refine lv_goto (tgt := 30) C.x C.b dX12_goes_46 (by decide) ?_
      exact ih _ _ _ _ _ Z (lv_sub hl [1, 0] rfl) _ hf kx0
set_option maxRecDepth 100000 in
set_option maxHeartbeats 4000000 in
theorem w_X12_goes_l49 {p : Program} {l : Launch} {e : Env} {R : Room} {s : State} {m : MethodId} {args : Array Value} {below : List Frame} {meth : Method} {c : Code} {cells slots : Nat} {Q : State → Prop} {K : KG} {ad : Nat → Nat → Nat} {fl : Nat} (C : Cx p s m args meth c cX12_goes 3 "GlassPalaceModel" (some .boolean)) (hR : 7 ≤ R.frames ∧ 40 * (7) ≤ R.locals) (hB : cells ≤ R.cells ∧ slots ≤ R.slots) : ∀ (n : Nat)  (M0 : Mem) (H : Heap) (locs : List Loc) (ls : Array Slot), Zd K LM ad M0 s H locs → lv_has ls 3 [(0, .ref (ad 0 0))] → ∀ (q : Nat) (Mq : Mem), f_X12_goes_l49 fl  n  M0 = some (q, Mq) → (q = 0 → ∀ (H : Heap) (locs : List Loc) (ls : Array Slot), Zd K LM ad Mq s H locs → lv_has ls 3 [] → W p l e R s m args below meth c H locs cells slots Q (F0 m 56 ls [])) → (q = 1 → ∀ (H : Heap) (locs : List Loc) (ls : Array Slot), Zd K LM ad Mq s H locs → lv_has ls 3 [] → W p l e R s m args below meth c H locs cells slots Q (F0 m 79 ls [])) → (q = 2 → ∀ (H : Heap) (locs : List Loc) (ls : Array Slot), Zd K LM ad Mq s H locs → lv_has ls 3 [] → W p l e R s m args below meth c H locs cells slots Q (F0 m 99 ls [])) → W p l e R s m args below meth c H locs cells slots Q (F0 m 49 ls []) := by
  intro n
  induction n with
  | zero =>
    intro  M0 H locs ls Z hl q Mq hf
    have hf : (none : Option (Nat × Mem)) = some (q, Mq) := hf
    cases hf
  | succ n ih =>
    intro  M0 H locs ls Z hl q Mq hf kx0 kx1 kx2
    replace hf : f_X12_goes_l49_b (f_X12_goes_l49 fl  n) fl   M0 = some (q, Mq) := hf
    unfold f_X12_goes_l49_b at hf
    refine lv_aload_n C.x C.b dX12_goes_49 rfl (lv_at hl 0 rfl) ?_
    replace hf := bn2_s hf; obtain ⟨v13, m12, hkm12, hf⟩ := hf
    refine z_cV (As := []) (rest := []) (st1 := [.int v13]) C Z mw_X12_takesClause mv_X12_takesClause k_1462 (by decide) (z_hR hR (by decide)) (lvM0 Nat.zero_lt_one) kM0 zc12 (c_X12_takesClause (l := l) (K := K) (ad := ad) hkm12) rfl hl.1 rfl (Nat.le_of_ble_eq_true rfl) dX12_goes_50 hB rfl (fun H locs Z => ?_)
    refine lv_if_ne (tgt := 58) C.x C.b dX12_goes_53 (by decide) (fun hc14 => ?_) (fun hc14 => ?_)
    · replace hf := ite_f hf hc14
      refine lv_aload_n C.x C.b dX12_goes_58 rfl (lv_at hl 0 rfl) ?_
      refine lv_dup C.x C.b dX12_goes_59 rfl ?_
      refine z_get C Z (lvM0 Nat.zero_lt_one) kM0 zc12 zin12 33 (by decide) k_1209 rfl svM0_33 dX12_goes_60 ?_
      refine lv_iconst (v := 1) C.x C.b dX12_goes_63 (by decide) ?_
      refine lv_iadd C.x C.b dX12_goes_64 ?_
      replace hf := lt1_s hf; obtain ⟨m15, em15, hf⟩ := hf
      refine z_put (M1 := m15) C Z (lvM0 Nat.zero_lt_one) (by decide) kM0 zc12 zin12 tyX12_ok nmX12 33 (by decide) k_1209 rfl (zUp_I em15 stM0_33u) (Or.inl rfl) rfl rfl dX12_goes_65 (fun H locs Z => ?_)
      refine lv_aload_n C.x C.b dX12_goes_68 rfl (lv_at hl 0 rfl) ?_
      refine z_get C Z (lvM0 Nat.zero_lt_one) kM0 zc12 zin12 32 (by decide) k_1208 rfl svM0_32 dX12_goes_69 ?_
      refine lv_aload_n C.x C.b dX12_goes_72 rfl (lv_at hl 0 rfl) ?_
      refine z_get C Z (lvM0 Nat.zero_lt_one) kM0 zc12 zin12 31 (by decide) k_1207 rfl svM0_31 dX12_goes_73 ?_
      refine lv_icmp_ne (tgt := 81) C.x C.b dX12_goes_76 (by decide) (fun hc16 => ?_) (fun hc16 => ?_)
      · replace hf := ite_f hf hc16
        refine lv_aload_n C.x C.b dX12_goes_81 rfl (lv_at hl 0 rfl) ?_
        refine z_get C Z (lvM0 Nat.zero_lt_one) kM0 zc12 zin12 33 (by decide) k_1209 rfl svM0_33 dX12_goes_82 ?_
        refine lv_bipush (v := 8) C.x C.b dX12_goes_85 (by decide) ?_
        refine lv_icmp_eq (tgt := 99) C.x C.b dX12_goes_87 (by decide) (fun hc17 => ?_) (fun hc17 => ?_)
        · replace hf := ite_t hf hc17
          obtain ⟨rfl, rfl⟩ := pr_s hf
          exact kx2 rfl _ _ _ Z (lv_sub hl [] rfl)
        · replace hf := ite_f hf hc17
          refine lv_aload_n C.x C.b dX12_goes_90 rfl (lv_at hl 0 rfl) ?_
          refine lv_bipush (v := 59) C.x C.b dX12_goes_91 (by decide) ?_
          replace hf := bn2_s hf; obtain ⟨v19, m18, hkm18, hf⟩ := hf
          refine z_cV (As := [.int 59]) (rest := []) (st1 := [.int v19]) C Z mw_X12_takes mv_X12_takes k_1478 (by decide) (z_hR hR (by decide)) (lvM0 Nat.zero_lt_one) kM0 zc12 (c_X12_takes (l := l) (K := K) (ad := ad) hkm18) rfl hl.1 rfl (Nat.le_of_ble_eq_true rfl) dX12_goes_93 hB rfl (fun H locs Z => ?_)
          refine lv_if_ne (tgt := 49) C.x C.b dX12_goes_96 (by decide) (fun hc20 => ?_) (fun hc20 => ?_)
          · replace hf := ite_f hf hc20
            exact ih  _ _ _ _ Z (lv_sub hl [0] rfl) _ _ hf kx0 kx1 kx2
          · replace hf := ite_t hf hc20
            obtain ⟨rfl, rfl⟩ := pr_s hf
            exact kx2 rfl _ _ _ Z (lv_sub hl [] rfl)
      · replace hf := ite_t hf hc16
        obtain ⟨rfl, rfl⟩ := pr_s hf
        exact kx1 rfl _ _ _ Z (lv_sub hl [] rfl)
    · replace hf := ite_t hf hc14
      obtain ⟨rfl, rfl⟩ := pr_s hf
      exact kx0 rfl _ _ _ Z (lv_sub hl [] rfl)
set_option maxRecDepth 100000 in
set_option maxHeartbeats 4000000 in
theorem c_X12_goes {l : Launch} {K : KG} {ad : Nat → Nat → Nat} {fl : Nat} {a1 : Int32} {M0 : Mem} {r9 : Int32} {M9 : Mem} (hf : f_X12_goes fl a1 M0 = some (r9, M9)) : Met l yX12_goes (Cond.code yX12_goes cX12_goes 3 (some .boolean) :: ztb) (RM (7) 0 0) (zPc K LM ad M0 [.ref (ad 0 0), .int a1]) (zQ K LM ad (some (.int r9)) M9) 0 0 (zA ad) := by
  refine z_enter (by decide) (Nat.le_of_ble_eq_true rfl) ?_
  intro p e s m args below meth c ls C hin hargs Z hl
  replace C : Cx p s m args meth c cX12_goes 3 "GlassPalaceModel" (some .boolean) := C
  replace hl : lv_has ls 3 [(0, .ref (ad 0 0)), (1, .int a1)] := hl
  have hR : 7 ≤ (RM (7) 0 0).frames ∧ 40 * (7) ≤ (RM (7) 0 0).locals := ⟨Nat.le_refl _, Nat.le_refl _⟩
  have hB : 0 ≤ (RM (7) 0 0).cells ∧ 0 ≤ (RM (7) 0 0).slots := ⟨Nat.zero_le _, Nat.zero_le _⟩
  unfold f_X12_goes at hf
  refine lv_aload_n C.x C.b dX12_goes_0 rfl (lv_at hl 0 rfl) ?_
  refine lv_bipush (v := 100) C.x C.b dX12_goes_1 (by decide) ?_
  refine lv_iload_n C.x C.b dX12_goes_3 rfl (lv_at hl 1 rfl) ?_
  refine lv_imul C.x C.b dX12_goes_4 ?_
  replace hf := lt1_s hf; obtain ⟨m1, em1, hf⟩ := hf
  refine z_put (M1 := m1) C Z (lvM0 Nat.zero_lt_one) (by decide) kM0 zc12 zin12 tyX12_ok nmX12 30 (by decide) k_1206 rfl (zUp_I em1 stM0_30u) (Or.inl rfl) rfl rfl dX12_goes_5 (fun H locs Z => ?_)
  refine lv_aload_n C.x C.b dX12_goes_8 rfl (lv_at hl 0 rfl) ?_
  refine lv_aload_n C.x C.b dX12_goes_9 rfl (lv_at hl 0 rfl) ?_
  refine z_get C Z (lvM0 Nat.zero_lt_one) kM0 zc12 zin12 25 (by decide) k_1201 rfl svM0_25 dX12_goes_10 ?_
  refine lv_iload_n C.x C.b dX12_goes_13 rfl (lv_at hl 1 rfl) ?_
  replace hf := asr_s hf; obtain ⟨hq2, hf⟩ := hf
  refine z_iald C Z (lvM21 Nat.zero_lt_one) kM21 hq2 svM21 dX12_goes_14 ?_
  replace hf := lt1_s hf; obtain ⟨m3, em3, hf⟩ := hf
  refine z_put (M1 := m3) C Z (lvM0 Nat.zero_lt_one) (by decide) kM0 zc12 zin12 tyX12_ok nmX12 31 (by decide) k_1207 rfl (zUp_I em3 stM0_31u) (Or.inl rfl) rfl rfl dX12_goes_15 (fun H locs Z => ?_)
  refine lv_aload_n C.x C.b dX12_goes_18 rfl (lv_at hl 0 rfl) ?_
  refine lv_iconst (v := 0) C.x C.b dX12_goes_19 (by decide) ?_
  replace hf := lt1_s hf; obtain ⟨m4, em4, hf⟩ := hf
  refine z_put (M1 := m4) C Z (lvM0 Nat.zero_lt_one) (by decide) kM0 zc12 zin12 tyX12_ok nmX12 32 (by decide) k_1208 rfl (zUp_I em4 stM0_32u) (Or.inl rfl) rfl rfl dX12_goes_20 (fun H locs Z => ?_)
  refine lv_aload_n C.x C.b dX12_goes_23 rfl (lv_at hl 0 rfl) ?_
  refine lv_iconst (v := 0) C.x C.b dX12_goes_24 (by decide) ?_
  replace hf := lt1_s hf; obtain ⟨m5, em5, hf⟩ := hf
  refine z_put (M1 := m5) C Z (lvM0 Nat.zero_lt_one) (by decide) kM0 zc12 zin12 tyX12_ok nmX12 33 (by decide) k_1209 rfl (zUp_I em5 stM0_33u) (Or.inl rfl) rfl rfl dX12_goes_25 (fun H locs Z => ?_)
  refine lv_iconst (v := 0) C.x C.b dX12_goes_28 (by decide) ?_
  refine z_istore_n (lv' := [(2, .int 0), (0, .ref (ad 0 0)), (1, .int a1)]) C dX12_goes_29 rfl hl (by decide) rfl (onlast 1 rfl rfl rfl) (fun ls hl => ?_)
  replace hf := bn1_s hf; obtain ⟨m11, hq10, hf⟩ := hf
  refine w_X12_goes_l30 C hR hB  fl _ _ _ _ _ Z (lv_sub hl [1, 0] rfl) _ hq10 (fun H locs ls Z hl => ?_)
  replace hf := bn2_s hf; obtain ⟨q21, m22, hq21, hf⟩ := hf
  refine w_X12_goes_l49 C hR hB  fl  _ _ _ _ Z (lv_sub hl [0] rfl) _ _ hq21 (fun ht H locs ls Z hl => ?_) (fun ht H locs ls Z hl => ?_) (fun ht H locs ls Z hl => ?_)
  · replace hf := ite_t hf ht
    refine lv_iconst (v := 0) C.x C.b dX12_goes_56 (by decide) ?_
    obtain ⟨rfl, rfl⟩ := pr_s hf
    exact z_zret C Z rfl dX12_goes_57
  · replace hf := ite_f hf (by rw [ht]; decide)
    replace hf := ite_t hf ht
    refine lv_iconst (v := 1) C.x C.b dX12_goes_79 (by decide) ?_
    obtain ⟨rfl, rfl⟩ := pr_s hf
    exact z_zret C Z rfl dX12_goes_80
  · replace hf := ite_f hf (by rw [ht]; decide)
    replace hf := ite_f hf (by rw [ht]; decide)
    refine lv_iconst (v := 0) C.x C.b dX12_goes_99 (by decide) ?_
    obtain ⟨rfl, rfl⟩ := pr_s hf
    exact z_zret C Z rfl dX12_goes_100
theorem dX12_ruler_0 : decode cX12_ruler 0 = .ok (.iconst (-1), 1) := by decide +kernel
theorem dX12_ruler_1 : decode cX12_ruler 1 = .ok (.istore_n 3, 1) := by decide +kernel
theorem dX12_ruler_2 : decode cX12_ruler 2 = .ok (.iconst 0, 1) := by decide +kernel
theorem dX12_ruler_3 : decode cX12_ruler 3 = .ok (.istore 4, 2) := by decide +kernel
theorem dX12_ruler_5 : decode cX12_ruler 5 = .ok (.iload 4, 2) := by decide +kernel
theorem dX12_ruler_7 : decode cX12_ruler 7 = .ok (.aload_n 0, 1) := by decide +kernel
theorem dX12_ruler_8 : decode cX12_ruler 8 = .ok (.getfield 83, 3) := by decide +kernel
theorem dX12_ruler_11 : decode cX12_ruler 11 = .ok (.if_icmp .ge 61, 3) := by decide +kernel
theorem dX12_ruler_14 : decode cX12_ruler 14 = .ok (.aload_n 0, 1) := by decide +kernel
theorem dX12_ruler_15 : decode cX12_ruler 15 = .ok (.getfield 89, 3) := by decide +kernel
theorem dX12_ruler_18 : decode cX12_ruler 18 = .ok (.iload 4, 2) := by decide +kernel
theorem dX12_ruler_20 : decode cX12_ruler 20 = .ok (.iaload, 1) := by decide +kernel
theorem dX12_ruler_21 : decode cX12_ruler 21 = .ok (.iload_n 2, 1) := by decide +kernel
theorem dX12_ruler_22 : decode cX12_ruler 22 = .ok (.if_icmp .gt 44, 3) := by decide +kernel
theorem dX12_ruler_25 : decode cX12_ruler 25 = .ok (.aload_n 0, 1) := by decide +kernel
theorem dX12_ruler_26 : decode cX12_ruler 26 = .ok (.iload 4, 2) := by decide +kernel
theorem dX12_ruler_28 : decode cX12_ruler 28 = .ok (.invokevirtual 329, 3) := by decide +kernel
theorem dX12_ruler_31 : decode cX12_ruler 31 = .ok (.ifCond .eq 35, 3) := by decide +kernel
theorem dX12_ruler_34 : decode cX12_ruler 34 = .ok (.aload_n 0, 1) := by decide +kernel
theorem dX12_ruler_35 : decode cX12_ruler 35 = .ok (.getfield 101, 3) := by decide +kernel
theorem dX12_ruler_38 : decode cX12_ruler 38 = .ok (.iload_n 1, 1) := by decide +kernel
theorem dX12_ruler_39 : decode cX12_ruler 39 = .ok (.iaload, 1) := by decide +kernel
theorem dX12_ruler_40 : decode cX12_ruler 40 = .ok (.ifCond .lt 26, 3) := by decide +kernel
theorem dX12_ruler_43 : decode cX12_ruler 43 = .ok (.iload_n 3, 1) := by decide +kernel
theorem dX12_ruler_44 : decode cX12_ruler 44 = .ok (.ifCond .lt 19, 3) := by decide +kernel
theorem dX12_ruler_47 : decode cX12_ruler 47 = .ok (.aload_n 0, 1) := by decide +kernel
theorem dX12_ruler_48 : decode cX12_ruler 48 = .ok (.getfield 89, 3) := by decide +kernel
theorem dX12_ruler_51 : decode cX12_ruler 51 = .ok (.iload 4, 2) := by decide +kernel
theorem dX12_ruler_53 : decode cX12_ruler 53 = .ok (.iaload, 1) := by decide +kernel
theorem dX12_ruler_54 : decode cX12_ruler 54 = .ok (.aload_n 0, 1) := by decide +kernel
theorem dX12_ruler_55 : decode cX12_ruler 55 = .ok (.getfield 89, 3) := by decide +kernel
theorem dX12_ruler_58 : decode cX12_ruler 58 = .ok (.iload_n 3, 1) := by decide +kernel
theorem dX12_ruler_59 : decode cX12_ruler 59 = .ok (.iaload, 1) := by decide +kernel
theorem dX12_ruler_60 : decode cX12_ruler 60 = .ok (.if_icmp .lt 6, 3) := by decide +kernel
theorem dX12_ruler_63 : decode cX12_ruler 63 = .ok (.iload 4, 2) := by decide +kernel
theorem dX12_ruler_65 : decode cX12_ruler 65 = .ok (.istore_n 3, 1) := by decide +kernel
theorem dX12_ruler_66 : decode cX12_ruler 66 = .ok (.iinc 4 1, 3) := by decide +kernel
theorem dX12_ruler_69 : decode cX12_ruler 69 = .ok (.goto (-64), 3) := by decide +kernel
theorem dX12_ruler_72 : decode cX12_ruler 72 = .ok (.iload_n 3, 1) := by decide +kernel
theorem dX12_ruler_73 : decode cX12_ruler 73 = .ok (.ifCond .lt 15, 3) := by decide +kernel
theorem dX12_ruler_76 : decode cX12_ruler 76 = .ok (.aload_n 0, 1) := by decide +kernel
theorem dX12_ruler_77 : decode cX12_ruler 77 = .ok (.iload_n 3, 1) := by decide +kernel
theorem dX12_ruler_78 : decode cX12_ruler 78 = .ok (.invokevirtual 329, 3) := by decide +kernel
theorem dX12_ruler_81 : decode cX12_ruler 81 = .ok (.ifCond .eq 7, 3) := by decide +kernel
theorem dX12_ruler_84 : decode cX12_ruler 84 = .ok (.iload_n 3, 1) := by decide +kernel
theorem dX12_ruler_85 : decode cX12_ruler 85 = .ok (.goto 4, 3) := by decide +kernel
theorem dX12_ruler_88 : decode cX12_ruler 88 = .ok (.iconst (-1), 1) := by decide +kernel
theorem dX12_ruler_89 : decode cX12_ruler 89 = .ok (.ireturn, 1) := by decide +kernel
set_option maxRecDepth 100000 in
set_option maxHeartbeats 4000000 in
theorem w_X12_ruler_l5 {p : Program} {l : Launch} {e : Env} {R : Room} {s : State} {m : MethodId} {args : Array Value} {below : List Frame} {meth : Method} {c : Code} {cells slots : Nat} {Q : State → Prop} {K : KG} {ad : Nat → Nat → Nat} {fl : Nat} {g1 : Int32} {g2 : Int32} (C : Cx p s m args meth c cX12_ruler 5 "GlassPalaceModel" (some .int)) (hR : 8 ≤ R.frames ∧ 40 * (8) ≤ R.locals) (hB : cells ≤ R.cells ∧ slots ≤ R.slots) : ∀ (n : Nat) (u3 : Int32) (u4 : Int32) (M0 : Mem) (H : Heap) (locs : List Loc) (ls : Array Slot), Zd K LM ad M0 s H locs → lv_has ls 5 [(0, .ref (ad 0 0)), (1, .int g1), (2, .int g2), (3, .int u3), (4, .int u4)] → ∀ (q : Int32) (Mq : Mem), f_X12_ruler_l5 fl g1 g2 n u3 u4 M0 = some (q, Mq) → (∀ (H : Heap) (locs : List Loc) (ls : Array Slot), Zd K LM ad Mq s H locs → lv_has ls 5 [(0, .ref (ad 0 0)), (3, .int q)] → W p l e R s m args below meth c H locs cells slots Q (F0 m 72 ls [])) → W p l e R s m args below meth c H locs cells slots Q (F0 m 5 ls []) := by
  intro n
  induction n with
  | zero =>
    intro u3 u4 M0 H locs ls Z hl q Mq hf
    have hf : (none : Option (Int32 × Mem)) = some (q, Mq) := hf
    cases hf
  | succ n ih =>
    intro u3 u4 M0 H locs ls Z hl q Mq hf kx0
    replace hf : f_X12_ruler_l5_b (f_X12_ruler_l5 fl g1 g2 n) fl g1 g2 u3 u4 M0 = some (q, Mq) := hf
    unfold f_X12_ruler_l5_b at hf
    refine lv_iload C.x C.b dX12_ruler_5 (lv_at hl 4 rfl) ?_
    refine lv_aload_n C.x C.b dX12_ruler_7 rfl (lv_at hl 0 rfl) ?_
    refine z_get C Z (lvM0 Nat.zero_lt_one) kM0 zc12 zin12 21 (by decide) k_1197 rfl svM0_21 dX12_ruler_8 ?_
    refine lv_icmp_ge (tgt := 72) C.x C.b dX12_ruler_11 (by decide) (fun hc1 => ?_) (fun hc1 => ?_)
    · replace hf := ite_t hf hc1
      obtain ⟨rfl, rfl⟩ := pr_s hf
      exact kx0 _ _ _ Z (lv_sub hl [0, 3] rfl)
    · replace hf := ite_f hf hc1
      refine lv_aload_n C.x C.b dX12_ruler_14 rfl (lv_at hl 0 rfl) ?_
      refine z_get C Z (lvM0 Nat.zero_lt_one) kM0 zc12 zin12 23 (by decide) k_1199 rfl svM0_23 dX12_ruler_15 ?_
      refine lv_iload C.x C.b dX12_ruler_18 (lv_at hl 4 rfl) ?_
      replace hf := asr_s hf; obtain ⟨hq2, hf⟩ := hf
      refine z_iald C Z (lvM19 Nat.zero_lt_one) kM19 hq2 svM19 dX12_ruler_20 ?_
      refine lv_iload_n C.x C.b dX12_ruler_21 rfl (lv_at hl 2 rfl) ?_
      refine lv_icmp_gt (tgt := 66) C.x C.b dX12_ruler_22 (by decide) (fun hc3 => ?_) (fun hc3 => ?_)
      · replace hf := ite_t hf hc3
        replace hf := lt1_s hf; obtain ⟨x4, ex4, hf⟩ := hf
        refine z_iinc (v := x4) (lv' := [(4, .int x4), (0, .ref (ad 0 0)), (1, .int g1), (2, .int g2), (3, .int u3)]) C dX12_ruler_66 hl (k := 4) rfl (by rw [ex4]; rfl) (by decide) rfl (onlast 3 rfl rfl rfl) (fun ls hl => ?_)
        refine lv_goto (tgt := 5) C.x C.b dX12_ruler_69 (by decide) ?_
        exact ih _ _ _ _ _ _ Z (lv_sub hl [1, 2, 3, 4, 0] rfl) _ _ hf kx0
      · replace hf := ite_f hf hc3
        refine lv_aload_n C.x C.b dX12_ruler_25 rfl (lv_at hl 0 rfl) ?_
        refine lv_iload C.x C.b dX12_ruler_26 (lv_at hl 4 rfl) ?_
        replace hf := bn2_s hf; obtain ⟨v6, m5, hkm5, hf⟩ := hf
        refine z_cV (As := [.int u4]) (rest := []) (st1 := [.int v6]) C Z mw_X12_goes mv_X12_goes k_1458 (by decide) (z_hR hR (by decide)) (lvM0 Nat.zero_lt_one) kM0 zc12 (c_X12_goes (l := l) (K := K) (ad := ad) hkm5) rfl hl.1 rfl (Nat.le_of_ble_eq_true rfl) dX12_ruler_28 hB rfl (fun H locs Z => ?_)
        refine lv_if_eq (tgt := 66) C.x C.b dX12_ruler_31 (by decide) (fun hc7 => ?_) (fun hc7 => ?_)
        · replace hf := ite_t hf hc7
          replace hf := lt1_s hf; obtain ⟨x8, ex8, hf⟩ := hf
          refine z_iinc (v := x8) (lv' := [(4, .int x8), (0, .ref (ad 0 0)), (1, .int g1), (2, .int g2), (3, .int u3)]) C dX12_ruler_66 hl (k := 4) rfl (by rw [ex8]; rfl) (by decide) rfl (onlast 3 rfl rfl rfl) (fun ls hl => ?_)
          refine lv_goto (tgt := 5) C.x C.b dX12_ruler_69 (by decide) ?_
          exact ih _ _ _ _ _ _ Z (lv_sub hl [1, 2, 3, 4, 0] rfl) _ _ hf kx0
        · replace hf := ite_f hf hc7
          refine lv_aload_n C.x C.b dX12_ruler_34 rfl (lv_at hl 0 rfl) ?_
          refine z_get C Z (lvM0 Nat.zero_lt_one) kM0 zc12 zin12 27 (by decide) k_1203 rfl svM0_27 dX12_ruler_35 ?_
          refine lv_iload_n C.x C.b dX12_ruler_38 rfl (lv_at hl 1 rfl) ?_
          replace hf := asr_s hf; obtain ⟨hq9, hf⟩ := hf
          refine z_iald C Z (lvM23 Nat.zero_lt_one) kM23 hq9 svM23 dX12_ruler_39 ?_
          refine lv_if_lt (tgt := 66) C.x C.b dX12_ruler_40 (by decide) (fun hc10 => ?_) (fun hc10 => ?_)
          · replace hf := ite_t hf hc10
            replace hf := lt1_s hf; obtain ⟨x11, ex11, hf⟩ := hf
            refine z_iinc (v := x11) (lv' := [(4, .int x11), (0, .ref (ad 0 0)), (1, .int g1), (2, .int g2), (3, .int u3)]) C dX12_ruler_66 hl (k := 4) rfl (by rw [ex11]; rfl) (by decide) rfl (onlast 3 rfl rfl rfl) (fun ls hl => ?_)
            refine lv_goto (tgt := 5) C.x C.b dX12_ruler_69 (by decide) ?_
            exact ih _ _ _ _ _ _ Z (lv_sub hl [1, 2, 3, 4, 0] rfl) _ _ hf kx0
          · replace hf := ite_f hf hc10
            refine lv_iload_n C.x C.b dX12_ruler_43 rfl (lv_at hl 3 rfl) ?_
            refine lv_if_lt (tgt := 63) C.x C.b dX12_ruler_44 (by decide) (fun hc12 => ?_) (fun hc12 => ?_)
            · replace hf := ite_t hf hc12
              refine lv_iload C.x C.b dX12_ruler_63 (lv_at hl 4 rfl) ?_
              refine z_istore_n (lv' := [(3, .int u4), (0, .ref (ad 0 0)), (1, .int g1), (2, .int g2), (4, .int u4)]) C dX12_ruler_65 rfl hl (by decide) rfl (onlast 2 rfl rfl rfl) (fun ls hl => ?_)
              replace hf := lt1_s hf; obtain ⟨x13, ex13, hf⟩ := hf
              refine z_iinc (v := x13) (lv' := [(4, .int x13), (3, .int u4), (0, .ref (ad 0 0)), (1, .int g1), (2, .int g2)]) C dX12_ruler_66 hl (k := 4) rfl (by rw [ex13]; rfl) (by decide) rfl (onlast 0 rfl rfl rfl) (fun ls hl => ?_)
              refine lv_goto (tgt := 5) C.x C.b dX12_ruler_69 (by decide) ?_
              exact ih _ _ _ _ _ _ Z (lv_sub hl [2, 3, 4, 1, 0] rfl) _ _ hf kx0
            · replace hf := ite_f hf hc12
              refine lv_aload_n C.x C.b dX12_ruler_47 rfl (lv_at hl 0 rfl) ?_
              refine z_get C Z (lvM0 Nat.zero_lt_one) kM0 zc12 zin12 23 (by decide) k_1199 rfl svM0_23 dX12_ruler_48 ?_
              refine lv_iload C.x C.b dX12_ruler_51 (lv_at hl 4 rfl) ?_
              replace hf := asr_s hf; obtain ⟨hq14, hf⟩ := hf
              refine z_iald C Z (lvM19 Nat.zero_lt_one) kM19 hq14 svM19 dX12_ruler_53 ?_
              refine lv_aload_n C.x C.b dX12_ruler_54 rfl (lv_at hl 0 rfl) ?_
              refine z_get C Z (lvM0 Nat.zero_lt_one) kM0 zc12 zin12 23 (by decide) k_1199 rfl svM0_23 dX12_ruler_55 ?_
              refine lv_iload_n C.x C.b dX12_ruler_58 rfl (lv_at hl 3 rfl) ?_
              replace hf := asr_s hf; obtain ⟨hq15, hf⟩ := hf
              refine z_iald C Z (lvM19 Nat.zero_lt_one) kM19 hq15 svM19 dX12_ruler_59 ?_
              refine lv_icmp_lt (tgt := 66) C.x C.b dX12_ruler_60 (by decide) (fun hc16 => ?_) (fun hc16 => ?_)
              · replace hf := ite_t hf hc16
                replace hf := lt1_s hf; obtain ⟨x17, ex17, hf⟩ := hf
                refine z_iinc (v := x17) (lv' := [(4, .int x17), (0, .ref (ad 0 0)), (1, .int g1), (2, .int g2), (3, .int u3)]) C dX12_ruler_66 hl (k := 4) rfl (by rw [ex17]; rfl) (by decide) rfl (onlast 3 rfl rfl rfl) (fun ls hl => ?_)
                refine lv_goto (tgt := 5) C.x C.b dX12_ruler_69 (by decide) ?_
                exact ih _ _ _ _ _ _ Z (lv_sub hl [1, 2, 3, 4, 0] rfl) _ _ hf kx0
              · replace hf := ite_f hf hc16
                refine lv_iload C.x C.b dX12_ruler_63 (lv_at hl 4 rfl) ?_
                refine z_istore_n (lv' := [(3, .int u4), (0, .ref (ad 0 0)), (1, .int g1), (2, .int g2), (4, .int u4)]) C dX12_ruler_65 rfl hl (by decide) rfl (onlast 2 rfl rfl rfl) (fun ls hl => ?_)
                replace hf := lt1_s hf; obtain ⟨x18, ex18, hf⟩ := hf
                refine z_iinc (v := x18) (lv' := [(4, .int x18), (3, .int u4), (0, .ref (ad 0 0)), (1, .int g1), (2, .int g2)]) C dX12_ruler_66 hl (k := 4) rfl (by rw [ex18]; rfl) (by decide) rfl (onlast 0 rfl rfl rfl) (fun ls hl => ?_)
                refine lv_goto (tgt := 5) C.x C.b dX12_ruler_69 (by decide) ?_
                exact ih _ _ _ _ _ _ Z (lv_sub hl [2, 3, 4, 1, 0] rfl) _ _ hf kx0
set_option maxRecDepth 100000 in
set_option maxHeartbeats 4000000 in
theorem c_X12_ruler {l : Launch} {K : KG} {ad : Nat → Nat → Nat} {fl : Nat} {a1 : Int32} {a2 : Int32} {M0 : Mem} {r9 : Int32} {M9 : Mem} (hf : f_X12_ruler fl a1 a2 M0 = some (r9, M9)) : Met l yX12_ruler (Cond.code yX12_ruler cX12_ruler 5 (some .int) :: ztb) (RM (8) 0 0) (zPc K LM ad M0 [.ref (ad 0 0), .int a1, .int a2]) (zQ K LM ad (some (.int r9)) M9) 0 0 (zA ad) := by
  refine z_enter (by decide) (Nat.le_of_ble_eq_true rfl) ?_
  intro p e s m args below meth c ls C hin hargs Z hl
  replace C : Cx p s m args meth c cX12_ruler 5 "GlassPalaceModel" (some .int) := C
  replace hl : lv_has ls 5 [(0, .ref (ad 0 0)), (1, .int a1), (2, .int a2)] := hl
  have hR : 8 ≤ (RM (8) 0 0).frames ∧ 40 * (8) ≤ (RM (8) 0 0).locals := ⟨Nat.le_refl _, Nat.le_refl _⟩
  have hB : 0 ≤ (RM (8) 0 0).cells ∧ 0 ≤ (RM (8) 0 0).slots := ⟨Nat.zero_le _, Nat.zero_le _⟩
  unfold f_X12_ruler at hf
  refine lv_iconst (v := (-1)) C.x C.b dX12_ruler_0 (by decide) ?_
  refine z_istore_n (lv' := [(3, .int (-1)), (0, .ref (ad 0 0)), (1, .int a1), (2, .int a2)]) C dX12_ruler_1 rfl hl (by decide) rfl (onlast 2 rfl rfl rfl) (fun ls hl => ?_)
  refine lv_iconst (v := 0) C.x C.b dX12_ruler_2 (by decide) ?_
  refine z_istore (lv' := [(4, .int 0), (3, .int (-1)), (0, .ref (ad 0 0)), (1, .int a1), (2, .int a2)]) C dX12_ruler_3 hl (by decide) rfl (onlast 0 rfl rfl rfl) (fun ls hl => ?_)
  replace hf := bn2_s hf; obtain ⟨q19, m20, hq19, hf⟩ := hf
  refine w_X12_ruler_l5 C hR hB  fl _ _ _ _ _ _ Z (lv_sub hl [2, 3, 4, 1, 0] rfl) _ _ hq19 (fun H locs ls Z hl => ?_)
  refine lv_iload_n C.x C.b dX12_ruler_72 rfl (lv_at hl 1 rfl) ?_
  refine lv_if_lt (tgt := 88) C.x C.b dX12_ruler_73 (by decide) (fun hc21 => ?_) (fun hc21 => ?_)
  · replace hf := ite_t hf hc21
    refine lv_iconst (v := (-1)) C.x C.b dX12_ruler_88 (by decide) ?_
    obtain ⟨rfl, rfl⟩ := pr_s hf
    exact z_iret C Z dX12_ruler_89
  · replace hf := ite_f hf hc21
    refine lv_aload_n C.x C.b dX12_ruler_76 rfl (lv_at hl 0 rfl) ?_
    refine lv_iload_n C.x C.b dX12_ruler_77 rfl (lv_at hl 1 rfl) ?_
    replace hf := bn2_s hf; obtain ⟨v23, m22, hkm22, hf⟩ := hf
    refine z_cV (As := [.int q19]) (rest := []) (st1 := [.int v23]) C Z mw_X12_goes mv_X12_goes k_1458 (by decide) (z_hR hR (by decide)) (lvM0 Nat.zero_lt_one) kM0 zc12 (c_X12_goes (l := l) (K := K) (ad := ad) hkm22) rfl hl.1 rfl (Nat.le_of_ble_eq_true rfl) dX12_ruler_78 hB rfl (fun H locs Z => ?_)
    refine lv_if_eq (tgt := 88) C.x C.b dX12_ruler_81 (by decide) (fun hc24 => ?_) (fun hc24 => ?_)
    · replace hf := ite_t hf hc24
      refine lv_iconst (v := (-1)) C.x C.b dX12_ruler_88 (by decide) ?_
      obtain ⟨rfl, rfl⟩ := pr_s hf
      exact z_iret C Z dX12_ruler_89
    · replace hf := ite_f hf hc24
      refine lv_iload_n C.x C.b dX12_ruler_84 rfl (lv_at hl 1 rfl) ?_
      refine lv_goto (tgt := 89) C.x C.b dX12_ruler_85 (by decide) ?_
      obtain ⟨rfl, rfl⟩ := pr_s hf
      exact z_iret C Z dX12_ruler_89
theorem dX12_barsFoundry_0 : decode cX12_barsFoundry 0 = .ok (.iconst 0, 1) := by decide +kernel
theorem dX12_barsFoundry_1 : decode cX12_barsFoundry 1 = .ok (.istore_n 3, 1) := by decide +kernel
theorem dX12_barsFoundry_2 : decode cX12_barsFoundry 2 = .ok (.iload_n 3, 1) := by decide +kernel
theorem dX12_barsFoundry_3 : decode cX12_barsFoundry 3 = .ok (.iconst 4, 1) := by decide +kernel
theorem dX12_barsFoundry_4 : decode cX12_barsFoundry 4 = .ok (.if_icmp .ge 16, 3) := by decide +kernel
theorem dX12_barsFoundry_7 : decode cX12_barsFoundry 7 = .ok (.aload_n 0, 1) := by decide +kernel
theorem dX12_barsFoundry_8 : decode cX12_barsFoundry 8 = .ok (.getfield 98, 3) := by decide +kernel
theorem dX12_barsFoundry_11 : decode cX12_barsFoundry 11 = .ok (.iload_n 3, 1) := by decide +kernel
theorem dX12_barsFoundry_12 : decode cX12_barsFoundry 12 = .ok (.iconst 0, 1) := by decide +kernel
theorem dX12_barsFoundry_13 : decode cX12_barsFoundry 13 = .ok (.iastore, 1) := by decide +kernel
theorem dX12_barsFoundry_14 : decode cX12_barsFoundry 14 = .ok (.iinc 3 1, 3) := by decide +kernel
theorem dX12_barsFoundry_17 : decode cX12_barsFoundry 17 = .ok (.goto (-15), 3) := by decide +kernel
theorem dX12_barsFoundry_20 : decode cX12_barsFoundry 20 = .ok (.aload_n 0, 1) := by decide +kernel
theorem dX12_barsFoundry_21 : decode cX12_barsFoundry 21 = .ok (.getfield 98, 3) := by decide +kernel
theorem dX12_barsFoundry_24 : decode cX12_barsFoundry 24 = .ok (.iconst 4, 1) := by decide +kernel
theorem dX12_barsFoundry_25 : decode cX12_barsFoundry 25 = .ok (.iload_n 2, 1) := by decide +kernel
theorem dX12_barsFoundry_26 : decode cX12_barsFoundry 26 = .ok (.bipush 7, 2) := by decide +kernel
theorem dX12_barsFoundry_28 : decode cX12_barsFoundry 28 = .ok (.irem, 1) := by decide +kernel
theorem dX12_barsFoundry_29 : decode cX12_barsFoundry 29 = .ok (.iastore, 1) := by decide +kernel
theorem dX12_barsFoundry_30 : decode cX12_barsFoundry 30 = .ok (.aload_n 0, 1) := by decide +kernel
theorem dX12_barsFoundry_31 : decode cX12_barsFoundry 31 = .ok (.getfield 98, 3) := by decide +kernel
theorem dX12_barsFoundry_34 : decode cX12_barsFoundry 34 = .ok (.iconst 5, 1) := by decide +kernel
theorem dX12_barsFoundry_35 : decode cX12_barsFoundry 35 = .ok (.iload_n 1, 1) := by decide +kernel
theorem dX12_barsFoundry_36 : decode cX12_barsFoundry 36 = .ok (.iastore, 1) := by decide +kernel
theorem dX12_barsFoundry_37 : decode cX12_barsFoundry 37 = .ok (.aload_n 0, 1) := by decide +kernel
theorem dX12_barsFoundry_38 : decode cX12_barsFoundry 38 = .ok (.iconst 5, 1) := by decide +kernel
theorem dX12_barsFoundry_39 : decode cX12_barsFoundry 39 = .ok (.iload_n 2, 1) := by decide +kernel
theorem dX12_barsFoundry_40 : decode cX12_barsFoundry 40 = .ok (.invokevirtual 332, 3) := by decide +kernel
theorem dX12_barsFoundry_43 : decode cX12_barsFoundry 43 = .ok (.ifCond .lt 16, 3) := by decide +kernel
theorem dX12_barsFoundry_46 : decode cX12_barsFoundry 46 = .ok (.aload_n 0, 1) := by decide +kernel
theorem dX12_barsFoundry_47 : decode cX12_barsFoundry 47 = .ok (.getfield 107, 3) := by decide +kernel
theorem dX12_barsFoundry_50 : decode cX12_barsFoundry 50 = .ok (.iconst 5, 1) := by decide +kernel
theorem dX12_barsFoundry_51 : decode cX12_barsFoundry 51 = .ok (.baload, 1) := by decide +kernel
theorem dX12_barsFoundry_52 : decode cX12_barsFoundry 52 = .ok (.ifCond .eq 7, 3) := by decide +kernel
theorem dX12_barsFoundry_55 : decode cX12_barsFoundry 55 = .ok (.iconst 1, 1) := by decide +kernel
theorem dX12_barsFoundry_56 : decode cX12_barsFoundry 56 = .ok (.goto 4, 3) := by decide +kernel
theorem dX12_barsFoundry_59 : decode cX12_barsFoundry 59 = .ok (.iconst 0, 1) := by decide +kernel
theorem dX12_barsFoundry_60 : decode cX12_barsFoundry 60 = .ok (.ireturn, 1) := by decide +kernel
set_option maxRecDepth 100000 in
set_option maxHeartbeats 4000000 in
theorem w_X12_barsFoundry_l2 {p : Program} {l : Launch} {e : Env} {R : Room} {s : State} {m : MethodId} {args : Array Value} {below : List Frame} {meth : Method} {c : Code} {cells slots : Nat} {Q : State → Prop} {K : KG} {ad : Nat → Nat → Nat} {fl : Nat} {g1 : Int32} {g2 : Int32} (C : Cx p s m args meth c cX12_barsFoundry 4 "GlassPalaceModel" (some .boolean)) (hR : 9 ≤ R.frames ∧ 40 * (9) ≤ R.locals) (hB : cells ≤ R.cells ∧ slots ≤ R.slots) : ∀ (n : Nat) (u3 : Int32) (M0 : Mem) (H : Heap) (locs : List Loc) (ls : Array Slot), Zd K LM ad M0 s H locs → lv_has ls 4 [(0, .ref (ad 0 0)), (1, .int g1), (2, .int g2), (3, .int u3)] → ∀ (Mq : Mem), f_X12_barsFoundry_l2 fl g1 g2 n u3 M0 = some Mq → (∀ (H : Heap) (locs : List Loc) (ls : Array Slot), Zd K LM ad Mq s H locs → lv_has ls 4 [(0, .ref (ad 0 0)), (1, .int g1), (2, .int g2)] → W p l e R s m args below meth c H locs cells slots Q (F0 m 20 ls [])) → W p l e R s m args below meth c H locs cells slots Q (F0 m 2 ls []) := by
  intro n
  induction n with
  | zero =>
    intro u3 M0 H locs ls Z hl Mq hf
    have hf : (none : Option (Mem)) = some Mq := hf
    cases hf
  | succ n ih =>
    intro u3 M0 H locs ls Z hl Mq hf kx0
    replace hf : f_X12_barsFoundry_l2_b (f_X12_barsFoundry_l2 fl g1 g2 n) fl g1 g2 u3 M0 = some Mq := hf
    unfold f_X12_barsFoundry_l2_b at hf
    refine lv_iload_n C.x C.b dX12_barsFoundry_2 rfl (lv_at hl 3 rfl) ?_
    refine lv_iconst (v := 4) C.x C.b dX12_barsFoundry_3 (by decide) ?_
    refine lv_icmp_ge (tgt := 20) C.x C.b dX12_barsFoundry_4 (by decide) (fun hc1 => ?_) (fun hc1 => ?_)
    · replace hf := ite_t hf hc1
      obtain rfl := sm_s hf
      exact kx0 _ _ _ Z (lv_sub hl [0, 1, 2] rfl)
    · replace hf := ite_f hf hc1
      refine lv_aload_n C.x C.b dX12_barsFoundry_7 rfl (lv_at hl 0 rfl) ?_
      refine z_get C Z (lvM0 Nat.zero_lt_one) kM0 zc12 zin12 26 (by decide) k_1202 rfl svM0_26 dX12_barsFoundry_8 ?_
      refine lv_iload_n C.x C.b dX12_barsFoundry_11 rfl (lv_at hl 3 rfl) ?_
      refine lv_iconst (v := 0) C.x C.b dX12_barsFoundry_12 (by decide) ?_
      replace hf := asr_s hf; obtain ⟨hq2, hf⟩ := hf
      replace hf := lt1_s hf; obtain ⟨m3, em3, hf⟩ := hf
      refine z_iast (M1 := m3) C Z (lvM22 Nat.zero_lt_one) (by decide) kM22 hq2 em3 stM22u dX12_barsFoundry_13 (fun H locs Z => ?_)
      replace hf := lt1_s hf; obtain ⟨x4, ex4, hf⟩ := hf
      refine z_iinc (v := x4) (lv' := [(3, .int x4), (0, .ref (ad 0 0)), (1, .int g1), (2, .int g2)]) C dX12_barsFoundry_14 hl (k := 3) rfl (by rw [ex4]; rfl) (by decide) rfl (onlast 2 rfl rfl rfl) (fun ls hl => ?_)
      refine lv_goto (tgt := 2) C.x C.b dX12_barsFoundry_17 (by decide) ?_
      exact ih _ _ _ _ _ Z (lv_sub hl [1, 2, 3, 0] rfl) _ hf kx0
set_option maxRecDepth 100000 in
set_option maxHeartbeats 4000000 in
theorem c_X12_barsFoundry {l : Launch} {K : KG} {ad : Nat → Nat → Nat} {fl : Nat} {a1 : Int32} {a2 : Int32} {M0 : Mem} {r9 : Int32} {M9 : Mem} (hf : f_X12_barsFoundry fl a1 a2 M0 = some (r9, M9)) : Met l yX12_barsFoundry (Cond.code yX12_barsFoundry cX12_barsFoundry 4 (some .boolean) :: ztb) (RM (9) 0 0) (zPc K LM ad M0 [.ref (ad 0 0), .int a1, .int a2]) (zQ K LM ad (some (.int r9)) M9) 0 0 (zA ad) := by
  refine z_enter (by decide) (Nat.le_of_ble_eq_true rfl) ?_
  intro p e s m args below meth c ls C hin hargs Z hl
  replace C : Cx p s m args meth c cX12_barsFoundry 4 "GlassPalaceModel" (some .boolean) := C
  replace hl : lv_has ls 4 [(0, .ref (ad 0 0)), (1, .int a1), (2, .int a2)] := hl
  have hR : 9 ≤ (RM (9) 0 0).frames ∧ 40 * (9) ≤ (RM (9) 0 0).locals := ⟨Nat.le_refl _, Nat.le_refl _⟩
  have hB : 0 ≤ (RM (9) 0 0).cells ∧ 0 ≤ (RM (9) 0 0).slots := ⟨Nat.zero_le _, Nat.zero_le _⟩
  unfold f_X12_barsFoundry at hf
  refine lv_iconst (v := 0) C.x C.b dX12_barsFoundry_0 (by decide) ?_
  refine z_istore_n (lv' := [(3, .int 0), (0, .ref (ad 0 0)), (1, .int a1), (2, .int a2)]) C dX12_barsFoundry_1 rfl hl (by decide) rfl (onlast 2 rfl rfl rfl) (fun ls hl => ?_)
  replace hf := bn1_s hf; obtain ⟨m6, hq5, hf⟩ := hf
  refine w_X12_barsFoundry_l2 C hR hB  fl _ _ _ _ _ Z (lv_sub hl [1, 2, 3, 0] rfl) _ hq5 (fun H locs ls Z hl => ?_)
  refine lv_aload_n C.x C.b dX12_barsFoundry_20 rfl (lv_at hl 0 rfl) ?_
  refine z_get C Z (lvM0 Nat.zero_lt_one) kM0 zc12 zin12 26 (by decide) k_1202 rfl svM0_26 dX12_barsFoundry_21 ?_
  refine lv_iconst (v := 4) C.x C.b dX12_barsFoundry_24 (by decide) ?_
  refine lv_iload_n C.x C.b dX12_barsFoundry_25 rfl (lv_at hl 2 rfl) ?_
  refine lv_bipush (v := 7) C.x C.b dX12_barsFoundry_26 (by decide) ?_
  refine z_irem C dX12_barsFoundry_28 (by decide) ?_
  replace hf := asr_s hf; obtain ⟨hq7, hf⟩ := hf
  replace hf := lt1_s hf; obtain ⟨m8, em8, hf⟩ := hf
  refine z_iast (M1 := m8) C Z (lvM22 Nat.zero_lt_one) (by decide) kM22 hq7 em8 stM22u dX12_barsFoundry_29 (fun H locs Z => ?_)
  refine lv_aload_n C.x C.b dX12_barsFoundry_30 rfl (lv_at hl 0 rfl) ?_
  refine z_get C Z (lvM0 Nat.zero_lt_one) kM0 zc12 zin12 26 (by decide) k_1202 rfl svM0_26 dX12_barsFoundry_31 ?_
  refine lv_iconst (v := 5) C.x C.b dX12_barsFoundry_34 (by decide) ?_
  refine lv_iload_n C.x C.b dX12_barsFoundry_35 rfl (lv_at hl 1 rfl) ?_
  replace hf := asr_s hf; obtain ⟨hq9, hf⟩ := hf
  replace hf := lt1_s hf; obtain ⟨m10, em10, hf⟩ := hf
  refine z_iast (M1 := m10) C Z (lvM22 Nat.zero_lt_one) (by decide) kM22 hq9 em10 stM22u dX12_barsFoundry_36 (fun H locs Z => ?_)
  refine lv_aload_n C.x C.b dX12_barsFoundry_37 rfl (lv_at hl 0 rfl) ?_
  refine lv_iconst (v := 5) C.x C.b dX12_barsFoundry_38 (by decide) ?_
  refine lv_iload_n C.x C.b dX12_barsFoundry_39 rfl (lv_at hl 2 rfl) ?_
  replace hf := bn2_s hf; obtain ⟨v12, m11, hkm11, hf⟩ := hf
  refine z_cV (As := [.int 5, .int a2]) (rest := []) (st1 := [.int v12]) C Z mw_X12_ruler mv_X12_ruler k_1454 (by decide) (z_hR hR (by decide)) (lvM0 Nat.zero_lt_one) kM0 zc12 (c_X12_ruler (l := l) (K := K) (ad := ad) hkm11) rfl hl.1 rfl (Nat.le_of_ble_eq_true rfl) dX12_barsFoundry_40 hB rfl (fun H locs Z => ?_)
  refine lv_if_lt (tgt := 59) C.x C.b dX12_barsFoundry_43 (by decide) (fun hc13 => ?_) (fun hc13 => ?_)
  · replace hf := ite_t hf hc13
    refine lv_iconst (v := 0) C.x C.b dX12_barsFoundry_59 (by decide) ?_
    obtain ⟨rfl, rfl⟩ := pr_s hf
    exact z_zret C Z rfl dX12_barsFoundry_60
  · replace hf := ite_f hf hc13
    refine lv_aload_n C.x C.b dX12_barsFoundry_46 rfl (lv_at hl 0 rfl) ?_
    refine z_get C Z (lvM0 Nat.zero_lt_one) kM0 zc12 zin12 29 (by decide) k_1205 rfl svM0_29 dX12_barsFoundry_47 ?_
    refine lv_iconst (v := 5) C.x C.b dX12_barsFoundry_50 (by decide) ?_
    replace hf := asr_s hf; obtain ⟨hq14, hf⟩ := hf
    refine z_zald C Z (lvM25 Nat.zero_lt_one) kM25 hq14 svM25 dX12_barsFoundry_51 ?_
    refine lv_if_eq (tgt := 59) C.x C.b dX12_barsFoundry_52 (by decide) (fun hc15 => ?_) (fun hc15 => ?_)
    · replace hf := ite_t hf hc15
      refine lv_iconst (v := 0) C.x C.b dX12_barsFoundry_59 (by decide) ?_
      obtain ⟨rfl, rfl⟩ := pr_s hf
      exact z_zret C Z rfl dX12_barsFoundry_60
    · replace hf := ite_f hf hc15
      refine lv_iconst (v := 1) C.x C.b dX12_barsFoundry_55 (by decide) ?_
      refine lv_goto (tgt := 60) C.x C.b dX12_barsFoundry_56 (by decide) ?_
      obtain ⟨rfl, rfl⟩ := pr_s hf
      exact z_zret C Z rfl dX12_barsFoundry_60
theorem dX12_isBarred_0 : decode cX12_isBarred 0 = .ok (.aload_n 0, 1) := by decide +kernel
theorem dX12_isBarred_1 : decode cX12_isBarred 1 = .ok (.aload_n 0, 1) := by decide +kernel
theorem dX12_isBarred_2 : decode cX12_isBarred 2 = .ok (.getfield 40, 3) := by decide +kernel
theorem dX12_isBarred_5 : decode cX12_isBarred 5 = .ok (.iload_n 1, 1) := by decide +kernel
theorem dX12_isBarred_6 : decode cX12_isBarred 6 = .ok (.iaload, 1) := by decide +kernel
theorem dX12_isBarred_7 : decode cX12_isBarred 7 = .ok (.aload_n 0, 1) := by decide +kernel
theorem dX12_isBarred_8 : decode cX12_isBarred 8 = .ok (.getfield 17, 3) := by decide +kernel
theorem dX12_isBarred_11 : decode cX12_isBarred 11 = .ok (.invokevirtual 254, 3) := by decide +kernel
theorem dX12_isBarred_14 : decode cX12_isBarred 14 = .ok (.ifCond .eq 5, 3) := by decide +kernel
theorem dX12_isBarred_17 : decode cX12_isBarred 17 = .ok (.iconst 1, 1) := by decide +kernel
theorem dX12_isBarred_18 : decode cX12_isBarred 18 = .ok (.ireturn, 1) := by decide +kernel
theorem dX12_isBarred_19 : decode cX12_isBarred 19 = .ok (.iconst 0, 1) := by decide +kernel
theorem dX12_isBarred_20 : decode cX12_isBarred 20 = .ok (.istore_n 2, 1) := by decide +kernel
theorem dX12_isBarred_21 : decode cX12_isBarred 21 = .ok (.iload_n 2, 1) := by decide +kernel
theorem dX12_isBarred_22 : decode cX12_isBarred 22 = .ok (.aload_n 0, 1) := by decide +kernel
theorem dX12_isBarred_23 : decode cX12_isBarred 23 = .ok (.getfield 21, 3) := by decide +kernel
theorem dX12_isBarred_26 : decode cX12_isBarred 26 = .ok (.if_icmp .ge 65, 3) := by decide +kernel
theorem dX12_isBarred_29 : decode cX12_isBarred 29 = .ok (.aload_n 0, 1) := by decide +kernel
theorem dX12_isBarred_30 : decode cX12_isBarred 30 = .ok (.getfield 61, 3) := by decide +kernel
theorem dX12_isBarred_33 : decode cX12_isBarred 33 = .ok (.iload_n 2, 1) := by decide +kernel
theorem dX12_isBarred_34 : decode cX12_isBarred 34 = .ok (.baload, 1) := by decide +kernel
theorem dX12_isBarred_35 : decode cX12_isBarred 35 = .ok (.ifCond .eq 50, 3) := by decide +kernel
theorem dX12_isBarred_38 : decode cX12_isBarred 38 = .ok (.aload_n 0, 1) := by decide +kernel
theorem dX12_isBarred_39 : decode cX12_isBarred 39 = .ok (.getfield 37, 3) := by decide +kernel
theorem dX12_isBarred_42 : decode cX12_isBarred 42 = .ok (.iload_n 2, 1) := by decide +kernel
theorem dX12_isBarred_43 : decode cX12_isBarred 43 = .ok (.iaload, 1) := by decide +kernel
theorem dX12_isBarred_44 : decode cX12_isBarred 44 = .ok (.aload_n 0, 1) := by decide +kernel
theorem dX12_isBarred_45 : decode cX12_isBarred 45 = .ok (.getfield 37, 3) := by decide +kernel
theorem dX12_isBarred_48 : decode cX12_isBarred 48 = .ok (.iload_n 1, 1) := by decide +kernel
theorem dX12_isBarred_49 : decode cX12_isBarred 49 = .ok (.iaload, 1) := by decide +kernel
theorem dX12_isBarred_50 : decode cX12_isBarred 50 = .ok (.if_icmp .ne 35, 3) := by decide +kernel
theorem dX12_isBarred_53 : decode cX12_isBarred 53 = .ok (.aload_n 0, 1) := by decide +kernel
theorem dX12_isBarred_54 : decode cX12_isBarred 54 = .ok (.getfield 40, 3) := by decide +kernel
theorem dX12_isBarred_57 : decode cX12_isBarred 57 = .ok (.iload_n 2, 1) := by decide +kernel
theorem dX12_isBarred_58 : decode cX12_isBarred 58 = .ok (.iaload, 1) := by decide +kernel
theorem dX12_isBarred_59 : decode cX12_isBarred 59 = .ok (.aload_n 0, 1) := by decide +kernel
theorem dX12_isBarred_60 : decode cX12_isBarred 60 = .ok (.getfield 40, 3) := by decide +kernel
theorem dX12_isBarred_63 : decode cX12_isBarred 63 = .ok (.iload_n 1, 1) := by decide +kernel
theorem dX12_isBarred_64 : decode cX12_isBarred 64 = .ok (.iaload, 1) := by decide +kernel
theorem dX12_isBarred_65 : decode cX12_isBarred 65 = .ok (.if_icmp .ne 20, 3) := by decide +kernel
theorem dX12_isBarred_68 : decode cX12_isBarred 68 = .ok (.aload_n 0, 1) := by decide +kernel
theorem dX12_isBarred_69 : decode cX12_isBarred 69 = .ok (.getfield 49, 3) := by decide +kernel
theorem dX12_isBarred_72 : decode cX12_isBarred 72 = .ok (.iload_n 2, 1) := by decide +kernel
theorem dX12_isBarred_73 : decode cX12_isBarred 73 = .ok (.iaload, 1) := by decide +kernel
theorem dX12_isBarred_74 : decode cX12_isBarred 74 = .ok (.aload_n 0, 1) := by decide +kernel
theorem dX12_isBarred_75 : decode cX12_isBarred 75 = .ok (.getfield 49, 3) := by decide +kernel
theorem dX12_isBarred_78 : decode cX12_isBarred 78 = .ok (.iload_n 1, 1) := by decide +kernel
theorem dX12_isBarred_79 : decode cX12_isBarred 79 = .ok (.iaload, 1) := by decide +kernel
theorem dX12_isBarred_80 : decode cX12_isBarred 80 = .ok (.if_icmp .ne 5, 3) := by decide +kernel
theorem dX12_isBarred_83 : decode cX12_isBarred 83 = .ok (.iconst 1, 1) := by decide +kernel
theorem dX12_isBarred_84 : decode cX12_isBarred 84 = .ok (.ireturn, 1) := by decide +kernel
theorem dX12_isBarred_85 : decode cX12_isBarred 85 = .ok (.iinc 2 1, 3) := by decide +kernel
theorem dX12_isBarred_88 : decode cX12_isBarred 88 = .ok (.goto (-67), 3) := by decide +kernel
theorem dX12_isBarred_91 : decode cX12_isBarred 91 = .ok (.iconst 0, 1) := by decide +kernel
theorem dX12_isBarred_92 : decode cX12_isBarred 92 = .ok (.ireturn, 1) := by decide +kernel
set_option maxRecDepth 100000 in
set_option maxHeartbeats 4000000 in
theorem w_X12_isBarred_l21 {p : Program} {l : Launch} {e : Env} {R : Room} {s : State} {m : MethodId} {args : Array Value} {below : List Frame} {meth : Method} {c : Code} {cells slots : Nat} {Q : State → Prop} {K : KG} {ad : Nat → Nat → Nat} {fl : Nat} {g1 : Int32} (C : Cx p s m args meth c cX12_isBarred 3 "GlassPalaceModel" (some .boolean)) (hR : 10 ≤ R.frames ∧ 40 * (10) ≤ R.locals) (hB : cells ≤ R.cells ∧ slots ≤ R.slots) : ∀ (n : Nat) (u2 : Int32) (M0 : Mem) (H : Heap) (locs : List Loc) (ls : Array Slot), Zd K LM ad M0 s H locs → lv_has ls 3 [(0, .ref (ad 0 0)), (1, .int g1), (2, .int u2)] → ∀ (q : Nat) (Mq : Mem), f_X12_isBarred_l21 fl g1 n u2 M0 = some (q, Mq) → (q = 0 → ∀ (H : Heap) (locs : List Loc) (ls : Array Slot), Zd K LM ad Mq s H locs → lv_has ls 3 [] → W p l e R s m args below meth c H locs cells slots Q (F0 m 83 ls [])) → (q = 1 → ∀ (H : Heap) (locs : List Loc) (ls : Array Slot), Zd K LM ad Mq s H locs → lv_has ls 3 [] → W p l e R s m args below meth c H locs cells slots Q (F0 m 91 ls [])) → W p l e R s m args below meth c H locs cells slots Q (F0 m 21 ls []) := by
  intro n
  induction n with
  | zero =>
    intro u2 M0 H locs ls Z hl q Mq hf
    have hf : (none : Option (Nat × Mem)) = some (q, Mq) := hf
    cases hf
  | succ n ih =>
    intro u2 M0 H locs ls Z hl q Mq hf kx0 kx1
    replace hf : f_X12_isBarred_l21_b (f_X12_isBarred_l21 fl g1 n) fl g1 u2 M0 = some (q, Mq) := hf
    unfold f_X12_isBarred_l21_b at hf
    refine lv_iload_n C.x C.b dX12_isBarred_21 rfl (lv_at hl 2 rfl) ?_
    refine lv_aload_n C.x C.b dX12_isBarred_22 rfl (lv_at hl 0 rfl) ?_
    refine z_get C Z (lvM0 Nat.zero_lt_one) kM0 zc12 zin12 1 (by decide) k_1177 rfl svM0_1 dX12_isBarred_23 ?_
    refine lv_icmp_ge (tgt := 91) C.x C.b dX12_isBarred_26 (by decide) (fun hc5 => ?_) (fun hc5 => ?_)
    · replace hf := ite_t hf hc5
      obtain ⟨rfl, rfl⟩ := pr_s hf
      exact kx1 rfl _ _ _ Z (lv_sub hl [] rfl)
    · replace hf := ite_f hf hc5
      refine lv_aload_n C.x C.b dX12_isBarred_29 rfl (lv_at hl 0 rfl) ?_
      refine z_get C Z (lvM0 Nat.zero_lt_one) kM0 zc12 zin12 14 (by decide) k_1190 rfl svM0_14 dX12_isBarred_30 ?_
      refine lv_iload_n C.x C.b dX12_isBarred_33 rfl (lv_at hl 2 rfl) ?_
      replace hf := asr_s hf; obtain ⟨hq6, hf⟩ := hf
      refine z_zald C Z (lvM13 Nat.zero_lt_one) kM13 hq6 svM13 dX12_isBarred_34 ?_
      refine lv_if_eq (tgt := 85) C.x C.b dX12_isBarred_35 (by decide) (fun hc7 => ?_) (fun hc7 => ?_)
      · replace hf := ite_t hf hc7
        replace hf := lt1_s hf; obtain ⟨x8, ex8, hf⟩ := hf
        refine z_iinc (v := x8) (lv' := [(2, .int x8), (0, .ref (ad 0 0)), (1, .int g1)]) C dX12_isBarred_85 hl (k := 2) rfl (by rw [ex8]; rfl) (by decide) rfl (onlast 1 rfl rfl rfl) (fun ls hl => ?_)
        refine lv_goto (tgt := 21) C.x C.b dX12_isBarred_88 (by decide) ?_
        exact ih _ _ _ _ _ Z (lv_sub hl [1, 2, 0] rfl) _ _ hf kx0 kx1
      · replace hf := ite_f hf hc7
        refine lv_aload_n C.x C.b dX12_isBarred_38 rfl (lv_at hl 0 rfl) ?_
        refine z_get C Z (lvM0 Nat.zero_lt_one) kM0 zc12 zin12 6 (by decide) k_1182 rfl svM0_6 dX12_isBarred_39 ?_
        refine lv_iload_n C.x C.b dX12_isBarred_42 rfl (lv_at hl 2 rfl) ?_
        replace hf := asr_s hf; obtain ⟨hq9, hf⟩ := hf
        refine z_iald C Z (lvM5 Nat.zero_lt_one) kM5 hq9 svM5 dX12_isBarred_43 ?_
        refine lv_aload_n C.x C.b dX12_isBarred_44 rfl (lv_at hl 0 rfl) ?_
        refine z_get C Z (lvM0 Nat.zero_lt_one) kM0 zc12 zin12 6 (by decide) k_1182 rfl svM0_6 dX12_isBarred_45 ?_
        refine lv_iload_n C.x C.b dX12_isBarred_48 rfl (lv_at hl 1 rfl) ?_
        replace hf := asr_s hf; obtain ⟨hq10, hf⟩ := hf
        refine z_iald C Z (lvM5 Nat.zero_lt_one) kM5 hq10 svM5 dX12_isBarred_49 ?_
        refine lv_icmp_ne (tgt := 85) C.x C.b dX12_isBarred_50 (by decide) (fun hc11 => ?_) (fun hc11 => ?_)
        · replace hf := ite_f hf hc11
          replace hf := lt1_s hf; obtain ⟨x12, ex12, hf⟩ := hf
          refine z_iinc (v := x12) (lv' := [(2, .int x12), (0, .ref (ad 0 0)), (1, .int g1)]) C dX12_isBarred_85 hl (k := 2) rfl (by rw [ex12]; rfl) (by decide) rfl (onlast 1 rfl rfl rfl) (fun ls hl => ?_)
          refine lv_goto (tgt := 21) C.x C.b dX12_isBarred_88 (by decide) ?_
          exact ih _ _ _ _ _ Z (lv_sub hl [1, 2, 0] rfl) _ _ hf kx0 kx1
        · replace hf := ite_t hf hc11
          refine lv_aload_n C.x C.b dX12_isBarred_53 rfl (lv_at hl 0 rfl) ?_
          refine z_get C Z (lvM0 Nat.zero_lt_one) kM0 zc12 zin12 7 (by decide) k_1183 rfl svM0_7 dX12_isBarred_54 ?_
          refine lv_iload_n C.x C.b dX12_isBarred_57 rfl (lv_at hl 2 rfl) ?_
          replace hf := asr_s hf; obtain ⟨hq13, hf⟩ := hf
          refine z_iald C Z (lvM6 Nat.zero_lt_one) kM6 hq13 svM6 dX12_isBarred_58 ?_
          refine lv_aload_n C.x C.b dX12_isBarred_59 rfl (lv_at hl 0 rfl) ?_
          refine z_get C Z (lvM0 Nat.zero_lt_one) kM0 zc12 zin12 7 (by decide) k_1183 rfl svM0_7 dX12_isBarred_60 ?_
          refine lv_iload_n C.x C.b dX12_isBarred_63 rfl (lv_at hl 1 rfl) ?_
          replace hf := asr_s hf; obtain ⟨hq14, hf⟩ := hf
          refine z_iald C Z (lvM6 Nat.zero_lt_one) kM6 hq14 svM6 dX12_isBarred_64 ?_
          refine lv_icmp_ne (tgt := 85) C.x C.b dX12_isBarred_65 (by decide) (fun hc15 => ?_) (fun hc15 => ?_)
          · replace hf := ite_f hf hc15
            replace hf := lt1_s hf; obtain ⟨x16, ex16, hf⟩ := hf
            refine z_iinc (v := x16) (lv' := [(2, .int x16), (0, .ref (ad 0 0)), (1, .int g1)]) C dX12_isBarred_85 hl (k := 2) rfl (by rw [ex16]; rfl) (by decide) rfl (onlast 1 rfl rfl rfl) (fun ls hl => ?_)
            refine lv_goto (tgt := 21) C.x C.b dX12_isBarred_88 (by decide) ?_
            exact ih _ _ _ _ _ Z (lv_sub hl [1, 2, 0] rfl) _ _ hf kx0 kx1
          · replace hf := ite_t hf hc15
            refine lv_aload_n C.x C.b dX12_isBarred_68 rfl (lv_at hl 0 rfl) ?_
            refine z_get C Z (lvM0 Nat.zero_lt_one) kM0 zc12 zin12 10 (by decide) k_1186 rfl svM0_10 dX12_isBarred_69 ?_
            refine lv_iload_n C.x C.b dX12_isBarred_72 rfl (lv_at hl 2 rfl) ?_
            replace hf := asr_s hf; obtain ⟨hq17, hf⟩ := hf
            refine z_iald C Z (lvM9 Nat.zero_lt_one) kM9 hq17 svM9 dX12_isBarred_73 ?_
            refine lv_aload_n C.x C.b dX12_isBarred_74 rfl (lv_at hl 0 rfl) ?_
            refine z_get C Z (lvM0 Nat.zero_lt_one) kM0 zc12 zin12 10 (by decide) k_1186 rfl svM0_10 dX12_isBarred_75 ?_
            refine lv_iload_n C.x C.b dX12_isBarred_78 rfl (lv_at hl 1 rfl) ?_
            replace hf := asr_s hf; obtain ⟨hq18, hf⟩ := hf
            refine z_iald C Z (lvM9 Nat.zero_lt_one) kM9 hq18 svM9 dX12_isBarred_79 ?_
            refine lv_icmp_ne (tgt := 85) C.x C.b dX12_isBarred_80 (by decide) (fun hc19 => ?_) (fun hc19 => ?_)
            · replace hf := ite_f hf hc19
              replace hf := lt1_s hf; obtain ⟨x20, ex20, hf⟩ := hf
              refine z_iinc (v := x20) (lv' := [(2, .int x20), (0, .ref (ad 0 0)), (1, .int g1)]) C dX12_isBarred_85 hl (k := 2) rfl (by rw [ex20]; rfl) (by decide) rfl (onlast 1 rfl rfl rfl) (fun ls hl => ?_)
              refine lv_goto (tgt := 21) C.x C.b dX12_isBarred_88 (by decide) ?_
              exact ih _ _ _ _ _ Z (lv_sub hl [1, 2, 0] rfl) _ _ hf kx0 kx1
            · replace hf := ite_t hf hc19
              obtain ⟨rfl, rfl⟩ := pr_s hf
              exact kx0 rfl _ _ _ Z (lv_sub hl [] rfl)
set_option maxRecDepth 100000 in
set_option maxHeartbeats 4000000 in
theorem c_X12_isBarred {l : Launch} {K : KG} {ad : Nat → Nat → Nat} {fl : Nat} {a1 : Int32} {M0 : Mem} {r9 : Int32} {M9 : Mem} (hf : f_X12_isBarred fl a1 M0 = some (r9, M9)) : Met l yX12_isBarred (Cond.code yX12_isBarred cX12_isBarred 3 (some .boolean) :: ztb) (RM (10) 0 0) (zPc K LM ad M0 [.ref (ad 0 0), .int a1]) (zQ K LM ad (some (.int r9)) M9) 0 0 (zA ad) := by
  refine z_enter (by decide) (Nat.le_of_ble_eq_true rfl) ?_
  intro p e s m args below meth c ls C hin hargs Z hl
  replace C : Cx p s m args meth c cX12_isBarred 3 "GlassPalaceModel" (some .boolean) := C
  replace hl : lv_has ls 3 [(0, .ref (ad 0 0)), (1, .int a1)] := hl
  have hR : 10 ≤ (RM (10) 0 0).frames ∧ 40 * (10) ≤ (RM (10) 0 0).locals := ⟨Nat.le_refl _, Nat.le_refl _⟩
  have hB : 0 ≤ (RM (10) 0 0).cells ∧ 0 ≤ (RM (10) 0 0).slots := ⟨Nat.zero_le _, Nat.zero_le _⟩
  unfold f_X12_isBarred at hf
  refine lv_aload_n C.x C.b dX12_isBarred_0 rfl (lv_at hl 0 rfl) ?_
  refine lv_aload_n C.x C.b dX12_isBarred_1 rfl (lv_at hl 0 rfl) ?_
  refine z_get C Z (lvM0 Nat.zero_lt_one) kM0 zc12 zin12 7 (by decide) k_1183 rfl svM0_7 dX12_isBarred_2 ?_
  refine lv_iload_n C.x C.b dX12_isBarred_5 rfl (lv_at hl 1 rfl) ?_
  replace hf := asr_s hf; obtain ⟨hq1, hf⟩ := hf
  refine z_iald C Z (lvM6 Nat.zero_lt_one) kM6 hq1 svM6 dX12_isBarred_6 ?_
  refine lv_aload_n C.x C.b dX12_isBarred_7 rfl (lv_at hl 0 rfl) ?_
  refine z_get C Z (lvM0 Nat.zero_lt_one) kM0 zc12 zin12 0 (by decide) k_1176 rfl svM0_0 dX12_isBarred_8 ?_
  replace hf := bn2_s hf; obtain ⟨v3, m2, hkm2, hf⟩ := hf
  refine z_cV (As := [.int (gI M0 6 0 (Int32.toNatClampNeg a1)), .int (gI M0 0 0 0)]) (rest := []) (st1 := [.int v3]) C Z mw_X12_barsFoundry mv_X12_barsFoundry k_1450 (by decide) (z_hR hR (by decide)) (lvM0 Nat.zero_lt_one) kM0 zc12 (c_X12_barsFoundry (l := l) (K := K) (ad := ad) hkm2) rfl hl.1 rfl (Nat.le_of_ble_eq_true rfl) dX12_isBarred_11 hB rfl (fun H locs Z => ?_)
  refine lv_if_eq (tgt := 19) C.x C.b dX12_isBarred_14 (by decide) (fun hc4 => ?_) (fun hc4 => ?_)
  · replace hf := ite_t hf hc4
    refine lv_iconst (v := 0) C.x C.b dX12_isBarred_19 (by decide) ?_
    refine z_istore_n (lv' := [(2, .int 0), (0, .ref (ad 0 0)), (1, .int a1)]) C dX12_isBarred_20 rfl hl (by decide) rfl (onlast 1 rfl rfl rfl) (fun ls hl => ?_)
    replace hf := bn2_s hf; obtain ⟨q21, m22, hq21, hf⟩ := hf
    refine w_X12_isBarred_l21 C hR hB  fl _ _ _ _ _ Z (lv_sub hl [1, 2, 0] rfl) _ _ hq21 (fun ht H locs ls Z hl => ?_) (fun ht H locs ls Z hl => ?_)
    · replace hf := ite_t hf ht
      refine lv_iconst (v := 1) C.x C.b dX12_isBarred_83 (by decide) ?_
      obtain ⟨rfl, rfl⟩ := pr_s hf
      exact z_zret C Z rfl dX12_isBarred_84
    · replace hf := ite_f hf (by rw [ht]; decide)
      refine lv_iconst (v := 0) C.x C.b dX12_isBarred_91 (by decide) ?_
      obtain ⟨rfl, rfl⟩ := pr_s hf
      exact z_zret C Z rfl dX12_isBarred_92
  · replace hf := ite_f hf hc4
    refine lv_iconst (v := 1) C.x C.b dX12_isBarred_17 (by decide) ?_
    obtain ⟨rfl, rfl⟩ := pr_s hf
    exact z_zret C Z rfl dX12_isBarred_18
theorem dX12_number_0 : decode cX12_number 0 = .ok (.aload_n 0, 1) := by decide +kernel
theorem dX12_number_1 : decode cX12_number 1 = .ok (.iload_n 1, 1) := by decide +kernel
theorem dX12_number_2 : decode cX12_number 2 = .ok (.iload_n 2, 1) := by decide +kernel
theorem dX12_number_3 : decode cX12_number 3 = .ok (.invokevirtual 332, 3) := by decide +kernel
theorem dX12_number_6 : decode cX12_number 6 = .ok (.ifCond .lt 12, 3) := by decide +kernel
theorem dX12_number_9 : decode cX12_number 9 = .ok (.aload_n 0, 1) := by decide +kernel
theorem dX12_number_10 : decode cX12_number 10 = .ok (.getfield 104, 3) := by decide +kernel
theorem dX12_number_13 : decode cX12_number 13 = .ok (.iload_n 1, 1) := by decide +kernel
theorem dX12_number_14 : decode cX12_number 14 = .ok (.iaload, 1) := by decide +kernel
theorem dX12_number_15 : decode cX12_number 15 = .ok (.goto 32, 3) := by decide +kernel
theorem dX12_number_18 : decode cX12_number 18 = .ok (.iload_n 1, 1) := by decide +kernel
theorem dX12_number_19 : decode cX12_number 19 = .ok (.iconst 1, 1) := by decide +kernel
theorem dX12_number_20 : decode cX12_number 20 = .ok (.if_icmp .ne 8, 3) := by decide +kernel
theorem dX12_number_23 : decode cX12_number 23 = .ok (.bipush 10, 2) := by decide +kernel
theorem dX12_number_25 : decode cX12_number 25 = .ok (.goto 22, 3) := by decide +kernel
theorem dX12_number_28 : decode cX12_number 28 = .ok (.iload_n 1, 1) := by decide +kernel
theorem dX12_number_29 : decode cX12_number 29 = .ok (.iconst 2, 1) := by decide +kernel
theorem dX12_number_30 : decode cX12_number 30 = .ok (.if_icmp .ne 7, 3) := by decide +kernel
theorem dX12_number_33 : decode cX12_number 33 = .ok (.iconst 3, 1) := by decide +kernel
theorem dX12_number_34 : decode cX12_number 34 = .ok (.goto 13, 3) := by decide +kernel
theorem dX12_number_37 : decode cX12_number 37 = .ok (.iload_n 1, 1) := by decide +kernel
theorem dX12_number_38 : decode cX12_number 38 = .ok (.iconst 3, 1) := by decide +kernel
theorem dX12_number_39 : decode cX12_number 39 = .ok (.if_icmp .ne 7, 3) := by decide +kernel
theorem dX12_number_42 : decode cX12_number 42 = .ok (.iconst 2, 1) := by decide +kernel
theorem dX12_number_43 : decode cX12_number 43 = .ok (.goto 4, 3) := by decide +kernel
theorem dX12_number_46 : decode cX12_number 46 = .ok (.iconst 0, 1) := by decide +kernel
theorem dX12_number_47 : decode cX12_number 47 = .ok (.ireturn, 1) := by decide +kernel
set_option maxRecDepth 100000 in
set_option maxHeartbeats 4000000 in
theorem c_X12_number {l : Launch} {K : KG} {ad : Nat → Nat → Nat} {fl : Nat} {a1 : Int32} {a2 : Int32} {M0 : Mem} {r9 : Int32} {M9 : Mem} (hf : f_X12_number fl a1 a2 M0 = some (r9, M9)) : Met l yX12_number (Cond.code yX12_number cX12_number 3 (some .int) :: ztb) (RM (9) 0 0) (zPc K LM ad M0 [.ref (ad 0 0), .int a1, .int a2]) (zQ K LM ad (some (.int r9)) M9) 0 0 (zA ad) := by
  refine z_enter (by decide) (Nat.le_of_ble_eq_true rfl) ?_
  intro p e s m args below meth c ls C hin hargs Z hl
  replace C : Cx p s m args meth c cX12_number 3 "GlassPalaceModel" (some .int) := C
  replace hl : lv_has ls 3 [(0, .ref (ad 0 0)), (1, .int a1), (2, .int a2)] := hl
  have hR : 9 ≤ (RM (9) 0 0).frames ∧ 40 * (9) ≤ (RM (9) 0 0).locals := ⟨Nat.le_refl _, Nat.le_refl _⟩
  have hB : 0 ≤ (RM (9) 0 0).cells ∧ 0 ≤ (RM (9) 0 0).slots := ⟨Nat.zero_le _, Nat.zero_le _⟩
  unfold f_X12_number at hf
  refine lv_aload_n C.x C.b dX12_number_0 rfl (lv_at hl 0 rfl) ?_
  refine lv_iload_n C.x C.b dX12_number_1 rfl (lv_at hl 1 rfl) ?_
  refine lv_iload_n C.x C.b dX12_number_2 rfl (lv_at hl 2 rfl) ?_
  replace hf := bn2_s hf; obtain ⟨v2, m1, hkm1, hf⟩ := hf
  refine z_cV (As := [.int a1, .int a2]) (rest := []) (st1 := [.int v2]) C Z mw_X12_ruler mv_X12_ruler k_1454 (by decide) (z_hR hR (by decide)) (lvM0 Nat.zero_lt_one) kM0 zc12 (c_X12_ruler (l := l) (K := K) (ad := ad) hkm1) rfl hl.1 rfl (Nat.le_of_ble_eq_true rfl) dX12_number_3 hB rfl (fun H locs Z => ?_)
  refine lv_if_lt (tgt := 18) C.x C.b dX12_number_6 (by decide) (fun hc3 => ?_) (fun hc3 => ?_)
  · replace hf := ite_t hf hc3
    refine lv_iload_n C.x C.b dX12_number_18 rfl (lv_at hl 1 rfl) ?_
    refine lv_iconst (v := 1) C.x C.b dX12_number_19 (by decide) ?_
    refine lv_icmp_ne (tgt := 28) C.x C.b dX12_number_20 (by decide) (fun hc4 => ?_) (fun hc4 => ?_)
    · replace hf := ite_f hf hc4
      refine lv_iload_n C.x C.b dX12_number_28 rfl (lv_at hl 1 rfl) ?_
      refine lv_iconst (v := 2) C.x C.b dX12_number_29 (by decide) ?_
      refine lv_icmp_ne (tgt := 37) C.x C.b dX12_number_30 (by decide) (fun hc5 => ?_) (fun hc5 => ?_)
      · replace hf := ite_f hf hc5
        refine lv_iload_n C.x C.b dX12_number_37 rfl (lv_at hl 1 rfl) ?_
        refine lv_iconst (v := 3) C.x C.b dX12_number_38 (by decide) ?_
        refine lv_icmp_ne (tgt := 46) C.x C.b dX12_number_39 (by decide) (fun hc6 => ?_) (fun hc6 => ?_)
        · replace hf := ite_f hf hc6
          refine lv_iconst (v := 0) C.x C.b dX12_number_46 (by decide) ?_
          obtain ⟨rfl, rfl⟩ := pr_s hf
          exact z_iret C Z dX12_number_47
        · replace hf := ite_t hf hc6
          refine lv_iconst (v := 2) C.x C.b dX12_number_42 (by decide) ?_
          refine lv_goto (tgt := 47) C.x C.b dX12_number_43 (by decide) ?_
          obtain ⟨rfl, rfl⟩ := pr_s hf
          exact z_iret C Z dX12_number_47
      · replace hf := ite_t hf hc5
        refine lv_iconst (v := 3) C.x C.b dX12_number_33 (by decide) ?_
        refine lv_goto (tgt := 47) C.x C.b dX12_number_34 (by decide) ?_
        obtain ⟨rfl, rfl⟩ := pr_s hf
        exact z_iret C Z dX12_number_47
    · replace hf := ite_t hf hc4
      refine lv_bipush (v := 10) C.x C.b dX12_number_23 (by decide) ?_
      refine lv_goto (tgt := 47) C.x C.b dX12_number_25 (by decide) ?_
      obtain ⟨rfl, rfl⟩ := pr_s hf
      exact z_iret C Z dX12_number_47
  · replace hf := ite_f hf hc3
    refine lv_aload_n C.x C.b dX12_number_9 rfl (lv_at hl 0 rfl) ?_
    refine z_get C Z (lvM0 Nat.zero_lt_one) kM0 zc12 zin12 28 (by decide) k_1204 rfl svM0_28 dX12_number_10 ?_
    refine lv_iload_n C.x C.b dX12_number_13 rfl (lv_at hl 1 rfl) ?_
    replace hf := asr_s hf; obtain ⟨hq7, hf⟩ := hf
    refine z_iald C Z (lvM24 Nat.zero_lt_one) kM24 hq7 svM24 dX12_number_14 ?_
    refine lv_goto (tgt := 47) C.x C.b dX12_number_15 (by decide) ?_
    obtain ⟨rfl, rfl⟩ := pr_s hf
    exact z_iret C Z dX12_number_47
theorem dX12_of_0 : decode cX12_of 0 = .ok (.aload_n 0, 1) := by decide +kernel
theorem dX12_of_1 : decode cX12_of 1 = .ok (.iload_n 1, 1) := by decide +kernel
theorem dX12_of_2 : decode cX12_of 2 = .ok (.invokevirtual 251, 3) := by decide +kernel
theorem dX12_of_5 : decode cX12_of 5 = .ok (.ifCond .ne 5, 3) := by decide +kernel
theorem dX12_of_8 : decode cX12_of 8 = .ok (.iconst (-1), 1) := by decide +kernel
theorem dX12_of_9 : decode cX12_of 9 = .ok (.ireturn, 1) := by decide +kernel
theorem dX12_of_10 : decode cX12_of 10 = .ok (.iload_n 2, 1) := by decide +kernel
theorem dX12_of_11 : decode cX12_of 11 = .ok (.tableswitch 144 0 8 #[49, 56, 63, 70, 77, 84, 105, 111, 125], 49) := by decide +kernel
theorem dX12_of_60 : decode cX12_of 60 = .ok (.aload_n 0, 1) := by decide +kernel
theorem dX12_of_61 : decode cX12_of 61 = .ok (.getfield 37, 3) := by decide +kernel
theorem dX12_of_64 : decode cX12_of 64 = .ok (.iload_n 1, 1) := by decide +kernel
theorem dX12_of_65 : decode cX12_of 65 = .ok (.iaload, 1) := by decide +kernel
theorem dX12_of_66 : decode cX12_of 66 = .ok (.ireturn, 1) := by decide +kernel
theorem dX12_of_67 : decode cX12_of 67 = .ok (.aload_n 0, 1) := by decide +kernel
theorem dX12_of_68 : decode cX12_of 68 = .ok (.getfield 40, 3) := by decide +kernel
theorem dX12_of_71 : decode cX12_of 71 = .ok (.iload_n 1, 1) := by decide +kernel
theorem dX12_of_72 : decode cX12_of 72 = .ok (.iaload, 1) := by decide +kernel
theorem dX12_of_73 : decode cX12_of 73 = .ok (.ireturn, 1) := by decide +kernel
theorem dX12_of_74 : decode cX12_of 74 = .ok (.aload_n 0, 1) := by decide +kernel
theorem dX12_of_75 : decode cX12_of 75 = .ok (.getfield 43, 3) := by decide +kernel
theorem dX12_of_78 : decode cX12_of 78 = .ok (.iload_n 1, 1) := by decide +kernel
theorem dX12_of_79 : decode cX12_of 79 = .ok (.iaload, 1) := by decide +kernel
theorem dX12_of_80 : decode cX12_of 80 = .ok (.ireturn, 1) := by decide +kernel
theorem dX12_of_81 : decode cX12_of 81 = .ok (.aload_n 0, 1) := by decide +kernel
theorem dX12_of_82 : decode cX12_of 82 = .ok (.getfield 46, 3) := by decide +kernel
theorem dX12_of_85 : decode cX12_of 85 = .ok (.iload_n 1, 1) := by decide +kernel
theorem dX12_of_86 : decode cX12_of 86 = .ok (.iaload, 1) := by decide +kernel
theorem dX12_of_87 : decode cX12_of 87 = .ok (.ireturn, 1) := by decide +kernel
theorem dX12_of_88 : decode cX12_of 88 = .ok (.aload_n 0, 1) := by decide +kernel
theorem dX12_of_89 : decode cX12_of 89 = .ok (.getfield 49, 3) := by decide +kernel
theorem dX12_of_92 : decode cX12_of 92 = .ok (.iload_n 1, 1) := by decide +kernel
theorem dX12_of_93 : decode cX12_of 93 = .ok (.iaload, 1) := by decide +kernel
theorem dX12_of_94 : decode cX12_of 94 = .ok (.ireturn, 1) := by decide +kernel
theorem dX12_of_95 : decode cX12_of 95 = .ok (.aload_n 0, 1) := by decide +kernel
theorem dX12_of_96 : decode cX12_of 96 = .ok (.getfield 52, 3) := by decide +kernel
theorem dX12_of_99 : decode cX12_of 99 = .ok (.iload_n 1, 1) := by decide +kernel
theorem dX12_of_100 : decode cX12_of 100 = .ok (.iaload, 1) := by decide +kernel
theorem dX12_of_101 : decode cX12_of 101 = .ok (.ifCond .ge 8, 3) := by decide +kernel
theorem dX12_of_104 : decode cX12_of 104 = .ok (.bipush (-5), 2) := by decide +kernel
theorem dX12_of_106 : decode cX12_of 106 = .ok (.goto 9, 3) := by decide +kernel
theorem dX12_of_109 : decode cX12_of 109 = .ok (.aload_n 0, 1) := by decide +kernel
theorem dX12_of_110 : decode cX12_of 110 = .ok (.getfield 52, 3) := by decide +kernel
theorem dX12_of_113 : decode cX12_of 113 = .ok (.iload_n 1, 1) := by decide +kernel
theorem dX12_of_114 : decode cX12_of 114 = .ok (.iaload, 1) := by decide +kernel
theorem dX12_of_115 : decode cX12_of 115 = .ok (.ireturn, 1) := by decide +kernel
theorem dX12_of_116 : decode cX12_of 116 = .ok (.aload_n 0, 1) := by decide +kernel
theorem dX12_of_117 : decode cX12_of 117 = .ok (.iload_n 1, 1) := by decide +kernel
theorem dX12_of_118 : decode cX12_of 118 = .ok (.invokevirtual 257, 3) := by decide +kernel
theorem dX12_of_121 : decode cX12_of 121 = .ok (.ireturn, 1) := by decide +kernel
theorem dX12_of_122 : decode cX12_of 122 = .ok (.aload_n 0, 1) := by decide +kernel
theorem dX12_of_123 : decode cX12_of 123 = .ok (.iload_n 1, 1) := by decide +kernel
theorem dX12_of_124 : decode cX12_of 124 = .ok (.invokevirtual 260, 3) := by decide +kernel
theorem dX12_of_127 : decode cX12_of 127 = .ok (.ifCond .eq 7, 3) := by decide +kernel
theorem dX12_of_130 : decode cX12_of 130 = .ok (.iconst 1, 1) := by decide +kernel
theorem dX12_of_131 : decode cX12_of 131 = .ok (.goto 4, 3) := by decide +kernel
theorem dX12_of_134 : decode cX12_of 134 = .ok (.iconst 0, 1) := by decide +kernel
theorem dX12_of_135 : decode cX12_of 135 = .ok (.ireturn, 1) := by decide +kernel
theorem dX12_of_136 : decode cX12_of 136 = .ok (.aload_n 0, 1) := by decide +kernel
theorem dX12_of_137 : decode cX12_of 137 = .ok (.getfield 43, 3) := by decide +kernel
theorem dX12_of_140 : decode cX12_of 140 = .ok (.iload_n 1, 1) := by decide +kernel
theorem dX12_of_141 : decode cX12_of 141 = .ok (.iaload, 1) := by decide +kernel
theorem dX12_of_142 : decode cX12_of 142 = .ok (.aload_n 0, 1) := by decide +kernel
theorem dX12_of_143 : decode cX12_of 143 = .ok (.iconst 1, 1) := by decide +kernel
theorem dX12_of_144 : decode cX12_of 144 = .ok (.aload_n 0, 1) := by decide +kernel
theorem dX12_of_145 : decode cX12_of 145 = .ok (.getfield 49, 3) := by decide +kernel
theorem dX12_of_148 : decode cX12_of 148 = .ok (.iload_n 1, 1) := by decide +kernel
theorem dX12_of_149 : decode cX12_of 149 = .ok (.iaload, 1) := by decide +kernel
theorem dX12_of_150 : decode cX12_of 150 = .ok (.invokevirtual 263, 3) := by decide +kernel
theorem dX12_of_153 : decode cX12_of 153 = .ok (.imul, 1) := by decide +kernel
theorem dX12_of_154 : decode cX12_of 154 = .ok (.ireturn, 1) := by decide +kernel
theorem dX12_of_155 : decode cX12_of 155 = .ok (.iconst (-1), 1) := by decide +kernel
theorem dX12_of_156 : decode cX12_of 156 = .ok (.ireturn, 1) := by decide +kernel
set_option maxRecDepth 100000 in
set_option maxHeartbeats 4000000 in
theorem c_X12_of {l : Launch} {K : KG} {ad : Nat → Nat → Nat} {fl : Nat} {a1 : Int32} {a2 : Int32} {M0 : Mem} {r9 : Int32} {M9 : Mem} (hf : f_X12_of fl a1 a2 M0 = some (r9, M9)) : Met l yX12_of (Cond.code yX12_of cX12_of 3 (some .int) :: ztb) (RM (11) 0 0) (zPc K LM ad M0 [.ref (ad 0 0), .int a1, .int a2]) (zQ K LM ad (some (.int r9)) M9) 0 0 (zA ad) := by
  refine z_enter (by decide) (Nat.le_of_ble_eq_true rfl) ?_
  intro p e s m args below meth c ls C hin hargs Z hl
  replace C : Cx p s m args meth c cX12_of 3 "GlassPalaceModel" (some .int) := C
  replace hl : lv_has ls 3 [(0, .ref (ad 0 0)), (1, .int a1), (2, .int a2)] := hl
  have hR : 11 ≤ (RM (11) 0 0).frames ∧ 40 * (11) ≤ (RM (11) 0 0).locals := ⟨Nat.le_refl _, Nat.le_refl _⟩
  have hB : 0 ≤ (RM (11) 0 0).cells ∧ 0 ≤ (RM (11) 0 0).slots := ⟨Nat.zero_le _, Nat.zero_le _⟩
  unfold f_X12_of at hf
  refine lv_aload_n C.x C.b dX12_of_0 rfl (lv_at hl 0 rfl) ?_
  refine lv_iload_n C.x C.b dX12_of_1 rfl (lv_at hl 1 rfl) ?_
  replace hf := bn2_s hf; obtain ⟨v2, m1, hkm1, hf⟩ := hf
  refine z_cV (As := [.int a1]) (rest := []) (st1 := [.int v2]) C Z mw_X12_isLot mv_X12_isLot k_1434 (by decide) (z_hR hR (by decide)) (lvM0 Nat.zero_lt_one) kM0 zc12 (c_X12_isLot (l := l) (K := K) (ad := ad) hkm1) rfl hl.1 rfl (Nat.le_of_ble_eq_true rfl) dX12_of_2 hB rfl (fun H locs Z => ?_)
  refine lv_if_ne (tgt := 10) C.x C.b dX12_of_5 (by decide) (fun hc3 => ?_) (fun hc3 => ?_)
  · replace hf := ite_f hf hc3
    refine lv_iload_n C.x C.b dX12_of_10 rfl (lv_at hl 2 rfl) ?_
    by_cases hx4 : a2 = 0
    · replace hf := ite_t hf hx4
      refine lv_tableIn (tgt := 60) C.x C.b dX12_of_11 (by rw [hx4]; decide) (by rw [hx4]; decide) (by rw [hx4]; rfl) (by decide) ?_
      refine lv_aload_n C.x C.b dX12_of_60 rfl (lv_at hl 0 rfl) ?_
      refine z_get C Z (lvM0 Nat.zero_lt_one) kM0 zc12 zin12 6 (by decide) k_1182 rfl svM0_6 dX12_of_61 ?_
      refine lv_iload_n C.x C.b dX12_of_64 rfl (lv_at hl 1 rfl) ?_
      replace hf := asr_s hf; obtain ⟨hq5, hf⟩ := hf
      refine z_iald C Z (lvM5 Nat.zero_lt_one) kM5 hq5 svM5 dX12_of_65 ?_
      obtain ⟨rfl, rfl⟩ := pr_s hf
      exact z_iret C Z dX12_of_66
    replace hf := ite_f hf hx4
    by_cases hx6 : a2 = 1
    · replace hf := ite_t hf hx6
      refine lv_tableIn (tgt := 67) C.x C.b dX12_of_11 (by rw [hx6]; decide) (by rw [hx6]; decide) (by rw [hx6]; rfl) (by decide) ?_
      refine lv_aload_n C.x C.b dX12_of_67 rfl (lv_at hl 0 rfl) ?_
      refine z_get C Z (lvM0 Nat.zero_lt_one) kM0 zc12 zin12 7 (by decide) k_1183 rfl svM0_7 dX12_of_68 ?_
      refine lv_iload_n C.x C.b dX12_of_71 rfl (lv_at hl 1 rfl) ?_
      replace hf := asr_s hf; obtain ⟨hq7, hf⟩ := hf
      refine z_iald C Z (lvM6 Nat.zero_lt_one) kM6 hq7 svM6 dX12_of_72 ?_
      obtain ⟨rfl, rfl⟩ := pr_s hf
      exact z_iret C Z dX12_of_73
    replace hf := ite_f hf hx6
    by_cases hx8 : a2 = 2
    · replace hf := ite_t hf hx8
      refine lv_tableIn (tgt := 74) C.x C.b dX12_of_11 (by rw [hx8]; decide) (by rw [hx8]; decide) (by rw [hx8]; rfl) (by decide) ?_
      refine lv_aload_n C.x C.b dX12_of_74 rfl (lv_at hl 0 rfl) ?_
      refine z_get C Z (lvM0 Nat.zero_lt_one) kM0 zc12 zin12 8 (by decide) k_1184 rfl svM0_8 dX12_of_75 ?_
      refine lv_iload_n C.x C.b dX12_of_78 rfl (lv_at hl 1 rfl) ?_
      replace hf := asr_s hf; obtain ⟨hq9, hf⟩ := hf
      refine z_iald C Z (lvM7 Nat.zero_lt_one) kM7 hq9 svM7 dX12_of_79 ?_
      obtain ⟨rfl, rfl⟩ := pr_s hf
      exact z_iret C Z dX12_of_80
    replace hf := ite_f hf hx8
    by_cases hx10 : a2 = 3
    · replace hf := ite_t hf hx10
      refine lv_tableIn (tgt := 81) C.x C.b dX12_of_11 (by rw [hx10]; decide) (by rw [hx10]; decide) (by rw [hx10]; rfl) (by decide) ?_
      refine lv_aload_n C.x C.b dX12_of_81 rfl (lv_at hl 0 rfl) ?_
      refine z_get C Z (lvM0 Nat.zero_lt_one) kM0 zc12 zin12 9 (by decide) k_1185 rfl svM0_9 dX12_of_82 ?_
      refine lv_iload_n C.x C.b dX12_of_85 rfl (lv_at hl 1 rfl) ?_
      replace hf := asr_s hf; obtain ⟨hq11, hf⟩ := hf
      refine z_iald C Z (lvM8 Nat.zero_lt_one) kM8 hq11 svM8 dX12_of_86 ?_
      obtain ⟨rfl, rfl⟩ := pr_s hf
      exact z_iret C Z dX12_of_87
    replace hf := ite_f hf hx10
    by_cases hx12 : a2 = 4
    · replace hf := ite_t hf hx12
      refine lv_tableIn (tgt := 88) C.x C.b dX12_of_11 (by rw [hx12]; decide) (by rw [hx12]; decide) (by rw [hx12]; rfl) (by decide) ?_
      refine lv_aload_n C.x C.b dX12_of_88 rfl (lv_at hl 0 rfl) ?_
      refine z_get C Z (lvM0 Nat.zero_lt_one) kM0 zc12 zin12 10 (by decide) k_1186 rfl svM0_10 dX12_of_89 ?_
      refine lv_iload_n C.x C.b dX12_of_92 rfl (lv_at hl 1 rfl) ?_
      replace hf := asr_s hf; obtain ⟨hq13, hf⟩ := hf
      refine z_iald C Z (lvM9 Nat.zero_lt_one) kM9 hq13 svM9 dX12_of_93 ?_
      obtain ⟨rfl, rfl⟩ := pr_s hf
      exact z_iret C Z dX12_of_94
    replace hf := ite_f hf hx12
    by_cases hx14 : a2 = 5
    · replace hf := ite_t hf hx14
      refine lv_tableIn (tgt := 95) C.x C.b dX12_of_11 (by rw [hx14]; decide) (by rw [hx14]; decide) (by rw [hx14]; rfl) (by decide) ?_
      refine lv_aload_n C.x C.b dX12_of_95 rfl (lv_at hl 0 rfl) ?_
      refine z_get C Z (lvM0 Nat.zero_lt_one) kM0 zc12 zin12 11 (by decide) k_1187 rfl svM0_11 dX12_of_96 ?_
      refine lv_iload_n C.x C.b dX12_of_99 rfl (lv_at hl 1 rfl) ?_
      replace hf := asr_s hf; obtain ⟨hq15, hf⟩ := hf
      refine z_iald C Z (lvM10 Nat.zero_lt_one) kM10 hq15 svM10 dX12_of_100 ?_
      refine lv_if_ge (tgt := 109) C.x C.b dX12_of_101 (by decide) (fun hc16 => ?_) (fun hc16 => ?_)
      · replace hf := ite_t hf hc16
        refine lv_aload_n C.x C.b dX12_of_109 rfl (lv_at hl 0 rfl) ?_
        refine z_get C Z (lvM0 Nat.zero_lt_one) kM0 zc12 zin12 11 (by decide) k_1187 rfl svM0_11 dX12_of_110 ?_
        refine lv_iload_n C.x C.b dX12_of_113 rfl (lv_at hl 1 rfl) ?_
        replace hf := asr_s hf; obtain ⟨hq17, hf⟩ := hf
        refine z_iald C Z (lvM10 Nat.zero_lt_one) kM10 hq17 svM10 dX12_of_114 ?_
        obtain ⟨rfl, rfl⟩ := pr_s hf
        exact z_iret C Z dX12_of_115
      · replace hf := ite_f hf hc16
        refine lv_bipush (v := (-5)) C.x C.b dX12_of_104 (by decide) ?_
        refine lv_goto (tgt := 115) C.x C.b dX12_of_106 (by decide) ?_
        obtain ⟨rfl, rfl⟩ := pr_s hf
        exact z_iret C Z dX12_of_115
    replace hf := ite_f hf hx14
    by_cases hx18 : a2 = 6
    · replace hf := ite_t hf hx18
      refine lv_tableIn (tgt := 116) C.x C.b dX12_of_11 (by rw [hx18]; decide) (by rw [hx18]; decide) (by rw [hx18]; rfl) (by decide) ?_
      refine lv_aload_n C.x C.b dX12_of_116 rfl (lv_at hl 0 rfl) ?_
      refine lv_iload_n C.x C.b dX12_of_117 rfl (lv_at hl 1 rfl) ?_
      replace hf := bn2_s hf; obtain ⟨v20, m19, hkm19, hf⟩ := hf
      refine z_cV (As := [.int a1]) (rest := []) (st1 := [.int v20]) C Z mw_X12_stock mv_X12_stock k_1442 (by decide) (z_hR hR (by decide)) (lvM0 Nat.zero_lt_one) kM0 zc12 (c_X12_stock (l := l) (K := K) (ad := ad) hkm19) rfl hl.1 rfl (Nat.le_of_ble_eq_true rfl) dX12_of_118 hB rfl (fun H locs Z => ?_)
      obtain ⟨rfl, rfl⟩ := pr_s hf
      exact z_iret C Z dX12_of_121
    replace hf := ite_f hf hx18
    by_cases hx21 : a2 = 7
    · replace hf := ite_t hf hx21
      refine lv_tableIn (tgt := 122) C.x C.b dX12_of_11 (by rw [hx21]; decide) (by rw [hx21]; decide) (by rw [hx21]; rfl) (by decide) ?_
      refine lv_aload_n C.x C.b dX12_of_122 rfl (lv_at hl 0 rfl) ?_
      refine lv_iload_n C.x C.b dX12_of_123 rfl (lv_at hl 1 rfl) ?_
      replace hf := bn2_s hf; obtain ⟨v23, m22, hkm22, hf⟩ := hf
      refine z_cV (As := [.int a1]) (rest := []) (st1 := [.int v23]) C Z mw_X12_isBarred mv_X12_isBarred k_1446 (by decide) (z_hR hR (by decide)) (lvM0 Nat.zero_lt_one) kM0 zc12 (c_X12_isBarred (l := l) (K := K) (ad := ad) hkm22) rfl hl.1 rfl (Nat.le_of_ble_eq_true rfl) dX12_of_124 hB rfl (fun H locs Z => ?_)
      refine lv_if_eq (tgt := 134) C.x C.b dX12_of_127 (by decide) (fun hc24 => ?_) (fun hc24 => ?_)
      · replace hf := ite_t hf hc24
        refine lv_iconst (v := 0) C.x C.b dX12_of_134 (by decide) ?_
        obtain ⟨rfl, rfl⟩ := pr_s hf
        exact z_iret C Z dX12_of_135
      · replace hf := ite_f hf hc24
        refine lv_iconst (v := 1) C.x C.b dX12_of_130 (by decide) ?_
        refine lv_goto (tgt := 135) C.x C.b dX12_of_131 (by decide) ?_
        obtain ⟨rfl, rfl⟩ := pr_s hf
        exact z_iret C Z dX12_of_135
    replace hf := ite_f hf hx21
    by_cases hx25 : a2 = 8
    · replace hf := ite_t hf hx25
      refine lv_tableIn (tgt := 136) C.x C.b dX12_of_11 (by rw [hx25]; decide) (by rw [hx25]; decide) (by rw [hx25]; rfl) (by decide) ?_
      refine lv_aload_n C.x C.b dX12_of_136 rfl (lv_at hl 0 rfl) ?_
      refine z_get C Z (lvM0 Nat.zero_lt_one) kM0 zc12 zin12 8 (by decide) k_1184 rfl svM0_8 dX12_of_137 ?_
      refine lv_iload_n C.x C.b dX12_of_140 rfl (lv_at hl 1 rfl) ?_
      replace hf := asr_s hf; obtain ⟨hq26, hf⟩ := hf
      refine z_iald C Z (lvM7 Nat.zero_lt_one) kM7 hq26 svM7 dX12_of_141 ?_
      refine lv_aload_n C.x C.b dX12_of_142 rfl (lv_at hl 0 rfl) ?_
      refine lv_iconst (v := 1) C.x C.b dX12_of_143 (by decide) ?_
      refine lv_aload_n C.x C.b dX12_of_144 rfl (lv_at hl 0 rfl) ?_
      refine z_get C Z (lvM0 Nat.zero_lt_one) kM0 zc12 zin12 10 (by decide) k_1186 rfl svM0_10 dX12_of_145 ?_
      refine lv_iload_n C.x C.b dX12_of_148 rfl (lv_at hl 1 rfl) ?_
      replace hf := asr_s hf; obtain ⟨hq27, hf⟩ := hf
      refine z_iald C Z (lvM9 Nat.zero_lt_one) kM9 hq27 svM9 dX12_of_149 ?_
      replace hf := bn2_s hf; obtain ⟨v29, m28, hkm28, hf⟩ := hf
      refine z_cV (As := [.int 1, .int (gI m1 9 0 (Int32.toNatClampNeg a1))]) (rest := [.int (gI m1 7 0 (Int32.toNatClampNeg a1))]) (st1 := [.int v29, .int (gI m1 7 0 (Int32.toNatClampNeg a1))]) C Z mw_X12_number mv_X12_number k_1509 (by decide) (z_hR hR (by decide)) (lvM0 Nat.zero_lt_one) kM0 zc12 (c_X12_number (l := l) (K := K) (ad := ad) hkm28) rfl hl.1 rfl (Nat.le_of_ble_eq_true rfl) dX12_of_150 hB rfl (fun H locs Z => ?_)
      refine lv_imul C.x C.b dX12_of_153 ?_
      obtain ⟨rfl, rfl⟩ := pr_s hf
      exact z_iret C Z dX12_of_154
    replace hf := ite_f hf hx25
    refine lv_tableOut (tgt := 155) C.x C.b dX12_of_11 (tab_out (fun k h1 h2 => by rcases (show k = 0 ∨ k = 1 ∨ k = 2 ∨ k = 3 ∨ k = 4 ∨ k = 5 ∨ k = 6 ∨ k = 7 ∨ k = 8 by omega) with rfl | rfl | rfl | rfl | rfl | rfl | rfl | rfl | rfl <;> assumption)) (by decide) ?_
    refine lv_iconst (v := (-1)) C.x C.b dX12_of_155 (by decide) ?_
    obtain ⟨rfl, rfl⟩ := pr_s hf
    exact z_iret C Z dX12_of_156
  · replace hf := ite_t hf hc3
    refine lv_iconst (v := (-1)) C.x C.b dX12_of_8 (by decide) ?_
    obtain ⟨rfl, rfl⟩ := pr_s hf
    exact z_iret C Z dX12_of_9
