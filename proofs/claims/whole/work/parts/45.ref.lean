theorem dX12_meet_0 : decode cX12_meet 0 = .ok (.aload_n 0, 1) := by decide +kernel
theorem dX12_meet_1 : decode cX12_meet 1 = .ok (.getfield 206, 3) := by decide +kernel
theorem dX12_meet_4 : decode cX12_meet 4 = .ok (.iload_n 1, 1) := by decide +kernel
theorem dX12_meet_5 : decode cX12_meet 5 = .ok (.iaload, 1) := by decide +kernel
theorem dX12_meet_6 : decode cX12_meet 6 = .ok (.ifCond .lt 36, 3) := by decide +kernel
theorem dX12_meet_9 : decode cX12_meet 9 = .ok (.aload_n 0, 1) := by decide +kernel
theorem dX12_meet_10 : decode cX12_meet 10 = .ok (.getfield 206, 3) := by decide +kernel
theorem dX12_meet_13 : decode cX12_meet 13 = .ok (.iload_n 1, 1) := by decide +kernel
theorem dX12_meet_14 : decode cX12_meet 14 = .ok (.iaload, 1) := by decide +kernel
theorem dX12_meet_15 : decode cX12_meet 15 = .ok (.iload_n 2, 1) := by decide +kernel
theorem dX12_meet_16 : decode cX12_meet 16 = .ok (.iload_n 3, 1) := by decide +kernel
theorem dX12_meet_17 : decode cX12_meet 17 = .ok (.iadd, 1) := by decide +kernel
theorem dX12_meet_18 : decode cX12_meet 18 = .ok (.if_icmp .ge 24, 3) := by decide +kernel
theorem dX12_meet_21 : decode cX12_meet 21 = .ok (.iload_n 2, 1) := by decide +kernel
theorem dX12_meet_22 : decode cX12_meet 22 = .ok (.aload_n 0, 1) := by decide +kernel
theorem dX12_meet_23 : decode cX12_meet 23 = .ok (.getfield 206, 3) := by decide +kernel
theorem dX12_meet_26 : decode cX12_meet 26 = .ok (.iload_n 1, 1) := by decide +kernel
theorem dX12_meet_27 : decode cX12_meet 27 = .ok (.iaload, 1) := by decide +kernel
theorem dX12_meet_28 : decode cX12_meet 28 = .ok (.aload_n 0, 1) := by decide +kernel
theorem dX12_meet_29 : decode cX12_meet 29 = .ok (.getfield 209, 3) := by decide +kernel
theorem dX12_meet_32 : decode cX12_meet 32 = .ok (.iload_n 1, 1) := by decide +kernel
theorem dX12_meet_33 : decode cX12_meet 33 = .ok (.iaload, 1) := by decide +kernel
theorem dX12_meet_34 : decode cX12_meet 34 = .ok (.iadd, 1) := by decide +kernel
theorem dX12_meet_35 : decode cX12_meet 35 = .ok (.if_icmp .ge 7, 3) := by decide +kernel
theorem dX12_meet_38 : decode cX12_meet 38 = .ok (.iconst 1, 1) := by decide +kernel
theorem dX12_meet_39 : decode cX12_meet 39 = .ok (.goto 4, 3) := by decide +kernel
theorem dX12_meet_42 : decode cX12_meet 42 = .ok (.iconst 0, 1) := by decide +kernel
theorem dX12_meet_43 : decode cX12_meet 43 = .ok (.ireturn, 1) := by decide +kernel
set_option maxRecDepth 100000 in
set_option maxHeartbeats 4000000 in
theorem c_X12_meet {l : Launch} {K : KG} {ad : Nat → Nat → Nat} {fl : Nat} {a1 : Int32} {a2 : Int32} {a3 : Int32} {M0 : Mem} {r9 : Int32} {M9 : Mem} (hf : f_X12_meet fl a1 a2 a3 M0 = some (r9, M9)) : Met l yX12_meet (Cond.code yX12_meet cX12_meet 4 (some .boolean) :: ztb) (RM (1) 0 0) (zPc K LM ad M0 [.ref (ad 0 0), .int a1, .int a2, .int a3]) (zQ K LM ad (some (.int r9)) M9) 0 0 (zA ad) := by
  refine z_enter (by decide) (Nat.le_of_ble_eq_true rfl) ?_
  intro p e s m args below meth c ls C hin hargs Z hl
  replace C : Cx p s m args meth c cX12_meet 4 "GlassPalaceModel" (some .boolean) := C
  replace hl : lv_has ls 4 [(0, .ref (ad 0 0)), (1, .int a1), (2, .int a2), (3, .int a3)] := hl
  have hR : 1 ≤ (RM (1) 0 0).frames ∧ 40 * (1) ≤ (RM (1) 0 0).locals := ⟨Nat.le_refl _, Nat.le_refl _⟩
  have hB : 0 ≤ (RM (1) 0 0).cells ∧ 0 ≤ (RM (1) 0 0).slots := ⟨Nat.zero_le _, Nat.zero_le _⟩
  unfold f_X12_meet at hf
  refine lv_aload_n C.x C.b dX12_meet_0 rfl (lv_at hl 0 rfl) ?_
  refine z_get C Z (lvM0 Nat.zero_lt_one) kM0 zc12 zin12 62 (by decide) k_1238 rfl svM0_62 dX12_meet_1 ?_
  refine lv_iload_n C.x C.b dX12_meet_4 rfl (lv_at hl 1 rfl) ?_
  replace hf := asr_s hf; obtain ⟨hq1, hf⟩ := hf
  refine z_iald C Z (lvM47 Nat.zero_lt_one) kM47 hq1 svM47 dX12_meet_5 ?_
  refine lv_if_lt (tgt := 42) C.x C.b dX12_meet_6 (by decide) (fun hc2 => ?_) (fun hc2 => ?_)
  · replace hf := ite_t hf hc2
    refine lv_iconst (v := 0) C.x C.b dX12_meet_42 (by decide) ?_
    obtain ⟨rfl, rfl⟩ := pr_s hf
    exact z_zret C Z rfl dX12_meet_43
  · replace hf := ite_f hf hc2
    refine lv_aload_n C.x C.b dX12_meet_9 rfl (lv_at hl 0 rfl) ?_
    refine z_get C Z (lvM0 Nat.zero_lt_one) kM0 zc12 zin12 62 (by decide) k_1238 rfl svM0_62 dX12_meet_10 ?_
    refine lv_iload_n C.x C.b dX12_meet_13 rfl (lv_at hl 1 rfl) ?_
    replace hf := asr_s hf; obtain ⟨hq3, hf⟩ := hf
    refine z_iald C Z (lvM47 Nat.zero_lt_one) kM47 hq3 svM47 dX12_meet_14 ?_
    refine lv_iload_n C.x C.b dX12_meet_15 rfl (lv_at hl 2 rfl) ?_
    refine lv_iload_n C.x C.b dX12_meet_16 rfl (lv_at hl 3 rfl) ?_
    refine lv_iadd C.x C.b dX12_meet_17 ?_
    refine lv_icmp_ge (tgt := 42) C.x C.b dX12_meet_18 (by decide) (fun hc4 => ?_) (fun hc4 => ?_)
    · replace hf := ite_t hf hc4
      refine lv_iconst (v := 0) C.x C.b dX12_meet_42 (by decide) ?_
      obtain ⟨rfl, rfl⟩ := pr_s hf
      exact z_zret C Z rfl dX12_meet_43
    · replace hf := ite_f hf hc4
      refine lv_iload_n C.x C.b dX12_meet_21 rfl (lv_at hl 2 rfl) ?_
      refine lv_aload_n C.x C.b dX12_meet_22 rfl (lv_at hl 0 rfl) ?_
      refine z_get C Z (lvM0 Nat.zero_lt_one) kM0 zc12 zin12 62 (by decide) k_1238 rfl svM0_62 dX12_meet_23 ?_
      refine lv_iload_n C.x C.b dX12_meet_26 rfl (lv_at hl 1 rfl) ?_
      replace hf := asr_s hf; obtain ⟨hq5, hf⟩ := hf
      refine z_iald C Z (lvM47 Nat.zero_lt_one) kM47 hq5 svM47 dX12_meet_27 ?_
      refine lv_aload_n C.x C.b dX12_meet_28 rfl (lv_at hl 0 rfl) ?_
      refine z_get C Z (lvM0 Nat.zero_lt_one) kM0 zc12 zin12 63 (by decide) k_1239 rfl svM0_63 dX12_meet_29 ?_
      refine lv_iload_n C.x C.b dX12_meet_32 rfl (lv_at hl 1 rfl) ?_
      replace hf := asr_s hf; obtain ⟨hq6, hf⟩ := hf
      refine z_iald C Z (lvM48 Nat.zero_lt_one) kM48 hq6 svM48 dX12_meet_33 ?_
      refine lv_iadd C.x C.b dX12_meet_34 ?_
      refine lv_icmp_ge (tgt := 42) C.x C.b dX12_meet_35 (by decide) (fun hc7 => ?_) (fun hc7 => ?_)
      · replace hf := ite_t hf hc7
        refine lv_iconst (v := 0) C.x C.b dX12_meet_42 (by decide) ?_
        obtain ⟨rfl, rfl⟩ := pr_s hf
        exact z_zret C Z rfl dX12_meet_43
      · replace hf := ite_f hf hc7
        refine lv_iconst (v := 1) C.x C.b dX12_meet_38 (by decide) ?_
        refine lv_goto (tgt := 43) C.x C.b dX12_meet_39 (by decide) ?_
        obtain ⟨rfl, rfl⟩ := pr_s hf
        exact z_zret C Z rfl dX12_meet_43
theorem dX12_let_0 : decode cX12_let 0 = .ok (.aload_n 0, 1) := by decide +kernel
theorem dX12_let_1 : decode cX12_let 1 = .ok (.iload_n 1, 1) := by decide +kernel
theorem dX12_let_2 : decode cX12_let 2 = .ok (.iconst 0, 1) := by decide +kernel
theorem dX12_let_3 : decode cX12_let 3 = .ok (.bipush 7, 2) := by decide +kernel
theorem dX12_let_5 : decode cX12_let 5 = .ok (.invokevirtual 3, 3) := by decide +kernel
theorem dX12_let_8 : decode cX12_let 8 = .ok (.ifCond .ne 5, 3) := by decide +kernel
theorem dX12_let_11 : decode cX12_let 11 = .ok (.iconst (-1), 1) := by decide +kernel
theorem dX12_let_12 : decode cX12_let 12 = .ok (.ireturn, 1) := by decide +kernel
theorem dX12_let_13 : decode cX12_let 13 = .ok (.aload_n 0, 1) := by decide +kernel
theorem dX12_let_14 : decode cX12_let 14 = .ok (.iload_n 2, 1) := by decide +kernel
theorem dX12_let_15 : decode cX12_let 15 = .ok (.iconst 1, 1) := by decide +kernel
theorem dX12_let_16 : decode cX12_let 16 = .ok (.bipush 6, 2) := by decide +kernel
theorem dX12_let_18 : decode cX12_let 18 = .ok (.invokevirtual 3, 3) := by decide +kernel
theorem dX12_let_21 : decode cX12_let 21 = .ok (.ifCond .ne 6, 3) := by decide +kernel
theorem dX12_let_24 : decode cX12_let 24 = .ok (.bipush (-2), 2) := by decide +kernel
theorem dX12_let_26 : decode cX12_let 26 = .ok (.ireturn, 1) := by decide +kernel
theorem dX12_let_27 : decode cX12_let 27 = .ok (.aload_n 0, 1) := by decide +kernel
theorem dX12_let_28 : decode cX12_let 28 = .ok (.getfield 206, 3) := by decide +kernel
theorem dX12_let_31 : decode cX12_let 31 = .ok (.iload_n 1, 1) := by decide +kernel
theorem dX12_let_32 : decode cX12_let 32 = .ok (.iconst (-1), 1) := by decide +kernel
theorem dX12_let_33 : decode cX12_let 33 = .ok (.iastore, 1) := by decide +kernel
theorem dX12_let_34 : decode cX12_let 34 = .ok (.iconst (-1), 1) := by decide +kernel
theorem dX12_let_35 : decode cX12_let 35 = .ok (.istore_n 3, 1) := by decide +kernel
theorem dX12_let_36 : decode cX12_let 36 = .ok (.bipush 9, 2) := by decide +kernel
theorem dX12_let_38 : decode cX12_let 38 = .ok (.istore 4, 2) := by decide +kernel
theorem dX12_let_40 : decode cX12_let 40 = .ok (.iconst 0, 1) := by decide +kernel
theorem dX12_let_41 : decode cX12_let 41 = .ok (.istore 5, 2) := by decide +kernel
theorem dX12_let_43 : decode cX12_let 43 = .ok (.iload 5, 2) := by decide +kernel
theorem dX12_let_45 : decode cX12_let 45 = .ok (.bipush 30, 2) := by decide +kernel
theorem dX12_let_47 : decode cX12_let 47 = .ok (.if_icmp .ge 82, 3) := by decide +kernel
theorem dX12_let_50 : decode cX12_let 50 = .ok (.iload 5, 2) := by decide +kernel
theorem dX12_let_52 : decode cX12_let 52 = .ok (.bipush 6, 2) := by decide +kernel
theorem dX12_let_54 : decode cX12_let 54 = .ok (.irem, 1) := by decide +kernel
theorem dX12_let_55 : decode cX12_let 55 = .ok (.iload_n 2, 1) := by decide +kernel
theorem dX12_let_56 : decode cX12_let 56 = .ok (.iadd, 1) := by decide +kernel
theorem dX12_let_57 : decode cX12_let 57 = .ok (.bipush 6, 2) := by decide +kernel
theorem dX12_let_59 : decode cX12_let 59 = .ok (.if_icmp .le 6, 3) := by decide +kernel
theorem dX12_let_62 : decode cX12_let 62 = .ok (.goto 61, 3) := by decide +kernel
theorem dX12_let_65 : decode cX12_let 65 = .ok (.iconst 0, 1) := by decide +kernel
theorem dX12_let_66 : decode cX12_let 66 = .ok (.istore 6, 2) := by decide +kernel
theorem dX12_let_68 : decode cX12_let 68 = .ok (.iconst 0, 1) := by decide +kernel
theorem dX12_let_69 : decode cX12_let 69 = .ok (.istore 7, 2) := by decide +kernel
theorem dX12_let_71 : decode cX12_let 71 = .ok (.iload 7, 2) := by decide +kernel
theorem dX12_let_73 : decode cX12_let 73 = .ok (.bipush 8, 2) := by decide +kernel
theorem dX12_let_75 : decode cX12_let 75 = .ok (.if_icmp .ge 31, 3) := by decide +kernel
theorem dX12_let_78 : decode cX12_let 78 = .ok (.iload 6, 2) := by decide +kernel
theorem dX12_let_80 : decode cX12_let 80 = .ok (.aload_n 0, 1) := by decide +kernel
theorem dX12_let_81 : decode cX12_let 81 = .ok (.iload 7, 2) := by decide +kernel
theorem dX12_let_83 : decode cX12_let 83 = .ok (.iload 5, 2) := by decide +kernel
theorem dX12_let_85 : decode cX12_let 85 = .ok (.iload_n 2, 1) := by decide +kernel
theorem dX12_let_86 : decode cX12_let 86 = .ok (.invokevirtual 372, 3) := by decide +kernel
theorem dX12_let_89 : decode cX12_let 89 = .ok (.ifCond .eq 7, 3) := by decide +kernel
theorem dX12_let_92 : decode cX12_let 92 = .ok (.iconst 1, 1) := by decide +kernel
theorem dX12_let_93 : decode cX12_let 93 = .ok (.goto 4, 3) := by decide +kernel
theorem dX12_let_96 : decode cX12_let 96 = .ok (.iconst 0, 1) := by decide +kernel
theorem dX12_let_97 : decode cX12_let 97 = .ok (.iadd, 1) := by decide +kernel
theorem dX12_let_98 : decode cX12_let 98 = .ok (.istore 6, 2) := by decide +kernel
theorem dX12_let_100 : decode cX12_let 100 = .ok (.iinc 7 1, 3) := by decide +kernel
theorem dX12_let_103 : decode cX12_let 103 = .ok (.goto (-32), 3) := by decide +kernel
theorem dX12_let_106 : decode cX12_let 106 = .ok (.iload 6, 2) := by decide +kernel
theorem dX12_let_108 : decode cX12_let 108 = .ok (.iload 4, 2) := by decide +kernel
theorem dX12_let_110 : decode cX12_let 110 = .ok (.if_icmp .lt 6, 3) := by decide +kernel
theorem dX12_let_113 : decode cX12_let 113 = .ok (.goto 10, 3) := by decide +kernel
theorem dX12_let_116 : decode cX12_let 116 = .ok (.iload 6, 2) := by decide +kernel
theorem dX12_let_118 : decode cX12_let 118 = .ok (.istore 4, 2) := by decide +kernel
theorem dX12_let_120 : decode cX12_let 120 = .ok (.iload 5, 2) := by decide +kernel
theorem dX12_let_122 : decode cX12_let 122 = .ok (.istore_n 3, 1) := by decide +kernel
theorem dX12_let_123 : decode cX12_let 123 = .ok (.iinc 5 1, 3) := by decide +kernel
theorem dX12_let_126 : decode cX12_let 126 = .ok (.goto (-83), 3) := by decide +kernel
theorem dX12_let_129 : decode cX12_let 129 = .ok (.iconst 0, 1) := by decide +kernel
theorem dX12_let_130 : decode cX12_let 130 = .ok (.istore 5, 2) := by decide +kernel
theorem dX12_let_132 : decode cX12_let 132 = .ok (.iload 5, 2) := by decide +kernel
theorem dX12_let_134 : decode cX12_let 134 = .ok (.bipush 8, 2) := by decide +kernel
theorem dX12_let_136 : decode cX12_let 136 = .ok (.if_icmp .ge 42, 3) := by decide +kernel
theorem dX12_let_139 : decode cX12_let 139 = .ok (.aload_n 0, 1) := by decide +kernel
theorem dX12_let_140 : decode cX12_let 140 = .ok (.iload 5, 2) := by decide +kernel
theorem dX12_let_142 : decode cX12_let 142 = .ok (.iload_n 3, 1) := by decide +kernel
theorem dX12_let_143 : decode cX12_let 143 = .ok (.iload_n 2, 1) := by decide +kernel
theorem dX12_let_144 : decode cX12_let 144 = .ok (.invokevirtual 372, 3) := by decide +kernel
theorem dX12_let_147 : decode cX12_let 147 = .ok (.ifCond .ne 6, 3) := by decide +kernel
theorem dX12_let_150 : decode cX12_let 150 = .ok (.goto 22, 3) := by decide +kernel
theorem dX12_let_153 : decode cX12_let 153 = .ok (.aload_n 0, 1) := by decide +kernel
theorem dX12_let_154 : decode cX12_let 154 = .ok (.getfield 206, 3) := by decide +kernel
theorem dX12_let_157 : decode cX12_let 157 = .ok (.iload 5, 2) := by decide +kernel
theorem dX12_let_159 : decode cX12_let 159 = .ok (.iconst (-1), 1) := by decide +kernel
theorem dX12_let_160 : decode cX12_let 160 = .ok (.iastore, 1) := by decide +kernel
theorem dX12_let_161 : decode cX12_let 161 = .ok (.aload_n 0, 1) := by decide +kernel
theorem dX12_let_162 : decode cX12_let 162 = .ok (.getfield 212, 3) := by decide +kernel
theorem dX12_let_165 : decode cX12_let 165 = .ok (.iload 5, 2) := by decide +kernel
theorem dX12_let_167 : decode cX12_let 167 = .ok (.dup2, 1) := by decide +kernel
theorem dX12_let_168 : decode cX12_let 168 = .ok (.iaload, 1) := by decide +kernel
theorem dX12_let_169 : decode cX12_let 169 = .ok (.iconst 1, 1) := by decide +kernel
theorem dX12_let_170 : decode cX12_let 170 = .ok (.iadd, 1) := by decide +kernel
theorem dX12_let_171 : decode cX12_let 171 = .ok (.iastore, 1) := by decide +kernel
theorem dX12_let_172 : decode cX12_let 172 = .ok (.iinc 5 1, 3) := by decide +kernel
theorem dX12_let_175 : decode cX12_let 175 = .ok (.goto (-43), 3) := by decide +kernel
theorem dX12_let_178 : decode cX12_let 178 = .ok (.aload_n 0, 1) := by decide +kernel
theorem dX12_let_179 : decode cX12_let 179 = .ok (.getfield 206, 3) := by decide +kernel
theorem dX12_let_182 : decode cX12_let 182 = .ok (.iload_n 1, 1) := by decide +kernel
theorem dX12_let_183 : decode cX12_let 183 = .ok (.iload_n 3, 1) := by decide +kernel
theorem dX12_let_184 : decode cX12_let 184 = .ok (.iastore, 1) := by decide +kernel
theorem dX12_let_185 : decode cX12_let 185 = .ok (.aload_n 0, 1) := by decide +kernel
theorem dX12_let_186 : decode cX12_let 186 = .ok (.getfield 209, 3) := by decide +kernel
theorem dX12_let_189 : decode cX12_let 189 = .ok (.iload_n 1, 1) := by decide +kernel
theorem dX12_let_190 : decode cX12_let 190 = .ok (.iload_n 2, 1) := by decide +kernel
theorem dX12_let_191 : decode cX12_let 191 = .ok (.iastore, 1) := by decide +kernel
theorem dX12_let_192 : decode cX12_let 192 = .ok (.iload_n 3, 1) := by decide +kernel
theorem dX12_let_193 : decode cX12_let 193 = .ok (.ireturn, 1) := by decide +kernel
set_option maxRecDepth 100000 in
set_option maxHeartbeats 4000000 in
theorem w_X12_let_l71 {p : Program} {l : Launch} {e : Env} {R : Room} {s : State} {m : MethodId} {args : Array Value} {below : List Frame} {meth : Method} {c : Code} {cells slots : Nat} {Q : State → Prop} {K : KG} {ad : Nat → Nat → Nat} {fl : Nat} {g1 : Int32} {g2 : Int32} {g3 : Int32} {g4 : Int32} {g5 : Int32} (C : Cx p s m args meth c cX12_let 8 "GlassPalaceModel" (some .int)) (hR : 2 ≤ R.frames ∧ 40 * (2) ≤ R.locals) (hB : cells ≤ R.cells ∧ slots ≤ R.slots) : ∀ (n : Nat) (u6 : Int32) (u7 : Int32) (M0 : Mem) (H : Heap) (locs : List Loc) (ls : Array Slot), Zd K LM ad M0 s H locs → lv_has ls 8 [(0, .ref (ad 0 0)), (1, .int g1), (2, .int g2), (3, .int g3), (4, .int g4), (5, .int g5), (6, .int u6), (7, .int u7)] → ∀ (q : Int32) (Mq : Mem), f_X12_let_l71 fl g1 g2 g3 g4 g5 n u6 u7 M0 = some (q, Mq) → (∀ (H : Heap) (locs : List Loc) (ls : Array Slot), Zd K LM ad Mq s H locs → lv_has ls 8 [(0, .ref (ad 0 0)), (1, .int g1), (2, .int g2), (3, .int g3), (4, .int g4), (5, .int g5), (6, .int q)] → W p l e R s m args below meth c H locs cells slots Q (F0 m 106 ls [])) → W p l e R s m args below meth c H locs cells slots Q (F0 m 71 ls []) := by
  intro n
  induction n with
  | zero =>
    intro u6 u7 M0 H locs ls Z hl q Mq hf
    have hf : (none : Option (Int32 × Mem)) = some (q, Mq) := hf
    cases hf
  | succ n ih =>
    intro u6 u7 M0 H locs ls Z hl q Mq hf kx0
    replace hf : f_X12_let_l71_b (f_X12_let_l71 fl g1 g2 g3 g4 g5 n) fl g1 g2 g3 g4 g5 u6 u7 M0 = some (q, Mq) := hf
    unfold f_X12_let_l71_b at hf
    refine lv_iload C.x C.b dX12_let_71 (lv_at hl 7 rfl) ?_
    refine lv_bipush (v := 8) C.x C.b dX12_let_73 (by decide) ?_
    refine lv_icmp_ge (tgt := 106) C.x C.b dX12_let_75 (by decide) (fun hc11 => ?_) (fun hc11 => ?_)
    · replace hf := ite_t hf hc11
      obtain ⟨rfl, rfl⟩ := pr_s hf
      exact kx0 _ _ _ Z (lv_sub hl [0, 1, 2, 3, 4, 5, 6] rfl)
    · replace hf := ite_f hf hc11
      refine lv_iload C.x C.b dX12_let_78 (lv_at hl 6 rfl) ?_
      refine lv_aload_n C.x C.b dX12_let_80 rfl (lv_at hl 0 rfl) ?_
      refine lv_iload C.x C.b dX12_let_81 (lv_at hl 7 rfl) ?_
      refine lv_iload C.x C.b dX12_let_83 (lv_at hl 5 rfl) ?_
      refine lv_iload_n C.x C.b dX12_let_85 rfl (lv_at hl 2 rfl) ?_
      replace hf := bn2_s hf; obtain ⟨v13, m12, hkm12, hf⟩ := hf
      refine z_cV (As := [.int u7, .int g5, .int g2]) (rest := [.int u6]) (st1 := [.int v13, .int u6]) C Z mw_X12_meet mv_X12_meet k_1705 (by decide) (z_hR hR (by decide)) (lvM0 Nat.zero_lt_one) kM0 zc12 (c_X12_meet (l := l) (K := K) (ad := ad) hkm12) rfl hl.1 rfl (Nat.le_of_ble_eq_true rfl) dX12_let_86 hB rfl (fun H locs Z => ?_)
      refine lv_if_eq (tgt := 96) C.x C.b dX12_let_89 (by decide) (fun hc14 => ?_) (fun hc14 => ?_)
      · replace hf := ite_t hf hc14
        refine lv_iconst (v := 0) C.x C.b dX12_let_96 (by decide) ?_
        refine lv_iadd C.x C.b dX12_let_97 ?_
        replace hf := lt1_s hf; obtain ⟨x15, ex15, hf⟩ := hf
        refine z_renI ex15 ?_
        refine z_istore (lv' := [(6, .int x15), (0, .ref (ad 0 0)), (1, .int g1), (2, .int g2), (3, .int g3), (4, .int g4), (5, .int g5), (7, .int u7)]) C dX12_let_98 hl (by decide) rfl (onlast 5 rfl rfl rfl) (fun ls hl => ?_)
        replace hf := lt1_s hf; obtain ⟨x16, ex16, hf⟩ := hf
        refine z_iinc (v := x16) (lv' := [(7, .int x16), (6, .int x15), (0, .ref (ad 0 0)), (1, .int g1), (2, .int g2), (3, .int g3), (4, .int g4), (5, .int g5)]) C dX12_let_100 hl (k := 7) rfl (by rw [ex16]; rfl) (by decide) rfl (onlast 0 rfl rfl rfl) (fun ls hl => ?_)
        refine lv_goto (tgt := 71) C.x C.b dX12_let_103 (by decide) ?_
        exact ih _ _ _ _ _ _ Z (lv_sub hl [2, 3, 4, 5, 6, 7, 1, 0] rfl) _ _ hf kx0
      · replace hf := ite_f hf hc14
        refine lv_iconst (v := 1) C.x C.b dX12_let_92 (by decide) ?_
        refine lv_goto (tgt := 97) C.x C.b dX12_let_93 (by decide) ?_
        refine lv_iadd C.x C.b dX12_let_97 ?_
        replace hf := lt1_s hf; obtain ⟨x17, ex17, hf⟩ := hf
        refine z_renI ex17 ?_
        refine z_istore (lv' := [(6, .int x17), (0, .ref (ad 0 0)), (1, .int g1), (2, .int g2), (3, .int g3), (4, .int g4), (5, .int g5), (7, .int u7)]) C dX12_let_98 hl (by decide) rfl (onlast 5 rfl rfl rfl) (fun ls hl => ?_)
        replace hf := lt1_s hf; obtain ⟨x18, ex18, hf⟩ := hf
        refine z_iinc (v := x18) (lv' := [(7, .int x18), (6, .int x17), (0, .ref (ad 0 0)), (1, .int g1), (2, .int g2), (3, .int g3), (4, .int g4), (5, .int g5)]) C dX12_let_100 hl (k := 7) rfl (by rw [ex18]; rfl) (by decide) rfl (onlast 0 rfl rfl rfl) (fun ls hl => ?_)
        refine lv_goto (tgt := 71) C.x C.b dX12_let_103 (by decide) ?_
        exact ih _ _ _ _ _ _ Z (lv_sub hl [2, 3, 4, 5, 6, 7, 1, 0] rfl) _ _ hf kx0
set_option maxRecDepth 100000 in
set_option maxHeartbeats 4000000 in
theorem w_X12_let_l43 {p : Program} {l : Launch} {e : Env} {R : Room} {s : State} {m : MethodId} {args : Array Value} {below : List Frame} {meth : Method} {c : Code} {cells slots : Nat} {Q : State → Prop} {K : KG} {ad : Nat → Nat → Nat} {fl : Nat} {g1 : Int32} {g2 : Int32} (C : Cx p s m args meth c cX12_let 8 "GlassPalaceModel" (some .int)) (hR : 2 ≤ R.frames ∧ 40 * (2) ≤ R.locals) (hB : cells ≤ R.cells ∧ slots ≤ R.slots) : ∀ (n : Nat) (u3 : Int32) (u4 : Int32) (u5 : Int32) (M0 : Mem) (H : Heap) (locs : List Loc) (ls : Array Slot), Zd K LM ad M0 s H locs → lv_has ls 8 [(0, .ref (ad 0 0)), (1, .int g1), (2, .int g2), (3, .int u3), (4, .int u4), (5, .int u5)] → ∀ (q : Int32) (Mq : Mem), f_X12_let_l43 fl g1 g2 n u3 u4 u5 M0 = some (q, Mq) → (∀ (H : Heap) (locs : List Loc) (ls : Array Slot), Zd K LM ad Mq s H locs → lv_has ls 8 [(0, .ref (ad 0 0)), (1, .int g1), (2, .int g2), (3, .int q)] → W p l e R s m args below meth c H locs cells slots Q (F0 m 129 ls [])) → W p l e R s m args below meth c H locs cells slots Q (F0 m 43 ls []) := by
  intro n
  induction n with
  | zero =>
    intro u3 u4 u5 M0 H locs ls Z hl q Mq hf
    have hf : (none : Option (Int32 × Mem)) = some (q, Mq) := hf
    cases hf
  | succ n ih =>
    intro u3 u4 u5 M0 H locs ls Z hl q Mq hf kx0
    replace hf : f_X12_let_l43_b (f_X12_let_l43 fl g1 g2 n) fl g1 g2 u3 u4 u5 M0 = some (q, Mq) := hf
    unfold f_X12_let_l43_b at hf
    refine lv_iload C.x C.b dX12_let_43 (lv_at hl 5 rfl) ?_
    refine lv_bipush (v := 30) C.x C.b dX12_let_45 (by decide) ?_
    refine lv_icmp_ge (tgt := 129) C.x C.b dX12_let_47 (by decide) (fun hc9 => ?_) (fun hc9 => ?_)
    · replace hf := ite_t hf hc9
      obtain ⟨rfl, rfl⟩ := pr_s hf
      exact kx0 _ _ _ Z (lv_sub hl [0, 1, 2, 3] rfl)
    · replace hf := ite_f hf hc9
      refine lv_iload C.x C.b dX12_let_50 (lv_at hl 5 rfl) ?_
      refine lv_bipush (v := 6) C.x C.b dX12_let_52 (by decide) ?_
      refine z_irem C dX12_let_54 (by decide) ?_
      refine lv_iload_n C.x C.b dX12_let_55 rfl (lv_at hl 2 rfl) ?_
      refine lv_iadd C.x C.b dX12_let_56 ?_
      refine lv_bipush (v := 6) C.x C.b dX12_let_57 (by decide) ?_
      refine lv_icmp_le (tgt := 65) C.x C.b dX12_let_59 (by decide) (fun hc10 => ?_) (fun hc10 => ?_)
      · replace hf := ite_t hf hc10
        refine lv_iconst (v := 0) C.x C.b dX12_let_65 (by decide) ?_
        refine z_istore (lv' := [(6, .int 0), (0, .ref (ad 0 0)), (1, .int g1), (2, .int g2), (3, .int u3), (4, .int u4), (5, .int u5)]) C dX12_let_66 hl (by decide) rfl (onlast 5 rfl rfl rfl) (fun ls hl => ?_)
        refine lv_iconst (v := 0) C.x C.b dX12_let_68 (by decide) ?_
        refine z_istore (lv' := [(7, .int 0), (6, .int 0), (0, .ref (ad 0 0)), (1, .int g1), (2, .int g2), (3, .int u3), (4, .int u4), (5, .int u5)]) C dX12_let_69 hl (by decide) rfl (onlast 0 rfl rfl rfl) (fun ls hl => ?_)
        replace hf := bn2_s hf; obtain ⟨q19, m20, hq19, hf⟩ := hf
        refine w_X12_let_l71 C hR hB  fl _ _ _ _ _ _ Z (lv_sub hl [2, 3, 4, 5, 6, 7, 1, 0] rfl) _ _ hq19 (fun H locs ls Z hl => ?_)
        refine lv_iload C.x C.b dX12_let_106 (lv_at hl 6 rfl) ?_
        refine lv_iload C.x C.b dX12_let_108 (lv_at hl 4 rfl) ?_
        refine lv_icmp_lt (tgt := 116) C.x C.b dX12_let_110 (by decide) (fun hc21 => ?_) (fun hc21 => ?_)
        · replace hf := ite_t hf hc21
          refine lv_iload C.x C.b dX12_let_116 (lv_at hl 6 rfl) ?_
          refine z_istore (lv' := [(4, .int q19), (0, .ref (ad 0 0)), (1, .int g1), (2, .int g2), (3, .int u3), (5, .int u5), (6, .int q19)]) C dX12_let_118 hl (by decide) rfl (onlast 3 rfl rfl rfl) (fun ls hl => ?_)
          refine lv_iload C.x C.b dX12_let_120 (lv_at hl 5 rfl) ?_
          refine z_istore_n (lv' := [(3, .int u5), (4, .int q19), (0, .ref (ad 0 0)), (1, .int g1), (2, .int g2), (5, .int u5), (6, .int q19)]) C dX12_let_122 rfl hl (by decide) rfl (onlast 3 rfl rfl rfl) (fun ls hl => ?_)
          replace hf := lt1_s hf; obtain ⟨x22, ex22, hf⟩ := hf
          refine z_iinc (v := x22) (lv' := [(5, .int x22), (3, .int u5), (4, .int q19), (0, .ref (ad 0 0)), (1, .int g1), (2, .int g2), (6, .int q19)]) C dX12_let_123 hl (k := 5) rfl (by rw [ex22]; rfl) (by decide) rfl (onlast 1 rfl rfl rfl) (fun ls hl => ?_)
          refine lv_goto (tgt := 43) C.x C.b dX12_let_126 (by decide) ?_
          exact ih _ _ _ _ _ _ _ Z (lv_sub hl [3, 4, 5, 1, 2, 0] rfl) _ _ hf kx0
        · replace hf := ite_f hf hc21
          refine lv_goto (tgt := 123) C.x C.b dX12_let_113 (by decide) ?_
          replace hf := lt1_s hf; obtain ⟨x23, ex23, hf⟩ := hf
          refine z_iinc (v := x23) (lv' := [(5, .int x23), (0, .ref (ad 0 0)), (1, .int g1), (2, .int g2), (3, .int u3), (4, .int u4), (6, .int q19)]) C dX12_let_123 hl (k := 5) rfl (by rw [ex23]; rfl) (by decide) rfl (onlast 4 rfl rfl rfl) (fun ls hl => ?_)
          refine lv_goto (tgt := 43) C.x C.b dX12_let_126 (by decide) ?_
          exact ih _ _ _ _ _ _ _ Z (lv_sub hl [1, 2, 3, 4, 5, 0] rfl) _ _ hf kx0
      · replace hf := ite_f hf hc10
        refine lv_goto (tgt := 123) C.x C.b dX12_let_62 (by decide) ?_
        replace hf := lt1_s hf; obtain ⟨x24, ex24, hf⟩ := hf
        refine z_iinc (v := x24) (lv' := [(5, .int x24), (0, .ref (ad 0 0)), (1, .int g1), (2, .int g2), (3, .int u3), (4, .int u4)]) C dX12_let_123 hl (k := 5) rfl (by rw [ex24]; rfl) (by decide) rfl (onlast 4 rfl rfl rfl) (fun ls hl => ?_)
        refine lv_goto (tgt := 43) C.x C.b dX12_let_126 (by decide) ?_
        exact ih _ _ _ _ _ _ _ Z (lv_sub hl [1, 2, 3, 4, 5, 0] rfl) _ _ hf kx0
set_option maxRecDepth 100000 in
set_option maxHeartbeats 4000000 in
theorem w_X12_let_l132 {p : Program} {l : Launch} {e : Env} {R : Room} {s : State} {m : MethodId} {args : Array Value} {below : List Frame} {meth : Method} {c : Code} {cells slots : Nat} {Q : State → Prop} {K : KG} {ad : Nat → Nat → Nat} {fl : Nat} {g1 : Int32} {g2 : Int32} {g3 : Int32} (C : Cx p s m args meth c cX12_let 8 "GlassPalaceModel" (some .int)) (hR : 2 ≤ R.frames ∧ 40 * (2) ≤ R.locals) (hB : cells ≤ R.cells ∧ slots ≤ R.slots) : ∀ (n : Nat) (u5 : Int32) (M0 : Mem) (H : Heap) (locs : List Loc) (ls : Array Slot), Zd K LM ad M0 s H locs → lv_has ls 8 [(0, .ref (ad 0 0)), (1, .int g1), (2, .int g2), (3, .int g3), (5, .int u5)] → ∀ (Mq : Mem), f_X12_let_l132 fl g1 g2 g3 n u5 M0 = some Mq → (∀ (H : Heap) (locs : List Loc) (ls : Array Slot), Zd K LM ad Mq s H locs → lv_has ls 8 [(0, .ref (ad 0 0)), (1, .int g1), (2, .int g2), (3, .int g3)] → W p l e R s m args below meth c H locs cells slots Q (F0 m 178 ls [])) → W p l e R s m args below meth c H locs cells slots Q (F0 m 132 ls []) := by
  intro n
  induction n with
  | zero =>
    intro u5 M0 H locs ls Z hl Mq hf
    have hf : (none : Option (Mem)) = some Mq := hf
    cases hf
  | succ n ih =>
    intro u5 M0 H locs ls Z hl Mq hf kx0
    replace hf : f_X12_let_l132_b (f_X12_let_l132 fl g1 g2 g3 n) fl g1 g2 g3 u5 M0 = some Mq := hf
    unfold f_X12_let_l132_b at hf
    refine lv_iload C.x C.b dX12_let_132 (lv_at hl 4 rfl) ?_
    refine lv_bipush (v := 8) C.x C.b dX12_let_134 (by decide) ?_
    refine lv_icmp_ge (tgt := 178) C.x C.b dX12_let_136 (by decide) (fun hc27 => ?_) (fun hc27 => ?_)
    · replace hf := ite_t hf hc27
      obtain rfl := sm_s hf
      exact kx0 _ _ _ Z (lv_sub hl [0, 1, 2, 3] rfl)
    · replace hf := ite_f hf hc27
      refine lv_aload_n C.x C.b dX12_let_139 rfl (lv_at hl 0 rfl) ?_
      refine lv_iload C.x C.b dX12_let_140 (lv_at hl 4 rfl) ?_
      refine lv_iload_n C.x C.b dX12_let_142 rfl (lv_at hl 3 rfl) ?_
      refine lv_iload_n C.x C.b dX12_let_143 rfl (lv_at hl 2 rfl) ?_
      replace hf := bn2_s hf; obtain ⟨v29, m28, hkm28, hf⟩ := hf
      refine z_cV (As := [.int u5, .int g3, .int g2]) (rest := []) (st1 := [.int v29]) C Z mw_X12_meet mv_X12_meet k_1705 (by decide) (z_hR hR (by decide)) (lvM0 Nat.zero_lt_one) kM0 zc12 (c_X12_meet (l := l) (K := K) (ad := ad) hkm28) rfl hl.1 rfl (Nat.le_of_ble_eq_true rfl) dX12_let_144 hB rfl (fun H locs Z => ?_)
      refine lv_if_ne (tgt := 153) C.x C.b dX12_let_147 (by decide) (fun hc30 => ?_) (fun hc30 => ?_)
      · replace hf := ite_f hf hc30
        refine lv_aload_n C.x C.b dX12_let_153 rfl (lv_at hl 0 rfl) ?_
        refine z_get C Z (lvM0 Nat.zero_lt_one) kM0 zc12 zin12 62 (by decide) k_1238 rfl svM0_62 dX12_let_154 ?_
        refine lv_iload C.x C.b dX12_let_157 (lv_at hl 4 rfl) ?_
        refine lv_iconst (v := (-1)) C.x C.b dX12_let_159 (by decide) ?_
        replace hf := asr_s hf; obtain ⟨hq31, hf⟩ := hf
        replace hf := lt1_s hf; obtain ⟨m32, em32, hf⟩ := hf
        refine z_iast (M1 := m32) C Z (lvM47 Nat.zero_lt_one) (by decide) kM47 hq31 em32 stM47u dX12_let_160 (fun H locs Z => ?_)
        refine lv_aload_n C.x C.b dX12_let_161 rfl (lv_at hl 0 rfl) ?_
        refine z_get C Z (lvM0 Nat.zero_lt_one) kM0 zc12 zin12 64 (by decide) k_1240 rfl svM0_64 dX12_let_162 ?_
        refine lv_iload C.x C.b dX12_let_165 (lv_at hl 4 rfl) ?_
        refine lv_dup2_11 C.x C.b dX12_let_167 rfl rfl ?_
        replace hf := asr_s hf; obtain ⟨hq33, hf⟩ := hf
        refine z_iald C Z (lvM49 Nat.zero_lt_one) kM49 hq33 svM49 dX12_let_168 ?_
        refine lv_iconst (v := 1) C.x C.b dX12_let_169 (by decide) ?_
        refine lv_iadd C.x C.b dX12_let_170 ?_
        replace hf := asr_s hf; obtain ⟨hq34, hf⟩ := hf
        replace hf := lt1_s hf; obtain ⟨m35, em35, hf⟩ := hf
        refine z_iast (M1 := m35) C Z (lvM49 Nat.zero_lt_one) (by decide) kM49 hq34 em35 stM49u dX12_let_171 (fun H locs Z => ?_)
        replace hf := lt1_s hf; obtain ⟨x36, ex36, hf⟩ := hf
        refine z_iinc (v := x36) (lv' := [(5, .int x36), (0, .ref (ad 0 0)), (1, .int g1), (2, .int g2), (3, .int g3)]) C dX12_let_172 hl (k := 4) rfl (by rw [ex36]; rfl) (by decide) rfl (nolast rfl) (fun ls hl => ?_)
        refine lv_goto (tgt := 132) C.x C.b dX12_let_175 (by decide) ?_
        exact ih _ _ _ _ _ Z (lv_sub hl [1, 2, 3, 4, 0] rfl) _ hf kx0
      · replace hf := ite_t hf hc30
        refine lv_goto (tgt := 172) C.x C.b dX12_let_150 (by decide) ?_
        replace hf := lt1_s hf; obtain ⟨x37, ex37, hf⟩ := hf
        refine z_iinc (v := x37) (lv' := [(5, .int x37), (0, .ref (ad 0 0)), (1, .int g1), (2, .int g2), (3, .int g3)]) C dX12_let_172 hl (k := 4) rfl (by rw [ex37]; rfl) (by decide) rfl (nolast rfl) (fun ls hl => ?_)
        refine lv_goto (tgt := 132) C.x C.b dX12_let_175 (by decide) ?_
        exact ih _ _ _ _ _ Z (lv_sub hl [1, 2, 3, 4, 0] rfl) _ hf kx0
set_option maxRecDepth 100000 in
set_option maxHeartbeats 4000000 in
theorem c_X12_let {l : Launch} {K : KG} {ad : Nat → Nat → Nat} {fl : Nat} {a1 : Int32} {a2 : Int32} {M0 : Mem} {r9 : Int32} {M9 : Mem} (hf : f_X12_let fl a1 a2 M0 = some (r9, M9)) : Met l yX12_let (Cond.code yX12_let cX12_let 8 (some .int) :: ztb) (RM (2) 0 0) (zPc K LM ad M0 [.ref (ad 0 0), .int a1, .int a2]) (zQ K LM ad (some (.int r9)) M9) 0 0 (zA ad) := by
  refine z_enter (by decide) (Nat.le_of_ble_eq_true rfl) ?_
  intro p e s m args below meth c ls C hin hargs Z hl
  replace C : Cx p s m args meth c cX12_let 8 "GlassPalaceModel" (some .int) := C
  replace hl : lv_has ls 8 [(0, .ref (ad 0 0)), (1, .int a1), (2, .int a2)] := hl
  have hR : 2 ≤ (RM (2) 0 0).frames ∧ 40 * (2) ≤ (RM (2) 0 0).locals := ⟨Nat.le_refl _, Nat.le_refl _⟩
  have hB : 0 ≤ (RM (2) 0 0).cells ∧ 0 ≤ (RM (2) 0 0).slots := ⟨Nat.zero_le _, Nat.zero_le _⟩
  unfold f_X12_let at hf
  refine lv_aload_n C.x C.b dX12_let_0 rfl (lv_at hl 0 rfl) ?_
  refine lv_iload_n C.x C.b dX12_let_1 rfl (lv_at hl 1 rfl) ?_
  refine lv_iconst (v := 0) C.x C.b dX12_let_2 (by decide) ?_
  refine lv_bipush (v := 7) C.x C.b dX12_let_3 (by decide) ?_
  replace hf := bn2_s hf; obtain ⟨v2, m1, hkm1, hf⟩ := hf
  refine z_cV (As := [.int a1, .int 0, .int 7]) (rest := []) (st1 := [.int v2]) C Z mw_X12_in mv_X12_in k_1398 (by decide) (z_hR hR (by decide)) (lvM0 Nat.zero_lt_one) kM0 zc12 (c_X12_in (l := l) (K := K) (ad := ad) hkm1) rfl hl.1 rfl (Nat.le_of_ble_eq_true rfl) dX12_let_5 hB rfl (fun H locs Z => ?_)
  refine lv_if_ne (tgt := 13) C.x C.b dX12_let_8 (by decide) (fun hc3 => ?_) (fun hc3 => ?_)
  · replace hf := ite_f hf hc3
    refine lv_aload_n C.x C.b dX12_let_13 rfl (lv_at hl 0 rfl) ?_
    refine lv_iload_n C.x C.b dX12_let_14 rfl (lv_at hl 2 rfl) ?_
    refine lv_iconst (v := 1) C.x C.b dX12_let_15 (by decide) ?_
    refine lv_bipush (v := 6) C.x C.b dX12_let_16 (by decide) ?_
    replace hf := bn2_s hf; obtain ⟨v5, m4, hkm4, hf⟩ := hf
    refine z_cV (As := [.int a2, .int 1, .int 6]) (rest := []) (st1 := [.int v5]) C Z mw_X12_in mv_X12_in k_1398 (by decide) (z_hR hR (by decide)) (lvM0 Nat.zero_lt_one) kM0 zc12 (c_X12_in (l := l) (K := K) (ad := ad) hkm4) rfl hl.1 rfl (Nat.le_of_ble_eq_true rfl) dX12_let_18 hB rfl (fun H locs Z => ?_)
    refine lv_if_ne (tgt := 27) C.x C.b dX12_let_21 (by decide) (fun hc6 => ?_) (fun hc6 => ?_)
    · replace hf := ite_f hf hc6
      refine lv_aload_n C.x C.b dX12_let_27 rfl (lv_at hl 0 rfl) ?_
      refine z_get C Z (lvM0 Nat.zero_lt_one) kM0 zc12 zin12 62 (by decide) k_1238 rfl svM0_62 dX12_let_28 ?_
      refine lv_iload_n C.x C.b dX12_let_31 rfl (lv_at hl 1 rfl) ?_
      refine lv_iconst (v := (-1)) C.x C.b dX12_let_32 (by decide) ?_
      replace hf := asr_s hf; obtain ⟨hq7, hf⟩ := hf
      replace hf := lt1_s hf; obtain ⟨m8, em8, hf⟩ := hf
      refine z_iast (M1 := m8) C Z (lvM47 Nat.zero_lt_one) (by decide) kM47 hq7 em8 stM47u dX12_let_33 (fun H locs Z => ?_)
      refine lv_iconst (v := (-1)) C.x C.b dX12_let_34 (by decide) ?_
      refine z_istore_n (lv' := [(3, .int (-1)), (0, .ref (ad 0 0)), (1, .int a1), (2, .int a2)]) C dX12_let_35 rfl hl (by decide) rfl (onlast 2 rfl rfl rfl) (fun ls hl => ?_)
      refine lv_bipush (v := 9) C.x C.b dX12_let_36 (by decide) ?_
      refine z_istore (lv' := [(4, .int 9), (3, .int (-1)), (0, .ref (ad 0 0)), (1, .int a1), (2, .int a2)]) C dX12_let_38 hl (by decide) rfl (onlast 0 rfl rfl rfl) (fun ls hl => ?_)
      refine lv_iconst (v := 0) C.x C.b dX12_let_40 (by decide) ?_
      refine z_istore (lv' := [(5, .int 0), (4, .int 9), (3, .int (-1)), (0, .ref (ad 0 0)), (1, .int a1), (2, .int a2)]) C dX12_let_41 hl (by decide) rfl (onlast 0 rfl rfl rfl) (fun ls hl => ?_)
      replace hf := bn2_s hf; obtain ⟨q25, m26, hq25, hf⟩ := hf
      refine w_X12_let_l43 C hR hB  fl _ _ _ _ _ _ _ Z (lv_sub hl [3, 4, 5, 2, 1, 0] rfl) _ _ hq25 (fun H locs ls Z hl => ?_)
      refine lv_iconst (v := 0) C.x C.b dX12_let_129 (by decide) ?_
      refine z_istore (lv' := [(5, .int 0), (0, .ref (ad 0 0)), (1, .int a1), (2, .int a2), (3, .int q25)]) C dX12_let_130 hl (by decide) rfl (nolast rfl) (fun ls hl => ?_)
      replace hf := bn1_s hf; obtain ⟨m39, hq38, hf⟩ := hf
      refine w_X12_let_l132 C hR hB  fl _ _ _ _ _ Z (lv_sub hl [1, 2, 3, 4, 0] rfl) _ hq38 (fun H locs ls Z hl => ?_)
      refine lv_aload_n C.x C.b dX12_let_178 rfl (lv_at hl 0 rfl) ?_
      refine z_get C Z (lvM0 Nat.zero_lt_one) kM0 zc12 zin12 62 (by decide) k_1238 rfl svM0_62 dX12_let_179 ?_
      refine lv_iload_n C.x C.b dX12_let_182 rfl (lv_at hl 1 rfl) ?_
      refine lv_iload_n C.x C.b dX12_let_183 rfl (lv_at hl 3 rfl) ?_
      replace hf := asr_s hf; obtain ⟨hq40, hf⟩ := hf
      replace hf := lt1_s hf; obtain ⟨m41, em41, hf⟩ := hf
      refine z_iast (M1 := m41) C Z (lvM47 Nat.zero_lt_one) (by decide) kM47 hq40 em41 stM47u dX12_let_184 (fun H locs Z => ?_)
      refine lv_aload_n C.x C.b dX12_let_185 rfl (lv_at hl 0 rfl) ?_
      refine z_get C Z (lvM0 Nat.zero_lt_one) kM0 zc12 zin12 63 (by decide) k_1239 rfl svM0_63 dX12_let_186 ?_
      refine lv_iload_n C.x C.b dX12_let_189 rfl (lv_at hl 1 rfl) ?_
      refine lv_iload_n C.x C.b dX12_let_190 rfl (lv_at hl 2 rfl) ?_
      replace hf := asr_s hf; obtain ⟨hq42, hf⟩ := hf
      replace hf := lt1_s hf; obtain ⟨m43, em43, hf⟩ := hf
      refine z_iast (M1 := m43) C Z (lvM48 Nat.zero_lt_one) (by decide) kM48 hq42 em43 stM48u dX12_let_191 (fun H locs Z => ?_)
      refine lv_iload_n C.x C.b dX12_let_192 rfl (lv_at hl 3 rfl) ?_
      obtain ⟨rfl, rfl⟩ := pr_s hf
      exact z_iret C Z dX12_let_193
    · replace hf := ite_t hf hc6
      refine lv_bipush (v := (-2)) C.x C.b dX12_let_24 (by decide) ?_
      obtain ⟨rfl, rfl⟩ := pr_s hf
      exact z_iret C Z dX12_let_26
  · replace hf := ite_t hf hc3
    refine lv_iconst (v := (-1)) C.x C.b dX12_let_11 (by decide) ?_
    obtain ⟨rfl, rfl⟩ := pr_s hf
    exact z_iret C Z dX12_let_12
theorem dX12_nation_0 : decode cX12_nation 0 = .ok (.aload_n 0, 1) := by decide +kernel
theorem dX12_nation_1 : decode cX12_nation 1 = .ok (.iload_n 1, 1) := by decide +kernel
theorem dX12_nation_2 : decode cX12_nation 2 = .ok (.iconst 0, 1) := by decide +kernel
theorem dX12_nation_3 : decode cX12_nation 3 = .ok (.bipush 7, 2) := by decide +kernel
theorem dX12_nation_5 : decode cX12_nation 5 = .ok (.invokevirtual 3, 3) := by decide +kernel
theorem dX12_nation_8 : decode cX12_nation 8 = .ok (.ifCond .ne 5, 3) := by decide +kernel
theorem dX12_nation_11 : decode cX12_nation 11 = .ok (.iconst (-1), 1) := by decide +kernel
theorem dX12_nation_12 : decode cX12_nation 12 = .ok (.ireturn, 1) := by decide +kernel
theorem dX12_nation_13 : decode cX12_nation 13 = .ok (.iload_n 2, 1) := by decide +kernel
theorem dX12_nation_14 : decode cX12_nation 14 = .ok (.tableswitch 74 0 2 #[26, 47, 67], 26) := by decide +kernel
theorem dX12_nation_40 : decode cX12_nation 40 = .ok (.aload_n 0, 1) := by decide +kernel
theorem dX12_nation_41 : decode cX12_nation 41 = .ok (.getfield 206, 3) := by decide +kernel
theorem dX12_nation_44 : decode cX12_nation 44 = .ok (.iload_n 1, 1) := by decide +kernel
theorem dX12_nation_45 : decode cX12_nation 45 = .ok (.iaload, 1) := by decide +kernel
theorem dX12_nation_46 : decode cX12_nation 46 = .ok (.ifCond .ge 8, 3) := by decide +kernel
theorem dX12_nation_49 : decode cX12_nation 49 = .ok (.bipush (-5), 2) := by decide +kernel
theorem dX12_nation_51 : decode cX12_nation 51 = .ok (.goto 9, 3) := by decide +kernel
theorem dX12_nation_54 : decode cX12_nation 54 = .ok (.aload_n 0, 1) := by decide +kernel
theorem dX12_nation_55 : decode cX12_nation 55 = .ok (.getfield 206, 3) := by decide +kernel
theorem dX12_nation_58 : decode cX12_nation 58 = .ok (.iload_n 1, 1) := by decide +kernel
theorem dX12_nation_59 : decode cX12_nation 59 = .ok (.iaload, 1) := by decide +kernel
theorem dX12_nation_60 : decode cX12_nation 60 = .ok (.ireturn, 1) := by decide +kernel
theorem dX12_nation_61 : decode cX12_nation 61 = .ok (.aload_n 0, 1) := by decide +kernel
theorem dX12_nation_62 : decode cX12_nation 62 = .ok (.getfield 206, 3) := by decide +kernel
theorem dX12_nation_65 : decode cX12_nation 65 = .ok (.iload_n 1, 1) := by decide +kernel
theorem dX12_nation_66 : decode cX12_nation 66 = .ok (.iaload, 1) := by decide +kernel
theorem dX12_nation_67 : decode cX12_nation 67 = .ok (.ifCond .ge 7, 3) := by decide +kernel
theorem dX12_nation_70 : decode cX12_nation 70 = .ok (.iconst 0, 1) := by decide +kernel
theorem dX12_nation_71 : decode cX12_nation 71 = .ok (.goto 9, 3) := by decide +kernel
theorem dX12_nation_74 : decode cX12_nation 74 = .ok (.aload_n 0, 1) := by decide +kernel
theorem dX12_nation_75 : decode cX12_nation 75 = .ok (.getfield 209, 3) := by decide +kernel
theorem dX12_nation_78 : decode cX12_nation 78 = .ok (.iload_n 1, 1) := by decide +kernel
theorem dX12_nation_79 : decode cX12_nation 79 = .ok (.iaload, 1) := by decide +kernel
theorem dX12_nation_80 : decode cX12_nation 80 = .ok (.ireturn, 1) := by decide +kernel
theorem dX12_nation_81 : decode cX12_nation 81 = .ok (.aload_n 0, 1) := by decide +kernel
theorem dX12_nation_82 : decode cX12_nation 82 = .ok (.getfield 212, 3) := by decide +kernel
theorem dX12_nation_85 : decode cX12_nation 85 = .ok (.iload_n 1, 1) := by decide +kernel
theorem dX12_nation_86 : decode cX12_nation 86 = .ok (.iaload, 1) := by decide +kernel
theorem dX12_nation_87 : decode cX12_nation 87 = .ok (.ireturn, 1) := by decide +kernel
theorem dX12_nation_88 : decode cX12_nation 88 = .ok (.iconst (-1), 1) := by decide +kernel
theorem dX12_nation_89 : decode cX12_nation 89 = .ok (.ireturn, 1) := by decide +kernel
set_option maxRecDepth 100000 in
set_option maxHeartbeats 4000000 in
theorem c_X12_nation {l : Launch} {K : KG} {ad : Nat → Nat → Nat} {fl : Nat} {a1 : Int32} {a2 : Int32} {M0 : Mem} {r9 : Int32} {M9 : Mem} (hf : f_X12_nation fl a1 a2 M0 = some (r9, M9)) : Met l yX12_nation (Cond.code yX12_nation cX12_nation 3 (some .int) :: ztb) (RM (2) 0 0) (zPc K LM ad M0 [.ref (ad 0 0), .int a1, .int a2]) (zQ K LM ad (some (.int r9)) M9) 0 0 (zA ad) := by
  refine z_enter (by decide) (Nat.le_of_ble_eq_true rfl) ?_
  intro p e s m args below meth c ls C hin hargs Z hl
  replace C : Cx p s m args meth c cX12_nation 3 "GlassPalaceModel" (some .int) := C
  replace hl : lv_has ls 3 [(0, .ref (ad 0 0)), (1, .int a1), (2, .int a2)] := hl
  have hR : 2 ≤ (RM (2) 0 0).frames ∧ 40 * (2) ≤ (RM (2) 0 0).locals := ⟨Nat.le_refl _, Nat.le_refl _⟩
  have hB : 0 ≤ (RM (2) 0 0).cells ∧ 0 ≤ (RM (2) 0 0).slots := ⟨Nat.zero_le _, Nat.zero_le _⟩
  unfold f_X12_nation at hf
  refine lv_aload_n C.x C.b dX12_nation_0 rfl (lv_at hl 0 rfl) ?_
  refine lv_iload_n C.x C.b dX12_nation_1 rfl (lv_at hl 1 rfl) ?_
  refine lv_iconst (v := 0) C.x C.b dX12_nation_2 (by decide) ?_
  refine lv_bipush (v := 7) C.x C.b dX12_nation_3 (by decide) ?_
  replace hf := bn2_s hf; obtain ⟨v2, m1, hkm1, hf⟩ := hf
  refine z_cV (As := [.int a1, .int 0, .int 7]) (rest := []) (st1 := [.int v2]) C Z mw_X12_in mv_X12_in k_1398 (by decide) (z_hR hR (by decide)) (lvM0 Nat.zero_lt_one) kM0 zc12 (c_X12_in (l := l) (K := K) (ad := ad) hkm1) rfl hl.1 rfl (Nat.le_of_ble_eq_true rfl) dX12_nation_5 hB rfl (fun H locs Z => ?_)
  refine lv_if_ne (tgt := 13) C.x C.b dX12_nation_8 (by decide) (fun hc3 => ?_) (fun hc3 => ?_)
  · replace hf := ite_f hf hc3
    refine lv_iload_n C.x C.b dX12_nation_13 rfl (lv_at hl 2 rfl) ?_
    by_cases hx4 : a2 = 0
    · replace hf := ite_t hf hx4
      refine lv_tableIn (tgt := 40) C.x C.b dX12_nation_14 (by rw [hx4]; decide) (by rw [hx4]; decide) (by rw [hx4]; rfl) (by decide) ?_
      refine lv_aload_n C.x C.b dX12_nation_40 rfl (lv_at hl 0 rfl) ?_
      refine z_get C Z (lvM0 Nat.zero_lt_one) kM0 zc12 zin12 62 (by decide) k_1238 rfl svM0_62 dX12_nation_41 ?_
      refine lv_iload_n C.x C.b dX12_nation_44 rfl (lv_at hl 1 rfl) ?_
      replace hf := asr_s hf; obtain ⟨hq5, hf⟩ := hf
      refine z_iald C Z (lvM47 Nat.zero_lt_one) kM47 hq5 svM47 dX12_nation_45 ?_
      refine lv_if_ge (tgt := 54) C.x C.b dX12_nation_46 (by decide) (fun hc6 => ?_) (fun hc6 => ?_)
      · replace hf := ite_t hf hc6
        refine lv_aload_n C.x C.b dX12_nation_54 rfl (lv_at hl 0 rfl) ?_
        refine z_get C Z (lvM0 Nat.zero_lt_one) kM0 zc12 zin12 62 (by decide) k_1238 rfl svM0_62 dX12_nation_55 ?_
        refine lv_iload_n C.x C.b dX12_nation_58 rfl (lv_at hl 1 rfl) ?_
        replace hf := asr_s hf; obtain ⟨hq7, hf⟩ := hf
        refine z_iald C Z (lvM47 Nat.zero_lt_one) kM47 hq7 svM47 dX12_nation_59 ?_
        obtain ⟨rfl, rfl⟩ := pr_s hf
        exact z_iret C Z dX12_nation_60
      · replace hf := ite_f hf hc6
        refine lv_bipush (v := (-5)) C.x C.b dX12_nation_49 (by decide) ?_
        refine lv_goto (tgt := 60) C.x C.b dX12_nation_51 (by decide) ?_
        obtain ⟨rfl, rfl⟩ := pr_s hf
        exact z_iret C Z dX12_nation_60
    replace hf := ite_f hf hx4
    by_cases hx8 : a2 = 1
    · replace hf := ite_t hf hx8
      refine lv_tableIn (tgt := 61) C.x C.b dX12_nation_14 (by rw [hx8]; decide) (by rw [hx8]; decide) (by rw [hx8]; rfl) (by decide) ?_
      refine lv_aload_n C.x C.b dX12_nation_61 rfl (lv_at hl 0 rfl) ?_
      refine z_get C Z (lvM0 Nat.zero_lt_one) kM0 zc12 zin12 62 (by decide) k_1238 rfl svM0_62 dX12_nation_62 ?_
      refine lv_iload_n C.x C.b dX12_nation_65 rfl (lv_at hl 1 rfl) ?_
      replace hf := asr_s hf; obtain ⟨hq9, hf⟩ := hf
      refine z_iald C Z (lvM47 Nat.zero_lt_one) kM47 hq9 svM47 dX12_nation_66 ?_
      refine lv_if_ge (tgt := 74) C.x C.b dX12_nation_67 (by decide) (fun hc10 => ?_) (fun hc10 => ?_)
      · replace hf := ite_t hf hc10
        refine lv_aload_n C.x C.b dX12_nation_74 rfl (lv_at hl 0 rfl) ?_
        refine z_get C Z (lvM0 Nat.zero_lt_one) kM0 zc12 zin12 63 (by decide) k_1239 rfl svM0_63 dX12_nation_75 ?_
        refine lv_iload_n C.x C.b dX12_nation_78 rfl (lv_at hl 1 rfl) ?_
        replace hf := asr_s hf; obtain ⟨hq11, hf⟩ := hf
        refine z_iald C Z (lvM48 Nat.zero_lt_one) kM48 hq11 svM48 dX12_nation_79 ?_
        obtain ⟨rfl, rfl⟩ := pr_s hf
        exact z_iret C Z dX12_nation_80
      · replace hf := ite_f hf hc10
        refine lv_iconst (v := 0) C.x C.b dX12_nation_70 (by decide) ?_
        refine lv_goto (tgt := 80) C.x C.b dX12_nation_71 (by decide) ?_
        obtain ⟨rfl, rfl⟩ := pr_s hf
        exact z_iret C Z dX12_nation_80
    replace hf := ite_f hf hx8
    by_cases hx12 : a2 = 2
    · replace hf := ite_t hf hx12
      refine lv_tableIn (tgt := 81) C.x C.b dX12_nation_14 (by rw [hx12]; decide) (by rw [hx12]; decide) (by rw [hx12]; rfl) (by decide) ?_
      refine lv_aload_n C.x C.b dX12_nation_81 rfl (lv_at hl 0 rfl) ?_
      refine z_get C Z (lvM0 Nat.zero_lt_one) kM0 zc12 zin12 64 (by decide) k_1240 rfl svM0_64 dX12_nation_82 ?_
      refine lv_iload_n C.x C.b dX12_nation_85 rfl (lv_at hl 1 rfl) ?_
      replace hf := asr_s hf; obtain ⟨hq13, hf⟩ := hf
      refine z_iald C Z (lvM49 Nat.zero_lt_one) kM49 hq13 svM49 dX12_nation_86 ?_
      obtain ⟨rfl, rfl⟩ := pr_s hf
      exact z_iret C Z dX12_nation_87
    replace hf := ite_f hf hx12
    refine lv_tableOut (tgt := 88) C.x C.b dX12_nation_14 (tab_out (fun k h1 h2 => by rcases (show k = 0 ∨ k = 1 ∨ k = 2 by omega) with rfl | rfl | rfl <;> assumption)) (by decide) ?_
    refine lv_iconst (v := (-1)) C.x C.b dX12_nation_88 (by decide) ?_
    obtain ⟨rfl, rfl⟩ := pr_s hf
    exact z_iret C Z dX12_nation_89
  · replace hf := ite_t hf hc3
    refine lv_iconst (v := (-1)) C.x C.b dX12_nation_11 (by decide) ?_
    obtain ⟨rfl, rfl⟩ := pr_s hf
    exact z_iret C Z dX12_nation_12
theorem dX12_mayGo_0 : decode cX12_mayGo 0 = .ok (.aload_n 0, 1) := by decide +kernel
theorem dX12_mayGo_1 : decode cX12_mayGo 1 = .ok (.getfield 215, 3) := by decide +kernel
theorem dX12_mayGo_4 : decode cX12_mayGo 4 = .ok (.iconst 5, 1) := by decide +kernel
theorem dX12_mayGo_5 : decode cX12_mayGo 5 = .ok (.iload_n 1, 1) := by decide +kernel
theorem dX12_mayGo_6 : decode cX12_mayGo 6 = .ok (.imul, 1) := by decide +kernel
theorem dX12_mayGo_7 : decode cX12_mayGo 7 = .ok (.iload_n 2, 1) := by decide +kernel
theorem dX12_mayGo_8 : decode cX12_mayGo 8 = .ok (.iadd, 1) := by decide +kernel
theorem dX12_mayGo_9 : decode cX12_mayGo 9 = .ok (.iconst 1, 1) := by decide +kernel
theorem dX12_mayGo_10 : decode cX12_mayGo 10 = .ok (.isub, 1) := by decide +kernel
theorem dX12_mayGo_11 : decode cX12_mayGo 11 = .ok (.baload, 1) := by decide +kernel
theorem dX12_mayGo_12 : decode cX12_mayGo 12 = .ok (.ifCond .ne 5, 3) := by decide +kernel
theorem dX12_mayGo_15 : decode cX12_mayGo 15 = .ok (.iconst 0, 1) := by decide +kernel
theorem dX12_mayGo_16 : decode cX12_mayGo 16 = .ok (.ireturn, 1) := by decide +kernel
theorem dX12_mayGo_17 : decode cX12_mayGo 17 = .ok (.iload_n 2, 1) := by decide +kernel
theorem dX12_mayGo_18 : decode cX12_mayGo 18 = .ok (.iconst 1, 1) := by decide +kernel
theorem dX12_mayGo_19 : decode cX12_mayGo 19 = .ok (.if_icmp .ne 42, 3) := by decide +kernel
theorem dX12_mayGo_22 : decode cX12_mayGo 22 = .ok (.aload_n 0, 1) := by decide +kernel
theorem dX12_mayGo_23 : decode cX12_mayGo 23 = .ok (.getfield 215, 3) := by decide +kernel
theorem dX12_mayGo_26 : decode cX12_mayGo 26 = .ok (.iconst 5, 1) := by decide +kernel
theorem dX12_mayGo_27 : decode cX12_mayGo 27 = .ok (.iload_n 1, 1) := by decide +kernel
theorem dX12_mayGo_28 : decode cX12_mayGo 28 = .ok (.imul, 1) := by decide +kernel
theorem dX12_mayGo_29 : decode cX12_mayGo 29 = .ok (.iconst 1, 1) := by decide +kernel
theorem dX12_mayGo_30 : decode cX12_mayGo 30 = .ok (.iadd, 1) := by decide +kernel
theorem dX12_mayGo_31 : decode cX12_mayGo 31 = .ok (.baload, 1) := by decide +kernel
theorem dX12_mayGo_32 : decode cX12_mayGo 32 = .ok (.ifCond .ne 27, 3) := by decide +kernel
theorem dX12_mayGo_35 : decode cX12_mayGo 35 = .ok (.iload_n 1, 1) := by decide +kernel
theorem dX12_mayGo_36 : decode cX12_mayGo 36 = .ok (.bipush 6, 2) := by decide +kernel
theorem dX12_mayGo_38 : decode cX12_mayGo 38 = .ok (.irem, 1) := by decide +kernel
theorem dX12_mayGo_39 : decode cX12_mayGo 39 = .ok (.ifCond .eq 16, 3) := by decide +kernel
theorem dX12_mayGo_42 : decode cX12_mayGo 42 = .ok (.aload_n 0, 1) := by decide +kernel
theorem dX12_mayGo_43 : decode cX12_mayGo 43 = .ok (.getfield 215, 3) := by decide +kernel
theorem dX12_mayGo_46 : decode cX12_mayGo 46 = .ok (.iconst 5, 1) := by decide +kernel
theorem dX12_mayGo_47 : decode cX12_mayGo 47 = .ok (.iload_n 1, 1) := by decide +kernel
theorem dX12_mayGo_48 : decode cX12_mayGo 48 = .ok (.imul, 1) := by decide +kernel
theorem dX12_mayGo_49 : decode cX12_mayGo 49 = .ok (.iconst 4, 1) := by decide +kernel
theorem dX12_mayGo_50 : decode cX12_mayGo 50 = .ok (.isub, 1) := by decide +kernel
theorem dX12_mayGo_51 : decode cX12_mayGo 51 = .ok (.baload, 1) := by decide +kernel
theorem dX12_mayGo_52 : decode cX12_mayGo 52 = .ok (.ifCond .ne 7, 3) := by decide +kernel
theorem dX12_mayGo_55 : decode cX12_mayGo 55 = .ok (.iconst 1, 1) := by decide +kernel
theorem dX12_mayGo_56 : decode cX12_mayGo 56 = .ok (.goto 4, 3) := by decide +kernel
theorem dX12_mayGo_59 : decode cX12_mayGo 59 = .ok (.iconst 0, 1) := by decide +kernel
theorem dX12_mayGo_60 : decode cX12_mayGo 60 = .ok (.ireturn, 1) := by decide +kernel
theorem dX12_mayGo_61 : decode cX12_mayGo 61 = .ok (.iload_n 2, 1) := by decide +kernel
theorem dX12_mayGo_62 : decode cX12_mayGo 62 = .ok (.iconst 2, 1) := by decide +kernel
theorem dX12_mayGo_63 : decode cX12_mayGo 63 = .ok (.if_icmp .ne 29, 3) := by decide +kernel
theorem dX12_mayGo_66 : decode cX12_mayGo 66 = .ok (.aload_n 0, 1) := by decide +kernel
theorem dX12_mayGo_67 : decode cX12_mayGo 67 = .ok (.getfield 215, 3) := by decide +kernel
theorem dX12_mayGo_70 : decode cX12_mayGo 70 = .ok (.iconst 5, 1) := by decide +kernel
theorem dX12_mayGo_71 : decode cX12_mayGo 71 = .ok (.iload_n 1, 1) := by decide +kernel
theorem dX12_mayGo_72 : decode cX12_mayGo 72 = .ok (.imul, 1) := by decide +kernel
theorem dX12_mayGo_73 : decode cX12_mayGo 73 = .ok (.iconst 2, 1) := by decide +kernel
theorem dX12_mayGo_74 : decode cX12_mayGo 74 = .ok (.iadd, 1) := by decide +kernel
theorem dX12_mayGo_75 : decode cX12_mayGo 75 = .ok (.baload, 1) := by decide +kernel
theorem dX12_mayGo_76 : decode cX12_mayGo 76 = .ok (.ifCond .ne 20, 3) := by decide +kernel
theorem dX12_mayGo_79 : decode cX12_mayGo 79 = .ok (.aload_n 0, 1) := by decide +kernel
theorem dX12_mayGo_80 : decode cX12_mayGo 80 = .ok (.getfield 215, 3) := by decide +kernel
theorem dX12_mayGo_83 : decode cX12_mayGo 83 = .ok (.iconst 5, 1) := by decide +kernel
theorem dX12_mayGo_84 : decode cX12_mayGo 84 = .ok (.iload_n 1, 1) := by decide +kernel
theorem dX12_mayGo_85 : decode cX12_mayGo 85 = .ok (.imul, 1) := by decide +kernel
theorem dX12_mayGo_86 : decode cX12_mayGo 86 = .ok (.iconst 3, 1) := by decide +kernel
theorem dX12_mayGo_87 : decode cX12_mayGo 87 = .ok (.iadd, 1) := by decide +kernel
theorem dX12_mayGo_88 : decode cX12_mayGo 88 = .ok (.baload, 1) := by decide +kernel
theorem dX12_mayGo_89 : decode cX12_mayGo 89 = .ok (.ifCond .ne 7, 3) := by decide +kernel
theorem dX12_mayGo_92 : decode cX12_mayGo 92 = .ok (.iconst 1, 1) := by decide +kernel
theorem dX12_mayGo_93 : decode cX12_mayGo 93 = .ok (.goto 4, 3) := by decide +kernel
theorem dX12_mayGo_96 : decode cX12_mayGo 96 = .ok (.iconst 0, 1) := by decide +kernel
theorem dX12_mayGo_97 : decode cX12_mayGo 97 = .ok (.ireturn, 1) := by decide +kernel
set_option maxRecDepth 100000 in
set_option maxHeartbeats 4000000 in
theorem c_X12_mayGo {l : Launch} {K : KG} {ad : Nat → Nat → Nat} {fl : Nat} {a1 : Int32} {a2 : Int32} {M0 : Mem} {r9 : Int32} {M9 : Mem} (hf : f_X12_mayGo fl a1 a2 M0 = some (r9, M9)) : Met l yX12_mayGo (Cond.code yX12_mayGo cX12_mayGo 3 (some .boolean) :: ztb) (RM (1) 0 0) (zPc K LM ad M0 [.ref (ad 0 0), .int a1, .int a2]) (zQ K LM ad (some (.int r9)) M9) 0 0 (zA ad) := by
  refine z_enter (by decide) (Nat.le_of_ble_eq_true rfl) ?_
  intro p e s m args below meth c ls C hin hargs Z hl
  replace C : Cx p s m args meth c cX12_mayGo 3 "GlassPalaceModel" (some .boolean) := C
  replace hl : lv_has ls 3 [(0, .ref (ad 0 0)), (1, .int a1), (2, .int a2)] := hl
  have hR : 1 ≤ (RM (1) 0 0).frames ∧ 40 * (1) ≤ (RM (1) 0 0).locals := ⟨Nat.le_refl _, Nat.le_refl _⟩
  have hB : 0 ≤ (RM (1) 0 0).cells ∧ 0 ≤ (RM (1) 0 0).slots := ⟨Nat.zero_le _, Nat.zero_le _⟩
  unfold f_X12_mayGo at hf
  refine lv_aload_n C.x C.b dX12_mayGo_0 rfl (lv_at hl 0 rfl) ?_
  refine z_get C Z (lvM0 Nat.zero_lt_one) kM0 zc12 zin12 65 (by decide) k_1241 rfl svM0_65 dX12_mayGo_1 ?_
  refine lv_iconst (v := 5) C.x C.b dX12_mayGo_4 (by decide) ?_
  refine lv_iload_n C.x C.b dX12_mayGo_5 rfl (lv_at hl 1 rfl) ?_
  refine lv_imul C.x C.b dX12_mayGo_6 ?_
  refine lv_iload_n C.x C.b dX12_mayGo_7 rfl (lv_at hl 2 rfl) ?_
  refine lv_iadd C.x C.b dX12_mayGo_8 ?_
  refine lv_iconst (v := 1) C.x C.b dX12_mayGo_9 (by decide) ?_
  refine lv_isub C.x C.b dX12_mayGo_10 ?_
  replace hf := asr_s hf; obtain ⟨hq1, hf⟩ := hf
  refine z_zald C Z (lvM50 Nat.zero_lt_one) kM50 hq1 svM50 dX12_mayGo_11 ?_
  refine lv_if_ne (tgt := 17) C.x C.b dX12_mayGo_12 (by decide) (fun hc2 => ?_) (fun hc2 => ?_)
  · replace hf := ite_f hf hc2
    refine lv_iload_n C.x C.b dX12_mayGo_17 rfl (lv_at hl 2 rfl) ?_
    refine lv_iconst (v := 1) C.x C.b dX12_mayGo_18 (by decide) ?_
    refine lv_icmp_ne (tgt := 61) C.x C.b dX12_mayGo_19 (by decide) (fun hc3 => ?_) (fun hc3 => ?_)
    · replace hf := ite_f hf hc3
      refine lv_iload_n C.x C.b dX12_mayGo_61 rfl (lv_at hl 2 rfl) ?_
      refine lv_iconst (v := 2) C.x C.b dX12_mayGo_62 (by decide) ?_
      refine lv_icmp_ne (tgt := 92) C.x C.b dX12_mayGo_63 (by decide) (fun hc4 => ?_) (fun hc4 => ?_)
      · replace hf := ite_f hf hc4
        refine lv_iconst (v := 1) C.x C.b dX12_mayGo_92 (by decide) ?_
        refine lv_goto (tgt := 97) C.x C.b dX12_mayGo_93 (by decide) ?_
        obtain ⟨rfl, rfl⟩ := pr_s hf
        exact z_zret C Z rfl dX12_mayGo_97
      · replace hf := ite_t hf hc4
        refine lv_aload_n C.x C.b dX12_mayGo_66 rfl (lv_at hl 0 rfl) ?_
        refine z_get C Z (lvM0 Nat.zero_lt_one) kM0 zc12 zin12 65 (by decide) k_1241 rfl svM0_65 dX12_mayGo_67 ?_
        refine lv_iconst (v := 5) C.x C.b dX12_mayGo_70 (by decide) ?_
        refine lv_iload_n C.x C.b dX12_mayGo_71 rfl (lv_at hl 1 rfl) ?_
        refine lv_imul C.x C.b dX12_mayGo_72 ?_
        refine lv_iconst (v := 2) C.x C.b dX12_mayGo_73 (by decide) ?_
        refine lv_iadd C.x C.b dX12_mayGo_74 ?_
        replace hf := asr_s hf; obtain ⟨hq5, hf⟩ := hf
        refine z_zald C Z (lvM50 Nat.zero_lt_one) kM50 hq5 svM50 dX12_mayGo_75 ?_
        refine lv_if_ne (tgt := 96) C.x C.b dX12_mayGo_76 (by decide) (fun hc6 => ?_) (fun hc6 => ?_)
        · replace hf := ite_f hf hc6
          refine lv_iconst (v := 0) C.x C.b dX12_mayGo_96 (by decide) ?_
          obtain ⟨rfl, rfl⟩ := pr_s hf
          exact z_zret C Z rfl dX12_mayGo_97
        · replace hf := ite_t hf hc6
          refine lv_aload_n C.x C.b dX12_mayGo_79 rfl (lv_at hl 0 rfl) ?_
          refine z_get C Z (lvM0 Nat.zero_lt_one) kM0 zc12 zin12 65 (by decide) k_1241 rfl svM0_65 dX12_mayGo_80 ?_
          refine lv_iconst (v := 5) C.x C.b dX12_mayGo_83 (by decide) ?_
          refine lv_iload_n C.x C.b dX12_mayGo_84 rfl (lv_at hl 1 rfl) ?_
          refine lv_imul C.x C.b dX12_mayGo_85 ?_
          refine lv_iconst (v := 3) C.x C.b dX12_mayGo_86 (by decide) ?_
          refine lv_iadd C.x C.b dX12_mayGo_87 ?_
          replace hf := asr_s hf; obtain ⟨hq7, hf⟩ := hf
          refine z_zald C Z (lvM50 Nat.zero_lt_one) kM50 hq7 svM50 dX12_mayGo_88 ?_
          refine lv_if_ne (tgt := 96) C.x C.b dX12_mayGo_89 (by decide) (fun hc8 => ?_) (fun hc8 => ?_)
          · replace hf := ite_f hf hc8
            refine lv_iconst (v := 0) C.x C.b dX12_mayGo_96 (by decide) ?_
            obtain ⟨rfl, rfl⟩ := pr_s hf
            exact z_zret C Z rfl dX12_mayGo_97
          · replace hf := ite_t hf hc8
            refine lv_iconst (v := 1) C.x C.b dX12_mayGo_92 (by decide) ?_
            refine lv_goto (tgt := 97) C.x C.b dX12_mayGo_93 (by decide) ?_
            obtain ⟨rfl, rfl⟩ := pr_s hf
            exact z_zret C Z rfl dX12_mayGo_97
    · replace hf := ite_t hf hc3
      refine lv_aload_n C.x C.b dX12_mayGo_22 rfl (lv_at hl 0 rfl) ?_
      refine z_get C Z (lvM0 Nat.zero_lt_one) kM0 zc12 zin12 65 (by decide) k_1241 rfl svM0_65 dX12_mayGo_23 ?_
      refine lv_iconst (v := 5) C.x C.b dX12_mayGo_26 (by decide) ?_
      refine lv_iload_n C.x C.b dX12_mayGo_27 rfl (lv_at hl 1 rfl) ?_
      refine lv_imul C.x C.b dX12_mayGo_28 ?_
      refine lv_iconst (v := 1) C.x C.b dX12_mayGo_29 (by decide) ?_
      refine lv_iadd C.x C.b dX12_mayGo_30 ?_
      replace hf := asr_s hf; obtain ⟨hq9, hf⟩ := hf
      refine z_zald C Z (lvM50 Nat.zero_lt_one) kM50 hq9 svM50 dX12_mayGo_31 ?_
      refine lv_if_ne (tgt := 59) C.x C.b dX12_mayGo_32 (by decide) (fun hc10 => ?_) (fun hc10 => ?_)
      · replace hf := ite_f hf hc10
        refine lv_iconst (v := 0) C.x C.b dX12_mayGo_59 (by decide) ?_
        obtain ⟨rfl, rfl⟩ := pr_s hf
        exact z_zret C Z rfl dX12_mayGo_60
      · replace hf := ite_t hf hc10
        refine lv_iload_n C.x C.b dX12_mayGo_35 rfl (lv_at hl 1 rfl) ?_
        refine lv_bipush (v := 6) C.x C.b dX12_mayGo_36 (by decide) ?_
        refine z_irem C dX12_mayGo_38 (by decide) ?_
        refine lv_if_eq (tgt := 55) C.x C.b dX12_mayGo_39 (by decide) (fun hc11 => ?_) (fun hc11 => ?_)
        · replace hf := ite_t hf hc11
          refine lv_iconst (v := 1) C.x C.b dX12_mayGo_55 (by decide) ?_
          refine lv_goto (tgt := 60) C.x C.b dX12_mayGo_56 (by decide) ?_
          obtain ⟨rfl, rfl⟩ := pr_s hf
          exact z_zret C Z rfl dX12_mayGo_60
        · replace hf := ite_f hf hc11
          refine lv_aload_n C.x C.b dX12_mayGo_42 rfl (lv_at hl 0 rfl) ?_
          refine z_get C Z (lvM0 Nat.zero_lt_one) kM0 zc12 zin12 65 (by decide) k_1241 rfl svM0_65 dX12_mayGo_43 ?_
          refine lv_iconst (v := 5) C.x C.b dX12_mayGo_46 (by decide) ?_
          refine lv_iload_n C.x C.b dX12_mayGo_47 rfl (lv_at hl 1 rfl) ?_
          refine lv_imul C.x C.b dX12_mayGo_48 ?_
          refine lv_iconst (v := 4) C.x C.b dX12_mayGo_49 (by decide) ?_
          refine lv_isub C.x C.b dX12_mayGo_50 ?_
          replace hf := asr_s hf; obtain ⟨hq12, hf⟩ := hf
          refine z_zald C Z (lvM50 Nat.zero_lt_one) kM50 hq12 svM50 dX12_mayGo_51 ?_
          refine lv_if_ne (tgt := 59) C.x C.b dX12_mayGo_52 (by decide) (fun hc13 => ?_) (fun hc13 => ?_)
          · replace hf := ite_f hf hc13
            refine lv_iconst (v := 0) C.x C.b dX12_mayGo_59 (by decide) ?_
            obtain ⟨rfl, rfl⟩ := pr_s hf
            exact z_zret C Z rfl dX12_mayGo_60
          · replace hf := ite_t hf hc13
            refine lv_iconst (v := 1) C.x C.b dX12_mayGo_55 (by decide) ?_
            refine lv_goto (tgt := 60) C.x C.b dX12_mayGo_56 (by decide) ?_
            obtain ⟨rfl, rfl⟩ := pr_s hf
            exact z_zret C Z rfl dX12_mayGo_60
  · replace hf := ite_t hf hc2
    refine lv_iconst (v := 0) C.x C.b dX12_mayGo_15 (by decide) ?_
    obtain ⟨rfl, rfl⟩ := pr_s hf
    exact z_zret C Z rfl dX12_mayGo_16
theorem dX12_nextDown_0 : decode cX12_nextDown 0 = .ok (.iconst 0, 1) := by decide +kernel
theorem dX12_nextDown_1 : decode cX12_nextDown 1 = .ok (.istore_n 1, 1) := by decide +kernel
theorem dX12_nextDown_2 : decode cX12_nextDown 2 = .ok (.iload_n 1, 1) := by decide +kernel
theorem dX12_nextDown_3 : decode cX12_nextDown 3 = .ok (.bipush 30, 2) := by decide +kernel
theorem dX12_nextDown_5 : decode cX12_nextDown 5 = .ok (.if_icmp .ge 37, 3) := by decide +kernel
theorem dX12_nextDown_8 : decode cX12_nextDown 8 = .ok (.iconst 5, 1) := by decide +kernel
theorem dX12_nextDown_9 : decode cX12_nextDown 9 = .ok (.istore_n 2, 1) := by decide +kernel
theorem dX12_nextDown_10 : decode cX12_nextDown 10 = .ok (.iload_n 2, 1) := by decide +kernel
theorem dX12_nextDown_11 : decode cX12_nextDown 11 = .ok (.ifCond .le 25, 3) := by decide +kernel
theorem dX12_nextDown_14 : decode cX12_nextDown 14 = .ok (.aload_n 0, 1) := by decide +kernel
theorem dX12_nextDown_15 : decode cX12_nextDown 15 = .ok (.iload_n 1, 1) := by decide +kernel
theorem dX12_nextDown_16 : decode cX12_nextDown 16 = .ok (.iload_n 2, 1) := by decide +kernel
theorem dX12_nextDown_17 : decode cX12_nextDown 17 = .ok (.invokevirtual 375, 3) := by decide +kernel
theorem dX12_nextDown_20 : decode cX12_nextDown 20 = .ok (.ifCond .eq 10, 3) := by decide +kernel
theorem dX12_nextDown_23 : decode cX12_nextDown 23 = .ok (.bipush 10, 2) := by decide +kernel
theorem dX12_nextDown_25 : decode cX12_nextDown 25 = .ok (.iload_n 1, 1) := by decide +kernel
theorem dX12_nextDown_26 : decode cX12_nextDown 26 = .ok (.imul, 1) := by decide +kernel
theorem dX12_nextDown_27 : decode cX12_nextDown 27 = .ok (.iload_n 2, 1) := by decide +kernel
theorem dX12_nextDown_28 : decode cX12_nextDown 28 = .ok (.iadd, 1) := by decide +kernel
theorem dX12_nextDown_29 : decode cX12_nextDown 29 = .ok (.ireturn, 1) := by decide +kernel
theorem dX12_nextDown_30 : decode cX12_nextDown 30 = .ok (.iinc 2 (-1), 3) := by decide +kernel
theorem dX12_nextDown_33 : decode cX12_nextDown 33 = .ok (.goto (-23), 3) := by decide +kernel
theorem dX12_nextDown_36 : decode cX12_nextDown 36 = .ok (.iinc 1 1, 3) := by decide +kernel
theorem dX12_nextDown_39 : decode cX12_nextDown 39 = .ok (.goto (-37), 3) := by decide +kernel
theorem dX12_nextDown_42 : decode cX12_nextDown 42 = .ok (.iconst (-1), 1) := by decide +kernel
theorem dX12_nextDown_43 : decode cX12_nextDown 43 = .ok (.ireturn, 1) := by decide +kernel
set_option maxRecDepth 100000 in
set_option maxHeartbeats 4000000 in
theorem w_X12_nextDown_l10 {p : Program} {l : Launch} {e : Env} {R : Room} {s : State} {m : MethodId} {args : Array Value} {below : List Frame} {meth : Method} {c : Code} {cells slots : Nat} {Q : State → Prop} {K : KG} {ad : Nat → Nat → Nat} {fl : Nat} {g1 : Int32} (C : Cx p s m args meth c cX12_nextDown 3 "GlassPalaceModel" (some .int)) (hR : 2 ≤ R.frames ∧ 40 * (2) ≤ R.locals) (hB : cells ≤ R.cells ∧ slots ≤ R.slots) : ∀ (n : Nat) (u2 : Int32) (M0 : Mem) (H : Heap) (locs : List Loc) (ls : Array Slot), Zd K LM ad M0 s H locs → lv_has ls 3 [(0, .ref (ad 0 0)), (1, .int g1), (2, .int u2)] → ∀ (q : Nat × Int32) (Mq : Mem), f_X12_nextDown_l10 fl g1 n u2 M0 = some (q, Mq) → (q.1 = 0 → ∀ (H : Heap) (locs : List Loc) (ls : Array Slot), Zd K LM ad Mq s H locs → lv_has ls 3 [(1, .int g1), (2, .int q.2)] → W p l e R s m args below meth c H locs cells slots Q (F0 m 23 ls [])) → (q.1 = 1 → ∀ (H : Heap) (locs : List Loc) (ls : Array Slot), Zd K LM ad Mq s H locs → lv_has ls 3 [(0, .ref (ad 0 0)), (1, .int g1)] → W p l e R s m args below meth c H locs cells slots Q (F0 m 36 ls [])) → W p l e R s m args below meth c H locs cells slots Q (F0 m 10 ls []) := by
  intro n
  induction n with
  | zero =>
    intro u2 M0 H locs ls Z hl q Mq hf
    have hf : (none : Option ((Nat × Int32) × Mem)) = some (q, Mq) := hf
    cases hf
  | succ n ih =>
    intro u2 M0 H locs ls Z hl q Mq hf kx0 kx1
    replace hf : f_X12_nextDown_l10_b (f_X12_nextDown_l10 fl g1 n) fl g1 u2 M0 = some (q, Mq) := hf
    unfold f_X12_nextDown_l10_b at hf
    refine lv_iload_n C.x C.b dX12_nextDown_10 rfl (lv_at hl 2 rfl) ?_
    refine lv_if_le (tgt := 36) C.x C.b dX12_nextDown_11 (by decide) (fun hc2 => ?_) (fun hc2 => ?_)
    · replace hf := ite_t hf hc2
      obtain ⟨rfl, rfl⟩ := pr_s hf
      exact kx1 rfl _ _ _ Z (lv_sub hl [0, 1] rfl)
    · replace hf := ite_f hf hc2
      refine lv_aload_n C.x C.b dX12_nextDown_14 rfl (lv_at hl 0 rfl) ?_
      refine lv_iload_n C.x C.b dX12_nextDown_15 rfl (lv_at hl 1 rfl) ?_
      refine lv_iload_n C.x C.b dX12_nextDown_16 rfl (lv_at hl 2 rfl) ?_
      replace hf := bn2_s hf; obtain ⟨v4, m3, hkm3, hf⟩ := hf
      refine z_cV (As := [.int g1, .int u2]) (rest := []) (st1 := [.int v4]) C Z mw_X12_mayGo mv_X12_mayGo k_1721 (by decide) (z_hR hR (by decide)) (lvM0 Nat.zero_lt_one) kM0 zc12 (c_X12_mayGo (l := l) (K := K) (ad := ad) hkm3) rfl hl.1 rfl (Nat.le_of_ble_eq_true rfl) dX12_nextDown_17 hB rfl (fun H locs Z => ?_)
      refine lv_if_eq (tgt := 30) C.x C.b dX12_nextDown_20 (by decide) (fun hc5 => ?_) (fun hc5 => ?_)
      · replace hf := ite_t hf hc5
        replace hf := lt1_s hf; obtain ⟨x6, ex6, hf⟩ := hf
        refine z_iinc (v := x6) (lv' := [(2, .int x6), (0, .ref (ad 0 0)), (1, .int g1)]) C dX12_nextDown_30 hl (k := 2) rfl (by rw [ex6]; rfl) (by decide) rfl (onlast 1 rfl rfl rfl) (fun ls hl => ?_)
        refine lv_goto (tgt := 10) C.x C.b dX12_nextDown_33 (by decide) ?_
        exact ih _ _ _ _ _ Z (lv_sub hl [1, 2, 0] rfl) _ _ hf kx0 kx1
      · replace hf := ite_f hf hc5
        obtain ⟨rfl, rfl⟩ := pr_s hf
        exact kx0 rfl _ _ _ Z (lv_sub hl [1, 2] rfl)
set_option maxRecDepth 100000 in
set_option maxHeartbeats 4000000 in
theorem w_X12_nextDown_l2 {p : Program} {l : Launch} {e : Env} {R : Room} {s : State} {m : MethodId} {args : Array Value} {below : List Frame} {meth : Method} {c : Code} {cells slots : Nat} {Q : State → Prop} {K : KG} {ad : Nat → Nat → Nat} {fl : Nat} (C : Cx p s m args meth c cX12_nextDown 3 "GlassPalaceModel" (some .int)) (hR : 2 ≤ R.frames ∧ 40 * (2) ≤ R.locals) (hB : cells ≤ R.cells ∧ slots ≤ R.slots) : ∀ (n : Nat) (u1 : Int32) (M0 : Mem) (H : Heap) (locs : List Loc) (ls : Array Slot), Zd K LM ad M0 s H locs → lv_has ls 3 [(0, .ref (ad 0 0)), (1, .int u1)] → ∀ (q : Nat × Int32 × Int32) (Mq : Mem), f_X12_nextDown_l2 fl  n u1 M0 = some (q, Mq) → (q.1 = 0 → ∀ (H : Heap) (locs : List Loc) (ls : Array Slot), Zd K LM ad Mq s H locs → lv_has ls 3 [(1, .int q.2.1), (2, .int q.2.2)] → W p l e R s m args below meth c H locs cells slots Q (F0 m 23 ls [])) → (q.1 = 1 → ∀ (H : Heap) (locs : List Loc) (ls : Array Slot), Zd K LM ad Mq s H locs → lv_has ls 3 [] → W p l e R s m args below meth c H locs cells slots Q (F0 m 42 ls [])) → W p l e R s m args below meth c H locs cells slots Q (F0 m 2 ls []) := by
  intro n
  induction n with
  | zero =>
    intro u1 M0 H locs ls Z hl q Mq hf
    have hf : (none : Option ((Nat × Int32 × Int32) × Mem)) = some (q, Mq) := hf
    cases hf
  | succ n ih =>
    intro u1 M0 H locs ls Z hl q Mq hf kx0 kx1
    replace hf : f_X12_nextDown_l2_b (f_X12_nextDown_l2 fl  n) fl  u1 M0 = some (q, Mq) := hf
    unfold f_X12_nextDown_l2_b at hf
    refine lv_iload_n C.x C.b dX12_nextDown_2 rfl (lv_at hl 1 rfl) ?_
    refine lv_bipush (v := 30) C.x C.b dX12_nextDown_3 (by decide) ?_
    refine lv_icmp_ge (tgt := 42) C.x C.b dX12_nextDown_5 (by decide) (fun hc1 => ?_) (fun hc1 => ?_)
    · replace hf := ite_t hf hc1
      obtain ⟨rfl, rfl⟩ := pr_s hf
      exact kx1 rfl _ _ _ Z (lv_sub hl [] rfl)
    · replace hf := ite_f hf hc1
      refine lv_iconst (v := 5) C.x C.b dX12_nextDown_8 (by decide) ?_
      refine z_istore_n (lv' := [(2, .int 5), (0, .ref (ad 0 0)), (1, .int u1)]) C dX12_nextDown_9 rfl hl (by decide) rfl (onlast 1 rfl rfl rfl) (fun ls hl => ?_)
      replace hf := bn2_s hf; obtain ⟨q7, m8, hq7, hf⟩ := hf
      refine w_X12_nextDown_l10 C hR hB  fl _ _ _ _ _ Z (lv_sub hl [1, 2, 0] rfl) _ _ hq7 (fun ht H locs ls Z hl => ?_) (fun ht H locs ls Z hl => ?_)
      · replace hf := ite_t hf ht
        obtain ⟨rfl, rfl⟩ := pr_s hf
        exact kx0 rfl _ _ _ Z (lv_sub hl [0, 1] rfl)
      · replace hf := ite_f hf (by rw [ht]; decide)
        replace hf := lt1_s hf; obtain ⟨x9, ex9, hf⟩ := hf
        refine z_iinc (v := x9) (lv' := [(1, .int x9), (0, .ref (ad 0 0))]) C dX12_nextDown_36 hl (k := 1) rfl (by rw [ex9]; rfl) (by decide) rfl (onlast 0 rfl rfl rfl) (fun ls hl => ?_)
        refine lv_goto (tgt := 2) C.x C.b dX12_nextDown_39 (by decide) ?_
        exact ih _ _ _ _ _ Z (lv_sub hl [1, 0] rfl) _ _ hf kx0 kx1
set_option maxRecDepth 100000 in
set_option maxHeartbeats 4000000 in
theorem c_X12_nextDown {l : Launch} {K : KG} {ad : Nat → Nat → Nat} {fl : Nat}  {M0 : Mem} {r9 : Int32} {M9 : Mem} (hf : f_X12_nextDown fl  M0 = some (r9, M9)) : Met l yX12_nextDown (Cond.code yX12_nextDown cX12_nextDown 3 (some .int) :: ztb) (RM (2) 0 0) (zPc K LM ad M0 [.ref (ad 0 0)]) (zQ K LM ad (some (.int r9)) M9) 0 0 (zA ad) := by
  refine z_enter (by decide) (Nat.le_of_ble_eq_true rfl) ?_
  intro p e s m args below meth c ls C hin hargs Z hl
  replace C : Cx p s m args meth c cX12_nextDown 3 "GlassPalaceModel" (some .int) := C
  replace hl : lv_has ls 3 [(0, .ref (ad 0 0))] := hl
  have hR : 2 ≤ (RM (2) 0 0).frames ∧ 40 * (2) ≤ (RM (2) 0 0).locals := ⟨Nat.le_refl _, Nat.le_refl _⟩
  have hB : 0 ≤ (RM (2) 0 0).cells ∧ 0 ≤ (RM (2) 0 0).slots := ⟨Nat.zero_le _, Nat.zero_le _⟩
  unfold f_X12_nextDown at hf
  refine lv_iconst (v := 0) C.x C.b dX12_nextDown_0 (by decide) ?_
  refine z_istore_n (lv' := [(1, .int 0), (0, .ref (ad 0 0))]) C dX12_nextDown_1 rfl hl (by decide) rfl (onlast 0 rfl rfl rfl) (fun ls hl => ?_)
  replace hf := bn2_s hf; obtain ⟨q10, m11, hq10, hf⟩ := hf
  refine w_X12_nextDown_l2 C hR hB  fl _ _ _ _ _ Z (lv_sub hl [1, 0] rfl) _ _ hq10 (fun ht H locs ls Z hl => ?_) (fun ht H locs ls Z hl => ?_)
  · replace hf := ite_t hf ht
    refine lv_bipush (v := 10) C.x C.b dX12_nextDown_23 (by decide) ?_
    refine lv_iload_n C.x C.b dX12_nextDown_25 rfl (lv_at hl 0 rfl) ?_
    refine lv_imul C.x C.b dX12_nextDown_26 ?_
    refine lv_iload_n C.x C.b dX12_nextDown_27 rfl (lv_at hl 1 rfl) ?_
    refine lv_iadd C.x C.b dX12_nextDown_28 ?_
    obtain ⟨rfl, rfl⟩ := pr_s hf
    exact z_iret C Z dX12_nextDown_29
  · replace hf := ite_f hf (by rw [ht]; decide)
    refine lv_iconst (v := (-1)) C.x C.b dX12_nextDown_42 (by decide) ?_
    obtain ⟨rfl, rfl⟩ := pr_s hf
    exact z_iret C Z dX12_nextDown_43
theorem dX12_unbuild_0 : decode cX12_unbuild 0 = .ok (.iload_n 1, 1) := by decide +kernel
theorem dX12_unbuild_1 : decode cX12_unbuild 1 = .ok (.iconst (-1), 1) := by decide +kernel
theorem dX12_unbuild_2 : decode cX12_unbuild 2 = .ok (.if_icmp .ge 5, 3) := by decide +kernel
theorem dX12_unbuild_5 : decode cX12_unbuild 5 = .ok (.iconst (-1), 1) := by decide +kernel
theorem dX12_unbuild_6 : decode cX12_unbuild 6 = .ok (.ireturn, 1) := by decide +kernel
theorem dX12_unbuild_7 : decode cX12_unbuild 7 = .ok (.iconst 0, 1) := by decide +kernel
theorem dX12_unbuild_8 : decode cX12_unbuild 8 = .ok (.istore_n 2, 1) := by decide +kernel
theorem dX12_unbuild_9 : decode cX12_unbuild 9 = .ok (.iconst 0, 1) := by decide +kernel
theorem dX12_unbuild_10 : decode cX12_unbuild 10 = .ok (.istore_n 3, 1) := by decide +kernel
theorem dX12_unbuild_11 : decode cX12_unbuild 11 = .ok (.iload_n 3, 1) := by decide +kernel
theorem dX12_unbuild_12 : decode cX12_unbuild 12 = .ok (.bipush 30, 2) := by decide +kernel
theorem dX12_unbuild_14 : decode cX12_unbuild 14 = .ok (.if_icmp .ge 63, 3) := by decide +kernel
theorem dX12_unbuild_17 : decode cX12_unbuild 17 = .ok (.iconst 1, 1) := by decide +kernel
theorem dX12_unbuild_18 : decode cX12_unbuild 18 = .ok (.istore 4, 2) := by decide +kernel
theorem dX12_unbuild_20 : decode cX12_unbuild 20 = .ok (.iload 4, 2) := by decide +kernel
theorem dX12_unbuild_22 : decode cX12_unbuild 22 = .ok (.bipush 6, 2) := by decide +kernel
theorem dX12_unbuild_24 : decode cX12_unbuild 24 = .ok (.if_icmp .ge 47, 3) := by decide +kernel
theorem dX12_unbuild_27 : decode cX12_unbuild 27 = .ok (.aload_n 0, 1) := by decide +kernel
theorem dX12_unbuild_28 : decode cX12_unbuild 28 = .ok (.getfield 215, 3) := by decide +kernel
theorem dX12_unbuild_31 : decode cX12_unbuild 31 = .ok (.iconst 5, 1) := by decide +kernel
theorem dX12_unbuild_32 : decode cX12_unbuild 32 = .ok (.iload_n 3, 1) := by decide +kernel
theorem dX12_unbuild_33 : decode cX12_unbuild 33 = .ok (.imul, 1) := by decide +kernel
theorem dX12_unbuild_34 : decode cX12_unbuild 34 = .ok (.iload 4, 2) := by decide +kernel
theorem dX12_unbuild_36 : decode cX12_unbuild 36 = .ok (.iadd, 1) := by decide +kernel
theorem dX12_unbuild_37 : decode cX12_unbuild 37 = .ok (.iconst 1, 1) := by decide +kernel
theorem dX12_unbuild_38 : decode cX12_unbuild 38 = .ok (.isub, 1) := by decide +kernel
theorem dX12_unbuild_39 : decode cX12_unbuild 39 = .ok (.aload_n 0, 1) := by decide +kernel
theorem dX12_unbuild_40 : decode cX12_unbuild 40 = .ok (.iload_n 3, 1) := by decide +kernel
theorem dX12_unbuild_41 : decode cX12_unbuild 41 = .ok (.iload 4, 2) := by decide +kernel
theorem dX12_unbuild_43 : decode cX12_unbuild 43 = .ok (.invokevirtual 237, 3) := by decide +kernel
theorem dX12_unbuild_46 : decode cX12_unbuild 46 = .ok (.bastore, 1) := by decide +kernel
theorem dX12_unbuild_47 : decode cX12_unbuild 47 = .ok (.iload_n 2, 1) := by decide +kernel
theorem dX12_unbuild_48 : decode cX12_unbuild 48 = .ok (.aload_n 0, 1) := by decide +kernel
theorem dX12_unbuild_49 : decode cX12_unbuild 49 = .ok (.iload_n 3, 1) := by decide +kernel
theorem dX12_unbuild_50 : decode cX12_unbuild 50 = .ok (.iload 4, 2) := by decide +kernel
theorem dX12_unbuild_52 : decode cX12_unbuild 52 = .ok (.invokevirtual 237, 3) := by decide +kernel
theorem dX12_unbuild_55 : decode cX12_unbuild 55 = .ok (.ifCond .eq 7, 3) := by decide +kernel
theorem dX12_unbuild_58 : decode cX12_unbuild 58 = .ok (.iconst 1, 1) := by decide +kernel
theorem dX12_unbuild_59 : decode cX12_unbuild 59 = .ok (.goto 4, 3) := by decide +kernel
theorem dX12_unbuild_62 : decode cX12_unbuild 62 = .ok (.iconst 0, 1) := by decide +kernel
theorem dX12_unbuild_63 : decode cX12_unbuild 63 = .ok (.iadd, 1) := by decide +kernel
theorem dX12_unbuild_64 : decode cX12_unbuild 64 = .ok (.istore_n 2, 1) := by decide +kernel
theorem dX12_unbuild_65 : decode cX12_unbuild 65 = .ok (.iinc 4 1, 3) := by decide +kernel
theorem dX12_unbuild_68 : decode cX12_unbuild 68 = .ok (.goto (-48), 3) := by decide +kernel
theorem dX12_unbuild_71 : decode cX12_unbuild 71 = .ok (.iinc 3 1, 3) := by decide +kernel
theorem dX12_unbuild_74 : decode cX12_unbuild 74 = .ok (.goto (-63), 3) := by decide +kernel
theorem dX12_unbuild_77 : decode cX12_unbuild 77 = .ok (.iload_n 1, 1) := by decide +kernel
theorem dX12_unbuild_78 : decode cX12_unbuild 78 = .ok (.iconst (-1), 1) := by decide +kernel
theorem dX12_unbuild_79 : decode cX12_unbuild 79 = .ok (.if_icmp .ne 5, 3) := by decide +kernel
theorem dX12_unbuild_82 : decode cX12_unbuild 82 = .ok (.iload_n 2, 1) := by decide +kernel
theorem dX12_unbuild_83 : decode cX12_unbuild 83 = .ok (.ireturn, 1) := by decide +kernel
theorem dX12_unbuild_84 : decode cX12_unbuild 84 = .ok (.iload_n 1, 1) := by decide +kernel
theorem dX12_unbuild_85 : decode cX12_unbuild 85 = .ok (.iload_n 2, 1) := by decide +kernel
theorem dX12_unbuild_86 : decode cX12_unbuild 86 = .ok (.if_icmp .lt 5, 3) := by decide +kernel
theorem dX12_unbuild_89 : decode cX12_unbuild 89 = .ok (.iconst (-1), 1) := by decide +kernel
theorem dX12_unbuild_90 : decode cX12_unbuild 90 = .ok (.ireturn, 1) := by decide +kernel
theorem dX12_unbuild_91 : decode cX12_unbuild 91 = .ok (.iconst (-1), 1) := by decide +kernel
theorem dX12_unbuild_92 : decode cX12_unbuild 92 = .ok (.istore_n 3, 1) := by decide +kernel
theorem dX12_unbuild_93 : decode cX12_unbuild 93 = .ok (.iconst 0, 1) := by decide +kernel
theorem dX12_unbuild_94 : decode cX12_unbuild 94 = .ok (.istore 4, 2) := by decide +kernel
theorem dX12_unbuild_96 : decode cX12_unbuild 96 = .ok (.iload 4, 2) := by decide +kernel
theorem dX12_unbuild_98 : decode cX12_unbuild 98 = .ok (.iload_n 1, 1) := by decide +kernel
theorem dX12_unbuild_99 : decode cX12_unbuild 99 = .ok (.if_icmp .gt 33, 3) := by decide +kernel
theorem dX12_unbuild_102 : decode cX12_unbuild 102 = .ok (.aload_n 0, 1) := by decide +kernel
theorem dX12_unbuild_103 : decode cX12_unbuild 103 = .ok (.invokevirtual 378, 3) := by decide +kernel
theorem dX12_unbuild_106 : decode cX12_unbuild 106 = .ok (.istore_n 3, 1) := by decide +kernel
theorem dX12_unbuild_107 : decode cX12_unbuild 107 = .ok (.aload_n 0, 1) := by decide +kernel
theorem dX12_unbuild_108 : decode cX12_unbuild 108 = .ok (.getfield 215, 3) := by decide +kernel
theorem dX12_unbuild_111 : decode cX12_unbuild 111 = .ok (.iconst 5, 1) := by decide +kernel
theorem dX12_unbuild_112 : decode cX12_unbuild 112 = .ok (.iload_n 3, 1) := by decide +kernel
theorem dX12_unbuild_113 : decode cX12_unbuild 113 = .ok (.bipush 10, 2) := by decide +kernel
theorem dX12_unbuild_115 : decode cX12_unbuild 115 = .ok (.idiv, 1) := by decide +kernel
theorem dX12_unbuild_116 : decode cX12_unbuild 116 = .ok (.imul, 1) := by decide +kernel
theorem dX12_unbuild_117 : decode cX12_unbuild 117 = .ok (.iload_n 3, 1) := by decide +kernel
theorem dX12_unbuild_118 : decode cX12_unbuild 118 = .ok (.bipush 10, 2) := by decide +kernel
theorem dX12_unbuild_120 : decode cX12_unbuild 120 = .ok (.irem, 1) := by decide +kernel
theorem dX12_unbuild_121 : decode cX12_unbuild 121 = .ok (.iadd, 1) := by decide +kernel
theorem dX12_unbuild_122 : decode cX12_unbuild 122 = .ok (.iconst 1, 1) := by decide +kernel
theorem dX12_unbuild_123 : decode cX12_unbuild 123 = .ok (.isub, 1) := by decide +kernel
theorem dX12_unbuild_124 : decode cX12_unbuild 124 = .ok (.iconst 0, 1) := by decide +kernel
theorem dX12_unbuild_125 : decode cX12_unbuild 125 = .ok (.bastore, 1) := by decide +kernel
theorem dX12_unbuild_126 : decode cX12_unbuild 126 = .ok (.iinc 4 1, 3) := by decide +kernel
theorem dX12_unbuild_129 : decode cX12_unbuild 129 = .ok (.goto (-33), 3) := by decide +kernel
theorem dX12_unbuild_132 : decode cX12_unbuild 132 = .ok (.iload_n 3, 1) := by decide +kernel
theorem dX12_unbuild_133 : decode cX12_unbuild 133 = .ok (.ireturn, 1) := by decide +kernel
set_option maxRecDepth 100000 in
set_option maxHeartbeats 4000000 in
theorem w_X12_unbuild_l20 {p : Program} {l : Launch} {e : Env} {R : Room} {s : State} {m : MethodId} {args : Array Value} {below : List Frame} {meth : Method} {c : Code} {cells slots : Nat} {Q : State → Prop} {K : KG} {ad : Nat → Nat → Nat} {fl : Nat} {g1 : Int32} {g3 : Int32} (C : Cx p s m args meth c cX12_unbuild 5 "GlassPalaceModel" (some .int)) (hR : 3 ≤ R.frames ∧ 40 * (3) ≤ R.locals) (hB : cells ≤ R.cells ∧ slots ≤ R.slots) : ∀ (n : Nat) (u2 : Int32) (u4 : Int32) (M0 : Mem) (H : Heap) (locs : List Loc) (ls : Array Slot), Zd K LM ad M0 s H locs → lv_has ls 5 [(0, .ref (ad 0 0)), (1, .int g1), (2, .int u2), (3, .int g3), (4, .int u4)] → ∀ (q : Int32) (Mq : Mem), f_X12_unbuild_l20 fl g1 g3 n u2 u4 M0 = some (q, Mq) → (∀ (H : Heap) (locs : List Loc) (ls : Array Slot), Zd K LM ad Mq s H locs → lv_has ls 5 [(0, .ref (ad 0 0)), (1, .int g1), (2, .int q), (3, .int g3)] → W p l e R s m args below meth c H locs cells slots Q (F0 m 71 ls [])) → W p l e R s m args below meth c H locs cells slots Q (F0 m 20 ls []) := by
  intro n
  induction n with
  | zero =>
    intro u2 u4 M0 H locs ls Z hl q Mq hf
    have hf : (none : Option (Int32 × Mem)) = some (q, Mq) := hf
    cases hf
  | succ n ih =>
    intro u2 u4 M0 H locs ls Z hl q Mq hf kx0
    replace hf : f_X12_unbuild_l20_b (f_X12_unbuild_l20 fl g1 g3 n) fl g1 g3 u2 u4 M0 = some (q, Mq) := hf
    unfold f_X12_unbuild_l20_b at hf
    refine lv_iload C.x C.b dX12_unbuild_20 (lv_at hl 4 rfl) ?_
    refine lv_bipush (v := 6) C.x C.b dX12_unbuild_22 (by decide) ?_
    refine lv_icmp_ge (tgt := 71) C.x C.b dX12_unbuild_24 (by decide) (fun hc3 => ?_) (fun hc3 => ?_)
    · replace hf := ite_t hf hc3
      obtain ⟨rfl, rfl⟩ := pr_s hf
      exact kx0 _ _ _ Z (lv_sub hl [0, 1, 2, 3] rfl)
    · replace hf := ite_f hf hc3
      refine lv_aload_n C.x C.b dX12_unbuild_27 rfl (lv_at hl 0 rfl) ?_
      refine z_get C Z (lvM0 Nat.zero_lt_one) kM0 zc12 zin12 65 (by decide) k_1241 rfl svM0_65 dX12_unbuild_28 ?_
      refine lv_iconst (v := 5) C.x C.b dX12_unbuild_31 (by decide) ?_
      refine lv_iload_n C.x C.b dX12_unbuild_32 rfl (lv_at hl 3 rfl) ?_
      refine lv_imul C.x C.b dX12_unbuild_33 ?_
      refine lv_iload C.x C.b dX12_unbuild_34 (lv_at hl 4 rfl) ?_
      refine lv_iadd C.x C.b dX12_unbuild_36 ?_
      refine lv_iconst (v := 1) C.x C.b dX12_unbuild_37 (by decide) ?_
      refine lv_isub C.x C.b dX12_unbuild_38 ?_
      refine lv_aload_n C.x C.b dX12_unbuild_39 rfl (lv_at hl 0 rfl) ?_
      refine lv_iload_n C.x C.b dX12_unbuild_40 rfl (lv_at hl 3 rfl) ?_
      refine lv_iload C.x C.b dX12_unbuild_41 (lv_at hl 4 rfl) ?_
      replace hf := bn2_s hf; obtain ⟨v5, m4, hkm4, hf⟩ := hf
      refine z_cV (As := [.int g3, .int u4]) (rest := [.int (((5 * g3) + u4) - 1), .ref (ad 50 0)]) (st1 := [.int v5, .int (((5 * g3) + u4) - 1), .ref (ad 50 0)]) C Z mw_X12_has mv_X12_has k_1414 (by decide) (z_hR hR (by decide)) (lvM0 Nat.zero_lt_one) kM0 zc12 (c_X12_has (l := l) (K := K) (ad := ad) hkm4) rfl hl.1 rfl (Nat.le_of_ble_eq_true rfl) dX12_unbuild_43 hB rfl (fun H locs Z => ?_)
      replace hf := asr_s hf; obtain ⟨hq6, hf⟩ := hf
      replace hf := lt1_s hf; obtain ⟨m7, em7, hf⟩ := hf
      refine z_zast (M1 := m7) C Z (lvM50 Nat.zero_lt_one) (by decide) kM50 hq6 em7 stM50u dX12_unbuild_46 (fun H locs Z => ?_)
      refine lv_iload_n C.x C.b dX12_unbuild_47 rfl (lv_at hl 2 rfl) ?_
      refine lv_aload_n C.x C.b dX12_unbuild_48 rfl (lv_at hl 0 rfl) ?_
      refine lv_iload_n C.x C.b dX12_unbuild_49 rfl (lv_at hl 3 rfl) ?_
      refine lv_iload C.x C.b dX12_unbuild_50 (lv_at hl 4 rfl) ?_
      replace hf := bn2_s hf; obtain ⟨v9, m8, hkm8, hf⟩ := hf
      refine z_cV (As := [.int g3, .int u4]) (rest := [.int u2]) (st1 := [.int v9, .int u2]) C Z mw_X12_has mv_X12_has k_1414 (by decide) (z_hR hR (by decide)) (lvM0 Nat.zero_lt_one) kM0 zc12 (c_X12_has (l := l) (K := K) (ad := ad) hkm8) rfl hl.1 rfl (Nat.le_of_ble_eq_true rfl) dX12_unbuild_52 hB rfl (fun H locs Z => ?_)
      refine lv_if_eq (tgt := 62) C.x C.b dX12_unbuild_55 (by decide) (fun hc10 => ?_) (fun hc10 => ?_)
      · replace hf := ite_t hf hc10
        refine lv_iconst (v := 0) C.x C.b dX12_unbuild_62 (by decide) ?_
        refine lv_iadd C.x C.b dX12_unbuild_63 ?_
        replace hf := lt1_s hf; obtain ⟨x11, ex11, hf⟩ := hf
        refine z_renI ex11 ?_
        refine z_istore_n (lv' := [(2, .int x11), (0, .ref (ad 0 0)), (1, .int g1), (3, .int g3), (4, .int u4)]) C dX12_unbuild_64 rfl hl (by decide) rfl (onlast 1 rfl rfl rfl) (fun ls hl => ?_)
        replace hf := lt1_s hf; obtain ⟨x12, ex12, hf⟩ := hf
        refine z_iinc (v := x12) (lv' := [(4, .int x12), (2, .int x11), (0, .ref (ad 0 0)), (1, .int g1), (3, .int g3)]) C dX12_unbuild_65 hl (k := 4) rfl (by rw [ex12]; rfl) (by decide) rfl (onlast 3 rfl rfl rfl) (fun ls hl => ?_)
        refine lv_goto (tgt := 20) C.x C.b dX12_unbuild_68 (by decide) ?_
        exact ih _ _ _ _ _ _ Z (lv_sub hl [2, 3, 1, 4, 0] rfl) _ _ hf kx0
      · replace hf := ite_f hf hc10
        refine lv_iconst (v := 1) C.x C.b dX12_unbuild_58 (by decide) ?_
        refine lv_goto (tgt := 63) C.x C.b dX12_unbuild_59 (by decide) ?_
        refine lv_iadd C.x C.b dX12_unbuild_63 ?_
        replace hf := lt1_s hf; obtain ⟨x13, ex13, hf⟩ := hf
        refine z_renI ex13 ?_
        refine z_istore_n (lv' := [(2, .int x13), (0, .ref (ad 0 0)), (1, .int g1), (3, .int g3), (4, .int u4)]) C dX12_unbuild_64 rfl hl (by decide) rfl (onlast 1 rfl rfl rfl) (fun ls hl => ?_)
        replace hf := lt1_s hf; obtain ⟨x14, ex14, hf⟩ := hf
        refine z_iinc (v := x14) (lv' := [(4, .int x14), (2, .int x13), (0, .ref (ad 0 0)), (1, .int g1), (3, .int g3)]) C dX12_unbuild_65 hl (k := 4) rfl (by rw [ex14]; rfl) (by decide) rfl (onlast 3 rfl rfl rfl) (fun ls hl => ?_)
        refine lv_goto (tgt := 20) C.x C.b dX12_unbuild_68 (by decide) ?_
        exact ih _ _ _ _ _ _ Z (lv_sub hl [2, 3, 1, 4, 0] rfl) _ _ hf kx0
set_option maxRecDepth 100000 in
set_option maxHeartbeats 4000000 in
theorem w_X12_unbuild_l11 {p : Program} {l : Launch} {e : Env} {R : Room} {s : State} {m : MethodId} {args : Array Value} {below : List Frame} {meth : Method} {c : Code} {cells slots : Nat} {Q : State → Prop} {K : KG} {ad : Nat → Nat → Nat} {fl : Nat} {g1 : Int32} (C : Cx p s m args meth c cX12_unbuild 5 "GlassPalaceModel" (some .int)) (hR : 3 ≤ R.frames ∧ 40 * (3) ≤ R.locals) (hB : cells ≤ R.cells ∧ slots ≤ R.slots) : ∀ (n : Nat) (u2 : Int32) (u3 : Int32) (M0 : Mem) (H : Heap) (locs : List Loc) (ls : Array Slot), Zd K LM ad M0 s H locs → lv_has ls 5 [(0, .ref (ad 0 0)), (1, .int g1), (2, .int u2), (3, .int u3)] → ∀ (q : Int32) (Mq : Mem), f_X12_unbuild_l11 fl g1 n u2 u3 M0 = some (q, Mq) → (∀ (H : Heap) (locs : List Loc) (ls : Array Slot), Zd K LM ad Mq s H locs → lv_has ls 5 [(0, .ref (ad 0 0)), (1, .int g1), (2, .int q)] → W p l e R s m args below meth c H locs cells slots Q (F0 m 77 ls [])) → W p l e R s m args below meth c H locs cells slots Q (F0 m 11 ls []) := by
  intro n
  induction n with
  | zero =>
    intro u2 u3 M0 H locs ls Z hl q Mq hf
    have hf : (none : Option (Int32 × Mem)) = some (q, Mq) := hf
    cases hf
  | succ n ih =>
    intro u2 u3 M0 H locs ls Z hl q Mq hf kx0
    replace hf : f_X12_unbuild_l11_b (f_X12_unbuild_l11 fl g1 n) fl g1 u2 u3 M0 = some (q, Mq) := hf
    unfold f_X12_unbuild_l11_b at hf
    refine lv_iload_n C.x C.b dX12_unbuild_11 rfl (lv_at hl 3 rfl) ?_
    refine lv_bipush (v := 30) C.x C.b dX12_unbuild_12 (by decide) ?_
    refine lv_icmp_ge (tgt := 77) C.x C.b dX12_unbuild_14 (by decide) (fun hc2 => ?_) (fun hc2 => ?_)
    · replace hf := ite_t hf hc2
      obtain ⟨rfl, rfl⟩ := pr_s hf
      exact kx0 _ _ _ Z (lv_sub hl [0, 1, 2] rfl)
    · replace hf := ite_f hf hc2
      refine lv_iconst (v := 1) C.x C.b dX12_unbuild_17 (by decide) ?_
      refine z_istore (lv' := [(4, .int 1), (0, .ref (ad 0 0)), (1, .int g1), (2, .int u2), (3, .int u3)]) C dX12_unbuild_18 hl (by decide) rfl (onlast 3 rfl rfl rfl) (fun ls hl => ?_)
      replace hf := bn2_s hf; obtain ⟨q15, m16, hq15, hf⟩ := hf
      refine w_X12_unbuild_l20 C hR hB  fl _ _ _ _ _ _ Z (lv_sub hl [1, 2, 3, 4, 0] rfl) _ _ hq15 (fun H locs ls Z hl => ?_)
      replace hf := lt1_s hf; obtain ⟨x17, ex17, hf⟩ := hf
      refine z_iinc (v := x17) (lv' := [(3, .int x17), (0, .ref (ad 0 0)), (1, .int g1), (2, .int q15)]) C dX12_unbuild_71 hl (k := 3) rfl (by rw [ex17]; rfl) (by decide) rfl (onlast 2 rfl rfl rfl) (fun ls hl => ?_)
      refine lv_goto (tgt := 11) C.x C.b dX12_unbuild_74 (by decide) ?_
      exact ih _ _ _ _ _ _ Z (lv_sub hl [1, 2, 3, 0] rfl) _ _ hf kx0
set_option maxRecDepth 100000 in
set_option maxHeartbeats 4000000 in
theorem w_X12_unbuild_l96 {p : Program} {l : Launch} {e : Env} {R : Room} {s : State} {m : MethodId} {args : Array Value} {below : List Frame} {meth : Method} {c : Code} {cells slots : Nat} {Q : State → Prop} {K : KG} {ad : Nat → Nat → Nat} {fl : Nat} {g1 : Int32} (C : Cx p s m args meth c cX12_unbuild 5 "GlassPalaceModel" (some .int)) (hR : 3 ≤ R.frames ∧ 40 * (3) ≤ R.locals) (hB : cells ≤ R.cells ∧ slots ≤ R.slots) : ∀ (n : Nat) (u3 : Int32) (u4 : Int32) (M0 : Mem) (H : Heap) (locs : List Loc) (ls : Array Slot), Zd K LM ad M0 s H locs → lv_has ls 5 [(0, .ref (ad 0 0)), (1, .int g1), (3, .int u3), (4, .int u4)] → ∀ (q : Int32) (Mq : Mem), f_X12_unbuild_l96 fl g1 n u3 u4 M0 = some (q, Mq) → (∀ (H : Heap) (locs : List Loc) (ls : Array Slot), Zd K LM ad Mq s H locs → lv_has ls 5 [(3, .int q)] → W p l e R s m args below meth c H locs cells slots Q (F0 m 132 ls [])) → W p l e R s m args below meth c H locs cells slots Q (F0 m 96 ls []) := by
  intro n
  induction n with
  | zero =>
    intro u3 u4 M0 H locs ls Z hl q Mq hf
    have hf : (none : Option (Int32 × Mem)) = some (q, Mq) := hf
    cases hf
  | succ n ih =>
    intro u3 u4 M0 H locs ls Z hl q Mq hf kx0
    replace hf : f_X12_unbuild_l96_b (f_X12_unbuild_l96 fl g1 n) fl g1 u3 u4 M0 = some (q, Mq) := hf
    unfold f_X12_unbuild_l96_b at hf
    refine lv_iload C.x C.b dX12_unbuild_96 (lv_at hl 3 rfl) ?_
    refine lv_iload_n C.x C.b dX12_unbuild_98 rfl (lv_at hl 1 rfl) ?_
    refine lv_icmp_gt (tgt := 132) C.x C.b dX12_unbuild_99 (by decide) (fun hc22 => ?_) (fun hc22 => ?_)
    · replace hf := ite_t hf hc22
      obtain ⟨rfl, rfl⟩ := pr_s hf
      exact kx0 _ _ _ Z (lv_sub hl [2] rfl)
    · replace hf := ite_f hf hc22
      refine lv_aload_n C.x C.b dX12_unbuild_102 rfl (lv_at hl 0 rfl) ?_
      replace hf := bn2_s hf; obtain ⟨v24, m23, hkm23, hf⟩ := hf
      refine z_cV (As := []) (rest := []) (st1 := [.int v24]) C Z mw_X12_nextDown mv_X12_nextDown k_1717 (by decide) (z_hR hR (by decide)) (lvM0 Nat.zero_lt_one) kM0 zc12 (c_X12_nextDown (l := l) (K := K) (ad := ad) hkm23) rfl hl.1 rfl (Nat.le_of_ble_eq_true rfl) dX12_unbuild_103 hB rfl (fun H locs Z => ?_)
      refine z_istore_n (lv' := [(3, .int v24), (0, .ref (ad 0 0)), (1, .int g1), (4, .int u4)]) C dX12_unbuild_106 rfl hl (by decide) rfl (nolast rfl) (fun ls hl => ?_)
      refine lv_aload_n C.x C.b dX12_unbuild_107 rfl (lv_at hl 1 rfl) ?_
      refine z_get C Z (lvM0 Nat.zero_lt_one) kM0 zc12 zin12 65 (by decide) k_1241 rfl svM0_65 dX12_unbuild_108 ?_
      refine lv_iconst (v := 5) C.x C.b dX12_unbuild_111 (by decide) ?_
      refine lv_iload_n C.x C.b dX12_unbuild_112 rfl (lv_at hl 0 rfl) ?_
      refine lv_bipush (v := 10) C.x C.b dX12_unbuild_113 (by decide) ?_
      refine lv_idiv C.x C.b dX12_unbuild_115 (by decide) ?_
      refine lv_imul C.x C.b dX12_unbuild_116 ?_
      refine lv_iload_n C.x C.b dX12_unbuild_117 rfl (lv_at hl 0 rfl) ?_
      refine lv_bipush (v := 10) C.x C.b dX12_unbuild_118 (by decide) ?_
      refine z_irem C dX12_unbuild_120 (by decide) ?_
      refine lv_iadd C.x C.b dX12_unbuild_121 ?_
      refine lv_iconst (v := 1) C.x C.b dX12_unbuild_122 (by decide) ?_
      refine lv_isub C.x C.b dX12_unbuild_123 ?_
      refine lv_iconst (v := 0) C.x C.b dX12_unbuild_124 (by decide) ?_
      replace hf := asr_s hf; obtain ⟨hq25, hf⟩ := hf
      replace hf := lt1_s hf; obtain ⟨m26, em26, hf⟩ := hf
      refine z_zast (M1 := m26) C Z (lvM50 Nat.zero_lt_one) (by decide) kM50 hq25 em26 stM50u dX12_unbuild_125 (fun H locs Z => ?_)
      replace hf := lt1_s hf; obtain ⟨x27, ex27, hf⟩ := hf
      refine z_iinc (v := x27) (lv' := [(4, .int x27), (3, .int v24), (0, .ref (ad 0 0)), (1, .int g1)]) C dX12_unbuild_126 hl (k := 3) rfl (by rw [ex27]; rfl) (by decide) rfl (onlast 0 rfl rfl rfl) (fun ls hl => ?_)
      refine lv_goto (tgt := 96) C.x C.b dX12_unbuild_129 (by decide) ?_
      exact ih _ _ _ _ _ _ Z (lv_sub hl [2, 3, 1, 0] rfl) _ _ hf kx0
set_option maxRecDepth 100000 in
set_option maxHeartbeats 4000000 in
theorem c_X12_unbuild {l : Launch} {K : KG} {ad : Nat → Nat → Nat} {fl : Nat} {a1 : Int32} {M0 : Mem} {r9 : Int32} {M9 : Mem} (hf : f_X12_unbuild fl a1 M0 = some (r9, M9)) : Met l yX12_unbuild (Cond.code yX12_unbuild cX12_unbuild 5 (some .int) :: ztb) (RM (3) 0 0) (zPc K LM ad M0 [.ref (ad 0 0), .int a1]) (zQ K LM ad (some (.int r9)) M9) 0 0 (zA ad) := by
  refine z_enter (by decide) (Nat.le_of_ble_eq_true rfl) ?_
  intro p e s m args below meth c ls C hin hargs Z hl
  replace C : Cx p s m args meth c cX12_unbuild 5 "GlassPalaceModel" (some .int) := C
  replace hl : lv_has ls 5 [(0, .ref (ad 0 0)), (1, .int a1)] := hl
  have hR : 3 ≤ (RM (3) 0 0).frames ∧ 40 * (3) ≤ (RM (3) 0 0).locals := ⟨Nat.le_refl _, Nat.le_refl _⟩
  have hB : 0 ≤ (RM (3) 0 0).cells ∧ 0 ≤ (RM (3) 0 0).slots := ⟨Nat.zero_le _, Nat.zero_le _⟩
  unfold f_X12_unbuild at hf
  refine lv_iload_n C.x C.b dX12_unbuild_0 rfl (lv_at hl 1 rfl) ?_
  refine lv_iconst (v := (-1)) C.x C.b dX12_unbuild_1 (by decide) ?_
  refine lv_icmp_ge (tgt := 7) C.x C.b dX12_unbuild_2 (by decide) (fun hc1 => ?_) (fun hc1 => ?_)
  · replace hf := ite_t hf hc1
    refine lv_iconst (v := 0) C.x C.b dX12_unbuild_7 (by decide) ?_
    refine z_istore_n (lv' := [(2, .int 0), (0, .ref (ad 0 0)), (1, .int a1)]) C dX12_unbuild_8 rfl hl (by decide) rfl (onlast 1 rfl rfl rfl) (fun ls hl => ?_)
    refine lv_iconst (v := 0) C.x C.b dX12_unbuild_9 (by decide) ?_
    refine z_istore_n (lv' := [(3, .int 0), (2, .int 0), (0, .ref (ad 0 0)), (1, .int a1)]) C dX12_unbuild_10 rfl hl (by decide) rfl (onlast 0 rfl rfl rfl) (fun ls hl => ?_)
    replace hf := bn2_s hf; obtain ⟨q18, m19, hq18, hf⟩ := hf
    refine w_X12_unbuild_l11 C hR hB  fl _ _ _ _ _ _ Z (lv_sub hl [2, 3, 1, 0] rfl) _ _ hq18 (fun H locs ls Z hl => ?_)
    refine lv_iload_n C.x C.b dX12_unbuild_77 rfl (lv_at hl 1 rfl) ?_
    refine lv_iconst (v := (-1)) C.x C.b dX12_unbuild_78 (by decide) ?_
    refine lv_icmp_ne (tgt := 84) C.x C.b dX12_unbuild_79 (by decide) (fun hc20 => ?_) (fun hc20 => ?_)
    · replace hf := ite_f hf hc20
      refine lv_iload_n C.x C.b dX12_unbuild_84 rfl (lv_at hl 1 rfl) ?_
      refine lv_iload_n C.x C.b dX12_unbuild_85 rfl (lv_at hl 2 rfl) ?_
      refine lv_icmp_lt (tgt := 91) C.x C.b dX12_unbuild_86 (by decide) (fun hc21 => ?_) (fun hc21 => ?_)
      · replace hf := ite_t hf hc21
        refine lv_iconst (v := (-1)) C.x C.b dX12_unbuild_91 (by decide) ?_
        refine z_istore_n (lv' := [(3, .int (-1)), (0, .ref (ad 0 0)), (1, .int a1), (2, .int q18)]) C dX12_unbuild_92 rfl hl (by decide) rfl (onlast 2 rfl rfl rfl) (fun ls hl => ?_)
        refine lv_iconst (v := 0) C.x C.b dX12_unbuild_93 (by decide) ?_
        refine z_istore (lv' := [(4, .int 0), (3, .int (-1)), (0, .ref (ad 0 0)), (1, .int a1), (2, .int q18)]) C dX12_unbuild_94 hl (by decide) rfl (onlast 0 rfl rfl rfl) (fun ls hl => ?_)
        replace hf := bn2_s hf; obtain ⟨q28, m29, hq28, hf⟩ := hf
        refine w_X12_unbuild_l96 C hR hB  fl _ _ _ _ _ _ Z (lv_sub hl [2, 3, 1, 0] rfl) _ _ hq28 (fun H locs ls Z hl => ?_)
        refine lv_iload_n C.x C.b dX12_unbuild_132 rfl (lv_at hl 0 rfl) ?_
        obtain ⟨rfl, rfl⟩ := pr_s hf
        exact z_iret C Z dX12_unbuild_133
      · replace hf := ite_f hf hc21
        refine lv_iconst (v := (-1)) C.x C.b dX12_unbuild_89 (by decide) ?_
        obtain ⟨rfl, rfl⟩ := pr_s hf
        exact z_iret C Z dX12_unbuild_90
    · replace hf := ite_t hf hc20
      refine lv_iload_n C.x C.b dX12_unbuild_82 rfl (lv_at hl 2 rfl) ?_
      obtain ⟨rfl, rfl⟩ := pr_s hf
      exact z_iret C Z dX12_unbuild_83
  · replace hf := ite_f hf hc1
    refine lv_iconst (v := (-1)) C.x C.b dX12_unbuild_5 (by decide) ?_
    obtain ⟨rfl, rfl⟩ := pr_s hf
    exact z_iret C Z dX12_unbuild_6
theorem dX12_known_0 : decode cX12_known 0 = .ok (.aload_n 0, 1) := by decide +kernel
theorem dX12_known_1 : decode cX12_known 1 = .ok (.iload_n 1, 1) := by decide +kernel
theorem dX12_known_2 : decode cX12_known 2 = .ok (.invokevirtual 326, 3) := by decide +kernel
theorem dX12_known_5 : decode cX12_known 5 = .ok (.ifCond .ne 6, 3) := by decide +kernel
theorem dX12_known_8 : decode cX12_known 8 = .ok (.bipush (-2), 2) := by decide +kernel
theorem dX12_known_10 : decode cX12_known 10 = .ok (.ireturn, 1) := by decide +kernel
theorem dX12_known_11 : decode cX12_known 11 = .ok (.iconst 0, 1) := by decide +kernel
theorem dX12_known_12 : decode cX12_known 12 = .ok (.istore_n 3, 1) := by decide +kernel
theorem dX12_known_13 : decode cX12_known 13 = .ok (.iconst 0, 1) := by decide +kernel
theorem dX12_known_14 : decode cX12_known 14 = .ok (.istore 4, 2) := by decide +kernel
theorem dX12_known_16 : decode cX12_known 16 = .ok (.iload 4, 2) := by decide +kernel
theorem dX12_known_18 : decode cX12_known 18 = .ok (.aload_n 0, 1) := by decide +kernel
theorem dX12_known_19 : decode cX12_known 19 = .ok (.getfield 21, 3) := by decide +kernel
theorem dX12_known_22 : decode cX12_known 22 = .ok (.if_icmp .ge 52, 3) := by decide +kernel
theorem dX12_known_25 : decode cX12_known 25 = .ok (.iload_n 3, 1) := by decide +kernel
theorem dX12_known_26 : decode cX12_known 26 = .ok (.aload_n 0, 1) := by decide +kernel
theorem dX12_known_27 : decode cX12_known 27 = .ok (.getfield 52, 3) := by decide +kernel
theorem dX12_known_30 : decode cX12_known 30 = .ok (.iload 4, 2) := by decide +kernel
theorem dX12_known_32 : decode cX12_known 32 = .ok (.iaload, 1) := by decide +kernel
theorem dX12_known_33 : decode cX12_known 33 = .ok (.ifCond .lt 32, 3) := by decide +kernel
theorem dX12_known_36 : decode cX12_known 36 = .ok (.iload_n 2, 1) := by decide +kernel
theorem dX12_known_37 : decode cX12_known 37 = .ok (.ifCond .eq 13, 3) := by decide +kernel
theorem dX12_known_40 : decode cX12_known 40 = .ok (.aload_n 0, 1) := by decide +kernel
theorem dX12_known_41 : decode cX12_known 41 = .ok (.getfield 52, 3) := by decide +kernel
theorem dX12_known_44 : decode cX12_known 44 = .ok (.iload 4, 2) := by decide +kernel
theorem dX12_known_46 : decode cX12_known 46 = .ok (.iaload, 1) := by decide +kernel
theorem dX12_known_47 : decode cX12_known 47 = .ok (.goto 10, 3) := by decide +kernel
theorem dX12_known_50 : decode cX12_known 50 = .ok (.aload_n 0, 1) := by decide +kernel
theorem dX12_known_51 : decode cX12_known 51 = .ok (.getfield 55, 3) := by decide +kernel
theorem dX12_known_54 : decode cX12_known 54 = .ok (.iload 4, 2) := by decide +kernel
theorem dX12_known_56 : decode cX12_known 56 = .ok (.iaload, 1) := by decide +kernel
theorem dX12_known_57 : decode cX12_known 57 = .ok (.iload_n 1, 1) := by decide +kernel
theorem dX12_known_58 : decode cX12_known 58 = .ok (.if_icmp .gt 7, 3) := by decide +kernel
theorem dX12_known_61 : decode cX12_known 61 = .ok (.iconst 1, 1) := by decide +kernel
theorem dX12_known_62 : decode cX12_known 62 = .ok (.goto 4, 3) := by decide +kernel
theorem dX12_known_65 : decode cX12_known 65 = .ok (.iconst 0, 1) := by decide +kernel
theorem dX12_known_66 : decode cX12_known 66 = .ok (.iadd, 1) := by decide +kernel
theorem dX12_known_67 : decode cX12_known 67 = .ok (.istore_n 3, 1) := by decide +kernel
theorem dX12_known_68 : decode cX12_known 68 = .ok (.iinc 4 1, 3) := by decide +kernel
theorem dX12_known_71 : decode cX12_known 71 = .ok (.goto (-55), 3) := by decide +kernel
theorem dX12_known_74 : decode cX12_known 74 = .ok (.iload_n 3, 1) := by decide +kernel
theorem dX12_known_75 : decode cX12_known 75 = .ok (.ireturn, 1) := by decide +kernel
set_option maxRecDepth 100000 in
set_option maxHeartbeats 4000000 in
theorem w_X12_known_l16 {p : Program} {l : Launch} {e : Env} {R : Room} {s : State} {m : MethodId} {args : Array Value} {below : List Frame} {meth : Method} {c : Code} {cells slots : Nat} {Q : State → Prop} {K : KG} {ad : Nat → Nat → Nat} {fl : Nat} {g1 : Int32} {g2 : Int32} (C : Cx p s m args meth c cX12_known 5 "GlassPalaceModel" (some .int)) (hR : 3 ≤ R.frames ∧ 40 * (3) ≤ R.locals) (hB : cells ≤ R.cells ∧ slots ≤ R.slots) : ∀ (n : Nat) (u3 : Int32) (u4 : Int32) (M0 : Mem) (H : Heap) (locs : List Loc) (ls : Array Slot), Zd K LM ad M0 s H locs → lv_has ls 5 [(0, .ref (ad 0 0)), (1, .int g1), (2, .int g2), (3, .int u3), (4, .int u4)] → ∀ (q : Int32) (Mq : Mem), f_X12_known_l16 fl g1 g2 n u3 u4 M0 = some (q, Mq) → (∀ (H : Heap) (locs : List Loc) (ls : Array Slot), Zd K LM ad Mq s H locs → lv_has ls 5 [(3, .int q)] → W p l e R s m args below meth c H locs cells slots Q (F0 m 74 ls [])) → W p l e R s m args below meth c H locs cells slots Q (F0 m 16 ls []) := by
  intro n
  induction n with
  | zero =>
    intro u3 u4 M0 H locs ls Z hl q Mq hf
    have hf : (none : Option (Int32 × Mem)) = some (q, Mq) := hf
    cases hf
  | succ n ih =>
    intro u3 u4 M0 H locs ls Z hl q Mq hf kx0
    replace hf : f_X12_known_l16_b (f_X12_known_l16 fl g1 g2 n) fl g1 g2 u3 u4 M0 = some (q, Mq) := hf
    unfold f_X12_known_l16_b at hf
    refine lv_iload C.x C.b dX12_known_16 (lv_at hl 4 rfl) ?_
    refine lv_aload_n C.x C.b dX12_known_18 rfl (lv_at hl 0 rfl) ?_
    refine z_get C Z (lvM0 Nat.zero_lt_one) kM0 zc12 zin12 1 (by decide) k_1177 rfl svM0_1 dX12_known_19 ?_
    refine lv_icmp_ge (tgt := 74) C.x C.b dX12_known_22 (by decide) (fun hc4 => ?_) (fun hc4 => ?_)
    · replace hf := ite_t hf hc4
      obtain ⟨rfl, rfl⟩ := pr_s hf
      exact kx0 _ _ _ Z (lv_sub hl [3] rfl)
    · replace hf := ite_f hf hc4
      refine lv_iload_n C.x C.b dX12_known_25 rfl (lv_at hl 3 rfl) ?_
      refine lv_aload_n C.x C.b dX12_known_26 rfl (lv_at hl 0 rfl) ?_
      refine z_get C Z (lvM0 Nat.zero_lt_one) kM0 zc12 zin12 11 (by decide) k_1187 rfl svM0_11 dX12_known_27 ?_
      refine lv_iload C.x C.b dX12_known_30 (lv_at hl 4 rfl) ?_
      replace hf := asr_s hf; obtain ⟨hq5, hf⟩ := hf
      refine z_iald C Z (lvM10 Nat.zero_lt_one) kM10 hq5 svM10 dX12_known_32 ?_
      refine lv_if_lt (tgt := 65) C.x C.b dX12_known_33 (by decide) (fun hc6 => ?_) (fun hc6 => ?_)
      · replace hf := ite_t hf hc6
        refine lv_iconst (v := 0) C.x C.b dX12_known_65 (by decide) ?_
        refine lv_iadd C.x C.b dX12_known_66 ?_
        replace hf := lt1_s hf; obtain ⟨x7, ex7, hf⟩ := hf
        refine z_renI ex7 ?_
        refine z_istore_n (lv' := [(3, .int x7), (0, .ref (ad 0 0)), (1, .int g1), (2, .int g2), (4, .int u4)]) C dX12_known_67 rfl hl (by decide) rfl (onlast 2 rfl rfl rfl) (fun ls hl => ?_)
        replace hf := lt1_s hf; obtain ⟨x8, ex8, hf⟩ := hf
        refine z_iinc (v := x8) (lv' := [(4, .int x8), (3, .int x7), (0, .ref (ad 0 0)), (1, .int g1), (2, .int g2)]) C dX12_known_68 hl (k := 4) rfl (by rw [ex8]; rfl) (by decide) rfl (onlast 0 rfl rfl rfl) (fun ls hl => ?_)
        refine lv_goto (tgt := 16) C.x C.b dX12_known_71 (by decide) ?_
        exact ih _ _ _ _ _ _ Z (lv_sub hl [2, 3, 4, 1, 0] rfl) _ _ hf kx0
      · replace hf := ite_f hf hc6
        refine lv_iload_n C.x C.b dX12_known_36 rfl (lv_at hl 2 rfl) ?_
        replace hf := bn2_s hf; obtain ⟨q9, m10, hq9, hf⟩ := hf
        have kq9 : ∀ (H : Heap) (locs : List Loc) (ls : Array Slot), Zd K LM ad m10 s H locs → lv_has ls 5 [(0, .ref (ad 0 0)), (1, .int g1), (2, .int g2), (4, .int u4)] → W p l e R s m args below meth c H locs cells slots Q (F0 m 57 ls [.int q9, .int u3]) := by
          intro H locs ls Z hl
          refine lv_iload_n C.x C.b dX12_known_57 rfl (lv_at hl 1 rfl) ?_
          refine lv_icmp_gt (tgt := 65) C.x C.b dX12_known_58 (by decide) (fun hc11 => ?_) (fun hc11 => ?_)
          · replace hf := ite_t hf hc11
            refine lv_iconst (v := 0) C.x C.b dX12_known_65 (by decide) ?_
            refine lv_iadd C.x C.b dX12_known_66 ?_
            replace hf := lt1_s hf; obtain ⟨x12, ex12, hf⟩ := hf
            refine z_renI ex12 ?_
            refine z_istore_n (lv' := [(3, .int x12), (0, .ref (ad 0 0)), (1, .int g1), (2, .int g2), (4, .int u4)]) C dX12_known_67 rfl hl (by decide) rfl (onlast 2 rfl rfl rfl) (fun ls hl => ?_)
            replace hf := lt1_s hf; obtain ⟨x13, ex13, hf⟩ := hf
            refine z_iinc (v := x13) (lv' := [(4, .int x13), (3, .int x12), (0, .ref (ad 0 0)), (1, .int g1), (2, .int g2)]) C dX12_known_68 hl (k := 4) rfl (by rw [ex13]; rfl) (by decide) rfl (onlast 0 rfl rfl rfl) (fun ls hl => ?_)
            refine lv_goto (tgt := 16) C.x C.b dX12_known_71 (by decide) ?_
            exact ih _ _ _ _ _ _ Z (lv_sub hl [2, 3, 4, 1, 0] rfl) _ _ hf kx0
          · replace hf := ite_f hf hc11
            refine lv_iconst (v := 1) C.x C.b dX12_known_61 (by decide) ?_
            refine lv_goto (tgt := 66) C.x C.b dX12_known_62 (by decide) ?_
            refine lv_iadd C.x C.b dX12_known_66 ?_
            replace hf := lt1_s hf; obtain ⟨x14, ex14, hf⟩ := hf
            refine z_renI ex14 ?_
            refine z_istore_n (lv' := [(3, .int x14), (0, .ref (ad 0 0)), (1, .int g1), (2, .int g2), (4, .int u4)]) C dX12_known_67 rfl hl (by decide) rfl (onlast 2 rfl rfl rfl) (fun ls hl => ?_)
            replace hf := lt1_s hf; obtain ⟨x15, ex15, hf⟩ := hf
            refine z_iinc (v := x15) (lv' := [(4, .int x15), (3, .int x14), (0, .ref (ad 0 0)), (1, .int g1), (2, .int g2)]) C dX12_known_68 hl (k := 4) rfl (by rw [ex15]; rfl) (by decide) rfl (onlast 0 rfl rfl rfl) (fun ls hl => ?_)
            refine lv_goto (tgt := 16) C.x C.b dX12_known_71 (by decide) ?_
            exact ih _ _ _ _ _ _ Z (lv_sub hl [2, 3, 4, 1, 0] rfl) _ _ hf kx0
        clear hf
        refine lv_if_eq (tgt := 50) C.x C.b dX12_known_37 (by decide) (fun hc16 => ?_) (fun hc16 => ?_)
        · have hf := ite_t hq9 hc16; clear hq9
          refine lv_aload_n C.x C.b dX12_known_50 rfl (lv_at hl 0 rfl) ?_
          refine z_get C Z (lvM0 Nat.zero_lt_one) kM0 zc12 zin12 12 (by decide) k_1188 rfl svM0_12 dX12_known_51 ?_
          refine lv_iload C.x C.b dX12_known_54 (lv_at hl 4 rfl) ?_
          replace hf := asr_s hf; obtain ⟨hq17, hf⟩ := hf
          refine z_iald C Z (lvM11 Nat.zero_lt_one) kM11 hq17 svM11 dX12_known_56 ?_
          obtain ⟨rfl, rfl⟩ := pr_s hf
          exact kq9 _ _ _ Z (lv_sub hl [0, 1, 2, 4] rfl)
        · have hf := ite_f hq9 hc16; clear hq9
          refine lv_aload_n C.x C.b dX12_known_40 rfl (lv_at hl 0 rfl) ?_
          refine z_get C Z (lvM0 Nat.zero_lt_one) kM0 zc12 zin12 11 (by decide) k_1187 rfl svM0_11 dX12_known_41 ?_
          refine lv_iload C.x C.b dX12_known_44 (lv_at hl 4 rfl) ?_
          replace hf := asr_s hf; obtain ⟨hq18, hf⟩ := hf
          refine z_iald C Z (lvM10 Nat.zero_lt_one) kM10 hq18 svM10 dX12_known_46 ?_
          refine lv_goto (tgt := 57) C.x C.b dX12_known_47 (by decide) ?_
          obtain ⟨rfl, rfl⟩ := pr_s hf
          exact kq9 _ _ _ Z (lv_sub hl [0, 1, 2, 4] rfl)
set_option maxRecDepth 100000 in
set_option maxHeartbeats 4000000 in
theorem c_X12_known {l : Launch} {K : KG} {ad : Nat → Nat → Nat} {fl : Nat} {a1 : Int32} {a2 : Int32} {M0 : Mem} {r9 : Int32} {M9 : Mem} (hf : f_X12_known fl a1 a2 M0 = some (r9, M9)) : Met l yX12_known (Cond.code yX12_known cX12_known 5 (some .int) :: ztb) (RM (3) 0 0) (zPc K LM ad M0 [.ref (ad 0 0), .int a1, .int a2]) (zQ K LM ad (some (.int r9)) M9) 0 0 (zA ad) := by
  refine z_enter (by decide) (Nat.le_of_ble_eq_true rfl) ?_
  intro p e s m args below meth c ls C hin hargs Z hl
  replace C : Cx p s m args meth c cX12_known 5 "GlassPalaceModel" (some .int) := C
  replace hl : lv_has ls 5 [(0, .ref (ad 0 0)), (1, .int a1), (2, .int a2)] := hl
  have hR : 3 ≤ (RM (3) 0 0).frames ∧ 40 * (3) ≤ (RM (3) 0 0).locals := ⟨Nat.le_refl _, Nat.le_refl _⟩
  have hB : 0 ≤ (RM (3) 0 0).cells ∧ 0 ≤ (RM (3) 0 0).slots := ⟨Nat.zero_le _, Nat.zero_le _⟩
  unfold f_X12_known at hf
  refine lv_aload_n C.x C.b dX12_known_0 rfl (lv_at hl 0 rfl) ?_
  refine lv_iload_n C.x C.b dX12_known_1 rfl (lv_at hl 1 rfl) ?_
  replace hf := bn2_s hf; obtain ⟨v2, m1, hkm1, hf⟩ := hf
  refine z_cV (As := [.int a1]) (rest := []) (st1 := [.int v2]) C Z mw_X12_isDay mv_X12_isDay k_1577 (by decide) (z_hR hR (by decide)) (lvM0 Nat.zero_lt_one) kM0 zc12 (c_X12_isDay (l := l) (K := K) (ad := ad) hkm1) rfl hl.1 rfl (Nat.le_of_ble_eq_true rfl) dX12_known_2 hB rfl (fun H locs Z => ?_)
  refine lv_if_ne (tgt := 11) C.x C.b dX12_known_5 (by decide) (fun hc3 => ?_) (fun hc3 => ?_)
  · replace hf := ite_f hf hc3
    refine lv_iconst (v := 0) C.x C.b dX12_known_11 (by decide) ?_
    refine z_istore_n (lv' := [(3, .int 0), (0, .ref (ad 0 0)), (1, .int a1), (2, .int a2)]) C dX12_known_12 rfl hl (by decide) rfl (onlast 2 rfl rfl rfl) (fun ls hl => ?_)
    refine lv_iconst (v := 0) C.x C.b dX12_known_13 (by decide) ?_
    refine z_istore (lv' := [(4, .int 0), (3, .int 0), (0, .ref (ad 0 0)), (1, .int a1), (2, .int a2)]) C dX12_known_14 hl (by decide) rfl (onlast 0 rfl rfl rfl) (fun ls hl => ?_)
    replace hf := bn2_s hf; obtain ⟨q19, m20, hq19, hf⟩ := hf
    refine w_X12_known_l16 C hR hB  fl _ _ _ _ _ _ Z (lv_sub hl [2, 3, 4, 1, 0] rfl) _ _ hq19 (fun H locs ls Z hl => ?_)
    refine lv_iload_n C.x C.b dX12_known_74 rfl (lv_at hl 0 rfl) ?_
    obtain ⟨rfl, rfl⟩ := pr_s hf
    exact z_iret C Z dX12_known_75
  · replace hf := ite_t hf hc3
    refine lv_bipush (v := (-2)) C.x C.b dX12_known_8 (by decide) ?_
    obtain ⟨rfl, rfl⟩ := pr_s hf
    exact z_iret C Z dX12_known_10
theorem dX12_body_0 : decode cX12_body 0 = .ok (.aload_n 0, 1) := by decide +kernel
theorem dX12_body_1 : decode cX12_body 1 = .ok (.getfield 218, 3) := by decide +kernel
theorem dX12_body_4 : decode cX12_body 4 = .ok (.bipush 20, 2) := by decide +kernel
theorem dX12_body_6 : decode cX12_body 6 = .ok (.if_icmp .ge 13, 3) := by decide +kernel
theorem dX12_body_9 : decode cX12_body 9 = .ok (.aload_n 0, 1) := by decide +kernel
theorem dX12_body_10 : decode cX12_body 10 = .ok (.getfield 221, 3) := by decide +kernel
theorem dX12_body_13 : decode cX12_body 13 = .ok (.aload_n 0, 1) := by decide +kernel
theorem dX12_body_14 : decode cX12_body 14 = .ok (.getfield 218, 3) := by decide +kernel
theorem dX12_body_17 : decode cX12_body 17 = .ok (.iload_n 1, 1) := by decide +kernel
theorem dX12_body_18 : decode cX12_body 18 = .ok (.iastore, 1) := by decide +kernel
theorem dX12_body_19 : decode cX12_body 19 = .ok (.aload_n 0, 1) := by decide +kernel
theorem dX12_body_20 : decode cX12_body 20 = .ok (.dup, 1) := by decide +kernel
theorem dX12_body_21 : decode cX12_body 21 = .ok (.getfield 218, 3) := by decide +kernel
theorem dX12_body_24 : decode cX12_body 24 = .ok (.iconst 1, 1) := by decide +kernel
theorem dX12_body_25 : decode cX12_body 25 = .ok (.iadd, 1) := by decide +kernel
theorem dX12_body_26 : decode cX12_body 26 = .ok (.putfield 218, 3) := by decide +kernel
theorem dX12_body_29 : decode cX12_body 29 = .ok (.return_, 1) := by decide +kernel
set_option maxRecDepth 100000 in
set_option maxHeartbeats 4000000 in
theorem w_X12_body_b19 {p : Program} {l : Launch} {e : Env} {s : State} {m : MethodId} {args : Array Value} {below : List Frame} {meth : Method} {c : Code} {K : KG} {ad : Nat → Nat → Nat} {fl : Nat} {H : Heap} {locs : List Loc} {ls : Array Slot} {M0 : Mem} {M9 : Mem} (C : Cx p s m args meth c cX12_body 2 "GlassPalaceModel" none) (hR : 1 ≤ (RM (1) 0 0).frames ∧ 40 * (1) ≤ (RM (1) 0 0).locals) (hB : 0 ≤ (RM (1) 0 0).cells ∧ 0 ≤ (RM (1) 0 0).slots) (Z : Zd K LM ad M0 s H locs) (hl : lv_has ls 2 [(0, .ref (ad 0 0))]) (hf : f_X12_body_b19 fl  M0 = some M9) : W p l e (RM (1) 0 0) s m args below meth c H locs 0 0 (MQ below (zQ K LM ad (none) M9) args s 0 0 (zA ad)) (F0 m 19 ls []) := by
  unfold f_X12_body_b19 at hf
  refine lv_aload_n C.x C.b dX12_body_19 rfl (lv_at hl 0 rfl) ?_
  refine lv_dup C.x C.b dX12_body_20 rfl ?_
  refine z_get C Z (lvM0 Nat.zero_lt_one) kM0 zc12 zin12 66 (by decide) k_1242 rfl svM0_66 dX12_body_21 ?_
  refine lv_iconst (v := 1) C.x C.b dX12_body_24 (by decide) ?_
  refine lv_iadd C.x C.b dX12_body_25 ?_
  replace hf := lt1_s hf; obtain ⟨m3, em3, hf⟩ := hf
  refine z_put (M1 := m3) C Z (lvM0 Nat.zero_lt_one) (by decide) kM0 zc12 zin12 tyX12_ok nmX12 66 (by decide) k_1242 rfl (zUp_I em3 stM0_66u) (Or.inl rfl) rfl rfl dX12_body_26 (fun H locs Z => ?_)
  obtain rfl := sm_s hf
  exact z_vret C Z dX12_body_29
set_option maxRecDepth 100000 in
set_option maxHeartbeats 4000000 in
theorem c_X12_body {l : Launch} {K : KG} {ad : Nat → Nat → Nat} {fl : Nat} {a1 : Int32} {M0 : Mem} {M9 : Mem} (hf : f_X12_body fl a1 M0 = some M9) : Met l yX12_body (Cond.code yX12_body cX12_body 2 none :: ztb) (RM (1) 0 0) (zPc K LM ad M0 [.ref (ad 0 0), .int a1]) (zQ K LM ad (none) M9) 0 0 (zA ad) := by
  refine z_enter (by decide) (Nat.le_of_ble_eq_true rfl) ?_
  intro p e s m args below meth c ls C hin hargs Z hl
  replace C : Cx p s m args meth c cX12_body 2 "GlassPalaceModel" none := C
  replace hl : lv_has ls 2 [(0, .ref (ad 0 0)), (1, .int a1)] := hl
  have hR : 1 ≤ (RM (1) 0 0).frames ∧ 40 * (1) ≤ (RM (1) 0 0).locals := ⟨Nat.le_refl _, Nat.le_refl _⟩
  have hB : 0 ≤ (RM (1) 0 0).cells ∧ 0 ≤ (RM (1) 0 0).slots := ⟨Nat.zero_le _, Nat.zero_le _⟩
  unfold f_X12_body at hf
  refine lv_aload_n C.x C.b dX12_body_0 rfl (lv_at hl 0 rfl) ?_
  refine z_get C Z (lvM0 Nat.zero_lt_one) kM0 zc12 zin12 66 (by decide) k_1242 rfl svM0_66 dX12_body_1 ?_
  refine lv_bipush (v := 20) C.x C.b dX12_body_4 (by decide) ?_
  replace hf := bn1_s hf; obtain ⟨m2, hq1, hf⟩ := hf
  have kq1 : ∀ (H : Heap) (locs : List Loc) (ls : Array Slot), Zd K LM ad m2 s H locs → lv_has ls 2 [(0, .ref (ad 0 0))] → W p l e (RM (1) 0 0) s m args below meth c H locs 0 0 (MQ below (zQ K LM ad (none) M9) args s 0 0 (zA ad)) (F0 m 19 ls []) := by
    intro H locs ls Z hl
    exact w_X12_body_b19 C hR hB  Z (lv_sub hl [0] rfl) hf
  clear hf
  refine lv_icmp_ge (tgt := 19) C.x C.b dX12_body_6 (by decide) (fun hc4 => ?_) (fun hc4 => ?_)
  · have hf := ite_t hq1 hc4; clear hq1
    obtain rfl := sm_s hf
    exact kq1 _ _ _ Z (lv_sub hl [0] rfl)
  · have hf := ite_f hq1 hc4; clear hq1
    refine lv_aload_n C.x C.b dX12_body_9 rfl (lv_at hl 0 rfl) ?_
    refine z_get C Z (lvM0 Nat.zero_lt_one) kM0 zc12 zin12 67 (by decide) k_1243 rfl svM0_67 dX12_body_10 ?_
    refine lv_aload_n C.x C.b dX12_body_13 rfl (lv_at hl 0 rfl) ?_
    refine z_get C Z (lvM0 Nat.zero_lt_one) kM0 zc12 zin12 66 (by decide) k_1242 rfl svM0_66 dX12_body_14 ?_
    refine lv_iload_n C.x C.b dX12_body_17 rfl (lv_at hl 1 rfl) ?_
    replace hf := asr_s hf; obtain ⟨hq5, hf⟩ := hf
    replace hf := lt1_s hf; obtain ⟨m6, em6, hf⟩ := hf
    refine z_iast (M1 := m6) C Z (lvM51 Nat.zero_lt_one) (by decide) kM51 hq5 em6 stM51u dX12_body_18 (fun H locs Z => ?_)
    obtain rfl := sm_s hf
    exact kq1 _ _ _ Z (lv_sub hl [0] rfl)
theorem dX12_plainFits_0 : decode cX12_plainFits 0 = .ok (.aload_n 0, 1) := by decide +kernel
theorem dX12_plainFits_1 : decode cX12_plainFits 1 = .ok (.bipush 10, 2) := by decide +kernel
theorem dX12_plainFits_3 : decode cX12_plainFits 3 = .ok (.invokevirtual 381, 3) := by decide +kernel
theorem dX12_plainFits_6 : decode cX12_plainFits 6 = .ok (.iload_n 2, 1) := by decide +kernel
theorem dX12_plainFits_7 : decode cX12_plainFits 7 = .ok (.aload_n 0, 1) := by decide +kernel
theorem dX12_plainFits_8 : decode cX12_plainFits 8 = .ok (.getfield 46, 3) := by decide +kernel
theorem dX12_plainFits_11 : decode cX12_plainFits 11 = .ok (.iload_n 1, 1) := by decide +kernel
theorem dX12_plainFits_12 : decode cX12_plainFits 12 = .ok (.iaload, 1) := by decide +kernel
theorem dX12_plainFits_13 : decode cX12_plainFits 13 = .ok (.iadd, 1) := by decide +kernel
theorem dX12_plainFits_14 : decode cX12_plainFits 14 = .ok (.ireturn, 1) := by decide +kernel
set_option maxRecDepth 100000 in
set_option maxHeartbeats 4000000 in
theorem c_X12_plainFits {l : Launch} {K : KG} {ad : Nat → Nat → Nat} {fl : Nat} {a1 : Int32} {a2 : Int32} {M0 : Mem} {r9 : Int32} {M9 : Mem} (hf : f_X12_plainFits fl a1 a2 M0 = some (r9, M9)) : Met l yX12_plainFits (Cond.code yX12_plainFits cX12_plainFits 3 (some .int) :: ztb) (RM (2) 0 0) (zPc K LM ad M0 [.ref (ad 0 0), .int a1, .int a2]) (zQ K LM ad (some (.int r9)) M9) 0 0 (zA ad) := by
  refine z_enter (by decide) (Nat.le_of_ble_eq_true rfl) ?_
  intro p e s m args below meth c ls C hin hargs Z hl
  replace C : Cx p s m args meth c cX12_plainFits 3 "GlassPalaceModel" (some .int) := C
  replace hl : lv_has ls 3 [(0, .ref (ad 0 0)), (1, .int a1), (2, .int a2)] := hl
  have hR : 2 ≤ (RM (2) 0 0).frames ∧ 40 * (2) ≤ (RM (2) 0 0).locals := ⟨Nat.le_refl _, Nat.le_refl _⟩
  have hB : 0 ≤ (RM (2) 0 0).cells ∧ 0 ≤ (RM (2) 0 0).slots := ⟨Nat.zero_le _, Nat.zero_le _⟩
  unfold f_X12_plainFits at hf
  refine lv_aload_n C.x C.b dX12_plainFits_0 rfl (lv_at hl 0 rfl) ?_
  refine lv_bipush (v := 10) C.x C.b dX12_plainFits_1 (by decide) ?_
  replace hf := bn1_s hf; obtain ⟨m1, hkm1, hf⟩ := hf
  refine z_cV (As := [.int 10]) (rest := []) (st1 := []) C Z mw_X12_body mv_X12_body k_1741 (by decide) (z_hR hR (by decide)) (lvM0 Nat.zero_lt_one) kM0 zc12 (c_X12_body (l := l) (K := K) (ad := ad) hkm1) rfl hl.1 rfl (Nat.le_of_ble_eq_true rfl) dX12_plainFits_3 hB rfl (fun H locs Z => ?_)
  refine lv_iload_n C.x C.b dX12_plainFits_6 rfl (lv_at hl 2 rfl) ?_
  refine lv_aload_n C.x C.b dX12_plainFits_7 rfl (lv_at hl 0 rfl) ?_
  refine z_get C Z (lvM0 Nat.zero_lt_one) kM0 zc12 zin12 9 (by decide) k_1185 rfl svM0_9 dX12_plainFits_8 ?_
  refine lv_iload_n C.x C.b dX12_plainFits_11 rfl (lv_at hl 1 rfl) ?_
  replace hf := asr_s hf; obtain ⟨hq2, hf⟩ := hf
  refine z_iald C Z (lvM8 Nat.zero_lt_one) kM8 hq2 svM8 dX12_plainFits_12 ?_
  refine lv_iadd C.x C.b dX12_plainFits_13 ?_
  obtain ⟨rfl, rfl⟩ := pr_s hf
  exact z_iret C Z dX12_plainFits_14
theorem dX12_columnFits_0 : decode cX12_columnFits 0 = .ok (.aload_n 0, 1) := by decide +kernel
theorem dX12_columnFits_1 : decode cX12_columnFits 1 = .ok (.bipush 20, 2) := by decide +kernel
theorem dX12_columnFits_3 : decode cX12_columnFits 3 = .ok (.invokevirtual 381, 3) := by decide +kernel
theorem dX12_columnFits_6 : decode cX12_columnFits 6 = .ok (.aload_n 0, 1) := by decide +kernel
theorem dX12_columnFits_7 : decode cX12_columnFits 7 = .ok (.iload_n 1, 1) := by decide +kernel
theorem dX12_columnFits_8 : decode cX12_columnFits 8 = .ok (.iload_n 2, 1) := by decide +kernel
theorem dX12_columnFits_9 : decode cX12_columnFits 9 = .ok (.invokevirtual 384, 3) := by decide +kernel
theorem dX12_columnFits_12 : decode cX12_columnFits 12 = .ok (.iload_n 1, 1) := by decide +kernel
theorem dX12_columnFits_13 : decode cX12_columnFits 13 = .ok (.ixor, 1) := by decide +kernel
theorem dX12_columnFits_14 : decode cX12_columnFits 14 = .ok (.ireturn, 1) := by decide +kernel
set_option maxRecDepth 100000 in
set_option maxHeartbeats 4000000 in
theorem c_X12_columnFits {l : Launch} {K : KG} {ad : Nat → Nat → Nat} {fl : Nat} {a1 : Int32} {a2 : Int32} {M0 : Mem} {r9 : Int32} {M9 : Mem} (hf : f_X12_columnFits fl a1 a2 M0 = some (r9, M9)) : Met l yX12_columnFits (Cond.code yX12_columnFits cX12_columnFits 3 (some .int) :: ztb) (RM (3) 0 0) (zPc K LM ad M0 [.ref (ad 0 0), .int a1, .int a2]) (zQ K LM ad (some (.int r9)) M9) 0 0 (zA ad) := by
  refine z_enter (by decide) (Nat.le_of_ble_eq_true rfl) ?_
  intro p e s m args below meth c ls C hin hargs Z hl
  replace C : Cx p s m args meth c cX12_columnFits 3 "GlassPalaceModel" (some .int) := C
  replace hl : lv_has ls 3 [(0, .ref (ad 0 0)), (1, .int a1), (2, .int a2)] := hl
  have hR : 3 ≤ (RM (3) 0 0).frames ∧ 40 * (3) ≤ (RM (3) 0 0).locals := ⟨Nat.le_refl _, Nat.le_refl _⟩
  have hB : 0 ≤ (RM (3) 0 0).cells ∧ 0 ≤ (RM (3) 0 0).slots := ⟨Nat.zero_le _, Nat.zero_le _⟩
  unfold f_X12_columnFits at hf
  refine lv_aload_n C.x C.b dX12_columnFits_0 rfl (lv_at hl 0 rfl) ?_
  refine lv_bipush (v := 20) C.x C.b dX12_columnFits_1 (by decide) ?_
  replace hf := bn1_s hf; obtain ⟨m1, hkm1, hf⟩ := hf
  refine z_cV (As := [.int 20]) (rest := []) (st1 := []) C Z mw_X12_body mv_X12_body k_1741 (by decide) (z_hR hR (by decide)) (lvM0 Nat.zero_lt_one) kM0 zc12 (c_X12_body (l := l) (K := K) (ad := ad) hkm1) rfl hl.1 rfl (Nat.le_of_ble_eq_true rfl) dX12_columnFits_3 hB rfl (fun H locs Z => ?_)
  refine lv_aload_n C.x C.b dX12_columnFits_6 rfl (lv_at hl 0 rfl) ?_
  refine lv_iload_n C.x C.b dX12_columnFits_7 rfl (lv_at hl 1 rfl) ?_
  refine lv_iload_n C.x C.b dX12_columnFits_8 rfl (lv_at hl 2 rfl) ?_
  replace hf := bn2_s hf; obtain ⟨v3, m2, hkm2, hf⟩ := hf
  refine z_cV (As := [.int a1, .int a2]) (rest := []) (st1 := [.int v3]) C Z mw_X12_plainFits mv_X12_plainFits k_1745 (by decide) (z_hR hR (by decide)) (lvM0 Nat.zero_lt_one) kM0 zc12 (c_X12_plainFits (l := l) (K := K) (ad := ad) hkm2) rfl hl.1 rfl (Nat.le_of_ble_eq_true rfl) dX12_columnFits_9 hB rfl (fun H locs Z => ?_)
  refine lv_iload_n C.x C.b dX12_columnFits_12 rfl (lv_at hl 1 rfl) ?_
  refine lv_ixor C.x C.b dX12_columnFits_13 ?_
  obtain ⟨rfl, rfl⟩ := pr_s hf
  exact z_iret C Z dX12_columnFits_14
theorem dX12_fitsOf_0 : decode cX12_fitsOf 0 = .ok (.aload_n 0, 1) := by decide +kernel
theorem dX12_fitsOf_1 : decode cX12_fitsOf 1 = .ok (.getfield 37, 3) := by decide +kernel
theorem dX12_fitsOf_4 : decode cX12_fitsOf 4 = .ok (.iload_n 1, 1) := by decide +kernel
theorem dX12_fitsOf_5 : decode cX12_fitsOf 5 = .ok (.iaload, 1) := by decide +kernel
theorem dX12_fitsOf_6 : decode cX12_fitsOf 6 = .ok (.iconst 1, 1) := by decide +kernel
theorem dX12_fitsOf_7 : decode cX12_fitsOf 7 = .ok (.if_icmp .ne 10, 3) := by decide +kernel
theorem dX12_fitsOf_10 : decode cX12_fitsOf 10 = .ok (.aload_n 0, 1) := by decide +kernel
theorem dX12_fitsOf_11 : decode cX12_fitsOf 11 = .ok (.iload_n 1, 1) := by decide +kernel
theorem dX12_fitsOf_12 : decode cX12_fitsOf 12 = .ok (.iload_n 2, 1) := by decide +kernel
theorem dX12_fitsOf_13 : decode cX12_fitsOf 13 = .ok (.invokevirtual 387, 3) := by decide +kernel
theorem dX12_fitsOf_16 : decode cX12_fitsOf 16 = .ok (.ireturn, 1) := by decide +kernel
theorem dX12_fitsOf_17 : decode cX12_fitsOf 17 = .ok (.aload_n 0, 1) := by decide +kernel
theorem dX12_fitsOf_18 : decode cX12_fitsOf 18 = .ok (.getfield 37, 3) := by decide +kernel
theorem dX12_fitsOf_21 : decode cX12_fitsOf 21 = .ok (.iload_n 1, 1) := by decide +kernel
theorem dX12_fitsOf_22 : decode cX12_fitsOf 22 = .ok (.iaload, 1) := by decide +kernel
theorem dX12_fitsOf_23 : decode cX12_fitsOf 23 = .ok (.iconst 3, 1) := by decide +kernel
theorem dX12_fitsOf_24 : decode cX12_fitsOf 24 = .ok (.if_icmp .ne 17, 3) := by decide +kernel
theorem dX12_fitsOf_27 : decode cX12_fitsOf 27 = .ok (.aload_n 0, 1) := by decide +kernel
theorem dX12_fitsOf_28 : decode cX12_fitsOf 28 = .ok (.bipush 40, 2) := by decide +kernel
theorem dX12_fitsOf_30 : decode cX12_fitsOf 30 = .ok (.invokevirtual 381, 3) := by decide +kernel
theorem dX12_fitsOf_33 : decode cX12_fitsOf 33 = .ok (.aload_n 0, 1) := by decide +kernel
theorem dX12_fitsOf_34 : decode cX12_fitsOf 34 = .ok (.iload_n 1, 1) := by decide +kernel
theorem dX12_fitsOf_35 : decode cX12_fitsOf 35 = .ok (.iload_n 2, 1) := by decide +kernel
theorem dX12_fitsOf_36 : decode cX12_fitsOf 36 = .ok (.invokevirtual 384, 3) := by decide +kernel
theorem dX12_fitsOf_39 : decode cX12_fitsOf 39 = .ok (.ineg, 1) := by decide +kernel
theorem dX12_fitsOf_40 : decode cX12_fitsOf 40 = .ok (.ireturn, 1) := by decide +kernel
theorem dX12_fitsOf_41 : decode cX12_fitsOf 41 = .ok (.aload_n 0, 1) := by decide +kernel
theorem dX12_fitsOf_42 : decode cX12_fitsOf 42 = .ok (.getfield 37, 3) := by decide +kernel
theorem dX12_fitsOf_45 : decode cX12_fitsOf 45 = .ok (.iload_n 1, 1) := by decide +kernel
theorem dX12_fitsOf_46 : decode cX12_fitsOf 46 = .ok (.iaload, 1) := by decide +kernel
theorem dX12_fitsOf_47 : decode cX12_fitsOf 47 = .ok (.bipush 6, 2) := by decide +kernel
theorem dX12_fitsOf_49 : decode cX12_fitsOf 49 = .ok (.if_icmp .ne 18, 3) := by decide +kernel
theorem dX12_fitsOf_52 : decode cX12_fitsOf 52 = .ok (.aload_n 0, 1) := by decide +kernel
theorem dX12_fitsOf_53 : decode cX12_fitsOf 53 = .ok (.bipush 70, 2) := by decide +kernel
theorem dX12_fitsOf_55 : decode cX12_fitsOf 55 = .ok (.invokevirtual 381, 3) := by decide +kernel
theorem dX12_fitsOf_58 : decode cX12_fitsOf 58 = .ok (.aload_n 0, 1) := by decide +kernel
theorem dX12_fitsOf_59 : decode cX12_fitsOf 59 = .ok (.iload_n 1, 1) := by decide +kernel
theorem dX12_fitsOf_60 : decode cX12_fitsOf 60 = .ok (.iload_n 2, 1) := by decide +kernel
theorem dX12_fitsOf_61 : decode cX12_fitsOf 61 = .ok (.iconst 2, 1) := by decide +kernel
theorem dX12_fitsOf_62 : decode cX12_fitsOf 62 = .ok (.isub, 1) := by decide +kernel
theorem dX12_fitsOf_63 : decode cX12_fitsOf 63 = .ok (.invokevirtual 387, 3) := by decide +kernel
theorem dX12_fitsOf_66 : decode cX12_fitsOf 66 = .ok (.ireturn, 1) := by decide +kernel
theorem dX12_fitsOf_67 : decode cX12_fitsOf 67 = .ok (.aload_n 0, 1) := by decide +kernel
theorem dX12_fitsOf_68 : decode cX12_fitsOf 68 = .ok (.iload_n 1, 1) := by decide +kernel
theorem dX12_fitsOf_69 : decode cX12_fitsOf 69 = .ok (.iload_n 2, 1) := by decide +kernel
theorem dX12_fitsOf_70 : decode cX12_fitsOf 70 = .ok (.invokevirtual 384, 3) := by decide +kernel
theorem dX12_fitsOf_73 : decode cX12_fitsOf 73 = .ok (.ireturn, 1) := by decide +kernel
set_option maxRecDepth 100000 in
set_option maxHeartbeats 4000000 in
theorem c_X12_fitsOf {l : Launch} {K : KG} {ad : Nat → Nat → Nat} {fl : Nat} {a1 : Int32} {a2 : Int32} {M0 : Mem} {r9 : Int32} {M9 : Mem} (hf : f_X12_fitsOf fl a1 a2 M0 = some (r9, M9)) : Met l yX12_fitsOf (Cond.code yX12_fitsOf cX12_fitsOf 3 (some .int) :: ztb) (RM (4) 0 0) (zPc K LM ad M0 [.ref (ad 0 0), .int a1, .int a2]) (zQ K LM ad (some (.int r9)) M9) 0 0 (zA ad) := by
  refine z_enter (by decide) (Nat.le_of_ble_eq_true rfl) ?_
  intro p e s m args below meth c ls C hin hargs Z hl
  replace C : Cx p s m args meth c cX12_fitsOf 3 "GlassPalaceModel" (some .int) := C
  replace hl : lv_has ls 3 [(0, .ref (ad 0 0)), (1, .int a1), (2, .int a2)] := hl
  have hR : 4 ≤ (RM (4) 0 0).frames ∧ 40 * (4) ≤ (RM (4) 0 0).locals := ⟨Nat.le_refl _, Nat.le_refl _⟩
  have hB : 0 ≤ (RM (4) 0 0).cells ∧ 0 ≤ (RM (4) 0 0).slots := ⟨Nat.zero_le _, Nat.zero_le _⟩
  unfold f_X12_fitsOf at hf
  refine lv_aload_n C.x C.b dX12_fitsOf_0 rfl (lv_at hl 0 rfl) ?_
  refine z_get C Z (lvM0 Nat.zero_lt_one) kM0 zc12 zin12 6 (by decide) k_1182 rfl svM0_6 dX12_fitsOf_1 ?_
  refine lv_iload_n C.x C.b dX12_fitsOf_4 rfl (lv_at hl 1 rfl) ?_
  replace hf := asr_s hf; obtain ⟨hq1, hf⟩ := hf
  refine z_iald C Z (lvM5 Nat.zero_lt_one) kM5 hq1 svM5 dX12_fitsOf_5 ?_
  refine lv_iconst (v := 1) C.x C.b dX12_fitsOf_6 (by decide) ?_
  refine lv_icmp_ne (tgt := 17) C.x C.b dX12_fitsOf_7 (by decide) (fun hc2 => ?_) (fun hc2 => ?_)
  · replace hf := ite_f hf hc2
    refine lv_aload_n C.x C.b dX12_fitsOf_17 rfl (lv_at hl 0 rfl) ?_
    refine z_get C Z (lvM0 Nat.zero_lt_one) kM0 zc12 zin12 6 (by decide) k_1182 rfl svM0_6 dX12_fitsOf_18 ?_
    refine lv_iload_n C.x C.b dX12_fitsOf_21 rfl (lv_at hl 1 rfl) ?_
    replace hf := asr_s hf; obtain ⟨hq3, hf⟩ := hf
    refine z_iald C Z (lvM5 Nat.zero_lt_one) kM5 hq3 svM5 dX12_fitsOf_22 ?_
    refine lv_iconst (v := 3) C.x C.b dX12_fitsOf_23 (by decide) ?_
    refine lv_icmp_ne (tgt := 41) C.x C.b dX12_fitsOf_24 (by decide) (fun hc4 => ?_) (fun hc4 => ?_)
    · replace hf := ite_f hf hc4
      refine lv_aload_n C.x C.b dX12_fitsOf_41 rfl (lv_at hl 0 rfl) ?_
      refine z_get C Z (lvM0 Nat.zero_lt_one) kM0 zc12 zin12 6 (by decide) k_1182 rfl svM0_6 dX12_fitsOf_42 ?_
      refine lv_iload_n C.x C.b dX12_fitsOf_45 rfl (lv_at hl 1 rfl) ?_
      replace hf := asr_s hf; obtain ⟨hq5, hf⟩ := hf
      refine z_iald C Z (lvM5 Nat.zero_lt_one) kM5 hq5 svM5 dX12_fitsOf_46 ?_
      refine lv_bipush (v := 6) C.x C.b dX12_fitsOf_47 (by decide) ?_
      refine lv_icmp_ne (tgt := 67) C.x C.b dX12_fitsOf_49 (by decide) (fun hc6 => ?_) (fun hc6 => ?_)
      · replace hf := ite_f hf hc6
        refine lv_aload_n C.x C.b dX12_fitsOf_67 rfl (lv_at hl 0 rfl) ?_
        refine lv_iload_n C.x C.b dX12_fitsOf_68 rfl (lv_at hl 1 rfl) ?_
        refine lv_iload_n C.x C.b dX12_fitsOf_69 rfl (lv_at hl 2 rfl) ?_
        replace hf := bn2_s hf; obtain ⟨v8, m7, hkm7, hf⟩ := hf
        refine z_cV (As := [.int a1, .int a2]) (rest := []) (st1 := [.int v8]) C Z mw_X12_plainFits mv_X12_plainFits k_1745 (by decide) (z_hR hR (by decide)) (lvM0 Nat.zero_lt_one) kM0 zc12 (c_X12_plainFits (l := l) (K := K) (ad := ad) hkm7) rfl hl.1 rfl (Nat.le_of_ble_eq_true rfl) dX12_fitsOf_70 hB rfl (fun H locs Z => ?_)
        obtain ⟨rfl, rfl⟩ := pr_s hf
        exact z_iret C Z dX12_fitsOf_73
      · replace hf := ite_t hf hc6
        refine lv_aload_n C.x C.b dX12_fitsOf_52 rfl (lv_at hl 0 rfl) ?_
        refine lv_bipush (v := 70) C.x C.b dX12_fitsOf_53 (by decide) ?_
        replace hf := bn1_s hf; obtain ⟨m9, hkm9, hf⟩ := hf
        refine z_cV (As := [.int 70]) (rest := []) (st1 := []) C Z mw_X12_body mv_X12_body k_1741 (by decide) (z_hR hR (by decide)) (lvM0 Nat.zero_lt_one) kM0 zc12 (c_X12_body (l := l) (K := K) (ad := ad) hkm9) rfl hl.1 rfl (Nat.le_of_ble_eq_true rfl) dX12_fitsOf_55 hB rfl (fun H locs Z => ?_)
        refine lv_aload_n C.x C.b dX12_fitsOf_58 rfl (lv_at hl 0 rfl) ?_
        refine lv_iload_n C.x C.b dX12_fitsOf_59 rfl (lv_at hl 1 rfl) ?_
        refine lv_iload_n C.x C.b dX12_fitsOf_60 rfl (lv_at hl 2 rfl) ?_
        refine lv_iconst (v := 2) C.x C.b dX12_fitsOf_61 (by decide) ?_
        refine lv_isub C.x C.b dX12_fitsOf_62 ?_
        replace hf := bn2_s hf; obtain ⟨v11, m10, hkm10, hf⟩ := hf
        refine z_cV (As := [.int a1, .int (a2 - 2)]) (rest := []) (st1 := [.int v11]) C Z mw_X12_columnFits mv_X12_columnFits k_1737 (by decide) (z_hR hR (by decide)) (lvM0 Nat.zero_lt_one) kM0 zc12 (c_X12_columnFits (l := l) (K := K) (ad := ad) hkm10) rfl hl.1 rfl (Nat.le_of_ble_eq_true rfl) dX12_fitsOf_63 hB rfl (fun H locs Z => ?_)
        obtain ⟨rfl, rfl⟩ := pr_s hf
        exact z_iret C Z dX12_fitsOf_66
    · replace hf := ite_t hf hc4
      refine lv_aload_n C.x C.b dX12_fitsOf_27 rfl (lv_at hl 0 rfl) ?_
      refine lv_bipush (v := 40) C.x C.b dX12_fitsOf_28 (by decide) ?_
      replace hf := bn1_s hf; obtain ⟨m12, hkm12, hf⟩ := hf
      refine z_cV (As := [.int 40]) (rest := []) (st1 := []) C Z mw_X12_body mv_X12_body k_1741 (by decide) (z_hR hR (by decide)) (lvM0 Nat.zero_lt_one) kM0 zc12 (c_X12_body (l := l) (K := K) (ad := ad) hkm12) rfl hl.1 rfl (Nat.le_of_ble_eq_true rfl) dX12_fitsOf_30 hB rfl (fun H locs Z => ?_)
      refine lv_aload_n C.x C.b dX12_fitsOf_33 rfl (lv_at hl 0 rfl) ?_
      refine lv_iload_n C.x C.b dX12_fitsOf_34 rfl (lv_at hl 1 rfl) ?_
      refine lv_iload_n C.x C.b dX12_fitsOf_35 rfl (lv_at hl 2 rfl) ?_
      replace hf := bn2_s hf; obtain ⟨v14, m13, hkm13, hf⟩ := hf
      refine z_cV (As := [.int a1, .int a2]) (rest := []) (st1 := [.int v14]) C Z mw_X12_plainFits mv_X12_plainFits k_1745 (by decide) (z_hR hR (by decide)) (lvM0 Nat.zero_lt_one) kM0 zc12 (c_X12_plainFits (l := l) (K := K) (ad := ad) hkm13) rfl hl.1 rfl (Nat.le_of_ble_eq_true rfl) dX12_fitsOf_36 hB rfl (fun H locs Z => ?_)
      refine lv_ineg C.x C.b dX12_fitsOf_39 ?_
      obtain ⟨rfl, rfl⟩ := pr_s hf
      exact z_iret C Z dX12_fitsOf_40
  · replace hf := ite_t hf hc2
    refine lv_aload_n C.x C.b dX12_fitsOf_10 rfl (lv_at hl 0 rfl) ?_
    refine lv_iload_n C.x C.b dX12_fitsOf_11 rfl (lv_at hl 1 rfl) ?_
    refine lv_iload_n C.x C.b dX12_fitsOf_12 rfl (lv_at hl 2 rfl) ?_
    replace hf := bn2_s hf; obtain ⟨v16, m15, hkm15, hf⟩ := hf
    refine z_cV (As := [.int a1, .int a2]) (rest := []) (st1 := [.int v16]) C Z mw_X12_columnFits mv_X12_columnFits k_1737 (by decide) (z_hR hR (by decide)) (lvM0 Nat.zero_lt_one) kM0 zc12 (c_X12_columnFits (l := l) (K := K) (ad := ad) hkm15) rfl hl.1 rfl (Nat.le_of_ble_eq_true rfl) dX12_fitsOf_13 hB rfl (fun H locs Z => ?_)
    obtain ⟨rfl, rfl⟩ := pr_s hf
    exact z_iret C Z dX12_fitsOf_16
theorem dX12_plainBears_0 : decode cX12_plainBears 0 = .ok (.aload_n 0, 1) := by decide +kernel
theorem dX12_plainBears_1 : decode cX12_plainBears 1 = .ok (.bipush 11, 2) := by decide +kernel
theorem dX12_plainBears_3 : decode cX12_plainBears 3 = .ok (.invokevirtual 381, 3) := by decide +kernel
theorem dX12_plainBears_6 : decode cX12_plainBears 6 = .ok (.aload_n 0, 1) := by decide +kernel
theorem dX12_plainBears_7 : decode cX12_plainBears 7 = .ok (.iload_n 1, 1) := by decide +kernel
theorem dX12_plainBears_8 : decode cX12_plainBears 8 = .ok (.iload_n 2, 1) := by decide +kernel
theorem dX12_plainBears_9 : decode cX12_plainBears 9 = .ok (.invokevirtual 390, 3) := by decide +kernel
theorem dX12_plainBears_12 : decode cX12_plainBears 12 = .ok (.aload_n 0, 1) := by decide +kernel
theorem dX12_plainBears_13 : decode cX12_plainBears 13 = .ok (.getfield 40, 3) := by decide +kernel
theorem dX12_plainBears_16 : decode cX12_plainBears 16 = .ok (.iload_n 1, 1) := by decide +kernel
theorem dX12_plainBears_17 : decode cX12_plainBears 17 = .ok (.iaload, 1) := by decide +kernel
theorem dX12_plainBears_18 : decode cX12_plainBears 18 = .ok (.isub, 1) := by decide +kernel
theorem dX12_plainBears_19 : decode cX12_plainBears 19 = .ok (.ireturn, 1) := by decide +kernel
set_option maxRecDepth 100000 in
set_option maxHeartbeats 4000000 in
theorem c_X12_plainBears {l : Launch} {K : KG} {ad : Nat → Nat → Nat} {fl : Nat} {a1 : Int32} {a2 : Int32} {M0 : Mem} {r9 : Int32} {M9 : Mem} (hf : f_X12_plainBears fl a1 a2 M0 = some (r9, M9)) : Met l yX12_plainBears (Cond.code yX12_plainBears cX12_plainBears 3 (some .int) :: ztb) (RM (5) 0 0) (zPc K LM ad M0 [.ref (ad 0 0), .int a1, .int a2]) (zQ K LM ad (some (.int r9)) M9) 0 0 (zA ad) := by
  refine z_enter (by decide) (Nat.le_of_ble_eq_true rfl) ?_
  intro p e s m args below meth c ls C hin hargs Z hl
  replace C : Cx p s m args meth c cX12_plainBears 3 "GlassPalaceModel" (some .int) := C
  replace hl : lv_has ls 3 [(0, .ref (ad 0 0)), (1, .int a1), (2, .int a2)] := hl
  have hR : 5 ≤ (RM (5) 0 0).frames ∧ 40 * (5) ≤ (RM (5) 0 0).locals := ⟨Nat.le_refl _, Nat.le_refl _⟩
  have hB : 0 ≤ (RM (5) 0 0).cells ∧ 0 ≤ (RM (5) 0 0).slots := ⟨Nat.zero_le _, Nat.zero_le _⟩
  unfold f_X12_plainBears at hf
  refine lv_aload_n C.x C.b dX12_plainBears_0 rfl (lv_at hl 0 rfl) ?_
  refine lv_bipush (v := 11) C.x C.b dX12_plainBears_1 (by decide) ?_
  replace hf := bn1_s hf; obtain ⟨m1, hkm1, hf⟩ := hf
  refine z_cV (As := [.int 11]) (rest := []) (st1 := []) C Z mw_X12_body mv_X12_body k_1741 (by decide) (z_hR hR (by decide)) (lvM0 Nat.zero_lt_one) kM0 zc12 (c_X12_body (l := l) (K := K) (ad := ad) hkm1) rfl hl.1 rfl (Nat.le_of_ble_eq_true rfl) dX12_plainBears_3 hB rfl (fun H locs Z => ?_)
  refine lv_aload_n C.x C.b dX12_plainBears_6 rfl (lv_at hl 0 rfl) ?_
  refine lv_iload_n C.x C.b dX12_plainBears_7 rfl (lv_at hl 1 rfl) ?_
  refine lv_iload_n C.x C.b dX12_plainBears_8 rfl (lv_at hl 2 rfl) ?_
  replace hf := bn2_s hf; obtain ⟨v3, m2, hkm2, hf⟩ := hf
  refine z_cV (As := [.int a1, .int a2]) (rest := []) (st1 := [.int v3]) C Z mw_X12_fitsOf mv_X12_fitsOf k_1733 (by decide) (z_hR hR (by decide)) (lvM0 Nat.zero_lt_one) kM0 zc12 (c_X12_fitsOf (l := l) (K := K) (ad := ad) hkm2) rfl hl.1 rfl (Nat.le_of_ble_eq_true rfl) dX12_plainBears_9 hB rfl (fun H locs Z => ?_)
  refine lv_aload_n C.x C.b dX12_plainBears_12 rfl (lv_at hl 0 rfl) ?_
  refine z_get C Z (lvM0 Nat.zero_lt_one) kM0 zc12 zin12 7 (by decide) k_1183 rfl svM0_7 dX12_plainBears_13 ?_
  refine lv_iload_n C.x C.b dX12_plainBears_16 rfl (lv_at hl 1 rfl) ?_
  replace hf := asr_s hf; obtain ⟨hq4, hf⟩ := hf
  refine z_iald C Z (lvM6 Nat.zero_lt_one) kM6 hq4 svM6 dX12_plainBears_17 ?_
  refine lv_isub C.x C.b dX12_plainBears_18 ?_
  obtain ⟨rfl, rfl⟩ := pr_s hf
  exact z_iret C Z dX12_plainBears_19
theorem dX12_bearsOf_0 : decode cX12_bearsOf 0 = .ok (.aload_n 0, 1) := by decide +kernel
theorem dX12_bearsOf_1 : decode cX12_bearsOf 1 = .ok (.getfield 37, 3) := by decide +kernel
theorem dX12_bearsOf_4 : decode cX12_bearsOf 4 = .ok (.iload_n 1, 1) := by decide +kernel
theorem dX12_bearsOf_5 : decode cX12_bearsOf 5 = .ok (.iaload, 1) := by decide +kernel
theorem dX12_bearsOf_6 : decode cX12_bearsOf 6 = .ok (.iconst 2, 1) := by decide +kernel
theorem dX12_bearsOf_7 : decode cX12_bearsOf 7 = .ok (.if_icmp .ne 18, 3) := by decide +kernel
theorem dX12_bearsOf_10 : decode cX12_bearsOf 10 = .ok (.aload_n 0, 1) := by decide +kernel
theorem dX12_bearsOf_11 : decode cX12_bearsOf 11 = .ok (.bipush 30, 2) := by decide +kernel
theorem dX12_bearsOf_13 : decode cX12_bearsOf 13 = .ok (.invokevirtual 381, 3) := by decide +kernel
theorem dX12_bearsOf_16 : decode cX12_bearsOf 16 = .ok (.aload_n 0, 1) := by decide +kernel
theorem dX12_bearsOf_17 : decode cX12_bearsOf 17 = .ok (.iload_n 1, 1) := by decide +kernel
theorem dX12_bearsOf_18 : decode cX12_bearsOf 18 = .ok (.iload_n 2, 1) := by decide +kernel
theorem dX12_bearsOf_19 : decode cX12_bearsOf 19 = .ok (.iconst 3, 1) := by decide +kernel
theorem dX12_bearsOf_20 : decode cX12_bearsOf 20 = .ok (.imul, 1) := by decide +kernel
theorem dX12_bearsOf_21 : decode cX12_bearsOf 21 = .ok (.invokevirtual 393, 3) := by decide +kernel
theorem dX12_bearsOf_24 : decode cX12_bearsOf 24 = .ok (.ireturn, 1) := by decide +kernel
theorem dX12_bearsOf_25 : decode cX12_bearsOf 25 = .ok (.aload_n 0, 1) := by decide +kernel
theorem dX12_bearsOf_26 : decode cX12_bearsOf 26 = .ok (.getfield 37, 3) := by decide +kernel
theorem dX12_bearsOf_29 : decode cX12_bearsOf 29 = .ok (.iload_n 1, 1) := by decide +kernel
theorem dX12_bearsOf_30 : decode cX12_bearsOf 30 = .ok (.iaload, 1) := by decide +kernel
theorem dX12_bearsOf_31 : decode cX12_bearsOf 31 = .ok (.iconst 4, 1) := by decide +kernel
theorem dX12_bearsOf_32 : decode cX12_bearsOf 32 = .ok (.if_icmp .ne 25, 3) := by decide +kernel
theorem dX12_bearsOf_35 : decode cX12_bearsOf 35 = .ok (.aload_n 0, 1) := by decide +kernel
theorem dX12_bearsOf_36 : decode cX12_bearsOf 36 = .ok (.bipush 50, 2) := by decide +kernel
theorem dX12_bearsOf_38 : decode cX12_bearsOf 38 = .ok (.invokevirtual 381, 3) := by decide +kernel
theorem dX12_bearsOf_41 : decode cX12_bearsOf 41 = .ok (.aload_n 0, 1) := by decide +kernel
theorem dX12_bearsOf_42 : decode cX12_bearsOf 42 = .ok (.iload_n 1, 1) := by decide +kernel
theorem dX12_bearsOf_43 : decode cX12_bearsOf 43 = .ok (.iload_n 2, 1) := by decide +kernel
theorem dX12_bearsOf_44 : decode cX12_bearsOf 44 = .ok (.invokevirtual 393, 3) := by decide +kernel
theorem dX12_bearsOf_47 : decode cX12_bearsOf 47 = .ok (.istore_n 3, 1) := by decide +kernel
theorem dX12_bearsOf_48 : decode cX12_bearsOf 48 = .ok (.iload_n 3, 1) := by decide +kernel
theorem dX12_bearsOf_49 : decode cX12_bearsOf 49 = .ok (.aload_n 0, 1) := by decide +kernel
theorem dX12_bearsOf_50 : decode cX12_bearsOf 50 = .ok (.iload_n 1, 1) := by decide +kernel
theorem dX12_bearsOf_51 : decode cX12_bearsOf 51 = .ok (.iconst 2, 1) := by decide +kernel
theorem dX12_bearsOf_52 : decode cX12_bearsOf 52 = .ok (.invokevirtual 384, 3) := by decide +kernel
theorem dX12_bearsOf_55 : decode cX12_bearsOf 55 = .ok (.iadd, 1) := by decide +kernel
theorem dX12_bearsOf_56 : decode cX12_bearsOf 56 = .ok (.ireturn, 1) := by decide +kernel
theorem dX12_bearsOf_57 : decode cX12_bearsOf 57 = .ok (.aload_n 0, 1) := by decide +kernel
theorem dX12_bearsOf_58 : decode cX12_bearsOf 58 = .ok (.getfield 37, 3) := by decide +kernel
theorem dX12_bearsOf_61 : decode cX12_bearsOf 61 = .ok (.iload_n 1, 1) := by decide +kernel
theorem dX12_bearsOf_62 : decode cX12_bearsOf 62 = .ok (.iaload, 1) := by decide +kernel
theorem dX12_bearsOf_63 : decode cX12_bearsOf 63 = .ok (.bipush 6, 2) := by decide +kernel
theorem dX12_bearsOf_65 : decode cX12_bearsOf 65 = .ok (.if_icmp .ne 18, 3) := by decide +kernel
theorem dX12_bearsOf_68 : decode cX12_bearsOf 68 = .ok (.aload_n 0, 1) := by decide +kernel
theorem dX12_bearsOf_69 : decode cX12_bearsOf 69 = .ok (.bipush 71, 2) := by decide +kernel
theorem dX12_bearsOf_71 : decode cX12_bearsOf 71 = .ok (.invokevirtual 381, 3) := by decide +kernel
theorem dX12_bearsOf_74 : decode cX12_bearsOf 74 = .ok (.aload_n 0, 1) := by decide +kernel
theorem dX12_bearsOf_75 : decode cX12_bearsOf 75 = .ok (.iload_n 1, 1) := by decide +kernel
theorem dX12_bearsOf_76 : decode cX12_bearsOf 76 = .ok (.iload_n 2, 1) := by decide +kernel
theorem dX12_bearsOf_77 : decode cX12_bearsOf 77 = .ok (.invokevirtual 393, 3) := by decide +kernel
theorem dX12_bearsOf_80 : decode cX12_bearsOf 80 = .ok (.iconst 5, 1) := by decide +kernel
theorem dX12_bearsOf_81 : decode cX12_bearsOf 81 = .ok (.imul, 1) := by decide +kernel
theorem dX12_bearsOf_82 : decode cX12_bearsOf 82 = .ok (.ireturn, 1) := by decide +kernel
theorem dX12_bearsOf_83 : decode cX12_bearsOf 83 = .ok (.aload_n 0, 1) := by decide +kernel
theorem dX12_bearsOf_84 : decode cX12_bearsOf 84 = .ok (.iload_n 1, 1) := by decide +kernel
theorem dX12_bearsOf_85 : decode cX12_bearsOf 85 = .ok (.iload_n 2, 1) := by decide +kernel
theorem dX12_bearsOf_86 : decode cX12_bearsOf 86 = .ok (.invokevirtual 393, 3) := by decide +kernel
theorem dX12_bearsOf_89 : decode cX12_bearsOf 89 = .ok (.ireturn, 1) := by decide +kernel
set_option maxRecDepth 100000 in
set_option maxHeartbeats 4000000 in
theorem c_X12_bearsOf {l : Launch} {K : KG} {ad : Nat → Nat → Nat} {fl : Nat} {a1 : Int32} {a2 : Int32} {M0 : Mem} {r9 : Int32} {M9 : Mem} (hf : f_X12_bearsOf fl a1 a2 M0 = some (r9, M9)) : Met l yX12_bearsOf (Cond.code yX12_bearsOf cX12_bearsOf 4 (some .int) :: ztb) (RM (6) 0 0) (zPc K LM ad M0 [.ref (ad 0 0), .int a1, .int a2]) (zQ K LM ad (some (.int r9)) M9) 0 0 (zA ad) := by
  refine z_enter (by decide) (Nat.le_of_ble_eq_true rfl) ?_
  intro p e s m args below meth c ls C hin hargs Z hl
  replace C : Cx p s m args meth c cX12_bearsOf 4 "GlassPalaceModel" (some .int) := C
  replace hl : lv_has ls 4 [(0, .ref (ad 0 0)), (1, .int a1), (2, .int a2)] := hl
  have hR : 6 ≤ (RM (6) 0 0).frames ∧ 40 * (6) ≤ (RM (6) 0 0).locals := ⟨Nat.le_refl _, Nat.le_refl _⟩
  have hB : 0 ≤ (RM (6) 0 0).cells ∧ 0 ≤ (RM (6) 0 0).slots := ⟨Nat.zero_le _, Nat.zero_le _⟩
  unfold f_X12_bearsOf at hf
  refine lv_aload_n C.x C.b dX12_bearsOf_0 rfl (lv_at hl 0 rfl) ?_
  refine z_get C Z (lvM0 Nat.zero_lt_one) kM0 zc12 zin12 6 (by decide) k_1182 rfl svM0_6 dX12_bearsOf_1 ?_
  refine lv_iload_n C.x C.b dX12_bearsOf_4 rfl (lv_at hl 1 rfl) ?_
  replace hf := asr_s hf; obtain ⟨hq1, hf⟩ := hf
  refine z_iald C Z (lvM5 Nat.zero_lt_one) kM5 hq1 svM5 dX12_bearsOf_5 ?_
  refine lv_iconst (v := 2) C.x C.b dX12_bearsOf_6 (by decide) ?_
  refine lv_icmp_ne (tgt := 25) C.x C.b dX12_bearsOf_7 (by decide) (fun hc2 => ?_) (fun hc2 => ?_)
  · replace hf := ite_f hf hc2
    refine lv_aload_n C.x C.b dX12_bearsOf_25 rfl (lv_at hl 0 rfl) ?_
    refine z_get C Z (lvM0 Nat.zero_lt_one) kM0 zc12 zin12 6 (by decide) k_1182 rfl svM0_6 dX12_bearsOf_26 ?_
    refine lv_iload_n C.x C.b dX12_bearsOf_29 rfl (lv_at hl 1 rfl) ?_
    replace hf := asr_s hf; obtain ⟨hq3, hf⟩ := hf
    refine z_iald C Z (lvM5 Nat.zero_lt_one) kM5 hq3 svM5 dX12_bearsOf_30 ?_
    refine lv_iconst (v := 4) C.x C.b dX12_bearsOf_31 (by decide) ?_
    refine lv_icmp_ne (tgt := 57) C.x C.b dX12_bearsOf_32 (by decide) (fun hc4 => ?_) (fun hc4 => ?_)
    · replace hf := ite_f hf hc4
      refine lv_aload_n C.x C.b dX12_bearsOf_57 rfl (lv_at hl 0 rfl) ?_
      refine z_get C Z (lvM0 Nat.zero_lt_one) kM0 zc12 zin12 6 (by decide) k_1182 rfl svM0_6 dX12_bearsOf_58 ?_
      refine lv_iload_n C.x C.b dX12_bearsOf_61 rfl (lv_at hl 1 rfl) ?_
      replace hf := asr_s hf; obtain ⟨hq5, hf⟩ := hf
      refine z_iald C Z (lvM5 Nat.zero_lt_one) kM5 hq5 svM5 dX12_bearsOf_62 ?_
      refine lv_bipush (v := 6) C.x C.b dX12_bearsOf_63 (by decide) ?_
      refine lv_icmp_ne (tgt := 83) C.x C.b dX12_bearsOf_65 (by decide) (fun hc6 => ?_) (fun hc6 => ?_)
      · replace hf := ite_f hf hc6
        refine lv_aload_n C.x C.b dX12_bearsOf_83 rfl (lv_at hl 0 rfl) ?_
        refine lv_iload_n C.x C.b dX12_bearsOf_84 rfl (lv_at hl 1 rfl) ?_
        refine lv_iload_n C.x C.b dX12_bearsOf_85 rfl (lv_at hl 2 rfl) ?_
        replace hf := bn2_s hf; obtain ⟨v8, m7, hkm7, hf⟩ := hf
        refine z_cV (As := [.int a1, .int a2]) (rest := []) (st1 := [.int v8]) C Z mw_X12_plainBears mv_X12_plainBears k_1753 (by decide) (z_hR hR (by decide)) (lvM0 Nat.zero_lt_one) kM0 zc12 (c_X12_plainBears (l := l) (K := K) (ad := ad) hkm7) rfl hl.1 rfl (Nat.le_of_ble_eq_true rfl) dX12_bearsOf_86 hB rfl (fun H locs Z => ?_)
        obtain ⟨rfl, rfl⟩ := pr_s hf
        exact z_iret C Z dX12_bearsOf_89
      · replace hf := ite_t hf hc6
        refine lv_aload_n C.x C.b dX12_bearsOf_68 rfl (lv_at hl 0 rfl) ?_
        refine lv_bipush (v := 71) C.x C.b dX12_bearsOf_69 (by decide) ?_
        replace hf := bn1_s hf; obtain ⟨m9, hkm9, hf⟩ := hf
        refine z_cV (As := [.int 71]) (rest := []) (st1 := []) C Z mw_X12_body mv_X12_body k_1741 (by decide) (z_hR hR (by decide)) (lvM0 Nat.zero_lt_one) kM0 zc12 (c_X12_body (l := l) (K := K) (ad := ad) hkm9) rfl hl.1 rfl (Nat.le_of_ble_eq_true rfl) dX12_bearsOf_71 hB rfl (fun H locs Z => ?_)
        refine lv_aload_n C.x C.b dX12_bearsOf_74 rfl (lv_at hl 0 rfl) ?_
        refine lv_iload_n C.x C.b dX12_bearsOf_75 rfl (lv_at hl 1 rfl) ?_
        refine lv_iload_n C.x C.b dX12_bearsOf_76 rfl (lv_at hl 2 rfl) ?_
        replace hf := bn2_s hf; obtain ⟨v11, m10, hkm10, hf⟩ := hf
        refine z_cV (As := [.int a1, .int a2]) (rest := []) (st1 := [.int v11]) C Z mw_X12_plainBears mv_X12_plainBears k_1753 (by decide) (z_hR hR (by decide)) (lvM0 Nat.zero_lt_one) kM0 zc12 (c_X12_plainBears (l := l) (K := K) (ad := ad) hkm10) rfl hl.1 rfl (Nat.le_of_ble_eq_true rfl) dX12_bearsOf_77 hB rfl (fun H locs Z => ?_)
        refine lv_iconst (v := 5) C.x C.b dX12_bearsOf_80 (by decide) ?_
        refine lv_imul C.x C.b dX12_bearsOf_81 ?_
        obtain ⟨rfl, rfl⟩ := pr_s hf
        exact z_iret C Z dX12_bearsOf_82
    · replace hf := ite_t hf hc4
      refine lv_aload_n C.x C.b dX12_bearsOf_35 rfl (lv_at hl 0 rfl) ?_
      refine lv_bipush (v := 50) C.x C.b dX12_bearsOf_36 (by decide) ?_
      replace hf := bn1_s hf; obtain ⟨m12, hkm12, hf⟩ := hf
      refine z_cV (As := [.int 50]) (rest := []) (st1 := []) C Z mw_X12_body mv_X12_body k_1741 (by decide) (z_hR hR (by decide)) (lvM0 Nat.zero_lt_one) kM0 zc12 (c_X12_body (l := l) (K := K) (ad := ad) hkm12) rfl hl.1 rfl (Nat.le_of_ble_eq_true rfl) dX12_bearsOf_38 hB rfl (fun H locs Z => ?_)
      refine lv_aload_n C.x C.b dX12_bearsOf_41 rfl (lv_at hl 0 rfl) ?_
      refine lv_iload_n C.x C.b dX12_bearsOf_42 rfl (lv_at hl 1 rfl) ?_
      refine lv_iload_n C.x C.b dX12_bearsOf_43 rfl (lv_at hl 2 rfl) ?_
      replace hf := bn2_s hf; obtain ⟨v14, m13, hkm13, hf⟩ := hf
      refine z_cV (As := [.int a1, .int a2]) (rest := []) (st1 := [.int v14]) C Z mw_X12_plainBears mv_X12_plainBears k_1753 (by decide) (z_hR hR (by decide)) (lvM0 Nat.zero_lt_one) kM0 zc12 (c_X12_plainBears (l := l) (K := K) (ad := ad) hkm13) rfl hl.1 rfl (Nat.le_of_ble_eq_true rfl) dX12_bearsOf_44 hB rfl (fun H locs Z => ?_)
      refine z_istore_n (lv' := [(3, .int v14), (0, .ref (ad 0 0)), (1, .int a1), (2, .int a2)]) C dX12_bearsOf_47 rfl hl (by decide) rfl (onlast 2 rfl rfl rfl) (fun ls hl => ?_)
      refine lv_iload_n C.x C.b dX12_bearsOf_48 rfl (lv_at hl 0 rfl) ?_
      refine lv_aload_n C.x C.b dX12_bearsOf_49 rfl (lv_at hl 1 rfl) ?_
      refine lv_iload_n C.x C.b dX12_bearsOf_50 rfl (lv_at hl 2 rfl) ?_
      refine lv_iconst (v := 2) C.x C.b dX12_bearsOf_51 (by decide) ?_
      replace hf := bn2_s hf; obtain ⟨v16, m15, hkm15, hf⟩ := hf
      refine z_cV (As := [.int a1, .int 2]) (rest := [.int v14]) (st1 := [.int v16, .int v14]) C Z mw_X12_plainFits mv_X12_plainFits k_1745 (by decide) (z_hR hR (by decide)) (lvM0 Nat.zero_lt_one) kM0 zc12 (c_X12_plainFits (l := l) (K := K) (ad := ad) hkm15) rfl hl.1 rfl (Nat.le_of_ble_eq_true rfl) dX12_bearsOf_52 hB rfl (fun H locs Z => ?_)
      refine lv_iadd C.x C.b dX12_bearsOf_55 ?_
      obtain ⟨rfl, rfl⟩ := pr_s hf
      exact z_iret C Z dX12_bearsOf_56
  · replace hf := ite_t hf hc2
    refine lv_aload_n C.x C.b dX12_bearsOf_10 rfl (lv_at hl 0 rfl) ?_
    refine lv_bipush (v := 30) C.x C.b dX12_bearsOf_11 (by decide) ?_
    replace hf := bn1_s hf; obtain ⟨m17, hkm17, hf⟩ := hf
    refine z_cV (As := [.int 30]) (rest := []) (st1 := []) C Z mw_X12_body mv_X12_body k_1741 (by decide) (z_hR hR (by decide)) (lvM0 Nat.zero_lt_one) kM0 zc12 (c_X12_body (l := l) (K := K) (ad := ad) hkm17) rfl hl.1 rfl (Nat.le_of_ble_eq_true rfl) dX12_bearsOf_13 hB rfl (fun H locs Z => ?_)
    refine lv_aload_n C.x C.b dX12_bearsOf_16 rfl (lv_at hl 0 rfl) ?_
    refine lv_iload_n C.x C.b dX12_bearsOf_17 rfl (lv_at hl 1 rfl) ?_
    refine lv_iload_n C.x C.b dX12_bearsOf_18 rfl (lv_at hl 2 rfl) ?_
    refine lv_iconst (v := 3) C.x C.b dX12_bearsOf_19 (by decide) ?_
    refine lv_imul C.x C.b dX12_bearsOf_20 ?_
    replace hf := bn2_s hf; obtain ⟨v19, m18, hkm18, hf⟩ := hf
    refine z_cV (As := [.int a1, .int (a2 * 3)]) (rest := []) (st1 := [.int v19]) C Z mw_X12_plainBears mv_X12_plainBears k_1753 (by decide) (z_hR hR (by decide)) (lvM0 Nat.zero_lt_one) kM0 zc12 (c_X12_plainBears (l := l) (K := K) (ad := ad) hkm18) rfl hl.1 rfl (Nat.le_of_ble_eq_true rfl) dX12_bearsOf_21 hB rfl (fun H locs Z => ?_)
    obtain ⟨rfl, rfl⟩ := pr_s hf
    exact z_iret C Z dX12_bearsOf_24
theorem dX12_plainEnds_0 : decode cX12_plainEnds 0 = .ok (.aload_n 0, 1) := by decide +kernel
theorem dX12_plainEnds_1 : decode cX12_plainEnds 1 = .ok (.bipush 12, 2) := by decide +kernel
theorem dX12_plainEnds_3 : decode cX12_plainEnds 3 = .ok (.invokevirtual 381, 3) := by decide +kernel
theorem dX12_plainEnds_6 : decode cX12_plainEnds 6 = .ok (.aload_n 0, 1) := by decide +kernel
theorem dX12_plainEnds_7 : decode cX12_plainEnds 7 = .ok (.iload_n 1, 1) := by decide +kernel
theorem dX12_plainEnds_8 : decode cX12_plainEnds 8 = .ok (.iload_n 2, 1) := by decide +kernel
theorem dX12_plainEnds_9 : decode cX12_plainEnds 9 = .ok (.invokevirtual 396, 3) := by decide +kernel
theorem dX12_plainEnds_12 : decode cX12_plainEnds 12 = .ok (.iconst 2, 1) := by decide +kernel
theorem dX12_plainEnds_13 : decode cX12_plainEnds 13 = .ok (.imul, 1) := by decide +kernel
theorem dX12_plainEnds_14 : decode cX12_plainEnds 14 = .ok (.ireturn, 1) := by decide +kernel
set_option maxRecDepth 100000 in
set_option maxHeartbeats 4000000 in
theorem c_X12_plainEnds {l : Launch} {K : KG} {ad : Nat → Nat → Nat} {fl : Nat} {a1 : Int32} {a2 : Int32} {M0 : Mem} {r9 : Int32} {M9 : Mem} (hf : f_X12_plainEnds fl a1 a2 M0 = some (r9, M9)) : Met l yX12_plainEnds (Cond.code yX12_plainEnds cX12_plainEnds 3 (some .int) :: ztb) (RM (7) 0 0) (zPc K LM ad M0 [.ref (ad 0 0), .int a1, .int a2]) (zQ K LM ad (some (.int r9)) M9) 0 0 (zA ad) := by
  refine z_enter (by decide) (Nat.le_of_ble_eq_true rfl) ?_
  intro p e s m args below meth c ls C hin hargs Z hl
  replace C : Cx p s m args meth c cX12_plainEnds 3 "GlassPalaceModel" (some .int) := C
  replace hl : lv_has ls 3 [(0, .ref (ad 0 0)), (1, .int a1), (2, .int a2)] := hl
  have hR : 7 ≤ (RM (7) 0 0).frames ∧ 40 * (7) ≤ (RM (7) 0 0).locals := ⟨Nat.le_refl _, Nat.le_refl _⟩
  have hB : 0 ≤ (RM (7) 0 0).cells ∧ 0 ≤ (RM (7) 0 0).slots := ⟨Nat.zero_le _, Nat.zero_le _⟩
  unfold f_X12_plainEnds at hf
  refine lv_aload_n C.x C.b dX12_plainEnds_0 rfl (lv_at hl 0 rfl) ?_
  refine lv_bipush (v := 12) C.x C.b dX12_plainEnds_1 (by decide) ?_
  replace hf := bn1_s hf; obtain ⟨m1, hkm1, hf⟩ := hf
  refine z_cV (As := [.int 12]) (rest := []) (st1 := []) C Z mw_X12_body mv_X12_body k_1741 (by decide) (z_hR hR (by decide)) (lvM0 Nat.zero_lt_one) kM0 zc12 (c_X12_body (l := l) (K := K) (ad := ad) hkm1) rfl hl.1 rfl (Nat.le_of_ble_eq_true rfl) dX12_plainEnds_3 hB rfl (fun H locs Z => ?_)
  refine lv_aload_n C.x C.b dX12_plainEnds_6 rfl (lv_at hl 0 rfl) ?_
  refine lv_iload_n C.x C.b dX12_plainEnds_7 rfl (lv_at hl 1 rfl) ?_
  refine lv_iload_n C.x C.b dX12_plainEnds_8 rfl (lv_at hl 2 rfl) ?_
  replace hf := bn2_s hf; obtain ⟨v3, m2, hkm2, hf⟩ := hf
  refine z_cV (As := [.int a1, .int a2]) (rest := []) (st1 := [.int v3]) C Z mw_X12_bearsOf mv_X12_bearsOf k_1749 (by decide) (z_hR hR (by decide)) (lvM0 Nat.zero_lt_one) kM0 zc12 (c_X12_bearsOf (l := l) (K := K) (ad := ad) hkm2) rfl hl.1 rfl (Nat.le_of_ble_eq_true rfl) dX12_plainEnds_9 hB rfl (fun H locs Z => ?_)
  refine lv_iconst (v := 2) C.x C.b dX12_plainEnds_12 (by decide) ?_
  refine lv_imul C.x C.b dX12_plainEnds_13 ?_
  obtain ⟨rfl, rfl⟩ := pr_s hf
  exact z_iret C Z dX12_plainEnds_14
theorem dX12_endsOf_0 : decode cX12_endsOf 0 = .ok (.aload_n 0, 1) := by decide +kernel
theorem dX12_endsOf_1 : decode cX12_endsOf 1 = .ok (.getfield 37, 3) := by decide +kernel
theorem dX12_endsOf_4 : decode cX12_endsOf 4 = .ok (.iload_n 1, 1) := by decide +kernel
theorem dX12_endsOf_5 : decode cX12_endsOf 5 = .ok (.iaload, 1) := by decide +kernel
theorem dX12_endsOf_6 : decode cX12_endsOf 6 = .ok (.iconst 1, 1) := by decide +kernel
theorem dX12_endsOf_7 : decode cX12_endsOf 7 = .ok (.if_icmp .eq 14, 3) := by decide +kernel
theorem dX12_endsOf_10 : decode cX12_endsOf 10 = .ok (.aload_n 0, 1) := by decide +kernel
theorem dX12_endsOf_11 : decode cX12_endsOf 11 = .ok (.getfield 37, 3) := by decide +kernel
theorem dX12_endsOf_14 : decode cX12_endsOf 14 = .ok (.iload_n 1, 1) := by decide +kernel
theorem dX12_endsOf_15 : decode cX12_endsOf 15 = .ok (.iaload, 1) := by decide +kernel
theorem dX12_endsOf_16 : decode cX12_endsOf 16 = .ok (.bipush 6, 2) := by decide +kernel
theorem dX12_endsOf_18 : decode cX12_endsOf 18 = .ok (.if_icmp .ne 25, 3) := by decide +kernel
theorem dX12_endsOf_21 : decode cX12_endsOf 21 = .ok (.aload_n 0, 1) := by decide +kernel
theorem dX12_endsOf_22 : decode cX12_endsOf 22 = .ok (.bipush 21, 2) := by decide +kernel
theorem dX12_endsOf_24 : decode cX12_endsOf 24 = .ok (.invokevirtual 381, 3) := by decide +kernel
theorem dX12_endsOf_27 : decode cX12_endsOf 27 = .ok (.aload_n 0, 1) := by decide +kernel
theorem dX12_endsOf_28 : decode cX12_endsOf 28 = .ok (.iload_n 1, 1) := by decide +kernel
theorem dX12_endsOf_29 : decode cX12_endsOf 29 = .ok (.iload_n 2, 1) := by decide +kernel
theorem dX12_endsOf_30 : decode cX12_endsOf 30 = .ok (.invokevirtual 399, 3) := by decide +kernel
theorem dX12_endsOf_33 : decode cX12_endsOf 33 = .ok (.istore_n 3, 1) := by decide +kernel
theorem dX12_endsOf_34 : decode cX12_endsOf 34 = .ok (.iload_n 3, 1) := by decide +kernel
theorem dX12_endsOf_35 : decode cX12_endsOf 35 = .ok (.aload_n 0, 1) := by decide +kernel
theorem dX12_endsOf_36 : decode cX12_endsOf 36 = .ok (.iload_n 1, 1) := by decide +kernel
theorem dX12_endsOf_37 : decode cX12_endsOf 37 = .ok (.iconst 1, 1) := by decide +kernel
theorem dX12_endsOf_38 : decode cX12_endsOf 38 = .ok (.invokevirtual 390, 3) := by decide +kernel
theorem dX12_endsOf_41 : decode cX12_endsOf 41 = .ok (.iadd, 1) := by decide +kernel
theorem dX12_endsOf_42 : decode cX12_endsOf 42 = .ok (.ireturn, 1) := by decide +kernel
theorem dX12_endsOf_43 : decode cX12_endsOf 43 = .ok (.aload_n 0, 1) := by decide +kernel
theorem dX12_endsOf_44 : decode cX12_endsOf 44 = .ok (.getfield 37, 3) := by decide +kernel
theorem dX12_endsOf_47 : decode cX12_endsOf 47 = .ok (.iload_n 1, 1) := by decide +kernel
theorem dX12_endsOf_48 : decode cX12_endsOf 48 = .ok (.iaload, 1) := by decide +kernel
theorem dX12_endsOf_49 : decode cX12_endsOf 49 = .ok (.iconst 5, 1) := by decide +kernel
theorem dX12_endsOf_50 : decode cX12_endsOf 50 = .ok (.if_icmp .ne 25, 3) := by decide +kernel
theorem dX12_endsOf_53 : decode cX12_endsOf 53 = .ok (.aload_n 0, 1) := by decide +kernel
theorem dX12_endsOf_54 : decode cX12_endsOf 54 = .ok (.bipush 60, 2) := by decide +kernel
theorem dX12_endsOf_56 : decode cX12_endsOf 56 = .ok (.invokevirtual 381, 3) := by decide +kernel
theorem dX12_endsOf_59 : decode cX12_endsOf 59 = .ok (.aload_n 0, 1) := by decide +kernel
theorem dX12_endsOf_60 : decode cX12_endsOf 60 = .ok (.iload_n 1, 1) := by decide +kernel
theorem dX12_endsOf_61 : decode cX12_endsOf 61 = .ok (.iload_n 2, 1) := by decide +kernel
theorem dX12_endsOf_62 : decode cX12_endsOf 62 = .ok (.invokevirtual 396, 3) := by decide +kernel
theorem dX12_endsOf_65 : decode cX12_endsOf 65 = .ok (.istore_n 3, 1) := by decide +kernel
theorem dX12_endsOf_66 : decode cX12_endsOf 66 = .ok (.iload_n 3, 1) := by decide +kernel
theorem dX12_endsOf_67 : decode cX12_endsOf 67 = .ok (.aload_n 0, 1) := by decide +kernel
theorem dX12_endsOf_68 : decode cX12_endsOf 68 = .ok (.iload_n 1, 1) := by decide +kernel
theorem dX12_endsOf_69 : decode cX12_endsOf 69 = .ok (.iload_n 2, 1) := by decide +kernel
theorem dX12_endsOf_70 : decode cX12_endsOf 70 = .ok (.invokevirtual 399, 3) := by decide +kernel
theorem dX12_endsOf_73 : decode cX12_endsOf 73 = .ok (.isub, 1) := by decide +kernel
theorem dX12_endsOf_74 : decode cX12_endsOf 74 = .ok (.ireturn, 1) := by decide +kernel
theorem dX12_endsOf_75 : decode cX12_endsOf 75 = .ok (.aload_n 0, 1) := by decide +kernel
theorem dX12_endsOf_76 : decode cX12_endsOf 76 = .ok (.iload_n 1, 1) := by decide +kernel
theorem dX12_endsOf_77 : decode cX12_endsOf 77 = .ok (.iload_n 2, 1) := by decide +kernel
theorem dX12_endsOf_78 : decode cX12_endsOf 78 = .ok (.invokevirtual 399, 3) := by decide +kernel
theorem dX12_endsOf_81 : decode cX12_endsOf 81 = .ok (.ireturn, 1) := by decide +kernel
set_option maxRecDepth 100000 in
set_option maxHeartbeats 4000000 in
theorem w_X12_endsOf_b21 {p : Program} {l : Launch} {e : Env} {s : State} {m : MethodId} {args : Array Value} {below : List Frame} {meth : Method} {c : Code} {K : KG} {ad : Nat → Nat → Nat} {fl : Nat} {H : Heap} {locs : List Loc} {ls : Array Slot} {g1 : Int32} {g2 : Int32} {M0 : Mem} {r9 : Int32} {M9 : Mem} (C : Cx p s m args meth c cX12_endsOf 4 "GlassPalaceModel" (some .int)) (hR : 8 ≤ (RM (8) 0 0).frames ∧ 40 * (8) ≤ (RM (8) 0 0).locals) (hB : 0 ≤ (RM (8) 0 0).cells ∧ 0 ≤ (RM (8) 0 0).slots) (Z : Zd K LM ad M0 s H locs) (hl : lv_has ls 4 [(0, .ref (ad 0 0)), (1, .int g1), (2, .int g2)]) (hf : f_X12_endsOf_b21 fl g1 g2 M0 = some (r9, M9)) : W p l e (RM (8) 0 0) s m args below meth c H locs 0 0 (MQ below (zQ K LM ad (some (.int r9)) M9) args s 0 0 (zA ad)) (F0 m 21 ls []) := by
  unfold f_X12_endsOf_b21 at hf
  refine lv_aload_n C.x C.b dX12_endsOf_21 rfl (lv_at hl 0 rfl) ?_
  refine lv_bipush (v := 21) C.x C.b dX12_endsOf_22 (by decide) ?_
  replace hf := bn1_s hf; obtain ⟨m3, hkm3, hf⟩ := hf
  refine z_cV (As := [.int 21]) (rest := []) (st1 := []) C Z mw_X12_body mv_X12_body k_1741 (by decide) (z_hR hR (by decide)) (lvM0 Nat.zero_lt_one) kM0 zc12 (c_X12_body (l := l) (K := K) (ad := ad) hkm3) rfl hl.1 rfl (Nat.le_of_ble_eq_true rfl) dX12_endsOf_24 hB rfl (fun H locs Z => ?_)
  refine lv_aload_n C.x C.b dX12_endsOf_27 rfl (lv_at hl 0 rfl) ?_
  refine lv_iload_n C.x C.b dX12_endsOf_28 rfl (lv_at hl 1 rfl) ?_
  refine lv_iload_n C.x C.b dX12_endsOf_29 rfl (lv_at hl 2 rfl) ?_
  replace hf := bn2_s hf; obtain ⟨v5, m4, hkm4, hf⟩ := hf
  refine z_cV (As := [.int g1, .int g2]) (rest := []) (st1 := [.int v5]) C Z mw_X12_plainEnds mv_X12_plainEnds k_1761 (by decide) (z_hR hR (by decide)) (lvM0 Nat.zero_lt_one) kM0 zc12 (c_X12_plainEnds (l := l) (K := K) (ad := ad) hkm4) rfl hl.1 rfl (Nat.le_of_ble_eq_true rfl) dX12_endsOf_30 hB rfl (fun H locs Z => ?_)
  refine z_istore_n (lv' := [(3, .int v5), (0, .ref (ad 0 0)), (1, .int g1), (2, .int g2)]) C dX12_endsOf_33 rfl hl (by decide) rfl (onlast 2 rfl rfl rfl) (fun ls hl => ?_)
  refine lv_iload_n C.x C.b dX12_endsOf_34 rfl (lv_at hl 0 rfl) ?_
  refine lv_aload_n C.x C.b dX12_endsOf_35 rfl (lv_at hl 1 rfl) ?_
  refine lv_iload_n C.x C.b dX12_endsOf_36 rfl (lv_at hl 2 rfl) ?_
  refine lv_iconst (v := 1) C.x C.b dX12_endsOf_37 (by decide) ?_
  replace hf := bn2_s hf; obtain ⟨v7, m6, hkm6, hf⟩ := hf
  refine z_cV (As := [.int g1, .int 1]) (rest := [.int v5]) (st1 := [.int v7, .int v5]) C Z mw_X12_fitsOf mv_X12_fitsOf k_1733 (by decide) (z_hR hR (by decide)) (lvM0 Nat.zero_lt_one) kM0 zc12 (c_X12_fitsOf (l := l) (K := K) (ad := ad) hkm6) rfl hl.1 rfl (Nat.le_of_ble_eq_true rfl) dX12_endsOf_38 hB rfl (fun H locs Z => ?_)
  refine lv_iadd C.x C.b dX12_endsOf_41 ?_
  obtain ⟨rfl, rfl⟩ := pr_s hf
  exact z_iret C Z dX12_endsOf_42
set_option maxRecDepth 100000 in
set_option maxHeartbeats 4000000 in
theorem c_X12_endsOf {l : Launch} {K : KG} {ad : Nat → Nat → Nat} {fl : Nat} {a1 : Int32} {a2 : Int32} {M0 : Mem} {r9 : Int32} {M9 : Mem} (hf : f_X12_endsOf fl a1 a2 M0 = some (r9, M9)) : Met l yX12_endsOf (Cond.code yX12_endsOf cX12_endsOf 4 (some .int) :: ztb) (RM (8) 0 0) (zPc K LM ad M0 [.ref (ad 0 0), .int a1, .int a2]) (zQ K LM ad (some (.int r9)) M9) 0 0 (zA ad) := by
  refine z_enter (by decide) (Nat.le_of_ble_eq_true rfl) ?_
  intro p e s m args below meth c ls C hin hargs Z hl
  replace C : Cx p s m args meth c cX12_endsOf 4 "GlassPalaceModel" (some .int) := C
  replace hl : lv_has ls 4 [(0, .ref (ad 0 0)), (1, .int a1), (2, .int a2)] := hl
  have hR : 8 ≤ (RM (8) 0 0).frames ∧ 40 * (8) ≤ (RM (8) 0 0).locals := ⟨Nat.le_refl _, Nat.le_refl _⟩
  have hB : 0 ≤ (RM (8) 0 0).cells ∧ 0 ≤ (RM (8) 0 0).slots := ⟨Nat.zero_le _, Nat.zero_le _⟩
  unfold f_X12_endsOf at hf
  refine lv_aload_n C.x C.b dX12_endsOf_0 rfl (lv_at hl 0 rfl) ?_
  refine z_get C Z (lvM0 Nat.zero_lt_one) kM0 zc12 zin12 6 (by decide) k_1182 rfl svM0_6 dX12_endsOf_1 ?_
  refine lv_iload_n C.x C.b dX12_endsOf_4 rfl (lv_at hl 1 rfl) ?_
  replace hf := asr_s hf; obtain ⟨hq1, hf⟩ := hf
  refine z_iald C Z (lvM5 Nat.zero_lt_one) kM5 hq1 svM5 dX12_endsOf_5 ?_
  refine lv_iconst (v := 1) C.x C.b dX12_endsOf_6 (by decide) ?_
  refine lv_icmp_eq (tgt := 21) C.x C.b dX12_endsOf_7 (by decide) (fun hc2 => ?_) (fun hc2 => ?_)
  · replace hf := ite_t hf hc2
    exact w_X12_endsOf_b21 C hR hB  Z (lv_sub hl [0, 1, 2] rfl) hf
  · replace hf := ite_f hf hc2
    refine lv_aload_n C.x C.b dX12_endsOf_10 rfl (lv_at hl 0 rfl) ?_
    refine z_get C Z (lvM0 Nat.zero_lt_one) kM0 zc12 zin12 6 (by decide) k_1182 rfl svM0_6 dX12_endsOf_11 ?_
    refine lv_iload_n C.x C.b dX12_endsOf_14 rfl (lv_at hl 1 rfl) ?_
    replace hf := asr_s hf; obtain ⟨hq8, hf⟩ := hf
    refine z_iald C Z (lvM5 Nat.zero_lt_one) kM5 hq8 svM5 dX12_endsOf_15 ?_
    refine lv_bipush (v := 6) C.x C.b dX12_endsOf_16 (by decide) ?_
    refine lv_icmp_ne (tgt := 43) C.x C.b dX12_endsOf_18 (by decide) (fun hc9 => ?_) (fun hc9 => ?_)
    · replace hf := ite_f hf hc9
      refine lv_aload_n C.x C.b dX12_endsOf_43 rfl (lv_at hl 0 rfl) ?_
      refine z_get C Z (lvM0 Nat.zero_lt_one) kM0 zc12 zin12 6 (by decide) k_1182 rfl svM0_6 dX12_endsOf_44 ?_
      refine lv_iload_n C.x C.b dX12_endsOf_47 rfl (lv_at hl 1 rfl) ?_
      replace hf := asr_s hf; obtain ⟨hq10, hf⟩ := hf
      refine z_iald C Z (lvM5 Nat.zero_lt_one) kM5 hq10 svM5 dX12_endsOf_48 ?_
      refine lv_iconst (v := 5) C.x C.b dX12_endsOf_49 (by decide) ?_
      refine lv_icmp_ne (tgt := 75) C.x C.b dX12_endsOf_50 (by decide) (fun hc11 => ?_) (fun hc11 => ?_)
      · replace hf := ite_f hf hc11
        refine lv_aload_n C.x C.b dX12_endsOf_75 rfl (lv_at hl 0 rfl) ?_
        refine lv_iload_n C.x C.b dX12_endsOf_76 rfl (lv_at hl 1 rfl) ?_
        refine lv_iload_n C.x C.b dX12_endsOf_77 rfl (lv_at hl 2 rfl) ?_
        replace hf := bn2_s hf; obtain ⟨v13, m12, hkm12, hf⟩ := hf
        refine z_cV (As := [.int a1, .int a2]) (rest := []) (st1 := [.int v13]) C Z mw_X12_plainEnds mv_X12_plainEnds k_1761 (by decide) (z_hR hR (by decide)) (lvM0 Nat.zero_lt_one) kM0 zc12 (c_X12_plainEnds (l := l) (K := K) (ad := ad) hkm12) rfl hl.1 rfl (Nat.le_of_ble_eq_true rfl) dX12_endsOf_78 hB rfl (fun H locs Z => ?_)
        obtain ⟨rfl, rfl⟩ := pr_s hf
        exact z_iret C Z dX12_endsOf_81
      · replace hf := ite_t hf hc11
        refine lv_aload_n C.x C.b dX12_endsOf_53 rfl (lv_at hl 0 rfl) ?_
        refine lv_bipush (v := 60) C.x C.b dX12_endsOf_54 (by decide) ?_
        replace hf := bn1_s hf; obtain ⟨m14, hkm14, hf⟩ := hf
        refine z_cV (As := [.int 60]) (rest := []) (st1 := []) C Z mw_X12_body mv_X12_body k_1741 (by decide) (z_hR hR (by decide)) (lvM0 Nat.zero_lt_one) kM0 zc12 (c_X12_body (l := l) (K := K) (ad := ad) hkm14) rfl hl.1 rfl (Nat.le_of_ble_eq_true rfl) dX12_endsOf_56 hB rfl (fun H locs Z => ?_)
        refine lv_aload_n C.x C.b dX12_endsOf_59 rfl (lv_at hl 0 rfl) ?_
        refine lv_iload_n C.x C.b dX12_endsOf_60 rfl (lv_at hl 1 rfl) ?_
        refine lv_iload_n C.x C.b dX12_endsOf_61 rfl (lv_at hl 2 rfl) ?_
        replace hf := bn2_s hf; obtain ⟨v16, m15, hkm15, hf⟩ := hf
        refine z_cV (As := [.int a1, .int a2]) (rest := []) (st1 := [.int v16]) C Z mw_X12_bearsOf mv_X12_bearsOf k_1749 (by decide) (z_hR hR (by decide)) (lvM0 Nat.zero_lt_one) kM0 zc12 (c_X12_bearsOf (l := l) (K := K) (ad := ad) hkm15) rfl hl.1 rfl (Nat.le_of_ble_eq_true rfl) dX12_endsOf_62 hB rfl (fun H locs Z => ?_)
        refine z_istore_n (lv' := [(3, .int v16), (0, .ref (ad 0 0)), (1, .int a1), (2, .int a2)]) C dX12_endsOf_65 rfl hl (by decide) rfl (onlast 2 rfl rfl rfl) (fun ls hl => ?_)
        refine lv_iload_n C.x C.b dX12_endsOf_66 rfl (lv_at hl 0 rfl) ?_
        refine lv_aload_n C.x C.b dX12_endsOf_67 rfl (lv_at hl 1 rfl) ?_
        refine lv_iload_n C.x C.b dX12_endsOf_68 rfl (lv_at hl 2 rfl) ?_
        refine lv_iload_n C.x C.b dX12_endsOf_69 rfl (lv_at hl 3 rfl) ?_
        replace hf := bn2_s hf; obtain ⟨v18, m17, hkm17, hf⟩ := hf
        refine z_cV (As := [.int a1, .int a2]) (rest := [.int v16]) (st1 := [.int v18, .int v16]) C Z mw_X12_plainEnds mv_X12_plainEnds k_1761 (by decide) (z_hR hR (by decide)) (lvM0 Nat.zero_lt_one) kM0 zc12 (c_X12_plainEnds (l := l) (K := K) (ad := ad) hkm17) rfl hl.1 rfl (Nat.le_of_ble_eq_true rfl) dX12_endsOf_70 hB rfl (fun H locs Z => ?_)
        refine lv_isub C.x C.b dX12_endsOf_73 ?_
        obtain ⟨rfl, rfl⟩ := pr_s hf
        exact z_iret C Z dX12_endsOf_74
    · replace hf := ite_t hf hc9
      exact w_X12_endsOf_b21 C hR hB  Z (lv_sub hl [0, 1, 2] rfl) hf
theorem dX12_act_0 : decode cX12_act 0 = .ok (.aload_n 0, 1) := by decide +kernel
theorem dX12_act_1 : decode cX12_act 1 = .ok (.iconst 0, 1) := by decide +kernel
theorem dX12_act_2 : decode cX12_act 2 = .ok (.putfield 218, 3) := by decide +kernel
theorem dX12_act_5 : decode cX12_act 5 = .ok (.aload_n 0, 1) := by decide +kernel
theorem dX12_act_6 : decode cX12_act 6 = .ok (.iload_n 1, 1) := by decide +kernel
theorem dX12_act_7 : decode cX12_act 7 = .ok (.invokevirtual 251, 3) := by decide +kernel
theorem dX12_act_10 : decode cX12_act 10 = .ok (.ifCond .eq 13, 3) := by decide +kernel
theorem dX12_act_13 : decode cX12_act 13 = .ok (.aload_n 0, 1) := by decide +kernel
theorem dX12_act_14 : decode cX12_act 14 = .ok (.iload_n 2, 1) := by decide +kernel
theorem dX12_act_15 : decode cX12_act 15 = .ok (.iconst 0, 1) := by decide +kernel
theorem dX12_act_16 : decode cX12_act 16 = .ok (.iconst 2, 1) := by decide +kernel
theorem dX12_act_17 : decode cX12_act 17 = .ok (.invokevirtual 3, 3) := by decide +kernel
theorem dX12_act_20 : decode cX12_act 20 = .ok (.ifCond .ne 5, 3) := by decide +kernel
theorem dX12_act_23 : decode cX12_act 23 = .ok (.iconst 0, 1) := by decide +kernel
theorem dX12_act_24 : decode cX12_act 24 = .ok (.ireturn, 1) := by decide +kernel
theorem dX12_act_25 : decode cX12_act 25 = .ok (.iload_n 2, 1) := by decide +kernel
theorem dX12_act_26 : decode cX12_act 26 = .ok (.ifCond .ne 12, 3) := by decide +kernel
theorem dX12_act_29 : decode cX12_act 29 = .ok (.aload_n 0, 1) := by decide +kernel
theorem dX12_act_30 : decode cX12_act 30 = .ok (.iload_n 1, 1) := by decide +kernel
theorem dX12_act_31 : decode cX12_act 31 = .ok (.iload_n 3, 1) := by decide +kernel
theorem dX12_act_32 : decode cX12_act 32 = .ok (.invokevirtual 390, 3) := by decide +kernel
theorem dX12_act_35 : decode cX12_act 35 = .ok (.goto 23, 3) := by decide +kernel
theorem dX12_act_38 : decode cX12_act 38 = .ok (.iload_n 2, 1) := by decide +kernel
theorem dX12_act_39 : decode cX12_act 39 = .ok (.iconst 1, 1) := by decide +kernel
theorem dX12_act_40 : decode cX12_act 40 = .ok (.if_icmp .ne 12, 3) := by decide +kernel
theorem dX12_act_43 : decode cX12_act 43 = .ok (.aload_n 0, 1) := by decide +kernel
theorem dX12_act_44 : decode cX12_act 44 = .ok (.iload_n 1, 1) := by decide +kernel
theorem dX12_act_45 : decode cX12_act 45 = .ok (.iload_n 3, 1) := by decide +kernel
theorem dX12_act_46 : decode cX12_act 46 = .ok (.invokevirtual 396, 3) := by decide +kernel
theorem dX12_act_49 : decode cX12_act 49 = .ok (.goto 9, 3) := by decide +kernel
theorem dX12_act_52 : decode cX12_act 52 = .ok (.aload_n 0, 1) := by decide +kernel
theorem dX12_act_53 : decode cX12_act 53 = .ok (.iload_n 1, 1) := by decide +kernel
theorem dX12_act_54 : decode cX12_act 54 = .ok (.iload_n 3, 1) := by decide +kernel
theorem dX12_act_55 : decode cX12_act 55 = .ok (.invokevirtual 402, 3) := by decide +kernel
theorem dX12_act_58 : decode cX12_act 58 = .ok (.ireturn, 1) := by decide +kernel
set_option maxRecDepth 100000 in
set_option maxHeartbeats 4000000 in
theorem c_X12_act {l : Launch} {K : KG} {ad : Nat → Nat → Nat} {fl : Nat} {a1 : Int32} {a2 : Int32} {a3 : Int32} {M0 : Mem} {r9 : Int32} {M9 : Mem} (hf : f_X12_act fl a1 a2 a3 M0 = some (r9, M9)) : Met l yX12_act (Cond.code yX12_act cX12_act 4 (some .int) :: ztb) (RM (9) 0 0) (zPc K LM ad M0 [.ref (ad 0 0), .int a1, .int a2, .int a3]) (zQ K LM ad (some (.int r9)) M9) 0 0 (zA ad) := by
  refine z_enter (by decide) (Nat.le_of_ble_eq_true rfl) ?_
  intro p e s m args below meth c ls C hin hargs Z hl
  replace C : Cx p s m args meth c cX12_act 4 "GlassPalaceModel" (some .int) := C
  replace hl : lv_has ls 4 [(0, .ref (ad 0 0)), (1, .int a1), (2, .int a2), (3, .int a3)] := hl
  have hR : 9 ≤ (RM (9) 0 0).frames ∧ 40 * (9) ≤ (RM (9) 0 0).locals := ⟨Nat.le_refl _, Nat.le_refl _⟩
  have hB : 0 ≤ (RM (9) 0 0).cells ∧ 0 ≤ (RM (9) 0 0).slots := ⟨Nat.zero_le _, Nat.zero_le _⟩
  unfold f_X12_act at hf
  refine lv_aload_n C.x C.b dX12_act_0 rfl (lv_at hl 0 rfl) ?_
  refine lv_iconst (v := 0) C.x C.b dX12_act_1 (by decide) ?_
  replace hf := lt1_s hf; obtain ⟨m1, em1, hf⟩ := hf
  refine z_put (M1 := m1) C Z (lvM0 Nat.zero_lt_one) (by decide) kM0 zc12 zin12 tyX12_ok nmX12 66 (by decide) k_1242 rfl (zUp_I em1 stM0_66u) (Or.inl rfl) rfl rfl dX12_act_2 (fun H locs Z => ?_)
  refine lv_aload_n C.x C.b dX12_act_5 rfl (lv_at hl 0 rfl) ?_
  refine lv_iload_n C.x C.b dX12_act_6 rfl (lv_at hl 1 rfl) ?_
  replace hf := bn2_s hf; obtain ⟨v3, m2, hkm2, hf⟩ := hf
  refine z_cV (As := [.int a1]) (rest := []) (st1 := [.int v3]) C Z mw_X12_isLot mv_X12_isLot k_1434 (by decide) (z_hR hR (by decide)) (lvM0 Nat.zero_lt_one) kM0 zc12 (c_X12_isLot (l := l) (K := K) (ad := ad) hkm2) rfl hl.1 rfl (Nat.le_of_ble_eq_true rfl) dX12_act_7 hB rfl (fun H locs Z => ?_)
  refine lv_if_eq (tgt := 23) C.x C.b dX12_act_10 (by decide) (fun hc4 => ?_) (fun hc4 => ?_)
  · replace hf := ite_t hf hc4
    refine lv_iconst (v := 0) C.x C.b dX12_act_23 (by decide) ?_
    obtain ⟨rfl, rfl⟩ := pr_s hf
    exact z_iret C Z dX12_act_24
  · replace hf := ite_f hf hc4
    refine lv_aload_n C.x C.b dX12_act_13 rfl (lv_at hl 0 rfl) ?_
    refine lv_iload_n C.x C.b dX12_act_14 rfl (lv_at hl 2 rfl) ?_
    refine lv_iconst (v := 0) C.x C.b dX12_act_15 (by decide) ?_
    refine lv_iconst (v := 2) C.x C.b dX12_act_16 (by decide) ?_
    replace hf := bn2_s hf; obtain ⟨v6, m5, hkm5, hf⟩ := hf
    refine z_cV (As := [.int a2, .int 0, .int 2]) (rest := []) (st1 := [.int v6]) C Z mw_X12_in mv_X12_in k_1398 (by decide) (z_hR hR (by decide)) (lvM0 Nat.zero_lt_one) kM0 zc12 (c_X12_in (l := l) (K := K) (ad := ad) hkm5) rfl hl.1 rfl (Nat.le_of_ble_eq_true rfl) dX12_act_17 hB rfl (fun H locs Z => ?_)
    refine lv_if_ne (tgt := 25) C.x C.b dX12_act_20 (by decide) (fun hc7 => ?_) (fun hc7 => ?_)
    · replace hf := ite_f hf hc7
      refine lv_iload_n C.x C.b dX12_act_25 rfl (lv_at hl 2 rfl) ?_
      refine lv_if_ne (tgt := 38) C.x C.b dX12_act_26 (by decide) (fun hc8 => ?_) (fun hc8 => ?_)
      · replace hf := ite_f hf hc8
        refine lv_iload_n C.x C.b dX12_act_38 rfl (lv_at hl 2 rfl) ?_
        refine lv_iconst (v := 1) C.x C.b dX12_act_39 (by decide) ?_
        refine lv_icmp_ne (tgt := 52) C.x C.b dX12_act_40 (by decide) (fun hc9 => ?_) (fun hc9 => ?_)
        · replace hf := ite_f hf hc9
          refine lv_aload_n C.x C.b dX12_act_52 rfl (lv_at hl 0 rfl) ?_
          refine lv_iload_n C.x C.b dX12_act_53 rfl (lv_at hl 1 rfl) ?_
          refine lv_iload_n C.x C.b dX12_act_54 rfl (lv_at hl 3 rfl) ?_
          replace hf := bn2_s hf; obtain ⟨v11, m10, hkm10, hf⟩ := hf
          refine z_cV (As := [.int a1, .int a3]) (rest := []) (st1 := [.int v11]) C Z mw_X12_endsOf mv_X12_endsOf k_1757 (by decide) (z_hR hR (by decide)) (lvM0 Nat.zero_lt_one) kM0 zc12 (c_X12_endsOf (l := l) (K := K) (ad := ad) hkm10) rfl hl.1 rfl (Nat.le_of_ble_eq_true rfl) dX12_act_55 hB rfl (fun H locs Z => ?_)
          obtain ⟨rfl, rfl⟩ := pr_s hf
          exact z_iret C Z dX12_act_58
        · replace hf := ite_t hf hc9
          refine lv_aload_n C.x C.b dX12_act_43 rfl (lv_at hl 0 rfl) ?_
          refine lv_iload_n C.x C.b dX12_act_44 rfl (lv_at hl 1 rfl) ?_
          refine lv_iload_n C.x C.b dX12_act_45 rfl (lv_at hl 3 rfl) ?_
          replace hf := bn2_s hf; obtain ⟨v13, m12, hkm12, hf⟩ := hf
          refine z_cV (As := [.int a1, .int a3]) (rest := []) (st1 := [.int v13]) C Z mw_X12_bearsOf mv_X12_bearsOf k_1749 (by decide) (z_hR hR (by decide)) (lvM0 Nat.zero_lt_one) kM0 zc12 (c_X12_bearsOf (l := l) (K := K) (ad := ad) hkm12) rfl hl.1 rfl (Nat.le_of_ble_eq_true rfl) dX12_act_46 hB rfl (fun H locs Z => ?_)
          refine lv_goto (tgt := 58) C.x C.b dX12_act_49 (by decide) ?_
          obtain ⟨rfl, rfl⟩ := pr_s hf
          exact z_iret C Z dX12_act_58
      · replace hf := ite_t hf hc8
        refine lv_aload_n C.x C.b dX12_act_29 rfl (lv_at hl 0 rfl) ?_
        refine lv_iload_n C.x C.b dX12_act_30 rfl (lv_at hl 1 rfl) ?_
        refine lv_iload_n C.x C.b dX12_act_31 rfl (lv_at hl 3 rfl) ?_
        replace hf := bn2_s hf; obtain ⟨v15, m14, hkm14, hf⟩ := hf
        refine z_cV (As := [.int a1, .int a3]) (rest := []) (st1 := [.int v15]) C Z mw_X12_fitsOf mv_X12_fitsOf k_1733 (by decide) (z_hR hR (by decide)) (lvM0 Nat.zero_lt_one) kM0 zc12 (c_X12_fitsOf (l := l) (K := K) (ad := ad) hkm14) rfl hl.1 rfl (Nat.le_of_ble_eq_true rfl) dX12_act_32 hB rfl (fun H locs Z => ?_)
        refine lv_goto (tgt := 58) C.x C.b dX12_act_35 (by decide) ?_
        obtain ⟨rfl, rfl⟩ := pr_s hf
        exact z_iret C Z dX12_act_58
    · replace hf := ite_t hf hc7
      refine lv_iconst (v := 0) C.x C.b dX12_act_23 (by decide) ?_
      obtain ⟨rfl, rfl⟩ := pr_s hf
      exact z_iret C Z dX12_act_24
theorem dX12_trace_0 : decode cX12_trace 0 = .ok (.aload_n 0, 1) := by decide +kernel
theorem dX12_trace_1 : decode cX12_trace 1 = .ok (.iload_n 1, 1) := by decide +kernel
theorem dX12_trace_2 : decode cX12_trace 2 = .ok (.iconst 0, 1) := by decide +kernel
theorem dX12_trace_3 : decode cX12_trace 3 = .ok (.bipush 19, 2) := by decide +kernel
theorem dX12_trace_5 : decode cX12_trace 5 = .ok (.invokevirtual 3, 3) := by decide +kernel
theorem dX12_trace_8 : decode cX12_trace 8 = .ok (.ifCond .eq 20, 3) := by decide +kernel
theorem dX12_trace_11 : decode cX12_trace 11 = .ok (.iload_n 1, 1) := by decide +kernel
theorem dX12_trace_12 : decode cX12_trace 12 = .ok (.aload_n 0, 1) := by decide +kernel
theorem dX12_trace_13 : decode cX12_trace 13 = .ok (.getfield 218, 3) := by decide +kernel
theorem dX12_trace_16 : decode cX12_trace 16 = .ok (.if_icmp .ge 12, 3) := by decide +kernel
theorem dX12_trace_19 : decode cX12_trace 19 = .ok (.aload_n 0, 1) := by decide +kernel
theorem dX12_trace_20 : decode cX12_trace 20 = .ok (.getfield 221, 3) := by decide +kernel
theorem dX12_trace_23 : decode cX12_trace 23 = .ok (.iload_n 1, 1) := by decide +kernel
theorem dX12_trace_24 : decode cX12_trace 24 = .ok (.iaload, 1) := by decide +kernel
theorem dX12_trace_25 : decode cX12_trace 25 = .ok (.goto 4, 3) := by decide +kernel
theorem dX12_trace_28 : decode cX12_trace 28 = .ok (.iconst (-1), 1) := by decide +kernel
theorem dX12_trace_29 : decode cX12_trace 29 = .ok (.ireturn, 1) := by decide +kernel
set_option maxRecDepth 100000 in
set_option maxHeartbeats 4000000 in
theorem c_X12_trace {l : Launch} {K : KG} {ad : Nat → Nat → Nat} {fl : Nat} {a1 : Int32} {M0 : Mem} {r9 : Int32} {M9 : Mem} (hf : f_X12_trace fl a1 M0 = some (r9, M9)) : Met l yX12_trace (Cond.code yX12_trace cX12_trace 2 (some .int) :: ztb) (RM (2) 0 0) (zPc K LM ad M0 [.ref (ad 0 0), .int a1]) (zQ K LM ad (some (.int r9)) M9) 0 0 (zA ad) := by
  refine z_enter (by decide) (Nat.le_of_ble_eq_true rfl) ?_
  intro p e s m args below meth c ls C hin hargs Z hl
  replace C : Cx p s m args meth c cX12_trace 2 "GlassPalaceModel" (some .int) := C
  replace hl : lv_has ls 2 [(0, .ref (ad 0 0)), (1, .int a1)] := hl
  have hR : 2 ≤ (RM (2) 0 0).frames ∧ 40 * (2) ≤ (RM (2) 0 0).locals := ⟨Nat.le_refl _, Nat.le_refl _⟩
  have hB : 0 ≤ (RM (2) 0 0).cells ∧ 0 ≤ (RM (2) 0 0).slots := ⟨Nat.zero_le _, Nat.zero_le _⟩
  unfold f_X12_trace at hf
  refine lv_aload_n C.x C.b dX12_trace_0 rfl (lv_at hl 0 rfl) ?_
  refine lv_iload_n C.x C.b dX12_trace_1 rfl (lv_at hl 1 rfl) ?_
  refine lv_iconst (v := 0) C.x C.b dX12_trace_2 (by decide) ?_
  refine lv_bipush (v := 19) C.x C.b dX12_trace_3 (by decide) ?_
  replace hf := bn2_s hf; obtain ⟨v2, m1, hkm1, hf⟩ := hf
  refine z_cV (As := [.int a1, .int 0, .int 19]) (rest := []) (st1 := [.int v2]) C Z mw_X12_in mv_X12_in k_1398 (by decide) (z_hR hR (by decide)) (lvM0 Nat.zero_lt_one) kM0 zc12 (c_X12_in (l := l) (K := K) (ad := ad) hkm1) rfl hl.1 rfl (Nat.le_of_ble_eq_true rfl) dX12_trace_5 hB rfl (fun H locs Z => ?_)
  refine lv_if_eq (tgt := 28) C.x C.b dX12_trace_8 (by decide) (fun hc3 => ?_) (fun hc3 => ?_)
  · replace hf := ite_t hf hc3
    refine lv_iconst (v := (-1)) C.x C.b dX12_trace_28 (by decide) ?_
    obtain ⟨rfl, rfl⟩ := pr_s hf
    exact z_iret C Z dX12_trace_29
  · replace hf := ite_f hf hc3
    refine lv_iload_n C.x C.b dX12_trace_11 rfl (lv_at hl 1 rfl) ?_
    refine lv_aload_n C.x C.b dX12_trace_12 rfl (lv_at hl 0 rfl) ?_
    refine z_get C Z (lvM0 Nat.zero_lt_one) kM0 zc12 zin12 66 (by decide) k_1242 rfl svM0_66 dX12_trace_13 ?_
    refine lv_icmp_ge (tgt := 28) C.x C.b dX12_trace_16 (by decide) (fun hc4 => ?_) (fun hc4 => ?_)
    · replace hf := ite_t hf hc4
      refine lv_iconst (v := (-1)) C.x C.b dX12_trace_28 (by decide) ?_
      obtain ⟨rfl, rfl⟩ := pr_s hf
      exact z_iret C Z dX12_trace_29
    · replace hf := ite_f hf hc4
      refine lv_aload_n C.x C.b dX12_trace_19 rfl (lv_at hl 0 rfl) ?_
      refine z_get C Z (lvM0 Nat.zero_lt_one) kM0 zc12 zin12 67 (by decide) k_1243 rfl svM0_67 dX12_trace_20 ?_
      refine lv_iload_n C.x C.b dX12_trace_23 rfl (lv_at hl 1 rfl) ?_
      replace hf := asr_s hf; obtain ⟨hq5, hf⟩ := hf
      refine z_iald C Z (lvM51 Nat.zero_lt_one) kM51 hq5 svM51 dX12_trace_24 ?_
      refine lv_goto (tgt := 29) C.x C.b dX12_trace_25 (by decide) ?_
      obtain ⟨rfl, rfl⟩ := pr_s hf
      exact z_iret C Z dX12_trace_29
