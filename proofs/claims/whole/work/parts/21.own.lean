theorem dX9_holds_0 : decode cX9_holds 0 = .ok (.iconst 0, 1) := by decide +kernel
theorem dX9_holds_1 : decode cX9_holds 1 = .ok (.istore_n 3, 1) := by decide +kernel
theorem dX9_holds_2 : decode cX9_holds 2 = .ok (.iload_n 1, 1) := by decide +kernel
theorem dX9_holds_3 : decode cX9_holds 3 = .ok (.iconst 0, 1) := by decide +kernel
theorem dX9_holds_4 : decode cX9_holds 4 = .ok (.invokestatic 32, 3) := by decide +kernel
theorem dX9_holds_7 : decode cX9_holds 7 = .ok (.istore 4, 2) := by decide +kernel
theorem dX9_holds_9 : decode cX9_holds 9 = .ok (.iload 4, 2) := by decide +kernel
theorem dX9_holds_11 : decode cX9_holds 11 = .ok (.aload_n 0, 1) := by decide +kernel
theorem dX9_holds_12 : decode cX9_holds 12 = .ok (.getfield 25, 3) := by decide +kernel
theorem dX9_holds_15 : decode cX9_holds 15 = .ok (.if_icmp .ge 116, 3) := by decide +kernel
theorem dX9_holds_18 : decode cX9_holds 18 = .ok (.iload 4, 2) := by decide +kernel
theorem dX9_holds_20 : decode cX9_holds 20 = .ok (.bipush 100, 2) := by decide +kernel
theorem dX9_holds_22 : decode cX9_holds 22 = .ok (.if_icmp .ge 109, 3) := by decide +kernel
theorem dX9_holds_25 : decode cX9_holds 25 = .ok (.aload_n 0, 1) := by decide +kernel
theorem dX9_holds_26 : decode cX9_holds 26 = .ok (.getfield 18, 3) := by decide +kernel
theorem dX9_holds_29 : decode cX9_holds 29 = .ok (.iload 4, 2) := by decide +kernel
theorem dX9_holds_31 : decode cX9_holds 31 = .ok (.iaload, 1) := by decide +kernel
theorem dX9_holds_32 : decode cX9_holds 32 = .ok (.bipush (-4), 2) := by decide +kernel
theorem dX9_holds_34 : decode cX9_holds 34 = .ok (.if_icmp .eq 97, 3) := by decide +kernel
theorem dX9_holds_37 : decode cX9_holds 37 = .ok (.aload_n 0, 1) := by decide +kernel
theorem dX9_holds_38 : decode cX9_holds 38 = .ok (.getfield 18, 3) := by decide +kernel
theorem dX9_holds_41 : decode cX9_holds 41 = .ok (.iload 4, 2) := by decide +kernel
theorem dX9_holds_43 : decode cX9_holds 43 = .ok (.iaload, 1) := by decide +kernel
theorem dX9_holds_44 : decode cX9_holds 44 = .ok (.istore 5, 2) := by decide +kernel
theorem dX9_holds_46 : decode cX9_holds 46 = .ok (.iload 5, 2) := by decide +kernel
theorem dX9_holds_48 : decode cX9_holds 48 = .ok (.tableswitch 58 (-3) (-1) #[28, 47, 35], 28) := by decide +kernel
theorem dX9_holds_76 : decode cX9_holds 76 = .ok (.iload_n 3, 1) := by decide +kernel
theorem dX9_holds_77 : decode cX9_holds 77 = .ok (.iconst 1, 1) := by decide +kernel
theorem dX9_holds_78 : decode cX9_holds 78 = .ok (.ixor, 1) := by decide +kernel
theorem dX9_holds_79 : decode cX9_holds 79 = .ok (.istore_n 3, 1) := by decide +kernel
theorem dX9_holds_80 : decode cX9_holds 80 = .ok (.goto 45, 3) := by decide +kernel
theorem dX9_holds_83 : decode cX9_holds 83 = .ok (.iload_n 3, 1) := by decide +kernel
theorem dX9_holds_84 : decode cX9_holds 84 = .ok (.iconst 1, 1) := by decide +kernel
theorem dX9_holds_85 : decode cX9_holds 85 = .ok (.ishr, 1) := by decide +kernel
theorem dX9_holds_86 : decode cX9_holds 86 = .ok (.iload_n 3, 1) := by decide +kernel
theorem dX9_holds_87 : decode cX9_holds 87 = .ok (.bipush (-2), 2) := by decide +kernel
theorem dX9_holds_89 : decode cX9_holds 89 = .ok (.ior, 1) := by decide +kernel
theorem dX9_holds_90 : decode cX9_holds 90 = .ok (.iand, 1) := by decide +kernel
theorem dX9_holds_91 : decode cX9_holds 91 = .ok (.istore_n 3, 1) := by decide +kernel
theorem dX9_holds_92 : decode cX9_holds 92 = .ok (.goto 33, 3) := by decide +kernel
theorem dX9_holds_95 : decode cX9_holds 95 = .ok (.iload_n 3, 1) := by decide +kernel
theorem dX9_holds_96 : decode cX9_holds 96 = .ok (.iconst 1, 1) := by decide +kernel
theorem dX9_holds_97 : decode cX9_holds 97 = .ok (.ishr, 1) := by decide +kernel
theorem dX9_holds_98 : decode cX9_holds 98 = .ok (.iload_n 3, 1) := by decide +kernel
theorem dX9_holds_99 : decode cX9_holds 99 = .ok (.iconst 1, 1) := by decide +kernel
theorem dX9_holds_100 : decode cX9_holds 100 = .ok (.iand, 1) := by decide +kernel
theorem dX9_holds_101 : decode cX9_holds 101 = .ok (.ior, 1) := by decide +kernel
theorem dX9_holds_102 : decode cX9_holds 102 = .ok (.istore_n 3, 1) := by decide +kernel
theorem dX9_holds_103 : decode cX9_holds 103 = .ok (.goto 22, 3) := by decide +kernel
theorem dX9_holds_106 : decode cX9_holds 106 = .ok (.iload_n 3, 1) := by decide +kernel
theorem dX9_holds_107 : decode cX9_holds 107 = .ok (.iconst 1, 1) := by decide +kernel
theorem dX9_holds_108 : decode cX9_holds 108 = .ok (.ishl, 1) := by decide +kernel
theorem dX9_holds_109 : decode cX9_holds 109 = .ok (.iload 5, 2) := by decide +kernel
theorem dX9_holds_111 : decode cX9_holds 111 = .ok (.aload_n 2, 1) := by decide +kernel
theorem dX9_holds_112 : decode cX9_holds 112 = .ok (.invokestatic 38, 3) := by decide +kernel
theorem dX9_holds_115 : decode cX9_holds 115 = .ok (.ifCond .eq 7, 3) := by decide +kernel
theorem dX9_holds_118 : decode cX9_holds 118 = .ok (.iconst 1, 1) := by decide +kernel
theorem dX9_holds_119 : decode cX9_holds 119 = .ok (.goto 4, 3) := by decide +kernel
theorem dX9_holds_122 : decode cX9_holds 122 = .ok (.iconst 0, 1) := by decide +kernel
theorem dX9_holds_123 : decode cX9_holds 123 = .ok (.ior, 1) := by decide +kernel
theorem dX9_holds_124 : decode cX9_holds 124 = .ok (.istore_n 3, 1) := by decide +kernel
theorem dX9_holds_125 : decode cX9_holds 125 = .ok (.iinc 4 1, 3) := by decide +kernel
theorem dX9_holds_128 : decode cX9_holds 128 = .ok (.goto (-119), 3) := by decide +kernel
theorem dX9_holds_131 : decode cX9_holds 131 = .ok (.iload_n 3, 1) := by decide +kernel
theorem dX9_holds_132 : decode cX9_holds 132 = .ok (.iconst 1, 1) := by decide +kernel
theorem dX9_holds_133 : decode cX9_holds 133 = .ok (.iand, 1) := by decide +kernel
theorem dX9_holds_134 : decode cX9_holds 134 = .ok (.iconst 1, 1) := by decide +kernel
theorem dX9_holds_135 : decode cX9_holds 135 = .ok (.if_icmp .ne 7, 3) := by decide +kernel
theorem dX9_holds_138 : decode cX9_holds 138 = .ok (.iconst 1, 1) := by decide +kernel
theorem dX9_holds_139 : decode cX9_holds 139 = .ok (.goto 4, 3) := by decide +kernel
theorem dX9_holds_142 : decode cX9_holds 142 = .ok (.iconst 0, 1) := by decide +kernel
theorem dX9_holds_143 : decode cX9_holds 143 = .ok (.ireturn, 1) := by decide +kernel
set_option maxRecDepth 100000 in
set_option maxHeartbeats 4000000 in
theorem w_X9_holds_l9 {p : Program} {l : Launch} {e : Env} {R : Room} {s : State} {m : MethodId} {args : Array Value} {below : List Frame} {meth : Method} {c : Code} {cells slots : Nat} {Q : State → Prop} {K : KG} {ad : Nat → Nat → Nat} {fl : Nat} {g0 : Nat} (C : Cx p s m args meth c cX9_holds 6 "GlassPalace$Text" (some .boolean)) (hR : 2 ≤ R.frames ∧ 40 * (2) ≤ R.locals) (hB : cells ≤ R.cells ∧ slots ≤ R.slots) (hg0 : g0 < 10) : ∀ (n : Nat) (u3 : Int32) (u4 : Int32) (M0 : Mem) (H : Heap) (locs : List Loc) (ls : Array Slot), Zd K LC ad M0 s H locs → lv_has ls 6 [(0, .ref (ad 19 g0)), (2, .ref (ad 18 0)), (3, .int u3), (4, .int u4)] → ∀ (q : Int32) (Mq : Mem), f_X9_holds_l9 fl g0 n u3 u4 M0 = some (q, Mq) → (∀ (H : Heap) (locs : List Loc) (ls : Array Slot), Zd K LC ad Mq s H locs → lv_has ls 6 [(3, .int q)] → W p l e R s m args below meth c H locs cells slots Q (F0 m 131 ls [])) → W p l e R s m args below meth c H locs cells slots Q (F0 m 9 ls []) := by
  intro n
  induction n with
  | zero =>
    intro u3 u4 M0 H locs ls Z hl q Mq hf
    have hf : (none : Option (Int32 × Mem)) = some (q, Mq) := hf
    cases hf
  | succ n ih =>
    intro u3 u4 M0 H locs ls Z hl q Mq hf kx0
    replace hf : f_X9_holds_l9_b (f_X9_holds_l9 fl g0 n) fl g0 u3 u4 M0 = some (q, Mq) := hf
    unfold f_X9_holds_l9_b at hf
    refine lv_iload C.x C.b dX9_holds_9 (lv_at hl 3 rfl) ?_
    refine lv_aload_n C.x C.b dX9_holds_11 rfl (lv_at hl 0 rfl) ?_
    refine z_get C Z (lvC19 hg0) kC19 zc9 zin9 1 (by decide) k_171 rfl svC19_1 dX9_holds_12 ?_
    refine lv_icmp_ge (tgt := 131) C.x C.b dX9_holds_15 (by decide) (fun hc2 => ?_) (fun hc2 => ?_)
    · replace hf := ite_t hf hc2
      obtain ⟨rfl, rfl⟩ := pr_s hf
      exact kx0 _ _ _ Z (lv_sub hl [2] rfl)
    · replace hf := ite_f hf hc2
      refine lv_iload C.x C.b dX9_holds_18 (lv_at hl 3 rfl) ?_
      refine lv_bipush (v := 100) C.x C.b dX9_holds_20 (by decide) ?_
      refine lv_icmp_ge (tgt := 131) C.x C.b dX9_holds_22 (by decide) (fun hc3 => ?_) (fun hc3 => ?_)
      · replace hf := ite_t hf hc3
        obtain ⟨rfl, rfl⟩ := pr_s hf
        exact kx0 _ _ _ Z (lv_sub hl [2] rfl)
      · replace hf := ite_f hf hc3
        refine lv_aload_n C.x C.b dX9_holds_25 rfl (lv_at hl 0 rfl) ?_
        refine z_get C Z (lvC19 hg0) kC19 zc9 zin9 5 (by decide) k_176 rfl svC19_5 dX9_holds_26 ?_
        refine lv_iload C.x C.b dX9_holds_29 (lv_at hl 3 rfl) ?_
        replace hf := asr_s hf; obtain ⟨hq4, hf⟩ := hf
        refine z_iald C Z (lvC22 hg0) kC22 hq4 svC22 dX9_holds_31 ?_
        refine lv_bipush (v := (-4)) C.x C.b dX9_holds_32 (by decide) ?_
        refine lv_icmp_eq (tgt := 131) C.x C.b dX9_holds_34 (by decide) (fun hc5 => ?_) (fun hc5 => ?_)
        · replace hf := ite_t hf hc5
          obtain ⟨rfl, rfl⟩ := pr_s hf
          exact kx0 _ _ _ Z (lv_sub hl [2] rfl)
        · replace hf := ite_f hf hc5
          refine lv_aload_n C.x C.b dX9_holds_37 rfl (lv_at hl 0 rfl) ?_
          refine z_get C Z (lvC19 hg0) kC19 zc9 zin9 5 (by decide) k_176 rfl svC19_5 dX9_holds_38 ?_
          refine lv_iload C.x C.b dX9_holds_41 (lv_at hl 3 rfl) ?_
          replace hf := asr_s hf; obtain ⟨hq6, hf⟩ := hf
          refine z_iald C Z (lvC22 hg0) kC22 hq6 svC22 dX9_holds_43 ?_
          replace hf := lt1_s hf; obtain ⟨x7, ex7, hf⟩ := hf
          refine z_renI ex7 ?_
          refine z_istore (lv' := [(5, .int x7), (0, .ref (ad 19 g0)), (2, .ref (ad 18 0)), (3, .int u3), (4, .int u4)]) C dX9_holds_44 hl (by decide) rfl (onlast 3 rfl rfl rfl) (fun ls hl => ?_)
          refine lv_iload C.x C.b dX9_holds_46 (lv_at hl 0 rfl) ?_
          by_cases hx8 : x7 = (-3)
          · replace hf := ite_t hf hx8
            refine lv_tableIn (tgt := 76) C.x C.b dX9_holds_48 (by rw [hx8]; decide) (by rw [hx8]; decide) (by rw [hx8]; rfl) (by decide) ?_
            refine lv_iload_n C.x C.b dX9_holds_76 rfl (lv_at hl 3 rfl) ?_
            refine lv_iconst (v := 1) C.x C.b dX9_holds_77 (by decide) ?_
            refine lv_ixor C.x C.b dX9_holds_78 ?_
            replace hf := lt1_s hf; obtain ⟨x9, ex9, hf⟩ := hf
            refine z_renI ex9 ?_
            refine z_istore_n (lv' := [(3, .int x9), (5, .int x7), (0, .ref (ad 19 g0)), (2, .ref (ad 18 0)), (4, .int u4)]) C dX9_holds_79 rfl hl (by decide) rfl (onlast 2 rfl rfl rfl) (fun ls hl => ?_)
            refine lv_goto (tgt := 125) C.x C.b dX9_holds_80 (by decide) ?_
            replace hf := lt1_s hf; obtain ⟨x10, ex10, hf⟩ := hf
            refine z_iinc (v := x10) (lv' := [(4, .int x10), (3, .int x9), (5, .int x7), (0, .ref (ad 19 g0)), (2, .ref (ad 18 0))]) C dX9_holds_125 hl (k := 4) rfl (by rw [ex10]; rfl) (by decide) rfl (onlast 0 rfl rfl rfl) (fun ls hl => ?_)
            refine lv_goto (tgt := 9) C.x C.b dX9_holds_128 (by decide) ?_
            exact ih _ _ _ _ _ _ Z (lv_sub hl [3, 4, 1, 0] rfl) _ _ hf kx0
          replace hf := ite_f hf hx8
          by_cases hx11 : x7 = (-2)
          · replace hf := ite_t hf hx11
            refine lv_tableIn (tgt := 95) C.x C.b dX9_holds_48 (by rw [hx11]; decide) (by rw [hx11]; decide) (by rw [hx11]; rfl) (by decide) ?_
            refine lv_iload_n C.x C.b dX9_holds_95 rfl (lv_at hl 3 rfl) ?_
            refine lv_iconst (v := 1) C.x C.b dX9_holds_96 (by decide) ?_
            refine z_ishr C dX9_holds_97 ?_
            refine lv_iload_n C.x C.b dX9_holds_98 rfl (lv_at hl 3 rfl) ?_
            refine lv_iconst (v := 1) C.x C.b dX9_holds_99 (by decide) ?_
            refine lv_iand C.x C.b dX9_holds_100 ?_
            refine lv_ior C.x C.b dX9_holds_101 ?_
            replace hf := lt1_s hf; obtain ⟨x12, ex12, hf⟩ := hf
            refine z_renI ex12 ?_
            refine z_istore_n (lv' := [(3, .int x12), (5, .int x7), (0, .ref (ad 19 g0)), (2, .ref (ad 18 0)), (4, .int u4)]) C dX9_holds_102 rfl hl (by decide) rfl (onlast 2 rfl rfl rfl) (fun ls hl => ?_)
            refine lv_goto (tgt := 125) C.x C.b dX9_holds_103 (by decide) ?_
            replace hf := lt1_s hf; obtain ⟨x13, ex13, hf⟩ := hf
            refine z_iinc (v := x13) (lv' := [(4, .int x13), (3, .int x12), (5, .int x7), (0, .ref (ad 19 g0)), (2, .ref (ad 18 0))]) C dX9_holds_125 hl (k := 4) rfl (by rw [ex13]; rfl) (by decide) rfl (onlast 0 rfl rfl rfl) (fun ls hl => ?_)
            refine lv_goto (tgt := 9) C.x C.b dX9_holds_128 (by decide) ?_
            exact ih _ _ _ _ _ _ Z (lv_sub hl [3, 4, 1, 0] rfl) _ _ hf kx0
          replace hf := ite_f hf hx11
          by_cases hx14 : x7 = (-1)
          · replace hf := ite_t hf hx14
            refine lv_tableIn (tgt := 83) C.x C.b dX9_holds_48 (by rw [hx14]; decide) (by rw [hx14]; decide) (by rw [hx14]; rfl) (by decide) ?_
            refine lv_iload_n C.x C.b dX9_holds_83 rfl (lv_at hl 3 rfl) ?_
            refine lv_iconst (v := 1) C.x C.b dX9_holds_84 (by decide) ?_
            refine z_ishr C dX9_holds_85 ?_
            refine lv_iload_n C.x C.b dX9_holds_86 rfl (lv_at hl 3 rfl) ?_
            refine lv_bipush (v := (-2)) C.x C.b dX9_holds_87 (by decide) ?_
            refine lv_ior C.x C.b dX9_holds_89 ?_
            refine lv_iand C.x C.b dX9_holds_90 ?_
            replace hf := lt1_s hf; obtain ⟨x15, ex15, hf⟩ := hf
            refine z_renI ex15 ?_
            refine z_istore_n (lv' := [(3, .int x15), (5, .int x7), (0, .ref (ad 19 g0)), (2, .ref (ad 18 0)), (4, .int u4)]) C dX9_holds_91 rfl hl (by decide) rfl (onlast 2 rfl rfl rfl) (fun ls hl => ?_)
            refine lv_goto (tgt := 125) C.x C.b dX9_holds_92 (by decide) ?_
            replace hf := lt1_s hf; obtain ⟨x16, ex16, hf⟩ := hf
            refine z_iinc (v := x16) (lv' := [(4, .int x16), (3, .int x15), (5, .int x7), (0, .ref (ad 19 g0)), (2, .ref (ad 18 0))]) C dX9_holds_125 hl (k := 4) rfl (by rw [ex16]; rfl) (by decide) rfl (onlast 0 rfl rfl rfl) (fun ls hl => ?_)
            refine lv_goto (tgt := 9) C.x C.b dX9_holds_128 (by decide) ?_
            exact ih _ _ _ _ _ _ Z (lv_sub hl [3, 4, 1, 0] rfl) _ _ hf kx0
          replace hf := ite_f hf hx14
          refine lv_tableOut (tgt := 106) C.x C.b dX9_holds_48 (tab_out (fun k h1 h2 => by rcases (show k = -3 ∨ k = -2 ∨ k = -1 by omega) with rfl | rfl | rfl <;> assumption)) (by decide) ?_
          refine lv_iload_n C.x C.b dX9_holds_106 rfl (lv_at hl 3 rfl) ?_
          refine lv_iconst (v := 1) C.x C.b dX9_holds_107 (by decide) ?_
          refine z_ishl C dX9_holds_108 ?_
          refine lv_iload C.x C.b dX9_holds_109 (lv_at hl 0 rfl) ?_
          refine lv_aload_n C.x C.b dX9_holds_111 rfl (lv_at hl 2 rfl) ?_
          replace hf := bn2_s hf; obtain ⟨v18, m17, hkm17, hf⟩ := hf
          refine z_cS (As := [.int x7, .ref (ad 18 0)]) (rest := [.int (jshl u3 1)]) (st1 := [.int v18, .int (jshl u3 1)]) C Z mw_X9_testHolds mv_X9_testHolds k_564 (by decide) (z_hR hR (by decide)) (c_X9_testHolds (l := l) (K := K) (ad := ad) hkm17) rfl hl.1 rfl (Nat.le_of_ble_eq_true rfl) dX9_holds_112 hB rfl (fun H locs Z => ?_)
          refine lv_if_eq (tgt := 122) C.x C.b dX9_holds_115 (by decide) (fun hc19 => ?_) (fun hc19 => ?_)
          · replace hf := ite_t hf hc19
            refine lv_iconst (v := 0) C.x C.b dX9_holds_122 (by decide) ?_
            refine lv_ior C.x C.b dX9_holds_123 ?_
            replace hf := lt1_s hf; obtain ⟨x20, ex20, hf⟩ := hf
            refine z_renI ex20 ?_
            refine z_istore_n (lv' := [(3, .int x20), (5, .int x7), (0, .ref (ad 19 g0)), (2, .ref (ad 18 0)), (4, .int u4)]) C dX9_holds_124 rfl hl (by decide) rfl (onlast 2 rfl rfl rfl) (fun ls hl => ?_)
            replace hf := lt1_s hf; obtain ⟨x21, ex21, hf⟩ := hf
            refine z_iinc (v := x21) (lv' := [(4, .int x21), (3, .int x20), (5, .int x7), (0, .ref (ad 19 g0)), (2, .ref (ad 18 0))]) C dX9_holds_125 hl (k := 4) rfl (by rw [ex21]; rfl) (by decide) rfl (onlast 0 rfl rfl rfl) (fun ls hl => ?_)
            refine lv_goto (tgt := 9) C.x C.b dX9_holds_128 (by decide) ?_
            exact ih _ _ _ _ _ _ Z (lv_sub hl [3, 4, 1, 0] rfl) _ _ hf kx0
          · replace hf := ite_f hf hc19
            refine lv_iconst (v := 1) C.x C.b dX9_holds_118 (by decide) ?_
            refine lv_goto (tgt := 123) C.x C.b dX9_holds_119 (by decide) ?_
            refine lv_ior C.x C.b dX9_holds_123 ?_
            replace hf := lt1_s hf; obtain ⟨x22, ex22, hf⟩ := hf
            refine z_renI ex22 ?_
            refine z_istore_n (lv' := [(3, .int x22), (5, .int x7), (0, .ref (ad 19 g0)), (2, .ref (ad 18 0)), (4, .int u4)]) C dX9_holds_124 rfl hl (by decide) rfl (onlast 2 rfl rfl rfl) (fun ls hl => ?_)
            replace hf := lt1_s hf; obtain ⟨x23, ex23, hf⟩ := hf
            refine z_iinc (v := x23) (lv' := [(4, .int x23), (3, .int x22), (5, .int x7), (0, .ref (ad 19 g0)), (2, .ref (ad 18 0))]) C dX9_holds_125 hl (k := 4) rfl (by rw [ex23]; rfl) (by decide) rfl (onlast 0 rfl rfl rfl) (fun ls hl => ?_)
            refine lv_goto (tgt := 9) C.x C.b dX9_holds_128 (by decide) ?_
            exact ih _ _ _ _ _ _ Z (lv_sub hl [3, 4, 1, 0] rfl) _ _ hf kx0
set_option maxRecDepth 100000 in
set_option maxHeartbeats 4000000 in
theorem w_X9_holds_b131 {p : Program} {l : Launch} {e : Env} {s : State} {m : MethodId} {args : Array Value} {below : List Frame} {meth : Method} {c : Code} {K : KG} {ad : Nat → Nat → Nat} {fl : Nat} {H : Heap} {locs : List Loc} {ls : Array Slot} {g3 : Int32} {M0 : Mem} {r9 : Int32} {M9 : Mem} (C : Cx p s m args meth c cX9_holds 6 "GlassPalace$Text" (some .boolean)) (hR : 2 ≤ (RM (2) 0 0).frames ∧ 40 * (2) ≤ (RM (2) 0 0).locals) (hB : 0 ≤ (RM (2) 0 0).cells ∧ 0 ≤ (RM (2) 0 0).slots) (Z : Zd K LC ad M0 s H locs) (hl : lv_has ls 6 [(3, .int g3)]) (hf : f_X9_holds_b131 fl g3 M0 = some (r9, M9)) : W p l e (RM (2) 0 0) s m args below meth c H locs 0 0 (MQ below (zQ K LC ad (some (.int r9)) M9) args s 0 0 (zA ad)) (F0 m 131 ls []) := by
  unfold f_X9_holds_b131 at hf
  refine lv_iload_n C.x C.b dX9_holds_131 rfl (lv_at hl 0 rfl) ?_
  refine lv_iconst (v := 1) C.x C.b dX9_holds_132 (by decide) ?_
  refine lv_iand C.x C.b dX9_holds_133 ?_
  refine lv_iconst (v := 1) C.x C.b dX9_holds_134 (by decide) ?_
  refine lv_icmp_ne (tgt := 142) C.x C.b dX9_holds_135 (by decide) (fun hc26 => ?_) (fun hc26 => ?_)
  · replace hf := ite_f hf hc26
    refine lv_iconst (v := 0) C.x C.b dX9_holds_142 (by decide) ?_
    obtain ⟨rfl, rfl⟩ := pr_s hf
    exact z_zret C Z rfl dX9_holds_143
  · replace hf := ite_t hf hc26
    refine lv_iconst (v := 1) C.x C.b dX9_holds_138 (by decide) ?_
    refine lv_goto (tgt := 143) C.x C.b dX9_holds_139 (by decide) ?_
    obtain ⟨rfl, rfl⟩ := pr_s hf
    exact z_zret C Z rfl dX9_holds_143
set_option maxRecDepth 100000 in
set_option maxHeartbeats 4000000 in
theorem c_X9_holds {l : Launch} {K : KG} {ad : Nat → Nat → Nat} {fl : Nat} {o : Nat} {a1 : Int32} {M0 : Mem} {r9 : Int32} {M9 : Mem} (ho : o < 10) (hf : f_X9_holds fl o a1 M0 = some (r9, M9)) : Met l yX9_holds (Cond.code yX9_holds cX9_holds 6 (some .boolean) :: ztb) (RM (2) 0 0) (zPc K LC ad M0 [.ref (ad 19 o), .int a1, .ref (ad 18 0)]) (zQ K LC ad (some (.int r9)) M9) 0 0 (zA ad) := by
  refine z_enter (by decide) (Nat.le_of_ble_eq_true rfl) ?_
  intro p e s m args below meth c ls C hin hargs Z hl
  replace C : Cx p s m args meth c cX9_holds 6 "GlassPalace$Text" (some .boolean) := C
  replace hl : lv_has ls 6 [(0, .ref (ad 19 o)), (1, .int a1), (2, .ref (ad 18 0))] := hl
  have hR : 2 ≤ (RM (2) 0 0).frames ∧ 40 * (2) ≤ (RM (2) 0 0).locals := ⟨Nat.le_refl _, Nat.le_refl _⟩
  have hB : 0 ≤ (RM (2) 0 0).cells ∧ 0 ≤ (RM (2) 0 0).slots := ⟨Nat.zero_le _, Nat.zero_le _⟩
  unfold f_X9_holds at hf
  refine lv_iconst (v := 0) C.x C.b dX9_holds_0 (by decide) ?_
  refine z_istore_n (lv' := [(3, .int 0), (0, .ref (ad 19 o)), (1, .int a1), (2, .ref (ad 18 0))]) C dX9_holds_1 rfl hl (by decide) rfl (onlast 2 rfl rfl rfl) (fun ls hl => ?_)
  refine lv_iload_n C.x C.b dX9_holds_2 rfl (lv_at hl 2 rfl) ?_
  refine lv_iconst (v := 0) C.x C.b dX9_holds_3 (by decide) ?_
  refine z_max C k_561 k_562 k_115 k_563 hl.1 hR (by decide) (Nat.le_of_ble_eq_true rfl) hB dX9_holds_4 ?_
  replace hf := lt1_s hf; obtain ⟨x1, ex1, hf⟩ := hf
  refine z_renI ex1 ?_
  refine z_istore (lv' := [(4, .int x1), (3, .int 0), (0, .ref (ad 19 o)), (1, .int a1), (2, .ref (ad 18 0))]) C dX9_holds_7 hl (by decide) rfl (onlast 0 rfl rfl rfl) (fun ls hl => ?_)
  replace hf := bn2_s hf; obtain ⟨q24, m25, hq24, hf⟩ := hf
  refine w_X9_holds_l9 C hR hB ho fl _ _ _ _ _ _ Z (lv_sub hl [2, 4, 1, 0] rfl) _ _ hq24 (fun H locs ls Z hl => ?_)
  exact w_X9_holds_b131 C hR hB  Z (lv_sub hl [0] rfl) hf
theorem dX3_holdsFor_0 : decode cX3_holdsFor 0 = .ok (.aload_n 0, 1) := by decide +kernel
theorem dX3_holdsFor_1 : decode cX3_holdsFor 1 = .ok (.aload_n 0, 1) := by decide +kernel
theorem dX3_holdsFor_2 : decode cX3_holdsFor 2 = .ok (.iload_n 1, 1) := by decide +kernel
theorem dX3_holdsFor_3 : decode cX3_holdsFor 3 = .ok (.iload_n 2, 1) := by decide +kernel
theorem dX3_holdsFor_4 : decode cX3_holdsFor 4 = .ok (.invokevirtual 33, 3) := by decide +kernel
theorem dX3_holdsFor_7 : decode cX3_holdsFor 7 = .ok (.invokevirtual 37, 3) := by decide +kernel
theorem dX3_holdsFor_10 : decode cX3_holdsFor 10 = .ok (.astore_n 3, 1) := by decide +kernel
theorem dX3_holdsFor_11 : decode cX3_holdsFor 11 = .ok (.aload_n 3, 1) := by decide +kernel
theorem dX3_holdsFor_12 : decode cX3_holdsFor 12 = .ok (.ifnull 27, 3) := by decide +kernel
theorem dX3_holdsFor_15 : decode cX3_holdsFor 15 = .ok (.aload_n 3, 1) := by decide +kernel
theorem dX3_holdsFor_16 : decode cX3_holdsFor 16 = .ok (.aload_n 3, 1) := by decide +kernel
theorem dX3_holdsFor_17 : decode cX3_holdsFor 17 = .ok (.aload_n 3, 1) := by decide +kernel
theorem dX3_holdsFor_18 : decode cX3_holdsFor 18 = .ok (.iload_n 1, 1) := by decide +kernel
theorem dX3_holdsFor_19 : decode cX3_holdsFor 19 = .ok (.invokevirtual 29, 3) := by decide +kernel
theorem dX3_holdsFor_22 : decode cX3_holdsFor 22 = .ok (.invokevirtual 41, 3) := by decide +kernel
theorem dX3_holdsFor_25 : decode cX3_holdsFor 25 = .ok (.aload_n 0, 1) := by decide +kernel
theorem dX3_holdsFor_26 : decode cX3_holdsFor 26 = .ok (.getfield 17, 3) := by decide +kernel
theorem dX3_holdsFor_29 : decode cX3_holdsFor 29 = .ok (.invokevirtual 66, 3) := by decide +kernel
theorem dX3_holdsFor_32 : decode cX3_holdsFor 32 = .ok (.ifCond .eq 7, 3) := by decide +kernel
theorem dX3_holdsFor_35 : decode cX3_holdsFor 35 = .ok (.iconst 1, 1) := by decide +kernel
theorem dX3_holdsFor_36 : decode cX3_holdsFor 36 = .ok (.goto 4, 3) := by decide +kernel
theorem dX3_holdsFor_39 : decode cX3_holdsFor 39 = .ok (.iconst 0, 1) := by decide +kernel
theorem dX3_holdsFor_40 : decode cX3_holdsFor 40 = .ok (.ireturn, 1) := by decide +kernel
set_option maxRecDepth 100000 in
set_option maxHeartbeats 4000000 in
theorem c_X3_holdsFor {l : Launch} {K : KG} {ad : Nat → Nat → Nat} {fl : Nat} {a1 : Int32} {a2 : Int32} {M0 : Mem} {r9 : Int32} {M9 : Mem} (hf : f_X3_holdsFor fl a1 a2 M0 = some (r9, M9)) : Met l yX3_holdsFor (Cond.code yX3_holdsFor cX3_holdsFor 4 (some .boolean) :: ztb) (RM (3) 0 0) (zPc K LC ad M0 [.ref (ad 6 0), .int a1, .int a2]) (zQ K LC ad (some (.int r9)) M9) 0 0 (zA ad) := by
  refine z_enter (by decide) (Nat.le_of_ble_eq_true rfl) ?_
  intro p e s m args below meth c ls C hin hargs Z hl
  replace C : Cx p s m args meth c cX3_holdsFor 4 "GlassPalace$Laws" (some .boolean) := C
  replace hl : lv_has ls 4 [(0, .ref (ad 6 0)), (1, .int a1), (2, .int a2)] := hl
  have hR : 3 ≤ (RM (3) 0 0).frames ∧ 40 * (3) ≤ (RM (3) 0 0).locals := ⟨Nat.le_refl _, Nat.le_refl _⟩
  have hB : 0 ≤ (RM (3) 0 0).cells ∧ 0 ≤ (RM (3) 0 0).slots := ⟨Nat.zero_le _, Nat.zero_le _⟩
  unfold f_X3_holdsFor at hf
  refine lv_aload_n C.x C.b dX3_holdsFor_0 rfl (lv_at hl 0 rfl) ?_
  refine lv_aload_n C.x C.b dX3_holdsFor_1 rfl (lv_at hl 0 rfl) ?_
  refine lv_iload_n C.x C.b dX3_holdsFor_2 rfl (lv_at hl 1 rfl) ?_
  refine lv_iload_n C.x C.b dX3_holdsFor_3 rfl (lv_at hl 2 rfl) ?_
  replace hf := bn2_s hf; obtain ⟨v2, m1, hkm1, hf⟩ := hf
  refine z_cV (As := [.int a1, .int a2]) (rest := [.ref (ad 6 0)]) (st1 := [.int v2, .ref (ad 6 0)]) C Z mw_X3_textFor mv_X3_textFor k_541 (by decide) (z_hR hR (by decide)) (lvC6 Nat.zero_lt_one) kC6 zc3 (c_X3_textFor (l := l) (K := K) (ad := ad) hkm1) rfl hl.1 rfl (Nat.le_of_ble_eq_true rfl) dX3_holdsFor_4 hB rfl (fun H locs Z => ?_)
  replace hf := bn2_s hf; obtain ⟨c4, m3, hkm3, hf⟩ := hf
  refine z_cV (As := [.int v2]) (rest := []) (st1 := [rf (ad 19) c4]) C Z mw_X3_textOf mv_X3_textOf k_549 (by decide) (z_hR hR (by decide)) (lvC6 Nat.zero_lt_one) kC6 zc3 (c_X3_textOf (l := l) (K := K) (ad := ad) hkm3) rfl hl.1 rfl (Nat.le_of_ble_eq_true rfl) dX3_holdsFor_7 hB rfl (fun H locs Z => ?_)
  refine z_cstore_n (lv' := [(3, rf (ad 19) c4), (0, .ref (ad 6 0)), (1, .int a1), (2, .int a2)]) C dX3_holdsFor_10 rfl hl (by decide) rfl (onlast 2 rfl rfl rfl) (fun ls hl => ?_)
  refine z_aload_n C dX3_holdsFor_11 rfl (lv_at hl 0 rfl) ?_
  refine z_ifnull C dX3_holdsFor_12 (tgt := 39) (by decide) (fun hc5 => ?_) (fun hc5 => ?_)
  · replace hf := ite_t hf hc5
    refine lv_iconst (v := 0) C.x C.b dX3_holdsFor_39 (by decide) ?_
    obtain ⟨rfl, rfl⟩ := pr_s hf
    exact z_zret C Z rfl dX3_holdsFor_40
  · replace hf := ite_f hf hc5
    refine z_aload_n C dX3_holdsFor_15 rfl (lv_at hl 0 rfl) ?_
    refine z_aload_n C dX3_holdsFor_16 rfl (lv_at hl 0 rfl) ?_
    refine z_aload_n C dX3_holdsFor_17 rfl (lv_at hl 0 rfl) ?_
    refine lv_iload_n C.x C.b dX3_holdsFor_18 rfl (lv_at hl 2 rfl) ?_
    replace hf := drf_s hf; obtain ⟨j6, ej8, hj7, hf⟩ := hf
    subst ej8
    refine z_nn [.int a1] (y := j6 + 1) rfl ?_
    replace hf := bn2_s hf; obtain ⟨v10, m9, hkm9, hf⟩ := hf
    refine z_cV (As := [.int a1]) (rest := [.ref (ad 19 j6), .ref (ad 19 j6)]) (st1 := [.int v10, .ref (ad 19 j6), .ref (ad 19 j6)]) C Z mw_X9_lastClauseOf mv_X9_lastClauseOf k_545 (by decide) (z_hR hR (by decide)) (lvC19 hj7) kC19 zc9 (c_X9_lastClauseOf (l := l) (K := K) (ad := ad) hj7 hkm9) rfl hl.1 rfl (Nat.le_of_ble_eq_true rfl) dX3_holdsFor_19 hB rfl (fun H locs Z => ?_)
    replace hf := bn2_s hf; obtain ⟨v12, m11, hkm11, hf⟩ := hf
    refine z_cV (As := [.int v10]) (rest := [.ref (ad 19 j6)]) (st1 := [.int v12, .ref (ad 19 j6)]) C Z mw_X9_valueOf mv_X9_valueOf k_553 (by decide) (z_hR hR (by decide)) (lvC19 hj7) kC19 zc9 (c_X9_valueOf (l := l) (K := K) (ad := ad) hj7 hkm11) rfl hl.1 rfl (Nat.le_of_ble_eq_true rfl) dX3_holdsFor_22 hB rfl (fun H locs Z => ?_)
    refine lv_aload_n C.x C.b dX3_holdsFor_25 rfl (lv_at hl 1 rfl) ?_
    refine z_get C Z (lvC6 Nat.zero_lt_one) kC6 zc3 zin3 2 (by decide) k_193 rfl svC6_2 dX3_holdsFor_26 ?_
    replace hf := bn2_s hf; obtain ⟨v14, m13, hkm13, hf⟩ := hf
    refine z_cV (As := [.int v12, .ref (ad 18 0)]) (rest := []) (st1 := [.int v14]) C Z mw_X9_holds mv_X9_holds k_557 (by decide) (z_hR hR (by decide)) (lvC19 hj7) kC19 zc9 (c_X9_holds (l := l) (K := K) (ad := ad) hj7 hkm13) rfl hl.1 rfl (Nat.le_of_ble_eq_true rfl) dX3_holdsFor_29 hB rfl (fun H locs Z => ?_)
    refine lv_if_eq (tgt := 39) C.x C.b dX3_holdsFor_32 (by decide) (fun hc15 => ?_) (fun hc15 => ?_)
    · replace hf := ite_t hf hc15
      refine lv_iconst (v := 0) C.x C.b dX3_holdsFor_39 (by decide) ?_
      obtain ⟨rfl, rfl⟩ := pr_s hf
      exact z_zret C Z rfl dX3_holdsFor_40
    · replace hf := ite_f hf hc15
      refine lv_iconst (v := 1) C.x C.b dX3_holdsFor_35 (by decide) ?_
      refine lv_goto (tgt := 40) C.x C.b dX3_holdsFor_36 (by decide) ?_
      obtain ⟨rfl, rfl⟩ := pr_s hf
      exact z_zret C Z rfl dX3_holdsFor_40
theorem dX3_mayCut_0 : decode cX3_mayCut 0 = .ok (.aload_n 0, 1) := by decide +kernel
theorem dX3_mayCut_1 : decode cX3_mayCut 1 = .ok (.getfield 17, 3) := by decide +kernel
theorem dX3_mayCut_4 : decode cX3_mayCut 4 = .ok (.iconst 0, 1) := by decide +kernel
theorem dX3_mayCut_5 : decode cX3_mayCut 5 = .ok (.aload_n 1, 1) := by decide +kernel
theorem dX3_mayCut_6 : decode cX3_mayCut 6 = .ok (.getfield 47, 3) := by decide +kernel
theorem dX3_mayCut_9 : decode cX3_mayCut 9 = .ok (.iastore, 1) := by decide +kernel
theorem dX3_mayCut_10 : decode cX3_mayCut 10 = .ok (.aload_n 0, 1) := by decide +kernel
theorem dX3_mayCut_11 : decode cX3_mayCut 11 = .ok (.getfield 17, 3) := by decide +kernel
theorem dX3_mayCut_14 : decode cX3_mayCut 14 = .ok (.iconst 1, 1) := by decide +kernel
theorem dX3_mayCut_15 : decode cX3_mayCut 15 = .ok (.aload_n 1, 1) := by decide +kernel
theorem dX3_mayCut_16 : decode cX3_mayCut 16 = .ok (.getfield 52, 3) := by decide +kernel
theorem dX3_mayCut_19 : decode cX3_mayCut 19 = .ok (.iastore, 1) := by decide +kernel
theorem dX3_mayCut_20 : decode cX3_mayCut 20 = .ok (.aload_n 0, 1) := by decide +kernel
theorem dX3_mayCut_21 : decode cX3_mayCut 21 = .ok (.getfield 17, 3) := by decide +kernel
theorem dX3_mayCut_24 : decode cX3_mayCut 24 = .ok (.iconst 2, 1) := by decide +kernel
theorem dX3_mayCut_25 : decode cX3_mayCut 25 = .ok (.aload_n 1, 1) := by decide +kernel
theorem dX3_mayCut_26 : decode cX3_mayCut 26 = .ok (.invokevirtual 55, 3) := by decide +kernel
theorem dX3_mayCut_29 : decode cX3_mayCut 29 = .ok (.iastore, 1) := by decide +kernel
theorem dX3_mayCut_30 : decode cX3_mayCut 30 = .ok (.aload_n 0, 1) := by decide +kernel
theorem dX3_mayCut_31 : decode cX3_mayCut 31 = .ok (.getfield 17, 3) := by decide +kernel
theorem dX3_mayCut_34 : decode cX3_mayCut 34 = .ok (.iconst 3, 1) := by decide +kernel
theorem dX3_mayCut_35 : decode cX3_mayCut 35 = .ok (.aload_n 1, 1) := by decide +kernel
theorem dX3_mayCut_36 : decode cX3_mayCut 36 = .ok (.invokevirtual 59, 3) := by decide +kernel
theorem dX3_mayCut_39 : decode cX3_mayCut 39 = .ok (.iastore, 1) := by decide +kernel
theorem dX3_mayCut_40 : decode cX3_mayCut 40 = .ok (.aload_n 0, 1) := by decide +kernel
theorem dX3_mayCut_41 : decode cX3_mayCut 41 = .ok (.getfield 17, 3) := by decide +kernel
theorem dX3_mayCut_44 : decode cX3_mayCut 44 = .ok (.iconst 4, 1) := by decide +kernel
theorem dX3_mayCut_45 : decode cX3_mayCut 45 = .ok (.iload_n 2, 1) := by decide +kernel
theorem dX3_mayCut_46 : decode cX3_mayCut 46 = .ok (.bipush 7, 2) := by decide +kernel
theorem dX3_mayCut_48 : decode cX3_mayCut 48 = .ok (.irem, 1) := by decide +kernel
theorem dX3_mayCut_49 : decode cX3_mayCut 49 = .ok (.iastore, 1) := by decide +kernel
theorem dX3_mayCut_50 : decode cX3_mayCut 50 = .ok (.aload_n 0, 1) := by decide +kernel
theorem dX3_mayCut_51 : decode cX3_mayCut 51 = .ok (.getfield 17, 3) := by decide +kernel
theorem dX3_mayCut_54 : decode cX3_mayCut 54 = .ok (.iconst 5, 1) := by decide +kernel
theorem dX3_mayCut_55 : decode cX3_mayCut 55 = .ok (.iconst 0, 1) := by decide +kernel
theorem dX3_mayCut_56 : decode cX3_mayCut 56 = .ok (.iastore, 1) := by decide +kernel
theorem dX3_mayCut_57 : decode cX3_mayCut 57 = .ok (.aload_n 0, 1) := by decide +kernel
theorem dX3_mayCut_58 : decode cX3_mayCut 58 = .ok (.iconst 4, 1) := by decide +kernel
theorem dX3_mayCut_59 : decode cX3_mayCut 59 = .ok (.iload_n 2, 1) := by decide +kernel
theorem dX3_mayCut_60 : decode cX3_mayCut 60 = .ok (.invokevirtual 62, 3) := by decide +kernel
theorem dX3_mayCut_63 : decode cX3_mayCut 63 = .ok (.ireturn, 1) := by decide +kernel
set_option maxRecDepth 100000 in
set_option maxHeartbeats 4000000 in
theorem c_X3_mayCut {l : Launch} {K : KG} {ad : Nat → Nat → Nat} {fl : Nat} {a1 : Nat} {a2 : Int32} {M0 : Mem} {r9 : Int32} {M9 : Mem} (hf : f_X3_mayCut fl a1 a2 M0 = some (r9, M9)) : Met l yX3_mayCut (Cond.code yX3_mayCut cX3_mayCut 3 (some .boolean) :: ztb) (RM (4) 0 0) (zPc K LC ad M0 [.ref (ad 6 0), rf (ad 13) a1, .int a2]) (zQ K LC ad (some (.int r9)) M9) 0 0 (zA ad) := by
  refine z_enter (by decide) (by simp [lg_sl, rf_cat, cat_i, cat_l, cat_r, cat_n]) ?_
  intro p e s m args below meth c ls C hin hargs Z hl
  replace C : Cx p s m args meth c cX3_mayCut 3 "GlassPalace$Laws" (some .boolean) := C
  replace hl : lv_has ls 3 [(0, .ref (ad 6 0)), (1, rf (ad 13) a1), (2, .int a2)] := by simpa [lv_args, rf_cat, cat_i, cat_l, cat_r, cat_n] using hl
  have hR : 4 ≤ (RM (4) 0 0).frames ∧ 40 * (4) ≤ (RM (4) 0 0).locals := ⟨Nat.le_refl _, Nat.le_refl _⟩
  have hB : 0 ≤ (RM (4) 0 0).cells ∧ 0 ≤ (RM (4) 0 0).slots := ⟨Nat.zero_le _, Nat.zero_le _⟩
  unfold f_X3_mayCut at hf
  refine lv_aload_n C.x C.b dX3_mayCut_0 rfl (lv_at hl 0 rfl) ?_
  refine z_get C Z (lvC6 Nat.zero_lt_one) kC6 zc3 zin3 2 (by decide) k_193 rfl svC6_2 dX3_mayCut_1 ?_
  refine lv_iconst (v := 0) C.x C.b dX3_mayCut_4 (by decide) ?_
  refine z_aload_n C dX3_mayCut_5 rfl (lv_at hl 1 rfl) ?_
  replace hf := drf_s hf; obtain ⟨j1, ej3, hj2, hf⟩ := hf
  subst ej3
  refine z_nn [] (y := j1 + 1) rfl ?_
  refine z_get C Z (lvC13 hj2) kC13 zc1 zin1 2 (by decide) k_317 rfl svC13_2 dX3_mayCut_6 ?_
  replace hf := asr_s hf; obtain ⟨hq4, hf⟩ := hf
  replace hf := lt1_s hf; obtain ⟨m5, em5, hf⟩ := hf
  refine z_iast (M1 := m5) C Z (lvC18 Nat.zero_lt_one) (by decide) kC18 hq4 em5 stC18u dX3_mayCut_9 (fun H locs Z => ?_)
  refine lv_aload_n C.x C.b dX3_mayCut_10 rfl (lv_at hl 0 rfl) ?_
  refine z_get C Z (lvC6 Nat.zero_lt_one) kC6 zc3 zin3 2 (by decide) k_193 rfl svC6_2 dX3_mayCut_11 ?_
  refine lv_iconst (v := 1) C.x C.b dX3_mayCut_14 (by decide) ?_
  refine lv_aload_n C.x C.b dX3_mayCut_15 rfl (lv_at hl 1 rfl) ?_
  refine z_get C Z (lvC13 hj2) kC13 zc1 zin1 1 (by decide) k_315 rfl svC13_1 dX3_mayCut_16 ?_
  replace hf := asr_s hf; obtain ⟨hq6, hf⟩ := hf
  replace hf := lt1_s hf; obtain ⟨m7, em7, hf⟩ := hf
  refine z_iast (M1 := m7) C Z (lvC18 Nat.zero_lt_one) (by decide) kC18 hq6 em7 stC18u dX3_mayCut_19 (fun H locs Z => ?_)
  refine lv_aload_n C.x C.b dX3_mayCut_20 rfl (lv_at hl 0 rfl) ?_
  refine z_get C Z (lvC6 Nat.zero_lt_one) kC6 zc3 zin3 2 (by decide) k_193 rfl svC6_2 dX3_mayCut_21 ?_
  refine lv_iconst (v := 2) C.x C.b dX3_mayCut_24 (by decide) ?_
  refine lv_aload_n C.x C.b dX3_mayCut_25 rfl (lv_at hl 1 rfl) ?_
  replace hf := bn2_s hf; obtain ⟨v9, m8, hkm8, hf⟩ := hf
  refine z_cV (As := []) (rest := [.int 2, .ref (ad 18 0)]) (st1 := [.int v9, .int 2, .ref (ad 18 0)]) C Z mw_X1_column mv_X1_column k_668 (by decide) (z_hR hR (by decide)) (lvC13 hj2) kC13 zc1 (c_X1_column (l := l) (K := K) (ad := ad) hj2 hkm8) rfl hl.1 rfl (Nat.le_of_ble_eq_true rfl) dX3_mayCut_26 hB rfl (fun H locs Z => ?_)
  replace hf := asr_s hf; obtain ⟨hq10, hf⟩ := hf
  replace hf := lt1_s hf; obtain ⟨m11, em11, hf⟩ := hf
  refine z_iast (M1 := m11) C Z (lvC18 Nat.zero_lt_one) (by decide) kC18 hq10 em11 stC18u dX3_mayCut_29 (fun H locs Z => ?_)
  refine lv_aload_n C.x C.b dX3_mayCut_30 rfl (lv_at hl 0 rfl) ?_
  refine z_get C Z (lvC6 Nat.zero_lt_one) kC6 zc3 zin3 2 (by decide) k_193 rfl svC6_2 dX3_mayCut_31 ?_
  refine lv_iconst (v := 3) C.x C.b dX3_mayCut_34 (by decide) ?_
  refine lv_aload_n C.x C.b dX3_mayCut_35 rfl (lv_at hl 1 rfl) ?_
  replace hf := bn2_s hf; obtain ⟨v13, m12, hkm12, hf⟩ := hf
  refine z_cV (As := []) (rest := [.int 3, .ref (ad 18 0)]) (st1 := [.int v13, .int 3, .ref (ad 18 0)]) C Z mw_X1_row mv_X1_row k_669 (by decide) (z_hR hR (by decide)) (lvC13 hj2) kC13 zc1 (c_X1_row (l := l) (K := K) (ad := ad) hj2 hkm12) rfl hl.1 rfl (Nat.le_of_ble_eq_true rfl) dX3_mayCut_36 hB rfl (fun H locs Z => ?_)
  replace hf := asr_s hf; obtain ⟨hq14, hf⟩ := hf
  replace hf := lt1_s hf; obtain ⟨m15, em15, hf⟩ := hf
  refine z_iast (M1 := m15) C Z (lvC18 Nat.zero_lt_one) (by decide) kC18 hq14 em15 stC18u dX3_mayCut_39 (fun H locs Z => ?_)
  refine lv_aload_n C.x C.b dX3_mayCut_40 rfl (lv_at hl 0 rfl) ?_
  refine z_get C Z (lvC6 Nat.zero_lt_one) kC6 zc3 zin3 2 (by decide) k_193 rfl svC6_2 dX3_mayCut_41 ?_
  refine lv_iconst (v := 4) C.x C.b dX3_mayCut_44 (by decide) ?_
  refine lv_iload_n C.x C.b dX3_mayCut_45 rfl (lv_at hl 2 rfl) ?_
  refine lv_bipush (v := 7) C.x C.b dX3_mayCut_46 (by decide) ?_
  refine z_irem C dX3_mayCut_48 (by decide) ?_
  replace hf := asr_s hf; obtain ⟨hq16, hf⟩ := hf
  replace hf := lt1_s hf; obtain ⟨m17, em17, hf⟩ := hf
  refine z_iast (M1 := m17) C Z (lvC18 Nat.zero_lt_one) (by decide) kC18 hq16 em17 stC18u dX3_mayCut_49 (fun H locs Z => ?_)
  refine lv_aload_n C.x C.b dX3_mayCut_50 rfl (lv_at hl 0 rfl) ?_
  refine z_get C Z (lvC6 Nat.zero_lt_one) kC6 zc3 zin3 2 (by decide) k_193 rfl svC6_2 dX3_mayCut_51 ?_
  refine lv_iconst (v := 5) C.x C.b dX3_mayCut_54 (by decide) ?_
  refine lv_iconst (v := 0) C.x C.b dX3_mayCut_55 (by decide) ?_
  replace hf := asr_s hf; obtain ⟨hq18, hf⟩ := hf
  replace hf := lt1_s hf; obtain ⟨m19, em19, hf⟩ := hf
  refine z_iast (M1 := m19) C Z (lvC18 Nat.zero_lt_one) (by decide) kC18 hq18 em19 stC18u dX3_mayCut_56 (fun H locs Z => ?_)
  refine lv_aload_n C.x C.b dX3_mayCut_57 rfl (lv_at hl 0 rfl) ?_
  refine lv_iconst (v := 4) C.x C.b dX3_mayCut_58 (by decide) ?_
  refine lv_iload_n C.x C.b dX3_mayCut_59 rfl (lv_at hl 2 rfl) ?_
  replace hf := bn2_s hf; obtain ⟨v21, m20, hkm20, hf⟩ := hf
  refine z_cV (As := [.int 4, .int a2]) (rest := []) (st1 := [.int v21]) C Z mw_X3_holdsFor mv_X3_holdsFor k_537 (by decide) (z_hR hR (by decide)) (lvC6 Nat.zero_lt_one) kC6 zc3 (c_X3_holdsFor (l := l) (K := K) (ad := ad) hkm20) rfl hl.1 rfl (Nat.le_of_ble_eq_true rfl) dX3_mayCut_60 hB rfl (fun H locs Z => ?_)
  replace hf := asr_s hf; obtain ⟨hq22, hf⟩ := hf
  obtain ⟨rfl, rfl⟩ := pr_s hf
  exact z_zret C Z (jz01 hq22) dX3_mayCut_63
theorem dX3_bars_0 : decode cX3_bars 0 = .ok (.aload_n 0, 1) := by decide +kernel
theorem dX3_bars_1 : decode cX3_bars 1 = .ok (.getfield 17, 3) := by decide +kernel
theorem dX3_bars_4 : decode cX3_bars 4 = .ok (.iconst 0, 1) := by decide +kernel
theorem dX3_bars_5 : decode cX3_bars 5 = .ok (.iconst 0, 1) := by decide +kernel
theorem dX3_bars_6 : decode cX3_bars 6 = .ok (.iastore, 1) := by decide +kernel
theorem dX3_bars_7 : decode cX3_bars 7 = .ok (.aload_n 0, 1) := by decide +kernel
theorem dX3_bars_8 : decode cX3_bars 8 = .ok (.getfield 17, 3) := by decide +kernel
theorem dX3_bars_11 : decode cX3_bars 11 = .ok (.iconst 1, 1) := by decide +kernel
theorem dX3_bars_12 : decode cX3_bars 12 = .ok (.iconst 0, 1) := by decide +kernel
theorem dX3_bars_13 : decode cX3_bars 13 = .ok (.iastore, 1) := by decide +kernel
theorem dX3_bars_14 : decode cX3_bars 14 = .ok (.aload_n 0, 1) := by decide +kernel
theorem dX3_bars_15 : decode cX3_bars 15 = .ok (.getfield 17, 3) := by decide +kernel
theorem dX3_bars_18 : decode cX3_bars 18 = .ok (.iconst 2, 1) := by decide +kernel
theorem dX3_bars_19 : decode cX3_bars 19 = .ok (.iconst 0, 1) := by decide +kernel
theorem dX3_bars_20 : decode cX3_bars 20 = .ok (.iastore, 1) := by decide +kernel
theorem dX3_bars_21 : decode cX3_bars 21 = .ok (.aload_n 0, 1) := by decide +kernel
theorem dX3_bars_22 : decode cX3_bars 22 = .ok (.getfield 17, 3) := by decide +kernel
theorem dX3_bars_25 : decode cX3_bars 25 = .ok (.iconst 3, 1) := by decide +kernel
theorem dX3_bars_26 : decode cX3_bars 26 = .ok (.iconst 0, 1) := by decide +kernel
theorem dX3_bars_27 : decode cX3_bars 27 = .ok (.iastore, 1) := by decide +kernel
theorem dX3_bars_28 : decode cX3_bars 28 = .ok (.aload_n 0, 1) := by decide +kernel
theorem dX3_bars_29 : decode cX3_bars 29 = .ok (.getfield 17, 3) := by decide +kernel
theorem dX3_bars_32 : decode cX3_bars 32 = .ok (.iconst 4, 1) := by decide +kernel
theorem dX3_bars_33 : decode cX3_bars 33 = .ok (.iload_n 2, 1) := by decide +kernel
theorem dX3_bars_34 : decode cX3_bars 34 = .ok (.bipush 7, 2) := by decide +kernel
theorem dX3_bars_36 : decode cX3_bars 36 = .ok (.irem, 1) := by decide +kernel
theorem dX3_bars_37 : decode cX3_bars 37 = .ok (.iastore, 1) := by decide +kernel
theorem dX3_bars_38 : decode cX3_bars 38 = .ok (.aload_n 0, 1) := by decide +kernel
theorem dX3_bars_39 : decode cX3_bars 39 = .ok (.getfield 17, 3) := by decide +kernel
theorem dX3_bars_42 : decode cX3_bars 42 = .ok (.iconst 5, 1) := by decide +kernel
theorem dX3_bars_43 : decode cX3_bars 43 = .ok (.iload_n 1, 1) := by decide +kernel
theorem dX3_bars_44 : decode cX3_bars 44 = .ok (.iastore, 1) := by decide +kernel
theorem dX3_bars_45 : decode cX3_bars 45 = .ok (.aload_n 0, 1) := by decide +kernel
theorem dX3_bars_46 : decode cX3_bars 46 = .ok (.iconst 5, 1) := by decide +kernel
theorem dX3_bars_47 : decode cX3_bars 47 = .ok (.iload_n 2, 1) := by decide +kernel
theorem dX3_bars_48 : decode cX3_bars 48 = .ok (.invokevirtual 62, 3) := by decide +kernel
theorem dX3_bars_51 : decode cX3_bars 51 = .ok (.ireturn, 1) := by decide +kernel
set_option maxRecDepth 100000 in
set_option maxHeartbeats 4000000 in
theorem c_X3_bars {l : Launch} {K : KG} {ad : Nat → Nat → Nat} {fl : Nat} {a1 : Int32} {a2 : Int32} {M0 : Mem} {r9 : Int32} {M9 : Mem} (hf : f_X3_bars fl a1 a2 M0 = some (r9, M9)) : Met l yX3_bars (Cond.code yX3_bars cX3_bars 3 (some .boolean) :: ztb) (RM (4) 0 0) (zPc K LC ad M0 [.ref (ad 6 0), .int a1, .int a2]) (zQ K LC ad (some (.int r9)) M9) 0 0 (zA ad) := by
  refine z_enter (by decide) (Nat.le_of_ble_eq_true rfl) ?_
  intro p e s m args below meth c ls C hin hargs Z hl
  replace C : Cx p s m args meth c cX3_bars 3 "GlassPalace$Laws" (some .boolean) := C
  replace hl : lv_has ls 3 [(0, .ref (ad 6 0)), (1, .int a1), (2, .int a2)] := hl
  have hR : 4 ≤ (RM (4) 0 0).frames ∧ 40 * (4) ≤ (RM (4) 0 0).locals := ⟨Nat.le_refl _, Nat.le_refl _⟩
  have hB : 0 ≤ (RM (4) 0 0).cells ∧ 0 ≤ (RM (4) 0 0).slots := ⟨Nat.zero_le _, Nat.zero_le _⟩
  unfold f_X3_bars at hf
  refine lv_aload_n C.x C.b dX3_bars_0 rfl (lv_at hl 0 rfl) ?_
  refine z_get C Z (lvC6 Nat.zero_lt_one) kC6 zc3 zin3 2 (by decide) k_193 rfl svC6_2 dX3_bars_1 ?_
  refine lv_iconst (v := 0) C.x C.b dX3_bars_4 (by decide) ?_
  refine lv_iconst (v := 0) C.x C.b dX3_bars_5 (by decide) ?_
  replace hf := asr_s hf; obtain ⟨hq1, hf⟩ := hf
  replace hf := lt1_s hf; obtain ⟨m2, em2, hf⟩ := hf
  refine z_iast (M1 := m2) C Z (lvC18 Nat.zero_lt_one) (by decide) kC18 hq1 em2 stC18u dX3_bars_6 (fun H locs Z => ?_)
  refine lv_aload_n C.x C.b dX3_bars_7 rfl (lv_at hl 0 rfl) ?_
  refine z_get C Z (lvC6 Nat.zero_lt_one) kC6 zc3 zin3 2 (by decide) k_193 rfl svC6_2 dX3_bars_8 ?_
  refine lv_iconst (v := 1) C.x C.b dX3_bars_11 (by decide) ?_
  refine lv_iconst (v := 0) C.x C.b dX3_bars_12 (by decide) ?_
  replace hf := asr_s hf; obtain ⟨hq3, hf⟩ := hf
  replace hf := lt1_s hf; obtain ⟨m4, em4, hf⟩ := hf
  refine z_iast (M1 := m4) C Z (lvC18 Nat.zero_lt_one) (by decide) kC18 hq3 em4 stC18u dX3_bars_13 (fun H locs Z => ?_)
  refine lv_aload_n C.x C.b dX3_bars_14 rfl (lv_at hl 0 rfl) ?_
  refine z_get C Z (lvC6 Nat.zero_lt_one) kC6 zc3 zin3 2 (by decide) k_193 rfl svC6_2 dX3_bars_15 ?_
  refine lv_iconst (v := 2) C.x C.b dX3_bars_18 (by decide) ?_
  refine lv_iconst (v := 0) C.x C.b dX3_bars_19 (by decide) ?_
  replace hf := asr_s hf; obtain ⟨hq5, hf⟩ := hf
  replace hf := lt1_s hf; obtain ⟨m6, em6, hf⟩ := hf
  refine z_iast (M1 := m6) C Z (lvC18 Nat.zero_lt_one) (by decide) kC18 hq5 em6 stC18u dX3_bars_20 (fun H locs Z => ?_)
  refine lv_aload_n C.x C.b dX3_bars_21 rfl (lv_at hl 0 rfl) ?_
  refine z_get C Z (lvC6 Nat.zero_lt_one) kC6 zc3 zin3 2 (by decide) k_193 rfl svC6_2 dX3_bars_22 ?_
  refine lv_iconst (v := 3) C.x C.b dX3_bars_25 (by decide) ?_
  refine lv_iconst (v := 0) C.x C.b dX3_bars_26 (by decide) ?_
  replace hf := asr_s hf; obtain ⟨hq7, hf⟩ := hf
  replace hf := lt1_s hf; obtain ⟨m8, em8, hf⟩ := hf
  refine z_iast (M1 := m8) C Z (lvC18 Nat.zero_lt_one) (by decide) kC18 hq7 em8 stC18u dX3_bars_27 (fun H locs Z => ?_)
  refine lv_aload_n C.x C.b dX3_bars_28 rfl (lv_at hl 0 rfl) ?_
  refine z_get C Z (lvC6 Nat.zero_lt_one) kC6 zc3 zin3 2 (by decide) k_193 rfl svC6_2 dX3_bars_29 ?_
  refine lv_iconst (v := 4) C.x C.b dX3_bars_32 (by decide) ?_
  refine lv_iload_n C.x C.b dX3_bars_33 rfl (lv_at hl 2 rfl) ?_
  refine lv_bipush (v := 7) C.x C.b dX3_bars_34 (by decide) ?_
  refine z_irem C dX3_bars_36 (by decide) ?_
  replace hf := asr_s hf; obtain ⟨hq9, hf⟩ := hf
  replace hf := lt1_s hf; obtain ⟨m10, em10, hf⟩ := hf
  refine z_iast (M1 := m10) C Z (lvC18 Nat.zero_lt_one) (by decide) kC18 hq9 em10 stC18u dX3_bars_37 (fun H locs Z => ?_)
  refine lv_aload_n C.x C.b dX3_bars_38 rfl (lv_at hl 0 rfl) ?_
  refine z_get C Z (lvC6 Nat.zero_lt_one) kC6 zc3 zin3 2 (by decide) k_193 rfl svC6_2 dX3_bars_39 ?_
  refine lv_iconst (v := 5) C.x C.b dX3_bars_42 (by decide) ?_
  refine lv_iload_n C.x C.b dX3_bars_43 rfl (lv_at hl 1 rfl) ?_
  replace hf := asr_s hf; obtain ⟨hq11, hf⟩ := hf
  replace hf := lt1_s hf; obtain ⟨m12, em12, hf⟩ := hf
  refine z_iast (M1 := m12) C Z (lvC18 Nat.zero_lt_one) (by decide) kC18 hq11 em12 stC18u dX3_bars_44 (fun H locs Z => ?_)
  refine lv_aload_n C.x C.b dX3_bars_45 rfl (lv_at hl 0 rfl) ?_
  refine lv_iconst (v := 5) C.x C.b dX3_bars_46 (by decide) ?_
  refine lv_iload_n C.x C.b dX3_bars_47 rfl (lv_at hl 2 rfl) ?_
  replace hf := bn2_s hf; obtain ⟨v14, m13, hkm13, hf⟩ := hf
  refine z_cV (As := [.int 5, .int a2]) (rest := []) (st1 := [.int v14]) C Z mw_X3_holdsFor mv_X3_holdsFor k_537 (by decide) (z_hR hR (by decide)) (lvC6 Nat.zero_lt_one) kC6 zc3 (c_X3_holdsFor (l := l) (K := K) (ad := ad) hkm13) rfl hl.1 rfl (Nat.le_of_ble_eq_true rfl) dX3_bars_48 hB rfl (fun H locs Z => ?_)
  replace hf := asr_s hf; obtain ⟨hq15, hf⟩ := hf
  obtain ⟨rfl, rfl⟩ := pr_s hf
  exact z_zret C Z (jz01 hq15) dX3_bars_51
theorem dX4_init_0 : decode cX4_init 0 = .ok (.aload_n 0, 1) := by decide +kernel
theorem dX4_init_1 : decode cX4_init 1 = .ok (.invokespecial 3, 3) := by decide +kernel
theorem dX4_init_4 : decode cX4_init 4 = .ok (.aload_n 0, 1) := by decide +kernel
theorem dX4_init_5 : decode cX4_init 5 = .ok (.bipush (-5), 2) := by decide +kernel
theorem dX4_init_7 : decode cX4_init 7 = .ok (.putfield 9, 3) := by decide +kernel
theorem dX4_init_10 : decode cX4_init 10 = .ok (.aload_n 0, 1) := by decide +kernel
theorem dX4_init_11 : decode cX4_init 11 = .ok (.bipush (-5), 2) := by decide +kernel
theorem dX4_init_13 : decode cX4_init 13 = .ok (.putfield 15, 3) := by decide +kernel
theorem dX4_init_16 : decode cX4_init 16 = .ok (.aload_n 0, 1) := by decide +kernel
theorem dX4_init_17 : decode cX4_init 17 = .ok (.iload_n 1, 1) := by decide +kernel
theorem dX4_init_18 : decode cX4_init 18 = .ok (.putfield 18, 3) := by decide +kernel
theorem dX4_init_21 : decode cX4_init 21 = .ok (.aload_n 0, 1) := by decide +kernel
theorem dX4_init_22 : decode cX4_init 22 = .ok (.iload_n 2, 1) := by decide +kernel
theorem dX4_init_23 : decode cX4_init 23 = .ok (.putfield 21, 3) := by decide +kernel
theorem dX4_init_26 : decode cX4_init 26 = .ok (.aload_n 0, 1) := by decide +kernel
theorem dX4_init_27 : decode cX4_init 27 = .ok (.iload_n 3, 1) := by decide +kernel
theorem dX4_init_28 : decode cX4_init 28 = .ok (.putfield 24, 3) := by decide +kernel
theorem dX4_init_31 : decode cX4_init 31 = .ok (.aload_n 0, 1) := by decide +kernel
theorem dX4_init_32 : decode cX4_init 32 = .ok (.iload 4, 2) := by decide +kernel
theorem dX4_init_34 : decode cX4_init 34 = .ok (.putfield 27, 3) := by decide +kernel
theorem dX4_init_37 : decode cX4_init 37 = .ok (.aload_n 0, 1) := by decide +kernel
theorem dX4_init_38 : decode cX4_init 38 = .ok (.iload 5, 2) := by decide +kernel
theorem dX4_init_40 : decode cX4_init 40 = .ok (.putfield 30, 3) := by decide +kernel
theorem dX4_init_43 : decode cX4_init 43 = .ok (.aload_n 0, 1) := by decide +kernel
theorem dX4_init_44 : decode cX4_init 44 = .ok (.iload 6, 2) := by decide +kernel
theorem dX4_init_46 : decode cX4_init 46 = .ok (.putfield 33, 3) := by decide +kernel
theorem dX4_init_49 : decode cX4_init 49 = .ok (.return_, 1) := by decide +kernel
set_option maxRecDepth 100000 in
set_option maxHeartbeats 4000000 in
theorem c_X4_init {l : Launch} {K : KG} {ad : Nat → Nat → Nat} {fl : Nat} {o : Nat} {a1 : Int32} {a2 : Int32} {a3 : Int32} {a4 : Int32} {a5 : Int32} {a6 : Int32} {M0 : Mem} {M9 : Mem} (ho : o < gR M0 999 23 0) (hf : f_X4_init fl o a1 a2 a3 a4 a5 a6 M0 = some M9) : Met l yX4_init (Cond.code yX4_init cX4_init 7 none :: ztb) (RM (1) 0 0) (zPc K LC ad M0 [.ref (ad 23 o), .int a1, .int a2, .int a3, .int a4, .int a5, .int a6]) (zQ K LC ad (none) M9) 0 0 (zA ad) := by
  refine z_enter (by decide) (Nat.le_of_ble_eq_true rfl) ?_
  intro p e s m args below meth c ls C hin hargs Z hl
  replace C : Cx p s m args meth c cX4_init 7 "GlassPalace$Lot" none := C
  replace hl : lv_has ls 7 [(0, .ref (ad 23 o)), (1, .int a1), (2, .int a2), (3, .int a3), (4, .int a4), (5, .int a5), (6, .int a6)] := hl
  have hR : 1 ≤ (RM (1) 0 0).frames ∧ 40 * (1) ≤ (RM (1) 0 0).locals := ⟨Nat.le_refl _, Nat.le_refl _⟩
  have hB : 0 ≤ (RM (1) 0 0).cells ∧ 0 ≤ (RM (1) 0 0).slots := ⟨Nat.zero_le _, Nat.zero_le _⟩
  unfold f_X4_init at hf
  refine lv_aload_n C.x C.b dX4_init_0 rfl (lv_at hl 0 rfl) ?_
  refine z_obj C k_456 k_129 k_130 hl.1 hR (by decide) (Nat.le_of_ble_eq_true rfl) dX4_init_1 ?_
  refine lv_aload_n C.x C.b dX4_init_4 rfl (lv_at hl 0 rfl) ?_
  refine lv_bipush (v := (-5)) C.x C.b dX4_init_5 (by decide) ?_
  replace hf := lt1_s hf; obtain ⟨m1, em1, hf⟩ := hf
  refine z_put (M1 := m1) C Z (lvC23 ho) (by decide) kC23 zc4 zin4 tyX4_ok nmX4 6 (by decide) k_474 rfl (zUp_I em1 stC23_6u) (Or.inl rfl) rfl rfl dX4_init_7 (fun H locs Z => ?_)
  refine lv_aload_n C.x C.b dX4_init_10 rfl (lv_at hl 0 rfl) ?_
  refine lv_bipush (v := (-5)) C.x C.b dX4_init_11 (by decide) ?_
  replace hf := lt1_s hf; obtain ⟨m2, em2, hf⟩ := hf
  refine z_put (M1 := m2) C Z (lvC23 (by rw [em1]; exact ho)) (by decide) kC23 zc4 zin4 tyX4_ok nmX4 7 (by decide) k_476 rfl (zUp_I em2 stC23_7u) (Or.inl rfl) rfl rfl dX4_init_13 (fun H locs Z => ?_)
  refine lv_aload_n C.x C.b dX4_init_16 rfl (lv_at hl 0 rfl) ?_
  refine lv_iload_n C.x C.b dX4_init_17 rfl (lv_at hl 1 rfl) ?_
  replace hf := lt1_s hf; obtain ⟨m3, em3, hf⟩ := hf
  refine z_put (M1 := m3) C Z (lvC23 (by rw [em2, em1]; exact ho)) (by decide) kC23 zc4 zin4 tyX4_ok nmX4 0 (by decide) k_457 rfl (zUp_I em3 stC23_0u) (Or.inr ⟨hin rfl, rfl⟩) rfl rfl dX4_init_18 (fun H locs Z => ?_)
  refine lv_aload_n C.x C.b dX4_init_21 rfl (lv_at hl 0 rfl) ?_
  refine lv_iload_n C.x C.b dX4_init_22 rfl (lv_at hl 2 rfl) ?_
  replace hf := lt1_s hf; obtain ⟨m4, em4, hf⟩ := hf
  refine z_put (M1 := m4) C Z (lvC23 (by rw [em3, em2, em1]; exact ho)) (by decide) kC23 zc4 zin4 tyX4_ok nmX4 1 (by decide) k_460 rfl (zUp_I em4 stC23_1u) (Or.inr ⟨hin rfl, rfl⟩) rfl rfl dX4_init_23 (fun H locs Z => ?_)
  refine lv_aload_n C.x C.b dX4_init_26 rfl (lv_at hl 0 rfl) ?_
  refine lv_iload_n C.x C.b dX4_init_27 rfl (lv_at hl 3 rfl) ?_
  replace hf := lt1_s hf; obtain ⟨m5, em5, hf⟩ := hf
  refine z_put (M1 := m5) C Z (lvC23 (by rw [em4, em3, em2, em1]; exact ho)) (by decide) kC23 zc4 zin4 tyX4_ok nmX4 2 (by decide) k_463 rfl (zUp_I em5 stC23_2u) (Or.inr ⟨hin rfl, rfl⟩) rfl rfl dX4_init_28 (fun H locs Z => ?_)
  refine lv_aload_n C.x C.b dX4_init_31 rfl (lv_at hl 0 rfl) ?_
  refine lv_iload C.x C.b dX4_init_32 (lv_at hl 4 rfl) ?_
  replace hf := lt1_s hf; obtain ⟨m6, em6, hf⟩ := hf
  refine z_put (M1 := m6) C Z (lvC23 (by rw [em5, em4, em3, em2, em1]; exact ho)) (by decide) kC23 zc4 zin4 tyX4_ok nmX4 3 (by decide) k_466 rfl (zUp_I em6 stC23_3u) (Or.inr ⟨hin rfl, rfl⟩) rfl rfl dX4_init_34 (fun H locs Z => ?_)
  refine lv_aload_n C.x C.b dX4_init_37 rfl (lv_at hl 0 rfl) ?_
  refine lv_iload C.x C.b dX4_init_38 (lv_at hl 5 rfl) ?_
  replace hf := lt1_s hf; obtain ⟨m7, em7, hf⟩ := hf
  refine z_put (M1 := m7) C Z (lvC23 (by rw [em6, em5, em4, em3, em2, em1]; exact ho)) (by decide) kC23 zc4 zin4 tyX4_ok nmX4 4 (by decide) k_468 rfl (zUp_I em7 stC23_4u) (Or.inr ⟨hin rfl, rfl⟩) rfl rfl dX4_init_40 (fun H locs Z => ?_)
  refine lv_aload_n C.x C.b dX4_init_43 rfl (lv_at hl 0 rfl) ?_
  refine lv_iload C.x C.b dX4_init_44 (lv_at hl 6 rfl) ?_
  replace hf := lt1_s hf; obtain ⟨m8, em8, hf⟩ := hf
  refine z_put (M1 := m8) C Z (lvC23 (by rw [em7, em6, em5, em4, em3, em2, em1]; exact ho)) (by decide) kC23 zc4 zin4 tyX4_ok nmX4 5 (by decide) k_472 rfl (zUp_I em8 stC23_5u) (Or.inr ⟨hin rfl, rfl⟩) rfl rfl dX4_init_46 (fun H locs Z => ?_)
  obtain rfl := sm_s hf
  exact z_vret C Z dX4_init_49
theorem dX4_isTold_0 : decode cX4_isTold 0 = .ok (.aload_n 0, 1) := by decide +kernel
theorem dX4_isTold_1 : decode cX4_isTold 1 = .ok (.getfield 9, 3) := by decide +kernel
theorem dX4_isTold_4 : decode cX4_isTold 4 = .ok (.bipush (-5), 2) := by decide +kernel
theorem dX4_isTold_6 : decode cX4_isTold 6 = .ok (.if_icmp .eq 7, 3) := by decide +kernel
theorem dX4_isTold_9 : decode cX4_isTold 9 = .ok (.iconst 1, 1) := by decide +kernel
theorem dX4_isTold_10 : decode cX4_isTold 10 = .ok (.goto 4, 3) := by decide +kernel
theorem dX4_isTold_13 : decode cX4_isTold 13 = .ok (.iconst 0, 1) := by decide +kernel
theorem dX4_isTold_14 : decode cX4_isTold 14 = .ok (.ireturn, 1) := by decide +kernel
set_option maxRecDepth 100000 in
set_option maxHeartbeats 4000000 in
theorem c_X4_isTold {l : Launch} {K : KG} {ad : Nat → Nat → Nat} {fl : Nat} {o : Nat} {M0 : Mem} {r9 : Int32} {M9 : Mem} (ho : o < gR M0 999 23 0) (hf : f_X4_isTold fl o M0 = some (r9, M9)) : Met l yX4_isTold (Cond.code yX4_isTold cX4_isTold 1 (some .boolean) :: ztb) (RM (1) 0 0) (zPc K LC ad M0 [.ref (ad 23 o)]) (zQ K LC ad (some (.int r9)) M9) 0 0 (zA ad) := by
  refine z_enter (by decide) (Nat.le_of_ble_eq_true rfl) ?_
  intro p e s m args below meth c ls C hin hargs Z hl
  replace C : Cx p s m args meth c cX4_isTold 1 "GlassPalace$Lot" (some .boolean) := C
  replace hl : lv_has ls 1 [(0, .ref (ad 23 o))] := hl
  have hR : 1 ≤ (RM (1) 0 0).frames ∧ 40 * (1) ≤ (RM (1) 0 0).locals := ⟨Nat.le_refl _, Nat.le_refl _⟩
  have hB : 0 ≤ (RM (1) 0 0).cells ∧ 0 ≤ (RM (1) 0 0).slots := ⟨Nat.zero_le _, Nat.zero_le _⟩
  unfold f_X4_isTold at hf
  refine lv_aload_n C.x C.b dX4_isTold_0 rfl (lv_at hl 0 rfl) ?_
  refine z_get C Z (lvC23 ho) kC23 zc4 zin4 6 (by decide) k_474 rfl svC23_6 dX4_isTold_1 ?_
  refine lv_bipush (v := (-5)) C.x C.b dX4_isTold_4 (by decide) ?_
  refine lv_icmp_eq (tgt := 13) C.x C.b dX4_isTold_6 (by decide) (fun hc1 => ?_) (fun hc1 => ?_)
  · replace hf := ite_t hf hc1
    refine lv_iconst (v := 0) C.x C.b dX4_isTold_13 (by decide) ?_
    obtain ⟨rfl, rfl⟩ := pr_s hf
    exact z_zret C Z rfl dX4_isTold_14
  · replace hf := ite_f hf hc1
    refine lv_iconst (v := 1) C.x C.b dX4_isTold_9 (by decide) ?_
    refine lv_goto (tgt := 14) C.x C.b dX4_isTold_10 (by decide) ?_
    obtain ⟨rfl, rfl⟩ := pr_s hf
    exact z_zret C Z rfl dX4_isTold_14
theorem dX4_stock_0 : decode cX4_stock 0 = .ok (.aload_n 0, 1) := by decide +kernel
theorem dX4_stock_1 : decode cX4_stock 1 = .ok (.invokevirtual 36, 3) := by decide +kernel
theorem dX4_stock_4 : decode cX4_stock 4 = .ok (.ifCond .eq 25, 3) := by decide +kernel
theorem dX4_stock_7 : decode cX4_stock 7 = .ok (.aload_n 0, 1) := by decide +kernel
theorem dX4_stock_8 : decode cX4_stock 8 = .ok (.getfield 27, 3) := by decide +kernel
theorem dX4_stock_11 : decode cX4_stock 11 = .ok (.aload_n 0, 1) := by decide +kernel
theorem dX4_stock_12 : decode cX4_stock 12 = .ok (.getfield 40, 3) := by decide +kernel
theorem dX4_stock_15 : decode cX4_stock 15 = .ok (.isub, 1) := by decide +kernel
theorem dX4_stock_16 : decode cX4_stock 16 = .ok (.aload_n 0, 1) := by decide +kernel
theorem dX4_stock_17 : decode cX4_stock 17 = .ok (.getfield 43, 3) := by decide +kernel
theorem dX4_stock_20 : decode cX4_stock 20 = .ok (.isub, 1) := by decide +kernel
theorem dX4_stock_21 : decode cX4_stock 21 = .ok (.aload_n 0, 1) := by decide +kernel
theorem dX4_stock_22 : decode cX4_stock 22 = .ok (.getfield 46, 3) := by decide +kernel
theorem dX4_stock_25 : decode cX4_stock 25 = .ok (.isub, 1) := by decide +kernel
theorem dX4_stock_26 : decode cX4_stock 26 = .ok (.goto 4, 3) := by decide +kernel
theorem dX4_stock_29 : decode cX4_stock 29 = .ok (.iconst 0, 1) := by decide +kernel
theorem dX4_stock_30 : decode cX4_stock 30 = .ok (.ireturn, 1) := by decide +kernel
set_option maxRecDepth 100000 in
set_option maxHeartbeats 4000000 in
theorem c_X4_stock {l : Launch} {K : KG} {ad : Nat → Nat → Nat} {fl : Nat} {o : Nat} {M0 : Mem} {r9 : Int32} {M9 : Mem} (ho : o < gR M0 999 23 0) (hf : f_X4_stock fl o M0 = some (r9, M9)) : Met l yX4_stock (Cond.code yX4_stock cX4_stock 1 (some .int) :: ztb) (RM (2) 0 0) (zPc K LC ad M0 [.ref (ad 23 o)]) (zQ K LC ad (some (.int r9)) M9) 0 0 (zA ad) := by
  refine z_enter (by decide) (Nat.le_of_ble_eq_true rfl) ?_
  intro p e s m args below meth c ls C hin hargs Z hl
  replace C : Cx p s m args meth c cX4_stock 1 "GlassPalace$Lot" (some .int) := C
  replace hl : lv_has ls 1 [(0, .ref (ad 23 o))] := hl
  have hR : 2 ≤ (RM (2) 0 0).frames ∧ 40 * (2) ≤ (RM (2) 0 0).locals := ⟨Nat.le_refl _, Nat.le_refl _⟩
  have hB : 0 ≤ (RM (2) 0 0).cells ∧ 0 ≤ (RM (2) 0 0).slots := ⟨Nat.zero_le _, Nat.zero_le _⟩
  unfold f_X4_stock at hf
  refine lv_aload_n C.x C.b dX4_stock_0 rfl (lv_at hl 0 rfl) ?_
  replace hf := bn2_s hf; obtain ⟨v2, m1, hkm1, hf⟩ := hf
  refine z_cV (As := []) (rest := []) (st1 := [.int v2]) C Z mw_X4_isTold mv_X4_isTold k_528 (by decide) (z_hR hR (by decide)) (lvC23 ho) kC23 zc4 (c_X4_isTold (l := l) (K := K) (ad := ad) ho hkm1) rfl hl.1 rfl (Nat.le_of_ble_eq_true rfl) dX4_stock_1 hB rfl (fun H locs Z => ?_)
  refine lv_if_eq (tgt := 29) C.x C.b dX4_stock_4 (by decide) (fun hc3 => ?_) (fun hc3 => ?_)
  · replace hf := ite_t hf hc3
    refine lv_iconst (v := 0) C.x C.b dX4_stock_29 (by decide) ?_
    obtain ⟨rfl, rfl⟩ := pr_s hf
    exact z_iret C Z dX4_stock_30
  · replace hf := ite_f hf hc3
    refine lv_aload_n C.x C.b dX4_stock_7 rfl (lv_at hl 0 rfl) ?_
    replace hf := asr_s hf; obtain ⟨hq4, hf⟩ := hf
    refine z_get C Z (lvC23 hq4) kC23 zc4 zin4 3 (by decide) k_466 rfl svC23_3 dX4_stock_8 ?_
    refine lv_aload_n C.x C.b dX4_stock_11 rfl (lv_at hl 0 rfl) ?_
    refine z_get C Z (lvC23 hq4) kC23 zc4 zin4 8 (by decide) k_478 rfl svC23_8 dX4_stock_12 ?_
    refine lv_isub C.x C.b dX4_stock_15 ?_
    refine lv_aload_n C.x C.b dX4_stock_16 rfl (lv_at hl 0 rfl) ?_
    refine z_get C Z (lvC23 hq4) kC23 zc4 zin4 9 (by decide) k_481 rfl svC23_9 dX4_stock_17 ?_
    refine lv_isub C.x C.b dX4_stock_20 ?_
    refine lv_aload_n C.x C.b dX4_stock_21 rfl (lv_at hl 0 rfl) ?_
    refine z_get C Z (lvC23 hq4) kC23 zc4 zin4 10 (by decide) k_483 rfl svC23_10 dX4_stock_22 ?_
    refine lv_isub C.x C.b dX4_stock_25 ?_
    refine lv_goto (tgt := 30) C.x C.b dX4_stock_26 (by decide) ?_
    obtain ⟨rfl, rfl⟩ := pr_s hf
    exact z_iret C Z dX4_stock_30
theorem dX4_isUnder_0 : decode cX4_isUnder 0 = .ok (.aload_n 0, 1) := by decide +kernel
theorem dX4_isUnder_1 : decode cX4_isUnder 1 = .ok (.getfield 21, 3) := by decide +kernel
theorem dX4_isUnder_4 : decode cX4_isUnder 4 = .ok (.iload_n 1, 1) := by decide +kernel
theorem dX4_isUnder_5 : decode cX4_isUnder 5 = .ok (.if_icmp .eq 21, 3) := by decide +kernel
theorem dX4_isUnder_8 : decode cX4_isUnder 8 = .ok (.iload_n 1, 1) := by decide +kernel
theorem dX4_isUnder_9 : decode cX4_isUnder 9 = .ok (.ifCond .eq 17, 3) := by decide +kernel
theorem dX4_isUnder_12 : decode cX4_isUnder 12 = .ok (.iload_n 1, 1) := by decide +kernel
theorem dX4_isUnder_13 : decode cX4_isUnder 13 = .ok (.iconst 1, 1) := by decide +kernel
theorem dX4_isUnder_14 : decode cX4_isUnder 14 = .ok (.if_icmp .ne 16, 3) := by decide +kernel
theorem dX4_isUnder_17 : decode cX4_isUnder 17 = .ok (.aload_n 0, 1) := by decide +kernel
theorem dX4_isUnder_18 : decode cX4_isUnder 18 = .ok (.getfield 21, 3) := by decide +kernel
theorem dX4_isUnder_21 : decode cX4_isUnder 21 = .ok (.bipush 6, 2) := by decide +kernel
theorem dX4_isUnder_23 : decode cX4_isUnder 23 = .ok (.if_icmp .ne 7, 3) := by decide +kernel
theorem dX4_isUnder_26 : decode cX4_isUnder 26 = .ok (.iconst 1, 1) := by decide +kernel
theorem dX4_isUnder_27 : decode cX4_isUnder 27 = .ok (.goto 4, 3) := by decide +kernel
theorem dX4_isUnder_30 : decode cX4_isUnder 30 = .ok (.iconst 0, 1) := by decide +kernel
theorem dX4_isUnder_31 : decode cX4_isUnder 31 = .ok (.ireturn, 1) := by decide +kernel
set_option maxRecDepth 100000 in
set_option maxHeartbeats 4000000 in
theorem c_X4_isUnder {l : Launch} {K : KG} {ad : Nat → Nat → Nat} {fl : Nat} {o : Nat} {a1 : Int32} {M0 : Mem} {r9 : Int32} {M9 : Mem} (ho : o < gR M0 999 23 0) (hf : f_X4_isUnder fl o a1 M0 = some (r9, M9)) : Met l yX4_isUnder (Cond.code yX4_isUnder cX4_isUnder 2 (some .boolean) :: ztb) (RM (1) 0 0) (zPc K LC ad M0 [.ref (ad 23 o), .int a1]) (zQ K LC ad (some (.int r9)) M9) 0 0 (zA ad) := by
  refine z_enter (by decide) (Nat.le_of_ble_eq_true rfl) ?_
  intro p e s m args below meth c ls C hin hargs Z hl
  replace C : Cx p s m args meth c cX4_isUnder 2 "GlassPalace$Lot" (some .boolean) := C
  replace hl : lv_has ls 2 [(0, .ref (ad 23 o)), (1, .int a1)] := hl
  have hR : 1 ≤ (RM (1) 0 0).frames ∧ 40 * (1) ≤ (RM (1) 0 0).locals := ⟨Nat.le_refl _, Nat.le_refl _⟩
  have hB : 0 ≤ (RM (1) 0 0).cells ∧ 0 ≤ (RM (1) 0 0).slots := ⟨Nat.zero_le _, Nat.zero_le _⟩
  unfold f_X4_isUnder at hf
  refine lv_aload_n C.x C.b dX4_isUnder_0 rfl (lv_at hl 0 rfl) ?_
  refine z_get C Z (lvC23 ho) kC23 zc4 zin4 1 (by decide) k_460 rfl svC23_1 dX4_isUnder_1 ?_
  refine lv_iload_n C.x C.b dX4_isUnder_4 rfl (lv_at hl 1 rfl) ?_
  refine lv_icmp_eq (tgt := 26) C.x C.b dX4_isUnder_5 (by decide) (fun hc1 => ?_) (fun hc1 => ?_)
  · replace hf := ite_t hf hc1
    refine lv_iconst (v := 1) C.x C.b dX4_isUnder_26 (by decide) ?_
    refine lv_goto (tgt := 31) C.x C.b dX4_isUnder_27 (by decide) ?_
    obtain ⟨rfl, rfl⟩ := pr_s hf
    exact z_zret C Z rfl dX4_isUnder_31
  · replace hf := ite_f hf hc1
    refine lv_iload_n C.x C.b dX4_isUnder_8 rfl (lv_at hl 1 rfl) ?_
    refine lv_if_eq (tgt := 26) C.x C.b dX4_isUnder_9 (by decide) (fun hc2 => ?_) (fun hc2 => ?_)
    · replace hf := ite_t hf hc2
      refine lv_iconst (v := 1) C.x C.b dX4_isUnder_26 (by decide) ?_
      refine lv_goto (tgt := 31) C.x C.b dX4_isUnder_27 (by decide) ?_
      obtain ⟨rfl, rfl⟩ := pr_s hf
      exact z_zret C Z rfl dX4_isUnder_31
    · replace hf := ite_f hf hc2
      refine lv_iload_n C.x C.b dX4_isUnder_12 rfl (lv_at hl 1 rfl) ?_
      refine lv_iconst (v := 1) C.x C.b dX4_isUnder_13 (by decide) ?_
      refine lv_icmp_ne (tgt := 30) C.x C.b dX4_isUnder_14 (by decide) (fun hc3 => ?_) (fun hc3 => ?_)
      · replace hf := ite_f hf hc3
        refine lv_iconst (v := 0) C.x C.b dX4_isUnder_30 (by decide) ?_
        obtain ⟨rfl, rfl⟩ := pr_s hf
        exact z_zret C Z rfl dX4_isUnder_31
      · replace hf := ite_t hf hc3
        refine lv_aload_n C.x C.b dX4_isUnder_17 rfl (lv_at hl 0 rfl) ?_
        refine z_get C Z (lvC23 ho) kC23 zc4 zin4 1 (by decide) k_460 rfl svC23_1 dX4_isUnder_18 ?_
        refine lv_bipush (v := 6) C.x C.b dX4_isUnder_21 (by decide) ?_
        refine lv_icmp_ne (tgt := 30) C.x C.b dX4_isUnder_23 (by decide) (fun hc4 => ?_) (fun hc4 => ?_)
        · replace hf := ite_f hf hc4
          refine lv_iconst (v := 0) C.x C.b dX4_isUnder_30 (by decide) ?_
          obtain ⟨rfl, rfl⟩ := pr_s hf
          exact z_zret C Z rfl dX4_isUnder_31
        · replace hf := ite_t hf hc4
          refine lv_iconst (v := 1) C.x C.b dX4_isUnder_26 (by decide) ?_
          refine lv_goto (tgt := 31) C.x C.b dX4_isUnder_27 (by decide) ?_
          obtain ⟨rfl, rfl⟩ := pr_s hf
          exact z_zret C Z rfl dX4_isUnder_31
theorem dX4_isOrderedLike_0 : decode cX4_isOrderedLike 0 = .ok (.aload_n 0, 1) := by decide +kernel
theorem dX4_isOrderedLike_1 : decode cX4_isOrderedLike 1 = .ok (.getfield 21, 3) := by decide +kernel
theorem dX4_isOrderedLike_4 : decode cX4_isOrderedLike 4 = .ok (.aload_n 1, 1) := by decide +kernel
theorem dX4_isOrderedLike_5 : decode cX4_isOrderedLike 5 = .ok (.getfield 21, 3) := by decide +kernel
theorem dX4_isOrderedLike_8 : decode cX4_isOrderedLike 8 = .ok (.if_icmp .ne 29, 3) := by decide +kernel
theorem dX4_isOrderedLike_11 : decode cX4_isOrderedLike 11 = .ok (.aload_n 0, 1) := by decide +kernel
theorem dX4_isOrderedLike_12 : decode cX4_isOrderedLike 12 = .ok (.getfield 24, 3) := by decide +kernel
theorem dX4_isOrderedLike_15 : decode cX4_isOrderedLike 15 = .ok (.aload_n 1, 1) := by decide +kernel
theorem dX4_isOrderedLike_16 : decode cX4_isOrderedLike 16 = .ok (.getfield 24, 3) := by decide +kernel
theorem dX4_isOrderedLike_19 : decode cX4_isOrderedLike 19 = .ok (.if_icmp .ne 18, 3) := by decide +kernel
theorem dX4_isOrderedLike_22 : decode cX4_isOrderedLike 22 = .ok (.aload_n 0, 1) := by decide +kernel
theorem dX4_isOrderedLike_23 : decode cX4_isOrderedLike 23 = .ok (.getfield 33, 3) := by decide +kernel
theorem dX4_isOrderedLike_26 : decode cX4_isOrderedLike 26 = .ok (.aload_n 1, 1) := by decide +kernel
theorem dX4_isOrderedLike_27 : decode cX4_isOrderedLike 27 = .ok (.getfield 33, 3) := by decide +kernel
theorem dX4_isOrderedLike_30 : decode cX4_isOrderedLike 30 = .ok (.if_icmp .ne 7, 3) := by decide +kernel
theorem dX4_isOrderedLike_33 : decode cX4_isOrderedLike 33 = .ok (.iconst 1, 1) := by decide +kernel
theorem dX4_isOrderedLike_34 : decode cX4_isOrderedLike 34 = .ok (.goto 4, 3) := by decide +kernel
theorem dX4_isOrderedLike_37 : decode cX4_isOrderedLike 37 = .ok (.iconst 0, 1) := by decide +kernel
theorem dX4_isOrderedLike_38 : decode cX4_isOrderedLike 38 = .ok (.ireturn, 1) := by decide +kernel
set_option maxRecDepth 100000 in
set_option maxHeartbeats 4000000 in
theorem c_X4_isOrderedLike {l : Launch} {K : KG} {ad : Nat → Nat → Nat} {fl : Nat} {o : Nat} {a1 : Nat} {M0 : Mem} {r9 : Int32} {M9 : Mem} (ho : o < gR M0 999 23 0) (hf : f_X4_isOrderedLike fl o a1 M0 = some (r9, M9)) : Met l yX4_isOrderedLike (Cond.code yX4_isOrderedLike cX4_isOrderedLike 2 (some .boolean) :: ztb) (RM (1) 0 0) (zPc K LC ad M0 [.ref (ad 23 o), rf (ad 23) a1]) (zQ K LC ad (some (.int r9)) M9) 0 0 (zA ad) := by
  refine z_enter (by decide) (by simp [lg_sl, rf_cat, cat_i, cat_l, cat_r, cat_n]) ?_
  intro p e s m args below meth c ls C hin hargs Z hl
  replace C : Cx p s m args meth c cX4_isOrderedLike 2 "GlassPalace$Lot" (some .boolean) := C
  replace hl : lv_has ls 2 [(0, .ref (ad 23 o)), (1, rf (ad 23) a1)] := by simpa [lv_args, rf_cat, cat_i, cat_l, cat_r, cat_n] using hl
  have hR : 1 ≤ (RM (1) 0 0).frames ∧ 40 * (1) ≤ (RM (1) 0 0).locals := ⟨Nat.le_refl _, Nat.le_refl _⟩
  have hB : 0 ≤ (RM (1) 0 0).cells ∧ 0 ≤ (RM (1) 0 0).slots := ⟨Nat.zero_le _, Nat.zero_le _⟩
  unfold f_X4_isOrderedLike at hf
  refine lv_aload_n C.x C.b dX4_isOrderedLike_0 rfl (lv_at hl 0 rfl) ?_
  refine z_get C Z (lvC23 ho) kC23 zc4 zin4 1 (by decide) k_460 rfl svC23_1 dX4_isOrderedLike_1 ?_
  refine z_aload_n C dX4_isOrderedLike_4 rfl (lv_at hl 1 rfl) ?_
  replace hf := drf_s hf; obtain ⟨j1, ej3, hj2, hf⟩ := hf
  subst ej3
  refine z_nn [] (y := j1 + 1) rfl ?_
  refine z_get C Z (lvC23 hj2) kC23 zc4 zin4 1 (by decide) k_460 rfl svC23_1 dX4_isOrderedLike_5 ?_
  refine lv_icmp_ne (tgt := 37) C.x C.b dX4_isOrderedLike_8 (by decide) (fun hc4 => ?_) (fun hc4 => ?_)
  · replace hf := ite_f hf hc4
    refine lv_iconst (v := 0) C.x C.b dX4_isOrderedLike_37 (by decide) ?_
    obtain ⟨rfl, rfl⟩ := pr_s hf
    exact z_zret C Z rfl dX4_isOrderedLike_38
  · replace hf := ite_t hf hc4
    refine lv_aload_n C.x C.b dX4_isOrderedLike_11 rfl (lv_at hl 0 rfl) ?_
    refine z_get C Z (lvC23 ho) kC23 zc4 zin4 2 (by decide) k_463 rfl svC23_2 dX4_isOrderedLike_12 ?_
    refine lv_aload_n C.x C.b dX4_isOrderedLike_15 rfl (lv_at hl 1 rfl) ?_
    refine z_get C Z (lvC23 hj2) kC23 zc4 zin4 2 (by decide) k_463 rfl svC23_2 dX4_isOrderedLike_16 ?_
    refine lv_icmp_ne (tgt := 37) C.x C.b dX4_isOrderedLike_19 (by decide) (fun hc5 => ?_) (fun hc5 => ?_)
    · replace hf := ite_f hf hc5
      refine lv_iconst (v := 0) C.x C.b dX4_isOrderedLike_37 (by decide) ?_
      obtain ⟨rfl, rfl⟩ := pr_s hf
      exact z_zret C Z rfl dX4_isOrderedLike_38
    · replace hf := ite_t hf hc5
      refine lv_aload_n C.x C.b dX4_isOrderedLike_22 rfl (lv_at hl 0 rfl) ?_
      refine z_get C Z (lvC23 ho) kC23 zc4 zin4 5 (by decide) k_472 rfl svC23_5 dX4_isOrderedLike_23 ?_
      refine lv_aload_n C.x C.b dX4_isOrderedLike_26 rfl (lv_at hl 1 rfl) ?_
      refine z_get C Z (lvC23 hj2) kC23 zc4 zin4 5 (by decide) k_472 rfl svC23_5 dX4_isOrderedLike_27 ?_
      refine lv_icmp_ne (tgt := 37) C.x C.b dX4_isOrderedLike_30 (by decide) (fun hc6 => ?_) (fun hc6 => ?_)
      · replace hf := ite_f hf hc6
        refine lv_iconst (v := 0) C.x C.b dX4_isOrderedLike_37 (by decide) ?_
        obtain ⟨rfl, rfl⟩ := pr_s hf
        exact z_zret C Z rfl dX4_isOrderedLike_38
      · replace hf := ite_t hf hc6
        refine lv_iconst (v := 1) C.x C.b dX4_isOrderedLike_33 (by decide) ?_
        refine lv_goto (tgt := 38) C.x C.b dX4_isOrderedLike_34 (by decide) ?_
        obtain ⟨rfl, rfl⟩ := pr_s hf
        exact z_zret C Z rfl dX4_isOrderedLike_38
theorem dX5_meets_0 : decode cX5_meets 0 = .ok (.aload_n 0, 1) := by decide +kernel
theorem dX5_meets_1 : decode cX5_meets 1 = .ok (.getfield 15, 3) := by decide +kernel
theorem dX5_meets_4 : decode cX5_meets 4 = .ok (.iload_n 1, 1) := by decide +kernel
theorem dX5_meets_5 : decode cX5_meets 5 = .ok (.iaload, 1) := by decide +kernel
theorem dX5_meets_6 : decode cX5_meets 6 = .ok (.ifCond .le 36, 3) := by decide +kernel
theorem dX5_meets_9 : decode cX5_meets 9 = .ok (.aload_n 0, 1) := by decide +kernel
theorem dX5_meets_10 : decode cX5_meets 10 = .ok (.getfield 9, 3) := by decide +kernel
theorem dX5_meets_13 : decode cX5_meets 13 = .ok (.iload_n 1, 1) := by decide +kernel
theorem dX5_meets_14 : decode cX5_meets 14 = .ok (.iaload, 1) := by decide +kernel
theorem dX5_meets_15 : decode cX5_meets 15 = .ok (.iload_n 2, 1) := by decide +kernel
theorem dX5_meets_16 : decode cX5_meets 16 = .ok (.iload_n 3, 1) := by decide +kernel
theorem dX5_meets_17 : decode cX5_meets 17 = .ok (.iadd, 1) := by decide +kernel
theorem dX5_meets_18 : decode cX5_meets 18 = .ok (.if_icmp .ge 24, 3) := by decide +kernel
theorem dX5_meets_21 : decode cX5_meets 21 = .ok (.iload_n 2, 1) := by decide +kernel
theorem dX5_meets_22 : decode cX5_meets 22 = .ok (.aload_n 0, 1) := by decide +kernel
theorem dX5_meets_23 : decode cX5_meets 23 = .ok (.getfield 9, 3) := by decide +kernel
theorem dX5_meets_26 : decode cX5_meets 26 = .ok (.iload_n 1, 1) := by decide +kernel
theorem dX5_meets_27 : decode cX5_meets 27 = .ok (.iaload, 1) := by decide +kernel
theorem dX5_meets_28 : decode cX5_meets 28 = .ok (.aload_n 0, 1) := by decide +kernel
theorem dX5_meets_29 : decode cX5_meets 29 = .ok (.getfield 15, 3) := by decide +kernel
theorem dX5_meets_32 : decode cX5_meets 32 = .ok (.iload_n 1, 1) := by decide +kernel
theorem dX5_meets_33 : decode cX5_meets 33 = .ok (.iaload, 1) := by decide +kernel
theorem dX5_meets_34 : decode cX5_meets 34 = .ok (.iadd, 1) := by decide +kernel
theorem dX5_meets_35 : decode cX5_meets 35 = .ok (.if_icmp .ge 7, 3) := by decide +kernel
theorem dX5_meets_38 : decode cX5_meets 38 = .ok (.iconst 1, 1) := by decide +kernel
theorem dX5_meets_39 : decode cX5_meets 39 = .ok (.goto 4, 3) := by decide +kernel
theorem dX5_meets_42 : decode cX5_meets 42 = .ok (.iconst 0, 1) := by decide +kernel
theorem dX5_meets_43 : decode cX5_meets 43 = .ok (.ireturn, 1) := by decide +kernel
set_option maxRecDepth 100000 in
set_option maxHeartbeats 4000000 in
theorem c_X5_meets {l : Launch} {K : KG} {ad : Nat → Nat → Nat} {fl : Nat} {a1 : Int32} {a2 : Int32} {a3 : Int32} {M0 : Mem} {r9 : Int32} {M9 : Mem} (hf : f_X5_meets fl a1 a2 a3 M0 = some (r9, M9)) : Met l yX5_meets (Cond.code yX5_meets cX5_meets 4 (some .boolean) :: ztb) (RM (1) 0 0) (zPc K LC ad M0 [.ref (ad 10 0), .int a1, .int a2, .int a3]) (zQ K LC ad (some (.int r9)) M9) 0 0 (zA ad) := by
  refine z_enter (by decide) (Nat.le_of_ble_eq_true rfl) ?_
  intro p e s m args below meth c ls C hin hargs Z hl
  replace C : Cx p s m args meth c cX5_meets 4 "GlassPalace$Nations" (some .boolean) := C
  replace hl : lv_has ls 4 [(0, .ref (ad 10 0)), (1, .int a1), (2, .int a2), (3, .int a3)] := hl
  have hR : 1 ≤ (RM (1) 0 0).frames ∧ 40 * (1) ≤ (RM (1) 0 0).locals := ⟨Nat.le_refl _, Nat.le_refl _⟩
  have hB : 0 ≤ (RM (1) 0 0).cells ∧ 0 ≤ (RM (1) 0 0).slots := ⟨Nat.zero_le _, Nat.zero_le _⟩
  unfold f_X5_meets at hf
  refine lv_aload_n C.x C.b dX5_meets_0 rfl (lv_at hl 0 rfl) ?_
  refine z_get C Z (lvC10 Nat.zero_lt_one) kC10 zc5 zin5 1 (by decide) k_278 rfl svC10_1 dX5_meets_1 ?_
  refine lv_iload_n C.x C.b dX5_meets_4 rfl (lv_at hl 1 rfl) ?_
  replace hf := asr_s hf; obtain ⟨hq1, hf⟩ := hf
  refine z_iald C Z (lvC39 Nat.zero_lt_one) kC39 hq1 svC39 dX5_meets_5 ?_
  refine lv_if_le (tgt := 42) C.x C.b dX5_meets_6 (by decide) (fun hc2 => ?_) (fun hc2 => ?_)
  · replace hf := ite_t hf hc2
    refine lv_iconst (v := 0) C.x C.b dX5_meets_42 (by decide) ?_
    obtain ⟨rfl, rfl⟩ := pr_s hf
    exact z_zret C Z rfl dX5_meets_43
  · replace hf := ite_f hf hc2
    refine lv_aload_n C.x C.b dX5_meets_9 rfl (lv_at hl 0 rfl) ?_
    refine z_get C Z (lvC10 Nat.zero_lt_one) kC10 zc5 zin5 0 (by decide) k_276 rfl svC10_0 dX5_meets_10 ?_
    refine lv_iload_n C.x C.b dX5_meets_13 rfl (lv_at hl 1 rfl) ?_
    replace hf := asr_s hf; obtain ⟨hq3, hf⟩ := hf
    refine z_iald C Z (lvC38 Nat.zero_lt_one) kC38 hq3 svC38 dX5_meets_14 ?_
    refine lv_iload_n C.x C.b dX5_meets_15 rfl (lv_at hl 2 rfl) ?_
    refine lv_iload_n C.x C.b dX5_meets_16 rfl (lv_at hl 3 rfl) ?_
    refine lv_iadd C.x C.b dX5_meets_17 ?_
    refine lv_icmp_ge (tgt := 42) C.x C.b dX5_meets_18 (by decide) (fun hc4 => ?_) (fun hc4 => ?_)
    · replace hf := ite_t hf hc4
      refine lv_iconst (v := 0) C.x C.b dX5_meets_42 (by decide) ?_
      obtain ⟨rfl, rfl⟩ := pr_s hf
      exact z_zret C Z rfl dX5_meets_43
    · replace hf := ite_f hf hc4
      refine lv_iload_n C.x C.b dX5_meets_21 rfl (lv_at hl 2 rfl) ?_
      refine lv_aload_n C.x C.b dX5_meets_22 rfl (lv_at hl 0 rfl) ?_
      refine z_get C Z (lvC10 Nat.zero_lt_one) kC10 zc5 zin5 0 (by decide) k_276 rfl svC10_0 dX5_meets_23 ?_
      refine lv_iload_n C.x C.b dX5_meets_26 rfl (lv_at hl 1 rfl) ?_
      replace hf := asr_s hf; obtain ⟨hq5, hf⟩ := hf
      refine z_iald C Z (lvC38 Nat.zero_lt_one) kC38 hq5 svC38 dX5_meets_27 ?_
      refine lv_aload_n C.x C.b dX5_meets_28 rfl (lv_at hl 0 rfl) ?_
      refine z_get C Z (lvC10 Nat.zero_lt_one) kC10 zc5 zin5 1 (by decide) k_278 rfl svC10_1 dX5_meets_29 ?_
      refine lv_iload_n C.x C.b dX5_meets_32 rfl (lv_at hl 1 rfl) ?_
      replace hf := asr_s hf; obtain ⟨hq6, hf⟩ := hf
      refine z_iald C Z (lvC39 Nat.zero_lt_one) kC39 hq6 svC39 dX5_meets_33 ?_
      refine lv_iadd C.x C.b dX5_meets_34 ?_
      refine lv_icmp_ge (tgt := 42) C.x C.b dX5_meets_35 (by decide) (fun hc7 => ?_) (fun hc7 => ?_)
      · replace hf := ite_t hf hc7
        refine lv_iconst (v := 0) C.x C.b dX5_meets_42 (by decide) ?_
        obtain ⟨rfl, rfl⟩ := pr_s hf
        exact z_zret C Z rfl dX5_meets_43
      · replace hf := ite_f hf hc7
        refine lv_iconst (v := 1) C.x C.b dX5_meets_38 (by decide) ?_
        refine lv_goto (tgt := 43) C.x C.b dX5_meets_39 (by decide) ?_
        obtain ⟨rfl, rfl⟩ := pr_s hf
        exact z_zret C Z rfl dX5_meets_43
theorem dX5_inTheWay_0 : decode cX5_inTheWay 0 = .ok (.iconst 0, 1) := by decide +kernel
theorem dX5_inTheWay_1 : decode cX5_inTheWay 1 = .ok (.istore_n 3, 1) := by decide +kernel
theorem dX5_inTheWay_2 : decode cX5_inTheWay 2 = .ok (.iconst 0, 1) := by decide +kernel
theorem dX5_inTheWay_3 : decode cX5_inTheWay 3 = .ok (.istore 4, 2) := by decide +kernel
theorem dX5_inTheWay_5 : decode cX5_inTheWay 5 = .ok (.iload 4, 2) := by decide +kernel
theorem dX5_inTheWay_7 : decode cX5_inTheWay 7 = .ok (.bipush 8, 2) := by decide +kernel
theorem dX5_inTheWay_9 : decode cX5_inTheWay 9 = .ok (.if_icmp .ge 28, 3) := by decide +kernel
theorem dX5_inTheWay_12 : decode cX5_inTheWay 12 = .ok (.iload_n 3, 1) := by decide +kernel
theorem dX5_inTheWay_13 : decode cX5_inTheWay 13 = .ok (.aload_n 0, 1) := by decide +kernel
theorem dX5_inTheWay_14 : decode cX5_inTheWay 14 = .ok (.iload 4, 2) := by decide +kernel
theorem dX5_inTheWay_16 : decode cX5_inTheWay 16 = .ok (.iload_n 1, 1) := by decide +kernel
theorem dX5_inTheWay_17 : decode cX5_inTheWay 17 = .ok (.iload_n 2, 1) := by decide +kernel
theorem dX5_inTheWay_18 : decode cX5_inTheWay 18 = .ok (.invokevirtual 29, 3) := by decide +kernel
theorem dX5_inTheWay_21 : decode cX5_inTheWay 21 = .ok (.ifCond .eq 7, 3) := by decide +kernel
theorem dX5_inTheWay_24 : decode cX5_inTheWay 24 = .ok (.iconst 1, 1) := by decide +kernel
theorem dX5_inTheWay_25 : decode cX5_inTheWay 25 = .ok (.goto 4, 3) := by decide +kernel
theorem dX5_inTheWay_28 : decode cX5_inTheWay 28 = .ok (.iconst 0, 1) := by decide +kernel
theorem dX5_inTheWay_29 : decode cX5_inTheWay 29 = .ok (.iadd, 1) := by decide +kernel
theorem dX5_inTheWay_30 : decode cX5_inTheWay 30 = .ok (.istore_n 3, 1) := by decide +kernel
theorem dX5_inTheWay_31 : decode cX5_inTheWay 31 = .ok (.iinc 4 1, 3) := by decide +kernel
theorem dX5_inTheWay_34 : decode cX5_inTheWay 34 = .ok (.goto (-29), 3) := by decide +kernel
theorem dX5_inTheWay_37 : decode cX5_inTheWay 37 = .ok (.iload_n 3, 1) := by decide +kernel
theorem dX5_inTheWay_38 : decode cX5_inTheWay 38 = .ok (.ireturn, 1) := by decide +kernel
set_option maxRecDepth 100000 in
set_option maxHeartbeats 4000000 in
theorem w_X5_inTheWay_l5 {p : Program} {l : Launch} {e : Env} {R : Room} {s : State} {m : MethodId} {args : Array Value} {below : List Frame} {meth : Method} {c : Code} {cells slots : Nat} {Q : State → Prop} {K : KG} {ad : Nat → Nat → Nat} {fl : Nat} {g1 : Int32} {g2 : Int32} (C : Cx p s m args meth c cX5_inTheWay 5 "GlassPalace$Nations" (some .int)) (hR : 2 ≤ R.frames ∧ 40 * (2) ≤ R.locals) (hB : cells ≤ R.cells ∧ slots ≤ R.slots) : ∀ (n : Nat) (u3 : Int32) (u4 : Int32) (M0 : Mem) (H : Heap) (locs : List Loc) (ls : Array Slot), Zd K LC ad M0 s H locs → lv_has ls 5 [(0, .ref (ad 10 0)), (1, .int g1), (2, .int g2), (3, .int u3), (4, .int u4)] → ∀ (q : Int32) (Mq : Mem), f_X5_inTheWay_l5 fl g1 g2 n u3 u4 M0 = some (q, Mq) → (∀ (H : Heap) (locs : List Loc) (ls : Array Slot), Zd K LC ad Mq s H locs → lv_has ls 5 [(3, .int q)] → W p l e R s m args below meth c H locs cells slots Q (F0 m 37 ls [])) → W p l e R s m args below meth c H locs cells slots Q (F0 m 5 ls []) := by
  intro n
  induction n with
  | zero =>
    intro u3 u4 M0 H locs ls Z hl q Mq hf
    have hf : (none : Option (Int32 × Mem)) = some (q, Mq) := hf
    cases hf
  | succ n ih =>
    intro u3 u4 M0 H locs ls Z hl q Mq hf kx0
    replace hf : f_X5_inTheWay_l5_b (f_X5_inTheWay_l5 fl g1 g2 n) fl g1 g2 u3 u4 M0 = some (q, Mq) := hf
    unfold f_X5_inTheWay_l5_b at hf
    refine lv_iload C.x C.b dX5_inTheWay_5 (lv_at hl 4 rfl) ?_
    refine lv_bipush (v := 8) C.x C.b dX5_inTheWay_7 (by decide) ?_
    refine lv_icmp_ge (tgt := 37) C.x C.b dX5_inTheWay_9 (by decide) (fun hc1 => ?_) (fun hc1 => ?_)
    · replace hf := ite_t hf hc1
      obtain ⟨rfl, rfl⟩ := pr_s hf
      exact kx0 _ _ _ Z (lv_sub hl [3] rfl)
    · replace hf := ite_f hf hc1
      refine lv_iload_n C.x C.b dX5_inTheWay_12 rfl (lv_at hl 3 rfl) ?_
      refine lv_aload_n C.x C.b dX5_inTheWay_13 rfl (lv_at hl 0 rfl) ?_
      refine lv_iload C.x C.b dX5_inTheWay_14 (lv_at hl 4 rfl) ?_
      refine lv_iload_n C.x C.b dX5_inTheWay_16 rfl (lv_at hl 1 rfl) ?_
      refine lv_iload_n C.x C.b dX5_inTheWay_17 rfl (lv_at hl 2 rfl) ?_
      replace hf := bn2_s hf; obtain ⟨v3, m2, hkm2, hf⟩ := hf
      refine z_cV (As := [.int u4, .int g1, .int g2]) (rest := [.int u3]) (st1 := [.int v3, .int u3]) C Z mw_X5_meets mv_X5_meets k_1036 (by decide) (z_hR hR (by decide)) (lvC10 Nat.zero_lt_one) kC10 zc5 (c_X5_meets (l := l) (K := K) (ad := ad) hkm2) rfl hl.1 rfl (Nat.le_of_ble_eq_true rfl) dX5_inTheWay_18 hB rfl (fun H locs Z => ?_)
      refine lv_if_eq (tgt := 28) C.x C.b dX5_inTheWay_21 (by decide) (fun hc4 => ?_) (fun hc4 => ?_)
      · replace hf := ite_t hf hc4
        refine lv_iconst (v := 0) C.x C.b dX5_inTheWay_28 (by decide) ?_
        refine lv_iadd C.x C.b dX5_inTheWay_29 ?_
        replace hf := lt1_s hf; obtain ⟨x5, ex5, hf⟩ := hf
        refine z_renI ex5 ?_
        refine z_istore_n (lv' := [(3, .int x5), (0, .ref (ad 10 0)), (1, .int g1), (2, .int g2), (4, .int u4)]) C dX5_inTheWay_30 rfl hl (by decide) rfl (onlast 2 rfl rfl rfl) (fun ls hl => ?_)
        replace hf := lt1_s hf; obtain ⟨x6, ex6, hf⟩ := hf
        refine z_iinc (v := x6) (lv' := [(4, .int x6), (3, .int x5), (0, .ref (ad 10 0)), (1, .int g1), (2, .int g2)]) C dX5_inTheWay_31 hl (k := 4) rfl (by rw [ex6]; rfl) (by decide) rfl (onlast 0 rfl rfl rfl) (fun ls hl => ?_)
        refine lv_goto (tgt := 5) C.x C.b dX5_inTheWay_34 (by decide) ?_
        exact ih _ _ _ _ _ _ Z (lv_sub hl [2, 3, 4, 1, 0] rfl) _ _ hf kx0
      · replace hf := ite_f hf hc4
        refine lv_iconst (v := 1) C.x C.b dX5_inTheWay_24 (by decide) ?_
        refine lv_goto (tgt := 29) C.x C.b dX5_inTheWay_25 (by decide) ?_
        refine lv_iadd C.x C.b dX5_inTheWay_29 ?_
        replace hf := lt1_s hf; obtain ⟨x7, ex7, hf⟩ := hf
        refine z_renI ex7 ?_
        refine z_istore_n (lv' := [(3, .int x7), (0, .ref (ad 10 0)), (1, .int g1), (2, .int g2), (4, .int u4)]) C dX5_inTheWay_30 rfl hl (by decide) rfl (onlast 2 rfl rfl rfl) (fun ls hl => ?_)
        replace hf := lt1_s hf; obtain ⟨x8, ex8, hf⟩ := hf
        refine z_iinc (v := x8) (lv' := [(4, .int x8), (3, .int x7), (0, .ref (ad 10 0)), (1, .int g1), (2, .int g2)]) C dX5_inTheWay_31 hl (k := 4) rfl (by rw [ex8]; rfl) (by decide) rfl (onlast 0 rfl rfl rfl) (fun ls hl => ?_)
        refine lv_goto (tgt := 5) C.x C.b dX5_inTheWay_34 (by decide) ?_
        exact ih _ _ _ _ _ _ Z (lv_sub hl [2, 3, 4, 1, 0] rfl) _ _ hf kx0
set_option maxRecDepth 100000 in
set_option maxHeartbeats 4000000 in
theorem c_X5_inTheWay {l : Launch} {K : KG} {ad : Nat → Nat → Nat} {fl : Nat} {a1 : Int32} {a2 : Int32} {M0 : Mem} {r9 : Int32} {M9 : Mem} (hf : f_X5_inTheWay fl a1 a2 M0 = some (r9, M9)) : Met l yX5_inTheWay (Cond.code yX5_inTheWay cX5_inTheWay 5 (some .int) :: ztb) (RM (2) 0 0) (zPc K LC ad M0 [.ref (ad 10 0), .int a1, .int a2]) (zQ K LC ad (some (.int r9)) M9) 0 0 (zA ad) := by
  refine z_enter (by decide) (Nat.le_of_ble_eq_true rfl) ?_
  intro p e s m args below meth c ls C hin hargs Z hl
  replace C : Cx p s m args meth c cX5_inTheWay 5 "GlassPalace$Nations" (some .int) := C
  replace hl : lv_has ls 5 [(0, .ref (ad 10 0)), (1, .int a1), (2, .int a2)] := hl
  have hR : 2 ≤ (RM (2) 0 0).frames ∧ 40 * (2) ≤ (RM (2) 0 0).locals := ⟨Nat.le_refl _, Nat.le_refl _⟩
  have hB : 0 ≤ (RM (2) 0 0).cells ∧ 0 ≤ (RM (2) 0 0).slots := ⟨Nat.zero_le _, Nat.zero_le _⟩
  unfold f_X5_inTheWay at hf
  refine lv_iconst (v := 0) C.x C.b dX5_inTheWay_0 (by decide) ?_
  refine z_istore_n (lv' := [(3, .int 0), (0, .ref (ad 10 0)), (1, .int a1), (2, .int a2)]) C dX5_inTheWay_1 rfl hl (by decide) rfl (onlast 2 rfl rfl rfl) (fun ls hl => ?_)
  refine lv_iconst (v := 0) C.x C.b dX5_inTheWay_2 (by decide) ?_
  refine z_istore (lv' := [(4, .int 0), (3, .int 0), (0, .ref (ad 10 0)), (1, .int a1), (2, .int a2)]) C dX5_inTheWay_3 hl (by decide) rfl (onlast 0 rfl rfl rfl) (fun ls hl => ?_)
  replace hf := bn2_s hf; obtain ⟨q9, m10, hq9, hf⟩ := hf
  refine w_X5_inTheWay_l5 C hR hB  fl _ _ _ _ _ _ Z (lv_sub hl [2, 3, 4, 1, 0] rfl) _ _ hq9 (fun H locs ls Z hl => ?_)
  refine lv_iload_n C.x C.b dX5_inTheWay_37 rfl (lv_at hl 0 rfl) ?_
  obtain ⟨rfl, rfl⟩ := pr_s hf
  exact z_iret C Z dX5_inTheWay_38
theorem dX5_clear_0 : decode cX5_clear 0 = .ok (.iconst 0, 1) := by decide +kernel
theorem dX5_clear_1 : decode cX5_clear 1 = .ok (.istore_n 3, 1) := by decide +kernel
theorem dX5_clear_2 : decode cX5_clear 2 = .ok (.iload_n 3, 1) := by decide +kernel
theorem dX5_clear_3 : decode cX5_clear 3 = .ok (.bipush 8, 2) := by decide +kernel
theorem dX5_clear_5 : decode cX5_clear 5 = .ok (.if_icmp .ge 36, 3) := by decide +kernel
theorem dX5_clear_8 : decode cX5_clear 8 = .ok (.aload_n 0, 1) := by decide +kernel
theorem dX5_clear_9 : decode cX5_clear 9 = .ok (.iload_n 3, 1) := by decide +kernel
theorem dX5_clear_10 : decode cX5_clear 10 = .ok (.iload_n 1, 1) := by decide +kernel
theorem dX5_clear_11 : decode cX5_clear 11 = .ok (.iload_n 2, 1) := by decide +kernel
theorem dX5_clear_12 : decode cX5_clear 12 = .ok (.invokevirtual 29, 3) := by decide +kernel
theorem dX5_clear_15 : decode cX5_clear 15 = .ok (.ifCond .eq 20, 3) := by decide +kernel
theorem dX5_clear_18 : decode cX5_clear 18 = .ok (.aload_n 0, 1) := by decide +kernel
theorem dX5_clear_19 : decode cX5_clear 19 = .ok (.getfield 15, 3) := by decide +kernel
theorem dX5_clear_22 : decode cX5_clear 22 = .ok (.iload_n 3, 1) := by decide +kernel
theorem dX5_clear_23 : decode cX5_clear 23 = .ok (.iconst 0, 1) := by decide +kernel
theorem dX5_clear_24 : decode cX5_clear 24 = .ok (.iastore, 1) := by decide +kernel
theorem dX5_clear_25 : decode cX5_clear 25 = .ok (.aload_n 0, 1) := by decide +kernel
theorem dX5_clear_26 : decode cX5_clear 26 = .ok (.getfield 18, 3) := by decide +kernel
theorem dX5_clear_29 : decode cX5_clear 29 = .ok (.iload_n 3, 1) := by decide +kernel
theorem dX5_clear_30 : decode cX5_clear 30 = .ok (.dup2, 1) := by decide +kernel
theorem dX5_clear_31 : decode cX5_clear 31 = .ok (.iaload, 1) := by decide +kernel
theorem dX5_clear_32 : decode cX5_clear 32 = .ok (.iconst 1, 1) := by decide +kernel
theorem dX5_clear_33 : decode cX5_clear 33 = .ok (.iadd, 1) := by decide +kernel
theorem dX5_clear_34 : decode cX5_clear 34 = .ok (.iastore, 1) := by decide +kernel
theorem dX5_clear_35 : decode cX5_clear 35 = .ok (.iinc 3 1, 3) := by decide +kernel
theorem dX5_clear_38 : decode cX5_clear 38 = .ok (.goto (-36), 3) := by decide +kernel
theorem dX5_clear_41 : decode cX5_clear 41 = .ok (.return_, 1) := by decide +kernel
set_option maxRecDepth 100000 in
set_option maxHeartbeats 4000000 in
theorem w_X5_clear_l2 {p : Program} {l : Launch} {e : Env} {R : Room} {s : State} {m : MethodId} {args : Array Value} {below : List Frame} {meth : Method} {c : Code} {cells slots : Nat} {Q : State → Prop} {K : KG} {ad : Nat → Nat → Nat} {fl : Nat} {g1 : Int32} {g2 : Int32} (C : Cx p s m args meth c cX5_clear 4 "GlassPalace$Nations" none) (hR : 2 ≤ R.frames ∧ 40 * (2) ≤ R.locals) (hB : cells ≤ R.cells ∧ slots ≤ R.slots) : ∀ (n : Nat) (u3 : Int32) (M0 : Mem) (H : Heap) (locs : List Loc) (ls : Array Slot), Zd K LC ad M0 s H locs → lv_has ls 4 [(0, .ref (ad 10 0)), (1, .int g1), (2, .int g2), (3, .int u3)] → ∀ (Mq : Mem), f_X5_clear_l2 fl g1 g2 n u3 M0 = some Mq → (∀ (H : Heap) (locs : List Loc) (ls : Array Slot), Zd K LC ad Mq s H locs → lv_has ls 4 [] → W p l e R s m args below meth c H locs cells slots Q (F0 m 41 ls [])) → W p l e R s m args below meth c H locs cells slots Q (F0 m 2 ls []) := by
  intro n
  induction n with
  | zero =>
    intro u3 M0 H locs ls Z hl Mq hf
    have hf : (none : Option (Mem)) = some Mq := hf
    cases hf
  | succ n ih =>
    intro u3 M0 H locs ls Z hl Mq hf kx0
    replace hf : f_X5_clear_l2_b (f_X5_clear_l2 fl g1 g2 n) fl g1 g2 u3 M0 = some Mq := hf
    unfold f_X5_clear_l2_b at hf
    refine lv_iload_n C.x C.b dX5_clear_2 rfl (lv_at hl 3 rfl) ?_
    refine lv_bipush (v := 8) C.x C.b dX5_clear_3 (by decide) ?_
    refine lv_icmp_ge (tgt := 41) C.x C.b dX5_clear_5 (by decide) (fun hc1 => ?_) (fun hc1 => ?_)
    · replace hf := ite_t hf hc1
      obtain rfl := sm_s hf
      exact kx0 _ _ _ Z (lv_sub hl [] rfl)
    · replace hf := ite_f hf hc1
      refine lv_aload_n C.x C.b dX5_clear_8 rfl (lv_at hl 0 rfl) ?_
      refine lv_iload_n C.x C.b dX5_clear_9 rfl (lv_at hl 3 rfl) ?_
      refine lv_iload_n C.x C.b dX5_clear_10 rfl (lv_at hl 1 rfl) ?_
      refine lv_iload_n C.x C.b dX5_clear_11 rfl (lv_at hl 2 rfl) ?_
      replace hf := bn2_s hf; obtain ⟨v3, m2, hkm2, hf⟩ := hf
      refine z_cV (As := [.int u3, .int g1, .int g2]) (rest := []) (st1 := [.int v3]) C Z mw_X5_meets mv_X5_meets k_1036 (by decide) (z_hR hR (by decide)) (lvC10 Nat.zero_lt_one) kC10 zc5 (c_X5_meets (l := l) (K := K) (ad := ad) hkm2) rfl hl.1 rfl (Nat.le_of_ble_eq_true rfl) dX5_clear_12 hB rfl (fun H locs Z => ?_)
      refine lv_if_eq (tgt := 35) C.x C.b dX5_clear_15 (by decide) (fun hc4 => ?_) (fun hc4 => ?_)
      · replace hf := ite_t hf hc4
        replace hf := lt1_s hf; obtain ⟨x5, ex5, hf⟩ := hf
        refine z_iinc (v := x5) (lv' := [(3, .int x5), (0, .ref (ad 10 0)), (1, .int g1), (2, .int g2)]) C dX5_clear_35 hl (k := 3) rfl (by rw [ex5]; rfl) (by decide) rfl (onlast 2 rfl rfl rfl) (fun ls hl => ?_)
        refine lv_goto (tgt := 2) C.x C.b dX5_clear_38 (by decide) ?_
        exact ih _ _ _ _ _ Z (lv_sub hl [1, 2, 3, 0] rfl) _ hf kx0
      · replace hf := ite_f hf hc4
        refine lv_aload_n C.x C.b dX5_clear_18 rfl (lv_at hl 0 rfl) ?_
        refine z_get C Z (lvC10 Nat.zero_lt_one) kC10 zc5 zin5 1 (by decide) k_278 rfl svC10_1 dX5_clear_19 ?_
        refine lv_iload_n C.x C.b dX5_clear_22 rfl (lv_at hl 3 rfl) ?_
        refine lv_iconst (v := 0) C.x C.b dX5_clear_23 (by decide) ?_
        replace hf := asr_s hf; obtain ⟨hq6, hf⟩ := hf
        replace hf := lt1_s hf; obtain ⟨m7, em7, hf⟩ := hf
        refine z_iast (M1 := m7) C Z (lvC39 Nat.zero_lt_one) (by decide) kC39 hq6 em7 stC39u dX5_clear_24 (fun H locs Z => ?_)
        refine lv_aload_n C.x C.b dX5_clear_25 rfl (lv_at hl 0 rfl) ?_
        refine z_get C Z (lvC10 Nat.zero_lt_one) kC10 zc5 zin5 2 (by decide) k_280 rfl svC10_2 dX5_clear_26 ?_
        refine lv_iload_n C.x C.b dX5_clear_29 rfl (lv_at hl 3 rfl) ?_
        refine lv_dup2_11 C.x C.b dX5_clear_30 rfl rfl ?_
        replace hf := asr_s hf; obtain ⟨hq8, hf⟩ := hf
        refine z_iald C Z (lvC40 Nat.zero_lt_one) kC40 hq8 svC40 dX5_clear_31 ?_
        refine lv_iconst (v := 1) C.x C.b dX5_clear_32 (by decide) ?_
        refine lv_iadd C.x C.b dX5_clear_33 ?_
        replace hf := asr_s hf; obtain ⟨hq9, hf⟩ := hf
        replace hf := lt1_s hf; obtain ⟨m10, em10, hf⟩ := hf
        refine z_iast (M1 := m10) C Z (lvC40 Nat.zero_lt_one) (by decide) kC40 hq9 em10 stC40u dX5_clear_34 (fun H locs Z => ?_)
        replace hf := lt1_s hf; obtain ⟨x11, ex11, hf⟩ := hf
        refine z_iinc (v := x11) (lv' := [(3, .int x11), (0, .ref (ad 10 0)), (1, .int g1), (2, .int g2)]) C dX5_clear_35 hl (k := 3) rfl (by rw [ex11]; rfl) (by decide) rfl (onlast 2 rfl rfl rfl) (fun ls hl => ?_)
        refine lv_goto (tgt := 2) C.x C.b dX5_clear_38 (by decide) ?_
        exact ih _ _ _ _ _ Z (lv_sub hl [1, 2, 3, 0] rfl) _ hf kx0
set_option maxRecDepth 100000 in
set_option maxHeartbeats 4000000 in
theorem c_X5_clear {l : Launch} {K : KG} {ad : Nat → Nat → Nat} {fl : Nat} {a1 : Int32} {a2 : Int32} {M0 : Mem} {M9 : Mem} (hf : f_X5_clear fl a1 a2 M0 = some M9) : Met l yX5_clear (Cond.code yX5_clear cX5_clear 4 none :: ztb) (RM (2) 0 0) (zPc K LC ad M0 [.ref (ad 10 0), .int a1, .int a2]) (zQ K LC ad (none) M9) 0 0 (zA ad) := by
  refine z_enter (by decide) (Nat.le_of_ble_eq_true rfl) ?_
  intro p e s m args below meth c ls C hin hargs Z hl
  replace C : Cx p s m args meth c cX5_clear 4 "GlassPalace$Nations" none := C
  replace hl : lv_has ls 4 [(0, .ref (ad 10 0)), (1, .int a1), (2, .int a2)] := hl
  have hR : 2 ≤ (RM (2) 0 0).frames ∧ 40 * (2) ≤ (RM (2) 0 0).locals := ⟨Nat.le_refl _, Nat.le_refl _⟩
  have hB : 0 ≤ (RM (2) 0 0).cells ∧ 0 ≤ (RM (2) 0 0).slots := ⟨Nat.zero_le _, Nat.zero_le _⟩
  unfold f_X5_clear at hf
  refine lv_iconst (v := 0) C.x C.b dX5_clear_0 (by decide) ?_
  refine z_istore_n (lv' := [(3, .int 0), (0, .ref (ad 10 0)), (1, .int a1), (2, .int a2)]) C dX5_clear_1 rfl hl (by decide) rfl (onlast 2 rfl rfl rfl) (fun ls hl => ?_)
  replace hf := bn1_s hf; obtain ⟨m13, hq12, hf⟩ := hf
  refine w_X5_clear_l2 C hR hB  fl _ _ _ _ _ Z (lv_sub hl [1, 2, 3, 0] rfl) _ hq12 (fun H locs ls Z hl => ?_)
  obtain rfl := sm_s hf
  exact z_vret C Z dX5_clear_41
theorem dX5_place_0 : decode cX5_place 0 = .ok (.iload_n 1, 1) := by decide +kernel
theorem dX5_place_1 : decode cX5_place 1 = .ok (.ifCond .lt 9, 3) := by decide +kernel
theorem dX5_place_4 : decode cX5_place 4 = .ok (.iload_n 1, 1) := by decide +kernel
theorem dX5_place_5 : decode cX5_place 5 = .ok (.bipush 8, 2) := by decide +kernel
theorem dX5_place_7 : decode cX5_place 7 = .ok (.if_icmp .lt 5, 3) := by decide +kernel
theorem dX5_place_10 : decode cX5_place 10 = .ok (.iconst (-1), 1) := by decide +kernel
theorem dX5_place_11 : decode cX5_place 11 = .ok (.ireturn, 1) := by decide +kernel
theorem dX5_place_12 : decode cX5_place 12 = .ok (.aload_n 0, 1) := by decide +kernel
theorem dX5_place_13 : decode cX5_place 13 = .ok (.getfield 15, 3) := by decide +kernel
theorem dX5_place_16 : decode cX5_place 16 = .ok (.iload_n 1, 1) := by decide +kernel
theorem dX5_place_17 : decode cX5_place 17 = .ok (.iconst 0, 1) := by decide +kernel
theorem dX5_place_18 : decode cX5_place 18 = .ok (.iastore, 1) := by decide +kernel
theorem dX5_place_19 : decode cX5_place 19 = .ok (.iconst 0, 1) := by decide +kernel
theorem dX5_place_20 : decode cX5_place 20 = .ok (.istore_n 3, 1) := by decide +kernel
theorem dX5_place_21 : decode cX5_place 21 = .ok (.bipush 8, 2) := by decide +kernel
theorem dX5_place_23 : decode cX5_place 23 = .ok (.istore 4, 2) := by decide +kernel
theorem dX5_place_25 : decode cX5_place 25 = .ok (.iconst 0, 1) := by decide +kernel
theorem dX5_place_26 : decode cX5_place 26 = .ok (.istore 5, 2) := by decide +kernel
theorem dX5_place_28 : decode cX5_place 28 = .ok (.iload 5, 2) := by decide +kernel
theorem dX5_place_30 : decode cX5_place 30 = .ok (.bipush 30, 2) := by decide +kernel
theorem dX5_place_32 : decode cX5_place 32 = .ok (.if_icmp .ge 45, 3) := by decide +kernel
theorem dX5_place_35 : decode cX5_place 35 = .ok (.iload 5, 2) := by decide +kernel
theorem dX5_place_37 : decode cX5_place 37 = .ok (.bipush 6, 2) := by decide +kernel
theorem dX5_place_39 : decode cX5_place 39 = .ok (.irem, 1) := by decide +kernel
theorem dX5_place_40 : decode cX5_place 40 = .ok (.iload_n 2, 1) := by decide +kernel
theorem dX5_place_41 : decode cX5_place 41 = .ok (.iadd, 1) := by decide +kernel
theorem dX5_place_42 : decode cX5_place 42 = .ok (.bipush 6, 2) := by decide +kernel
theorem dX5_place_44 : decode cX5_place 44 = .ok (.if_icmp .gt 27, 3) := by decide +kernel
theorem dX5_place_47 : decode cX5_place 47 = .ok (.aload_n 0, 1) := by decide +kernel
theorem dX5_place_48 : decode cX5_place 48 = .ok (.iload 5, 2) := by decide +kernel
theorem dX5_place_50 : decode cX5_place 50 = .ok (.iload_n 2, 1) := by decide +kernel
theorem dX5_place_51 : decode cX5_place 51 = .ok (.invokevirtual 21, 3) := by decide +kernel
theorem dX5_place_54 : decode cX5_place 54 = .ok (.iload 4, 2) := by decide +kernel
theorem dX5_place_56 : decode cX5_place 56 = .ok (.if_icmp .ge 15, 3) := by decide +kernel
theorem dX5_place_59 : decode cX5_place 59 = .ok (.iload 5, 2) := by decide +kernel
theorem dX5_place_61 : decode cX5_place 61 = .ok (.istore_n 3, 1) := by decide +kernel
theorem dX5_place_62 : decode cX5_place 62 = .ok (.aload_n 0, 1) := by decide +kernel
theorem dX5_place_63 : decode cX5_place 63 = .ok (.iload 5, 2) := by decide +kernel
theorem dX5_place_65 : decode cX5_place 65 = .ok (.iload_n 2, 1) := by decide +kernel
theorem dX5_place_66 : decode cX5_place 66 = .ok (.invokevirtual 21, 3) := by decide +kernel
theorem dX5_place_69 : decode cX5_place 69 = .ok (.istore 4, 2) := by decide +kernel
theorem dX5_place_71 : decode cX5_place 71 = .ok (.iinc 5 1, 3) := by decide +kernel
theorem dX5_place_74 : decode cX5_place 74 = .ok (.goto (-46), 3) := by decide +kernel
theorem dX5_place_77 : decode cX5_place 77 = .ok (.aload_n 0, 1) := by decide +kernel
theorem dX5_place_78 : decode cX5_place 78 = .ok (.iload_n 3, 1) := by decide +kernel
theorem dX5_place_79 : decode cX5_place 79 = .ok (.iload_n 2, 1) := by decide +kernel
theorem dX5_place_80 : decode cX5_place 80 = .ok (.invokevirtual 25, 3) := by decide +kernel
theorem dX5_place_83 : decode cX5_place 83 = .ok (.aload_n 0, 1) := by decide +kernel
theorem dX5_place_84 : decode cX5_place 84 = .ok (.getfield 9, 3) := by decide +kernel
theorem dX5_place_87 : decode cX5_place 87 = .ok (.iload_n 1, 1) := by decide +kernel
theorem dX5_place_88 : decode cX5_place 88 = .ok (.iload_n 3, 1) := by decide +kernel
theorem dX5_place_89 : decode cX5_place 89 = .ok (.iastore, 1) := by decide +kernel
theorem dX5_place_90 : decode cX5_place 90 = .ok (.aload_n 0, 1) := by decide +kernel
theorem dX5_place_91 : decode cX5_place 91 = .ok (.getfield 15, 3) := by decide +kernel
theorem dX5_place_94 : decode cX5_place 94 = .ok (.iload_n 1, 1) := by decide +kernel
theorem dX5_place_95 : decode cX5_place 95 = .ok (.iload_n 2, 1) := by decide +kernel
theorem dX5_place_96 : decode cX5_place 96 = .ok (.iastore, 1) := by decide +kernel
theorem dX5_place_97 : decode cX5_place 97 = .ok (.iload_n 3, 1) := by decide +kernel
theorem dX5_place_98 : decode cX5_place 98 = .ok (.ireturn, 1) := by decide +kernel
set_option maxRecDepth 100000 in
set_option maxHeartbeats 4000000 in
theorem w_X5_place_l28 {p : Program} {l : Launch} {e : Env} {R : Room} {s : State} {m : MethodId} {args : Array Value} {below : List Frame} {meth : Method} {c : Code} {cells slots : Nat} {Q : State → Prop} {K : KG} {ad : Nat → Nat → Nat} {fl : Nat} {g1 : Int32} {g2 : Int32} (C : Cx p s m args meth c cX5_place 6 "GlassPalace$Nations" (some .int)) (hR : 3 ≤ R.frames ∧ 40 * (3) ≤ R.locals) (hB : cells ≤ R.cells ∧ slots ≤ R.slots) : ∀ (n : Nat) (u3 : Int32) (u4 : Int32) (u5 : Int32) (M0 : Mem) (H : Heap) (locs : List Loc) (ls : Array Slot), Zd K LC ad M0 s H locs → lv_has ls 6 [(0, .ref (ad 10 0)), (1, .int g1), (2, .int g2), (3, .int u3), (4, .int u4), (5, .int u5)] → ∀ (q : Int32) (Mq : Mem), f_X5_place_l28 fl g1 g2 n u3 u4 u5 M0 = some (q, Mq) → (∀ (H : Heap) (locs : List Loc) (ls : Array Slot), Zd K LC ad Mq s H locs → lv_has ls 6 [(0, .ref (ad 10 0)), (1, .int g1), (2, .int g2), (3, .int q)] → W p l e R s m args below meth c H locs cells slots Q (F0 m 77 ls [])) → W p l e R s m args below meth c H locs cells slots Q (F0 m 28 ls []) := by
  intro n
  induction n with
  | zero =>
    intro u3 u4 u5 M0 H locs ls Z hl q Mq hf
    have hf : (none : Option (Int32 × Mem)) = some (q, Mq) := hf
    cases hf
  | succ n ih =>
    intro u3 u4 u5 M0 H locs ls Z hl q Mq hf kx0
    replace hf : f_X5_place_l28_b (f_X5_place_l28 fl g1 g2 n) fl g1 g2 u3 u4 u5 M0 = some (q, Mq) := hf
    unfold f_X5_place_l28_b at hf
    refine lv_iload C.x C.b dX5_place_28 (lv_at hl 5 rfl) ?_
    refine lv_bipush (v := 30) C.x C.b dX5_place_30 (by decide) ?_
    refine lv_icmp_ge (tgt := 77) C.x C.b dX5_place_32 (by decide) (fun hc5 => ?_) (fun hc5 => ?_)
    · replace hf := ite_t hf hc5
      obtain ⟨rfl, rfl⟩ := pr_s hf
      exact kx0 _ _ _ Z (lv_sub hl [0, 1, 2, 3] rfl)
    · replace hf := ite_f hf hc5
      refine lv_iload C.x C.b dX5_place_35 (lv_at hl 5 rfl) ?_
      refine lv_bipush (v := 6) C.x C.b dX5_place_37 (by decide) ?_
      refine z_irem C dX5_place_39 (by decide) ?_
      refine lv_iload_n C.x C.b dX5_place_40 rfl (lv_at hl 2 rfl) ?_
      refine lv_iadd C.x C.b dX5_place_41 ?_
      refine lv_bipush (v := 6) C.x C.b dX5_place_42 (by decide) ?_
      refine lv_icmp_gt (tgt := 71) C.x C.b dX5_place_44 (by decide) (fun hc6 => ?_) (fun hc6 => ?_)
      · replace hf := ite_t hf hc6
        replace hf := lt1_s hf; obtain ⟨x7, ex7, hf⟩ := hf
        refine z_iinc (v := x7) (lv' := [(5, .int x7), (0, .ref (ad 10 0)), (1, .int g1), (2, .int g2), (3, .int u3), (4, .int u4)]) C dX5_place_71 hl (k := 5) rfl (by rw [ex7]; rfl) (by decide) rfl (onlast 4 rfl rfl rfl) (fun ls hl => ?_)
        refine lv_goto (tgt := 28) C.x C.b dX5_place_74 (by decide) ?_
        exact ih _ _ _ _ _ _ _ Z (lv_sub hl [1, 2, 3, 4, 5, 0] rfl) _ _ hf kx0
      · replace hf := ite_f hf hc6
        refine lv_aload_n C.x C.b dX5_place_47 rfl (lv_at hl 0 rfl) ?_
        refine lv_iload C.x C.b dX5_place_48 (lv_at hl 5 rfl) ?_
        refine lv_iload_n C.x C.b dX5_place_50 rfl (lv_at hl 2 rfl) ?_
        replace hf := bn2_s hf; obtain ⟨v9, m8, hkm8, hf⟩ := hf
        refine z_cV (As := [.int u5, .int g2]) (rest := []) (st1 := [.int v9]) C Z mw_X5_inTheWay mv_X5_inTheWay k_1032 (by decide) (z_hR hR (by decide)) (lvC10 Nat.zero_lt_one) kC10 zc5 (c_X5_inTheWay (l := l) (K := K) (ad := ad) hkm8) rfl hl.1 rfl (Nat.le_of_ble_eq_true rfl) dX5_place_51 hB rfl (fun H locs Z => ?_)
        refine lv_iload C.x C.b dX5_place_54 (lv_at hl 4 rfl) ?_
        refine lv_icmp_ge (tgt := 71) C.x C.b dX5_place_56 (by decide) (fun hc10 => ?_) (fun hc10 => ?_)
        · replace hf := ite_t hf hc10
          replace hf := lt1_s hf; obtain ⟨x11, ex11, hf⟩ := hf
          refine z_iinc (v := x11) (lv' := [(5, .int x11), (0, .ref (ad 10 0)), (1, .int g1), (2, .int g2), (3, .int u3), (4, .int u4)]) C dX5_place_71 hl (k := 5) rfl (by rw [ex11]; rfl) (by decide) rfl (onlast 4 rfl rfl rfl) (fun ls hl => ?_)
          refine lv_goto (tgt := 28) C.x C.b dX5_place_74 (by decide) ?_
          exact ih _ _ _ _ _ _ _ Z (lv_sub hl [1, 2, 3, 4, 5, 0] rfl) _ _ hf kx0
        · replace hf := ite_f hf hc10
          refine lv_iload C.x C.b dX5_place_59 (lv_at hl 5 rfl) ?_
          refine z_istore_n (lv' := [(3, .int u5), (0, .ref (ad 10 0)), (1, .int g1), (2, .int g2), (4, .int u4), (5, .int u5)]) C dX5_place_61 rfl hl (by decide) rfl (onlast 2 rfl rfl rfl) (fun ls hl => ?_)
          refine lv_aload_n C.x C.b dX5_place_62 rfl (lv_at hl 1 rfl) ?_
          refine lv_iload C.x C.b dX5_place_63 (lv_at hl 5 rfl) ?_
          refine lv_iload_n C.x C.b dX5_place_65 rfl (lv_at hl 3 rfl) ?_
          replace hf := bn2_s hf; obtain ⟨v13, m12, hkm12, hf⟩ := hf
          refine z_cV (As := [.int u5, .int g2]) (rest := []) (st1 := [.int v13]) C Z mw_X5_inTheWay mv_X5_inTheWay k_1032 (by decide) (z_hR hR (by decide)) (lvC10 Nat.zero_lt_one) kC10 zc5 (c_X5_inTheWay (l := l) (K := K) (ad := ad) hkm12) rfl hl.1 rfl (Nat.le_of_ble_eq_true rfl) dX5_place_66 hB rfl (fun H locs Z => ?_)
          refine z_istore (lv' := [(4, .int v13), (3, .int u5), (0, .ref (ad 10 0)), (1, .int g1), (2, .int g2), (5, .int u5)]) C dX5_place_69 hl (by decide) rfl (onlast 0 rfl rfl rfl) (fun ls hl => ?_)
          replace hf := lt1_s hf; obtain ⟨x14, ex14, hf⟩ := hf
          refine z_iinc (v := x14) (lv' := [(5, .int x14), (4, .int v13), (3, .int u5), (0, .ref (ad 10 0)), (1, .int g1), (2, .int g2)]) C dX5_place_71 hl (k := 5) rfl (by rw [ex14]; rfl) (by decide) rfl (onlast 0 rfl rfl rfl) (fun ls hl => ?_)
          refine lv_goto (tgt := 28) C.x C.b dX5_place_74 (by decide) ?_
          exact ih _ _ _ _ _ _ _ Z (lv_sub hl [3, 4, 5, 2, 1, 0] rfl) _ _ hf kx0
set_option maxRecDepth 100000 in
set_option maxHeartbeats 4000000 in
theorem c_X5_place {l : Launch} {K : KG} {ad : Nat → Nat → Nat} {fl : Nat} {a1 : Int32} {a2 : Int32} {M0 : Mem} {r9 : Int32} {M9 : Mem} (hf : f_X5_place fl a1 a2 M0 = some (r9, M9)) : Met l yX5_place (Cond.code yX5_place cX5_place 6 (some .int) :: ztb) (RM (3) 0 0) (zPc K LC ad M0 [.ref (ad 10 0), .int a1, .int a2]) (zQ K LC ad (some (.int r9)) M9) 0 0 (zA ad) := by
  refine z_enter (by decide) (Nat.le_of_ble_eq_true rfl) ?_
  intro p e s m args below meth c ls C hin hargs Z hl
  replace C : Cx p s m args meth c cX5_place 6 "GlassPalace$Nations" (some .int) := C
  replace hl : lv_has ls 6 [(0, .ref (ad 10 0)), (1, .int a1), (2, .int a2)] := hl
  have hR : 3 ≤ (RM (3) 0 0).frames ∧ 40 * (3) ≤ (RM (3) 0 0).locals := ⟨Nat.le_refl _, Nat.le_refl _⟩
  have hB : 0 ≤ (RM (3) 0 0).cells ∧ 0 ≤ (RM (3) 0 0).slots := ⟨Nat.zero_le _, Nat.zero_le _⟩
  unfold f_X5_place at hf
  refine lv_iload_n C.x C.b dX5_place_0 rfl (lv_at hl 1 rfl) ?_
  refine lv_if_lt (tgt := 10) C.x C.b dX5_place_1 (by decide) (fun hc1 => ?_) (fun hc1 => ?_)
  · replace hf := ite_t hf hc1
    refine lv_iconst (v := (-1)) C.x C.b dX5_place_10 (by decide) ?_
    obtain ⟨rfl, rfl⟩ := pr_s hf
    exact z_iret C Z dX5_place_11
  · replace hf := ite_f hf hc1
    refine lv_iload_n C.x C.b dX5_place_4 rfl (lv_at hl 1 rfl) ?_
    refine lv_bipush (v := 8) C.x C.b dX5_place_5 (by decide) ?_
    refine lv_icmp_lt (tgt := 12) C.x C.b dX5_place_7 (by decide) (fun hc2 => ?_) (fun hc2 => ?_)
    · replace hf := ite_t hf hc2
      refine lv_aload_n C.x C.b dX5_place_12 rfl (lv_at hl 0 rfl) ?_
      refine z_get C Z (lvC10 Nat.zero_lt_one) kC10 zc5 zin5 1 (by decide) k_278 rfl svC10_1 dX5_place_13 ?_
      refine lv_iload_n C.x C.b dX5_place_16 rfl (lv_at hl 1 rfl) ?_
      refine lv_iconst (v := 0) C.x C.b dX5_place_17 (by decide) ?_
      replace hf := asr_s hf; obtain ⟨hq3, hf⟩ := hf
      replace hf := lt1_s hf; obtain ⟨m4, em4, hf⟩ := hf
      refine z_iast (M1 := m4) C Z (lvC39 Nat.zero_lt_one) (by decide) kC39 hq3 em4 stC39u dX5_place_18 (fun H locs Z => ?_)
      refine lv_iconst (v := 0) C.x C.b dX5_place_19 (by decide) ?_
      refine z_istore_n (lv' := [(3, .int 0), (0, .ref (ad 10 0)), (1, .int a1), (2, .int a2)]) C dX5_place_20 rfl hl (by decide) rfl (onlast 2 rfl rfl rfl) (fun ls hl => ?_)
      refine lv_bipush (v := 8) C.x C.b dX5_place_21 (by decide) ?_
      refine z_istore (lv' := [(4, .int 8), (3, .int 0), (0, .ref (ad 10 0)), (1, .int a1), (2, .int a2)]) C dX5_place_23 hl (by decide) rfl (onlast 0 rfl rfl rfl) (fun ls hl => ?_)
      refine lv_iconst (v := 0) C.x C.b dX5_place_25 (by decide) ?_
      refine z_istore (lv' := [(5, .int 0), (4, .int 8), (3, .int 0), (0, .ref (ad 10 0)), (1, .int a1), (2, .int a2)]) C dX5_place_26 hl (by decide) rfl (onlast 0 rfl rfl rfl) (fun ls hl => ?_)
      replace hf := bn2_s hf; obtain ⟨q15, m16, hq15, hf⟩ := hf
      refine w_X5_place_l28 C hR hB  fl _ _ _ _ _ _ _ Z (lv_sub hl [3, 4, 5, 2, 1, 0] rfl) _ _ hq15 (fun H locs ls Z hl => ?_)
      refine lv_aload_n C.x C.b dX5_place_77 rfl (lv_at hl 0 rfl) ?_
      refine lv_iload_n C.x C.b dX5_place_78 rfl (lv_at hl 3 rfl) ?_
      refine lv_iload_n C.x C.b dX5_place_79 rfl (lv_at hl 2 rfl) ?_
      replace hf := bn1_s hf; obtain ⟨m17, hkm17, hf⟩ := hf
      refine z_cV (As := [.int q15, .int a2]) (rest := []) (st1 := []) C Z mw_X5_clear mv_X5_clear k_1040 (by decide) (z_hR hR (by decide)) (lvC10 Nat.zero_lt_one) kC10 zc5 (c_X5_clear (l := l) (K := K) (ad := ad) hkm17) rfl hl.1 rfl (Nat.le_of_ble_eq_true rfl) dX5_place_80 hB rfl (fun H locs Z => ?_)
      refine lv_aload_n C.x C.b dX5_place_83 rfl (lv_at hl 0 rfl) ?_
      refine z_get C Z (lvC10 Nat.zero_lt_one) kC10 zc5 zin5 0 (by decide) k_276 rfl svC10_0 dX5_place_84 ?_
      refine lv_iload_n C.x C.b dX5_place_87 rfl (lv_at hl 1 rfl) ?_
      refine lv_iload_n C.x C.b dX5_place_88 rfl (lv_at hl 3 rfl) ?_
      replace hf := asr_s hf; obtain ⟨hq18, hf⟩ := hf
      replace hf := lt1_s hf; obtain ⟨m19, em19, hf⟩ := hf
      refine z_iast (M1 := m19) C Z (lvC38 Nat.zero_lt_one) (by decide) kC38 hq18 em19 stC38u dX5_place_89 (fun H locs Z => ?_)
      refine lv_aload_n C.x C.b dX5_place_90 rfl (lv_at hl 0 rfl) ?_
      refine z_get C Z (lvC10 Nat.zero_lt_one) kC10 zc5 zin5 1 (by decide) k_278 rfl svC10_1 dX5_place_91 ?_
      refine lv_iload_n C.x C.b dX5_place_94 rfl (lv_at hl 1 rfl) ?_
      refine lv_iload_n C.x C.b dX5_place_95 rfl (lv_at hl 2 rfl) ?_
      replace hf := asr_s hf; obtain ⟨hq20, hf⟩ := hf
      replace hf := lt1_s hf; obtain ⟨m21, em21, hf⟩ := hf
      refine z_iast (M1 := m21) C Z (lvC39 Nat.zero_lt_one) (by decide) kC39 hq20 em21 stC39u dX5_place_96 (fun H locs Z => ?_)
      refine lv_iload_n C.x C.b dX5_place_97 rfl (lv_at hl 3 rfl) ?_
      obtain ⟨rfl, rfl⟩ := pr_s hf
      exact z_iret C Z dX5_place_98
    · replace hf := ite_f hf hc2
      refine lv_iconst (v := (-1)) C.x C.b dX5_place_10 (by decide) ?_
      obtain ⟨rfl, rfl⟩ := pr_s hf
      exact z_iret C Z dX5_place_11
theorem dX6_addRow_0 : decode cX6_addRow 0 = .ok (.aload_n 0, 1) := by decide +kernel
theorem dX6_addRow_1 : decode cX6_addRow 1 = .ok (.getfield 36, 3) := by decide +kernel
theorem dX6_addRow_4 : decode cX6_addRow 4 = .ok (.ifCond .lt 12, 3) := by decide +kernel
theorem dX6_addRow_7 : decode cX6_addRow 7 = .ok (.aload_n 0, 1) := by decide +kernel
theorem dX6_addRow_8 : decode cX6_addRow 8 = .ok (.getfield 36, 3) := by decide +kernel
theorem dX6_addRow_11 : decode cX6_addRow 11 = .ok (.bipush 20, 2) := by decide +kernel
theorem dX6_addRow_13 : decode cX6_addRow 13 = .ok (.if_icmp .lt 5, 3) := by decide +kernel
theorem dX6_addRow_16 : decode cX6_addRow 16 = .ok (.iconst 0, 1) := by decide +kernel
theorem dX6_addRow_17 : decode cX6_addRow 17 = .ok (.ireturn, 1) := by decide +kernel
theorem dX6_addRow_18 : decode cX6_addRow 18 = .ok (.aload_n 0, 1) := by decide +kernel
theorem dX6_addRow_19 : decode cX6_addRow 19 = .ok (.getfield 9, 3) := by decide +kernel
theorem dX6_addRow_22 : decode cX6_addRow 22 = .ok (.aload_n 0, 1) := by decide +kernel
theorem dX6_addRow_23 : decode cX6_addRow 23 = .ok (.getfield 36, 3) := by decide +kernel
theorem dX6_addRow_26 : decode cX6_addRow 26 = .ok (.iload_n 1, 1) := by decide +kernel
theorem dX6_addRow_27 : decode cX6_addRow 27 = .ok (.iastore, 1) := by decide +kernel
theorem dX6_addRow_28 : decode cX6_addRow 28 = .ok (.aload_n 0, 1) := by decide +kernel
theorem dX6_addRow_29 : decode cX6_addRow 29 = .ok (.getfield 21, 3) := by decide +kernel
theorem dX6_addRow_32 : decode cX6_addRow 32 = .ok (.aload_n 0, 1) := by decide +kernel
theorem dX6_addRow_33 : decode cX6_addRow 33 = .ok (.getfield 36, 3) := by decide +kernel
theorem dX6_addRow_36 : decode cX6_addRow 36 = .ok (.iload_n 2, 1) := by decide +kernel
theorem dX6_addRow_37 : decode cX6_addRow 37 = .ok (.iastore, 1) := by decide +kernel
theorem dX6_addRow_38 : decode cX6_addRow 38 = .ok (.aload_n 0, 1) := by decide +kernel
theorem dX6_addRow_39 : decode cX6_addRow 39 = .ok (.getfield 15, 3) := by decide +kernel
theorem dX6_addRow_42 : decode cX6_addRow 42 = .ok (.aload_n 0, 1) := by decide +kernel
theorem dX6_addRow_43 : decode cX6_addRow 43 = .ok (.getfield 36, 3) := by decide +kernel
theorem dX6_addRow_46 : decode cX6_addRow 46 = .ok (.iload_n 3, 1) := by decide +kernel
theorem dX6_addRow_47 : decode cX6_addRow 47 = .ok (.iastore, 1) := by decide +kernel
theorem dX6_addRow_48 : decode cX6_addRow 48 = .ok (.aload_n 0, 1) := by decide +kernel
theorem dX6_addRow_49 : decode cX6_addRow 49 = .ok (.dup, 1) := by decide +kernel
theorem dX6_addRow_50 : decode cX6_addRow 50 = .ok (.getfield 36, 3) := by decide +kernel
theorem dX6_addRow_53 : decode cX6_addRow 53 = .ok (.iconst 1, 1) := by decide +kernel
theorem dX6_addRow_54 : decode cX6_addRow 54 = .ok (.iadd, 1) := by decide +kernel
theorem dX6_addRow_55 : decode cX6_addRow 55 = .ok (.putfield 36, 3) := by decide +kernel
theorem dX6_addRow_58 : decode cX6_addRow 58 = .ok (.iconst 1, 1) := by decide +kernel
theorem dX6_addRow_59 : decode cX6_addRow 59 = .ok (.ireturn, 1) := by decide +kernel
set_option maxRecDepth 100000 in
set_option maxHeartbeats 4000000 in
theorem c_X6_addRow {l : Launch} {K : KG} {ad : Nat → Nat → Nat} {fl : Nat} {a1 : Int32} {a2 : Int32} {a3 : Int32} {M0 : Mem} {r9 : Int32} {M9 : Mem} (hf : f_X6_addRow fl a1 a2 a3 M0 = some (r9, M9)) : Met l yX6_addRow (Cond.code yX6_addRow cX6_addRow 4 (some .boolean) :: ztb) (RM (1) 0 0) (zPc K LC ad M0 [.ref (ad 9 0), .int a1, .int a2, .int a3]) (zQ K LC ad (some (.int r9)) M9) 0 0 (zA ad) := by
  refine z_enter (by decide) (Nat.le_of_ble_eq_true rfl) ?_
  intro p e s m args below meth c ls C hin hargs Z hl
  replace C : Cx p s m args meth c cX6_addRow 4 "GlassPalace$Plan" (some .boolean) := C
  replace hl : lv_has ls 4 [(0, .ref (ad 9 0)), (1, .int a1), (2, .int a2), (3, .int a3)] := hl
  have hR : 1 ≤ (RM (1) 0 0).frames ∧ 40 * (1) ≤ (RM (1) 0 0).locals := ⟨Nat.le_refl _, Nat.le_refl _⟩
  have hB : 0 ≤ (RM (1) 0 0).cells ∧ 0 ≤ (RM (1) 0 0).slots := ⟨Nat.zero_le _, Nat.zero_le _⟩
  unfold f_X6_addRow at hf
  refine lv_aload_n C.x C.b dX6_addRow_0 rfl (lv_at hl 0 rfl) ?_
  refine z_get C Z (lvC9 Nat.zero_lt_one) kC9 zc6 zin6 0 (by decide) k_234 rfl svC9_0 dX6_addRow_1 ?_
  refine lv_if_lt (tgt := 16) C.x C.b dX6_addRow_4 (by decide) (fun hc1 => ?_) (fun hc1 => ?_)
  · replace hf := ite_t hf hc1
    refine lv_iconst (v := 0) C.x C.b dX6_addRow_16 (by decide) ?_
    obtain ⟨rfl, rfl⟩ := pr_s hf
    exact z_zret C Z rfl dX6_addRow_17
  · replace hf := ite_f hf hc1
    refine lv_aload_n C.x C.b dX6_addRow_7 rfl (lv_at hl 0 rfl) ?_
    refine z_get C Z (lvC9 Nat.zero_lt_one) kC9 zc6 zin6 0 (by decide) k_234 rfl svC9_0 dX6_addRow_8 ?_
    refine lv_bipush (v := 20) C.x C.b dX6_addRow_11 (by decide) ?_
    refine lv_icmp_lt (tgt := 18) C.x C.b dX6_addRow_13 (by decide) (fun hc2 => ?_) (fun hc2 => ?_)
    · replace hf := ite_t hf hc2
      refine lv_aload_n C.x C.b dX6_addRow_18 rfl (lv_at hl 0 rfl) ?_
      refine z_get C Z (lvC9 Nat.zero_lt_one) kC9 zc6 zin6 2 (by decide) k_238 rfl svC9_2 dX6_addRow_19 ?_
      refine lv_aload_n C.x C.b dX6_addRow_22 rfl (lv_at hl 0 rfl) ?_
      refine z_get C Z (lvC9 Nat.zero_lt_one) kC9 zc6 zin6 0 (by decide) k_234 rfl svC9_0 dX6_addRow_23 ?_
      refine lv_iload_n C.x C.b dX6_addRow_26 rfl (lv_at hl 1 rfl) ?_
      replace hf := asr_s hf; obtain ⟨hq3, hf⟩ := hf
      replace hf := lt1_s hf; obtain ⟨m4, em4, hf⟩ := hf
      refine z_iast (M1 := m4) C Z (lvC30 Nat.zero_lt_one) (by decide) kC30 hq3 em4 stC30u dX6_addRow_27 (fun H locs Z => ?_)
      refine lv_aload_n C.x C.b dX6_addRow_28 rfl (lv_at hl 0 rfl) ?_
      refine z_get C Z (lvC9 Nat.zero_lt_one) kC9 zc6 zin6 5 (by decide) k_244 rfl svC9_5 dX6_addRow_29 ?_
      refine lv_aload_n C.x C.b dX6_addRow_32 rfl (lv_at hl 0 rfl) ?_
      refine z_get C Z (lvC9 Nat.zero_lt_one) kC9 zc6 zin6 0 (by decide) k_234 rfl svC9_0 dX6_addRow_33 ?_
      refine lv_iload_n C.x C.b dX6_addRow_36 rfl (lv_at hl 2 rfl) ?_
      replace hf := asr_s hf; obtain ⟨hq5, hf⟩ := hf
      replace hf := lt1_s hf; obtain ⟨m6, em6, hf⟩ := hf
      refine z_iast (M1 := m6) C Z (lvC33 Nat.zero_lt_one) (by decide) kC33 hq5 em6 stC33u dX6_addRow_37 (fun H locs Z => ?_)
      refine lv_aload_n C.x C.b dX6_addRow_38 rfl (lv_at hl 0 rfl) ?_
      refine z_get C Z (lvC9 Nat.zero_lt_one) kC9 zc6 zin6 3 (by decide) k_240 rfl svC9_3 dX6_addRow_39 ?_
      refine lv_aload_n C.x C.b dX6_addRow_42 rfl (lv_at hl 0 rfl) ?_
      refine z_get C Z (lvC9 Nat.zero_lt_one) kC9 zc6 zin6 0 (by decide) k_234 rfl svC9_0 dX6_addRow_43 ?_
      refine lv_iload_n C.x C.b dX6_addRow_46 rfl (lv_at hl 3 rfl) ?_
      replace hf := asr_s hf; obtain ⟨hq7, hf⟩ := hf
      replace hf := lt1_s hf; obtain ⟨m8, em8, hf⟩ := hf
      refine z_iast (M1 := m8) C Z (lvC31 Nat.zero_lt_one) (by decide) kC31 hq7 em8 stC31u dX6_addRow_47 (fun H locs Z => ?_)
      refine lv_aload_n C.x C.b dX6_addRow_48 rfl (lv_at hl 0 rfl) ?_
      refine lv_dup C.x C.b dX6_addRow_49 rfl ?_
      refine z_get C Z (lvC9 Nat.zero_lt_one) kC9 zc6 zin6 0 (by decide) k_234 rfl svC9_0 dX6_addRow_50 ?_
      refine lv_iconst (v := 1) C.x C.b dX6_addRow_53 (by decide) ?_
      refine lv_iadd C.x C.b dX6_addRow_54 ?_
      replace hf := lt1_s hf; obtain ⟨m9, em9, hf⟩ := hf
      refine z_put (M1 := m9) C Z (lvC9 Nat.zero_lt_one) (by decide) kC9 zc6 zin6 tyX6_ok nmX6 0 (by decide) k_234 rfl (zUp_I em9 stC9_0u) (Or.inl rfl) rfl rfl dX6_addRow_55 (fun H locs Z => ?_)
      refine lv_iconst (v := 1) C.x C.b dX6_addRow_58 (by decide) ?_
      obtain ⟨rfl, rfl⟩ := pr_s hf
      exact z_zret C Z rfl dX6_addRow_59
    · replace hf := ite_f hf hc2
      refine lv_iconst (v := 0) C.x C.b dX6_addRow_16 (by decide) ?_
      obtain ⟨rfl, rfl⟩ := pr_s hf
      exact z_zret C Z rfl dX6_addRow_17
theorem dX6_addAddition_0 : decode cX6_addAddition 0 = .ok (.aload_n 0, 1) := by decide +kernel
theorem dX6_addAddition_1 : decode cX6_addAddition 1 = .ok (.getfield 40, 3) := by decide +kernel
theorem dX6_addAddition_4 : decode cX6_addAddition 4 = .ok (.ifCond .lt 12, 3) := by decide +kernel
theorem dX6_addAddition_7 : decode cX6_addAddition 7 = .ok (.aload_n 0, 1) := by decide +kernel
theorem dX6_addAddition_8 : decode cX6_addAddition 8 = .ok (.getfield 40, 3) := by decide +kernel
theorem dX6_addAddition_11 : decode cX6_addAddition 11 = .ok (.bipush 8, 2) := by decide +kernel
theorem dX6_addAddition_13 : decode cX6_addAddition 13 = .ok (.if_icmp .lt 5, 3) := by decide +kernel
theorem dX6_addAddition_16 : decode cX6_addAddition 16 = .ok (.iconst 0, 1) := by decide +kernel
theorem dX6_addAddition_17 : decode cX6_addAddition 17 = .ok (.ireturn, 1) := by decide +kernel
theorem dX6_addAddition_18 : decode cX6_addAddition 18 = .ok (.aload_n 0, 1) := by decide +kernel
theorem dX6_addAddition_19 : decode cX6_addAddition 19 = .ok (.getfield 24, 3) := by decide +kernel
theorem dX6_addAddition_22 : decode cX6_addAddition 22 = .ok (.aload_n 0, 1) := by decide +kernel
theorem dX6_addAddition_23 : decode cX6_addAddition 23 = .ok (.getfield 40, 3) := by decide +kernel
theorem dX6_addAddition_26 : decode cX6_addAddition 26 = .ok (.iload_n 1, 1) := by decide +kernel
theorem dX6_addAddition_27 : decode cX6_addAddition 27 = .ok (.iastore, 1) := by decide +kernel
theorem dX6_addAddition_28 : decode cX6_addAddition 28 = .ok (.aload_n 0, 1) := by decide +kernel
theorem dX6_addAddition_29 : decode cX6_addAddition 29 = .ok (.getfield 27, 3) := by decide +kernel
theorem dX6_addAddition_32 : decode cX6_addAddition 32 = .ok (.aload_n 0, 1) := by decide +kernel
theorem dX6_addAddition_33 : decode cX6_addAddition 33 = .ok (.getfield 40, 3) := by decide +kernel
theorem dX6_addAddition_36 : decode cX6_addAddition 36 = .ok (.iload_n 2, 1) := by decide +kernel
theorem dX6_addAddition_37 : decode cX6_addAddition 37 = .ok (.iastore, 1) := by decide +kernel
theorem dX6_addAddition_38 : decode cX6_addAddition 38 = .ok (.aload_n 0, 1) := by decide +kernel
theorem dX6_addAddition_39 : decode cX6_addAddition 39 = .ok (.getfield 30, 3) := by decide +kernel
theorem dX6_addAddition_42 : decode cX6_addAddition 42 = .ok (.aload_n 0, 1) := by decide +kernel
theorem dX6_addAddition_43 : decode cX6_addAddition 43 = .ok (.getfield 40, 3) := by decide +kernel
theorem dX6_addAddition_46 : decode cX6_addAddition 46 = .ok (.iload_n 3, 1) := by decide +kernel
theorem dX6_addAddition_47 : decode cX6_addAddition 47 = .ok (.iastore, 1) := by decide +kernel
theorem dX6_addAddition_48 : decode cX6_addAddition 48 = .ok (.aload_n 0, 1) := by decide +kernel
theorem dX6_addAddition_49 : decode cX6_addAddition 49 = .ok (.getfield 33, 3) := by decide +kernel
theorem dX6_addAddition_52 : decode cX6_addAddition 52 = .ok (.aload_n 0, 1) := by decide +kernel
theorem dX6_addAddition_53 : decode cX6_addAddition 53 = .ok (.getfield 40, 3) := by decide +kernel
theorem dX6_addAddition_56 : decode cX6_addAddition 56 = .ok (.iload 4, 2) := by decide +kernel
theorem dX6_addAddition_58 : decode cX6_addAddition 58 = .ok (.iastore, 1) := by decide +kernel
theorem dX6_addAddition_59 : decode cX6_addAddition 59 = .ok (.aload_n 0, 1) := by decide +kernel
theorem dX6_addAddition_60 : decode cX6_addAddition 60 = .ok (.dup, 1) := by decide +kernel
theorem dX6_addAddition_61 : decode cX6_addAddition 61 = .ok (.getfield 40, 3) := by decide +kernel
theorem dX6_addAddition_64 : decode cX6_addAddition 64 = .ok (.iconst 1, 1) := by decide +kernel
theorem dX6_addAddition_65 : decode cX6_addAddition 65 = .ok (.iadd, 1) := by decide +kernel
theorem dX6_addAddition_66 : decode cX6_addAddition 66 = .ok (.putfield 40, 3) := by decide +kernel
theorem dX6_addAddition_69 : decode cX6_addAddition 69 = .ok (.iconst 1, 1) := by decide +kernel
theorem dX6_addAddition_70 : decode cX6_addAddition 70 = .ok (.ireturn, 1) := by decide +kernel
set_option maxRecDepth 100000 in
set_option maxHeartbeats 4000000 in
theorem c_X6_addAddition {l : Launch} {K : KG} {ad : Nat → Nat → Nat} {fl : Nat} {a1 : Int32} {a2 : Int32} {a3 : Int32} {a4 : Int32} {M0 : Mem} {r9 : Int32} {M9 : Mem} (hf : f_X6_addAddition fl a1 a2 a3 a4 M0 = some (r9, M9)) : Met l yX6_addAddition (Cond.code yX6_addAddition cX6_addAddition 5 (some .boolean) :: ztb) (RM (1) 0 0) (zPc K LC ad M0 [.ref (ad 9 0), .int a1, .int a2, .int a3, .int a4]) (zQ K LC ad (some (.int r9)) M9) 0 0 (zA ad) := by
  refine z_enter (by decide) (Nat.le_of_ble_eq_true rfl) ?_
  intro p e s m args below meth c ls C hin hargs Z hl
  replace C : Cx p s m args meth c cX6_addAddition 5 "GlassPalace$Plan" (some .boolean) := C
  replace hl : lv_has ls 5 [(0, .ref (ad 9 0)), (1, .int a1), (2, .int a2), (3, .int a3), (4, .int a4)] := hl
  have hR : 1 ≤ (RM (1) 0 0).frames ∧ 40 * (1) ≤ (RM (1) 0 0).locals := ⟨Nat.le_refl _, Nat.le_refl _⟩
  have hB : 0 ≤ (RM (1) 0 0).cells ∧ 0 ≤ (RM (1) 0 0).slots := ⟨Nat.zero_le _, Nat.zero_le _⟩
  unfold f_X6_addAddition at hf
  refine lv_aload_n C.x C.b dX6_addAddition_0 rfl (lv_at hl 0 rfl) ?_
  refine z_get C Z (lvC9 Nat.zero_lt_one) kC9 zc6 zin6 1 (by decide) k_236 rfl svC9_1 dX6_addAddition_1 ?_
  refine lv_if_lt (tgt := 16) C.x C.b dX6_addAddition_4 (by decide) (fun hc1 => ?_) (fun hc1 => ?_)
  · replace hf := ite_t hf hc1
    refine lv_iconst (v := 0) C.x C.b dX6_addAddition_16 (by decide) ?_
    obtain ⟨rfl, rfl⟩ := pr_s hf
    exact z_zret C Z rfl dX6_addAddition_17
  · replace hf := ite_f hf hc1
    refine lv_aload_n C.x C.b dX6_addAddition_7 rfl (lv_at hl 0 rfl) ?_
    refine z_get C Z (lvC9 Nat.zero_lt_one) kC9 zc6 zin6 1 (by decide) k_236 rfl svC9_1 dX6_addAddition_8 ?_
    refine lv_bipush (v := 8) C.x C.b dX6_addAddition_11 (by decide) ?_
    refine lv_icmp_lt (tgt := 18) C.x C.b dX6_addAddition_13 (by decide) (fun hc2 => ?_) (fun hc2 => ?_)
    · replace hf := ite_t hf hc2
      refine lv_aload_n C.x C.b dX6_addAddition_18 rfl (lv_at hl 0 rfl) ?_
      refine z_get C Z (lvC9 Nat.zero_lt_one) kC9 zc6 zin6 6 (by decide) k_245 rfl svC9_6 dX6_addAddition_19 ?_
      refine lv_aload_n C.x C.b dX6_addAddition_22 rfl (lv_at hl 0 rfl) ?_
      refine z_get C Z (lvC9 Nat.zero_lt_one) kC9 zc6 zin6 1 (by decide) k_236 rfl svC9_1 dX6_addAddition_23 ?_
      refine lv_iload_n C.x C.b dX6_addAddition_26 rfl (lv_at hl 1 rfl) ?_
      replace hf := asr_s hf; obtain ⟨hq3, hf⟩ := hf
      replace hf := lt1_s hf; obtain ⟨m4, em4, hf⟩ := hf
      refine z_iast (M1 := m4) C Z (lvC34 Nat.zero_lt_one) (by decide) kC34 hq3 em4 stC34u dX6_addAddition_27 (fun H locs Z => ?_)
      refine lv_aload_n C.x C.b dX6_addAddition_28 rfl (lv_at hl 0 rfl) ?_
      refine z_get C Z (lvC9 Nat.zero_lt_one) kC9 zc6 zin6 7 (by decide) k_246 rfl svC9_7 dX6_addAddition_29 ?_
      refine lv_aload_n C.x C.b dX6_addAddition_32 rfl (lv_at hl 0 rfl) ?_
      refine z_get C Z (lvC9 Nat.zero_lt_one) kC9 zc6 zin6 1 (by decide) k_236 rfl svC9_1 dX6_addAddition_33 ?_
      refine lv_iload_n C.x C.b dX6_addAddition_36 rfl (lv_at hl 2 rfl) ?_
      replace hf := asr_s hf; obtain ⟨hq5, hf⟩ := hf
      replace hf := lt1_s hf; obtain ⟨m6, em6, hf⟩ := hf
      refine z_iast (M1 := m6) C Z (lvC35 Nat.zero_lt_one) (by decide) kC35 hq5 em6 stC35u dX6_addAddition_37 (fun H locs Z => ?_)
      refine lv_aload_n C.x C.b dX6_addAddition_38 rfl (lv_at hl 0 rfl) ?_
      refine z_get C Z (lvC9 Nat.zero_lt_one) kC9 zc6 zin6 8 (by decide) k_247 rfl svC9_8 dX6_addAddition_39 ?_
      refine lv_aload_n C.x C.b dX6_addAddition_42 rfl (lv_at hl 0 rfl) ?_
      refine z_get C Z (lvC9 Nat.zero_lt_one) kC9 zc6 zin6 1 (by decide) k_236 rfl svC9_1 dX6_addAddition_43 ?_
      refine lv_iload_n C.x C.b dX6_addAddition_46 rfl (lv_at hl 3 rfl) ?_
      replace hf := asr_s hf; obtain ⟨hq7, hf⟩ := hf
      replace hf := lt1_s hf; obtain ⟨m8, em8, hf⟩ := hf
      refine z_iast (M1 := m8) C Z (lvC36 Nat.zero_lt_one) (by decide) kC36 hq7 em8 stC36u dX6_addAddition_47 (fun H locs Z => ?_)
      refine lv_aload_n C.x C.b dX6_addAddition_48 rfl (lv_at hl 0 rfl) ?_
      refine z_get C Z (lvC9 Nat.zero_lt_one) kC9 zc6 zin6 9 (by decide) k_248 rfl svC9_9 dX6_addAddition_49 ?_
      refine lv_aload_n C.x C.b dX6_addAddition_52 rfl (lv_at hl 0 rfl) ?_
      refine z_get C Z (lvC9 Nat.zero_lt_one) kC9 zc6 zin6 1 (by decide) k_236 rfl svC9_1 dX6_addAddition_53 ?_
      refine lv_iload C.x C.b dX6_addAddition_56 (lv_at hl 4 rfl) ?_
      replace hf := asr_s hf; obtain ⟨hq9, hf⟩ := hf
      replace hf := lt1_s hf; obtain ⟨m10, em10, hf⟩ := hf
      refine z_iast (M1 := m10) C Z (lvC37 Nat.zero_lt_one) (by decide) kC37 hq9 em10 stC37u dX6_addAddition_58 (fun H locs Z => ?_)
      refine lv_aload_n C.x C.b dX6_addAddition_59 rfl (lv_at hl 0 rfl) ?_
      refine lv_dup C.x C.b dX6_addAddition_60 rfl ?_
      refine z_get C Z (lvC9 Nat.zero_lt_one) kC9 zc6 zin6 1 (by decide) k_236 rfl svC9_1 dX6_addAddition_61 ?_
      refine lv_iconst (v := 1) C.x C.b dX6_addAddition_64 (by decide) ?_
      refine lv_iadd C.x C.b dX6_addAddition_65 ?_
      replace hf := lt1_s hf; obtain ⟨m11, em11, hf⟩ := hf
      refine z_put (M1 := m11) C Z (lvC9 Nat.zero_lt_one) (by decide) kC9 zc6 zin6 tyX6_ok nmX6 1 (by decide) k_236 rfl (zUp_I em11 stC9_1u) (Or.inl rfl) rfl rfl dX6_addAddition_66 (fun H locs Z => ?_)
      refine lv_iconst (v := 1) C.x C.b dX6_addAddition_69 (by decide) ?_
      obtain ⟨rfl, rfl⟩ := pr_s hf
      exact z_zret C Z rfl dX6_addAddition_70
    · replace hf := ite_f hf hc2
      refine lv_iconst (v := 0) C.x C.b dX6_addAddition_16 (by decide) ?_
      obtain ⟨rfl, rfl⟩ := pr_s hf
      exact z_zret C Z rfl dX6_addAddition_17
theorem dX6_wantedWith_0 : decode cX6_wantedWith 0 = .ok (.iconst 0, 1) := by decide +kernel
theorem dX6_wantedWith_1 : decode cX6_wantedWith 1 = .ok (.istore_n 2, 1) := by decide +kernel
theorem dX6_wantedWith_2 : decode cX6_wantedWith 2 = .ok (.iconst 0, 1) := by decide +kernel
theorem dX6_wantedWith_3 : decode cX6_wantedWith 3 = .ok (.istore_n 3, 1) := by decide +kernel
theorem dX6_wantedWith_4 : decode cX6_wantedWith 4 = .ok (.iload_n 1, 1) := by decide +kernel
theorem dX6_wantedWith_5 : decode cX6_wantedWith 5 = .ok (.ifCond .lt 68, 3) := by decide +kernel
theorem dX6_wantedWith_8 : decode cX6_wantedWith 8 = .ok (.iload_n 1, 1) := by decide +kernel
theorem dX6_wantedWith_9 : decode cX6_wantedWith 9 = .ok (.bipush 20, 2) := by decide +kernel
theorem dX6_wantedWith_11 : decode cX6_wantedWith 11 = .ok (.if_icmp .ge 62, 3) := by decide +kernel
theorem dX6_wantedWith_14 : decode cX6_wantedWith 14 = .ok (.iload_n 3, 1) := by decide +kernel
theorem dX6_wantedWith_15 : decode cX6_wantedWith 15 = .ok (.aload_n 0, 1) := by decide +kernel
theorem dX6_wantedWith_16 : decode cX6_wantedWith 16 = .ok (.getfield 36, 3) := by decide +kernel
theorem dX6_wantedWith_19 : decode cX6_wantedWith 19 = .ok (.if_icmp .ge 54, 3) := by decide +kernel
theorem dX6_wantedWith_22 : decode cX6_wantedWith 22 = .ok (.iload_n 3, 1) := by decide +kernel
theorem dX6_wantedWith_23 : decode cX6_wantedWith 23 = .ok (.bipush 20, 2) := by decide +kernel
theorem dX6_wantedWith_25 : decode cX6_wantedWith 25 = .ok (.if_icmp .ge 48, 3) := by decide +kernel
theorem dX6_wantedWith_28 : decode cX6_wantedWith 28 = .ok (.aload_n 0, 1) := by decide +kernel
theorem dX6_wantedWith_29 : decode cX6_wantedWith 29 = .ok (.getfield 9, 3) := by decide +kernel
theorem dX6_wantedWith_32 : decode cX6_wantedWith 32 = .ok (.iload_n 3, 1) := by decide +kernel
theorem dX6_wantedWith_33 : decode cX6_wantedWith 33 = .ok (.iaload, 1) := by decide +kernel
theorem dX6_wantedWith_34 : decode cX6_wantedWith 34 = .ok (.aload_n 0, 1) := by decide +kernel
theorem dX6_wantedWith_35 : decode cX6_wantedWith 35 = .ok (.getfield 9, 3) := by decide +kernel
theorem dX6_wantedWith_38 : decode cX6_wantedWith 38 = .ok (.iload_n 1, 1) := by decide +kernel
theorem dX6_wantedWith_39 : decode cX6_wantedWith 39 = .ok (.iaload, 1) := by decide +kernel
theorem dX6_wantedWith_40 : decode cX6_wantedWith 40 = .ok (.if_icmp .ne 27, 3) := by decide +kernel
theorem dX6_wantedWith_43 : decode cX6_wantedWith 43 = .ok (.aload_n 0, 1) := by decide +kernel
theorem dX6_wantedWith_44 : decode cX6_wantedWith 44 = .ok (.getfield 15, 3) := by decide +kernel
theorem dX6_wantedWith_47 : decode cX6_wantedWith 47 = .ok (.iload_n 3, 1) := by decide +kernel
theorem dX6_wantedWith_48 : decode cX6_wantedWith 48 = .ok (.iaload, 1) := by decide +kernel
theorem dX6_wantedWith_49 : decode cX6_wantedWith 49 = .ok (.aload_n 0, 1) := by decide +kernel
theorem dX6_wantedWith_50 : decode cX6_wantedWith 50 = .ok (.getfield 15, 3) := by decide +kernel
theorem dX6_wantedWith_53 : decode cX6_wantedWith 53 = .ok (.iload_n 1, 1) := by decide +kernel
theorem dX6_wantedWith_54 : decode cX6_wantedWith 54 = .ok (.iaload, 1) := by decide +kernel
theorem dX6_wantedWith_55 : decode cX6_wantedWith 55 = .ok (.if_icmp .gt 12, 3) := by decide +kernel
theorem dX6_wantedWith_58 : decode cX6_wantedWith 58 = .ok (.iload_n 2, 1) := by decide +kernel
theorem dX6_wantedWith_59 : decode cX6_wantedWith 59 = .ok (.aload_n 0, 1) := by decide +kernel
theorem dX6_wantedWith_60 : decode cX6_wantedWith 60 = .ok (.getfield 21, 3) := by decide +kernel
theorem dX6_wantedWith_63 : decode cX6_wantedWith 63 = .ok (.iload_n 3, 1) := by decide +kernel
theorem dX6_wantedWith_64 : decode cX6_wantedWith 64 = .ok (.iaload, 1) := by decide +kernel
theorem dX6_wantedWith_65 : decode cX6_wantedWith 65 = .ok (.iadd, 1) := by decide +kernel
theorem dX6_wantedWith_66 : decode cX6_wantedWith 66 = .ok (.istore_n 2, 1) := by decide +kernel
theorem dX6_wantedWith_67 : decode cX6_wantedWith 67 = .ok (.iinc 3 1, 3) := by decide +kernel
theorem dX6_wantedWith_70 : decode cX6_wantedWith 70 = .ok (.goto (-66), 3) := by decide +kernel
theorem dX6_wantedWith_73 : decode cX6_wantedWith 73 = .ok (.iload_n 2, 1) := by decide +kernel
theorem dX6_wantedWith_74 : decode cX6_wantedWith 74 = .ok (.ireturn, 1) := by decide +kernel
set_option maxRecDepth 100000 in
set_option maxHeartbeats 4000000 in
theorem w_X6_wantedWith_l4 {p : Program} {l : Launch} {e : Env} {R : Room} {s : State} {m : MethodId} {args : Array Value} {below : List Frame} {meth : Method} {c : Code} {cells slots : Nat} {Q : State → Prop} {K : KG} {ad : Nat → Nat → Nat} {fl : Nat} {g1 : Int32} (C : Cx p s m args meth c cX6_wantedWith 4 "GlassPalace$Plan" (some .int)) (hR : 1 ≤ R.frames ∧ 40 * (1) ≤ R.locals) (hB : cells ≤ R.cells ∧ slots ≤ R.slots) : ∀ (n : Nat) (u2 : Int32) (u3 : Int32) (M0 : Mem) (H : Heap) (locs : List Loc) (ls : Array Slot), Zd K LC ad M0 s H locs → lv_has ls 4 [(0, .ref (ad 9 0)), (1, .int g1), (2, .int u2), (3, .int u3)] → ∀ (q : Int32) (Mq : Mem), f_X6_wantedWith_l4 fl g1 n u2 u3 M0 = some (q, Mq) → (∀ (H : Heap) (locs : List Loc) (ls : Array Slot), Zd K LC ad Mq s H locs → lv_has ls 4 [(2, .int q)] → W p l e R s m args below meth c H locs cells slots Q (F0 m 73 ls [])) → W p l e R s m args below meth c H locs cells slots Q (F0 m 4 ls []) := by
  intro n
  induction n with
  | zero =>
    intro u2 u3 M0 H locs ls Z hl q Mq hf
    have hf : (none : Option (Int32 × Mem)) = some (q, Mq) := hf
    cases hf
  | succ n ih =>
    intro u2 u3 M0 H locs ls Z hl q Mq hf kx0
    replace hf : f_X6_wantedWith_l4_b (f_X6_wantedWith_l4 fl g1 n) fl g1 u2 u3 M0 = some (q, Mq) := hf
    unfold f_X6_wantedWith_l4_b at hf
    refine lv_iload_n C.x C.b dX6_wantedWith_4 rfl (lv_at hl 1 rfl) ?_
    refine lv_if_lt (tgt := 73) C.x C.b dX6_wantedWith_5 (by decide) (fun hc1 => ?_) (fun hc1 => ?_)
    · replace hf := ite_t hf hc1
      obtain ⟨rfl, rfl⟩ := pr_s hf
      exact kx0 _ _ _ Z (lv_sub hl [2] rfl)
    · replace hf := ite_f hf hc1
      refine lv_iload_n C.x C.b dX6_wantedWith_8 rfl (lv_at hl 1 rfl) ?_
      refine lv_bipush (v := 20) C.x C.b dX6_wantedWith_9 (by decide) ?_
      refine lv_icmp_ge (tgt := 73) C.x C.b dX6_wantedWith_11 (by decide) (fun hc2 => ?_) (fun hc2 => ?_)
      · replace hf := ite_t hf hc2
        obtain ⟨rfl, rfl⟩ := pr_s hf
        exact kx0 _ _ _ Z (lv_sub hl [2] rfl)
      · replace hf := ite_f hf hc2
        refine lv_iload_n C.x C.b dX6_wantedWith_14 rfl (lv_at hl 3 rfl) ?_
        refine lv_aload_n C.x C.b dX6_wantedWith_15 rfl (lv_at hl 0 rfl) ?_
        refine z_get C Z (lvC9 Nat.zero_lt_one) kC9 zc6 zin6 0 (by decide) k_234 rfl svC9_0 dX6_wantedWith_16 ?_
        refine lv_icmp_ge (tgt := 73) C.x C.b dX6_wantedWith_19 (by decide) (fun hc3 => ?_) (fun hc3 => ?_)
        · replace hf := ite_t hf hc3
          obtain ⟨rfl, rfl⟩ := pr_s hf
          exact kx0 _ _ _ Z (lv_sub hl [2] rfl)
        · replace hf := ite_f hf hc3
          refine lv_iload_n C.x C.b dX6_wantedWith_22 rfl (lv_at hl 3 rfl) ?_
          refine lv_bipush (v := 20) C.x C.b dX6_wantedWith_23 (by decide) ?_
          refine lv_icmp_ge (tgt := 73) C.x C.b dX6_wantedWith_25 (by decide) (fun hc4 => ?_) (fun hc4 => ?_)
          · replace hf := ite_t hf hc4
            obtain ⟨rfl, rfl⟩ := pr_s hf
            exact kx0 _ _ _ Z (lv_sub hl [2] rfl)
          · replace hf := ite_f hf hc4
            refine lv_aload_n C.x C.b dX6_wantedWith_28 rfl (lv_at hl 0 rfl) ?_
            refine z_get C Z (lvC9 Nat.zero_lt_one) kC9 zc6 zin6 2 (by decide) k_238 rfl svC9_2 dX6_wantedWith_29 ?_
            refine lv_iload_n C.x C.b dX6_wantedWith_32 rfl (lv_at hl 3 rfl) ?_
            replace hf := asr_s hf; obtain ⟨hq5, hf⟩ := hf
            refine z_iald C Z (lvC30 Nat.zero_lt_one) kC30 hq5 svC30 dX6_wantedWith_33 ?_
            refine lv_aload_n C.x C.b dX6_wantedWith_34 rfl (lv_at hl 0 rfl) ?_
            refine z_get C Z (lvC9 Nat.zero_lt_one) kC9 zc6 zin6 2 (by decide) k_238 rfl svC9_2 dX6_wantedWith_35 ?_
            refine lv_iload_n C.x C.b dX6_wantedWith_38 rfl (lv_at hl 1 rfl) ?_
            replace hf := asr_s hf; obtain ⟨hq6, hf⟩ := hf
            refine z_iald C Z (lvC30 Nat.zero_lt_one) kC30 hq6 svC30 dX6_wantedWith_39 ?_
            refine lv_icmp_ne (tgt := 67) C.x C.b dX6_wantedWith_40 (by decide) (fun hc7 => ?_) (fun hc7 => ?_)
            · replace hf := ite_f hf hc7
              replace hf := lt1_s hf; obtain ⟨x8, ex8, hf⟩ := hf
              refine z_iinc (v := x8) (lv' := [(3, .int x8), (0, .ref (ad 9 0)), (1, .int g1), (2, .int u2)]) C dX6_wantedWith_67 hl (k := 3) rfl (by rw [ex8]; rfl) (by decide) rfl (onlast 2 rfl rfl rfl) (fun ls hl => ?_)
              refine lv_goto (tgt := 4) C.x C.b dX6_wantedWith_70 (by decide) ?_
              exact ih _ _ _ _ _ _ Z (lv_sub hl [1, 2, 3, 0] rfl) _ _ hf kx0
            · replace hf := ite_t hf hc7
              refine lv_aload_n C.x C.b dX6_wantedWith_43 rfl (lv_at hl 0 rfl) ?_
              refine z_get C Z (lvC9 Nat.zero_lt_one) kC9 zc6 zin6 3 (by decide) k_240 rfl svC9_3 dX6_wantedWith_44 ?_
              refine lv_iload_n C.x C.b dX6_wantedWith_47 rfl (lv_at hl 3 rfl) ?_
              replace hf := asr_s hf; obtain ⟨hq9, hf⟩ := hf
              refine z_iald C Z (lvC31 Nat.zero_lt_one) kC31 hq9 svC31 dX6_wantedWith_48 ?_
              refine lv_aload_n C.x C.b dX6_wantedWith_49 rfl (lv_at hl 0 rfl) ?_
              refine z_get C Z (lvC9 Nat.zero_lt_one) kC9 zc6 zin6 3 (by decide) k_240 rfl svC9_3 dX6_wantedWith_50 ?_
              refine lv_iload_n C.x C.b dX6_wantedWith_53 rfl (lv_at hl 1 rfl) ?_
              replace hf := asr_s hf; obtain ⟨hq10, hf⟩ := hf
              refine z_iald C Z (lvC31 Nat.zero_lt_one) kC31 hq10 svC31 dX6_wantedWith_54 ?_
              refine lv_icmp_gt (tgt := 67) C.x C.b dX6_wantedWith_55 (by decide) (fun hc11 => ?_) (fun hc11 => ?_)
              · replace hf := ite_t hf hc11
                replace hf := lt1_s hf; obtain ⟨x12, ex12, hf⟩ := hf
                refine z_iinc (v := x12) (lv' := [(3, .int x12), (0, .ref (ad 9 0)), (1, .int g1), (2, .int u2)]) C dX6_wantedWith_67 hl (k := 3) rfl (by rw [ex12]; rfl) (by decide) rfl (onlast 2 rfl rfl rfl) (fun ls hl => ?_)
                refine lv_goto (tgt := 4) C.x C.b dX6_wantedWith_70 (by decide) ?_
                exact ih _ _ _ _ _ _ Z (lv_sub hl [1, 2, 3, 0] rfl) _ _ hf kx0
              · replace hf := ite_f hf hc11
                refine lv_iload_n C.x C.b dX6_wantedWith_58 rfl (lv_at hl 2 rfl) ?_
                refine lv_aload_n C.x C.b dX6_wantedWith_59 rfl (lv_at hl 0 rfl) ?_
                refine z_get C Z (lvC9 Nat.zero_lt_one) kC9 zc6 zin6 5 (by decide) k_244 rfl svC9_5 dX6_wantedWith_60 ?_
                refine lv_iload_n C.x C.b dX6_wantedWith_63 rfl (lv_at hl 3 rfl) ?_
                replace hf := asr_s hf; obtain ⟨hq13, hf⟩ := hf
                refine z_iald C Z (lvC33 Nat.zero_lt_one) kC33 hq13 svC33 dX6_wantedWith_64 ?_
                refine lv_iadd C.x C.b dX6_wantedWith_65 ?_
                replace hf := lt1_s hf; obtain ⟨x14, ex14, hf⟩ := hf
                refine z_renI ex14 ?_
                refine z_istore_n (lv' := [(2, .int x14), (0, .ref (ad 9 0)), (1, .int g1), (3, .int u3)]) C dX6_wantedWith_66 rfl hl (by decide) rfl (onlast 1 rfl rfl rfl) (fun ls hl => ?_)
                replace hf := lt1_s hf; obtain ⟨x15, ex15, hf⟩ := hf
                refine z_iinc (v := x15) (lv' := [(3, .int x15), (2, .int x14), (0, .ref (ad 9 0)), (1, .int g1)]) C dX6_wantedWith_67 hl (k := 3) rfl (by rw [ex15]; rfl) (by decide) rfl (onlast 0 rfl rfl rfl) (fun ls hl => ?_)
                refine lv_goto (tgt := 4) C.x C.b dX6_wantedWith_70 (by decide) ?_
                exact ih _ _ _ _ _ _ Z (lv_sub hl [2, 3, 1, 0] rfl) _ _ hf kx0
set_option maxRecDepth 100000 in
set_option maxHeartbeats 4000000 in
theorem c_X6_wantedWith {l : Launch} {K : KG} {ad : Nat → Nat → Nat} {fl : Nat} {a1 : Int32} {M0 : Mem} {r9 : Int32} {M9 : Mem} (hf : f_X6_wantedWith fl a1 M0 = some (r9, M9)) : Met l yX6_wantedWith (Cond.code yX6_wantedWith cX6_wantedWith 4 (some .int) :: ztb) (RM (1) 0 0) (zPc K LC ad M0 [.ref (ad 9 0), .int a1]) (zQ K LC ad (some (.int r9)) M9) 0 0 (zA ad) := by
  refine z_enter (by decide) (Nat.le_of_ble_eq_true rfl) ?_
  intro p e s m args below meth c ls C hin hargs Z hl
  replace C : Cx p s m args meth c cX6_wantedWith 4 "GlassPalace$Plan" (some .int) := C
  replace hl : lv_has ls 4 [(0, .ref (ad 9 0)), (1, .int a1)] := hl
  have hR : 1 ≤ (RM (1) 0 0).frames ∧ 40 * (1) ≤ (RM (1) 0 0).locals := ⟨Nat.le_refl _, Nat.le_refl _⟩
  have hB : 0 ≤ (RM (1) 0 0).cells ∧ 0 ≤ (RM (1) 0 0).slots := ⟨Nat.zero_le _, Nat.zero_le _⟩
  unfold f_X6_wantedWith at hf
  refine lv_iconst (v := 0) C.x C.b dX6_wantedWith_0 (by decide) ?_
  refine z_istore_n (lv' := [(2, .int 0), (0, .ref (ad 9 0)), (1, .int a1)]) C dX6_wantedWith_1 rfl hl (by decide) rfl (onlast 1 rfl rfl rfl) (fun ls hl => ?_)
  refine lv_iconst (v := 0) C.x C.b dX6_wantedWith_2 (by decide) ?_
  refine z_istore_n (lv' := [(3, .int 0), (2, .int 0), (0, .ref (ad 9 0)), (1, .int a1)]) C dX6_wantedWith_3 rfl hl (by decide) rfl (onlast 0 rfl rfl rfl) (fun ls hl => ?_)
  replace hf := bn2_s hf; obtain ⟨q16, m17, hq16, hf⟩ := hf
  refine w_X6_wantedWith_l4 C hR hB  fl _ _ _ _ _ _ Z (lv_sub hl [2, 3, 1, 0] rfl) _ _ hq16 (fun H locs ls Z hl => ?_)
  refine lv_iload_n C.x C.b dX6_wantedWith_73 rfl (lv_at hl 0 rfl) ?_
  obtain ⟨rfl, rfl⟩ := pr_s hf
  exact z_iret C Z dX6_wantedWith_74
theorem dX6_addedFor_0 : decode cX6_addedFor 0 = .ok (.iconst 0, 1) := by decide +kernel
theorem dX6_addedFor_1 : decode cX6_addedFor 1 = .ok (.istore_n 3, 1) := by decide +kernel
theorem dX6_addedFor_2 : decode cX6_addedFor 2 = .ok (.iconst 0, 1) := by decide +kernel
theorem dX6_addedFor_3 : decode cX6_addedFor 3 = .ok (.istore 4, 2) := by decide +kernel
theorem dX6_addedFor_5 : decode cX6_addedFor 5 = .ok (.iload 4, 2) := by decide +kernel
theorem dX6_addedFor_7 : decode cX6_addedFor 7 = .ok (.aload_n 0, 1) := by decide +kernel
theorem dX6_addedFor_8 : decode cX6_addedFor 8 = .ok (.getfield 40, 3) := by decide +kernel
theorem dX6_addedFor_11 : decode cX6_addedFor 11 = .ok (.if_icmp .ge 68, 3) := by decide +kernel
theorem dX6_addedFor_14 : decode cX6_addedFor 14 = .ok (.iload 4, 2) := by decide +kernel
theorem dX6_addedFor_16 : decode cX6_addedFor 16 = .ok (.bipush 8, 2) := by decide +kernel
theorem dX6_addedFor_18 : decode cX6_addedFor 18 = .ok (.if_icmp .ge 61, 3) := by decide +kernel
theorem dX6_addedFor_21 : decode cX6_addedFor 21 = .ok (.iload_n 1, 1) := by decide +kernel
theorem dX6_addedFor_22 : decode cX6_addedFor 22 = .ok (.iload 4, 2) := by decide +kernel
theorem dX6_addedFor_24 : decode cX6_addedFor 24 = .ok (.ishr, 1) := by decide +kernel
theorem dX6_addedFor_25 : decode cX6_addedFor 25 = .ok (.iconst 1, 1) := by decide +kernel
theorem dX6_addedFor_26 : decode cX6_addedFor 26 = .ok (.iand, 1) := by decide +kernel
theorem dX6_addedFor_27 : decode cX6_addedFor 27 = .ok (.iconst 1, 1) := by decide +kernel
theorem dX6_addedFor_28 : decode cX6_addedFor 28 = .ok (.if_icmp .ne 45, 3) := by decide +kernel
theorem dX6_addedFor_31 : decode cX6_addedFor 31 = .ok (.aload_n 0, 1) := by decide +kernel
theorem dX6_addedFor_32 : decode cX6_addedFor 32 = .ok (.getfield 24, 3) := by decide +kernel
theorem dX6_addedFor_35 : decode cX6_addedFor 35 = .ok (.iload 4, 2) := by decide +kernel
theorem dX6_addedFor_37 : decode cX6_addedFor 37 = .ok (.iaload, 1) := by decide +kernel
theorem dX6_addedFor_38 : decode cX6_addedFor 38 = .ok (.aload_n 0, 1) := by decide +kernel
theorem dX6_addedFor_39 : decode cX6_addedFor 39 = .ok (.getfield 9, 3) := by decide +kernel
theorem dX6_addedFor_42 : decode cX6_addedFor 42 = .ok (.iload_n 2, 1) := by decide +kernel
theorem dX6_addedFor_43 : decode cX6_addedFor 43 = .ok (.iaload, 1) := by decide +kernel
theorem dX6_addedFor_44 : decode cX6_addedFor 44 = .ok (.if_icmp .ne 29, 3) := by decide +kernel
theorem dX6_addedFor_47 : decode cX6_addedFor 47 = .ok (.aload_n 0, 1) := by decide +kernel
theorem dX6_addedFor_48 : decode cX6_addedFor 48 = .ok (.getfield 30, 3) := by decide +kernel
theorem dX6_addedFor_51 : decode cX6_addedFor 51 = .ok (.iload 4, 2) := by decide +kernel
theorem dX6_addedFor_53 : decode cX6_addedFor 53 = .ok (.iaload, 1) := by decide +kernel
theorem dX6_addedFor_54 : decode cX6_addedFor 54 = .ok (.aload_n 0, 1) := by decide +kernel
theorem dX6_addedFor_55 : decode cX6_addedFor 55 = .ok (.getfield 15, 3) := by decide +kernel
theorem dX6_addedFor_58 : decode cX6_addedFor 58 = .ok (.iload_n 2, 1) := by decide +kernel
theorem dX6_addedFor_59 : decode cX6_addedFor 59 = .ok (.iaload, 1) := by decide +kernel
theorem dX6_addedFor_60 : decode cX6_addedFor 60 = .ok (.if_icmp .gt 13, 3) := by decide +kernel
theorem dX6_addedFor_63 : decode cX6_addedFor 63 = .ok (.iload_n 3, 1) := by decide +kernel
theorem dX6_addedFor_64 : decode cX6_addedFor 64 = .ok (.aload_n 0, 1) := by decide +kernel
theorem dX6_addedFor_65 : decode cX6_addedFor 65 = .ok (.getfield 27, 3) := by decide +kernel
theorem dX6_addedFor_68 : decode cX6_addedFor 68 = .ok (.iload 4, 2) := by decide +kernel
theorem dX6_addedFor_70 : decode cX6_addedFor 70 = .ok (.iaload, 1) := by decide +kernel
theorem dX6_addedFor_71 : decode cX6_addedFor 71 = .ok (.iadd, 1) := by decide +kernel
theorem dX6_addedFor_72 : decode cX6_addedFor 72 = .ok (.istore_n 3, 1) := by decide +kernel
theorem dX6_addedFor_73 : decode cX6_addedFor 73 = .ok (.iinc 4 1, 3) := by decide +kernel
theorem dX6_addedFor_76 : decode cX6_addedFor 76 = .ok (.goto (-71), 3) := by decide +kernel
theorem dX6_addedFor_79 : decode cX6_addedFor 79 = .ok (.iload_n 3, 1) := by decide +kernel
theorem dX6_addedFor_80 : decode cX6_addedFor 80 = .ok (.ireturn, 1) := by decide +kernel
set_option maxRecDepth 100000 in
set_option maxHeartbeats 4000000 in
theorem w_X6_addedFor_l5 {p : Program} {l : Launch} {e : Env} {R : Room} {s : State} {m : MethodId} {args : Array Value} {below : List Frame} {meth : Method} {c : Code} {cells slots : Nat} {Q : State → Prop} {K : KG} {ad : Nat → Nat → Nat} {fl : Nat} {g1 : Int32} {g2 : Int32} (C : Cx p s m args meth c cX6_addedFor 5 "GlassPalace$Plan" (some .int)) (hR : 1 ≤ R.frames ∧ 40 * (1) ≤ R.locals) (hB : cells ≤ R.cells ∧ slots ≤ R.slots) : ∀ (n : Nat) (u3 : Int32) (u4 : Int32) (M0 : Mem) (H : Heap) (locs : List Loc) (ls : Array Slot), Zd K LC ad M0 s H locs → lv_has ls 5 [(0, .ref (ad 9 0)), (1, .int g1), (2, .int g2), (3, .int u3), (4, .int u4)] → ∀ (q : Int32) (Mq : Mem), f_X6_addedFor_l5 fl g1 g2 n u3 u4 M0 = some (q, Mq) → (∀ (H : Heap) (locs : List Loc) (ls : Array Slot), Zd K LC ad Mq s H locs → lv_has ls 5 [(3, .int q)] → W p l e R s m args below meth c H locs cells slots Q (F0 m 79 ls [])) → W p l e R s m args below meth c H locs cells slots Q (F0 m 5 ls []) := by
  intro n
  induction n with
  | zero =>
    intro u3 u4 M0 H locs ls Z hl q Mq hf
    have hf : (none : Option (Int32 × Mem)) = some (q, Mq) := hf
    cases hf
  | succ n ih =>
    intro u3 u4 M0 H locs ls Z hl q Mq hf kx0
    replace hf : f_X6_addedFor_l5_b (f_X6_addedFor_l5 fl g1 g2 n) fl g1 g2 u3 u4 M0 = some (q, Mq) := hf
    unfold f_X6_addedFor_l5_b at hf
    refine lv_iload C.x C.b dX6_addedFor_5 (lv_at hl 4 rfl) ?_
    refine lv_aload_n C.x C.b dX6_addedFor_7 rfl (lv_at hl 0 rfl) ?_
    refine z_get C Z (lvC9 Nat.zero_lt_one) kC9 zc6 zin6 1 (by decide) k_236 rfl svC9_1 dX6_addedFor_8 ?_
    refine lv_icmp_ge (tgt := 79) C.x C.b dX6_addedFor_11 (by decide) (fun hc1 => ?_) (fun hc1 => ?_)
    · replace hf := ite_t hf hc1
      obtain ⟨rfl, rfl⟩ := pr_s hf
      exact kx0 _ _ _ Z (lv_sub hl [3] rfl)
    · replace hf := ite_f hf hc1
      refine lv_iload C.x C.b dX6_addedFor_14 (lv_at hl 4 rfl) ?_
      refine lv_bipush (v := 8) C.x C.b dX6_addedFor_16 (by decide) ?_
      refine lv_icmp_ge (tgt := 79) C.x C.b dX6_addedFor_18 (by decide) (fun hc2 => ?_) (fun hc2 => ?_)
      · replace hf := ite_t hf hc2
        obtain ⟨rfl, rfl⟩ := pr_s hf
        exact kx0 _ _ _ Z (lv_sub hl [3] rfl)
      · replace hf := ite_f hf hc2
        refine lv_iload_n C.x C.b dX6_addedFor_21 rfl (lv_at hl 1 rfl) ?_
        refine lv_iload C.x C.b dX6_addedFor_22 (lv_at hl 4 rfl) ?_
        refine z_ishr C dX6_addedFor_24 ?_
        refine lv_iconst (v := 1) C.x C.b dX6_addedFor_25 (by decide) ?_
        refine lv_iand C.x C.b dX6_addedFor_26 ?_
        refine lv_iconst (v := 1) C.x C.b dX6_addedFor_27 (by decide) ?_
        refine lv_icmp_ne (tgt := 73) C.x C.b dX6_addedFor_28 (by decide) (fun hc3 => ?_) (fun hc3 => ?_)
        · replace hf := ite_f hf hc3
          replace hf := lt1_s hf; obtain ⟨x4, ex4, hf⟩ := hf
          refine z_iinc (v := x4) (lv' := [(4, .int x4), (0, .ref (ad 9 0)), (1, .int g1), (2, .int g2), (3, .int u3)]) C dX6_addedFor_73 hl (k := 4) rfl (by rw [ex4]; rfl) (by decide) rfl (onlast 3 rfl rfl rfl) (fun ls hl => ?_)
          refine lv_goto (tgt := 5) C.x C.b dX6_addedFor_76 (by decide) ?_
          exact ih _ _ _ _ _ _ Z (lv_sub hl [1, 2, 3, 4, 0] rfl) _ _ hf kx0
        · replace hf := ite_t hf hc3
          refine lv_aload_n C.x C.b dX6_addedFor_31 rfl (lv_at hl 0 rfl) ?_
          refine z_get C Z (lvC9 Nat.zero_lt_one) kC9 zc6 zin6 6 (by decide) k_245 rfl svC9_6 dX6_addedFor_32 ?_
          refine lv_iload C.x C.b dX6_addedFor_35 (lv_at hl 4 rfl) ?_
          replace hf := asr_s hf; obtain ⟨hq5, hf⟩ := hf
          refine z_iald C Z (lvC34 Nat.zero_lt_one) kC34 hq5 svC34 dX6_addedFor_37 ?_
          refine lv_aload_n C.x C.b dX6_addedFor_38 rfl (lv_at hl 0 rfl) ?_
          refine z_get C Z (lvC9 Nat.zero_lt_one) kC9 zc6 zin6 2 (by decide) k_238 rfl svC9_2 dX6_addedFor_39 ?_
          refine lv_iload_n C.x C.b dX6_addedFor_42 rfl (lv_at hl 2 rfl) ?_
          replace hf := asr_s hf; obtain ⟨hq6, hf⟩ := hf
          refine z_iald C Z (lvC30 Nat.zero_lt_one) kC30 hq6 svC30 dX6_addedFor_43 ?_
          refine lv_icmp_ne (tgt := 73) C.x C.b dX6_addedFor_44 (by decide) (fun hc7 => ?_) (fun hc7 => ?_)
          · replace hf := ite_f hf hc7
            replace hf := lt1_s hf; obtain ⟨x8, ex8, hf⟩ := hf
            refine z_iinc (v := x8) (lv' := [(4, .int x8), (0, .ref (ad 9 0)), (1, .int g1), (2, .int g2), (3, .int u3)]) C dX6_addedFor_73 hl (k := 4) rfl (by rw [ex8]; rfl) (by decide) rfl (onlast 3 rfl rfl rfl) (fun ls hl => ?_)
            refine lv_goto (tgt := 5) C.x C.b dX6_addedFor_76 (by decide) ?_
            exact ih _ _ _ _ _ _ Z (lv_sub hl [1, 2, 3, 4, 0] rfl) _ _ hf kx0
          · replace hf := ite_t hf hc7
            refine lv_aload_n C.x C.b dX6_addedFor_47 rfl (lv_at hl 0 rfl) ?_
            refine z_get C Z (lvC9 Nat.zero_lt_one) kC9 zc6 zin6 8 (by decide) k_247 rfl svC9_8 dX6_addedFor_48 ?_
            refine lv_iload C.x C.b dX6_addedFor_51 (lv_at hl 4 rfl) ?_
            replace hf := asr_s hf; obtain ⟨hq9, hf⟩ := hf
            refine z_iald C Z (lvC36 Nat.zero_lt_one) kC36 hq9 svC36 dX6_addedFor_53 ?_
            refine lv_aload_n C.x C.b dX6_addedFor_54 rfl (lv_at hl 0 rfl) ?_
            refine z_get C Z (lvC9 Nat.zero_lt_one) kC9 zc6 zin6 3 (by decide) k_240 rfl svC9_3 dX6_addedFor_55 ?_
            refine lv_iload_n C.x C.b dX6_addedFor_58 rfl (lv_at hl 2 rfl) ?_
            replace hf := asr_s hf; obtain ⟨hq10, hf⟩ := hf
            refine z_iald C Z (lvC31 Nat.zero_lt_one) kC31 hq10 svC31 dX6_addedFor_59 ?_
            refine lv_icmp_gt (tgt := 73) C.x C.b dX6_addedFor_60 (by decide) (fun hc11 => ?_) (fun hc11 => ?_)
            · replace hf := ite_t hf hc11
              replace hf := lt1_s hf; obtain ⟨x12, ex12, hf⟩ := hf
              refine z_iinc (v := x12) (lv' := [(4, .int x12), (0, .ref (ad 9 0)), (1, .int g1), (2, .int g2), (3, .int u3)]) C dX6_addedFor_73 hl (k := 4) rfl (by rw [ex12]; rfl) (by decide) rfl (onlast 3 rfl rfl rfl) (fun ls hl => ?_)
              refine lv_goto (tgt := 5) C.x C.b dX6_addedFor_76 (by decide) ?_
              exact ih _ _ _ _ _ _ Z (lv_sub hl [1, 2, 3, 4, 0] rfl) _ _ hf kx0
            · replace hf := ite_f hf hc11
              refine lv_iload_n C.x C.b dX6_addedFor_63 rfl (lv_at hl 3 rfl) ?_
              refine lv_aload_n C.x C.b dX6_addedFor_64 rfl (lv_at hl 0 rfl) ?_
              refine z_get C Z (lvC9 Nat.zero_lt_one) kC9 zc6 zin6 7 (by decide) k_246 rfl svC9_7 dX6_addedFor_65 ?_
              refine lv_iload C.x C.b dX6_addedFor_68 (lv_at hl 4 rfl) ?_
              replace hf := asr_s hf; obtain ⟨hq13, hf⟩ := hf
              refine z_iald C Z (lvC35 Nat.zero_lt_one) kC35 hq13 svC35 dX6_addedFor_70 ?_
              refine lv_iadd C.x C.b dX6_addedFor_71 ?_
              replace hf := lt1_s hf; obtain ⟨x14, ex14, hf⟩ := hf
              refine z_renI ex14 ?_
              refine z_istore_n (lv' := [(3, .int x14), (0, .ref (ad 9 0)), (1, .int g1), (2, .int g2), (4, .int u4)]) C dX6_addedFor_72 rfl hl (by decide) rfl (onlast 2 rfl rfl rfl) (fun ls hl => ?_)
              replace hf := lt1_s hf; obtain ⟨x15, ex15, hf⟩ := hf
              refine z_iinc (v := x15) (lv' := [(4, .int x15), (3, .int x14), (0, .ref (ad 9 0)), (1, .int g1), (2, .int g2)]) C dX6_addedFor_73 hl (k := 4) rfl (by rw [ex15]; rfl) (by decide) rfl (onlast 0 rfl rfl rfl) (fun ls hl => ?_)
              refine lv_goto (tgt := 5) C.x C.b dX6_addedFor_76 (by decide) ?_
              exact ih _ _ _ _ _ _ Z (lv_sub hl [2, 3, 4, 1, 0] rfl) _ _ hf kx0
set_option maxRecDepth 100000 in
set_option maxHeartbeats 4000000 in
theorem c_X6_addedFor {l : Launch} {K : KG} {ad : Nat → Nat → Nat} {fl : Nat} {a1 : Int32} {a2 : Int32} {M0 : Mem} {r9 : Int32} {M9 : Mem} (hf : f_X6_addedFor fl a1 a2 M0 = some (r9, M9)) : Met l yX6_addedFor (Cond.code yX6_addedFor cX6_addedFor 5 (some .int) :: ztb) (RM (1) 0 0) (zPc K LC ad M0 [.ref (ad 9 0), .int a1, .int a2]) (zQ K LC ad (some (.int r9)) M9) 0 0 (zA ad) := by
  refine z_enter (by decide) (Nat.le_of_ble_eq_true rfl) ?_
  intro p e s m args below meth c ls C hin hargs Z hl
  replace C : Cx p s m args meth c cX6_addedFor 5 "GlassPalace$Plan" (some .int) := C
  replace hl : lv_has ls 5 [(0, .ref (ad 9 0)), (1, .int a1), (2, .int a2)] := hl
  have hR : 1 ≤ (RM (1) 0 0).frames ∧ 40 * (1) ≤ (RM (1) 0 0).locals := ⟨Nat.le_refl _, Nat.le_refl _⟩
  have hB : 0 ≤ (RM (1) 0 0).cells ∧ 0 ≤ (RM (1) 0 0).slots := ⟨Nat.zero_le _, Nat.zero_le _⟩
  unfold f_X6_addedFor at hf
  refine lv_iconst (v := 0) C.x C.b dX6_addedFor_0 (by decide) ?_
  refine z_istore_n (lv' := [(3, .int 0), (0, .ref (ad 9 0)), (1, .int a1), (2, .int a2)]) C dX6_addedFor_1 rfl hl (by decide) rfl (onlast 2 rfl rfl rfl) (fun ls hl => ?_)
  refine lv_iconst (v := 0) C.x C.b dX6_addedFor_2 (by decide) ?_
  refine z_istore (lv' := [(4, .int 0), (3, .int 0), (0, .ref (ad 9 0)), (1, .int a1), (2, .int a2)]) C dX6_addedFor_3 hl (by decide) rfl (onlast 0 rfl rfl rfl) (fun ls hl => ?_)
  replace hf := bn2_s hf; obtain ⟨q16, m17, hq16, hf⟩ := hf
  refine w_X6_addedFor_l5 C hR hB  fl _ _ _ _ _ _ Z (lv_sub hl [2, 3, 4, 1, 0] rfl) _ _ hq16 (fun H locs ls Z hl => ?_)
  refine lv_iload_n C.x C.b dX6_addedFor_79 rfl (lv_at hl 0 rfl) ?_
  obtain ⟨rfl, rfl⟩ := pr_s hf
  exact z_iret C Z dX6_addedFor_80
theorem dX6_isAhead_0 : decode cX6_isAhead 0 = .ok (.aload_n 0, 1) := by decide +kernel
theorem dX6_isAhead_1 : decode cX6_isAhead 1 = .ok (.getfield 15, 3) := by decide +kernel
theorem dX6_isAhead_4 : decode cX6_isAhead 4 = .ok (.iload_n 1, 1) := by decide +kernel
theorem dX6_isAhead_5 : decode cX6_isAhead 5 = .ok (.iaload, 1) := by decide +kernel
theorem dX6_isAhead_6 : decode cX6_isAhead 6 = .ok (.aload_n 0, 1) := by decide +kernel
theorem dX6_isAhead_7 : decode cX6_isAhead 7 = .ok (.getfield 15, 3) := by decide +kernel
theorem dX6_isAhead_10 : decode cX6_isAhead 10 = .ok (.iload_n 2, 1) := by decide +kernel
theorem dX6_isAhead_11 : decode cX6_isAhead 11 = .ok (.iaload, 1) := by decide +kernel
theorem dX6_isAhead_12 : decode cX6_isAhead 12 = .ok (.if_icmp .lt 33, 3) := by decide +kernel
theorem dX6_isAhead_15 : decode cX6_isAhead 15 = .ok (.aload_n 0, 1) := by decide +kernel
theorem dX6_isAhead_16 : decode cX6_isAhead 16 = .ok (.getfield 15, 3) := by decide +kernel
theorem dX6_isAhead_19 : decode cX6_isAhead 19 = .ok (.iload_n 1, 1) := by decide +kernel
theorem dX6_isAhead_20 : decode cX6_isAhead 20 = .ok (.iaload, 1) := by decide +kernel
theorem dX6_isAhead_21 : decode cX6_isAhead 21 = .ok (.aload_n 0, 1) := by decide +kernel
theorem dX6_isAhead_22 : decode cX6_isAhead 22 = .ok (.getfield 15, 3) := by decide +kernel
theorem dX6_isAhead_25 : decode cX6_isAhead 25 = .ok (.iload_n 2, 1) := by decide +kernel
theorem dX6_isAhead_26 : decode cX6_isAhead 26 = .ok (.iaload, 1) := by decide +kernel
theorem dX6_isAhead_27 : decode cX6_isAhead 27 = .ok (.if_icmp .ne 22, 3) := by decide +kernel
theorem dX6_isAhead_30 : decode cX6_isAhead 30 = .ok (.aload_n 0, 1) := by decide +kernel
theorem dX6_isAhead_31 : decode cX6_isAhead 31 = .ok (.getfield 9, 3) := by decide +kernel
theorem dX6_isAhead_34 : decode cX6_isAhead 34 = .ok (.iload_n 1, 1) := by decide +kernel
theorem dX6_isAhead_35 : decode cX6_isAhead 35 = .ok (.iaload, 1) := by decide +kernel
theorem dX6_isAhead_36 : decode cX6_isAhead 36 = .ok (.aload_n 0, 1) := by decide +kernel
theorem dX6_isAhead_37 : decode cX6_isAhead 37 = .ok (.getfield 9, 3) := by decide +kernel
theorem dX6_isAhead_40 : decode cX6_isAhead 40 = .ok (.iload_n 2, 1) := by decide +kernel
theorem dX6_isAhead_41 : decode cX6_isAhead 41 = .ok (.iaload, 1) := by decide +kernel
theorem dX6_isAhead_42 : decode cX6_isAhead 42 = .ok (.if_icmp .ge 7, 3) := by decide +kernel
theorem dX6_isAhead_45 : decode cX6_isAhead 45 = .ok (.iconst 1, 1) := by decide +kernel
theorem dX6_isAhead_46 : decode cX6_isAhead 46 = .ok (.goto 4, 3) := by decide +kernel
theorem dX6_isAhead_49 : decode cX6_isAhead 49 = .ok (.iconst 0, 1) := by decide +kernel
theorem dX6_isAhead_50 : decode cX6_isAhead 50 = .ok (.ireturn, 1) := by decide +kernel
set_option maxRecDepth 100000 in
set_option maxHeartbeats 4000000 in
theorem c_X6_isAhead {l : Launch} {K : KG} {ad : Nat → Nat → Nat} {fl : Nat} {a1 : Int32} {a2 : Int32} {M0 : Mem} {r9 : Int32} {M9 : Mem} (hf : f_X6_isAhead fl a1 a2 M0 = some (r9, M9)) : Met l yX6_isAhead (Cond.code yX6_isAhead cX6_isAhead 3 (some .boolean) :: ztb) (RM (1) 0 0) (zPc K LC ad M0 [.ref (ad 9 0), .int a1, .int a2]) (zQ K LC ad (some (.int r9)) M9) 0 0 (zA ad) := by
  refine z_enter (by decide) (Nat.le_of_ble_eq_true rfl) ?_
  intro p e s m args below meth c ls C hin hargs Z hl
  replace C : Cx p s m args meth c cX6_isAhead 3 "GlassPalace$Plan" (some .boolean) := C
  replace hl : lv_has ls 3 [(0, .ref (ad 9 0)), (1, .int a1), (2, .int a2)] := hl
  have hR : 1 ≤ (RM (1) 0 0).frames ∧ 40 * (1) ≤ (RM (1) 0 0).locals := ⟨Nat.le_refl _, Nat.le_refl _⟩
  have hB : 0 ≤ (RM (1) 0 0).cells ∧ 0 ≤ (RM (1) 0 0).slots := ⟨Nat.zero_le _, Nat.zero_le _⟩
  unfold f_X6_isAhead at hf
  refine lv_aload_n C.x C.b dX6_isAhead_0 rfl (lv_at hl 0 rfl) ?_
  refine z_get C Z (lvC9 Nat.zero_lt_one) kC9 zc6 zin6 3 (by decide) k_240 rfl svC9_3 dX6_isAhead_1 ?_
  refine lv_iload_n C.x C.b dX6_isAhead_4 rfl (lv_at hl 1 rfl) ?_
  replace hf := asr_s hf; obtain ⟨hq1, hf⟩ := hf
  refine z_iald C Z (lvC31 Nat.zero_lt_one) kC31 hq1 svC31 dX6_isAhead_5 ?_
  refine lv_aload_n C.x C.b dX6_isAhead_6 rfl (lv_at hl 0 rfl) ?_
  refine z_get C Z (lvC9 Nat.zero_lt_one) kC9 zc6 zin6 3 (by decide) k_240 rfl svC9_3 dX6_isAhead_7 ?_
  refine lv_iload_n C.x C.b dX6_isAhead_10 rfl (lv_at hl 2 rfl) ?_
  replace hf := asr_s hf; obtain ⟨hq2, hf⟩ := hf
  refine z_iald C Z (lvC31 Nat.zero_lt_one) kC31 hq2 svC31 dX6_isAhead_11 ?_
  refine lv_icmp_lt (tgt := 45) C.x C.b dX6_isAhead_12 (by decide) (fun hc3 => ?_) (fun hc3 => ?_)
  · replace hf := ite_t hf hc3
    refine lv_iconst (v := 1) C.x C.b dX6_isAhead_45 (by decide) ?_
    refine lv_goto (tgt := 50) C.x C.b dX6_isAhead_46 (by decide) ?_
    obtain ⟨rfl, rfl⟩ := pr_s hf
    exact z_zret C Z rfl dX6_isAhead_50
  · replace hf := ite_f hf hc3
    refine lv_aload_n C.x C.b dX6_isAhead_15 rfl (lv_at hl 0 rfl) ?_
    refine z_get C Z (lvC9 Nat.zero_lt_one) kC9 zc6 zin6 3 (by decide) k_240 rfl svC9_3 dX6_isAhead_16 ?_
    refine lv_iload_n C.x C.b dX6_isAhead_19 rfl (lv_at hl 1 rfl) ?_
    replace hf := asr_s hf; obtain ⟨hq4, hf⟩ := hf
    refine z_iald C Z (lvC31 Nat.zero_lt_one) kC31 hq4 svC31 dX6_isAhead_20 ?_
    refine lv_aload_n C.x C.b dX6_isAhead_21 rfl (lv_at hl 0 rfl) ?_
    refine z_get C Z (lvC9 Nat.zero_lt_one) kC9 zc6 zin6 3 (by decide) k_240 rfl svC9_3 dX6_isAhead_22 ?_
    refine lv_iload_n C.x C.b dX6_isAhead_25 rfl (lv_at hl 2 rfl) ?_
    replace hf := asr_s hf; obtain ⟨hq5, hf⟩ := hf
    refine z_iald C Z (lvC31 Nat.zero_lt_one) kC31 hq5 svC31 dX6_isAhead_26 ?_
    refine lv_icmp_ne (tgt := 49) C.x C.b dX6_isAhead_27 (by decide) (fun hc6 => ?_) (fun hc6 => ?_)
    · replace hf := ite_f hf hc6
      refine lv_iconst (v := 0) C.x C.b dX6_isAhead_49 (by decide) ?_
      obtain ⟨rfl, rfl⟩ := pr_s hf
      exact z_zret C Z rfl dX6_isAhead_50
    · replace hf := ite_t hf hc6
      refine lv_aload_n C.x C.b dX6_isAhead_30 rfl (lv_at hl 0 rfl) ?_
      refine z_get C Z (lvC9 Nat.zero_lt_one) kC9 zc6 zin6 2 (by decide) k_238 rfl svC9_2 dX6_isAhead_31 ?_
      refine lv_iload_n C.x C.b dX6_isAhead_34 rfl (lv_at hl 1 rfl) ?_
      replace hf := asr_s hf; obtain ⟨hq7, hf⟩ := hf
      refine z_iald C Z (lvC30 Nat.zero_lt_one) kC30 hq7 svC30 dX6_isAhead_35 ?_
      refine lv_aload_n C.x C.b dX6_isAhead_36 rfl (lv_at hl 0 rfl) ?_
      refine z_get C Z (lvC9 Nat.zero_lt_one) kC9 zc6 zin6 2 (by decide) k_238 rfl svC9_2 dX6_isAhead_37 ?_
      refine lv_iload_n C.x C.b dX6_isAhead_40 rfl (lv_at hl 2 rfl) ?_
      replace hf := asr_s hf; obtain ⟨hq8, hf⟩ := hf
      refine z_iald C Z (lvC30 Nat.zero_lt_one) kC30 hq8 svC30 dX6_isAhead_41 ?_
      refine lv_icmp_ge (tgt := 49) C.x C.b dX6_isAhead_42 (by decide) (fun hc9 => ?_) (fun hc9 => ?_)
      · replace hf := ite_t hf hc9
        refine lv_iconst (v := 0) C.x C.b dX6_isAhead_49 (by decide) ?_
        obtain ⟨rfl, rfl⟩ := pr_s hf
        exact z_zret C Z rfl dX6_isAhead_50
      · replace hf := ite_f hf hc9
        refine lv_iconst (v := 1) C.x C.b dX6_isAhead_45 (by decide) ?_
        refine lv_goto (tgt := 50) C.x C.b dX6_isAhead_46 (by decide) ?_
        obtain ⟨rfl, rfl⟩ := pr_s hf
        exact z_zret C Z rfl dX6_isAhead_50
theorem dX6_firstLack_0 : decode cX6_firstLack 0 = .ok (.iconst (-1), 1) := by decide +kernel
theorem dX6_firstLack_1 : decode cX6_firstLack 1 = .ok (.istore_n 2, 1) := by decide +kernel
theorem dX6_firstLack_2 : decode cX6_firstLack 2 = .ok (.iconst 0, 1) := by decide +kernel
theorem dX6_firstLack_3 : decode cX6_firstLack 3 = .ok (.istore_n 3, 1) := by decide +kernel
theorem dX6_firstLack_4 : decode cX6_firstLack 4 = .ok (.iload_n 3, 1) := by decide +kernel
theorem dX6_firstLack_5 : decode cX6_firstLack 5 = .ok (.aload_n 0, 1) := by decide +kernel
theorem dX6_firstLack_6 : decode cX6_firstLack 6 = .ok (.getfield 36, 3) := by decide +kernel
theorem dX6_firstLack_9 : decode cX6_firstLack 9 = .ok (.if_icmp .ge 45, 3) := by decide +kernel
theorem dX6_firstLack_12 : decode cX6_firstLack 12 = .ok (.iload_n 3, 1) := by decide +kernel
theorem dX6_firstLack_13 : decode cX6_firstLack 13 = .ok (.bipush 20, 2) := by decide +kernel
theorem dX6_firstLack_15 : decode cX6_firstLack 15 = .ok (.if_icmp .ge 39, 3) := by decide +kernel
theorem dX6_firstLack_18 : decode cX6_firstLack 18 = .ok (.aload_n 0, 1) := by decide +kernel
theorem dX6_firstLack_19 : decode cX6_firstLack 19 = .ok (.getfield 18, 3) := by decide +kernel
theorem dX6_firstLack_22 : decode cX6_firstLack 22 = .ok (.iload_n 3, 1) := by decide +kernel
theorem dX6_firstLack_23 : decode cX6_firstLack 23 = .ok (.iaload, 1) := by decide +kernel
theorem dX6_firstLack_24 : decode cX6_firstLack 24 = .ok (.aload_n 0, 1) := by decide +kernel
theorem dX6_firstLack_25 : decode cX6_firstLack 25 = .ok (.iload_n 1, 1) := by decide +kernel
theorem dX6_firstLack_26 : decode cX6_firstLack 26 = .ok (.iload_n 3, 1) := by decide +kernel
theorem dX6_firstLack_27 : decode cX6_firstLack 27 = .ok (.invokevirtual 43, 3) := by decide +kernel
theorem dX6_firstLack_30 : decode cX6_firstLack 30 = .ok (.if_icmp .le 18, 3) := by decide +kernel
theorem dX6_firstLack_33 : decode cX6_firstLack 33 = .ok (.iload_n 2, 1) := by decide +kernel
theorem dX6_firstLack_34 : decode cX6_firstLack 34 = .ok (.ifCond .lt 12, 3) := by decide +kernel
theorem dX6_firstLack_37 : decode cX6_firstLack 37 = .ok (.aload_n 0, 1) := by decide +kernel
theorem dX6_firstLack_38 : decode cX6_firstLack 38 = .ok (.iload_n 3, 1) := by decide +kernel
theorem dX6_firstLack_39 : decode cX6_firstLack 39 = .ok (.iload_n 2, 1) := by decide +kernel
theorem dX6_firstLack_40 : decode cX6_firstLack 40 = .ok (.invokevirtual 47, 3) := by decide +kernel
theorem dX6_firstLack_43 : decode cX6_firstLack 43 = .ok (.ifCond .eq 5, 3) := by decide +kernel
theorem dX6_firstLack_46 : decode cX6_firstLack 46 = .ok (.iload_n 3, 1) := by decide +kernel
theorem dX6_firstLack_47 : decode cX6_firstLack 47 = .ok (.istore_n 2, 1) := by decide +kernel
theorem dX6_firstLack_48 : decode cX6_firstLack 48 = .ok (.iinc 3 1, 3) := by decide +kernel
theorem dX6_firstLack_51 : decode cX6_firstLack 51 = .ok (.goto (-47), 3) := by decide +kernel
theorem dX6_firstLack_54 : decode cX6_firstLack 54 = .ok (.iload_n 2, 1) := by decide +kernel
theorem dX6_firstLack_55 : decode cX6_firstLack 55 = .ok (.ireturn, 1) := by decide +kernel
set_option maxRecDepth 100000 in
set_option maxHeartbeats 4000000 in
theorem w_X6_firstLack_l4 {p : Program} {l : Launch} {e : Env} {R : Room} {s : State} {m : MethodId} {args : Array Value} {below : List Frame} {meth : Method} {c : Code} {cells slots : Nat} {Q : State → Prop} {K : KG} {ad : Nat → Nat → Nat} {fl : Nat} {g1 : Int32} (C : Cx p s m args meth c cX6_firstLack 4 "GlassPalace$Plan" (some .int)) (hR : 2 ≤ R.frames ∧ 40 * (2) ≤ R.locals) (hB : cells ≤ R.cells ∧ slots ≤ R.slots) : ∀ (n : Nat) (u2 : Int32) (u3 : Int32) (M0 : Mem) (H : Heap) (locs : List Loc) (ls : Array Slot), Zd K LC ad M0 s H locs → lv_has ls 4 [(0, .ref (ad 9 0)), (1, .int g1), (2, .int u2), (3, .int u3)] → ∀ (q : Int32) (Mq : Mem), f_X6_firstLack_l4 fl g1 n u2 u3 M0 = some (q, Mq) → (∀ (H : Heap) (locs : List Loc) (ls : Array Slot), Zd K LC ad Mq s H locs → lv_has ls 4 [(2, .int q)] → W p l e R s m args below meth c H locs cells slots Q (F0 m 54 ls [])) → W p l e R s m args below meth c H locs cells slots Q (F0 m 4 ls []) := by
  intro n
  induction n with
  | zero =>
    intro u2 u3 M0 H locs ls Z hl q Mq hf
    have hf : (none : Option (Int32 × Mem)) = some (q, Mq) := hf
    cases hf
  | succ n ih =>
    intro u2 u3 M0 H locs ls Z hl q Mq hf kx0
    replace hf : f_X6_firstLack_l4_b (f_X6_firstLack_l4 fl g1 n) fl g1 u2 u3 M0 = some (q, Mq) := hf
    unfold f_X6_firstLack_l4_b at hf
    refine lv_iload_n C.x C.b dX6_firstLack_4 rfl (lv_at hl 3 rfl) ?_
    refine lv_aload_n C.x C.b dX6_firstLack_5 rfl (lv_at hl 0 rfl) ?_
    refine z_get C Z (lvC9 Nat.zero_lt_one) kC9 zc6 zin6 0 (by decide) k_234 rfl svC9_0 dX6_firstLack_6 ?_
    refine lv_icmp_ge (tgt := 54) C.x C.b dX6_firstLack_9 (by decide) (fun hc1 => ?_) (fun hc1 => ?_)
    · replace hf := ite_t hf hc1
      obtain ⟨rfl, rfl⟩ := pr_s hf
      exact kx0 _ _ _ Z (lv_sub hl [2] rfl)
    · replace hf := ite_f hf hc1
      refine lv_iload_n C.x C.b dX6_firstLack_12 rfl (lv_at hl 3 rfl) ?_
      refine lv_bipush (v := 20) C.x C.b dX6_firstLack_13 (by decide) ?_
      refine lv_icmp_ge (tgt := 54) C.x C.b dX6_firstLack_15 (by decide) (fun hc2 => ?_) (fun hc2 => ?_)
      · replace hf := ite_t hf hc2
        obtain ⟨rfl, rfl⟩ := pr_s hf
        exact kx0 _ _ _ Z (lv_sub hl [2] rfl)
      · replace hf := ite_f hf hc2
        refine lv_aload_n C.x C.b dX6_firstLack_18 rfl (lv_at hl 0 rfl) ?_
        refine z_get C Z (lvC9 Nat.zero_lt_one) kC9 zc6 zin6 4 (by decide) k_242 rfl svC9_4 dX6_firstLack_19 ?_
        refine lv_iload_n C.x C.b dX6_firstLack_22 rfl (lv_at hl 3 rfl) ?_
        replace hf := asr_s hf; obtain ⟨hq3, hf⟩ := hf
        refine z_iald C Z (lvC32 Nat.zero_lt_one) kC32 hq3 svC32 dX6_firstLack_23 ?_
        refine lv_aload_n C.x C.b dX6_firstLack_24 rfl (lv_at hl 0 rfl) ?_
        refine lv_iload_n C.x C.b dX6_firstLack_25 rfl (lv_at hl 1 rfl) ?_
        refine lv_iload_n C.x C.b dX6_firstLack_26 rfl (lv_at hl 3 rfl) ?_
        replace hf := bn2_s hf; obtain ⟨v5, m4, hkm4, hf⟩ := hf
        refine z_cV (As := [.int g1, .int u3]) (rest := [.int (gI M0 32 0 (Int32.toNatClampNeg u3))]) (st1 := [.int v5, .int (gI M0 32 0 (Int32.toNatClampNeg u3))]) C Z mw_X6_addedFor mv_X6_addedFor k_986 (by decide) (z_hR hR (by decide)) (lvC9 Nat.zero_lt_one) kC9 zc6 (c_X6_addedFor (l := l) (K := K) (ad := ad) hkm4) rfl hl.1 rfl (Nat.le_of_ble_eq_true rfl) dX6_firstLack_27 hB rfl (fun H locs Z => ?_)
        refine lv_icmp_le (tgt := 48) C.x C.b dX6_firstLack_30 (by decide) (fun hc6 => ?_) (fun hc6 => ?_)
        · replace hf := ite_t hf hc6
          replace hf := lt1_s hf; obtain ⟨x7, ex7, hf⟩ := hf
          refine z_iinc (v := x7) (lv' := [(3, .int x7), (0, .ref (ad 9 0)), (1, .int g1), (2, .int u2)]) C dX6_firstLack_48 hl (k := 3) rfl (by rw [ex7]; rfl) (by decide) rfl (onlast 2 rfl rfl rfl) (fun ls hl => ?_)
          refine lv_goto (tgt := 4) C.x C.b dX6_firstLack_51 (by decide) ?_
          exact ih _ _ _ _ _ _ Z (lv_sub hl [1, 2, 3, 0] rfl) _ _ hf kx0
        · replace hf := ite_f hf hc6
          refine lv_iload_n C.x C.b dX6_firstLack_33 rfl (lv_at hl 2 rfl) ?_
          refine lv_if_lt (tgt := 46) C.x C.b dX6_firstLack_34 (by decide) (fun hc8 => ?_) (fun hc8 => ?_)
          · replace hf := ite_t hf hc8
            refine lv_iload_n C.x C.b dX6_firstLack_46 rfl (lv_at hl 3 rfl) ?_
            refine z_istore_n (lv' := [(2, .int u3), (0, .ref (ad 9 0)), (1, .int g1), (3, .int u3)]) C dX6_firstLack_47 rfl hl (by decide) rfl (onlast 1 rfl rfl rfl) (fun ls hl => ?_)
            replace hf := lt1_s hf; obtain ⟨x9, ex9, hf⟩ := hf
            refine z_iinc (v := x9) (lv' := [(3, .int x9), (2, .int u3), (0, .ref (ad 9 0)), (1, .int g1)]) C dX6_firstLack_48 hl (k := 3) rfl (by rw [ex9]; rfl) (by decide) rfl (onlast 0 rfl rfl rfl) (fun ls hl => ?_)
            refine lv_goto (tgt := 4) C.x C.b dX6_firstLack_51 (by decide) ?_
            exact ih _ _ _ _ _ _ Z (lv_sub hl [2, 3, 1, 0] rfl) _ _ hf kx0
          · replace hf := ite_f hf hc8
            refine lv_aload_n C.x C.b dX6_firstLack_37 rfl (lv_at hl 0 rfl) ?_
            refine lv_iload_n C.x C.b dX6_firstLack_38 rfl (lv_at hl 3 rfl) ?_
            refine lv_iload_n C.x C.b dX6_firstLack_39 rfl (lv_at hl 2 rfl) ?_
            replace hf := bn2_s hf; obtain ⟨v11, m10, hkm10, hf⟩ := hf
            refine z_cV (As := [.int u3, .int u2]) (rest := []) (st1 := [.int v11]) C Z mw_X6_isAhead mv_X6_isAhead k_990 (by decide) (z_hR hR (by decide)) (lvC9 Nat.zero_lt_one) kC9 zc6 (c_X6_isAhead (l := l) (K := K) (ad := ad) hkm10) rfl hl.1 rfl (Nat.le_of_ble_eq_true rfl) dX6_firstLack_40 hB rfl (fun H locs Z => ?_)
            refine lv_if_eq (tgt := 48) C.x C.b dX6_firstLack_43 (by decide) (fun hc12 => ?_) (fun hc12 => ?_)
            · replace hf := ite_t hf hc12
              replace hf := lt1_s hf; obtain ⟨x13, ex13, hf⟩ := hf
              refine z_iinc (v := x13) (lv' := [(3, .int x13), (0, .ref (ad 9 0)), (1, .int g1), (2, .int u2)]) C dX6_firstLack_48 hl (k := 3) rfl (by rw [ex13]; rfl) (by decide) rfl (onlast 2 rfl rfl rfl) (fun ls hl => ?_)
              refine lv_goto (tgt := 4) C.x C.b dX6_firstLack_51 (by decide) ?_
              exact ih _ _ _ _ _ _ Z (lv_sub hl [1, 2, 3, 0] rfl) _ _ hf kx0
            · replace hf := ite_f hf hc12
              refine lv_iload_n C.x C.b dX6_firstLack_46 rfl (lv_at hl 3 rfl) ?_
              refine z_istore_n (lv' := [(2, .int u3), (0, .ref (ad 9 0)), (1, .int g1), (3, .int u3)]) C dX6_firstLack_47 rfl hl (by decide) rfl (onlast 1 rfl rfl rfl) (fun ls hl => ?_)
              replace hf := lt1_s hf; obtain ⟨x14, ex14, hf⟩ := hf
              refine z_iinc (v := x14) (lv' := [(3, .int x14), (2, .int u3), (0, .ref (ad 9 0)), (1, .int g1)]) C dX6_firstLack_48 hl (k := 3) rfl (by rw [ex14]; rfl) (by decide) rfl (onlast 0 rfl rfl rfl) (fun ls hl => ?_)
              refine lv_goto (tgt := 4) C.x C.b dX6_firstLack_51 (by decide) ?_
              exact ih _ _ _ _ _ _ Z (lv_sub hl [2, 3, 1, 0] rfl) _ _ hf kx0
set_option maxRecDepth 100000 in
set_option maxHeartbeats 4000000 in
theorem c_X6_firstLack {l : Launch} {K : KG} {ad : Nat → Nat → Nat} {fl : Nat} {a1 : Int32} {M0 : Mem} {r9 : Int32} {M9 : Mem} (hf : f_X6_firstLack fl a1 M0 = some (r9, M9)) : Met l yX6_firstLack (Cond.code yX6_firstLack cX6_firstLack 4 (some .int) :: ztb) (RM (2) 0 0) (zPc K LC ad M0 [.ref (ad 9 0), .int a1]) (zQ K LC ad (some (.int r9)) M9) 0 0 (zA ad) := by
  refine z_enter (by decide) (Nat.le_of_ble_eq_true rfl) ?_
  intro p e s m args below meth c ls C hin hargs Z hl
  replace C : Cx p s m args meth c cX6_firstLack 4 "GlassPalace$Plan" (some .int) := C
  replace hl : lv_has ls 4 [(0, .ref (ad 9 0)), (1, .int a1)] := hl
  have hR : 2 ≤ (RM (2) 0 0).frames ∧ 40 * (2) ≤ (RM (2) 0 0).locals := ⟨Nat.le_refl _, Nat.le_refl _⟩
  have hB : 0 ≤ (RM (2) 0 0).cells ∧ 0 ≤ (RM (2) 0 0).slots := ⟨Nat.zero_le _, Nat.zero_le _⟩
  unfold f_X6_firstLack at hf
  refine lv_iconst (v := (-1)) C.x C.b dX6_firstLack_0 (by decide) ?_
  refine z_istore_n (lv' := [(2, .int (-1)), (0, .ref (ad 9 0)), (1, .int a1)]) C dX6_firstLack_1 rfl hl (by decide) rfl (onlast 1 rfl rfl rfl) (fun ls hl => ?_)
  refine lv_iconst (v := 0) C.x C.b dX6_firstLack_2 (by decide) ?_
  refine z_istore_n (lv' := [(3, .int 0), (2, .int (-1)), (0, .ref (ad 9 0)), (1, .int a1)]) C dX6_firstLack_3 rfl hl (by decide) rfl (onlast 0 rfl rfl rfl) (fun ls hl => ?_)
  replace hf := bn2_s hf; obtain ⟨q15, m16, hq15, hf⟩ := hf
  refine w_X6_firstLack_l4 C hR hB  fl _ _ _ _ _ _ Z (lv_sub hl [2, 3, 1, 0] rfl) _ _ hq15 (fun H locs ls Z hl => ?_)
  refine lv_iload_n C.x C.b dX6_firstLack_54 rfl (lv_at hl 0 rfl) ?_
  obtain ⟨rfl, rfl⟩ := pr_s hf
  exact z_iret C Z dX6_firstLack_55
