theorem dX11_bears_0 : decode cX11_bears 0 = .ok (.aload_n 0, 1) := by decide +kernel
theorem dX11_bears_1 : decode cX11_bears 1 = .ok (.iload_n 1, 1) := by decide +kernel
theorem dX11_bears_2 : decode cX11_bears 2 = .ok (.invokevirtual 92, 3) := by decide +kernel
theorem dX11_bears_5 : decode cX11_bears 5 = .ok (.astore_n 3, 1) := by decide +kernel
theorem dX11_bears_6 : decode cX11_bears 6 = .ok (.aload_n 3, 1) := by decide +kernel
theorem dX11_bears_7 : decode cX11_bears 7 = .ok (.ifnull 12, 3) := by decide +kernel
theorem dX11_bears_10 : decode cX11_bears 10 = .ok (.iload_n 2, 1) := by decide +kernel
theorem dX11_bears_11 : decode cX11_bears 11 = .ok (.ifCond .lt 8, 3) := by decide +kernel
theorem dX11_bears_14 : decode cX11_bears 14 = .ok (.iload_n 2, 1) := by decide +kernel
theorem dX11_bears_15 : decode cX11_bears 15 = .ok (.iconst 3, 1) := by decide +kernel
theorem dX11_bears_16 : decode cX11_bears 16 = .ok (.if_icmp .le 5, 3) := by decide +kernel
theorem dX11_bears_19 : decode cX11_bears 19 = .ok (.iconst (-1), 1) := by decide +kernel
theorem dX11_bears_20 : decode cX11_bears 20 = .ok (.ireturn, 1) := by decide +kernel
theorem dX11_bears_21 : decode cX11_bears 21 = .ok (.iload_n 2, 1) := by decide +kernel
theorem dX11_bears_22 : decode cX11_bears 22 = .ok (.ifCond .eq 8, 3) := by decide +kernel
theorem dX11_bears_25 : decode cX11_bears 25 = .ok (.iload_n 2, 1) := by decide +kernel
theorem dX11_bears_26 : decode cX11_bears 26 = .ok (.iconst 2, 1) := by decide +kernel
theorem dX11_bears_27 : decode cX11_bears 27 = .ok (.if_icmp .ne 7, 3) := by decide +kernel
theorem dX11_bears_30 : decode cX11_bears 30 = .ok (.iconst 1, 1) := by decide +kernel
theorem dX11_bears_31 : decode cX11_bears 31 = .ok (.goto 4, 3) := by decide +kernel
theorem dX11_bears_34 : decode cX11_bears 34 = .ok (.iconst 0, 1) := by decide +kernel
theorem dX11_bears_35 : decode cX11_bears 35 = .ok (.istore 4, 2) := by decide +kernel
theorem dX11_bears_37 : decode cX11_bears 37 = .ok (.aload_n 3, 1) := by decide +kernel
theorem dX11_bears_38 : decode cX11_bears 38 = .ok (.iload 4, 2) := by decide +kernel
theorem dX11_bears_40 : decode cX11_bears 40 = .ok (.ifCond .eq 7, 3) := by decide +kernel
theorem dX11_bears_43 : decode cX11_bears 43 = .ok (.iconst 2, 1) := by decide +kernel
theorem dX11_bears_44 : decode cX11_bears 44 = .ok (.goto 4, 3) := by decide +kernel
theorem dX11_bears_47 : decode cX11_bears 47 = .ok (.iconst 1, 1) := by decide +kernel
theorem dX11_bears_48 : decode cX11_bears 48 = .ok (.invokevirtual 247, 3) := by decide +kernel
theorem dX11_bears_51 : decode cX11_bears 51 = .ok (.ifCond .ne 6, 3) := by decide +kernel
theorem dX11_bears_54 : decode cX11_bears 54 = .ok (.bipush (-5), 2) := by decide +kernel
theorem dX11_bears_56 : decode cX11_bears 56 = .ok (.ireturn, 1) := by decide +kernel
theorem dX11_bears_57 : decode cX11_bears 57 = .ok (.iload_n 2, 1) := by decide +kernel
theorem dX11_bears_58 : decode cX11_bears 58 = .ok (.tableswitch 52 0 2 #[26, 32, 38], 26) := by decide +kernel
theorem dX11_bears_84 : decode cX11_bears 84 = .ok (.aload_n 0, 1) := by decide +kernel
theorem dX11_bears_85 : decode cX11_bears 85 = .ok (.aload_n 3, 1) := by decide +kernel
theorem dX11_bears_86 : decode cX11_bears 86 = .ok (.invokevirtual 250, 3) := by decide +kernel
theorem dX11_bears_89 : decode cX11_bears 89 = .ok (.ireturn, 1) := by decide +kernel
theorem dX11_bears_90 : decode cX11_bears 90 = .ok (.aload_n 0, 1) := by decide +kernel
theorem dX11_bears_91 : decode cX11_bears 91 = .ok (.aload_n 3, 1) := by decide +kernel
theorem dX11_bears_92 : decode cX11_bears 92 = .ok (.invokevirtual 254, 3) := by decide +kernel
theorem dX11_bears_95 : decode cX11_bears 95 = .ok (.ireturn, 1) := by decide +kernel
theorem dX11_bears_96 : decode cX11_bears 96 = .ok (.aload_n 0, 1) := by decide +kernel
theorem dX11_bears_97 : decode cX11_bears 97 = .ok (.aload_n 3, 1) := by decide +kernel
theorem dX11_bears_98 : decode cX11_bears 98 = .ok (.invokevirtual 257, 3) := by decide +kernel
theorem dX11_bears_101 : decode cX11_bears 101 = .ok (.ifCond .eq 7, 3) := by decide +kernel
theorem dX11_bears_104 : decode cX11_bears 104 = .ok (.iconst 1, 1) := by decide +kernel
theorem dX11_bears_105 : decode cX11_bears 105 = .ok (.goto 4, 3) := by decide +kernel
theorem dX11_bears_108 : decode cX11_bears 108 = .ok (.iconst 0, 1) := by decide +kernel
theorem dX11_bears_109 : decode cX11_bears 109 = .ok (.ireturn, 1) := by decide +kernel
theorem dX11_bears_110 : decode cX11_bears 110 = .ok (.aload_n 0, 1) := by decide +kernel
theorem dX11_bears_111 : decode cX11_bears 111 = .ok (.aload_n 3, 1) := by decide +kernel
theorem dX11_bears_112 : decode cX11_bears 112 = .ok (.invokevirtual 261, 3) := by decide +kernel
theorem dX11_bears_115 : decode cX11_bears 115 = .ok (.ifCond .eq 7, 3) := by decide +kernel
theorem dX11_bears_118 : decode cX11_bears 118 = .ok (.iconst 1, 1) := by decide +kernel
theorem dX11_bears_119 : decode cX11_bears 119 = .ok (.goto 4, 3) := by decide +kernel
theorem dX11_bears_122 : decode cX11_bears 122 = .ok (.iconst 0, 1) := by decide +kernel
theorem dX11_bears_123 : decode cX11_bears 123 = .ok (.ireturn, 1) := by decide +kernel
set_option maxRecDepth 100000 in
set_option maxHeartbeats 4000000 in
theorem w_X11_bears_b48 {p : Program} {l : Launch} {e : Env} {s : State} {m : MethodId} {args : Array Value} {below : List Frame} {meth : Method} {c : Code} {K : KG} {ad : Nat → Nat → Nat} {fl : Nat} {H : Heap} {locs : List Loc} {ls : Array Slot} {g2 : Int32} {g3 : Nat} {z0 : Nat} {z1 : Int32} {M0 : Mem} {r9 : Int32} {M9 : Mem} (C : Cx p s m args meth c cX11_bears 5 "GlassPalace" (some .int)) (hR : 7 ≤ (RM (7) 0 0).frames ∧ 40 * (7) ≤ (RM (7) 0 0).locals) (hB : 0 ≤ (RM (7) 0 0).cells ∧ 0 ≤ (RM (7) 0 0).slots) (Z : Zd K LC ad M0 s H locs) (hl : lv_has ls 5 [(0, .ref (ad 0 0)), (2, .int g2), (3, rf (ad 13) g3)]) (hf : f_X11_bears_b48 fl g2 g3 z0 z1 M0 = some (r9, M9)) : W p l e (RM (7) 0 0) s m args below meth c H locs 0 0 (MQ below (zQ K LC ad (some (.int r9)) M9) args s 0 0 (zA ad)) (F0 m 48 ls [.int z1, rf (ad 13) z0]) := by
  unfold f_X11_bears_b48 at hf
  replace hf := drf_s hf; obtain ⟨j10, ej12, hj11, hf⟩ := hf
  refine z_nn [.int z1] ej12 ?_
  replace hf := bn2_s hf; obtain ⟨v14, m13, hkm13, hf⟩ := hf
  refine z_cV (As := [.int z1]) (rest := []) (st1 := [.int v14]) C Z mw_X1_has mv_X1_has k_617 (by decide) (z_hR hR (by decide)) (lvC13 hj11) kC13 zc1 (c_X1_has (l := l) (K := K) (ad := ad) hj11 hkm13) rfl hl.1 rfl (Nat.le_of_ble_eq_true rfl) dX11_bears_48 hB rfl (fun H locs Z => ?_)
  refine lv_if_ne (tgt := 57) C.x C.b dX11_bears_51 (by decide) (fun hc15 => ?_) (fun hc15 => ?_)
  · replace hf := ite_f hf hc15
    refine lv_iload_n C.x C.b dX11_bears_57 rfl (lv_at hl 1 rfl) ?_
    by_cases hx16 : g2 = 0
    · replace hf := ite_t hf hx16
      refine lv_tableIn (tgt := 84) C.x C.b dX11_bears_58 (by rw [hx16]; decide) (by rw [hx16]; decide) (by rw [hx16]; rfl) (by decide) ?_
      refine lv_aload_n C.x C.b dX11_bears_84 rfl (lv_at hl 0 rfl) ?_
      refine z_aload_n C dX11_bears_85 rfl (lv_at hl 2 rfl) ?_
      replace hf := bn2_s hf; obtain ⟨v18, m17, hkm17, hf⟩ := hf
      refine z_cV (As := [rf (ad 13) g3]) (rest := []) (st1 := [.int v18]) C Z mw_X11_girderLoad mv_X11_girderLoad k_830 (by decide) (z_hR hR (by decide)) (lvC0 Nat.zero_lt_one) kC0 zc11 (c_X11_girderLoad (l := l) (K := K) (ad := ad) hkm17) rfl hl.1 rfl (Nat.le_of_ble_eq_true rfl) dX11_bears_86 hB rfl (fun H locs Z => ?_)
      obtain ⟨rfl, rfl⟩ := pr_s hf
      exact z_iret C Z dX11_bears_89
    replace hf := ite_f hf hx16
    by_cases hx19 : g2 = 1
    · replace hf := ite_t hf hx19
      refine lv_tableIn (tgt := 90) C.x C.b dX11_bears_58 (by rw [hx19]; decide) (by rw [hx19]; decide) (by rw [hx19]; rfl) (by decide) ?_
      refine lv_aload_n C.x C.b dX11_bears_90 rfl (lv_at hl 0 rfl) ?_
      refine z_aload_n C dX11_bears_91 rfl (lv_at hl 2 rfl) ?_
      replace hf := bn2_s hf; obtain ⟨v21, m20, hkm20, hf⟩ := hf
      refine z_cV (As := [rf (ad 13) g3]) (rest := []) (st1 := [.int v21]) C Z mw_X11_columnLoad mv_X11_columnLoad k_834 (by decide) (z_hR hR (by decide)) (lvC0 Nat.zero_lt_one) kC0 zc11 (c_X11_columnLoad (l := l) (K := K) (ad := ad) hkm20) rfl hl.1 rfl (Nat.le_of_ble_eq_true rfl) dX11_bears_92 hB rfl (fun H locs Z => ?_)
      obtain ⟨rfl, rfl⟩ := pr_s hf
      exact z_iret C Z dX11_bears_95
    replace hf := ite_f hf hx19
    by_cases hx22 : g2 = 2
    · replace hf := ite_t hf hx22
      refine lv_tableIn (tgt := 96) C.x C.b dX11_bears_58 (by rw [hx22]; decide) (by rw [hx22]; decide) (by rw [hx22]; rfl) (by decide) ?_
      refine lv_aload_n C.x C.b dX11_bears_96 rfl (lv_at hl 0 rfl) ?_
      refine z_aload_n C dX11_bears_97 rfl (lv_at hl 2 rfl) ?_
      replace hf := bn2_s hf; obtain ⟨v24, m23, hkm23, hf⟩ := hf
      refine z_cV (As := [rf (ad 13) g3]) (rest := []) (st1 := [.int v24]) C Z mw_X11_girderHolds mv_X11_girderHolds k_838 (by decide) (z_hR hR (by decide)) (lvC0 Nat.zero_lt_one) kC0 zc11 (c_X11_girderHolds (l := l) (K := K) (ad := ad) hkm23) rfl hl.1 rfl (Nat.le_of_ble_eq_true rfl) dX11_bears_98 hB rfl (fun H locs Z => ?_)
      refine lv_if_eq (tgt := 108) C.x C.b dX11_bears_101 (by decide) (fun hc25 => ?_) (fun hc25 => ?_)
      · replace hf := ite_t hf hc25
        refine lv_iconst (v := 0) C.x C.b dX11_bears_108 (by decide) ?_
        obtain ⟨rfl, rfl⟩ := pr_s hf
        exact z_iret C Z dX11_bears_109
      · replace hf := ite_f hf hc25
        refine lv_iconst (v := 1) C.x C.b dX11_bears_104 (by decide) ?_
        refine lv_goto (tgt := 109) C.x C.b dX11_bears_105 (by decide) ?_
        obtain ⟨rfl, rfl⟩ := pr_s hf
        exact z_iret C Z dX11_bears_109
    replace hf := ite_f hf hx22
    refine lv_tableOut (tgt := 110) C.x C.b dX11_bears_58 (tab_out (fun k h1 h2 => by rcases (show k = 0 ∨ k = 1 ∨ k = 2 by omega) with rfl | rfl | rfl <;> assumption)) (by decide) ?_
    refine lv_aload_n C.x C.b dX11_bears_110 rfl (lv_at hl 0 rfl) ?_
    refine z_aload_n C dX11_bears_111 rfl (lv_at hl 2 rfl) ?_
    replace hf := bn2_s hf; obtain ⟨v27, m26, hkm26, hf⟩ := hf
    refine z_cV (As := [rf (ad 13) g3]) (rest := []) (st1 := [.int v27]) C Z mw_X11_columnHolds mv_X11_columnHolds k_842 (by decide) (z_hR hR (by decide)) (lvC0 Nat.zero_lt_one) kC0 zc11 (c_X11_columnHolds (l := l) (K := K) (ad := ad) hkm26) rfl hl.1 rfl (Nat.le_of_ble_eq_true rfl) dX11_bears_112 hB rfl (fun H locs Z => ?_)
    refine lv_if_eq (tgt := 122) C.x C.b dX11_bears_115 (by decide) (fun hc28 => ?_) (fun hc28 => ?_)
    · replace hf := ite_t hf hc28
      refine lv_iconst (v := 0) C.x C.b dX11_bears_122 (by decide) ?_
      obtain ⟨rfl, rfl⟩ := pr_s hf
      exact z_iret C Z dX11_bears_123
    · replace hf := ite_f hf hc28
      refine lv_iconst (v := 1) C.x C.b dX11_bears_118 (by decide) ?_
      refine lv_goto (tgt := 123) C.x C.b dX11_bears_119 (by decide) ?_
      obtain ⟨rfl, rfl⟩ := pr_s hf
      exact z_iret C Z dX11_bears_123
  · replace hf := ite_t hf hc15
    refine lv_bipush (v := (-5)) C.x C.b dX11_bears_54 (by decide) ?_
    obtain ⟨rfl, rfl⟩ := pr_s hf
    exact z_iret C Z dX11_bears_56
set_option maxRecDepth 100000 in
set_option maxHeartbeats 4000000 in
theorem w_X11_bears_b35 {p : Program} {l : Launch} {e : Env} {s : State} {m : MethodId} {args : Array Value} {below : List Frame} {meth : Method} {c : Code} {K : KG} {ad : Nat → Nat → Nat} {fl : Nat} {H : Heap} {locs : List Loc} {ls : Array Slot} {g2 : Int32} {g3 : Nat} {z0 : Int32} {M0 : Mem} {r9 : Int32} {M9 : Mem} (C : Cx p s m args meth c cX11_bears 5 "GlassPalace" (some .int)) (hR : 7 ≤ (RM (7) 0 0).frames ∧ 40 * (7) ≤ (RM (7) 0 0).locals) (hB : 0 ≤ (RM (7) 0 0).cells ∧ 0 ≤ (RM (7) 0 0).slots) (Z : Zd K LC ad M0 s H locs) (hl : lv_has ls 5 [(0, .ref (ad 0 0)), (2, .int g2), (3, rf (ad 13) g3)]) (hf : f_X11_bears_b35 fl g2 g3 z0 M0 = some (r9, M9)) : W p l e (RM (7) 0 0) s m args below meth c H locs 0 0 (MQ below (zQ K LC ad (some (.int r9)) M9) args s 0 0 (zA ad)) (F0 m 35 ls [.int z0]) := by
  unfold f_X11_bears_b35 at hf
  refine z_istore (lv' := [(4, .int z0), (0, .ref (ad 0 0)), (2, .int g2), (3, rf (ad 13) g3)]) C dX11_bears_35 hl (by decide) rfl (onlast 2 rfl (rf_cat _ _) rfl) (fun ls hl => ?_)
  refine z_aload_n C dX11_bears_37 rfl (lv_at hl 3 rfl) ?_
  refine lv_iload C.x C.b dX11_bears_38 (lv_at hl 0 rfl) ?_
  replace hf := bn2_s hf; obtain ⟨q8, m9, hq8, hf⟩ := hf
  have kq8 : ∀ (H : Heap) (locs : List Loc) (ls : Array Slot), Zd K LC ad m9 s H locs → lv_has ls 5 [(0, .ref (ad 0 0)), (2, .int g2), (3, rf (ad 13) g3)] → W p l e (RM (7) 0 0) s m args below meth c H locs 0 0 (MQ below (zQ K LC ad (some (.int r9)) M9) args s 0 0 (zA ad)) (F0 m 48 ls [.int q8, rf (ad 13) g3]) := by
    intro H locs ls Z hl
    exact w_X11_bears_b48 C hR hB  Z (lv_sub hl [0, 1, 2] rfl) hf
  clear hf
  refine lv_if_eq (tgt := 47) C.x C.b dX11_bears_40 (by decide) (fun hc29 => ?_) (fun hc29 => ?_)
  · have hf := ite_t hq8 hc29; clear hq8
    refine lv_iconst (v := 1) C.x C.b dX11_bears_47 (by decide) ?_
    obtain ⟨rfl, rfl⟩ := pr_s hf
    exact kq8 _ _ _ Z (lv_sub hl [1, 2, 3] rfl)
  · have hf := ite_f hq8 hc29; clear hq8
    refine lv_iconst (v := 2) C.x C.b dX11_bears_43 (by decide) ?_
    refine lv_goto (tgt := 48) C.x C.b dX11_bears_44 (by decide) ?_
    obtain ⟨rfl, rfl⟩ := pr_s hf
    exact kq8 _ _ _ Z (lv_sub hl [1, 2, 3] rfl)
set_option maxRecDepth 100000 in
set_option maxHeartbeats 4000000 in
theorem c_X11_bears {l : Launch} {K : KG} {ad : Nat → Nat → Nat} {fl : Nat} {a1 : Int32} {a2 : Int32} {M0 : Mem} {r9 : Int32} {M9 : Mem} (hf : f_X11_bears fl a1 a2 M0 = some (r9, M9)) : Met l yX11_bears (Cond.code yX11_bears cX11_bears 5 (some .int) :: ztb) (RM (7) 0 0) (zPc K LC ad M0 [.ref (ad 0 0), .int a1, .int a2]) (zQ K LC ad (some (.int r9)) M9) 0 0 (zA ad) := by
  refine z_enter (by decide) (Nat.le_of_ble_eq_true rfl) ?_
  intro p e s m args below meth c ls C hin hargs Z hl
  replace C : Cx p s m args meth c cX11_bears 5 "GlassPalace" (some .int) := C
  replace hl : lv_has ls 5 [(0, .ref (ad 0 0)), (1, .int a1), (2, .int a2)] := hl
  have hR : 7 ≤ (RM (7) 0 0).frames ∧ 40 * (7) ≤ (RM (7) 0 0).locals := ⟨Nat.le_refl _, Nat.le_refl _⟩
  have hB : 0 ≤ (RM (7) 0 0).cells ∧ 0 ≤ (RM (7) 0 0).slots := ⟨Nat.zero_le _, Nat.zero_le _⟩
  unfold f_X11_bears at hf
  refine lv_aload_n C.x C.b dX11_bears_0 rfl (lv_at hl 0 rfl) ?_
  refine lv_iload_n C.x C.b dX11_bears_1 rfl (lv_at hl 1 rfl) ?_
  replace hf := bn2_s hf; obtain ⟨c2, m1, hkm1, hf⟩ := hf
  refine z_cV (As := [.int a1]) (rest := []) (st1 := [rf (ad 13) c2]) C Z mw_X11_bayOf mv_X11_bayOf k_416 (by decide) (z_hR hR (by decide)) (lvC0 Nat.zero_lt_one) kC0 zc11 (c_X11_bayOf (l := l) (K := K) (ad := ad) hkm1) rfl hl.1 rfl (Nat.le_of_ble_eq_true rfl) dX11_bears_2 hB rfl (fun H locs Z => ?_)
  refine z_cstore_n (lv' := [(3, rf (ad 13) c2), (0, .ref (ad 0 0)), (1, .int a1), (2, .int a2)]) C dX11_bears_5 rfl hl (by decide) rfl (onlast 2 rfl rfl rfl) (fun ls hl => ?_)
  refine z_aload_n C dX11_bears_6 rfl (lv_at hl 0 rfl) ?_
  refine z_ifnull C dX11_bears_7 (tgt := 19) (by decide) (fun hc3 => ?_) (fun hc3 => ?_)
  · replace hf := ite_t hf hc3
    refine lv_iconst (v := (-1)) C.x C.b dX11_bears_19 (by decide) ?_
    obtain ⟨rfl, rfl⟩ := pr_s hf
    exact z_iret C Z dX11_bears_20
  · replace hf := ite_f hf hc3
    refine lv_iload_n C.x C.b dX11_bears_10 rfl (lv_at hl 3 rfl) ?_
    refine lv_if_lt (tgt := 19) C.x C.b dX11_bears_11 (by decide) (fun hc4 => ?_) (fun hc4 => ?_)
    · replace hf := ite_t hf hc4
      refine lv_iconst (v := (-1)) C.x C.b dX11_bears_19 (by decide) ?_
      obtain ⟨rfl, rfl⟩ := pr_s hf
      exact z_iret C Z dX11_bears_20
    · replace hf := ite_f hf hc4
      refine lv_iload_n C.x C.b dX11_bears_14 rfl (lv_at hl 3 rfl) ?_
      refine lv_iconst (v := 3) C.x C.b dX11_bears_15 (by decide) ?_
      refine lv_icmp_le (tgt := 21) C.x C.b dX11_bears_16 (by decide) (fun hc5 => ?_) (fun hc5 => ?_)
      · replace hf := ite_t hf hc5
        refine lv_iload_n C.x C.b dX11_bears_21 rfl (lv_at hl 3 rfl) ?_
        replace hf := bn2_s hf; obtain ⟨q6, m7, hq6, hf⟩ := hf
        have kq6 : ∀ (H : Heap) (locs : List Loc) (ls : Array Slot), Zd K LC ad m7 s H locs → lv_has ls 5 [(0, .ref (ad 0 0)), (2, .int a2), (3, rf (ad 13) c2)] → W p l e (RM (7) 0 0) s m args below meth c H locs 0 0 (MQ below (zQ K LC ad (some (.int r9)) M9) args s 0 0 (zA ad)) (F0 m 35 ls [.int q6]) := by
          intro H locs ls Z hl
          exact w_X11_bears_b35 C hR hB  Z (lv_sub hl [0, 1, 2] rfl) hf
        clear hf
        refine lv_if_eq (tgt := 30) C.x C.b dX11_bears_22 (by decide) (fun hc30 => ?_) (fun hc30 => ?_)
        · have hf := ite_t hq6 hc30; clear hq6
          refine lv_iconst (v := 1) C.x C.b dX11_bears_30 (by decide) ?_
          refine lv_goto (tgt := 35) C.x C.b dX11_bears_31 (by decide) ?_
          obtain ⟨rfl, rfl⟩ := pr_s hf
          exact kq6 _ _ _ Z (lv_sub hl [1, 3, 0] rfl)
        · have hf := ite_f hq6 hc30; clear hq6
          refine lv_iload_n C.x C.b dX11_bears_25 rfl (lv_at hl 3 rfl) ?_
          refine lv_iconst (v := 2) C.x C.b dX11_bears_26 (by decide) ?_
          refine lv_icmp_ne (tgt := 34) C.x C.b dX11_bears_27 (by decide) (fun hc31 => ?_) (fun hc31 => ?_)
          · replace hf := ite_f hf hc31
            refine lv_iconst (v := 0) C.x C.b dX11_bears_34 (by decide) ?_
            obtain ⟨rfl, rfl⟩ := pr_s hf
            exact kq6 _ _ _ Z (lv_sub hl [1, 3, 0] rfl)
          · replace hf := ite_t hf hc31
            refine lv_iconst (v := 1) C.x C.b dX11_bears_30 (by decide) ?_
            refine lv_goto (tgt := 35) C.x C.b dX11_bears_31 (by decide) ?_
            obtain ⟨rfl, rfl⟩ := pr_s hf
            exact kq6 _ _ _ Z (lv_sub hl [1, 3, 0] rfl)
      · replace hf := ite_f hf hc5
        refine lv_iconst (v := (-1)) C.x C.b dX11_bears_19 (by decide) ?_
        obtain ⟨rfl, rfl⟩ := pr_s hf
        exact z_iret C Z dX11_bears_20
theorem dX11_breaks_0 : decode cX11_breaks 0 = .ok (.iconst 0, 1) := by decide +kernel
theorem dX11_breaks_1 : decode cX11_breaks 1 = .ok (.istore_n 1, 1) := by decide +kernel
theorem dX11_breaks_2 : decode cX11_breaks 2 = .ok (.aload_n 0, 1) := by decide +kernel
theorem dX11_breaks_3 : decode cX11_breaks 3 = .ok (.getfield 26, 3) := by decide +kernel
theorem dX11_breaks_6 : decode cX11_breaks 6 = .ok (.astore_n 2, 1) := by decide +kernel
theorem dX11_breaks_7 : decode cX11_breaks 7 = .ok (.aload_n 2, 1) := by decide +kernel
theorem dX11_breaks_8 : decode cX11_breaks 8 = .ok (.arraylength, 1) := by decide +kernel
theorem dX11_breaks_9 : decode cX11_breaks 9 = .ok (.istore_n 3, 1) := by decide +kernel
theorem dX11_breaks_10 : decode cX11_breaks 10 = .ok (.iconst 0, 1) := by decide +kernel
theorem dX11_breaks_11 : decode cX11_breaks 11 = .ok (.istore 4, 2) := by decide +kernel
theorem dX11_breaks_13 : decode cX11_breaks 13 = .ok (.iload 4, 2) := by decide +kernel
theorem dX11_breaks_15 : decode cX11_breaks 15 = .ok (.iload_n 3, 1) := by decide +kernel
theorem dX11_breaks_16 : decode cX11_breaks 16 = .ok (.if_icmp .ge 43, 3) := by decide +kernel
theorem dX11_breaks_19 : decode cX11_breaks 19 = .ok (.aload_n 2, 1) := by decide +kernel
theorem dX11_breaks_20 : decode cX11_breaks 20 = .ok (.iload 4, 2) := by decide +kernel
theorem dX11_breaks_22 : decode cX11_breaks 22 = .ok (.aaload, 1) := by decide +kernel
theorem dX11_breaks_23 : decode cX11_breaks 23 = .ok (.astore 5, 2) := by decide +kernel
theorem dX11_breaks_25 : decode cX11_breaks 25 = .ok (.aload_n 0, 1) := by decide +kernel
theorem dX11_breaks_26 : decode cX11_breaks 26 = .ok (.aload 5, 2) := by decide +kernel
theorem dX11_breaks_28 : decode cX11_breaks 28 = .ok (.invokevirtual 257, 3) := by decide +kernel
theorem dX11_breaks_31 : decode cX11_breaks 31 = .ok (.ifCond .eq 12, 3) := by decide +kernel
theorem dX11_breaks_34 : decode cX11_breaks 34 = .ok (.aload_n 0, 1) := by decide +kernel
theorem dX11_breaks_35 : decode cX11_breaks 35 = .ok (.aload 5, 2) := by decide +kernel
theorem dX11_breaks_37 : decode cX11_breaks 37 = .ok (.invokevirtual 261, 3) := by decide +kernel
theorem dX11_breaks_40 : decode cX11_breaks 40 = .ok (.ifCond .ne 13, 3) := by decide +kernel
theorem dX11_breaks_43 : decode cX11_breaks 43 = .ok (.iload_n 1, 1) := by decide +kernel
theorem dX11_breaks_44 : decode cX11_breaks 44 = .ok (.iconst 1, 1) := by decide +kernel
theorem dX11_breaks_45 : decode cX11_breaks 45 = .ok (.aload 5, 2) := by decide +kernel
theorem dX11_breaks_47 : decode cX11_breaks 47 = .ok (.getfield 264, 3) := by decide +kernel
theorem dX11_breaks_50 : decode cX11_breaks 50 = .ok (.ishl, 1) := by decide +kernel
theorem dX11_breaks_51 : decode cX11_breaks 51 = .ok (.ior, 1) := by decide +kernel
theorem dX11_breaks_52 : decode cX11_breaks 52 = .ok (.istore_n 1, 1) := by decide +kernel
theorem dX11_breaks_53 : decode cX11_breaks 53 = .ok (.iinc 4 1, 3) := by decide +kernel
theorem dX11_breaks_56 : decode cX11_breaks 56 = .ok (.goto (-43), 3) := by decide +kernel
theorem dX11_breaks_59 : decode cX11_breaks 59 = .ok (.iload_n 1, 1) := by decide +kernel
theorem dX11_breaks_60 : decode cX11_breaks 60 = .ok (.ireturn, 1) := by decide +kernel
set_option maxRecDepth 100000 in
set_option maxHeartbeats 4000000 in
theorem w_X11_breaks_l13 {p : Program} {l : Launch} {e : Env} {R : Room} {s : State} {m : MethodId} {args : Array Value} {below : List Frame} {meth : Method} {c : Code} {cells slots : Nat} {Q : State → Prop} {K : KG} {ad : Nat → Nat → Nat} {fl : Nat} {g3 : Int32} (C : Cx p s m args meth c cX11_breaks 6 "GlassPalace" (some .int)) (hR : 7 ≤ R.frames ∧ 40 * (7) ≤ R.locals) (hB : cells ≤ R.cells ∧ slots ≤ R.slots) : ∀ (n : Nat) (u1 : Int32) (u4 : Int32) (M0 : Mem) (H : Heap) (locs : List Loc) (ls : Array Slot), Zd K LC ad M0 s H locs → lv_has ls 6 [(0, .ref (ad 0 0)), (1, .int u1), (2, .ref (ad 4 0)), (3, .int g3), (4, .int u4)] → ∀ (q : Int32) (Mq : Mem), f_X11_breaks_l13 fl g3 n u1 u4 M0 = some (q, Mq) → (∀ (H : Heap) (locs : List Loc) (ls : Array Slot), Zd K LC ad Mq s H locs → lv_has ls 6 [(1, .int q)] → W p l e R s m args below meth c H locs cells slots Q (F0 m 59 ls [])) → W p l e R s m args below meth c H locs cells slots Q (F0 m 13 ls []) := by
  intro n
  induction n with
  | zero =>
    intro u1 u4 M0 H locs ls Z hl q Mq hf
    have hf : (none : Option (Int32 × Mem)) = some (q, Mq) := hf
    cases hf
  | succ n ih =>
    intro u1 u4 M0 H locs ls Z hl q Mq hf kx0
    replace hf : f_X11_breaks_l13_b (f_X11_breaks_l13 fl g3 n) fl g3 u1 u4 M0 = some (q, Mq) := hf
    unfold f_X11_breaks_l13_b at hf
    refine lv_iload C.x C.b dX11_breaks_13 (lv_at hl 4 rfl) ?_
    refine lv_iload_n C.x C.b dX11_breaks_15 rfl (lv_at hl 3 rfl) ?_
    refine lv_icmp_ge (tgt := 59) C.x C.b dX11_breaks_16 (by decide) (fun hc1 => ?_) (fun hc1 => ?_)
    · replace hf := ite_t hf hc1
      obtain ⟨rfl, rfl⟩ := pr_s hf
      exact kx0 _ _ _ Z (lv_sub hl [1] rfl)
    · replace hf := ite_f hf hc1
      refine lv_aload_n C.x C.b dX11_breaks_19 rfl (lv_at hl 2 rfl) ?_
      refine lv_iload C.x C.b dX11_breaks_20 (lv_at hl 4 rfl) ?_
      replace hf := asr_s hf; obtain ⟨hq2, hf⟩ := hf
      refine z_aald C Z (lvC4 Nat.zero_lt_one) kC4 4 rfl hq2 svC4 dX11_breaks_22 ?_
      refine z_rstore (lv' := [(5, .ref (ad 13 (Int32.toNatClampNeg u4))), (0, .ref (ad 0 0)), (1, .int u1), (2, .ref (ad 4 0)), (3, .int g3), (4, .int u4)]) C dX11_breaks_23 hl (by decide) rfl (onlast 4 rfl rfl rfl) (fun ls hl => ?_)
      refine lv_aload_n C.x C.b dX11_breaks_25 rfl (lv_at hl 1 rfl) ?_
      refine lv_aload C.x C.b dX11_breaks_26 (lv_at hl 0 rfl) ?_
      replace hf := bn2_s hf; obtain ⟨v4, m3, hkm3, hf⟩ := hf
      refine z_cV (As := [.ref (ad 13 (Int32.toNatClampNeg u4))]) (rest := []) (st1 := [.int v4]) C Z mw_X11_girderHolds mv_X11_girderHolds k_838 (by decide) (z_hR hR (by decide)) (lvC0 Nat.zero_lt_one) kC0 zc11 (c_X11_girderHolds (l := l) (K := K) (ad := ad) hkm3) rfl hl.1 rfl (Nat.le_of_ble_eq_true rfl) dX11_breaks_28 hB rfl (fun H locs Z => ?_)
      refine lv_if_eq (tgt := 43) C.x C.b dX11_breaks_31 (by decide) (fun hc5 => ?_) (fun hc5 => ?_)
      · replace hf := ite_t hf hc5
        refine lv_iload_n C.x C.b dX11_breaks_43 rfl (lv_at hl 2 rfl) ?_
        refine lv_iconst (v := 1) C.x C.b dX11_breaks_44 (by decide) ?_
        refine lv_aload C.x C.b dX11_breaks_45 (lv_at hl 0 rfl) ?_
        refine z_get C Z (lvC13 (vin_lt hq2)) kC13 zc1 zin1 0 (by decide) k_312 rfl svC13_0 dX11_breaks_47 ?_
        refine z_ishl C dX11_breaks_50 ?_
        refine lv_ior C.x C.b dX11_breaks_51 ?_
        replace hf := lt1_s hf; obtain ⟨x6, ex6, hf⟩ := hf
        refine z_renI ex6 ?_
        refine z_istore_n (lv' := [(1, .int x6), (5, .ref (ad 13 (Int32.toNatClampNeg u4))), (0, .ref (ad 0 0)), (2, .ref (ad 4 0)), (3, .int g3), (4, .int u4)]) C dX11_breaks_52 rfl hl (by decide) rfl (onlast 1 rfl rfl rfl) (fun ls hl => ?_)
        replace hf := lt1_s hf; obtain ⟨x7, ex7, hf⟩ := hf
        refine z_iinc (v := x7) (lv' := [(4, .int x7), (1, .int x6), (5, .ref (ad 13 (Int32.toNatClampNeg u4))), (0, .ref (ad 0 0)), (2, .ref (ad 4 0)), (3, .int g3)]) C dX11_breaks_53 hl (k := 5) rfl (by rw [ex7]; rfl) (by decide) rfl (onlast 4 rfl rfl rfl) (fun ls hl => ?_)
        refine lv_goto (tgt := 13) C.x C.b dX11_breaks_56 (by decide) ?_
        exact ih _ _ _ _ _ _ Z (lv_sub hl [3, 1, 4, 5, 0] rfl) _ _ hf kx0
      · replace hf := ite_f hf hc5
        refine lv_aload_n C.x C.b dX11_breaks_34 rfl (lv_at hl 1 rfl) ?_
        refine lv_aload C.x C.b dX11_breaks_35 (lv_at hl 0 rfl) ?_
        replace hf := bn2_s hf; obtain ⟨v9, m8, hkm8, hf⟩ := hf
        refine z_cV (As := [.ref (ad 13 (Int32.toNatClampNeg u4))]) (rest := []) (st1 := [.int v9]) C Z mw_X11_columnHolds mv_X11_columnHolds k_842 (by decide) (z_hR hR (by decide)) (lvC0 Nat.zero_lt_one) kC0 zc11 (c_X11_columnHolds (l := l) (K := K) (ad := ad) hkm8) rfl hl.1 rfl (Nat.le_of_ble_eq_true rfl) dX11_breaks_37 hB rfl (fun H locs Z => ?_)
        refine lv_if_ne (tgt := 53) C.x C.b dX11_breaks_40 (by decide) (fun hc10 => ?_) (fun hc10 => ?_)
        · replace hf := ite_f hf hc10
          replace hf := lt1_s hf; obtain ⟨x11, ex11, hf⟩ := hf
          refine z_iinc (v := x11) (lv' := [(4, .int x11), (5, .ref (ad 13 (Int32.toNatClampNeg u4))), (0, .ref (ad 0 0)), (1, .int u1), (2, .ref (ad 4 0)), (3, .int g3)]) C dX11_breaks_53 hl (k := 5) rfl (by rw [ex11]; rfl) (by decide) rfl (onlast 4 rfl rfl rfl) (fun ls hl => ?_)
          refine lv_goto (tgt := 13) C.x C.b dX11_breaks_56 (by decide) ?_
          exact ih _ _ _ _ _ _ Z (lv_sub hl [2, 3, 4, 5, 0] rfl) _ _ hf kx0
        · replace hf := ite_t hf hc10
          refine lv_iload_n C.x C.b dX11_breaks_43 rfl (lv_at hl 2 rfl) ?_
          refine lv_iconst (v := 1) C.x C.b dX11_breaks_44 (by decide) ?_
          refine lv_aload C.x C.b dX11_breaks_45 (lv_at hl 0 rfl) ?_
          refine z_get C Z (lvC13 (vin_lt hq2)) kC13 zc1 zin1 0 (by decide) k_312 rfl svC13_0 dX11_breaks_47 ?_
          refine z_ishl C dX11_breaks_50 ?_
          refine lv_ior C.x C.b dX11_breaks_51 ?_
          replace hf := lt1_s hf; obtain ⟨x12, ex12, hf⟩ := hf
          refine z_renI ex12 ?_
          refine z_istore_n (lv' := [(1, .int x12), (5, .ref (ad 13 (Int32.toNatClampNeg u4))), (0, .ref (ad 0 0)), (2, .ref (ad 4 0)), (3, .int g3), (4, .int u4)]) C dX11_breaks_52 rfl hl (by decide) rfl (onlast 1 rfl rfl rfl) (fun ls hl => ?_)
          replace hf := lt1_s hf; obtain ⟨x13, ex13, hf⟩ := hf
          refine z_iinc (v := x13) (lv' := [(4, .int x13), (1, .int x12), (5, .ref (ad 13 (Int32.toNatClampNeg u4))), (0, .ref (ad 0 0)), (2, .ref (ad 4 0)), (3, .int g3)]) C dX11_breaks_53 hl (k := 5) rfl (by rw [ex13]; rfl) (by decide) rfl (onlast 4 rfl rfl rfl) (fun ls hl => ?_)
          refine lv_goto (tgt := 13) C.x C.b dX11_breaks_56 (by decide) ?_
          exact ih _ _ _ _ _ _ Z (lv_sub hl [3, 1, 4, 5, 0] rfl) _ _ hf kx0
set_option maxRecDepth 100000 in
set_option maxHeartbeats 4000000 in
theorem c_X11_breaks {l : Launch} {K : KG} {ad : Nat → Nat → Nat} {fl : Nat}  {M0 : Mem} {r9 : Int32} {M9 : Mem} (hf : f_X11_breaks fl  M0 = some (r9, M9)) : Met l yX11_breaks (Cond.code yX11_breaks cX11_breaks 6 (some .int) :: ztb) (RM (7) 0 0) (zPc K LC ad M0 [.ref (ad 0 0)]) (zQ K LC ad (some (.int r9)) M9) 0 0 (zA ad) := by
  refine z_enter (by decide) (Nat.le_of_ble_eq_true rfl) ?_
  intro p e s m args below meth c ls C hin hargs Z hl
  replace C : Cx p s m args meth c cX11_breaks 6 "GlassPalace" (some .int) := C
  replace hl : lv_has ls 6 [(0, .ref (ad 0 0))] := hl
  have hR : 7 ≤ (RM (7) 0 0).frames ∧ 40 * (7) ≤ (RM (7) 0 0).locals := ⟨Nat.le_refl _, Nat.le_refl _⟩
  have hB : 0 ≤ (RM (7) 0 0).cells ∧ 0 ≤ (RM (7) 0 0).slots := ⟨Nat.zero_le _, Nat.zero_le _⟩
  unfold f_X11_breaks at hf
  refine lv_iconst (v := 0) C.x C.b dX11_breaks_0 (by decide) ?_
  refine z_istore_n (lv' := [(1, .int 0), (0, .ref (ad 0 0))]) C dX11_breaks_1 rfl hl (by decide) rfl (onlast 0 rfl rfl rfl) (fun ls hl => ?_)
  refine lv_aload_n C.x C.b dX11_breaks_2 rfl (lv_at hl 1 rfl) ?_
  refine z_get C Z (lvC0 Nat.zero_lt_one) kC0 zc11 zin11 5 (by decide) k_367 rfl svC0_5 dX11_breaks_3 ?_
  refine z_rstore_n (lv' := [(2, .ref (ad 4 0)), (1, .int 0), (0, .ref (ad 0 0))]) C dX11_breaks_6 rfl hl (by decide) rfl (onlast 0 rfl rfl rfl) (fun ls hl => ?_)
  refine lv_aload_n C.x C.b dX11_breaks_7 rfl (lv_at hl 0 rfl) ?_
  refine z_alen C Z (lvC4 Nat.zero_lt_one) kC4 4 rfl (v := 30) (by decide) dX11_breaks_8 ?_
  refine z_istore_n (lv' := [(3, .int 30), (2, .ref (ad 4 0)), (1, .int 0), (0, .ref (ad 0 0))]) C dX11_breaks_9 rfl hl (by decide) rfl (onlast 0 rfl rfl rfl) (fun ls hl => ?_)
  refine lv_iconst (v := 0) C.x C.b dX11_breaks_10 (by decide) ?_
  refine z_istore (lv' := [(4, .int 0), (3, .int 30), (2, .ref (ad 4 0)), (1, .int 0), (0, .ref (ad 0 0))]) C dX11_breaks_11 hl (by decide) rfl (onlast 0 rfl rfl rfl) (fun ls hl => ?_)
  replace hf := bn2_s hf; obtain ⟨q14, m15, hq14, hf⟩ := hf
  refine w_X11_breaks_l13 C hR hB  fl _ _ _ _ _ _ Z (lv_sub hl [4, 3, 2, 1, 0] rfl) _ _ hq14 (fun H locs ls Z hl => ?_)
  refine lv_iload_n C.x C.b dX11_breaks_59 rfl (lv_at hl 0 rfl) ?_
  obtain ⟨rfl, rfl⟩ := pr_s hf
  exact z_iret C Z dX11_breaks_60
theorem dX11_isHour_0 : decode cX11_isHour 0 = .ok (.iload_n 0, 1) := by decide +kernel
theorem dX11_isHour_1 : decode cX11_isHour 1 = .ok (.ifCond .lt 13, 3) := by decide +kernel
theorem dX11_isHour_4 : decode cX11_isHour 4 = .ok (.iload_n 0, 1) := by decide +kernel
theorem dX11_isHour_5 : decode cX11_isHour 5 = .ok (.bipush 24, 2) := by decide +kernel
theorem dX11_isHour_7 : decode cX11_isHour 7 = .ok (.if_icmp .ge 7, 3) := by decide +kernel
theorem dX11_isHour_10 : decode cX11_isHour 10 = .ok (.iconst 1, 1) := by decide +kernel
theorem dX11_isHour_11 : decode cX11_isHour 11 = .ok (.goto 4, 3) := by decide +kernel
theorem dX11_isHour_14 : decode cX11_isHour 14 = .ok (.iconst 0, 1) := by decide +kernel
theorem dX11_isHour_15 : decode cX11_isHour 15 = .ok (.ireturn, 1) := by decide +kernel
set_option maxRecDepth 100000 in
set_option maxHeartbeats 4000000 in
theorem c_X11_isHour {l : Launch} {K : KG} {ad : Nat → Nat → Nat} {fl : Nat} {a1 : Int32} {M0 : Mem} {r9 : Int32} {M9 : Mem} (hf : f_X11_isHour fl a1 M0 = some (r9, M9)) : Met l yX11_isHour (Cond.code yX11_isHour cX11_isHour 1 (some .boolean) :: ztb) (RM (1) 0 0) (zPc K LC ad M0 [.int a1]) (zQ K LC ad (some (.int r9)) M9) 0 0 (zA ad) := by
  refine z_enter (by decide) (Nat.le_of_ble_eq_true rfl) ?_
  intro p e s m args below meth c ls C hin hargs Z hl
  replace C : Cx p s m args meth c cX11_isHour 1 "GlassPalace" (some .boolean) := C
  replace hl : lv_has ls 1 [(0, .int a1)] := hl
  have hR : 1 ≤ (RM (1) 0 0).frames ∧ 40 * (1) ≤ (RM (1) 0 0).locals := ⟨Nat.le_refl _, Nat.le_refl _⟩
  have hB : 0 ≤ (RM (1) 0 0).cells ∧ 0 ≤ (RM (1) 0 0).slots := ⟨Nat.zero_le _, Nat.zero_le _⟩
  unfold f_X11_isHour at hf
  refine lv_iload_n C.x C.b dX11_isHour_0 rfl (lv_at hl 0 rfl) ?_
  refine lv_if_lt (tgt := 14) C.x C.b dX11_isHour_1 (by decide) (fun hc1 => ?_) (fun hc1 => ?_)
  · replace hf := ite_t hf hc1
    refine lv_iconst (v := 0) C.x C.b dX11_isHour_14 (by decide) ?_
    obtain ⟨rfl, rfl⟩ := pr_s hf
    exact z_zret C Z rfl dX11_isHour_15
  · replace hf := ite_f hf hc1
    refine lv_iload_n C.x C.b dX11_isHour_4 rfl (lv_at hl 0 rfl) ?_
    refine lv_bipush (v := 24) C.x C.b dX11_isHour_5 (by decide) ?_
    refine lv_icmp_ge (tgt := 14) C.x C.b dX11_isHour_7 (by decide) (fun hc2 => ?_) (fun hc2 => ?_)
    · replace hf := ite_t hf hc2
      refine lv_iconst (v := 0) C.x C.b dX11_isHour_14 (by decide) ?_
      obtain ⟨rfl, rfl⟩ := pr_s hf
      exact z_zret C Z rfl dX11_isHour_15
    · replace hf := ite_f hf hc2
      refine lv_iconst (v := 1) C.x C.b dX11_isHour_10 (by decide) ?_
      refine lv_goto (tgt := 15) C.x C.b dX11_isHour_11 (by decide) ?_
      obtain ⟨rfl, rfl⟩ := pr_s hf
      exact z_zret C Z rfl dX11_isHour_15
theorem dX11_rain_0 : decode cX11_rain 0 = .ok (.iload_n 1, 1) := by decide +kernel
theorem dX11_rain_1 : decode cX11_rain 1 = .ok (.invokestatic 265, 3) := by decide +kernel
theorem dX11_rain_4 : decode cX11_rain 4 = .ok (.ifCond .ne 5, 3) := by decide +kernel
theorem dX11_rain_7 : decode cX11_rain 7 = .ok (.iconst (-1), 1) := by decide +kernel
theorem dX11_rain_8 : decode cX11_rain 8 = .ok (.ireturn, 1) := by decide +kernel
theorem dX11_rain_9 : decode cX11_rain 9 = .ok (.iload_n 2, 1) := by decide +kernel
theorem dX11_rain_10 : decode cX11_rain 10 = .ok (.ifCond .lt 9, 3) := by decide +kernel
theorem dX11_rain_13 : decode cX11_rain 13 = .ok (.iload_n 2, 1) := by decide +kernel
theorem dX11_rain_14 : decode cX11_rain 14 = .ok (.bipush 99, 2) := by decide +kernel
theorem dX11_rain_16 : decode cX11_rain 16 = .ok (.if_icmp .le 6, 3) := by decide +kernel
theorem dX11_rain_19 : decode cX11_rain 19 = .ok (.bipush (-2), 2) := by decide +kernel
theorem dX11_rain_21 : decode cX11_rain 21 = .ok (.ireturn, 1) := by decide +kernel
theorem dX11_rain_22 : decode cX11_rain 22 = .ok (.aload_n 0, 1) := by decide +kernel
theorem dX11_rain_23 : decode cX11_rain 23 = .ok (.getfield 47, 3) := by decide +kernel
theorem dX11_rain_26 : decode cX11_rain 26 = .ok (.getfield 268, 3) := by decide +kernel
theorem dX11_rain_29 : decode cX11_rain 29 = .ok (.iload_n 1, 1) := by decide +kernel
theorem dX11_rain_30 : decode cX11_rain 30 = .ok (.iaload, 1) := by decide +kernel
theorem dX11_rain_31 : decode cX11_rain 31 = .ok (.istore_n 3, 1) := by decide +kernel
theorem dX11_rain_32 : decode cX11_rain 32 = .ok (.aload_n 0, 1) := by decide +kernel
theorem dX11_rain_33 : decode cX11_rain 33 = .ok (.getfield 47, 3) := by decide +kernel
theorem dX11_rain_36 : decode cX11_rain 36 = .ok (.getfield 268, 3) := by decide +kernel
theorem dX11_rain_39 : decode cX11_rain 39 = .ok (.iload_n 1, 1) := by decide +kernel
theorem dX11_rain_40 : decode cX11_rain 40 = .ok (.iload_n 2, 1) := by decide +kernel
theorem dX11_rain_41 : decode cX11_rain 41 = .ok (.iastore, 1) := by decide +kernel
theorem dX11_rain_42 : decode cX11_rain 42 = .ok (.iload_n 3, 1) := by decide +kernel
theorem dX11_rain_43 : decode cX11_rain 43 = .ok (.ireturn, 1) := by decide +kernel
set_option maxRecDepth 100000 in
set_option maxHeartbeats 4000000 in
theorem c_X11_rain {l : Launch} {K : KG} {ad : Nat → Nat → Nat} {fl : Nat} {a1 : Int32} {a2 : Int32} {M0 : Mem} {r9 : Int32} {M9 : Mem} (hf : f_X11_rain fl a1 a2 M0 = some (r9, M9)) : Met l yX11_rain (Cond.code yX11_rain cX11_rain 4 (some .int) :: ztb) (RM (2) 0 0) (zPc K LC ad M0 [.ref (ad 0 0), .int a1, .int a2]) (zQ K LC ad (some (.int r9)) M9) 0 0 (zA ad) := by
  refine z_enter (by decide) (Nat.le_of_ble_eq_true rfl) ?_
  intro p e s m args below meth c ls C hin hargs Z hl
  replace C : Cx p s m args meth c cX11_rain 4 "GlassPalace" (some .int) := C
  replace hl : lv_has ls 4 [(0, .ref (ad 0 0)), (1, .int a1), (2, .int a2)] := hl
  have hR : 2 ≤ (RM (2) 0 0).frames ∧ 40 * (2) ≤ (RM (2) 0 0).locals := ⟨Nat.le_refl _, Nat.le_refl _⟩
  have hB : 0 ≤ (RM (2) 0 0).cells ∧ 0 ≤ (RM (2) 0 0).slots := ⟨Nat.zero_le _, Nat.zero_le _⟩
  unfold f_X11_rain at hf
  refine lv_iload_n C.x C.b dX11_rain_0 rfl (lv_at hl 1 rfl) ?_
  replace hf := bn2_s hf; obtain ⟨v2, m1, hkm1, hf⟩ := hf
  refine z_cS (As := [.int a1]) (rest := []) (st1 := [.int v2]) C Z mw_X11_isHour mv_X11_isHour k_854 (by decide) (z_hR hR (by decide)) (c_X11_isHour (l := l) (K := K) (ad := ad) hkm1) rfl hl.1 rfl (Nat.le_of_ble_eq_true rfl) dX11_rain_1 hB rfl (fun H locs Z => ?_)
  refine lv_if_ne (tgt := 9) C.x C.b dX11_rain_4 (by decide) (fun hc3 => ?_) (fun hc3 => ?_)
  · replace hf := ite_f hf hc3
    refine lv_iload_n C.x C.b dX11_rain_9 rfl (lv_at hl 2 rfl) ?_
    refine lv_if_lt (tgt := 19) C.x C.b dX11_rain_10 (by decide) (fun hc4 => ?_) (fun hc4 => ?_)
    · replace hf := ite_t hf hc4
      refine lv_bipush (v := (-2)) C.x C.b dX11_rain_19 (by decide) ?_
      obtain ⟨rfl, rfl⟩ := pr_s hf
      exact z_iret C Z dX11_rain_21
    · replace hf := ite_f hf hc4
      refine lv_iload_n C.x C.b dX11_rain_13 rfl (lv_at hl 2 rfl) ?_
      refine lv_bipush (v := 99) C.x C.b dX11_rain_14 (by decide) ?_
      refine lv_icmp_le (tgt := 22) C.x C.b dX11_rain_16 (by decide) (fun hc5 => ?_) (fun hc5 => ?_)
      · replace hf := ite_t hf hc5
        refine lv_aload_n C.x C.b dX11_rain_22 rfl (lv_at hl 0 rfl) ?_
        refine z_get C Z (lvC0 Nat.zero_lt_one) kC0 zc11 zin11 8 (by decide) k_370 rfl svC0_8 dX11_rain_23 ?_
        refine z_get C Z (lvC7 Nat.zero_lt_one) kC7 zc10 zin10 0 (by decide) k_208 rfl svC7_0 dX11_rain_26 ?_
        refine lv_iload_n C.x C.b dX11_rain_29 rfl (lv_at hl 1 rfl) ?_
        replace hf := asr_s hf; obtain ⟨hq6, hf⟩ := hf
        refine z_iald C Z (lvC25 Nat.zero_lt_one) kC25 hq6 svC25 dX11_rain_30 ?_
        replace hf := lt1_s hf; obtain ⟨x7, ex7, hf⟩ := hf
        refine z_renI ex7 ?_
        refine z_istore_n (lv' := [(3, .int x7), (0, .ref (ad 0 0)), (1, .int a1), (2, .int a2)]) C dX11_rain_31 rfl hl (by decide) rfl (onlast 2 rfl rfl rfl) (fun ls hl => ?_)
        refine lv_aload_n C.x C.b dX11_rain_32 rfl (lv_at hl 1 rfl) ?_
        refine z_get C Z (lvC0 Nat.zero_lt_one) kC0 zc11 zin11 8 (by decide) k_370 rfl svC0_8 dX11_rain_33 ?_
        refine z_get C Z (lvC7 Nat.zero_lt_one) kC7 zc10 zin10 0 (by decide) k_208 rfl svC7_0 dX11_rain_36 ?_
        refine lv_iload_n C.x C.b dX11_rain_39 rfl (lv_at hl 2 rfl) ?_
        refine lv_iload_n C.x C.b dX11_rain_40 rfl (lv_at hl 3 rfl) ?_
        replace hf := asr_s hf; obtain ⟨hq8, hf⟩ := hf
        replace hf := lt1_s hf; obtain ⟨m9, em9, hf⟩ := hf
        refine z_iast (M1 := m9) C Z (lvC25 Nat.zero_lt_one) (by decide) kC25 hq8 em9 stC25u dX11_rain_41 (fun H locs Z => ?_)
        refine lv_iload_n C.x C.b dX11_rain_42 rfl (lv_at hl 0 rfl) ?_
        obtain ⟨rfl, rfl⟩ := pr_s hf
        exact z_iret C Z dX11_rain_43
      · replace hf := ite_f hf hc5
        refine lv_bipush (v := (-2)) C.x C.b dX11_rain_19 (by decide) ?_
        obtain ⟨rfl, rfl⟩ := pr_s hf
        exact z_iret C Z dX11_rain_21
  · replace hf := ite_t hf hc3
    refine lv_iconst (v := (-1)) C.x C.b dX11_rain_7 (by decide) ?_
    obtain ⟨rfl, rfl⟩ := pr_s hf
    exact z_iret C Z dX11_rain_8
theorem dX11_isBeside_0 : decode cX11_isBeside 0 = .ok (.iload_n 0, 1) := by decide +kernel
theorem dX11_isBeside_1 : decode cX11_isBeside 1 = .ok (.bipush 6, 2) := by decide +kernel
theorem dX11_isBeside_3 : decode cX11_isBeside 3 = .ok (.irem, 1) := by decide +kernel
theorem dX11_isBeside_4 : decode cX11_isBeside 4 = .ok (.iload_n 1, 1) := by decide +kernel
theorem dX11_isBeside_5 : decode cX11_isBeside 5 = .ok (.bipush 6, 2) := by decide +kernel
theorem dX11_isBeside_7 : decode cX11_isBeside 7 = .ok (.irem, 1) := by decide +kernel
theorem dX11_isBeside_8 : decode cX11_isBeside 8 = .ok (.isub, 1) := by decide +kernel
theorem dX11_isBeside_9 : decode cX11_isBeside 9 = .ok (.invokestatic 441, 3) := by decide +kernel
theorem dX11_isBeside_12 : decode cX11_isBeside 12 = .ok (.istore_n 2, 1) := by decide +kernel
theorem dX11_isBeside_13 : decode cX11_isBeside 13 = .ok (.iload_n 0, 1) := by decide +kernel
theorem dX11_isBeside_14 : decode cX11_isBeside 14 = .ok (.bipush 6, 2) := by decide +kernel
theorem dX11_isBeside_16 : decode cX11_isBeside 16 = .ok (.idiv, 1) := by decide +kernel
theorem dX11_isBeside_17 : decode cX11_isBeside 17 = .ok (.iload_n 1, 1) := by decide +kernel
theorem dX11_isBeside_18 : decode cX11_isBeside 18 = .ok (.bipush 6, 2) := by decide +kernel
theorem dX11_isBeside_20 : decode cX11_isBeside 20 = .ok (.idiv, 1) := by decide +kernel
theorem dX11_isBeside_21 : decode cX11_isBeside 21 = .ok (.isub, 1) := by decide +kernel
theorem dX11_isBeside_22 : decode cX11_isBeside 22 = .ok (.invokestatic 441, 3) := by decide +kernel
theorem dX11_isBeside_25 : decode cX11_isBeside 25 = .ok (.istore_n 3, 1) := by decide +kernel
theorem dX11_isBeside_26 : decode cX11_isBeside 26 = .ok (.iload_n 2, 1) := by decide +kernel
theorem dX11_isBeside_27 : decode cX11_isBeside 27 = .ok (.iload_n 3, 1) := by decide +kernel
theorem dX11_isBeside_28 : decode cX11_isBeside 28 = .ok (.iadd, 1) := by decide +kernel
theorem dX11_isBeside_29 : decode cX11_isBeside 29 = .ok (.iconst 1, 1) := by decide +kernel
theorem dX11_isBeside_30 : decode cX11_isBeside 30 = .ok (.if_icmp .ne 7, 3) := by decide +kernel
theorem dX11_isBeside_33 : decode cX11_isBeside 33 = .ok (.iconst 1, 1) := by decide +kernel
theorem dX11_isBeside_34 : decode cX11_isBeside 34 = .ok (.goto 4, 3) := by decide +kernel
theorem dX11_isBeside_37 : decode cX11_isBeside 37 = .ok (.iconst 0, 1) := by decide +kernel
theorem dX11_isBeside_38 : decode cX11_isBeside 38 = .ok (.ireturn, 1) := by decide +kernel
set_option maxRecDepth 100000 in
set_option maxHeartbeats 4000000 in
theorem c_X11_isBeside {l : Launch} {K : KG} {ad : Nat → Nat → Nat} {fl : Nat} {a1 : Int32} {a2 : Int32} {M0 : Mem} {r9 : Int32} {M9 : Mem} (hf : f_X11_isBeside fl a1 a2 M0 = some (r9, M9)) : Met l yX11_isBeside (Cond.code yX11_isBeside cX11_isBeside 4 (some .boolean) :: ztb) (RM (1) 0 0) (zPc K LC ad M0 [.int a1, .int a2]) (zQ K LC ad (some (.int r9)) M9) 0 0 (zA ad) := by
  refine z_enter (by decide) (Nat.le_of_ble_eq_true rfl) ?_
  intro p e s m args below meth c ls C hin hargs Z hl
  replace C : Cx p s m args meth c cX11_isBeside 4 "GlassPalace" (some .boolean) := C
  replace hl : lv_has ls 4 [(0, .int a1), (1, .int a2)] := hl
  have hR : 1 ≤ (RM (1) 0 0).frames ∧ 40 * (1) ≤ (RM (1) 0 0).locals := ⟨Nat.le_refl _, Nat.le_refl _⟩
  have hB : 0 ≤ (RM (1) 0 0).cells ∧ 0 ≤ (RM (1) 0 0).slots := ⟨Nat.zero_le _, Nat.zero_le _⟩
  unfold f_X11_isBeside at hf
  refine lv_iload_n C.x C.b dX11_isBeside_0 rfl (lv_at hl 0 rfl) ?_
  refine lv_bipush (v := 6) C.x C.b dX11_isBeside_1 (by decide) ?_
  refine z_irem C dX11_isBeside_3 (by decide) ?_
  refine lv_iload_n C.x C.b dX11_isBeside_4 rfl (lv_at hl 1 rfl) ?_
  refine lv_bipush (v := 6) C.x C.b dX11_isBeside_5 (by decide) ?_
  refine z_irem C dX11_isBeside_7 (by decide) ?_
  refine lv_isub C.x C.b dX11_isBeside_8 ?_
  refine z_abs C k_864 k_865 k_115 k_866 hl.1 hR (by decide) (Nat.le_of_ble_eq_true rfl) hB dX11_isBeside_9 ?_
  replace hf := lt1_s hf; obtain ⟨x1, ex1, hf⟩ := hf
  refine z_renI ex1 ?_
  refine z_istore_n (lv' := [(2, .int x1), (0, .int a1), (1, .int a2)]) C dX11_isBeside_12 rfl hl (by decide) rfl (onlast 1 rfl rfl rfl) (fun ls hl => ?_)
  refine lv_iload_n C.x C.b dX11_isBeside_13 rfl (lv_at hl 1 rfl) ?_
  refine lv_bipush (v := 6) C.x C.b dX11_isBeside_14 (by decide) ?_
  refine lv_idiv C.x C.b dX11_isBeside_16 (by decide) ?_
  refine lv_iload_n C.x C.b dX11_isBeside_17 rfl (lv_at hl 2 rfl) ?_
  refine lv_bipush (v := 6) C.x C.b dX11_isBeside_18 (by decide) ?_
  refine lv_idiv C.x C.b dX11_isBeside_20 (by decide) ?_
  refine lv_isub C.x C.b dX11_isBeside_21 ?_
  refine z_abs C k_864 k_865 k_115 k_866 hl.1 hR (by decide) (Nat.le_of_ble_eq_true rfl) hB dX11_isBeside_22 ?_
  replace hf := lt1_s hf; obtain ⟨x2, ex2, hf⟩ := hf
  refine z_renI ex2 ?_
  refine z_istore_n (lv' := [(3, .int x2), (2, .int x1), (0, .int a1), (1, .int a2)]) C dX11_isBeside_25 rfl hl (by decide) rfl (onlast 0 rfl rfl rfl) (fun ls hl => ?_)
  refine lv_iload_n C.x C.b dX11_isBeside_26 rfl (lv_at hl 1 rfl) ?_
  refine lv_iload_n C.x C.b dX11_isBeside_27 rfl (lv_at hl 0 rfl) ?_
  refine lv_iadd C.x C.b dX11_isBeside_28 ?_
  refine lv_iconst (v := 1) C.x C.b dX11_isBeside_29 (by decide) ?_
  refine lv_icmp_ne (tgt := 37) C.x C.b dX11_isBeside_30 (by decide) (fun hc3 => ?_) (fun hc3 => ?_)
  · replace hf := ite_f hf hc3
    refine lv_iconst (v := 0) C.x C.b dX11_isBeside_37 (by decide) ?_
    obtain ⟨rfl, rfl⟩ := pr_s hf
    exact z_zret C Z rfl dX11_isBeside_38
  · replace hf := ite_t hf hc3
    refine lv_iconst (v := 1) C.x C.b dX11_isBeside_33 (by decide) ?_
    refine lv_goto (tgt := 38) C.x C.b dX11_isBeside_34 (by decide) ?_
    obtain ⟨rfl, rfl⟩ := pr_s hf
    exact z_zret C Z rfl dX11_isBeside_38
theorem dX11_leads_0 : decode cX11_leads 0 = .ok (.aload_n 0, 1) := by decide +kernel
theorem dX11_leads_1 : decode cX11_leads 1 = .ok (.iload_n 1, 1) := by decide +kernel
theorem dX11_leads_2 : decode cX11_leads 2 = .ok (.invokevirtual 92, 3) := by decide +kernel
theorem dX11_leads_5 : decode cX11_leads 5 = .ok (.astore_n 3, 1) := by decide +kernel
theorem dX11_leads_6 : decode cX11_leads 6 = .ok (.iload_n 2, 1) := by decide +kernel
theorem dX11_leads_7 : decode cX11_leads 7 = .ok (.iconst (-1), 1) := by decide +kernel
theorem dX11_leads_8 : decode cX11_leads 8 = .ok (.if_icmp .ne 7, 3) := by decide +kernel
theorem dX11_leads_11 : decode cX11_leads 11 = .ok (.iconst 1, 1) := by decide +kernel
theorem dX11_leads_12 : decode cX11_leads 12 = .ok (.goto 4, 3) := by decide +kernel
theorem dX11_leads_15 : decode cX11_leads 15 = .ok (.iconst 0, 1) := by decide +kernel
theorem dX11_leads_16 : decode cX11_leads 16 = .ok (.istore 4, 2) := by decide +kernel
theorem dX11_leads_18 : decode cX11_leads 18 = .ok (.aload_n 3, 1) := by decide +kernel
theorem dX11_leads_19 : decode cX11_leads 19 = .ok (.ifnull 16, 3) := by decide +kernel
theorem dX11_leads_22 : decode cX11_leads 22 = .ok (.iload 4, 2) := by decide +kernel
theorem dX11_leads_24 : decode cX11_leads 24 = .ok (.ifCond .ne 13, 3) := by decide +kernel
theorem dX11_leads_27 : decode cX11_leads 27 = .ok (.aload_n 0, 1) := by decide +kernel
theorem dX11_leads_28 : decode cX11_leads 28 = .ok (.iload_n 2, 1) := by decide +kernel
theorem dX11_leads_29 : decode cX11_leads 29 = .ok (.invokevirtual 92, 3) := by decide +kernel
theorem dX11_leads_32 : decode cX11_leads 32 = .ok (.ifnonnull 5, 3) := by decide +kernel
theorem dX11_leads_35 : decode cX11_leads 35 = .ok (.iconst (-1), 1) := by decide +kernel
theorem dX11_leads_36 : decode cX11_leads 36 = .ok (.ireturn, 1) := by decide +kernel
theorem dX11_leads_37 : decode cX11_leads 37 = .ok (.iload 4, 2) := by decide +kernel
theorem dX11_leads_39 : decode cX11_leads 39 = .ok (.ifCond .ne 14, 3) := by decide +kernel
theorem dX11_leads_42 : decode cX11_leads 42 = .ok (.iload_n 1, 1) := by decide +kernel
theorem dX11_leads_43 : decode cX11_leads 43 = .ok (.iload_n 2, 1) := by decide +kernel
theorem dX11_leads_44 : decode cX11_leads 44 = .ok (.invokestatic 271, 3) := by decide +kernel
theorem dX11_leads_47 : decode cX11_leads 47 = .ok (.ifCond .ne 6, 3) := by decide +kernel
theorem dX11_leads_50 : decode cX11_leads 50 = .ok (.bipush (-2), 2) := by decide +kernel
theorem dX11_leads_52 : decode cX11_leads 52 = .ok (.ireturn, 1) := by decide +kernel
theorem dX11_leads_53 : decode cX11_leads 53 = .ok (.aload_n 3, 1) := by decide +kernel
theorem dX11_leads_54 : decode cX11_leads 54 = .ok (.iconst 4, 1) := by decide +kernel
theorem dX11_leads_55 : decode cX11_leads 55 = .ok (.invokevirtual 247, 3) := by decide +kernel
theorem dX11_leads_58 : decode cX11_leads 58 = .ok (.ifCond .ne 6, 3) := by decide +kernel
theorem dX11_leads_61 : decode cX11_leads 61 = .ok (.bipush (-3), 2) := by decide +kernel
theorem dX11_leads_63 : decode cX11_leads 63 = .ok (.ireturn, 1) := by decide +kernel
theorem dX11_leads_64 : decode cX11_leads 64 = .ok (.aload_n 3, 1) := by decide +kernel
theorem dX11_leads_65 : decode cX11_leads 65 = .ok (.iload_n 2, 1) := by decide +kernel
theorem dX11_leads_66 : decode cX11_leads 66 = .ok (.putfield 274, 3) := by decide +kernel
theorem dX11_leads_69 : decode cX11_leads 69 = .ok (.iconst 1, 1) := by decide +kernel
theorem dX11_leads_70 : decode cX11_leads 70 = .ok (.ireturn, 1) := by decide +kernel
set_option maxRecDepth 100000 in
set_option maxHeartbeats 4000000 in
theorem w_X11_leads_b53 {p : Program} {l : Launch} {e : Env} {s : State} {m : MethodId} {args : Array Value} {below : List Frame} {meth : Method} {c : Code} {K : KG} {ad : Nat → Nat → Nat} {fl : Nat} {H : Heap} {locs : List Loc} {ls : Array Slot} {g2 : Int32} {g3 : Nat} {M0 : Mem} {r9 : Int32} {M9 : Mem} (C : Cx p s m args meth c cX11_leads 5 "GlassPalace" (some .int)) (hR : 3 ≤ (RM (3) 0 0).frames ∧ 40 * (3) ≤ (RM (3) 0 0).locals) (hB : 0 ≤ (RM (3) 0 0).cells ∧ 0 ≤ (RM (3) 0 0).slots) (Z : Zd K LC ad M0 s H locs) (hl : lv_has ls 5 [(2, .int g2), (3, rf (ad 13) g3)]) (hf : f_X11_leads_b53 fl g2 g3 M0 = some (r9, M9)) : W p l e (RM (3) 0 0) s m args below meth c H locs 0 0 (MQ below (zQ K LC ad (some (.int r9)) M9) args s 0 0 (zA ad)) (F0 m 53 ls []) := by
  unfold f_X11_leads_b53 at hf
  refine z_aload_n C dX11_leads_53 rfl (lv_at hl 1 rfl) ?_
  refine lv_iconst (v := 4) C.x C.b dX11_leads_54 (by decide) ?_
  replace hf := drf_s hf; obtain ⟨j8, ej10, hj9, hf⟩ := hf
  subst ej10
  refine z_nn [.int 4] (y := j8 + 1) rfl ?_
  replace hf := bn2_s hf; obtain ⟨v12, m11, hkm11, hf⟩ := hf
  refine z_cV (As := [.int 4]) (rest := []) (st1 := [.int v12]) C Z mw_X1_has mv_X1_has k_617 (by decide) (z_hR hR (by decide)) (lvC13 hj9) kC13 zc1 (c_X1_has (l := l) (K := K) (ad := ad) hj9 hkm11) rfl hl.1 rfl (Nat.le_of_ble_eq_true rfl) dX11_leads_55 hB rfl (fun H locs Z => ?_)
  refine lv_if_ne (tgt := 64) C.x C.b dX11_leads_58 (by decide) (fun hc13 => ?_) (fun hc13 => ?_)
  · replace hf := ite_f hf hc13
    refine lv_aload_n C.x C.b dX11_leads_64 rfl (lv_at hl 1 rfl) ?_
    refine lv_iload_n C.x C.b dX11_leads_65 rfl (lv_at hl 0 rfl) ?_
    replace hf := lt1_s hf; obtain ⟨m14, em14, hf⟩ := hf
    refine z_put (M1 := m14) C Z (lvC13 hj9) (by decide) kC13 zc1 zin1 tyX1_ok nmX1 5 (by decide) k_324 rfl (zUp_I em14 stC13_5u) (Or.inl rfl) rfl rfl dX11_leads_66 (fun H locs Z => ?_)
    refine lv_iconst (v := 1) C.x C.b dX11_leads_69 (by decide) ?_
    obtain ⟨rfl, rfl⟩ := pr_s hf
    exact z_iret C Z dX11_leads_70
  · replace hf := ite_t hf hc13
    refine lv_bipush (v := (-3)) C.x C.b dX11_leads_61 (by decide) ?_
    obtain ⟨rfl, rfl⟩ := pr_s hf
    exact z_iret C Z dX11_leads_63
set_option maxRecDepth 100000 in
set_option maxHeartbeats 4000000 in
theorem w_X11_leads_b37 {p : Program} {l : Launch} {e : Env} {s : State} {m : MethodId} {args : Array Value} {below : List Frame} {meth : Method} {c : Code} {K : KG} {ad : Nat → Nat → Nat} {fl : Nat} {H : Heap} {locs : List Loc} {ls : Array Slot} {g1 : Int32} {g2 : Int32} {g3 : Nat} {g4 : Int32} {M0 : Mem} {r9 : Int32} {M9 : Mem} (C : Cx p s m args meth c cX11_leads 5 "GlassPalace" (some .int)) (hR : 3 ≤ (RM (3) 0 0).frames ∧ 40 * (3) ≤ (RM (3) 0 0).locals) (hB : 0 ≤ (RM (3) 0 0).cells ∧ 0 ≤ (RM (3) 0 0).slots) (Z : Zd K LC ad M0 s H locs) (hl : lv_has ls 5 [(1, .int g1), (2, .int g2), (3, rf (ad 13) g3), (4, .int g4)]) (hf : f_X11_leads_b37 fl g1 g2 g3 g4 M0 = some (r9, M9)) : W p l e (RM (3) 0 0) s m args below meth c H locs 0 0 (MQ below (zQ K LC ad (some (.int r9)) M9) args s 0 0 (zA ad)) (F0 m 37 ls []) := by
  unfold f_X11_leads_b37 at hf
  refine lv_iload C.x C.b dX11_leads_37 (lv_at hl 3 rfl) ?_
  refine lv_if_ne (tgt := 53) C.x C.b dX11_leads_39 (by decide) (fun hc7 => ?_) (fun hc7 => ?_)
  · replace hf := ite_f hf hc7
    exact w_X11_leads_b53 C hR hB  Z (lv_sub hl [1, 2] rfl) hf
  · replace hf := ite_t hf hc7
    refine lv_iload_n C.x C.b dX11_leads_42 rfl (lv_at hl 0 rfl) ?_
    refine lv_iload_n C.x C.b dX11_leads_43 rfl (lv_at hl 1 rfl) ?_
    replace hf := bn2_s hf; obtain ⟨v16, m15, hkm15, hf⟩ := hf
    refine z_cS (As := [.int g1, .int g2]) (rest := []) (st1 := [.int v16]) C Z mw_X11_isBeside mv_X11_isBeside k_861 (by decide) (z_hR hR (by decide)) (c_X11_isBeside (l := l) (K := K) (ad := ad) hkm15) rfl hl.1 rfl (Nat.le_of_ble_eq_true rfl) dX11_leads_44 hB rfl (fun H locs Z => ?_)
    refine lv_if_ne (tgt := 53) C.x C.b dX11_leads_47 (by decide) (fun hc17 => ?_) (fun hc17 => ?_)
    · replace hf := ite_f hf hc17
      exact w_X11_leads_b53 C hR hB  Z (lv_sub hl [1, 2] rfl) hf
    · replace hf := ite_t hf hc17
      refine lv_bipush (v := (-2)) C.x C.b dX11_leads_50 (by decide) ?_
      obtain ⟨rfl, rfl⟩ := pr_s hf
      exact z_iret C Z dX11_leads_52
set_option maxRecDepth 100000 in
set_option maxHeartbeats 4000000 in
theorem w_X11_leads_b16 {p : Program} {l : Launch} {e : Env} {s : State} {m : MethodId} {args : Array Value} {below : List Frame} {meth : Method} {c : Code} {K : KG} {ad : Nat → Nat → Nat} {fl : Nat} {H : Heap} {locs : List Loc} {ls : Array Slot} {g1 : Int32} {g2 : Int32} {g3 : Nat} {z0 : Int32} {M0 : Mem} {r9 : Int32} {M9 : Mem} (C : Cx p s m args meth c cX11_leads 5 "GlassPalace" (some .int)) (hR : 3 ≤ (RM (3) 0 0).frames ∧ 40 * (3) ≤ (RM (3) 0 0).locals) (hB : 0 ≤ (RM (3) 0 0).cells ∧ 0 ≤ (RM (3) 0 0).slots) (Z : Zd K LC ad M0 s H locs) (hl : lv_has ls 5 [(0, .ref (ad 0 0)), (1, .int g1), (2, .int g2), (3, rf (ad 13) g3)]) (hf : f_X11_leads_b16 fl g1 g2 g3 z0 M0 = some (r9, M9)) : W p l e (RM (3) 0 0) s m args below meth c H locs 0 0 (MQ below (zQ K LC ad (some (.int r9)) M9) args s 0 0 (zA ad)) (F0 m 16 ls [.int z0]) := by
  unfold f_X11_leads_b16 at hf
  refine z_istore (lv' := [(4, .int z0), (0, .ref (ad 0 0)), (1, .int g1), (2, .int g2), (3, rf (ad 13) g3)]) C dX11_leads_16 hl (by decide) rfl (onlast 3 rfl (rf_cat _ _) rfl) (fun ls hl => ?_)
  refine z_aload_n C dX11_leads_18 rfl (lv_at hl 4 rfl) ?_
  refine z_ifnull C dX11_leads_19 (tgt := 35) (by decide) (fun hc5 => ?_) (fun hc5 => ?_)
  · replace hf := ite_t hf hc5
    refine lv_iconst (v := (-1)) C.x C.b dX11_leads_35 (by decide) ?_
    obtain ⟨rfl, rfl⟩ := pr_s hf
    exact z_iret C Z dX11_leads_36
  · replace hf := ite_f hf hc5
    refine lv_iload C.x C.b dX11_leads_22 (lv_at hl 0 rfl) ?_
    refine lv_if_ne (tgt := 37) C.x C.b dX11_leads_24 (by decide) (fun hc6 => ?_) (fun hc6 => ?_)
    · replace hf := ite_f hf hc6
      exact w_X11_leads_b37 C hR hB  Z (lv_sub hl [2, 3, 4, 0] rfl) hf
    · replace hf := ite_t hf hc6
      refine lv_aload_n C.x C.b dX11_leads_27 rfl (lv_at hl 1 rfl) ?_
      refine lv_iload_n C.x C.b dX11_leads_28 rfl (lv_at hl 3 rfl) ?_
      replace hf := bn2_s hf; obtain ⟨c19, m18, hkm18, hf⟩ := hf
      refine z_cV (As := [.int g2]) (rest := []) (st1 := [rf (ad 13) c19]) C Z mw_X11_bayOf mv_X11_bayOf k_416 (by decide) (z_hR hR (by decide)) (lvC0 Nat.zero_lt_one) kC0 zc11 (c_X11_bayOf (l := l) (K := K) (ad := ad) hkm18) rfl hl.1 rfl (Nat.le_of_ble_eq_true rfl) dX11_leads_29 hB rfl (fun H locs Z => ?_)
      refine z_ifnonnull C dX11_leads_32 (tgt := 37) (by decide) (fun hc20 => ?_) (fun hc20 => ?_)
      · replace hf := ite_f hf hc20
        exact w_X11_leads_b37 C hR hB  Z (lv_sub hl [2, 3, 4, 0] rfl) hf
      · replace hf := ite_t hf hc20
        refine lv_iconst (v := (-1)) C.x C.b dX11_leads_35 (by decide) ?_
        obtain ⟨rfl, rfl⟩ := pr_s hf
        exact z_iret C Z dX11_leads_36
set_option maxRecDepth 100000 in
set_option maxHeartbeats 4000000 in
theorem c_X11_leads {l : Launch} {K : KG} {ad : Nat → Nat → Nat} {fl : Nat} {a1 : Int32} {a2 : Int32} {M0 : Mem} {r9 : Int32} {M9 : Mem} (hf : f_X11_leads fl a1 a2 M0 = some (r9, M9)) : Met l yX11_leads (Cond.code yX11_leads cX11_leads 5 (some .int) :: ztb) (RM (3) 0 0) (zPc K LC ad M0 [.ref (ad 0 0), .int a1, .int a2]) (zQ K LC ad (some (.int r9)) M9) 0 0 (zA ad) := by
  refine z_enter (by decide) (Nat.le_of_ble_eq_true rfl) ?_
  intro p e s m args below meth c ls C hin hargs Z hl
  replace C : Cx p s m args meth c cX11_leads 5 "GlassPalace" (some .int) := C
  replace hl : lv_has ls 5 [(0, .ref (ad 0 0)), (1, .int a1), (2, .int a2)] := hl
  have hR : 3 ≤ (RM (3) 0 0).frames ∧ 40 * (3) ≤ (RM (3) 0 0).locals := ⟨Nat.le_refl _, Nat.le_refl _⟩
  have hB : 0 ≤ (RM (3) 0 0).cells ∧ 0 ≤ (RM (3) 0 0).slots := ⟨Nat.zero_le _, Nat.zero_le _⟩
  unfold f_X11_leads at hf
  refine lv_aload_n C.x C.b dX11_leads_0 rfl (lv_at hl 0 rfl) ?_
  refine lv_iload_n C.x C.b dX11_leads_1 rfl (lv_at hl 1 rfl) ?_
  replace hf := bn2_s hf; obtain ⟨c2, m1, hkm1, hf⟩ := hf
  refine z_cV (As := [.int a1]) (rest := []) (st1 := [rf (ad 13) c2]) C Z mw_X11_bayOf mv_X11_bayOf k_416 (by decide) (z_hR hR (by decide)) (lvC0 Nat.zero_lt_one) kC0 zc11 (c_X11_bayOf (l := l) (K := K) (ad := ad) hkm1) rfl hl.1 rfl (Nat.le_of_ble_eq_true rfl) dX11_leads_2 hB rfl (fun H locs Z => ?_)
  refine z_cstore_n (lv' := [(3, rf (ad 13) c2), (0, .ref (ad 0 0)), (1, .int a1), (2, .int a2)]) C dX11_leads_5 rfl hl (by decide) rfl (onlast 2 rfl rfl rfl) (fun ls hl => ?_)
  refine lv_iload_n C.x C.b dX11_leads_6 rfl (lv_at hl 3 rfl) ?_
  refine lv_iconst (v := (-1)) C.x C.b dX11_leads_7 (by decide) ?_
  replace hf := bn2_s hf; obtain ⟨q3, m4, hq3, hf⟩ := hf
  have kq3 : ∀ (H : Heap) (locs : List Loc) (ls : Array Slot), Zd K LC ad m4 s H locs → lv_has ls 5 [(0, .ref (ad 0 0)), (1, .int a1), (2, .int a2), (3, rf (ad 13) c2)] → W p l e (RM (3) 0 0) s m args below meth c H locs 0 0 (MQ below (zQ K LC ad (some (.int r9)) M9) args s 0 0 (zA ad)) (F0 m 16 ls [.int q3]) := by
    intro H locs ls Z hl
    exact w_X11_leads_b16 C hR hB  Z (lv_sub hl [0, 1, 2, 3] rfl) hf
  clear hf
  refine lv_icmp_ne (tgt := 15) C.x C.b dX11_leads_8 (by decide) (fun hc21 => ?_) (fun hc21 => ?_)
  · have hf := ite_f hq3 hc21; clear hq3
    refine lv_iconst (v := 0) C.x C.b dX11_leads_15 (by decide) ?_
    obtain ⟨rfl, rfl⟩ := pr_s hf
    exact kq3 _ _ _ Z (lv_sub hl [1, 2, 3, 0] rfl)
  · have hf := ite_t hq3 hc21; clear hq3
    refine lv_iconst (v := 1) C.x C.b dX11_leads_11 (by decide) ?_
    refine lv_goto (tgt := 16) C.x C.b dX11_leads_12 (by decide) ?_
    obtain ⟨rfl, rfl⟩ := pr_s hf
    exact kq3 _ _ _ Z (lv_sub hl [1, 2, 3, 0] rfl)
theorem dX11_stands_0 : decode cX11_stands 0 = .ok (.iload_n 1, 1) := by decide +kernel
theorem dX11_stands_1 : decode cX11_stands 1 = .ok (.invokestatic 277, 3) := by decide +kernel
theorem dX11_stands_4 : decode cX11_stands 4 = .ok (.ifCond .eq 10, 3) := by decide +kernel
theorem dX11_stands_7 : decode cX11_stands 7 = .ok (.iload_n 2, 1) := by decide +kernel
theorem dX11_stands_8 : decode cX11_stands 8 = .ok (.invokestatic 265, 3) := by decide +kernel
theorem dX11_stands_11 : decode cX11_stands 11 = .ok (.ifCond .ne 5, 3) := by decide +kernel
theorem dX11_stands_14 : decode cX11_stands 14 = .ok (.iconst (-1), 1) := by decide +kernel
theorem dX11_stands_15 : decode cX11_stands 15 = .ok (.ireturn, 1) := by decide +kernel
theorem dX11_stands_16 : decode cX11_stands 16 = .ok (.aload_n 0, 1) := by decide +kernel
theorem dX11_stands_17 : decode cX11_stands 17 = .ok (.getfield 47, 3) := by decide +kernel
theorem dX11_stands_20 : decode cX11_stands 20 = .ok (.aload_n 0, 1) := by decide +kernel
theorem dX11_stands_21 : decode cX11_stands 21 = .ok (.getfield 26, 3) := by decide +kernel
theorem dX11_stands_24 : decode cX11_stands 24 = .ok (.iload_n 2, 1) := by decide +kernel
theorem dX11_stands_25 : decode cX11_stands 25 = .ok (.invokevirtual 280, 3) := by decide +kernel
theorem dX11_stands_28 : decode cX11_stands 28 = .ok (.aload_n 0, 1) := by decide +kernel
theorem dX11_stands_29 : decode cX11_stands 29 = .ok (.getfield 47, 3) := by decide +kernel
theorem dX11_stands_32 : decode cX11_stands 32 = .ok (.getfield 284, 3) := by decide +kernel
theorem dX11_stands_35 : decode cX11_stands 35 = .ok (.iload_n 1, 1) := by decide +kernel
theorem dX11_stands_36 : decode cX11_stands 36 = .ok (.iaload, 1) := by decide +kernel
theorem dX11_stands_37 : decode cX11_stands 37 = .ok (.ireturn, 1) := by decide +kernel
set_option maxRecDepth 100000 in
set_option maxHeartbeats 4000000 in
theorem c_X11_stands {l : Launch} {K : KG} {ad : Nat → Nat → Nat} {fl : Nat} {a1 : Int32} {a2 : Int32} {M0 : Mem} {r9 : Int32} {M9 : Mem} (hf : f_X11_stands fl a1 a2 M0 = some (r9, M9)) : Met l yX11_stands (Cond.code yX11_stands cX11_stands 3 (some .int) :: ztb) (RM (5) 0 0) (zPc K LC ad M0 [.ref (ad 0 0), .int a1, .int a2]) (zQ K LC ad (some (.int r9)) M9) 0 0 (zA ad) := by
  refine z_enter (by decide) (Nat.le_of_ble_eq_true rfl) ?_
  intro p e s m args below meth c ls C hin hargs Z hl
  replace C : Cx p s m args meth c cX11_stands 3 "GlassPalace" (some .int) := C
  replace hl : lv_has ls 3 [(0, .ref (ad 0 0)), (1, .int a1), (2, .int a2)] := hl
  have hR : 5 ≤ (RM (5) 0 0).frames ∧ 40 * (5) ≤ (RM (5) 0 0).locals := ⟨Nat.le_refl _, Nat.le_refl _⟩
  have hB : 0 ≤ (RM (5) 0 0).cells ∧ 0 ≤ (RM (5) 0 0).slots := ⟨Nat.zero_le _, Nat.zero_le _⟩
  unfold f_X11_stands at hf
  refine lv_iload_n C.x C.b dX11_stands_0 rfl (lv_at hl 1 rfl) ?_
  replace hf := bn2_s hf; obtain ⟨v2, m1, hkm1, hf⟩ := hf
  refine z_cS (As := [.int a1]) (rest := []) (st1 := [.int v2]) C Z mw_X11_isBay mv_X11_isBay k_420 (by decide) (z_hR hR (by decide)) (c_X11_isBay (l := l) (K := K) (ad := ad) hkm1) rfl hl.1 rfl (Nat.le_of_ble_eq_true rfl) dX11_stands_1 hB rfl (fun H locs Z => ?_)
  refine lv_if_eq (tgt := 14) C.x C.b dX11_stands_4 (by decide) (fun hc3 => ?_) (fun hc3 => ?_)
  · replace hf := ite_t hf hc3
    refine lv_iconst (v := (-1)) C.x C.b dX11_stands_14 (by decide) ?_
    obtain ⟨rfl, rfl⟩ := pr_s hf
    exact z_iret C Z dX11_stands_15
  · replace hf := ite_f hf hc3
    refine lv_iload_n C.x C.b dX11_stands_7 rfl (lv_at hl 2 rfl) ?_
    replace hf := bn2_s hf; obtain ⟨v5, m4, hkm4, hf⟩ := hf
    refine z_cS (As := [.int a2]) (rest := []) (st1 := [.int v5]) C Z mw_X11_isHour mv_X11_isHour k_854 (by decide) (z_hR hR (by decide)) (c_X11_isHour (l := l) (K := K) (ad := ad) hkm4) rfl hl.1 rfl (Nat.le_of_ble_eq_true rfl) dX11_stands_8 hB rfl (fun H locs Z => ?_)
    refine lv_if_ne (tgt := 16) C.x C.b dX11_stands_11 (by decide) (fun hc6 => ?_) (fun hc6 => ?_)
    · replace hf := ite_f hf hc6
      refine lv_aload_n C.x C.b dX11_stands_16 rfl (lv_at hl 0 rfl) ?_
      refine z_get C Z (lvC0 Nat.zero_lt_one) kC0 zc11 zin11 8 (by decide) k_370 rfl svC0_8 dX11_stands_17 ?_
      refine lv_aload_n C.x C.b dX11_stands_20 rfl (lv_at hl 0 rfl) ?_
      refine z_get C Z (lvC0 Nat.zero_lt_one) kC0 zc11 zin11 5 (by decide) k_367 rfl svC0_5 dX11_stands_21 ?_
      refine lv_iload_n C.x C.b dX11_stands_24 rfl (lv_at hl 2 rfl) ?_
      replace hf := bn1_s hf; obtain ⟨m7, hkm7, hf⟩ := hf
      refine z_cV (As := [.ref (ad 4 0), .int a2]) (rest := []) (st1 := []) C Z mw_X10_runThrough mv_X10_runThrough k_871 (by decide) (z_hR hR (by decide)) (lvC7 Nat.zero_lt_one) kC7 zc10 (c_X10_runThrough (l := l) (K := K) (ad := ad) hkm7) rfl hl.1 rfl (Nat.le_of_ble_eq_true rfl) dX11_stands_25 hB rfl (fun H locs Z => ?_)
      refine lv_aload_n C.x C.b dX11_stands_28 rfl (lv_at hl 0 rfl) ?_
      refine z_get C Z (lvC0 Nat.zero_lt_one) kC0 zc11 zin11 8 (by decide) k_370 rfl svC0_8 dX11_stands_29 ?_
      refine z_get C Z (lvC7 Nat.zero_lt_one) kC7 zc10 zin10 1 (by decide) k_210 rfl svC7_1 dX11_stands_32 ?_
      refine lv_iload_n C.x C.b dX11_stands_35 rfl (lv_at hl 1 rfl) ?_
      replace hf := asr_s hf; obtain ⟨hq8, hf⟩ := hf
      refine z_iald C Z (lvC26 Nat.zero_lt_one) kC26 hq8 svC26 dX11_stands_36 ?_
      obtain ⟨rfl, rfl⟩ := pr_s hf
      exact z_iret C Z dX11_stands_37
    · replace hf := ite_t hf hc6
      refine lv_iconst (v := (-1)) C.x C.b dX11_stands_14 (by decide) ?_
      obtain ⟨rfl, rfl⟩ := pr_s hf
      exact z_iret C Z dX11_stands_15
theorem dX11_leaks_0 : decode cX11_leaks 0 = .ok (.iload_n 1, 1) := by decide +kernel
theorem dX11_leaks_1 : decode cX11_leaks 1 = .ok (.iconst (-1), 1) := by decide +kernel
theorem dX11_leaks_2 : decode cX11_leaks 2 = .ok (.if_icmp .eq 13, 3) := by decide +kernel
theorem dX11_leaks_5 : decode cX11_leaks 5 = .ok (.iload_n 1, 1) := by decide +kernel
theorem dX11_leaks_6 : decode cX11_leaks 6 = .ok (.invokestatic 277, 3) := by decide +kernel
theorem dX11_leaks_9 : decode cX11_leaks 9 = .ok (.ifCond .ne 6, 3) := by decide +kernel
theorem dX11_leaks_12 : decode cX11_leaks 12 = .ok (.bipush (-5), 2) := by decide +kernel
theorem dX11_leaks_14 : decode cX11_leaks 14 = .ok (.ireturn, 1) := by decide +kernel
theorem dX11_leaks_15 : decode cX11_leaks 15 = .ok (.aload_n 0, 1) := by decide +kernel
theorem dX11_leaks_16 : decode cX11_leaks 16 = .ok (.getfield 47, 3) := by decide +kernel
theorem dX11_leaks_19 : decode cX11_leaks 19 = .ok (.aload_n 0, 1) := by decide +kernel
theorem dX11_leaks_20 : decode cX11_leaks 20 = .ok (.getfield 26, 3) := by decide +kernel
theorem dX11_leaks_23 : decode cX11_leaks 23 = .ok (.bipush 23, 2) := by decide +kernel
theorem dX11_leaks_25 : decode cX11_leaks 25 = .ok (.invokevirtual 280, 3) := by decide +kernel
theorem dX11_leaks_28 : decode cX11_leaks 28 = .ok (.iload_n 1, 1) := by decide +kernel
theorem dX11_leaks_29 : decode cX11_leaks 29 = .ok (.iconst (-1), 1) := by decide +kernel
theorem dX11_leaks_30 : decode cX11_leaks 30 = .ok (.if_icmp .ne 13, 3) := by decide +kernel
theorem dX11_leaks_33 : decode cX11_leaks 33 = .ok (.aload_n 0, 1) := by decide +kernel
theorem dX11_leaks_34 : decode cX11_leaks 34 = .ok (.getfield 47, 3) := by decide +kernel
theorem dX11_leaks_37 : decode cX11_leaks 37 = .ok (.invokevirtual 287, 3) := by decide +kernel
theorem dX11_leaks_40 : decode cX11_leaks 40 = .ok (.goto 12, 3) := by decide +kernel
theorem dX11_leaks_43 : decode cX11_leaks 43 = .ok (.aload_n 0, 1) := by decide +kernel
theorem dX11_leaks_44 : decode cX11_leaks 44 = .ok (.getfield 47, 3) := by decide +kernel
theorem dX11_leaks_47 : decode cX11_leaks 47 = .ok (.getfield 290, 3) := by decide +kernel
theorem dX11_leaks_50 : decode cX11_leaks 50 = .ok (.iload_n 1, 1) := by decide +kernel
theorem dX11_leaks_51 : decode cX11_leaks 51 = .ok (.iaload, 1) := by decide +kernel
theorem dX11_leaks_52 : decode cX11_leaks 52 = .ok (.ireturn, 1) := by decide +kernel
set_option maxRecDepth 100000 in
set_option maxHeartbeats 4000000 in
theorem w_X11_leaks_b15 {p : Program} {l : Launch} {e : Env} {s : State} {m : MethodId} {args : Array Value} {below : List Frame} {meth : Method} {c : Code} {K : KG} {ad : Nat → Nat → Nat} {fl : Nat} {H : Heap} {locs : List Loc} {ls : Array Slot} {g1 : Int32} {M0 : Mem} {r9 : Int32} {M9 : Mem} (C : Cx p s m args meth c cX11_leaks 2 "GlassPalace" (some .int)) (hR : 5 ≤ (RM (5) 0 0).frames ∧ 40 * (5) ≤ (RM (5) 0 0).locals) (hB : 0 ≤ (RM (5) 0 0).cells ∧ 0 ≤ (RM (5) 0 0).slots) (Z : Zd K LC ad M0 s H locs) (hl : lv_has ls 2 [(0, .ref (ad 0 0)), (1, .int g1)]) (hf : f_X11_leaks_b15 fl g1 M0 = some (r9, M9)) : W p l e (RM (5) 0 0) s m args below meth c H locs 0 0 (MQ below (zQ K LC ad (some (.int r9)) M9) args s 0 0 (zA ad)) (F0 m 15 ls []) := by
  unfold f_X11_leaks_b15 at hf
  refine lv_aload_n C.x C.b dX11_leaks_15 rfl (lv_at hl 0 rfl) ?_
  refine z_get C Z (lvC0 Nat.zero_lt_one) kC0 zc11 zin11 8 (by decide) k_370 rfl svC0_8 dX11_leaks_16 ?_
  refine lv_aload_n C.x C.b dX11_leaks_19 rfl (lv_at hl 0 rfl) ?_
  refine z_get C Z (lvC0 Nat.zero_lt_one) kC0 zc11 zin11 5 (by decide) k_367 rfl svC0_5 dX11_leaks_20 ?_
  refine lv_bipush (v := 23) C.x C.b dX11_leaks_23 (by decide) ?_
  replace hf := bn1_s hf; obtain ⟨m2, hkm2, hf⟩ := hf
  refine z_cV (As := [.ref (ad 4 0), .int 23]) (rest := []) (st1 := []) C Z mw_X10_runThrough mv_X10_runThrough k_871 (by decide) (z_hR hR (by decide)) (lvC7 Nat.zero_lt_one) kC7 zc10 (c_X10_runThrough (l := l) (K := K) (ad := ad) hkm2) rfl hl.1 rfl (Nat.le_of_ble_eq_true rfl) dX11_leaks_25 hB rfl (fun H locs Z => ?_)
  refine lv_iload_n C.x C.b dX11_leaks_28 rfl (lv_at hl 1 rfl) ?_
  refine lv_iconst (v := (-1)) C.x C.b dX11_leaks_29 (by decide) ?_
  refine lv_icmp_ne (tgt := 43) C.x C.b dX11_leaks_30 (by decide) (fun hc3 => ?_) (fun hc3 => ?_)
  · replace hf := ite_f hf hc3
    refine lv_aload_n C.x C.b dX11_leaks_43 rfl (lv_at hl 0 rfl) ?_
    refine z_get C Z (lvC0 Nat.zero_lt_one) kC0 zc11 zin11 8 (by decide) k_370 rfl svC0_8 dX11_leaks_44 ?_
    refine z_get C Z (lvC7 Nat.zero_lt_one) kC7 zc10 zin10 2 (by decide) k_212 rfl svC7_2 dX11_leaks_47 ?_
    refine lv_iload_n C.x C.b dX11_leaks_50 rfl (lv_at hl 1 rfl) ?_
    replace hf := asr_s hf; obtain ⟨hq4, hf⟩ := hf
    refine z_iald C Z (lvC27 Nat.zero_lt_one) kC27 hq4 svC27 dX11_leaks_51 ?_
    obtain ⟨rfl, rfl⟩ := pr_s hf
    exact z_iret C Z dX11_leaks_52
  · replace hf := ite_t hf hc3
    refine lv_aload_n C.x C.b dX11_leaks_33 rfl (lv_at hl 0 rfl) ?_
    refine z_get C Z (lvC0 Nat.zero_lt_one) kC0 zc11 zin11 8 (by decide) k_370 rfl svC0_8 dX11_leaks_34 ?_
    replace hf := bn2_s hf; obtain ⟨v6, m5, hkm5, hf⟩ := hf
    refine z_cV (As := []) (rest := []) (st1 := [.int v6]) C Z mw_X10_leaksOfAll mv_X10_leaksOfAll k_892 (by decide) (z_hR hR (by decide)) (lvC7 Nat.zero_lt_one) kC7 zc10 (c_X10_leaksOfAll (l := l) (K := K) (ad := ad) hkm5) rfl hl.1 rfl (Nat.le_of_ble_eq_true rfl) dX11_leaks_37 hB rfl (fun H locs Z => ?_)
    refine lv_goto (tgt := 52) C.x C.b dX11_leaks_40 (by decide) ?_
    obtain ⟨rfl, rfl⟩ := pr_s hf
    exact z_iret C Z dX11_leaks_52
set_option maxRecDepth 100000 in
set_option maxHeartbeats 4000000 in
theorem c_X11_leaks {l : Launch} {K : KG} {ad : Nat → Nat → Nat} {fl : Nat} {a1 : Int32} {M0 : Mem} {r9 : Int32} {M9 : Mem} (hf : f_X11_leaks fl a1 M0 = some (r9, M9)) : Met l yX11_leaks (Cond.code yX11_leaks cX11_leaks 2 (some .int) :: ztb) (RM (5) 0 0) (zPc K LC ad M0 [.ref (ad 0 0), .int a1]) (zQ K LC ad (some (.int r9)) M9) 0 0 (zA ad) := by
  refine z_enter (by decide) (Nat.le_of_ble_eq_true rfl) ?_
  intro p e s m args below meth c ls C hin hargs Z hl
  replace C : Cx p s m args meth c cX11_leaks 2 "GlassPalace" (some .int) := C
  replace hl : lv_has ls 2 [(0, .ref (ad 0 0)), (1, .int a1)] := hl
  have hR : 5 ≤ (RM (5) 0 0).frames ∧ 40 * (5) ≤ (RM (5) 0 0).locals := ⟨Nat.le_refl _, Nat.le_refl _⟩
  have hB : 0 ≤ (RM (5) 0 0).cells ∧ 0 ≤ (RM (5) 0 0).slots := ⟨Nat.zero_le _, Nat.zero_le _⟩
  unfold f_X11_leaks at hf
  refine lv_iload_n C.x C.b dX11_leaks_0 rfl (lv_at hl 1 rfl) ?_
  refine lv_iconst (v := (-1)) C.x C.b dX11_leaks_1 (by decide) ?_
  refine lv_icmp_eq (tgt := 15) C.x C.b dX11_leaks_2 (by decide) (fun hc1 => ?_) (fun hc1 => ?_)
  · replace hf := ite_t hf hc1
    exact w_X11_leaks_b15 C hR hB  Z (lv_sub hl [0, 1] rfl) hf
  · replace hf := ite_f hf hc1
    refine lv_iload_n C.x C.b dX11_leaks_5 rfl (lv_at hl 1 rfl) ?_
    replace hf := bn2_s hf; obtain ⟨v8, m7, hkm7, hf⟩ := hf
    refine z_cS (As := [.int a1]) (rest := []) (st1 := [.int v8]) C Z mw_X11_isBay mv_X11_isBay k_420 (by decide) (z_hR hR (by decide)) (c_X11_isBay (l := l) (K := K) (ad := ad) hkm7) rfl hl.1 rfl (Nat.le_of_ble_eq_true rfl) dX11_leaks_6 hB rfl (fun H locs Z => ?_)
    refine lv_if_ne (tgt := 15) C.x C.b dX11_leaks_9 (by decide) (fun hc9 => ?_) (fun hc9 => ?_)
    · replace hf := ite_f hf hc9
      exact w_X11_leaks_b15 C hR hB  Z (lv_sub hl [0, 1] rfl) hf
    · replace hf := ite_t hf hc9
      refine lv_bipush (v := (-5)) C.x C.b dX11_leaks_12 (by decide) ?_
      obtain ⟨rfl, rfl⟩ := pr_s hf
      exact z_iret C Z dX11_leaks_14
theorem dX11_gang_0 : decode cX11_gang 0 = .ok (.iload_n 1, 1) := by decide +kernel
theorem dX11_gang_1 : decode cX11_gang 1 = .ok (.iconst 1, 1) := by decide +kernel
theorem dX11_gang_2 : decode cX11_gang 2 = .ok (.if_icmp .lt 8, 3) := by decide +kernel
theorem dX11_gang_5 : decode cX11_gang 5 = .ok (.iload_n 1, 1) := by decide +kernel
theorem dX11_gang_6 : decode cX11_gang 6 = .ok (.iconst 4, 1) := by decide +kernel
theorem dX11_gang_7 : decode cX11_gang 7 = .ok (.if_icmp .le 5, 3) := by decide +kernel
theorem dX11_gang_10 : decode cX11_gang 10 = .ok (.iconst (-1), 1) := by decide +kernel
theorem dX11_gang_11 : decode cX11_gang 11 = .ok (.ireturn, 1) := by decide +kernel
theorem dX11_gang_12 : decode cX11_gang 12 = .ok (.iload_n 2, 1) := by decide +kernel
theorem dX11_gang_13 : decode cX11_gang 13 = .ok (.iconst 1, 1) := by decide +kernel
theorem dX11_gang_14 : decode cX11_gang 14 = .ok (.if_icmp .lt 9, 3) := by decide +kernel
theorem dX11_gang_17 : decode cX11_gang 17 = .ok (.iload_n 2, 1) := by decide +kernel
theorem dX11_gang_18 : decode cX11_gang 18 = .ok (.bipush 20, 2) := by decide +kernel
theorem dX11_gang_20 : decode cX11_gang 20 = .ok (.if_icmp .le 6, 3) := by decide +kernel
theorem dX11_gang_23 : decode cX11_gang 23 = .ok (.bipush (-2), 2) := by decide +kernel
theorem dX11_gang_25 : decode cX11_gang 25 = .ok (.ireturn, 1) := by decide +kernel
theorem dX11_gang_26 : decode cX11_gang 26 = .ok (.aload_n 0, 1) := by decide +kernel
theorem dX11_gang_27 : decode cX11_gang 27 = .ok (.getfield 293, 3) := by decide +kernel
theorem dX11_gang_30 : decode cX11_gang 30 = .ok (.bipush 10, 2) := by decide +kernel
theorem dX11_gang_32 : decode cX11_gang 32 = .ok (.if_icmp .lt 6, 3) := by decide +kernel
theorem dX11_gang_35 : decode cX11_gang 35 = .ok (.bipush (-4), 2) := by decide +kernel
theorem dX11_gang_37 : decode cX11_gang 37 = .ok (.ireturn, 1) := by decide +kernel
theorem dX11_gang_38 : decode cX11_gang 38 = .ok (.aload_n 0, 1) := by decide +kernel
theorem dX11_gang_39 : decode cX11_gang 39 = .ok (.getfield 53, 3) := by decide +kernel
theorem dX11_gang_42 : decode cX11_gang 42 = .ok (.aload_n 0, 1) := by decide +kernel
theorem dX11_gang_43 : decode cX11_gang 43 = .ok (.getfield 293, 3) := by decide +kernel
theorem dX11_gang_46 : decode cX11_gang 46 = .ok (.new 51, 3) := by decide +kernel
theorem dX11_gang_49 : decode cX11_gang 49 = .ok (.dup, 1) := by decide +kernel
theorem dX11_gang_50 : decode cX11_gang 50 = .ok (.iload_n 1, 1) := by decide +kernel
theorem dX11_gang_51 : decode cX11_gang 51 = .ok (.iload_n 2, 1) := by decide +kernel
theorem dX11_gang_52 : decode cX11_gang 52 = .ok (.invokespecial 296, 3) := by decide +kernel
theorem dX11_gang_55 : decode cX11_gang 55 = .ok (.aastore, 1) := by decide +kernel
theorem dX11_gang_56 : decode cX11_gang 56 = .ok (.aload_n 0, 1) := by decide +kernel
theorem dX11_gang_57 : decode cX11_gang 57 = .ok (.dup, 1) := by decide +kernel
theorem dX11_gang_58 : decode cX11_gang 58 = .ok (.getfield 293, 3) := by decide +kernel
theorem dX11_gang_61 : decode cX11_gang 61 = .ok (.iconst 1, 1) := by decide +kernel
theorem dX11_gang_62 : decode cX11_gang 62 = .ok (.iadd, 1) := by decide +kernel
theorem dX11_gang_63 : decode cX11_gang 63 = .ok (.putfield 293, 3) := by decide +kernel
theorem dX11_gang_66 : decode cX11_gang 66 = .ok (.aload_n 0, 1) := by decide +kernel
theorem dX11_gang_67 : decode cX11_gang 67 = .ok (.getfield 293, 3) := by decide +kernel
theorem dX11_gang_70 : decode cX11_gang 70 = .ok (.iconst 1, 1) := by decide +kernel
theorem dX11_gang_71 : decode cX11_gang 71 = .ok (.isub, 1) := by decide +kernel
theorem dX11_gang_72 : decode cX11_gang 72 = .ok (.ireturn, 1) := by decide +kernel
set_option maxRecDepth 100000 in
set_option maxHeartbeats 4000000 in
theorem c_X11_gang {l : Launch} {K : KG} {ad : Nat → Nat → Nat} {fl : Nat} {a1 : Int32} {a2 : Int32} {M0 : Mem} {r9 : Int32} {M9 : Mem} (hf : f_X11_gang fl a1 a2 M0 = some (r9, M9)) : Met l yX11_gang (Cond.code yX11_gang cX11_gang 3 (some .int) :: ztb) (RM (2) 1 5) (zPc K LC ad M0 [.ref (ad 0 0), .int a1, .int a2]) (zQ K LC ad (some (.int r9)) M9) 1 5 (zA ad) := by
  refine z_enter (by decide) (Nat.le_of_ble_eq_true rfl) ?_
  intro p e s m args below meth c ls C hin hargs Z hl
  replace C : Cx p s m args meth c cX11_gang 3 "GlassPalace" (some .int) := C
  replace hl : lv_has ls 3 [(0, .ref (ad 0 0)), (1, .int a1), (2, .int a2)] := hl
  have hR : 2 ≤ (RM (2) 1 5).frames ∧ 40 * (2) ≤ (RM (2) 1 5).locals := ⟨Nat.le_refl _, Nat.le_refl _⟩
  have hB : 0 ≤ (RM (2) 1 5).cells ∧ 0 ≤ (RM (2) 1 5).slots := ⟨Nat.zero_le _, Nat.zero_le _⟩
  unfold f_X11_gang at hf
  refine lv_iload_n C.x C.b dX11_gang_0 rfl (lv_at hl 1 rfl) ?_
  refine lv_iconst (v := 1) C.x C.b dX11_gang_1 (by decide) ?_
  refine lv_icmp_lt (tgt := 10) C.x C.b dX11_gang_2 (by decide) (fun hc1 => ?_) (fun hc1 => ?_)
  · replace hf := ite_t hf hc1
    refine lv_iconst (v := (-1)) C.x C.b dX11_gang_10 (by decide) ?_
    obtain ⟨rfl, rfl⟩ := pr_s hf
    refine W.widen (k := 1) (n := 5) (by decide) (by decide) ?_
    exact z_iret C Z dX11_gang_11
  · replace hf := ite_f hf hc1
    refine lv_iload_n C.x C.b dX11_gang_5 rfl (lv_at hl 1 rfl) ?_
    refine lv_iconst (v := 4) C.x C.b dX11_gang_6 (by decide) ?_
    refine lv_icmp_le (tgt := 12) C.x C.b dX11_gang_7 (by decide) (fun hc2 => ?_) (fun hc2 => ?_)
    · replace hf := ite_t hf hc2
      refine lv_iload_n C.x C.b dX11_gang_12 rfl (lv_at hl 2 rfl) ?_
      refine lv_iconst (v := 1) C.x C.b dX11_gang_13 (by decide) ?_
      refine lv_icmp_lt (tgt := 23) C.x C.b dX11_gang_14 (by decide) (fun hc3 => ?_) (fun hc3 => ?_)
      · replace hf := ite_t hf hc3
        refine lv_bipush (v := (-2)) C.x C.b dX11_gang_23 (by decide) ?_
        obtain ⟨rfl, rfl⟩ := pr_s hf
        refine W.widen (k := 1) (n := 5) (by decide) (by decide) ?_
        exact z_iret C Z dX11_gang_25
      · replace hf := ite_f hf hc3
        refine lv_iload_n C.x C.b dX11_gang_17 rfl (lv_at hl 2 rfl) ?_
        refine lv_bipush (v := 20) C.x C.b dX11_gang_18 (by decide) ?_
        refine lv_icmp_le (tgt := 26) C.x C.b dX11_gang_20 (by decide) (fun hc4 => ?_) (fun hc4 => ?_)
        · replace hf := ite_t hf hc4
          refine lv_aload_n C.x C.b dX11_gang_26 rfl (lv_at hl 0 rfl) ?_
          refine z_get C Z (lvC0 Nat.zero_lt_one) kC0 zc11 zin11 10 (by decide) k_372 rfl svC0_10 dX11_gang_27 ?_
          refine lv_bipush (v := 10) C.x C.b dX11_gang_30 (by decide) ?_
          refine lv_icmp_lt (tgt := 38) C.x C.b dX11_gang_32 (by decide) (fun hc5 => ?_) (fun hc5 => ?_)
          · replace hf := ite_t hf hc5
            refine lv_aload_n C.x C.b dX11_gang_38 rfl (lv_at hl 0 rfl) ?_
            refine z_get C Z (lvC0 Nat.zero_lt_one) kC0 zc11 zin11 9 (by decide) k_371 rfl svC0_9 dX11_gang_39 ?_
            refine lv_aload_n C.x C.b dX11_gang_42 rfl (lv_at hl 0 rfl) ?_
            refine z_get C Z (lvC0 Nat.zero_lt_one) kC0 zc11 zin11 10 (by decide) k_372 rfl svC0_10 dX11_gang_43 ?_
            replace hf := asr_s hf; obtain ⟨hq6, hf⟩ := hf
            replace hf := lt1_s hf; obtain ⟨i7, ei7, hf⟩ := hf
            replace hf := lt1_s hf; obtain ⟨m8, em8, hf⟩ := hf
            refine z_new (M1 := m8) C Z kC24 zc2 zin2 tyX2_ok k_226 k_900 k_120 (by decide) ei7 (by rw [ei7]; exact hq6) em8 (fun j hj => newC24 ei7 em8 j hj) (ei7.symm) (lcNC24 ei7 em8) (lcOC24 em8) lcHC (Nat.le_of_ble_eq_true rfl) (Nat.le_of_ble_eq_true rfl) dX11_gang_46 (fun H Z => ?_)
            have hj9 : i7 < gR m8 999 24 0 := by rw [em8, gR_sN, if_pos ⟨rfl, rfl, rfl⟩, ei7]; exact Nat.lt_succ_self _
            refine lv_dup C.x C.b dX11_gang_49 rfl ?_
            refine lv_iload_n C.x C.b dX11_gang_50 rfl (lv_at hl 1 rfl) ?_
            refine lv_iload_n C.x C.b dX11_gang_51 rfl (lv_at hl 2 rfl) ?_
            replace hf := bn1_s hf; obtain ⟨m10, hkm10, hf⟩ := hf
            refine z_cI (As := [.int a1, .int a2]) (rest := [.ref (ad 24 i7), .int (gI M0 0 0 10), .ref (ad 8 0)]) C Z mw_X2_init mv_X2_init rfl k_901 (by decide) (z_hR hR (by decide)) (c_X2_init (l := l) (K := K) (ad := ad) hj9 hkm10) rfl hl.1 rfl (Nat.le_of_ble_eq_true rfl) dX11_gang_52 ⟨Nat.le_of_ble_eq_true rfl, Nat.le_of_ble_eq_true rfl⟩ (fun H locs Z => ?_)
            replace hf := asr_s hf; obtain ⟨hq11, hf⟩ := hf
            replace hf := asr_s hf; obtain ⟨hq12, hf⟩ := hf
            replace hf := lt1_s hf; obtain ⟨m13, em13, hf⟩ := hf
            refine z_aast (M1 := m13) (x := (i7 + 1)) C Z (lvC8 Nat.zero_lt_one) (by decide) kC8 (t := 6) rfl kC24 zc2 (fun j ej => lvC24 (by omega)) hq11 em13 stC8 dX11_gang_55 (fun H locs Z => ?_)
            refine lv_aload_n C.x C.b dX11_gang_56 rfl (lv_at hl 0 rfl) ?_
            refine lv_dup C.x C.b dX11_gang_57 rfl ?_
            refine z_get C Z (lvC0 Nat.zero_lt_one) kC0 zc11 zin11 10 (by decide) k_372 rfl svC0_10 dX11_gang_58 ?_
            refine lv_iconst (v := 1) C.x C.b dX11_gang_61 (by decide) ?_
            refine lv_iadd C.x C.b dX11_gang_62 ?_
            replace hf := lt1_s hf; obtain ⟨m14, em14, hf⟩ := hf
            refine z_put (M1 := m14) C Z (lvC0 Nat.zero_lt_one) (by decide) kC0 zc11 zin11 tyX11_ok nmX11 10 (by decide) k_372 rfl (zUp_I em14 stC0_10u) (Or.inl rfl) rfl rfl dX11_gang_63 (fun H locs Z => ?_)
            refine lv_aload_n C.x C.b dX11_gang_66 rfl (lv_at hl 0 rfl) ?_
            refine z_get C Z (lvC0 Nat.zero_lt_one) kC0 zc11 zin11 10 (by decide) k_372 rfl svC0_10 dX11_gang_67 ?_
            refine lv_iconst (v := 1) C.x C.b dX11_gang_70 (by decide) ?_
            refine lv_isub C.x C.b dX11_gang_71 ?_
            obtain ⟨rfl, rfl⟩ := pr_s hf
            exact z_iret C Z dX11_gang_72
          · replace hf := ite_f hf hc5
            refine lv_bipush (v := (-4)) C.x C.b dX11_gang_35 (by decide) ?_
            obtain ⟨rfl, rfl⟩ := pr_s hf
            refine W.widen (k := 1) (n := 5) (by decide) (by decide) ?_
            exact z_iret C Z dX11_gang_37
        · replace hf := ite_f hf hc4
          refine lv_bipush (v := (-2)) C.x C.b dX11_gang_23 (by decide) ?_
          obtain ⟨rfl, rfl⟩ := pr_s hf
          refine W.widen (k := 1) (n := 5) (by decide) (by decide) ?_
          exact z_iret C Z dX11_gang_25
    · replace hf := ite_f hf hc2
      refine lv_iconst (v := (-1)) C.x C.b dX11_gang_10 (by decide) ?_
      obtain ⟨rfl, rfl⟩ := pr_s hf
      refine W.widen (k := 1) (n := 5) (by decide) (by decide) ?_
      exact z_iret C Z dX11_gang_11
theorem dX11_gangOf_0 : decode cX11_gangOf 0 = .ok (.iload_n 1, 1) := by decide +kernel
theorem dX11_gangOf_1 : decode cX11_gangOf 1 = .ok (.ifCond .lt 18, 3) := by decide +kernel
theorem dX11_gangOf_4 : decode cX11_gangOf 4 = .ok (.iload_n 1, 1) := by decide +kernel
theorem dX11_gangOf_5 : decode cX11_gangOf 5 = .ok (.bipush 10, 2) := by decide +kernel
theorem dX11_gangOf_7 : decode cX11_gangOf 7 = .ok (.if_icmp .ge 12, 3) := by decide +kernel
theorem dX11_gangOf_10 : decode cX11_gangOf 10 = .ok (.aload_n 0, 1) := by decide +kernel
theorem dX11_gangOf_11 : decode cX11_gangOf 11 = .ok (.getfield 53, 3) := by decide +kernel
theorem dX11_gangOf_14 : decode cX11_gangOf 14 = .ok (.iload_n 1, 1) := by decide +kernel
theorem dX11_gangOf_15 : decode cX11_gangOf 15 = .ok (.aaload, 1) := by decide +kernel
theorem dX11_gangOf_16 : decode cX11_gangOf 16 = .ok (.goto 4, 3) := by decide +kernel
theorem dX11_gangOf_19 : decode cX11_gangOf 19 = .ok (.aconst_null, 1) := by decide +kernel
theorem dX11_gangOf_20 : decode cX11_gangOf 20 = .ok (.areturn, 1) := by decide +kernel
set_option maxRecDepth 100000 in
set_option maxHeartbeats 4000000 in
theorem c_X11_gangOf {l : Launch} {K : KG} {ad : Nat → Nat → Nat} {fl : Nat} {a1 : Int32} {M0 : Mem} {r9 : Nat} {M9 : Mem} (hf : f_X11_gangOf fl a1 M0 = some (r9, M9)) : Met l yX11_gangOf (Cond.code yX11_gangOf cX11_gangOf 2 (some (.object "GlassPalace$Gang")) :: ztb) (RM (1) 0 0) (zPc K LC ad M0 [.ref (ad 0 0), .int a1]) (zQ K LC ad (some (rf (ad 24) r9)) M9) 0 0 (zA ad) := by
  refine z_enter (by decide) (Nat.le_of_ble_eq_true rfl) ?_
  intro p e s m args below meth c ls C hin hargs Z hl
  replace C : Cx p s m args meth c cX11_gangOf 2 "GlassPalace" (some (.object "GlassPalace$Gang")) := C
  replace hl : lv_has ls 2 [(0, .ref (ad 0 0)), (1, .int a1)] := hl
  have hR : 1 ≤ (RM (1) 0 0).frames ∧ 40 * (1) ≤ (RM (1) 0 0).locals := ⟨Nat.le_refl _, Nat.le_refl _⟩
  have hB : 0 ≤ (RM (1) 0 0).cells ∧ 0 ≤ (RM (1) 0 0).slots := ⟨Nat.zero_le _, Nat.zero_le _⟩
  unfold f_X11_gangOf at hf
  refine lv_iload_n C.x C.b dX11_gangOf_0 rfl (lv_at hl 1 rfl) ?_
  refine lv_if_lt (tgt := 19) C.x C.b dX11_gangOf_1 (by decide) (fun hc1 => ?_) (fun hc1 => ?_)
  · replace hf := ite_t hf hc1
    refine lv_null C.x C.b dX11_gangOf_19 ?_
    obtain ⟨rfl, rfl⟩ := pr_s hf
    exact z_aret (f := ad 24) (k := 0) C Z dX11_gangOf_20
  · replace hf := ite_f hf hc1
    refine lv_iload_n C.x C.b dX11_gangOf_4 rfl (lv_at hl 1 rfl) ?_
    refine lv_bipush (v := 10) C.x C.b dX11_gangOf_5 (by decide) ?_
    refine lv_icmp_ge (tgt := 19) C.x C.b dX11_gangOf_7 (by decide) (fun hc2 => ?_) (fun hc2 => ?_)
    · replace hf := ite_t hf hc2
      refine lv_null C.x C.b dX11_gangOf_19 ?_
      obtain ⟨rfl, rfl⟩ := pr_s hf
      exact z_aret (f := ad 24) (k := 0) C Z dX11_gangOf_20
    · replace hf := ite_f hf hc2
      refine lv_aload_n C.x C.b dX11_gangOf_10 rfl (lv_at hl 0 rfl) ?_
      refine z_get C Z (lvC0 Nat.zero_lt_one) kC0 zc11 zin11 9 (by decide) k_371 rfl svC0_9 dX11_gangOf_11 ?_
      refine lv_iload_n C.x C.b dX11_gangOf_14 rfl (lv_at hl 1 rfl) ?_
      replace hf := asr_s hf; obtain ⟨hq3, hf⟩ := hf
      refine z_aald C Z (lvC8 Nat.zero_lt_one) kC8 6 rfl hq3 svC8 dX11_gangOf_15 ?_
      refine lv_goto (tgt := 20) C.x C.b dX11_gangOf_16 (by decide) ?_
      obtain ⟨rfl, rfl⟩ := pr_s hf
      exact z_aret (f := ad 24) (k := _) C Z dX11_gangOf_20
theorem dX11_isKeptAway_0 : decode cX11_isKeptAway 0 = .ok (.aload_n 1, 1) := by decide +kernel
theorem dX11_isKeptAway_1 : decode cX11_isKeptAway 1 = .ok (.getfield 465, 3) := by decide +kernel
theorem dX11_isKeptAway_4 : decode cX11_isKeptAway 4 = .ok (.aload_n 0, 1) := by decide +kernel
theorem dX11_isKeptAway_5 : decode cX11_isKeptAway 5 = .ok (.getfield 88, 3) := by decide +kernel
theorem dX11_isKeptAway_8 : decode cX11_isKeptAway 8 = .ok (.if_icmp .ne 5, 3) := by decide +kernel
theorem dX11_isKeptAway_11 : decode cX11_isKeptAway 11 = .ok (.iconst 1, 1) := by decide +kernel
theorem dX11_isKeptAway_12 : decode cX11_isKeptAway 12 = .ok (.ireturn, 1) := by decide +kernel
theorem dX11_isKeptAway_13 : decode cX11_isKeptAway 13 = .ok (.aload_n 0, 1) := by decide +kernel
theorem dX11_isKeptAway_14 : decode cX11_isKeptAway 14 = .ok (.getfield 53, 3) := by decide +kernel
theorem dX11_isKeptAway_17 : decode cX11_isKeptAway 17 = .ok (.astore_n 3, 1) := by decide +kernel
theorem dX11_isKeptAway_18 : decode cX11_isKeptAway 18 = .ok (.aload_n 3, 1) := by decide +kernel
theorem dX11_isKeptAway_19 : decode cX11_isKeptAway 19 = .ok (.arraylength, 1) := by decide +kernel
theorem dX11_isKeptAway_20 : decode cX11_isKeptAway 20 = .ok (.istore 4, 2) := by decide +kernel
theorem dX11_isKeptAway_22 : decode cX11_isKeptAway 22 = .ok (.iconst 0, 1) := by decide +kernel
theorem dX11_isKeptAway_23 : decode cX11_isKeptAway 23 = .ok (.istore 5, 2) := by decide +kernel
theorem dX11_isKeptAway_25 : decode cX11_isKeptAway 25 = .ok (.iload 5, 2) := by decide +kernel
theorem dX11_isKeptAway_27 : decode cX11_isKeptAway 27 = .ok (.iload 4, 2) := by decide +kernel
theorem dX11_isKeptAway_29 : decode cX11_isKeptAway 29 = .ok (.if_icmp .ge 84, 3) := by decide +kernel
theorem dX11_isKeptAway_32 : decode cX11_isKeptAway 32 = .ok (.aload_n 3, 1) := by decide +kernel
theorem dX11_isKeptAway_33 : decode cX11_isKeptAway 33 = .ok (.iload 5, 2) := by decide +kernel
theorem dX11_isKeptAway_35 : decode cX11_isKeptAway 35 = .ok (.aaload, 1) := by decide +kernel
theorem dX11_isKeptAway_36 : decode cX11_isKeptAway 36 = .ok (.astore 6, 2) := by decide +kernel
theorem dX11_isKeptAway_38 : decode cX11_isKeptAway 38 = .ok (.aload 6, 2) := by decide +kernel
theorem dX11_isKeptAway_40 : decode cX11_isKeptAway 40 = .ok (.ifnull 67, 3) := by decide +kernel
theorem dX11_isKeptAway_43 : decode cX11_isKeptAway 43 = .ok (.aload 6, 2) := by decide +kernel
theorem dX11_isKeptAway_45 : decode cX11_isKeptAway 45 = .ok (.getfield 465, 3) := by decide +kernel
theorem dX11_isKeptAway_48 : decode cX11_isKeptAway 48 = .ok (.aload_n 0, 1) := by decide +kernel
theorem dX11_isKeptAway_49 : decode cX11_isKeptAway 49 = .ok (.getfield 88, 3) := by decide +kernel
theorem dX11_isKeptAway_52 : decode cX11_isKeptAway 52 = .ok (.if_icmp .ne 55, 3) := by decide +kernel
theorem dX11_isKeptAway_55 : decode cX11_isKeptAway 55 = .ok (.aload_n 1, 1) := by decide +kernel
theorem dX11_isKeptAway_56 : decode cX11_isKeptAway 56 = .ok (.getfield 306, 3) := by decide +kernel
theorem dX11_isKeptAway_59 : decode cX11_isKeptAway 59 = .ok (.iconst 2, 1) := by decide +kernel
theorem dX11_isKeptAway_60 : decode cX11_isKeptAway 60 = .ok (.if_icmp .eq 12, 3) := by decide +kernel
theorem dX11_isKeptAway_63 : decode cX11_isKeptAway 63 = .ok (.aload 6, 2) := by decide +kernel
theorem dX11_isKeptAway_65 : decode cX11_isKeptAway 65 = .ok (.getfield 306, 3) := by decide +kernel
theorem dX11_isKeptAway_68 : decode cX11_isKeptAway 68 = .ok (.iconst 2, 1) := by decide +kernel
theorem dX11_isKeptAway_69 : decode cX11_isKeptAway 69 = .ok (.if_icmp .ne 7, 3) := by decide +kernel
theorem dX11_isKeptAway_72 : decode cX11_isKeptAway 72 = .ok (.iconst 1, 1) := by decide +kernel
theorem dX11_isKeptAway_73 : decode cX11_isKeptAway 73 = .ok (.goto 4, 3) := by decide +kernel
theorem dX11_isKeptAway_76 : decode cX11_isKeptAway 76 = .ok (.iconst 0, 1) := by decide +kernel
theorem dX11_isKeptAway_77 : decode cX11_isKeptAway 77 = .ok (.istore 7, 2) := by decide +kernel
theorem dX11_isKeptAway_79 : decode cX11_isKeptAway 79 = .ok (.aload 6, 2) := by decide +kernel
theorem dX11_isKeptAway_81 : decode cX11_isKeptAway 81 = .ok (.getfield 468, 3) := by decide +kernel
theorem dX11_isKeptAway_84 : decode cX11_isKeptAway 84 = .ok (.iload_n 2, 1) := by decide +kernel
theorem dX11_isKeptAway_85 : decode cX11_isKeptAway 85 = .ok (.if_icmp .eq 20, 3) := by decide +kernel
theorem dX11_isKeptAway_88 : decode cX11_isKeptAway 88 = .ok (.iload 7, 2) := by decide +kernel
theorem dX11_isKeptAway_90 : decode cX11_isKeptAway 90 = .ok (.ifCond .eq 17, 3) := by decide +kernel
theorem dX11_isKeptAway_93 : decode cX11_isKeptAway 93 = .ok (.aload 6, 2) := by decide +kernel
theorem dX11_isKeptAway_95 : decode cX11_isKeptAway 95 = .ok (.getfield 468, 3) := by decide +kernel
theorem dX11_isKeptAway_98 : decode cX11_isKeptAway 98 = .ok (.iload_n 2, 1) := by decide +kernel
theorem dX11_isKeptAway_99 : decode cX11_isKeptAway 99 = .ok (.invokestatic 271, 3) := by decide +kernel
theorem dX11_isKeptAway_102 : decode cX11_isKeptAway 102 = .ok (.ifCond .eq 5, 3) := by decide +kernel
theorem dX11_isKeptAway_105 : decode cX11_isKeptAway 105 = .ok (.iconst 1, 1) := by decide +kernel
theorem dX11_isKeptAway_106 : decode cX11_isKeptAway 106 = .ok (.ireturn, 1) := by decide +kernel
theorem dX11_isKeptAway_107 : decode cX11_isKeptAway 107 = .ok (.iinc 5 1, 3) := by decide +kernel
theorem dX11_isKeptAway_110 : decode cX11_isKeptAway 110 = .ok (.goto (-85), 3) := by decide +kernel
theorem dX11_isKeptAway_113 : decode cX11_isKeptAway 113 = .ok (.iconst 0, 1) := by decide +kernel
theorem dX11_isKeptAway_114 : decode cX11_isKeptAway 114 = .ok (.ireturn, 1) := by decide +kernel
set_option maxRecDepth 100000 in
set_option maxHeartbeats 4000000 in
theorem w_X11_isKeptAway_l25 {p : Program} {l : Launch} {e : Env} {R : Room} {s : State} {m : MethodId} {args : Array Value} {below : List Frame} {meth : Method} {c : Code} {cells slots : Nat} {Q : State → Prop} {K : KG} {ad : Nat → Nat → Nat} {fl : Nat} {g1 : Nat} {g2 : Int32} {g4 : Int32} (C : Cx p s m args meth c cX11_isKeptAway 8 "GlassPalace" (some .boolean)) (hR : 2 ≤ R.frames ∧ 40 * (2) ≤ R.locals) (hB : cells ≤ R.cells ∧ slots ≤ R.slots) : ∀ (n : Nat) (u5 : Int32) (M0 : Mem) (H : Heap) (locs : List Loc) (ls : Array Slot), Zd K LC ad M0 s H locs → lv_has ls 8 [(0, .ref (ad 0 0)), (1, rf (ad 24) g1), (2, .int g2), (3, .ref (ad 8 0)), (4, .int g4), (5, .int u5)] → ∀ (q : Nat) (Mq : Mem), f_X11_isKeptAway_l25 fl g1 g2 g4 n u5 M0 = some (q, Mq) → (q = 0 → ∀ (H : Heap) (locs : List Loc) (ls : Array Slot), Zd K LC ad Mq s H locs → lv_has ls 8 [] → W p l e R s m args below meth c H locs cells slots Q (F0 m 105 ls [])) → (q = 1 → ∀ (H : Heap) (locs : List Loc) (ls : Array Slot), Zd K LC ad Mq s H locs → lv_has ls 8 [] → W p l e R s m args below meth c H locs cells slots Q (F0 m 113 ls [])) → W p l e R s m args below meth c H locs cells slots Q (F0 m 25 ls []) := by
  intro n
  induction n with
  | zero =>
    intro u5 M0 H locs ls Z hl q Mq hf
    have hf : (none : Option (Nat × Mem)) = some (q, Mq) := hf
    cases hf
  | succ n ih =>
    intro u5 M0 H locs ls Z hl q Mq hf kx0 kx1
    replace hf : f_X11_isKeptAway_l25_b (f_X11_isKeptAway_l25 fl g1 g2 g4 n) fl g1 g2 g4 u5 M0 = some (q, Mq) := hf
    unfold f_X11_isKeptAway_l25_b at hf
    refine lv_iload C.x C.b dX11_isKeptAway_25 (lv_at hl 5 rfl) ?_
    refine lv_iload C.x C.b dX11_isKeptAway_27 (lv_at hl 4 rfl) ?_
    refine lv_icmp_ge (tgt := 113) C.x C.b dX11_isKeptAway_29 (by decide) (fun hc5 => ?_) (fun hc5 => ?_)
    · replace hf := ite_t hf hc5
      obtain ⟨rfl, rfl⟩ := pr_s hf
      exact kx1 rfl _ _ _ Z (lv_sub hl [] rfl)
    · replace hf := ite_f hf hc5
      refine lv_aload_n C.x C.b dX11_isKeptAway_32 rfl (lv_at hl 3 rfl) ?_
      refine lv_iload C.x C.b dX11_isKeptAway_33 (lv_at hl 5 rfl) ?_
      replace hf := asr_s hf; obtain ⟨hq6, hf⟩ := hf
      refine z_aald C Z (lvC8 Nat.zero_lt_one) kC8 6 rfl hq6 svC8 dX11_isKeptAway_35 ?_
      replace hf := lt1_s hf; obtain ⟨c7, ec7, hf⟩ := hf
      refine z_renC ec7 ?_
      refine z_cstore (lv' := [(6, rf (ad 24) c7), (0, .ref (ad 0 0)), (1, rf (ad 24) g1), (2, .int g2), (3, .ref (ad 8 0)), (4, .int g4), (5, .int u5)]) C dX11_isKeptAway_36 hl (by decide) rfl (onlast 5 rfl rfl rfl) (fun ls hl => ?_)
      refine z_aload C dX11_isKeptAway_38 (lv_at hl 0 rfl) ?_
      refine z_ifnull C dX11_isKeptAway_40 (tgt := 107) (by decide) (fun hc8 => ?_) (fun hc8 => ?_)
      · replace hf := ite_t hf hc8
        replace hf := lt1_s hf; obtain ⟨x9, ex9, hf⟩ := hf
        refine z_iinc (v := x9) (lv' := [(5, .int x9), (6, rf (ad 24) c7), (0, .ref (ad 0 0)), (1, rf (ad 24) g1), (2, .int g2), (3, .ref (ad 8 0)), (4, .int g4)]) C dX11_isKeptAway_107 hl (k := 6) rfl (by rw [ex9]; rfl) (by decide) rfl (onlast 5 rfl rfl rfl) (fun ls hl => ?_)
        refine lv_goto (tgt := 25) C.x C.b dX11_isKeptAway_110 (by decide) ?_
        exact ih _ _ _ _ _ Z (lv_sub hl [2, 3, 4, 5, 6, 0] rfl) _ _ hf kx0 kx1
      · replace hf := ite_f hf hc8
        refine z_aload C dX11_isKeptAway_43 (lv_at hl 0 rfl) ?_
        replace hf := drf_s hf; obtain ⟨j10, ej12, hj11, hf⟩ := hf
        subst ej12
        refine z_nn [] (y := j10 + 1) rfl ?_
        refine z_get C Z (lvC24 hj11) kC24 zc2 zin2 1 (by decide) k_908 rfl svC24_1 dX11_isKeptAway_45 ?_
        refine lv_aload_n C.x C.b dX11_isKeptAway_48 rfl (lv_at hl 1 rfl) ?_
        refine z_get C Z (lvC0 Nat.zero_lt_one) kC0 zc11 zin11 0 (by decide) k_362 rfl svC0_0 dX11_isKeptAway_49 ?_
        refine lv_icmp_ne (tgt := 107) C.x C.b dX11_isKeptAway_52 (by decide) (fun hc13 => ?_) (fun hc13 => ?_)
        · replace hf := ite_f hf hc13
          replace hf := lt1_s hf; obtain ⟨x14, ex14, hf⟩ := hf
          refine z_iinc (v := x14) (lv' := [(5, .int x14), (6, .ref (ad 24 j10)), (0, .ref (ad 0 0)), (1, rf (ad 24) g1), (2, .int g2), (3, .ref (ad 8 0)), (4, .int g4)]) C dX11_isKeptAway_107 hl (k := 6) rfl (by rw [ex14]; rfl) (by decide) rfl (onlast 5 rfl rfl rfl) (fun ls hl => ?_)
          refine lv_goto (tgt := 25) C.x C.b dX11_isKeptAway_110 (by decide) ?_
          exact ih _ _ _ _ _ Z (lv_sub hl [2, 3, 4, 5, 6, 0] rfl) _ _ hf kx0 kx1
        · replace hf := ite_t hf hc13
          refine z_aload_n C dX11_isKeptAway_55 rfl (lv_at hl 2 rfl) ?_
          replace hf := drf_s hf; obtain ⟨j15, ej17, hj16, hf⟩ := hf
          subst ej17
          refine z_nn [] (y := j15 + 1) rfl ?_
          refine z_get C Z (lvC24 hj16) kC24 zc2 zin2 0 (by decide) k_906 rfl svC24_0 dX11_isKeptAway_56 ?_
          refine lv_iconst (v := 2) C.x C.b dX11_isKeptAway_59 (by decide) ?_
          replace hf := bn2_s hf; obtain ⟨q18, m19, hq18, hf⟩ := hf
          have kq18 : ∀ (H : Heap) (locs : List Loc) (ls : Array Slot), Zd K LC ad m19 s H locs → lv_has ls 8 [(0, .ref (ad 0 0)), (1, .ref (ad 24 j15)), (2, .int g2), (3, .ref (ad 8 0)), (4, .int g4), (5, .int u5), (6, .ref (ad 24 j10))] → W p l e R s m args below meth c H locs cells slots Q (F0 m 77 ls [.int q18]) := by
            intro H locs ls Z hl
            refine z_istore (lv' := [(7, .int q18), (0, .ref (ad 0 0)), (1, .ref (ad 24 j15)), (2, .int g2), (3, .ref (ad 8 0)), (4, .int g4), (5, .int u5), (6, .ref (ad 24 j10))]) C dX11_isKeptAway_77 hl (by decide) rfl (onlast 6 rfl rfl rfl) (fun ls hl => ?_)
            refine lv_aload C.x C.b dX11_isKeptAway_79 (lv_at hl 7 rfl) ?_
            replace hf := asr_s hf; obtain ⟨hq20, hf⟩ := hf
            refine z_get C Z (lvC24 hq20) kC24 zc2 zin2 2 (by decide) k_910 rfl svC24_2 dX11_isKeptAway_81 ?_
            refine lv_iload_n C.x C.b dX11_isKeptAway_84 rfl (lv_at hl 3 rfl) ?_
            refine lv_icmp_eq (tgt := 105) C.x C.b dX11_isKeptAway_85 (by decide) (fun hc21 => ?_) (fun hc21 => ?_)
            · replace hf := ite_t hf hc21
              obtain ⟨rfl, rfl⟩ := pr_s hf
              exact kx0 rfl _ _ _ Z (lv_sub hl [] rfl)
            · replace hf := ite_f hf hc21
              refine lv_iload C.x C.b dX11_isKeptAway_88 (lv_at hl 0 rfl) ?_
              refine lv_if_eq (tgt := 107) C.x C.b dX11_isKeptAway_90 (by decide) (fun hc22 => ?_) (fun hc22 => ?_)
              · replace hf := ite_t hf hc22
                replace hf := lt1_s hf; obtain ⟨x23, ex23, hf⟩ := hf
                refine z_iinc (v := x23) (lv' := [(5, .int x23), (7, .int q18), (0, .ref (ad 0 0)), (1, .ref (ad 24 j15)), (2, .int g2), (3, .ref (ad 8 0)), (4, .int g4), (6, .ref (ad 24 j10))]) C dX11_isKeptAway_107 hl (k := 6) rfl (by rw [ex23]; rfl) (by decide) rfl (onlast 5 rfl rfl rfl) (fun ls hl => ?_)
                refine lv_goto (tgt := 25) C.x C.b dX11_isKeptAway_110 (by decide) ?_
                exact ih _ _ _ _ _ Z (lv_sub hl [2, 3, 4, 5, 6, 0] rfl) _ _ hf kx0 kx1
              · replace hf := ite_f hf hc22
                refine lv_aload C.x C.b dX11_isKeptAway_93 (lv_at hl 7 rfl) ?_
                refine z_get C Z (lvC24 hq20) kC24 zc2 zin2 2 (by decide) k_910 rfl svC24_2 dX11_isKeptAway_95 ?_
                refine lv_iload_n C.x C.b dX11_isKeptAway_98 rfl (lv_at hl 3 rfl) ?_
                replace hf := bn2_s hf; obtain ⟨v25, m24, hkm24, hf⟩ := hf
                refine z_cS (As := [.int (gI m19 24 j10 2), .int g2]) (rest := []) (st1 := [.int v25]) C Z mw_X11_isBeside mv_X11_isBeside k_861 (by decide) (z_hR hR (by decide)) (c_X11_isBeside (l := l) (K := K) (ad := ad) hkm24) rfl hl.1 rfl (Nat.le_of_ble_eq_true rfl) dX11_isKeptAway_99 hB rfl (fun H locs Z => ?_)
                refine lv_if_eq (tgt := 107) C.x C.b dX11_isKeptAway_102 (by decide) (fun hc26 => ?_) (fun hc26 => ?_)
                · replace hf := ite_t hf hc26
                  replace hf := lt1_s hf; obtain ⟨x27, ex27, hf⟩ := hf
                  refine z_iinc (v := x27) (lv' := [(5, .int x27), (7, .int q18), (0, .ref (ad 0 0)), (1, .ref (ad 24 j15)), (2, .int g2), (3, .ref (ad 8 0)), (4, .int g4), (6, .ref (ad 24 j10))]) C dX11_isKeptAway_107 hl (k := 6) rfl (by rw [ex27]; rfl) (by decide) rfl (onlast 5 rfl rfl rfl) (fun ls hl => ?_)
                  refine lv_goto (tgt := 25) C.x C.b dX11_isKeptAway_110 (by decide) ?_
                  exact ih _ _ _ _ _ Z (lv_sub hl [2, 3, 4, 5, 6, 0] rfl) _ _ hf kx0 kx1
                · replace hf := ite_f hf hc26
                  obtain ⟨rfl, rfl⟩ := pr_s hf
                  exact kx0 rfl _ _ _ Z (lv_sub hl [] rfl)
          clear hf
          refine lv_icmp_eq (tgt := 72) C.x C.b dX11_isKeptAway_60 (by decide) (fun hc28 => ?_) (fun hc28 => ?_)
          · have hf := ite_t hq18 hc28; clear hq18
            refine lv_iconst (v := 1) C.x C.b dX11_isKeptAway_72 (by decide) ?_
            refine lv_goto (tgt := 77) C.x C.b dX11_isKeptAway_73 (by decide) ?_
            obtain ⟨rfl, rfl⟩ := pr_s hf
            exact kq18 _ _ _ Z (lv_sub hl [1, 2, 3, 4, 5, 6, 0] rfl)
          · have hf := ite_f hq18 hc28; clear hq18
            refine lv_aload C.x C.b dX11_isKeptAway_63 (lv_at hl 0 rfl) ?_
            refine z_get C Z (lvC24 hj11) kC24 zc2 zin2 0 (by decide) k_906 rfl svC24_0 dX11_isKeptAway_65 ?_
            refine lv_iconst (v := 2) C.x C.b dX11_isKeptAway_68 (by decide) ?_
            refine lv_icmp_ne (tgt := 76) C.x C.b dX11_isKeptAway_69 (by decide) (fun hc29 => ?_) (fun hc29 => ?_)
            · replace hf := ite_f hf hc29
              refine lv_iconst (v := 0) C.x C.b dX11_isKeptAway_76 (by decide) ?_
              obtain ⟨rfl, rfl⟩ := pr_s hf
              exact kq18 _ _ _ Z (lv_sub hl [1, 2, 3, 4, 5, 6, 0] rfl)
            · replace hf := ite_t hf hc29
              refine lv_iconst (v := 1) C.x C.b dX11_isKeptAway_72 (by decide) ?_
              refine lv_goto (tgt := 77) C.x C.b dX11_isKeptAway_73 (by decide) ?_
              obtain ⟨rfl, rfl⟩ := pr_s hf
              exact kq18 _ _ _ Z (lv_sub hl [1, 2, 3, 4, 5, 6, 0] rfl)
set_option maxRecDepth 100000 in
set_option maxHeartbeats 4000000 in
theorem c_X11_isKeptAway {l : Launch} {K : KG} {ad : Nat → Nat → Nat} {fl : Nat} {a1 : Nat} {a2 : Int32} {M0 : Mem} {r9 : Int32} {M9 : Mem} (hf : f_X11_isKeptAway fl a1 a2 M0 = some (r9, M9)) : Met l yX11_isKeptAway (Cond.code yX11_isKeptAway cX11_isKeptAway 8 (some .boolean) :: ztb) (RM (2) 0 0) (zPc K LC ad M0 [.ref (ad 0 0), rf (ad 24) a1, .int a2]) (zQ K LC ad (some (.int r9)) M9) 0 0 (zA ad) := by
  refine z_enter (by decide) (by simp [lg_sl, rf_cat, cat_i, cat_l, cat_r, cat_n]) ?_
  intro p e s m args below meth c ls C hin hargs Z hl
  replace C : Cx p s m args meth c cX11_isKeptAway 8 "GlassPalace" (some .boolean) := C
  replace hl : lv_has ls 8 [(0, .ref (ad 0 0)), (1, rf (ad 24) a1), (2, .int a2)] := by simpa [lv_args, rf_cat, cat_i, cat_l, cat_r, cat_n] using hl
  have hR : 2 ≤ (RM (2) 0 0).frames ∧ 40 * (2) ≤ (RM (2) 0 0).locals := ⟨Nat.le_refl _, Nat.le_refl _⟩
  have hB : 0 ≤ (RM (2) 0 0).cells ∧ 0 ≤ (RM (2) 0 0).slots := ⟨Nat.zero_le _, Nat.zero_le _⟩
  unfold f_X11_isKeptAway at hf
  refine z_aload_n C dX11_isKeptAway_0 rfl (lv_at hl 1 rfl) ?_
  replace hf := drf_s hf; obtain ⟨j1, ej3, hj2, hf⟩ := hf
  subst ej3
  refine z_nn [] (y := j1 + 1) rfl ?_
  refine z_get C Z (lvC24 hj2) kC24 zc2 zin2 1 (by decide) k_908 rfl svC24_1 dX11_isKeptAway_1 ?_
  refine lv_aload_n C.x C.b dX11_isKeptAway_4 rfl (lv_at hl 0 rfl) ?_
  refine z_get C Z (lvC0 Nat.zero_lt_one) kC0 zc11 zin11 0 (by decide) k_362 rfl svC0_0 dX11_isKeptAway_5 ?_
  refine lv_icmp_ne (tgt := 13) C.x C.b dX11_isKeptAway_8 (by decide) (fun hc4 => ?_) (fun hc4 => ?_)
  · replace hf := ite_f hf hc4
    refine lv_aload_n C.x C.b dX11_isKeptAway_13 rfl (lv_at hl 0 rfl) ?_
    refine z_get C Z (lvC0 Nat.zero_lt_one) kC0 zc11 zin11 9 (by decide) k_371 rfl svC0_9 dX11_isKeptAway_14 ?_
    refine z_rstore_n (lv' := [(3, .ref (ad 8 0)), (0, .ref (ad 0 0)), (1, .ref (ad 24 j1)), (2, .int a2)]) C dX11_isKeptAway_17 rfl hl (by decide) rfl (onlast 2 rfl rfl rfl) (fun ls hl => ?_)
    refine lv_aload_n C.x C.b dX11_isKeptAway_18 rfl (lv_at hl 0 rfl) ?_
    refine z_alen C Z (lvC8 Nat.zero_lt_one) kC8 6 rfl (v := 10) (by decide) dX11_isKeptAway_19 ?_
    refine z_istore (lv' := [(4, .int 10), (3, .ref (ad 8 0)), (0, .ref (ad 0 0)), (1, .ref (ad 24 j1)), (2, .int a2)]) C dX11_isKeptAway_20 hl (by decide) rfl (onlast 0 rfl rfl rfl) (fun ls hl => ?_)
    refine lv_iconst (v := 0) C.x C.b dX11_isKeptAway_22 (by decide) ?_
    refine z_istore (lv' := [(5, .int 0), (4, .int 10), (3, .ref (ad 8 0)), (0, .ref (ad 0 0)), (1, .ref (ad 24 j1)), (2, .int a2)]) C dX11_isKeptAway_23 hl (by decide) rfl (onlast 0 rfl rfl rfl) (fun ls hl => ?_)
    replace hf := bn2_s hf; obtain ⟨q30, m31, hq30, hf⟩ := hf
    refine w_X11_isKeptAway_l25 C hR hB  fl _ _ _ _ _ Z (lv_sub hl [3, 4, 5, 2, 1, 0] rfl) _ _ hq30 (fun ht H locs ls Z hl => ?_) (fun ht H locs ls Z hl => ?_)
    · replace hf := ite_t hf ht
      refine lv_iconst (v := 1) C.x C.b dX11_isKeptAway_105 (by decide) ?_
      obtain ⟨rfl, rfl⟩ := pr_s hf
      exact z_zret C Z rfl dX11_isKeptAway_106
    · replace hf := ite_f hf (by rw [ht]; decide)
      refine lv_iconst (v := 0) C.x C.b dX11_isKeptAway_113 (by decide) ?_
      obtain ⟨rfl, rfl⟩ := pr_s hf
      exact z_zret C Z rfl dX11_isKeptAway_114
  · replace hf := ite_t hf hc4
    refine lv_iconst (v := 1) C.x C.b dX11_isKeptAway_11 (by decide) ?_
    obtain ⟨rfl, rfl⟩ := pr_s hf
    exact z_zret C Z rfl dX11_isKeptAway_12
theorem dX11_work_0 : decode cX11_work 0 = .ok (.aload_n 0, 1) := by decide +kernel
theorem dX11_work_1 : decode cX11_work 1 = .ok (.iload_n 1, 1) := by decide +kernel
theorem dX11_work_2 : decode cX11_work 2 = .ok (.invokevirtual 299, 3) := by decide +kernel
theorem dX11_work_5 : decode cX11_work 5 = .ok (.astore 4, 2) := by decide +kernel
theorem dX11_work_7 : decode cX11_work 7 = .ok (.aload_n 0, 1) := by decide +kernel
theorem dX11_work_8 : decode cX11_work 8 = .ok (.iload_n 2, 1) := by decide +kernel
theorem dX11_work_9 : decode cX11_work 9 = .ok (.invokevirtual 92, 3) := by decide +kernel
theorem dX11_work_12 : decode cX11_work 12 = .ok (.astore 5, 2) := by decide +kernel
theorem dX11_work_14 : decode cX11_work 14 = .ok (.aload_n 0, 1) := by decide +kernel
theorem dX11_work_15 : decode cX11_work 15 = .ok (.iload_n 3, 1) := by decide +kernel
theorem dX11_work_16 : decode cX11_work 16 = .ok (.invokevirtual 122, 3) := by decide +kernel
theorem dX11_work_19 : decode cX11_work 19 = .ok (.astore 6, 2) := by decide +kernel
theorem dX11_work_21 : decode cX11_work 21 = .ok (.aload 4, 2) := by decide +kernel
theorem dX11_work_23 : decode cX11_work 23 = .ok (.ifnull 13, 3) := by decide +kernel
theorem dX11_work_26 : decode cX11_work 26 = .ok (.aload 5, 2) := by decide +kernel
theorem dX11_work_28 : decode cX11_work 28 = .ok (.ifnull 8, 3) := by decide +kernel
theorem dX11_work_31 : decode cX11_work 31 = .ok (.aload 6, 2) := by decide +kernel
theorem dX11_work_33 : decode cX11_work 33 = .ok (.ifnonnull 5, 3) := by decide +kernel
theorem dX11_work_36 : decode cX11_work 36 = .ok (.iconst (-1), 1) := by decide +kernel
theorem dX11_work_37 : decode cX11_work 37 = .ok (.ireturn, 1) := by decide +kernel
theorem dX11_work_38 : decode cX11_work 38 = .ok (.aload 6, 2) := by decide +kernel
theorem dX11_work_40 : decode cX11_work 40 = .ok (.invokevirtual 303, 3) := by decide +kernel
theorem dX11_work_43 : decode cX11_work 43 = .ok (.aload 4, 2) := by decide +kernel
theorem dX11_work_45 : decode cX11_work 45 = .ok (.getfield 306, 3) := by decide +kernel
theorem dX11_work_48 : decode cX11_work 48 = .ok (.if_icmp .eq 6, 3) := by decide +kernel
theorem dX11_work_51 : decode cX11_work 51 = .ok (.bipush (-12), 2) := by decide +kernel
theorem dX11_work_53 : decode cX11_work 53 = .ok (.ireturn, 1) := by decide +kernel
theorem dX11_work_54 : decode cX11_work 54 = .ok (.aload_n 0, 1) := by decide +kernel
theorem dX11_work_55 : decode cX11_work 55 = .ok (.aload 4, 2) := by decide +kernel
theorem dX11_work_57 : decode cX11_work 57 = .ok (.iload_n 2, 1) := by decide +kernel
theorem dX11_work_58 : decode cX11_work 58 = .ok (.invokevirtual 308, 3) := by decide +kernel
theorem dX11_work_61 : decode cX11_work 61 = .ok (.ifCond .eq 6, 3) := by decide +kernel
theorem dX11_work_64 : decode cX11_work 64 = .ok (.bipush (-3), 2) := by decide +kernel
theorem dX11_work_66 : decode cX11_work 66 = .ok (.ireturn, 1) := by decide +kernel
theorem dX11_work_67 : decode cX11_work 67 = .ok (.aload_n 0, 1) := by decide +kernel
theorem dX11_work_68 : decode cX11_work 68 = .ok (.aload 6, 2) := by decide +kernel
theorem dX11_work_70 : decode cX11_work 70 = .ok (.aload 5, 2) := by decide +kernel
theorem dX11_work_72 : decode cX11_work 72 = .ok (.invokevirtual 171, 3) := by decide +kernel
theorem dX11_work_75 : decode cX11_work 75 = .ok (.istore 7, 2) := by decide +kernel
theorem dX11_work_77 : decode cX11_work 77 = .ok (.iload 7, 2) := by decide +kernel
theorem dX11_work_79 : decode cX11_work 79 = .ok (.iconst 1, 1) := by decide +kernel
theorem dX11_work_80 : decode cX11_work 80 = .ok (.if_icmp .eq 6, 3) := by decide +kernel
theorem dX11_work_83 : decode cX11_work 83 = .ok (.iload 7, 2) := by decide +kernel
theorem dX11_work_85 : decode cX11_work 85 = .ok (.ireturn, 1) := by decide +kernel
theorem dX11_work_86 : decode cX11_work 86 = .ok (.aload 4, 2) := by decide +kernel
theorem dX11_work_88 : decode cX11_work 88 = .ok (.invokevirtual 312, 3) := by decide +kernel
theorem dX11_work_91 : decode cX11_work 91 = .ok (.aload 6, 2) := by decide +kernel
theorem dX11_work_93 : decode cX11_work 93 = .ok (.invokevirtual 150, 3) := by decide +kernel
theorem dX11_work_96 : decode cX11_work 96 = .ok (.aload 5, 2) := by decide +kernel
theorem dX11_work_98 : decode cX11_work 98 = .ok (.aload 4, 2) := by decide +kernel
theorem dX11_work_100 : decode cX11_work 100 = .ok (.getfield 306, 3) := by decide +kernel
theorem dX11_work_103 : decode cX11_work 103 = .ok (.invokevirtual 314, 3) := by decide +kernel
theorem dX11_work_106 : decode cX11_work 106 = .ok (.invokestatic 317, 3) := by decide +kernel
theorem dX11_work_109 : decode cX11_work 109 = .ok (.invokestatic 317, 3) := by decide +kernel
theorem dX11_work_112 : decode cX11_work 112 = .ok (.istore 8, 2) := by decide +kernel
theorem dX11_work_114 : decode cX11_work 114 = .ok (.iconst 0, 1) := by decide +kernel
theorem dX11_work_115 : decode cX11_work 115 = .ok (.istore 9, 2) := by decide +kernel
theorem dX11_work_117 : decode cX11_work 117 = .ok (.iload 9, 2) := by decide +kernel
theorem dX11_work_119 : decode cX11_work 119 = .ok (.iload 8, 2) := by decide +kernel
theorem dX11_work_121 : decode cX11_work 121 = .ok (.if_icmp .ge 16, 3) := by decide +kernel
theorem dX11_work_124 : decode cX11_work 124 = .ok (.aload 5, 2) := by decide +kernel
theorem dX11_work_126 : decode cX11_work 126 = .ok (.aload 6, 2) := by decide +kernel
theorem dX11_work_128 : decode cX11_work 128 = .ok (.invokevirtual 175, 3) := by decide +kernel
theorem dX11_work_131 : decode cX11_work 131 = .ok (.iinc 9 1, 3) := by decide +kernel
theorem dX11_work_134 : decode cX11_work 134 = .ok (.goto (-17), 3) := by decide +kernel
theorem dX11_work_137 : decode cX11_work 137 = .ok (.aload 4, 2) := by decide +kernel
theorem dX11_work_139 : decode cX11_work 139 = .ok (.aload_n 0, 1) := by decide +kernel
theorem dX11_work_140 : decode cX11_work 140 = .ok (.getfield 88, 3) := by decide +kernel
theorem dX11_work_143 : decode cX11_work 143 = .ok (.iload_n 2, 1) := by decide +kernel
theorem dX11_work_144 : decode cX11_work 144 = .ok (.iload 8, 2) := by decide +kernel
theorem dX11_work_146 : decode cX11_work 146 = .ok (.invokevirtual 322, 3) := by decide +kernel
theorem dX11_work_149 : decode cX11_work 149 = .ok (.iload 8, 2) := by decide +kernel
theorem dX11_work_151 : decode cX11_work 151 = .ok (.ireturn, 1) := by decide +kernel
set_option maxRecDepth 100000 in
set_option maxHeartbeats 4000000 in
theorem w_X11_work_l117 {p : Program} {l : Launch} {e : Env} {R : Room} {s : State} {m : MethodId} {args : Array Value} {below : List Frame} {meth : Method} {c : Code} {cells slots : Nat} {Q : State → Prop} {K : KG} {ad : Nat → Nat → Nat} {fl : Nat} {g2 : Int32} {g4 : Nat} {g5 : Nat} {g6 : Nat} {g8 : Int32} (C : Cx p s m args meth c cX11_work 10 "GlassPalace" (some .int)) (hR : 7 ≤ R.frames ∧ 40 * (7) ≤ R.locals) (hB : cells ≤ R.cells ∧ slots ≤ R.slots) (hg5 : g5 < 30) : ∀ (n : Nat) (u9 : Int32) (M0 : Mem) (H : Heap) (locs : List Loc) (ls : Array Slot), Zd K LC ad M0 s H locs → lv_has ls 10 [(0, .ref (ad 0 0)), (2, .int g2), (4, rf (ad 24) g4), (5, .ref (ad 13 g5)), (6, rf (ad 23) g6), (8, .int g8), (9, .int u9)] → ∀ (Mq : Mem), f_X11_work_l117 fl g2 g4 g5 g6 g8 n u9 M0 = some Mq → (∀ (H : Heap) (locs : List Loc) (ls : Array Slot), Zd K LC ad Mq s H locs → lv_has ls 10 [(0, .ref (ad 0 0)), (2, .int g2), (4, rf (ad 24) g4), (8, .int g8)] → W p l e R s m args below meth c H locs cells slots Q (F0 m 137 ls [])) → W p l e R s m args below meth c H locs cells slots Q (F0 m 117 ls []) := by
  intro n
  induction n with
  | zero =>
    intro u9 M0 H locs ls Z hl Mq hf
    have hf : (none : Option (Mem)) = some Mq := hf
    cases hf
  | succ n ih =>
    intro u9 M0 H locs ls Z hl Mq hf kx0
    replace hf : f_X11_work_l117_b (f_X11_work_l117 fl g2 g4 g5 g6 g8 n) fl g2 g4 g5 g6 g8 u9 M0 = some Mq := hf
    unfold f_X11_work_l117_b at hf
    refine lv_iload C.x C.b dX11_work_117 (lv_at hl 6 rfl) ?_
    refine lv_iload C.x C.b dX11_work_119 (lv_at hl 5 rfl) ?_
    refine lv_icmp_ge (tgt := 137) C.x C.b dX11_work_121 (by decide) (fun hc38 => ?_) (fun hc38 => ?_)
    · replace hf := ite_t hf hc38
      obtain rfl := sm_s hf
      exact kx0 _ _ _ Z (lv_sub hl [0, 1, 2, 5] rfl)
    · replace hf := ite_f hf hc38
      refine lv_aload C.x C.b dX11_work_124 (lv_at hl 3 rfl) ?_
      refine z_aload C dX11_work_126 (lv_at hl 4 rfl) ?_
      replace hf := bn1_s hf; obtain ⟨m39, hkm39, hf⟩ := hf
      refine z_cV (As := [rf (ad 23) g6]) (rest := []) (st1 := []) C Z mw_X1_put mv_X1_put k_630 (by decide) (z_hR hR (by decide)) (lvC13 hg5) kC13 zc1 (c_X1_put (l := l) (K := K) (ad := ad) hg5 hkm39) rfl hl.1 rfl (Nat.le_of_ble_eq_true rfl) dX11_work_128 hB rfl (fun H locs Z => ?_)
      replace hf := lt1_s hf; obtain ⟨x40, ex40, hf⟩ := hf
      refine z_iinc (v := x40) (lv' := [(9, .int x40), (0, .ref (ad 0 0)), (2, .int g2), (4, rf (ad 24) g4), (5, .ref (ad 13 g5)), (6, rf (ad 23) g6), (8, .int g8)]) C dX11_work_131 hl (k := 6) rfl (by rw [ex40]; rfl) (by decide) rfl (onlast 5 rfl rfl rfl) (fun ls hl => ?_)
      refine lv_goto (tgt := 117) C.x C.b dX11_work_134 (by decide) ?_
      exact ih _ _ _ _ _ Z (lv_sub hl [1, 2, 3, 4, 5, 6, 0] rfl) _ hf kx0
set_option maxRecDepth 100000 in
set_option maxHeartbeats 4000000 in
theorem c_X11_work {l : Launch} {K : KG} {ad : Nat → Nat → Nat} {fl : Nat} {a1 : Int32} {a2 : Int32} {a3 : Int32} {M0 : Mem} {r9 : Int32} {M9 : Mem} (hf : f_X11_work fl a1 a2 a3 M0 = some (r9, M9)) : Met l yX11_work (Cond.code yX11_work cX11_work 10 (some .int) :: ztb) (RM (7) 0 0) (zPc K LC ad M0 [.ref (ad 0 0), .int a1, .int a2, .int a3]) (zQ K LC ad (some (.int r9)) M9) 0 0 (zA ad) := by
  refine z_enter (by decide) (Nat.le_of_ble_eq_true rfl) ?_
  intro p e s m args below meth c ls C hin hargs Z hl
  replace C : Cx p s m args meth c cX11_work 10 "GlassPalace" (some .int) := C
  replace hl : lv_has ls 10 [(0, .ref (ad 0 0)), (1, .int a1), (2, .int a2), (3, .int a3)] := hl
  have hR : 7 ≤ (RM (7) 0 0).frames ∧ 40 * (7) ≤ (RM (7) 0 0).locals := ⟨Nat.le_refl _, Nat.le_refl _⟩
  have hB : 0 ≤ (RM (7) 0 0).cells ∧ 0 ≤ (RM (7) 0 0).slots := ⟨Nat.zero_le _, Nat.zero_le _⟩
  unfold f_X11_work at hf
  refine lv_aload_n C.x C.b dX11_work_0 rfl (lv_at hl 0 rfl) ?_
  refine lv_iload_n C.x C.b dX11_work_1 rfl (lv_at hl 1 rfl) ?_
  replace hf := bn2_s hf; obtain ⟨c2, m1, hkm1, hf⟩ := hf
  refine z_cV (As := [.int a1]) (rest := []) (st1 := [rf (ad 24) c2]) C Z mw_X11_gangOf mv_X11_gangOf k_928 (by decide) (z_hR hR (by decide)) (lvC0 Nat.zero_lt_one) kC0 zc11 (c_X11_gangOf (l := l) (K := K) (ad := ad) hkm1) rfl hl.1 rfl (Nat.le_of_ble_eq_true rfl) dX11_work_2 hB rfl (fun H locs Z => ?_)
  refine z_cstore (lv' := [(4, rf (ad 24) c2), (0, .ref (ad 0 0)), (1, .int a1), (2, .int a2), (3, .int a3)]) C dX11_work_5 hl (by decide) rfl (onlast 3 rfl rfl rfl) (fun ls hl => ?_)
  refine lv_aload_n C.x C.b dX11_work_7 rfl (lv_at hl 1 rfl) ?_
  refine lv_iload_n C.x C.b dX11_work_8 rfl (lv_at hl 3 rfl) ?_
  replace hf := bn2_s hf; obtain ⟨c4, m3, hkm3, hf⟩ := hf
  refine z_cV (As := [.int a2]) (rest := []) (st1 := [rf (ad 13) c4]) C Z mw_X11_bayOf mv_X11_bayOf k_416 (by decide) (z_hR hR (by decide)) (lvC0 Nat.zero_lt_one) kC0 zc11 (c_X11_bayOf (l := l) (K := K) (ad := ad) hkm3) rfl hl.1 rfl (Nat.le_of_ble_eq_true rfl) dX11_work_9 hB rfl (fun H locs Z => ?_)
  refine z_cstore (lv' := [(5, rf (ad 13) c4), (4, rf (ad 24) c2), (0, .ref (ad 0 0)), (1, .int a1), (2, .int a2), (3, .int a3)]) C dX11_work_12 hl (by decide) rfl (onlast 0 rfl (rf_cat _ _) rfl) (fun ls hl => ?_)
  refine lv_aload_n C.x C.b dX11_work_14 rfl (lv_at hl 2 rfl) ?_
  refine lv_iload_n C.x C.b dX11_work_15 rfl (lv_at hl 5 rfl) ?_
  replace hf := bn2_s hf; obtain ⟨c6, m5, hkm5, hf⟩ := hf
  refine z_cV (As := [.int a3]) (rest := []) (st1 := [rf (ad 23) c6]) C Z mw_X11_lotOf mv_X11_lotOf k_512 (by decide) (z_hR hR (by decide)) (lvC0 Nat.zero_lt_one) kC0 zc11 (c_X11_lotOf (l := l) (K := K) (ad := ad) hkm5) rfl hl.1 rfl (Nat.le_of_ble_eq_true rfl) dX11_work_16 hB rfl (fun H locs Z => ?_)
  refine z_cstore (lv' := [(6, rf (ad 23) c6), (5, rf (ad 13) c4), (4, rf (ad 24) c2), (0, .ref (ad 0 0)), (1, .int a1), (2, .int a2), (3, .int a3)]) C dX11_work_19 hl (by decide) rfl (onlast 0 rfl (rf_cat _ _) rfl) (fun ls hl => ?_)
  refine z_aload C dX11_work_21 (lv_at hl 2 rfl) ?_
  refine z_ifnull C dX11_work_23 (tgt := 36) (by decide) (fun hc7 => ?_) (fun hc7 => ?_)
  · replace hf := ite_t hf hc7
    refine lv_iconst (v := (-1)) C.x C.b dX11_work_36 (by decide) ?_
    obtain ⟨rfl, rfl⟩ := pr_s hf
    exact z_iret C Z dX11_work_37
  · replace hf := ite_f hf hc7
    refine z_aload C dX11_work_26 (lv_at hl 1 rfl) ?_
    refine z_ifnull C dX11_work_28 (tgt := 36) (by decide) (fun hc8 => ?_) (fun hc8 => ?_)
    · replace hf := ite_t hf hc8
      refine lv_iconst (v := (-1)) C.x C.b dX11_work_36 (by decide) ?_
      obtain ⟨rfl, rfl⟩ := pr_s hf
      exact z_iret C Z dX11_work_37
    · replace hf := ite_f hf hc8
      refine z_aload C dX11_work_31 (lv_at hl 0 rfl) ?_
      refine z_ifnonnull C dX11_work_33 (tgt := 38) (by decide) (fun hc9 => ?_) (fun hc9 => ?_)
      · replace hf := ite_f hf hc9
        refine z_aload C dX11_work_38 (lv_at hl 0 rfl) ?_
        replace hf := drf_s hf; obtain ⟨j10, ej12, hj11, hf⟩ := hf
        subst ej12
        refine z_nn [] (y := j10 + 1) rfl ?_
        replace hf := bn2_s hf; obtain ⟨v14, m13, hkm13, hf⟩ := hf
        refine z_cV (As := []) (rest := []) (st1 := [.int v14]) C Z mw_X4_place mv_X4_place k_601 (by decide) (z_hR hR (by decide)) (lvC23 hj11) kC23 zc4 (c_X4_place (l := l) (K := K) (ad := ad) hj11 hkm13) rfl hl.1 rfl (Nat.le_of_ble_eq_true rfl) dX11_work_40 hB rfl (fun H locs Z => ?_)
        refine z_aload C dX11_work_43 (lv_at hl 2 rfl) ?_
        replace hf := drf_s hf; obtain ⟨j15, ej17, hj16, hf⟩ := hf
        subst ej17
        refine z_nn [] (y := j15 + 1) rfl ?_
        refine z_get C Z (lvC24 hj16) kC24 zc2 zin2 0 (by decide) k_906 rfl svC24_0 dX11_work_45 ?_
        refine lv_icmp_eq (tgt := 54) C.x C.b dX11_work_48 (by decide) (fun hc18 => ?_) (fun hc18 => ?_)
        · replace hf := ite_t hf hc18
          refine lv_aload_n C.x C.b dX11_work_54 rfl (lv_at hl 3 rfl) ?_
          refine lv_aload C.x C.b dX11_work_55 (lv_at hl 2 rfl) ?_
          refine lv_iload_n C.x C.b dX11_work_57 rfl (lv_at hl 5 rfl) ?_
          replace hf := bn2_s hf; obtain ⟨v20, m19, hkm19, hf⟩ := hf
          refine z_cV (As := [.ref (ad 24 j15), .int a2]) (rest := []) (st1 := [.int v20]) C Z mw_X11_isKeptAway mv_X11_isKeptAway k_932 (by decide) (z_hR hR (by decide)) (lvC0 Nat.zero_lt_one) kC0 zc11 (c_X11_isKeptAway (l := l) (K := K) (ad := ad) hkm19) rfl hl.1 rfl (Nat.le_of_ble_eq_true rfl) dX11_work_58 hB rfl (fun H locs Z => ?_)
          refine lv_if_eq (tgt := 67) C.x C.b dX11_work_61 (by decide) (fun hc21 => ?_) (fun hc21 => ?_)
          · replace hf := ite_t hf hc21
            refine lv_aload_n C.x C.b dX11_work_67 rfl (lv_at hl 3 rfl) ?_
            refine lv_aload C.x C.b dX11_work_68 (lv_at hl 0 rfl) ?_
            refine z_aload C dX11_work_70 (lv_at hl 1 rfl) ?_
            replace hf := bn2_s hf; obtain ⟨v23, m22, hkm22, hf⟩ := hf
            refine z_cV (As := [.ref (ad 23 j10), rf (ad 13) c4]) (rest := []) (st1 := [.int v23]) C Z mw_X11_hindrance mv_X11_hindrance k_597 (by decide) (z_hR hR (by decide)) (lvC0 Nat.zero_lt_one) kC0 zc11 (c_X11_hindrance (l := l) (K := K) (ad := ad) hkm22) rfl hl.1 rfl (Nat.le_of_ble_eq_true rfl) dX11_work_72 hB rfl (fun H locs Z => ?_)
            refine z_istore (lv' := [(7, .int v23), (6, .ref (ad 23 j10)), (5, rf (ad 13) c4), (4, .ref (ad 24 j15)), (0, .ref (ad 0 0)), (1, .int a1), (2, .int a2), (3, .int a3)]) C dX11_work_75 hl (by decide) rfl (onlast 0 rfl rfl rfl) (fun ls hl => ?_)
            refine lv_iload C.x C.b dX11_work_77 (lv_at hl 0 rfl) ?_
            refine lv_iconst (v := 1) C.x C.b dX11_work_79 (by decide) ?_
            refine lv_icmp_eq (tgt := 86) C.x C.b dX11_work_80 (by decide) (fun hc24 => ?_) (fun hc24 => ?_)
            · replace hf := ite_t hf hc24
              refine lv_aload C.x C.b dX11_work_86 (lv_at hl 3 rfl) ?_
              replace hf := asr_s hf; obtain ⟨hq25, hf⟩ := hf
              replace hf := bn2_s hf; obtain ⟨v27, m26, hkm26, hf⟩ := hf
              refine z_cV (As := []) (rest := []) (st1 := [.int v27]) C Z mw_X2_pieces mv_X2_pieces k_936 (by decide) (z_hR hR (by decide)) (lvC24 hq25) kC24 zc2 (c_X2_pieces (l := l) (K := K) (ad := ad) hq25 hkm26) rfl hl.1 rfl (Nat.le_of_ble_eq_true rfl) dX11_work_88 hB rfl (fun H locs Z => ?_)
              refine lv_aload C.x C.b dX11_work_91 (lv_at hl 1 rfl) ?_
              replace hf := asr_s hf; obtain ⟨hq28, hf⟩ := hf
              replace hf := bn2_s hf; obtain ⟨v30, m29, hkm29, hf⟩ := hf
              refine z_cV (As := []) (rest := [.int v27]) (st1 := [.int v30, .int v27]) C Z mw_X4_stock mv_X4_stock k_524 (by decide) (z_hR hR (by decide)) (lvC23 hq28) kC23 zc4 (c_X4_stock (l := l) (K := K) (ad := ad) hq28 hkm29) rfl hl.1 rfl (Nat.le_of_ble_eq_true rfl) dX11_work_93 hB rfl (fun H locs Z => ?_)
              refine z_aload C dX11_work_96 (lv_at hl 2 rfl) ?_
              refine lv_aload C.x C.b dX11_work_98 (lv_at hl 3 rfl) ?_
              replace hf := asr_s hf; obtain ⟨hq31, hf⟩ := hf
              refine z_get C Z (lvC24 hq31) kC24 zc2 zin2 0 (by decide) k_906 rfl svC24_0 dX11_work_100 ?_
              replace hf := drf_s hf; obtain ⟨j32, ej34, hj33, hf⟩ := hf
              subst ej34
              refine z_nn [.int (gI m29 24 j15 0)] (y := j32 + 1) rfl ?_
              replace hf := bn2_s hf; obtain ⟨v36, m35, hkm35, hf⟩ := hf
              refine z_cV (As := [.int (gI m29 24 j15 0)]) (rest := [.int v30, .int v27]) (st1 := [.int v36, .int v30, .int v27]) C Z mw_X1_room mv_X1_room k_605 (by decide) (z_hR hR (by decide)) (lvC13 hj33) kC13 zc1 (c_X1_room (l := l) (K := K) (ad := ad) hj33 hkm35) rfl hl.1 rfl (Nat.le_of_ble_eq_true rfl) dX11_work_103 hB rfl (fun H locs Z => ?_)
              refine z_min C k_941 k_885 k_115 k_886 hl.1 hR (by decide) (Nat.le_of_ble_eq_true rfl) hB dX11_work_106 ?_
              refine z_min C k_941 k_885 k_115 k_886 hl.1 hR (by decide) (Nat.le_of_ble_eq_true rfl) hB dX11_work_109 ?_
              replace hf := lt1_s hf; obtain ⟨x37, ex37, hf⟩ := hf
              refine z_renI ex37 ?_
              refine z_istore (lv' := [(8, .int x37), (7, .int v23), (6, .ref (ad 23 j10)), (5, .ref (ad 13 j32)), (4, .ref (ad 24 j15)), (0, .ref (ad 0 0)), (1, .int a1), (2, .int a2), (3, .int a3)]) C dX11_work_112 hl (by decide) rfl (onlast 0 rfl rfl rfl) (fun ls hl => ?_)
              refine lv_iconst (v := 0) C.x C.b dX11_work_114 (by decide) ?_
              refine z_istore (lv' := [(9, .int 0), (8, .int x37), (7, .int v23), (6, .ref (ad 23 j10)), (5, .ref (ad 13 j32)), (4, .ref (ad 24 j15)), (0, .ref (ad 0 0)), (1, .int a1), (2, .int a2), (3, .int a3)]) C dX11_work_115 hl (by decide) rfl (onlast 0 rfl rfl rfl) (fun ls hl => ?_)
              replace hf := bn1_s hf; obtain ⟨m42, hq41, hf⟩ := hf
              refine w_X11_work_l117 C hR hB hj33 fl _ _ _ _ _ Z (lv_sub hl [6, 8, 5, 4, 3, 1, 0] rfl) _ hq41 (fun H locs ls Z hl => ?_)
              refine z_aload C dX11_work_137 (lv_at hl 2 rfl) ?_
              refine lv_aload_n C.x C.b dX11_work_139 rfl (lv_at hl 0 rfl) ?_
              refine z_get C Z (lvC0 Nat.zero_lt_one) kC0 zc11 zin11 0 (by decide) k_362 rfl svC0_0 dX11_work_140 ?_
              refine lv_iload_n C.x C.b dX11_work_143 rfl (lv_at hl 1 rfl) ?_
              refine lv_iload C.x C.b dX11_work_144 (lv_at hl 3 rfl) ?_
              replace hf := drf_s hf; obtain ⟨j43, ej45, hj44, hf⟩ := hf
              refine z_nn [.int x37, .int a2, .int (gI m42 0 0 0)] ej45 ?_
              replace hf := bn1_s hf; obtain ⟨m46, hkm46, hf⟩ := hf
              refine z_cV (As := [.int (gI m42 0 0 0), .int a2, .int x37]) (rest := []) (st1 := []) C Z mw_X2_worked mv_X2_worked k_942 (by decide) (z_hR hR (by decide)) (lvC24 hj44) kC24 zc2 (c_X2_worked (l := l) (K := K) (ad := ad) hj44 hkm46) rfl hl.1 rfl (Nat.le_of_ble_eq_true rfl) dX11_work_146 hB rfl (fun H locs Z => ?_)
              refine lv_iload C.x C.b dX11_work_149 (lv_at hl 3 rfl) ?_
              obtain ⟨rfl, rfl⟩ := pr_s hf
              exact z_iret C Z dX11_work_151
            · replace hf := ite_f hf hc24
              refine lv_iload C.x C.b dX11_work_83 (lv_at hl 0 rfl) ?_
              obtain ⟨rfl, rfl⟩ := pr_s hf
              exact z_iret C Z dX11_work_85
          · replace hf := ite_f hf hc21
            refine lv_bipush (v := (-3)) C.x C.b dX11_work_64 (by decide) ?_
            obtain ⟨rfl, rfl⟩ := pr_s hf
            exact z_iret C Z dX11_work_66
        · replace hf := ite_f hf hc18
          refine lv_bipush (v := (-12)) C.x C.b dX11_work_51 (by decide) ?_
          obtain ⟨rfl, rfl⟩ := pr_s hf
          exact z_iret C Z dX11_work_53
      · replace hf := ite_t hf hc9
        refine lv_iconst (v := (-1)) C.x C.b dX11_work_36 (by decide) ?_
        obtain ⟨rfl, rfl⟩ := pr_s hf
        exact z_iret C Z dX11_work_37
theorem dX11_pace_0 : decode cX11_pace 0 = .ok (.aload_n 0, 1) := by decide +kernel
theorem dX11_pace_1 : decode cX11_pace 1 = .ok (.iload_n 1, 1) := by decide +kernel
theorem dX11_pace_2 : decode cX11_pace 2 = .ok (.invokevirtual 299, 3) := by decide +kernel
theorem dX11_pace_5 : decode cX11_pace 5 = .ok (.astore_n 2, 1) := by decide +kernel
theorem dX11_pace_6 : decode cX11_pace 6 = .ok (.aload_n 2, 1) := by decide +kernel
theorem dX11_pace_7 : decode cX11_pace 7 = .ok (.ifnonnull 7, 3) := by decide +kernel
theorem dX11_pace_10 : decode cX11_pace 10 = .ok (.iconst (-1), 1) := by decide +kernel
theorem dX11_pace_11 : decode cX11_pace 11 = .ok (.goto 7, 3) := by decide +kernel
theorem dX11_pace_14 : decode cX11_pace 14 = .ok (.aload_n 2, 1) := by decide +kernel
theorem dX11_pace_15 : decode cX11_pace 15 = .ok (.invokevirtual 312, 3) := by decide +kernel
theorem dX11_pace_18 : decode cX11_pace 18 = .ok (.ireturn, 1) := by decide +kernel
set_option maxRecDepth 100000 in
set_option maxHeartbeats 4000000 in
theorem c_X11_pace {l : Launch} {K : KG} {ad : Nat → Nat → Nat} {fl : Nat} {a1 : Int32} {M0 : Mem} {r9 : Int32} {M9 : Mem} (hf : f_X11_pace fl a1 M0 = some (r9, M9)) : Met l yX11_pace (Cond.code yX11_pace cX11_pace 3 (some .int) :: ztb) (RM (2) 0 0) (zPc K LC ad M0 [.ref (ad 0 0), .int a1]) (zQ K LC ad (some (.int r9)) M9) 0 0 (zA ad) := by
  refine z_enter (by decide) (Nat.le_of_ble_eq_true rfl) ?_
  intro p e s m args below meth c ls C hin hargs Z hl
  replace C : Cx p s m args meth c cX11_pace 3 "GlassPalace" (some .int) := C
  replace hl : lv_has ls 3 [(0, .ref (ad 0 0)), (1, .int a1)] := hl
  have hR : 2 ≤ (RM (2) 0 0).frames ∧ 40 * (2) ≤ (RM (2) 0 0).locals := ⟨Nat.le_refl _, Nat.le_refl _⟩
  have hB : 0 ≤ (RM (2) 0 0).cells ∧ 0 ≤ (RM (2) 0 0).slots := ⟨Nat.zero_le _, Nat.zero_le _⟩
  unfold f_X11_pace at hf
  refine lv_aload_n C.x C.b dX11_pace_0 rfl (lv_at hl 0 rfl) ?_
  refine lv_iload_n C.x C.b dX11_pace_1 rfl (lv_at hl 1 rfl) ?_
  replace hf := bn2_s hf; obtain ⟨c2, m1, hkm1, hf⟩ := hf
  refine z_cV (As := [.int a1]) (rest := []) (st1 := [rf (ad 24) c2]) C Z mw_X11_gangOf mv_X11_gangOf k_928 (by decide) (z_hR hR (by decide)) (lvC0 Nat.zero_lt_one) kC0 zc11 (c_X11_gangOf (l := l) (K := K) (ad := ad) hkm1) rfl hl.1 rfl (Nat.le_of_ble_eq_true rfl) dX11_pace_2 hB rfl (fun H locs Z => ?_)
  refine z_cstore_n (lv' := [(2, rf (ad 24) c2), (0, .ref (ad 0 0)), (1, .int a1)]) C dX11_pace_5 rfl hl (by decide) rfl (onlast 1 rfl rfl rfl) (fun ls hl => ?_)
  refine z_aload_n C dX11_pace_6 rfl (lv_at hl 0 rfl) ?_
  refine z_ifnonnull C dX11_pace_7 (tgt := 14) (by decide) (fun hc3 => ?_) (fun hc3 => ?_)
  · replace hf := ite_f hf hc3
    refine z_aload_n C dX11_pace_14 rfl (lv_at hl 0 rfl) ?_
    replace hf := drf_s hf; obtain ⟨j4, ej6, hj5, hf⟩ := hf
    subst ej6
    refine z_nn [] (y := j4 + 1) rfl ?_
    replace hf := bn2_s hf; obtain ⟨v8, m7, hkm7, hf⟩ := hf
    refine z_cV (As := []) (rest := []) (st1 := [.int v8]) C Z mw_X2_pieces mv_X2_pieces k_936 (by decide) (z_hR hR (by decide)) (lvC24 hj5) kC24 zc2 (c_X2_pieces (l := l) (K := K) (ad := ad) hj5 hkm7) rfl hl.1 rfl (Nat.le_of_ble_eq_true rfl) dX11_pace_15 hB rfl (fun H locs Z => ?_)
    obtain ⟨rfl, rfl⟩ := pr_s hf
    exact z_iret C Z dX11_pace_18
  · replace hf := ite_t hf hc3
    refine lv_iconst (v := (-1)) C.x C.b dX11_pace_10 (by decide) ?_
    refine lv_goto (tgt := 18) C.x C.b dX11_pace_11 (by decide) ?_
    obtain ⟨rfl, rfl⟩ := pr_s hf
    exact z_iret C Z dX11_pace_18
theorem dX11_want_0 : decode cX11_want 0 = .ok (.iload_n 1, 1) := by decide +kernel
theorem dX11_want_1 : decode cX11_want 1 = .ok (.invokestatic 179, 3) := by decide +kernel
theorem dX11_want_4 : decode cX11_want 4 = .ok (.ifCond .ne 5, 3) := by decide +kernel
theorem dX11_want_7 : decode cX11_want 7 = .ok (.iconst (-1), 1) := by decide +kernel
theorem dX11_want_8 : decode cX11_want 8 = .ok (.ireturn, 1) := by decide +kernel
theorem dX11_want_9 : decode cX11_want 9 = .ok (.iload_n 2, 1) := by decide +kernel
theorem dX11_want_10 : decode cX11_want 10 = .ok (.invokestatic 113, 3) := by decide +kernel
theorem dX11_want_13 : decode cX11_want 13 = .ok (.ifCond .eq 10, 3) := by decide +kernel
theorem dX11_want_16 : decode cX11_want 16 = .ok (.iload_n 3, 1) := by decide +kernel
theorem dX11_want_17 : decode cX11_want 17 = .ok (.invokestatic 207, 3) := by decide +kernel
theorem dX11_want_20 : decode cX11_want 20 = .ok (.ifCond .ne 6, 3) := by decide +kernel
theorem dX11_want_23 : decode cX11_want 23 = .ok (.bipush (-2), 2) := by decide +kernel
theorem dX11_want_25 : decode cX11_want 25 = .ok (.ireturn, 1) := by decide +kernel
theorem dX11_want_26 : decode cX11_want 26 = .ok (.aload_n 0, 1) := by decide +kernel
theorem dX11_want_27 : decode cX11_want 27 = .ok (.getfield 60, 3) := by decide +kernel
theorem dX11_want_30 : decode cX11_want 30 = .ok (.iload_n 1, 1) := by decide +kernel
theorem dX11_want_31 : decode cX11_want 31 = .ok (.iload_n 2, 1) := by decide +kernel
theorem dX11_want_32 : decode cX11_want 32 = .ok (.iload_n 3, 1) := by decide +kernel
theorem dX11_want_33 : decode cX11_want 33 = .ok (.invokevirtual 326, 3) := by decide +kernel
theorem dX11_want_36 : decode cX11_want 36 = .ok (.ifCond .eq 13, 3) := by decide +kernel
theorem dX11_want_39 : decode cX11_want 39 = .ok (.aload_n 0, 1) := by decide +kernel
theorem dX11_want_40 : decode cX11_want 40 = .ok (.getfield 60, 3) := by decide +kernel
theorem dX11_want_43 : decode cX11_want 43 = .ok (.getfield 330, 3) := by decide +kernel
theorem dX11_want_46 : decode cX11_want 46 = .ok (.goto 5, 3) := by decide +kernel
theorem dX11_want_49 : decode cX11_want 49 = .ok (.bipush (-4), 2) := by decide +kernel
theorem dX11_want_51 : decode cX11_want 51 = .ok (.ireturn, 1) := by decide +kernel
set_option maxRecDepth 100000 in
set_option maxHeartbeats 4000000 in
theorem c_X11_want {l : Launch} {K : KG} {ad : Nat → Nat → Nat} {fl : Nat} {a1 : Int32} {a2 : Int32} {a3 : Int32} {M0 : Mem} {r9 : Int32} {M9 : Mem} (hf : f_X11_want fl a1 a2 a3 M0 = some (r9, M9)) : Met l yX11_want (Cond.code yX11_want cX11_want 4 (some .int) :: ztb) (RM (2) 0 0) (zPc K LC ad M0 [.ref (ad 0 0), .int a1, .int a2, .int a3]) (zQ K LC ad (some (.int r9)) M9) 0 0 (zA ad) := by
  refine z_enter (by decide) (Nat.le_of_ble_eq_true rfl) ?_
  intro p e s m args below meth c ls C hin hargs Z hl
  replace C : Cx p s m args meth c cX11_want 4 "GlassPalace" (some .int) := C
  replace hl : lv_has ls 4 [(0, .ref (ad 0 0)), (1, .int a1), (2, .int a2), (3, .int a3)] := hl
  have hR : 2 ≤ (RM (2) 0 0).frames ∧ 40 * (2) ≤ (RM (2) 0 0).locals := ⟨Nat.le_refl _, Nat.le_refl _⟩
  have hB : 0 ≤ (RM (2) 0 0).cells ∧ 0 ≤ (RM (2) 0 0).slots := ⟨Nat.zero_le _, Nat.zero_le _⟩
  unfold f_X11_want at hf
  refine lv_iload_n C.x C.b dX11_want_0 rfl (lv_at hl 1 rfl) ?_
  replace hf := bn2_s hf; obtain ⟨v2, m1, hkm1, hf⟩ := hf
  refine z_cS (As := [.int a1]) (rest := []) (st1 := [.int v2]) C Z mw_X11_isPlace mv_X11_isPlace k_640 (by decide) (z_hR hR (by decide)) (c_X11_isPlace (l := l) (K := K) (ad := ad) hkm1) rfl hl.1 rfl (Nat.le_of_ble_eq_true rfl) dX11_want_1 hB rfl (fun H locs Z => ?_)
  refine lv_if_ne (tgt := 9) C.x C.b dX11_want_4 (by decide) (fun hc3 => ?_) (fun hc3 => ?_)
  · replace hf := ite_f hf hc3
    refine lv_iload_n C.x C.b dX11_want_9 rfl (lv_at hl 2 rfl) ?_
    replace hf := bn2_s hf; obtain ⟨v5, m4, hkm4, hf⟩ := hf
    refine z_cS (As := [.int a2]) (rest := []) (st1 := [.int v5]) C Z mw_X11_isNumberOfPieces mv_X11_isNumberOfPieces k_449 (by decide) (z_hR hR (by decide)) (c_X11_isNumberOfPieces (l := l) (K := K) (ad := ad) hkm4) rfl hl.1 rfl (Nat.le_of_ble_eq_true rfl) dX11_want_10 hB rfl (fun H locs Z => ?_)
    refine lv_if_eq (tgt := 23) C.x C.b dX11_want_13 (by decide) (fun hc6 => ?_) (fun hc6 => ?_)
    · replace hf := ite_t hf hc6
      refine lv_bipush (v := (-2)) C.x C.b dX11_want_23 (by decide) ?_
      obtain ⟨rfl, rfl⟩ := pr_s hf
      exact z_iret C Z dX11_want_25
    · replace hf := ite_f hf hc6
      refine lv_iload_n C.x C.b dX11_want_16 rfl (lv_at hl 3 rfl) ?_
      replace hf := bn2_s hf; obtain ⟨v8, m7, hkm7, hf⟩ := hf
      refine z_cS (As := [.int a3]) (rest := []) (st1 := [.int v8]) C Z mw_X11_isDay mv_X11_isDay k_685 (by decide) (z_hR hR (by decide)) (c_X11_isDay (l := l) (K := K) (ad := ad) hkm7) rfl hl.1 rfl (Nat.le_of_ble_eq_true rfl) dX11_want_17 hB rfl (fun H locs Z => ?_)
      refine lv_if_ne (tgt := 26) C.x C.b dX11_want_20 (by decide) (fun hc9 => ?_) (fun hc9 => ?_)
      · replace hf := ite_f hf hc9
        refine lv_aload_n C.x C.b dX11_want_26 rfl (lv_at hl 0 rfl) ?_
        refine z_get C Z (lvC0 Nat.zero_lt_one) kC0 zc11 zin11 11 (by decide) k_373 rfl svC0_11 dX11_want_27 ?_
        refine lv_iload_n C.x C.b dX11_want_30 rfl (lv_at hl 1 rfl) ?_
        refine lv_iload_n C.x C.b dX11_want_31 rfl (lv_at hl 2 rfl) ?_
        refine lv_iload_n C.x C.b dX11_want_32 rfl (lv_at hl 3 rfl) ?_
        replace hf := bn2_s hf; obtain ⟨v11, m10, hkm10, hf⟩ := hf
        refine z_cV (As := [.int a1, .int a2, .int a3]) (rest := []) (st1 := [.int v11]) C Z mw_X6_addRow mv_X6_addRow k_954 (by decide) (z_hR hR (by decide)) (lvC9 Nat.zero_lt_one) kC9 zc6 (c_X6_addRow (l := l) (K := K) (ad := ad) hkm10) rfl hl.1 rfl (Nat.le_of_ble_eq_true rfl) dX11_want_33 hB rfl (fun H locs Z => ?_)
        refine lv_if_eq (tgt := 49) C.x C.b dX11_want_36 (by decide) (fun hc12 => ?_) (fun hc12 => ?_)
        · replace hf := ite_t hf hc12
          refine lv_bipush (v := (-4)) C.x C.b dX11_want_49 (by decide) ?_
          obtain ⟨rfl, rfl⟩ := pr_s hf
          exact z_iret C Z dX11_want_51
        · replace hf := ite_f hf hc12
          refine lv_aload_n C.x C.b dX11_want_39 rfl (lv_at hl 0 rfl) ?_
          refine z_get C Z (lvC0 Nat.zero_lt_one) kC0 zc11 zin11 11 (by decide) k_373 rfl svC0_11 dX11_want_40 ?_
          refine z_get C Z (lvC9 Nat.zero_lt_one) kC9 zc6 zin6 0 (by decide) k_235 rfl svC9_0 dX11_want_43 ?_
          refine lv_goto (tgt := 51) C.x C.b dX11_want_46 (by decide) ?_
          obtain ⟨rfl, rfl⟩ := pr_s hf
          exact z_iret C Z dX11_want_51
      · replace hf := ite_t hf hc9
        refine lv_bipush (v := (-2)) C.x C.b dX11_want_23 (by decide) ?_
        obtain ⟨rfl, rfl⟩ := pr_s hf
        exact z_iret C Z dX11_want_25
  · replace hf := ite_t hf hc3
    refine lv_iconst (v := (-1)) C.x C.b dX11_want_7 (by decide) ?_
    obtain ⟨rfl, rfl⟩ := pr_s hf
    exact z_iret C Z dX11_want_8
theorem dX11_comingDay_0 : decode cX11_comingDay 0 = .ok (.aload_n 1, 1) := by decide +kernel
theorem dX11_comingDay_1 : decode cX11_comingDay 1 = .ok (.invokevirtual 129, 3) := by decide +kernel
theorem dX11_comingDay_4 : decode cX11_comingDay 4 = .ok (.ifCond .ne 13, 3) := by decide +kernel
theorem dX11_comingDay_7 : decode cX11_comingDay 7 = .ok (.aload_n 1, 1) := by decide +kernel
theorem dX11_comingDay_8 : decode cX11_comingDay 8 = .ok (.getfield 141, 3) := by decide +kernel
theorem dX11_comingDay_11 : decode cX11_comingDay 11 = .ok (.invokestatic 106, 3) := by decide +kernel
theorem dX11_comingDay_14 : decode cX11_comingDay 14 = .ok (.ifCond .ne 8, 3) := by decide +kernel
theorem dX11_comingDay_17 : decode cX11_comingDay 17 = .ok (.aload_n 1, 1) := by decide +kernel
theorem dX11_comingDay_18 : decode cX11_comingDay 18 = .ok (.getfield 132, 3) := by decide +kernel
theorem dX11_comingDay_21 : decode cX11_comingDay 21 = .ok (.ireturn, 1) := by decide +kernel
theorem dX11_comingDay_22 : decode cX11_comingDay 22 = .ok (.aload_n 1, 1) := by decide +kernel
theorem dX11_comingDay_23 : decode cX11_comingDay 23 = .ok (.getfield 126, 3) := by decide +kernel
theorem dX11_comingDay_26 : decode cX11_comingDay 26 = .ok (.iload_n 2, 1) := by decide +kernel
theorem dX11_comingDay_27 : decode cX11_comingDay 27 = .ok (.ifCond .eq 15, 3) := by decide +kernel
theorem dX11_comingDay_30 : decode cX11_comingDay 30 = .ok (.aload_n 0, 1) := by decide +kernel
theorem dX11_comingDay_31 : decode cX11_comingDay 31 = .ok (.getfield 15, 3) := by decide +kernel
theorem dX11_comingDay_34 : decode cX11_comingDay 34 = .ok (.aload_n 1, 1) := by decide +kernel
theorem dX11_comingDay_35 : decode cX11_comingDay 35 = .ok (.getfield 141, 3) := by decide +kernel
theorem dX11_comingDay_38 : decode cX11_comingDay 38 = .ok (.iaload, 1) := by decide +kernel
theorem dX11_comingDay_39 : decode cX11_comingDay 39 = .ok (.goto 12, 3) := by decide +kernel
theorem dX11_comingDay_42 : decode cX11_comingDay 42 = .ok (.aload_n 0, 1) := by decide +kernel
theorem dX11_comingDay_43 : decode cX11_comingDay 43 = .ok (.getfield 11, 3) := by decide +kernel
theorem dX11_comingDay_46 : decode cX11_comingDay 46 = .ok (.aload_n 1, 1) := by decide +kernel
theorem dX11_comingDay_47 : decode cX11_comingDay 47 = .ok (.getfield 141, 3) := by decide +kernel
theorem dX11_comingDay_50 : decode cX11_comingDay 50 = .ok (.iaload, 1) := by decide +kernel
theorem dX11_comingDay_51 : decode cX11_comingDay 51 = .ok (.iadd, 1) := by decide +kernel
theorem dX11_comingDay_52 : decode cX11_comingDay 52 = .ok (.ireturn, 1) := by decide +kernel
set_option maxRecDepth 100000 in
set_option maxHeartbeats 4000000 in
theorem c_X11_comingDay {l : Launch} {K : KG} {ad : Nat → Nat → Nat} {fl : Nat} {a1 : Nat} {a2 : Int32} {M0 : Mem} {r9 : Int32} {M9 : Mem} (hf : f_X11_comingDay fl a1 a2 M0 = some (r9, M9)) : Met l yX11_comingDay (Cond.code yX11_comingDay cX11_comingDay 3 (some .int) :: ztb) (RM (2) 0 0) (zPc K LC ad M0 [.ref (ad 0 0), rf (ad 23) a1, .int a2]) (zQ K LC ad (some (.int r9)) M9) 0 0 (zA ad) := by
  refine z_enter (by decide) (by simp [lg_sl, rf_cat, cat_i, cat_l, cat_r, cat_n]) ?_
  intro p e s m args below meth c ls C hin hargs Z hl
  replace C : Cx p s m args meth c cX11_comingDay 3 "GlassPalace" (some .int) := C
  replace hl : lv_has ls 3 [(0, .ref (ad 0 0)), (1, rf (ad 23) a1), (2, .int a2)] := by simpa [lv_args, rf_cat, cat_i, cat_l, cat_r, cat_n] using hl
  have hR : 2 ≤ (RM (2) 0 0).frames ∧ 40 * (2) ≤ (RM (2) 0 0).locals := ⟨Nat.le_refl _, Nat.le_refl _⟩
  have hB : 0 ≤ (RM (2) 0 0).cells ∧ 0 ≤ (RM (2) 0 0).slots := ⟨Nat.zero_le _, Nat.zero_le _⟩
  unfold f_X11_comingDay at hf
  refine z_aload_n C dX11_comingDay_0 rfl (lv_at hl 1 rfl) ?_
  replace hf := drf_s hf; obtain ⟨j1, ej3, hj2, hf⟩ := hf
  subst ej3
  refine z_nn [] (y := j1 + 1) rfl ?_
  replace hf := bn2_s hf; obtain ⟨v5, m4, hkm4, hf⟩ := hf
  refine z_cV (As := []) (rest := []) (st1 := [.int v5]) C Z mw_X4_isTold mv_X4_isTold k_516 (by decide) (z_hR hR (by decide)) (lvC23 hj2) kC23 zc4 (c_X4_isTold (l := l) (K := K) (ad := ad) hj2 hkm4) rfl hl.1 rfl (Nat.le_of_ble_eq_true rfl) dX11_comingDay_1 hB rfl (fun H locs Z => ?_)
  refine lv_if_ne (tgt := 17) C.x C.b dX11_comingDay_4 (by decide) (fun hc6 => ?_) (fun hc6 => ?_)
  · replace hf := ite_f hf hc6
    refine lv_aload_n C.x C.b dX11_comingDay_17 rfl (lv_at hl 1 rfl) ?_
    replace hf := asr_s hf; obtain ⟨hq7, hf⟩ := hf
    refine z_get C Z (lvC23 hq7) kC23 zc4 zin4 6 (by decide) k_475 rfl svC23_6 dX11_comingDay_18 ?_
    obtain ⟨rfl, rfl⟩ := pr_s hf
    exact z_iret C Z dX11_comingDay_21
  · replace hf := ite_t hf hc6
    refine lv_aload_n C.x C.b dX11_comingDay_7 rfl (lv_at hl 1 rfl) ?_
    replace hf := asr_s hf; obtain ⟨hq8, hf⟩ := hf
    refine z_get C Z (lvC23 hq8) kC23 zc4 zin4 2 (by decide) k_465 rfl svC23_2 dX11_comingDay_8 ?_
    replace hf := bn2_s hf; obtain ⟨v10, m9, hkm9, hf⟩ := hf
    refine z_cS (As := [.int (gI m4 23 j1 2)]) (rest := []) (st1 := [.int v10]) C Z mw_X11_isFoundry mv_X11_isFoundry k_439 (by decide) (z_hR hR (by decide)) (c_X11_isFoundry (l := l) (K := K) (ad := ad) hkm9) rfl hl.1 rfl (Nat.le_of_ble_eq_true rfl) dX11_comingDay_11 hB rfl (fun H locs Z => ?_)
    refine lv_if_ne (tgt := 22) C.x C.b dX11_comingDay_14 (by decide) (fun hc11 => ?_) (fun hc11 => ?_)
    · replace hf := ite_f hf hc11
      refine lv_aload_n C.x C.b dX11_comingDay_22 rfl (lv_at hl 1 rfl) ?_
      replace hf := asr_s hf; obtain ⟨hq12, hf⟩ := hf
      refine z_get C Z (lvC23 hq12) kC23 zc4 zin4 5 (by decide) k_473 rfl svC23_5 dX11_comingDay_23 ?_
      refine lv_iload_n C.x C.b dX11_comingDay_26 rfl (lv_at hl 2 rfl) ?_
      refine lv_if_eq (tgt := 42) C.x C.b dX11_comingDay_27 (by decide) (fun hc13 => ?_) (fun hc13 => ?_)
      · replace hf := ite_t hf hc13
        refine lv_aload_n C.x C.b dX11_comingDay_42 rfl (lv_at hl 0 rfl) ?_
        refine z_get C Z (lvC0 Nat.zero_lt_one) kC0 zc11 zin11 1 (by decide) k_363 rfl svC0_1 dX11_comingDay_43 ?_
        refine lv_aload_n C.x C.b dX11_comingDay_46 rfl (lv_at hl 1 rfl) ?_
        refine z_get C Z (lvC23 hq12) kC23 zc4 zin4 2 (by decide) k_465 rfl svC23_2 dX11_comingDay_47 ?_
        replace hf := asr_s hf; obtain ⟨hq14, hf⟩ := hf
        refine z_iald C Z (lvC1 Nat.zero_lt_one) kC1 hq14 svC1 dX11_comingDay_50 ?_
        refine lv_iadd C.x C.b dX11_comingDay_51 ?_
        obtain ⟨rfl, rfl⟩ := pr_s hf
        exact z_iret C Z dX11_comingDay_52
      · replace hf := ite_f hf hc13
        refine lv_aload_n C.x C.b dX11_comingDay_30 rfl (lv_at hl 0 rfl) ?_
        refine z_get C Z (lvC0 Nat.zero_lt_one) kC0 zc11 zin11 2 (by decide) k_364 rfl svC0_2 dX11_comingDay_31 ?_
        refine lv_aload_n C.x C.b dX11_comingDay_34 rfl (lv_at hl 1 rfl) ?_
        refine z_get C Z (lvC23 hq12) kC23 zc4 zin4 2 (by decide) k_465 rfl svC23_2 dX11_comingDay_35 ?_
        replace hf := asr_s hf; obtain ⟨hq15, hf⟩ := hf
        refine z_iald C Z (lvC2 Nat.zero_lt_one) kC2 hq15 svC2 dX11_comingDay_38 ?_
        refine lv_goto (tgt := 51) C.x C.b dX11_comingDay_39 (by decide) ?_
        refine lv_iadd C.x C.b dX11_comingDay_51 ?_
        obtain ⟨rfl, rfl⟩ := pr_s hf
        exact z_iret C Z dX11_comingDay_52
    · replace hf := ite_t hf hc11
      refine lv_aload_n C.x C.b dX11_comingDay_17 rfl (lv_at hl 1 rfl) ?_
      replace hf := asr_s hf; obtain ⟨hq16, hf⟩ := hf
      refine z_get C Z (lvC23 hq16) kC23 zc4 zin4 6 (by decide) k_475 rfl svC23_6 dX11_comingDay_18 ?_
      obtain ⟨rfl, rfl⟩ := pr_s hf
      exact z_iret C Z dX11_comingDay_21
theorem dX11_willHaveCome_0 : decode cX11_willHaveCome 0 = .ok (.iconst 0, 1) := by decide +kernel
theorem dX11_willHaveCome_1 : decode cX11_willHaveCome 1 = .ok (.istore 4, 2) := by decide +kernel
theorem dX11_willHaveCome_3 : decode cX11_willHaveCome 3 = .ok (.aload_n 0, 1) := by decide +kernel
theorem dX11_willHaveCome_4 : decode cX11_willHaveCome 4 = .ok (.getfield 20, 3) := by decide +kernel
theorem dX11_willHaveCome_7 : decode cX11_willHaveCome 7 = .ok (.astore 5, 2) := by decide +kernel
theorem dX11_willHaveCome_9 : decode cX11_willHaveCome 9 = .ok (.aload 5, 2) := by decide +kernel
theorem dX11_willHaveCome_11 : decode cX11_willHaveCome 11 = .ok (.arraylength, 1) := by decide +kernel
theorem dX11_willHaveCome_12 : decode cX11_willHaveCome 12 = .ok (.istore 6, 2) := by decide +kernel
theorem dX11_willHaveCome_14 : decode cX11_willHaveCome 14 = .ok (.iconst 0, 1) := by decide +kernel
theorem dX11_willHaveCome_15 : decode cX11_willHaveCome 15 = .ok (.istore 7, 2) := by decide +kernel
theorem dX11_willHaveCome_17 : decode cX11_willHaveCome 17 = .ok (.iload 7, 2) := by decide +kernel
theorem dX11_willHaveCome_19 : decode cX11_willHaveCome 19 = .ok (.iload 6, 2) := by decide +kernel
theorem dX11_willHaveCome_21 : decode cX11_willHaveCome 21 = .ok (.if_icmp .ge 51, 3) := by decide +kernel
theorem dX11_willHaveCome_24 : decode cX11_willHaveCome 24 = .ok (.aload 5, 2) := by decide +kernel
theorem dX11_willHaveCome_26 : decode cX11_willHaveCome 26 = .ok (.iload 7, 2) := by decide +kernel
theorem dX11_willHaveCome_28 : decode cX11_willHaveCome 28 = .ok (.aaload, 1) := by decide +kernel
theorem dX11_willHaveCome_29 : decode cX11_willHaveCome 29 = .ok (.astore 8, 2) := by decide +kernel
theorem dX11_willHaveCome_31 : decode cX11_willHaveCome 31 = .ok (.aload 8, 2) := by decide +kernel
theorem dX11_willHaveCome_33 : decode cX11_willHaveCome 33 = .ok (.ifnull 33, 3) := by decide +kernel
theorem dX11_willHaveCome_36 : decode cX11_willHaveCome 36 = .ok (.aload 8, 2) := by decide +kernel
theorem dX11_willHaveCome_38 : decode cX11_willHaveCome 38 = .ok (.getfield 138, 3) := by decide +kernel
theorem dX11_willHaveCome_41 : decode cX11_willHaveCome 41 = .ok (.iload_n 1, 1) := by decide +kernel
theorem dX11_willHaveCome_42 : decode cX11_willHaveCome 42 = .ok (.if_icmp .ne 24, 3) := by decide +kernel
theorem dX11_willHaveCome_45 : decode cX11_willHaveCome 45 = .ok (.aload_n 0, 1) := by decide +kernel
theorem dX11_willHaveCome_46 : decode cX11_willHaveCome 46 = .ok (.aload 8, 2) := by decide +kernel
theorem dX11_willHaveCome_48 : decode cX11_willHaveCome 48 = .ok (.iload_n 3, 1) := by decide +kernel
theorem dX11_willHaveCome_49 : decode cX11_willHaveCome 49 = .ok (.invokevirtual 471, 3) := by decide +kernel
theorem dX11_willHaveCome_52 : decode cX11_willHaveCome 52 = .ok (.iload_n 2, 1) := by decide +kernel
theorem dX11_willHaveCome_53 : decode cX11_willHaveCome 53 = .ok (.if_icmp .gt 13, 3) := by decide +kernel
theorem dX11_willHaveCome_56 : decode cX11_willHaveCome 56 = .ok (.iload 4, 2) := by decide +kernel
theorem dX11_willHaveCome_58 : decode cX11_willHaveCome 58 = .ok (.aload 8, 2) := by decide +kernel
theorem dX11_willHaveCome_60 : decode cX11_willHaveCome 60 = .ok (.getfield 144, 3) := by decide +kernel
theorem dX11_willHaveCome_63 : decode cX11_willHaveCome 63 = .ok (.iadd, 1) := by decide +kernel
theorem dX11_willHaveCome_64 : decode cX11_willHaveCome 64 = .ok (.istore 4, 2) := by decide +kernel
theorem dX11_willHaveCome_66 : decode cX11_willHaveCome 66 = .ok (.iinc 7 1, 3) := by decide +kernel
theorem dX11_willHaveCome_69 : decode cX11_willHaveCome 69 = .ok (.goto (-52), 3) := by decide +kernel
theorem dX11_willHaveCome_72 : decode cX11_willHaveCome 72 = .ok (.iload 4, 2) := by decide +kernel
theorem dX11_willHaveCome_74 : decode cX11_willHaveCome 74 = .ok (.ireturn, 1) := by decide +kernel
set_option maxRecDepth 100000 in
set_option maxHeartbeats 4000000 in
theorem w_X11_willHaveCome_l17 {p : Program} {l : Launch} {e : Env} {R : Room} {s : State} {m : MethodId} {args : Array Value} {below : List Frame} {meth : Method} {c : Code} {cells slots : Nat} {Q : State → Prop} {K : KG} {ad : Nat → Nat → Nat} {fl : Nat} {g1 : Int32} {g2 : Int32} {g3 : Int32} {g6 : Int32} (C : Cx p s m args meth c cX11_willHaveCome 9 "GlassPalace" (some .int)) (hR : 3 ≤ R.frames ∧ 40 * (3) ≤ R.locals) (hB : cells ≤ R.cells ∧ slots ≤ R.slots) : ∀ (n : Nat) (u4 : Int32) (u7 : Int32) (M0 : Mem) (H : Heap) (locs : List Loc) (ls : Array Slot), Zd K LC ad M0 s H locs → lv_has ls 9 [(0, .ref (ad 0 0)), (1, .int g1), (2, .int g2), (3, .int g3), (4, .int u4), (5, .ref (ad 3 0)), (6, .int g6), (7, .int u7)] → ∀ (q : Int32) (Mq : Mem), f_X11_willHaveCome_l17 fl g1 g2 g3 g6 n u4 u7 M0 = some (q, Mq) → (∀ (H : Heap) (locs : List Loc) (ls : Array Slot), Zd K LC ad Mq s H locs → lv_has ls 9 [(4, .int q)] → W p l e R s m args below meth c H locs cells slots Q (F0 m 72 ls [])) → W p l e R s m args below meth c H locs cells slots Q (F0 m 17 ls []) := by
  intro n
  induction n with
  | zero =>
    intro u4 u7 M0 H locs ls Z hl q Mq hf
    have hf : (none : Option (Int32 × Mem)) = some (q, Mq) := hf
    cases hf
  | succ n ih =>
    intro u4 u7 M0 H locs ls Z hl q Mq hf kx0
    replace hf : f_X11_willHaveCome_l17_b (f_X11_willHaveCome_l17 fl g1 g2 g3 g6 n) fl g1 g2 g3 g6 u4 u7 M0 = some (q, Mq) := hf
    unfold f_X11_willHaveCome_l17_b at hf
    refine lv_iload C.x C.b dX11_willHaveCome_17 (lv_at hl 7 rfl) ?_
    refine lv_iload C.x C.b dX11_willHaveCome_19 (lv_at hl 6 rfl) ?_
    refine lv_icmp_ge (tgt := 72) C.x C.b dX11_willHaveCome_21 (by decide) (fun hc1 => ?_) (fun hc1 => ?_)
    · replace hf := ite_t hf hc1
      obtain ⟨rfl, rfl⟩ := pr_s hf
      exact kx0 _ _ _ Z (lv_sub hl [4] rfl)
    · replace hf := ite_f hf hc1
      refine lv_aload C.x C.b dX11_willHaveCome_24 (lv_at hl 5 rfl) ?_
      refine lv_iload C.x C.b dX11_willHaveCome_26 (lv_at hl 7 rfl) ?_
      replace hf := asr_s hf; obtain ⟨hq2, hf⟩ := hf
      refine z_aald C Z (lvC3 Nat.zero_lt_one) kC3 3 rfl hq2 svC3 dX11_willHaveCome_28 ?_
      replace hf := lt1_s hf; obtain ⟨c3, ec3, hf⟩ := hf
      refine z_renC ec3 ?_
      refine z_cstore (lv' := [(8, rf (ad 23) c3), (0, .ref (ad 0 0)), (1, .int g1), (2, .int g2), (3, .int g3), (4, .int u4), (5, .ref (ad 3 0)), (6, .int g6), (7, .int u7)]) C dX11_willHaveCome_29 hl (by decide) rfl (onlast 7 rfl rfl rfl) (fun ls hl => ?_)
      refine z_aload C dX11_willHaveCome_31 (lv_at hl 0 rfl) ?_
      refine z_ifnull C dX11_willHaveCome_33 (tgt := 66) (by decide) (fun hc4 => ?_) (fun hc4 => ?_)
      · replace hf := ite_t hf hc4
        replace hf := lt1_s hf; obtain ⟨x5, ex5, hf⟩ := hf
        refine z_iinc (v := x5) (lv' := [(7, .int x5), (8, rf (ad 23) c3), (0, .ref (ad 0 0)), (1, .int g1), (2, .int g2), (3, .int g3), (4, .int u4), (5, .ref (ad 3 0)), (6, .int g6)]) C dX11_willHaveCome_66 hl (k := 8) rfl (by rw [ex5]; rfl) (by decide) rfl (onlast 7 rfl rfl rfl) (fun ls hl => ?_)
        refine lv_goto (tgt := 17) C.x C.b dX11_willHaveCome_69 (by decide) ?_
        exact ih _ _ _ _ _ _ Z (lv_sub hl [2, 3, 4, 5, 6, 7, 8, 0] rfl) _ _ hf kx0
      · replace hf := ite_f hf hc4
        refine z_aload C dX11_willHaveCome_36 (lv_at hl 0 rfl) ?_
        replace hf := drf_s hf; obtain ⟨j6, ej8, hj7, hf⟩ := hf
        subst ej8
        refine z_nn [] (y := j6 + 1) rfl ?_
        refine z_get C Z (lvC23 hj7) kC23 zc4 zin4 1 (by decide) k_462 rfl svC23_1 dX11_willHaveCome_38 ?_
        refine lv_iload_n C.x C.b dX11_willHaveCome_41 rfl (lv_at hl 2 rfl) ?_
        refine lv_icmp_ne (tgt := 66) C.x C.b dX11_willHaveCome_42 (by decide) (fun hc9 => ?_) (fun hc9 => ?_)
        · replace hf := ite_f hf hc9
          replace hf := lt1_s hf; obtain ⟨x10, ex10, hf⟩ := hf
          refine z_iinc (v := x10) (lv' := [(7, .int x10), (8, .ref (ad 23 j6)), (0, .ref (ad 0 0)), (1, .int g1), (2, .int g2), (3, .int g3), (4, .int u4), (5, .ref (ad 3 0)), (6, .int g6)]) C dX11_willHaveCome_66 hl (k := 8) rfl (by rw [ex10]; rfl) (by decide) rfl (onlast 7 rfl rfl rfl) (fun ls hl => ?_)
          refine lv_goto (tgt := 17) C.x C.b dX11_willHaveCome_69 (by decide) ?_
          exact ih _ _ _ _ _ _ Z (lv_sub hl [2, 3, 4, 5, 6, 7, 8, 0] rfl) _ _ hf kx0
        · replace hf := ite_t hf hc9
          refine lv_aload_n C.x C.b dX11_willHaveCome_45 rfl (lv_at hl 1 rfl) ?_
          refine lv_aload C.x C.b dX11_willHaveCome_46 (lv_at hl 0 rfl) ?_
          refine lv_iload_n C.x C.b dX11_willHaveCome_48 rfl (lv_at hl 4 rfl) ?_
          replace hf := bn2_s hf; obtain ⟨v12, m11, hkm11, hf⟩ := hf
          refine z_cV (As := [.ref (ad 23 j6), .int g3]) (rest := []) (st1 := [.int v12]) C Z mw_X11_comingDay mv_X11_comingDay k_966 (by decide) (z_hR hR (by decide)) (lvC0 Nat.zero_lt_one) kC0 zc11 (c_X11_comingDay (l := l) (K := K) (ad := ad) hkm11) rfl hl.1 rfl (Nat.le_of_ble_eq_true rfl) dX11_willHaveCome_49 hB rfl (fun H locs Z => ?_)
          refine lv_iload_n C.x C.b dX11_willHaveCome_52 rfl (lv_at hl 3 rfl) ?_
          refine lv_icmp_gt (tgt := 66) C.x C.b dX11_willHaveCome_53 (by decide) (fun hc13 => ?_) (fun hc13 => ?_)
          · replace hf := ite_t hf hc13
            replace hf := lt1_s hf; obtain ⟨x14, ex14, hf⟩ := hf
            refine z_iinc (v := x14) (lv' := [(7, .int x14), (8, .ref (ad 23 j6)), (0, .ref (ad 0 0)), (1, .int g1), (2, .int g2), (3, .int g3), (4, .int u4), (5, .ref (ad 3 0)), (6, .int g6)]) C dX11_willHaveCome_66 hl (k := 8) rfl (by rw [ex14]; rfl) (by decide) rfl (onlast 7 rfl rfl rfl) (fun ls hl => ?_)
            refine lv_goto (tgt := 17) C.x C.b dX11_willHaveCome_69 (by decide) ?_
            exact ih _ _ _ _ _ _ Z (lv_sub hl [2, 3, 4, 5, 6, 7, 8, 0] rfl) _ _ hf kx0
          · replace hf := ite_f hf hc13
            refine lv_iload C.x C.b dX11_willHaveCome_56 (lv_at hl 5 rfl) ?_
            refine lv_aload C.x C.b dX11_willHaveCome_58 (lv_at hl 0 rfl) ?_
            replace hf := asr_s hf; obtain ⟨hq15, hf⟩ := hf
            refine z_get C Z (lvC23 hq15) kC23 zc4 zin4 3 (by decide) k_467 rfl svC23_3 dX11_willHaveCome_60 ?_
            refine lv_iadd C.x C.b dX11_willHaveCome_63 ?_
            replace hf := lt1_s hf; obtain ⟨x16, ex16, hf⟩ := hf
            refine z_renI ex16 ?_
            refine z_istore (lv' := [(4, .int x16), (8, .ref (ad 23 j6)), (0, .ref (ad 0 0)), (1, .int g1), (2, .int g2), (3, .int g3), (5, .ref (ad 3 0)), (6, .int g6), (7, .int u7)]) C dX11_willHaveCome_64 hl (by decide) rfl (onlast 4 rfl rfl rfl) (fun ls hl => ?_)
            replace hf := lt1_s hf; obtain ⟨x17, ex17, hf⟩ := hf
            refine z_iinc (v := x17) (lv' := [(7, .int x17), (4, .int x16), (8, .ref (ad 23 j6)), (0, .ref (ad 0 0)), (1, .int g1), (2, .int g2), (3, .int g3), (5, .ref (ad 3 0)), (6, .int g6)]) C dX11_willHaveCome_66 hl (k := 8) rfl (by rw [ex17]; rfl) (by decide) rfl (onlast 7 rfl rfl rfl) (fun ls hl => ?_)
            refine lv_goto (tgt := 17) C.x C.b dX11_willHaveCome_69 (by decide) ?_
            exact ih _ _ _ _ _ _ Z (lv_sub hl [3, 4, 5, 6, 1, 7, 8, 0] rfl) _ _ hf kx0
set_option maxRecDepth 100000 in
set_option maxHeartbeats 4000000 in
theorem c_X11_willHaveCome {l : Launch} {K : KG} {ad : Nat → Nat → Nat} {fl : Nat} {a1 : Int32} {a2 : Int32} {a3 : Int32} {M0 : Mem} {r9 : Int32} {M9 : Mem} (hf : f_X11_willHaveCome fl a1 a2 a3 M0 = some (r9, M9)) : Met l yX11_willHaveCome (Cond.code yX11_willHaveCome cX11_willHaveCome 9 (some .int) :: ztb) (RM (3) 0 0) (zPc K LC ad M0 [.ref (ad 0 0), .int a1, .int a2, .int a3]) (zQ K LC ad (some (.int r9)) M9) 0 0 (zA ad) := by
  refine z_enter (by decide) (Nat.le_of_ble_eq_true rfl) ?_
  intro p e s m args below meth c ls C hin hargs Z hl
  replace C : Cx p s m args meth c cX11_willHaveCome 9 "GlassPalace" (some .int) := C
  replace hl : lv_has ls 9 [(0, .ref (ad 0 0)), (1, .int a1), (2, .int a2), (3, .int a3)] := hl
  have hR : 3 ≤ (RM (3) 0 0).frames ∧ 40 * (3) ≤ (RM (3) 0 0).locals := ⟨Nat.le_refl _, Nat.le_refl _⟩
  have hB : 0 ≤ (RM (3) 0 0).cells ∧ 0 ≤ (RM (3) 0 0).slots := ⟨Nat.zero_le _, Nat.zero_le _⟩
  unfold f_X11_willHaveCome at hf
  refine lv_iconst (v := 0) C.x C.b dX11_willHaveCome_0 (by decide) ?_
  refine z_istore (lv' := [(4, .int 0), (0, .ref (ad 0 0)), (1, .int a1), (2, .int a2), (3, .int a3)]) C dX11_willHaveCome_1 hl (by decide) rfl (onlast 3 rfl rfl rfl) (fun ls hl => ?_)
  refine lv_aload_n C.x C.b dX11_willHaveCome_3 rfl (lv_at hl 1 rfl) ?_
  refine z_get C Z (lvC0 Nat.zero_lt_one) kC0 zc11 zin11 3 (by decide) k_365 rfl svC0_3 dX11_willHaveCome_4 ?_
  refine z_rstore (lv' := [(5, .ref (ad 3 0)), (4, .int 0), (0, .ref (ad 0 0)), (1, .int a1), (2, .int a2), (3, .int a3)]) C dX11_willHaveCome_7 hl (by decide) rfl (onlast 0 rfl rfl rfl) (fun ls hl => ?_)
  refine lv_aload C.x C.b dX11_willHaveCome_9 (lv_at hl 0 rfl) ?_
  refine z_alen C Z (lvC3 Nat.zero_lt_one) kC3 3 rfl (v := 60) (by decide) dX11_willHaveCome_11 ?_
  refine z_istore (lv' := [(6, .int 60), (5, .ref (ad 3 0)), (4, .int 0), (0, .ref (ad 0 0)), (1, .int a1), (2, .int a2), (3, .int a3)]) C dX11_willHaveCome_12 hl (by decide) rfl (onlast 0 rfl rfl rfl) (fun ls hl => ?_)
  refine lv_iconst (v := 0) C.x C.b dX11_willHaveCome_14 (by decide) ?_
  refine z_istore (lv' := [(7, .int 0), (6, .int 60), (5, .ref (ad 3 0)), (4, .int 0), (0, .ref (ad 0 0)), (1, .int a1), (2, .int a2), (3, .int a3)]) C dX11_willHaveCome_15 hl (by decide) rfl (onlast 0 rfl rfl rfl) (fun ls hl => ?_)
  replace hf := bn2_s hf; obtain ⟨q18, m19, hq18, hf⟩ := hf
  refine w_X11_willHaveCome_l17 C hR hB  fl _ _ _ _ _ _ Z (lv_sub hl [4, 5, 6, 7, 3, 2, 1, 0] rfl) _ _ hq18 (fun H locs ls Z hl => ?_)
  refine lv_iload C.x C.b dX11_willHaveCome_72 (lv_at hl 0 rfl) ?_
  obtain ⟨rfl, rfl⟩ := pr_s hf
  exact z_iret C Z dX11_willHaveCome_74
theorem dX11_ahead_0 : decode cX11_ahead 0 = .ok (.iload_n 1, 1) := by decide +kernel
theorem dX11_ahead_1 : decode cX11_ahead 1 = .ok (.invokestatic 179, 3) := by decide +kernel
theorem dX11_ahead_4 : decode cX11_ahead 4 = .ok (.ifCond .ne 5, 3) := by decide +kernel
theorem dX11_ahead_7 : decode cX11_ahead 7 = .ok (.iconst (-1), 1) := by decide +kernel
theorem dX11_ahead_8 : decode cX11_ahead 8 = .ok (.ireturn, 1) := by decide +kernel
theorem dX11_ahead_9 : decode cX11_ahead 9 = .ok (.iload_n 2, 1) := by decide +kernel
theorem dX11_ahead_10 : decode cX11_ahead 10 = .ok (.invokestatic 207, 3) := by decide +kernel
theorem dX11_ahead_13 : decode cX11_ahead 13 = .ok (.ifCond .eq 13, 3) := by decide +kernel
theorem dX11_ahead_16 : decode cX11_ahead 16 = .ok (.aload_n 0, 1) := by decide +kernel
theorem dX11_ahead_17 : decode cX11_ahead 17 = .ok (.iload_n 1, 1) := by decide +kernel
theorem dX11_ahead_18 : decode cX11_ahead 18 = .ok (.iload_n 2, 1) := by decide +kernel
theorem dX11_ahead_19 : decode cX11_ahead 19 = .ok (.iload_n 3, 1) := by decide +kernel
theorem dX11_ahead_20 : decode cX11_ahead 20 = .ok (.invokevirtual 333, 3) := by decide +kernel
theorem dX11_ahead_23 : decode cX11_ahead 23 = .ok (.goto 5, 3) := by decide +kernel
theorem dX11_ahead_26 : decode cX11_ahead 26 = .ok (.bipush (-2), 2) := by decide +kernel
theorem dX11_ahead_28 : decode cX11_ahead 28 = .ok (.ireturn, 1) := by decide +kernel
set_option maxRecDepth 100000 in
set_option maxHeartbeats 4000000 in
theorem c_X11_ahead {l : Launch} {K : KG} {ad : Nat → Nat → Nat} {fl : Nat} {a1 : Int32} {a2 : Int32} {a3 : Int32} {M0 : Mem} {r9 : Int32} {M9 : Mem} (hf : f_X11_ahead fl a1 a2 a3 M0 = some (r9, M9)) : Met l yX11_ahead (Cond.code yX11_ahead cX11_ahead 4 (some .int) :: ztb) (RM (4) 0 0) (zPc K LC ad M0 [.ref (ad 0 0), .int a1, .int a2, .int a3]) (zQ K LC ad (some (.int r9)) M9) 0 0 (zA ad) := by
  refine z_enter (by decide) (Nat.le_of_ble_eq_true rfl) ?_
  intro p e s m args below meth c ls C hin hargs Z hl
  replace C : Cx p s m args meth c cX11_ahead 4 "GlassPalace" (some .int) := C
  replace hl : lv_has ls 4 [(0, .ref (ad 0 0)), (1, .int a1), (2, .int a2), (3, .int a3)] := hl
  have hR : 4 ≤ (RM (4) 0 0).frames ∧ 40 * (4) ≤ (RM (4) 0 0).locals := ⟨Nat.le_refl _, Nat.le_refl _⟩
  have hB : 0 ≤ (RM (4) 0 0).cells ∧ 0 ≤ (RM (4) 0 0).slots := ⟨Nat.zero_le _, Nat.zero_le _⟩
  unfold f_X11_ahead at hf
  refine lv_iload_n C.x C.b dX11_ahead_0 rfl (lv_at hl 1 rfl) ?_
  replace hf := bn2_s hf; obtain ⟨v2, m1, hkm1, hf⟩ := hf
  refine z_cS (As := [.int a1]) (rest := []) (st1 := [.int v2]) C Z mw_X11_isPlace mv_X11_isPlace k_640 (by decide) (z_hR hR (by decide)) (c_X11_isPlace (l := l) (K := K) (ad := ad) hkm1) rfl hl.1 rfl (Nat.le_of_ble_eq_true rfl) dX11_ahead_1 hB rfl (fun H locs Z => ?_)
  refine lv_if_ne (tgt := 9) C.x C.b dX11_ahead_4 (by decide) (fun hc3 => ?_) (fun hc3 => ?_)
  · replace hf := ite_f hf hc3
    refine lv_iload_n C.x C.b dX11_ahead_9 rfl (lv_at hl 2 rfl) ?_
    replace hf := bn2_s hf; obtain ⟨v5, m4, hkm4, hf⟩ := hf
    refine z_cS (As := [.int a2]) (rest := []) (st1 := [.int v5]) C Z mw_X11_isDay mv_X11_isDay k_685 (by decide) (z_hR hR (by decide)) (c_X11_isDay (l := l) (K := K) (ad := ad) hkm4) rfl hl.1 rfl (Nat.le_of_ble_eq_true rfl) dX11_ahead_10 hB rfl (fun H locs Z => ?_)
    refine lv_if_eq (tgt := 26) C.x C.b dX11_ahead_13 (by decide) (fun hc6 => ?_) (fun hc6 => ?_)
    · replace hf := ite_t hf hc6
      refine lv_bipush (v := (-2)) C.x C.b dX11_ahead_26 (by decide) ?_
      obtain ⟨rfl, rfl⟩ := pr_s hf
      exact z_iret C Z dX11_ahead_28
    · replace hf := ite_f hf hc6
      refine lv_aload_n C.x C.b dX11_ahead_16 rfl (lv_at hl 0 rfl) ?_
      refine lv_iload_n C.x C.b dX11_ahead_17 rfl (lv_at hl 1 rfl) ?_
      refine lv_iload_n C.x C.b dX11_ahead_18 rfl (lv_at hl 2 rfl) ?_
      refine lv_iload_n C.x C.b dX11_ahead_19 rfl (lv_at hl 3 rfl) ?_
      replace hf := bn2_s hf; obtain ⟨v8, m7, hkm7, hf⟩ := hf
      refine z_cV (As := [.int a1, .int a2, .int a3]) (rest := []) (st1 := [.int v8]) C Z mw_X11_willHaveCome mv_X11_willHaveCome k_962 (by decide) (z_hR hR (by decide)) (lvC0 Nat.zero_lt_one) kC0 zc11 (c_X11_willHaveCome (l := l) (K := K) (ad := ad) hkm7) rfl hl.1 rfl (Nat.le_of_ble_eq_true rfl) dX11_ahead_20 hB rfl (fun H locs Z => ?_)
      refine lv_goto (tgt := 28) C.x C.b dX11_ahead_23 (by decide) ?_
      obtain ⟨rfl, rfl⟩ := pr_s hf
      exact z_iret C Z dX11_ahead_28
  · replace hf := ite_t hf hc3
    refine lv_iconst (v := (-1)) C.x C.b dX11_ahead_7 (by decide) ?_
    obtain ⟨rfl, rfl⟩ := pr_s hf
    exact z_iret C Z dX11_ahead_8
theorem dX11_lookAhead_0 : decode cX11_lookAhead 0 = .ok (.iconst 0, 1) := by decide +kernel
theorem dX11_lookAhead_1 : decode cX11_lookAhead 1 = .ok (.istore_n 2, 1) := by decide +kernel
theorem dX11_lookAhead_2 : decode cX11_lookAhead 2 = .ok (.iload_n 2, 1) := by decide +kernel
theorem dX11_lookAhead_3 : decode cX11_lookAhead 3 = .ok (.aload_n 0, 1) := by decide +kernel
theorem dX11_lookAhead_4 : decode cX11_lookAhead 4 = .ok (.getfield 60, 3) := by decide +kernel
theorem dX11_lookAhead_7 : decode cX11_lookAhead 7 = .ok (.getfield 330, 3) := by decide +kernel
theorem dX11_lookAhead_10 : decode cX11_lookAhead 10 = .ok (.if_icmp .ge 58, 3) := by decide +kernel
theorem dX11_lookAhead_13 : decode cX11_lookAhead 13 = .ok (.iload_n 2, 1) := by decide +kernel
theorem dX11_lookAhead_14 : decode cX11_lookAhead 14 = .ok (.bipush 20, 2) := by decide +kernel
theorem dX11_lookAhead_16 : decode cX11_lookAhead 16 = .ok (.if_icmp .ge 52, 3) := by decide +kernel
theorem dX11_lookAhead_19 : decode cX11_lookAhead 19 = .ok (.aload_n 0, 1) := by decide +kernel
theorem dX11_lookAhead_20 : decode cX11_lookAhead 20 = .ok (.aload_n 0, 1) := by decide +kernel
theorem dX11_lookAhead_21 : decode cX11_lookAhead 21 = .ok (.getfield 60, 3) := by decide +kernel
theorem dX11_lookAhead_24 : decode cX11_lookAhead 24 = .ok (.getfield 350, 3) := by decide +kernel
theorem dX11_lookAhead_27 : decode cX11_lookAhead 27 = .ok (.iload_n 2, 1) := by decide +kernel
theorem dX11_lookAhead_28 : decode cX11_lookAhead 28 = .ok (.iaload, 1) := by decide +kernel
theorem dX11_lookAhead_29 : decode cX11_lookAhead 29 = .ok (.aload_n 0, 1) := by decide +kernel
theorem dX11_lookAhead_30 : decode cX11_lookAhead 30 = .ok (.getfield 60, 3) := by decide +kernel
theorem dX11_lookAhead_33 : decode cX11_lookAhead 33 = .ok (.getfield 347, 3) := by decide +kernel
theorem dX11_lookAhead_36 : decode cX11_lookAhead 36 = .ok (.iload_n 2, 1) := by decide +kernel
theorem dX11_lookAhead_37 : decode cX11_lookAhead 37 = .ok (.iaload, 1) := by decide +kernel
theorem dX11_lookAhead_38 : decode cX11_lookAhead 38 = .ok (.iload_n 1, 1) := by decide +kernel
theorem dX11_lookAhead_39 : decode cX11_lookAhead 39 = .ok (.invokevirtual 333, 3) := by decide +kernel
theorem dX11_lookAhead_42 : decode cX11_lookAhead 42 = .ok (.istore_n 3, 1) := by decide +kernel
theorem dX11_lookAhead_43 : decode cX11_lookAhead 43 = .ok (.aload_n 0, 1) := by decide +kernel
theorem dX11_lookAhead_44 : decode cX11_lookAhead 44 = .ok (.getfield 60, 3) := by decide +kernel
theorem dX11_lookAhead_47 : decode cX11_lookAhead 47 = .ok (.getfield 475, 3) := by decide +kernel
theorem dX11_lookAhead_50 : decode cX11_lookAhead 50 = .ok (.iload_n 2, 1) := by decide +kernel
theorem dX11_lookAhead_51 : decode cX11_lookAhead 51 = .ok (.aload_n 0, 1) := by decide +kernel
theorem dX11_lookAhead_52 : decode cX11_lookAhead 52 = .ok (.getfield 60, 3) := by decide +kernel
theorem dX11_lookAhead_55 : decode cX11_lookAhead 55 = .ok (.iload_n 2, 1) := by decide +kernel
theorem dX11_lookAhead_56 : decode cX11_lookAhead 56 = .ok (.invokevirtual 478, 3) := by decide +kernel
theorem dX11_lookAhead_59 : decode cX11_lookAhead 59 = .ok (.iload_n 3, 1) := by decide +kernel
theorem dX11_lookAhead_60 : decode cX11_lookAhead 60 = .ok (.isub, 1) := by decide +kernel
theorem dX11_lookAhead_61 : decode cX11_lookAhead 61 = .ok (.iastore, 1) := by decide +kernel
theorem dX11_lookAhead_62 : decode cX11_lookAhead 62 = .ok (.iinc 2 1, 3) := by decide +kernel
theorem dX11_lookAhead_65 : decode cX11_lookAhead 65 = .ok (.goto (-63), 3) := by decide +kernel
theorem dX11_lookAhead_68 : decode cX11_lookAhead 68 = .ok (.return_, 1) := by decide +kernel
set_option maxRecDepth 100000 in
set_option maxHeartbeats 4000000 in
theorem w_X11_lookAhead_l2 {p : Program} {l : Launch} {e : Env} {R : Room} {s : State} {m : MethodId} {args : Array Value} {below : List Frame} {meth : Method} {c : Code} {cells slots : Nat} {Q : State → Prop} {K : KG} {ad : Nat → Nat → Nat} {fl : Nat} {g1 : Int32} (C : Cx p s m args meth c cX11_lookAhead 4 "GlassPalace" none) (hR : 4 ≤ R.frames ∧ 40 * (4) ≤ R.locals) (hB : cells ≤ R.cells ∧ slots ≤ R.slots) : ∀ (n : Nat) (u2 : Int32) (M0 : Mem) (H : Heap) (locs : List Loc) (ls : Array Slot), Zd K LC ad M0 s H locs → lv_has ls 4 [(0, .ref (ad 0 0)), (1, .int g1), (2, .int u2)] → ∀ (Mq : Mem), f_X11_lookAhead_l2 fl g1 n u2 M0 = some Mq → (∀ (H : Heap) (locs : List Loc) (ls : Array Slot), Zd K LC ad Mq s H locs → lv_has ls 4 [] → W p l e R s m args below meth c H locs cells slots Q (F0 m 68 ls [])) → W p l e R s m args below meth c H locs cells slots Q (F0 m 2 ls []) := by
  intro n
  induction n with
  | zero =>
    intro u2 M0 H locs ls Z hl Mq hf
    have hf : (none : Option (Mem)) = some Mq := hf
    cases hf
  | succ n ih =>
    intro u2 M0 H locs ls Z hl Mq hf kx0
    replace hf : f_X11_lookAhead_l2_b (f_X11_lookAhead_l2 fl g1 n) fl g1 u2 M0 = some Mq := hf
    unfold f_X11_lookAhead_l2_b at hf
    refine lv_iload_n C.x C.b dX11_lookAhead_2 rfl (lv_at hl 2 rfl) ?_
    refine lv_aload_n C.x C.b dX11_lookAhead_3 rfl (lv_at hl 0 rfl) ?_
    refine z_get C Z (lvC0 Nat.zero_lt_one) kC0 zc11 zin11 11 (by decide) k_373 rfl svC0_11 dX11_lookAhead_4 ?_
    refine z_get C Z (lvC9 Nat.zero_lt_one) kC9 zc6 zin6 0 (by decide) k_235 rfl svC9_0 dX11_lookAhead_7 ?_
    refine lv_icmp_ge (tgt := 68) C.x C.b dX11_lookAhead_10 (by decide) (fun hc1 => ?_) (fun hc1 => ?_)
    · replace hf := ite_t hf hc1
      obtain rfl := sm_s hf
      exact kx0 _ _ _ Z (lv_sub hl [] rfl)
    · replace hf := ite_f hf hc1
      refine lv_iload_n C.x C.b dX11_lookAhead_13 rfl (lv_at hl 2 rfl) ?_
      refine lv_bipush (v := 20) C.x C.b dX11_lookAhead_14 (by decide) ?_
      refine lv_icmp_ge (tgt := 68) C.x C.b dX11_lookAhead_16 (by decide) (fun hc2 => ?_) (fun hc2 => ?_)
      · replace hf := ite_t hf hc2
        obtain rfl := sm_s hf
        exact kx0 _ _ _ Z (lv_sub hl [] rfl)
      · replace hf := ite_f hf hc2
        refine lv_aload_n C.x C.b dX11_lookAhead_19 rfl (lv_at hl 0 rfl) ?_
        refine lv_aload_n C.x C.b dX11_lookAhead_20 rfl (lv_at hl 0 rfl) ?_
        refine z_get C Z (lvC0 Nat.zero_lt_one) kC0 zc11 zin11 11 (by decide) k_373 rfl svC0_11 dX11_lookAhead_21 ?_
        refine z_get C Z (lvC9 Nat.zero_lt_one) kC9 zc6 zin6 2 (by decide) k_239 rfl svC9_2 dX11_lookAhead_24 ?_
        refine lv_iload_n C.x C.b dX11_lookAhead_27 rfl (lv_at hl 2 rfl) ?_
        replace hf := asr_s hf; obtain ⟨hq3, hf⟩ := hf
        refine z_iald C Z (lvC30 Nat.zero_lt_one) kC30 hq3 svC30 dX11_lookAhead_28 ?_
        refine lv_aload_n C.x C.b dX11_lookAhead_29 rfl (lv_at hl 0 rfl) ?_
        refine z_get C Z (lvC0 Nat.zero_lt_one) kC0 zc11 zin11 11 (by decide) k_373 rfl svC0_11 dX11_lookAhead_30 ?_
        refine z_get C Z (lvC9 Nat.zero_lt_one) kC9 zc6 zin6 3 (by decide) k_241 rfl svC9_3 dX11_lookAhead_33 ?_
        refine lv_iload_n C.x C.b dX11_lookAhead_36 rfl (lv_at hl 2 rfl) ?_
        replace hf := asr_s hf; obtain ⟨hq4, hf⟩ := hf
        refine z_iald C Z (lvC31 Nat.zero_lt_one) kC31 hq4 svC31 dX11_lookAhead_37 ?_
        refine lv_iload_n C.x C.b dX11_lookAhead_38 rfl (lv_at hl 1 rfl) ?_
        replace hf := bn2_s hf; obtain ⟨v6, m5, hkm5, hf⟩ := hf
        refine z_cV (As := [.int (gI M0 30 0 (Int32.toNatClampNeg u2)), .int (gI M0 31 0 (Int32.toNatClampNeg u2)), .int g1]) (rest := []) (st1 := [.int v6]) C Z mw_X11_willHaveCome mv_X11_willHaveCome k_962 (by decide) (z_hR hR (by decide)) (lvC0 Nat.zero_lt_one) kC0 zc11 (c_X11_willHaveCome (l := l) (K := K) (ad := ad) hkm5) rfl hl.1 rfl (Nat.le_of_ble_eq_true rfl) dX11_lookAhead_39 hB rfl (fun H locs Z => ?_)
        refine z_istore_n (lv' := [(3, .int v6), (0, .ref (ad 0 0)), (1, .int g1), (2, .int u2)]) C dX11_lookAhead_42 rfl hl (by decide) rfl (onlast 2 rfl rfl rfl) (fun ls hl => ?_)
        refine lv_aload_n C.x C.b dX11_lookAhead_43 rfl (lv_at hl 1 rfl) ?_
        refine z_get C Z (lvC0 Nat.zero_lt_one) kC0 zc11 zin11 11 (by decide) k_373 rfl svC0_11 dX11_lookAhead_44 ?_
        refine z_get C Z (lvC9 Nat.zero_lt_one) kC9 zc6 zin6 4 (by decide) k_243 rfl svC9_4 dX11_lookAhead_47 ?_
        refine lv_iload_n C.x C.b dX11_lookAhead_50 rfl (lv_at hl 3 rfl) ?_
        refine lv_aload_n C.x C.b dX11_lookAhead_51 rfl (lv_at hl 1 rfl) ?_
        refine z_get C Z (lvC0 Nat.zero_lt_one) kC0 zc11 zin11 11 (by decide) k_373 rfl svC0_11 dX11_lookAhead_52 ?_
        refine lv_iload_n C.x C.b dX11_lookAhead_55 rfl (lv_at hl 3 rfl) ?_
        replace hf := bn2_s hf; obtain ⟨v8, m7, hkm7, hf⟩ := hf
        refine z_cV (As := [.int u2]) (rest := [.int u2, .ref (ad 32 0)]) (st1 := [.int v8, .int u2, .ref (ad 32 0)]) C Z mw_X6_wantedWith mv_X6_wantedWith k_978 (by decide) (z_hR hR (by decide)) (lvC9 Nat.zero_lt_one) kC9 zc6 (c_X6_wantedWith (l := l) (K := K) (ad := ad) hkm7) rfl hl.1 rfl (Nat.le_of_ble_eq_true rfl) dX11_lookAhead_56 hB rfl (fun H locs Z => ?_)
        refine lv_iload_n C.x C.b dX11_lookAhead_59 rfl (lv_at hl 0 rfl) ?_
        refine lv_isub C.x C.b dX11_lookAhead_60 ?_
        replace hf := asr_s hf; obtain ⟨hq9, hf⟩ := hf
        replace hf := lt1_s hf; obtain ⟨m10, em10, hf⟩ := hf
        refine z_iast (M1 := m10) C Z (lvC32 Nat.zero_lt_one) (by decide) kC32 hq9 em10 stC32u dX11_lookAhead_61 (fun H locs Z => ?_)
        replace hf := lt1_s hf; obtain ⟨x11, ex11, hf⟩ := hf
        refine z_iinc (v := x11) (lv' := [(2, .int x11), (3, .int v6), (0, .ref (ad 0 0)), (1, .int g1)]) C dX11_lookAhead_62 hl (k := 3) rfl (by rw [ex11]; rfl) (by decide) rfl (onlast 2 rfl rfl rfl) (fun ls hl => ?_)
        refine lv_goto (tgt := 2) C.x C.b dX11_lookAhead_65 (by decide) ?_
        exact ih _ _ _ _ _ Z (lv_sub hl [2, 3, 0] rfl) _ hf kx0
set_option maxRecDepth 100000 in
set_option maxHeartbeats 4000000 in
theorem c_X11_lookAhead {l : Launch} {K : KG} {ad : Nat → Nat → Nat} {fl : Nat} {a1 : Int32} {M0 : Mem} {M9 : Mem} (hf : f_X11_lookAhead fl a1 M0 = some M9) : Met l yX11_lookAhead (Cond.code yX11_lookAhead cX11_lookAhead 4 none :: ztb) (RM (4) 0 0) (zPc K LC ad M0 [.ref (ad 0 0), .int a1]) (zQ K LC ad (none) M9) 0 0 (zA ad) := by
  refine z_enter (by decide) (Nat.le_of_ble_eq_true rfl) ?_
  intro p e s m args below meth c ls C hin hargs Z hl
  replace C : Cx p s m args meth c cX11_lookAhead 4 "GlassPalace" none := C
  replace hl : lv_has ls 4 [(0, .ref (ad 0 0)), (1, .int a1)] := hl
  have hR : 4 ≤ (RM (4) 0 0).frames ∧ 40 * (4) ≤ (RM (4) 0 0).locals := ⟨Nat.le_refl _, Nat.le_refl _⟩
  have hB : 0 ≤ (RM (4) 0 0).cells ∧ 0 ≤ (RM (4) 0 0).slots := ⟨Nat.zero_le _, Nat.zero_le _⟩
  unfold f_X11_lookAhead at hf
  refine lv_iconst (v := 0) C.x C.b dX11_lookAhead_0 (by decide) ?_
  refine z_istore_n (lv' := [(2, .int 0), (0, .ref (ad 0 0)), (1, .int a1)]) C dX11_lookAhead_1 rfl hl (by decide) rfl (onlast 1 rfl rfl rfl) (fun ls hl => ?_)
  replace hf := bn1_s hf; obtain ⟨m13, hq12, hf⟩ := hf
  refine w_X11_lookAhead_l2 C hR hB  fl _ _ _ _ _ Z (lv_sub hl [1, 2, 0] rfl) _ hq12 (fun H locs ls Z hl => ?_)
  obtain rfl := sm_s hf
  exact z_vret C Z dX11_lookAhead_68
theorem dX11_lack_0 : decode cX11_lack 0 = .ok (.iload_n 2, 1) := by decide +kernel
theorem dX11_lack_1 : decode cX11_lack 1 = .ok (.ifCond .lt 8, 3) := by decide +kernel
theorem dX11_lack_4 : decode cX11_lack 4 = .ok (.iload_n 2, 1) := by decide +kernel
theorem dX11_lack_5 : decode cX11_lack 5 = .ok (.iconst 1, 1) := by decide +kernel
theorem dX11_lack_6 : decode cX11_lack 6 = .ok (.if_icmp .le 5, 3) := by decide +kernel
theorem dX11_lack_9 : decode cX11_lack 9 = .ok (.iconst (-1), 1) := by decide +kernel
theorem dX11_lack_10 : decode cX11_lack 10 = .ok (.ireturn, 1) := by decide +kernel
theorem dX11_lack_11 : decode cX11_lack 11 = .ok (.iload_n 1, 1) := by decide +kernel
theorem dX11_lack_12 : decode cX11_lack 12 = .ok (.ifCond .lt 16, 3) := by decide +kernel
theorem dX11_lack_15 : decode cX11_lack 15 = .ok (.iload_n 1, 1) := by decide +kernel
theorem dX11_lack_16 : decode cX11_lack 16 = .ok (.iconst 1, 1) := by decide +kernel
theorem dX11_lack_17 : decode cX11_lack 17 = .ok (.aload_n 0, 1) := by decide +kernel
theorem dX11_lack_18 : decode cX11_lack 18 = .ok (.getfield 60, 3) := by decide +kernel
theorem dX11_lack_21 : decode cX11_lack 21 = .ok (.getfield 337, 3) := by decide +kernel
theorem dX11_lack_24 : decode cX11_lack 24 = .ok (.ishl, 1) := by decide +kernel
theorem dX11_lack_25 : decode cX11_lack 25 = .ok (.if_icmp .lt 6, 3) := by decide +kernel
theorem dX11_lack_28 : decode cX11_lack 28 = .ok (.bipush (-2), 2) := by decide +kernel
theorem dX11_lack_30 : decode cX11_lack 30 = .ok (.ireturn, 1) := by decide +kernel
theorem dX11_lack_31 : decode cX11_lack 31 = .ok (.aload_n 0, 1) := by decide +kernel
theorem dX11_lack_32 : decode cX11_lack 32 = .ok (.iload_n 3, 1) := by decide +kernel
theorem dX11_lack_33 : decode cX11_lack 33 = .ok (.invokevirtual 340, 3) := by decide +kernel
theorem dX11_lack_36 : decode cX11_lack 36 = .ok (.aload_n 0, 1) := by decide +kernel
theorem dX11_lack_37 : decode cX11_lack 37 = .ok (.getfield 60, 3) := by decide +kernel
theorem dX11_lack_40 : decode cX11_lack 40 = .ok (.iload_n 1, 1) := by decide +kernel
theorem dX11_lack_41 : decode cX11_lack 41 = .ok (.invokevirtual 344, 3) := by decide +kernel
theorem dX11_lack_44 : decode cX11_lack 44 = .ok (.istore 4, 2) := by decide +kernel
theorem dX11_lack_46 : decode cX11_lack 46 = .ok (.iload 4, 2) := by decide +kernel
theorem dX11_lack_48 : decode cX11_lack 48 = .ok (.ifCond .lt 10, 3) := by decide +kernel
theorem dX11_lack_51 : decode cX11_lack 51 = .ok (.iload 4, 2) := by decide +kernel
theorem dX11_lack_53 : decode cX11_lack 53 = .ok (.bipush 20, 2) := by decide +kernel
theorem dX11_lack_55 : decode cX11_lack 55 = .ok (.if_icmp .lt 6, 3) := by decide +kernel
theorem dX11_lack_58 : decode cX11_lack 58 = .ok (.bipush (-5), 2) := by decide +kernel
theorem dX11_lack_60 : decode cX11_lack 60 = .ok (.ireturn, 1) := by decide +kernel
theorem dX11_lack_61 : decode cX11_lack 61 = .ok (.iload_n 2, 1) := by decide +kernel
theorem dX11_lack_62 : decode cX11_lack 62 = .ok (.ifCond .ne 16, 3) := by decide +kernel
theorem dX11_lack_65 : decode cX11_lack 65 = .ok (.aload_n 0, 1) := by decide +kernel
theorem dX11_lack_66 : decode cX11_lack 66 = .ok (.getfield 60, 3) := by decide +kernel
theorem dX11_lack_69 : decode cX11_lack 69 = .ok (.getfield 347, 3) := by decide +kernel
theorem dX11_lack_72 : decode cX11_lack 72 = .ok (.iload 4, 2) := by decide +kernel
theorem dX11_lack_74 : decode cX11_lack 74 = .ok (.iaload, 1) := by decide +kernel
theorem dX11_lack_75 : decode cX11_lack 75 = .ok (.goto 13, 3) := by decide +kernel
theorem dX11_lack_78 : decode cX11_lack 78 = .ok (.aload_n 0, 1) := by decide +kernel
theorem dX11_lack_79 : decode cX11_lack 79 = .ok (.getfield 60, 3) := by decide +kernel
theorem dX11_lack_82 : decode cX11_lack 82 = .ok (.getfield 350, 3) := by decide +kernel
theorem dX11_lack_85 : decode cX11_lack 85 = .ok (.iload 4, 2) := by decide +kernel
theorem dX11_lack_87 : decode cX11_lack 87 = .ok (.iaload, 1) := by decide +kernel
theorem dX11_lack_88 : decode cX11_lack 88 = .ok (.ireturn, 1) := by decide +kernel
set_option maxRecDepth 100000 in
set_option maxHeartbeats 4000000 in
theorem c_X11_lack {l : Launch} {K : KG} {ad : Nat → Nat → Nat} {fl : Nat} {a1 : Int32} {a2 : Int32} {a3 : Int32} {M0 : Mem} {r9 : Int32} {M9 : Mem} (hf : f_X11_lack fl a1 a2 a3 M0 = some (r9, M9)) : Met l yX11_lack (Cond.code yX11_lack cX11_lack 5 (some .int) :: ztb) (RM (5) 0 0) (zPc K LC ad M0 [.ref (ad 0 0), .int a1, .int a2, .int a3]) (zQ K LC ad (some (.int r9)) M9) 0 0 (zA ad) := by
  refine z_enter (by decide) (Nat.le_of_ble_eq_true rfl) ?_
  intro p e s m args below meth c ls C hin hargs Z hl
  replace C : Cx p s m args meth c cX11_lack 5 "GlassPalace" (some .int) := C
  replace hl : lv_has ls 5 [(0, .ref (ad 0 0)), (1, .int a1), (2, .int a2), (3, .int a3)] := hl
  have hR : 5 ≤ (RM (5) 0 0).frames ∧ 40 * (5) ≤ (RM (5) 0 0).locals := ⟨Nat.le_refl _, Nat.le_refl _⟩
  have hB : 0 ≤ (RM (5) 0 0).cells ∧ 0 ≤ (RM (5) 0 0).slots := ⟨Nat.zero_le _, Nat.zero_le _⟩
  unfold f_X11_lack at hf
  refine lv_iload_n C.x C.b dX11_lack_0 rfl (lv_at hl 2 rfl) ?_
  refine lv_if_lt (tgt := 9) C.x C.b dX11_lack_1 (by decide) (fun hc1 => ?_) (fun hc1 => ?_)
  · replace hf := ite_t hf hc1
    refine lv_iconst (v := (-1)) C.x C.b dX11_lack_9 (by decide) ?_
    obtain ⟨rfl, rfl⟩ := pr_s hf
    exact z_iret C Z dX11_lack_10
  · replace hf := ite_f hf hc1
    refine lv_iload_n C.x C.b dX11_lack_4 rfl (lv_at hl 2 rfl) ?_
    refine lv_iconst (v := 1) C.x C.b dX11_lack_5 (by decide) ?_
    refine lv_icmp_le (tgt := 11) C.x C.b dX11_lack_6 (by decide) (fun hc2 => ?_) (fun hc2 => ?_)
    · replace hf := ite_t hf hc2
      refine lv_iload_n C.x C.b dX11_lack_11 rfl (lv_at hl 1 rfl) ?_
      refine lv_if_lt (tgt := 28) C.x C.b dX11_lack_12 (by decide) (fun hc3 => ?_) (fun hc3 => ?_)
      · replace hf := ite_t hf hc3
        refine lv_bipush (v := (-2)) C.x C.b dX11_lack_28 (by decide) ?_
        obtain ⟨rfl, rfl⟩ := pr_s hf
        exact z_iret C Z dX11_lack_30
      · replace hf := ite_f hf hc3
        refine lv_iload_n C.x C.b dX11_lack_15 rfl (lv_at hl 1 rfl) ?_
        refine lv_iconst (v := 1) C.x C.b dX11_lack_16 (by decide) ?_
        refine lv_aload_n C.x C.b dX11_lack_17 rfl (lv_at hl 0 rfl) ?_
        refine z_get C Z (lvC0 Nat.zero_lt_one) kC0 zc11 zin11 11 (by decide) k_373 rfl svC0_11 dX11_lack_18 ?_
        refine z_get C Z (lvC9 Nat.zero_lt_one) kC9 zc6 zin6 1 (by decide) k_237 rfl svC9_1 dX11_lack_21 ?_
        refine z_ishl C dX11_lack_24 ?_
        refine lv_icmp_lt (tgt := 31) C.x C.b dX11_lack_25 (by decide) (fun hc4 => ?_) (fun hc4 => ?_)
        · replace hf := ite_t hf hc4
          refine lv_aload_n C.x C.b dX11_lack_31 rfl (lv_at hl 0 rfl) ?_
          refine lv_iload_n C.x C.b dX11_lack_32 rfl (lv_at hl 3 rfl) ?_
          replace hf := bn1_s hf; obtain ⟨m5, hkm5, hf⟩ := hf
          refine z_cV (As := [.int a3]) (rest := []) (st1 := []) C Z mw_X11_lookAhead mv_X11_lookAhead k_974 (by decide) (z_hR hR (by decide)) (lvC0 Nat.zero_lt_one) kC0 zc11 (c_X11_lookAhead (l := l) (K := K) (ad := ad) hkm5) rfl hl.1 rfl (Nat.le_of_ble_eq_true rfl) dX11_lack_33 hB rfl (fun H locs Z => ?_)
          refine lv_aload_n C.x C.b dX11_lack_36 rfl (lv_at hl 0 rfl) ?_
          refine z_get C Z (lvC0 Nat.zero_lt_one) kC0 zc11 zin11 11 (by decide) k_373 rfl svC0_11 dX11_lack_37 ?_
          refine lv_iload_n C.x C.b dX11_lack_40 rfl (lv_at hl 1 rfl) ?_
          replace hf := bn2_s hf; obtain ⟨v7, m6, hkm6, hf⟩ := hf
          refine z_cV (As := [.int a1]) (rest := []) (st1 := [.int v7]) C Z mw_X6_firstLack mv_X6_firstLack k_982 (by decide) (z_hR hR (by decide)) (lvC9 Nat.zero_lt_one) kC9 zc6 (c_X6_firstLack (l := l) (K := K) (ad := ad) hkm6) rfl hl.1 rfl (Nat.le_of_ble_eq_true rfl) dX11_lack_41 hB rfl (fun H locs Z => ?_)
          refine z_istore (lv' := [(4, .int v7), (0, .ref (ad 0 0)), (1, .int a1), (2, .int a2), (3, .int a3)]) C dX11_lack_44 hl (by decide) rfl (onlast 3 rfl rfl rfl) (fun ls hl => ?_)
          refine lv_iload C.x C.b dX11_lack_46 (lv_at hl 0 rfl) ?_
          refine lv_if_lt (tgt := 58) C.x C.b dX11_lack_48 (by decide) (fun hc8 => ?_) (fun hc8 => ?_)
          · replace hf := ite_t hf hc8
            refine lv_bipush (v := (-5)) C.x C.b dX11_lack_58 (by decide) ?_
            obtain ⟨rfl, rfl⟩ := pr_s hf
            exact z_iret C Z dX11_lack_60
          · replace hf := ite_f hf hc8
            refine lv_iload C.x C.b dX11_lack_51 (lv_at hl 0 rfl) ?_
            refine lv_bipush (v := 20) C.x C.b dX11_lack_53 (by decide) ?_
            refine lv_icmp_lt (tgt := 61) C.x C.b dX11_lack_55 (by decide) (fun hc9 => ?_) (fun hc9 => ?_)
            · replace hf := ite_t hf hc9
              refine lv_iload_n C.x C.b dX11_lack_61 rfl (lv_at hl 3 rfl) ?_
              refine lv_if_ne (tgt := 78) C.x C.b dX11_lack_62 (by decide) (fun hc10 => ?_) (fun hc10 => ?_)
              · replace hf := ite_f hf hc10
                refine lv_aload_n C.x C.b dX11_lack_78 rfl (lv_at hl 1 rfl) ?_
                refine z_get C Z (lvC0 Nat.zero_lt_one) kC0 zc11 zin11 11 (by decide) k_373 rfl svC0_11 dX11_lack_79 ?_
                refine z_get C Z (lvC9 Nat.zero_lt_one) kC9 zc6 zin6 2 (by decide) k_239 rfl svC9_2 dX11_lack_82 ?_
                refine lv_iload C.x C.b dX11_lack_85 (lv_at hl 0 rfl) ?_
                replace hf := asr_s hf; obtain ⟨hq11, hf⟩ := hf
                refine z_iald C Z (lvC30 Nat.zero_lt_one) kC30 hq11 svC30 dX11_lack_87 ?_
                obtain ⟨rfl, rfl⟩ := pr_s hf
                exact z_iret C Z dX11_lack_88
              · replace hf := ite_t hf hc10
                refine lv_aload_n C.x C.b dX11_lack_65 rfl (lv_at hl 1 rfl) ?_
                refine z_get C Z (lvC0 Nat.zero_lt_one) kC0 zc11 zin11 11 (by decide) k_373 rfl svC0_11 dX11_lack_66 ?_
                refine z_get C Z (lvC9 Nat.zero_lt_one) kC9 zc6 zin6 3 (by decide) k_241 rfl svC9_3 dX11_lack_69 ?_
                refine lv_iload C.x C.b dX11_lack_72 (lv_at hl 0 rfl) ?_
                replace hf := asr_s hf; obtain ⟨hq12, hf⟩ := hf
                refine z_iald C Z (lvC31 Nat.zero_lt_one) kC31 hq12 svC31 dX11_lack_74 ?_
                refine lv_goto (tgt := 88) C.x C.b dX11_lack_75 (by decide) ?_
                obtain ⟨rfl, rfl⟩ := pr_s hf
                exact z_iret C Z dX11_lack_88
            · replace hf := ite_f hf hc9
              refine lv_bipush (v := (-5)) C.x C.b dX11_lack_58 (by decide) ?_
              obtain ⟨rfl, rfl⟩ := pr_s hf
              exact z_iret C Z dX11_lack_60
        · replace hf := ite_f hf hc4
          refine lv_bipush (v := (-2)) C.x C.b dX11_lack_28 (by decide) ?_
          obtain ⟨rfl, rfl⟩ := pr_s hf
          exact z_iret C Z dX11_lack_30
    · replace hf := ite_f hf hc2
      refine lv_iconst (v := (-1)) C.x C.b dX11_lack_9 (by decide) ?_
      obtain ⟨rfl, rfl⟩ := pr_s hf
      exact z_iret C Z dX11_lack_10
