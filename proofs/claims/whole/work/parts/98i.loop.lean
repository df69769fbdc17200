/-! the law's loop -/
theorem JJ.up {K : KG} {n : Nat} {mc mm : Mem} {adC adM : Nat → Nat → Nat} {H : Heap} (J : JJ K n mc mm adC adM H) : JJ K (n + 1) mc mm adC adM H := ⟨J.1, J.2.1, J.2.2.1.up, J.2.2.2⟩
theorem nI_m6 {N : Nat} (hN : N ≤ 3072) : (Int32.ofNat N - 6).toInt = (N : Int) - 6 := by
  have h := pk_sub_toInt (a := N) (b := 6) (by omega) (by omega)
  exact h
set_option maxRecDepth 100000 in
set_option maxHeartbeats 4000000 in
theorem k_loop {p : Program} {l : Launch} {e : Env} {s : State} {m : MethodId} {below : List Frame} {meth : Method} {c : Code} {K : KG} {b N : Nat} {xs : Nat → Int32} {adM : Nat → Nat → Nat} (C : Cx p s m #[Value.ref b] meth c cL_law 4 "GlassPalaceLaw" ret) (g : LG K s) (hX : va_X b N xs s s.heap) (hbl : b < s.heap.size) (hN : N ≤ 3072) : ∀ (d i n : Nat) (mc mm : Mem) (adC : Nat → Nat → Nat) (H : Heap) (locs : List Loc) (ls : Array Slot) (cells slots : Nat), N < i + 6 * d → i = 6 * n → i ≤ N → cells ≤ 1000 + n → slots ≤ 100000 + 11 * n → JJ K n mc mm adC adM H → va_S (lA s) s.heap H locs → lv_has ls 4 [(0, .ref b), (1, .ref (kB K)), (2, .ref (adM 0 0)), (3, .int (nI i))] → W p l e room_1 s m #[Value.ref b] below meth c H locs cells slots (lw_Z below #[Value.ref b] s) (F0 m 18 ls []) := by
  intro d
  induction d with
  | zero =>
    intro i n mc mm adC H locs ls cells slots hd hin hiN hc hsl J hS hl
    omega
  | succ d ih =>
    intro i n mc mm adC H locs ls cells slots hd hin hiN hc hsl J hS hl
    refine lv_iload_n C.x C.b dL_law_18 rfl (lv_at hl 3 rfl) ?_
    refine lv_aload_n C.x C.b dL_law_19 rfl (lv_at hl 0 rfl) ?_
    refine va_slen C.x C.b hX hbl (show ¬ s.heap.size ≤ b by omega) hS dL_law_20 ?_
    refine lv_bipush (v := 6) C.x C.b dL_law_21 (by decide) ?_
    refine lv_isub C.x C.b dL_law_23 ?_
    refine lv_icmp_gt (tgt := 1886) C.x C.b dL_law_24 (by decide) (fun _ => ?_) (fun hgt => ?_)
    · refine W.widen (k := 600000) (n := 7302250) (by omega) (by omega) ?_
      refine va_forget (fun q hq => hS.2.2 q hq) ?_
      refine lv_iconst (v := 1) C.x C.b dL_law_1886 (by decide) ?_
      exact lw_ret C.x C.b C.2.2 C.2.1 dL_law_1887
    · have hi : i + 6 ≤ N := by
        have e1 := nI_m6 hN
        have e2 : (nI i).toInt = (i : Int) := nI_toInt (n := i) (by omega)
        rw [Int32.lt_iff_toInt_lt, e1, e2] at hgt
        omega
      have go : ∀ (mc2 mm2 : Mem) (adC2 : Nat → Nat → Nat) (H2 : Heap) (locs2 : List Loc), JJ K (n + 1) mc2 mm2 adC2 adM H2 → va_S (lA s) s.heap H2 locs2 → W p l e room_1 s m #[Value.ref b] below meth c H2 locs2 (cells + 1) (slots + 11) (lw_Z below #[Value.ref b] s) (F0 m 1880 ls []) := by
        intro mc2 mm2 adC2 H2 locs2 J2 S2
        refine z_iinc (v := nI (i + 6)) (lv' := [(3, .int (nI (i + 6))), (0, .ref b), (1, .ref (kB K)), (2, .ref (adM 0 0))]) C dL_law_1880 hl (k := 3) rfl (nI_add i 6) (by decide) rfl (onlast 2 rfl rfl rfl) (fun ls hl => ?_)
        refine lv_goto (tgt := 18) C.x C.b dL_law_1883 (by decide) ?_
        exact ih (i + 6) (n + 1) mc2 mm2 adC2 H2 locs2 ls _ _ (by omega) (by omega) (by omega) (by omega) (by omega) J2 S2 (lv_sub hl [1, 2, 3, 0] rfl)
      refine lv_aload_n C.x C.b dL_law_27 rfl (lv_at hl 0 rfl) ?_
      refine lv_iload_n C.x C.b dL_law_28 rfl (lv_at hl 3 rfl) ?_
      refine va_sld C.x C.b hX hbl (show ¬ s.heap.size ≤ b by omega) hS (nI_in (show i < N by omega) (by omega)) dL_law_29 ?_
      refine lv_bipush (v := 63) C.x C.b dL_law_30 (by decide) ?_
      refine lv_iand C.x C.b dL_law_32 ?_
      generalize xs (nI i).toNatClampNeg &&& 63 = op
      by_cases h0 : op = 0
      · refine lv_tableIn (tgt := 232) C.x C.b dL_law_33 (by rw [h0]; decide) (by rw [h0]; decide) (by rw [h0]; rfl) (by decide) ?_
        exact k_case0 C g hX hbl hN hi (by omega) (by omega) (by omega) J hS hl go
      by_cases h1 : op = 1
      · refine lv_tableIn (tgt := 255) C.x C.b dL_law_33 (by rw [h1]; decide) (by rw [h1]; decide) (by rw [h1]; rfl) (by decide) ?_
        exact k_case1 C g hX hbl hN hi (by omega) (by omega) (by omega) J hS hl go
      by_cases h2 : op = 2
      · refine lv_tableIn (tgt := 298) C.x C.b dL_law_33 (by rw [h2]; decide) (by rw [h2]; decide) (by rw [h2]; rfl) (by decide) ?_
        exact k_case2 C g hX hbl hN hi (by omega) (by omega) (by omega) J hS hl go
      by_cases h3 : op = 3
      · refine lv_tableIn (tgt := 341) C.x C.b dL_law_33 (by rw [h3]; decide) (by rw [h3]; decide) (by rw [h3]; rfl) (by decide) ?_
        exact k_case3 C g hX hbl hN hi (by omega) (by omega) (by omega) J hS hl go
      by_cases h4 : op = 4
      · refine lv_tableIn (tgt := 394) C.x C.b dL_law_33 (by rw [h4]; decide) (by rw [h4]; decide) (by rw [h4]; rfl) (by decide) ?_
        exact k_case4 C g hX hbl hN hi (by omega) (by omega) (by omega) J hS hl go
      by_cases h5 : op = 5
      · refine lv_tableIn (tgt := 427) C.x C.b dL_law_33 (by rw [h5]; decide) (by rw [h5]; decide) (by rw [h5]; rfl) (by decide) ?_
        exact k_case5 C g hX hbl hN hi (by omega) (by omega) (by omega) J hS hl go
      by_cases h6 : op = 6
      · refine lv_tableIn (tgt := 460) C.x C.b dL_law_33 (by rw [h6]; decide) (by rw [h6]; decide) (by rw [h6]; rfl) (by decide) ?_
        exact k_case6 C g hX hbl hN hi (by omega) (by omega) (by omega) J hS hl go
      by_cases h7 : op = 7
      · refine lv_tableIn (tgt := 493) C.x C.b dL_law_33 (by rw [h7]; decide) (by rw [h7]; decide) (by rw [h7]; rfl) (by decide) ?_
        exact k_case7 C g hX hbl hN hi (by omega) (by omega) (by omega) J hS hl go
      by_cases h8 : op = 8
      · refine lv_tableIn (tgt := 526) C.x C.b dL_law_33 (by rw [h8]; decide) (by rw [h8]; decide) (by rw [h8]; rfl) (by decide) ?_
        exact k_case8 C g hX hbl hN hi (by omega) (by omega) (by omega) J hS hl go
      by_cases h9 : op = 9
      · refine lv_tableIn (tgt := 549) C.x C.b dL_law_33 (by rw [h9]; decide) (by rw [h9]; decide) (by rw [h9]; rfl) (by decide) ?_
        exact k_case9 C g hX hbl hN hi (by omega) (by omega) (by omega) J hS hl go
      by_cases h10 : op = 10
      · refine lv_tableIn (tgt := 582) C.x C.b dL_law_33 (by rw [h10]; decide) (by rw [h10]; decide) (by rw [h10]; rfl) (by decide) ?_
        exact k_case10 C g hX hbl hN hi (by omega) (by omega) (by omega) J hS hl go
      by_cases h11 : op = 11
      · refine lv_tableIn (tgt := 615) C.x C.b dL_law_33 (by rw [h11]; decide) (by rw [h11]; decide) (by rw [h11]; rfl) (by decide) ?_
        exact k_case11 C g hX hbl hN hi (by omega) (by omega) (by omega) J hS hl go
      by_cases h12 : op = 12
      · refine lv_tableIn (tgt := 648) C.x C.b dL_law_33 (by rw [h12]; decide) (by rw [h12]; decide) (by rw [h12]; rfl) (by decide) ?_
        exact k_case12 C g hX hbl hN hi (by omega) (by omega) (by omega) J hS hl go
      by_cases h13 : op = 13
      · refine lv_tableIn (tgt := 681) C.x C.b dL_law_33 (by rw [h13]; decide) (by rw [h13]; decide) (by rw [h13]; rfl) (by decide) ?_
        exact k_case13 C g hX hbl hN hi (by omega) (by omega) (by omega) J hS hl go
      by_cases h14 : op = 14
      · refine lv_tableIn (tgt := 704) C.x C.b dL_law_33 (by rw [h14]; decide) (by rw [h14]; decide) (by rw [h14]; rfl) (by decide) ?_
        exact k_case14 C g hX hbl hN hi (by omega) (by omega) (by omega) J hS hl go
      by_cases h15 : op = 15
      · refine lv_tableIn (tgt := 737) C.x C.b dL_law_33 (by rw [h15]; decide) (by rw [h15]; decide) (by rw [h15]; rfl) (by decide) ?_
        exact k_case15 C g hX hbl hN hi (by omega) (by omega) (by omega) J hS hl go
      by_cases h16 : op = 16
      · refine lv_tableIn (tgt := 760) C.x C.b dL_law_33 (by rw [h16]; decide) (by rw [h16]; decide) (by rw [h16]; rfl) (by decide) ?_
        exact k_case16 C g hX hbl hN hi (by omega) (by omega) (by omega) J hS hl go
      by_cases h17 : op = 17
      · refine lv_tableIn (tgt := 803) C.x C.b dL_law_33 (by rw [h17]; decide) (by rw [h17]; decide) (by rw [h17]; rfl) (by decide) ?_
        exact k_case17 C g hX hbl hN hi (by omega) (by omega) (by omega) J hS hl go
      by_cases h18 : op = 18
      · refine lv_tableIn (tgt := 836) C.x C.b dL_law_33 (by rw [h18]; decide) (by rw [h18]; decide) (by rw [h18]; rfl) (by decide) ?_
        exact k_case18 C g hX hbl hN hi (by omega) (by omega) (by omega) J hS hl go
      by_cases h19 : op = 19
      · refine lv_tableIn (tgt := 869) C.x C.b dL_law_33 (by rw [h19]; decide) (by rw [h19]; decide) (by rw [h19]; rfl) (by decide) ?_
        exact k_case19 C g hX hbl hN hi (by omega) (by omega) (by omega) J hS hl go
      by_cases h20 : op = 20
      · refine lv_tableIn (tgt := 902) C.x C.b dL_law_33 (by rw [h20]; decide) (by rw [h20]; decide) (by rw [h20]; rfl) (by decide) ?_
        exact k_case20 C g hX hbl hN hi (by omega) (by omega) (by omega) J hS hl go
      by_cases h21 : op = 21
      · refine lv_tableIn (tgt := 915) C.x C.b dL_law_33 (by rw [h21]; decide) (by rw [h21]; decide) (by rw [h21]; rfl) (by decide) ?_
        exact k_case21 C g hX hbl hN hi (by omega) (by omega) (by omega) J hS hl go
      by_cases h22 : op = 22
      · refine lv_tableIn (tgt := 948) C.x C.b dL_law_33 (by rw [h22]; decide) (by rw [h22]; decide) (by rw [h22]; rfl) (by decide) ?_
        exact k_case22 C g hX hbl hN hi (by omega) (by omega) (by omega) J hS hl go
      by_cases h23 : op = 23
      · refine lv_tableIn (tgt := 981) C.x C.b dL_law_33 (by rw [h23]; decide) (by rw [h23]; decide) (by rw [h23]; rfl) (by decide) ?_
        exact k_case23 C g hX hbl hN hi (by omega) (by omega) (by omega) J hS hl go
      by_cases h24 : op = 24
      · refine lv_tableIn (tgt := 1014) C.x C.b dL_law_33 (by rw [h24]; decide) (by rw [h24]; decide) (by rw [h24]; rfl) (by decide) ?_
        exact k_case24 C g hX hbl hN hi (by omega) (by omega) (by omega) J hS hl go
      by_cases h25 : op = 25
      · refine lv_tableIn (tgt := 1037) C.x C.b dL_law_33 (by rw [h25]; decide) (by rw [h25]; decide) (by rw [h25]; rfl) (by decide) ?_
        exact k_case25 C g hX hbl hN hi (by omega) (by omega) (by omega) J hS hl go
      by_cases h26 : op = 26
      · refine lv_tableIn (tgt := 1070) C.x C.b dL_law_33 (by rw [h26]; decide) (by rw [h26]; decide) (by rw [h26]; rfl) (by decide) ?_
        exact k_case26 C g hX hbl hN hi (by omega) (by omega) (by omega) J hS hl go
      by_cases h27 : op = 27
      · refine lv_tableIn (tgt := 1113) C.x C.b dL_law_33 (by rw [h27]; decide) (by rw [h27]; decide) (by rw [h27]; rfl) (by decide) ?_
        exact k_case27 C g hX hbl hN hi (by omega) (by omega) (by omega) J hS hl go
      by_cases h28 : op = 28
      · refine lv_tableIn (tgt := 1136) C.x C.b dL_law_33 (by rw [h28]; decide) (by rw [h28]; decide) (by rw [h28]; rfl) (by decide) ?_
        exact k_case28 C g hX hbl hN hi (by omega) (by omega) (by omega) J hS hl go
      by_cases h29 : op = 29
      · refine lv_tableIn (tgt := 1179) C.x C.b dL_law_33 (by rw [h29]; decide) (by rw [h29]; decide) (by rw [h29]; rfl) (by decide) ?_
        exact k_case29 C g hX hbl hN hi (by omega) (by omega) (by omega) J hS hl go
      by_cases h30 : op = 30
      · refine lv_tableIn (tgt := 1238) C.x C.b dL_law_33 (by rw [h30]; decide) (by rw [h30]; decide) (by rw [h30]; rfl) (by decide) ?_
        exact k_case30 C g hX hbl hN hi (by omega) (by omega) (by omega) J hS hl go
      by_cases h31 : op = 31
      · refine lv_tableIn (tgt := 1297) C.x C.b dL_law_33 (by rw [h31]; decide) (by rw [h31]; decide) (by rw [h31]; rfl) (by decide) ?_
        exact k_case31 C g hX hbl hN hi (by omega) (by omega) (by omega) J hS hl go
      by_cases h32 : op = 32
      · refine lv_tableIn (tgt := 1350) C.x C.b dL_law_33 (by rw [h32]; decide) (by rw [h32]; decide) (by rw [h32]; rfl) (by decide) ?_
        exact k_case32 C g hX hbl hN hi (by omega) (by omega) (by omega) J hS hl go
      by_cases h33 : op = 33
      · refine lv_tableIn (tgt := 1363) C.x C.b dL_law_33 (by rw [h33]; decide) (by rw [h33]; decide) (by rw [h33]; rfl) (by decide) ?_
        exact k_case33 C g hX hbl hN hi (by omega) (by omega) (by omega) J hS hl go
      by_cases h34 : op = 34
      · refine lv_tableIn (tgt := 1396) C.x C.b dL_law_33 (by rw [h34]; decide) (by rw [h34]; decide) (by rw [h34]; rfl) (by decide) ?_
        exact k_case34 C g hX hbl hN hi (by omega) (by omega) (by omega) J hS hl go
      by_cases h35 : op = 35
      · refine lv_tableIn (tgt := 1429) C.x C.b dL_law_33 (by rw [h35]; decide) (by rw [h35]; decide) (by rw [h35]; rfl) (by decide) ?_
        exact k_case35 C g hX hbl hN hi (by omega) (by omega) (by omega) J hS hl go
      by_cases h36 : op = 36
      · refine lv_tableIn (tgt := 1452) C.x C.b dL_law_33 (by rw [h36]; decide) (by rw [h36]; decide) (by rw [h36]; rfl) (by decide) ?_
        exact k_case36 C g hX hbl hN hi (by omega) (by omega) (by omega) J hS hl go
      by_cases h37 : op = 37
      · refine lv_tableIn (tgt := 1501) C.x C.b dL_law_33 (by rw [h37]; decide) (by rw [h37]; decide) (by rw [h37]; rfl) (by decide) ?_
        exact k_case37 C g hX hbl hN hi (by omega) (by omega) (by omega) J hS hl go
      by_cases h38 : op = 38
      · refine lv_tableIn (tgt := 1544) C.x C.b dL_law_33 (by rw [h38]; decide) (by rw [h38]; decide) (by rw [h38]; rfl) (by decide) ?_
        exact k_case38 C g hX hbl hN hi (by omega) (by omega) (by omega) J hS hl go
      by_cases h39 : op = 39
      · refine lv_tableIn (tgt := 1567) C.x C.b dL_law_33 (by rw [h39]; decide) (by rw [h39]; decide) (by rw [h39]; rfl) (by decide) ?_
        exact k_case39 C g hX hbl hN hi (by omega) (by omega) (by omega) J hS hl go
      by_cases h40 : op = 40
      · refine lv_tableIn (tgt := 1600) C.x C.b dL_law_33 (by rw [h40]; decide) (by rw [h40]; decide) (by rw [h40]; rfl) (by decide) ?_
        exact k_case40 C g hX hbl hN hi (by omega) (by omega) (by omega) J hS hl go
      by_cases h41 : op = 41
      · refine lv_tableIn (tgt := 1644) C.x C.b dL_law_33 (by rw [h41]; decide) (by rw [h41]; decide) (by rw [h41]; rfl) (by decide) ?_
        exact k_case41 C g hX hbl hN hi (by omega) (by omega) (by omega) J hS hl go
      by_cases h42 : op = 42
      · refine lv_tableIn (tgt := 1667) C.x C.b dL_law_33 (by rw [h42]; decide) (by rw [h42]; decide) (by rw [h42]; rfl) (by decide) ?_
        exact k_case42 C g hX hbl hN hi (by omega) (by omega) (by omega) J hS hl go
      by_cases h43 : op = 43
      · refine lv_tableIn (tgt := 1710) C.x C.b dL_law_33 (by rw [h43]; decide) (by rw [h43]; decide) (by rw [h43]; rfl) (by decide) ?_
        exact k_case43 C g hX hbl hN hi (by omega) (by omega) (by omega) J hS hl go
      by_cases h44 : op = 44
      · refine lv_tableIn (tgt := 1783) C.x C.b dL_law_33 (by rw [h44]; decide) (by rw [h44]; decide) (by rw [h44]; rfl) (by decide) ?_
        exact k_case44 C g hX hbl hN hi (by omega) (by omega) (by omega) J hS hl go
      by_cases h45 : op = 45
      · refine lv_tableIn (tgt := 1817) C.x C.b dL_law_33 (by rw [h45]; decide) (by rw [h45]; decide) (by rw [h45]; rfl) (by decide) ?_
        exact k_case45 C g hX hbl hN hi (by omega) (by omega) (by omega) J hS hl go
      refine lv_tableOut (tgt := 1880) C.x C.b dL_law_33 (tab_out (fun k g1 g2 => by rcases (show k = 0 ∨ k = 1 ∨ k = 2 ∨ k = 3 ∨ k = 4 ∨ k = 5 ∨ k = 6 ∨ k = 7 ∨ k = 8 ∨ k = 9 ∨ k = 10 ∨ k = 11 ∨ k = 12 ∨ k = 13 ∨ k = 14 ∨ k = 15 ∨ k = 16 ∨ k = 17 ∨ k = 18 ∨ k = 19 ∨ k = 20 ∨ k = 21 ∨ k = 22 ∨ k = 23 ∨ k = 24 ∨ k = 25 ∨ k = 26 ∨ k = 27 ∨ k = 28 ∨ k = 29 ∨ k = 30 ∨ k = 31 ∨ k = 32 ∨ k = 33 ∨ k = 34 ∨ k = 35 ∨ k = 36 ∨ k = 37 ∨ k = 38 ∨ k = 39 ∨ k = 40 ∨ k = 41 ∨ k = 42 ∨ k = 43 ∨ k = 44 ∨ k = 45 by omega) with rfl | rfl | rfl | rfl | rfl | rfl | rfl | rfl | rfl | rfl | rfl | rfl | rfl | rfl | rfl | rfl | rfl | rfl | rfl | rfl | rfl | rfl | rfl | rfl | rfl | rfl | rfl | rfl | rfl | rfl | rfl | rfl | rfl | rfl | rfl | rfl | rfl | rfl | rfl | rfl | rfl | rfl | rfl | rfl | rfl | rfl <;> assumption)) (by decide) ?_
      exact W.widen (by omega) (by omega) (go _ _ _ _ _ J.up hS)
