section LIP
variable {p : Program} {l : Launch} {e : Env} {R : Room} {s : State} {m : MethodId} {args : Array Value} {below : List Frame} {meth : Method} {c : Code} {H : Heap} {locs : List Loc} {cells slots : Nat} {Q : State → Prop}
variable {cc : ByteArray} {pc nL : Nat} {ls : Array Slot} {rest : List Value} {own : String} {rt : Option FieldType} {K : KG} {L : Lay} {ad : Nat → Nat → Nat} {M M1 : Mem}
theorem l_calIp {y : MethodName} {bytes : ByteArray} {maxL h mc ms n idx r b : Nat} {As st0 : List Value} {rv : Option Value} (C : Cx p s m args meth c cc nL own rt) (g : LG K s) (Z : Zw K L ad M H) (hS : va_S (lA s) s.heap H locs) (w : MW y bytes maxL none n) (wv : zW (.instanceMethod y)) (hy : y.name = "<init>") (lk : zW (.methodLink own idx y)) (hL : maxL ≤ 20) (hR : h + 1 ≤ R.frames ∧ 40 * (h + 1) ≤ R.locals)
    (hM : Met l y (Cond.code y bytes maxL none :: ztb) (RM h mc ms) (zPc K L ad M (.ref (ad r b) :: As)) (zQ K L ad rv M1) mc ms (zA ad)) (hn : As.length = n) (hl : ls.size = nL) (hst : st0 = As.reverse ++ .ref (ad r b) :: rest) (hcat : (rest.map fun v => v.category).sum ≤ 8) (d : decode cc pc = .ok (.invokespecial idx, 3)) (hf : cells + mc ≤ R.cells ∧ slots + ms ≤ R.slots)
    (kk : ∀ (H1 : Heap) (locs1 : List Loc), Zw K L ad M1 H1 → va_S (lA s) s.heap H1 locs1 → FR ad H H1 → W p l e R s m args below meth c H1 locs1 (cells + mc) (slots + ms) Q (F0 m (pc + 3) ls (rv.toList ++ rest))) : W p l e R s m args below meth c H locs cells slots Q (F0 m pc ls st0) := by
  have Z0 := g.zd Z hS
  exact l_ran (y := y) g Z hS (va_runI (As := As) (rest := rest) C.1 hM ⟨z_calB C w lk hL hR, hy, C.w wv⟩ ⟨zPc.blind, z_pre Z0⟩ rfl hn hl hst (lv_room hcat) d hf) kk
end LIP
set_option maxRecDepth 100000 in
theorem r0_3 (k : Nat) : gR (q_Tp 6) 3 0 k = 0 := by
  rw [nTpBy (by decide) (by decide) (by decide), nByFl (by decide) (by decide) (by decide)]
  rfl
set_option maxRecDepth 100000 in
theorem r0_8 (k : Nat) : gR (q_Tp 6) 8 0 k = 0 := by
  rw [nTpBy (by decide) (by decide) (by decide), nByFl (by decide) (by decide) (by decide)]
  rfl
set_option maxRecDepth 100000 in
theorem r0_14 (x k : Nat) : gR (q_Tp 6) 14 x k = 0 := by
  rw [nTpBy (by decide) (by decide) (by decide), nByFl (by decide) (by decide) (by decide)]
  rfl
set_option maxRecDepth 100000 in
theorem r0_15 (x k : Nat) : gR (q_Tp 6) 15 x k = 0 := by
  rw [nTpBy (by decide) (by decide) (by decide), nByFl (by decide) (by decide) (by decide)]
  rfl
/-! the law's start -/
def aC (K : KG) : Nat → Nat → Nat := fun r b => kB K + pC r b
def aM (K : KG) : Nat → Nat → Nat := fun r b => kB K + pM r b
theorem pM_ge : ∀ r b, 175 ≤ pM r b := by
  intro r b
  unfold pM
  by_cases hb : b = 0
  · rw [if_pos hb]
    by_cases hr : r < 56
    · have h : ∀ r, r < 56 → 175 ≤ ([175, 176, 177, 178, 179, 180, 181, 182, 183, 184, 185, 186, 187, 188, 189, 190, 191, 192, 193, 194, 195, 196, 197, 198, 199, 200, 201, 202, 203, 204, 205, 206, 207, 208, 209, 210, 211, 212, 213, 214, 215, 216, 217, 218, 219, 220, 221, 222, 223, 224, 225, 226, 227, 228, 229, 230] : List Nat).getD r 175 := by decide
      exact h r hr
    · rw [getD_hi _ _ (by show 56 ≤ r; omega)]; exact Nat.le_refl _
  · rw [if_neg hb]; exact Nat.le_refl _
theorem pM_home : ∀ r b, ∃ r' b', (r' < 56 ∧ b' = 0) ∧ pM r b = pM r' b' := by
  intro r b
  by_cases h : r < 56 ∧ b = 0
  · exact ⟨r, b, h, rfl⟩
  · refine ⟨0, 0, ⟨by decide, rfl⟩, ?_⟩
    unfold pM
    by_cases hb : b = 0
    · rw [if_pos hb, getD_hi _ _ (by show 56 ≤ r; omega)]; rfl
    · rw [if_neg hb]; rfl
set_option maxRecDepth 100000 in
set_option maxHeartbeats 4000000 in
theorem whole_start {p : Program} {e : Env} {s : State} {m : MethodId} {below : List Frame} {meth : Method} {c : Code} (l : Launch) (hflags : l.flags = flags0) {b L : Nat} {xs : Nat → Int32} (hL : L ≤ 3072) (C0 : lw_At p s m meth c b L xs) : W p l e room_1 s m #[Value.ref b] below meth c s.heap [] 0 0 (lw_Z below #[Value.ref b] s) (entryFrame m ([Value.ref b] : List Value).toArray 4) := by
  obtain ⟨hx, hb, hr, hml, hown, hts, hX, hbl, hlk, hgv⟩ := C0
  have C : Cx p s m #[Value.ref b] meth c cL_law 4 "GlassPalaceLaw" ret := ⟨⟨hx, hb, hml, hown, fun w hw => hts w (List.mem_filter.mp hw).1⟩, hlk, hr⟩
  obtain ⟨K, g⟩ := s_start hts hgv
  have hl := lv_entry ([.ref b] : List Value) (n := 4) (Nat.le_of_ble_eq_true rfl)
  rw [lg_entry_eq]
  replace hl : lv_has _ 4 [(0, .ref b)] := hl
  have S0 : va_S (lA s) s.heap s.heap [] := ⟨Nat.le_refl _, fun _ _ _ => rfl, fun _ h => absurd h List.not_mem_nil⟩
  have Z0 : Zw K LK (aC K) q_C0 s.heap := Zw.empty (fun r => by
    rw [lc0]
    split
    · rfl
    · rfl) (fun r b => rfl) g.1.symm
  refine l_new (M1 := q_EC_1) (r := 0) (b := 0) C g Z0 S0 rfl zc11 zin11 tyX11_ok kl_123 kl_124 k_103 (by decide) b_EC_1 a_EC_1 rfl (fun k hk => (show defaultValue (tyX11 k) = svd LC 0 k by rcases (show k = 0 ∨ k = 1 ∨ k = 2 ∨ k = 3 ∨ k = 4 ∨ k = 5 ∨ k = 6 ∨ k = 7 ∨ k = 8 ∨ k = 9 ∨ k = 10 ∨ k = 11 ∨ k = 12 ∨ k = 13 ∨ k = 14 by omega) with rfl | rfl | rfl | rfl | rfl | rfl | rfl | rfl | rfl | rfl | rfl | rfl | rfl | rfl | rfl <;> rfl).trans (sv0_d (by decide) b_EC_1 rfl).symm) (lc0B (by decide) b_EC_1) (lc0N (by decide) b_EC_1 rfl) (lc0O (by decide) rfl) (lc0H (by decide)) (Nat.le_of_ble_eq_true rfl) (Nat.le_of_ble_eq_true rfl) dL_law_0 (fun H1 Z1 S1 F1 => ?_)
  refine lv_dup C.x C.b dL_law_3 rfl ?_
  refine l_calI (As := []) (rest := [.ref (aC K 0 0)]) C g Z1 S1 mw_X11_init mv_X11_init rfl kl_125 (by decide) ⟨Nat.le_of_ble_eq_true rfl, Nat.le_of_ble_eq_true rfl⟩ (c_X11_init (l := l) (K := K) (ad := aC K)) rfl hl.1 rfl (Nat.le_of_ble_eq_true rfl) dL_law_4 ⟨Nat.le_of_ble_eq_true rfl, Nat.le_of_ble_eq_true rfl⟩ (fun H2 locs2 Z2 S2 F2 => ?_)
  refine z_rstore_n (lv' := [(1, .ref (aC K 0 0)), (0, .ref b)]) C dL_law_7 rfl hl (by decide) rfl (onlast 0 rfl rfl rfl) (fun ls hl => ?_)
  have Zc := convC Z2
  have sz2 : H2.size = kB K + 175 := by
    rw [Zc.2.2.2, show gR mC0 998 0 0 = 175 by decide +kernel]
  have Y0 : Zw K LN (aM K) q_M0 H2 := Zw.empty (fun r => by
    rw [lc0]
    split
    · rfl
    · rfl) (fun r b => rfl) (by rw [sz2]; rfl)
  refine l_new (M1 := q_EM_1) (r := 0) (b := 0) C g Y0 S2 rfl zc12 zin12 tyX12_ok kl_1170 kl_1171 k_113 (by decide) b_EM_1 a_EM_1 rfl (fun k hk => (show defaultValue (tyX12 k) = svd LM 0 k by rcases (show k = 0 ∨ k = 1 ∨ k = 2 ∨ k = 3 ∨ k = 4 ∨ k = 5 ∨ k = 6 ∨ k = 7 ∨ k = 8 ∨ k = 9 ∨ k = 10 ∨ k = 11 ∨ k = 12 ∨ k = 13 ∨ k = 14 ∨ k = 15 ∨ k = 16 ∨ k = 17 ∨ k = 18 ∨ k = 19 ∨ k = 20 ∨ k = 21 ∨ k = 22 ∨ k = 23 ∨ k = 24 ∨ k = 25 ∨ k = 26 ∨ k = 27 ∨ k = 28 ∨ k = 29 ∨ k = 30 ∨ k = 31 ∨ k = 32 ∨ k = 33 ∨ k = 34 ∨ k = 35 ∨ k = 36 ∨ k = 37 ∨ k = 38 ∨ k = 39 ∨ k = 40 ∨ k = 41 ∨ k = 42 ∨ k = 43 ∨ k = 44 ∨ k = 45 ∨ k = 46 ∨ k = 47 ∨ k = 48 ∨ k = 49 ∨ k = 50 ∨ k = 51 ∨ k = 52 ∨ k = 53 ∨ k = 54 ∨ k = 55 ∨ k = 56 ∨ k = 57 ∨ k = 58 ∨ k = 59 ∨ k = 60 ∨ k = 61 ∨ k = 62 ∨ k = 63 ∨ k = 64 ∨ k = 65 ∨ k = 66 ∨ k = 67 ∨ k = 68 ∨ k = 69 ∨ k = 70 ∨ k = 71 by omega) with rfl | rfl | rfl | rfl | rfl | rfl | rfl | rfl | rfl | rfl | rfl | rfl | rfl | rfl | rfl | rfl | rfl | rfl | rfl | rfl | rfl | rfl | rfl | rfl | rfl | rfl | rfl | rfl | rfl | rfl | rfl | rfl | rfl | rfl | rfl | rfl | rfl | rfl | rfl | rfl | rfl | rfl | rfl | rfl | rfl | rfl | rfl | rfl | rfl | rfl | rfl | rfl | rfl | rfl | rfl | rfl | rfl | rfl | rfl | rfl | rfl | rfl | rfl | rfl | rfl | rfl | rfl | rfl | rfl | rfl | rfl | rfl <;> rfl).trans (sv0_d (by decide) b_EM_1 rfl).symm) (lc0B (by decide) b_EM_1) (lc0N (by decide) b_EM_1 rfl) (lc0O (by decide) rfl) (lc0H (by decide)) (Nat.le_of_ble_eq_true rfl) (Nat.le_of_ble_eq_true rfl) dL_law_8 (fun H3 Y1 S3 F3 => ?_)
  refine lv_dup C.x C.b dL_law_11 rfl ?_
  refine l_calIp (As := []) (rest := [.ref (aM K 0 0)]) C g Y1 S3 mw_X12_init mv_X12_init rfl kl_1172 (by decide) ⟨Nat.le_of_ble_eq_true rfl, Nat.le_of_ble_eq_true rfl⟩ (c_X12_init (l := l) (K := K) (ad := aM K)) rfl hl.1 rfl (Nat.le_of_ble_eq_true rfl) dL_law_12 ⟨Nat.le_of_ble_eq_true rfl, Nat.le_of_ble_eq_true rfl⟩ (fun H4 locs4 Y2 S4 F4 => ?_)
  refine z_rstore_n (lv' := [(2, .ref (aM K 0 0)), (1, .ref (aC K 0 0)), (0, .ref b)]) C dL_law_15 rfl hl (by decide) rfl (onlast 0 rfl rfl rfl) (fun ls hl => ?_)
  have Zm := convM Y2
  refine lv_iconst (v := 0) C.x C.b dL_law_16 (by decide) ?_
  refine z_istore_n (lv' := [(3, .int 0), (2, .ref (aM K 0 0)), (1, .ref (aC K 0 0)), (0, .ref b)]) C dL_law_17 rfl hl (by decide) rfl (onlast 0 rfl rfl rfl) (fun ls hl => ?_)
  have nz : ∀ q, zA (aM K) q → kB K + 175 ≤ q := by
    rintro q ⟨r, x, -, rfl⟩
    have := pM_ge r x
    show kB K + 175 ≤ kB K + pM r x
    omega
  have Zc4 : Zw K LC (aC K) (sR mC0 998 0 0 (gR mM0 998 0 0)) H4 := Zc.grow lcHC (fun r x hx => by
    have h1 := (Zc.1 r x hx).lt
    rw [F4.2 _ (Nat.lt_of_lt_of_le h1 F3.1) (fun w => by have := nz _ w; omega)]
    exact F3.2 _ h1) Zm.2.2.2
  have R0 : RR 0 mC0 mM0 := RR_start (fun _ _ _ => rfl) (fun _ _ _ => rfl) (by decide +kernel) (by decide +kernel) (fun k => r0_3 k) (fun k => r0_8 k) (fun x k => r0_14 x k) (fun x k => r0_15 x k)
  have J0 : JJ K 0 (sR mC0 998 0 0 (gR mM0 998 0 0)) mM0 (aC K) (aM K) H4 := ⟨Zc4, Zm, R0.cR (fun r x k h1 h2 => if_neg (fun q => h2 q.1)), fun r x r' x' hx hx' he => by
      rw [lc_998] at hx
      have h1 := (Zc.1 r x hx).lt
      have h2 := pM_ge r' x'
      have h3 : aM K r' x' = kB K + pM r' x' := rfl
      omega, fun r x => by
      obtain ⟨r', x', ⟨h1, h2⟩, h3⟩ := pM_home r x
      refine ⟨r', x', ?_, ?_⟩
      · rw [lcM1 h1, h2]; exact Nat.zero_lt_one
      · show kB K + pM r x = kB K + pM r' x'
        rw [h3], rfl⟩
  refine k_loop (adM := aM K) C g hX hbl hL (L + 1) 0 0 _ _ _ _ _ _ _ _ (by omega) rfl (Nat.zero_le _) (Nat.le_of_ble_eq_true rfl) (Nat.le_of_ble_eq_true rfl) J0 S4 (lv_sub hl [3, 2, 1, 0] rfl)
