/-! the class reads words and clauses -/
section CC
variable {fl b n : Nat} {m : Mem} {U : Nat → Int32}
theorem like_l (h : fed m U n) {st p : Nat} {f cc cl : Int32} {ws vs cd : Nat → Int32} (hp : p ≤ 200) : ∀ (L : List Int) (k N : Nat), L.length + 1 ≤ N → (∀ i, i < L.length → (tSp (st + k + i)).toInt = L.getD i 0 ∧ 0 ≤ L.getD i 0) → st + k + L.length ≤ 27 → f_X7_bytesLike_l2 fl (nI st) (nI (k + L.length)) N (nI k) (PM m b (nI p) f cc cl ws vs cd) = some (nI (k + mt5 U n L (p + k)), PM m b (nI p) f cc cl ws vs cd) := by
  obtain ⟨h1, h2, h3, h4⟩ := h
  intro L
  induction L with
  | nil =>
    intro k N hN hc hs
    obtain ⟨N', rfl⟩ : ∃ N', N = N' + 1 := ⟨N - 1, by omega⟩
    show f_X7_bytesLike_l2_b (f_X7_bytesLike_l2 fl (nI st) (nI (k + 0)) N') fl _ _ _ _ = _
    unfold f_X7_bytesLike_l2_b
    rw [if_pos (show nI (k + ([] : List Int).length) ≤ nI k from Int32.le_iff_toInt_le.mpr (Int.le_refl _))]
    rfl
  | cons c L ih =>
    intro k N hN hc hs
    replace hs : st + k + (L.length + 1) ≤ 27 := hs
    replace hN : L.length + 1 + 1 ≤ N := hN
    obtain ⟨N', rfl⟩ : ∃ N', N = N' + 1 := ⟨N - 1, by omega⟩
    obtain ⟨c1, c2⟩ := hc 0 (by show 0 < L.length + 1; omega)
    replace c1 : (tSp (st + k)).toInt = c := c1
    replace c2 : 0 ≤ c := c2
    have e1 := nI_toInt (n := k) (by omega)
    have e2 := nI_toInt (n := k + (L.length + 1)) (by omega)
    have e3 := nI_toInt (n := st + k) (by omega)
    have e4 := nI_clamp (n := st + k) (by omega)
    have e5 := nI_toInt (n := p + k) (by omega)
    have e6 := nI_clamp (n := p + k) (by omega)
    have e7 := nI_toInt (n := n) (by omega)
    show f_X7_bytesLike_l2_b (f_X7_bytesLike_l2 fl (nI st) (nI (k + (L.length + 1))) N') fl _ _ _ _ = _
    unfold f_X7_bytesLike_l2_b
    have e0 : (c :: L).length = L.length + 1 := rfl
    rw [e0, mt_c, if_neg (by rw [Int32.le_iff_toInt_le, e1, e2]; omega), nI_add, if_neg (fun q => by rw [Int32.le_iff_toInt_le, e3] at q; have q : (27 : Int) ≤ (st + k : Nat) := q; omega), gI_P0, gI_Pp, nI_add, h2]
    by_cases d : p + k < n
    · have e8 : lk U n (p + k) = (U (p + k)).toInt := by unfold lk; rw [ck_lt d]
      rw [if_neg (by rw [Int32.le_iff_toInt_le, e5, e7]; omega), if_neg (fun q => by rw [Int32.le_iff_toInt_le, e5] at q; have q : (100 : Int) ≤ (p + k : Nat) := q; omega), asr_t (by rw [vq_i, e5]; omega), asr_t (by rw [vq_i, e3]; omega)]
      simp only [e6, e4, gI_P16, h3 _ d]
      by_cases g : lk U n (p + k) = c
      · have g2 : U (p + k) = tSp (st + k) := i32_eq.mpr (by rw [← e8, g, c1])
        rw [if_pos g, if_pos g2, lt1_e, nI_1]
        have y := ih (k + 1) N' (by omega) (fun i hi => by
          have := hc (i + 1) (by show i + 1 < L.length + 1; omega)
          rw [show st + (k + 1) + i = st + k + (i + 1) by omega]
          exact this) (by omega)
        rw [show k + 1 + L.length = k + (L.length + 1) by omega, show p + (k + 1) = p + k + 1 by omega] at y
        rw [y]
        show some (nI _, _) = some (nI _, _)
        congr 3; omega
      · have g2 : ¬ U (p + k) = tSp (st + k) := fun q => g (by rw [e8, q, c1])
        rw [if_neg g, if_neg g2]
        rfl
    · have e8 : ¬ lk U n (p + k) = c := by rw [lk_ge d]; omega
      rw [if_pos (by rw [Int32.le_iff_toInt_le, e5, e7]; omega), if_neg e8]
      rfl
theorem wst_ok (w : Nat) (hw : w < 6) : tSt w = nI (wst w) ∧ tSt (w + 1) - tSt w = nI (wdl w).length ∧ wst w + (wdl w).length ≤ 27 ∧ ∀ i, i < (wdl w).length → (tSp (wst w + 0 + i)).toInt = (wdl w).getD i 0 ∧ 0 ≤ (wdl w).getD i 0 := by
  rcases (show w = 0 ∨ w = 1 ∨ w = 2 ∨ w = 3 ∨ w = 4 ∨ w = 5 by omega) with rfl | rfl | rfl | rfl | rfl | rfl <;> decide
theorem word_l (hfl : 1000 ≤ fl) (h : fed m U n) {p : Nat} {cc cl : Int32} {ws vs cd : Nat → Int32} (hp : p ≤ n) : ∀ (k w a N : Nat), w + k = 6 → k + 1 ≤ N → a ≤ 5 → f_X7_readWord_l4 fl N (nI a) (nI w) (PM m b (nI p) (-1) cc cl ws vs cd) = some ((match pW U n p k w a with | .inl q => ((1, nI (q - p), nI 6, 0) : Nat × Int32 × Int32 × Int32) | .inr v => (0, nI (max a a), nI v, nI (wdl v).length)), PM m b (nI p) (-1) cc cl ws vs cd) ∨ ∃ a', f_X7_readWord_l4 fl N (nI a) (nI w) (PM m b (nI p) (-1) cc cl ws vs cd) = some ((match pW U n p k w a with | .inl q => ((1, nI (q - p), nI 6, 0) : Nat × Int32 × Int32 × Int32) | .inr v => (0, a', nI v, nI (wdl v).length)), PM m b (nI p) (-1) cc cl ws vs cd) := by
  have hn := h.1
  intro k
  induction k with
  | zero =>
    intro w a N h1 h2 h3
    obtain ⟨N', rfl⟩ : ∃ N', N = N' + 1 := ⟨N - 1, by omega⟩
    refine Or.inl ?_
    have hw : w = 6 := by omega
    subst hw
    show f_X7_readWord_l4_b (f_X7_readWord_l4 fl N') fl _ _ _ = some ((1, nI (p + a - p), nI 6, 0), _)
    unfold f_X7_readWord_l4_b
    rw [if_pos (by decide), show p + a - p = a by omega]
  | succ k ih =>
    intro w a N h1 h2 h3
    obtain ⟨N', rfl⟩ : ∃ N', N = N' + 1 := ⟨N - 1, by omega⟩
    obtain ⟨s1, s2, s3, s4⟩ := wst_ok w (by omega)
    have e1 := nI_toInt (n := w) (by omega)
    have e2 := nI_clamp (n := w) (by omega)
    have e3 := nI_toInt (n := w + 1) (by omega)
    have e4 := nI_clamp (n := w + 1) (by omega)
    have hm := mt_le (U := U) (n := n) (wdl w) p
    have hl := wdl_le w
    have e5 := nI_toInt (n := mtw U n w p) (by unfold mtw; omega)
    have e6 := nI_toInt (n := (wdl w).length) (by omega)
    have e7 := nI_toInt (n := a) (by omega)
    have y := like_l (fl := fl) (b := b) (st := wst w) (p := p) (f := -1) (cc := cc) (cl := cl) (ws := ws) (vs := vs) (cd := cd) h (by omega) (wdl w) 0 fl (by omega) s4 (by omega)
    rw [Nat.zero_add, Nat.zero_add, Nat.add_zero, show nI 0 = 0 from rfl] at y
    have y' : f_X7_bytesLike fl (nI (wst w)) (nI (wdl w).length) (PM m b (nI p) (-1) cc cl ws vs cd) = some (nI (mtw U n w p), PM m b (nI p) (-1) cc cl ws vs cd) := by
      unfold f_X7_bytesLike
      rw [y, bn2_e]; rfl
    have step : f_X7_readWord_l4 fl (N' + 1) (nI a) (nI w) (PM m b (nI p) (-1) cc cl ws vs cd) = if mtw U n w p = (wdl w).length then some ((0, nI a, nI w, nI (wdl w).length), PM m b (nI p) (-1) cc cl ws vs cd) else f_X7_readWord_l4 fl N' (nI (max a (mtw U n w p))) (nI (w + 1)) (PM m b (nI p) (-1) cc cl ws vs cd) := by
      show f_X7_readWord_l4_b (f_X7_readWord_l4 fl N') fl _ _ _ = _
      unfold f_X7_readWord_l4_b
      have hmx : jmax (nI a) (nI (mtw U n w p)) = nI (max a (mtw U n w p)) := by
        unfold jmax
        by_cases g : nI a < nI (mtw U n w p)
        · rw [if_pos g]
          rw [Int32.lt_iff_toInt_lt, e7, e5] at g
          rw [Nat.max_eq_right (by omega)]
        · rw [if_neg g]
          rw [Int32.lt_iff_toInt_lt, e7, e5] at g
          rw [Nat.max_eq_left (by omega)]
      rw [if_neg (fun q => by rw [Int32.le_iff_toInt_le, e1] at q; have q : (6 : Int) ≤ w := q; omega), nI_1, asr_t (by rw [vq_i, e3]; omega), asr_t (by rw [vq_i, e1]; omega)]
      simp only [e2, e4, s1]
      rw [show tSt (w + 1) - nI (wst w) = nI (wdl w).length by rw [← s1]; exact s2, lt1_e, asr_t (by rw [vq_i, e1]; omega), y', bn2_e]
      by_cases g : mtw U n w p = (wdl w).length
      · rw [if_pos g, if_pos (by rw [g])]
      · rw [if_neg g, if_neg (fun q => by rw [i32_eq, e5, e6] at q; omega), lt1_e, hmx, lt1_e]
    show _ = some ((match (if mtw U n w p = (wdl w).length then .inr w else pW U n p k (w + 1) (max a (mtw U n w p)) : Nat ⊕ Nat) with | .inl q => ((1, nI (q - p), nI 6, 0) : Nat × Int32 × Int32 × Int32) | .inr v => _), _) ∨ ∃ a', _ = some ((match (if mtw U n w p = (wdl w).length then .inr w else pW U n p k (w + 1) (max a (mtw U n w p)) : Nat ⊕ Nat) with | .inl q => ((1, nI (q - p), nI 6, 0) : Nat × Int32 × Int32 × Int32) | .inr v => (0, a', nI v, nI (wdl v).length)), _)
    rw [step]
    by_cases g : mtw U n w p = (wdl w).length
    · rw [if_pos g, if_pos g]
      exact Or.inr ⟨nI a, rfl⟩
    · rw [if_neg g, if_neg g]
      have z := ih (w + 1) (max a (mtw U n w p)) N' (by omega) (by omega) (by unfold mtw; omega)
      refine Or.inr ?_
      rcases z with z | ⟨a', z⟩
      · exact ⟨_, z⟩
      · exact ⟨a', z⟩
theorem word_P (hfl : 1000 ≤ fl) (h : fed m U n) {p : Nat} {cc cl : Int32} {ws vs cd : Nat → Int32} (hp : p ≤ n) : f_X7_readWord fl (PM m b (nI p) (-1) cc cl ws vs cd) = match pWord U n p with
    | .inl q => some (-1, PM m b (nI q) (nI q) cc cl ws vs cd)
    | .inr w => some (nI w, PM m b (nI (p + (wdl w).length)) (-1) cc cl ws vs cd) := by
  have hw := pW_n (U := U) (n := n) hp 6 0 0 hp
  have y := word_l (fl := fl) (b := b) (cc := cc) (cl := cl) (ws := ws) (vs := vs) (cd := cd) hfl h hp 6 0 0 fl rfl (by omega) (by omega)
  rw [show nI 0 = 0 from rfl] at y
  have e : pWord U n p = pW U n p 6 0 0 := rfl
  unfold f_X7_readWord
  rw [e]
  cases hx : pW U n p 6 0 0 with
  | inl q =>
    rw [hx] at hw y
    have y' : f_X7_readWord_l4 fl fl 0 0 (PM m b (nI p) (-1) cc cl ws vs cd) = some ((1, nI (q - p), nI 6, 0), PM m b (nI p) (-1) cc cl ws vs cd) := by
      rcases y with y | ⟨a', y⟩ <;> exact y
    rw [y', bn2_e, if_neg (show ¬ (1 : Nat) = 0 by decide), lt1_e, gI_Pp, sI_Pp, nI_add, show p + (q - p) = q by have := hw.1; omega, fail_P, bn1_e]
  | inr w =>
    rw [hx] at hw y
    have y' : ∃ a', f_X7_readWord_l4 fl fl 0 0 (PM m b (nI p) (-1) cc cl ws vs cd) = some ((0, a', nI w, nI (wdl w).length), PM m b (nI p) (-1) cc cl ws vs cd) := by
      rcases y with y | ⟨a', y⟩
      · exact ⟨_, y⟩
      · exact ⟨a', y⟩
    obtain ⟨a', y'⟩ := y'
    rw [y', bn2_e, if_pos rfl, lt1_e, gI_Pp, sI_Pp, nI_add]
end CC
