/-! what the constructors leave, in the layouts of the walk -/
theorem getD_le {l : List (Nat × Nat)} (h : l.all (fun t => decide (t.1 ≤ 3)) = true) (k : Nat) : (l.getD k (0, 0)).1 ≤ 3 := by
  rw [List.getD_eq_getElem?_getD]
  cases e : l[k]? with
  | none => exact Nat.zero_le _
  | some t =>
    have := List.all_eq_true.mp h t (List.mem_of_getElem? e)
    exact of_decide_eq_true this
theorem sv_eq {L : Lay} {ad : Nat → Nat → Nat} {M1 M2 : Mem} {r b k : Nat} (h1 : gI M2 r b k = gI M1 r b k) (h2 : gL M2 r b k = gL M1 r b k) (h3 : gR M2 r b k = gR M1 r b k) : sv L ad M2 r b k = sv L ad M1 r b k := by
  unfold sv
  rw [h1, h2, h3]
theorem zi_X11_init_12 : Zi q_X11_init_12 := (zi_Tx (j := 10)).r
theorem zi_X11_init_13 : Zi q_X11_init_13 := zi_X11_init_12.n
theorem zi_X10_init_1 : Zi q_X10_init_1 := zi_X11_init_13.n
theorem zi_X10_init_2 : Zi q_X10_init_2 := zi_X10_init_1.r
theorem zi_X10_init_3 : Zi q_X10_init_3 := zi_X10_init_2.n
theorem zi_X10_init_4 : Zi q_X10_init_4 := zi_X10_init_3.r
theorem zi_X10_init_5 : Zi q_X10_init_5 := zi_X10_init_4.n
theorem zi_X10_init_6 : Zi q_X10_init_6 := zi_X10_init_5.r
theorem zi_X10_init_7 : Zi q_X10_init_7 := zi_X10_init_6.n
theorem zi_X10_init_8 : Zi q_X10_init_8 := zi_X10_init_7.r
theorem zi_X10_init_9 : Zi q_X10_init_9 := zi_X10_init_8.n
theorem zi_X10_init_10 : Zi q_X10_init_10 := zi_X10_init_9.r
theorem zi_X11_init_14 : Zi q_X11_init_14 := zi_X10_init_10.r
theorem zi_X11_init_15 : Zi q_X11_init_15 := zi_X11_init_14.n
theorem zi_X11_init_16 : Zi q_X11_init_16 := zi_X11_init_15.r
theorem zi_X11_init_17 : Zi q_X11_init_17 := zi_X11_init_16.n
theorem zi_X6_init_1 : Zi q_X6_init_1 := zi_X11_init_17.n
theorem zi_X6_init_2 : Zi q_X6_init_2 := zi_X6_init_1.r
theorem zi_X6_init_3 : Zi q_X6_init_3 := zi_X6_init_2.n
theorem zi_X6_init_4 : Zi q_X6_init_4 := zi_X6_init_3.r
theorem zi_X6_init_5 : Zi q_X6_init_5 := zi_X6_init_4.n
theorem zi_X6_init_6 : Zi q_X6_init_6 := zi_X6_init_5.r
theorem zi_X6_init_7 : Zi q_X6_init_7 := zi_X6_init_6.n
theorem zi_X6_init_8 : Zi q_X6_init_8 := zi_X6_init_7.r
theorem zi_X6_init_9 : Zi q_X6_init_9 := zi_X6_init_8.n
theorem zi_X6_init_10 : Zi q_X6_init_10 := zi_X6_init_9.r
theorem zi_X6_init_11 : Zi q_X6_init_11 := zi_X6_init_10.n
theorem zi_X6_init_12 : Zi q_X6_init_12 := zi_X6_init_11.r
theorem zi_X6_init_13 : Zi q_X6_init_13 := zi_X6_init_12.n
theorem zi_X6_init_14 : Zi q_X6_init_14 := zi_X6_init_13.r
theorem zi_X6_init_15 : Zi q_X6_init_15 := zi_X6_init_14.n
theorem zi_X6_init_16 : Zi q_X6_init_16 := zi_X6_init_15.r
theorem zi_X11_init_18 : Zi q_X11_init_18 := zi_X6_init_16.r
theorem zi_X11_init_19 : Zi q_X11_init_19 := zi_X11_init_18.n
theorem zi_X5_init_1 : Zi q_X5_init_1 := zi_X11_init_19.n
theorem zi_X5_init_2 : Zi q_X5_init_2 := zi_X5_init_1.r
theorem zi_X5_init_3 : Zi q_X5_init_3 := zi_X5_init_2.n
theorem zi_X5_init_4 : Zi q_X5_init_4 := zi_X5_init_3.r
theorem zi_X5_init_5 : Zi q_X5_init_5 := zi_X5_init_4.n
theorem zi_X5_init_6 : Zi q_X5_init_6 := zi_X5_init_5.r
theorem zi_X11_init_20 : Zi q_X11_init_20 := zi_X5_init_6.r
theorem zi_X11_init_21 : Zi q_X11_init_21 := zi_X11_init_20.n
theorem zi_X0_init_1 : Zi q_X0_init_1 := zi_X11_init_21.n
theorem zi_X0_init_2 : Zi q_X0_init_2 := zi_X0_init_1.r
theorem zi_X11_init_22 : Zi q_X11_init_22 := zi_X0_init_2.r
theorem zi_X11_init_23 : Zi q_X11_init_23 := zi_X11_init_22.n
theorem zi_X11_init_24 : Zi q_X11_init_24 := zi_X11_init_23.r
theorem iC_in {r x k : Nat} (h1 : r = 1 → x = 0 ∧ k < 8) (h2 : r = 2 → x = 0 ∧ k < 8) (h13 : r = 13 → x < 30) (h42 : r = 42 → x < 6) : gI (q_Tp 6) r x k = iC0 r x k := by
  rw [u_Tp, u_By, u_Fl, show gI q_X11_init_24 r x k = 0 from zi_X11_init_24 r x k]
  unfold iC0
  by_cases c1 : r = 1
  · subst c1
    rw [if_neg (by omega), if_neg (by omega), if_neg (by omega), if_pos ⟨rfl, h1 rfl⟩, if_pos rfl]
  · by_cases c2 : r = 2
    · subst c2
      rw [if_neg (by omega), if_neg (by omega), if_neg (by omega), if_neg (by omega), if_pos ⟨rfl, h2 rfl⟩, if_neg (by omega), if_pos rfl]
    · by_cases c13 : r = 13
      · subst c13
        rw [if_neg (show ¬ ((13 : Nat) = 42 ∧ x < 6 ∧ k = 0) by omega), if_neg c1, if_neg c2, if_pos (show (13 : Nat) = 13 from rfl)]
        by_cases k0 : k = 0
        · rw [if_pos ⟨rfl, h13 rfl, k0⟩, if_pos k0]
        · rw [if_neg (fun q => k0 q.2.2), if_neg k0]
          by_cases k5 : k = 5
          · rw [if_pos ⟨rfl, h13 rfl, k5⟩, if_pos k5]
          · rw [if_neg (fun q => k5 q.2.2), if_neg k5, if_neg (by omega), if_neg (by omega)]
      · by_cases c42 : r = 42
        · subst c42
          rw [if_neg c1, if_neg c2, if_neg c13]
          by_cases k0 : k = 0
          · rw [if_pos ⟨rfl, h42 rfl, k0⟩, if_pos ⟨rfl, k0⟩]
          · rw [if_neg (fun q => k0 q.2.2), if_neg (by omega), if_neg (by omega), if_neg (by omega), if_neg (by omega), if_neg (fun q => k0 q.2)]
        · rw [if_neg (fun q => c42 q.1), if_neg (fun q => c13 q.1), if_neg (fun q => c13 q.1), if_neg (fun q => c1 q.1), if_neg (fun q => c2 q.1), if_neg c1, if_neg c2, if_neg c13, if_neg (fun q => c42 q.1)]
theorem cntC : ∀ r, r < 44 → lc LC (q_Tp 6) r = gR (q_Tp 6) 999 r 0 := by decide +kernel
theorem nTpBy {r x k : Nat} (h1 : r ≠ 42) (h2 : r ≠ 12) (h3 : r < 900) : gR (q_Tp 6) r x k = gR (q_By 30) r x k := by
  rw [v_Tp, if_neg (by omega), if_neg (by omega), if_neg (by omega), if_neg (by omega)]
theorem nByFl {r x k : Nat} (h1 : r ≠ 13) (h2 : r ≠ 4) (h3 : r < 900) : gR (q_By 30) r x k = gR (q_Fl 8) r x k := by
  rw [v_By, if_neg (by omega), if_neg (by omega), if_neg (by omega), if_neg (by omega)]
theorem r3_0 : ∀ k, k < 15 → (LC.2.1 0 k).1 = 3 → gR (q_Tp 6) 0 0 k = 1 := by decide +kernel
theorem r3_5 : ∀ k, k < 4 → (LC.2.1 5 k).1 = 3 → gR (q_Tp 6) 5 0 k = 1 := by decide +kernel
theorem r3_6 : ∀ k, k < 3 → (LC.2.1 6 k).1 = 3 → gR (q_Tp 6) 6 0 k = 1 := by decide +kernel
theorem r3_7 : ∀ k, k < 5 → (LC.2.1 7 k).1 = 3 → gR (q_Tp 6) 7 0 k = 1 := by decide +kernel
theorem r3_9 : ∀ k, k < 10 → (LC.2.1 9 k).1 = 3 → gR (q_Tp 6) 9 0 k = 1 := by decide +kernel
theorem r3_10 : ∀ k, k < 3 → (LC.2.1 10 k).1 = 3 → gR (q_Tp 6) 10 0 k = 1 := by decide +kernel
theorem r3_11 : ∀ k, k < 2 → (LC.2.1 11 k).1 = 3 → gR (q_Tp 6) 11 0 k = 1 := by decide +kernel
set_option maxRecDepth 100000 in
theorem refC3 : ∀ r b k, b < lc (L0 LC 44) (q_Tp 6) r → (LC.2.1 r k).1 = 3 → gR (q_Tp 6) r b k = b + 1 := by
  intro r b k hb h3
  have hr : r < 44 := by
    rcases Nat.lt_or_ge r 44 with q | q
    · exact q
    · rw [lc0, if_neg (by omega)] at hb; omega
  rw [lc0, if_pos hr, ← cntC r hr] at hb
  rcases (show r = 0 ∨ r = 1 ∨ r = 2 ∨ r = 3 ∨ r = 4 ∨ r = 5 ∨ r = 6 ∨ r = 7 ∨ r = 8 ∨ r = 9 ∨ r = 10 ∨ r = 11 ∨ r = 12 ∨ r = 13 ∨ r = 14 ∨ r = 15 ∨ r = 16 ∨ r = 17 ∨ r = 18 ∨ r = 19 ∨ r = 20 ∨ r = 21 ∨ r = 22 ∨ r = 23 ∨ r = 24 ∨ r = 25 ∨ r = 26 ∨ r = 27 ∨ r = 28 ∨ r = 29 ∨ r = 30 ∨ r = 31 ∨ r = 32 ∨ r = 33 ∨ r = 34 ∨ r = 35 ∨ r = 36 ∨ r = 37 ∨ r = 38 ∨ r = 39 ∨ r = 40 ∨ r = 41 ∨ r = 42 ∨ r = 43 by omega) with rfl | rfl | rfl | rfl | rfl | rfl | rfl | rfl | rfl | rfl | rfl | rfl | rfl | rfl | rfl | rfl | rfl | rfl | rfl | rfl | rfl | rfl | rfl | rfl | rfl | rfl | rfl | rfl | rfl | rfl | rfl | rfl | rfl | rfl | rfl | rfl | rfl | rfl | rfl | rfl | rfl | rfl | rfl | rfl
  · by_cases hk : k < 15
    · have hb0 : b = 0 := by
        have : b < 1 := hb
        omega
      subst hb0
      exact r3_0 k hk h3
    · have e : LC.2.1 0 k = (0, 0) := getD_hi _ _ (by show 15 ≤ k; omega)
      rw [e] at h3
      exact absurd h3 (by decide)
  · exact absurd (show (0 : Nat) = 3 from h3) (by decide)
  · exact absurd (show (0 : Nat) = 3 from h3) (by decide)
  · exact absurd (show (2 : Nat) = 3 from h3) (by decide)
  · exact absurd (show (4 : Nat) = 3 from h3) (by decide)
  · by_cases hk : k < 4
    · have hb0 : b = 0 := by
        have : b < 1 := hb
        omega
      subst hb0
      exact r3_5 k hk h3
    · have e : LC.2.1 5 k = (0, 0) := getD_hi _ _ (by show 4 ≤ k; omega)
      rw [e] at h3
      exact absurd h3 (by decide)
  · by_cases hk : k < 3
    · have hb0 : b = 0 := by
        have : b < 1 := hb
        omega
      subst hb0
      exact r3_6 k hk h3
    · have e : LC.2.1 6 k = (0, 0) := getD_hi _ _ (by show 3 ≤ k; omega)
      rw [e] at h3
      exact absurd h3 (by decide)
  · by_cases hk : k < 5
    · have hb0 : b = 0 := by
        have : b < 1 := hb
        omega
      subst hb0
      exact r3_7 k hk h3
    · have e : LC.2.1 7 k = (0, 0) := getD_hi _ _ (by show 5 ≤ k; omega)
      rw [e] at h3
      exact absurd h3 (by decide)
  · exact absurd (show (2 : Nat) = 3 from h3) (by decide)
  · by_cases hk : k < 10
    · have hb0 : b = 0 := by
        have : b < 1 := hb
        omega
      subst hb0
      exact r3_9 k hk h3
    · have e : LC.2.1 9 k = (0, 0) := getD_hi _ _ (by show 10 ≤ k; omega)
      rw [e] at h3
      exact absurd h3 (by decide)
  · by_cases hk : k < 3
    · have hb0 : b = 0 := by
        have : b < 1 := hb
        omega
      subst hb0
      exact r3_10 k hk h3
    · have e : LC.2.1 10 k = (0, 0) := getD_hi _ _ (by show 3 ≤ k; omega)
      rw [e] at h3
      exact absurd h3 (by decide)
  · by_cases hk : k < 2
    · have hb0 : b = 0 := by
        have : b < 1 := hb
        omega
      subst hb0
      exact r3_11 k hk h3
    · have e : LC.2.1 11 k = (0, 0) := getD_hi _ _ (by show 2 ≤ k; omega)
      rw [e] at h3
      exact absurd h3 (by decide)
  · exact absurd (show (4 : Nat) = 3 from h3) (by decide)
  · by_cases hk : k < 8
    · have hb : b < 30 := hb
      rcases (show k = 0 ∨ k = 1 ∨ k = 2 ∨ k = 3 ∨ k = 4 ∨ k = 5 ∨ k = 6 ∨ k = 7 by omega) with rfl | rfl | rfl | rfl | rfl | rfl | rfl | rfl
      · exact absurd (show (0 : Nat) = 3 from h3) (by decide)
      · exact absurd (show (0 : Nat) = 3 from h3) (by decide)
      · exact absurd (show (0 : Nat) = 3 from h3) (by decide)
      · exact absurd (show (0 : Nat) = 3 from h3) (by decide)
      · exact absurd (show (0 : Nat) = 3 from h3) (by decide)
      · exact absurd (show (0 : Nat) = 3 from h3) (by decide)
      · rw [nTpBy (by decide) (by decide) (by decide), v_By, if_pos ⟨rfl, hb, by decide, by decide⟩]
      · rw [nTpBy (by decide) (by decide) (by decide), v_By, if_pos ⟨rfl, hb, by decide, by decide⟩]
    · have e : LC.2.1 13 k = (0, 0) := getD_hi _ _ (by show 8 ≤ k; omega)
      rw [e] at h3
      exact absurd h3 (by decide)
  · exact absurd (show (2 : Nat) = 3 from h3) (by decide)
  · exact absurd (show (2 : Nat) = 3 from h3) (by decide)
  · exact absurd (show (0 : Nat) = 3 from h3) (by decide)
  · exact absurd (show (4 : Nat) = 3 from h3) (by decide)
  · exact absurd (show (0 : Nat) = 3 from h3) (by decide)
  · by_cases hk : k < 6
    · have hb : b < 10 := hb
      rcases (show k = 0 ∨ k = 1 ∨ k = 2 ∨ k = 3 ∨ k = 4 ∨ k = 5 by omega) with rfl | rfl | rfl | rfl | rfl | rfl
      · exact absurd (show (0 : Nat) = 3 from h3) (by decide)
      · exact absurd (show (0 : Nat) = 3 from h3) (by decide)
      · exact absurd (show (0 : Nat) = 3 from h3) (by decide)
      · rw [nTpBy (by decide) (by decide) (by decide), nByFl (by decide) (by decide) (by decide)]
        show gR (q_Tx 10) 19 b 3 = b + 1
        rw [v_Tx, if_pos ⟨rfl, hb, by decide, by decide⟩]
      · rw [nTpBy (by decide) (by decide) (by decide), nByFl (by decide) (by decide) (by decide)]
        show gR (q_Tx 10) 19 b 4 = b + 1
        rw [v_Tx, if_pos ⟨rfl, hb, by decide, by decide⟩]
      · rw [nTpBy (by decide) (by decide) (by decide), nByFl (by decide) (by decide) (by decide)]
        show gR (q_Tx 10) 19 b 5 = b + 1
        rw [v_Tx, if_pos ⟨rfl, hb, by decide, by decide⟩]
    · have e : LC.2.1 19 k = (0, 0) := getD_hi _ _ (by show 6 ≤ k; omega)
      rw [e] at h3
      exact absurd h3 (by decide)
  · exact absurd (show (0 : Nat) = 3 from h3) (by decide)
  · exact absurd (show (0 : Nat) = 3 from h3) (by decide)
  · exact absurd (show (0 : Nat) = 3 from h3) (by decide)
  · exact absurd hb (by rw [show lc LC (q_Tp 6) 23 = 0 by decide +kernel]; omega)
  · exact absurd hb (by rw [show lc LC (q_Tp 6) 24 = 0 by decide +kernel]; omega)
  · exact absurd (show (0 : Nat) = 3 from h3) (by decide)
  · exact absurd (show (0 : Nat) = 3 from h3) (by decide)
  · exact absurd (show (0 : Nat) = 3 from h3) (by decide)
  · exact absurd (show (0 : Nat) = 3 from h3) (by decide)
  · exact absurd (show (0 : Nat) = 3 from h3) (by decide)
  · exact absurd (show (0 : Nat) = 3 from h3) (by decide)
  · exact absurd (show (0 : Nat) = 3 from h3) (by decide)
  · exact absurd (show (0 : Nat) = 3 from h3) (by decide)
  · exact absurd (show (0 : Nat) = 3 from h3) (by decide)
  · exact absurd (show (0 : Nat) = 3 from h3) (by decide)
  · exact absurd (show (0 : Nat) = 3 from h3) (by decide)
  · exact absurd (show (0 : Nat) = 3 from h3) (by decide)
  · exact absurd (show (0 : Nat) = 3 from h3) (by decide)
  · exact absurd (show (0 : Nat) = 3 from h3) (by decide)
  · exact absurd (show (0 : Nat) = 3 from h3) (by decide)
  · exact absurd (show (0 : Nat) = 3 from h3) (by decide)
  · exact absurd (show (0 : Nat) = 3 from h3) (by decide)
  · by_cases hk : k < 3
    · have hb : b < 6 := hb
      rcases (show k = 0 ∨ k = 1 ∨ k = 2 by omega) with rfl | rfl | rfl
      · exact absurd (show (0 : Nat) = 3 from h3) (by decide)
      · rw [v_Tp, if_pos ⟨rfl, hb, rfl⟩]
      · exact absurd (show (0 : Nat) = 3 from h3) (by decide)
    · have e : LC.2.1 42 k = (0, 0) := getD_hi _ _ (by show 3 ≤ k; omega)
      rw [e] at h3
      exact absurd h3 (by decide)
  · exact absurd (show (1 : Nat) = 3 from h3) (by decide)
set_option maxRecDepth 100000 in
theorem refC4 : ∀ r b k a, b < lc (L0 LC 44) (q_Tp 6) r → LC.1 r = .inr a → k < a.2 → 4 ≤ (LC.2.1 r k).1 → gR (q_Tp 6) r b k = k + 1 := by
  intro r b k a hb hk hka h4
  have hr : r < 44 := by
    rcases Nat.lt_or_ge r 44 with q | q
    · exact q
    · rw [lc0, if_neg (by omega)] at hb; omega
  rw [lc0, if_pos hr, ← cntC r hr] at hb
  rcases (show r = 0 ∨ r = 1 ∨ r = 2 ∨ r = 3 ∨ r = 4 ∨ r = 5 ∨ r = 6 ∨ r = 7 ∨ r = 8 ∨ r = 9 ∨ r = 10 ∨ r = 11 ∨ r = 12 ∨ r = 13 ∨ r = 14 ∨ r = 15 ∨ r = 16 ∨ r = 17 ∨ r = 18 ∨ r = 19 ∨ r = 20 ∨ r = 21 ∨ r = 22 ∨ r = 23 ∨ r = 24 ∨ r = 25 ∨ r = 26 ∨ r = 27 ∨ r = 28 ∨ r = 29 ∨ r = 30 ∨ r = 31 ∨ r = 32 ∨ r = 33 ∨ r = 34 ∨ r = 35 ∨ r = 36 ∨ r = 37 ∨ r = 38 ∨ r = 39 ∨ r = 40 ∨ r = 41 ∨ r = 42 ∨ r = 43 by omega) with rfl | rfl | rfl | rfl | rfl | rfl | rfl | rfl | rfl | rfl | rfl | rfl | rfl | rfl | rfl | rfl | rfl | rfl | rfl | rfl | rfl | rfl | rfl | rfl | rfl | rfl | rfl | rfl | rfl | rfl | rfl | rfl | rfl | rfl | rfl | rfl | rfl | rfl | rfl | rfl | rfl | rfl | rfl | rfl
  · exact absurd hk (by show ¬ (Sum.inl _ = Sum.inr _); exact fun q => by cases q)
  · exact absurd (show 4 ≤ (0 : Nat) from h4) (by decide)
  · exact absurd (show 4 ≤ (0 : Nat) from h4) (by decide)
  · exact absurd (show 4 ≤ (2 : Nat) from h4) (by decide)
  · cases hk
    have hka : k < 30 := hka
    have hb0 : b = 0 := by
      have : b < 1 := hb
      omega
    subst hb0
    rw [nTpBy (by decide) (by decide) (by decide), v_By, if_neg (by omega), if_pos ⟨rfl, rfl, hka⟩]
  · exact absurd hk (by show ¬ (Sum.inl _ = Sum.inr _); exact fun q => by cases q)
  · exact absurd hk (by show ¬ (Sum.inl _ = Sum.inr _); exact fun q => by cases q)
  · exact absurd hk (by show ¬ (Sum.inl _ = Sum.inr _); exact fun q => by cases q)
  · exact absurd (show 4 ≤ (2 : Nat) from h4) (by decide)
  · exact absurd hk (by show ¬ (Sum.inl _ = Sum.inr _); exact fun q => by cases q)
  · exact absurd hk (by show ¬ (Sum.inl _ = Sum.inr _); exact fun q => by cases q)
  · exact absurd hk (by show ¬ (Sum.inl _ = Sum.inr _); exact fun q => by cases q)
  · cases hk
    have hka : k < 6 := hka
    have hb0 : b = 0 := by
      have : b < 1 := hb
      omega
    subst hb0
    rw [v_Tp, if_neg (by omega), if_pos ⟨rfl, rfl, hka⟩]
  · exact absurd hk (by show ¬ (Sum.inl _ = Sum.inr _); exact fun q => by cases q)
  · exact absurd (show 4 ≤ (2 : Nat) from h4) (by decide)
  · exact absurd (show 4 ≤ (2 : Nat) from h4) (by decide)
  · exact absurd (show 4 ≤ (0 : Nat) from h4) (by decide)
  · cases hk
    have hka : k < 10 := hka
    have hb0 : b = 0 := by
      have : b < 1 := hb
      omega
    subst hb0
    rw [nTpBy (by decide) (by decide) (by decide), nByFl (by decide) (by decide) (by decide)]
    show gR (q_Tx 10) 17 0 k = k + 1
    rw [v_Tx, if_neg (by omega), if_pos ⟨rfl, rfl, hka⟩]
  · exact absurd (show 4 ≤ (0 : Nat) from h4) (by decide)
  · exact absurd hk (by show ¬ (Sum.inl _ = Sum.inr _); exact fun q => by cases q)
  · exact absurd (show 4 ≤ (0 : Nat) from h4) (by decide)
  · exact absurd (show 4 ≤ (0 : Nat) from h4) (by decide)
  · exact absurd (show 4 ≤ (0 : Nat) from h4) (by decide)
  · exact absurd hk (by show ¬ (Sum.inl _ = Sum.inr _); exact fun q => by cases q)
  · exact absurd hk (by show ¬ (Sum.inl _ = Sum.inr _); exact fun q => by cases q)
  · exact absurd (show 4 ≤ (0 : Nat) from h4) (by decide)
  · exact absurd (show 4 ≤ (0 : Nat) from h4) (by decide)
  · exact absurd (show 4 ≤ (0 : Nat) from h4) (by decide)
  · exact absurd (show 4 ≤ (0 : Nat) from h4) (by decide)
  · exact absurd (show 4 ≤ (0 : Nat) from h4) (by decide)
  · exact absurd (show 4 ≤ (0 : Nat) from h4) (by decide)
  · exact absurd (show 4 ≤ (0 : Nat) from h4) (by decide)
  · exact absurd (show 4 ≤ (0 : Nat) from h4) (by decide)
  · exact absurd (show 4 ≤ (0 : Nat) from h4) (by decide)
  · exact absurd (show 4 ≤ (0 : Nat) from h4) (by decide)
  · exact absurd (show 4 ≤ (0 : Nat) from h4) (by decide)
  · exact absurd (show 4 ≤ (0 : Nat) from h4) (by decide)
  · exact absurd (show 4 ≤ (0 : Nat) from h4) (by decide)
  · exact absurd (show 4 ≤ (0 : Nat) from h4) (by decide)
  · exact absurd (show 4 ≤ (0 : Nat) from h4) (by decide)
  · exact absurd (show 4 ≤ (0 : Nat) from h4) (by decide)
  · exact absurd (show 4 ≤ (0 : Nat) from h4) (by decide)
  · exact absurd hk (by show ¬ (Sum.inl _ = Sum.inr _); exact fun q => by cases q)
  · exact absurd (show 4 ≤ (1 : Nat) from h4) (by decide)
theorem kleC : ∀ r k ci, LC.1 r = .inl ci → (LC.2.1 r k).1 ≤ 3 := by
  intro r k ci hk
  by_cases hr : r < 44
  · rcases (show r = 0 ∨ r = 1 ∨ r = 2 ∨ r = 3 ∨ r = 4 ∨ r = 5 ∨ r = 6 ∨ r = 7 ∨ r = 8 ∨ r = 9 ∨ r = 10 ∨ r = 11 ∨ r = 12 ∨ r = 13 ∨ r = 14 ∨ r = 15 ∨ r = 16 ∨ r = 17 ∨ r = 18 ∨ r = 19 ∨ r = 20 ∨ r = 21 ∨ r = 22 ∨ r = 23 ∨ r = 24 ∨ r = 25 ∨ r = 26 ∨ r = 27 ∨ r = 28 ∨ r = 29 ∨ r = 30 ∨ r = 31 ∨ r = 32 ∨ r = 33 ∨ r = 34 ∨ r = 35 ∨ r = 36 ∨ r = 37 ∨ r = 38 ∨ r = 39 ∨ r = 40 ∨ r = 41 ∨ r = 42 ∨ r = 43 by omega) with rfl | rfl | rfl | rfl | rfl | rfl | rfl | rfl | rfl | rfl | rfl | rfl | rfl | rfl | rfl | rfl | rfl | rfl | rfl | rfl | rfl | rfl | rfl | rfl | rfl | rfl | rfl | rfl | rfl | rfl | rfl | rfl | rfl | rfl | rfl | rfl | rfl | rfl | rfl | rfl | rfl | rfl | rfl | rfl
    · exact getD_le (by decide) k
    · exact absurd hk (by show ¬ (Sum.inr _ = Sum.inl _); exact fun q => by cases q)
    · exact absurd hk (by show ¬ (Sum.inr _ = Sum.inl _); exact fun q => by cases q)
    · exact absurd hk (by show ¬ (Sum.inr _ = Sum.inl _); exact fun q => by cases q)
    · exact absurd hk (by show ¬ (Sum.inr _ = Sum.inl _); exact fun q => by cases q)
    · exact getD_le (by decide) k
    · exact getD_le (by decide) k
    · exact getD_le (by decide) k
    · exact absurd hk (by show ¬ (Sum.inr _ = Sum.inl _); exact fun q => by cases q)
    · exact getD_le (by decide) k
    · exact getD_le (by decide) k
    · exact getD_le (by decide) k
    · exact absurd hk (by show ¬ (Sum.inr _ = Sum.inl _); exact fun q => by cases q)
    · exact getD_le (by decide) k
    · exact absurd hk (by show ¬ (Sum.inr _ = Sum.inl _); exact fun q => by cases q)
    · exact absurd hk (by show ¬ (Sum.inr _ = Sum.inl _); exact fun q => by cases q)
    · exact absurd hk (by show ¬ (Sum.inr _ = Sum.inl _); exact fun q => by cases q)
    · exact absurd hk (by show ¬ (Sum.inr _ = Sum.inl _); exact fun q => by cases q)
    · exact absurd hk (by show ¬ (Sum.inr _ = Sum.inl _); exact fun q => by cases q)
    · exact getD_le (by decide) k
    · exact absurd hk (by show ¬ (Sum.inr _ = Sum.inl _); exact fun q => by cases q)
    · exact absurd hk (by show ¬ (Sum.inr _ = Sum.inl _); exact fun q => by cases q)
    · exact absurd hk (by show ¬ (Sum.inr _ = Sum.inl _); exact fun q => by cases q)
    · exact getD_le (by decide) k
    · exact getD_le (by decide) k
    · exact absurd hk (by show ¬ (Sum.inr _ = Sum.inl _); exact fun q => by cases q)
    · exact absurd hk (by show ¬ (Sum.inr _ = Sum.inl _); exact fun q => by cases q)
    · exact absurd hk (by show ¬ (Sum.inr _ = Sum.inl _); exact fun q => by cases q)
    · exact absurd hk (by show ¬ (Sum.inr _ = Sum.inl _); exact fun q => by cases q)
    · exact absurd hk (by show ¬ (Sum.inr _ = Sum.inl _); exact fun q => by cases q)
    · exact absurd hk (by show ¬ (Sum.inr _ = Sum.inl _); exact fun q => by cases q)
    · exact absurd hk (by show ¬ (Sum.inr _ = Sum.inl _); exact fun q => by cases q)
    · exact absurd hk (by show ¬ (Sum.inr _ = Sum.inl _); exact fun q => by cases q)
    · exact absurd hk (by show ¬ (Sum.inr _ = Sum.inl _); exact fun q => by cases q)
    · exact absurd hk (by show ¬ (Sum.inr _ = Sum.inl _); exact fun q => by cases q)
    · exact absurd hk (by show ¬ (Sum.inr _ = Sum.inl _); exact fun q => by cases q)
    · exact absurd hk (by show ¬ (Sum.inr _ = Sum.inl _); exact fun q => by cases q)
    · exact absurd hk (by show ¬ (Sum.inr _ = Sum.inl _); exact fun q => by cases q)
    · exact absurd hk (by show ¬ (Sum.inr _ = Sum.inl _); exact fun q => by cases q)
    · exact absurd hk (by show ¬ (Sum.inr _ = Sum.inl _); exact fun q => by cases q)
    · exact absurd hk (by show ¬ (Sum.inr _ = Sum.inl _); exact fun q => by cases q)
    · exact absurd hk (by show ¬ (Sum.inr _ = Sum.inl _); exact fun q => by cases q)
    · exact getD_le (by decide) k
    · exact absurd hk (by show ¬ (Sum.inr _ = Sum.inl _); exact fun q => by cases q)
  · have e : slotsC.getD r (.inr (0, 0)) = .inr (0, 0) := getD_hi _ _ (by show 44 ≤ r; omega)
    have e2 : LC.2.1 r k = (0, 0) := by
      show (match slotsC.getD r (.inr (0, 0)) with | .inl l => l.getD k (0, 0) | .inr t => t) = (0, 0)
      rw [e]
    rw [e2]
    exact Nat.zero_le _
def mC0 : Mem := (iC0, fun _ _ _ => 0, (q_Tp 6).2.2)
set_option maxRecDepth 100000 in
theorem convC {K : KG} {ad : Nat → Nat → Nat} {H : Heap} (Z : Zw K LK ad (q_Tp 6) H) : Zw K LC ad mC0 H := by
  have hc : ∀ r, lc LC (q_Tp 6) r = lc (L0 LC 44) (q_Tp 6) r := fun r => by
    by_cases hr : r < 44
    · rw [lc0, if_pos hr]; exact cntC r hr
    · rw [lc0, if_neg hr]; exact lcC44 (by omega)
  have Z1 := Z.fix hc refC3 refC4 kleC
  have b13 : ∀ {b}, b < lc LC (q_Tp 6) 13 → b < 30 := fun h => h
  have b42 : ∀ {b}, b < lc LC (q_Tp 6) 42 → b < 6 := fun h => h
  have e2 : ∀ r b k, gL mC0 r b k = gL (q_Tp 6) r b k := fun r b k => (zl_Tp (j := 6) r b k).symm
  refine Z1.conv (fun _ => rfl) (fun _ => rfl) (fun r b ci hb hk k => sv_eq ?_ (e2 r b k) rfl) (fun r b a hb hk k hka => sv_eq ?_ (e2 r b k) rfl) (fun _ _ => rfl) rfl
  · refine (iC_in (fun e => ?_) (fun e => ?_) (fun e => by subst e; exact b13 hb) (fun e => by subst e; exact b42 hb)).symm
    · subst e; exact absurd hk (by show ¬ (Sum.inr _ = Sum.inl _); exact fun q => by cases q)
    · subst e; exact absurd hk (by show ¬ (Sum.inr _ = Sum.inl _); exact fun q => by cases q)
  · refine (iC_in (fun e => ?_) (fun e => ?_) (fun e => by subst e; exact b13 hb) (fun e => by subst e; exact b42 hb)).symm
    · subst e
      cases hk
      have hka : k < 8 := hka
      have : b < 1 := hb
      omega
    · subst e
      cases hk
      have hka : k < 8 := hka
      have : b < 1 := hb
      omega
def Zx (m : Mem) : Prop := ∀ r x k, r ≠ 35 → r ≠ 47 → r ≠ 52 → gI m r x k = 0
theorem Zx.n {m : Mem} {r : Nat} (h : Zx m) : Zx (sN m r) := fun a b c p q t => by
  rw [gI_sN]
  split
  · rfl
  · exact h a b c p q t
theorem Zx.r {m : Mem} {r b k v : Nat} (h : Zx m) : Zx (sR m r b k v) := fun x y z => h x y z
theorem Zx.z {m : Mem} {r b k : Nat} (h : Zx m) : Zx (sI m r b k 0) := fun x y z p q t => by
  rw [gI_sI]
  split
  · rfl
  · exact h x y z p q t
theorem Zx.s {m : Mem} {r b k : Nat} {v : Int32} (hr : r = 35 ∨ r = 47 ∨ r = 52) (h : Zx m) : Zx (sI m r b k v) := fun x y z p q t => by
  rw [gI_sI, if_neg (fun w => by omega)]
  exact h x y z p q t
theorem zx_M0 : Zx q_M0 := fun _ _ _ _ _ _ => rfl
theorem zx_EM_1 : Zx q_EM_1 := zx_M0.n
theorem zx_X12_init_1 : Zx q_X12_init_1 := zx_EM_1.z
theorem zx_X12_init_2 : Zx q_X12_init_2 := zx_X12_init_1.z
theorem zx_X12_init_3 : Zx q_X12_init_3 := zx_X12_init_2.n
theorem zx_X12_init_4 : Zx q_X12_init_4 := zx_X12_init_3.r
theorem zx_X12_init_5 : Zx q_X12_init_5 := zx_X12_init_4.n
theorem zx_X12_init_6 : Zx q_X12_init_6 := zx_X12_init_5.r
theorem zx_X12_init_7 : Zx q_X12_init_7 := zx_X12_init_6.n
theorem zx_X12_init_8 : Zx q_X12_init_8 := zx_X12_init_7.r
theorem zx_X12_init_9 : Zx q_X12_init_9 := zx_X12_init_8.n
theorem zx_X12_init_10 : Zx q_X12_init_10 := zx_X12_init_9.r
theorem zx_X12_init_11 : Zx q_X12_init_11 := zx_X12_init_10.n
theorem zx_X12_init_12 : Zx q_X12_init_12 := zx_X12_init_11.r
theorem zx_X12_init_13 : Zx q_X12_init_13 := zx_X12_init_12.n
theorem zx_X12_init_14 : Zx q_X12_init_14 := zx_X12_init_13.r
theorem zx_X12_init_15 : Zx q_X12_init_15 := zx_X12_init_14.n
theorem zx_X12_init_16 : Zx q_X12_init_16 := zx_X12_init_15.r
theorem zx_X12_init_17 : Zx q_X12_init_17 := zx_X12_init_16.n
theorem zx_X12_init_18 : Zx q_X12_init_18 := zx_X12_init_17.r
theorem zx_X12_init_19 : Zx q_X12_init_19 := zx_X12_init_18.n
theorem zx_X12_init_20 : Zx q_X12_init_20 := zx_X12_init_19.r
theorem zx_X12_init_21 : Zx q_X12_init_21 := zx_X12_init_20.n
theorem zx_X12_init_22 : Zx q_X12_init_22 := zx_X12_init_21.r
theorem zx_X12_init_23 : Zx q_X12_init_23 := zx_X12_init_22.n
theorem zx_X12_init_24 : Zx q_X12_init_24 := zx_X12_init_23.r
theorem zx_X12_init_25 : Zx q_X12_init_25 := zx_X12_init_24.n
theorem zx_X12_init_26 : Zx q_X12_init_26 := zx_X12_init_25.r
theorem zx_X12_init_27 : Zx q_X12_init_27 := zx_X12_init_26.n
theorem zx_X12_init_28 : Zx q_X12_init_28 := zx_X12_init_27.r
theorem zx_X12_init_29 : Zx q_X12_init_29 := zx_X12_init_28.z
theorem zx_X12_init_30 : Zx q_X12_init_30 := zx_X12_init_29.n
theorem zx_X12_init_31 : Zx q_X12_init_31 := zx_X12_init_30.r
theorem zx_X12_init_32 : Zx q_X12_init_32 := zx_X12_init_31.n
theorem zx_X12_init_33 : Zx q_X12_init_33 := zx_X12_init_32.r
theorem zx_X12_init_34 : Zx q_X12_init_34 := zx_X12_init_33.n
theorem zx_X12_init_35 : Zx q_X12_init_35 := zx_X12_init_34.r
theorem zx_X12_init_36 : Zx q_X12_init_36 := zx_X12_init_35.n
theorem zx_X12_init_37 : Zx q_X12_init_37 := zx_X12_init_36.r
theorem zx_X12_init_38 : Zx q_X12_init_38 := zx_X12_init_37.n
theorem zx_X12_init_39 : Zx q_X12_init_39 := zx_X12_init_38.r
theorem zx_X12_init_40 : Zx q_X12_init_40 := zx_X12_init_39.z
theorem zx_X12_init_41 : Zx q_X12_init_41 := zx_X12_init_40.z
theorem zx_X12_init_42 : Zx q_X12_init_42 := zx_X12_init_41.n
theorem zx_X12_init_43 : Zx q_X12_init_43 := zx_X12_init_42.r
theorem zx_X12_init_44 : Zx q_X12_init_44 := zx_X12_init_43.n
theorem zx_X12_init_45 : Zx q_X12_init_45 := zx_X12_init_44.r
theorem zx_X12_init_46 : Zx q_X12_init_46 := zx_X12_init_45.n
theorem zx_X12_init_47 : Zx q_X12_init_47 := zx_X12_init_46.r
theorem zx_X12_init_48 : Zx q_X12_init_48 := zx_X12_init_47.n
theorem zx_X12_init_49 : Zx q_X12_init_49 := zx_X12_init_48.r
theorem zx_X12_init_50 : Zx q_X12_init_50 := zx_X12_init_49.n
theorem zx_X12_init_51 : Zx q_X12_init_51 := zx_X12_init_50.r
theorem zx_X12_init_52 : Zx q_X12_init_52 := zx_X12_init_51.n
theorem zx_X12_init_53 : Zx q_X12_init_53 := zx_X12_init_52.r
theorem zx_X12_init_54 : Zx q_X12_init_54 := zx_X12_init_53.n
theorem zx_X12_init_55 : Zx q_X12_init_55 := zx_X12_init_54.r
theorem zx_X12_init_56 : Zx q_X12_init_56 := zx_X12_init_55.z
theorem zx_X12_init_57 : Zx q_X12_init_57 := zx_X12_init_56.z
theorem zx_X12_init_58 : Zx q_X12_init_58 := zx_X12_init_57.z
theorem zx_X12_init_59 : Zx q_X12_init_59 := zx_X12_init_58.z
theorem zx_X12_init_60 : Zx q_X12_init_60 := zx_X12_init_59.z
theorem zx_X12_init_61 : Zx q_X12_init_61 := zx_X12_init_60.n
theorem zx_X12_init_62 : Zx q_X12_init_62 := zx_X12_init_61.r
theorem zx_X12_init_63 : Zx q_X12_init_63 := zx_X12_init_62.n
theorem zx_X12_init_64 : Zx q_X12_init_64 := zx_X12_init_63.r
theorem zx_X12_init_65 : Zx q_X12_init_65 := zx_X12_init_64.z
theorem zx_X12_init_66 : Zx q_X12_init_66 := zx_X12_init_65.z
theorem zx_X12_init_67 : Zx q_X12_init_67 := zx_X12_init_66.z
theorem zx_X12_init_68 : Zx q_X12_init_68 := zx_X12_init_67.n
theorem zx_X12_init_69 : Zx q_X12_init_69 := zx_X12_init_68.r
theorem zx_X12_init_70 : Zx q_X12_init_70 := zx_X12_init_69.n
theorem zx_X12_init_71 : Zx q_X12_init_71 := zx_X12_init_70.r
theorem zx_X12_init_72 : Zx q_X12_init_72 := zx_X12_init_71.n
theorem zx_X12_init_73 : Zx q_X12_init_73 := zx_X12_init_72.r
theorem zx_X12_init_74 : Zx q_X12_init_74 := zx_X12_init_73.n
theorem zx_X12_init_75 : Zx q_X12_init_75 := zx_X12_init_74.r
theorem zx_X12_init_76 : Zx q_X12_init_76 := zx_X12_init_75.z
theorem zx_X12_init_77 : Zx q_X12_init_77 := zx_X12_init_76.n
theorem zx_X12_init_78 : Zx q_X12_init_78 := zx_X12_init_77.r
theorem zx_X12_init_79 : Zx q_X12_init_79 := zx_X12_init_78.n
theorem zx_X12_init_80 : Zx q_X12_init_80 := zx_X12_init_79.r
theorem zx_X12_init_81 : Zx q_X12_init_81 := zx_X12_init_80.n
theorem zx_X12_init_82 : Zx q_X12_init_82 := zx_X12_init_81.r
theorem zx_X12_init_83 : Zx q_X12_init_83 := zx_X12_init_82.n
theorem zx_X12_init_84 : Zx q_X12_init_84 := Zx.s (by decide) zx_X12_init_83
theorem zx_X12_init_85 : Zx q_X12_init_85 := Zx.s (by decide) zx_X12_init_84
theorem zx_X12_init_86 : Zx q_X12_init_86 := Zx.s (by decide) zx_X12_init_85
theorem zx_X12_init_87 : Zx q_X12_init_87 := Zx.s (by decide) zx_X12_init_86
theorem zx_X12_init_88 : Zx q_X12_init_88 := Zx.s (by decide) zx_X12_init_87
theorem zx_X12_init_89 : Zx q_X12_init_89 := Zx.s (by decide) zx_X12_init_88
theorem zx_X12_init_90 : Zx q_X12_init_90 := Zx.s (by decide) zx_X12_init_89
theorem zx_X12_init_91 : Zx q_X12_init_91 := Zx.s (by decide) zx_X12_init_90
theorem zx_X12_init_92 : Zx q_X12_init_92 := Zx.s (by decide) zx_X12_init_91
theorem zx_X12_init_93 : Zx q_X12_init_93 := Zx.s (by decide) zx_X12_init_92
theorem zx_X12_init_94 : Zx q_X12_init_94 := zx_X12_init_93.r
theorem zx_X12_init_95 : Zx q_X12_init_95 := zx_X12_init_94.n
theorem zx_X12_init_96 : Zx q_X12_init_96 := zx_X12_init_95.r
theorem zx_X12_init_97 : Zx q_X12_init_97 := zx_X12_init_96.n
theorem zx_X12_init_98 : Zx q_X12_init_98 := zx_X12_init_97.r
theorem zx_X12_init_99 : Zx q_X12_init_99 := zx_X12_init_98.z
theorem zx_X12_init_100 : Zx q_X12_init_100 := zx_X12_init_99.z
theorem zx_X12_init_101 : Zx q_X12_init_101 := zx_X12_init_100.n
theorem zx_X12_init_102 : Zx q_X12_init_102 := zx_X12_init_101.r
theorem zx_X12_init_103 : Zx q_X12_init_103 := zx_X12_init_102.n
theorem zx_X12_init_104 : Zx q_X12_init_104 := zx_X12_init_103.r
theorem zx_X12_init_105 : Zx q_X12_init_105 := zx_X12_init_104.n
theorem zx_X12_init_106 : Zx q_X12_init_106 := zx_X12_init_105.r
theorem zx_X12_init_107 : Zx q_X12_init_107 := zx_X12_init_106.n
theorem zx_X12_init_108 : Zx q_X12_init_108 := zx_X12_init_107.r
theorem zx_X12_init_109 : Zx q_X12_init_109 := zx_X12_init_108.n
theorem zx_X12_init_110 : Zx q_X12_init_110 := zx_X12_init_109.r
theorem zx_X12_init_111 : Zx q_X12_init_111 := zx_X12_init_110.n
theorem zx_X12_init_112 : Zx q_X12_init_112 := zx_X12_init_111.r
theorem zx_X12_init_113 : Zx q_X12_init_113 := zx_X12_init_112.n
theorem zx_X12_init_114 : Zx q_X12_init_114 := zx_X12_init_113.r
theorem zx_X12_init_115 : Zx q_X12_init_115 := zx_X12_init_114.n
theorem zx_X12_init_116 : Zx q_X12_init_116 := zx_X12_init_115.r
theorem zx_X12_init_117 : Zx q_X12_init_117 := zx_X12_init_116.n
theorem zx_X12_init_118 : Zx q_X12_init_118 := zx_X12_init_117.r
theorem zx_X12_init_119 : Zx q_X12_init_119 := zx_X12_init_118.n
theorem zx_X12_init_120 : Zx q_X12_init_120 := Zx.s (by decide) zx_X12_init_119
theorem zx_X12_init_121 : Zx q_X12_init_121 := Zx.s (by decide) zx_X12_init_120
theorem zx_X12_init_122 : Zx q_X12_init_122 := Zx.s (by decide) zx_X12_init_121
theorem zx_X12_init_123 : Zx q_X12_init_123 := Zx.s (by decide) zx_X12_init_122
theorem zx_X12_init_124 : Zx q_X12_init_124 := Zx.s (by decide) zx_X12_init_123
theorem zx_X12_init_125 : Zx q_X12_init_125 := Zx.s (by decide) zx_X12_init_124
theorem zx_X12_init_126 : Zx q_X12_init_126 := Zx.s (by decide) zx_X12_init_125
theorem zx_X12_init_127 : Zx q_X12_init_127 := Zx.s (by decide) zx_X12_init_126
theorem zx_X12_init_128 : Zx q_X12_init_128 := zx_X12_init_127.r
theorem zx_X12_init_129 : Zx q_X12_init_129 := zx_X12_init_128.n
theorem zx_X12_init_130 : Zx q_X12_init_130 := zx_X12_init_129.r
theorem zx_X12_init_131 : Zx q_X12_init_131 := zx_X12_init_130.n
theorem zx_X12_init_132 : Zx q_X12_init_132 := zx_X12_init_131.r
theorem zx_X12_init_133 : Zx q_X12_init_133 := zx_X12_init_132.n
theorem zx_X12_init_134 : Zx q_X12_init_134 := zx_X12_init_133.r
theorem zx_X12_init_135 : Zx q_X12_init_135 := zx_X12_init_134.z
theorem zx_X12_init_136 : Zx q_X12_init_136 := zx_X12_init_135.n
theorem zx_X12_init_137 : Zx q_X12_init_137 := zx_X12_init_136.r
theorem zx_X12_init_138 : Zx q_X12_init_138 := zx_X12_init_137.n
theorem zx_X12_init_139 : Zx q_X12_init_139 := Zx.s (by decide) zx_X12_init_138
theorem zx_X12_init_140 : Zx q_X12_init_140 := Zx.s (by decide) zx_X12_init_139
theorem zx_X12_init_141 : Zx q_X12_init_141 := Zx.s (by decide) zx_X12_init_140
theorem zx_X12_init_142 : Zx q_X12_init_142 := Zx.s (by decide) zx_X12_init_141
theorem zx_X12_init_143 : Zx q_X12_init_143 := Zx.s (by decide) zx_X12_init_142
theorem zx_X12_init_144 : Zx q_X12_init_144 := Zx.s (by decide) zx_X12_init_143
theorem zx_X12_init_145 : Zx q_X12_init_145 := zx_X12_init_144.r
theorem zx_X12_init_146 : Zx q_X12_init_146 := zx_X12_init_145.n
theorem zx_X12_init_147 : Zx q_X12_init_147 := zx_X12_init_146.r
theorem zx_X12_init_148 : Zx q_X12_init_148 := zx_X12_init_147.n
theorem zx_X12_init_149 : Zx q_X12_init_149 := zx_X12_init_148.r
theorem zx_X12_init_150 : Zx q_X12_init_150 := zx_X12_init_149.n
theorem zx_X12_init_151 : Zx q_X12_init_151 := zx_X12_init_150.r
theorem m35 : ∀ k, k < 10 → gI q_X12_init_151 35 0 k = -1 := by decide +kernel
theorem m47 : ∀ k, k < 8 → gI q_X12_init_151 47 0 k = -1 := by decide +kernel
theorem m52 : ∀ k, k < 6 → gI q_X12_init_151 52 0 k = -1 := by decide +kernel
theorem iM_in {r x k : Nat} (h3 : r = 3 ∨ r = 4 → x = 0 ∧ k < 8) (h14 : r = 14 → x = 0 ∧ k < 150) (h35 : r = 35 → x = 0 ∧ k < 10) (h47 : r = 47 → x = 0 ∧ k < 8) (h52 : r = 52 → x = 0 ∧ k < 6) : gI (q_Mf 8) r x k = iM0 r x k := by
  rw [u_Mf, u_St]
  unfold iM0
  by_cases c3 : r = 3
  · subst c3
    rw [if_pos ⟨rfl, h3 (Or.inl rfl)⟩, if_pos rfl]
  · rw [if_neg (fun q => c3 q.1), if_neg c3]
    by_cases c4 : r = 4
    · subst c4
      rw [if_pos ⟨rfl, h3 (Or.inr rfl)⟩, if_pos rfl]
    · rw [if_neg (fun q => c4 q.1), if_neg c4]
      by_cases c14 : r = 14
      · subst c14
        rw [if_pos ⟨rfl, h14 rfl⟩, if_pos (Or.inl rfl)]
      · rw [if_neg (fun q => c14 q.1)]
        by_cases c35 : r = 35
        · subst c35
          rw [if_pos (by omega), (h35 rfl).1, m35 k (h35 rfl).2]
        · by_cases c47 : r = 47
          · subst c47
            rw [if_pos (by omega), (h47 rfl).1, m47 k (h47 rfl).2]
          · by_cases c52 : r = 52
            · subst c52
              rw [if_pos (by omega), (h52 rfl).1, m52 k (h52 rfl).2]
            · rw [if_neg (by omega), zx_X12_init_151 r x k c35 c47 c52]
theorem cntM : ∀ r, r < 56 → lc LM (q_Mf 8) r = gR (q_Mf 8) 999 r 0 := by decide +kernel
theorem r3_M : ∀ k, k < 72 → (LM.2.1 0 k).1 = 3 → gR (q_Mf 8) 0 0 k = 1 := by decide +kernel
theorem lcM56 {m : Mem} {r : Nat} (h : 56 ≤ r) : lc LM m r = 0 := by
  show ([1, 1, 1, 1, 1, 1, 1, 1, 1, 1, 1, 1, 1, 1, 1, 1, 1, 1, 1, 1, 1, 1, 1, 1, 1, 1, 1, 1, 1, 1, 1, 1, 1, 1, 1, 1, 1, 1, 1, 1, 1, 1, 1, 1, 1, 1, 1, 1, 1, 1, 1, 1, 1, 1, 1, 1] : List Nat).getD r 0 = 0
  exact getD_hi _ _ (by show 56 ≤ r; omega)
theorem lcM1 {m : Mem} {r : Nat} (h : r < 56) : lc LM m r = 1 := by
  rcases (show r = 0 ∨ r = 1 ∨ r = 2 ∨ r = 3 ∨ r = 4 ∨ r = 5 ∨ r = 6 ∨ r = 7 ∨ r = 8 ∨ r = 9 ∨ r = 10 ∨ r = 11 ∨ r = 12 ∨ r = 13 ∨ r = 14 ∨ r = 15 ∨ r = 16 ∨ r = 17 ∨ r = 18 ∨ r = 19 ∨ r = 20 ∨ r = 21 ∨ r = 22 ∨ r = 23 ∨ r = 24 ∨ r = 25 ∨ r = 26 ∨ r = 27 ∨ r = 28 ∨ r = 29 ∨ r = 30 ∨ r = 31 ∨ r = 32 ∨ r = 33 ∨ r = 34 ∨ r = 35 ∨ r = 36 ∨ r = 37 ∨ r = 38 ∨ r = 39 ∨ r = 40 ∨ r = 41 ∨ r = 42 ∨ r = 43 ∨ r = 44 ∨ r = 45 ∨ r = 46 ∨ r = 47 ∨ r = 48 ∨ r = 49 ∨ r = 50 ∨ r = 51 ∨ r = 52 ∨ r = 53 ∨ r = 54 ∨ r = 55 by omega) with rfl | rfl | rfl | rfl | rfl | rfl | rfl | rfl | rfl | rfl | rfl | rfl | rfl | rfl | rfl | rfl | rfl | rfl | rfl | rfl | rfl | rfl | rfl | rfl | rfl | rfl | rfl | rfl | rfl | rfl | rfl | rfl | rfl | rfl | rfl | rfl | rfl | rfl | rfl | rfl | rfl | rfl | rfl | rfl | rfl | rfl | rfl | rfl | rfl | rfl | rfl | rfl | rfl | rfl | rfl | rfl <;> rfl
theorem refM3 : ∀ r b k, b < lc (L0 LM 56) (q_Mf 8) r → (LM.2.1 r k).1 = 3 → gR (q_Mf 8) r b k = b + 1 := by
  intro r b k hb h3
  have hr : r < 56 := by
    rcases Nat.lt_or_ge r 56 with q | q
    · exact q
    · rw [lc0, if_neg (by omega)] at hb; omega
  rw [lc0, if_pos hr, ← cntM r hr, lcM1 hr] at hb
  rcases (show r = 0 ∨ r = 1 ∨ r = 2 ∨ r = 3 ∨ r = 4 ∨ r = 5 ∨ r = 6 ∨ r = 7 ∨ r = 8 ∨ r = 9 ∨ r = 10 ∨ r = 11 ∨ r = 12 ∨ r = 13 ∨ r = 14 ∨ r = 15 ∨ r = 16 ∨ r = 17 ∨ r = 18 ∨ r = 19 ∨ r = 20 ∨ r = 21 ∨ r = 22 ∨ r = 23 ∨ r = 24 ∨ r = 25 ∨ r = 26 ∨ r = 27 ∨ r = 28 ∨ r = 29 ∨ r = 30 ∨ r = 31 ∨ r = 32 ∨ r = 33 ∨ r = 34 ∨ r = 35 ∨ r = 36 ∨ r = 37 ∨ r = 38 ∨ r = 39 ∨ r = 40 ∨ r = 41 ∨ r = 42 ∨ r = 43 ∨ r = 44 ∨ r = 45 ∨ r = 46 ∨ r = 47 ∨ r = 48 ∨ r = 49 ∨ r = 50 ∨ r = 51 ∨ r = 52 ∨ r = 53 ∨ r = 54 ∨ r = 55 by omega) with rfl | rfl | rfl | rfl | rfl | rfl | rfl | rfl | rfl | rfl | rfl | rfl | rfl | rfl | rfl | rfl | rfl | rfl | rfl | rfl | rfl | rfl | rfl | rfl | rfl | rfl | rfl | rfl | rfl | rfl | rfl | rfl | rfl | rfl | rfl | rfl | rfl | rfl | rfl | rfl | rfl | rfl | rfl | rfl | rfl | rfl | rfl | rfl | rfl | rfl | rfl | rfl | rfl | rfl | rfl | rfl
  · obtain rfl : b = 0 := by omega
    by_cases hk : k < 72
    · exact r3_M k hk h3
    · have e : LM.2.1 0 k = (0, 0) := getD_hi _ _ (by show 72 ≤ k; omega)
      rw [e] at h3
      exact absurd h3 (by decide)
  · exact absurd (show (0 : Nat) = 3 from h3) (by decide)
  · exact absurd (show (0 : Nat) = 3 from h3) (by decide)
  · exact absurd (show (0 : Nat) = 3 from h3) (by decide)
  · exact absurd (show (0 : Nat) = 3 from h3) (by decide)
  · exact absurd (show (0 : Nat) = 3 from h3) (by decide)
  · exact absurd (show (0 : Nat) = 3 from h3) (by decide)
  · exact absurd (show (0 : Nat) = 3 from h3) (by decide)
  · exact absurd (show (0 : Nat) = 3 from h3) (by decide)
  · exact absurd (show (0 : Nat) = 3 from h3) (by decide)
  · exact absurd (show (0 : Nat) = 3 from h3) (by decide)
  · exact absurd (show (0 : Nat) = 3 from h3) (by decide)
  · exact absurd (show (0 : Nat) = 3 from h3) (by decide)
  · exact absurd (show (0 : Nat) = 3 from h3) (by decide)
  · exact absurd (show (0 : Nat) = 3 from h3) (by decide)
  · exact absurd (show (0 : Nat) = 3 from h3) (by decide)
  · exact absurd (show (0 : Nat) = 3 from h3) (by decide)
  · exact absurd (show (0 : Nat) = 3 from h3) (by decide)
  · exact absurd (show (0 : Nat) = 3 from h3) (by decide)
  · exact absurd (show (0 : Nat) = 3 from h3) (by decide)
  · exact absurd (show (0 : Nat) = 3 from h3) (by decide)
  · exact absurd (show (0 : Nat) = 3 from h3) (by decide)
  · exact absurd (show (0 : Nat) = 3 from h3) (by decide)
  · exact absurd (show (0 : Nat) = 3 from h3) (by decide)
  · exact absurd (show (0 : Nat) = 3 from h3) (by decide)
  · exact absurd (show (0 : Nat) = 3 from h3) (by decide)
  · exact absurd (show (0 : Nat) = 3 from h3) (by decide)
  · exact absurd (show (0 : Nat) = 3 from h3) (by decide)
  · exact absurd (show (0 : Nat) = 3 from h3) (by decide)
  · exact absurd (show (0 : Nat) = 3 from h3) (by decide)
  · exact absurd (show (0 : Nat) = 3 from h3) (by decide)
  · exact absurd (show (0 : Nat) = 3 from h3) (by decide)
  · exact absurd (show (0 : Nat) = 3 from h3) (by decide)
  · exact absurd (show (0 : Nat) = 3 from h3) (by decide)
  · exact absurd (show (0 : Nat) = 3 from h3) (by decide)
  · exact absurd (show (0 : Nat) = 3 from h3) (by decide)
  · exact absurd (show (0 : Nat) = 3 from h3) (by decide)
  · exact absurd (show (0 : Nat) = 3 from h3) (by decide)
  · exact absurd (show (0 : Nat) = 3 from h3) (by decide)
  · exact absurd (show (0 : Nat) = 3 from h3) (by decide)
  · exact absurd (show (0 : Nat) = 3 from h3) (by decide)
  · exact absurd (show (0 : Nat) = 3 from h3) (by decide)
  · exact absurd (show (0 : Nat) = 3 from h3) (by decide)
  · exact absurd (show (0 : Nat) = 3 from h3) (by decide)
  · exact absurd (show (0 : Nat) = 3 from h3) (by decide)
  · exact absurd (show (0 : Nat) = 3 from h3) (by decide)
  · exact absurd (show (0 : Nat) = 3 from h3) (by decide)
  · exact absurd (show (0 : Nat) = 3 from h3) (by decide)
  · exact absurd (show (0 : Nat) = 3 from h3) (by decide)
  · exact absurd (show (0 : Nat) = 3 from h3) (by decide)
  · exact absurd (show (0 : Nat) = 3 from h3) (by decide)
  · exact absurd (show (0 : Nat) = 3 from h3) (by decide)
  · exact absurd (show (0 : Nat) = 3 from h3) (by decide)
  · exact absurd (show (0 : Nat) = 3 from h3) (by decide)
  · exact absurd (show (1 : Nat) = 3 from h3) (by decide)
  · exact absurd (show (1 : Nat) = 3 from h3) (by decide)
theorem refM4 : ∀ r b k a, b < lc (L0 LM 56) (q_Mf 8) r → LM.1 r = .inr a → k < a.2 → 4 ≤ (LM.2.1 r k).1 → gR (q_Mf 8) r b k = k + 1 := by
  intro r b k a hb hk hka h4
  have hr : r < 56 := by
    rcases Nat.lt_or_ge r 56 with q | q
    · exact q
    · rw [lc0, if_neg (by omega)] at hb; omega
  rcases (show r = 0 ∨ r = 1 ∨ r = 2 ∨ r = 3 ∨ r = 4 ∨ r = 5 ∨ r = 6 ∨ r = 7 ∨ r = 8 ∨ r = 9 ∨ r = 10 ∨ r = 11 ∨ r = 12 ∨ r = 13 ∨ r = 14 ∨ r = 15 ∨ r = 16 ∨ r = 17 ∨ r = 18 ∨ r = 19 ∨ r = 20 ∨ r = 21 ∨ r = 22 ∨ r = 23 ∨ r = 24 ∨ r = 25 ∨ r = 26 ∨ r = 27 ∨ r = 28 ∨ r = 29 ∨ r = 30 ∨ r = 31 ∨ r = 32 ∨ r = 33 ∨ r = 34 ∨ r = 35 ∨ r = 36 ∨ r = 37 ∨ r = 38 ∨ r = 39 ∨ r = 40 ∨ r = 41 ∨ r = 42 ∨ r = 43 ∨ r = 44 ∨ r = 45 ∨ r = 46 ∨ r = 47 ∨ r = 48 ∨ r = 49 ∨ r = 50 ∨ r = 51 ∨ r = 52 ∨ r = 53 ∨ r = 54 ∨ r = 55 by omega) with rfl | rfl | rfl | rfl | rfl | rfl | rfl | rfl | rfl | rfl | rfl | rfl | rfl | rfl | rfl | rfl | rfl | rfl | rfl | rfl | rfl | rfl | rfl | rfl | rfl | rfl | rfl | rfl | rfl | rfl | rfl | rfl | rfl | rfl | rfl | rfl | rfl | rfl | rfl | rfl | rfl | rfl | rfl | rfl | rfl | rfl | rfl | rfl | rfl | rfl | rfl | rfl | rfl | rfl | rfl | rfl
  · exact absurd hk (by show ¬ (Sum.inl _ = Sum.inr _); exact fun q => by cases q)
  · exact absurd (show 4 ≤ (0 : Nat) from h4) (by decide)
  · exact absurd (show 4 ≤ (0 : Nat) from h4) (by decide)
  · exact absurd (show 4 ≤ (0 : Nat) from h4) (by decide)
  · exact absurd (show 4 ≤ (0 : Nat) from h4) (by decide)
  · exact absurd (show 4 ≤ (0 : Nat) from h4) (by decide)
  · exact absurd (show 4 ≤ (0 : Nat) from h4) (by decide)
  · exact absurd (show 4 ≤ (0 : Nat) from h4) (by decide)
  · exact absurd (show 4 ≤ (0 : Nat) from h4) (by decide)
  · exact absurd (show 4 ≤ (0 : Nat) from h4) (by decide)
  · exact absurd (show 4 ≤ (0 : Nat) from h4) (by decide)
  · exact absurd (show 4 ≤ (0 : Nat) from h4) (by decide)
  · exact absurd (show 4 ≤ (0 : Nat) from h4) (by decide)
  · exact absurd (show 4 ≤ (0 : Nat) from h4) (by decide)
  · exact absurd (show 4 ≤ (0 : Nat) from h4) (by decide)
  · exact absurd (show 4 ≤ (0 : Nat) from h4) (by decide)
  · exact absurd (show 4 ≤ (0 : Nat) from h4) (by decide)
  · exact absurd (show 4 ≤ (0 : Nat) from h4) (by decide)
  · exact absurd (show 4 ≤ (0 : Nat) from h4) (by decide)
  · exact absurd (show 4 ≤ (0 : Nat) from h4) (by decide)
  · exact absurd (show 4 ≤ (0 : Nat) from h4) (by decide)
  · exact absurd (show 4 ≤ (0 : Nat) from h4) (by decide)
  · exact absurd (show 4 ≤ (0 : Nat) from h4) (by decide)
  · exact absurd (show 4 ≤ (0 : Nat) from h4) (by decide)
  · exact absurd (show 4 ≤ (0 : Nat) from h4) (by decide)
  · exact absurd (show 4 ≤ (0 : Nat) from h4) (by decide)
  · exact absurd (show 4 ≤ (0 : Nat) from h4) (by decide)
  · exact absurd (show 4 ≤ (0 : Nat) from h4) (by decide)
  · exact absurd (show 4 ≤ (0 : Nat) from h4) (by decide)
  · exact absurd (show 4 ≤ (0 : Nat) from h4) (by decide)
  · exact absurd (show 4 ≤ (0 : Nat) from h4) (by decide)
  · exact absurd (show 4 ≤ (0 : Nat) from h4) (by decide)
  · exact absurd (show 4 ≤ (0 : Nat) from h4) (by decide)
  · exact absurd (show 4 ≤ (0 : Nat) from h4) (by decide)
  · exact absurd (show 4 ≤ (0 : Nat) from h4) (by decide)
  · exact absurd (show 4 ≤ (0 : Nat) from h4) (by decide)
  · exact absurd (show 4 ≤ (0 : Nat) from h4) (by decide)
  · exact absurd (show 4 ≤ (0 : Nat) from h4) (by decide)
  · exact absurd (show 4 ≤ (0 : Nat) from h4) (by decide)
  · exact absurd (show 4 ≤ (0 : Nat) from h4) (by decide)
  · exact absurd (show 4 ≤ (0 : Nat) from h4) (by decide)
  · exact absurd (show 4 ≤ (0 : Nat) from h4) (by decide)
  · exact absurd (show 4 ≤ (0 : Nat) from h4) (by decide)
  · exact absurd (show 4 ≤ (0 : Nat) from h4) (by decide)
  · exact absurd (show 4 ≤ (0 : Nat) from h4) (by decide)
  · exact absurd (show 4 ≤ (0 : Nat) from h4) (by decide)
  · exact absurd (show 4 ≤ (0 : Nat) from h4) (by decide)
  · exact absurd (show 4 ≤ (0 : Nat) from h4) (by decide)
  · exact absurd (show 4 ≤ (0 : Nat) from h4) (by decide)
  · exact absurd (show 4 ≤ (0 : Nat) from h4) (by decide)
  · exact absurd (show 4 ≤ (0 : Nat) from h4) (by decide)
  · exact absurd (show 4 ≤ (0 : Nat) from h4) (by decide)
  · exact absurd (show 4 ≤ (0 : Nat) from h4) (by decide)
  · exact absurd (show 4 ≤ (0 : Nat) from h4) (by decide)
  · exact absurd (show 4 ≤ (1 : Nat) from h4) (by decide)
  · exact absurd (show 4 ≤ (1 : Nat) from h4) (by decide)
theorem kleM : ∀ r k ci, LM.1 r = .inl ci → (LM.2.1 r k).1 ≤ 3 := by
  intro r k ci hk
  by_cases hr : r < 56
  · rcases (show r = 0 ∨ r = 1 ∨ r = 2 ∨ r = 3 ∨ r = 4 ∨ r = 5 ∨ r = 6 ∨ r = 7 ∨ r = 8 ∨ r = 9 ∨ r = 10 ∨ r = 11 ∨ r = 12 ∨ r = 13 ∨ r = 14 ∨ r = 15 ∨ r = 16 ∨ r = 17 ∨ r = 18 ∨ r = 19 ∨ r = 20 ∨ r = 21 ∨ r = 22 ∨ r = 23 ∨ r = 24 ∨ r = 25 ∨ r = 26 ∨ r = 27 ∨ r = 28 ∨ r = 29 ∨ r = 30 ∨ r = 31 ∨ r = 32 ∨ r = 33 ∨ r = 34 ∨ r = 35 ∨ r = 36 ∨ r = 37 ∨ r = 38 ∨ r = 39 ∨ r = 40 ∨ r = 41 ∨ r = 42 ∨ r = 43 ∨ r = 44 ∨ r = 45 ∨ r = 46 ∨ r = 47 ∨ r = 48 ∨ r = 49 ∨ r = 50 ∨ r = 51 ∨ r = 52 ∨ r = 53 ∨ r = 54 ∨ r = 55 by omega) with rfl | rfl | rfl | rfl | rfl | rfl | rfl | rfl | rfl | rfl | rfl | rfl | rfl | rfl | rfl | rfl | rfl | rfl | rfl | rfl | rfl | rfl | rfl | rfl | rfl | rfl | rfl | rfl | rfl | rfl | rfl | rfl | rfl | rfl | rfl | rfl | rfl | rfl | rfl | rfl | rfl | rfl | rfl | rfl | rfl | rfl | rfl | rfl | rfl | rfl | rfl | rfl | rfl | rfl | rfl | rfl
    · exact getD_le (by decide) k
    · exact absurd hk (by show ¬ (Sum.inr _ = Sum.inl _); exact fun q => by cases q)
    · exact absurd hk (by show ¬ (Sum.inr _ = Sum.inl _); exact fun q => by cases q)
    · exact absurd hk (by show ¬ (Sum.inr _ = Sum.inl _); exact fun q => by cases q)
    · exact absurd hk (by show ¬ (Sum.inr _ = Sum.inl _); exact fun q => by cases q)
    · exact absurd hk (by show ¬ (Sum.inr _ = Sum.inl _); exact fun q => by cases q)
    · exact absurd hk (by show ¬ (Sum.inr _ = Sum.inl _); exact fun q => by cases q)
    · exact absurd hk (by show ¬ (Sum.inr _ = Sum.inl _); exact fun q => by cases q)
    · exact absurd hk (by show ¬ (Sum.inr _ = Sum.inl _); exact fun q => by cases q)
    · exact absurd hk (by show ¬ (Sum.inr _ = Sum.inl _); exact fun q => by cases q)
    · exact absurd hk (by show ¬ (Sum.inr _ = Sum.inl _); exact fun q => by cases q)
    · exact absurd hk (by show ¬ (Sum.inr _ = Sum.inl _); exact fun q => by cases q)
    · exact absurd hk (by show ¬ (Sum.inr _ = Sum.inl _); exact fun q => by cases q)
    · exact absurd hk (by show ¬ (Sum.inr _ = Sum.inl _); exact fun q => by cases q)
    · exact absurd hk (by show ¬ (Sum.inr _ = Sum.inl _); exact fun q => by cases q)
    · exact absurd hk (by show ¬ (Sum.inr _ = Sum.inl _); exact fun q => by cases q)
    · exact absurd hk (by show ¬ (Sum.inr _ = Sum.inl _); exact fun q => by cases q)
    · exact absurd hk (by show ¬ (Sum.inr _ = Sum.inl _); exact fun q => by cases q)
    · exact absurd hk (by show ¬ (Sum.inr _ = Sum.inl _); exact fun q => by cases q)
    · exact absurd hk (by show ¬ (Sum.inr _ = Sum.inl _); exact fun q => by cases q)
    · exact absurd hk (by show ¬ (Sum.inr _ = Sum.inl _); exact fun q => by cases q)
    · exact absurd hk (by show ¬ (Sum.inr _ = Sum.inl _); exact fun q => by cases q)
    · exact absurd hk (by show ¬ (Sum.inr _ = Sum.inl _); exact fun q => by cases q)
    · exact absurd hk (by show ¬ (Sum.inr _ = Sum.inl _); exact fun q => by cases q)
    · exact absurd hk (by show ¬ (Sum.inr _ = Sum.inl _); exact fun q => by cases q)
    · exact absurd hk (by show ¬ (Sum.inr _ = Sum.inl _); exact fun q => by cases q)
    · exact absurd hk (by show ¬ (Sum.inr _ = Sum.inl _); exact fun q => by cases q)
    · exact absurd hk (by show ¬ (Sum.inr _ = Sum.inl _); exact fun q => by cases q)
    · exact absurd hk (by show ¬ (Sum.inr _ = Sum.inl _); exact fun q => by cases q)
    · exact absurd hk (by show ¬ (Sum.inr _ = Sum.inl _); exact fun q => by cases q)
    · exact absurd hk (by show ¬ (Sum.inr _ = Sum.inl _); exact fun q => by cases q)
    · exact absurd hk (by show ¬ (Sum.inr _ = Sum.inl _); exact fun q => by cases q)
    · exact absurd hk (by show ¬ (Sum.inr _ = Sum.inl _); exact fun q => by cases q)
    · exact absurd hk (by show ¬ (Sum.inr _ = Sum.inl _); exact fun q => by cases q)
    · exact absurd hk (by show ¬ (Sum.inr _ = Sum.inl _); exact fun q => by cases q)
    · exact absurd hk (by show ¬ (Sum.inr _ = Sum.inl _); exact fun q => by cases q)
    · exact absurd hk (by show ¬ (Sum.inr _ = Sum.inl _); exact fun q => by cases q)
    · exact absurd hk (by show ¬ (Sum.inr _ = Sum.inl _); exact fun q => by cases q)
    · exact absurd hk (by show ¬ (Sum.inr _ = Sum.inl _); exact fun q => by cases q)
    · exact absurd hk (by show ¬ (Sum.inr _ = Sum.inl _); exact fun q => by cases q)
    · exact absurd hk (by show ¬ (Sum.inr _ = Sum.inl _); exact fun q => by cases q)
    · exact absurd hk (by show ¬ (Sum.inr _ = Sum.inl _); exact fun q => by cases q)
    · exact absurd hk (by show ¬ (Sum.inr _ = Sum.inl _); exact fun q => by cases q)
    · exact absurd hk (by show ¬ (Sum.inr _ = Sum.inl _); exact fun q => by cases q)
    · exact absurd hk (by show ¬ (Sum.inr _ = Sum.inl _); exact fun q => by cases q)
    · exact absurd hk (by show ¬ (Sum.inr _ = Sum.inl _); exact fun q => by cases q)
    · exact absurd hk (by show ¬ (Sum.inr _ = Sum.inl _); exact fun q => by cases q)
    · exact absurd hk (by show ¬ (Sum.inr _ = Sum.inl _); exact fun q => by cases q)
    · exact absurd hk (by show ¬ (Sum.inr _ = Sum.inl _); exact fun q => by cases q)
    · exact absurd hk (by show ¬ (Sum.inr _ = Sum.inl _); exact fun q => by cases q)
    · exact absurd hk (by show ¬ (Sum.inr _ = Sum.inl _); exact fun q => by cases q)
    · exact absurd hk (by show ¬ (Sum.inr _ = Sum.inl _); exact fun q => by cases q)
    · exact absurd hk (by show ¬ (Sum.inr _ = Sum.inl _); exact fun q => by cases q)
    · exact absurd hk (by show ¬ (Sum.inr _ = Sum.inl _); exact fun q => by cases q)
    · exact absurd hk (by show ¬ (Sum.inr _ = Sum.inl _); exact fun q => by cases q)
    · exact absurd hk (by show ¬ (Sum.inr _ = Sum.inl _); exact fun q => by cases q)
  · have e : slotsM.getD r (.inr (0, 0)) = .inr (0, 0) := getD_hi _ _ (by show 56 ≤ r; omega)
    have e2 : LM.2.1 r k = (0, 0) := by
      show (match slotsM.getD r (.inr (0, 0)) with | .inl l => l.getD k (0, 0) | .inr t => t) = (0, 0)
      rw [e]
    rw [e2]
    exact Nat.zero_le _
def mM0 : Mem := (iM0, fun _ _ _ => 0, (q_Mf 8).2.2)
set_option maxRecDepth 100000 in
theorem convM {K : KG} {ad : Nat → Nat → Nat} {H : Heap} (Z : Zw K LN ad (q_Mf 8) H) : Zw K LM ad mM0 H := by
  have hc : ∀ r, lc LM (q_Mf 8) r = lc (L0 LM 56) (q_Mf 8) r := fun r => by
    by_cases hr : r < 56
    · rw [lc0, if_pos hr]; exact cntM r hr
    · rw [lc0, if_neg hr]; exact lcM56 (by omega)
  have Z1 := Z.fix hc refM3 refM4 kleM
  have e2 : ∀ r b k, gL mM0 r b k = gL (q_Mf 8) r b k := fun r b k => (zl_Mf (j := 8) r b k).symm
  have hr : ∀ {r b}, b < lc LM (q_Mf 8) r → r < 56 ∧ b = 0 := fun {r b} hb => by
    rcases Nat.lt_or_ge r 56 with q | q
    · rw [lcM1 q] at hb; exact ⟨q, by omega⟩
    · rw [lcM56 q] at hb; omega
  refine Z1.conv (fun _ => rfl) (fun _ => rfl) (fun r b ci hb hk k => sv_eq ?_ (e2 r b k) rfl) (fun r b a hb hk k hka => sv_eq ?_ (e2 r b k) rfl) (fun _ _ => rfl) rfl
  · have no : ∀ {q : FieldType × Nat}, LM.1 r = .inr q → False := fun e => by rw [e] at hk; cases hk
    refine (iM_in (fun e => ?_) (fun e => ?_) (fun e => ?_) (fun e => ?_) (fun e => ?_)).symm
    · rcases e with e | e <;> subst e <;> exact (no rfl).elim
    · subst e; exact (no rfl).elim
    · subst e; exact (no rfl).elim
    · subst e; exact (no rfl).elim
    · subst e; exact (no rfl).elim
  · obtain ⟨r56, b0⟩ := hr hb
    refine (iM_in (fun e => ?_) (fun e => ?_) (fun e => ?_) (fun e => ?_) (fun e => ?_)).symm
    · rcases e with e | e <;> subst e <;> cases hk <;> exact ⟨b0, hka⟩
    · subst e; cases hk; exact ⟨b0, hka⟩
    · subst e; cases hk; exact ⟨b0, hka⟩
    · subst e; cases hk; exact ⟨b0, hka⟩
    · subst e; cases hk; exact ⟨b0, hka⟩
