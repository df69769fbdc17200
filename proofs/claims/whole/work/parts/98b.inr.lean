/-! references in range, region by region -/
theorem inO_0 {mc : Mem} {b k : Nat} (hb : b < lc LC mc 0) : inR LC mc 0 b k := by
  rcases (show k = 0 ∨ k = 1 ∨ k = 2 ∨ k = 3 ∨ k = 4 ∨ k = 5 ∨ k = 6 ∨ k = 7 ∨ k = 8 ∨ k = 9 ∨ k = 10 ∨ k = 11 ∨ k = 12 ∨ k = 13 ∨ k = 14 ∨ 15 ≤ k by omega) with rfl | rfl | rfl | rfl | rfl | rfl | rfl | rfl | rfl | rfl | rfl | rfl | rfl | rfl | rfl | q
  · trivial
  · exact hb
  · exact hb
  · exact hb
  · trivial
  · exact hb
  · exact hb
  · exact hb
  · exact hb
  · exact hb
  · trivial
  · exact hb
  · exact hb
  · exact hb
  · exact hb
  · have e : LC.2.1 0 k = (0, 0) := getD_hi _ _ (by show 15 ≤ k; omega)
    unfold inR
    rw [e]
    trivial
theorem inO_5 {mc : Mem} {b k : Nat} (hb : b < lc LC mc 5) : inR LC mc 5 b k := by
  rcases (show k = 0 ∨ k = 1 ∨ k = 2 ∨ k = 3 ∨ 4 ≤ k by omega) with rfl | rfl | rfl | rfl | q
  · trivial
  · exact hb
  · trivial
  · trivial
  · have e : LC.2.1 5 k = (0, 0) := getD_hi _ _ (by show 4 ≤ k; omega)
    unfold inR
    rw [e]
    trivial
theorem inO_6 {mc : Mem} {b k : Nat} (hb : b < lc LC mc 6) : inR LC mc 6 b k := by
  rcases (show k = 0 ∨ k = 1 ∨ k = 2 ∨ 3 ≤ k by omega) with rfl | rfl | rfl | q
  · trivial
  · exact hb
  · exact hb
  · have e : LC.2.1 6 k = (0, 0) := getD_hi _ _ (by show 3 ≤ k; omega)
    unfold inR
    rw [e]
    trivial
theorem inO_7 {mc : Mem} {b k : Nat} (hb : b < lc LC mc 7) : inR LC mc 7 b k := by
  rcases (show k = 0 ∨ k = 1 ∨ k = 2 ∨ k = 3 ∨ k = 4 ∨ 5 ≤ k by omega) with rfl | rfl | rfl | rfl | rfl | q
  · exact hb
  · exact hb
  · exact hb
  · exact hb
  · exact hb
  · have e : LC.2.1 7 k = (0, 0) := getD_hi _ _ (by show 5 ≤ k; omega)
    unfold inR
    rw [e]
    trivial
theorem inO_9 {mc : Mem} {b k : Nat} (hb : b < lc LC mc 9) : inR LC mc 9 b k := by
  rcases (show k = 0 ∨ k = 1 ∨ k = 2 ∨ k = 3 ∨ k = 4 ∨ k = 5 ∨ k = 6 ∨ k = 7 ∨ k = 8 ∨ k = 9 ∨ 10 ≤ k by omega) with rfl | rfl | rfl | rfl | rfl | rfl | rfl | rfl | rfl | rfl | q
  · trivial
  · trivial
  · exact hb
  · exact hb
  · exact hb
  · exact hb
  · exact hb
  · exact hb
  · exact hb
  · exact hb
  · have e : LC.2.1 9 k = (0, 0) := getD_hi _ _ (by show 10 ≤ k; omega)
    unfold inR
    rw [e]
    trivial
theorem inO_10 {mc : Mem} {b k : Nat} (hb : b < lc LC mc 10) : inR LC mc 10 b k := by
  rcases (show k = 0 ∨ k = 1 ∨ k = 2 ∨ 3 ≤ k by omega) with rfl | rfl | rfl | q
  · exact hb
  · exact hb
  · exact hb
  · have e : LC.2.1 10 k = (0, 0) := getD_hi _ _ (by show 3 ≤ k; omega)
    unfold inR
    rw [e]
    trivial
theorem inO_11 {mc : Mem} {b k : Nat} (hb : b < lc LC mc 11) : inR LC mc 11 b k := by
  rcases (show k = 0 ∨ k = 1 ∨ 2 ≤ k by omega) with rfl | rfl | q
  · trivial
  · exact hb
  · have e : LC.2.1 11 k = (0, 0) := getD_hi _ _ (by show 2 ≤ k; omega)
    unfold inR
    rw [e]
    trivial
theorem inO_13 {mc : Mem} {b k : Nat} (hb : b < lc LC mc 13) : inR LC mc 13 b k := by
  rcases (show k = 0 ∨ k = 1 ∨ k = 2 ∨ k = 3 ∨ k = 4 ∨ k = 5 ∨ k = 6 ∨ k = 7 ∨ 8 ≤ k by omega) with rfl | rfl | rfl | rfl | rfl | rfl | rfl | rfl | q
  · trivial
  · trivial
  · trivial
  · trivial
  · trivial
  · trivial
  · exact hb
  · exact hb
  · have e : LC.2.1 13 k = (0, 0) := getD_hi _ _ (by show 8 ≤ k; omega)
    unfold inR
    rw [e]
    trivial
theorem inO_19 {mc : Mem} {b k : Nat} (hb : b < lc LC mc 19) : inR LC mc 19 b k := by
  rcases (show k = 0 ∨ k = 1 ∨ k = 2 ∨ k = 3 ∨ k = 4 ∨ k = 5 ∨ 6 ≤ k by omega) with rfl | rfl | rfl | rfl | rfl | rfl | q
  · trivial
  · trivial
  · trivial
  · exact hb
  · exact hb
  · exact hb
  · have e : LC.2.1 19 k = (0, 0) := getD_hi _ _ (by show 6 ≤ k; omega)
    unfold inR
    rw [e]
    trivial
theorem inO_23 {mc : Mem} {b k : Nat} (hb : b < lc LC mc 23) : inR LC mc 23 b k := by
  rcases (show k = 0 ∨ k = 1 ∨ k = 2 ∨ k = 3 ∨ k = 4 ∨ k = 5 ∨ k = 6 ∨ k = 7 ∨ k = 8 ∨ k = 9 ∨ k = 10 ∨ 11 ≤ k by omega) with rfl | rfl | rfl | rfl | rfl | rfl | rfl | rfl | rfl | rfl | rfl | q
  · trivial
  · trivial
  · trivial
  · trivial
  · trivial
  · trivial
  · trivial
  · trivial
  · trivial
  · trivial
  · trivial
  · have e : LC.2.1 23 k = (0, 0) := getD_hi _ _ (by show 11 ≤ k; omega)
    unfold inR
    rw [e]
    trivial
theorem inO_24 {mc : Mem} {b k : Nat} (hb : b < lc LC mc 24) : inR LC mc 24 b k := by
  rcases (show k = 0 ∨ k = 1 ∨ k = 2 ∨ k = 3 ∨ k = 4 ∨ 5 ≤ k by omega) with rfl | rfl | rfl | rfl | rfl | q
  · trivial
  · trivial
  · trivial
  · trivial
  · trivial
  · have e : LC.2.1 24 k = (0, 0) := getD_hi _ _ (by show 5 ≤ k; omega)
    unfold inR
    rw [e]
    trivial
theorem inO_42 {mc : Mem} {b k : Nat} (hb : b < lc LC mc 42) : inR LC mc 42 b k := by
  rcases (show k = 0 ∨ k = 1 ∨ k = 2 ∨ 3 ≤ k by omega) with rfl | rfl | rfl | q
  · trivial
  · exact hb
  · trivial
  · have e : LC.2.1 42 k = (0, 0) := getD_hi _ _ (by show 3 ≤ k; omega)
    unfold inR
    rw [e]
    trivial
theorem lcC44 {m : Mem} {r : Nat} (h : 44 ≤ r) : lc LC m r = 0 := by
  show ([1, 1, 1, 1, 1, 1, 1, 1, 1, 1, 1, 1, 1, 30, 30, 30, 1, 1, 1, 10, 10, 10, 10, gR m 999 23 0, gR m 999 24 0, 1, 1, 1, 1, 1, 1, 1, 1, 1, 1, 1, 1, 1, 1, 1, 1, 1, 6, 6] : List Nat).getD r 0 = 0
  exact getD_hi _ _ (by show 44 ≤ r; omega)
theorem inC1 {n : Nat} {mc mm : Mem} (h : RR n mc mm) {r b ci k : Nat} (hb : b < lc LC mc r) (hk : LC.1 r = .inl ci) : inR LC mc r b k := by
  have hr : r < 44 := by
    rcases Nat.lt_or_ge r 44 with q | q
    · exact q
    · rw [lcC44 q] at hb; omega
  rcases (show r = 0 ∨ r = 1 ∨ r = 2 ∨ r = 3 ∨ r = 4 ∨ r = 5 ∨ r = 6 ∨ r = 7 ∨ r = 8 ∨ r = 9 ∨ r = 10 ∨ r = 11 ∨ r = 12 ∨ r = 13 ∨ r = 14 ∨ r = 15 ∨ r = 16 ∨ r = 17 ∨ r = 18 ∨ r = 19 ∨ r = 20 ∨ r = 21 ∨ r = 22 ∨ r = 23 ∨ r = 24 ∨ r = 25 ∨ r = 26 ∨ r = 27 ∨ r = 28 ∨ r = 29 ∨ r = 30 ∨ r = 31 ∨ r = 32 ∨ r = 33 ∨ r = 34 ∨ r = 35 ∨ r = 36 ∨ r = 37 ∨ r = 38 ∨ r = 39 ∨ r = 40 ∨ r = 41 ∨ r = 42 ∨ r = 43 by omega) with rfl | rfl | rfl | rfl | rfl | rfl | rfl | rfl | rfl | rfl | rfl | rfl | rfl | rfl | rfl | rfl | rfl | rfl | rfl | rfl | rfl | rfl | rfl | rfl | rfl | rfl | rfl | rfl | rfl | rfl | rfl | rfl | rfl | rfl | rfl | rfl | rfl | rfl | rfl | rfl | rfl | rfl | rfl | rfl
  · exact inO_0 hb
  · exact absurd hk (by show ¬ (Sum.inr _ = Sum.inl _); exact fun q => by cases q)
  · exact absurd hk (by show ¬ (Sum.inr _ = Sum.inl _); exact fun q => by cases q)
  · exact absurd hk (by show ¬ (Sum.inr _ = Sum.inl _); exact fun q => by cases q)
  · exact absurd hk (by show ¬ (Sum.inr _ = Sum.inl _); exact fun q => by cases q)
  · exact inO_5 hb
  · exact inO_6 hb
  · exact inO_7 hb
  · exact absurd hk (by show ¬ (Sum.inr _ = Sum.inl _); exact fun q => by cases q)
  · exact inO_9 hb
  · exact inO_10 hb
  · exact inO_11 hb
  · exact absurd hk (by show ¬ (Sum.inr _ = Sum.inl _); exact fun q => by cases q)
  · exact inO_13 hb
  · exact absurd hk (by show ¬ (Sum.inr _ = Sum.inl _); exact fun q => by cases q)
  · exact absurd hk (by show ¬ (Sum.inr _ = Sum.inl _); exact fun q => by cases q)
  · exact absurd hk (by show ¬ (Sum.inr _ = Sum.inl _); exact fun q => by cases q)
  · exact absurd hk (by show ¬ (Sum.inr _ = Sum.inl _); exact fun q => by cases q)
  · exact absurd hk (by show ¬ (Sum.inr _ = Sum.inl _); exact fun q => by cases q)
  · exact inO_19 hb
  · exact absurd hk (by show ¬ (Sum.inr _ = Sum.inl _); exact fun q => by cases q)
  · exact absurd hk (by show ¬ (Sum.inr _ = Sum.inl _); exact fun q => by cases q)
  · exact absurd hk (by show ¬ (Sum.inr _ = Sum.inl _); exact fun q => by cases q)
  · exact inO_23 hb
  · exact inO_24 hb
  · exact absurd hk (by show ¬ (Sum.inr _ = Sum.inl _); exact fun q => by cases q)
  · exact absurd hk (by show ¬ (Sum.inr _ = Sum.inl _); exact fun q => by cases q)
  · exact absurd hk (by show ¬ (Sum.inr _ = Sum.inl _); exact fun q => by cases q)
  · exact absurd hk (by show ¬ (Sum.inr _ = Sum.inl _); exact fun q => by cases q)
  · exact absurd hk (by show ¬ (Sum.inr _ = Sum.inl _); exact fun q => by cases q)
  · exact absurd hk (by show ¬ (Sum.inr _ = Sum.inl _); exact fun q => by cases q)
  · exact absurd hk (by show ¬ (Sum.inr _ = Sum.inl _); exact fun q => by cases q)
  · exact absurd hk (by show ¬ (Sum.inr _ = Sum.inl _); exact fun q => by cases q)
  · exact absurd hk (by show ¬ (Sum.inr _ = Sum.inl _); exact fun q => by cases q)
  · exact absurd hk (by show ¬ (Sum.inr _ = Sum.inl _); exact fun q => by cases q)
  · exact absurd hk (by show ¬ (Sum.inr _ = Sum.inl _); exact fun q => by cases q)
  · exact absurd hk (by show ¬ (Sum.inr _ = Sum.inl _); exact fun q => by cases q)
  · exact absurd hk (by show ¬ (Sum.inr _ = Sum.inl _); exact fun q => by cases q)
  · exact absurd hk (by show ¬ (Sum.inr _ = Sum.inl _); exact fun q => by cases q)
  · exact absurd hk (by show ¬ (Sum.inr _ = Sum.inl _); exact fun q => by cases q)
  · exact absurd hk (by show ¬ (Sum.inr _ = Sum.inl _); exact fun q => by cases q)
  · exact absurd hk (by show ¬ (Sum.inr _ = Sum.inl _); exact fun q => by cases q)
  · exact inO_42 hb
  · exact absurd hk (by show ¬ (Sum.inr _ = Sum.inl _); exact fun q => by cases q)
set_option maxHeartbeats 1000000 in
theorem inC2 {n : Nat} {mc mm : Mem} (h : RR n mc mm) {r b k : Nat} {a : FieldType × Nat} (hb : b < lc LC mc r) (hk : LC.1 r = .inr a) (hka : k < a.2) : inR LC mc r b k := by
  obtain ⟨hT, hF, hL0, hL, hLc, hLg, hSb, hSs, hB, hP, hN, hG0, hG, hGd, hGw, hPw, hPa, hNa, hA, hTa, hR, hS, hW0, hW⟩ := h
  have hr : r < 44 := by
    rcases Nat.lt_or_ge r 44 with q | q
    · exact q
    · rw [lcC44 q] at hb; omega
  rcases (show r = 0 ∨ r = 1 ∨ r = 2 ∨ r = 3 ∨ r = 4 ∨ r = 5 ∨ r = 6 ∨ r = 7 ∨ r = 8 ∨ r = 9 ∨ r = 10 ∨ r = 11 ∨ r = 12 ∨ r = 13 ∨ r = 14 ∨ r = 15 ∨ r = 16 ∨ r = 17 ∨ r = 18 ∨ r = 19 ∨ r = 20 ∨ r = 21 ∨ r = 22 ∨ r = 23 ∨ r = 24 ∨ r = 25 ∨ r = 26 ∨ r = 27 ∨ r = 28 ∨ r = 29 ∨ r = 30 ∨ r = 31 ∨ r = 32 ∨ r = 33 ∨ r = 34 ∨ r = 35 ∨ r = 36 ∨ r = 37 ∨ r = 38 ∨ r = 39 ∨ r = 40 ∨ r = 41 ∨ r = 42 ∨ r = 43 by omega) with rfl | rfl | rfl | rfl | rfl | rfl | rfl | rfl | rfl | rfl | rfl | rfl | rfl | rfl | rfl | rfl | rfl | rfl | rfl | rfl | rfl | rfl | rfl | rfl | rfl | rfl | rfl | rfl | rfl | rfl | rfl | rfl | rfl | rfl | rfl | rfl | rfl | rfl | rfl | rfl | rfl | rfl | rfl | rfl
  · exact absurd hk (by show ¬ (Sum.inl _ = Sum.inr _); exact fun q => by cases q)
  · trivial
  · trivial
  · cases hk
    have hb0 : b = 0 := by
      have : b < 1 := hb
      omega
    subst hb0
    have e := hL0.2.2.2 k hka
    show gR mc 3 0 k ≤ nl mc
    rw [e]
    split <;> omega
  · cases hk
    exact hka
  · exact absurd hk (by show ¬ (Sum.inl _ = Sum.inr _); exact fun q => by cases q)
  · exact absurd hk (by show ¬ (Sum.inl _ = Sum.inr _); exact fun q => by cases q)
  · exact absurd hk (by show ¬ (Sum.inl _ = Sum.inr _); exact fun q => by cases q)
  · cases hk
    have hb0 : b = 0 := by
      have : b < 1 := hb
      omega
    subst hb0
    have e := hG0.2.2.2 k hka
    show gR mc 8 0 k ≤ ng mc
    rw [e]
    split <;> omega
  · exact absurd hk (by show ¬ (Sum.inl _ = Sum.inr _); exact fun q => by cases q)
  · exact absurd hk (by show ¬ (Sum.inl _ = Sum.inr _); exact fun q => by cases q)
  · exact absurd hk (by show ¬ (Sum.inl _ = Sum.inr _); exact fun q => by cases q)
  · cases hk
    exact hka
  · exact absurd hk (by show ¬ (Sum.inl _ = Sum.inr _); exact fun q => by cases q)
  · cases hk
    have hka : k < 6 := hka
    have e := hP b hb
    show gR mc 14 b k ≤ nl mc
    by_cases c0 : k = 0
    · rw [c0, e.1.1]; omega
    · by_cases c3 : k = 3
      · rw [c3, e.2.1]; omega
      · exact (e.2.2.2 k hka c0 c3).2.1
  · exact (hP b hb).1.2 k
  · trivial
  · cases hk
    exact hka
  · trivial
  · exact absurd hk (by show ¬ (Sum.inl _ = Sum.inr _); exact fun q => by cases q)
  · trivial
  · trivial
  · trivial
  · exact absurd hk (by show ¬ (Sum.inl _ = Sum.inr _); exact fun q => by cases q)
  · exact absurd hk (by show ¬ (Sum.inl _ = Sum.inr _); exact fun q => by cases q)
  · trivial
  · trivial
  · trivial
  · trivial
  · trivial
  · trivial
  · trivial
  · trivial
  · trivial
  · trivial
  · trivial
  · trivial
  · trivial
  · trivial
  · trivial
  · trivial
  · trivial
  · exact absurd hk (by show ¬ (Sum.inl _ = Sum.inr _); exact fun q => by cases q)
  · trivial
