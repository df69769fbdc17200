/-! set, down: a piece put, a piece taken -/
theorem lg_p (a b c : Int32) : a + b + c + 1 = a + 1 + b + c := by grind
theorem lg_m (a b c : Int32) : a + b + c - 1 = a - 1 + b + c := by grind
theorem ssa (a b c : Int32) : a + b + c = a + (b + c) := by grind
theorem ssb (a b c : Int32) : a + b + c = a + c + b := by grind
theorem pk_m1r {k : Nat} (h : 1 ≤ k) : nI (k - 1) = nI k + (-1) := by
  obtain ⟨j, rfl⟩ : ∃ j, k = j + 1 := ⟨k - 1, by omega⟩
  exact (pk_m1 j).symm
theorem sub_neg1 (a : Int32) : a - 1 = a + (-1) := by grind
theorem RR.put3 {n l b np : Nat} {mc mm : Mem} (h : RR n mc mm) (hl : l < nl mc) (hb : b < 30) (hn : gI mc 13 b 4 = nI np) (h24 : np < 24) (hk : gI mm 5 0 l = 3) : RR n (sI (sI (sR mc 15 b np (l + 1)) 13 b 4 (nI (np + 1))) 23 l 8 (gI mc 23 l 8 + 1)) (sI (sI (sI mm 12 0 l (gI mm 12 0 l + 1)) 16 0 (24 * b + np) (nI l)) 15 0 b (nI (np + 1))) := by
  obtain ⟨hT, hF, hL0, hL, hLc, hLg, hSb, hSs, hB, hP, hN, hG0, hG, hGd, hGw, hPw, hPa, hNa, hA, hTa, hR, hS, hW0, hW⟩ := h
  have hn60 : nl mc ≤ 60 := hL0.1
  have c8 : ∀ j k, k ≠ 8 → gI (sI (sI (sR mc 15 b np (l + 1)) 13 b 4 (nI (np + 1))) 23 l 8 (gI mc 23 l 8 + 1)) 23 j k = gI mc 23 j k := fun j k hk => by
    rw [gI_sI, if_neg (fun q => hk q.2.2)]; rfl
  have c88 : ∀ j, gI (sI (sI (sR mc 15 b np (l + 1)) 13 b 4 (nI (np + 1))) 23 l 8 (gI mc 23 l 8 + 1)) 23 j 8 = if j = l then gI mc 23 l 8 + 1 else gI mc 23 j 8 := fun j => by
    rw [gI_sI]
    by_cases e : j = l
    · rw [if_pos ⟨rfl, e, rfl⟩, if_pos e]
    · rw [if_neg (fun q => e q.2.1), if_neg e]; rfl
  have m12 : ∀ j, gI (sI (sI (sI mm 12 0 l (gI mm 12 0 l + 1)) 16 0 (24 * b + np) (nI l)) 15 0 b (nI (np + 1))) 12 0 j = if j = l then gI mm 12 0 l + 1 else gI mm 12 0 j := fun j => by
    show gI (sI mm 12 0 l (gI mm 12 0 l + 1)) 12 0 j = _
    rw [gI_sI]
    by_cases e : j = l
    · rw [if_pos ⟨rfl, rfl, e⟩, if_pos e]
    · rw [if_neg (fun q => e q.2.2), if_neg e]
  have m15 : ∀ j, gI (sI (sI (sI mm 12 0 l (gI mm 12 0 l + 1)) 16 0 (24 * b + np) (nI l)) 15 0 b (nI (np + 1))) 15 0 j = if j = b then nI (np + 1) else gI mm 15 0 j := fun j => by
    rw [gI_sI]
    by_cases e : j = b
    · rw [if_pos ⟨rfl, rfl, e⟩, if_pos e]
    · rw [if_neg (fun q => e q.2.2), if_neg e]; rfl
  have m16 : ∀ j, gI (sI (sI (sI mm 12 0 l (gI mm 12 0 l + 1)) 16 0 (24 * b + np) (nI l)) 15 0 b (nI (np + 1))) 16 0 j = if j = 24 * b + np then nI l else gI mm 16 0 j := fun j => by
    show gI (sI (sI mm 12 0 l (gI mm 12 0 l + 1)) 16 0 (24 * b + np) (nI l)) 16 0 j = _
    rw [gI_sI]
    by_cases e : j = 24 * b + np
    · rw [if_pos ⟨rfl, rfl, e⟩, if_pos e]
    · rw [if_neg (fun q => e q.2.2), if_neg e]; rfl
  have c15 : ∀ j k, gR (sI (sI (sR mc 15 b np (l + 1)) 13 b 4 (nI (np + 1))) 23 l 8 (gI mc 23 l 8 + 1)) 15 j k = if j = b ∧ k = np then l + 1 else gR mc 15 j k := fun j k => by
    show gR (sR mc 15 b np (l + 1)) 15 j k = _
    rw [gR_sR]
    by_cases e : j = b ∧ k = np
    · rw [if_pos ⟨rfl, e⟩, if_pos e]
    · rw [if_neg (fun q => e q.2), if_neg e]
  have c13 : ∀ j k, (j ≠ b ∨ k ≠ 4) → gI (sI (sI (sR mc 15 b np (l + 1)) 13 b 4 (nI (np + 1))) 23 l 8 (gI mc 23 l 8 + 1)) 13 j k = gI mc 13 j k := fun j k hk => by
    show gI (sI (sR mc 15 b np (l + 1)) 13 b 4 (nI (np + 1))) 13 j k = _
    rw [gI_sI, if_neg (fun q => by rcases hk with w | w; exact w q.2.1; exact w q.2.2)]; rfl
  have c13b : gI (sI (sI (sR mc 15 b np (l + 1)) 13 b 4 (nI (np + 1))) 23 l 8 (gI mc 23 l 8 + 1)) 13 b 4 = nI (np + 1) := by
    show gI (sI (sR mc 15 b np (l + 1)) 13 b 4 (nI (np + 1))) 13 b 4 = _
    rw [gI_sI, if_pos ⟨rfl, rfl, rfl⟩]
  have pL : r_L (sI (sI (sR mc 15 b np (l + 1)) 13 b 4 (nI (np + 1))) 23 l 8 (gI mc 23 l 8 + 1)) (sI (sI (sI mm 12 0 l (gI mm 12 0 l + 1)) 16 0 (24 * b + np) (nI l)) 15 0 b (nI (np + 1))) := fun j hj => by
    obtain ⟨a0, a1, a2, a3, a4, a5, a6⟩ := hL j hj
    exact ⟨(c8 j 0 (by decide)).trans a0, (c8 j 1 (by decide)).trans a1, (c8 j 2 (by decide)).trans a2, (c8 j 3 (by decide)).trans a3, (c8 j 4 (by decide)).trans a4, (c8 j 5 (by decide)).trans a5, a6⟩
  have pLc : r_Lc (sI (sI (sR mc 15 b np (l + 1)) 13 b 4 (nI (np + 1))) 23 l 8 (gI mc 23 l 8 + 1)) (sI (sI (sI mm 12 0 l (gI mm 12 0 l + 1)) 16 0 (24 * b + np) (nI l)) 15 0 b (nI (np + 1))) := fun j hj => by
    rcases hLc j hj with ⟨p1, p2⟩ | ⟨p1, p2, p3⟩
    · exact Or.inl ⟨(c8 j 6 (by decide)).trans p1, p2⟩
    · exact Or.inr ⟨(c8 j 6 (by decide)).trans p1, (c8 j 7 (by decide)).trans p2, p3⟩
  have pLg : r_Lg n (sI (sI (sR mc 15 b np (l + 1)) 13 b 4 (nI (np + 1))) 23 l 8 (gI mc 23 l 8 + 1)) (sI (sI (sI mm 12 0 l (gI mm 12 0 l + 1)) 16 0 (24 * b + np) (nI l)) 15 0 b (nI (np + 1))) := fun j hj => by
    obtain ⟨g1, g2, g3, g4⟩ := hLg j hj
    refine ⟨?_, by rw [c8 j 9 (by decide)]; exact g2, by rw [c8 j 9 (by decide)]; exact g3, fun q => ?_⟩
    · rw [m12, c88, c8 j 9 (by decide), c8 j 10 (by decide)]
      by_cases e : j = l
      · rw [if_pos e, if_pos e]
        rw [e] at g1
        rw [e, g1]; exact lg_p _ _ _
      · rw [if_neg e, if_neg e]; exact g1
    · have hq : nl mc ≤ j := q
      rw [c88, if_neg (by omega), c8 j 9 (by decide), c8 j 10 (by decide)]
      exact g4 hq
  have pSb : r_Sb (sI (sI (sR mc 15 b np (l + 1)) 13 b 4 (nI (np + 1))) 23 l 8 (gI mc 23 l 8 + 1)) (sI (sI (sI mm 12 0 l (gI mm 12 0 l + 1)) 16 0 (24 * b + np) (nI l)) 15 0 b (nI (np + 1))) := by
    have : sumI (fun j => gI (sI (sI (sR mc 15 b np (l + 1)) 13 b 4 (nI (np + 1))) 23 l 8 (gI mc 23 l 8 + 1)) 23 j 9) 60 = sumI (fun j => gI mc 23 j 9) 60 := sumI_congr (fun j _ => c8 j 9 (by decide))
    show gI mm 0 0 15 = sumI (fun j => gI (sI (sI (sR mc 15 b np (l + 1)) 13 b 4 (nI (np + 1))) 23 l 8 (gI mc 23 l 8 + 1)) 23 j 9) 60
    rw [this]; exact hSb
  have s1 : sumI (fun j => gI (sI (sI (sR mc 15 b np (l + 1)) 13 b 4 (nI (np + 1))) 23 l 8 (gI mc 23 l 8 + 1)) 23 j 8) 60 = sumI (fun j => gI mc 23 j 8) 60 + 1 := sumI_upd (i := l) (by omega) (by show gI (sI (sI (sR mc 15 b np (l + 1)) 13 b 4 (nI (np + 1))) 23 l 8 (gI mc 23 l 8 + 1)) 23 l 8 = gI mc 23 l 8 + 1; rw [c88, if_pos rfl]) (fun j _ hne => by show gI (sI (sI (sR mc 15 b np (l + 1)) 13 b 4 (nI (np + 1))) 23 l 8 (gI mc 23 l 8 + 1)) 23 j 8 = gI mc 23 j 8; rw [c88, if_neg hne])
  obtain ⟨np', n1, n2, n3, n4⟩ := hN b hb
  have en : np' = np := by
    rw [hn] at n2
    exact ((nI_eq (by omega) (by omega)).mp n2).symm
  rw [en] at n1 n2 n3 n4
  have s2 : sumI (fun j => gI (sI (sI (sI mm 12 0 l (gI mm 12 0 l + 1)) 16 0 (24 * b + np) (nI l)) 15 0 b (nI (np + 1))) 15 0 j) 30 = sumI (fun j => gI mm 15 0 j) 30 + 1 := sumI_upd (i := b) hb (by show gI (sI (sI (sI mm 12 0 l (gI mm 12 0 l + 1)) 16 0 (24 * b + np) (nI l)) 15 0 b (nI (np + 1))) 15 0 b = gI mm 15 0 b + 1; rw [m15, if_pos rfl, n3]; exact (nI_1 _).symm) (fun j _ hne => by show gI (sI (sI (sI mm 12 0 l (gI mm 12 0 l + 1)) 16 0 (24 * b + np) (nI l)) 15 0 b (nI (np + 1))) 15 0 j = gI mm 15 0 j; rw [m15, if_neg hne])
  have pSs : r_Ss (sI (sI (sR mc 15 b np (l + 1)) 13 b 4 (nI (np + 1))) 23 l 8 (gI mc 23 l 8 + 1)) (sI (sI (sI mm 12 0 l (gI mm 12 0 l + 1)) 16 0 (24 * b + np) (nI l)) 15 0 b (nI (np + 1))) := by
    show sumI (fun j => gI (sI (sI (sR mc 15 b np (l + 1)) 13 b 4 (nI (np + 1))) 23 l 8 (gI mc 23 l 8 + 1)) 23 j 8) 60 = sumI (fun k => if 0 ≤ (gI mm 14 0 k).toInt then 1 else 0) 150 + sumI (fun j => gI (sI (sI (sI mm 12 0 l (gI mm 12 0 l + 1)) 16 0 (24 * b + np) (nI l)) 15 0 b (nI (np + 1))) 15 0 j) 30
    rw [s1, s2, hSs]; exact ssa _ _ _
  have pB : r_B (sI (sI (sR mc 15 b np (l + 1)) 13 b 4 (nI (np + 1))) 23 l 8 (gI mc 23 l 8 + 1)) (sI (sI (sI mm 12 0 l (gI mm 12 0 l + 1)) 16 0 (24 * b + np) (nI l)) 15 0 b (nI (np + 1))) := fun j hj => by
    obtain ⟨b0, b1, b2, b3, b5, b6, b7, b8, b9⟩ := hB j hj
    exact ⟨(c13 j 0 (Or.inr (by decide))).trans b0, (c13 j 1 (Or.inr (by decide))).trans b1, (c13 j 2 (Or.inr (by decide))).trans b2, (c13 j 3 (Or.inr (by decide))).trans b3, fun z => (c13 j 5 (Or.inr (by decide))).trans (b5 z), b6, b7, b8, by rw [c13 j 5 (Or.inr (by decide))]; exact b9⟩
  have pN : r_N (sI (sI (sR mc 15 b np (l + 1)) 13 b 4 (nI (np + 1))) 23 l 8 (gI mc 23 l 8 + 1)) (sI (sI (sI mm 12 0 l (gI mm 12 0 l + 1)) 16 0 (24 * b + np) (nI l)) 15 0 b (nI (np + 1))) := fun j hj => by
    by_cases e : j = b
    · rw [e]
      refine ⟨np + 1, by omega, c13b, by rw [m15, if_pos rfl], fun k hk2 => ?_⟩
      by_cases e2 : k = np
      · rw [e2]
        exact ⟨l, hl, by rw [c15, if_pos ⟨rfl, rfl⟩], by rw [m16, if_pos rfl], hk⟩
      · obtain ⟨x, x1, x2, x3, x4⟩ := n4 k (by omega)
        exact ⟨x, x1, by rw [c15, if_neg (fun q => e2 q.2)]; exact x2, by rw [m16, if_neg (by omega)]; exact x3, x4⟩
    · obtain ⟨q, q1, q2, q3, q4⟩ := hN j hj
      refine ⟨q, q1, (c13 j 4 (Or.inl e)).trans q2, by rw [m15, if_neg e]; exact q3, fun k hk => ?_⟩
      obtain ⟨x, x1, x2, x3, x4⟩ := q4 k hk
      exact ⟨x, x1, by rw [c15, if_neg (fun w => e w.1)]; exact x2, by rw [m16, if_neg (by omega)]; exact x3, x4⟩
  have pP : r_P (sI (sI (sR mc 15 b np (l + 1)) 13 b 4 (nI (np + 1))) 23 l 8 (gI mc 23 l 8 + 1)) (sI (sI (sI mm 12 0 l (gI mm 12 0 l + 1)) 16 0 (24 * b + np) (nI l)) 15 0 b (nI (np + 1))) := fun j hj => by
    obtain ⟨⟨q0, q1⟩, q3, q4, q5⟩ := hP j hj
    refine ⟨⟨q0, fun k => ?_⟩, q3, q4, q5⟩
    rw [c15]
    by_cases e : j = b ∧ k = np
    · rw [if_pos e]; show l + 1 ≤ nl mc; omega
    · rw [if_neg e]; exact q1 k
  exact ⟨hT, hF, hL0, pL, pLc, pLg, pSb, pSs, pB, pP, pN, hG0, hG, hGd, hGw, hPw, hPa, hNa, hA, hTa, hR, hS, hW0, hW⟩
theorem RR.rem3 {n l b np : Nat} {mc mm : Mem} (h : RR n mc mm) (hl : l < nl mc) (hb : b < 30) (hn : gI mc 13 b 4 = nI np) (h1 : 1 ≤ np) (h24 : np ≤ 24) : RR n (sI (sI mc 13 b 4 (nI (np - 1))) 23 l 8 (gI mc 23 l 8 - 1)) (sI (sI mm 15 0 b (nI (np - 1))) 12 0 l (gI mm 12 0 l - 1)) := by
  obtain ⟨hT, hF, hL0, hL, hLc, hLg, hSb, hSs, hB, hP, hN, hG0, hG, hGd, hGw, hPw, hPa, hNa, hA, hTa, hR, hS, hW0, hW⟩ := h
  have hn60 : nl mc ≤ 60 := hL0.1
  have c8 : ∀ j k, k ≠ 8 → gI (sI (sI mc 13 b 4 (nI (np - 1))) 23 l 8 (gI mc 23 l 8 - 1)) 23 j k = gI mc 23 j k := fun j k hk => by
    rw [gI_sI, if_neg (fun q => hk q.2.2)]; rfl
  have c88 : ∀ j, gI (sI (sI mc 13 b 4 (nI (np - 1))) 23 l 8 (gI mc 23 l 8 - 1)) 23 j 8 = if j = l then gI mc 23 l 8 - 1 else gI mc 23 j 8 := fun j => by
    rw [gI_sI]
    by_cases e : j = l
    · rw [if_pos ⟨rfl, e, rfl⟩, if_pos e]
    · rw [if_neg (fun q => e q.2.1), if_neg e]; rfl
  have m12 : ∀ j, gI (sI (sI mm 15 0 b (nI (np - 1))) 12 0 l (gI mm 12 0 l - 1)) 12 0 j = if j = l then gI mm 12 0 l - 1 else gI mm 12 0 j := fun j => by
    show gI (sI (sI mm 15 0 b (nI (np - 1))) 12 0 l (gI mm 12 0 l - 1)) 12 0 j = _
    rw [gI_sI]
    by_cases e : j = l
    · rw [if_pos ⟨rfl, rfl, e⟩, if_pos e]
    · rw [if_neg (fun q => e q.2.2), if_neg e]; rfl
  have m15 : ∀ j, gI (sI (sI mm 15 0 b (nI (np - 1))) 12 0 l (gI mm 12 0 l - 1)) 15 0 j = if j = b then nI (np - 1) else gI mm 15 0 j := fun j => by
    show gI (sI mm 15 0 b (nI (np - 1))) 15 0 j = _
    rw [gI_sI]
    by_cases e : j = b
    · rw [if_pos ⟨rfl, rfl, e⟩, if_pos e]
    · rw [if_neg (fun q => e q.2.2), if_neg e]
  have c13 : ∀ j k, (j ≠ b ∨ k ≠ 4) → gI (sI (sI mc 13 b 4 (nI (np - 1))) 23 l 8 (gI mc 23 l 8 - 1)) 13 j k = gI mc 13 j k := fun j k hk => by
    show gI (sI mc 13 b 4 (nI (np - 1))) 13 j k = _
    rw [gI_sI, if_neg (fun q => by rcases hk with w | w; exact w q.2.1; exact w q.2.2)]
  have c13b : gI (sI (sI mc 13 b 4 (nI (np - 1))) 23 l 8 (gI mc 23 l 8 - 1)) 13 b 4 = nI (np - 1) := by
    show gI (sI mc 13 b 4 (nI (np - 1))) 13 b 4 = _
    rw [gI_sI, if_pos ⟨rfl, rfl, rfl⟩]
  have pL : r_L (sI (sI mc 13 b 4 (nI (np - 1))) 23 l 8 (gI mc 23 l 8 - 1)) (sI (sI mm 15 0 b (nI (np - 1))) 12 0 l (gI mm 12 0 l - 1)) := fun j hj => by
    obtain ⟨a0, a1, a2, a3, a4, a5, a6⟩ := hL j hj
    exact ⟨(c8 j 0 (by decide)).trans a0, (c8 j 1 (by decide)).trans a1, (c8 j 2 (by decide)).trans a2, (c8 j 3 (by decide)).trans a3, (c8 j 4 (by decide)).trans a4, (c8 j 5 (by decide)).trans a5, a6⟩
  have pLc : r_Lc (sI (sI mc 13 b 4 (nI (np - 1))) 23 l 8 (gI mc 23 l 8 - 1)) (sI (sI mm 15 0 b (nI (np - 1))) 12 0 l (gI mm 12 0 l - 1)) := fun j hj => by
    rcases hLc j hj with ⟨p1, p2⟩ | ⟨p1, p2, p3⟩
    · exact Or.inl ⟨(c8 j 6 (by decide)).trans p1, p2⟩
    · exact Or.inr ⟨(c8 j 6 (by decide)).trans p1, (c8 j 7 (by decide)).trans p2, p3⟩
  have pLg : r_Lg n (sI (sI mc 13 b 4 (nI (np - 1))) 23 l 8 (gI mc 23 l 8 - 1)) (sI (sI mm 15 0 b (nI (np - 1))) 12 0 l (gI mm 12 0 l - 1)) := fun j hj => by
    obtain ⟨g1, g2, g3, g4⟩ := hLg j hj
    refine ⟨?_, by rw [c8 j 9 (by decide)]; exact g2, by rw [c8 j 9 (by decide)]; exact g3, fun q => ?_⟩
    · rw [m12, c88, c8 j 9 (by decide), c8 j 10 (by decide)]
      by_cases e : j = l
      · rw [if_pos e, if_pos e]
        rw [e] at g1
        rw [e, g1]; exact lg_m _ _ _
      · rw [if_neg e, if_neg e]; exact g1
    · have hq : nl mc ≤ j := q
      rw [c88, if_neg (by omega), c8 j 9 (by decide), c8 j 10 (by decide)]
      exact g4 hq
  have pSb : r_Sb (sI (sI mc 13 b 4 (nI (np - 1))) 23 l 8 (gI mc 23 l 8 - 1)) (sI (sI mm 15 0 b (nI (np - 1))) 12 0 l (gI mm 12 0 l - 1)) := by
    have : sumI (fun j => gI (sI (sI mc 13 b 4 (nI (np - 1))) 23 l 8 (gI mc 23 l 8 - 1)) 23 j 9) 60 = sumI (fun j => gI mc 23 j 9) 60 := sumI_congr (fun j _ => c8 j 9 (by decide))
    show gI mm 0 0 15 = sumI (fun j => gI (sI (sI mc 13 b 4 (nI (np - 1))) 23 l 8 (gI mc 23 l 8 - 1)) 23 j 9) 60
    rw [this]; exact hSb
  have s1 : sumI (fun j => gI (sI (sI mc 13 b 4 (nI (np - 1))) 23 l 8 (gI mc 23 l 8 - 1)) 23 j 8) 60 = sumI (fun j => gI mc 23 j 8) 60 + (-1) := sumI_upd (i := l) (by omega) (by show gI (sI (sI mc 13 b 4 (nI (np - 1))) 23 l 8 (gI mc 23 l 8 - 1)) 23 l 8 = gI mc 23 l 8 + (-1); rw [c88, if_pos rfl]; exact sub_neg1 _) (fun j _ hne => by show gI (sI (sI mc 13 b 4 (nI (np - 1))) 23 l 8 (gI mc 23 l 8 - 1)) 23 j 8 = gI mc 23 j 8; rw [c88, if_neg hne])
  obtain ⟨np', n1, n2, n3, n4⟩ := hN b hb
  have en : np' = np := by
    rw [hn] at n2
    exact ((nI_eq (by omega) (by omega)).mp n2).symm
  rw [en] at n1 n2 n3 n4
  have s2 : sumI (fun j => gI (sI (sI mm 15 0 b (nI (np - 1))) 12 0 l (gI mm 12 0 l - 1)) 15 0 j) 30 = sumI (fun j => gI mm 15 0 j) 30 + (-1) := sumI_upd (i := b) hb (by show gI (sI (sI mm 15 0 b (nI (np - 1))) 12 0 l (gI mm 12 0 l - 1)) 15 0 b = gI mm 15 0 b + (-1); rw [m15, if_pos rfl, n3]; exact pk_m1r (by omega)) (fun j _ hne => by show gI (sI (sI mm 15 0 b (nI (np - 1))) 12 0 l (gI mm 12 0 l - 1)) 15 0 j = gI mm 15 0 j; rw [m15, if_neg hne])
  have pSs : r_Ss (sI (sI mc 13 b 4 (nI (np - 1))) 23 l 8 (gI mc 23 l 8 - 1)) (sI (sI mm 15 0 b (nI (np - 1))) 12 0 l (gI mm 12 0 l - 1)) := by
    show sumI (fun j => gI (sI (sI mc 13 b 4 (nI (np - 1))) 23 l 8 (gI mc 23 l 8 - 1)) 23 j 8) 60 = sumI (fun k => if 0 ≤ (gI mm 14 0 k).toInt then 1 else 0) 150 + sumI (fun j => gI (sI (sI mm 15 0 b (nI (np - 1))) 12 0 l (gI mm 12 0 l - 1)) 15 0 j) 30
    rw [s1, s2, hSs]; exact ssa _ _ _
  have pB : r_B (sI (sI mc 13 b 4 (nI (np - 1))) 23 l 8 (gI mc 23 l 8 - 1)) (sI (sI mm 15 0 b (nI (np - 1))) 12 0 l (gI mm 12 0 l - 1)) := fun j hj => by
    obtain ⟨b0, b1, b2, b3, b5, b6, b7, b8, b9⟩ := hB j hj
    exact ⟨(c13 j 0 (Or.inr (by decide))).trans b0, (c13 j 1 (Or.inr (by decide))).trans b1, (c13 j 2 (Or.inr (by decide))).trans b2, (c13 j 3 (Or.inr (by decide))).trans b3, fun z => (c13 j 5 (Or.inr (by decide))).trans (b5 z), b6, b7, b8, by rw [c13 j 5 (Or.inr (by decide))]; exact b9⟩
  have pN : r_N (sI (sI mc 13 b 4 (nI (np - 1))) 23 l 8 (gI mc 23 l 8 - 1)) (sI (sI mm 15 0 b (nI (np - 1))) 12 0 l (gI mm 12 0 l - 1)) := fun j hj => by
    by_cases e : j = b
    · rw [e]
      refine ⟨np - 1, by omega, c13b, by rw [m15, if_pos rfl], fun k hk => ?_⟩
      exact n4 k (by omega)
    · obtain ⟨q, q1, q2, q3, q4⟩ := hN j hj
      exact ⟨q, q1, (c13 j 4 (Or.inl e)).trans q2, by rw [m15, if_neg e]; exact q3, q4⟩
  exact ⟨hT, hF, hL0, pL, pLc, pLg, pSb, pSs, pB, hP, pN, hG0, hG, hGd, hGw, hPw, hPa, hNa, hA, hTa, hR, hS, hW0, hW⟩
theorem RR.putN {n l b p : Nat} {mc mm : Mem} (h : RR n mc mm) (hl : l < nl mc) (hb : b < 30) (p1 : 1 ≤ p) (p5 : p ≤ 5) (p3 : p ≠ 3) (hn : gR mc 14 b p = 0) (hk : plc (gI mm 5 0 l) = nI p) (hld : p = 4 → gI mc 13 b 5 = gI mm 17 0 b) : RR n (sI (sR mc 14 b p (l + 1)) 23 l 8 (gI mc 23 l 8 + 1)) (sI (sI mm 12 0 l (gI mm 12 0 l + 1)) 14 0 (5 * b + p - 1) (nI l)) := by
  obtain ⟨hT, hF, hL0, hL, hLc, hLg, hSb, hSs, hB, hP, hN, hG0, hG, hGd, hGw, hPw, hPa, hNa, hA, hTa, hR, hS, hW0, hW⟩ := h
  have hn60 : nl mc ≤ 60 := hL0.1
  have c8 : ∀ j k, k ≠ 8 → gI (sI (sR mc 14 b p (l + 1)) 23 l 8 (gI mc 23 l 8 + 1)) 23 j k = gI mc 23 j k := fun j k hk => by
    rw [gI_sI, if_neg (fun q => hk q.2.2)]; rfl
  have c88 : ∀ j, gI (sI (sR mc 14 b p (l + 1)) 23 l 8 (gI mc 23 l 8 + 1)) 23 j 8 = if j = l then gI mc 23 l 8 + 1 else gI mc 23 j 8 := fun j => by
    rw [gI_sI]
    by_cases e : j = l
    · rw [if_pos ⟨rfl, e, rfl⟩, if_pos e]
    · rw [if_neg (fun q => e q.2.1), if_neg e]; rfl
  have m12 : ∀ j, gI (sI (sI mm 12 0 l (gI mm 12 0 l + 1)) 14 0 (5 * b + p - 1) (nI l)) 12 0 j = if j = l then gI mm 12 0 l + 1 else gI mm 12 0 j := fun j => by
    show gI (sI mm 12 0 l (gI mm 12 0 l + 1)) 12 0 j = _
    rw [gI_sI]
    by_cases e : j = l
    · rw [if_pos ⟨rfl, rfl, e⟩, if_pos e]
    · rw [if_neg (fun q => e q.2.2), if_neg e]
  have c14 : ∀ j k, gR (sI (sR mc 14 b p (l + 1)) 23 l 8 (gI mc 23 l 8 + 1)) 14 j k = if j = b ∧ k = p then l + 1 else gR mc 14 j k := fun j k => by
    show gR (sR mc 14 b p (l + 1)) 14 j k = _
    rw [gR_sR]
    by_cases e : j = b ∧ k = p
    · rw [if_pos ⟨rfl, e⟩, if_pos e]
    · rw [if_neg (fun q => e q.2), if_neg e]
  have m14 : ∀ j, gI (sI (sI mm 12 0 l (gI mm 12 0 l + 1)) 14 0 (5 * b + p - 1) (nI l)) 14 0 j = if j = 5 * b + p - 1 then nI l else gI mm 14 0 j := fun j => by
    show gI (sI (sI mm 12 0 l (gI mm 12 0 l + 1)) 14 0 (5 * b + p - 1) (nI l)) 14 0 j = _
    rw [gI_sI]
    by_cases e : j = 5 * b + p - 1
    · rw [if_pos ⟨rfl, rfl, e⟩, if_pos e]
    · rw [if_neg (fun q => e q.2.2), if_neg e]; rfl
  obtain ⟨-, -, -, hpp⟩ := hP b hb
  obtain ⟨o1, o2, o3⟩ := hpp p (by omega) (by omega) p3
  have il := nI_toInt (n := l) (by omega)
  have pL : r_L (sI (sR mc 14 b p (l + 1)) 23 l 8 (gI mc 23 l 8 + 1)) (sI (sI mm 12 0 l (gI mm 12 0 l + 1)) 14 0 (5 * b + p - 1) (nI l)) := fun j hj => by
    obtain ⟨a0, a1, a2, a3, a4, a5, a6⟩ := hL j hj
    exact ⟨(c8 j 0 (by decide)).trans a0, (c8 j 1 (by decide)).trans a1, (c8 j 2 (by decide)).trans a2, (c8 j 3 (by decide)).trans a3, (c8 j 4 (by decide)).trans a4, (c8 j 5 (by decide)).trans a5, a6⟩
  have pLc : r_Lc (sI (sR mc 14 b p (l + 1)) 23 l 8 (gI mc 23 l 8 + 1)) (sI (sI mm 12 0 l (gI mm 12 0 l + 1)) 14 0 (5 * b + p - 1) (nI l)) := fun j hj => by
    rcases hLc j hj with ⟨p1, p2⟩ | ⟨p1, p2, p3⟩
    · exact Or.inl ⟨(c8 j 6 (by decide)).trans p1, p2⟩
    · exact Or.inr ⟨(c8 j 6 (by decide)).trans p1, (c8 j 7 (by decide)).trans p2, p3⟩
  have pLg : r_Lg n (sI (sR mc 14 b p (l + 1)) 23 l 8 (gI mc 23 l 8 + 1)) (sI (sI mm 12 0 l (gI mm 12 0 l + 1)) 14 0 (5 * b + p - 1) (nI l)) := fun j hj => by
    obtain ⟨g1, g2, g3, g4⟩ := hLg j hj
    refine ⟨?_, by rw [c8 j 9 (by decide)]; exact g2, by rw [c8 j 9 (by decide)]; exact g3, fun q => ?_⟩
    · rw [m12, c88, c8 j 9 (by decide), c8 j 10 (by decide)]
      by_cases e : j = l
      · rw [if_pos e, if_pos e]
        rw [e] at g1
        rw [e, g1]; exact lg_p _ _ _
      · rw [if_neg e, if_neg e]; exact g1
    · have hq : nl mc ≤ j := q
      rw [c88, if_neg (by omega), c8 j 9 (by decide), c8 j 10 (by decide)]
      exact g4 hq
  have pSb : r_Sb (sI (sR mc 14 b p (l + 1)) 23 l 8 (gI mc 23 l 8 + 1)) (sI (sI mm 12 0 l (gI mm 12 0 l + 1)) 14 0 (5 * b + p - 1) (nI l)) := by
    have : sumI (fun j => gI (sI (sR mc 14 b p (l + 1)) 23 l 8 (gI mc 23 l 8 + 1)) 23 j 9) 60 = sumI (fun j => gI mc 23 j 9) 60 := sumI_congr (fun j _ => c8 j 9 (by decide))
    show gI mm 0 0 15 = sumI (fun j => gI (sI (sR mc 14 b p (l + 1)) 23 l 8 (gI mc 23 l 8 + 1)) 23 j 9) 60
    rw [this]; exact hSb
  have s1 : sumI (fun j => gI (sI (sR mc 14 b p (l + 1)) 23 l 8 (gI mc 23 l 8 + 1)) 23 j 8) 60 = sumI (fun j => gI mc 23 j 8) 60 + 1 := sumI_upd (i := l) (by omega) (by show gI (sI (sR mc 14 b p (l + 1)) 23 l 8 (gI mc 23 l 8 + 1)) 23 l 8 = gI mc 23 l 8 + 1; rw [c88, if_pos rfl]) (fun j _ hne => by show gI (sI (sR mc 14 b p (l + 1)) 23 l 8 (gI mc 23 l 8 + 1)) 23 j 8 = gI mc 23 j 8; rw [c88, if_neg hne])
  have s2 : sumI (fun k => if 0 ≤ (gI (sI (sI mm 12 0 l (gI mm 12 0 l + 1)) 14 0 (5 * b + p - 1) (nI l)) 14 0 k).toInt then 1 else 0) 150 = sumI (fun k => if 0 ≤ (gI mm 14 0 k).toInt then 1 else 0) 150 + 1 := by
    refine sumI_upd (i := 5 * b + p - 1) (by omega) ?_ (fun j _ hne => by show (if 0 ≤ (gI (sI (sI mm 12 0 l (gI mm 12 0 l + 1)) 14 0 (5 * b + p - 1) (nI l)) 14 0 j).toInt then (1 : Int32) else 0) = if 0 ≤ (gI mm 14 0 j).toInt then 1 else 0; rw [m14, if_neg hne])
    show (if 0 ≤ (gI (sI (sI mm 12 0 l (gI mm 12 0 l + 1)) 14 0 (5 * b + p - 1) (nI l)) 14 0 (5 * b + p - 1)).toInt then (1 : Int32) else 0) = (if 0 ≤ (gI mm 14 0 (5 * b + p - 1)).toInt then 1 else 0) + 1
    rw [m14, if_pos rfl, o1, hn]
    show (if 0 ≤ (nI l).toInt then (1 : Int32) else 0) = (if 0 ≤ (cd 0).toInt then 1 else 0) + 1
    rw [if_pos (by omega), if_neg (by decide)]; rfl
  have pSs : r_Ss (sI (sR mc 14 b p (l + 1)) 23 l 8 (gI mc 23 l 8 + 1)) (sI (sI mm 12 0 l (gI mm 12 0 l + 1)) 14 0 (5 * b + p - 1) (nI l)) := by
    show sumI (fun j => gI (sI (sR mc 14 b p (l + 1)) 23 l 8 (gI mc 23 l 8 + 1)) 23 j 8) 60 = sumI (fun k => if 0 ≤ (gI (sI (sI mm 12 0 l (gI mm 12 0 l + 1)) 14 0 (5 * b + p - 1) (nI l)) 14 0 k).toInt then 1 else 0) 150 + sumI (fun j => gI mm 15 0 j) 30
    rw [s1, s2, hSs]; exact ssb _ _ _
  have pP : r_P (sI (sR mc 14 b p (l + 1)) 23 l 8 (gI mc 23 l 8 + 1)) (sI (sI mm 12 0 l (gI mm 12 0 l + 1)) 14 0 (5 * b + p - 1) (nI l)) := fun j hj => by
    obtain ⟨⟨q0, qq⟩, q3, q4, q5⟩ := hP j hj
    refine ⟨⟨by rw [c14, if_neg (by omega)]; exact q0, qq⟩, by rw [c14, if_neg (by omega)]; exact q3, by rw [m14, if_neg (by omega)]; exact q4, fun k k6 k0 k3 => ?_⟩
    obtain ⟨u1, u2, u3⟩ := q5 k k6 k0 k3
    by_cases e : j = b ∧ k = p
    · rw [c14, if_pos e, m14, if_pos (by omega)]
      exact ⟨rfl, by show l + 1 ≤ nl mc; omega, fun x hx => by
        have : x = l := by omega
        rw [this, e.2]; exact hk⟩
    · rw [c14, if_neg e, m14, if_neg (by omega)]
      exact ⟨u1, u2, u3⟩
  have pB : r_B (sI (sR mc 14 b p (l + 1)) 23 l 8 (gI mc 23 l 8 + 1)) (sI (sI mm 12 0 l (gI mm 12 0 l + 1)) 14 0 (5 * b + p - 1) (nI l)) := fun j hj => by
    obtain ⟨b0, b1, b2, b3, b5, b6⟩ := hB j hj
    refine ⟨b0, b1, b2, b3, fun z => ?_, b6⟩
    rw [c14] at z
    show gI mc 13 j 5 = gI mm 17 0 j
    by_cases e : j = b ∧ 4 = p
    · rw [e.1]; exact hld e.2.symm
    · rw [if_neg e] at z
      exact b5 z
  exact ⟨hT, hF, hL0, pL, pLc, pLg, pSb, pSs, pB, pP, hN, hG0, hG, hGd, hGw, hPw, hPa, hNa, hA, hTa, hR, hS, hW0, hW⟩
theorem RR.remN {n l b p : Nat} {mc mm : Mem} (h : RR n mc mm) (hl : l < nl mc) (hb : b < 30) (p1 : 1 ≤ p) (p5 : p ≤ 5) (p3 : p ≠ 3) (hn : gR mc 14 b p = l + 1) : RR n (sI (sR mc 14 b p 0) 23 l 8 (gI mc 23 l 8 - 1)) (sI (sI mm 14 0 (5 * b + p - 1) (-1)) 12 0 l (gI mm 12 0 l - 1)) := by
  obtain ⟨hT, hF, hL0, hL, hLc, hLg, hSb, hSs, hB, hP, hN, hG0, hG, hGd, hGw, hPw, hPa, hNa, hA, hTa, hR, hS, hW0, hW⟩ := h
  have hn60 : nl mc ≤ 60 := hL0.1
  have c8 : ∀ j k, k ≠ 8 → gI (sI (sR mc 14 b p 0) 23 l 8 (gI mc 23 l 8 - 1)) 23 j k = gI mc 23 j k := fun j k hk => by
    rw [gI_sI, if_neg (fun q => hk q.2.2)]; rfl
  have c88 : ∀ j, gI (sI (sR mc 14 b p 0) 23 l 8 (gI mc 23 l 8 - 1)) 23 j 8 = if j = l then gI mc 23 l 8 - 1 else gI mc 23 j 8 := fun j => by
    rw [gI_sI]
    by_cases e : j = l
    · rw [if_pos ⟨rfl, e, rfl⟩, if_pos e]
    · rw [if_neg (fun q => e q.2.1), if_neg e]; rfl
  have m12 : ∀ j, gI (sI (sI mm 14 0 (5 * b + p - 1) (-1)) 12 0 l (gI mm 12 0 l - 1)) 12 0 j = if j = l then gI mm 12 0 l - 1 else gI mm 12 0 j := fun j => by
    show gI (sI (sI mm 14 0 (5 * b + p - 1) (-1)) 12 0 l (gI mm 12 0 l - 1)) 12 0 j = _
    rw [gI_sI]
    by_cases e : j = l
    · rw [if_pos ⟨rfl, rfl, e⟩, if_pos e]
    · rw [if_neg (fun q => e q.2.2), if_neg e]; rfl
  have c14 : ∀ j k, gR (sI (sR mc 14 b p 0) 23 l 8 (gI mc 23 l 8 - 1)) 14 j k = if j = b ∧ k = p then 0 else gR mc 14 j k := fun j k => by
    show gR (sR mc 14 b p 0) 14 j k = _
    rw [gR_sR]
    by_cases e : j = b ∧ k = p
    · rw [if_pos ⟨rfl, e⟩, if_pos e]
    · rw [if_neg (fun q => e q.2), if_neg e]
  have m14 : ∀ j, gI (sI (sI mm 14 0 (5 * b + p - 1) (-1)) 12 0 l (gI mm 12 0 l - 1)) 14 0 j = if j = 5 * b + p - 1 then -1 else gI mm 14 0 j := fun j => by
    show gI (sI mm 14 0 (5 * b + p - 1) (-1)) 14 0 j = _
    rw [gI_sI]
    by_cases e : j = 5 * b + p - 1
    · rw [if_pos ⟨rfl, rfl, e⟩, if_pos e]
    · rw [if_neg (fun q => e q.2.2), if_neg e]
  obtain ⟨-, -, -, hpp⟩ := hP b hb
  obtain ⟨o1, o2, o3⟩ := hpp p (by omega) (by omega) p3
  have il := nI_toInt (n := l) (by omega)
  have pL : r_L (sI (sR mc 14 b p 0) 23 l 8 (gI mc 23 l 8 - 1)) (sI (sI mm 14 0 (5 * b + p - 1) (-1)) 12 0 l (gI mm 12 0 l - 1)) := fun j hj => by
    obtain ⟨a0, a1, a2, a3, a4, a5, a6⟩ := hL j hj
    exact ⟨(c8 j 0 (by decide)).trans a0, (c8 j 1 (by decide)).trans a1, (c8 j 2 (by decide)).trans a2, (c8 j 3 (by decide)).trans a3, (c8 j 4 (by decide)).trans a4, (c8 j 5 (by decide)).trans a5, a6⟩
  have pLc : r_Lc (sI (sR mc 14 b p 0) 23 l 8 (gI mc 23 l 8 - 1)) (sI (sI mm 14 0 (5 * b + p - 1) (-1)) 12 0 l (gI mm 12 0 l - 1)) := fun j hj => by
    rcases hLc j hj with ⟨p1, p2⟩ | ⟨p1, p2, p3⟩
    · exact Or.inl ⟨(c8 j 6 (by decide)).trans p1, p2⟩
    · exact Or.inr ⟨(c8 j 6 (by decide)).trans p1, (c8 j 7 (by decide)).trans p2, p3⟩
  have pLg : r_Lg n (sI (sR mc 14 b p 0) 23 l 8 (gI mc 23 l 8 - 1)) (sI (sI mm 14 0 (5 * b + p - 1) (-1)) 12 0 l (gI mm 12 0 l - 1)) := fun j hj => by
    obtain ⟨g1, g2, g3, g4⟩ := hLg j hj
    refine ⟨?_, by rw [c8 j 9 (by decide)]; exact g2, by rw [c8 j 9 (by decide)]; exact g3, fun q => ?_⟩
    · rw [m12, c88, c8 j 9 (by decide), c8 j 10 (by decide)]
      by_cases e : j = l
      · rw [if_pos e, if_pos e]
        rw [e] at g1
        rw [e, g1]; exact lg_m _ _ _
      · rw [if_neg e, if_neg e]; exact g1
    · have hq : nl mc ≤ j := q
      rw [c88, if_neg (by omega), c8 j 9 (by decide), c8 j 10 (by decide)]
      exact g4 hq
  have pSb : r_Sb (sI (sR mc 14 b p 0) 23 l 8 (gI mc 23 l 8 - 1)) (sI (sI mm 14 0 (5 * b + p - 1) (-1)) 12 0 l (gI mm 12 0 l - 1)) := by
    have : sumI (fun j => gI (sI (sR mc 14 b p 0) 23 l 8 (gI mc 23 l 8 - 1)) 23 j 9) 60 = sumI (fun j => gI mc 23 j 9) 60 := sumI_congr (fun j _ => c8 j 9 (by decide))
    show gI mm 0 0 15 = sumI (fun j => gI (sI (sR mc 14 b p 0) 23 l 8 (gI mc 23 l 8 - 1)) 23 j 9) 60
    rw [this]; exact hSb
  have s1 : sumI (fun j => gI (sI (sR mc 14 b p 0) 23 l 8 (gI mc 23 l 8 - 1)) 23 j 8) 60 = sumI (fun j => gI mc 23 j 8) 60 + (-1) := sumI_upd (i := l) (by omega) (by show gI (sI (sR mc 14 b p 0) 23 l 8 (gI mc 23 l 8 - 1)) 23 l 8 = gI mc 23 l 8 + (-1); rw [c88, if_pos rfl]; exact sub_neg1 _) (fun j _ hne => by show gI (sI (sR mc 14 b p 0) 23 l 8 (gI mc 23 l 8 - 1)) 23 j 8 = gI mc 23 j 8; rw [c88, if_neg hne])
  have s2 : sumI (fun k => if 0 ≤ (gI (sI (sI mm 14 0 (5 * b + p - 1) (-1)) 12 0 l (gI mm 12 0 l - 1)) 14 0 k).toInt then 1 else 0) 150 = sumI (fun k => if 0 ≤ (gI mm 14 0 k).toInt then 1 else 0) 150 + (-1) := by
    refine sumI_upd (i := 5 * b + p - 1) (by omega) ?_ (fun j _ hne => by show (if 0 ≤ (gI (sI (sI mm 14 0 (5 * b + p - 1) (-1)) 12 0 l (gI mm 12 0 l - 1)) 14 0 j).toInt then (1 : Int32) else 0) = if 0 ≤ (gI mm 14 0 j).toInt then 1 else 0; rw [m14, if_neg hne])
    show (if 0 ≤ (gI (sI (sI mm 14 0 (5 * b + p - 1) (-1)) 12 0 l (gI mm 12 0 l - 1)) 14 0 (5 * b + p - 1)).toInt then (1 : Int32) else 0) = (if 0 ≤ (gI mm 14 0 (5 * b + p - 1)).toInt then 1 else 0) + (-1)
    rw [m14, if_pos rfl, o1, hn]
    show (if 0 ≤ (-1 : Int32).toInt then (1 : Int32) else 0) = (if 0 ≤ (nI l).toInt then 1 else 0) + (-1)
    rw [if_pos (show 0 ≤ (nI l).toInt by omega), if_neg (by decide)]; rfl
  have pSs : r_Ss (sI (sR mc 14 b p 0) 23 l 8 (gI mc 23 l 8 - 1)) (sI (sI mm 14 0 (5 * b + p - 1) (-1)) 12 0 l (gI mm 12 0 l - 1)) := by
    show sumI (fun j => gI (sI (sR mc 14 b p 0) 23 l 8 (gI mc 23 l 8 - 1)) 23 j 8) 60 = sumI (fun k => if 0 ≤ (gI (sI (sI mm 14 0 (5 * b + p - 1) (-1)) 12 0 l (gI mm 12 0 l - 1)) 14 0 k).toInt then 1 else 0) 150 + sumI (fun j => gI mm 15 0 j) 30
    rw [s1, s2, hSs]; exact ssb _ _ _
  have pP : r_P (sI (sR mc 14 b p 0) 23 l 8 (gI mc 23 l 8 - 1)) (sI (sI mm 14 0 (5 * b + p - 1) (-1)) 12 0 l (gI mm 12 0 l - 1)) := fun j hj => by
    obtain ⟨⟨q0, qq⟩, q3, q4, q5⟩ := hP j hj
    refine ⟨⟨by rw [c14, if_neg (by omega)]; exact q0, qq⟩, by rw [c14, if_neg (by omega)]; exact q3, by rw [m14, if_neg (by omega)]; exact q4, fun k k6 k0 k3 => ?_⟩
    obtain ⟨u1, u2, u3⟩ := q5 k k6 k0 k3
    by_cases e : j = b ∧ k = p
    · rw [c14, if_pos e, m14, if_pos (by omega)]
      exact ⟨rfl, Nat.zero_le _, fun x hx => by omega⟩
    · rw [c14, if_neg e, m14, if_neg (by omega)]
      exact ⟨u1, u2, u3⟩
  have pB : r_B (sI (sR mc 14 b p 0) 23 l 8 (gI mc 23 l 8 - 1)) (sI (sI mm 14 0 (5 * b + p - 1) (-1)) 12 0 l (gI mm 12 0 l - 1)) := fun j hj => by
    obtain ⟨b0, b1, b2, b3, b5, b6⟩ := hB j hj
    refine ⟨b0, b1, b2, b3, fun z => ?_, b6⟩
    rw [c14] at z
    show gI mc 13 j 5 = gI mm 17 0 j
    by_cases e : j = b ∧ 4 = p
    · rw [if_pos e] at z; exact absurd rfl z
    · rw [if_neg e] at z
      exact b5 z
  exact ⟨hT, hF, hL0, pL, pLc, pLg, pSb, pSs, pB, pP, hN, hG0, hG, hGd, hGw, hPw, hPa, hNa, hA, hTa, hR, hS, hW0, hW⟩
