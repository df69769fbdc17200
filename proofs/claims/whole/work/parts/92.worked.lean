/-! work: a gang has worked -/
theorem RR.wkd {n g b X : Nat} {mc mm : Mem} (hn : n < 100000) (h : RR n mc mm) (hg : g < ng mc) (hb : b < 30) (hX : X ≤ 20) (h1 : ¬ wkt mc g) (h2 : ∀ u, u < ng mc → wkt mc u → gI mc 24 u 2 ≠ nI b) :
    RR (n + 1) (sI (sI (sI mc 24 g 1 (gI mc 0 0 0)) 24 g 2 (nI b)) 24 g 4 (gI mc 24 g 4 + nI X)) (sI (sI (sI (sI mm 35 0 g (nI b)) 36 0 b 1) 37 0 b (if gI mm 32 0 g = 2 then 1 else 0)) 34 0 g (gI mm 34 0 g + nI X)) := by
  obtain ⟨hT, hF, hL0, hL, hLc, hLg, hSb, hSs, hB, hP, hN, hG0, hG, hGd, hGw, hPw, hPa, hNa, hA, hTa, hR, hS, hW0, hW⟩ := h
  have hn10 : ng mc ≤ 10 := hG0.1
  have c0 : ∀ j k, k ≠ 1 → k ≠ 2 → k ≠ 4 → gI (sI (sI (sI mc 24 g 1 (gI mc 0 0 0)) 24 g 2 (nI b)) 24 g 4 (gI mc 24 g 4 + nI X)) 24 j k = gI mc 24 j k := fun j k k1 k2 k4 => by
    rw [gI_sI, if_neg (fun q => k4 q.2.2), gI_sI, if_neg (fun q => k2 q.2.2), gI_sI, if_neg (fun q => k1 q.2.2)]
  have cj : ∀ j k, j ≠ g → gI (sI (sI (sI mc 24 g 1 (gI mc 0 0 0)) 24 g 2 (nI b)) 24 g 4 (gI mc 24 g 4 + nI X)) 24 j k = gI mc 24 j k := fun j k hj => by
    rw [gI_sI, if_neg (fun q => hj q.2.1), gI_sI, if_neg (fun q => hj q.2.1), gI_sI, if_neg (fun q => hj q.2.1)]
  have c1 : gI (sI (sI (sI mc 24 g 1 (gI mc 0 0 0)) 24 g 2 (nI b)) 24 g 4 (gI mc 24 g 4 + nI X)) 24 g 1 = gI mc 0 0 0 := by
    rw [gI_sI, if_neg (fun q => by have := q.2.2; omega), gI_sI, if_neg (fun q => by have := q.2.2; omega), gI_sI, if_pos ⟨rfl, rfl, rfl⟩]
  have c2 : gI (sI (sI (sI mc 24 g 1 (gI mc 0 0 0)) 24 g 2 (nI b)) 24 g 4 (gI mc 24 g 4 + nI X)) 24 g 2 = nI b := by
    rw [gI_sI, if_neg (fun q => by have := q.2.2; omega), gI_sI, if_pos ⟨rfl, rfl, rfl⟩]
  have c4 : gI (sI (sI (sI mc 24 g 1 (gI mc 0 0 0)) 24 g 2 (nI b)) 24 g 4 (gI mc 24 g 4 + nI X)) 24 g 4 = gI mc 24 g 4 + nI X := by
    rw [gI_sI, if_pos ⟨rfl, rfl, rfl⟩]
  have cd0 : gI (sI (sI (sI mc 24 g 1 (gI mc 0 0 0)) 24 g 2 (nI b)) 24 g 4 (gI mc 24 g 4 + nI X)) 0 0 0 = gI mc 0 0 0 := rfl
  have m34 : ∀ j, gI (sI (sI (sI (sI mm 35 0 g (nI b)) 36 0 b 1) 37 0 b (if gI mm 32 0 g = 2 then 1 else 0)) 34 0 g (gI mm 34 0 g + nI X)) 34 0 j = if j = g then gI mm 34 0 g + nI X else gI mm 34 0 j := fun j => by
    rw [gI_sI]
    by_cases e : j = g
    · rw [if_pos ⟨rfl, rfl, e⟩, if_pos e]
    · rw [if_neg (fun q => e q.2.2), if_neg e]; rfl
  have m35 : ∀ j, gI (sI (sI (sI (sI mm 35 0 g (nI b)) 36 0 b 1) 37 0 b (if gI mm 32 0 g = 2 then 1 else 0)) 34 0 g (gI mm 34 0 g + nI X)) 35 0 j = if j = g then nI b else gI mm 35 0 j := fun j => by
    show gI (sI mm 35 0 g (nI b)) 35 0 j = _
    rw [gI_sI]
    by_cases e : j = g
    · rw [if_pos ⟨rfl, rfl, e⟩, if_pos e]
    · rw [if_neg (fun q => e q.2.2), if_neg e]
  have m36 : ∀ j, gI (sI (sI (sI (sI mm 35 0 g (nI b)) 36 0 b 1) 37 0 b (if gI mm 32 0 g = 2 then 1 else 0)) 34 0 g (gI mm 34 0 g + nI X)) 36 0 j = if j = b then 1 else gI mm 36 0 j := fun j => by
    show gI (sI (sI mm 35 0 g (nI b)) 36 0 b 1) 36 0 j = _
    rw [gI_sI]
    by_cases e : j = b
    · rw [if_pos ⟨rfl, rfl, e⟩, if_pos e]
    · rw [if_neg (fun q => e q.2.2), if_neg e]; rfl
  have m37 : ∀ j, gI (sI (sI (sI (sI mm 35 0 g (nI b)) 36 0 b 1) 37 0 b (if gI mm 32 0 g = 2 then 1 else 0)) 34 0 g (gI mm 34 0 g + nI X)) 37 0 j = if j = b then (if gI mm 32 0 g = 2 then 1 else 0) else gI mm 37 0 j := fun j => by
    show gI (sI (sI (sI mm 35 0 g (nI b)) 36 0 b 1) 37 0 b (if gI mm 32 0 g = 2 then 1 else 0)) 37 0 j = _
    rw [gI_sI]
    by_cases e : j = b
    · rw [if_pos ⟨rfl, rfl, e⟩, if_pos e]
    · rw [if_neg (fun q => e q.2.2), if_neg e]; rfl
  have ib := nI_toInt (n := b) (by omega)
  have iX := nI_toInt (n := X) (by omega)
  have g0 : gI mc 24 g 0 = gI mm 32 0 g := (hG g hg).1
  have pG : r_G (sI (sI (sI mc 24 g 1 (gI mc 0 0 0)) 24 g 2 (nI b)) 24 g 4 (gI mc 24 g 4 + nI X)) (sI (sI (sI (sI mm 35 0 g (nI b)) 36 0 b 1) 37 0 b (if gI mm 32 0 g = 2 then 1 else 0)) 34 0 g (gI mm 34 0 g + nI X)) := fun j hj => by
    obtain ⟨q1, q2, q3, q4⟩ := hG j hj
    exact ⟨(c0 j 0 (by decide) (by decide) (by decide)).trans q1, (c0 j 3 (by decide) (by decide) (by decide)).trans q2, q3, q4⟩
  have pGd : r_Gd (n + 1) (sI (sI (sI mc 24 g 1 (gI mc 0 0 0)) 24 g 2 (nI b)) 24 g 4 (gI mc 24 g 4 + nI X)) (sI (sI (sI (sI mm 35 0 g (nI b)) 36 0 b 1) 37 0 b (if gI mm 32 0 g = 2 then 1 else 0)) 34 0 g (gI mm 34 0 g + nI X)) := fun j hj => by
    obtain ⟨q1, q2, q3⟩ := hGd j hj
    rw [m34]
    by_cases e : j = g
    · rw [e] at q1 q2 ⊢
      rw [c4, if_pos rfl, q1]
      refine ⟨rfl, ?_, fun q => absurd (show ng mc ≤ g from q) (by omega)⟩
      obtain ⟨s, s1, s2, s3⟩ := rg_n (lo := 0) (20 * n) (by omega) (by rw [show ((20 * n : Nat) : Int) = 20 * (n : Int) by omega]; exact q2)
      rw [s3, nI_add]
      have := nI_toInt (n := s + X) (by omega)
      exact ⟨by rw [this]; omega, by rw [this]; omega⟩
    · rw [cj j 4 e, if_neg e]
      exact ⟨q1, ⟨q2.1, Int.le_trans q2.2 (by omega)⟩, q3⟩
  have pGw : r_Gw (sI (sI (sI mc 24 g 1 (gI mc 0 0 0)) 24 g 2 (nI b)) 24 g 4 (gI mc 24 g 4 + nI X)) (sI (sI (sI (sI mm 35 0 g (nI b)) 36 0 b 1) 37 0 b (if gI mm 32 0 g = 2 then 1 else 0)) 34 0 g (gI mm 34 0 g + nI X)) := by
    obtain ⟨w1, w2, w3⟩ := hGw
    have t0 : 0 ≤ (gI mc 0 0 0).toInt := by
      rw [hT.1]; exact hT.2.1
    refine ⟨fun j hj => ?_, fun j hj hj2 => ?_, fun c hc => ?_⟩
    · rw [m35, cd0]
      by_cases e : j = g
      · rw [e, c1, c2, if_pos rfl, if_pos rfl]
        exact ⟨⟨by omega, Int.le_refl _⟩, fun _ => ⟨by omega, by omega⟩, rfl⟩
      · rw [cj j 1 e, cj j 2 e, if_neg e]
        exact w1 j hj
    · have hj : ng mc ≤ j := hj
      rw [m35, if_neg (by omega)]
      exact w2 j hj hj2
    · obtain ⟨s1, s2, s3, s4⟩ := w3 c hc
      have ic := nI_toInt (n := c) (by omega)
      rw [m36, m37, cd0]
      by_cases e : c = b
      · subst e
        rw [if_pos rfl, if_pos rfl]
        refine ⟨Or.inr rfl, ⟨fun _ => ⟨g, hg, c1, c2⟩, fun _ => rfl⟩, ?_, ?_⟩
        · by_cases q : gI mm 32 0 g = 2
          · rw [if_pos q]; exact Or.inr rfl
          · rw [if_neg q]; exact Or.inl rfl
        · constructor
          · intro q
            by_cases q2 : gI mm 32 0 g = 2
            · exact ⟨g, hg, c1, c2, by rw [c0 g 0 (by decide) (by decide) (by decide), g0]; exact q2⟩
            · rw [if_neg q2] at q; exact absurd q (by decide)
          · rintro ⟨u, u1, u2, u3, u4⟩
            by_cases eu : u = g
            · rw [eu, c0 g 0 (by decide) (by decide) (by decide), g0] at u4
              rw [if_pos u4]
            · rw [cj u 1 eu] at u2
              rw [cj u 2 eu] at u3
              exact absurd u3 (h2 u u1 u2)
      · rw [if_neg e, if_neg e]
        refine ⟨s1, ?_, s3, ?_⟩
        · rw [s2]
          constructor
          · rintro ⟨u, u1, u2, u3⟩
            have eu : u ≠ g := fun q => h1 (by rw [← q]; exact u2)
            exact ⟨u, u1, by rw [cj u 1 eu]; exact u2, by rw [cj u 2 eu]; exact u3⟩
          · rintro ⟨u, u1, u2, u3⟩
            by_cases eu : u = g
            · rw [eu, c2] at u3
              exact absurd ((nI_eq (by omega) (by omega)).mp u3).symm e
            · rw [cj u 1 eu] at u2
              rw [cj u 2 eu] at u3
              exact ⟨u, u1, u2, u3⟩
        · rw [s4]
          constructor
          · rintro ⟨u, u1, u2, u3, u4⟩
            have eu : u ≠ g := fun q => h1 (by rw [← q]; exact u2)
            exact ⟨u, u1, by rw [cj u 1 eu]; exact u2, by rw [cj u 2 eu]; exact u3, by rw [cj u 0 eu]; exact u4⟩
          · rintro ⟨u, u1, u2, u3, u4⟩
            by_cases eu : u = g
            · rw [eu, c2] at u3
              exact absurd ((nI_eq (by omega) (by omega)).mp u3).symm e
            · rw [cj u 1 eu] at u2
              rw [cj u 2 eu] at u3
              rw [cj u 0 eu] at u4
              exact ⟨u, u1, u2, u3, u4⟩
  exact ⟨hT, hF, hL0, hL, hLc, hLg.up, hSb, hSs, hB, hP, hN, hG0, pG, pGd, pGw, hPw, hPa, hNa, hA, hTa, hR, hS, hW0, hW⟩
