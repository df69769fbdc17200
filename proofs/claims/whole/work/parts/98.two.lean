/-! two worlds in one heap: the other one's calls -/
theorem lc_998 {L : Lay} {M : Mem} {v r : Nat} : lc L (sR M 998 0 0 v) r = lc L M r := by
  have : (fun q => gR (sR M 998 0 0 v) 999 q 0) = fun q => gR M 999 q 0 := funext fun q => by
    rw [gR_sR, if_neg (fun w => by omega)]
  show L.2.2 (fun q => gR (sR M 998 0 0 v) 999 q 0) r = L.2.2 (fun q => gR M 999 q 0) r
  rw [this]
theorem Zw.grow {K : KG} {L : Lay} {ad : Nat → Nat → Nat} {M : Mem} {H H1 : Heap} {v : Nat} (Z : Zw K L ad M H) (hhi : ∀ r, 900 ≤ r → lc L M r = 0) (hq : ∀ r b, b < lc L M r → H1[ad r b]? = H[ad r b]?) (hs : H1.size = kB K + v) : Zw K L ad (sR M 998 0 0 v) H1 := by
  obtain ⟨z1, z2, z3, z4⟩ := Z
  refine ⟨fun r b h => ?_, fun r b r' b' h h2 => ?_, fun r b => ?_, ?_⟩
  · rw [lc_998] at h
    have hr : r < 900 := by
      rcases Nat.lt_or_ge r 900 with q | q
      · exact q
      · rw [hhi r q] at h; omega
    refine (z1 r b h).kept (fun k => ?_) (hq r b h)
    unfold sv
    split <;> try rfl
    rw [gR_sR, if_neg (fun w => by omega)]
  · rw [lc_998] at h h2
    exact z2 r b r' b' h h2
  · rw [gR_sR, if_neg (fun w => by omega)]; exact z3 r b
  · rw [hs, gR_sR, if_pos ⟨rfl, rfl, rfl⟩]
theorem RR.w98 {n v : Nat} {mc mm : Mem} (h : RR n mc mm) : RR n mc (sR mm 998 0 0 v) := by
  obtain ⟨hT, hF, hL0, hL, hLc, hLg, hSb, hSs, hB, hP, hN, hG0, hG, hGd, hGw, hPw, hPa, hNa, hA, hTa, hR, hS, hW0, hW⟩ := h
  exact ⟨hT, hF, hL0, hL, hLc, hLg, hSb, hSs, hB, hP, hN, hG0, hG, hGd, hGw, hPw, hPa, hNa, hA, hTa, hR, hS, hW0, hW⟩
theorem RR.cR {n : Nat} {mc mm : Mem} {f : Nat → Nat → Nat → Nat} (h : RR n mc mm) (hf : ∀ r x k, r ≠ 997 → r ≠ 998 → f r x k = gR mc r x k) : RR n (mc.1, mc.2.1, f) mm := by
  have e : f = fun r x k => if r = 997 ∨ r = 998 then f r x k else gR mc r x k := by
    funext r x k
    by_cases c : r = 997 ∨ r = 998
    · rw [if_pos c]
    · rw [if_neg c, hf r x k (fun q => c (Or.inl q)) (fun q => c (Or.inr q))]
  rw [e]
  obtain ⟨hT, hF, hL0, hL, hLc, hLg, hSb, hSs, hB, hP, hN, hG0, hG, hGd, hGw, hPw, hPa, hNa, hA, hTa, hR, hS, hW0, hW⟩ := h
  exact ⟨hT, hF, hL0, hL, hLc, hLg, hSb, hSs, hB, hP, hN, hG0, hG, hGd, hGw, hPw, hPa, hNa, hA, hTa, hR, hS, hW0, hW⟩
