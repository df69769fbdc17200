/-! the prophecy set anew: another ad that says the same of what is there -/
def inR (L : Lay) (M : Mem) (r b k : Nat) : Prop := match (L.2.1 r k).1 with
  | 0 => True
  | 1 => True
  | 2 => gR M r b k ≤ lc L M (L.2.1 r k).2
  | 3 => b < lc L M (L.2.1 r k).2
  | _ => k < lc L M (L.2.1 r k).2
theorem sv_turn {L : Lay} {ad ad' : Nat → Nat → Nat} {M M1 : Mem} {r b k : Nat} (h : ∀ r b, b < lc L M r → ad' r b = ad r b) (h1 : M1.1 = M.1) (h2 : M1.2.1 = M.2.1) (hR : gR M1 r b k = gR M r b k) (hi : inR L M r b k) : sv L ad' M1 r b k = sv L ad M r b k := by
  have i0 : gI M1 r b k = gI M r b k := by unfold gI; rw [h1]
  have l0 : gL M1 r b k = gL M r b k := by unfold gL; rw [h2]
  unfold inR at hi
  unfold sv
  generalize L.2.1 r k = t at hi
  obtain ⟨t, u⟩ := t
  rcases (show t = 0 ∨ t = 1 ∨ t = 2 ∨ t = 3 ∨ 4 ≤ t by omega) with rfl | rfl | rfl | rfl | q
  · show Value.int (gI M1 r b k) = Value.int (gI M r b k)
    rw [i0]
  · show Value.long (gL M1 r b k) = Value.long (gL M r b k)
    rw [l0]
  · show rf (ad' u) (gR M1 r b k) = rf (ad u) (gR M r b k)
    have hi : gR M r b k ≤ lc L M u := hi
    rw [hR]
    generalize gR M r b k = c at hi
    cases c with
    | zero => rfl
    | succ j =>
      show Value.ref (ad' u j) = Value.ref (ad u j)
      rw [h u j (by omega)]
  · show Value.ref (ad' u b) = Value.ref (ad u b)
    rw [h u b hi]
  · obtain ⟨i, rfl⟩ : ∃ i, t = i + 4 := ⟨t - 4, by omega⟩
    show Value.ref (ad' u k) = Value.ref (ad u k)
    rw [h u k hi]
theorem Zw.turn {K : KG} {L : Lay} {ad ad' : Nat → Nat → Nat} {M M1 : Mem} {H : Heap} (Z : Zw K L ad M H) (hhi : ∀ r, 900 ≤ r → lc L M r = 0) (h : ∀ r b, b < lc L M r → ad' r b = ad r b) (h1 : M1.1 = M.1) (h2 : M1.2.1 = M.2.1) (hR : ∀ r b k, r < 900 → gR M1 r b k = gR M r b k) (h9 : ∀ r, gR M1 999 r 0 = gR M 999 r 0) (h8 : gR M1 998 0 0 = gR M 998 0 0) (h7 : ∀ r b, kB K + gR M1 997 r b = ad' r b)
    (hi1 : ∀ r b ci k, b < lc L M r → L.1 r = .inl ci → inR L M r b k) (hi2 : ∀ r b a k, b < lc L M r → L.1 r = .inr a → k < a.2 → inR L M r b k) : Zw K L ad' M1 H := by
  obtain ⟨z1, z2, z3, z4⟩ := Z
  have hc : ∀ r, lc L M1 r = lc L M r := fun r => by
    have : (fun q => gR M1 999 q 0) = fun q => gR M 999 q 0 := funext h9
    show L.2.2 (fun q => gR M1 999 q 0) r = L.2.2 (fun q => gR M 999 q 0) r
    rw [this]
  refine ⟨fun r b hb => ?_, fun r b r' b' hb hb' he => ?_, h7, by rw [h8]; exact z4⟩
  · rw [hc] at hb
    have hr : r < 900 := by
      rcases Nat.lt_or_ge r 900 with q | q
      · exact q
      · rw [hhi r q] at hb; omega
    have q := z1 r b hb
    unfold zAt at q ⊢
    rw [h r b hb]
    cases hk : L.1 r with
    | inl ci =>
      rw [hk] at q
      rw [show sv L ad' M1 r b = sv L ad M r b from funext fun k => sv_turn h h1 h2 (hR r b k hr) (hi1 r b ci k hb hk)]
      exact q
    | inr a =>
      rw [hk] at q
      show H[ad r b]? = some (arrV (K.2.1 a.1) a.2 (sv L ad' M1 r b))
      rw [arrV_cg (fun k hka => sv_turn h h1 h2 (hR r b k hr) (hi2 r b a k hb hk hka))]
      exact q
  · rw [hc] at hb hb'
    rw [h r b hb, h r' b' hb'] at he
    exact z2 r b r' b' hb hb' he
