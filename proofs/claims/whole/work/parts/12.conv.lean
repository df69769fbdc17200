/-! constructors: a world of nothing; from one layout to another -/
theorem Zw.empty {K : KG} {L : Lay} {ad : Nat → Nat → Nat} {M : Mem} {H : Heap} (h0 : ∀ r, lc L M r = 0) (ha : ∀ r b, kB K + gR M 997 r b = ad r b) (hs : H.size = kB K + gR M 998 0 0) : Zw K L ad M H :=
  ⟨fun r b h => by rw [h0] at h; omega, fun r b r' b' h => by rw [h0] at h; omega, ha, hs⟩
theorem arrV_cg {cA : ClassId} {N : Nat} {f g : Nat → Value} (h : ∀ k, k < N → f k = g k) : arrV cA N f = arrV cA N g := by
  unfold arrV
  have : (fun j : Fin N => f j.val) = fun j : Fin N => g j.val := funext fun j => h j.val j.isLt
  rw [this]
theorem Zw.conv {K : KG} {L1 L2 : Lay} {ad : Nat → Nat → Nat} {M1 M2 : Mem} {H : Heap} (Z : Zw K L1 ad M1 H) (hL : ∀ r, L2.1 r = L1.1 r) (hc : ∀ r, lc L2 M2 r = lc L1 M1 r) (hv1 : ∀ r b ci, b < lc L1 M1 r → L1.1 r = .inl ci → ∀ k, sv L2 ad M2 r b k = sv L1 ad M1 r b k) (hv2 : ∀ r b a, b < lc L1 M1 r → L1.1 r = .inr a → ∀ k, k < a.2 → sv L2 ad M2 r b k = sv L1 ad M1 r b k) (h7 : ∀ r b, gR M2 997 r b = gR M1 997 r b) (h8 : gR M2 998 0 0 = gR M1 998 0 0) : Zw K L2 ad M2 H := by
  obtain ⟨z1, z2, z3, z4⟩ := Z
  refine ⟨fun r b h => ?_, fun r b r' b' h h2 => ?_, fun r b => by rw [h7]; exact z3 r b, by rw [h8]; exact z4⟩
  · rw [hc] at h
    have q := z1 r b h
    unfold zAt at q ⊢
    rw [hL]
    cases hk : L1.1 r with
    | inl ci =>
      rw [hk] at q
      rw [show sv L2 ad M2 r b = sv L1 ad M1 r b from funext (hv1 r b ci h hk)]
      exact q
    | inr a =>
      rw [hk] at q
      show H[ad r b]? = some (arrV (K.2.1 a.1) a.2 (sv L2 ad M2 r b))
      rw [arrV_cg (hv2 r b a h hk)]
      exact q
  · rw [hc] at h h2
    exact z2 r b r' b' h h2
