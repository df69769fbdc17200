/-! constructors: the layout in which every reference is a number and every count a ghost -/
def zS0 (t : Nat × Nat) : Nat × Nat := if 3 ≤ t.1 then (2, t.2) else t
def L0 (L : Lay) (hi : Nat) : Lay := (L.1, fun r k => zS0 (L.2.1 r k), fun g r => if r < hi then g r else 0)
theorem lc0 {L : Lay} {hi : Nat} {m : Mem} {r : Nat} : lc (L0 L hi) m r = if r < hi then gR m 999 r 0 else 0 := rfl
theorem lc0H {L : Lay} {hi : Nat} {m : Mem} (h : hi ≤ 900) : ∀ r, 900 ≤ r → lc (L0 L hi) m r = 0 := fun r hr => by
  rw [lc0, if_neg (by omega)]
theorem lc0B {L : Lay} {hi r b : Nat} {m : Mem} (h : r < hi) (eb : b = gR m 999 r 0) : lc (L0 L hi) m r = b := by
  rw [lc0, if_pos h, eb]
theorem lc0N {L : Lay} {hi r b : Nat} {m m1 : Mem} (h : r < hi) (eb : b = gR m 999 r 0) (em : m1 = sN m r) : lc (L0 L hi) m1 r = b + 1 := by
  rw [lc0, if_pos h, em, gR_sN, if_pos ⟨rfl, rfl, rfl⟩, eb]
theorem lc0O {L : Lay} {hi r : Nat} {m m1 : Mem} (hr9 : r < 900) (em : m1 = sN m r) : ∀ r', r' ≠ r → lc (L0 L hi) m1 r' = lc (L0 L hi) m r' := fun r' hr => by
  rw [lc0, lc0]
  by_cases c : r' < hi
  · rw [if_pos c, if_pos c, em, gR_sN, if_neg (fun q => hr q.2.1), if_neg (fun q => by omega), if_neg (fun q => by omega)]
  · rw [if_neg c, if_neg c]
theorem Zw.fix {K : KG} {L : Lay} {hi : Nat} {ad : Nat → Nat → Nat} {M : Mem} {H : Heap} (Z : Zw K (L0 L hi) ad M H) (hc : ∀ r, lc L M r = lc (L0 L hi) M r) (h3 : ∀ r b k, b < lc (L0 L hi) M r → (L.2.1 r k).1 = 3 → gR M r b k = b + 1) (h4 : ∀ r b k a, b < lc (L0 L hi) M r → L.1 r = .inr a → k < a.2 → 4 ≤ (L.2.1 r k).1 → gR M r b k = k + 1) (h5 : ∀ r k ci, L.1 r = .inl ci → (L.2.1 r k).1 ≤ 3) : Zw K L ad M H := by
  have key : ∀ r b k, ((L.2.1 r k).1 = 3 → gR M r b k = b + 1) → (4 ≤ (L.2.1 r k).1 → gR M r b k = k + 1) → sv L ad M r b k = sv (L0 L hi) ad M r b k := by
    intro r b k g3 g4
    have e : (L0 L hi).2.1 r k = zS0 (L.2.1 r k) := rfl
    unfold sv
    rw [e]
    generalize L.2.1 r k = t at g3 g4
    obtain ⟨t, u⟩ := t
    rcases (show t = 0 ∨ t = 1 ∨ t = 2 ∨ t = 3 ∨ 4 ≤ t by omega) with rfl | rfl | rfl | rfl | q
    · rfl
    · rfl
    · rfl
    · show Value.ref (ad u b) = rf (ad u) (gR M r b k)
      rw [g3 rfl]; rfl
    · obtain ⟨j, rfl⟩ : ∃ j, t = j + 4 := ⟨t - 4, by omega⟩
      have e2 : zS0 (j + 4, u) = (2, u) := if_pos (by show 3 ≤ j + 4; omega)
      rw [e2]
      show Value.ref (ad u k) = rf (ad u) (gR M r b k)
      rw [g4 q]; rfl
  refine Z.conv (fun r => rfl) hc (fun r b ci hb hk k => key r b k (h3 r b k hb) (fun q => ?_)) (fun r b a hb hk k hka => key r b k (h3 r b k hb) (h4 r b k a hb hk hka)) (fun _ _ => rfl) rfl
  have := h5 r k ci hk
  omega
