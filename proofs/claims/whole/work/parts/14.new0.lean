/-! constructors: what a new object or row holds in the layout of numbers -/
theorem sv0_new {L : Lay} {hi r b j : Nat} {ad : Nat → Nat → Nat} {M M1 : Mem} (hr : r < 900) (eb : b = gR M 999 r 0) (em : M1 = sN M r) : sv (L0 L hi) ad M1 r b j = match (L.2.1 r j).1 with
    | 0 => Value.int 0
    | 1 => Value.long 0
    | _ => Value.null := by
  have e : (L0 L hi).2.1 r j = zS0 (L.2.1 r j) := rfl
  unfold sv
  rw [e]
  generalize L.2.1 r j = t
  obtain ⟨t, u⟩ := t
  have i0 : gI M1 r b j = 0 := by rw [em, gI_sN, if_pos ⟨rfl, eb⟩]
  have l0 : gL M1 r b j = 0 := by rw [em, gL_sN, if_pos ⟨rfl, eb⟩]
  have r0 : gR M1 r b j = 0 := by rw [em, gR_sN, if_neg (fun q => by omega), if_neg (fun q => by omega), if_pos ⟨rfl, eb⟩]
  rcases (show t = 0 ∨ t = 1 ∨ t = 2 ∨ 3 ≤ t by omega) with rfl | rfl | rfl | q
  · show Value.int (gI M1 r b j) = Value.int 0
    rw [i0]
  · show Value.long (gL M1 r b j) = Value.long 0
    rw [l0]
  · show rf (ad u) (gR M1 r b j) = Value.null
    rw [r0]; rfl
  · obtain ⟨i, rfl⟩ : ∃ i, t = i + 3 := ⟨t - 3, by omega⟩
    have e2 : zS0 (i + 3, u) = (2, u) := if_pos (by show 3 ≤ i + 3; omega)
    rw [e2]
    show rf (ad u) (gR M1 r b j) = Value.null
    rw [r0]; rfl
