/-! the start: what the constructors leave -/
def iC0 (r x k : Nat) : Int32 := if r = 1 then 7 else if r = 2 then 14 else if r = 13 then (if k = 0 then nI x else if k = 5 then -1 else 0) else if r = 42 ∧ k = 0 then -1 else 0
def iM0 (r _ _ : Nat) : Int32 := if r = 3 then 7 else if r = 4 then 14 else if r = 14 ∨ r = 35 ∨ r = 47 ∨ r = 52 then -1 else 0
theorem sum_0 {f : Nat → Int32} (h : ∀ j, f j = 0) : ∀ n, sumI f n = 0 := by
  intro n
  induction n with
  | zero => rfl
  | succ n ih =>
    show sumI f n + f n = 0
    rw [ih, h]; rfl
theorem RR_start {lc lm : Nat → Nat → Nat → Int64} {rc rm : Nat → Nat → Nat → Nat} (l1 : ∀ r x k, lc r x k = 0) (l2 : ∀ r x k, lm r x k = 0) (h23 : rc 999 23 0 = 0) (h24 : rc 999 24 0 = 0) (h3 : ∀ k, rc 3 0 k = 0) (h8 : ∀ k, rc 8 0 k = 0) (h14 : ∀ b k, rc 14 b k = 0) (h15 : ∀ b k, rc 15 b k = 0) : RR 0 (iC0, lc, rc) (iM0, lm, rm) := by
  have n0 : nl (iC0, lc, rc) = 0 := h23
  have g0 : ng (iC0, lc, rc) = 0 := h24
  have cI : ∀ r x k, gI (iC0, lc, rc) r x k = iC0 r x k := fun _ _ _ => rfl
  have mI : ∀ r x k, gI (iM0, lm, rm) r x k = iM0 r x k := fun _ _ _ => rfl
  have cz : ∀ r x k, r ≠ 1 → r ≠ 2 → r ≠ 13 → r ≠ 42 → iC0 r x k = 0 := fun r x k a b c d => by
    unfold iC0
    rw [if_neg a, if_neg b, if_neg c, if_neg (fun q => d q.1)]
  have mz : ∀ r x k, r ≠ 3 → r ≠ 4 → r ≠ 14 → r ≠ 35 → r ≠ 47 → r ≠ 52 → iM0 r x k = 0 := fun r x k a b c d e f => by
    unfold iM0
    rw [if_neg a, if_neg b, if_neg (by omega)]
  have r0 : ∀ b : Int, 0 ≤ b → rg 0 0 b := fun b h => ⟨by decide, h⟩
  have z20 : (0 : Int32) = nI 0 := rfl
  refine ⟨?_, ?_, ?_, ?_, ?_, ?_, ?_, ?_, ?_, ?_, ?_, ?_, ?_, ?_, ?_, ?_, ?_, ?_, ?_, ?_, ?_, ?_, ?_, ?_⟩
  · exact ⟨rfl, r0 _ (by decide)⟩
  · exact fun f hf => ⟨rfl, rfl, show rg 7 1 60 from ⟨by decide, by decide⟩, show rg 14 1 60 from ⟨by decide, by decide⟩⟩
  · refine ⟨by omega, by rw [n0]; rfl, by rw [n0]; rfl, fun l hl => ?_⟩
    rw [if_neg (by omega)]; exact h3 l
  · intro l hl; omega
  · intro l hl; omega
  · intro l hl
    exact ⟨rfl, r0 _ (by decide), rfl, fun _ => ⟨rfl, rfl, rfl⟩⟩
  · exact (sum_0 (f := fun l => gI (iC0, lc, rc) 23 l 9) (fun j => rfl) 60).symm
  · unfold r_Ss
    rw [sum_0 (f := fun l => gI (iC0, lc, rc) 23 l 8) (fun j => rfl) 60, sum_0 (f := fun k => if 0 ≤ (gI (iM0, lm, rm) 14 0 k).toInt then 1 else 0) (fun j => if_neg (show ¬ (0 : Int) ≤ (-1 : Int32).toInt by decide)) 150, sum_0 (f := fun b => gI (iM0, lm, rm) 15 0 b) (fun j => rfl) 30]
    rfl
  · intro b hb
    exact ⟨rfl, rfl, rfl, rfl, fun q => absurd (h14 b 4) q, r0 _ (by decide), r0 _ (by decide), r0 _ (by decide), show rg (-1) (-1) 29 from ⟨by decide, by decide⟩⟩
  · intro b hb
    refine ⟨⟨h14 b 0, fun k => by rw [show gR (iC0, lc, rc) 15 b k = 0 from h15 b k]; exact Nat.zero_le _⟩, h14 b 3, rfl, fun p _ _ _ => ⟨?_, ?_, ?_⟩⟩
    · rw [show gR (iC0, lc, rc) 14 b p = 0 from h14 b p]; rfl
    · rw [show gR (iC0, lc, rc) 14 b p = 0 from h14 b p]; omega
    · intro l q
      rw [show gR (iC0, lc, rc) 14 b p = 0 from h14 b p] at q; omega
  · intro b hb
    exact ⟨0, by omega, rfl, rfl, fun k hk => by omega⟩
  · refine ⟨by omega, by rw [g0]; rfl, by rw [g0]; rfl, fun l hl => ?_⟩
    rw [if_neg (by omega)]; exact h8 l
  · intro g hg; omega
  · intro g hg
    exact ⟨rfl, show rg 0 0 (20 * ((0 : Nat) : Int)) from ⟨by decide, by decide⟩, fun _ => rfl⟩
  · refine ⟨fun g hg => by omega, fun g _ _ => rfl, fun b hb => ⟨Or.inl rfl, ⟨fun q => absurd (show (0 : Int32) = 1 from q) (by decide), fun ⟨u, u1, _⟩ => by omega⟩, Or.inl rfl, ⟨fun q => absurd (show (0 : Int32) = 1 from q) (by decide), fun ⟨u, u1, _⟩ => by omega⟩⟩⟩
  · exact ⟨0, by omega, rfl, rfl, fun k hk => by omega⟩
  · exact ⟨0, by omega, rfl, rfl, fun k hk => by omega⟩
  · exact fun k hk => ⟨rfl, Or.inl ⟨rfl, rfl⟩⟩
  · exact ⟨rfl, r0 _ (by decide), fun k hk => rfl⟩
  · intro t ht
    refine ⟨rfl, show rg (-1) (-1) 4 from ⟨by decide, by decide⟩, ⟨0, by omega, rfl, rfl, fun _ => rfl⟩, fun k hk => ⟨?_, fun q => ?_⟩⟩
    · show lc 43 t k = lm 54 0 (60 * t + k)
      rw [l1, l2]
    · exact absurd (show (-1 : Int32) = 2 from q) (by decide)
  · exact fun k hk => ⟨rfl, r0 _ (by decide)⟩
  · exact ⟨0, by omega, rfl, rfl, fun k hk => by omega⟩
  · exact ⟨0, by omega, rfl, rfl, fun k hk => by omega⟩
  · exact ⟨0, by omega, rfl, fun k hk => by omega⟩
