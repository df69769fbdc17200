/-! work: what is barred hangs on the texts alone -/
def ag (m m' : Mem) : Prop := ∀ r x k, r ≠ 13 → r ≠ 23 → (r = 18 → x = 0 ∧ k < 6) → gI m' r x k = gI m r x k
theorem ag.n {m m' : Mem} (h : ag m m') (r x k : Nat) (h1 : r ≠ 13) (h2 : r ≠ 23) (h3 : r ≠ 18) : gI m' r x k = gI m r x k := h r x k h1 h2 (fun q => absurd q h3)
def Q {α : Type} (m m' : Mem) (x y : Option (α × Mem)) : Prop := ∀ a m1, x = some (a, m1) → m1 = m ∧ y = some (a, m')
theorem q_ret {α : Type} {m m' : Mem} {a : α} : Q m m' (some (a, m)) (some (a, m')) := fun b m1 h => by cases h; exact ⟨rfl, rfl⟩
theorem q_non {α : Type} {m m' : Mem} {y : Option (α × Mem)} : Q m m' none y := fun b m1 h => by cases h
theorem q_ite {α : Type} {m m' : Mem} {c : Prop} [Decidable c] {x y x' y' : Option (α × Mem)} (h1 : Q m m' x y) (h2 : Q m m' x' y') : Q m m' (if c then x else x') (if c then y else y') := by
  by_cases h : c
  · rw [if_pos h, if_pos h]; exact h1
  · rw [if_neg h, if_neg h]; exact h2
theorem q_asr {α : Type} {m m' : Mem} {c : Prop} [Decidable c] {x y : Option (α × Mem)} (h1 : Q m m' x y) : Q m m' (asr c x) (asr c y) := by
  by_cases h : c
  · rw [asr_t h, asr_t h]; exact h1
  · intro a m1 q
    have : asr c x = none := if_neg h
    rw [this] at q; cases q
theorem q_bn2 {α β : Type} {m m' : Mem} {x y : Option (α × Mem)} {k k' : α → Mem → Option (β × Mem)} (h1 : Q m m' x y) (h2 : ∀ a, Q m m' (k a m) (k' a m')) : Q m m' (bn2 x k) (bn2 y k') := by
  intro b m1 h
  cases hx : x with
  | none => rw [hx] at h; cases h
  | some r =>
    obtain ⟨a, m2⟩ := r
    obtain ⟨e1, e2⟩ := h1 a m2 hx
    subst e1
    rw [hx, bn2_e] at h
    rw [e2, bn2_e]
    exact h2 a b m1 h
theorem q_drf {β : Type} {m m' : Mem} {n c : Nat} {k k' : Nat → Option (β × Mem)} (h2 : ∀ a, Q m m' (k a) (k' a)) : Q m m' (drf n c k) (drf n c k') := by
  cases c with
  | zero => exact q_non
  | succ j =>
    by_cases h : j < n
    · rw [drf_e h, drf_e h]; exact h2 j
    · intro a m1 q
      have : drf n (j + 1) k = none := if_neg h
      rw [this] at q; cases q
theorem lastClauseOf_l4_q {m m' : Mem} (h : ag m m') {fl g0 : Nat} {g1 : Int32} : ∀ (N : Nat) (u2 u3 : Int32), Q m m' (f_X9_lastClauseOf_l4 fl g0 g1 N u2 u3 m) (f_X9_lastClauseOf_l4 fl g0 g1 N u2 u3 m') := by
  have h19 : ∀ x k, gI m' 19 x k = gI m 19 x k := fun x k => h.n 19 x k (by decide) (by decide) (by decide)
  have h20 : ∀ x k, gI m' 20 x k = gI m 20 x k := fun x k => h.n 20 x k (by decide) (by decide) (by decide)
  intro N
  induction N with
  | zero => intro u2 u3; exact q_non
  | succ N ih =>
    intro u2 u3
    show Q m m' (f_X9_lastClauseOf_l4_b (f_X9_lastClauseOf_l4 fl g0 g1 N) fl g0 g1 u2 u3 m) (f_X9_lastClauseOf_l4_b (f_X9_lastClauseOf_l4 fl g0 g1 N) fl g0 g1 u2 u3 m')
    unfold f_X9_lastClauseOf_l4_b
    simp only [h19, h20, lt1_e]
    (repeat' first | exact q_ret | exact q_non | apply q_asr | apply q_ite | (refine q_bn2 ?_ (fun a => ?_)) | (refine q_drf (fun a => ?_)) | assumption)
    · exact ih _ _
    · exact ih _ _
theorem lastClauseOf_q {m m' : Mem} (h : ag m m') {fl g0 : Nat} {g1 : Int32} : Q m m' (f_X9_lastClauseOf fl g0 g1 m) (f_X9_lastClauseOf fl g0 g1 m') := by
  unfold f_X9_lastClauseOf
  exact q_bn2 (lastClauseOf_l4_q h _ _ _) (fun a => q_ret)
theorem textFor_l8_q {m m' : Mem} (h : ag m m') {fl : Nat} {g1 g2 : Int32} : ∀ (N : Nat) (u3 u4 u5 : Int32), Q m m' (f_X3_textFor_l8 fl g1 g2 N u3 u4 u5 m) (f_X3_textFor_l8 fl g1 g2 N u3 u4 u5 m') := by
  have h19 : ∀ x k, gI m' 19 x k = gI m 19 x k := fun x k => h.n 19 x k (by decide) (by decide) (by decide)
  have h6 : ∀ x k, gI m' 6 x k = gI m 6 x k := fun x k => h.n 6 x k (by decide) (by decide) (by decide)
  intro N
  induction N with
  | zero => intro u3 u4 u5; exact q_non
  | succ N ih =>
    intro u3 u4 u5
    show Q m m' (f_X3_textFor_l8_b (f_X3_textFor_l8 fl g1 g2 N) fl g1 g2 u3 u4 u5 m) (f_X3_textFor_l8_b (f_X3_textFor_l8 fl g1 g2 N) fl g1 g2 u3 u4 u5 m')
    unfold f_X3_textFor_l8_b
    simp only [h19, h6, lt1_e]
    (repeat' first | exact q_ret | exact lastClauseOf_q h | exact q_non | apply q_asr | apply q_ite | (refine q_bn2 ?_ (fun a => ?_)) | (refine q_drf (fun a => ?_)) | assumption)
    · exact ih _ _ _
    · exact ih _ _ _
    · exact ih _ _ _
    · rw [h19]; exact ih _ _ _
theorem textOf_q {m m' : Mem} (h : ag m m') {fl : Nat} {a1 : Int32} : Q m m' (f_X3_textOf fl a1 m) (f_X3_textOf fl a1 m') := by
  have h6 : ∀ x k, gI m' 6 x k = gI m 6 x k := fun x k => h.n 6 x k (by decide) (by decide) (by decide)
  unfold f_X3_textOf
  simp only [h6, lt1_e]
  (repeat' first | exact q_ret | exact q_non | apply q_asr | apply q_ite | (refine q_bn2 ?_ (fun a => ?_)) | (refine q_drf (fun a => ?_)) | assumption)
theorem valueOf_q {m m' : Mem} (h : ag m m') {fl o : Nat} {a1 : Int32} : Q m m' (f_X9_valueOf fl o a1 m) (f_X9_valueOf fl o a1 m') := by
  have h21 : ∀ x k, gI m' 21 x k = gI m 21 x k := fun x k => h.n 21 x k (by decide) (by decide) (by decide)
  unfold f_X9_valueOf
  simp only [h21]
  (repeat' first | exact q_ret | exact q_non | apply q_asr | apply q_ite | (refine q_bn2 ?_ (fun a => ?_)) | (refine q_drf (fun a => ?_)) | assumption)
theorem testHolds_q {m m' : Mem} (h : ag m m') {fl : Nat} {a1 : Int32} : Q m m' (f_X9_testHolds fl a1 m) (f_X9_testHolds fl a1 m') := by
  have x : ∀ x3 : Int32, Q m m' (asr (vq x3 6) <| some ((gI m 18 0 (Int32.toNatClampNeg x3)), m)) (asr (vq x3 6) <| some ((gI m' 18 0 (Int32.toNatClampNeg x3)), m')) := fun x3 => by
    by_cases c : vq x3 6
    · obtain ⟨j, j1, rfl⟩ := vp_in_of c (by decide)
      rw [asr_t c, asr_t c, nI_clamp (by omega), h 18 0 j (by decide) (by decide) (fun _ => ⟨rfl, j1⟩)]
      exact q_ret
    · intro a m1 q
      have : ∀ y : Option (Int32 × Mem), asr (vq x3 6) y = none := fun y => if_neg c
      rw [this] at q; cases q
  unfold f_X9_testHolds f_X9_testHolds_b43
  simp only [lt1_e]
  refine q_bn2 (q_ite q_ret (q_ite q_ret (x _))) (fun a => ?_)
  (repeat' first | exact q_ret | exact q_non | apply q_asr | apply q_ite | (refine q_bn2 ?_ (fun a => ?_)) | (refine q_drf (fun a => ?_)) | assumption)
theorem holds_l9_q {m m' : Mem} (h : ag m m') {fl g0 : Nat} : ∀ (N : Nat) (u3 u4 : Int32), Q m m' (f_X9_holds_l9 fl g0 N u3 u4 m) (f_X9_holds_l9 fl g0 N u3 u4 m') := by
  have h19 : ∀ x k, gI m' 19 x k = gI m 19 x k := fun x k => h.n 19 x k (by decide) (by decide) (by decide)
  have h22 : ∀ x k, gI m' 22 x k = gI m 22 x k := fun x k => h.n 22 x k (by decide) (by decide) (by decide)
  intro N
  induction N with
  | zero => intro u3 u4; exact q_non
  | succ N ih =>
    intro u3 u4
    show Q m m' (f_X9_holds_l9_b (f_X9_holds_l9 fl g0 N) fl g0 u3 u4 m) (f_X9_holds_l9_b (f_X9_holds_l9 fl g0 N) fl g0 u3 u4 m')
    unfold f_X9_holds_l9_b
    simp only [h19, h22, lt1_e]
    (repeat' first | exact q_ret | exact testHolds_q h | exact q_non | apply q_asr | apply q_ite | (refine q_bn2 ?_ (fun a => ?_)) | (refine q_drf (fun a => ?_)) | assumption)
    all_goals first | exact ih _ _ | exact testHolds_q h
theorem holds_q {m m' : Mem} (h : ag m m') {fl o : Nat} {a1 : Int32} : Q m m' (f_X9_holds fl o a1 m) (f_X9_holds fl o a1 m') := by
  unfold f_X9_holds f_X9_holds_b131
  simp only [lt1_e]
  refine q_bn2 (holds_l9_q h _ _ _) (fun a => ?_)
  (repeat' first | exact q_ret | exact q_non | apply q_asr | apply q_ite | (refine q_bn2 ?_ (fun a => ?_)) | (refine q_drf (fun a => ?_)) | assumption)
theorem holdsFor_q {m m' : Mem} (h : ag m m') {fl : Nat} {a1 a2 : Int32} : Q m m' (f_X3_holdsFor fl a1 a2 m) (f_X3_holdsFor fl a1 a2 m') := by
  unfold f_X3_holdsFor f_X3_textFor
  refine q_bn2 (q_bn2 (textFor_l8_q h _ _ _ _) (fun a => q_ret)) (fun a => q_bn2 (textOf_q h) (fun c => q_ite q_ret (q_drf (fun j => q_bn2 (lastClauseOf_q h) (fun v => q_bn2 (valueOf_q h) (fun w => q_bn2 (holds_q h) (fun t => ?_)))))))
  (repeat' first | exact q_ret | exact q_non | apply q_asr | apply q_ite | (refine q_bn2 ?_ (fun a => ?_)) | (refine q_drf (fun a => ?_)) | assumption)
