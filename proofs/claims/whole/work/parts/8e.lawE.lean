/-! the reference reads conditions -/
theorem pR_top {wa : Nat → Int32} {w : Nat} {op : Int32} {v : Bool} (h : w = 0 ∨ wa (w - 1) ≠ 33) : pR wa w op v = (w, op, v) := by
  cases w with
  | zero => rfl
  | succ w =>
    have : wa w ≠ 33 := by
      rcases h with q | q
      · omega
      · exact q
    show (if wa w = 33 then _ else _) = _
    rw [if_neg this]
section RM2
variable {fl n bs : Nat} {m : Mem} {cl : Int32} {pa na ha U : Nat → Int32}
theorem letter_M {α : Type} {c : Int32} {M : Mem} (h : -1 ≤ c.toInt ∧ c.toInt ≤ 255) (k : Int32 → Mem → Option α) : (bn2 (
    if ji2b c = 116 then
      some ((0 : Int32), M)
    else
      if ji2b c = 108 then
        some (1, M)
      else
        if ji2b c = 99 then
          some (2, M)
        else
          if ji2b c = 114 then
            some (3, M)
          else
            if ji2b c = 100 then
              some (4, M)
            else
              if ji2b c = 102 then
                some (5, M)
              else
                some ((-1), M)) k) = k (if ltr c.toInt = 6 then -1 else nI (ltr c.toInt)) M := by
  have hj := i2b_rg h
  have e : (if ji2b c = 116 then some ((0 : Int32), M) else if ji2b c = 108 then some (1, M) else if ji2b c = 99 then some (2, M) else if ji2b c = 114 then some (3, M) else if ji2b c = 100 then some (4, M) else if ji2b c = 102 then some (5, M) else some ((-1), M)) = some (if ltr c.toInt = 6 then -1 else nI (ltr c.toInt), M) := by
    simp only [i32_eq, t_116, t_108, t_99, t_114, t_100, t_102]
    rcases ltr_cases c.toInt with ⟨q, e⟩ | ⟨q, e⟩ | ⟨q, e⟩ | ⟨q, e⟩ | ⟨q, e⟩ | ⟨q, e⟩ | ⟨q, e⟩
    · rw [e, if_pos (by omega)]; rfl
    · rw [e, if_neg (by omega), if_pos (by omega)]; rfl
    · rw [e, if_neg (by omega), if_neg (by omega), if_pos (by omega)]; rfl
    · rw [e, if_neg (by omega), if_neg (by omega), if_neg (by omega), if_pos (by omega)]; rfl
    · rw [e, if_neg (by omega), if_neg (by omega), if_neg (by omega), if_neg (by omega), if_pos (by omega)]; rfl
    · rw [e, if_neg (by omega), if_neg (by omega), if_neg (by omega), if_neg (by omega), if_neg (by omega), if_pos (by omega)]; rfl
    · rw [e, if_neg (by omega), if_neg (by omega), if_neg (by omega), if_neg (by omega), if_neg (by omega), if_neg (by omega)]; rfl
  rw [e, bn2_e]
/-- a test, read -/
def resT (m : Mem) (cl : Int32) (pa na ha : Nat → Int32) (w q : Nat) (op : Int32) (wa pi : Nat → Int32) (S : Option (Int32 × Mem)) : PRS → Prop
  | .inl z => ∃ dg', S = some (0, GM m (nI z) cl dg' (nI w) (nI q) op wa pi pa na ha)
  | .inr r => ∃ v dg', says (gI m 22 0) 1 r.2 v ∧ S = some (1, GM m (nI r.1) cl dg' (nI (pR wa w op v).1) (nI (q + 1)) (pR wa w op v).2.1 wa (uw pi q (bI (pR wa w op v).2.2)) pa na ha)
theorem test_M (hfl : 1000 ≤ fl) (h : rdt m U n bs) {p w q : Nat} {dg op : Int32} {wa pi : Nat → Int32} (hp : p ≤ n) (hw : w ≤ 100) (hq : q ≤ 100) : resT m cl pa na ha w q op wa pi (f_X12_takesTest fl (GM m (nI p) cl dg (nI w) (nI q) op wa pi pa na ha)) (pTest U n p) := by
  have hn := h.1
  have hU := h.2.2.2.2.2
  have ltl := ltr_le (lk U n p)
  have rtl := rlt_le (lk U n (p + 1))
  have e0 := next_M (fl := fl) (cl := cl) (dg := dg) (wt := nI w) (pl := nI q) (op := op) (wa := wa) (pi := pi) (pa := pa) (na := na) (ha := ha) h (show p ≤ 1000 by omega)
  have e1 := next_M (fl := fl) (cl := cl) (dg := dg) (wt := nI w) (pl := nI q) (op := op) (wa := wa) (pi := pi) (pa := pa) (na := na) (ha := ha) h (show p + 1 ≤ 1000 by omega)
  have e2 := num_M (cl := cl) (dg := dg) (wt := nI w) (pl := nI q) (op := op) (wa := wa) (pi := pi) (pa := pa) (na := na) (ha := ha) hfl h (show p + 1 + 1 ≤ 200 by omega)
  have r1 := lk_rg hU p
  have r2 := lk_rg hU (p + 1)
  have j2 := i2b_rg (x := ck U n (p + 1)) r2
  have g2 : lk U n (p + 1) = (ck U n (p + 1)).toInt := rfl
  generalize hS : f_X12_takesTest fl (GM m (nI p) cl dg (nI w) (nI q) op wa pi pa na ha) = S
  have u0 : f_X12_takesTest fl (GM m (nI p) cl dg (nI w) (nI q) op wa pi pa na ha) = f_X12_takesTest_b66 fl (if ltr (lk U n p) = 6 then -1 else nI (ltr (lk U n p))) (GM m (nI p) cl dg (nI w) (nI q) op wa pi pa na ha) := by
    unfold f_X12_takesTest
    rw [e0, bn2_e, letter_M r1]
    rfl
  rw [u0] at hS
  unfold pTest
  unfold f_X12_takesTest_b66 at hS
  by_cases c1 : ltr (lk U n p) = 6
  · rw [if_pos c1]
    rw [if_pos c1, if_neg (by decide)] at hS
    exact ⟨dg, hS.symm⟩
  · rw [if_neg c1]
    have l1 := nI_toInt (n := ltr (lk U n p)) (by omega)
    have l1c := nI_clamp (n := ltr (lk U n p)) (by omega)
    have av : vq (nI (ltr (lk U n p))) 6 := by rw [vq_i, l1]; omega
    rw [if_neg c1, if_pos (by rw [Int32.le_iff_toInt_le, l1, t_0]; omega), lt1_e, gI_Gat, sI_Gat, nI_1, e1, bn2_e, in_12, bn2_e, t_60, t_62] at hS
    by_cases c2 : rlt (lk U n (p + 1)) = 3
    · rw [if_pos c2]
      rw [if_neg (show ¬ ((60 : Int) ≤ (ji2b (ck U n (p + 1))).toInt ∧ (ji2b (ck U n (p + 1))).toInt ≤ 62) by rcases rlt_cases (lk U n (p + 1)) with ⟨q, e⟩ | ⟨q, e⟩ | ⟨q, e⟩ | ⟨q, e⟩ <;> omega), if_pos rfl] at hS
      exact ⟨dg, hS.symm⟩
    · rw [if_neg c2]
      rw [if_pos (show (60 : Int) ≤ (ji2b (ck U n (p + 1))).toInt ∧ (ji2b (ck U n (p + 1))).toInt ≤ 62 by rcases rlt_cases (lk U n (p + 1)) with ⟨q, e⟩ | ⟨q, e⟩ | ⟨q, e⟩ | ⟨q, e⟩ <;> omega), if_neg (by decide), lt1_e, gI_Gat, sI_Gat, nI_1, e2] at hS
      have pl := (pnm_le (U := U) (n := n) (p := p + 1 + 1))
      show resT m cl pa na ha w q op wa pi S (if (pnm U n (p + 1 + 1)).1 = 0 then .inl (p + 1 + 1) else .inr (p + 1 + 1 + (pnm U n (p + 1 + 1)).1, [nI ((ltr (lk U n p) * 3 + rlt (lk U n (p + 1))) * 1000 + (pnm U n (p + 1 + 1)).2)]))
      by_cases c3 : (pnm U n (p + 1 + 1)).1 = 0
      · rw [if_pos c3]
        rw [if_pos c3, bn2_e, if_pos rfl] at hS
        exact ⟨dg, hS.symm⟩
      · rw [if_neg c3]
        rw [if_neg c3, bn2_e, if_neg (by decide)] at hS
        refine ⟨_, nI (pnm U n (p + 1 + 1)).2, says_tst (by omega) (by omega) pl.2.1, ?_⟩
        rw [tst_mk (by omega) (by omega) pl.2.1, ← hS]
        have i9 := nI_toInt (n := (pnm U n (p + 1 + 1)).2) (by omega)
        generalize (pnm U n (p + 1 + 1)).2 = pv at *
        generalize (pnm U n (p + 1 + 1)).1 = pk at *
        have pu := fun (v : Bool) => push_M (m := m) (cl := cl) (dg := nI pv) (op := op) (wa := wa) (pi := pi) (pa := pa) (na := na) (ha := ha) hfl (ap := nI (p + 1 + 1 + pk)) hw hq v
        have fin : ∀ (x : Option (Int32 × Mem)) (v : Bool), x = some (bI v, GM m (nI (p + 1 + 1 + pk)) cl (nI pv) (nI w) (nI q) op wa pi pa na ha) → (bn2 x fun (q16 : Int32) m17 => f_X12_takesTest_b194 fl q16 m17) = some (1, GM m (nI (p + 1 + 1 + pk)) cl (nI pv) (nI (pR wa w op v).1) (nI (q + 1)) (pR wa w op v).2.1 wa (uw pi q (bI (pR wa w op v).2.2)) pa na ha) := by
          intro x v hx
          rw [hx, bn2_e]
          unfold f_X12_takesTest_b194
          rw [pu v, bn1_e]
        apply fin
        simp only [asr_t av, l1c, gI_G22, gI_Gdg, i32_eq, Int32.le_iff_toInt_le, t_60, t_61]
        rcases rlt_cases (lk U n (p + 1)) with ⟨z, e⟩ | ⟨z, e⟩ | ⟨z, e⟩ | ⟨z, e⟩
        · rw [if_pos (by omega), e]
          show _ = some (bI (decide ((gI m 22 0 (ltr (lk U n p))).toInt < (pv : Int))), _)
          by_cases d : (gI m 22 0 (ltr (lk U n p))).toInt < (pv : Int)
          · rw [if_neg (by omega), decide_eq_true d]; rfl
          · rw [if_pos (by omega), decide_eq_false d]; rfl
        · rw [if_neg (by omega), if_pos (by omega), e]
          show _ = some (bI (decide ((gI m 22 0 (ltr (lk U n p))).toInt = (pv : Int))), _)
          by_cases d : (gI m 22 0 (ltr (lk U n p))).toInt = (pv : Int)
          · rw [if_pos (by omega), decide_eq_true d]; rfl
          · rw [if_neg (by omega), decide_eq_false d]; rfl
        · rw [if_neg (by omega), if_neg (by omega), e]
          show _ = some (bI (decide ((pv : Int) < (gI m 22 0 (ltr (lk U n p))).toInt)), _)
          by_cases d : (pv : Int) < (gI m 22 0 (ltr (lk U n p))).toInt
          · rw [if_neg (by omega), decide_eq_true d]; rfl
          · rw [if_pos (by omega), decide_eq_false d]; rfl
        · omega
/-- the loop's rest behind what ends a row of sides -/
def aft (fl N : Nat) (v5 : Int32) (m14 : Mem) : Option (Nat × Mem) :=
        if (gI m14 0 0 37) = 0 then
          some (2, m14)
        else
          if v5 = 41 then
            lt1 (sI m14 0 0 37 ((gI m14 0 0 37) - 1)) fun m17 =>
            lt1 (sI m17 0 0 39 ((gI m17 0 0 39) - 1)) fun m18 =>
            lt1 (sI m18 0 0 38 ((gI m18 0 0 38) - 1)) fun m19 =>
            lt1 (sI m19 0 0 32 ((gI m19 0 0 32) + 1)) fun m20 =>
            asr (vq (gI m20 0 0 38) 101) <|
            bn1 (f_X12_push fl (gI m20 27 0 (Int32.toNatClampNeg (gI m20 0 0 38))) m20) fun m22 =>
            f_X12_takesE_l17 fl N 0 m22
          else
            some (3, m14)
/-- what the reference does over one side -/
def resO (fl : Nat) (m : Mem) (n a K : Nat) (cl : Int32) (pa na ha : Nat → Int32) (w q : Nat) (wa pi : Nat → Int32) (S : Option (Nat × Mem)) : PRS → Prop
  | .inl z => ∃ t dg' w' q' op' wa' pi', (t = 0 ∨ t = 1 ∨ t = 3) ∧ S = some (t, GM m (nI z) cl dg' w' q' op' wa' pi' pa na ha)
  | .inr r => ∃ v dg' wa' pi' N', says (gI m 22 0) K r.2 v ∧ (∀ i, i < w → wa' i = wa i) ∧ (∀ i, i < q → pi' i = pi i) ∧ n + 2 ≤ N' + r.1 ∧ S = f_X12_takesE_l17 fl N' 0 (GM m (nI r.1) cl dg' (nI (pR wa' w (nI a) v).1) (nI (q + 1)) (pR wa' w (nI a) v).2.1 wa' (uw pi' q (bI (pR wa' w (nI a) v).2.2)) pa na ha)
def oneM (fl : Nat) (m : Mem) (n a K : Nat) (cl : Int32) (pa na ha : Nat → Int32) (one : Nat → PRS) : Prop := ∀ (p N w q : Nat) (dg : Int32) (wa pi : Nat → Int32), p ≤ n → n + 2 ≤ N + p → w ≤ p → q ≤ p → resO fl m n a K cl pa na ha w q wa pi (f_X12_takesE_l17 fl N 1 (GM m (nI p) cl dg (nI w) (nI q) (nI a) wa pi pa na ha)) (one p)
/-- what waits at this height: the sides, the latest first -/
def vsl (bo ei : Bool) (y x : Bool) : List Bool := (if bo then [y] else []) ++ (if ei then [x] else [])
theorem uw_s {f : Nat → Int32} {k : Nat} {x : Int32} : uw f k x k = x := if_pos rfl
theorem uw_n {f : Nat → Int32} {k i : Nat} {x : Int32} (h : i ≠ k) : uw f k x i = f i := if_neg h
def resE (fl : Nat) (m : Mem) (U : Nat → Int32) (n a K : Nat) (cl : Int32) (pa na ha : Nat → Int32) (w0 q0 : Nat) (wa pi : Nat → Int32) (S : Option (Nat × Mem)) : PRS → Prop
  | .inl z => ∃ t dg' w' q' op' wa' pi', (t = 0 ∨ t = 1 ∨ t = 3) ∧ S = some (t, GM m (nI z) cl dg' w' q' op' wa' pi' pa na ha)
  | .inr r => ∃ v dg' wa' pi' N', says (gI m 22 0) (K + 2) r.2 v ∧ (∀ i, i < w0 → wa' i = wa i) ∧ (∀ i, i < q0 → pi' i = pi i) ∧ pi' q0 = bI v ∧ n + 1 ≤ N' + r.1 ∧ S = aft fl N' (ji2b (ck U n r.1)) (GM m (nI r.1) cl dg' (nI w0) (nI (q0 + 1)) (nI a) wa' pi' pa na ha)
theorem resE.tr {a K w0 q0 : Nat} {wa pi wa2 pi2 : Nat → Int32} {S S2 : Option (Nat × Mem)} {x : PRS} (h : resE fl m U n a K cl pa na ha w0 q0 wa2 pi2 S2 x) (h1 : ∀ i, i < w0 → wa2 i = wa i) (h2 : ∀ i, i < q0 → pi2 i = pi i) (h3 : S = S2) : resE fl m U n a K cl pa na ha w0 q0 wa pi S x := by
  subst h3
  cases x with
  | inl z => exact h
  | inr r =>
    obtain ⟨v, dg', wa', pi', N', c1, c2, c3, c4, c5, c6⟩ := h
    exact ⟨v, dg', wa', pi', N', c1, fun i hi => (c2 i hi).trans (h1 i hi), fun i hi => (c3 i hi).trans (h2 i hi), c4, c5, c6⟩
theorem stage_A {w1 q1 : Nat} {ap dg op : Int32} {wa P : Nat → Int32} {bo y v : Bool} (hw : w1 < 100) (hq : q1 < 99) (hbo : bo = true → wa w1 = 38 ∧ P q1 = bI y) (hv : P (q1 + bN bo) = bI v) : ∃ P1, (∀ i, i < q1 → P1 i = P i) ∧ P1 q1 = bI (if bo then y && v else v) ∧ ∀ (c : Int32) (N : Nat), f_X12_settle_l0 fl c (N + bN bo) (GM m ap cl dg (nI (w1 + bN bo)) (nI (q1 + bN bo + 1)) op wa P pa na ha) = f_X12_settle_l0 fl c N (GM m ap cl dg (nI w1) (nI (q1 + 1)) op wa P1 pa na ha) := by
  cases bo with
  | false => exact ⟨P, fun _ _ => rfl, hv, fun _ _ => rfl⟩
  | true =>
    obtain ⟨h1, h2⟩ := hbo rfl
    exact ⟨uw P q1 (bI (y && v)), fun i hi => uw_n (by omega), uw_s, fun c N => settle_1 hw (by omega) h1 h2 hv⟩
theorem stage_B {w1 q1 : Nat} {ap dg op : Int32} {wa P : Nat → Int32} {ei x v : Bool} (hw : w1 < 100) (hq : q1 < 99) (hbo : ei = true → wa w1 = 124 ∧ P q1 = bI x) (hv : P (q1 + bN ei) = bI v) : ∃ P1, (∀ i, i < q1 → P1 i = P i) ∧ P1 q1 = bI (if ei then x || v else v) ∧ ∀ (c : Int32) (N : Nat), ¬ c = 38 → f_X12_settle_l0 fl c (N + bN ei) (GM m ap cl dg (nI (w1 + bN ei)) (nI (q1 + bN ei + 1)) op wa P pa na ha) = f_X12_settle_l0 fl c N (GM m ap cl dg (nI w1) (nI (q1 + 1)) op wa P1 pa na ha) := by
  cases ei with
  | false => exact ⟨P, fun _ _ => rfl, hv, fun _ _ _ => rfl⟩
  | true =>
    obtain ⟨h1, h2⟩ := hbo rfl
    exact ⟨uw P q1 (bI (x || v)), fun i hi => uw_n (by omega), uw_s, fun c N hc => settle_2 hw (by omega) h1 hc h2 hv⟩
theorem sayA {lt : Nat → Int32} {k : Nat} {A : List Int32} {bo ei y x v : Bool} (h : sayw lt k A (v :: vsl bo ei y x)) (hk : 3 ≤ k) : sayw lt k (A ++ cif bo (-1)) ((if bo then y && v else v) :: vsl false ei y x) := by
  cases bo with
  | false =>
    show sayw lt k (A ++ []) _
    rw [List.append_nil]; exact h
  | true => exact sayw_and (vs := vsl false ei y x) h (by cases ei <;> show 2 + _ ≤ k <;> simp [vsl] <;> omega)
theorem sayB {lt : Nat → Int32} {k : Nat} {A : List Int32} {ei y x v : Bool} (h : sayw lt k A (v :: vsl false ei y x)) (hk : 3 ≤ k) : sayw lt k (A ++ cif ei (-2)) [if ei then x || v else v] := by
  cases ei with
  | false =>
    show sayw lt k (A ++ []) _
    rw [List.append_nil]; exact h
  | true => exact sayw_or (vs := []) h (by show 2 + 0 ≤ k; omega)
theorem E_M (hfl : 1000 ≤ fl) (h : rdt m U n bs) {a K w0 q0 : Nat} {one : Nat → PRS} (hK : 1 ≤ K) (hone : oneM fl m n a K cl pa na ha one) (hadv : ∀ p, p ≤ n → adv n p (one p)) : ∀ (F N p : Nat) (bo ei y x : Bool) (acc : List Int32) (dg : Int32) (wa pi : Nat → Int32), n + 2 ≤ F + p → n + 2 ≤ N + p → p ≤ n → w0 + bN ei + bN bo ≤ p → q0 + bN ei + bN bo ≤ p →
    (w0 = 0 ∨ wa (w0 - 1) = 40) → (ei = true → wa w0 = 124 ∧ pi q0 = bI x) → (bo = true → wa (w0 + bN ei) = 38 ∧ pi (q0 + bN ei) = bI y) → sayw (gI m 22 0) (K + 2) acc (vsl bo ei y x) →
    resE fl m U n a K cl pa na ha w0 q0 wa pi (f_X12_takesE_l17 fl N 1 (GM m (nI p) cl dg (nI (w0 + bN ei + bN bo)) (nI (q0 + bN ei + bN bo)) (nI a) wa pi pa na ha)) (pE U n one F bo ei p acc) := by
  have hn := h.1
  have hU := h.2.2.2.2.2
  intro F
  induction F with
  | zero => intro N p bo ei y x acc dg wa pi h1 h2 h3; omega
  | succ F ih =>
    intro N p bo ei y x acc dg wa pi h1 h2 h3 h4 h5 h6 h7 h8 h9
    have y0 := hone p N (w0 + bN ei + bN bo) (q0 + bN ei + bN bo) dg wa pi h3 h2 h4 h5
    have ya := hadv p h3
    show resE fl m U n a K cl pa na ha w0 q0 wa pi _ (match one p with
      | .inl q => .inl q
      | .inr r => _)
    cases hx : one p with
    | inl z => rw [hx] at y0; exact y0
    | inr r =>
      rw [hx] at y0 ya
      obtain ⟨r1, L⟩ := r
      obtain ⟨v, dg', wa', pi', N', c1, c2, c3, c4, c5⟩ := y0
      obtain ⟨a1, a2, -⟩ := ya
      replace a1 : p + 3 ≤ r1 := a1
      replace a2 : r1 ≤ n := a2
      replace c4 : n + 2 ≤ N' + r1 := c4
      replace c1 : says (gI m 22 0) K L v := c1
      have hb1 := bN_le bo
      have he1 := bN_le ei
      have htop : w0 + bN ei + bN bo = 0 ∨ wa' (w0 + bN ei + bN bo - 1) ≠ 33 := by
        by_cases z : w0 + bN ei + bN bo = 0
        · exact Or.inl z
        · refine Or.inr ?_
          rw [c2 _ (by omega)]
          cases bo with
          | true =>
            rw [show w0 + bN ei + bN true - 1 = w0 + bN ei by show w0 + bN ei + 1 - 1 = _; omega, (h8 rfl).1]; decide
          | false =>
            cases ei with
            | true => rw [show w0 + bN true + bN false - 1 = w0 by show w0 + 1 + 0 - 1 = w0; omega, (h7 rfl).1]; decide
            | false =>
              rw [show w0 + bN false + bN false - 1 = w0 - 1 from rfl]
              rcases h6 with q | q
              · exact absurd (show w0 + 0 + 0 = 0 by omega) z
              · rw [q]; decide
      rw [pR_top htop] at c5
      have hv := sayw_one h9 (by cases bo <;> cases ei <;> simp [vsl]) c1
      have hP : ∀ i, i < q0 + bN ei + bN bo → uw pi' (q0 + bN ei + bN bo) (bI v) i = pi i := fun i hi => (uw_n (by omega)).trans (c3 i hi)
      have hPq : uw pi' (q0 + bN ei + bN bo) (bI v) (q0 + bN ei + bN bo) = bI v := uw_s
      replace c5 : f_X12_takesE_l17 fl N 1 (GM m (nI p) cl dg (nI (w0 + bN ei + bN bo)) (nI (q0 + bN ei + bN bo)) (nI a) wa pi pa na ha) = f_X12_takesE_l17 fl N' 0 (GM m (nI r1) cl dg' (nI (w0 + bN ei + bN bo)) (nI (q0 + bN ei + bN bo + 1)) (nI a) wa' (uw pi' (q0 + bN ei + bN bo) (bI v)) pa na ha) := c5
      generalize uw pi' (q0 + bN ei + bN bo) (bI v) = P at hP hPq c5
      obtain ⟨P1, d1, d2, d3⟩ := stage_A (fl := fl) (m := m) (cl := cl) (pa := pa) (na := na) (ha := ha) (w1 := w0 + bN ei) (q1 := q0 + bN ei) (ap := nI r1) (dg := dg') (op := nI a) (wa := wa') (P := P) (bo := bo) (y := y) (v := v) (by omega) (by omega) (by
        intro hb
        have hb2 : bN bo = 1 := by rw [hb]; rfl
        obtain ⟨g1, g2⟩ := h8 hb
        exact ⟨by rw [c2 _ (by omega)]; exact g1, by rw [hP _ (by omega)]; exact g2⟩) hPq
      have hv1 := sayA hv (by omega)
      generalize (if bo then y && v else v) = v1 at d2 hv1
      obtain ⟨N2, rfl⟩ : ∃ N2, N' = N2 + 1 := ⟨N' - 1, by omega⟩
      have e1 := next_M (fl := fl) (cl := cl) (dg := dg') (wt := nI (w0 + bN ei + bN bo)) (pl := nI (q0 + bN ei + bN bo + 1)) (op := nI a) (wa := wa') (pi := P) (pa := pa) (na := na) (ha := ha) h (show r1 ≤ 1000 by omega)
      have e2 : (38 : Int32).toInt = 38 := rfl
      have e3 : (124 : Int32).toInt = 124 := rfl
      have g38 := ji_eq (n := n) (p := r1) hU (c := 38) (by decide)
      have g124 := ji_eq (n := n) (p := r1) hU (c := 124) (by decide)
      rw [e2] at g38
      rw [e3] at g124
      have iw := nI_toInt (n := w0 + bN ei) (by omega)
      have cw := nI_clamp (n := w0 + bN ei) (by omega)
      have iw0 := nI_toInt (n := w0) (by omega)
      have cw0 := nI_clamp (n := w0) (by omega)
      have step : f_X12_takesE_l17 fl (N2 + 1) 0 (GM m (nI r1) cl dg' (nI (w0 + bN ei + bN bo)) (nI (q0 + bN ei + bN bo + 1)) (nI a) wa' P pa na ha) = f_X12_takesE_l17_b (f_X12_takesE_l17 fl N2) fl 0 (GM m (nI r1) cl dg' (nI (w0 + bN ei + bN bo)) (nI (q0 + bN ei + bN bo + 1)) (nI a) wa' P pa na ha) := rfl
      rw [step] at c5
      unfold f_X12_takesE_l17_b at c5
      rw [e1, bn2_e, if_pos rfl] at c5
      obtain ⟨Nf, hNf⟩ : ∃ Nf, fl = Nf + 1 + bN ei + bN bo := ⟨fl - 1 - bN ei - bN bo, by omega⟩
      show resE fl m U n a K cl pa na ha w0 q0 wa pi _ (if lk U n r1 = 38 then pE U n one F true ei (r1 + 1) (acc ++ L ++ cif bo (-1)) else if lk U n r1 = 124 then pE U n one F false true (r1 + 1) (acc ++ L ++ cif bo (-1) ++ cif ei (-2)) else .inr (r1, acc ++ L ++ cif bo (-1) ++ cif ei (-2)))
      by_cases k1 : lk U n r1 = 38
      · have hlt := lk_lt (U := U) (n := n) (p := r1) (by omega)
        have k1' := g38.mpr k1
        have st : f_X12_settle fl 38 (GM m (nI r1) cl dg' (nI (w0 + bN ei + bN bo)) (nI (q0 + bN ei + bN bo + 1)) (nI a) wa' P pa na ha) = some (GM m (nI r1) cl dg' (nI (w0 + bN ei)) (nI (q0 + bN ei + 1)) (nI a) wa' P1 pa na ha) := by
          have hh := d3 38 (Nf + 1 + bN ei)
          rw [← hNf] at hh
          unfold f_X12_settle
          rw [hh, show Nf + 1 + bN ei = Nf + bN ei + 1 by omega, settle_0 (by omega) ?_, bn1_e]
          cases ei with
          | true => exact Or.inr ⟨by rw [show w0 + bN true - 1 = w0 by show w0 + 1 - 1 = w0; omega, c2 _ (by show w0 < w0 + 1 + bN bo; omega), (h7 rfl).1]; decide, fun _ => rfl⟩
          | false =>
            rcases h6 with q | q
            · exact Or.inl (by show w0 + 0 = 0; omega)
            · by_cases z : w0 = 0
              · exact Or.inl z
              · exact Or.inr ⟨by rw [show w0 + bN false - 1 = w0 - 1 from rfl, c2 _ (by show w0 - 1 < w0 + 0 + bN bo; omega), q]; decide, fun _ => rfl⟩
        rw [if_pos k1]
        rw [if_pos k1', k1', st, bn1_e, gI_Gwt, asr_t (by rw [vq_i, iw]; omega), cw, lt1_e, sI_Gwa, lt1_e, gI_Gwt, sI_Gwt, lt1_e, gI_Gat, sI_Gat, nI_1, nI_1] at c5
        have z := ih N2 (r1 + 1) true ei v1 x (acc ++ L ++ cif bo (-1)) dg' (uw wa' (w0 + bN ei) 38) P1 (by omega) (by omega) (by omega) (by show w0 + bN ei + 1 ≤ r1 + 1; omega) (by show q0 + bN ei + 1 ≤ r1 + 1; omega) (by
          rcases h6 with q | q
          · exact Or.inl q
          · by_cases z : w0 = 0
            · exact Or.inl z
            · exact Or.inr (by rw [uw_n (by omega), c2 _ (by omega)]; exact q)) (by
          intro he
          have he2 : bN ei = 1 := by rw [he]; rfl
          obtain ⟨g1, g2⟩ := h7 he
          exact ⟨by rw [uw_n (by omega), c2 _ (by omega)]; exact g1, by rw [d1 _ (by omega), hP _ (by omega)]; exact g2⟩) (fun _ => ⟨uw_s, d2⟩) hv1
        exact z.tr (fun i hi => (uw_n (by omega)).trans (c2 i (by omega))) (fun i hi => (d1 i (by omega)).trans (hP i (by omega))) c5
      · have k1' : ¬ ji2b (ck U n r1) = 38 := fun q => k1 (g38.mp q)
        obtain ⟨P2, f1, f2, f3⟩ := stage_B (fl := fl) (m := m) (cl := cl) (pa := pa) (na := na) (ha := ha) (w1 := w0) (q1 := q0) (ap := nI r1) (dg := dg') (op := nI a) (wa := wa') (P := P1) (ei := ei) (x := x) (v := v1) (by omega) (by omega) (by
          intro he
          have he2 : bN ei = 1 := by rw [he]; rfl
          obtain ⟨g1, g2⟩ := h7 he
          exact ⟨by rw [c2 _ (by omega)]; exact g1, by rw [d1 _ (by omega), hP _ (by omega)]; exact g2⟩) d2
        have hv2 := sayB hv1 (by omega)
        generalize (if ei then x || v1 else v1) = v2 at f2 hv2
        have st : f_X12_settle fl 124 (GM m (nI r1) cl dg' (nI (w0 + bN ei + bN bo)) (nI (q0 + bN ei + bN bo + 1)) (nI a) wa' P pa na ha) = some (GM m (nI r1) cl dg' (nI w0) (nI (q0 + 1)) (nI a) wa' P2 pa na ha) := by
          have hh := d3 124 (Nf + 1 + bN ei)
          rw [← hNf] at hh
          unfold f_X12_settle
          rw [hh, f3 124 (Nf + 1) (by decide), settle_0 (by omega) ?_, bn1_e]
          rcases h6 with q | q
          · exact Or.inl q
          · by_cases z : w0 = 0
            · exact Or.inl z
            · have : wa' (w0 - 1) = 40 := by rw [c2 _ (by omega)]; exact q
              exact Or.inr ⟨by rw [this]; decide, fun w => by rw [this] at w; exact absurd w (by decide)⟩
        rw [if_neg k1]
        rw [if_neg k1'] at c5
        by_cases k2 : lk U n r1 = 124
        · have hlt := lk_lt (U := U) (n := n) (p := r1) (by omega)
          have k2' := g124.mpr k2
          rw [if_pos k2]
          rw [if_pos k2', k2', st, bn1_e, gI_Gwt, asr_t (by rw [vq_i, iw0]; omega), cw0, lt1_e, sI_Gwa, lt1_e, gI_Gwt, sI_Gwt, lt1_e, gI_Gat, sI_Gat, nI_1, nI_1] at c5
          have z := ih N2 (r1 + 1) false true v1 v2 (acc ++ L ++ cif bo (-1) ++ cif ei (-2)) dg' (uw wa' w0 124) P2 (by omega) (by omega) (by omega) (by show w0 + 1 + 0 ≤ r1 + 1; omega) (by show q0 + 1 + 0 ≤ r1 + 1; omega) (by
            rcases h6 with q | q
            · exact Or.inl q
            · by_cases z : w0 = 0
              · exact Or.inl z
              · exact Or.inr (by rw [uw_n (by omega), c2 _ (by omega)]; exact q)) (fun _ => ⟨uw_s, f2⟩) (fun q => by cases q) hv2
          exact z.tr (fun i hi => (uw_n (by omega)).trans (c2 i (by omega))) (fun i hi => (f1 i hi).trans ((d1 i (by omega)).trans (hP i (by omega)))) c5
        · have k2' : ¬ ji2b (ck U n r1) = 124 := fun q => k2 (g124.mp q)
          rw [if_neg k2]
          rw [if_neg k2', st, bn1_e] at c5
          exact ⟨v2, dg', wa', P2, N2, hv2, fun i hi => c2 i (by omega), fun i hi => (f1 i hi).trans ((d1 i (by omega)).trans (hP i (by omega))), f2, by show n + 1 ≤ N2 + r1; omega, c5⟩
theorem one_M (hfl : 1000 ≤ fl) (h : rdt m U n bs) : ∀ (d a : Nat), 5 ≤ d + a → a ≤ 4 → oneM fl m n a (9 - 2 * a) cl pa na ha (pOne U n fl d a) := by
  have hn := h.1
  have hU := h.2.2.2.2.2
  intro d
  induction d with
  | zero => intro a h1 h2; omega
  | succ d ih =>
    intro a h1 h2 p N w q dg wa pi h3 h4 h5 h6
    obtain ⟨N2, rfl⟩ : ∃ N2, N = N2 + 1 := ⟨N - 1, by omega⟩
    have ia := nI_toInt (n := a) (by omega)
    have iw := nI_toInt (n := w) (by omega)
    have cw := nI_clamp (n := w) (by omega)
    have iq := nI_toInt (n := q) (by omega)
    have cq := nI_clamp (n := q) (by omega)
    have e1 := next_M (fl := fl) (cl := cl) (dg := dg) (wt := nI w) (pl := nI q) (op := nI a) (wa := wa) (pi := pi) (pa := pa) (na := na) (ha := ha) h (show p ≤ 1000 by omega)
    have g33 := ji_eq (n := n) (p := p) hU (c := 33) (by decide)
    have g40 := ji_eq (n := n) (p := p) hU (c := 40) (by decide)
    rw [show (33 : Int32).toInt = 33 from rfl] at g33
    rw [show (40 : Int32).toInt = 40 from rfl] at g40
    have op4 : nI a = 4 ↔ a = 4 := by
      rw [i32_eq, ia, t_4]; omega
    generalize hS : f_X12_takesE_l17 fl (N2 + 1) 1 (GM m (nI p) cl dg (nI w) (nI q) (nI a) wa pi pa na ha) = S
    have step : f_X12_takesE_l17 fl (N2 + 1) 1 (GM m (nI p) cl dg (nI w) (nI q) (nI a) wa pi pa na ha) = f_X12_takesE_l17_b (f_X12_takesE_l17 fl N2) fl 1 (GM m (nI p) cl dg (nI w) (nI q) (nI a) wa pi pa na ha) := rfl
    rw [step] at hS
    unfold f_X12_takesE_l17_b at hS
    rw [e1, bn2_e, if_neg (by decide)] at hS
    show resO fl m n a (9 - 2 * a) cl pa na ha w q wa pi S (if a < 4 ∧ lk U n p = 33 then (match pOne U n fl d (a + 1) (p + 1) with
      | .inl q => .inl q
      | .inr r => .inr (r.1, r.2 ++ [-3]))
    else if a < 4 ∧ lk U n p = 40 then (match pE U n (pOne U n fl d (a + 1)) fl false false (p + 1) [] with
      | .inl q => .inl q
      | .inr r => if lk U n r.1 = 41 then .inr (r.1 + 1, r.2) else .inl r.1)
    else pTest U n p)
    have tsts : lk U n p ≠ 33 → lk U n p ≠ 40 → resO fl m n a (9 - 2 * a) cl pa na ha w q wa pi S (pTest U n p) := by
      intro u1 u2
      rw [if_neg (fun z => u1 (g33.mp z)), if_neg (fun z => u2 (g40.mp z))] at hS
      have y := test_M (fl := fl) (cl := cl) (pa := pa) (na := na) (ha := ha) hfl h (dg := dg) (op := nI a) (wa := wa) (pi := pi) h3 (show w ≤ 100 by omega) (show q ≤ 100 by omega)
      have ya := adv_test (U := U) h3
      cases hx : pTest U n p with
      | inl z =>
        rw [hx] at y
        obtain ⟨dg', y⟩ := y
        rw [y, bn2_e, if_pos rfl] at hS
        exact ⟨1, dg', _, _, _, _, _, Or.inr (Or.inl rfl), hS.symm⟩
      | inr r =>
        rw [hx] at y ya
        obtain ⟨v, dg', y1, y2⟩ := y
        obtain ⟨a1, a2, -⟩ := ya
        rw [y2, bn2_e, if_neg (by decide)] at hS
        exact ⟨v, dg', wa, pi, N2, y1.up (by omega), fun _ _ => rfl, fun _ _ => rfl, by omega, hS.symm⟩
    by_cases c1 : a < 4 ∧ lk U n p = 33
    · have hlt := lk_lt (U := U) (n := n) (p := p) (by omega)
      rw [if_pos c1]
      rw [if_pos (g33.mpr c1.2), gI_Gop, if_neg (fun z => by have := op4.mp z; omega), lt1_e, sI_Gop, gI_Gwt, asr_t (by rw [vq_i, iw]; omega), cw, lt1_e, sI_Gwa, lt1_e, gI_Gwt, sI_Gwt, lt1_e, gI_Gat, sI_Gat, nI_1, nI_1, nI_1, g33.mpr c1.2] at hS
      have y := ih (a + 1) (by omega) (by omega) (p + 1) N2 (w + 1) q dg (uw wa w 33) pi (by omega) (by omega) (by omega) (by omega)
      cases hx : pOne U n fl d (a + 1) (p + 1) with
      | inl z =>
        rw [hx] at y
        obtain ⟨t, dg', w', q', op', wa', pi', y1, y2⟩ := y
        exact ⟨t, dg', w', q', op', wa', pi', y1, hS.symm.trans y2⟩
      | inr r =>
        rw [hx] at y
        obtain ⟨v, dg', wa', pi', N', y1, y2, y3, y4, y5⟩ := y
        have hw : wa' w = 33 := by rw [y2 w (by omega)]; exact uw_s
        have hop : nI (a + 1) - 1 = nI a := pk_sub (b := 1) (by omega)
        have hp : pR wa' (w + 1) (nI (a + 1)) v = pR wa' w (nI a) (!v) := by
          show (if wa' w = 33 then pR wa' w (nI (a + 1) - 1) (!v) else _) = _
          rw [if_pos hw, hop]
        rw [hp] at y5
        exact ⟨!v, dg', wa', pi', N', (says_not y1 (by omega)).up (by omega), fun i hi => (y2 i (by omega)).trans (uw_n (by omega)), y3, y4, hS.symm.trans y5⟩
    · rw [if_neg c1]
      by_cases c2 : a < 4 ∧ lk U n p = 40
      · have hlt := lk_lt (U := U) (n := n) (p := p) (by omega)
        rw [if_pos c2]
        have n33 : ¬ ji2b (ck U n p) = 33 := fun z => by have := g33.mp z; omega
        rw [if_neg n33, if_pos (g40.mpr c2.2), gI_Gop, if_neg (fun z => by have := op4.mp z; omega), lt1_e, sI_Gop, gI_Gwt, asr_t (by rw [vq_i, iw]; omega), cw, lt1_e, sI_Gwa, lt1_e, gI_Gwt, sI_Gwt, lt1_e, gI_Gat, sI_Gat, nI_1, nI_1, nI_1, g40.mpr c2.2] at hS
        have y := E_M (fl := fl) (bs := bs) (w0 := w + 1) (q0 := q) (a := a + 1) hfl h (by omega) (ih (a + 1) (by omega) (by omega)) (fun p hp => adv_one d (a + 1) p hp) fl N2 (p + 1) false false false false [] dg (uw wa w 40) pi (by omega) (by omega) (by omega) (by show w + 1 + 0 + 0 ≤ p + 1; omega) (by show q + 0 + 0 ≤ p + 1; omega) (Or.inr (by rw [show w + 1 - 1 = w by omega]; exact uw_s)) (fun z => by cases z) (fun z => by cases z) (fun S hS => rfl)
        cases hx : pE U n (pOne U n fl d (a + 1)) fl false false (p + 1) [] with
        | inl z =>
          rw [hx] at y
          obtain ⟨t, dg', w', q', op', wa', pi', y1, y2⟩ := y
          exact ⟨t, dg', w', q', op', wa', pi', y1, hS.symm.trans y2⟩
        | inr r =>
          have ya := adv_E (U := U) (fun p hp => adv_one (U := U) (n := n) (fl := fl) d (a + 1) p hp) fl false false (p + 1) (p + 1) [] hlt (Nat.le_refl _) (by show 0 + 0 + 0 + (p + 1) ≤ p + 1; omega)
          rw [hx] at y ya
          obtain ⟨r1, L⟩ := r
          obtain ⟨a1, a2, -⟩ := ya
          replace a1 : p + 1 + 3 ≤ r1 := a1
          replace a2 : r1 ≤ n := a2
          obtain ⟨v, dg', wa', pi', N', y1, y2, y3, y4, y5, y6⟩ := y
          replace y5 : n + 1 ≤ N' + r1 := y5
          replace y6 := hS.symm.trans y6
          replace y6 : S = aft fl N' (ji2b (ck U n r1)) (GM m (nI r1) cl dg' (nI (w + 1)) (nI (q + 1)) (nI (a + 1)) wa' pi' pa na ha) := y6
          have iw1 := nI_toInt (n := w + 1) (by omega)
          have g41 := ji_eq (n := n) (p := r1) hU (c := 41) (by decide)
          rw [show (41 : Int32).toInt = 41 from rfl] at g41
          unfold aft at y6
          rw [gI_Gwt, if_neg (fun z => by rw [i32_eq, iw1, t_0] at z; omega)] at y6
          show resO fl m n a (9 - 2 * a) cl pa na ha w q wa pi S (if lk U n r1 = 41 then .inr (r1 + 1, L) else .inl r1)
          by_cases c3 : lk U n r1 = 41
          · have hlt1 := lk_lt (U := U) (n := n) (p := r1) (by omega)
            have m1 : nI (w + 1) - 1 = nI w := pk_sub (b := 1) (by omega)
            have m2 : nI (a + 1) - 1 = nI a := pk_sub (b := 1) (by omega)
            have m3 : nI (q + 1) - 1 = nI q := pk_sub (b := 1) (by omega)
            rw [if_pos (g41.mpr c3), lt1_e, sI_Gwt, lt1_e, gI_Gop, sI_Gop, lt1_e, gI_Gpl, sI_Gpl, lt1_e, gI_Gat, sI_Gat, gI_Gpl, m1, m2, m3, nI_1, asr_t (by rw [vq_i, iq]; omega), cq, gI_Gpi, y4, push_M hfl (by omega) (by omega), bn1_e] at y6
            rw [if_pos c3]
            exact ⟨v, dg', wa', pi', N', y1.up (by omega), fun i hi => (y2 i (by omega)).trans (uw_n (by omega)), y3, by show n + 2 ≤ N' + (r1 + 1); omega, y6⟩
          · rw [if_neg (fun z => c3 (g41.mp z))] at y6
            rw [if_neg c3]
            exact ⟨3, _, _, _, _, _, _, Or.inr (Or.inr rfl), y6⟩
      · rw [if_neg c2]
        by_cases u1 : lk U n p = 33
        · have ha4 : a = 4 := by omega
          rw [if_pos (g33.mpr u1), gI_Gop, if_pos (op4.mpr ha4)] at hS
          have : pTest U n p = .inl p := by
            unfold pTest
            rw [if_pos (by rw [u1]; decide)]
          rw [this]
          exact ⟨0, _, _, _, _, _, _, Or.inl rfl, hS.symm⟩
        · by_cases u2 : lk U n p = 40
          · have ha4 : a = 4 := by omega
            rw [if_neg (fun z => u1 (g33.mp z)), if_pos (g40.mpr u2), gI_Gop, if_pos (op4.mpr ha4)] at hS
            have : pTest U n p = .inl p := by
              unfold pTest
              rw [if_pos (by rw [u2]; decide)]
            rw [this]
            exact ⟨0, _, _, _, _, _, _, Or.inl rfl, hS.symm⟩
          · exact tsts u1 u2
end RM2
