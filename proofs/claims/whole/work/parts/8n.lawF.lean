/-! codes that are well made -/
def okc (c : Int32) : Prop := c = -1 ∨ c = -2 ∨ c = -3 ∨ ∃ l r v, l < 6 ∧ r < 3 ∧ v ≤ 999 ∧ c = nI ((l * 3 + r) * 1000 + v)
def okl (L : List Int32) : Prop := ∀ x, x ∈ L → okc x
theorem okl_app {A B : List Int32} (h1 : okl A) (h2 : okl B) : okl (A ++ B) := fun x hx => by
  rcases List.mem_append.mp hx with q | q
  · exact h1 x q
  · exact h2 x q
theorem okl_nil : okl [] := fun x hx => by cases hx
theorem okl_one {c : Int32} (h : okc c) : okl [c] := fun x hx => by
  rw [List.mem_singleton] at hx
  rw [hx]; exact h
theorem okl_cif {b : Bool} {c : Int32} (h : okc c) : okl (cif b c) := by
  cases b with
  | false => exact okl_nil
  | true => exact okl_one h
def okR : PRS → Prop
  | .inl _ => True
  | .inr r => okl r.2
theorem ok_test {U : Nat → Int32} {n p : Nat} : okR (pTest U n p) := by
  have ltl := ltr_le (lk U n p)
  have rtl := rlt_le (lk U n (p + 1))
  unfold pTest
  split
  · trivial
  · split
    · trivial
    · split
      · trivial
      · exact okl_one (Or.inr (Or.inr (Or.inr ⟨_, _, _, by omega, by omega, pnm_le.2.1, rfl⟩)))
theorem ok_E {U : Nat → Int32} {n : Nat} {one : Nat → PRS} (hone : ∀ p, okR (one p)) : ∀ (N : Nat) (bo ei : Bool) (p : Nat) (acc : List Int32), okl acc → okR (pE U n one N bo ei p acc) := by
  intro N
  induction N with
  | zero => intro bo ei p acc h; trivial
  | succ N ih =>
    intro bo ei p acc h
    have h1 := hone p
    show okR (match one p with
      | .inl q => .inl q
      | .inr r => _)
    cases hx : one p with
    | inl q => trivial
    | inr r =>
      rw [hx] at h1
      have hA : okl (acc ++ r.2 ++ cif bo (-1)) := okl_app (okl_app h h1) (okl_cif (Or.inl rfl))
      have hB : okl (acc ++ r.2 ++ cif bo (-1) ++ cif ei (-2)) := okl_app hA (okl_cif (Or.inr (Or.inl rfl)))
      show okR (if lk U n r.1 = 38 then _ else _)
      split
      · exact ih _ _ _ _ hA
      · split
        · exact ih _ _ _ _ hB
        · exact hB
theorem ok_one {U : Nat → Int32} {n fl : Nat} : ∀ (d a p : Nat), okR (pOne U n fl d a p) := by
  intro d
  induction d with
  | zero => intro a p; trivial
  | succ d ih =>
    intro a p
    show okR (if a < 4 ∧ lk U n p = 33 then _ else _)
    split
    · have h1 := ih (a + 1) (p + 1)
      cases hx : pOne U n fl d (a + 1) (p + 1) with
      | inl q => trivial
      | inr r =>
        rw [hx] at h1
        exact okl_app h1 (okl_one (Or.inr (Or.inr (Or.inl rfl))))
    · split
      · have h1 := ok_E (U := U) (n := n) (fun p => ih (a + 1) p) fl false false (p + 1) [] okl_nil
        cases hx : pE U n (pOne U n fl d (a + 1)) fl false false (p + 1) [] with
        | inl q => trivial
        | inr r =>
          rw [hx] at h1
          show okR (if lk U n r.1 = 41 then _ else _)
          split
          · exact h1
          · trivial
      · exact ok_test
def okC : Cl → Prop := fun c => okl c.2.2
theorem ok_clause {U : Nat → Int32} {n fl p : Nat} : match pClause U n fl p with
    | .inl _ => True
    | .inr r => okC r.2 := by
  unfold pClause
  cases pWord U n p with
  | inl q => trivial
  | inr w =>
    show (match (if w < 4 then _ else _ : Nat ⊕ (Nat × Cl)) with
      | .inl _ => True
      | .inr r => okC r.2)
    by_cases c : w < 4
    · rw [if_pos c]
      by_cases d : (pnm U n (p + (wdl w).length)).1 = 0
      · rw [if_pos d]; trivial
      · rw [if_neg d]; exact okl_nil
    · rw [if_neg c]
      have h1 := ok_E (U := U) (n := n) (fun p => ok_one (U := U) (n := n) (fl := fl) 8 0 p) fl false false (p + (wdl w).length) [] okl_nil
      cases hx : pE U n (pOne U n fl 8 0) fl false false (p + (wdl w).length) [] with
      | inl q => trivial
      | inr r => rw [hx] at h1; exact h1
theorem ok_T {U : Nat → Int32} {n fl : Nat} : ∀ (N p : Nat) (cs : List Cl), (∀ c, c ∈ cs → okC c) → ∀ ds, pT U n fl N p cs = .inr ds → ∀ c, c ∈ ds → okC c := by
  intro N
  induction N with
  | zero => intro p cs h ds hd; cases hd
  | succ N ih =>
    intro p cs h ds hd
    have h1 := ok_clause (U := U) (n := n) (fl := fl) (p := p)
    replace hd : (match pClause U n fl p with
      | .inl q => .inl q
      | .inr r => if lk U n r.1 = 59 ∧ N ≠ 0 then pT U n fl N (r.1 + 1) (cs ++ [r.2]) else if r.1 < n then .inl r.1 else .inr (cs ++ [r.2]) : Nat ⊕ List Cl) = .inr ds := hd
    cases hx : pClause U n fl p with
    | inl q => rw [hx] at hd; cases hd
    | inr r =>
      rw [hx] at hd h1
      have h2 : ∀ c, c ∈ cs ++ [r.2] → okC c := fun c hc => by
        rcases List.mem_append.mp hc with q | q
        · exact h c q
        · rw [List.mem_singleton] at q
          rw [q]; exact h1
      replace hd : (if lk U n r.1 = 59 ∧ N ≠ 0 then pT U n fl N (r.1 + 1) (cs ++ [r.2]) else if r.1 < n then .inl r.1 else .inr (cs ++ [r.2])) = .inr ds := hd
      by_cases g : lk U n r.1 = 59 ∧ N ≠ 0
      · rw [if_pos g] at hd
        exact ih _ _ h2 ds hd
      · rw [if_neg g] at hd
        by_cases g2 : r.1 < n
        · rw [if_pos g2] at hd; cases hd
        · rw [if_neg g2] at hd
          cases hd
          exact h2
/-! where the last clause of a word stands -/
theorem lsa_at {w : Nat} : ∀ (cs : List Cl) (k j : Nat) (c : Cl), lsa w k cs = some (j, c) → c.1 = w ∧ ∃ A B, cs = A ++ c :: B ∧ j = k + A.length := by
  intro cs
  induction cs with
  | nil => intro k j c h; cases h
  | cons d cs ih =>
    intro k j c h
    replace h : (match lsa w (k + 1) cs with | some r => some r | none => if d.1 = w then some (k, d) else none) = some (j, c) := h
    cases hx : lsa w (k + 1) cs with
    | some r =>
      rw [hx] at h
      cases h
      obtain ⟨h1, A, B, h2, h3⟩ := ih (k + 1) j c hx
      exact ⟨h1, d :: A, B, by rw [h2]; rfl, by show j = k + (A.length + 1); omega⟩
    | none =>
      rw [hx] at h
      replace h : (if d.1 = w then some (k, d) else none) = some (j, c) := h
      by_cases e : d.1 = w
      · rw [if_pos e] at h
        cases h
        exact ⟨e, [], cs, rfl, rfl⟩
      · rw [if_neg e] at h; cases h
theorem vlf_at (c : Cl) (B : List Cl) : ∀ (A : List Cl) (k : Nat), (vlf k (A ++ c :: B)).getD A.length 0 = if c.1 < 4 then nI c.2.1 else nI (k + (flt A).length) := by
  intro A
  induction A with
  | nil => intro k; rfl
  | cons d A ih =>
    intro k
    show (vlf (k + (cdc d).length) (A ++ c :: B)).getD A.length 0 = if c.1 < 4 then nI c.2.1 else nI (k + (cdc d ++ flt A).length)
    rw [ih, List.length_append, Nat.add_assoc]
theorem lsa_step {w k : Nat} {cs : List Cl} {i : Nat} {c : Cl} (h : cs = cs.take i ++ c :: cs.drop (i + 1)) : True := trivial
section LC
variable {fl b : Nat} {m : Mem}
/-- the class looks up the last clause of a word -/
theorem last_l {w : Nat} (hw : w < 6) : ∀ (cs : List Cl) (N k : Nat) (u : Int32), cs.length + 1 ≤ N → k + cs.length ≤ 8 → gI m 19 b 2 = nI (k + cs.length) → (∀ i, i < cs.length → gI m 20 b (k + i) = (wds cs).getD i 0) → (∀ c, c ∈ cs → c.1 < 6) → f_X9_lastClauseOf_l4 fl b (nI w) N u (nI k) m = some (match lsa w k cs with | none => u | some r => nI r.1, m) := by
  intro cs
  induction cs with
  | nil =>
    intro N k u h1 h2 h3 h4 h5
    obtain ⟨N', rfl⟩ : ∃ N', N = N' + 1 := ⟨N - 1, by omega⟩
    show f_X9_lastClauseOf_l4_b (f_X9_lastClauseOf_l4 fl b (nI w) N') fl b (nI w) u (nI k) m = some (u, m)
    unfold f_X9_lastClauseOf_l4_b
    rw [h3, if_pos (show nI (k + ([] : List Cl).length) ≤ nI k from Int32.le_iff_toInt_le.mpr (Int.le_refl _))]
  | cons c cs ih =>
    intro N k u h1 h2 h3 h4 h5
    replace h1 : cs.length + 1 + 1 ≤ N := h1
    replace h2 : k + (cs.length + 1) ≤ 8 := h2
    replace h3 : gI m 19 b 2 = nI (k + (cs.length + 1)) := h3
    obtain ⟨N', rfl⟩ : ∃ N', N = N' + 1 := ⟨N - 1, by omega⟩
    have e1 := nI_toInt (n := k) (by omega)
    have e2 := nI_clamp (n := k) (by omega)
    have e3 := nI_toInt (n := k + (cs.length + 1)) (by omega)
    have hc := h5 c List.mem_cons_self
    have h40 : gI m 20 b k = nI c.1 := h4 0 (by show 0 < cs.length + 1; omega)
    have y := fun u => ih N' (k + 1) u (by omega) (by omega) (by rw [h3]; congr 1; omega) (fun i hi => by
      have := h4 (i + 1) (by show i + 1 < cs.length + 1; omega)
      rw [show k + 1 + i = k + (i + 1) by omega]
      exact this) (fun d hd => h5 d (List.mem_cons_of_mem _ hd))
    show f_X9_lastClauseOf_l4_b (f_X9_lastClauseOf_l4 fl b (nI w) N') fl b (nI w) u (nI k) m = some (match (match lsa w (k + 1) cs with | some r => some r | none => if c.1 = w then some (k, c) else none) with | none => u | some r => nI r.1, m)
    unfold f_X9_lastClauseOf_l4_b
    rw [h3, if_neg (by rw [Int32.le_iff_toInt_le, e1, e3]; omega), if_neg (fun q => by rw [Int32.le_iff_toInt_le, e1] at q; have q : (8 : Int) ≤ k := q; omega), asr_t (by rw [vq_i, e1]; omega)]
    simp only [e2, h40]
    by_cases e : c.1 = w
    · rw [if_pos (show nI c.1 = nI w by rw [e]), lt1_e, nI_1, y]
      cases lsa w (k + 1) cs with
      | some r => rfl
      | none => simp only [if_pos e]
    · rw [if_neg (show ¬ nI c.1 = nI w from fun q => e ((nI_eq (by omega) (by omega)).mp q)), lt1_e, nI_1, y]
      cases lsa w (k + 1) cs with
      | some r => rfl
      | none => simp only [if_neg e]
theorem r32_cong {lt lt2 : Nat → Int32} (h : ∀ j, j < 6 → lt j = lt2 j) : ∀ (L : List Int32) (x : Int32), okl L → r32 lt L x = r32 lt2 L x := by
  intro L
  induction L with
  | nil => intro x _; rfl
  | cons c L ih =>
    intro x hL
    have hc := hL c List.mem_cons_self
    show r32 lt L (c32 lt c x) = r32 lt2 L (c32 lt2 c x)
    have e : c32 lt c x = c32 lt2 c x := by
      rcases hc with rfl | rfl | rfl | ⟨l, r, v, l1, l2, l3, rfl⟩
      · unfold c32
        rw [if_neg (by decide), if_neg (by decide), if_pos rfl, if_neg (by decide), if_neg (by decide), if_pos rfl]
      · unfold c32
        rw [if_neg (by decide), if_pos rfl, if_neg (by decide), if_pos rfl]
      · unfold c32
        rw [if_pos rfl, if_pos rfl]
      · unfold c32
        rw [tst_mk l1 l2 l3, tst_mk l1 l2 l3, h l l1]
    rw [e]
    exact ih _ (fun y hy => hL y (List.mem_cons_of_mem _ hy))
theorem tsth {l r v : Nat} (hl : l < 6) (hr : r < 3) (hv : v ≤ 999) : f_X9_testHolds fl (nI ((l * 3 + r) * 1000 + v)) m = some (if tst (gI m 18 0) (nI ((l * 3 + r) * 1000 + v)) then 1 else 0, m) := by
  have e1 : jrem (nI ((l * 3 + r) * 1000 + v)) 1000 = nI v := by
    have := pk_rem (a := (l * 3 + r) * 1000 + v) (d := 1000) (by omega) (by decide) (by decide)
    rw [show ((l * 3 + r) * 1000 + v) % 1000 = v by omega] at this
    exact this
  have e2 : nI ((l * 3 + r) * 1000 + v) / 1000 = nI (l * 3 + r) := by
    have := pk_div (a := (l * 3 + r) * 1000 + v) (d := 1000) (by omega) (by decide) (by decide)
    rw [show ((l * 3 + r) * 1000 + v) / 1000 = l * 3 + r by omega] at this
    exact this
  have e3 : jrem (nI (l * 3 + r)) 3 = nI r := by
    have := pk_rem (a := l * 3 + r) (d := 3) (by omega) (by decide) (by decide)
    rw [show (l * 3 + r) % 3 = r by omega] at this
    exact this
  have e4 : nI (l * 3 + r) / 3 = nI l := by
    have := pk_div (a := l * 3 + r) (d := 3) (by omega) (by decide) (by decide)
    rw [show (l * 3 + r) / 3 = l by omega] at this
    exact this
  have i1 := nI_toInt (n := l) (by omega)
  have i2 := nI_clamp (n := l) (by omega)
  have i3 := nI_toInt (n := v) (by omega)
  rw [tst_mk hl hr hv]
  unfold f_X9_testHolds f_X9_testHolds_b43
  rw [lt1_e, lt1_e, lt1_e, e1, e2, e3, e4, if_neg (show ¬ nI l < 0 by rw [Int32.lt_iff_toInt_lt, i1, t_0]; omega), if_neg (show ¬ 6 ≤ nI l from fun q => by rw [Int32.le_iff_toInt_le, i1] at q; have q : (6 : Int) ≤ l := q; omega), asr_t (by rw [vq_i, i1]; omega), i2, bn2_e]
  rcases (show r = 0 ∨ r = 1 ∨ r = 2 by omega) with rfl | rfl | rfl
  · show (if nI v ≤ gI m 18 0 l then some ((0 : Int32), m) else some (1, m)) = some (if decide ((gI m 18 0 l).toInt < (v : Int)) = true then 1 else 0, m)
    by_cases d : (gI m 18 0 l).toInt < (v : Int)
    · rw [if_neg (by rw [Int32.le_iff_toInt_le, i3]; omega), if_pos (decide_eq_true d)]
    · rw [if_pos (by rw [Int32.le_iff_toInt_le, i3]; omega), if_neg (by rw [decide_eq_false d]; decide)]
  · show (if gI m 18 0 l = nI v then some ((1 : Int32), m) else some (0, m)) = some (if decide ((gI m 18 0 l).toInt = (v : Int)) = true then 1 else 0, m)
    by_cases d : (gI m 18 0 l).toInt = (v : Int)
    · rw [if_pos (by rw [i32_eq, i3]; exact d), if_pos (decide_eq_true d)]
    · rw [if_neg (by rw [i32_eq, i3]; exact d), if_neg (by rw [decide_eq_false d]; decide)]
  · show (if gI m 18 0 l ≤ nI v then some ((0 : Int32), m) else some (1, m)) = some (if decide ((v : Int) < (gI m 18 0 l).toInt) = true then 1 else 0, m)
    by_cases d : (v : Int) < (gI m 18 0 l).toInt
    · rw [if_neg (by rw [Int32.le_iff_toInt_le, i3]; omega), if_pos (decide_eq_true d)]
    · rw [if_pos (by rw [Int32.le_iff_toInt_le, i3]; omega), if_neg (by rw [decide_eq_false d]; decide)]
/-- the class runs codes up to their end -/
theorem hold_l {cc : Nat} (hcc : gI m 19 b 1 = nI cc) (h100 : cc ≤ 100) : ∀ (L : List Int32) (N k : Nat) (s : Int32), L.length + 1 ≤ N → k + L.length < cc → okl L → (∀ i, i < L.length → gI m 22 b (k + i) = L.getD i 0) → gI m 22 b (k + L.length) = -4 → f_X9_holds_l9 fl b N s (nI k) m = some (r32 (gI m 18 0) L s, m) := by
  have ic := nI_toInt (n := cc) (by omega)
  intro L
  induction L with
  | nil =>
    intro N k s h1 h2 h3 h4 h5
    replace h2 : k + 0 < cc := h2
    obtain ⟨N', rfl⟩ : ∃ N', N = N' + 1 := ⟨N - 1, by omega⟩
    have e1 := nI_toInt (n := k) (by omega)
    have e2 := nI_clamp (n := k) (by omega)
    have h6 : gI m 22 b k = -4 := h5
    show f_X9_holds_l9_b (f_X9_holds_l9 fl b N') fl b s (nI k) m = some (s, m)
    unfold f_X9_holds_l9_b
    rw [hcc, if_neg (by rw [Int32.le_iff_toInt_le, e1, ic]; omega), if_neg (fun q => by rw [Int32.le_iff_toInt_le, e1] at q; have q : (100 : Int) ≤ k := q; omega), asr_t (by rw [vq_i, e1]; omega)]
    simp only [e2, h6]
    rw [if_pos trivial]
  | cons c L ih =>
    intro N k s h1 h2 h3 h4 h5
    replace h1 : L.length + 1 + 1 ≤ N := h1
    replace h2 : k + (L.length + 1) < cc := h2
    replace h5 : gI m 22 b (k + (L.length + 1)) = -4 := h5
    obtain ⟨N', rfl⟩ : ∃ N', N = N' + 1 := ⟨N - 1, by omega⟩
    have e1 := nI_toInt (n := k) (by omega)
    have e2 := nI_clamp (n := k) (by omega)
    have h6 : gI m 22 b k = c := h4 0 (by show 0 < L.length + 1; omega)
    have hc := h3 c List.mem_cons_self
    have y := fun s => ih N' (k + 1) s (by omega) (by omega) (fun x hx => h3 x (List.mem_cons_of_mem _ hx)) (fun i hi => by
      have := h4 (i + 1) (by show i + 1 < L.length + 1; omega)
      rw [show k + 1 + i = k + (i + 1) by omega]
      exact this) (by rw [show k + 1 + L.length = k + (L.length + 1) by omega]; exact h5)
    show f_X9_holds_l9_b (f_X9_holds_l9 fl b N') fl b s (nI k) m = some (r32 (gI m 18 0) L (c32 (gI m 18 0) c s), m)
    unfold f_X9_holds_l9_b
    rw [hcc, if_neg (by rw [Int32.le_iff_toInt_le, e1, ic]; omega), if_neg (fun q => by rw [Int32.le_iff_toInt_le, e1] at q; have q : (100 : Int) ≤ k := q; omega), asr_t (by rw [vq_i, e1]; omega), asr_t (by rw [vq_i, e1]; omega)]
    simp only [e2, h6]
    rcases hc with rfl | rfl | rfl | ⟨l, r, v, l1, l2, l3, rfl⟩
    · rw [if_neg (by decide), lt1_e, if_neg (by decide), if_neg (by decide), if_pos rfl, lt1_e, lt1_e, nI_1, y]
      rfl
    · rw [if_neg (by decide), lt1_e, if_neg (by decide), if_pos rfl, lt1_e, lt1_e, nI_1, y]
      rfl
    · rw [if_neg (by decide), lt1_e, if_pos rfl, lt1_e, lt1_e, nI_1, y]
      rfl
    · have e := tcode l1 l2 l3
      have hn : ∀ c : Int32, c.toInt < 0 → ¬ nI ((l * 3 + r) * 1000 + v) = c := by
        intro c hc q
        rw [q] at e
        omega
      have ec : c32 (gI m 18 0) (nI ((l * 3 + r) * 1000 + v)) s = jshl s 1 ||| (if tst (gI m 18 0) (nI ((l * 3 + r) * 1000 + v)) then 1 else 0) := by
        unfold c32
        rw [if_neg (hn _ (by decide)), if_neg (hn _ (by decide)), if_neg (hn _ (by decide))]
      rw [if_neg (hn (-4) (by decide)), lt1_e, if_neg (hn (-3) (by decide)), if_neg (hn (-2) (by decide)), if_neg (hn (-1) (by decide)), tsth l1 l2 l3, bn2_e, ec]
      by_cases g : tst (gI m 18 0) (nI ((l * 3 + r) * 1000 + v)) = true
      · rw [if_pos g, if_neg (show ¬ (1 : Int32) = 0 by decide), lt1_e, lt1_e, nI_1, y]
      · rw [if_neg g, if_pos (show (0 : Int32) = 0 from rfl), lt1_e, lt1_e, nI_1, y]
theorem hold_P (hfl : 1000 ≤ fl) {cc k : Nat} {L : List Int32} {v : Bool} (hcc : gI m 19 b 1 = nI cc) (h100 : cc ≤ 100) (hk : k + L.length < cc) (hL : okl L) (h4 : ∀ i, i < L.length → gI m 22 b (k + i) = L.getD i 0) (h5 : gI m 22 b (k + L.length) = -4) (hv : says (gI m 18 0) 11 L v) : f_X9_holds fl b (nI k) m = some (bI v, m) := by
  have e1 := nI_toInt (n := k) (by omega)
  have y := hold_l (fl := fl) hcc h100 L fl k 0 (by omega) hk hL h4 h5
  have z := hv [] (by show 0 + 11 ≤ 30; omega)
  have z1 : r32 (gI m 18 0) L 0 = nI (bN v) := by
    have : nI (enc [v]) = nI (bN v) := by show nI (2 * 0 + bN v) = _; rw [Nat.mul_zero, Nat.zero_add]
    rw [← this]; exact z
  have mx : jmax (nI k) 0 = nI k := by
    unfold jmax
    rw [if_neg (by rw [Int32.lt_iff_toInt_lt, e1, t_0]; omega)]
  unfold f_X9_holds f_X9_holds_b131
  rw [lt1_e, mx, y, bn2_e, z1]
  cases v <;> rfl
end LC
