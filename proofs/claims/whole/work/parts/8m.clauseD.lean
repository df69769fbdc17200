/-! the reference reads clauses, whole texts -/
def lsa (w : Nat) : Nat → List Cl → Option (Nat × Cl)
  | _, [] => none
  | k, c :: cs => match lsa w (k + 1) cs with
    | some r => some r
    | none => if c.1 = w then some (k, c) else none
theorem lsa_snoc {w : Nat} {c : Cl} : ∀ (cs : List Cl) (k : Nat), lsa w k (cs ++ [c]) = if c.1 = w then some (k + cs.length, c) else lsa w k cs := by
  intro cs
  induction cs with
  | nil =>
    intro k
    show (if c.1 = w then some (k, c) else none) = if c.1 = w then some (k + 0, c) else none
    rfl
  | cons d cs ih =>
    intro k
    show (match lsa w (k + 1) (cs ++ [c]) with | some r => some r | none => if d.1 = w then some (k, d) else none) = _
    rw [ih]
    by_cases e : c.1 = w
    · rw [if_pos e, if_pos e]
      show some (k + 1 + cs.length, c) = some (k + (cs.length + 1), c)
      rw [show k + 1 + cs.length = k + (cs.length + 1) by omega]
    · rw [if_neg e, if_neg e]
      rfl
def hdM (lt : Nat → Int32) (cs : List Cl) (pa na ha : Nat → Int32) : Prop := ∀ w, w < 6 → (match lsa w 0 cs with
  | none => pa w = -1
  | some r => pa w = nI r.1 ∧ (w < 4 → na w = nI r.2.2.1) ∧ (4 ≤ w → ∃ v, ha w = bI v ∧ says lt 11 r.2.2.2 v))
theorem hdM_s {lt : Nat → Int32} {cs : List Cl} {c : Cl} {pa na ha : Nat → Int32} {x y : Int32} (h : hdM lt cs pa na ha) (h1 : c.1 < 4 → x = nI c.2.1) (h2 : 4 ≤ c.1 → ∃ v, y = bI v ∧ says lt 11 c.2.2 v) : hdM lt (cs ++ [c]) (uw pa c.1 (nI cs.length)) (uw na c.1 x) (uw ha c.1 y) := by
  intro w hw
  rw [lsa_snoc]
  by_cases e : c.1 = w
  · rw [if_pos e]
    subst e
    refine ⟨?_, fun q => ?_, fun q => ?_⟩
    · rw [uw_s]
      show nI cs.length = nI (0 + cs.length)
      rw [Nat.zero_add]
    · rw [uw_s]; exact h1 q
    · rw [uw_s]; exact h2 q
  · rw [if_neg e]
    have := h w hw
    rw [uw_n (fun q => e q.symm), uw_n (fun q => e q.symm), uw_n (fun q => e q.symm)]
    exact this
def eqE (m : Mem) (cl : Int32) (pa na ha : Nat → Int32) (S : Option (Int32 × Mem)) : PRS → Prop
  | .inl q => ∃ dg' wt' pl' op' wa' pi', S = some (0, GM m (nI q) cl dg' wt' pl' op' wa' pi' pa na ha)
  | .inr r => ∃ v dg' wt' pl' op' wa' pi', pi' 0 = bI v ∧ says (gI m 22 0) 11 r.2 v ∧ S = some (1, GM m (nI r.1) cl dg' wt' pl' op' wa' pi' pa na ha)
section GO
variable {fl n bs : Nat} {m : Mem} {U : Nat → Int32}
theorem etop_M (hfl : 1000 ≤ fl) (h : rdt m U n bs) {p : Nat} {cl dg wt pl op : Int32} {wa pi pa na ha : Nat → Int32} (hp : p ≤ n) : eqE m cl pa na ha (f_X12_takesE fl (GM m (nI p) cl dg wt pl op wa pi pa na ha)) (pE U n (pOne U n fl 8 0) fl false false p []) := by
  have hn := h.1
  have y := E_M (fl := fl) (cl := cl) (pa := pa) (na := na) (ha := ha) (bs := bs) (w0 := 0) (q0 := 0) (a := 0) (K := 9) hfl h (by omega) (one_M hfl h 8 0 (by omega) (by omega)) (fun p hp => adv_one 8 0 p hp) fl fl p false false false false [] dg wa pi (by omega) (by omega) hp (by show 0 + 0 + 0 ≤ p; omega) (by show 0 + 0 + 0 ≤ p; omega) (Or.inl rfl) (fun q => by cases q) (fun q => by cases q) (fun S hS => rfl)
  have e : ∀ S, f_X12_takesE_l17 fl fl 1 (GM m (nI p) cl dg 0 0 0 wa pi pa na ha) = S → f_X12_takesE fl (GM m (nI p) cl dg wt pl op wa pi pa na ha) = (bn2 S fun (q45 : Nat) m46 => if q45 = 0 then some (0, m46) else if q45 = 1 then some (0, m46) else if q45 = 2 then some (1, m46) else some (0, m46)) := by
    intro S hS
    unfold f_X12_takesE
    rw [lt1_e, sI_Gwt, lt1_e, sI_Gpl, lt1_e, sI_Gop, hS]
  cases hx : pE U n (pOne U n fl 8 0) fl false false p [] with
  | inl q =>
    rw [hx] at y
    obtain ⟨t, dg', w', q', op', wa', pi', y1, y2⟩ := y
    refine ⟨dg', w', q', op', wa', pi', ?_⟩
    rw [e _ y2, bn2_e]
    rcases y1 with rfl | rfl | rfl <;> rfl
  | inr r =>
    rw [hx] at y
    obtain ⟨v, dg', wa', pi', N', y1, y2, y3, y4, y5, y6⟩ := y
    refine ⟨v, dg', nI 0, nI (0 + 1), nI 0, wa', pi', y4, y1, ?_⟩
    rw [e _ y6]
    unfold aft
    rw [gI_Gwt, if_pos (show nI 0 = 0 from rfl), bn2_e]
    rfl
def eqC (m : Mem) (i : Nat) (pa na ha : Nat → Int32) (S : Option (Int32 × Mem)) : Nat ⊕ (Nat × Cl) → Prop
  | .inl q => ∃ dg' wt' pl' op' wa' pi', S = some (0, GM m (nI q) (nI i) dg' wt' pl' op' wa' pi' pa na ha)
  | .inr r => ∃ dg' wt' pl' op' wa' pi' y, S = some (1, GM m (nI r.1) (nI i) dg' wt' pl' op' wa' pi' (uw pa r.2.1 (nI i)) (uw na r.2.1 dg') (uw ha r.2.1 y)) ∧ (r.2.1 < 4 → dg' = nI r.2.2.1) ∧ (4 ≤ r.2.1 → ∃ v, y = bI v ∧ says (gI m 22 0) 11 r.2.2.2 v)
theorem b33_n {w i : Nat} {ap dg wt pl op : Int32} {wa pi pa na ha : Nat → Int32} (hw : w < 4) : f_X12_takesClause_b33 fl (nI w) (GM m ap (nI i) dg wt pl op wa pi pa na ha) = some (1, GM m ap (nI i) dg wt pl op wa pi (uw pa w (nI i)) (uw na w dg) (uw ha w 0)) := by
  have i1 := nI_toInt (n := w) (by omega)
  have i2 := nI_clamp (n := w) (by omega)
  have av : vq (nI w) 6 := by rw [vq_i, i1]; omega
  unfold f_X12_takesClause_b33
  rw [asr_t av]
  simp only [i2]
  rw [gI_Gcl, sI_Gpa, lt1_e, asr_t av, gI_Gdg, sI_Gna, lt1_e, if_pos (show nI w ≤ 3 by rw [Int32.le_iff_toInt_le, i1, t_3]; omega), asr_t av, nz0, sI_Gha, lt1_e]
theorem b33_e {w i : Nat} {v : Bool} {ap dg wt pl op : Int32} {wa pi pa na ha : Nat → Int32} (hw : 4 ≤ w) (hw2 : w < 6) (hv : pi 0 = bI v) : f_X12_takesClause_b33 fl (nI w) (GM m ap (nI i) dg wt pl op wa pi pa na ha) = some (1, GM m ap (nI i) dg wt pl op wa pi (uw pa w (nI i)) (uw na w dg) (uw ha w (bI v))) := by
  have i1 := nI_toInt (n := w) (by omega)
  have i2 := nI_clamp (n := w) (by omega)
  have av : vq (nI w) 6 := by rw [vq_i, i1]; omega
  have g27 : gI (GM m ap (nI i) dg wt pl op wa pi (uw pa w (nI i)) (uw na w dg) ha) 27 0 (Int32.toNatClampNeg 0) = bI v := hv
  unfold f_X12_takesClause_b33
  rw [asr_t av]
  simp only [i2]
  rw [gI_Gcl, sI_Gpa, lt1_e, asr_t av, gI_Gdg, sI_Gna, lt1_e, if_neg (show ¬ nI w ≤ 3 by rw [Int32.le_iff_toInt_le, i1, t_3]; omega), asr_t (by decide), g27]
  cases v with
  | false => rw [if_pos (show bI false = 0 from rfl), asr_t av, nz0, sI_Gha, lt1_e]; rfl
  | true => rw [if_neg (show ¬ bI true = 0 by decide), asr_t av, nz1, sI_Gha, lt1_e]; rfl
theorem clause_M (hfl : 1000 ≤ fl) (h : rdt m U n bs) {p i : Nat} {dg wt pl op : Int32} {wa pi pa na ha : Nat → Int32} (hp : p ≤ n) : eqC m i pa na ha (f_X12_takesClause fl (GM m (nI p) (nI i) dg wt pl op wa pi pa na ha)) (pClause U n fl p) := by
  have hn := h.1
  have hw := pW_n (U := U) (n := n) hp 6 0 0 hp
  have e : pWord U n p = pW U n p 6 0 0 := rfl
  have y := any_M (cl := nI i) (dg := dg) (wt := wt) (pl := pl) (op := op) (wa := wa) (pi := pi) (pa := pa) (na := na) (ha := ha) hfl h hp
  unfold pClause
  rw [e] at y ⊢
  generalize hS : f_X12_takesClause fl (GM m (nI p) (nI i) dg wt pl op wa pi pa na ha) = S
  unfold f_X12_takesClause at hS
  rw [y] at hS
  cases hx : pW U n p 6 0 0 with
  | inl q =>
    rw [hx] at hS
    refine ⟨dg, wt, pl, op, wa, pi, ?_⟩
    rw [← hS]
    show (bn2 (some ((-1 : Int32), GM m (nI q) (nI i) dg wt pl op wa pi pa na ha)) _) = _
    rw [bn2_e, if_pos (by decide)]
  | inr w =>
    rw [hx] at hS hw
    obtain ⟨w1, w2⟩ := hw
    have wl := wdl_le w
    have iw := nI_toInt (n := w) (by omega)
    show eqC m i pa na ha S (if w < 4 then (if (pnm U n (p + (wdl w).length)).1 = 0 then .inl (p + (wdl w).length) else .inr (p + (wdl w).length + (pnm U n (p + (wdl w).length)).1, w, (pnm U n (p + (wdl w).length)).2, []))
      else (match pE U n (pOne U n fl 8 0) fl false false (p + (wdl w).length) [] with
      | .inl q => .inl q
      | .inr r => .inr (r.1, w, 0, r.2)))
    replace hS : (bn2 (some (nI w, GM m (nI (p + (wdl w).length)) (nI i) dg wt pl op wa pi pa na ha)) _) = S := hS
    rw [bn2_e, if_neg (show ¬ nI w < 0 by rw [Int32.lt_iff_toInt_lt, iw, t_0]; omega)] at hS
    generalize p + (wdl w).length = P at w2 hS
    by_cases c : w < 4
    · rw [if_pos c]
      rw [if_neg (show ¬ 4 ≤ nI w by rw [Int32.le_iff_toInt_le, iw, t_4]; omega), num_M hfl h (by omega)] at hS
      by_cases d : (pnm U n P).1 = 0
      · rw [if_pos d]
        rw [if_pos d, bn2_e, if_pos rfl] at hS
        exact ⟨_, _, _, _, _, _, hS.symm⟩
      · rw [if_neg d]
        rw [if_neg d, bn2_e, if_neg (by decide), b33_n c] at hS
        exact ⟨_, _, _, _, _, _, _, hS.symm, fun _ => rfl, fun q => absurd c (by show ¬ w < 4; have q : 4 ≤ w := q; omega)⟩
    · rw [if_neg c]
      rw [if_pos (show 4 ≤ nI w by rw [Int32.le_iff_toInt_le, iw, t_4]; omega)] at hS
      have z := etop_M (cl := nI i) (dg := dg) (wt := wt) (pl := pl) (op := op) (wa := wa) (pi := pi) (pa := pa) (na := na) (ha := ha) hfl h w2
      cases hy : pE U n (pOne U n fl 8 0) fl false false P [] with
      | inl q =>
        rw [hy] at z
        obtain ⟨dg', wt', pl', op', wa', pi', z⟩ := z
        rw [z, bn2_e, if_pos rfl] at hS
        exact ⟨_, _, _, _, _, _, hS.symm⟩
      | inr r =>
        rw [hy] at z
        obtain ⟨v, dg', wt', pl', op', wa', pi', z1, z2, z3⟩ := z
        rw [z3, bn2_e, if_neg (by decide), b33_e (by omega) (by omega) z1] at hS
        exact ⟨_, _, _, _, _, _, _, hS.symm, fun q => absurd q c, fun _ => ⟨v, rfl, z2⟩⟩
def eqT (m : Mem) (lt : Nat → Int32) (S : Option (Nat × Mem)) : Nat ⊕ List Cl → Prop
  | .inl q => ∃ t cl dg wt pl op wa pi pa na ha, (t = 0 ∨ t = 2) ∧ S = some (t, GM m (nI q) cl dg wt pl op wa pi pa na ha)
  | .inr cs => ∃ ap cl dg wt pl op wa pi pa na ha, S = some (1, GM m ap cl dg wt pl op wa pi pa na ha) ∧ hdM lt cs pa na ha
theorem goes_l (hfl : 1000 ≤ fl) (h : rdt m U n bs) : ∀ (N N2 p : Nat) (cs : List Cl) (dg wt pl op : Int32) (wa pi pa na ha : Nat → Int32), N ≤ 7 → N + 1 ≤ N2 → cs.length + N = 7 → p ≤ n → hdM (gI m 22 0) cs pa na ha → eqT m (gI m 22 0) (f_X12_goes_l49 fl N2 (GM m (nI p) (nI cs.length) dg wt pl op wa pi pa na ha)) (pT U n fl (N + 1) p cs) := by
  have hn := h.1
  have h31 := h.2.2.2.1
  have i2 := nI_toInt (n := n) (by omega)
  intro N
  induction N with
  | zero =>
    intro N2 p cs dg wt pl op wa pi pa na ha h1 h2 h3 h4 h5
    obtain ⟨N3, rfl⟩ : ∃ N3, N2 = N3 + 1 := ⟨N2 - 1, by omega⟩
    have y := clause_M (i := cs.length) (dg := dg) (wt := wt) (pl := pl) (op := op) (wa := wa) (pi := pi) (pa := pa) (na := na) (ha := ha) hfl h h4
    have ya := adv_C (U := U) (fl := fl) h4
    show eqT m (gI m 22 0) (f_X12_goes_l49_b (f_X12_goes_l49 fl N3) fl (GM m (nI p) (nI cs.length) dg wt pl op wa pi pa na ha)) (match pClause U n fl p with
      | .inl q => .inl q
      | .inr r => if lk U n r.1 = 59 ∧ 0 ≠ 0 then pT U n fl 0 (r.1 + 1) (cs ++ [r.2]) else if r.1 < n then .inl r.1 else .inr (cs ++ [r.2]))
    unfold f_X12_goes_l49_b
    cases hx : pClause U n fl p with
    | inl q =>
      rw [hx] at y
      obtain ⟨dg', wt', pl', op', wa', pi', y⟩ := y
      rw [y, bn2_e, if_pos rfl]
      exact ⟨0, _, _, _, _, _, _, _, _, _, _, Or.inl rfl, rfl⟩
    | inr r =>
      rw [hx] at y ya
      obtain ⟨dg', wt', pl', op', wa', pi', yy, y, y1, y2⟩ := y
      obtain ⟨a1, a2, a3, a4⟩ := ya
      have i1 := nI_toInt (n := r.1) (by omega)
      have i3 := nI_toInt (n := cs.length + 1) (by omega)
      show eqT m (gI m 22 0) _ (if lk U n r.1 = 59 ∧ 0 ≠ 0 then pT U n fl 0 (r.1 + 1) (cs ++ [r.2]) else if r.1 < n then .inl r.1 else .inr (cs ++ [r.2]))
      rw [y, bn2_e, if_neg (by decide), lt1_e, gI_Gcl, sI_Gcl, nI_1, gI_Gat, gI_G31, h31, if_neg (show ¬ (lk U n r.1 = 59 ∧ 0 ≠ 0) from fun q => q.2 rfl)]
      by_cases g : r.1 < n
      · rw [if_pos g, if_neg (show ¬ nI r.1 = nI n from fun q => by rw [i32_eq, i1, i2] at q; omega), gI_Gcl, if_pos (show nI (cs.length + 1) = 8 by rw [show cs.length + 1 = 8 by omega]; rfl)]
        exact ⟨2, _, _, _, _, _, _, _, _, _, _, Or.inr rfl, rfl⟩
      · rw [if_neg g, if_pos (show nI r.1 = nI n by rw [show r.1 = n by omega])]
        exact ⟨_, _, _, _, _, _, _, _, _, _, _, rfl, hdM_s h5 y1 y2⟩
  | succ N ih =>
    intro N2 p cs dg wt pl op wa pi pa na ha h1 h2 h3 h4 h5
    obtain ⟨N3, rfl⟩ : ∃ N3, N2 = N3 + 1 := ⟨N2 - 1, by omega⟩
    have y := clause_M (i := cs.length) (dg := dg) (wt := wt) (pl := pl) (op := op) (wa := wa) (pi := pi) (pa := pa) (na := na) (ha := ha) hfl h h4
    have ya := adv_C (U := U) (fl := fl) h4
    show eqT m (gI m 22 0) (f_X12_goes_l49_b (f_X12_goes_l49 fl N3) fl (GM m (nI p) (nI cs.length) dg wt pl op wa pi pa na ha)) (match pClause U n fl p with
      | .inl q => .inl q
      | .inr r => if lk U n r.1 = 59 ∧ N + 1 ≠ 0 then pT U n fl (N + 1) (r.1 + 1) (cs ++ [r.2]) else if r.1 < n then .inl r.1 else .inr (cs ++ [r.2]))
    unfold f_X12_goes_l49_b
    cases hx : pClause U n fl p with
    | inl q =>
      rw [hx] at y
      obtain ⟨dg', wt', pl', op', wa', pi', y⟩ := y
      rw [y, bn2_e, if_pos rfl]
      exact ⟨0, _, _, _, _, _, _, _, _, _, _, Or.inl rfl, rfl⟩
    | inr r =>
      rw [hx] at y ya
      obtain ⟨dg', wt', pl', op', wa', pi', yy, y, y1, y2⟩ := y
      obtain ⟨a1, a2, a3, a4⟩ := ya
      have i1 := nI_toInt (n := r.1) (by omega)
      have i3 := nI_toInt (n := cs.length + 1) (by omega)
      show eqT m (gI m 22 0) _ (if lk U n r.1 = 59 ∧ N + 1 ≠ 0 then pT U n fl (N + 1) (r.1 + 1) (cs ++ [r.2]) else if r.1 < n then .inl r.1 else .inr (cs ++ [r.2]))
      rw [y, bn2_e, if_neg (by decide), lt1_e, gI_Gcl, sI_Gcl, nI_1, gI_Gat, gI_G31, h31]
      by_cases g0 : lk U n r.1 = 59
      · have hlt := lk_lt (U := U) (n := n) (p := r.1) (by omega)
        rw [if_pos (show lk U n r.1 = 59 ∧ N + 1 ≠ 0 from ⟨g0, by omega⟩), if_neg (show ¬ nI r.1 = nI n from fun q => by rw [i32_eq, i1, i2] at q; omega), gI_Gcl, if_neg (show ¬ nI (cs.length + 1) = 8 from fun q => by rw [i32_eq, i3, t_8] at q; omega), takes_M h (by omega) (by decide), show (59 : Int32).toInt = 59 from rfl, if_pos g0, bn2_e, if_neg (by decide)]
        have z := ih N3 (r.1 + 1) (cs ++ [r.2]) dg' wt' pl' op' wa' pi' _ _ _ (by omega) (by omega) (by rw [List.length_append]; show cs.length + 1 + N = 7; omega) hlt (hdM_s h5 y1 y2)
        rw [List.length_append] at z
        exact z
      · rw [if_neg (show ¬ (lk U n r.1 = 59 ∧ N + 1 ≠ 0) from fun q => g0 q.1)]
        by_cases g : r.1 < n
        · rw [if_pos g, if_neg (show ¬ nI r.1 = nI n from fun q => by rw [i32_eq, i1, i2] at q; omega), gI_Gcl, if_neg (show ¬ nI (cs.length + 1) = 8 from fun q => by rw [i32_eq, i3, t_8] at q; omega), takes_M h (by omega) (by decide), show (59 : Int32).toInt = 59 from rfl, if_neg g0, bn2_e, if_pos rfl]
          exact ⟨2, _, _, _, _, _, _, _, _, _, _, Or.inr rfl, rfl⟩
        · rw [if_neg g, if_pos (show nI r.1 = nI n by rw [show r.1 = n by omega])]
          exact ⟨_, _, _, _, _, _, _, _, _, _, _, rfl, hdM_s h5 y1 y2⟩
theorem GM_of (M : Mem) : M = GM M (gI M 0 0 32) (gI M 0 0 33) (gI M 0 0 34) (gI M 0 0 37) (gI M 0 0 38) (gI M 0 0 39) (gI M 26 0) (gI M 27 0) (gI M 23 0) (gI M 24 0) (gI M 25 0) := by
  unfold GM gI
  refine Prod.ext ?_ rfl
  funext r x k
  show M.1 r x k = (if r = 0 ∧ x = 0 ∧ k = 32 then M.1 0 0 32 else if r = 0 ∧ x = 0 ∧ k = 33 then M.1 0 0 33 else if r = 0 ∧ x = 0 ∧ k = 34 then M.1 0 0 34 else if r = 0 ∧ x = 0 ∧ k = 37 then M.1 0 0 37 else if r = 0 ∧ x = 0 ∧ k = 38 then M.1 0 0 38 else if r = 0 ∧ x = 0 ∧ k = 39 then M.1 0 0 39 else if r = 26 ∧ x = 0 then M.1 26 0 k else if r = 27 ∧ x = 0 then M.1 27 0 k else if r = 23 ∧ x = 0 then M.1 23 0 k else if r = 24 ∧ x = 0 then M.1 24 0 k else if r = 25 ∧ x = 0 then M.1 25 0 k else M.1 r x k)
  split
  · rename_i q; rw [q.1, q.2.1, q.2.2]
  · split
    · rename_i q; rw [q.1, q.2.1, q.2.2]
    · split
      · rename_i q; rw [q.1, q.2.1, q.2.2]
      · split
        · rename_i q; rw [q.1, q.2.1, q.2.2]
        · split
          · rename_i q; rw [q.1, q.2.1, q.2.2]
          · split
            · rename_i q; rw [q.1, q.2.1, q.2.2]
            · split
              · rename_i q; rw [q.1, q.2]
              · split
                · rename_i q; rw [q.1, q.2]
                · split
                  · rename_i q; rw [q.1, q.2]
                  · split
                    · rename_i q; rw [q.1, q.2]
                    · split
                      · rename_i q; rw [q.1, q.2]
                      · rfl
theorem clr_l {ap cl dg wt pl op : Int32} {wa pi na ha : Nat → Int32} : ∀ (N k : Nat) (pa : Nat → Int32), k ≤ 6 → 7 ≤ N + k → (∀ j, j < k → pa j = -1) → ∃ pa', f_X12_goes_l30 fl N (nI k) (GM m ap cl dg wt pl op wa pi pa na ha) = some (GM m ap cl dg wt pl op wa pi pa' na ha) ∧ ∀ j, j < 6 → pa' j = -1 := by
  intro N
  induction N with
  | zero => intro k pa h1 h2; omega
  | succ N ih =>
    intro k pa h1 h2 h3
    have i1 := nI_toInt (n := k) (by omega)
    have i2 := nI_clamp (n := k) (by omega)
    show ∃ pa', f_X12_goes_l30_b (f_X12_goes_l30 fl N) fl (nI k) (GM m ap cl dg wt pl op wa pi pa na ha) = _ ∧ _
    unfold f_X12_goes_l30_b
    by_cases c : k = 6
    · subst c
      exact ⟨pa, by rw [if_pos (by decide)], h3⟩
    · obtain ⟨pa', y1, y2⟩ := ih (k + 1) (uw pa k (-1)) (by omega) (by omega) (fun j hj => by
        by_cases d : j = k
        · subst d; exact uw_s
        · rw [uw_n d]; exact h3 j (by omega))
      refine ⟨pa', ?_, y2⟩
      rw [if_neg (fun q => by rw [Int32.le_iff_toInt_le, i1] at q; have q : (6 : Int) ≤ k := q; omega), asr_t (by rw [vq_i, i1]; omega), i2, sI_Gpa, lt1_e, lt1_e, nI_1]
      exact y1
/-- what the reading of a text comes to, for the reference -/
def mresT (M0 : Mem) (S : Option (Int32 × Mem)) : Nat ⊕ List Cl → Prop
  | .inl q => ∃ cl dg wt pl op wa pi pa na ha, S = some (0, GM M0 (nI q) cl dg wt pl op wa pi pa na ha)
  | .inr cs => ∃ ap cl dg wt pl op wa pi pa na ha, S = some (1, GM M0 ap cl dg wt pl op wa pi pa na ha) ∧ hdM (gI M0 22 0) cs pa na ha
theorem goes_M (hfl : 1000 ≤ fl) {M : Mem} {k : Nat} (hk : k ≤ 10) (hn : n ≤ 100) (hs : gI M 21 0 k = nI n) (hT : ∀ j, j < n → gI M 20 0 (100 * k + j) = ji2b (U j)) (hU : byt U n) : mresT (sI (sI M 0 0 30 (nI (100 * k))) 0 0 31 (nI n)) (f_X12_goes fl (nI k) M) (pText U n fl) := by
  have i1 := nI_toInt (n := k) (by omega)
  have i2 := nI_clamp (n := k) (by omega)
  have hr : rdt (sI (sI M 0 0 30 (nI (100 * k))) 0 0 31 (nI n)) U n (100 * k) := ⟨hn, by omega, by rw [gI_sI, if_neg (by decide), gI_sI, if_pos ⟨rfl, rfl, rfl⟩], by rw [gI_sI, if_pos ⟨rfl, rfl, rfl⟩], hT, hU⟩
  generalize hS : f_X12_goes fl (nI k) M = S
  unfold f_X12_goes at hS
  have e1 : gI (sI M 0 0 30 (nI (100 * k))) 21 0 k = nI n := hs
  rw [show (100 : Int32) * nI k = nI (100 * k) from pk_mul 100 k, lt1_e, asr_t (by rw [vq_i, i1]; omega), i2, e1, lt1_e] at hS
  generalize sI (sI M 0 0 30 (nI (100 * k))) 0 0 31 (nI n) = M0 at *
  have gm := GM_of M0
  have st : sI (sI M0 0 0 32 0) 0 0 33 0 = GM M0 0 0 (gI M0 0 0 34) (gI M0 0 0 37) (gI M0 0 0 38) (gI M0 0 0 39) (gI M0 26 0) (gI M0 27 0) (gI M0 23 0) (gI M0 24 0) (gI M0 25 0) := by
    conv => lhs; rw [gm]
    rw [sI_Gat, sI_Gcl]
  rw [lt1_e, lt1_e, st] at hS
  obtain ⟨pa', y1, y2⟩ := clr_l (fl := fl) (m := M0) (ap := 0) (cl := 0) (dg := gI M0 0 0 34) (wt := gI M0 0 0 37) (pl := gI M0 0 0 38) (op := gI M0 0 0 39) (wa := gI M0 26 0) (pi := gI M0 27 0) (na := gI M0 24 0) (ha := gI M0 25 0) fl 0 (gI M0 23 0) (by omega) (by omega) (fun j hj => by omega)
  rw [show nI 0 = 0 from rfl] at y1
  rw [y1, bn1_e] at hS
  have z := goes_l hfl hr 7 fl 0 [] (gI M0 0 0 34) (gI M0 0 0 37) (gI M0 0 0 38) (gI M0 0 0 39) (gI M0 26 0) (gI M0 27 0) pa' (gI M0 24 0) (gI M0 25 0) (by omega) (by omega) rfl (by omega) (fun w hw => y2 w hw)
  replace z : eqT M0 (gI M0 22 0) (f_X12_goes_l49 fl fl (GM M0 0 0 (gI M0 0 0 34) (gI M0 0 0 37) (gI M0 0 0 38) (gI M0 0 0 39) (gI M0 26 0) (gI M0 27 0) pa' (gI M0 24 0) (gI M0 25 0))) (pText U n fl) := z
  cases hx : pText U n fl with
  | inl q =>
    rw [hx] at z
    obtain ⟨t, cl, dg, wt, pl, op, wa, pi, pa, na, ha, z1, z2⟩ := z
    rw [z2, bn2_e] at hS
    refine ⟨cl, dg, wt, pl, op, wa, pi, pa, na, ha, ?_⟩
    rw [← hS]
    rcases z1 with rfl | rfl <;> rfl
  | inr cs =>
    rw [hx] at z
    obtain ⟨ap, cl, dg, wt, pl, op, wa, pi, pa, na, ha, z1, z2⟩ := z
    rw [z1, bn2_e] at hS
    exact ⟨ap, cl, dg, wt, pl, op, wa, pi, pa, na, ha, hS.symm, z2⟩
end GO
