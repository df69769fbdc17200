/-! the class reads conditions -/
def cres (m : Mem) (b : Nat) (cl : Int32) (ws vs : Nat → Int32) (cc : Nat) (cd : Nat → Int32) (x : PRS) (y : Option Mem) : Prop := match x with
  | .inl q => ∃ p' cc' cd', y = some (PM m b p' (nI q) cc' cl ws vs cd')
  | .inr r => y = some (PM m b (nI r.1) (-1) (nI (cc + r.2.length)) cl ws vs (wr cd cc r.2))
section RC
variable {fl b n : Nat} {m : Mem} {cl : Int32} {ws vs U : Nat → Int32}
theorem test_F (hfl : 1000 ≤ fl) (hb : b < 10) {pp f ccc : Int32} {cd : Nat → Int32} (hf : ¬ f.toInt = -1) : ∃ p' cc' cd', f_X7_readTest fl (b + 1) (PM m b pp f ccc cl ws vs cd) = some (PM m b p' f cc' cl ws vs cd') := by
  have e1 := fun pp ccc cd => look_F (fl := fl) (m := m) (b := b) (pp := pp) (ccc := ccc) (cl := cl) (ws := ws) (vs := vs) (cd := cd) hf
  have e2 := fun pp ccc cd => fail_F (fl := fl) (m := m) (b := b) (pp := pp) (ccc := ccc) (cl := cl) (ws := ws) (vs := vs) (cd := cd) hf
  have e3 := fun pp ccc cd => num_F (fl := fl) (m := m) (b := b) (pp := pp) (ccc := ccc) (cl := cl) (ws := ws) (vs := vs) (cd := cd) hfl hf
  obtain ⟨cc', cd', e4⟩ := code_F (fl := fl) (m := m) (b := b) (pp := pp + 1 + 1) (f := f) (ccc := ccc) (cl := cl) (ws := ws) (vs := vs) (cd := cd) (c := ((-1) * 3 + -1) * 1000 + 0)
  refine ⟨pp + 1 + 1, cc', cd', ?_⟩
  have hl : ∀ m : Mem, f_X9_letterOf fl (-1) m = some (-1, m) := fun m => letter_9
  have hr : ∀ m : Mem, f_X9_relationOf fl (-1) m = some (-1, m) := fun m => relation_9
  unfold f_X7_readTest f_X7_readTest_b16 f_X7_readTest_b42 f_X9_addTest
  rw [e1, bn2_e, hl, bn2_e, if_neg (by decide), e2]
  simp only [bn1_e]
  rw [lt1_e, gI_Pp, sI_Pp, e1, bn2_e, hr, bn2_e, if_neg (by decide), e2]
  simp only [bn1_e]
  rw [lt1_e, gI_Pp, sI_Pp, e3, bn2_e, drf_e hb, e4]
  rfl
theorem test_P (hfl : 1000 ≤ fl) (hb : b < 10) (h : fed m U n) {p cc : Nat} {cd : Nat → Int32} (hp : p ≤ n) (hc : cc ≤ p) : cres m b cl ws vs cc cd (pTest U n p) (f_X7_readTest fl (b + 1) (PM m b (nI p) (-1) (nI cc) cl ws vs cd)) := by
  have hn := h.1
  have ltl := ltr_le (lk U n p)
  have rtl := rlt_le (lk U n (p + 1))
  have e0 := look_P (fl := fl) (b := b) (ccc := nI cc) (cl := cl) (ws := ws) (vs := vs) (cd := cd) h (show p ≤ 1000 by omega)
  have e1 := look_P (fl := fl) (b := b) (ccc := nI cc) (cl := cl) (ws := ws) (vs := vs) (cd := cd) h (show p + 1 ≤ 1000 by omega)
  have e2 := num_P (fl := fl) (b := b) (ccc := nI cc) (cl := cl) (ws := ws) (vs := vs) (cd := cd) hfl h (show p + 1 + 1 ≤ 200 by omega)
  have q0 : (nI p).toInt = p := nI_toInt (by omega)
  have q1 : (nI (p + 1)).toInt = (p + 1 : Nat) := nI_toInt (by omega)
  have q2 : (nI (p + 1 + 1)).toInt = (p + 1 + 1 : Nat) := nI_toInt (by omega)
  have F1 := fun (pp f ccc : Int32) (cd : Nat → Int32) (hf : ¬ f.toInt = -1) => look_F (fl := fl) (m := m) (b := b) (pp := pp) (ccc := ccc) (cl := cl) (ws := ws) (vs := vs) (cd := cd) hf
  have F2 := fun (pp f ccc : Int32) (cd : Nat → Int32) (hf : ¬ f.toInt = -1) => fail_F (fl := fl) (m := m) (b := b) (pp := pp) (ccc := ccc) (cl := cl) (ws := ws) (vs := vs) (cd := cd) hf
  have F3 := fun (pp f ccc : Int32) (cd : Nat → Int32) (hf : ¬ f.toInt = -1) => num_F (fl := fl) (m := m) (b := b) (pp := pp) (ccc := ccc) (cl := cl) (ws := ws) (vs := vs) (cd := cd) hfl hf
  have hr : ∀ m : Mem, f_X9_relationOf fl (-1) m = some (-1, m) := fun m => relation_9
  unfold f_X7_readTest pTest
  rw [e0, bn2_e, letter_9, bn2_e, show (ck U n p).toInt = lk U n p from rfl]
  by_cases c1 : ltr (lk U n p) = 6
  · rw [if_pos c1, if_pos c1, if_neg (show ¬ (0 : Int32) ≤ -1 by decide), fail_P]
    simp only [bn1_e]
    unfold f_X7_readTest_b16 f_X7_readTest_b42 f_X9_addTest
    have hf : ¬ (nI p).toInt = -1 := by omega
    rw [lt1_e, gI_Pp, sI_Pp, F1 _ _ _ _ hf, bn2_e, hr, bn2_e, if_neg (by decide), F2 _ _ _ _ hf]
    simp only [bn1_e]
    rw [lt1_e, gI_Pp, sI_Pp, F3 _ _ _ _ hf, bn2_e, drf_e hb]
    obtain ⟨cc', cd', e4⟩ := code_F (fl := fl) (m := m) (b := b) (pp := nI p + 1 + 1) (f := nI p) (ccc := nI cc) (cl := cl) (ws := ws) (vs := vs) (cd := cd) (c := (((-1 : Int32) * 3 + -1) * 1000 + 0))
    exact ⟨_, cc', cd', by rw [e4]; rfl⟩
  · rw [if_neg c1, if_neg c1]
    have l1 := nI_toInt (n := ltr (lk U n p)) (by omega)
    rw [if_pos (show (0 : Int32) ≤ nI (ltr (lk U n p)) by rw [Int32.le_iff_toInt_le, l1, t_0]; omega), bn1_e]
    unfold f_X7_readTest_b16
    rw [lt1_e, gI_Pp, sI_Pp, nI_1, e1, bn2_e, relation_9, bn2_e, show (ck U n (p + 1)).toInt = lk U n (p + 1) from rfl]
    by_cases c2 : rlt (lk U n (p + 1)) = 3
    · rw [if_pos c2, if_pos c2, if_neg (show ¬ (0 : Int32) ≤ -1 by decide), fail_P]
      simp only [bn1_e]
      unfold f_X7_readTest_b42 f_X9_addTest
      have hf : ¬ (nI (p + 1)).toInt = -1 := by omega
      rw [lt1_e, gI_Pp, sI_Pp, F3 _ _ _ _ hf, bn2_e, drf_e hb]
      obtain ⟨cc', cd', e4⟩ := code_F (fl := fl) (m := m) (b := b) (pp := nI (p + 1) + 1) (f := nI (p + 1)) (ccc := nI cc) (cl := cl) (ws := ws) (vs := vs) (cd := cd) (c := ((nI (ltr (lk U n p)) * 3 + -1) * 1000 + 0))
      exact ⟨_, cc', cd', by rw [e4]; rfl⟩
    · rw [if_neg c2, if_neg c2]
      have l2 := nI_toInt (n := rlt (lk U n (p + 1))) (by omega)
      rw [if_pos (show (0 : Int32) ≤ nI (rlt (lk U n (p + 1))) by rw [Int32.le_iff_toInt_le, l2, t_0]; omega), bn1_e]
      unfold f_X7_readTest_b42 f_X9_addTest
      rw [lt1_e, gI_Pp, sI_Pp, nI_1, e2]
      show cres m b cl ws vs cc cd (if (pnm U n (p + 2)).1 = 0 then _ else _) (bn2 (if (pnm U n (p + 2)).1 = 0 then _ else _) _)
      by_cases c3 : (pnm U n (p + 2)).1 = 0
      · rw [if_pos c3, if_pos c3, bn2_e, drf_e hb]
        obtain ⟨cc', cd', e4⟩ := code_F (fl := fl) (m := m) (b := b) (pp := nI (p + 1 + 1)) (f := nI (p + 1 + 1)) (ccc := nI cc) (cl := cl) (ws := ws) (vs := vs) (cd := cd) (c := ((nI (ltr (lk U n p)) * 3 + nI (rlt (lk U n (p + 1)))) * 1000 + 0))
        exact ⟨_, cc', cd', by rw [e4]; rfl⟩
      · have h0 := lk_lt (U := U) (n := n) (p := p) (fun q => c1 (by rw [q]; exact ltr_m1))
        rw [if_neg c3, if_neg c3, bn2_e, drf_e hb, show (3 : Int32) = nI 3 from rfl, show (1000 : Int32) = nI 1000 from rfl, pk_mul, nI_add, pk_mul, nI_add, code_P (by omega)]
        show some _ = some (PM m b (nI (p + 2 + _)) (-1) (nI (cc + 1)) cl ws vs (wr cd cc [_]))
        rw [wr_one]
/-- what stays to be done of a round of E, behind a fault -/
theorem round_F (hb : b < 10) {rk : Int32 → Int32 → Int32 → Int32 → Mem → Option Mem} (hrk : ∀ u6 m, rk 0 0 0 u6 m = some m) {pp f ccc u3 u4 u6 : Int32} {cd : Nat → Int32} (hf : ¬ f.toInt = -1) : ∃ cc' cd', (
      bn1 (
        if u3 = 0 then
          some (PM m b pp f ccc cl ws vs cd)
        else
          drf 10 (b + 1) fun j35 =>
          bn1 (f_X9_addCode fl j35 (-1) (PM m b pp f ccc cl ws vs cd)) fun m38 =>
          some m38
      ) fun m5 =>
      bn2 (f_X7_look fl  m5) fun v7 m6 =>
      bn2 (
        if v7 = 38 then
          some (1, m6)
        else
          some (0, m6)
      ) fun (q8 : Int32) m9 =>
      bn1 (
        if q8 = 0 then
          if u4 = 0 then
            some m9
          else
            drf 10 (b + 1) fun j29 =>
            bn1 (f_X9_addCode fl j29 (-2) m9) fun m32 =>
            some m32
        else
          some m9
      ) fun m11 =>
      bn2 (f_X7_look fl  m11) fun v13 m12 =>
      bn2 (
        if v13 = 124 then
          some (1, m12)
        else
          if q8 = 0 then
            some (0, m12)
          else
            if u4 = 0 then
              some (0, m12)
            else
              some (1, m12)
      ) fun (q14 : Int32) m15 =>
      bn2 (
        if q8 = 0 then
          if q14 = 0 then
            some (0, m15)
          else
            some (1, m15)
        else
          some (1, m15)
      ) fun (q16 : Int32) m17 =>
      if q16 = 0 then
        lt1 (u6 + 1) fun (x19 : Int32) =>
        rk q8 q14 q16 x19 m17
      else
        lt1 (sI m17 5 0 2 ((gI m17 5 0 2) + 1)) fun m20 =>
        lt1 (u6 + 1) fun (x21 : Int32) =>
        rk q8 q14 q16 x21 m20) = some (PM m b pp f cc' cl ws vs cd') := by
  have F1 := fun (ccc : Int32) (cd : Nat → Int32) => look_F (fl := fl) (m := m) (b := b) (pp := pp) (ccc := ccc) (cl := cl) (ws := ws) (vs := vs) (cd := cd) hf
  have key : ∀ ccc cd, ∃ cc' cd', (
      bn2 (f_X7_look fl (PM m b pp f ccc cl ws vs cd)) fun v7 m6 =>
      bn2 (
        if v7 = 38 then
          some (1, m6)
        else
          some (0, m6)
      ) fun (q8 : Int32) m9 =>
      bn1 (
        if q8 = 0 then
          if u4 = 0 then
            some m9
          else
            drf 10 (b + 1) fun j29 =>
            bn1 (f_X9_addCode fl j29 (-2) m9) fun m32 =>
            some m32
        else
          some m9
      ) fun m11 =>
      bn2 (f_X7_look fl  m11) fun v13 m12 =>
      bn2 (
        if v13 = 124 then
          some (1, m12)
        else
          if q8 = 0 then
            some (0, m12)
          else
            if u4 = 0 then
              some (0, m12)
            else
              some (1, m12)
      ) fun (q14 : Int32) m15 =>
      bn2 (
        if q8 = 0 then
          if q14 = 0 then
            some (0, m15)
          else
            some (1, m15)
        else
          some (1, m15)
      ) fun (q16 : Int32) m17 =>
      if q16 = 0 then
        lt1 (u6 + 1) fun (x19 : Int32) =>
        rk q8 q14 q16 x19 m17
      else
        lt1 (sI m17 5 0 2 ((gI m17 5 0 2) + 1)) fun m20 =>
        lt1 (u6 + 1) fun (x21 : Int32) =>
        rk q8 q14 q16 x21 m20) = some (PM m b pp f cc' cl ws vs cd') := by
    intro ccc cd
    rw [F1, bn2_e, if_neg (by decide), bn2_e, if_pos rfl]
    by_cases c : u4 = 0
    · rw [if_pos c, bn1_e, F1, bn2_e, if_neg (by decide), if_pos rfl, bn2_e, if_pos rfl, if_pos rfl, bn2_e, if_pos rfl, lt1_e, hrk]
      exact ⟨_, _, rfl⟩
    · obtain ⟨c1, d1, y⟩ := code_F (fl := fl) (m := m) (b := b) (pp := pp) (f := f) (ccc := ccc) (cl := cl) (ws := ws) (vs := vs) (cd := cd) (c := -2)
      rw [if_neg c, drf_e hb, y, bn1_e, bn1_e, F1, bn2_e, if_neg (by decide), if_pos rfl, bn2_e, if_pos rfl, if_pos rfl, bn2_e, if_pos rfl, lt1_e, hrk]
      exact ⟨_, _, rfl⟩
  by_cases c : u3 = 0
  · rw [if_pos c, bn1_e]
    exact key ccc cd
  · obtain ⟨c1, d1, y⟩ := code_F (fl := fl) (m := m) (b := b) (pp := pp) (f := f) (ccc := ccc) (cl := cl) (ws := ws) (vs := vs) (cd := cd) (c := -1)
    rw [if_neg c, drf_e hb, y, bn1_e, bn1_e]
    exact key c1 d1
def bI (x : Bool) : Int32 := if x then 1 else 0
theorem E_done {rk : Nat → Int32 → Mem → Option Mem} {g2 : Int32} {N : Nat} (u6 : Int32) (mm : Mem) : f_X7_readEither_l11 fl rk (b + 1) g2 (N + 1) 0 0 0 u6 mm = some mm := rfl
theorem E_F (hb : b < 10) {rk : Nat → Int32 → Mem → Option Mem} {g2 : Int32} (hF : ∀ (pp f ccc : Int32) (cd : Nat → Int32), ¬ f.toInt = -1 → ∃ p' cc' cd', rk (b + 1) g2 (PM m b pp f ccc cl ws vs cd) = some (PM m b p' f cc' cl ws vs cd')) {N : Nat} {u3 u4 : Int32} {k : Nat} (hk : k < 100) {pp f ccc : Int32} {cd : Nat → Int32} (hf : ¬ f.toInt = -1) : ∃ p' cc' cd', f_X7_readEither_l11 fl rk (b + 1) g2 (N + 2) u3 u4 1 (nI k) (PM m b pp f ccc cl ws vs cd) = some (PM m b p' f cc' cl ws vs cd') := by
  have i1 := nI_toInt (n := k) (by omega)
  obtain ⟨p1, c1, d1, y1⟩ := hF pp f ccc cd hf
  obtain ⟨c2, d2, y2⟩ := round_F (fl := fl) (m := m) (b := b) (cl := cl) (ws := ws) (vs := vs) hb (rk := f_X7_readEither_l11 fl rk (b + 1) g2 (N + 1)) (fun u6 m => E_done u6 m) (pp := p1) (f := f) (ccc := c1) (cd := d1) (u3 := u3) (u4 := u4) (u6 := nI k) hf
  refine ⟨p1, c2, d2, ?_⟩
  show f_X7_readEither_l11_b (f_X7_readEither_l11 fl rk (b + 1) g2 (N + 1)) fl rk (b + 1) g2 u3 u4 1 (nI k) _ = _
  unfold f_X7_readEither_l11_b
  rw [if_neg (by decide), if_neg (by rw [Int32.le_iff_toInt_le, i1, t_100]; omega), y1, bn1_e]
  exact y2
theorem E_P (hb : b < 10) (h : fed m U n) {one : Nat → PRS} {rk : Nat → Int32 → Mem → Option Mem} {g2 : Int32}
    (hF : ∀ (pp f ccc : Int32) (cd : Nat → Int32), ¬ f.toInt = -1 → ∃ p' cc' cd', rk (b + 1) g2 (PM m b pp f ccc cl ws vs cd) = some (PM m b p' f cc' cl ws vs cd'))
    (hone : ∀ (p cc : Nat) (cd : Nat → Int32), p ≤ n → cc ≤ p → cres m b cl ws vs cc cd (one p) (rk (b + 1) g2 (PM m b (nI p) (-1) (nI cc) cl ws vs cd)))
    (hadv : ∀ p, p ≤ n → adv n p (one p)) : ∀ (N k : Nat) (bo ei : Bool) (p : Nat) (acc : List Int32) (cc : Nat) (cd : Nat → Int32), n + 2 ≤ N + p → 2 * k ≤ p → p ≤ n → cc + acc.length + bN bo + bN ei ≤ p → cres m b cl ws vs cc cd (pE U n one N bo ei p acc) (f_X7_readEither_l11 fl rk (b + 1) g2 N (bI bo) (bI ei) 1 (nI k) (PM m b (nI p) (-1) (nI (cc + acc.length)) cl ws vs (wr cd cc acc))) := by
  intro N
  induction N with
  | zero => intro k bo ei p acc cc cd h1 h2 h3 h4; omega
  | succ N ih =>
    intro k bo ei p acc cc cd h1 h2 h3 h4
    have hn := h.1
    have i1 := nI_toInt (n := k) (by omega)
    obtain ⟨N', rfl⟩ : ∃ N', N = N' + 1 := ⟨N - 1, by omega⟩
    have y := hone p (cc + acc.length) (wr cd cc acc) h3 (by omega)
    have ya := hadv p h3
    have hbo : ¬ bI true = 0 := by decide
    show cres m b cl ws vs cc cd (match one p with
      | .inl q => .inl q
      | .inr r => _) (f_X7_readEither_l11_b (f_X7_readEither_l11 fl rk (b + 1) g2 (N' + 1)) fl rk (b + 1) g2 (bI bo) (bI ei) 1 (nI k) _)
    unfold f_X7_readEither_l11_b
    rw [if_neg (by decide), if_neg (by rw [Int32.le_iff_toInt_le, i1, t_100]; omega)]
    cases hx : one p with
    | inl q =>
      rw [hx] at y ya
      obtain ⟨p', cc', cd', y⟩ := y
      have hq : q ≤ n := ya
      have iq := nI_toInt (n := q) (by omega)
      rw [y, bn1_e]
      obtain ⟨c2, d2, y2⟩ := round_F (fl := fl) (m := m) (b := b) (cl := cl) (ws := ws) (vs := vs) hb (rk := f_X7_readEither_l11 fl rk (b + 1) g2 (N' + 1)) (fun u6 m => E_done u6 m) (pp := p') (f := nI q) (ccc := cc') (cd := cd') (u3 := bI bo) (u4 := bI ei) (u6 := nI k) (by omega)
      exact ⟨p', c2, d2, y2⟩
    | inr r =>
      rw [hx] at y ya
      obtain ⟨r1, L⟩ := r
      show cres m b cl ws vs cc cd (if lk U n r1 = 38 then pE U n one (N' + 1) true ei (r1 + 1) (acc ++ L ++ cif bo (-1)) else if lk U n r1 = 124 then pE U n one (N' + 1) false true (r1 + 1) (acc ++ L ++ cif bo (-1) ++ cif ei (-2)) else .inr (r1, acc ++ L ++ cif bo (-1) ++ cif ei (-2))) _
      obtain ⟨a1, a2, a3⟩ := ya
      replace y : rk (b + 1) g2 (PM m b (nI p) (-1) (nI (cc + acc.length)) cl ws vs (wr cd cc acc)) = some (PM m b (nI r1) (-1) (nI (cc + acc.length + L.length)) cl ws vs (wr (wr cd cc acc) (cc + acc.length) L)) := y
      rw [wr_app, Nat.add_assoc cc, ← List.length_append] at y
      have a1' : p + 3 ≤ r1 := a1
      have a2' : r1 ≤ n := a2
      have a3' : L.length + p ≤ r1 := a3
      have hlen : (acc ++ L).length = acc.length + L.length := List.length_append
      rw [y, bn1_e]
      have s1 : (if bI bo = 0 then some (PM m b (nI r1) (-1) (nI (cc + (acc ++ L).length)) cl ws vs (wr cd cc (acc ++ L))) else drf 10 (b + 1) fun j35 => bn1 (f_X9_addCode fl j35 (-1) (PM m b (nI r1) (-1) (nI (cc + (acc ++ L).length)) cl ws vs (wr cd cc (acc ++ L)))) fun m38 => some m38) = some (PM m b (nI r1) (-1) (nI (cc + (acc ++ L ++ cif bo (-1)).length)) cl ws vs (wr cd cc (acc ++ L ++ cif bo (-1)))) := by
        cases bo with
        | false =>
          rw [if_pos (show bI false = 0 from rfl)]
          show _ = some (PM m b (nI r1) (-1) (nI (cc + (acc ++ L ++ []).length)) cl ws vs (wr cd cc (acc ++ L ++ [])))
          rw [List.append_nil]
        | true =>
          have : bN true = 1 := rfl
          rw [if_neg hbo, drf_e hb, code_P (by rw [hlen]; omega), bn1_e, wr_snoc, Nat.add_assoc]
          show some (PM m b (nI r1) (-1) (nI (cc + ((acc ++ L).length + [(-1 : Int32)].length))) cl ws vs (wr cd cc (acc ++ L ++ [-1]))) = _
          rw [← List.length_append]
          rfl
      rw [s1, bn1_e]
      have hlen2 : (acc ++ L ++ cif bo (-1)).length = acc.length + L.length + bN bo := by
        rw [List.length_append, hlen]; cases bo <;> rfl
      generalize acc ++ L ++ cif bo (-1) = A at hlen2
      have e1 := look_P (fl := fl) (b := b) (p := r1) (ccc := nI (cc + A.length)) (cl := cl) (ws := ws) (vs := vs) (cd := wr cd cc A) h (by omega)
      have e2 : (ck U n r1).toInt = lk U n r1 := rfl
      rw [e1, bn2_e]
      by_cases c1 : lk U n r1 = 38
      · have hlt := lk_lt (U := U) (n := n) (p := r1) (by omega)
        have c1' : ck U n r1 = 38 := i32_eq.mpr (by rw [e2, c1]; rfl)
        have z := ih (k + 1) true ei (r1 + 1) A cc cd (by omega) (by omega) (by omega) (by show cc + A.length + 1 + bN ei ≤ r1 + 1; omega)
        rw [if_pos c1, if_pos c1', bn2_e, if_neg (by decide), bn1_e, e1, bn2_e, c1', if_neg (by decide), if_neg (by decide)]
        cases ei with
        | false =>
          rw [if_pos (show bI false = 0 from rfl), bn2_e, if_neg (by decide), bn2_e, if_neg (by decide), lt1_e, lt1_e, gI_Pp, sI_Pp, nI_1, nI_1]
          exact z
        | true =>
          rw [if_neg hbo, bn2_e, if_neg (by decide), bn2_e, if_neg (by decide), lt1_e, lt1_e, gI_Pp, sI_Pp, nI_1, nI_1]
          exact z
      · have c1' : ¬ ck U n r1 = 38 := fun q => c1 (by rw [← e2, q]; rfl)
        rw [if_neg c1, if_neg c1', bn2_e, if_pos rfl]
        have s2 : (if bI ei = 0 then some (PM m b (nI r1) (-1) (nI (cc + A.length)) cl ws vs (wr cd cc A)) else drf 10 (b + 1) fun j29 => bn1 (f_X9_addCode fl j29 (-2) (PM m b (nI r1) (-1) (nI (cc + A.length)) cl ws vs (wr cd cc A))) fun m32 => some m32) = some (PM m b (nI r1) (-1) (nI (cc + (A ++ cif ei (-2)).length)) cl ws vs (wr cd cc (A ++ cif ei (-2)))) := by
          cases ei with
          | false =>
            rw [if_pos (show bI false = 0 from rfl)]
            show _ = some (PM m b (nI r1) (-1) (nI (cc + (A ++ []).length)) cl ws vs (wr cd cc (A ++ [])))
            rw [List.append_nil]
          | true =>
            have : bN true = 1 := rfl
            rw [if_neg hbo, drf_e hb, code_P (by omega), bn1_e, wr_snoc, Nat.add_assoc]
            show some (PM m b (nI r1) (-1) (nI (cc + (A.length + [(-2 : Int32)].length))) cl ws vs (wr cd cc (A ++ [-2]))) = _
            rw [← List.length_append]
            rfl
        rw [s2, bn1_e]
        have hlen3 : (A ++ cif ei (-2)).length = A.length + bN ei := by
          rw [List.length_append]; cases ei <;> rfl
        generalize A ++ cif ei (-2) = B at hlen3
        have e3 := look_P (fl := fl) (b := b) (p := r1) (ccc := nI (cc + B.length)) (cl := cl) (ws := ws) (vs := vs) (cd := wr cd cc B) h (by omega)
        rw [e3, bn2_e]
        by_cases c2 : lk U n r1 = 124
        · have hlt := lk_lt (U := U) (n := n) (p := r1) (by omega)
          have c2' : ck U n r1 = 124 := i32_eq.mpr (by rw [e2, c2]; rfl)
          have z := ih (k + 1) false true (r1 + 1) B cc cd (by omega) (by omega) (by omega) (by show cc + B.length + 0 + 1 ≤ r1 + 1; omega)
          rw [if_pos c2, if_pos c2', bn2_e, if_pos rfl, if_neg (by decide), bn2_e, if_neg (by decide), lt1_e, lt1_e, gI_Pp, sI_Pp, nI_1, nI_1]
          exact z
        · have c2' : ¬ ck U n r1 = 124 := fun q => c2 (by rw [← e2, q]; rfl)
          rw [if_neg c2, if_neg c2', if_pos rfl, bn2_e, if_pos rfl, if_pos rfl, bn2_e, if_pos rfl, lt1_e]
          rfl
theorem one_F (hfl : 1000 ≤ fl) (hb : b < 10) {d : Nat} {a : Int32} {pp f ccc : Int32} {cd : Nat → Int32} (hf : ¬ f.toInt = -1) : ∃ p' cc' cd', f_X7_readOne fl (d + 1) (b + 1) a (PM m b pp f ccc cl ws vs cd) = some (PM m b p' f cc' cl ws vs cd') := by
  obtain ⟨p', cc', cd', y⟩ := test_F (fl := fl) (m := m) (cl := cl) (ws := ws) (vs := vs) hfl hb (pp := pp) (f := f) (ccc := ccc) (cd := cd) hf
  refine ⟨p', cc', cd', ?_⟩
  show f_X7_readOne_b (f_X7_readOne fl d) fl (b + 1) a _ = _
  unfold f_X7_readOne_b
  have s : (if 4 ≤ a then some ((-1 : Int32), PM m b pp f ccc cl ws vs cd) else bn2 (f_X7_look fl (PM m b pp f ccc cl ws vs cd)) fun v21 m20 => some (v21, m20)) = some (-1, PM m b pp f ccc cl ws vs cd) := by
    by_cases c : 4 ≤ a
    · rw [if_pos c]
    · rw [if_neg c, look_F hf, bn2_e]
  rw [s, bn2_e, if_neg (by decide), if_neg (by decide), y]
  rfl
theorem one_P (hfl : 1000 ≤ fl) (hb : b < 10) (h : fed m U n) : ∀ (d a p cc : Nat) (cd : Nat → Int32), 5 ≤ d + a → a ≤ 4 → p ≤ n → cc ≤ p → cres m b cl ws vs cc cd (pOne U n fl d a p) (f_X7_readOne fl d (b + 1) (nI a) (PM m b (nI p) (-1) (nI cc) cl ws vs cd)) := by
  intro d
  induction d with
  | zero => intro a p cc cd h1 h2 h3 h4; omega
  | succ d ih =>
    intro a p cc cd h1 h2 h3 h4
    have hn := h.1
    have i1 := nI_toInt (n := a) (by omega)
    have e0 := look_P (fl := fl) (b := b) (p := p) (ccc := nI cc) (cl := cl) (ws := ws) (vs := vs) (cd := cd) h (by omega)
    have e2 : (ck U n p).toInt = lk U n p := rfl
    show cres m b cl ws vs cc cd (if a < 4 ∧ lk U n p = 33 then _ else _) (f_X7_readOne_b (f_X7_readOne fl d) fl (b + 1) (nI a) _)
    unfold f_X7_readOne_b
    have s : (if 4 ≤ nI a then some ((-1 : Int32), PM m b (nI p) (-1) (nI cc) cl ws vs cd) else bn2 (f_X7_look fl (PM m b (nI p) (-1) (nI cc) cl ws vs cd)) fun v21 m20 => some (v21, m20)) = some (if a < 4 then ck U n p else -1, PM m b (nI p) (-1) (nI cc) cl ws vs cd) := by
      by_cases c : a < 4
      · rw [if_neg (by rw [Int32.le_iff_toInt_le, i1, t_4]; omega), if_pos c, e0, bn2_e]
      · rw [if_pos (by rw [Int32.le_iff_toInt_le, i1, t_4]; omega), if_neg c]
    rw [s, bn2_e]
    have hone : ∀ (p cc : Nat) (cd : Nat → Int32), a < 4 → p ≤ n → cc ≤ p → cres m b cl ws vs cc cd (pOne U n fl d (a + 1) p) (f_X7_readOne fl d (b + 1) (nI a + 1) (PM m b (nI p) (-1) (nI cc) cl ws vs cd)) := by
      intro p cc cd g1 g2 g3
      rw [nI_1]
      exact ih (a + 1) p cc cd (by omega) (by omega) g2 g3
    by_cases c1 : a < 4 ∧ lk U n p = 33
    · have hlt := lk_lt (U := U) (n := n) (p := p) (by omega)
      have c1' : (if a < 4 then ck U n p else -1) = 33 := by rw [if_pos c1.1]; exact i32_eq.mpr (by rw [e2, c1.2]; rfl)
      rw [if_pos c1, if_pos c1', lt1_e, gI_Pp, sI_Pp, nI_1 p]
      have y := hone (p + 1) cc cd c1.1 (by omega) (by omega)
      have ya := adv_one (U := U) (n := n) (fl := fl) d (a + 1) (p + 1) (by omega)
      cases hx : pOne U n fl d (a + 1) (p + 1) with
      | inl q =>
        rw [hx] at y ya
        obtain ⟨p', cc', cd', y⟩ := y
        have hq : q ≤ n := ya
        have iq := nI_toInt (n := q) (by omega)
        obtain ⟨c2, d2, z⟩ := code_F (fl := fl) (m := m) (b := b) (pp := p') (f := nI q) (ccc := cc') (cl := cl) (ws := ws) (vs := vs) (cd := cd') (c := -3)
        rw [y, bn1_e, drf_e hb, z]
        exact ⟨_, _, _, rfl⟩
      | inr r =>
        rw [hx] at y ya
        obtain ⟨r1, L⟩ := r
        obtain ⟨a1, a2, a3⟩ := ya
        replace y : f_X7_readOne fl d (b + 1) (nI a + 1) (PM m b (nI (p + 1)) (-1) (nI cc) cl ws vs cd) = some (PM m b (nI r1) (-1) (nI (cc + L.length)) cl ws vs (wr cd cc L)) := y
        have a1' : p + 1 + 3 ≤ r1 := a1
        have a2' : r1 ≤ n := a2
        have a3' : L.length + (p + 1) ≤ r1 := a3
        rw [y, bn1_e, drf_e hb, code_P (by omega), bn1_e, wr_snoc, Nat.add_assoc]
        show some (PM m b (nI r1) (-1) (nI (cc + (L.length + [(-3 : Int32)].length))) cl ws vs (wr cd cc (L ++ [-3]))) = some (PM m b (nI r1) (-1) (nI (cc + (L ++ [-3]).length)) cl ws vs (wr cd cc (L ++ [-3])))
        rw [← List.length_append]
    · have c1' : ¬ (if a < 4 then ck U n p else -1) = 33 := by
        intro q
        by_cases c : a < 4
        · rw [if_pos c] at q
          exact c1 ⟨c, by rw [← e2, q]; rfl⟩
        · rw [if_neg c] at q
          exact absurd q (by decide)
      rw [if_neg c1, if_neg c1']
      by_cases c2 : a < 4 ∧ lk U n p = 40
      · have hlt := lk_lt (U := U) (n := n) (p := p) (by omega)
        have c2' : (if a < 4 then ck U n p else -1) = 40 := by rw [if_pos c2.1]; exact i32_eq.mpr (by rw [e2, c2.2]; rfl)
        rw [if_pos c2, if_pos c2', lt1_e, gI_Pp, sI_Pp, nI_1 p]
        obtain ⟨d', rfl⟩ : ∃ d', d = d' + 1 := ⟨d - 1, by omega⟩
        have y := E_P (fl := fl) (cl := cl) (ws := ws) (vs := vs) hb h (one := pOne U n fl (d' + 1) (a + 1)) (rk := f_X7_readOne fl (d' + 1)) (g2 := nI a + 1) (fun pp f ccc cd hf => one_F hfl hb hf) (fun p cc cd g2 g3 => hone p cc cd c2.1 g2 g3) (fun p hp => adv_one (d' + 1) (a + 1) p hp) fl 0 false false (p + 1) [] cc cd (by omega) (by omega) (by omega) (by show cc + 0 + 0 + 0 ≤ p + 1; omega)
        rw [wr_nil] at y
        have ya := adv_E (U := U) (fun p hp => adv_one (U := U) (n := n) (fl := fl) (d' + 1) (a + 1) p hp) fl false false (p + 1) (p + 1) [] hlt (Nat.le_refl _) (by show 0 + 0 + 0 + (p + 1) ≤ p + 1; omega)
        have y' : cres m b cl ws vs cc cd (pE U n (pOne U n fl (d' + 1) (a + 1)) fl false false (p + 1) []) (f_X7_readEither fl (f_X7_readOne fl (d' + 1)) (b + 1) (nI a + 1) (PM m b (nI (p + 1)) (-1) (nI cc) cl ws vs cd)) := by
          unfold f_X7_readEither
          cases hx : pE U n (pOne U n fl (d' + 1) (a + 1)) fl false false (p + 1) [] with
          | inl q =>
            rw [hx] at y
            obtain ⟨p', cc', cd', y⟩ := y
            exact ⟨p', cc', cd', by
              show bn1 (f_X7_readEither_l11 fl (f_X7_readOne fl (d' + 1)) (b + 1) (nI a + 1) fl (bI false) (bI false) 1 (nI 0) (PM m b (nI (p + 1)) (-1) (nI (cc + ([] : List Int32).length)) cl ws vs cd)) _ = _
              rw [y]; rfl⟩
          | inr r =>
            rw [hx] at y
            show bn1 (f_X7_readEither_l11 fl (f_X7_readOne fl (d' + 1)) (b + 1) (nI a + 1) fl (bI false) (bI false) 1 (nI 0) (PM m b (nI (p + 1)) (-1) (nI (cc + ([] : List Int32).length)) cl ws vs cd)) _ = _
            rw [show f_X7_readEither_l11 fl (f_X7_readOne fl (d' + 1)) (b + 1) (nI a + 1) fl (bI false) (bI false) 1 (nI 0) (PM m b (nI (p + 1)) (-1) (nI (cc + ([] : List Int32).length)) cl ws vs cd) = _ from y]
            rfl
        cases hx : pE U n (pOne U n fl (d' + 1) (a + 1)) fl false false (p + 1) [] with
        | inl q =>
          rw [hx] at y' ya
          obtain ⟨p', cc', cd', y'⟩ := y'
          have hq : q ≤ n := ya
          have iq := nI_toInt (n := q) (by omega)
          rw [y', bn1_e, look_F (by omega), bn2_e, if_neg (by decide), fail_F (by omega)]
          exact ⟨_, _, _, rfl⟩
        | inr r =>
          rw [hx] at y' ya
          obtain ⟨r1, L⟩ := r
          obtain ⟨a1, a2, a3⟩ := ya
          have a2' : r1 ≤ n := a2
          replace y' : f_X7_readEither fl (f_X7_readOne fl (d' + 1)) (b + 1) (nI a + 1) (PM m b (nI (p + 1)) (-1) (nI cc) cl ws vs cd) = some (PM m b (nI r1) (-1) (nI (cc + L.length)) cl ws vs (wr cd cc L)) := y'
          have e3 := look_P (fl := fl) (b := b) (p := r1) (ccc := nI (cc + L.length)) (cl := cl) (ws := ws) (vs := vs) (cd := wr cd cc L) h (by omega)
          have e4 : (ck U n r1).toInt = lk U n r1 := rfl
          rw [y', bn1_e, e3, bn2_e]
          show cres m b cl ws vs cc cd (if lk U n r1 = 41 then .inr (r1 + 1, L) else .inl r1) _
          by_cases c3 : lk U n r1 = 41
          · rw [if_pos c3, if_pos (i32_eq.mpr (by rw [e4, c3]; rfl)), lt1_e, gI_Pp, sI_Pp, nI_1]
            rfl
          · rw [if_neg c3, if_neg (fun q => c3 (by rw [← e4, q]; rfl)), fail_P, bn1_e]
            exact ⟨_, _, _, rfl⟩
      · have c2' : ¬ (if a < 4 then ck U n p else -1) = 40 := by
          intro q
          by_cases c : a < 4
          · rw [if_pos c] at q
            exact c2 ⟨c, by rw [← e2, q]; rfl⟩
          · rw [if_neg c] at q
            exact absurd q (by decide)
        rw [if_neg c2, if_neg c2']
        have y := test_P (fl := fl) (cl := cl) (ws := ws) (vs := vs) hfl hb h (cd := cd) h3 h4
        cases hx : pTest U n p with
        | inl q =>
          rw [hx] at y
          obtain ⟨p', cc', cd', y⟩ := y
          exact ⟨p', cc', cd', by rw [y]; rfl⟩
        | inr r =>
          rw [hx] at y
          have y' : f_X7_readTest fl (b + 1) (PM m b (nI p) (-1) (nI cc) cl ws vs cd) = _ := y
          show bn1 _ _ = _
          rw [y']
          rfl
end RC
