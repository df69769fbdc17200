/-! work: kept away -/
theorem jabs_c {a b : Nat} (ha : a < 2 ^ 30) (hb : b < 2 ^ 30) : jabs (nI a - nI b) = jabs (nI b - nI a) := by
  have key : ∀ x y : Nat, x < 2 ^ 30 → y < 2 ^ 30 → x ≤ y → jabs (nI x - nI y) = jabs (nI y - nI x) := by
    intro x y hx hy hxy
    have e1 : nI y - nI x = nI (y - x) := pk_sub hxy
    have e2 := nI_toInt (n := y - x) (by omega)
    have e3 : (nI x - nI y).toInt = (x : Int) - y := pk_sub_toInt hx hy
    unfold jabs
    rw [e1, if_pos (show 0 ≤ nI (y - x) by rw [Int32.le_iff_toInt_le, e2, t_0]; omega)]
    by_cases c : x = y
    · subst c
      rw [show nI x - nI x = nI (x - x) from pk_sub (Nat.le_refl _), show x - x = 0 by omega]
      rfl
    · rw [if_neg (show ¬ 0 ≤ nI x - nI y by rw [Int32.le_iff_toInt_le, e3, t_0]; omega), ← e1]
      grind
  rcases Nat.le_total a b with q | q
  · exact key a b ha hb q
  · exact (key b a hb ha q).symm
def bes (a b : Nat) : Bool := decide (jabs (nI (a % 6) - nI (b % 6)) + jabs (nI (a / 6) - nI (b / 6)) = 1)
theorem bes_c {a b : Nat} (ha : a < 30) (hb : b < 30) : bes a b = bes b a := by
  unfold bes
  rw [jabs_c (a := a % 6) (by omega) (by omega), jabs_c (a := a / 6) (by omega) (by omega)]
theorem beside_11 {a b : Nat} (ha : a < 30) (hb : b < 30) (m : Mem) : f_X11_isBeside FL (nI a) (nI b) m = some (bI (bes a b), m) := by
  unfold f_X11_isBeside
  rw [lt1_e, lt1_e, show jrem (nI a) 6 = nI (a % 6) from pk_rem (by omega) (by decide) (by decide), show jrem (nI b) 6 = nI (b % 6) from pk_rem (by omega) (by decide) (by decide), show nI a / 6 = nI (a / 6) from pk_div (d := 6) (by omega) (by decide) (by decide), show nI b / 6 = nI (b / 6) from pk_div (d := 6) (by omega) (by decide) (by decide)]
  unfold bes
  by_cases c : jabs (nI (a % 6) - nI (b % 6)) + jabs (nI (a / 6) - nI (b / 6)) = 1
  · rw [if_pos c, decide_eq_true c]; rfl
  · rw [if_neg c, decide_eq_false c]; rfl
theorem beside_12 {a b : Nat} (ha : a < 30) (hb : b < 30) (m : Mem) : f_X12_areBeside FL (nI a) (nI b) m = some (bI (bes a b), m) := by
  unfold f_X12_areBeside
  rw [abs_12, bn2_e, abs_12, bn2_e, show jrem (nI a) 6 = nI (a % 6) from pk_rem (by omega) (by decide) (by decide), show jrem (nI b) 6 = nI (b % 6) from pk_rem (by omega) (by decide) (by decide), show nI a / 6 = nI (a / 6) from pk_div (d := 6) (by omega) (by decide) (by decide), show nI b / 6 = nI (b / 6) from pk_div (d := 6) (by omega) (by decide) (by decide)]
  unfold bes
  by_cases c : jabs (nI (a % 6) - nI (b % 6)) + jabs (nI (a / 6) - nI (b / 6)) = 1
  · rw [if_pos c, decide_eq_true c]; rfl
  · rw [if_neg c, decide_eq_false c]; rfl
/-- gang u works today -/
def wkt (mc : Mem) (u : Nat) : Prop := gI mc 24 u 1 = gI mc 0 0 0
def keep (mc : Mem) (g b u : Nat) : Prop := wkt mc u ∧ (gI mc 24 u 2 = nI b ∨ ((gI mc 24 g 0 = 2 ∨ gI mc 24 u 0 = 2) ∧ ∃ c, c < 30 ∧ gI mc 24 u 2 = nI c ∧ bes c b = true))
theorem kept_l {g b : Nat} {mc mm : Mem} (hG0 : r_G0 mc mm) (hw : ∀ u, u < ng mc → wkt mc u → rg (gI mc 24 u 2) 0 29) (hg : g < ng mc) (hb : b < 30) : ∀ (N k : Nat), k ≤ 10 → 11 ≤ N + k → ∃ t, f_X11_isKeptAway_l25 FL (g + 1) (nI b) 10 N (nI k) mc = some (t, mc) ∧ (t = 0 ∨ t = 1) ∧ (t = 0 ↔ ∃ u, k ≤ u ∧ u < ng mc ∧ keep mc g b u) := by
  obtain ⟨h0, h1, h2, h3⟩ := hG0
  intro N
  induction N with
  | zero => intro k a1 a2; omega
  | succ N ih =>
    intro k a1 a2
    have e1 := nI_toInt (n := k) (by omega)
    have e2 := nI_clamp (n := k) (by omega)
    show ∃ t, f_X11_isKeptAway_l25_b (f_X11_isKeptAway_l25 FL (g + 1) (nI b) 10 N) FL (g + 1) (nI b) 10 (nI k) mc = some (t, mc) ∧ _
    unfold f_X11_isKeptAway_l25_b
    by_cases c : k = 10
    · subst c
      refine ⟨1, by rw [if_pos (by decide)], Or.inr rfl, ⟨(fun q => by cases q), (fun ⟨u, u1, u2, _⟩ => by omega)⟩⟩
    · rw [if_neg (fun q => by rw [Int32.le_iff_toInt_le, e1] at q; have q : (10 : Int) ≤ k := q; omega), asr_t (by rw [vq_i, e1]; omega), e2, lt1_e, h3 k (by omega)]
      obtain ⟨t, t1, t2, t3⟩ := ih (k + 1) (by omega) (by omega)
      rw [← nI_1] at t1
      have skip : ¬ (k < ng mc ∧ keep mc g b k) → (t = 0 ↔ ∃ u, k ≤ u ∧ u < ng mc ∧ keep mc g b u) := fun hn => by
        rw [t3]
        constructor
        · rintro ⟨u, u1, u2⟩
          exact ⟨u, by omega, u2⟩
        · rintro ⟨u, u1, u2⟩
          by_cases e : u = k
          · rw [e] at u2; exact absurd u2 hn
          · exact ⟨u, by omega, u2⟩
      by_cases c2 : k < ng mc
      · rw [if_pos c2, if_neg (show ¬ k + 1 = 0 by omega), drf_e (show k < gR mc 999 24 0 from c2)]
        by_cases c3 : gI mc 24 k 1 = gI mc 0 0 0
        · obtain ⟨w, -, w1, w2⟩ := rg_n (lo := 0) 29 (by omega) (hw k c2 c3)
          have x : ∃ q : Bool, (if (gI mc 24 g 0) = 2 then some ((1 : Int32), mc) else if (gI mc 24 k 0) = 2 then some (1, mc) else some (0, mc)) = some (bI q, mc) ∧ (q = true ↔ (gI mc 24 g 0 = 2 ∨ gI mc 24 k 0 = 2)) := by
            by_cases d1 : gI mc 24 g 0 = 2
            · exact ⟨true, by rw [if_pos d1]; rfl, ⟨fun _ => Or.inl d1, fun _ => rfl⟩⟩
            · by_cases d2 : gI mc 24 k 0 = 2
              · exact ⟨true, by rw [if_neg d1, if_pos d2]; rfl, ⟨fun _ => Or.inr d2, fun _ => rfl⟩⟩
              · exact ⟨false, by rw [if_neg d1, if_neg d2]; rfl, ⟨(fun q => by cases q), (fun q => by rcases q with q | q; exact absurd q d1; exact absurd q d2)⟩⟩
          obtain ⟨q, q1, q2⟩ := x
          rw [if_pos c3, drf_e (show g < gR mc 999 24 0 from hg), q1, bn2_e, asr_t (show k < gR mc 999 24 0 from c2)]
          by_cases c4 : gI mc 24 k 2 = nI b
          · rw [if_pos c4]
            exact ⟨0, rfl, Or.inl rfl, ⟨fun _ => ⟨k, Nat.le_refl _, c2, c3, Or.inl c4⟩, fun _ => rfl⟩⟩
          · rw [if_neg c4]
            cases q with
            | false =>
              rw [if_pos (show bI false = 0 from rfl), lt1_e]
              refine ⟨t, t1, t2, skip ?_⟩
              rintro ⟨-, -, k2 | ⟨k2, -⟩⟩
              · exact c4 k2
              · have := q2.mpr k2; cases this
            | true =>
              rw [if_neg (show ¬ bI true = 0 by decide), w2, beside_11 (by omega) hb, bn2_e]
              cases hbe : bes w b with
              | false =>
                rw [if_pos (show bI false = 0 from rfl), lt1_e]
                refine ⟨t, t1, t2, skip ?_⟩
                rintro ⟨-, -, k2 | ⟨-, cc, k3, k4, k5⟩⟩
                · exact c4 k2
                · rw [w2] at k4
                  have : w = cc := (nI_eq (by omega) (by omega)).mp k4
                  rw [← this, hbe] at k5; cases k5
              | true =>
                rw [if_neg (show ¬ bI true = 0 by decide)]
                exact ⟨0, rfl, Or.inl rfl, ⟨fun _ => ⟨k, Nat.le_refl _, c2, c3, Or.inr ⟨q2.mp rfl, w, by omega, w2, hbe⟩⟩, fun _ => rfl⟩⟩
        · rw [if_neg c3, lt1_e]
          exact ⟨t, t1, t2, skip (fun q => c3 q.2.1)⟩
      · rw [if_neg c2, if_pos rfl, lt1_e]
        exact ⟨t, t1, t2, skip (fun q => c2 q.1)⟩
def near (mm : Mem) (g b c : Nat) : Prop := bes b c = true ∧ (gI mm 37 0 c = 1 ∨ (gI mm 32 0 g = 2 ∧ gI mm 36 0 c = 1))
theorem near_l {g b : Nat} {a3 : Int32} {mm : Mem} (hg : g < 10) (hb : b < 30) (h6 : ∀ c, c < 30 → gI mm 36 0 c = 0 ∨ gI mm 36 0 c = 1) (h7 : ∀ c, c < 30 → gI mm 37 0 c = 0 ∨ gI mm 37 0 c = 1) : ∀ (N k : Nat) (v : Bool), k ≤ 30 → 31 ≤ N + k → ∃ w : Bool, f_X12_work_l85 FL (nI g) (nI b) a3 N (bI v) (nI k) mm = some (bI w, mm) ∧ (w = true ↔ (v = true ∨ ∃ c, k ≤ c ∧ c < 30 ∧ near mm g b c)) := by
  have ig := nI_toInt (n := g) (by omega)
  have cg := nI_clamp (n := g) (by omega)
  intro N
  induction N with
  | zero => intro k v a1 a2; omega
  | succ N ih =>
    intro k v a1 a2
    have e1 := nI_toInt (n := k) (by omega)
    have e2 := nI_clamp (n := k) (by omega)
    show ∃ w : Bool, f_X12_work_l85_b (f_X12_work_l85 FL (nI g) (nI b) a3 N) FL (nI g) (nI b) a3 (bI v) (nI k) mm = some (bI w, mm) ∧ _
    unfold f_X12_work_l85_b
    by_cases c : k = 30
    · subst c
      refine ⟨v, by rw [if_pos (by decide)], ⟨fun q => Or.inl q, ?_⟩⟩
      rintro (q | ⟨u, u1, u2, -⟩)
      · exact q
      · omega
    · have hk : k < 30 := by omega
      have avk : vq (nI k) 30 := by rw [vq_i, e1]; omega
      rw [if_neg (fun q => by rw [Int32.le_iff_toInt_le, e1] at q; have q : (30 : Int) ≤ k := q; omega)]
      obtain ⟨wt, wt1, wt2⟩ := ih (k + 1) true (by omega) (by omega)
      obtain ⟨wf, wf1, wf2⟩ := ih (k + 1) false (by omega) (by omega)
      rw [← nI_1] at wt1 wf1
      have yes : near mm g b k → (wt = true ↔ (v = true ∨ ∃ c, k ≤ c ∧ c < 30 ∧ near mm g b c)) := fun hn =>
        ⟨fun _ => Or.inr ⟨k, Nat.le_refl _, hk, hn⟩, fun _ => wt2.mpr (Or.inl rfl)⟩
      cases v with
      | true =>
        rw [if_neg (show ¬ bI true = 0 by decide), lt1_e]
        exact ⟨wt, wt1, ⟨fun _ => Or.inl rfl, fun _ => wt2.mpr (Or.inl rfl)⟩⟩
      | false =>
        have no : ¬ near mm g b k → (wf = true ↔ (false = true ∨ ∃ c, k ≤ c ∧ c < 30 ∧ near mm g b c)) := fun hn => by
          rw [wf2]
          constructor
          · rintro (q | ⟨u, u1, u2⟩)
            · cases q
            · exact Or.inr ⟨u, by omega, u2⟩
          · rintro (q | ⟨u, u1, u2, u3⟩)
            · cases q
            · by_cases e : u = k
              · rw [e] at u3; exact absurd u3 hn
              · exact Or.inr ⟨u, by omega, u2, u3⟩
        rw [if_pos (show bI false = 0 from rfl), beside_12 hb hk, bn2_e]
        cases hbe : bes b k with
        | false =>
          rw [if_pos (show bI false = 0 from rfl), lt1_e]
          exact ⟨wf, wf1, no (fun q => by have := q.1; rw [hbe] at this; cases this)⟩
        | true =>
          rw [if_neg (show ¬ bI true = 0 by decide), asr_t avk]
          simp only [e2, cg]
          rw [asr_t (show vq (nI g) 10 by rw [vq_i, ig]; omega), asr_t avk]
          rcases h7 k hk with q7 | q7
          · rw [if_pos q7]
            by_cases q2 : gI mm 32 0 g = 2
            · rw [if_pos q2]
              rcases h6 k hk with q6 | q6
              · rw [if_pos q6, lt1_e]
                refine ⟨wf, wf1, no ?_⟩
                rintro ⟨-, z | ⟨-, z⟩⟩
                · rw [q7] at z; exact absurd z (by decide)
                · rw [q6] at z; exact absurd z (by decide)
              · rw [if_neg (by rw [q6]; decide), lt1_e]
                exact ⟨wt, wt1, yes ⟨hbe, Or.inr ⟨q2, q6⟩⟩⟩
            · rw [if_neg q2, lt1_e]
              refine ⟨wf, wf1, no ?_⟩
              rintro ⟨-, z | ⟨z, -⟩⟩
              · rw [q7] at z; exact absurd z (by decide)
              · exact q2 z
          · rw [if_neg (by rw [q7]; decide), lt1_e]
            exact ⟨wt, wt1, yes ⟨hbe, Or.inl q7⟩⟩
theorem kept_both {n g b : Nat} {a3 : Int32} {mc mm : Mem} (h : RR n mc mm) (hg : g < ng mc) (hb : b < 30) : ∃ (v : Bool) (z0 : Int32), f_X11_isKeptAway FL (g + 1) (nI b) mc = some (bI v, mc) ∧
    (if 0 ≤ (gI mm 35 0 g) then some ((1 : Int32), mm) else asr (vq (nI b) 30) <| if (gI mm 36 0 b) = 0 then some (0, mm) else some (1, mm)) = some (z0, mm) ∧
    f_X12_work_l85 FL (nI g) (nI b) a3 FL z0 0 mm = some (bI v, mm) ∧ (v = false → ¬ wkt mc g ∧ ∀ u, u < ng mc → wkt mc u → gI mc 24 u 2 ≠ nI b) := by
  have hG0 := h.2.2.2.2.2.2.2.2.2.2.2.1
  have hn : ng mc ≤ 10 := hG0.1
  obtain ⟨w1, w2, w3⟩ := h.2.2.2.2.2.2.2.2.2.2.2.2.2.2.1
  have hG := h.2.2.2.2.2.2.2.2.2.2.2.2.1
  have e1 := nI_toInt (n := b) (by omega)
  have avb : vq (nI b) 30 := by rw [vq_i, e1]; omega
  have g0 : gI mc 24 g 0 = gI mm 32 0 g := (hG g hg).1
  obtain ⟨t, t1, t2, t3⟩ := kept_l (g := g) (b := b) hG0 (fun u hu hw => (w1 u hu).2.1 hw) hg hb FL 0 (by omega) (by have := FL_ge; omega)
  rw [show nI 0 = 0 from rfl] at t1
  obtain ⟨-, p1, p2⟩ := w1 g hg
  obtain ⟨s1, s2, s3, s4⟩ := w3 b hb
  have z : ∃ z : Bool, (if 0 ≤ (gI mm 35 0 g) then some ((1 : Int32), mm) else asr (vq (nI b) 30) <| if (gI mm 36 0 b) = 0 then some (0, mm) else some (1, mm)) = some (bI z, mm) ∧ (z = true ↔ (wkt mc g ∨ ∃ u, u < ng mc ∧ wkt mc u ∧ gI mc 24 u 2 = nI b)) := by
    by_cases c : wkt mc g
    · have hp : rg (gI mc 24 g 2) 0 29 := p1 c
      refine ⟨true, ?_, ⟨fun _ => Or.inl c, fun _ => rfl⟩⟩
      rw [p2, if_pos (show gI mc 24 g 1 = gI mc 0 0 0 from c), if_pos (by rw [Int32.le_iff_toInt_le, t_0]; exact hp.1)]
      rfl
    · rw [p2, if_neg (show ¬ gI mc 24 g 1 = gI mc 0 0 0 from c), if_neg (by decide), asr_t avb]
      rcases s1 with q | q
      · refine ⟨false, by rw [if_pos q]; rfl, ⟨(fun x => by cases x), ?_⟩⟩
        rintro (x | x)
        · exact absurd x c
        · have := s2.mpr x
          rw [q] at this; exact absurd this (by decide)
      · exact ⟨true, by rw [if_neg (by rw [q]; decide)]; rfl, ⟨fun _ => Or.inr (s2.mp q), fun _ => rfl⟩⟩
  obtain ⟨z, z1, z2⟩ := z
  obtain ⟨v, v1, v2⟩ := near_l (g := g) (b := b) (a3 := a3) (mm := mm) (by omega) hb (fun c hc => (w3 c hc).1) (fun c hc => (w3 c hc).2.2.1) FL 0 z (by omega) (by have := FL_ge; omega)
  rw [show nI 0 = 0 from rfl] at v1
  have main : v = true ↔ (wkt mc g ∨ t = 0) := by
    rw [v2, z2, t3]
    constructor
    · rintro ((x | ⟨u, u1, u2, u3⟩) | ⟨c, -, c1, c2, c3⟩)
      · exact Or.inl x
      · exact Or.inr ⟨u, Nat.zero_le _, u1, u2, Or.inl u3⟩
      · rcases c3 with c3 | ⟨c3, c4⟩
        · obtain ⟨u, u1, u2, u3, u4⟩ := (w3 c c1).2.2.2.mp c3
          exact Or.inr ⟨u, Nat.zero_le _, u1, u2, Or.inr ⟨Or.inr u4, c, c1, u3, by rw [bes_c c1 hb]; exact c2⟩⟩
        · obtain ⟨u, u1, u2, u3⟩ := (w3 c c1).2.1.mp c4
          exact Or.inr ⟨u, Nat.zero_le _, u1, u2, Or.inr ⟨Or.inl (by rw [g0]; exact c3), c, c1, u3, by rw [bes_c c1 hb]; exact c2⟩⟩
    · rintro (x | ⟨u, -, u1, u2, x | ⟨x, c, c1, c2, c3⟩⟩)
      · exact Or.inl (Or.inl x)
      · exact Or.inl (Or.inr ⟨u, u1, u2, x⟩)
      · refine Or.inr ⟨c, Nat.zero_le _, c1, by rw [bes_c hb c1]; exact c3, ?_⟩
        rcases x with x | x
        · exact Or.inr ⟨by rw [← g0]; exact x, (w3 c c1).2.1.mpr ⟨u, u1, u2, c2⟩⟩
        · exact Or.inl ((w3 c c1).2.2.2.mpr ⟨u, u1, u2, c2, x⟩)
  refine ⟨v, bI z, ?_, z1, v1, fun q => ⟨fun x => ?_, fun u u1 u2 u3 => ?_⟩⟩
  rotate_left
  · rw [main.mpr (Or.inl x)] at q; cases q
  · rw [v2.mpr (Or.inl (z2.mpr (Or.inr ⟨u, u1, u2, u3⟩)))] at q; cases q
  unfold f_X11_isKeptAway
  rw [drf_e (show g < gR mc 999 24 0 from hg)]
  by_cases c : wkt mc g
  · rw [if_pos (show gI mc 24 g 1 = gI mc 0 0 0 from c), main.mpr (Or.inl c)]; rfl
  · rw [if_neg (show ¬ gI mc 24 g 1 = gI mc 0 0 0 from c), t1, bn2_e]
    rcases t2 with q | q
    · rw [if_pos q, main.mpr (Or.inr q)]; rfl
    · rw [if_neg (by omega)]
      have : v = false := by
        cases hv : v with
        | false => rfl
        | true =>
          rcases main.mp hv with x | x
          · exact absurd x c
          · omega
      rw [this]; rfl
