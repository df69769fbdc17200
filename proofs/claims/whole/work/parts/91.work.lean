/-! work -/
theorem stk_p {l b np : Nat} {mc : Mem} (h1 : 1 ≤ (stk mc l).toInt) : (stk (sI (sI (sR mc 15 b np (l + 1)) 13 b 4 (nI (np + 1))) 23 l 8 (gI mc 23 l 8 + 1)) l).toInt = (stk mc l).toInt - 1 := by
  have c : ∀ k, k ≠ 8 → gI (sI (sI (sR mc 15 b np (l + 1)) 13 b 4 (nI (np + 1))) 23 l 8 (gI mc 23 l 8 + 1)) 23 l k = gI mc 23 l k := fun k hk => by
    rw [gI_sI, if_neg (fun q => hk q.2.2)]; rfl
  have c8 : gI (sI (sI (sR mc 15 b np (l + 1)) 13 b 4 (nI (np + 1))) 23 l 8 (gI mc 23 l 8 + 1)) 23 l 8 = gI mc 23 l 8 + 1 := by
    rw [gI_sI, if_pos ⟨rfl, rfl, rfl⟩]
  have e0 : stk mc l = if gI mc 23 l 6 = -5 then 0 else gI mc 23 l 3 - gI mc 23 l 8 - gI mc 23 l 9 - gI mc 23 l 10 := rfl
  have e1 : ¬ gI mc 23 l 6 = -5 := fun q => by
    rw [e0, if_pos q, t_0] at h1; omega
  have e2 : stk (sI (sI (sR mc 15 b np (l + 1)) 13 b 4 (nI (np + 1))) 23 l 8 (gI mc 23 l 8 + 1)) l = stk mc l - 1 := by
    unfold stk
    rw [c 6 (by decide), c 3 (by decide), c8, c 9 (by decide), c 10 (by decide), if_neg e1, if_neg e1]
    grind
  rw [e2]
  obtain ⟨t, t1, t2⟩ := nn_i (x := stk mc l) (by omega)
  have it := nI_toInt t1
  rw [t2, it] at h1
  rw [t2, show nI t - 1 = nI (t - 1) from pk_sub (b := 1) (by omega), it, nI_toInt (by omega)]
  omega
def K24 (mc mc' : Mem) : Prop := ng mc' = ng mc ∧ ∀ r x k, (r = 0 ∨ r = 24) → gI mc' r x k = gI mc r x k
theorem K24.rf (m : Mem) : K24 m m := ⟨rfl, fun _ _ _ _ => rfl⟩
theorem K24.tr {a b c : Mem} (h : K24 a b) (h2 : K24 b c) : K24 a c := ⟨h2.1.trans h.1, fun r x k q => (h2.2 r x k q).trans (h.2 r x k q)⟩
theorem loop3 {n l b g P X : Nat} (hb : b < 30) (hP : P ≤ 20) (hXP : X ≤ P) : ∀ (d N M u np : Nat) (mc mm : Mem), d + u = X → d + 1 ≤ N → d + 1 ≤ M → RR n mc mm → l < nl mc → plc (gI mm 5 0 l) = 3 → free3 mc l b → gI mc 13 b 4 = nI np → (X : Int) ≤ u + (stk mc l).toInt → X + np ≤ u + 24 → (X = P ∨ (X : Int) = u + (stk mc l).toInt ∨ X + np = u + 24) →
    ∃ mc' mm', f_X11_work_l117 FL (nI b) (g + 1) b (l + 1) (nI X) N (nI u) mc = some mc' ∧ f_X12_work_l185 FL (nI g) (nI b) (nI l) (nI P) M (nI u) mm = some (nI X, mm') ∧ RR n mc' mm' ∧ K24 mc mc' := by
  intro d
  induction d with
  | zero =>
    intro N M u np mc mm a1 a2 a3 h hl hk hf hn hs hr hz
    obtain ⟨N, rfl⟩ : ∃ j, N = j + 1 := ⟨N - 1, by omega⟩
    obtain ⟨M, rfl⟩ : ∃ j, M = j + 1 := ⟨M - 1, by omega⟩
    have e : u = X := by omega
    subst e
    have c1 : f_X11_work_l117 FL (nI b) (g + 1) b (l + 1) (nI u) (N + 1) (nI u) mc = some mc := by
      show f_X11_work_l117_b (f_X11_work_l117 FL (nI b) (g + 1) b (l + 1) (nI u) N) FL (nI b) (g + 1) b (l + 1) (nI u) (nI u) mc = some mc
      unfold f_X11_work_l117_b
      rw [if_pos (Int32.le_iff_toInt_le.mpr (Int.le_refl _))]
    have iu := nI_toInt (n := u) (by omega)
    have iP := nI_toInt (n := P) (by omega)
    have m1 : f_X12_work_l185 FL (nI g) (nI b) (nI l) (nI P) (M + 1) (nI u) mm = if nI P ≤ nI u then some (nI u, mm) else bn2 (f_X12_fits FL (nI l) (nI b) mm) fun v47 m46 => if v47 = 1 then bn1 (f_X12_put FL (nI l) (nI b) m46) fun m49 => f_X12_work_l185 FL (nI g) (nI b) (nI l) (nI P) M (nI u + 1) m49 else some (nI u, m46) := rfl
    by_cases c : P ≤ u
    · exact ⟨mc, mm, c1, by rw [m1, if_pos (by rw [Int32.le_iff_toInt_le, iu, iP]; omega)], h, K24.rf _⟩
    · obtain ⟨r, mc1, mm1, y1, y2, y3, y4, y5, y6⟩ := hind_both h hl hb
      have hr1 : ¬ r = 1 := fun q => by
        obtain ⟨p, p1, p5, p6, p7, p8⟩ := y6 q
        have e3 : p = 3 := by
          rw [hk] at p6
          exact ((nI_eq (a := 3) (b := p) (by decide) (by omega)).mp p6).symm
        have p8 : (if p = 3 then (gI mc 13 b 4).toInt < 24 else hsv mc b p = 0) := p8
        rw [if_pos e3, hn, nI_toInt (by omega)] at p8
        omega
      exact ⟨mc, mm1, c1, by rw [m1, if_neg (by rw [Int32.le_iff_toInt_le, iu, iP]; omega), y2, bn2_e, if_neg hr1], kCl y4 y3, K24.rf _⟩
  | succ d ih =>
    intro N M u np mc mm a1 a2 a3 h hl hk hf hn hs hr hz
    obtain ⟨N, rfl⟩ : ∃ j, N = j + 1 := ⟨N - 1, by omega⟩
    obtain ⟨M, rfl⟩ : ∃ j, M = j + 1 := ⟨M - 1, by omega⟩
    have iu := nI_toInt (n := u) (by omega)
    have iP := nI_toInt (n := P) (by omega)
    have iX := nI_toInt (n := X) (by omega)
    have hs1 : 1 ≤ (stk mc l).toInt := by omega
    have hr24 : (gI mc 13 b 4).toInt < 24 := by rw [hn, nI_toInt (by omega)]; omega
    obtain ⟨r, mc1, mm1, y1, y2, y3, y4, y5, y6⟩ := hind_both h hl hb
    obtain ⟨mc2, w1⟩ := free_2 h hl hb hk hf hs1 hr24
    have hr1 : r = 1 := (Prod.mk.inj (Option.some.inj (y1.symm.trans w1))).1
    have h1 : RR n mc mm1 := kCl y4 y3
    have hk1 : plc (gI mm1 5 0 l) = 3 := by rw [y5.2 5 0 l (Or.inl (by decide)) (Or.inl (by decide))]; exact hk
    obtain ⟨np', n1, n2, z1, z2, z3⟩ := put_p3 h1 hl hb hk1 hr24
    have en : np' = np := by
      rw [hn] at n2
      exact ((nI_eq (by omega) (by omega)).mp n2).symm
    rw [en] at z1 z2 z3
    have hkm : ∀ (V W : Int32), plc (gI (sI (sI (sI mm1 12 0 l V) 16 0 (24 * b + np) (nI l)) 15 0 b W) 5 0 l) = 3 := fun V W => hk1
    obtain ⟨mc', mm', q1, q2, q3, q4⟩ := ih N M (u + 1) (np + 1) _ _ (by omega) (by omega) (by omega) z3 hl (hkm _ _) (free_p hf) (by rw [gI_sI, if_neg (fun q => by have := q.1; omega), gI_sI, if_pos ⟨rfl, rfl, rfl⟩]) (by rw [stk_p hs1]; omega) (by omega) (by rw [stk_p hs1]; omega)
    rw [← nI_1] at q1 q2
    have k4 : K24 mc (sI (sI (sR mc 15 b np (l + 1)) 13 b 4 (nI (np + 1))) 23 l 8 (gI mc 23 l 8 + 1)) := ⟨rfl, fun r x k hr => by
      rw [gI_sI, if_neg (fun q => by omega), gI_sI, if_neg (fun q => by omega)]; rfl⟩
    refine ⟨mc', mm', ?_, ?_, q3, k4.tr q4⟩
    · show f_X11_work_l117_b (f_X11_work_l117 FL (nI b) (g + 1) b (l + 1) (nI X) N) FL (nI b) (g + 1) b (l + 1) (nI X) (nI u) mc = some mc'
      unfold f_X11_work_l117_b
      rw [if_neg (by rw [Int32.le_iff_toInt_le, iu, iX]; omega), z1, bn1_e, lt1_e]
      exact q1
    · show f_X12_work_l185_b (f_X12_work_l185 FL (nI g) (nI b) (nI l) (nI P) M) FL (nI g) (nI b) (nI l) (nI P) (nI u) mm = some (nI X, mm')
      unfold f_X12_work_l185_b
      rw [if_neg (by rw [Int32.le_iff_toInt_le, iu, iP]; omega), y2, bn2_e, if_pos hr1, z2, bn1_e, lt1_e]
      exact q2
theorem loopN {n l b g P p : Nat} {mc mm : Mem} (hb : b < 30) (hP1 : 1 ≤ P) (hP : P ≤ 20) (h : RR n mc mm) (hl : l < nl mc) (p1 : 1 ≤ p) (p5 : p ≤ 5) (p3 : p ≠ 3) (hk : plc (gI mm 5 0 l) = nI p) (hr : hsv mc b p = 0) {mm1 : Mem} (hfit : f_X12_fits FL (nI l) (nI b) mm = some (1, mm1)) (h1 : RR n mc mm1) (hk1 : plc (gI mm1 5 0 l) = nI p) :
    ∃ mc' mm', f_X11_work_l117 FL (nI b) (g + 1) b (l + 1) 1 FL 0 mc = some mc' ∧ f_X12_work_l185 FL (nI g) (nI b) (nI l) (nI P) FL 0 mm = some (1, mm') ∧ RR n mc' mm' ∧ K24 mc mc' := by
  have iP := nI_toInt (n := P) (by omega)
  obtain ⟨N, hN⟩ : ∃ j, FL = j + 2 := ⟨998, rfl⟩
  obtain ⟨mc2, mm2, z1, z2, z3, z4, z5, z6, z7, z8⟩ := put_pN h1 hl hb p1 p5 p3 hk1 hr
  have hl2 : l < nl mc2 := by rw [z5]; exact hl
  have cl : f_X11_work_l117 FL (nI b) (g + 1) b (l + 1) 1 (N + 2) 0 mc = some mc2 := by
    show f_X11_work_l117_b (f_X11_work_l117 FL (nI b) (g + 1) b (l + 1) 1 (N + 1)) FL (nI b) (g + 1) b (l + 1) 1 0 mc = some mc2
    unfold f_X11_work_l117_b
    rw [if_neg (by decide), z1, bn1_e, lt1_e]
    show f_X11_work_l117_b (f_X11_work_l117 FL (nI b) (g + 1) b (l + 1) 1 N) FL (nI b) (g + 1) b (l + 1) 1 (0 + 1) mc2 = some mc2
    unfold f_X11_work_l117_b
    rw [if_pos (by decide)]
  have ml : ∀ mm3 : Mem, (if nI P ≤ 1 then some ((1 : Int32), mm2) else bn2 (f_X12_fits FL (nI l) (nI b) mm2) fun v47 m46 => if v47 = 1 then bn1 (f_X12_put FL (nI l) (nI b) m46) fun m49 => f_X12_work_l185 FL (nI g) (nI b) (nI l) (nI P) N (1 + 1) m49 else some (1, m46)) = some (1, mm3) → f_X12_work_l185 FL (nI g) (nI b) (nI l) (nI P) (N + 2) 0 mm = some (1, mm3) := fun mm3 hx => by
    show f_X12_work_l185_b (f_X12_work_l185 FL (nI g) (nI b) (nI l) (nI P) (N + 1)) FL (nI g) (nI b) (nI l) (nI P) 0 mm = some (1, mm3)
    unfold f_X12_work_l185_b
    rw [if_neg (show ¬ nI P ≤ 0 by rw [Int32.le_iff_toInt_le, iP, t_0]; omega), hfit, bn2_e, if_pos rfl, z2, bn1_e, lt1_e]
    exact hx
  have k24 : K24 mc mc2 := ⟨z6, z7⟩
  by_cases c : P ≤ 1
  · refine ⟨mc2, mm2, ?_, ?_, z3, k24⟩
    · rw [hN]; rw [hN] at cl; exact cl
    · have := ml mm2 (by rw [if_pos (by rw [Int32.le_iff_toInt_le, iP, t_1]; omega)])
      rw [hN]; rw [hN] at this; exact this
  · obtain ⟨r, mc3, mm3, y1, y2, y3, y4, y5, y6⟩ := hind_both z3 hl2 hb
    have hr1 : ¬ r = 1 := fun q => by
      obtain ⟨p', u1, u5, u6, u7, u8⟩ := y6 q
      have e3 : p' = p := by
        rw [z8 5 0 l (Or.inr (Or.inr rfl)), hk1] at u6
        exact ((nI_eq (by omega) (by omega)).mp u6).symm
      have u8 : (if p' = 3 then (gI mc2 13 b 4).toInt < 24 else hsv mc2 b p' = 0) := u8
      rw [e3, if_neg p3, z4] at u8
      exact absurd u8 (by decide)
    refine ⟨mc2, mm3, ?_, ?_, kCl y4 y3, k24⟩
    · rw [hN]; rw [hN] at cl; exact cl
    · have := ml mm3 (by rw [if_neg (show ¬ nI P ≤ 1 by rw [Int32.le_iff_toInt_le, iP, t_1]; omega), y2, bn2_e, if_neg hr1])
      rw [hN]; rw [hN] at this; exact this
