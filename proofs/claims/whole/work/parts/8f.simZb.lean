/-! unbuild, the reference: its table of what stands yet -/
def sg (i : Nat) : Nat := 5 * (i / 5) + (4 - i % 5)
theorem RR.y1 {n k : Nat} {mc mm : Mem} {v : Int32} (h : RR n mc mm) : RR n mc (sI mm 50 0 k v) := by
  obtain ⟨hT, hF, hL0, hL, hLc, hLg, hSb, hSs, hB, hP, hN, hG0, hG, hGd, hGw, hPw, hPa, hNa, hA, hTa, hR, hS, hW0, hW⟩ := h
  exact ⟨hT, hF, hL0, hL, hLc, hLg, hSb, hSs, hB, hP, hN, hG0, hG, hGd, hGw, hPw, hPa, hNa, hA, hTa, hR, hS, hW0, hW⟩
def yt (f : Nat → Bool) (k i : Nat) : Int32 := if f (sg i) = true ∧ k ≤ cnt f (sg i) then 1 else 0
theorem ix5 {b p : Nat} (h1 : 1 ≤ p) (h5 : p ≤ 6) : (5 : Int32) * nI b + nI p - 1 = nI (5 * b + p - 1) := by
  rw [show (5 : Int32) * nI b = nI (5 * b) from pk_mul 5 b, nI_add]
  exact pk_sub (b := 1) (by omega)
theorem fill_in {fl n b : Nat} {f : Nat → Bool} {g1 : Int32} {mc : Mem} (hb : b < 30) : ∀ (N p : Nat) (M : Mem), RR n mc M → prs M = f → 1 ≤ p → p ≤ 6 → 7 ≤ N + p → (∀ i, i < 5 * b + p - 1 → gI M 50 0 i = yt f 0 i) → ∃ M', f_X12_unbuild_l20 fl g1 (nI b) N (nI (cnt f (5 * b) + (cnt f (5 * b + 5) - cnt f (5 * b + 6 - p)))) (nI p) M = some (nI (cnt f (5 * b + 5)), M') ∧ RR n mc M' ∧ prs M' = f ∧ ∀ i, i < 5 * b + 5 → gI M' 50 0 i = yt f 0 i := by
  intro N
  induction N with
  | zero => intro p M h h0 h1 h2 h3; omega
  | succ N ih =>
    intro p M h h0 h1 h2 h3 h4
    have e1 := nI_toInt (n := p) (by omega)
    show ∃ M', f_X12_unbuild_l20_b (f_X12_unbuild_l20 fl g1 (nI b) N) fl g1 (nI b) _ _ M = _ ∧ _
    unfold f_X12_unbuild_l20_b
    by_cases c : p = 6
    · subst c
      have m1 := cnt_mono f (show 5 * b ≤ 5 * b + 5 by omega)
      refine ⟨M, ?_, h, h0, h4⟩
      rw [if_pos (by rw [Int32.le_iff_toInt_le, e1]; decide), show 5 * b + 6 - 6 = 5 * b by omega, show cnt f (5 * b) + (cnt f (5 * b + 5) - cnt f (5 * b)) = cnt f (5 * b + 5) by omega]
    · have hp := pr_12 (fl := fl) h hb h1 (show p ≤ 5 by omega)
      rw [h0] at hp
      have hp2 := fun v => pr_12 (fl := fl) (h.y1 (k := 5 * b + p - 1) (v := v)) hb h1 (show p ≤ 5 by omega)
      have h02 : ∀ v, prs (sI M 50 0 (5 * b + p - 1) v) = f := fun v => h0
      simp only [h02] at hp2
      have e5 := nI_toInt (n := 5 * b + p - 1) (by omega)
      have e6 := nI_clamp (n := 5 * b + p - 1) (by omega)
      have es : sg (5 * b + p - 1) = 5 * b + (5 - p) := by unfold sg; omega
      have ec : cnt f (5 * b + 6 - p) = cnt f (5 * b + (5 - p)) + if f (5 * b + (5 - p)) then 1 else 0 := by
        rw [show 5 * b + 6 - p = 5 * b + (5 - p) + 1 by omega]; rfl
      have em := cnt_mono f (show 5 * b + 6 - p ≤ 5 * b + 5 by omega)
      rw [if_neg (by rw [Int32.le_iff_toInt_le, e1, t_6]; omega), hp, bn2_e, ix5 h1 h2, asr_t (by rw [vq_i, e5]; omega), e6, lt1_e, hp2, bn2_e]
      by_cases d : f (5 * b + (5 - p)) = true
      · rw [if_pos d] at ec
        obtain ⟨M', y1, y2, y3, y4⟩ := ih (p + 1) (sI M 50 0 (5 * b + p - 1) 1) h.y1 h0 (by omega) (by omega) (by omega) (by
          intro i hi
          rw [gI_sI]
          by_cases z : i = 5 * b + p - 1
          · rw [if_pos ⟨rfl, rfl, z⟩, z]
            unfold yt
            rw [es, if_pos ⟨d, Nat.zero_le _⟩]
          · rw [if_neg (fun q => z q.2.2)]; exact h4 i (by omega))
        refine ⟨M', ?_, y2, y3, y4⟩
        rw [if_pos d, nz1, if_neg (by decide), lt1_e, lt1_e, nI_1, nI_1, show cnt f (5 * b) + (cnt f (5 * b + 5) - cnt f (5 * b + 6 - p)) + 1 = cnt f (5 * b) + (cnt f (5 * b + 5) - cnt f (5 * b + 6 - (p + 1))) by rw [show 5 * b + 6 - (p + 1) = 5 * b + (5 - p) by omega]; omega]
        exact y1
      · rw [if_neg d] at ec
        obtain ⟨M', y1, y2, y3, y4⟩ := ih (p + 1) (sI M 50 0 (5 * b + p - 1) 0) h.y1 h0 (by omega) (by omega) (by omega) (by
          intro i hi
          rw [gI_sI]
          by_cases z : i = 5 * b + p - 1
          · rw [if_pos ⟨rfl, rfl, z⟩, z]
            unfold yt
            rw [es, if_neg (fun q => d q.1)]
          · rw [if_neg (fun q => z q.2.2)]; exact h4 i (by omega))
        refine ⟨M', ?_, y2, y3, y4⟩
        rw [if_neg d, nz0, if_pos rfl, lt1_e, Int32.add_zero, lt1_e, nI_1, show cnt f (5 * b) + (cnt f (5 * b + 5) - cnt f (5 * b + 6 - p)) = cnt f (5 * b) + (cnt f (5 * b + 5) - cnt f (5 * b + 6 - (p + 1))) by rw [show 5 * b + 6 - (p + 1) = 5 * b + (5 - p) by omega]; omega]
        exact y1
theorem fill_out {fl n : Nat} (hfl : 1000 ≤ fl) {f : Nat → Bool} {g1 : Int32} {mc : Mem} : ∀ (N b : Nat) (M : Mem), RR n mc M → prs M = f → b ≤ 30 → 31 ≤ N + b → (∀ i, i < 5 * b → gI M 50 0 i = yt f 0 i) → ∃ M', f_X12_unbuild_l11 fl g1 N (nI (cnt f (5 * b))) (nI b) M = some (nI (cnt f 150), M') ∧ RR n mc M' ∧ prs M' = f ∧ ∀ i, i < 150 → gI M' 50 0 i = yt f 0 i := by
  intro N
  induction N with
  | zero => intro b M h h0 h1 h2; omega
  | succ N ih =>
    intro b M h h0 h1 h2 h3
    have e1 := nI_toInt (n := b) (by omega)
    show ∃ M', f_X12_unbuild_l11_b (f_X12_unbuild_l11 fl g1 N) fl g1 _ _ M = _ ∧ _
    unfold f_X12_unbuild_l11_b
    by_cases c : b = 30
    · subst c
      exact ⟨M, by rw [if_pos (by rw [Int32.le_iff_toInt_le, e1]; decide)], h, h0, h3⟩
    · obtain ⟨M1, y1, y2, y3, y4⟩ := fill_in (fl := fl) (n := n) (b := b) (g1 := g1) (by omega) fl 1 M h h0 (by omega) (by omega) (by omega) (fun i hi => h3 i (by omega))
      rw [show 5 * b + 6 - 1 = 5 * b + 5 by omega, Nat.sub_self, Nat.add_zero, show nI 1 = 1 from rfl] at y1
      obtain ⟨M2, z1, z2, z3, z4⟩ := ih (b + 1) M1 y2 y3 (by omega) (by omega) (fun i hi => y4 i (by omega))
      rw [show 5 * (b + 1) = 5 * b + 5 by omega, ← nI_1] at z1
      refine ⟨M2, ?_, z2, z3, z4⟩
      rw [if_neg (by rw [Int32.le_iff_toInt_le, e1]; show ¬ (30 : Int) ≤ b; omega), y1, bn2_e, lt1_e]
      exact z1
theorem may_12 {fl b p k : Nat} {f : Nat → Bool} {M : Mem} (hb : b < 30) (h1 : 1 ≤ p) (h5 : p ≤ 5) (hy : ∀ i, i < 150 → gI M 50 0 i = yt f k i) (hno : ∀ q, q < 5 * b + (5 - p) → ¬ (f q = true ∧ k ≤ cnt f q)) : f_X12_mayGo fl (nI b) (nI p) M = some (yt f k (5 * b + p - 1), M) := by
  have e1 := nI_toInt (n := p) (by omega)
  have e2 := nI_toInt (n := b) (by omega)
  have e5 := nI_toInt (n := 5 * b + p - 1) (by omega)
  have e6 := nI_clamp (n := 5 * b + p - 1) (by omega)
  have z : ∀ i, i < 150 → sg i < 5 * b + (5 - p) → gI M 50 0 i = 0 := fun i h1 h2 => by
    rw [hy i h1]; unfold yt; rw [if_neg (hno _ h2)]
  have m5 : (5 : Int32) * nI b = nI (5 * b) := pk_mul 5 b
  unfold f_X12_mayGo
  rw [ix5 h1 (by omega), asr_t (by rw [vq_i, e5]; omega), e6, hy _ (by omega)]
  by_cases c : yt f k (5 * b + p - 1) = 0
  · rw [if_pos c, c]
  · have c1 : yt f k (5 * b + p - 1) = 1 := by
      unfold yt at c ⊢
      by_cases d : f (sg (5 * b + p - 1)) = true ∧ k ≤ cnt f (sg (5 * b + p - 1))
      · rw [if_pos d]
      · rw [if_neg d] at c; exact absurd rfl c
    rw [if_neg c, c1]
    by_cases p1 : p = 1
    · subst p1
      have a1 := nI_toInt (n := 5 * b + 1) (by omega)
      have a2 := nI_clamp (n := 5 * b + 1) (by omega)
      rw [if_pos (show nI 1 = 1 from rfl), m5, nI_1, asr_t (by rw [vq_i, a1]; omega), a2, z (5 * b + 1) (by omega) (by unfold sg; omega), if_pos rfl]
      have jr : jrem (nI b) 6 = nI (b % 6) := pk_rem (by omega) (by decide) (by decide)
      have j1 := nI_toInt (n := b % 6) (by omega)
      rw [jr]
      by_cases d : b % 6 = 0
      · rw [d, if_pos (show nI 0 = 0 from rfl)]
      · rw [if_neg (fun q => by rw [i32_eq, j1, t_0] at q; omega)]
        have a3 : nI (5 * b) - 4 = nI (5 * b - 4) := pk_sub (b := 4) (by omega)
        have a4 := nI_toInt (n := 5 * b - 4) (by omega)
        have a5 := nI_clamp (n := 5 * b - 4) (by omega)
        rw [a3, asr_t (by rw [vq_i, a4]; omega), a5, z (5 * b - 4) (by omega) (by unfold sg; omega), if_pos rfl]
    · rw [if_neg (fun q => by rw [i32_eq, e1, t_1] at q; omega)]
      by_cases p2 : p = 2
      · subst p2
        have a1 := nI_toInt (n := 5 * b + 2) (by omega)
        have a2 := nI_clamp (n := 5 * b + 2) (by omega)
        have a3 := nI_toInt (n := 5 * b + 3) (by omega)
        have a4 := nI_clamp (n := 5 * b + 3) (by omega)
        have s2 : nI (5 * b) + 2 = nI (5 * b + 2) := nI_add _ 2
        have s3 : nI (5 * b) + 3 = nI (5 * b + 3) := nI_add _ 3
        rw [if_pos (show nI 2 = 2 from rfl), m5, s2, s3, asr_t (by rw [vq_i, a1]; omega), a2, z (5 * b + 2) (by omega) (by unfold sg; omega), if_pos rfl, asr_t (by rw [vq_i, a3]; omega), a4, z (5 * b + 3) (by omega) (by unfold sg; omega), if_pos rfl]
      · rw [if_neg (fun q => by rw [i32_eq, e1, t_2] at q; omega)]
theorem nxt_in {fl b k q : Nat} {f : Nat → Bool} {M : Mem} (hb : b < 30) (hy : ∀ i, i < 150 → gI M 50 0 i = yt f k i) (hq : 5 * b ≤ q ∧ q < 150) (hf : f q = true) (hk : cnt f q = k) : ∀ (N j : Nat), j ≤ 5 → 6 ≤ N + j → 5 * b + j ≤ q ∨ q < 5 * b + 5 → 5 * b + j ≤ q → f_X12_nextDown_l10 fl (nI b) N (nI (5 - j)) M = some (if q < 5 * b + 5 then ((0, nI (5 - (q - 5 * b)))) else (1, 0), M) := by
  intro N
  induction N with
  | zero => intro j h1 h2; omega
  | succ N ih =>
    intro j h1 h2 h3 h4
    have e1 := nI_toInt (n := 5 - j) (by omega)
    show f_X12_nextDown_l10_b (f_X12_nextDown_l10 fl (nI b) N) fl (nI b) _ M = _
    unfold f_X12_nextDown_l10_b
    by_cases c : j = 5
    · subst c
      rw [if_neg (show ¬ q < 5 * b + 5 by omega)]
      rfl
    · have hm := may_12 (fl := fl) (b := b) (p := 5 - j) (k := k) (f := f) (M := M) hb (by omega) (by omega) hy (by
        intro r r1 r2
        have := cnt_lt f (show r < q by omega) r2.1
        omega)
      have es : sg (5 * b + (5 - j) - 1) = 5 * b + j := by unfold sg; omega
      rw [if_neg (by rw [Int32.le_iff_toInt_le, e1, t_0]; omega), hm, bn2_e]
      by_cases d : 5 * b + j = q
      · have : yt f k (5 * b + (5 - j) - 1) = 1 := by
          unfold yt
          rw [es, d, if_pos ⟨hf, by omega⟩]
        rw [this, if_neg (by decide), if_pos (show q < 5 * b + 5 by omega), show q - 5 * b = j by omega]
      · have : yt f k (5 * b + (5 - j) - 1) = 0 := by
          unfold yt
          rw [es, if_neg]
          intro z
          have := cnt_lt f (show 5 * b + j < q by omega) z.1
          omega
        have e2 : nI (5 - j) + (-1) = nI (5 - (j + 1)) := by
          rw [show 5 - j = (5 - (j + 1)) + 1 by omega]; exact pk_m1 _
        rw [this, if_pos rfl, lt1_e, e2]
        exact ih (j + 1) (by omega) (by omega) (Or.inl (by omega)) (by omega)
theorem nxt_out {fl k q : Nat} (hfl : 1000 ≤ fl) {f : Nat → Bool} {M : Mem} (hy : ∀ i, i < 150 → gI M 50 0 i = yt f k i) (hq : q < 150) (hf : f q = true) (hk : cnt f q = k) : ∀ (N b : Nat), 5 * b ≤ q → 31 ≤ N + b → f_X12_nextDown_l2 fl N (nI b) M = some ((0, nI (q / 5), nI (5 - q % 5)), M) := by
  intro N
  induction N with
  | zero => intro b h1 h2; omega
  | succ N ih =>
    intro b h1 h2
    have e1 := nI_toInt (n := b) (by omega)
    show f_X12_nextDown_l2_b (f_X12_nextDown_l2 fl N) fl _ M = _
    unfold f_X12_nextDown_l2_b
    have y := nxt_in (fl := fl) (b := b) (k := k) (q := q) (f := f) (M := M) (by omega) hy ⟨h1, hq⟩ hf hk fl 0 (by omega) (by omega) (Or.inl (by omega)) (by omega)
    rw [show nI (5 - 0) = 5 from rfl] at y
    rw [if_neg (by rw [Int32.le_iff_toInt_le, e1]; show ¬ (30 : Int) ≤ b; omega), y, bn2_e]
    by_cases c : q < 5 * b + 5
    · rw [if_pos c, if_pos rfl, show q / 5 = b by omega, show q % 5 = q - 5 * b by omega]
    · rw [if_neg c, if_neg (by decide), lt1_e, nI_1]
      exact ih (b + 1) (by omega) (by omega)
theorem take_l {fl n i : Nat} (hfl : 1000 ≤ fl) {f : Nat → Bool} {mc : Mem} (hi : i < cnt f 150) : ∀ (N k : Nat) (v : Int32) (M : Mem), RR n mc M → k ≤ i + 1 → i + 2 ≤ N + k → (∀ j, j < 150 → gI M 50 0 j = yt f k j) → ∃ M' r, f_X12_unbuild_l96 fl (nI i) N v (nI k) M = some (r, M') ∧ RR n mc M' ∧ (k = i + 1 → r = v) ∧ (k ≤ i → ∀ q, q < 150 → f q = true → cnt f q = i → r = nI (10 * (q / 5) + (5 - q % 5))) := by
  have hc := cnt_le f 150
  intro N
  induction N with
  | zero => intro k v M h h1 h2; omega
  | succ N ih =>
    intro k v M h h1 h2 h3
    have e1 := nI_toInt (n := k) (by omega)
    have e2 := nI_toInt (n := i) (by omega)
    show ∃ M' r, f_X12_unbuild_l96_b (f_X12_unbuild_l96 fl (nI i) N) fl (nI i) v (nI k) M = _ ∧ _
    unfold f_X12_unbuild_l96_b
    by_cases c : k = i + 1
    · exact ⟨M, v, by rw [if_pos (by rw [Int32.lt_iff_toInt_lt, e1, e2]; omega)], h, fun _ => rfl, fun q => by omega⟩
    · obtain ⟨q, q1, q2, q3⟩ := cnt_has f (show k < cnt f 150 by omega)
      have y := nxt_out hfl h3 q1 q2 q3 fl 0 (by omega) (by omega)
      have y' : f_X12_nextDown fl M = some (nI (10 * (q / 5) + (5 - q % 5)), M) := by
        unfold f_X12_nextDown
        rw [show f_X12_nextDown_l2 fl fl 0 M = _ from y, bn2_e, if_pos rfl, show (10 : Int32) * nI (q / 5) = nI (10 * (q / 5)) from pk_mul 10 _, nI_add]
      have a1 : nI (10 * (q / 5) + (5 - q % 5)) / 10 = nI (q / 5) := by
        have := pk_div (a := 10 * (q / 5) + (5 - q % 5)) (d := 10) (by omega) (by decide) (by decide)
        rw [show (10 * (q / 5) + (5 - q % 5)) / 10 = q / 5 by omega] at this
        exact this
      have a2 : jrem (nI (10 * (q / 5) + (5 - q % 5))) 10 = nI (5 - q % 5) := by
        have := pk_rem (a := 10 * (q / 5) + (5 - q % 5)) (d := 10) (by omega) (by decide) (by decide)
        rw [show (10 * (q / 5) + (5 - q % 5)) % 10 = 5 - q % 5 by omega] at this
        exact this
      have a3 := nI_toInt (n := 5 * (q / 5) + (5 - q % 5) - 1) (by omega)
      have a4 := nI_clamp (n := 5 * (q / 5) + (5 - q % 5) - 1) (by omega)
      have es : sg (5 * (q / 5) + (5 - q % 5) - 1) = q := by unfold sg; omega
      obtain ⟨M', r, z1, z2, z3, z4⟩ := ih (k + 1) (nI (10 * (q / 5) + (5 - q % 5))) (sI M 50 0 (5 * (q / 5) + (5 - q % 5) - 1) 0) h.y1 (by omega) (by omega) (by
        intro j hj
        rw [gI_sI]
        by_cases d : j = 5 * (q / 5) + (5 - q % 5) - 1
        · rw [if_pos ⟨rfl, rfl, d⟩, d]
          unfold yt
          rw [es, if_neg (by omega)]
        · rw [if_neg (fun w => d w.2.2), h3 j hj]
          unfold yt
          by_cases w : f (sg j) = true ∧ k ≤ cnt f (sg j)
          · have hne : sg j ≠ q := by unfold sg; omega
            have : k ≠ cnt f (sg j) := by
              intro u
              rcases Nat.lt_or_gt_of_ne hne with l | l
              · have := cnt_lt f l w.1; omega
              · have := cnt_lt f l q2; omega
            rw [if_pos w, if_pos ⟨w.1, by omega⟩]
          · rw [if_neg w, if_neg (fun u => w ⟨u.1, by omega⟩)])
      refine ⟨M', r, ?_, z2, fun w => absurd w c, fun _ r1 r2 r3 r4 => ?_⟩
      · rw [if_neg (by rw [Int32.lt_iff_toInt_lt, e1, e2]; omega), y', bn2_e, a1, a2, ix5 (by omega) (by omega), asr_t (by rw [vq_i, a3]; omega), a4, lt1_e, nz0, lt1_e, nI_1]
        exact z1
      · by_cases w : k = i
        · have : r1 = q := by
            rcases Nat.lt_trichotomy r1 q with l | l | l
            · have := cnt_lt f l r3; omega
            · exact l
            · have := cnt_lt f l q2; omega
          rw [this]
          exact z3 (by omega)
        · exact z4 (by omega) r1 r2 r3 r4
theorem sim_unbuild {fl n : Nat} (hfl : 1000 ≤ fl) {mc mm : Mem} (h : RR n mc mm) (a1 : Int32) : Sim (n + 1) (f_X11_unbuild fl a1 mc) (f_X12_unbuild fl a1 mm) := by
  have hc := cnt_le (prs mm) 150
  have c0 : cnt (prs mm) (5 * 0) = 0 := rfl
  obtain ⟨M1, y1, y2, y3, y4⟩ := fill_out (fl := fl) (f := prs mm) (g1 := a1) hfl fl 0 mm h rfl (by omega) (by omega) (fun i hi => by omega)
  rw [c0, show nI 0 = 0 from rfl] at y1
  have ic := nI_toInt (n := cnt (prs mm) 150) (by omega)
  by_cases hit : ∃ q, q < 150 ∧ prs mm q = true ∧ nI (cnt (prs mm) q) = a1
  · obtain ⟨q, q1, q2, q3⟩ := hit
    have cq := cnt_lt (prs mm) q1 q2
    have iq := nI_toInt (n := cnt (prs mm) q) (by omega)
    have x := unb_hit hfl h q1 q2 q3.symm fl 0 (by omega) (by omega)
    rw [c0, show nI 0 = 0 from rfl] at x
    obtain ⟨M', r, z1, z2, z3, z4⟩ := take_l (fl := fl) (i := cnt (prs mm) q) (f := prs mm) hfl cq fl 0 (-1) M1 y2 (by omega) (by omega) y4
    have hr := z4 (by omega) q q1 q2 rfl
    rw [hr, show nI 0 = 0 from rfl] at z1
    refine ⟨nI (10 * (q / 5) + (5 - q % 5)), mc, M', ?_, ?_, z2.up⟩
    · unfold f_X11_unbuild
      rw [x, bn2_e, if_pos rfl, drf_e (by omega), (h.2.2.2.2.2.2.2.2.1 (q / 5) (by omega)).1, show (10 : Int32) * nI (q / 5) = nI (10 * (q / 5)) from pk_mul 10 _, nI_add]
    · unfold f_X12_unbuild
      rw [← q3] at y1 ⊢
      rw [if_pos (by rw [Int32.le_iff_toInt_le, iq, t_n1]; omega), y1, bn2_e, if_neg (fun w => by rw [i32_eq, iq, t_n1] at w; omega), if_pos (by rw [Int32.lt_iff_toInt_lt, iq, ic]; omega), z1, bn2_e]
  · have x := unb_out (fl := fl) (g1 := a1) hfl h (fun q q1 q2 q3 => hit ⟨q, q1, q2, q3⟩) fl 0 (by omega) (by omega)
    rw [c0, show nI 0 = 0 from rfl] at x
    by_cases e : a1 = -1
    · refine ⟨nI (cnt (prs mm) 150), mc, M1, ?_, ?_, y2.up⟩
      · unfold f_X11_unbuild
        rw [x, bn2_e, if_neg (show ¬ (1 : Nat) = 0 by decide), if_pos e]
      · unfold f_X12_unbuild
        rw [if_pos (by rw [e]; decide), y1, bn2_e, if_pos e]
    · by_cases d : -1 ≤ a1
      · refine ⟨-1, mc, M1, ?_, ?_, y2.up⟩
        · unfold f_X11_unbuild
          rw [x, bn2_e, if_neg (show ¬ (1 : Nat) = 0 by decide), if_neg e]
        · unfold f_X12_unbuild
          rw [if_pos d, y1, bn2_e, if_neg e, if_neg]
          intro w
          rw [Int32.lt_iff_toInt_lt, ic] at w
          rw [Int32.le_iff_toInt_le, t_n1] at d
          have hne : ¬ a1.toInt = -1 := fun z => e (i32_eq.mpr (by rw [z, t_n1]))
          obtain ⟨j, j1, j2⟩ := vp_in_of (x := a1) (n := cnt (prs mm) 150) (vp_in_iff.mpr (by omega)) (by omega)
          obtain ⟨q, q1, q2, q3⟩ := cnt_has (prs mm) j1
          exact hit ⟨q, q1, q2, by rw [q3, j2]⟩
      · refine ⟨-1, mc, mm, ?_, ?_, h.up⟩
        · unfold f_X11_unbuild
          rw [x, bn2_e, if_neg (show ¬ (1 : Nat) = 0 by decide), if_neg e]
        · unfold f_X12_unbuild
          rw [if_neg d]
