/-! rain: an hour's water, in one row of rounds (class) and in three (reference) -/
/-- what stands in the bays while the water runs: panes, the gutter's lot, what it takes, where it leads -/
def wfx (mc mm : Mem) (pn : Nat → Nat) (gt : Nat → Option Nat) (vv ld : Nat → Int32) : Prop := ∀ b, b < 30 → gI mc 13 b 4 = nI (pn b) ∧ gI mm 15 0 b = nI (pn b) ∧ pn b ≤ 24 ∧ gI mc 13 b 5 = ld b ∧ (gt b ≠ none → gI mm 17 0 b = ld b) ∧ rg (ld b) (-1) 29 ∧ rg (vv b) 0 999 ∧
  (match gt b with
   | none => gR mc 14 b 4 = 0 ∧ (gI mm 14 0 (5 * b + 3)).toInt = -1
   | some l => l < 60 ∧ gR mc 14 b 4 = l + 1 ∧ l < gR mc 999 23 0 ∧ gI mm 14 0 (5 * b + 3) = nI l ∧ gI mc 23 l 4 = vv b ∧ gI mm 8 0 l = vv b)
theorem RR.wfx {n : Nat} {mc mm : Mem} (h : RR n mc mm) : ∃ pn gt vv ld, wfx mc mm pn gt vv ld := by
  obtain ⟨hT, hF, hL0, hL, hLc, hLg, hSb, hSs, hB, hP, hN, hG0, hG, hGd, hGw, hPw, hPa, hNa, hA, hTa, hR, hS, hW0, hW⟩ := h
  refine ⟨fun b => (gI mc 13 b 4).toInt.toNat, fun b => match gR mc 14 b 4 with | 0 => none | l + 1 => some l, fun b => match gR mc 14 b 4 with | 0 => 0 | l + 1 => gI mm 8 0 l, fun b => gI mc 13 b 5, ?_⟩
  intro b hb
  obtain ⟨np, n1, n2, n3, n4⟩ := hN b hb
  obtain ⟨b0, b1, b2, b3, b4, b5, b6, b7, b8⟩ := hB b hb
  obtain ⟨p0, p1, p2, hp⟩ := hP b hb
  obtain ⟨g1, g2, g3⟩ := hp 4 (by omega) (by omega) (by omega)
  have i1 := nI_toInt (n := np) (by omega)
  have hnl : nl mc ≤ 60 := hL0.1
  rw [show 5 * b + 4 - 1 = 5 * b + 3 by omega] at g1
  refine ⟨?_, ?_, ?_, rfl, fun z => (b4 (fun e => z (by show (match gR mc 14 b 4 with | 0 => none | l + 1 => some l) = none; rw [e]))).symm, b8, ?_, ?_⟩
  · show gI mc 13 b 4 = nI (gI mc 13 b 4).toInt.toNat
    rw [n2, i1]; rfl
  · show gI mm 15 0 b = nI (gI mc 13 b 4).toInt.toNat
    rw [n3, n2, i1]; rfl
  · show (gI mc 13 b 4).toInt.toNat ≤ 24
    rw [n2, i1]; omega
  · show rg (match gR mc 14 b 4 with | 0 => 0 | l + 1 => gI mm 8 0 l) 0 999
    cases hz : gR mc 14 b 4 with
    | zero => exact rg_0 999 (by omega)
    | succ l =>
      obtain ⟨l0, l1, l2, l3, l4, l5, l6, l7, l8, l9, -⟩ := hL l (show l < nl mc by omega)
      exact l9
  · show (match (match gR mc 14 b 4 with | 0 => none | l + 1 => some l) with
     | none => gR mc 14 b 4 = 0 ∧ (gI mm 14 0 (5 * b + 3)).toInt = -1
     | some l => l < 60 ∧ gR mc 14 b 4 = l + 1 ∧ l < gR mc 999 23 0 ∧ gI mm 14 0 (5 * b + 3) = nI l ∧ gI mc 23 l 4 = (match gR mc 14 b 4 with | 0 => 0 | l + 1 => gI mm 8 0 l) ∧ gI mm 8 0 l = (match gR mc 14 b 4 with | 0 => 0 | l + 1 => gI mm 8 0 l))
    cases hz : gR mc 14 b 4 with
    | zero => exact ⟨rfl, by rw [g1, hz]; rfl⟩
    | succ l =>
      have hl : l < nl mc := by omega
      obtain ⟨l0, l1, l2, l3, l4, l5, l6, l7, l8, l9, -⟩ := hL l hl
      exact ⟨by omega, rfl, hl, by rw [g1, hz]; rfl, l4, rfl⟩
theorem RR.w26 {n k : Nat} {mc mm : Mem} {v : Int32} (h : RR n mc mm) : RR n (sI mc 26 0 k v) mm := by
  obtain ⟨hT, hF, hL0, hL, hLc, hLg, hSb, hSs, hB, hP, hN, hG0, hG, hGd, hGw, hPw, hPa, hNa, hA, hTa, hR, hS, hW0, hW⟩ := h
  exact ⟨hT, hF, hL0, hL, hLc, hLg, hSb, hSs, hB, hP, hN, hG0, hG, hGd, hGw, hPw, hPa, hNa, hA, hTa, hR, hS, hW0, hW⟩
theorem RR.w27 {n k : Nat} {mc mm : Mem} {v : Int32} (h : RR n mc mm) : RR n (sI mc 27 0 k v) mm := by
  obtain ⟨hT, hF, hL0, hL, hLc, hLg, hSb, hSs, hB, hP, hN, hG0, hG, hGd, hGw, hPw, hPa, hNa, hA, hTa, hR, hS, hW0, hW⟩ := h
  exact ⟨hT, hF, hL0, hL, hLc, hLg, hSb, hSs, hB, hP, hN, hG0, hG, hGd, hGw, hPw, hPa, hNa, hA, hTa, hR, hS, hW0, hW⟩
theorem RR.w28 {n k : Nat} {mc mm : Mem} {v : Int32} (h : RR n mc mm) : RR n (sI mc 28 0 k v) mm := by
  obtain ⟨hT, hF, hL0, hL, hLc, hLg, hSb, hSs, hB, hP, hN, hG0, hG, hGd, hGw, hPw, hPa, hNa, hA, hTa, hR, hS, hW0, hW⟩ := h
  exact ⟨hT, hF, hL0, hL, hLc, hLg, hSb, hSs, hB, hP, hN, hG0, hG, hGd, hGw, hPw, hPa, hNa, hA, hTa, hR, hS, hW0, hW⟩
theorem RR.w29 {n k : Nat} {mc mm : Mem} {v : Int32} (h : RR n mc mm) : RR n (sI mc 29 0 k v) mm := by
  obtain ⟨hT, hF, hL0, hL, hLc, hLg, hSb, hSs, hB, hP, hN, hG0, hG, hGd, hGw, hPw, hPa, hNa, hA, hTa, hR, hS, hW0, hW⟩ := h
  exact ⟨hT, hF, hL0, hL, hLc, hLg, hSb, hSs, hB, hP, hN, hG0, hG, hGd, hGw, hPw, hPa, hNa, hA, hTa, hR, hS, hW0, hW⟩
theorem RR.v29 {n k : Nat} {mc mm : Mem} {v : Int32} (h : RR n mc mm) : RR n mc (sI mm 29 0 k v) := by
  obtain ⟨hT, hF, hL0, hL, hLc, hLg, hSb, hSs, hB, hP, hN, hG0, hG, hGd, hGw, hPw, hPa, hNa, hA, hTa, hR, hS, hW0, hW⟩ := h
  exact ⟨hT, hF, hL0, hL, hLc, hLg, hSb, hSs, hB, hP, hN, hG0, hG, hGd, hGw, hPw, hPa, hNa, hA, hTa, hR, hS, hW0, hW⟩
theorem RR.v30 {n k : Nat} {mc mm : Mem} {v : Int32} (h : RR n mc mm) : RR n mc (sI mm 30 0 k v) := by
  obtain ⟨hT, hF, hL0, hL, hLc, hLg, hSb, hSs, hB, hP, hN, hG0, hG, hGd, hGw, hPw, hPa, hNa, hA, hTa, hR, hS, hW0, hW⟩ := h
  exact ⟨hT, hF, hL0, hL, hLc, hLg, hSb, hSs, hB, hP, hN, hG0, hG, hGd, hGw, hPw, hPa, hNa, hA, hTa, hR, hS, hW0, hW⟩
theorem RR.v31 {n k : Nat} {mc mm : Mem} {v : Int32} (h : RR n mc mm) : RR n mc (sI mm 31 0 k v) := by
  obtain ⟨hT, hF, hL0, hL, hLc, hLg, hSb, hSs, hB, hP, hN, hG0, hG, hGd, hGw, hPw, hPa, hNa, hA, hTa, hR, hS, hW0, hW⟩ := h
  exact ⟨hT, hF, hL0, hL, hLc, hLg, hSb, hSs, hB, hP, hN, hG0, hG, hGd, hGw, hPw, hPa, hNa, hA, hTa, hR, hS, hW0, hW⟩
section WAT
variable {pn : Nat → Nat} {gt : Nat → Option Nat} {vv ld W C K : Nat → Int32} {rn : Int32} {r h : Nat}
def w1 (pn : Nat → Nat) (rn : Int32) (W C : Nat → Int32) (j : Nat) : Int32 := if pn j = 0 then W j else W j + (rn * nI (pn j) / 8 + C j)
def tk (pn : Nat → Nat) (gt : Nat → Option Nat) (vv : Nat → Int32) (rn : Int32) (W C : Nat → Int32) (j : Nat) : Int32 := if pn j = 0 then 0 else match gt j with
  | none => 0
  | some _ => jmin (w1 pn rn W C j) (vv j)
def w2 (pn : Nat → Nat) (gt : Nat → Option Nat) (vv : Nat → Int32) (rn : Int32) (W C : Nat → Int32) (j : Nat) : Int32 := w1 pn rn W C j - tk pn gt vv rn W C j
def snt (pn : Nat → Nat) (gt : Nat → Option Nat) (vv ld : Nat → Int32) (rn : Int32) (W C : Nat → Int32) : Nat → Nat → Int32
  | 0, _ => 0
  | k + 1, j => if ld k = nI j then snt pn gt vv ld rn W C k j + tk pn gt vv rn W C k else snt pn gt vv ld rn W C k j
def k2 (pn : Nat → Nat) (gt : Nat → Option Nat) (vv : Nat → Int32) (rn : Int32) (W C K : Nat → Int32) (j : Nat) : Int32 := if (w2 pn gt vv rn W C j).toInt ≤ 50 then K j else K j + (w2 pn gt vv rn W C j - 50)
def wrg (pn : Nat → Nat) (W C : Nat → Int32) (h : Nat) : Prop := ∀ j, j < 30 → rg (W j) 0 (31000 * h) ∧ rg (C j) 0 30000 ∧ (pn j = 0 → W j = 0)
theorem w1_rg (hp : ∀ j, j < 30 → pn j ≤ 24) (hr : r ≤ 99) (hh : h ≤ 24) (hw : wrg pn W C h) {j : Nat} (hj : j < 30) : rg (w1 pn (nI r) W C j) 0 (31000 * h + 30300) := by
  obtain ⟨⟨a1, a2⟩, ⟨a3, a4⟩, -⟩ := hw j hj
  have p1 := hp j hj
  unfold w1
  split
  · exact ⟨a1, by omega⟩
  · have e1 : nI r * nI (pn j) / 8 = nI (r * pn j / 8) := by
      have p2 : r * pn j ≤ 99 * 24 := Nat.mul_le_mul hr p1
      rw [pk_mul]
      exact pk_div (d := 8) (by omega) (by decide) (by decide)
    have p2 : r * pn j ≤ 99 * 24 := Nat.mul_le_mul hr p1
    have e2 := nI_toInt (n := r * pn j / 8) (by omega)
    have e3 : (nI (r * pn j / 8) + C j).toInt = (nI (r * pn j / 8)).toInt + (C j).toInt := add_rg (by omega) (by omega)
    have e4 : (W j + (nI (r * pn j / 8) + C j)).toInt = (W j).toInt + (nI (r * pn j / 8) + C j).toInt := add_rg (by omega) (by omega)
    rw [e1]
    exact ⟨by omega, by omega⟩
theorem jmin_rg {x y : Int32} (h1 : 0 ≤ x.toInt) (h2 : rg y 0 999) : rg (jmin x y) 0 999 ∧ (jmin x y).toInt ≤ x.toInt := by
  have := rg_i h2
  unfold jmin
  split
  · rename_i c
    rw [Int32.lt_iff_toInt_lt] at c
    exact ⟨h2, by omega⟩
  · rename_i c
    rw [Int32.lt_iff_toInt_lt] at c
    exact ⟨⟨h1, by omega⟩, by omega⟩
theorem tk_rg (hp : ∀ j, j < 30 → pn j ≤ 24) (hv : ∀ j, j < 30 → rg (vv j) 0 999) (hr : r ≤ 99) (hh : h ≤ 24) (hw : wrg pn W C h) {j : Nat} (hj : j < 30) : rg (tk pn gt vv (nI r) W C j) 0 999 ∧ (tk pn gt vv (nI r) W C j).toInt ≤ (w1 pn (nI r) W C j).toInt := by
  have q := w1_rg hp hr hh hw hj
  have z : rg (0 : Int32) 0 999 := ⟨by decide, by decide⟩
  have z0 : (0 : Int32).toInt = 0 := rfl
  unfold tk
  split
  · exact ⟨z, by rw [z0]; exact q.1⟩
  · cases gt j with
    | none => exact ⟨z, by show (0 : Int32).toInt ≤ _; rw [z0]; exact q.1⟩
    | some l => exact jmin_rg q.1 (hv j hj)
theorem w2_rg (hp : ∀ j, j < 30 → pn j ≤ 24) (hv : ∀ j, j < 30 → rg (vv j) 0 999) (hr : r ≤ 99) (hh : h < 24) (hw : wrg pn W C h) {j : Nat} (hj : j < 30) : rg (w2 pn gt vv (nI r) W C j) 0 (31000 * (h + 1)) := by
  have q := rg_i (w1_rg hp hr (by omega) hw hj)
  obtain ⟨t1, t2⟩ := tk_rg (gt := gt) hp hv hr (by omega) hw hj
  have t1 := rg_i t1
  have e : (w2 pn gt vv (nI r) W C j).toInt = (w1 pn (nI r) W C j).toInt - (tk pn gt vv (nI r) W C j).toInt := sub_rg (by omega) (by omega)
  exact ⟨by omega, by omega⟩
theorem snt_rg (hp : ∀ j, j < 30 → pn j ≤ 24) (hv : ∀ j, j < 30 → rg (vv j) 0 999) (hr : r ≤ 99) (hh : h ≤ 24) (hw : wrg pn W C h) {j : Nat} : ∀ k, k ≤ 30 → rg (snt pn gt vv ld (nI r) W C k j) 0 (1000 * k) := by
  intro k
  induction k with
  | zero => intro _; exact ⟨by show 0 ≤ (0 : Int32).toInt; decide, by show (0 : Int32).toInt ≤ _; decide⟩
  | succ k ih =>
    intro hk
    have y := rg_i (ih (by omega))
    obtain ⟨t1, -⟩ := tk_rg (gt := gt) hp hv hr hh hw (show k < 30 by omega)
    have t1 := rg_i t1
    show rg (if ld k = nI j then snt pn gt vv ld (nI r) W C k j + tk pn gt vv (nI r) W C k else snt pn gt vv ld (nI r) W C k j) 0 _
    split
    · have e : (snt pn gt vv ld (nI r) W C k j + tk pn gt vv (nI r) W C k).toInt = (snt pn gt vv ld (nI r) W C k j).toInt + (tk pn gt vv (nI r) W C k).toInt := add_rg (by omega) (by omega)
      exact ⟨by omega, by omega⟩
    · exact ⟨by omega, by omega⟩
theorem wrg_next (hp : ∀ j, j < 30 → pn j ≤ 24) (hv : ∀ j, j < 30 → rg (vv j) 0 999) (hr : r ≤ 99) (hh : h < 24) (hw : wrg pn W C h) : wrg pn (w2 pn gt vv (nI r) W C) (snt pn gt vv ld (nI r) W C 30) (h + 1) := by
  intro j hj
  refine ⟨w2_rg hp hv hr hh hw hj, ?_, fun z => ?_⟩
  · have := snt_rg (gt := gt) (ld := ld) hp hv hr (by omega) hw (j := j) 30 (by omega)
    exact ⟨this.1, Int.le_trans this.2 (by omega)⟩
  · unfold w2 w1 tk
    rw [if_pos z, if_pos z, (hw j hj).2.2 z]; rfl
/-- without panes nothing moves -/
theorem w2_0 {j : Nat} (z : pn j = 0) : w2 pn gt vv rn W C j = W j := by
  unfold w2 w1 tk
  rw [if_pos z, if_pos z, Int32.sub_zero]
theorem w1_0 {j : Nat} (z : pn j = 0) : w1 pn rn W C j = W j := by
  unfold w1
  rw [if_pos z]
theorem snt_0 {k : Nat} (z : tk pn gt vv rn W C k = 0) : snt pn gt vv ld rn W C (k + 1) = snt pn gt vv ld rn W C k := by
  funext j
  show (if ld k = nI j then snt pn gt vv ld rn W C k j + tk pn gt vv rn W C k else snt pn gt vv ld rn W C k j) = _
  rw [z, Int32.add_zero]
  split <;> rfl
theorem snt_u {k d : Nat} (hd : d < 30) (z : ld k = nI d) {f : Nat → Int32} (hf : ∀ j, j < 30 → f j = snt pn gt vv ld rn W C k j) : ∀ j, j < 30 → uw f d (f d + tk pn gt vv rn W C k) j = snt pn gt vv ld rn W C (k + 1) j := by
  intro j hj
  show (if j = d then _ else _) = (if ld k = nI j then snt pn gt vv ld rn W C k j + tk pn gt vv rn W C k else snt pn gt vv ld rn W C k j)
  by_cases c : j = d
  · rw [if_pos c, z, if_pos (by rw [c]), hf d hd, c]
  · rw [if_neg c, z, if_neg (fun q => c ((nI_eq (by omega) (by omega)).mp q).symm)]
    exact hf j hj
theorem snt_n {k : Nat} (z : (ld k).toInt < 0) {f : Nat → Int32} (hf : ∀ j, j < 30 → f j = snt pn gt vv ld rn W C k j) : ∀ j, j < 30 → f j = snt pn gt vv ld rn W C (k + 1) j := by
  intro j hj
  show _ = (if ld k = nI j then snt pn gt vv ld rn W C k j + tk pn gt vv rn W C k else snt pn gt vv ld rn W C k j)
  rw [if_neg (fun q => by rw [q, nI_toInt (by omega)] at z; omega)]
  exact hf j hj
end WAT
theorem ld_c {x : Int32} (h : rg x (-1) 29) : x.toInt < 0 ∨ ∃ d, d < 30 ∧ x = nI d := by
  obtain ⟨h1, h2⟩ := h
  by_cases c : x.toInt < 0
  · exact Or.inl c
  · obtain ⟨d, d1, d2⟩ := vp_in_of (x := x) (n := 30) (vp_in_iff.mpr (by omega)) (by omega)
    exact Or.inr ⟨d, d1, d2⟩
/-- the class's drain -/
theorem drain_11 {fl k : Nat} {m mm : Mem} {pn : Nat → Nat} {gt : Nat → Option Nat} {vv ld : Nat → Int32} (hk : k < 30) (hw : wfx m mm pn gt vv ld) {t : Int32} (ht : t = match gt k with | none => 0 | some _ => jmin (gI m 26 0 k) (vv k)) : f_X10_drain fl (k + 1) (nI k) m = some (if (ld k).toInt < 0 then sI m 26 0 k (gI m 26 0 k - t) else sI (sI m 26 0 k (gI m 26 0 k - t)) 29 0 (ld k).toNatClampNeg (gI m 29 0 (ld k).toNatClampNeg + t)) := by
  obtain ⟨x1, x2, x3, x4, x5, x6, x7, x8⟩ := hw k hk
  have e1 := nI_toInt (n := k) (by omega)
  have e2 := nI_clamp (n := k) (by omega)
  have av : vq (nI k) 30 := by rw [vq_i, e1]; omega
  have la : f_X1_latestAt fl k 4 m = some (gR m 14 k 4, m) := by
    unfold f_X1_latestAt
    rw [if_neg (by decide), if_neg (by decide), if_neg (by decide), asr_t (by decide)]
    rfl
  have q : (bn2 (
    if gR m 14 k 4 = 0 then
      some ((0 : Int32), m)
    else
      asr (vq (nI k) 30) <|
      drf (gR m 999 23 0) (gR m 14 k 4) fun j21 =>
      some ((jmin (gI m 26 0 (Int32.toNatClampNeg (nI k))) (gI m 23 j21 4)), m)) fun (q6 : Int32) m7 => f_X10_drain_b27 fl (k + 1) (nI k) q6 m7) = f_X10_drain_b27 fl (k + 1) (nI k) t m := by
    cases hg : gt k with
    | none =>
      rw [hg] at x8 ht
      rw [if_pos x8.1, bn2_e, ht]
    | some l =>
      rw [hg] at x8 ht
      obtain ⟨y1, y2, y3, y4, y5, y6⟩ := x8
      rw [y2, if_neg (by omega), asr_t av, drf_e y3, bn2_e, e2, y5, ht]
  unfold f_X10_drain
  rw [drf_e hk, la, bn2_e, q]
  unfold f_X10_drain_b27
  have r5 : gI (sI m 26 0 k (gI m 26 0 k - t)) 13 k 5 = ld k := x4
  rw [asr_t av, asr_t av, e2, lt1_e, drf_e hk, r5]
  rcases ld_c x6 with c | ⟨d, d1, d2⟩
  · rw [if_pos (Int32.lt_iff_toInt_lt.mpr (by rw [t_0]; exact c)), if_pos c]
  · have e3 := nI_toInt (n := d) (by omega)
    have av2 : vq (ld k) 30 := by rw [d2, vq_i, e3]; omega
    rw [if_neg (fun c => by rw [Int32.lt_iff_toInt_lt, d2, e3, t_0] at c; omega), if_neg (fun c => by rw [Int32.le_iff_toInt_le, d2, e3] at c; have c : (30 : Int) ≤ d := c; omega), asr_t av2, asr_t av2, lt1_e, if_neg (by rw [d2, e3]; omega)]
    rfl
theorem runH_l {fl n r h : Nat} {mm : Mem} {pn : Nat → Nat} {gt : Nat → Option Nat} {vv ld W C K R : Nat → Int32} (hr : r ≤ 99) (hh : h < 24) (hwr : wrg pn W C h) : ∀ (N k : Nat) (mc : Mem), RR n mc mm → wfx mc mm pn gt vv ld → k ≤ 30 → 31 ≤ N + k → (∀ j, j < 24 → gI mc 25 0 j = R j) →
    (∀ j, j < 30 → gI mc 26 0 j = (if j < k then w2 pn gt vv (nI r) W C j else W j) ∧ gI mc 28 0 j = C j ∧ gI mc 27 0 j = (if j < k then k2 pn gt vv (nI r) W C K j else K j) ∧ gI mc 29 0 j = snt pn gt vv ld (nI r) W C k j) →
    ∃ mc', f_X10_runHour_l23 fl (nI r) N (nI k) mc = some mc' ∧ RR n mc' mm ∧ wfx mc' mm pn gt vv ld ∧ (∀ j, j < 24 → gI mc' 25 0 j = R j) ∧ ∀ j, j < 30 → gI mc' 26 0 j = w2 pn gt vv (nI r) W C j ∧ gI mc' 28 0 j = C j ∧ gI mc' 27 0 j = k2 pn gt vv (nI r) W C K j ∧ gI mc' 29 0 j = snt pn gt vv ld (nI r) W C 30 j := by
  intro N
  induction N with
  | zero => intro k mc h0 hw h1 h2; omega
  | succ N ih =>
    intro k mc h0 hw h1 h2 h25 hst
    have e1 := nI_toInt (n := k) (by omega)
    have e2 := nI_clamp (n := k) (by omega)
    show ∃ mc', f_X10_runHour_l23_b (f_X10_runHour_l23 fl (nI r) N) fl (nI r) (nI k) mc = some mc' ∧ _
    unfold f_X10_runHour_l23_b
    by_cases c : k = 30
    · subst c
      refine ⟨mc, by rw [if_pos (by rw [Int32.le_iff_toInt_le, e1]; decide)], h0, hw, h25, fun j hj => ?_⟩
      have := hst j hj
      rw [if_pos hj, if_pos hj] at this
      exact this
    · obtain ⟨x1, x2, x3, x4, x5, x6, x7, x8⟩ := hw k (by omega)
      have hp : ∀ j, j < 30 → pn j ≤ 24 := fun j hj => (hw j hj).2.2.1
      have hv : ∀ j, j < 30 → rg (vv j) 0 999 := fun j hj => (hw j hj).2.2.2.2.2.2.1
      have ip := nI_toInt (n := pn k) (by omega)
      have av : vq (nI k) 30 := by rw [vq_i, e1]; omega
      obtain ⟨s1, s2, s3, s4⟩ := hst k (by omega)
      rw [if_neg (by omega)] at s1 s3
      rw [if_neg (by rw [Int32.le_iff_toInt_le, e1]; show ¬ (30 : Int) ≤ k; omega), if_neg (by rw [Int32.le_iff_toInt_le, e1]; show ¬ (30 : Int) ≤ k; omega), asr_t av]
      simp only [e2, x1]
      by_cases z : pn k = 0
      · obtain ⟨mc', y⟩ := ih (k + 1) mc h0 hw (by omega) (by omega) h25 (by
          intro j hj
          obtain ⟨q1, q2, q3, q4⟩ := hst j hj
          have zt : tk pn gt vv (nI r) W C k = 0 := by unfold tk; rw [if_pos z]
          have zw := (hwr k (by omega)).2.2 z
          rw [snt_0 zt]
          by_cases d : j = k
          · subst d
            rw [if_pos (by omega), if_pos (by omega), w2_0 z]
            refine ⟨s1, q2, ?_, q4⟩
            unfold k2
            rw [w2_0 z, zw, if_pos (by decide)]; exact s3
          · refine ⟨?_, q2, ?_, q4⟩
            · rw [q1]; by_cases g : j < k
              · rw [if_pos g, if_pos (by omega)]
              · rw [if_neg g, if_neg (by omega)]
            · rw [q3]; by_cases g : j < k
              · rw [if_pos g, if_pos (by omega)]
              · rw [if_neg g, if_neg (by omega)])
        rw [← nI_1] at y
        refine ⟨mc', ?_, y.2⟩
        rw [z, if_pos (by decide), lt1_e]
        exact y.1
      · have ew : gI mc 26 0 k + (nI r * nI (pn k) / 8 + gI mc 28 0 k) = w1 pn (nI r) W C k := by
          unfold w1
          rw [if_neg z, s1, s2]
        have et : tk pn gt vv (nI r) W C k = match gt k with | none => 0 | some _ => jmin (gI (sI mc 26 0 k (w1 pn (nI r) W C k)) 26 0 k) (vv k) := by
          unfold tk
          rw [if_neg z, gI_sI, if_pos ⟨rfl, rfl, rfl⟩]
        have hd := drain_11 (fl := fl) (k := k) (m := sI mc 26 0 k (w1 pn (nI r) W C k)) (mm := mm) (by omega) (show wfx (sI mc 26 0 k (w1 pn (nI r) W C k)) mm pn gt vv ld from hw) et
        have g26 : gI (sI mc 26 0 k (w1 pn (nI r) W C k)) 26 0 k = w1 pn (nI r) W C k := by rw [gI_sI, if_pos ⟨rfl, rfl, rfl⟩]
        rw [g26, show w1 pn (nI r) W C k - tk pn gt vv (nI r) W C k = w2 pn gt vv (nI r) W C k from rfl] at hd
        have hr2 := rg_i (w2_rg (gt := gt) hp hv hr hh hwr (show k < 30 by omega))
        have ek : K k + jmax 0 (w2 pn gt vv (nI r) W C k - 50) = k2 pn gt vv (nI r) W C K k := by
          have e50 : (w2 pn gt vv (nI r) W C k - 50).toInt = (w2 pn gt vv (nI r) W C k).toInt - 50 := sub_rg (y := 50) (by omega) (by decide)
          unfold k2 jmax
          by_cases g : (w2 pn gt vv (nI r) W C k).toInt ≤ 50
          · rw [if_pos g]
            by_cases g2 : (0 : Int32) < w2 pn gt vv (nI r) W C k - 50
            · rw [Int32.lt_iff_toInt_lt, t_0] at g2; omega
            · rw [if_neg g2, Int32.add_zero]
          · rw [if_neg g, if_pos (by rw [Int32.lt_iff_toInt_lt, t_0]; omega)]
        rw [if_neg (by rw [Int32.le_iff_toInt_le, ip, t_0]; omega), asr_t av, asr_t av, asr_t av, lt1_e, ew, hd, bn1_e, asr_t av, asr_t av, asr_t av, lt1_e, lt1_e]
        rcases ld_c x6 with dn | ⟨d, d1, d2⟩
        · rw [if_pos dn]
          simp only [gI_sI, eq_self, and_self, if_true, show ¬ (27 : Nat) = 26 by decide, false_and, if_false]
          rw [s3, ek]
          obtain ⟨mc', y⟩ := ih (k + 1) (sI (sI (sI mc 26 0 k (w1 pn (nI r) W C k)) 26 0 k (w2 pn gt vv (nI r) W C k)) 27 0 k (k2 pn gt vv (nI r) W C K k)) h0.w26.w26.w27 hw (by omega) (by omega) h25 (by
            intro j hj
            obtain ⟨q1, q2, q3, q4⟩ := hst j hj
            have sn := snt_n (pn := pn) (gt := gt) (vv := vv) (rn := nI r) (W := W) (C := C) dn (f := snt pn gt vv ld (nI r) W C k) (fun _ _ => rfl) j hj
            simp only [gI_sI, show ¬ (26 : Nat) = 27 by decide, show ¬ (28 : Nat) = 27 by decide, show ¬ (28 : Nat) = 26 by decide, show ¬ (27 : Nat) = 26 by decide, show ¬ (29 : Nat) = 27 by decide, show ¬ (29 : Nat) = 26 by decide, false_and, if_false, true_and]
            by_cases g : j = k
            · subst g
              rw [if_pos rfl, if_pos rfl, if_pos (by omega), if_pos (by omega), ← sn]
              exact ⟨rfl, q2, rfl, q4⟩
            · rw [if_neg g, if_neg g, if_neg g, ← sn]
              refine ⟨?_, q2, ?_, q4⟩
              · rw [q1]; by_cases g2 : j < k
                · rw [if_pos g2, if_pos (by omega)]
                · rw [if_neg g2, if_neg (by omega)]
              · rw [q3]; by_cases g2 : j < k
                · rw [if_pos g2, if_pos (by omega)]
                · rw [if_neg g2, if_neg (by omega)])
          rw [← nI_1] at y
          exact ⟨mc', y.1, y.2⟩
        · have e3 := nI_toInt (n := d) (by omega)
          have e4 := nI_clamp (n := d) (by omega)
          rw [if_neg (by rw [d2, e3]; omega), d2, e4]
          simp only [gI_sI, eq_self, and_self, if_true, show ¬ (27 : Nat) = 29 by decide, show ¬ (26 : Nat) = 29 by decide, show ¬ (29 : Nat) = 26 by decide, show ¬ (27 : Nat) = 26 by decide, false_and, if_false]
          rw [s3, ek]
          obtain ⟨mc', y⟩ := ih (k + 1) (sI (sI (sI (sI mc 26 0 k (w1 pn (nI r) W C k)) 26 0 k (w2 pn gt vv (nI r) W C k)) 29 0 d (gI mc 29 0 d + tk pn gt vv (nI r) W C k)) 27 0 k (k2 pn gt vv (nI r) W C K k)) h0.w26.w26.w29.w27 hw (by omega) (by omega) h25 (by
            intro j hj
            obtain ⟨q1, q2, q3, q4⟩ := hst j hj
            have sn := snt_u (pn := pn) (gt := gt) (vv := vv) (rn := nI r) (W := W) (C := C) d1 d2 (f := gI mc 29 0) (fun j hj => (hst j hj).2.2.2) j hj
            simp only [gI_sI, show ¬ (26 : Nat) = 27 by decide, show ¬ (26 : Nat) = 29 by decide, show ¬ (28 : Nat) = 27 by decide, show ¬ (28 : Nat) = 29 by decide, show ¬ (28 : Nat) = 26 by decide, show ¬ (27 : Nat) = 26 by decide, show ¬ (27 : Nat) = 29 by decide, show ¬ (29 : Nat) = 27 by decide, show ¬ (29 : Nat) = 26 by decide, false_and, if_false, true_and]
            refine ⟨?_, q2, ?_, sn⟩
            · by_cases g : j = k
              · subst g
                rw [if_pos rfl, if_pos (by omega)]
              · rw [if_neg g, if_neg g, q1]
                by_cases g2 : j < k
                · rw [if_pos g2, if_pos (by omega)]
                · rw [if_neg g2, if_neg (by omega)]
            · by_cases g : j = k
              · subst g
                rw [if_pos rfl, if_pos (by omega)]
              · rw [if_neg g, q3]
                by_cases g2 : j < k
                · rw [if_pos g2, if_pos (by omega)]
                · rw [if_neg g2, if_neg (by omega)])
          rw [← nI_1] at y
          exact ⟨mc', y.1, y.2⟩
