/-! the reference reads words and clauses -/
def chs (g : Int32) : List Int → Prop
  | [] => True
  | c :: L => (96 + (jshr g (5 * nI L.length) &&& 31)).toInt = c ∧ 0 ≤ c ∧ c ≤ 127 ∧ chs g L
theorem mt_app {U : Nat → Int32} {n : Nat} {x : Int} : ∀ (L : List Int) (p : Nat), mt5 U n (L ++ [x]) p = if mt5 U n L p = L.length then L.length + (if lk U n (p + L.length) = x then 1 else 0) else mt5 U n L p := by
  intro L
  induction L with
  | nil =>
    intro p
    show (if lk U n p = x then 0 + 1 else 0) = if (0 : Nat) = 0 then 0 + (if lk U n (p + 0) = x then 1 else 0) else 0
    rw [if_pos rfl]
    by_cases c : lk U n p = x
    · rw [if_pos c, if_pos (show lk U n (p + 0) = x from c)]
    · rw [if_neg c, if_neg (show ¬ lk U n (p + 0) = x from c)]
  | cons c L ih =>
    intro p
    show (if lk U n p = c then mt5 U n (L ++ [x]) (p + 1) + 1 else 0) = if (if lk U n p = c then mt5 U n L (p + 1) + 1 else 0) = L.length + 1 then L.length + 1 + (if lk U n (p + (L.length + 1)) = x then 1 else 0) else (if lk U n p = c then mt5 U n L (p + 1) + 1 else 0)
    rw [ih, show p + 1 + L.length = p + (L.length + 1) by omega]
    have := mt_le (U := U) (n := n) L (p + 1)
    by_cases d : lk U n p = c
    · simp only [if_pos d]
      by_cases e : mt5 U n L (p + 1) = L.length
      · rw [if_pos e, if_pos (show mt5 U n L (p + 1) + 1 = L.length + 1 by omega)]; omega
      · rw [if_neg e, if_neg (show ¬ mt5 U n L (p + 1) + 1 = L.length + 1 by omega)]
    · simp only [if_neg d]
      rw [if_neg (show ¬ (0 : Nat) = L.length + 1 by omega)]
section WM
variable {fl n bs : Nat} {m : Mem} {cl dg wt pl op : Int32} {wa pi pa na ha U : Nat → Int32}
theorem takes_M (h : rdt m U n bs) {p : Nat} {c : Int32} (hp : p ≤ 500) (hc : 0 ≤ c.toInt ∧ c.toInt ≤ 127) : f_X12_takes fl c (GM m (nI p) cl dg wt pl op wa pi pa na ha) = if lk U n p = c.toInt then some (1, GM m (nI (p + 1)) cl dg wt pl op wa pi pa na ha) else some (0, GM m (nI p) cl dg wt pl op wa pi pa na ha) := by
  have e := ji_eq (n := n) (p := p) h.2.2.2.2.2 hc
  unfold f_X12_takes
  rw [next_M h (by omega), bn2_e]
  by_cases d : lk U n p = c.toInt
  · rw [if_pos (e.mpr d), if_pos d, lt1_e, gI_Gat, sI_Gat, nI_1]
  · rw [if_neg (fun q => d (e.mp q)), if_neg d]
theorem wrd_l (h : rdt m U n bs) {g : Int32} : ∀ (L : List Int) (N p : Nat), chs g L → L.length + 1 ≤ N → L.length ≤ 100 → p + L.length ≤ 400 → f_X12_takesWord_l4 fl g N (nI L.length + (-1)) (GM m (nI p) cl dg wt pl op wa pi pa na ha) = if mt5 U n L p = L.length then some (1, GM m (nI (p + L.length)) cl dg wt pl op wa pi pa na ha) else some (0, GM m (nI (p + mt5 U n L p)) cl dg wt pl op wa pi pa na ha) := by
  intro L
  induction L with
  | nil =>
    intro N p h1 h2 h3 h4
    obtain ⟨N', rfl⟩ : ∃ N', N = N' + 1 := ⟨N - 1, by omega⟩
    rfl
  | cons c L ih =>
    intro N p h1 h2 h3 h4
    obtain ⟨N', rfl⟩ : ∃ N', N = N' + 1 := ⟨N - 1, by omega⟩
    obtain ⟨c1, c2, c3, c4⟩ := h1
    replace h2 : L.length + 1 + 1 ≤ N' + 1 := h2
    replace h3 : L.length + 1 ≤ 100 := h3
    replace h4 : p + (L.length + 1) ≤ 400 := h4
    have e1 := nI_toInt (n := L.length) (by omega)
    have e2 : nI (c :: L).length + (-1) = nI L.length := pk_m1 L.length
    have e3 : (c :: L).length = L.length + 1 := rfl
    show f_X12_takesWord_l4_b (f_X12_takesWord_l4 fl g N') fl g _ _ = _
    unfold f_X12_takesWord_l4_b
    rw [e2, if_neg (by rw [Int32.lt_iff_toInt_lt, e1, t_0]; omega), takes_M h (by omega) (by rw [c1]; omega), c1, mt_c, e3]
    by_cases d : lk U n p = c
    · have y := ih N' (p + 1) c4 (by omega) (by omega) (by omega)
      rw [if_pos d, if_pos d, bn2_e, if_neg (by decide), lt1_e, y, show p + 1 + L.length = p + (L.length + 1) by omega]
      by_cases e : mt5 U n L (p + 1) = L.length
      · rw [if_pos e, if_pos (by omega)]
      · rw [if_neg e, if_neg (by omega), show p + 1 + mt5 U n L (p + 1) = p + (mt5 U n L (p + 1) + 1) by omega]
    · rw [if_neg d, if_neg d, bn2_e, if_pos rfl, if_neg (by omega)]
      rfl
theorem tword_M (hfl : 1000 ≤ fl) (h : rdt m U n bs) {g l : Int32} {L : List Int} {p : Nat} (hg : chs g L) (hl : l - 1 = nI L.length + (-1)) (hL : L.length ≤ 5) (hp : p ≤ 200) : f_X12_takesWord fl g l (GM m (nI p) cl dg wt pl op wa pi pa na ha) = if mt5 U n (L ++ [32]) p = L.length + 1 then some (1, GM m (nI (p + (L.length + 1))) cl dg wt pl op wa pi pa na ha) else some (0, GM m (nI (p + mt5 U n (L ++ [32]) p)) cl dg wt pl op wa pi pa na ha) := by
  have hm := mt_le (U := U) (n := n) L p
  unfold f_X12_takesWord
  rw [lt1_e, hl, wrd_l h L fl p hg (by omega) (by omega) (by omega), mt_app]
  by_cases e : mt5 U n L p = L.length
  · rw [if_pos e, bn2_e, if_neg (by decide), takes_M h (by omega) (by decide), show (32 : Int32).toInt = 32 from rfl, if_pos e]
    by_cases d : lk U n (p + L.length) = 32
    · rw [if_pos d, if_pos d, bn2_e, if_pos rfl, Nat.add_assoc]; rfl
    · rw [if_neg d, if_neg d, bn2_e, if_neg (by omega)]; rfl
  · rw [if_neg e, bn2_e, if_pos rfl, if_neg e, if_neg (by omega)]
theorem pW_val {p : Nat} : pWord U n p = if mtw U n 0 p = 5 then .inr 0 else if mtw U n 1 p = 4 then .inr 1 else if mtw U n 2 p = 5 then .inr 2 else if mtw U n 3 p = 5 then .inr 3 else if mtw U n 4 p = 4 then .inr 4 else if mtw U n 5 p = 4 then .inr 5 else .inl (p + max (max (max (max (max (max 0 (mtw U n 0 p)) (mtw U n 1 p)) (mtw U n 2 p)) (mtw U n 3 p)) (mtw U n 4 p)) (mtw U n 5 p)) := rfl
theorem mtw_0 {w p : Nat} {c : Int} {L : List Int} (hw : wdl w = c :: L) (h : ¬ lk U n p = c) : mtw U n w p = 0 := by
  unfold mtw
  rw [hw, mt_c, if_neg h]
/-- what the reference answers to a word that stands or not -/
def mresW (m : Mem) (cl dg wt pl op : Int32) (wa pi pa na ha : Nat → Int32) (p : Nat) : Nat ⊕ Nat → Option (Int32 × Mem)
  | .inl q => some (-1, GM m (nI q) cl dg wt pl op wa pi pa na ha)
  | .inr w => some (nI w, GM m (nI (p + (wdl w).length)) cl dg wt pl op wa pi pa na ha)
theorem any_M (hfl : 1000 ≤ fl) (h : rdt m U n bs) {p : Nat} (hp : p ≤ n) : f_X12_takesAnyWord fl (GM m (nI p) cl dg wt pl op wa pi pa na ha) = mresW m cl dg wt pl op wa pi pa na ha p (pWord U n p) := by
  have hn := h.1
  have hU := h.2.2.2.2.2
  obtain ⟨h1, h2, h3, h4, h5, -⟩ := h
  have i1 := nI_toInt (n := p + 2) (by omega)
  have i2 := nI_toInt (n := n) (by omega)
  have i3 := nI_toInt (n := bs + p + 2) (by omega)
  have i4 := nI_clamp (n := bs + p + 2) (by omega)
  have third : (if (gI (GM m (nI p) cl dg wt pl op wa pi pa na ha) 0 0 31) ≤ ((gI (GM m (nI p) cl dg wt pl op wa pi pa na ha) 0 0 32) + 2) then
      some ((-1 : Int32), GM m (nI p) cl dg wt pl op wa pi pa na ha)
    else
      asr (vq (((gI (GM m (nI p) cl dg wt pl op wa pi pa na ha) 0 0 30) + (gI (GM m (nI p) cl dg wt pl op wa pi pa na ha) 0 0 32)) + 2) 1100) <|
      some ((gI (GM m (nI p) cl dg wt pl op wa pi pa na ha) 20 0 (Int32.toNatClampNeg (((gI (GM m (nI p) cl dg wt pl op wa pi pa na ha) 0 0 30) + (gI (GM m (nI p) cl dg wt pl op wa pi pa na ha) 0 0 32)) + 2))), GM m (nI p) cl dg wt pl op wa pi pa na ha)) = some (ji2b (ck U n (p + 2)), GM m (nI p) cl dg wt pl op wa pi pa na ha) := by
    rw [gI_G31, gI_Gat, gI_G30, h3, h4, show nI p + 2 = nI (p + 2) from nI_add p 2, nI_add bs p, show nI (bs + p) + 2 = nI (bs + p + 2) from nI_add (bs + p) 2]
    by_cases e : p + 2 < n
    · rw [if_neg (by rw [Int32.le_iff_toInt_le, i1, i2]; omega), asr_t (by rw [vq_i, i3]; omega), i4, gI_G20, Nat.add_assoc, h5 _ e, ck_lt e]
    · rw [if_pos (by rw [Int32.le_iff_toInt_le, i1, i2]; omega), show ck U n (p + 2) = -1 from if_neg e]
      rfl
  have J := fun (c : Int32) (hc : 0 ≤ c.toInt ∧ c.toInt ≤ 127) => ji_eq (n := n) (p := p) hU hc
  have j98 := J 98 (by decide)
  have j99 := J 99 (by decide)
  have j108 := J 108 (by decide)
  have j112 := J 112 (by decide)
  have j115 := J 115 (by decide)
  have j121 := ji_eq (n := n) (p := p + 2) hU (c := 121) (by decide)
  rw [show (98 : Int32).toInt = 98 from rfl] at j98
  rw [show (99 : Int32).toInt = 99 from rfl] at j99
  rw [show (108 : Int32).toInt = 108 from rfl] at j108
  rw [show (112 : Int32).toInt = 112 from rfl] at j112
  rw [show (115 : Int32).toInt = 115 from rfl] at j115
  rw [show (121 : Int32).toInt = 121 from rfl] at j121
  have hr : rdt m U n bs := ⟨h1, h2, h3, h4, h5, hU⟩
  have z0 : ¬ lk U n p = 112 → mtw U n 0 p = 0 := mtw_0 rfl
  have z1 : ¬ lk U n p = 112 → mtw U n 1 p = 0 := mtw_0 rfl
  have z2 : ¬ lk U n p = 108 → mtw U n 2 p = 0 := mtw_0 rfl
  have z3 : ¬ lk U n p = 115 → mtw U n 3 p = 0 := mtw_0 rfl
  have z4 : ¬ lk U n p = 99 → mtw U n 4 p = 0 := mtw_0 rfl
  have z5 : ¬ lk U n p = 98 → mtw U n 5 p = 0 := mtw_0 rfl
  unfold f_X12_takesAnyWord
  rw [next_M hr (by omega), bn2_e, third, bn2_e, pW_val]
  unfold f_X12_takesAnyWord_b38
  by_cases c98 : lk U n p = 98
  · rw [z0 (by omega), z1 (by omega), z2 (by omega), z3 (by omega), z4 (by omega), if_neg (show ¬ (0 : Nat) = 5 by decide), if_neg (show ¬ (0 : Nat) = 4 by decide), if_neg (show ¬ (0 : Nat) = 5 by decide), if_neg (show ¬ (0 : Nat) = 5 by decide), if_neg (show ¬ (0 : Nat) = 4 by decide)]
    rw [if_pos (j98.mpr c98), tword_M hfl hr (L := [98, 97, 114]) ⟨by decide, by decide, by decide, by decide, by decide, by decide, by decide, by decide, by decide, trivial⟩ (by decide) (by decide) (by omega)]
    show (bn2 (if mtw U n 5 p = 4 then some ((1 : Int32), GM m (nI (p + 4)) cl dg wt pl op wa pi pa na ha) else some (0, GM m (nI (p + mtw U n 5 p)) cl dg wt pl op wa pi pa na ha)) _) = _
    by_cases d : mtw U n 5 p = 4
    · rw [if_pos d, if_pos d, bn2_e, if_neg (by decide)]; rfl
    · rw [if_neg d, if_neg d, bn2_e, if_pos rfl]
      show _ = some ((-1 : Int32), GM m (nI (p + _)) cl dg wt pl op wa pi pa na ha)
      congr 4 <;> omega
  · rw [if_neg (fun q => c98 (j98.mp q))]
    by_cases c99 : lk U n p = 99
    · rw [z0 (by omega), z1 (by omega), z2 (by omega), z3 (by omega), z5 (by omega), if_neg (show ¬ (0 : Nat) = 5 by decide), if_neg (show ¬ (0 : Nat) = 4 by decide), if_neg (show ¬ (0 : Nat) = 5 by decide), if_neg (show ¬ (0 : Nat) = 5 by decide)]
      rw [if_pos (j99.mpr c99), tword_M hfl hr (L := [99, 117, 116]) ⟨by decide, by decide, by decide, by decide, by decide, by decide, by decide, by decide, by decide, trivial⟩ (by decide) (by decide) (by omega)]
      show (bn2 (if mtw U n 4 p = 4 then some ((1 : Int32), GM m (nI (p + 4)) cl dg wt pl op wa pi pa na ha) else some (0, GM m (nI (p + mtw U n 4 p)) cl dg wt pl op wa pi pa na ha)) _) = _
      by_cases d : mtw U n 4 p = 4
      · rw [if_pos d, if_pos d, bn2_e, if_neg (by decide)]; rfl
      · rw [if_neg d, if_neg d, bn2_e, if_pos rfl, if_neg (show ¬ (0 : Nat) = 4 by decide)]
        show _ = some ((-1 : Int32), GM m (nI (p + _)) cl dg wt pl op wa pi pa na ha)
        congr 4 <;> omega
    · rw [if_neg (fun q => c99 (j99.mp q))]
      by_cases c108 : lk U n p = 108
      · rw [z0 (by omega), z1 (by omega), z3 (by omega), z4 (by omega), z5 (by omega), if_neg (show ¬ (0 : Nat) = 5 by decide), if_neg (show ¬ (0 : Nat) = 4 by decide)]
        rw [if_pos (j108.mpr c108), tword_M hfl hr (L := [108, 111, 97, 100]) ⟨by decide, by decide, by decide, by decide, by decide, by decide, by decide, by decide, by decide, by decide, by decide, by decide, trivial⟩ (by decide) (by decide) (by omega)]
        show (bn2 (if mtw U n 2 p = 5 then some ((1 : Int32), GM m (nI (p + 5)) cl dg wt pl op wa pi pa na ha) else some (0, GM m (nI (p + mtw U n 2 p)) cl dg wt pl op wa pi pa na ha)) _) = _
        by_cases d : mtw U n 2 p = 5
        · rw [if_pos d, if_pos d, bn2_e, if_neg (by decide)]; rfl
        · rw [if_neg d, if_neg d, bn2_e, if_pos rfl, if_neg (show ¬ (0 : Nat) = 5 by decide), if_neg (show ¬ (0 : Nat) = 4 by decide), if_neg (show ¬ (0 : Nat) = 4 by decide)]
          show _ = some ((-1 : Int32), GM m (nI (p + _)) cl dg wt pl op wa pi pa na ha)
          congr 4 <;> omega
      · rw [if_neg (fun q => c108 (j108.mp q))]
        by_cases c112 : lk U n p = 112
        · rw [if_pos (j112.mpr c112)]
          have m0 : mtw U n 0 p = (if lk U n (p + 1) = 97 then (if lk U n (p + 2) = 99 then (if lk U n (p + 3) = 107 then (if lk U n (p + 4) = 32 then 1 else 0) + 1 else 0) + 1 else 0) + 1 else 0) + 1 := if_pos c112
          have m1 : mtw U n 1 p = (if lk U n (p + 1) = 97 then (if lk U n (p + 2) = 121 then (if lk U n (p + 3) = 32 then 1 else 0) + 1 else 0) + 1 else 0) + 1 := if_pos c112
          rw [z2 (by omega), z3 (by omega), z4 (by omega), z5 (by omega)]
          by_cases c121 : lk U n (p + 2) = 121
          · have lo : mtw U n 0 p ≤ mtw U n 1 p ∧ mtw U n 0 p ≤ 2 := by
              rw [m0, m1, if_neg (show ¬ lk U n (p + 2) = 99 by omega), if_pos c121]
              repeat' split
              all_goals omega
            rw [if_pos (j121.mpr c121), tword_M hfl hr (L := [112, 97, 121]) ⟨by decide, by decide, by decide, by decide, by decide, by decide, by decide, by decide, by decide, trivial⟩ (by decide) (by decide) (by omega)]
            show (bn2 (if mtw U n 1 p = 4 then some ((1 : Int32), GM m (nI (p + 4)) cl dg wt pl op wa pi pa na ha) else some (0, GM m (nI (p + mtw U n 1 p)) cl dg wt pl op wa pi pa na ha)) _) = _
            rw [if_neg (show ¬ mtw U n 0 p = 5 by omega)]
            by_cases d : mtw U n 1 p = 4
            · rw [if_pos d, if_pos d, bn2_e, if_neg (by decide)]; rfl
            · rw [if_neg d, if_neg d, bn2_e, if_pos rfl, if_neg (show ¬ (0 : Nat) = 5 by decide), if_neg (show ¬ (0 : Nat) = 5 by decide), if_neg (show ¬ (0 : Nat) = 4 by decide), if_neg (show ¬ (0 : Nat) = 4 by decide)]
              show _ = some ((-1 : Int32), GM m (nI (p + _)) cl dg wt pl op wa pi pa na ha)
              congr 4 <;> omega
          · have lo : mtw U n 1 p ≤ mtw U n 0 p ∧ mtw U n 1 p ≤ 2 := by
              rw [m0, m1, if_neg c121]
              repeat' split
              all_goals omega
            rw [if_neg (fun q => c121 (j121.mp q)), tword_M hfl hr (L := [112, 97, 99, 107]) ⟨by decide, by decide, by decide, by decide, by decide, by decide, by decide, by decide, by decide, by decide, by decide, by decide, trivial⟩ (by decide) (by decide) (by omega)]
            show (bn2 (if mtw U n 0 p = 5 then some ((1 : Int32), GM m (nI (p + 5)) cl dg wt pl op wa pi pa na ha) else some (0, GM m (nI (p + mtw U n 0 p)) cl dg wt pl op wa pi pa na ha)) _) = _
            by_cases d : mtw U n 0 p = 5
            · rw [if_pos d, if_pos d, bn2_e, if_neg (by decide)]; rfl
            · rw [if_neg d, if_neg d, bn2_e, if_pos rfl, if_neg (show ¬ mtw U n 1 p = 4 by omega), if_neg (show ¬ (0 : Nat) = 5 by decide), if_neg (show ¬ (0 : Nat) = 5 by decide), if_neg (show ¬ (0 : Nat) = 4 by decide), if_neg (show ¬ (0 : Nat) = 4 by decide)]
              show _ = some ((-1 : Int32), GM m (nI (p + _)) cl dg wt pl op wa pi pa na ha)
              congr 4 <;> omega
        · rw [if_neg (fun q => c112 (j112.mp q))]
          by_cases c115 : lk U n p = 115
          · rw [z0 (by omega), z1 (by omega), z2 (by omega), z4 (by omega), z5 (by omega), if_neg (show ¬ (0 : Nat) = 5 by decide), if_neg (show ¬ (0 : Nat) = 4 by decide), if_neg (show ¬ (0 : Nat) = 5 by decide)]
            rw [if_pos (j115.mpr c115), tword_M hfl hr (L := [115, 110, 111, 119]) ⟨by decide, by decide, by decide, by decide, by decide, by decide, by decide, by decide, by decide, by decide, by decide, by decide, trivial⟩ (by decide) (by decide) (by omega)]
            show (bn2 (if mtw U n 3 p = 5 then some ((1 : Int32), GM m (nI (p + 5)) cl dg wt pl op wa pi pa na ha) else some (0, GM m (nI (p + mtw U n 3 p)) cl dg wt pl op wa pi pa na ha)) _) = _
            by_cases d : mtw U n 3 p = 5
            · rw [if_pos d, if_pos d, bn2_e, if_neg (by decide)]; rfl
            · rw [if_neg d, if_neg d, bn2_e, if_pos rfl, if_neg (show ¬ (0 : Nat) = 4 by decide), if_neg (show ¬ (0 : Nat) = 4 by decide)]
              show _ = some ((-1 : Int32), GM m (nI (p + _)) cl dg wt pl op wa pi pa na ha)
              congr 4 <;> omega
          · rw [if_neg (fun q => c115 (j115.mp q)), z0 c112, z1 c112, z2 c108, z3 c115, z4 c99, z5 c98]
            rfl
end WM
