/-! work: what is barred stays so while pieces are put -/
def ag0 (m m' : Mem) : Prop := ∀ r x k, r ≠ 13 → r ≠ 23 → r ≠ 18 → gI m' r x k = gI m r x k
def agb (m m' : Mem) : Prop := ag0 m m' ∧ (∀ k, gR m' 3 0 k = gR m 3 0 k) ∧ gR m' 999 23 0 = gR m 999 23 0 ∧ ∀ j k, k ≠ 8 → gI m' 23 j k = gI m 23 j k
def sb (d a : Int32) (m : Mem) : Mem := sI (sI (sI (sI (sI (sI m 18 0 0 0) 18 0 1 0) 18 0 2 0) 18 0 3 0) 18 0 4 (jrem d 7)) 18 0 5 a
theorem ag_sb {m m' : Mem} (h : ag0 m m') {a d : Int32} : ag (sb d a m) (sb d a m') := fun r x k h1 h2 h3 => by
  unfold sb
  rw [gI_sI, gI_sI, gI_sI, gI_sI, gI_sI, gI_sI, gI_sI, gI_sI, gI_sI, gI_sI, gI_sI, gI_sI]
  by_cases c : r = 18
  · obtain ⟨x0, k6⟩ := h3 c
    subst c x0
    rcases (show k = 0 ∨ k = 1 ∨ k = 2 ∨ k = 3 ∨ k = 4 ∨ k = 5 by omega) with rfl | rfl | rfl | rfl | rfl | rfl <;> rfl
  · rw [h r x k h1 h2 c]
theorem bars_q {m m' : Mem} (h : ag0 m m') {a d : Int32} : Q (sb d a m) (sb d a m') (f_X3_bars FL a d m) (f_X3_bars FL a d m') := by
  have z0 : Int32.toNatClampNeg 0 = 0 := rfl
  have z1 : Int32.toNatClampNeg 1 = 1 := rfl
  have z2 : Int32.toNatClampNeg 2 = 2 := rfl
  have z3 : Int32.toNatClampNeg 3 = 3 := rfl
  have z4 : Int32.toNatClampNeg 4 = 4 := rfl
  have z5 : Int32.toNatClampNeg 5 = 5 := rfl
  have x : ∀ M, f_X3_bars FL a d M = bn2 (f_X3_holdsFor FL 5 d (sb d a M)) fun v14 m13 => asr (v14 = 0 ∨ v14 = 1) <| some (v14, m13) := fun M => by
    unfold f_X3_bars
    rw [asr_t (by decide), z0, lt1_e, asr_t (by decide), z1, lt1_e, asr_t (by decide), z2, lt1_e, asr_t (by decide), z3, lt1_e, asr_t (by decide), z4, lt1_e, asr_t (by decide), z5, lt1_e]
    rfl
  rw [x, x]
  refine q_bn2 (holdsFor_q ?_) (fun v => q_asr q_ret)
  exact ag_sb h
theorem isBarred_l31_q {m m' : Mem} (h3 : ∀ k, gR m' 3 0 k = gR m 3 0 k) (h9 : gR m' 999 23 0 = gR m 999 23 0) (hc : ∀ j k, k ≠ 8 → gI m' 23 j k = gI m 23 j k) {fl g1 : Nat} {g3 : Int32} : ∀ (N : Nat) (u4 : Int32), Q m m' (f_X11_isBarred_l31 fl g1 g3 N u4 m) (f_X11_isBarred_l31 fl g1 g3 N u4 m') := by
  have c9 : ∀ j, gI m' 23 j 9 = gI m 23 j 9 := fun j => hc j 9 (by decide)
  have c1 : ∀ j, gI m' 23 j 1 = gI m 23 j 1 := fun j => hc j 1 (by decide)
  have c2 : ∀ j, gI m' 23 j 2 = gI m 23 j 2 := fun j => hc j 2 (by decide)
  have c5 : ∀ j, gI m' 23 j 5 = gI m 23 j 5 := fun j => hc j 5 (by decide)
  intro N
  induction N with
  | zero => intro u4; exact q_non
  | succ N ih =>
    intro u4
    show Q m m' (f_X11_isBarred_l31_b (f_X11_isBarred_l31 fl g1 g3 N) fl g1 g3 u4 m) (f_X11_isBarred_l31_b (f_X11_isBarred_l31 fl g1 g3 N) fl g1 g3 u4 m')
    unfold f_X11_isBarred_l31_b f_X4_isOrderedLike
    simp only [h3, h9, c9, c1, c2, c5, lt1_e]
    (repeat' first | exact q_ret | exact q_non | exact ih _ | apply q_asr | apply q_ite | (refine q_bn2 ?_ (fun a => ?_)) | (refine q_drf (fun a => ?_)) | assumption)
theorem isBarred_q {m m' : Mem} (h : agb m m') {l : Nat} {v : Int32} {m1 : Mem} (hx : f_X11_isBarred FL (l + 1) m = some (v, m1)) : ∃ m2, f_X11_isBarred FL (l + 1) m' = some (v, m2) := by
  have e0 : gI m' 0 0 0 = gI m 0 0 0 := h.1 0 0 0 (by decide) (by decide) (by decide)
  have : Q (sb (gI m 0 0 0) (gI m 23 l 2) m) (sb (gI m 0 0 0) (gI m 23 l 2) m') (f_X11_isBarred FL (l + 1) m) (f_X11_isBarred FL (l + 1) m') := by
    unfold f_X11_isBarred
    by_cases hl : l < gR m 999 23 0
    · rw [drf_e hl, drf_e (show l < gR m' 999 23 0 by rw [h.2.2.1]; exact hl), e0, h.2.2.2 l 2 (by decide)]
      refine q_bn2 (bars_q h.1) (fun a => q_ite (q_bn2 (isBarred_l31_q ?_ ?_ ?_ _ _) (fun b => ?_)) ?_)
      · exact h.2.1
      · exact h.2.2.1
      · intro j k hk
        exact h.2.2.2 j k hk
      · (repeat' first | exact q_ret | exact q_non | apply q_asr | apply q_ite)
      · (repeat' first | exact q_ret | exact q_non | apply q_asr | apply q_ite)
    · have : ∀ k : Nat → Option (Int32 × Mem), drf (gR m 999 23 0) (l + 1) k = none := fun k => if_neg hl
      rw [this]
      exact q_non
  exact ⟨_, (this v m1 hx).2⟩
theorem kCl {n : Nat} {mc mc' mm : Mem} (hk : kC mc mc') (h : RR n mc' mm) : RR n mc mm := by
  have e : mc = ((fun r x k => if r = 18 then gI mc 18 x k else mc'.1 r x k), mc'.2) := by
    refine Prod.ext ?_ hk.1.symm
    funext r x k
    show gI mc r x k = if r = 18 then gI mc 18 x k else gI mc' r x k
    by_cases c : r = 18
    · rw [if_pos c, c]
    · rw [if_neg c, hk.2 r x k c]
  rw [e]
  obtain ⟨hT, hF, hL0, hL, hLc, hLg, hSb, hSs, hB, hP, hN, hG0, hG, hGd, hGw, hPw, hPa, hNa, hA, hTa, hR, hS, hW0, hW⟩ := h
  exact ⟨hT, hF, hL0, hL, hLc, hLg, hSb, hSs, hB, hP, hN, hG0, hG, hGd, hGw, hPw, hPa, hNa, hA, hTa, hR, hS, hW0, hW⟩
/-- the one of the lot hinders nothing: not barred, ground for a pane -/
def free3 (mc : Mem) (l b : Nat) : Prop := (∃ m1, f_X11_isBarred FL (l + 1) mc = some (0, m1)) ∧ hsv mc b 2 = 1
theorem free_1 {n l b : Nat} {mc mm mc' : Mem} (h : RR n mc mm) (hl : l < nl mc) (hb : b < 30) (hk : plc (gI mm 5 0 l) = 3) (hx : f_X11_hindrance FL (l + 1) (b + 1) mc = some (1, mc')) : free3 mc l b := by
  have hl' : l < gR mc 999 23 0 := hl
  have pl := (kind3 h hl hk).2
  have s1 := stock_11 (fl := FL) hl
  obtain ⟨v, mc1, mm1, y1, y2, y3, y4, y5⟩ := barred_both h hl
  have h2c := hasC y3 hb (show 1 ≤ 2 by decide) (by decide)
  rw [show nI 2 = 2 from rfl] at h2c
  unfold f_X11_hindrance at hx
  rw [drf_e hl', pl, bn2_e, asr_t hl', s1, bn2_e] at hx
  by_cases c1 : 1 ≤ stk mc l
  · rw [if_pos c1, y1, bn2_e] at hx
    cases v with
    | true => rw [if_neg (show ¬ bI true = 0 by decide)] at hx; cases hx
    | false =>
      rw [if_pos (show bI false = 0 from rfl), if_neg (show ¬ (3 : Int32) = 0 by decide), drf_e hb] at hx
      refine ⟨⟨mc1, y1⟩, ?_⟩
      have e := kC_hsv y4 b 2
      rw [← e]
      unfold f_X1_room at hx
      rw [if_pos rfl, bn2_e] at hx
      by_cases c2 : 1 ≤ 24 - gI mc1 13 b 4
      · rw [if_pos c2, if_neg (show ¬ (3 : Int32) = 1 by decide)] at hx
        unfold f_X11_hindrance_b65 f_X11_hindrance_b80 f_X11_hasGroundFor f_X11_hasGroundFor_b10 at hx
        rw [if_neg (show ¬ (3 : Int32) = 1 by decide), if_pos rfl, drf_e hb, h2c, bn2_e, asr_t (hs01 y3 hb), bn2_e] at hx
        rcases hs01 (p := 2) y3 hb with q | q
        · rw [q, if_pos rfl] at hx; cases hx
        · exact q
      · rw [if_neg c2] at hx; cases hx
  · rw [if_neg c1] at hx; cases hx
theorem free_2 {n l b : Nat} {mc mm : Mem} (h : RR n mc mm) (hl : l < nl mc) (hb : b < 30) (hk : plc (gI mm 5 0 l) = 3) (hf : free3 mc l b) (hs : 1 ≤ (stk mc l).toInt) (hr : (gI mc 13 b 4).toInt < 24) : ∃ mc', f_X11_hindrance FL (l + 1) (b + 1) mc = some (1, mc') := by
  have hl' : l < gR mc 999 23 0 := hl
  have pl := (kind3 h hl hk).2
  have s1 := stock_11 (fl := FL) hl
  obtain ⟨⟨m1, f1⟩, f2⟩ := hf
  obtain ⟨v, mc1, mm1, y1, y2, y3, y4, y5⟩ := barred_both h hl
  have e : some (bI v, mc1) = some ((0 : Int32), m1) := y1.symm.trans f1
  have v0 : bI v = 0 := (Prod.mk.inj (Option.some.inj e)).1
  have h2c := hasC y3 hb (show 1 ≤ 2 by decide) (by decide)
  rw [show nI 2 = 2 from rfl, kC_hsv y4, f2] at h2c
  have e4 : gI mc1 13 b 4 = gI mc 13 b 4 := y4.2 13 b 4 (by decide)
  obtain ⟨np, n1, n2, n3, -⟩ := h.2.2.2.2.2.2.2.2.2.2.1 b hb
  have inp := nI_toInt (n := np) (by omega)
  rw [n2, inp] at hr
  have e24 : (24 - nI np : Int32) = nI (24 - np) := pk_sub (a := 24) (by omega)
  have i24 := nI_toInt (n := 24 - np) (by omega)
  refine ⟨mc1, ?_⟩
  unfold f_X11_hindrance f_X1_room
  rw [drf_e hl', pl, bn2_e, asr_t hl', s1, bn2_e, if_pos (show 1 ≤ stk mc l by rw [Int32.le_iff_toInt_le, t_1]; exact hs), y1, bn2_e, if_pos v0, if_neg (show ¬ (3 : Int32) = 0 by decide), drf_e hb, if_pos rfl, bn2_e, e4, n2, if_pos (show 1 ≤ 24 - nI np by rw [e24, Int32.le_iff_toInt_le, i24, t_1]; omega), if_neg (show ¬ (3 : Int32) = 1 by decide)]
  unfold f_X11_hindrance_b65 f_X11_hindrance_b80 f_X11_hasGroundFor f_X11_hasGroundFor_b10
  rw [if_neg (show ¬ (3 : Int32) = 1 by decide), if_pos rfl, drf_e hb, h2c, bn2_e, asr_t (Or.inr rfl), bn2_e, if_neg (show ¬ (1 : Int32) = 0 by decide)]
theorem free_p {l b np : Nat} {mc : Mem} (hf : free3 mc l b) : free3 (sI (sI (sR mc 15 b np (l + 1)) 13 b 4 (nI (np + 1))) 23 l 8 (gI mc 23 l 8 + 1)) l b := by
  obtain ⟨⟨m1, f1⟩, f2⟩ := hf
  have eR : ∀ r x k, r ≠ 15 → gR (sI (sI (sR mc 15 b np (l + 1)) 13 b 4 (nI (np + 1))) 23 l 8 (gI mc 23 l 8 + 1)) r x k = gR mc r x k := fun r x k hr => by
    show gR (sR mc 15 b np (l + 1)) r x k = gR mc r x k
    rw [gR_sR, if_neg (fun q => hr q.1)]
  have e1 : ∀ r x k, r ≠ 13 → (r ≠ 23 ∨ k ≠ 8) → gI (sI (sI (sR mc 15 b np (l + 1)) 13 b 4 (nI (np + 1))) 23 l 8 (gI mc 23 l 8 + 1)) r x k = gI mc r x k := fun r x k h1 h2 => by
    rw [gI_sI, if_neg (fun q => by rcases h2 with w | w; exact w q.1; exact w q.2.2), gI_sI, if_neg (fun q => h1 q.1)]; rfl
  have e2 : hsv (sI (sI (sR mc 15 b np (l + 1)) 13 b 4 (nI (np + 1))) 23 l 8 (gI mc 23 l 8 + 1)) b 2 = hsv mc b 2 := by
    unfold hsv
    rw [eR 14 b 2 (by decide), if_neg (show ¬ 2 = 3 by decide), if_neg (show ¬ 2 = 3 by decide)]
  exact ⟨isBarred_q ⟨fun r x k h1 h2 _ => e1 r x k h1 (Or.inl h2), fun k => eR 3 0 k (by decide), eR 999 23 0 (by decide), fun j k hk => e1 23 j k (by decide) (Or.inr hk)⟩ f1, e2.trans f2⟩
theorem free_k {l b : Nat} {mc mc1 : Mem} (hk : kC mc mc1) (hf : free3 mc l b) : free3 mc1 l b := by
  obtain ⟨⟨m1, f1⟩, f2⟩ := hf
  have eR : ∀ r x k, gR mc1 r x k = gR mc r x k := fun r x k => by
    show mc1.2.2 r x k = mc.2.2 r x k
    rw [hk.1]
  exact ⟨isBarred_q ⟨fun r x k _ _ h3 => hk.2 r x k h3, fun k => eR 3 0 k, eR 999 23 0, fun j k _ => hk.2 23 j k (by decide)⟩ f1, (kC_hsv hk b 2).trans f2⟩
