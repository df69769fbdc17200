/-! the law's own walk: what holds between two calls -/
theorem lcHM {m : Mem} : ∀ r, 900 ≤ r → lc LM m r = 0 := by
  intro r h
  show ([1, 1, 1, 1, 1, 1, 1, 1, 1, 1, 1, 1, 1, 1, 1, 1, 1, 1, 1, 1, 1, 1, 1, 1, 1, 1, 1, 1, 1, 1, 1, 1, 1, 1, 1, 1, 1, 1, 1, 1, 1, 1, 1, 1, 1, 1, 1, 1, 1, 1, 1, 1, 1, 1, 1, 1] : List Nat).getD r 0 = 0
  exact getD_hi _ _ (by show 56 ≤ r; omega)
def adT (K : KG) (mc : Mem) (adC : Nat → Nat → Nat) (sz : Nat) : Nat → Nat → Nat := fun r b => if b < lc LC mc r then adC r b else if r = 23 ∨ r = 24 then sz else kB K
def mcT (K : KG) (mc : Mem) (ad : Nat → Nat → Nat) : Mem := (mc.1, mc.2.1, fun r x k => if r = 997 then ad x k - kB K else gR mc r x k)
def JJ (K : KG) (n : Nat) (mc mm : Mem) (adC adM : Nat → Nat → Nat) (H : Heap) : Prop := Zw K LC adC mc H ∧ Zw K LM adM mm H ∧ RR n mc mm ∧ (∀ r b r' b', b < lc LC mc r → b' < lc LM mm r' → adC r b ≠ adM r' b') ∧ (∀ r b, ∃ r' b', b' < lc LM mm r' ∧ adM r b = adM r' b') ∧ adC 0 0 = kB K
theorem turnC {K : KG} {n : Nat} {mc mm : Mem} {adC : Nat → Nat → Nat} {H : Heap} (Z : Zw K LC adC mc H) (h : RR n mc mm) : Zw K LC (adT K mc adC H.size) (mcT K mc (adT K mc adC H.size)) H ∧ RR n (mcT K mc (adT K mc adC H.size)) mm ∧ PR (mcT K mc (adT K mc adC H.size)) := by
  have hsz : H.size = kB K + gR mc 998 0 0 := Z.2.2.2
  have ge : ∀ r b, kB K ≤ adT K mc adC H.size r b := fun r b => by
    unfold adT
    split
    · rw [← Z.2.2.1]; omega
    · split
      · omega
      · exact Nat.le_refl _
  have s9 : ∀ r x k, r ≠ 997 → gR (mcT K mc (adT K mc adC H.size)) r x k = gR mc r x k := fun r x k hr => if_neg hr
  have s7 : ∀ x k, gR (mcT K mc (adT K mc adC H.size)) 997 x k = adT K mc adC H.size x k - kB K := fun x k => rfl
  have p23 : adT K mc adC H.size 23 (gR mc 999 23 0) = H.size := by
    unfold adT
    rw [show lc LC mc 23 = gR mc 999 23 0 from rfl, if_neg (Nat.lt_irrefl _), if_pos (Or.inl rfl)]
  have p24 : adT K mc adC H.size 24 (gR mc 999 24 0) = H.size := by
    unfold adT
    rw [show lc LC mc 24 = gR mc 999 24 0 from rfl, if_neg (Nat.lt_irrefl _), if_pos (Or.inr rfl)]
  refine ⟨Z.turn lcHC (fun r b hb => if_pos hb) rfl rfl (fun r b k hr => s9 r b k (by omega)) (fun r => s9 _ _ _ (by decide)) (s9 _ _ _ (by decide)) (fun r b => ?_) (fun r b ci k hb hk => inC1 h hb hk) (fun r b a k hb hk hka => inC2 h hb hk hka), h.cR (fun r x k h1 h2 => s9 r x k h1), ?_, ?_⟩
  · rw [s7]
    have := ge r b
    omega
  · rw [s9 999 23 0 (by decide), s9 998 0 0 (by decide), s7, p23]; omega
  · rw [s9 999 24 0 (by decide), s9 998 0 0 (by decide), s7, p24]; omega
theorem JJ.apart {K : KG} {n : Nat} {mc mm : Mem} {adC adM : Nat → Nat → Nat} {H : Heap} (J : JJ K n mc mm adC adM H) : ∀ r b r' b', b' < lc LM mm r' → adT K mc adC H.size r b ≠ adM r' b' := by
  intro r b r' b' hb' he
  have hlt := (J.2.1.1 r' b' hb').lt
  unfold adT at he
  by_cases c : b < lc LC mc r
  · rw [if_pos c] at he
    exact J.2.2.2.1 r b r' b' c hb' he
  · rw [if_neg c] at he
    by_cases c2 : r = 23 ∨ r = 24
    · rw [if_pos c2] at he; omega
    · rw [if_neg c2, ← J.2.2.2.2.2] at he
      exact J.2.2.2.1 0 0 r' b' (Nat.zero_lt_one) hb' he
theorem JJ.home {K : KG} {n : Nat} {mc mm : Mem} {adC adM : Nat → Nat → Nat} {H : Heap} (J : JJ K n mc mm adC adM H) : adT K mc adC H.size 0 0 = kB K := (if_pos (show 0 < lc LC mc 0 from Nat.zero_lt_one)).trans J.2.2.2.2.2
/-- both worlds' answers, where the class's is known to have made what it made -/
theorem pairS {α : Type} {n : Nat} {fC fM : Mem → Option (α × Mem)} {mc mm : Mem} (S : ∀ v, Sim (n + 1) (fC mc) (fM (sR mm 998 0 0 v))) : ∃ (r : α) (mc1 mm1 : Mem), fC mc = some (r, mc1) ∧ fM (sR mm 998 0 0 (gR mc1 998 0 0)) = some (r, mm1) ∧ RR (n + 1) mc1 mm1 := by
  obtain ⟨r, mc1, mm0, e1, -, -⟩ := S 0
  obtain ⟨r2, mc2, mm1, f1, f2, f3⟩ := S (gR mc1 998 0 0)
  obtain ⟨q1, q2⟩ := Prod.mk.inj (Option.some.inj (f1.symm.trans e1))
  subst q1
  subst q2
  exact ⟨r2, mc2, mm1, e1, f2, f3⟩
theorem JJ.mid {K : KG} {n : Nat} {mc mm mc1 : Mem} {adC adM adt : Nat → Nat → Nat} {H H1 : Heap} (J : JJ K n mc mm adC adM H) (hd : ∀ r b r' b', b' < lc LM mm r' → adt r b ≠ adM r' b') (Z1 : Zw K LC adt mc1 H1) (F1 : FR adt H H1) : Zw K LM adM (sR mm 998 0 0 (gR mc1 998 0 0)) H1 :=
  J.2.1.grow lcHM (fun r b hb => F1.2 _ (J.2.1.1 r b hb).lt (by rintro ⟨r2, b2, -, e⟩; exact hd r2 b2 r b hb e.symm)) Z1.2.2.2
theorem JJ.fin {K : KG} {n : Nat} {mc mm mc1 mm1 : Mem} {adC adM adt : Nat → Nat → Nat} {H H1 H2 : Heap} (J : JJ K n mc mm adC adM H) (hd : ∀ r b r' b', b' < lc LM mm r' → adt r b ≠ adM r' b') (h0 : adt 0 0 = kB K) (Z1 : Zw K LC adt mc1 H1) (Z2 : Zw K LM adM mm1 H2) (F2 : FR adM H1 H2) (h : RR (n + 1) mc1 mm1) : JJ K (n + 1) (sR mc1 998 0 0 (gR mm1 998 0 0)) mm1 adt adM H2 :=
  ⟨Z1.grow lcHC (fun r b hb => F2.2 _ (Z1.1 r b hb).lt (by
      rintro ⟨r2, b2, -, e⟩
      obtain ⟨r3, b3, h3, e3⟩ := J.2.2.2.2.1 r2 b2
      exact hd r b r3 b3 h3 (e.trans e3))) Z2.2.2.2, Z2, h.cR (fun r x k h1 h2 => if_neg (fun q => h2 q.1)), fun r b r' b' _ h' => hd r b r' b' h', J.2.2.2.2.1, h0⟩
