/-! THE LAW, as it is read: bytes U, n of them; what is read: a fault's place, or the clauses (word, number, codes) -/
def ck (U : Nat → Int32) (n p : Nat) : Int32 := if p < n then U p else -1
def lk (U : Nat → Int32) (n p : Nat) : Int := (ck U n p).toInt
def byt (U : Nat → Int32) (n : Nat) : Prop := ∀ j, j < n → 0 ≤ (U j).toInt ∧ (U j).toInt ≤ 255
theorem ck_lt {U : Nat → Int32} {n p : Nat} (h : p < n) : ck U n p = U p := if_pos h
theorem lk_ge {U : Nat → Int32} {n p : Nat} (h : ¬ p < n) : lk U n p = -1 := by
  unfold lk ck
  rw [if_neg h]
  rfl
theorem lk_rg {U : Nat → Int32} {n : Nat} (hU : byt U n) (p : Nat) : -1 ≤ lk U n p ∧ lk U n p ≤ 255 := by
  by_cases h : p < n
  · have := hU p h
    unfold lk
    rw [ck_lt h]
    omega
  · rw [lk_ge h]; omega
theorem lk_lt {U : Nat → Int32} {n p : Nat} (h : lk U n p ≠ -1) : p < n := by
  by_cases c : p < n
  · exact c
  · exact absurd (lk_ge c) h
def dvl (U : Nat → Int32) (n p : Nat) : Nat := (lk U n p - 48).toNat
def pnm (U : Nat → Int32) (n p : Nat) : Nat × Nat :=
  if 48 ≤ lk U n p ∧ lk U n p ≤ 57 then
    (if 48 ≤ lk U n (p + 1) ∧ lk U n (p + 1) ≤ 57 then
      (if 48 ≤ lk U n (p + 2) ∧ lk U n (p + 2) ≤ 57 then (3, 100 * dvl U n p + 10 * dvl U n (p + 1) + dvl U n (p + 2))
      else (2, 10 * dvl U n p + dvl U n (p + 1)))
    else (1, dvl U n p))
  else (0, 0)
theorem pnm_le {U : Nat → Int32} {n p : Nat} : (pnm U n p).1 ≤ 3 ∧ (pnm U n p).2 ≤ 999 ∧ (p ≤ n → p + (pnm U n p).1 ≤ n) := by
  unfold pnm
  split
  · have h0 := lk_lt (U := U) (n := n) (p := p) (by omega)
    split
    · have h1 := lk_lt (U := U) (n := n) (p := p + 1) (by omega)
      split
      · have h2 := lk_lt (U := U) (n := n) (p := p + 2) (by omega)
        refine ⟨by show 3 ≤ 3; omega, ?_, fun _ => by show p + 3 ≤ n; omega⟩
        show 100 * dvl U n p + 10 * dvl U n (p + 1) + dvl U n (p + 2) ≤ 999
        unfold dvl; omega
      · refine ⟨by show 2 ≤ 3; omega, ?_, fun _ => by show p + 2 ≤ n; omega⟩
        show 10 * dvl U n p + dvl U n (p + 1) ≤ 999
        unfold dvl; omega
    · refine ⟨by show 1 ≤ 3; omega, ?_, fun _ => by show p + 1 ≤ n; omega⟩
      show dvl U n p ≤ 999
      unfold dvl; omega
  · exact ⟨by show 0 ≤ 3; omega, by show 0 ≤ 999; omega, fun h => h⟩
def ltr (c : Int) : Nat := if c = 116 then 0 else if c = 108 then 1 else if c = 99 then 2 else if c = 114 then 3 else if c = 100 then 4 else if c = 102 then 5 else 6
def rlt (c : Int) : Nat := if c = 60 then 0 else if c = 61 then 1 else if c = 62 then 2 else 3
theorem ltr_le (c : Int) : ltr c ≤ 6 := by unfold ltr; repeat' split
                                           all_goals omega
theorem rlt_le (c : Int) : rlt c ≤ 3 := by unfold rlt; repeat' split
                                           all_goals omega
theorem ltr_m1 : ltr (-1) = 6 := by decide
theorem rlt_m1 : rlt (-1) = 3 := by decide
abbrev PRS : Type := Nat ⊕ (Nat × List Int32)
def pTest (U : Nat → Int32) (n p : Nat) : PRS :=
  if ltr (lk U n p) = 6 then .inl p else if rlt (lk U n (p + 1)) = 3 then .inl (p + 1) else
  if (pnm U n (p + 2)).1 = 0 then .inl (p + 2) else .inr (p + 2 + (pnm U n (p + 2)).1, [nI ((ltr (lk U n p) * 3 + rlt (lk U n (p + 1))) * 1000 + (pnm U n (p + 2)).2)])
def cif (b : Bool) (c : Int32) : List Int32 := if b then [c] else []
def pE (U : Nat → Int32) (n : Nat) (one : Nat → PRS) : Nat → Bool → Bool → Nat → List Int32 → PRS
  | 0, _, _, p, _ => .inl p
  | N + 1, bo, ei, p, acc => match one p with
    | .inl q => .inl q
    | .inr r =>
      if lk U n r.1 = 38 then pE U n one N true ei (r.1 + 1) (acc ++ r.2 ++ cif bo (-1))
      else if lk U n r.1 = 124 then pE U n one N false true (r.1 + 1) (acc ++ r.2 ++ cif bo (-1) ++ cif ei (-2))
      else .inr (r.1, acc ++ r.2 ++ cif bo (-1) ++ cif ei (-2))
def pOne (U : Nat → Int32) (n fl : Nat) : Nat → Nat → Nat → PRS
  | 0, _, p => .inl p
  | d + 1, a, p =>
    if a < 4 ∧ lk U n p = 33 then (match pOne U n fl d (a + 1) (p + 1) with
      | .inl q => .inl q
      | .inr r => .inr (r.1, r.2 ++ [-3]))
    else if a < 4 ∧ lk U n p = 40 then (match pE U n (pOne U n fl d (a + 1)) fl false false (p + 1) [] with
      | .inl q => .inl q
      | .inr r => if lk U n r.1 = 41 then .inr (r.1 + 1, r.2) else .inl r.1)
    else pTest U n p
/-- how far what is read reaches: forward, within the text, no more codes than bytes -/
def adv (n p : Nat) (x : PRS) : Prop := match x with
  | .inl q => q ≤ n
  | .inr r => p + 3 ≤ r.1 ∧ r.1 ≤ n ∧ r.2.length + p ≤ r.1
theorem adv_test {U : Nat → Int32} {n p : Nat} (hp : p ≤ n) : adv n p (pTest U n p) := by
  unfold pTest
  split
  · exact hp
  · rename_i h1
    have h0 := lk_lt (U := U) (n := n) (p := p) (fun q => h1 (by rw [q]; exact ltr_m1))
    split
    · show p + 1 ≤ n; omega
    · rename_i h2
      have h3 := lk_lt (U := U) (n := n) (p := p + 1) (fun q => h2 (by rw [q]; exact rlt_m1))
      split
      · show p + 2 ≤ n; omega
      · have := (pnm_le (U := U) (n := n) (p := p + 2)).2.2 (by omega)
        refine ⟨?_, this, ?_⟩
        · show p + 3 ≤ p + 2 + _; omega
        · show 1 + p ≤ p + 2 + _; omega
theorem adv_E {U : Nat → Int32} {n : Nat} {one : Nat → PRS} (hone : ∀ p, p ≤ n → adv n p (one p)) : ∀ (N : Nat) (bo ei : Bool) (p0 p : Nat) (acc : List Int32), p ≤ n → p0 ≤ p → acc.length + (cif bo 0).length + (cif ei 0).length + p0 ≤ p → adv n p0 (pE U n one N bo ei p acc) := by
  intro N
  induction N with
  | zero => intro bo ei p0 p acc h1 h2 h3; exact h1
  | succ N ih =>
    intro bo ei p0 p acc h1 h2 h3
    have h := hone p h1
    have hb : ∀ c, (cif bo c).length = (cif bo 0).length := by intro c; cases bo <;> rfl
    have he : ∀ c, (cif ei c).length = (cif ei 0).length := by intro c; cases ei <;> rfl
    show adv n p0 (match one p with
      | .inl q => .inl q
      | .inr r => _)
    cases hx : one p with
    | inl q => rw [hx] at h; exact h
    | inr r =>
      rw [hx] at h
      obtain ⟨a1, a2, a3⟩ := h
      show adv n p0 (if lk U n r.1 = 38 then _ else _)
      have hb1 := hb (-1)
      have he1 := he (-2)
      by_cases c1 : lk U n r.1 = 38
      · rw [if_pos c1]
        have := lk_lt (U := U) (n := n) (p := r.1) (by omega)
        refine ih true ei p0 (r.1 + 1) _ (by omega) (by omega) ?_
        simp only [List.length_append, hb1]
        show _ + 1 + _ + p0 ≤ _
        omega
      · rw [if_neg c1]
        by_cases c2 : lk U n r.1 = 124
        · rw [if_pos c2]
          have := lk_lt (U := U) (n := n) (p := r.1) (by omega)
          refine ih false true p0 (r.1 + 1) _ (by omega) (by omega) ?_
          simp only [List.length_append, hb1, he1]
          show _ + 0 + 1 + p0 ≤ _
          omega
        · rw [if_neg c2]
          refine ⟨by show p0 + 3 ≤ r.1; omega, a2, ?_⟩
          simp only [List.length_append, hb1, he1]
          omega
theorem adv_one {U : Nat → Int32} {n fl : Nat} : ∀ (d a p : Nat), p ≤ n → adv n p (pOne U n fl d a p) := by
  intro d
  induction d with
  | zero => intro a p h; exact h
  | succ d ih =>
    intro a p h
    show adv n p (if a < 4 ∧ lk U n p = 33 then _ else _)
    by_cases c1 : a < 4 ∧ lk U n p = 33
    · rw [if_pos c1]
      have h0 := lk_lt (U := U) (n := n) (p := p) (by omega)
      have h1 := ih (a + 1) (p + 1) h0
      cases hx : pOne U n fl d (a + 1) (p + 1) with
      | inl q => rw [hx] at h1; exact h1
      | inr r =>
        rw [hx] at h1
        obtain ⟨a1, a2, a3⟩ := h1
        refine ⟨by show p + 3 ≤ r.1; omega, a2, ?_⟩
        show (r.2 ++ [-3]).length + p ≤ r.1
        rw [List.length_append]
        show r.2.length + 1 + p ≤ r.1
        omega
    · rw [if_neg c1]
      by_cases c2 : a < 4 ∧ lk U n p = 40
      · rw [if_pos c2]
        have h0 := lk_lt (U := U) (n := n) (p := p) (by omega)
        have h1 := adv_E (U := U) (ih (a + 1)) fl false false (p + 1) (p + 1) [] h0 (Nat.le_refl _) (by show 0 + 0 + 0 + (p + 1) ≤ p + 1; omega)
        cases hx : pE U n (pOne U n fl d (a + 1)) fl false false (p + 1) [] with
        | inl q => rw [hx] at h1; exact h1
        | inr r =>
          rw [hx] at h1
          obtain ⟨a1, a2, a3⟩ := h1
          show adv n p (if lk U n r.1 = 41 then _ else _)
          by_cases c3 : lk U n r.1 = 41
          · rw [if_pos c3]
            have := lk_lt (U := U) (n := n) (p := r.1) (by omega)
            exact ⟨by show p + 3 ≤ r.1 + 1; omega, by show r.1 + 1 ≤ n; omega, by show r.2.length + p ≤ r.1 + 1; omega⟩
          · rw [if_neg c3]; exact a2
      · rw [if_neg c2]
        exact adv_test h
/-! what codes say -/
def tst (lt : Nat → Int32) (c : Int32) : Bool :=
  let v := (lt (c.toInt / 3000).toNat).toInt
  let k := c.toInt % 1000
  let r := c.toInt / 1000 % 3
  if r = 0 then decide (v < k) else if r = 1 then decide (v = k) else decide (k < v)
def c32 (lt : Nat → Int32) (c x : Int32) : Int32 :=
  if c = -3 then x ^^^ 1 else if c = -2 then jshr x 1 ||| (x &&& 1) else if c = -1 then jshr x 1 &&& (x ||| (-2)) else jshl x 1 ||| (if tst lt c then 1 else 0)
def r32 (lt : Nat → Int32) : List Int32 → Int32 → Int32
  | [], x => x
  | c :: L, x => r32 lt L (c32 lt c x)
theorem r32_app (lt : Nat → Int32) : ∀ (A B : List Int32) (x : Int32), r32 lt (A ++ B) x = r32 lt B (r32 lt A x) := by
  intro A
  induction A with
  | nil => intro B x; rfl
  | cons c A ih => intro B x; exact ih B (c32 lt c x)
def bN (b : Bool) : Nat := if b then 1 else 0
def enc : List Bool → Nat
  | [] => 0
  | b :: S => 2 * enc S + bN b
theorem bN_le (b : Bool) : bN b ≤ 1 := by cases b <;> decide
theorem enc_lt : ∀ S : List Bool, enc S < 2 ^ S.length := by
  intro S
  induction S with
  | nil => decide
  | cons b S ih =>
    have := bN_le b
    show 2 * enc S + bN b < 2 ^ (S.length + 1)
    rw [Nat.pow_succ]
    omega
theorem nat_or1 (e : Nat) (a b : Bool) : (2 * e + bN a) ||| bN b = 2 * e + bN (a || b) := by
  apply Nat.eq_of_testBit_eq
  intro i
  rw [Nat.testBit_or]
  have ha := bN_le a
  have hb := bN_le b
  have hc := bN_le (a || b)
  cases i with
  | zero =>
    simp only [Nat.testBit_zero]
    rw [show (2 * e + bN a) % 2 = bN a by omega, show bN b % 2 = bN b by omega, show (2 * e + bN (a || b)) % 2 = bN (a || b) by omega]
    cases a <;> cases b <;> rfl
  | succ i =>
    simp only [Nat.testBit_succ]
    rw [show (2 * e + bN a) / 2 = e by omega, show bN b / 2 = 0 by omega, show (2 * e + bN (a || b)) / 2 = e by omega, Nat.zero_testBit, Bool.or_false]
theorem nat_xor1 (e : Nat) (a : Bool) : (2 * e + bN a) ^^^ 1 = 2 * e + bN (!a) := by
  apply Nat.eq_of_testBit_eq
  intro i
  rw [Nat.testBit_xor]
  have ha := bN_le a
  have hc := bN_le (!a)
  cases i with
  | zero =>
    simp only [Nat.testBit_zero]
    rw [show (2 * e + bN a) % 2 = bN a by omega, show (2 * e + bN (!a)) % 2 = bN (!a) by omega]
    cases a <;> rfl
  | succ i =>
    simp only [Nat.testBit_succ]
    rw [show (2 * e + bN a) / 2 = e by omega, show 1 / 2 = 0 by omega, show (2 * e + bN (!a)) / 2 = e by omega, Nat.zero_testBit, Bool.xor_false]
theorem nat_and1 (e y : Nat) (a b : Bool) (he : e < 2 ^ 29) : (2 * e + bN a) &&& ((2 * y + bN b) ||| 4294967294) = 2 * e + bN (a && b) := by
  apply Nat.eq_of_testBit_eq
  intro i
  rw [Nat.testBit_and, Nat.testBit_or]
  have ha := bN_le a
  have hb := bN_le b
  have hc := bN_le (a && b)
  cases i with
  | zero =>
    simp only [Nat.testBit_zero]
    rw [show (2 * e + bN a) % 2 = bN a by omega, show (2 * y + bN b) % 2 = bN b by omega, show (2 * e + bN (a && b)) % 2 = bN (a && b) by omega]
    cases a <;> cases b <;> rfl
  | succ i =>
    simp only [Nat.testBit_succ]
    rw [show (2 * e + bN a) / 2 = e by omega, show (2 * y + bN b) / 2 = y by omega, show (2 * e + bN (a && b)) / 2 = e by omega, show 4294967294 / 2 = 2 ^ 31 - 1 by decide, Nat.testBit_two_pow_sub_one]
    by_cases c : i < 31
    · simp [c]
    · have : e.testBit i = false := Nat.testBit_lt_two_pow (Nat.lt_of_lt_of_le he (Nat.pow_le_pow_right (by decide) (by omega)))
      rw [this, Bool.false_and]
theorem nI_tn {x : Int32} {n : Nat} (hn : n < 2 ^ 32) (h : x.toBitVec.toNat = n) : x = nI n := by
  apply Int32.toBitVec_inj.mp
  apply BitVec.eq_of_toNat_eq
  rw [h, pk_tn hn]
theorem nI_or {a b : Nat} (ha : a < 2 ^ 32) (hb : b < 2 ^ 32) : nI a ||| nI b = nI (a ||| b) := by
  apply nI_tn (Nat.or_lt_two_pow ha hb)
  rw [Int32.toBitVec_or, BitVec.toNat_or, pk_tn ha, pk_tn hb]
theorem nI_and {a b : Nat} (ha : a < 2 ^ 32) (hb : b < 2 ^ 32) : nI a &&& nI b = nI (a &&& b) := by
  apply nI_tn (Nat.and_lt_two_pow _ hb)
  rw [Int32.toBitVec_and, BitVec.toNat_and, pk_tn ha, pk_tn hb]
theorem nI_xor {a b : Nat} (ha : a < 2 ^ 32) (hb : b < 2 ^ 32) : nI a ^^^ nI b = nI (a ^^^ b) := by
  apply nI_tn (Nat.xor_lt_two_pow ha hb)
  rw [Int32.toBitVec_xor, BitVec.toNat_xor, pk_tn ha, pk_tn hb]
theorem sh1 {n : Nat} (h : n < 2 ^ 31) : jshr (nI n) 1 = nI (n / 2) := by
  have := pk_shrN h (1 &&& 31) 1 (by decide)
  exact this
theorem sl1 {n : Nat} (h : n < 2 ^ 31) : jshl (nI n) 1 = nI (n * 2) := by
  have := pk_shlN (n := n) (1 &&& 31) 1 (by decide) (by omega)
  exact this
theorem c32_not (lt : Nat → Int32) {e : Nat} {a : Bool} (he : e < 2 ^ 29) : c32 lt (-3) (nI (2 * e + bN a)) = nI (2 * e + bN (!a)) := by
  have := bN_le a
  unfold c32
  rw [if_pos rfl, show (1 : Int32) = nI 1 from rfl, nI_xor (by omega) (by omega), nat_xor1]
theorem c32_or (lt : Nat → Int32) {e : Nat} {a b : Bool} (he : e < 2 ^ 28) : c32 lt (-2) (nI (2 * (2 * e + bN a) + bN b)) = nI (2 * e + bN (a || b)) := by
  have := bN_le a
  have := bN_le b
  unfold c32
  rw [if_neg (by decide), if_pos rfl, sh1 (by omega), pk_andN (m := 1) (by omega) 1 (by decide), show (2 * (2 * e + bN a) + bN b) / 2 = 2 * e + bN a by omega, show (2 * (2 * e + bN a) + bN b) % 2 ^ 1 = bN b by omega, nI_or (by omega) (by omega), nat_or1]
theorem c32_and (lt : Nat → Int32) {e : Nat} {a b : Bool} (he : e < 2 ^ 28) : c32 lt (-1) (nI (2 * (2 * e + bN a) + bN b)) = nI (2 * e + bN (a && b)) := by
  have := bN_le a
  have := bN_le b
  unfold c32
  rw [if_neg (by decide), if_neg (by decide), if_pos rfl, sh1 (by omega), show (-2 : Int32) = nI 4294967294 from rfl, nI_or (by omega) (by omega), show (2 * (2 * e + bN a) + bN b) / 2 = 2 * e + bN a by omega, nI_and (by omega) (Nat.or_lt_two_pow (by omega) (by omega)), nat_and1 e _ a b (by omega)]
theorem c32_tst (lt : Nat → Int32) {e : Nat} {c : Int32} (h1 : ¬ c = -3) (h2 : ¬ c = -2) (h3 : ¬ c = -1) (he : e < 2 ^ 30) : c32 lt c (nI e) = nI (2 * e + bN (tst lt c)) := by
  unfold c32
  rw [if_neg h1, if_neg h2, if_neg h3, sl1 (by omega), show (if tst lt c then (1 : Int32) else 0) = nI (bN (tst lt c)) by cases tst lt c <;> rfl]
  have := bN_le (tst lt c)
  rw [nI_or (by omega) (by omega)]
  have := nat_or1 e false (tst lt c)
  rw [Bool.false_or, show 2 * e + bN false = e * 2 by show 2 * e + 0 = e * 2; omega] at this
  rw [this]
/-- codes that say one thing, whatever waits; k: how many sides there may be more, while they run -/
def says (lt : Nat → Int32) (k : Nat) (L : List Int32) (v : Bool) : Prop := ∀ S : List Bool, S.length + k ≤ 30 → r32 lt L (nI (enc S)) = nI (enc (v :: S))
theorem says.up {lt : Nat → Int32} {k k2 : Nat} {L : List Int32} {v : Bool} (h : says lt k L v) (hk : k ≤ k2) : says lt k2 L v := fun S hS => h S (by omega)
theorem pow28 {S : List Bool} (h : S.length ≤ 28) : enc S < 2 ^ 28 := Nat.lt_of_lt_of_le (enc_lt S) (Nat.pow_le_pow_right (by decide) h)
theorem pow30 {S : List Bool} (h : S.length ≤ 30) : enc S < 2 ^ 30 := Nat.lt_of_lt_of_le (enc_lt S) (Nat.pow_le_pow_right (by decide) h)
theorem says_not {lt : Nat → Int32} {k : Nat} {L : List Int32} {v : Bool} (h : says lt k L v) (hk : 1 ≤ k) : says lt k (L ++ [-3]) (!v) := by
  intro S hS
  rw [r32_app, h S hS]
  exact c32_not lt (Nat.lt_of_lt_of_le (enc_lt S) (Nat.pow_le_pow_right (by decide) (by omega)))
/-- what waits while a row of sides is read: vs, the latest first -/
def sayw (lt : Nat → Int32) (k : Nat) (L : List Int32) (vs : List Bool) : Prop := ∀ S : List Bool, S.length + k ≤ 30 → r32 lt L (nI (enc S)) = nI (enc (vs ++ S))
theorem sayw_one {lt : Nat → Int32} {k : Nat} {A L : List Int32} {vs : List Bool} {v : Bool} (h : sayw lt (k + 2) A vs) (hv : vs.length ≤ 2) (h2 : says lt k L v) : sayw lt (k + 2) (A ++ L) (v :: vs) := by
  intro S hS
  rw [r32_app, h S hS, h2 (vs ++ S) (by rw [List.length_append]; omega)]
  rfl
theorem sayw_and {lt : Nat → Int32} {k : Nat} {A : List Int32} {vs : List Bool} {x y : Bool} (h : sayw lt k A (y :: x :: vs)) (hk : 2 + vs.length ≤ k) : sayw lt k (A ++ [-1]) ((x && y) :: vs) := by
  intro S hS
  rw [r32_app, h S hS]
  exact c32_and lt (pow28 (by show (vs ++ S).length ≤ 28; rw [List.length_append]; omega))
theorem sayw_or {lt : Nat → Int32} {k : Nat} {A : List Int32} {vs : List Bool} {x y : Bool} (h : sayw lt k A (y :: x :: vs)) (hk : 2 + vs.length ≤ k) : sayw lt k (A ++ [-2]) ((x || y) :: vs) := by
  intro S hS
  rw [r32_app, h S hS]
  exact c32_or lt (pow28 (by show (vs ++ S).length ≤ 28; rw [List.length_append]; omega))
theorem tcode {l r v : Nat} (hl : l < 6) (hr : r < 3) (hv : v ≤ 999) : (nI ((l * 3 + r) * 1000 + v)).toInt = ((l * 3 + r) * 1000 + v : Nat) := nI_toInt (by omega)
theorem tst_mk {lt : Nat → Int32} {l r v : Nat} (hl : l < 6) (hr : r < 3) (hv : v ≤ 999) : tst lt (nI ((l * 3 + r) * 1000 + v)) = if r = 0 then decide ((lt l).toInt < v) else if r = 1 then decide ((lt l).toInt = v) else decide ((v : Int) < (lt l).toInt) := by
  unfold tst
  rw [tcode hl hr hv]
  have e1 : ((((l * 3 + r) * 1000 + v : Nat) : Int) / 3000).toNat = l := by omega
  have e2 : (((l * 3 + r) * 1000 + v : Nat) : Int) % 1000 = v := by omega
  have e3 : (((l * 3 + r) * 1000 + v : Nat) : Int) / 1000 % 3 = r := by omega
  simp only [e1, e2, e3]
  rcases (show r = 0 ∨ r = 1 ∨ r = 2 by omega) with rfl | rfl | rfl <;> simp
theorem says_tst {lt : Nat → Int32} {l r v : Nat} (hl : l < 6) (hr : r < 3) (hv : v ≤ 999) : says lt 1 [nI ((l * 3 + r) * 1000 + v)] (tst lt (nI ((l * 3 + r) * 1000 + v))) := by
  have e := tcode hl hr hv
  have hn : ∀ c : Int32, c.toInt < 0 → ¬ nI ((l * 3 + r) * 1000 + v) = c := by
    intro c hc q
    rw [q] at e
    omega
  intro S hS
  exact c32_tst lt (hn _ (by decide)) (hn _ (by decide)) (hn _ (by decide)) (pow30 (by omega))
