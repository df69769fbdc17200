/-! words and clauses -/
def mt5 (U : Nat → Int32) (n : Nat) : List Int → Nat → Nat
  | [], _ => 0
  | c :: L, p => if lk U n p = c then mt5 U n L (p + 1) + 1 else 0
theorem mt_c {U : Nat → Int32} {n : Nat} {c : Int} {L : List Int} {p : Nat} : mt5 U n (c :: L) p = if lk U n p = c then mt5 U n L (p + 1) + 1 else 0 := rfl
theorem mt_le {U : Nat → Int32} {n : Nat} : ∀ (L : List Int) (p : Nat), mt5 U n L p ≤ L.length := by
  intro L
  induction L with
  | nil => intro p; exact Nat.le_refl _
  | cons c L ih =>
    intro p
    rw [mt_c]
    have := ih (p + 1)
    split
    · show _ ≤ L.length + 1; omega
    · exact Nat.zero_le _
theorem mt_n {U : Nat → Int32} {n : Nat} : ∀ (L : List Int) (p : Nat), (∀ c, c ∈ L → 0 ≤ c) → p ≤ n → p + mt5 U n L p ≤ n := by
  intro L
  induction L with
  | nil => intro p _ h; exact h
  | cons c L ih =>
    intro p h1 h2
    rw [mt_c]
    split
    · rename_i e
      have hc := h1 c List.mem_cons_self
      have := lk_lt (U := U) (n := n) (p := p) (by omega)
      have := ih (p + 1) (fun x hx => h1 x (List.mem_cons_of_mem _ hx)) this
      omega
    · exact h2
def wdl (w : Nat) : List Int := if w = 0 then [112, 97, 99, 107, 32] else if w = 1 then [112, 97, 121, 32] else if w = 2 then [108, 111, 97, 100, 32] else if w = 3 then [115, 110, 111, 119, 32] else if w = 4 then [99, 117, 116, 32] else [98, 97, 114, 32]
def wst (w : Nat) : Nat := if w = 0 then 0 else if w = 1 then 5 else if w = 2 then 9 else if w = 3 then 14 else if w = 4 then 19 else 23
theorem wdl_le (w : Nat) : 4 ≤ (wdl w).length ∧ (wdl w).length ≤ 5 := by
  unfold wdl
  repeat' split
  all_goals decide
theorem wdl_0 (w : Nat) : ∀ c, c ∈ wdl w → 0 ≤ c := by
  unfold wdl
  repeat' split
  all_goals decide
def mtw (U : Nat → Int32) (n w p : Nat) : Nat := mt5 U n (wdl w) p
def pW (U : Nat → Int32) (n p : Nat) : Nat → Nat → Nat → Nat ⊕ Nat
  | 0, _, a => .inl (p + a)
  | k + 1, w, a => if mtw U n w p = (wdl w).length then .inr w else pW U n p k (w + 1) (max a (mtw U n w p))
def pWord (U : Nat → Int32) (n p : Nat) : Nat ⊕ Nat := pW U n p 6 0 0
theorem pW_n {U : Nat → Int32} {n p : Nat} (hp : p ≤ n) : ∀ k w a, p + a ≤ n → (match pW U n p k w a with | .inl q => p ≤ q ∧ q ≤ n | .inr v => v < w + k ∧ p + (wdl v).length ≤ n) := by
  intro k
  induction k with
  | zero => intro w a h; exact ⟨by omega, h⟩
  | succ k ih =>
    intro w a h
    have hm := mt_n (U := U) (n := n) (wdl w) p (wdl_0 w) hp
    show (match (if mtw U n w p = (wdl w).length then .inr w else pW U n p k (w + 1) (max a (mtw U n w p)) : Nat ⊕ Nat) with | .inl q => p ≤ q ∧ q ≤ n | .inr v => v < w + (k + 1) ∧ p + (wdl v).length ≤ n)
    by_cases c : mtw U n w p = (wdl w).length
    · rw [if_pos c]
      refine ⟨by omega, ?_⟩
      unfold mtw at c
      omega
    · rw [if_neg c]
      have := ih (w + 1) (max a (mtw U n w p)) (by unfold mtw; omega)
      cases hx : pW U n p k (w + 1) (max a (mtw U n w p)) with
      | inl q => rw [hx] at this; exact this
      | inr v => rw [hx] at this; exact ⟨by have := this.1; omega, this.2⟩
abbrev Cl : Type := Nat × Nat × List Int32
def pClause (U : Nat → Int32) (n fl p : Nat) : Nat ⊕ (Nat × Cl) := match pWord U n p with
  | .inl q => .inl q
  | .inr w =>
    if w < 4 then (if (pnm U n (p + (wdl w).length)).1 = 0 then .inl (p + (wdl w).length) else .inr (p + (wdl w).length + (pnm U n (p + (wdl w).length)).1, w, (pnm U n (p + (wdl w).length)).2, []))
    else (match pE U n (pOne U n fl 8 0) fl false false (p + (wdl w).length) [] with
      | .inl q => .inl q
      | .inr r => .inr (r.1, w, 0, r.2))
def cdc (c : Cl) : List Int32 := if c.1 < 4 then [] else c.2.2 ++ [-4]
def flt : List Cl → List Int32
  | [] => []
  | c :: cs => cdc c ++ flt cs
theorem flt_app (A B : List Cl) : flt (A ++ B) = flt A ++ flt B := by
  induction A with
  | nil => rfl
  | cons c A ih => show cdc c ++ flt (A ++ B) = cdc c ++ flt A ++ flt B; rw [ih, List.append_assoc]
def vlf : Nat → List Cl → List Int32
  | _, [] => []
  | k, c :: cs => (if c.1 < 4 then nI c.2.1 else nI k) :: vlf (k + (cdc c).length) cs
theorem vlf_snoc (c : Cl) : ∀ (A : List Cl) (k : Nat), vlf k (A ++ [c]) = vlf k A ++ [if c.1 < 4 then nI c.2.1 else nI (k + (flt A).length)] := by
  intro A
  induction A with
  | nil => intro k; rfl
  | cons d A ih =>
    intro k
    show _ :: vlf (k + (cdc d).length) (A ++ [c]) = _ :: (vlf (k + (cdc d).length) A ++ [if c.1 < 4 then nI c.2.1 else nI (k + (cdc d ++ flt A).length)])
    rw [ih, List.length_append, Nat.add_assoc]
theorem vlf_len : ∀ (A : List Cl) (k : Nat), (vlf k A).length = A.length := by
  intro A
  induction A with
  | nil => intro k; rfl
  | cons d A ih => intro k; show (vlf _ A).length + 1 = A.length + 1; rw [ih]
def wds (A : List Cl) : List Int32 := A.map fun c => nI c.1
theorem wds_len (A : List Cl) : (wds A).length = A.length := List.length_map _
def pT (U : Nat → Int32) (n fl : Nat) : Nat → Nat → List Cl → Nat ⊕ List Cl
  | 0, p, _ => .inl p
  | N + 1, p, cs => match pClause U n fl p with
    | .inl q => .inl q
    | .inr r => if lk U n r.1 = 59 ∧ N ≠ 0 then pT U n fl N (r.1 + 1) (cs ++ [r.2]) else if r.1 < n then .inl r.1 else .inr (cs ++ [r.2])
def pText (U : Nat → Int32) (n fl : Nat) : Nat ⊕ List Cl := pT U n fl 8 0 []
theorem adv_C {U : Nat → Int32} {n fl p : Nat} (hp : p ≤ n) : match pClause U n fl p with
    | .inl q => q ≤ n
    | .inr r => p + 4 ≤ r.1 ∧ r.1 ≤ n ∧ (cdc r.2).length + p ≤ r.1 ∧ r.2.1 < 6 := by
  have hw := pW_n (U := U) (n := n) hp 6 0 0 hp
  unfold pClause
  have e : pWord U n p = pW U n p 6 0 0 := rfl
  rw [e]
  cases hx : pW U n p 6 0 0 with
  | inl q => rw [hx] at hw; exact hw.2
  | inr w =>
    rw [hx] at hw
    obtain ⟨w1, w2⟩ := hw
    have wl := wdl_le w
    show (match (if w < 4 then _ else _ : Nat ⊕ (Nat × Cl)) with
      | .inl q => q ≤ n
      | .inr r => p + 4 ≤ r.1 ∧ r.1 ≤ n ∧ (cdc r.2).length + p ≤ r.1 ∧ r.2.1 < 6)
    by_cases c : w < 4
    · rw [if_pos c]
      have pl := (pnm_le (U := U) (n := n) (p := p + (wdl w).length)).2.2 w2
      by_cases d : (pnm U n (p + (wdl w).length)).1 = 0
      · rw [if_pos d]; exact w2
      · rw [if_neg d]
        have e0 : cdc (w, (pnm U n (p + (wdl w).length)).2, []) = [] := if_pos c
        refine ⟨?_, pl, ?_, by show w < 6; omega⟩
        · show p + 4 ≤ p + _ + _; omega
        · show (cdc (w, (pnm U n (p + (wdl w).length)).2, [])).length + p ≤ p + (wdl w).length + (pnm U n (p + (wdl w).length)).1
          rw [e0]
          show 0 + p ≤ _
          omega
    · rw [if_neg c]
      have ya := adv_E (U := U) (fun p hp => adv_one (U := U) (n := n) (fl := fl) 8 0 p hp) fl false false (p + (wdl w).length) (p + (wdl w).length) [] w2 (Nat.le_refl _) (by show 0 + 0 + 0 + _ ≤ _; omega)
      cases hy : pE U n (pOne U n fl 8 0) fl false false (p + (wdl w).length) [] with
      | inl q => rw [hy] at ya; exact ya
      | inr r =>
        rw [hy] at ya
        obtain ⟨a1, a2, a3⟩ := ya
        have e0 : cdc (w, 0, r.2) = r.2 ++ [-4] := if_neg c
        refine ⟨by show p + 4 ≤ r.1; omega, a2, ?_, by show w < 6; omega⟩
        show (cdc (w, 0, r.2)).length + p ≤ r.1
        rw [e0, List.length_append]
        show r.2.length + 1 + p ≤ r.1
        omega
