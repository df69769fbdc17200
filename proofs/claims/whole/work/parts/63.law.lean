/-- the fuel of the loops -/
def FL : Nat := 1000
/-- a text that is law, in the class (codes, values) and in the reference (bytes) -/
def ltx (mc mm : Mem) (k : Nat) (U : Nat → Int32) (n : Nat) (cs : List Cl) : Prop := n ≤ 100 ∧ byt U n ∧ pText U n FL = .inr cs ∧ gI mm 21 0 k = nI n ∧ (∀ j, j < n → gI mm 20 0 (100 * k + j) = ji2b (U j)) ∧ cs.length ≤ 8 ∧ (flt cs).length ≤ 100 ∧ gI mc 19 k 2 = nI cs.length ∧ gI mc 19 k 1 = nI (flt cs).length ∧ (∀ i, i < cs.length → gI mc 20 k i = (wds cs).getD i 0 ∧ gI mc 21 k i = (vlf 0 cs).getD i 0) ∧ ∀ i, i < (flt cs).length → gI mc 22 k i = (flt cs).getD i 0
def r_W (mc mm : Mem) : Prop := ∃ z, z ≤ 10 ∧ gI mm 0 0 21 = nI z ∧ ∀ k, k < z → ∃ U n cs, ltx mc mm k U n cs
