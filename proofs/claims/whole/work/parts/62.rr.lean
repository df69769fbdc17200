def cd (c : Nat) : Int32 := match c with
  | 0 => -1
  | j + 1 => nI j
def plc (k : Int32) : Int32 := if k = 6 then 1 else k
def sumI (f : Nat → Int32) : Nat → Int32
  | 0 => 0
  | n + 1 => sumI f n + f n
def rg (x : Int32) (lo hi : Int) : Prop := lo ≤ x.toInt ∧ x.toInt ≤ hi
def nl (mc : Mem) : Nat := gR mc 999 23 0
def ng (mc : Mem) : Nat := gR mc 999 24 0
def r_T (mc mm : Mem) : Prop := gI mc 0 0 0 = gI mm 0 0 0 ∧ rg (gI mm 0 0 0) 0 399
def r_F (mc mm : Mem) : Prop := ∀ f, f < 8 → gI mc 1 0 f = gI mm 3 0 f ∧ gI mc 2 0 f = gI mm 4 0 f ∧ rg (gI mm 3 0 f) 1 60 ∧ rg (gI mm 4 0 f) 1 60
def r_L0 (mc mm : Mem) : Prop := nl mc ≤ 60 ∧ gI mc 0 0 4 = nI (nl mc) ∧ gI mm 0 0 1 = nI (nl mc) ∧ ∀ l, l < 60 → gR mc 3 0 l = if l < nl mc then l + 1 else 0
def r_L (mc mm : Mem) : Prop := ∀ l, l < nl mc → gI mc 23 l 0 = nI l ∧ gI mc 23 l 1 = gI mm 5 0 l ∧ gI mc 23 l 2 = gI mm 6 0 l ∧ gI mc 23 l 3 = gI mm 7 0 l ∧ gI mc 23 l 4 = gI mm 8 0 l ∧ gI mc 23 l 5 = gI mm 9 0 l ∧ rg (gI mm 5 0 l) 0 6 ∧ rg (gI mm 6 0 l) 0 7 ∧ rg (gI mm 7 0 l) 1 999 ∧ rg (gI mm 8 0 l) 0 999 ∧ rg (gI mm 9 0 l) 0 399
def r_Lc (mc mm : Mem) : Prop := ∀ l, l < nl mc → (gI mc 23 l 6 = -5 ∧ gI mm 10 0 l = -1) ∨ (gI mc 23 l 6 = gI mm 10 0 l ∧ gI mc 23 l 7 = gI mm 11 0 l ∧ rg (gI mm 10 0 l) 0 399 ∧ rg (gI mm 11 0 l) 0 399)
def r_Lg (n : Nat) (mc mm : Mem) : Prop := ∀ l, l < 60 → gI mm 12 0 l = gI mc 23 l 8 + gI mc 23 l 9 + gI mc 23 l 10 ∧ rg (gI mc 23 l 9) 0 n ∧ (gI mm 13 0 l = if 0 < (gI mc 23 l 9).toInt then 1 else 0) ∧ (nl mc ≤ l → gI mc 23 l 8 = 0 ∧ gI mc 23 l 9 = 0 ∧ gI mc 23 l 10 = 0)
def r_Sb (mc mm : Mem) : Prop := gI mm 0 0 15 = sumI (fun l => gI mc 23 l 9) 60
def r_Ss (mc mm : Mem) : Prop := sumI (fun l => gI mc 23 l 8) 60 = sumI (fun k => if 0 ≤ (gI mm 14 0 k).toInt then 1 else 0) 150 + sumI (fun b => gI mm 15 0 b) 30
def r_B (mc mm : Mem) : Prop := ∀ b, b < 30 → gI mc 13 b 0 = nI b ∧ gI mc 13 b 1 = gI mm 1 0 b ∧ gI mc 13 b 2 = gI mm 2 0 b ∧ gI mc 13 b 3 = gI mm 18 0 b ∧ (gR mc 14 b 4 ≠ 0 → gI mc 13 b 5 = gI mm 17 0 b) ∧ rg (gI mm 1 0 b) 0 20 ∧ rg (gI mm 2 0 b) 0 60 ∧ rg (gI mm 18 0 b) 0 200 ∧ rg (gI mc 13 b 5) (-1) 29
def r_P (mc mm : Mem) : Prop := ∀ b, b < 30 → (gR mc 14 b 0 = 0 ∧ ∀ k, gR mc 15 b k ≤ nl mc) ∧ gR mc 14 b 3 = 0 ∧ gI mm 14 0 (5 * b + 2) = -1 ∧ ∀ p, p < 6 → p ≠ 0 → p ≠ 3 → gI mm 14 0 (5 * b + p - 1) = cd (gR mc 14 b p) ∧ gR mc 14 b p ≤ nl mc ∧ ∀ l, gR mc 14 b p = l + 1 → plc (gI mm 5 0 l) = nI p
def r_N (mc mm : Mem) : Prop := ∀ b, b < 30 → ∃ np, np ≤ 24 ∧ gI mc 13 b 4 = nI np ∧ gI mm 15 0 b = nI np ∧ ∀ k, k < np → ∃ l, l < nl mc ∧ gR mc 15 b k = l + 1 ∧ gI mm 16 0 (24 * b + k) = nI l ∧ gI mm 5 0 l = 3
def r_G0 (mc mm : Mem) : Prop := ng mc ≤ 10 ∧ gI mc 0 0 10 = nI (ng mc) ∧ gI mm 0 0 44 = nI (ng mc) ∧ ∀ g, g < 10 → gR mc 8 0 g = if g < ng mc then g + 1 else 0
def r_Gd (n : Nat) (mc mm : Mem) : Prop := ∀ g, g < 10 → gI mc 24 g 4 = gI mm 34 0 g ∧ rg (gI mm 34 0 g) 0 (20 * n) ∧ (ng mc ≤ g → gI mc 24 g 4 = 0)
def r_G (mc mm : Mem) : Prop := ∀ g, g < ng mc → gI mc 24 g 0 = gI mm 32 0 g ∧ gI mc 24 g 3 = gI mm 33 0 g ∧ rg (gI mm 32 0 g) 1 4 ∧ rg (gI mm 33 0 g) 1 20
def r_Gw (mc mm : Mem) : Prop := (∀ g, g < ng mc → (-5 ≤ (gI mc 24 g 1).toInt ∧ (gI mc 24 g 1).toInt ≤ (gI mc 0 0 0).toInt) ∧ (gI mc 24 g 1 = gI mc 0 0 0 → rg (gI mc 24 g 2) 0 29) ∧ gI mm 35 0 g = if gI mc 24 g 1 = gI mc 0 0 0 then gI mc 24 g 2 else -1) ∧ (∀ g, ng mc ≤ g → g < 10 → gI mm 35 0 g = -1) ∧
  ∀ b, b < 30 → (gI mm 36 0 b = 0 ∨ gI mm 36 0 b = 1) ∧ (gI mm 36 0 b = 1 ↔ ∃ g, g < ng mc ∧ gI mc 24 g 1 = gI mc 0 0 0 ∧ gI mc 24 g 2 = nI b) ∧ (gI mm 37 0 b = 0 ∨ gI mm 37 0 b = 1) ∧ (gI mm 37 0 b = 1 ↔ ∃ g, g < ng mc ∧ gI mc 24 g 1 = gI mc 0 0 0 ∧ gI mc 24 g 2 = nI b ∧ gI mc 24 g 0 = 2)
def r_Pw (mc mm : Mem) : Prop := ∃ w, w ≤ 20 ∧ gI mc 9 0 0 = nI w ∧ gI mm 0 0 51 = nI w ∧ ∀ r, r < w → gI mc 30 0 r = gI mm 38 0 r ∧ gI mc 33 0 r = gI mm 39 0 r ∧ gI mc 31 0 r = gI mm 40 0 r ∧ rg (gI mm 38 0 r) 1 5 ∧ rg (gI mm 39 0 r) 1 999 ∧ rg (gI mm 40 0 r) 0 399
def r_Pa (mc mm : Mem) : Prop := ∃ w, w ≤ 8 ∧ gI mc 9 0 1 = nI w ∧ gI mm 0 0 52 = nI w ∧ ∀ r, r < w → gI mc 34 0 r = gI mm 41 0 r ∧ gI mc 35 0 r = gI mm 42 0 r ∧ gI mc 36 0 r = gI mm 43 0 r ∧ gI mc 37 0 r = gI mm 44 0 r ∧ rg (gI mm 41 0 r) 1 5 ∧ rg (gI mm 42 0 r) 1 999 ∧ rg (gI mm 43 0 r) 0 399 ∧ rg (gI mm 44 0 r) 0 999
def r_Na (mc mm : Mem) : Prop := ∀ k, k < 8 → gI mc 40 0 k = gI mm 49 0 k ∧ ((gI mc 39 0 k = 0 ∧ gI mm 47 0 k = -1) ∨ (gI mc 39 0 k = gI mm 48 0 k ∧ gI mc 38 0 k = gI mm 47 0 k ∧ rg (gI mm 48 0 k) 1 6 ∧ rg (gI mm 47 0 k) 0 29))
def r_A (mc mm : Mem) : Prop := gI mc 11 0 0 = gI mm 0 0 66 ∧ rg (gI mm 0 0 66) 0 100 ∧ ∀ k, k < 20 → gI mc 41 0 k = gI mm 51 0 k
def r_Ta (mc mm : Mem) : Prop := ∀ t, t < 6 → gI mc 42 t 0 = gI mm 52 0 t ∧ rg (gI mm 52 0 t) (-1) 4 ∧ (∃ z, z ≤ 60 ∧ gI mc 42 t 2 = nI z ∧ gI mm 53 0 t = nI z ∧ (gI mm 52 0 t = -1 → z = 0)) ∧ ∀ k, k < 60 → gL mc 43 t k = gL mm 54 0 (60 * t + k) ∧ (gI mm 52 0 t = 2 → Int32.toInt64 (Int64.toInt32 (gL mm 54 0 (60 * t + k))) = gL mm 54 0 (60 * t + k))
def r_R (mc mm : Mem) : Prop := ∀ h, h < 24 → gI mc 25 0 h = gI mm 28 0 h ∧ rg (gI mm 28 0 h) 0 99
def r_S (mc mm : Mem) : Prop := ∃ z, z ≤ 100 ∧ gI mc 5 0 0 = nI z ∧ gI mm 0 0 22 = nI z ∧ ∀ k, k < z → rg (gI mc 16 0 k) 0 255 ∧ gI mm 20 0 (1000 + k) = ji2b (gI mc 16 0 k)
def r_W0 (mc mm : Mem) : Prop := ∃ z, z ≤ 10 ∧ gI mc 6 0 0 = nI z ∧ gI mm 0 0 21 = nI z ∧ ∀ k, k < z → gI mc 19 k 0 = gI mm 19 0 k ∧ rg (gI mm 19 0 k) 0 399
theorem nl_sI {m : Mem} {r b k : Nat} {v : Int32} : nl (sI m r b k v) = nl m := rfl
theorem ng_sI {m : Mem} {r b k : Nat} {v : Int32} : ng (sI m r b k v) = ng m := rfl
theorem nl_sL {m : Mem} {r b k : Nat} {v : Int64} : nl (sL m r b k v) = nl m := rfl
theorem ng_sL {m : Mem} {r b k : Nat} {v : Int64} : ng (sL m r b k v) = ng m := rfl
theorem sumI_congr {f g : Nat → Int32} {n : Nat} (h : ∀ j, j < n → f j = g j) : sumI f n = sumI g n := by
  induction n with
  | zero => rfl
  | succ n ih =>
    show sumI f n + f n = sumI g n + g n
    rw [ih (fun j hj => h j (by omega)), h n (by omega)]
theorem sumI_upd {f g : Nat → Int32} {d : Int32} {i n : Nat} (hi : i < n) (h1 : g i = f i + d) (h2 : ∀ j, j < n → j ≠ i → g j = f j) : sumI g n = sumI f n + d := by
  induction n with
  | zero => omega
  | succ n ih =>
    show sumI g n + g n = sumI f n + f n + d
    by_cases e : i = n
    · subst e
      rw [h1, sumI_congr (f := g) (g := f) (fun j hj => h2 j (by omega) (by omega))]
      grind
    · rw [ih (by omega) (fun j hj hne => h2 j (by omega) hne), h2 n (by omega) (by omega)]
      grind
theorem nz1 : vp_nar .boolean 1 = 1 := rfl
theorem nz0 : vp_nar .boolean 0 = 0 := rfl
