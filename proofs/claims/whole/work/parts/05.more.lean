abbrev vq (i : Int32) (n : Nat) : Prop := ¬ (i < 0 ∨ n ≤ i.toNatClampNeg)
def jrem (x y : Int32) : Int32 := x - x / y * y
def jshl (x y : Int32) : Int32 := x <<< (y &&& 31)
def jshr (x y : Int32) : Int32 := x >>> (y &&& 31)
def jushr (x y : Int32) : Int32 := (x.toUInt32 >>> (y.toUInt32 &&& Int32.toUInt32 31)).toInt32
def jmin (x y : Int32) : Int32 := if y < x then y else x
def jmax (x y : Int32) : Int32 := if x < y then y else x
def jabs (x : Int32) : Int32 := if 0 ≤ x then x else 0 - x
def ji2b (x : Int32) : Int32 := x.toInt8.toInt32
def ji2s (x : Int32) : Int32 := x.toInt16.toInt32
def jz (x : Int32) : Int32 := vp_nar .boolean x
theorem ite_t {β : Type} {c : Prop} [Decidable c] {a b : Option β} {r : β} (h : (if c then a else b) = some r) (hc : c) : a = some r := by rw [if_pos hc] at h; exact h
theorem ite_f {β : Type} {c : Prop} [Decidable c] {a b : Option β} {r : β} (h : (if c then a else b) = some r) (hc : ¬ c) : b = some r := by rw [if_neg hc] at h; exact h
theorem nolast {lv : List (Nat × Value)} {i : Nat} (h : (lv.map Prod.fst).all (fun j => !(j + 1 == i)) = true) : ∀ q ∈ lv, q.1 + 1 = i → q.2.category = 1 := by
  intro q hq e
  have h1 := List.all_eq_true.mp h q.1 (List.mem_map_of_mem hq)
  simp [e] at h1
theorem onlast {lv : List (Nat × Value)} {i : Nat} (k0 : Nat) {j : Nat} {v : Value} (hk : lv[k0]? = some (j, v)) (hv : v.category = 1) (h : ((lv.eraseIdx k0).map Prod.fst).all (fun j => !(j + 1 == i)) = true) : ∀ q ∈ lv, q.1 + 1 = i → q.2.category = 1 := by
  intro q hq e
  obtain ⟨k, hk2⟩ := List.getElem?_of_mem hq
  by_cases hkk : k = k0
  · subst hkk
    rw [hk] at hk2
    cases hk2
    exact hv
  · have hm : q ∈ lv.eraseIdx k0 := by
      rw [List.mem_eraseIdx_iff_getElem?]
      exact ⟨k, hkk, hk2⟩
    exact nolast h q hm e
def lvf (lv : List (Nat × Value)) (i : Nat) : List (Nat × Value) := lv.filter (fun q => !(q.1 == i))
def lvg (lv : List (Nat × Value)) (i : Nat) : List (Nat × Value) := lv.filter (fun q => !(q.1 == i) && !(q.1 == i + 1))
theorem lvd_eq {lv : List (Nat × Value)} {i : Nat} (h : ∀ q ∈ lv, q.1 + 1 = i → q.2.category = 1) : lv.filter (fun q => !(q.1 == i) && !(q.1 + 1 == i && q.2.category == 2)) = lvf lv i := by
  refine List.filter_congr fun q hq => ?_
  by_cases e : q.1 + 1 = i
  · simp [h q hq e]
  · simp [e]
theorem lvg_eq {lv : List (Nat × Value)} {i : Nat} (h : ∀ q ∈ lv, q.1 + 1 = i → q.2.category = 1) : lv.filter (fun q => !(q.1 == i) && (!(q.1 == i + 1) && !(q.1 + 1 == i && q.2.category == 2))) = lvg lv i := by
  refine List.filter_congr fun q hq => ?_
  by_cases e : q.1 + 1 = i
  · simp [h q hq e]
  · have e2 : (q.1 + 1 == i) = false := by simpa using e
    simp [e2]
theorem getD_hi {α : Type} (l : List α) (x : α) {n : Nat} (h : l.length ≤ n) : l.getD n x = x := by
  rw [List.getD_eq_getElem?_getD, List.getElem?_eq_none h]
  rfl
theorem pr_s {α : Type} {a b : α} {m n : Mem} (h : some (a, m) = some (b, n)) : a = b ∧ m = n := by
  have h1 := Option.some.inj h
  exact ⟨congrArg Prod.fst h1, congrArg Prod.snd h1⟩
theorem sm_s {m n : Mem} (h : some m = some n) : m = n := Option.some.inj h
theorem cat_i {x : Int32} : (Value.int x).category = 1 := rfl
theorem cat_l {x : Int64} : (Value.long x).category = 2 := rfl
theorem cat_r {x : Nat} : (Value.ref x).category = 1 := rfl
theorem cat_n : (Value.null).category = 1 := rfl
theorem jz01 {v : Int32} (h : v = 0 ∨ v = 1) : narrow .boolean (.int v) = .int v := by
  rcases h with rfl | rfl <;> rfl
theorem tab_out {x : Int32} {lo hi : Int} (h : ∀ k : Int, lo ≤ k → k ≤ hi → ¬ x = Int32.ofInt k) : x.toInt < lo ∨ hi < x.toInt := by
  by_cases h1 : x.toInt < lo
  · exact Or.inl h1
  · by_cases h2 : hi < x.toInt
    · exact Or.inr h2
    · exact absurd (Int32.ofInt_toInt x).symm (h x.toInt (by omega) (by omega))
section ZM
variable {p : Program} {l : Launch} {e : Env} {R : Room} {s : State} {m : MethodId} {args : Array Value} {below : List Frame} {meth : Method} {c : Code} {H : Heap} {locs : List Loc} {cells slots : Nat} {Q : State → Prop}
variable {cc : ByteArray} {pc nL : Nat} {ls : Array Slot} {rest : List Value} {own : String} {rt : Option FieldType} {K : KG} {L : Lay} {ad : Nat → Nat → Nat} {M M1 : Mem}
theorem z_hR {h h' : Nat} (hR : h ≤ R.frames ∧ 40 * h ≤ R.locals) (hh : h' + 1 ≤ h) : h' + 1 ≤ R.frames ∧ 40 * (h' + 1) ≤ R.locals := ⟨by omega, by omega⟩
theorem z_istore_n {k : Fin 4} {i : Nat} {x : Int32} {lv lv' : List (Nat × Value)} (C : Cx p s m args meth c cc nL own rt) (d : decode cc pc = .ok (.istore_n k, 1)) (hi : (k : Nat) = i) (h : lv_has ls nL lv) (hn : i < nL) (hl : (i, Value.int x) :: lvf lv i = lv') (hc : ∀ q ∈ lv, q.1 + 1 = i → q.2.category = 1)
    (kk : ∀ ls' : Array Slot, lv_has ls' nL lv' → W p l e R s m args below meth c H locs cells slots Q (F0 m (pc + 1) ls' rest)) : W p l e R s m args below meth c H locs cells slots Q (F0 m pc ls (.int x :: rest)) :=
  lv_istore_n C.x C.b d hi h hn (by rw [lvd_eq hc]; exact hl) kk
theorem z_istore {i : Nat} {x : Int32} {lv lv' : List (Nat × Value)} (C : Cx p s m args meth c cc nL own rt) (d : decode cc pc = .ok (.istore i, 2)) (h : lv_has ls nL lv) (hn : i < nL) (hl : (i, Value.int x) :: lvf lv i = lv') (hc : ∀ q ∈ lv, q.1 + 1 = i → q.2.category = 1)
    (kk : ∀ ls' : Array Slot, lv_has ls' nL lv' → W p l e R s m args below meth c H locs cells slots Q (F0 m (pc + 2) ls' rest)) : W p l e R s m args below meth c H locs cells slots Q (F0 m pc ls (.int x :: rest)) :=
  lv_istore C.x C.b d h hn (by rw [lvd_eq hc]; exact hl) kk
theorem z_rstore_n {k : Fin 4} {i : Nat} {x : Nat} {lv lv' : List (Nat × Value)} (C : Cx p s m args meth c cc nL own rt) (d : decode cc pc = .ok (.astore_n k, 1)) (hi : (k : Nat) = i) (h : lv_has ls nL lv) (hn : i < nL) (hl : (i, Value.ref x) :: lvf lv i = lv') (hc : ∀ q ∈ lv, q.1 + 1 = i → q.2.category = 1)
    (kk : ∀ ls' : Array Slot, lv_has ls' nL lv' → W p l e R s m args below meth c H locs cells slots Q (F0 m (pc + 1) ls' rest)) : W p l e R s m args below meth c H locs cells slots Q (F0 m pc ls (.ref x :: rest)) :=
  lv_astore_n C.x C.b d hi h hn (by rw [lvd_eq hc]; exact hl) kk
theorem z_rstore {i : Nat} {x : Nat} {lv lv' : List (Nat × Value)} (C : Cx p s m args meth c cc nL own rt) (d : decode cc pc = .ok (.astore i, 2)) (h : lv_has ls nL lv) (hn : i < nL) (hl : (i, Value.ref x) :: lvf lv i = lv') (hc : ∀ q ∈ lv, q.1 + 1 = i → q.2.category = 1)
    (kk : ∀ ls' : Array Slot, lv_has ls' nL lv' → W p l e R s m args below meth c H locs cells slots Q (F0 m (pc + 2) ls' rest)) : W p l e R s m args below meth c H locs cells slots Q (F0 m pc ls (.ref x :: rest)) :=
  lv_astore C.x C.b d h hn (by rw [lvd_eq hc]; exact hl) kk
theorem z_cstore_n {k : Fin 4} {i x : Nat} {f : Nat → Nat} {lv lv' : List (Nat × Value)} (C : Cx p s m args meth c cc nL own rt) (d : decode cc pc = .ok (.astore_n k, 1)) (hi : (k : Nat) = i) (h : lv_has ls nL lv) (hn : i < nL) (hl : (i, rf f x) :: lvf lv i = lv') (hc : ∀ q ∈ lv, q.1 + 1 = i → q.2.category = 1)
    (kk : ∀ ls' : Array Slot, lv_has ls' nL lv' → W p l e R s m args below meth c H locs cells slots Q (F0 m (pc + 1) ls' rest)) : W p l e R s m args below meth c H locs cells slots Q (F0 m pc ls (rf f x :: rest)) :=
  z_astore_n C d hi h hn (by unfold lvd; rw [lvd_eq hc]; exact hl) kk
theorem z_cstore {i x : Nat} {f : Nat → Nat} {lv lv' : List (Nat × Value)} (C : Cx p s m args meth c cc nL own rt) (d : decode cc pc = .ok (.astore i, 2)) (h : lv_has ls nL lv) (hn : i < nL) (hl : (i, rf f x) :: lvf lv i = lv') (hc : ∀ q ∈ lv, q.1 + 1 = i → q.2.category = 1)
    (kk : ∀ ls' : Array Slot, lv_has ls' nL lv' → W p l e R s m args below meth c H locs cells slots Q (F0 m (pc + 2) ls' rest)) : W p l e R s m args below meth c H locs cells slots Q (F0 m pc ls (rf f x :: rest)) :=
  z_astore C d h hn (by unfold lvd; rw [lvd_eq hc]; exact hl) kk
theorem z_lstore_n {k : Fin 4} {i : Nat} {x : Int64} {lv lv' : List (Nat × Value)} (C : Cx p s m args meth c cc nL own rt) (d : decode cc pc = .ok (.lstore_n k, 1)) (hi : (k : Nat) = i) (h : lv_has ls nL lv) (hn : i + 1 < nL) (hl : (i, Value.long x) :: lvg lv i = lv') (hc : ∀ q ∈ lv, q.1 + 1 = i → q.2.category = 1)
    (kk : ∀ ls' : Array Slot, lv_has ls' nL lv' → W p l e R s m args below meth c H locs cells slots Q (F0 m (pc + 1) ls' rest)) : W p l e R s m args below meth c H locs cells slots Q (F0 m pc ls (.long x :: rest)) :=
  lv_lstore_n C.x C.b d hi h hn (by rw [lvg_eq hc]; exact hl) kk
theorem z_lstore {i : Nat} {x : Int64} {lv lv' : List (Nat × Value)} (C : Cx p s m args meth c cc nL own rt) (d : decode cc pc = .ok (.lstore i, 2)) (h : lv_has ls nL lv) (hn : i + 1 < nL) (hl : (i, Value.long x) :: lvg lv i = lv') (hc : ∀ q ∈ lv, q.1 + 1 = i → q.2.category = 1)
    (kk : ∀ ls' : Array Slot, lv_has ls' nL lv' → W p l e R s m args below meth c H locs cells slots Q (F0 m (pc + 2) ls' rest)) : W p l e R s m args below meth c H locs cells slots Q (F0 m pc ls (.long x :: rest)) :=
  lv_lstore C.x C.b d h hn (by rw [lvg_eq hc]; exact hl) kk
theorem z_iinc {i k : Nat} {n : Int} {x v : Int32} {lv lv' : List (Nat × Value)} (C : Cx p s m args meth c cc nL own rt) (d : decode cc pc = .ok (.iinc i n, 3)) (h : lv_has ls nL lv) (hk : lv[k]? = some (i, .int x)) (hv : x + Int32.ofInt n = v) (hn : i < nL) (hl : (i, Value.int v) :: lvf lv i = lv') (hc : ∀ q ∈ lv, q.1 + 1 = i → q.2.category = 1)
    (kk : ∀ ls' : Array Slot, lv_has ls' nL lv' → W p l e R s m args below meth c H locs cells slots Q (F0 m (pc + 3) ls' rest)) : W p l e R s m args below meth c H locs cells slots Q (F0 m pc ls rest) :=
  lv_iinc C.x C.b d h hk hv hn (by rw [lvd_eq hc]; exact hl) kk
theorem z_irem {x y : Int32} (C : Cx p s m args meth c cc nL own rt) (d : decode cc pc = .ok (.irem, 1)) (hne : ¬ y = 0)
    (k : W p l e R s m args below meth c H locs cells slots Q (F0 m (pc + 1) ls (.int (jrem x y) :: rest))) : W p l e R s m args below meth c H locs cells slots Q (F0 m pc ls (.int y :: .int x :: rest)) := lv_irem C.x C.b d hne k
theorem z_ishl {x y : Int32} (C : Cx p s m args meth c cc nL own rt) (d : decode cc pc = .ok (.ishl, 1))
    (k : W p l e R s m args below meth c H locs cells slots Q (F0 m (pc + 1) ls (.int (jshl x y) :: rest))) : W p l e R s m args below meth c H locs cells slots Q (F0 m pc ls (.int y :: .int x :: rest)) := lv_ishl C.x C.b d k
theorem z_ishr {x y : Int32} (C : Cx p s m args meth c cc nL own rt) (d : decode cc pc = .ok (.ishr, 1))
    (k : W p l e R s m args below meth c H locs cells slots Q (F0 m (pc + 1) ls (.int (jshr x y) :: rest))) : W p l e R s m args below meth c H locs cells slots Q (F0 m pc ls (.int y :: .int x :: rest)) := lv_ishr C.x C.b d k
theorem z_iushr {x y : Int32} (C : Cx p s m args meth c cc nL own rt) (d : decode cc pc = .ok (.iushr, 1))
    (k : W p l e R s m args below meth c H locs cells slots Q (F0 m (pc + 1) ls (.int (jushr x y) :: rest))) : W p l e R s m args below meth c H locs cells slots Q (F0 m pc ls (.int y :: .int x :: rest)) := lv_iushr C.x C.b (v := jushr x y) d rfl k
theorem z_i2b {x : Int32} (C : Cx p s m args meth c cc nL own rt) (d : decode cc pc = .ok (.i2b, 1))
    (k : W p l e R s m args below meth c H locs cells slots Q (F0 m (pc + 1) ls (.int (ji2b x) :: rest))) : W p l e R s m args below meth c H locs cells slots Q (F0 m pc ls (.int x :: rest)) := lv_i2b C.x C.b (v := ji2b x) d rfl k
theorem z_i2s {x : Int32} (C : Cx p s m args meth c cc nL own rt) (d : decode cc pc = .ok (.i2s, 1))
    (k : W p l e R s m args below meth c H locs cells slots Q (F0 m (pc + 1) ls (.int (ji2s x) :: rest))) : W p l e R s m args below meth c H locs cells slots Q (F0 m pc ls (.int x :: rest)) := lv_i2s C.x C.b (v := ji2s x) d rfl k
theorem z_i2l {x : Int32} (C : Cx p s m args meth c cc nL own rt) (d : decode cc pc = .ok (.i2l, 1))
    (k : W p l e R s m args below meth c H locs cells slots Q (F0 m (pc + 1) ls (.long x.toInt64 :: rest))) : W p l e R s m args below meth c H locs cells slots Q (F0 m pc ls (.int x :: rest)) := lv_i2l C.x C.b d rfl k
theorem z_l2i {x : Int64} (C : Cx p s m args meth c cc nL own rt) (d : decode cc pc = .ok (.l2i, 1))
    (k : W p l e R s m args below meth c H locs cells slots Q (F0 m (pc + 1) ls (.int x.toInt32 :: rest))) : W p l e R s m args below meth c H locs cells slots Q (F0 m pc ls (.long x :: rest)) := lv_l2i C.x C.b d rfl k
theorem z_renI {x y : Int32} {pc : Nat} (ex : x = y) (k : W p l e R s m args below meth c H locs cells slots Q (F0 m pc ls (.int x :: rest))) : W p l e R s m args below meth c H locs cells slots Q (F0 m pc ls (.int y :: rest)) := by subst ex; exact k
theorem z_renL {x y : Int64} {pc : Nat} (ex : x = y) (k : W p l e R s m args below meth c H locs cells slots Q (F0 m pc ls (.long x :: rest))) : W p l e R s m args below meth c H locs cells slots Q (F0 m pc ls (.long y :: rest)) := by subst ex; exact k
theorem z_renC {x y : Nat} {f : Nat → Nat} {pc : Nat} (ex : x = y) (k : W p l e R s m args below meth c H locs cells slots Q (F0 m pc ls (rf f x :: rest))) : W p l e R s m args below meth c H locs cells slots Q (F0 m pc ls (rf f y :: rest)) := by subst ex; exact k
/-- behind a test: the reference is the object j; under n values of the stack -/
theorem z_nn (st : List Value) {y j : Nat} {f : Nat → Nat} {pc : Nat} (ex : y = j + 1) (k : W p l e R s m args below meth c H locs cells slots Q (F0 m pc ls (st ++ .ref (f j) :: rest))) : W p l e R s m args below meth c H locs cells slots Q (F0 m pc ls (st ++ rf f y :: rest)) := by subst ex; exact k
theorem z_cV {y : MethodName} {bytes : ByteArray} {maxL h n idx r b ci N : Nat} {ret : Option FieldType} {T : u_T} {As st0 st1 : List Value} {rv : Option Value} (C : Cx p s m args meth c cc nL own rt) (Z : Zd K L ad M s H locs) (w : MW y bytes maxL ret n) (wv : zW (.instanceMethod y) ∧ Cond.selects y.cls y y ∈ ztb) (lk : zW (.methodLink own idx y)) (hL : maxL ≤ 20) (hR : h + 1 ≤ R.frames ∧ 40 * (h + 1) ≤ R.locals)
    (hb : b < lc L M r) (hk : L.1 r = .inl ci) (hc : zcl[ci]? = some (y.cls, T, N)) (hM : Met l y (Cond.code y bytes maxL ret :: ztb) (RM h 0 0) (zPc K L ad M (.ref (ad r b) :: As)) (zQ K L ad rv M1) 0 0 (zA ad)) (hn : As.length = n) (hl : ls.size = nL) (hst : st0 = As.reverse ++ .ref (ad r b) :: rest) (hcat : (rest.map fun v => v.category).sum ≤ 8) (d : decode cc pc = .ok (.invokevirtual idx, 3)) (hf : cells ≤ R.cells ∧ slots ≤ R.slots) (hs1 : rv.toList ++ rest = st1)
    (kk : ∀ (H1 : Heap) (locs1 : List Loc), Zd K L ad M1 s H1 locs1 → W p l e R s m args below meth c H1 locs1 cells slots Q (F0 m (pc + 3) ls st1)) : W p l e R s m args below meth c H locs cells slots Q (F0 m pc ls st0) := by
  subst hs1
  exact z_calV C Z w wv lk hL hR hb hk hc hM hn hl hst hcat d hf kk
theorem z_cS {y : MethodName} {bytes : ByteArray} {maxL h n idx : Nat} {ret : Option FieldType} {As st0 st1 : List Value} {rv : Option Value} (C : Cx p s m args meth c cc nL own rt) (Z : Zd K L ad M s H locs) (w : MW y bytes maxL ret n) (wv : zW (.static y)) (lk : zW (.methodLink own idx y)) (hL : maxL ≤ 20) (hR : h + 1 ≤ R.frames ∧ 40 * (h + 1) ≤ R.locals)
    (hM : Met l y (Cond.code y bytes maxL ret :: ztb) (RM h 0 0) (zPc K L ad M As) (zQ K L ad rv M1) 0 0 (zA ad)) (hn : As.length = n) (hl : ls.size = nL) (hst : st0 = As.reverse ++ rest) (hcat : (rest.map fun v => v.category).sum ≤ 8) (d : decode cc pc = .ok (.invokestatic idx, 3)) (hf : cells ≤ R.cells ∧ slots ≤ R.slots) (hs1 : rv.toList ++ rest = st1)
    (kk : ∀ (H1 : Heap) (locs1 : List Loc), Zd K L ad M1 s H1 locs1 → W p l e R s m args below meth c H1 locs1 cells slots Q (F0 m (pc + 3) ls st1)) : W p l e R s m args below meth c H locs cells slots Q (F0 m pc ls st0) := by
  subst hs1
  exact z_calS C Z w wv lk hL hR hM hn hl hst hcat d hf kk
theorem z_ti {t N : Nat} {f : Nat → Int32} (C : Cx p s m args meth c cc nL own rt) (Z : Zd K L ad M s H locs) (hT : va_T .int t N (fun j => .int (f j)) (zA ad) s s.heap) {i : Int32} (hin : vp_in i N) (d : decode cc pc = .ok (.iaload, 1))
    (kk : W p l e R s m args below meth c H locs cells slots Q (F0 m (pc + 1) ls (.int (f i.toNatClampNeg) :: rest))) : W p l e R s m args below meth c H locs cells slots Q (F0 m pc ls (.int i :: .ref t :: rest)) := va_ti C.x C.b hT Z.2.1 hin rfl d kk
theorem z_min {index : Nat} (C : Cx p s m args meth c cc nL own rt) (w : zW (.methodLink own index Lib.Math.min.name)) (w1 : zW (.static Lib.Math.min.name)) (w2 : zW (.initialized "java/lang/Math")) (w3 : zW (.code Lib.Math.min.name Lib.Math.min.code 2 (some .int))) (hl : ls.size = nL) {h : Nat} (hR : h ≤ R.frames ∧ 40 * h ≤ R.locals) (hh : 1 ≤ h) (hcat : (rest.map fun v => v.category).sum ≤ 8) (hf : cells ≤ R.cells ∧ slots ≤ R.slots) {x y : Int32} (d : decode cc pc = .ok (.invokestatic index, 3))
    (kk : W p l e R s m args below meth c H locs cells slots Q (F0 m (pc + 3) ls (.int (jmin x y) :: rest))) : W p l e R s m args below meth c H locs cells slots Q (F0 m pc ls (.int y :: .int x :: rest)) :=
  va_mmin C.x C.b (C.1.2.2.1.trans hl.symm) C.o (C.w w) (C.w w1) (C.w w2) (C.w w3) (by omega) (by omega) hf.1 hf.2 d kk
theorem z_max {index : Nat} (C : Cx p s m args meth c cc nL own rt) (w : zW (.methodLink own index Lib.Math.max.name)) (w1 : zW (.static Lib.Math.max.name)) (w2 : zW (.initialized "java/lang/Math")) (w3 : zW (.code Lib.Math.max.name Lib.Math.max.code 2 (some .int))) (hl : ls.size = nL) {h : Nat} (hR : h ≤ R.frames ∧ 40 * h ≤ R.locals) (hh : 1 ≤ h) (hcat : (rest.map fun v => v.category).sum ≤ 8) (hf : cells ≤ R.cells ∧ slots ≤ R.slots) {x y : Int32} (d : decode cc pc = .ok (.invokestatic index, 3))
    (kk : W p l e R s m args below meth c H locs cells slots Q (F0 m (pc + 3) ls (.int (jmax x y) :: rest))) : W p l e R s m args below meth c H locs cells slots Q (F0 m pc ls (.int y :: .int x :: rest)) :=
  va_mmax C.x C.b (C.1.2.2.1.trans hl.symm) C.o (C.w w) (C.w w1) (C.w w2) (C.w w3) (by omega) (by omega) hf.1 hf.2 d kk
theorem z_abs {index : Nat} (C : Cx p s m args meth c cc nL own rt) (w : zW (.methodLink own index Lib.Math.abs.name)) (w1 : zW (.static Lib.Math.abs.name)) (w2 : zW (.initialized "java/lang/Math")) (w3 : zW (.code Lib.Math.abs.name Lib.Math.abs.code 1 (some .int))) (hl : ls.size = nL) {h : Nat} (hR : h ≤ R.frames ∧ 40 * h ≤ R.locals) (hh : 1 ≤ h) (hcat : (rest.map fun v => v.category).sum ≤ 8) (hf : cells ≤ R.cells ∧ slots ≤ R.slots) {x : Int32} (d : decode cc pc = .ok (.invokestatic index, 3))
    (kk : W p l e R s m args below meth c H locs cells slots Q (F0 m (pc + 3) ls (.int (jabs x) :: rest))) : W p l e R s m args below meth c H locs cells slots Q (F0 m pc ls (.int x :: rest)) :=
  va_mabs C.x C.b (C.1.2.2.1.trans hl.symm) C.o (C.w w) (C.w w1) (C.w w2) (C.w w3) (by omega) (by omega) hf.1 hf.2 d kk
end ZM
