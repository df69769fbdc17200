/-! the law's own walk: two worlds in one heap -/
section LW
variable {p : Program} {l : Launch} {e : Env} {R : Room} {s : State} {m : MethodId} {args : Array Value} {below : List Frame} {meth : Method} {c : Code} {H : Heap} {locs : List Loc} {cells slots : Nat} {Q : State → Prop}
variable {cc : ByteArray} {pc nL : Nat} {ls : Array Slot} {rest : List Value} {own : String} {rt : Option FieldType} {K : KG} {L : Lay} {ad : Nat → Nat → Nat} {M M1 : Mem}
/-- what the law may write: all that is new -/
def lA (s : State) : Nat → Prop := fun q => s.heap.size ≤ q
/-- what stays along the whole walk -/
def LG (K : KG) (s : State) : Prop := kB K = s.heap.size ∧ KK K s ∧ AO5 s ∧ ∀ ad : Nat → Nat → Nat, (∀ q, zA ad q → s.heap.size ≤ q) → ZS K ad s s.heap
def FR (ad : Nat → Nat → Nat) (H H1 : Heap) : Prop := H.size ≤ H1.size ∧ ∀ q : Nat, q < H.size → ¬ zA ad q → H1[q]? = H[q]?
theorem LG.low (g : LG K s) (Z : Zw K L ad M H) : ∀ q, zA ad q → s.heap.size ≤ q := by
  rintro q ⟨r, b, -, rfl⟩
  have h3 := Z.2.2.1 r b
  have h1 := g.1
  omega
theorem LG.zd (g : LG K s) (Z : Zw K L ad M H) (hS : va_S (lA s) s.heap H locs) : Zd K L ad M s H [] :=
  ⟨Z, ⟨hS.1, fun q h1 _ => hS.2.1 q h1 (fun w => by have w : s.heap.size ≤ q := w; omega), fun _ h => absurd h List.not_mem_nil⟩, g.2.1, g.2.2.2 ad (g.low Z)⟩
theorem l_ran {y : MethodName} {mc ms : Nat} {a : Array Value} {rv : Option Value} {st0 : List Value} (g : LG K s) (Z : Zw K L ad M H) (hS : va_S (lA s) s.heap H locs) (hr : va_Run p l e R s m args below meth c H locs cells slots mc ms (F0 m pc ls st0) rest (zQ K L ad rv M1 a) (zA ad))
    (kk : ∀ (H1 : Heap) (locs1 : List Loc), Zw K L ad M1 H1 → va_S (lA s) s.heap H1 locs1 → FR ad H H1 → W p l e R s m args below meth c H1 locs1 (cells + mc) (slots + ms) Q (F0 m (pc + 3) ls (rv.toList ++ rest))) : W p l e R s m args below meth c H locs cells slots Q (F0 m pc ls st0) := by
  intro T hT X
  obtain ⟨v, st₀, t, T', Ls, h0, X', hL, e1, e2, ⟨hv, hz, hF⟩, st⟩ := hr T hT X
  cases hv
  obtain ⟨hF1, hF2⟩ := hF
  rw [h0] at hF1 hF2
  have low := g.low Z
  obtain ⟨t2, a1, b1⟩ := kk T'.heap (locs ++ Ls) (by rw [e1]; exact hz) ⟨Nat.le_trans hS.1 (by rw [e1]; exact hF1), fun q h1 h2 => by
      rw [e1, hF2 q (Nat.lt_of_lt_of_le h1 hS.1) (fun w => h2 (low q w))]
      exact hS.2.1 q h1 h2, fun q hq => by
      rcases List.mem_append.mp hq with h | h
      · exact hS.2.2 q h
      · exact low _ (hL q h)⟩ ⟨by rw [e1]; exact hF1, fun q h1 h2 => by rw [e1]; exact hF2 q h1 h2⟩ T' rfl X'
  exact ⟨t2, st t2 a1, b1⟩
theorem l_calV {y : MethodName} {bytes : ByteArray} {maxL h mc ms n idx r b ci N : Nat} {ret : Option FieldType} {T : u_T} {As st0 : List Value} {rv : Option Value} (C : Cx p s m args meth c cc nL own rt) (g : LG K s) (Z : Zw K L ad M H) (hS : va_S (lA s) s.heap H locs) (w : MW y bytes maxL ret n) (wv : zW (.instanceMethod y) ∧ Cond.selects y.cls y y ∈ ztb) (lk : zW (.methodLink own idx y)) (hL : maxL ≤ 20) (hR : h + 1 ≤ R.frames ∧ 40 * (h + 1) ≤ R.locals)
    (hb : b < lc L M r) (hk : L.1 r = .inl ci) (hc : zcl[ci]? = some (y.cls, T, N)) (hM : Met l y (Cond.code y bytes maxL ret :: ztb) (RM h mc ms) (zPc K L ad M (.ref (ad r b) :: As)) (zQ K L ad rv M1) mc ms (zA ad)) (hn : As.length = n) (hl : ls.size = nL) (hst : st0 = As.reverse ++ .ref (ad r b) :: rest) (hcat : (rest.map fun v => v.category).sum ≤ 8) (d : decode cc pc = .ok (.invokevirtual idx, 3)) (hf : cells + mc ≤ R.cells ∧ slots + ms ≤ R.slots)
    (kk : ∀ (H1 : Heap) (locs1 : List Loc), Zw K L ad M1 H1 → va_S (lA s) s.heap H1 locs1 → FR ad H H1 → W p l e R s m args below meth c H1 locs1 (cells + mc) (slots + ms) Q (F0 m (pc + 3) ls (rv.toList ++ rest))) : W p l e R s m args below meth c H locs cells slots Q (F0 m pc ls st0) := by
  have Z0 := g.zd Z hS
  obtain ⟨⟨cell, g1, g2, g3, -⟩, hKn⟩ := Z0.obj hb hk hc
  exact l_ran (y := y) g Z hS (va_runV (As := As) (rest := rest) (C := y.cls) C.1 hM ⟨z_calB C w lk hL hR, C.w wv.1, C.h _ wv.2⟩ ⟨zPc.blind, ⟨cell, g1, by rw [g3]; rfl, by rw [g2]; exact hKn.2.1⟩, z_pre Z0⟩ rfl hn hl hst (lv_room hcat) d hf) kk
theorem l_calI {y : MethodName} {bytes : ByteArray} {maxL h mc ms n idx r b : Nat} {As st0 : List Value} {rv : Option Value} (C : Cx p s m args meth c cc nL own rt) (g : LG K s) (Z : Zw K L ad M H) (hS : va_S (lA s) s.heap H locs) (w : MW y bytes maxL none n) (wv : zW (.instanceMethod y)) (hy : y.name = "<init>") (lk : zW (.methodLink own idx y)) (hL : maxL ≤ 20) (hR : h + 1 ≤ R.frames ∧ 40 * (h + 1) ≤ R.locals)
    (hM : Met l y (Cond.code y bytes maxL none :: ztb) (RM h mc ms) (zPk K L ad M (.ref (ad r b) :: As)) (zQ K L ad rv M1) mc ms (zA ad)) (hn : As.length = n) (hl : ls.size = nL) (hst : st0 = As.reverse ++ .ref (ad r b) :: rest) (hcat : (rest.map fun v => v.category).sum ≤ 8) (d : decode cc pc = .ok (.invokespecial idx, 3)) (hf : cells + mc ≤ R.cells ∧ slots + ms ≤ R.slots)
    (kk : ∀ (H1 : Heap) (locs1 : List Loc), Zw K L ad M1 H1 → va_S (lA s) s.heap H1 locs1 → FR ad H H1 → W p l e R s m args below meth c H1 locs1 (cells + mc) (slots + ms) Q (F0 m (pc + 3) ls (rv.toList ++ rest))) : W p l e R s m args below meth c H locs cells slots Q (F0 m pc ls st0) := by
  have Z0 := g.zd Z hS
  exact l_ran (y := y) g Z hS (va_runI (As := As) (rest := rest) C.1 hM ⟨z_calB C w lk hL hR, hy, C.w wv⟩ ⟨zPk.blind, fun U hU hW => ⟨z_pre Z0 U hU hW, g.2.2.1.moved hW.alike⟩⟩ rfl hn hl hst (lv_room hcat) d hf) kk
theorem l_new {C0 : String} {T : u_T} {ty0 : Nat → FieldType} {n ci index r b : Nat} (C : Cx p s m args meth c cc nL own rt) (g : LG K s) (Z : Zw K L ad M H) (hS : va_S (lA s) s.heap H locs) (hk : L.1 r = .inl ci) (hc : zcl[ci]? = some (C0, T, n)) (hin : ∀ w ∈ u_ws C0 T n, w ∈ ztb) (hty : ∀ k, k < n → parseFieldDescriptor (T k).2.2.1 = some (ty0 k)) (wl : zW (.classLink own index C0)) (wi : zW (.instantiable C0 n)) (wini : zW (.initialized C0)) (hr : r < 900) (hb : b = gR M 999 r 0) (had : gR M 997 r b = gR M 998 0 0) (em : M1 = sN M r) (hfs : ∀ j, j < n → defaultValue (ty0 j) = sv L ad M1 r b j) (hlb : lc L M r = b) (hl1 : lc L M1 r = b + 1) (hl2 : ∀ r', r' ≠ r → lc L M1 r' = lc L M r') (hhi : ∀ r', 900 ≤ r' → lc L M r' = 0)
    (hcells : cells + 1 ≤ R.cells) (hslots : slots + n ≤ R.slots) (d : decode cc pc = .ok (.new index, 3))
    (kk : ∀ (H1 : Heap), Zw K L ad M1 H1 → va_S (lA s) s.heap H1 locs → (H.size ≤ H1.size ∧ ∀ q : Nat, q < H.size → H1[q]? = H[q]?) → W p l e R s m args below meth c H1 locs (cells + 1) (slots + n) Q (F0 m (pc + 3) ls (.ref (ad r b) :: rest))) : W p l e R s m args below meth c H locs cells slots Q (F0 m pc ls rest) := by
  have hKn := g.2.1.1 ci _ hc
  have hsz : ad r b = H.size := by rw [← Z.2.2.1, had, Z.2.2.2]
  refine W.newcK C.x C.b C.o (C.w wl) (C.w wi) (C.w wini) rfl d hcells hslots hKn.2.1 rfl fun H1 kC hkC e1 s1 o1 => ?_
  rw [← hsz]
  refine kk H1 (Z.born hr hb had em hlb hl1 hl2 hhi ?_ s1 o1) ⟨Nat.le_trans hS.1 (by omega), fun q g1 g2 => (o1 q (Nat.lt_of_lt_of_le g1 hS.1)).trans (hS.2.1 q g1 g2), hS.2.2⟩ ⟨by omega, o1⟩
  unfold zAt
  rw [hk]
  refine ⟨_, hc, ?_⟩
  have hborn := u_born (H := H1) (o := ad r b) ty0 C.h hin hKn hkC (by rw [hsz]; exact e1) hty
  exact hborn.to hfs
/-- a number of the script -/
theorem l_arg {b N i k : Nat} {xs : Nat → Int32} {x0 x1 : Nat} {v : Int} (C : Cx p s m args meth c cc 4 own rt) (hX : va_X b N xs s s.heap) (hbl : b < s.heap.size) (hS : va_S (lA s) s.heap H locs) (hl : lv_has ls 4 [(0, .ref b), (1, .ref x0), (2, .ref x1), (3, .int (nI i))]) (hN : N ≤ 3072) (hk : i + k < N) (hv : Int32.ofInt v = nI k)
    (d0 : decode cc pc = .ok (.aload_n 0, 1)) (d1 : decode cc (pc + 1) = .ok (.iload_n 3, 1)) (d2 : decode cc (pc + 1 + 1) = .ok (.iconst v, 1)) (d3 : decode cc (pc + 1 + 1 + 1) = .ok (.iadd, 1)) (d4 : decode cc (pc + 1 + 1 + 1 + 1) = .ok (.iaload, 1))
    (kk : W p l e R s m args below meth c H locs cells slots Q (F0 m (pc + 1 + 1 + 1 + 1 + 1) ls (.int (xs (i + k)) :: rest))) : W p l e R s m args below meth c H locs cells slots Q (F0 m pc ls rest) := by
  refine lv_aload_n C.x C.b d0 rfl (lv_at hl 0 rfl) ?_
  refine lv_iload_n C.x C.b d1 rfl (lv_at hl 3 rfl) ?_
  refine lv_iconst C.x C.b d2 hv ?_
  refine lv_iadd C.x C.b d3 ?_
  rw [nI_add]
  refine va_sld C.x C.b hX hbl (show ¬ s.heap.size ≤ b by omega) hS (nI_in hk (by omega)) d4 ?_
  rw [nI_clamp (by omega)]
  exact kk
end LW
