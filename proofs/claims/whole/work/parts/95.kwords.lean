/-! constructors: words, rows, the layout of numbers, addresses -/
abbrev LK : Lay := L0 LC 44
abbrev LN : Lay := L0 LM 56
theorem lc0L {L : Lay} {hi r b : Nat} {m : Mem} (h : r < hi) (hb : b < gR m 999 r 0) : b < lc (L0 L hi) m r := by rw [lc0, if_pos h]; exact hb
def Zl (m : Mem) : Prop := ∀ r x k, gL m r x k = 0
def Zi (m : Mem) : Prop := ∀ r x k, gI m r x k = 0
theorem Zl.n {m : Mem} {r : Nat} (h : Zl m) : Zl (sN m r) := fun a b c => by
  rw [gL_sN]
  split
  · rfl
  · exact h a b c
theorem Zi.n {m : Mem} {r : Nat} (h : Zi m) : Zi (sN m r) := fun a b c => by
  rw [gI_sN]
  split
  · rfl
  · exact h a b c
theorem Zl.r {m : Mem} {r b k v : Nat} (h : Zl m) : Zl (sR m r b k v) := fun x y z => h x y z
theorem Zi.r {m : Mem} {r b k v : Nat} (h : Zi m) : Zi (sR m r b k v) := fun x y z => h x y z
theorem Zl.i {m : Mem} {r b k : Nat} {v : Int32} (h : Zl m) : Zl (sI m r b k v) := fun x y z => h x y z
theorem Zi.i {m : Mem} {r b k : Nat} (h : Zi m) : Zi (sI m r b k 0) := fun x y z => by
  rw [gI_sI]
  split
  · rfl
  · exact h x y z
def AO5 (U : State) : Prop := va_AO RX4 U ∧ va_AO RX1 U ∧ va_AO RX9 U ∧ va_AO RX2 U ∧ va_AO RX8 U
theorem AO5.moved {u U : State} (hvm : u.vm.Alike U.vm) (h : AO5 u) : AO5 U := ⟨va_AO.moved hvm h.1, va_AO.moved hvm h.2.1, va_AO.moved hvm h.2.2.1, va_AO.moved hvm h.2.2.2.1, va_AO.moved hvm h.2.2.2.2⟩
def zPk (K : KG) (L : Lay) (ad : Nat → Nat → Nat) (M : Mem) (av : List Value) : Array Value → State → Prop := fun v U => zPc K L ad M av v U ∧ AO5 U
section ZKN
variable {p : Program} {l : Launch} {e : Env} {R : Room} {s : State} {m : MethodId} {args : Array Value} {below : List Frame} {meth : Method} {c : Code} {H : Heap} {locs : List Loc} {cells slots : Nat} {Q : State → Prop}
variable {cc : ByteArray} {pc nL : Nat} {ls : Array Slot} {rest : List Value} {own : String} {rt : Option FieldType} {K : KG} {L : Lay} {ad : Nat → Nat → Nat} {M M1 : Mem}
theorem zPk.blind : FrameBlind (zPk K L ad M rest) := fun a U g mk q => ⟨zPc.blind a U g mk q.1, AO5.moved (u := U) (U := U.calling g mk a) (Vm.Alike.refl U.vm) q.2⟩
/-- a new row of references -/
theorem z_anewK {Cn : String} {i N r b index : Nat} {n0 : Int32} (C : Cx p s m args meth c cc nL own rt) (Z : Zd K L ad M s H locs) (hi : ztys[i]? = some (.object Cn)) (hk : L.1 r = .inr (.object Cn, N)) (wl : zW (.classLink own index Cn)) (wa : va_AO Cn s) (hr : r < 900) (hb : b = gR M 999 r 0) (had : gR M 997 r b = gR M 998 0 0) (em : M1 = sN M r) (hfs : ∀ j, sv L ad M1 r b j = .null) (hlb : lc L M r = b) (hl1 : lc L M1 r = b + 1) (hl2 : ∀ r', r' ≠ r → lc L M1 r' = lc L M r') (hhi : ∀ r', 900 ≤ r' → lc L M r' = 0)
    (hn : ¬ n0 < 0) (hN : n0.toNatClampNeg = N) (hbytes : N * 4 ≤ 536870912) (hcells : cells + 1 ≤ R.cells) (hslots : slots + N ≤ R.slots) (d : decode cc pc = .ok (.anewarray index, 3))
    (kk : ∀ (H1 : Heap), Zd K L ad M1 s H1 locs → W p l e R s m args below meth c H1 locs (cells + 1) (slots + N) Q (F0 m (pc + 3) ls (.ref (ad r b) :: rest))) : W p l e R s m args below meth c H locs cells slots Q (F0 m pc ls (.int n0 :: rest)) := by
  subst hN
  have hsz : ad r b = H.size := by rw [← Z.1.2.2.1, had, Z.1.2.2.2]
  obtain ⟨kA0, comp0, q1, q2, q3, hKt⟩ := (Z.2.2.1.2 i (K.2.1 (.object Cn), .object Cn) (by rw [List.getElem?_map, hi]; rfl)).2
  refine W.anew C.x C.b C.o (C.w wl) (va_AO.use wa) rfl d rfl hn hbytes hcells hslots fun cA kA comp g1 g2 g3 g4 => ?_
  have hcA : cA = K.2.1 (.object Cn) := by
    rw [g1] at hKt
    exact Option.some.inj hKt
  rw [← hsz]
  refine kk _ ⟨Z.1.born hr hb had em hlb hl1 hl2 hhi ?_ (by simp) (fun q hq => by rw [Array.getElem?_push, if_neg (Nat.ne_of_lt hq)]), ⟨Nat.le_trans Z.2.1.1 (by simp), fun q g1 g2 => ?_, Z.2.1.2.2⟩, Z.2.2⟩
  · unfold zAt
    rw [hk]
    show _ = some (arrV (K.2.1 (.object Cn)) n0.toNatClampNeg (sv L ad M1 r b))
    rw [hsz, ← hcA, show sv L ad M1 r b = fun _ => Value.null from funext hfs]
    rw [Array.getElem?_push, if_pos rfl, ← arrV_new]
  · rw [Array.getElem?_push, if_neg (by have := Z.2.1.1; omega)]
    exact Z.2.1.2.1 q g1 g2
theorem z_enterK {y : MethodName} {maxL h mc ms : Nat} {av : List Value} {rv : Option Value} (hy : plainName y.cls = true) (hlen : (lg_sl av).length ≤ maxL)
    (body : ∀ (p : Program) (e : Env) (s : State) (m : MethodId) (args : Array Value) (below : List Frame) (meth : Method) (c : Code) (ls : Array Slot), Cx p s m args meth c cc maxL y.cls rt → (y.name = "<init>" → meth.name = "<init>") → args = av.toArray → AO5 s → Zd K L ad M s s.heap [] → lv_has ls maxL (lv_args 0 av) →
      W p l e (RM h mc ms) s m args below meth c s.heap [] 0 0 (MQ below (zQ K L ad rv M1) args s mc ms (zA ad)) (F0 m 0 ls [])) :
    Met l y (Cond.code y cc maxL rt :: ztb) (RM h mc ms) (zPk K L ad M av) (zQ K L ad rv M1) mc ms (zA ad) := by
  refine Met.ofW (cc := cc) (maxL := maxL) (ret := rt) hy rfl ?_
  intro p e s m args below meth c s₁ B hml hv
  obtain ⟨⟨hargs, hZ, hK, hS⟩, hO⟩ := hv
  subst hargs
  have hts := atoms_spec (ws := Cond.code y cc maxL rt :: ztb) B.pre
  have hl := lv_entry av (n := maxL) hlen
  rw [lg_entry_eq]
  exact body p e s m _ below meth c _ ⟨⟨B.exec, B.bytes, hml, findClass_of_methodNamed B.named, fun w hw => hts w (List.mem_cons_of_mem _ hw)⟩, B.notSynchronized, B.returns⟩ (fun hi => by rw [← hi]; exact (name_of_methodNamed B.named B.method).1) rfl hO ⟨hZ, va_S.rf, hK, hS⟩ hl
theorem z_calIK (hO : AO5 s) {y : MethodName} {bytes : ByteArray} {maxL h mc ms n idx r b : Nat} {As st0 : List Value} {rv : Option Value} (C : Cx p s m args meth c cc nL own rt) (Z : Zd K L ad M s H locs) (w : MW y bytes maxL none n) (wv : zW (.instanceMethod y)) (hy : y.name = "<init>") (lk : zW (.methodLink own idx y)) (hL : maxL ≤ 20) (hR : h + 1 ≤ R.frames ∧ 40 * (h + 1) ≤ R.locals)
    (hM : Met l y (Cond.code y bytes maxL none :: ztb) (RM h mc ms) (zPk K L ad M (.ref (ad r b) :: As)) (zQ K L ad rv M1) mc ms (zA ad)) (hn : As.length = n) (hl : ls.size = nL) (hst : st0 = As.reverse ++ .ref (ad r b) :: rest) (hcat : (rest.map fun v => v.category).sum ≤ 8) (d : decode cc pc = .ok (.invokespecial idx, 3)) (hf : cells + mc ≤ R.cells ∧ slots + ms ≤ R.slots)
    (kk : ∀ (H1 : Heap) (locs1 : List Loc), Zd K L ad M1 s H1 locs1 → W p l e R s m args below meth c H1 locs1 (cells + mc) (slots + ms) Q (F0 m (pc + 3) ls (rv.toList ++ rest))) : W p l e R s m args below meth c H locs cells slots Q (F0 m pc ls st0) :=
  z_ran (y := y) Z (va_runI (As := As) (rest := rest) C.1 hM ⟨z_calB C w lk hL hR, hy, C.w wv⟩ ⟨zPk.blind, fun U hU hW => ⟨z_pre Z U hU hW, hO.moved hW.alike⟩⟩ rfl hn hl hst (lv_room hcat) d hf) kk
end ZKN
theorem iteL {α : Type} {c : Prop} [Decidable c] {a b z : α} (h1 : c → a = z) (h2 : ¬ c → b = z) : (if c then a else b) = z := by
  by_cases h : c
  · rw [if_pos h]; exact h1 h
  · rw [if_neg h]; exact h2 h
theorem iteR {α : Type} {c : Prop} [Decidable c] {a b z : α} (h1 : c → z = a) (h2 : ¬ c → z = b) : z = if c then a else b := by
  by_cases h : c
  · rw [if_pos h]; exact h1 h
  · rw [if_neg h]; exact h2 h
def svd (L : Lay) (r k : Nat) : Value := match (L.2.1 r k).1 with
  | 0 => Value.int 0
  | 1 => Value.long 0
  | _ => Value.null
theorem sv0_d {L : Lay} {hi r b j : Nat} {ad : Nat → Nat → Nat} {M M1 : Mem} (hr : r < 900) (eb : b = gR M 999 r 0) (em : M1 = sN M r) : sv (L0 L hi) ad M1 r b j = svd L r j := sv0_new hr eb em
theorem jj {P : Nat → Prop} {j : Nat} (h : P j) : ∀ x, j + 1 = x + 1 → P x := fun x e => by
  have : x = j := by omega
  rw [this]; exact h
def pC (x k : Nat) : Nat := if x = 13 then (if k < 30 then 73 + 3 * k else 0) else if x = 14 then (if k < 30 then 73 + 3 * k + 1 else 0) else if x = 15 then (if k < 30 then 73 + 3 * k + 1 + 1 else 0) else if x = 19 then (if k < 10 then 10 + 4 * k else 0) else if x = 20 then (if k < 10 then 10 + 4 * k + 1 else 0) else if x = 21 then (if k < 10 then 10 + 4 * k + 1 + 1 else 0) else if x = 22 then (if k < 10 then 10 + 4 * k + 1 + 1 + 1 else 0) else if x = 42 then (if k < 6 then 163 + 2 * k else 0) else if x = 43 then (if k < 6 then 163 + 2 * k + 1 else 0) else if k = 0 then ([0, 1, 2, 3, 4, 5, 7, 50, 56, 57, 66, 70, 72, 0, 0, 0, 6, 8, 9, 0, 0, 0, 0, 0, 0, 51, 52, 53, 54, 55, 58, 59, 60, 61, 62, 63, 64, 65, 67, 68, 69, 71, 0, 0] : List Nat).getD x 0 else 0
theorem p_13 {j : Nat} (h : j < 30) : pC 13 j = 73 + 3 * j := if_pos h
theorem p_14 {j : Nat} (h : j < 30) : pC 14 j = 73 + 3 * j + 1 := if_pos h
theorem p_15 {j : Nat} (h : j < 30) : pC 15 j = 73 + 3 * j + 1 + 1 := if_pos h
theorem p_19 {j : Nat} (h : j < 10) : pC 19 j = 10 + 4 * j := if_pos h
theorem p_20 {j : Nat} (h : j < 10) : pC 20 j = 10 + 4 * j + 1 := if_pos h
theorem p_21 {j : Nat} (h : j < 10) : pC 21 j = 10 + 4 * j + 1 + 1 := if_pos h
theorem p_22 {j : Nat} (h : j < 10) : pC 22 j = 10 + 4 * j + 1 + 1 + 1 := if_pos h
theorem p_42 {j : Nat} (h : j < 6) : pC 42 j = 163 + 2 * j := if_pos h
theorem p_43 {j : Nat} (h : j < 6) : pC 43 j = 163 + 2 * j + 1 := if_pos h
def pM (x k : Nat) : Nat := if k = 0 then ([175, 176, 177, 178, 179, 180, 181, 182, 183, 184, 185, 186, 187, 188, 189, 190, 191, 192, 193, 194, 195, 196, 197, 198, 199, 200, 201, 202, 203, 204, 205, 206, 207, 208, 209, 210, 211, 212, 213, 214, 215, 216, 217, 218, 219, 220, 221, 222, 223, 224, 225, 226, 227, 228, 229, 230] : List Nat).getD x 175 else 175
theorem kk_126 : zW (.instanceMethod yX11_init) := ⟨List.mem_of_getElem? (i := 126) (by decide +kernel), rfl⟩
theorem kk_127 : zW (.code yX11_init cX11_init 2 none) := ⟨List.mem_of_getElem? (i := 127) (by decide +kernel), rfl⟩
theorem kk_128 : zW (.methodLink "GlassPalace" 3 objectInit) := ⟨List.mem_of_getElem? (i := 128) (by decide +kernel), rfl⟩
theorem kk_133 : zW (.classLink "GlassPalace" 24 "GlassPalace$Bay") := ⟨List.mem_of_getElem? (i := 133) (by decide +kernel), rfl⟩
theorem kk_135 : zW (.classLink "GlassPalace" 30 "GlassPalace$Script") := ⟨List.mem_of_getElem? (i := 135) (by decide +kernel), rfl⟩
theorem kk_136 : zW (.instantiable "GlassPalace$Script" 4) := ⟨List.mem_of_getElem? (i := 136) (by decide +kernel), rfl⟩
theorem kk_137 : zW (.methodLink "GlassPalace" 32 yX7_init) := ⟨List.mem_of_getElem? (i := 137) (by decide +kernel), rfl⟩
theorem kk_138 : zW (.instanceMethod yX7_init) := ⟨List.mem_of_getElem? (i := 138) (by decide +kernel), rfl⟩
theorem kk_139 : zW (.code yX7_init cX7_init 1 none) := ⟨List.mem_of_getElem? (i := 139) (by decide +kernel), rfl⟩
theorem kk_140 : zW (.methodLink "GlassPalace$Script" 3 objectInit) := ⟨List.mem_of_getElem? (i := 140) (by decide +kernel), rfl⟩
theorem kk_155 : zW (.arrayClass .int) := ⟨List.mem_of_getElem? (i := 155) (by decide +kernel), rfl⟩
theorem kk_156 : zW (.classLink "GlassPalace" 37 "GlassPalace$Laws") := ⟨List.mem_of_getElem? (i := 156) (by decide +kernel), rfl⟩
theorem kk_157 : zW (.instantiable "GlassPalace$Laws" 3) := ⟨List.mem_of_getElem? (i := 157) (by decide +kernel), rfl⟩
theorem kk_158 : zW (.methodLink "GlassPalace" 39 yX3_init) := ⟨List.mem_of_getElem? (i := 158) (by decide +kernel), rfl⟩
theorem kk_159 : zW (.instanceMethod yX3_init) := ⟨List.mem_of_getElem? (i := 159) (by decide +kernel), rfl⟩
theorem kk_160 : zW (.code yX3_init cX3_init 2 none) := ⟨List.mem_of_getElem? (i := 160) (by decide +kernel), rfl⟩
theorem kk_161 : zW (.methodLink "GlassPalace$Laws" 3 objectInit) := ⟨List.mem_of_getElem? (i := 161) (by decide +kernel), rfl⟩
theorem kk_162 : zW (.classLink "GlassPalace$Laws" 9 "GlassPalace$Text") := ⟨List.mem_of_getElem? (i := 162) (by decide +kernel), rfl⟩
theorem kk_164 : zW (.instantiable "GlassPalace$Text" 6) := ⟨List.mem_of_getElem? (i := 164) (by decide +kernel), rfl⟩
theorem kk_165 : zW (.methodLink "GlassPalace$Laws" 21 yX9_init) := ⟨List.mem_of_getElem? (i := 165) (by decide +kernel), rfl⟩
theorem kk_166 : zW (.instanceMethod yX9_init) := ⟨List.mem_of_getElem? (i := 166) (by decide +kernel), rfl⟩
theorem kk_167 : zW (.code yX9_init cX9_init 1 none) := ⟨List.mem_of_getElem? (i := 167) (by decide +kernel), rfl⟩
theorem kk_168 : zW (.methodLink "GlassPalace$Text" 3 objectInit) := ⟨List.mem_of_getElem? (i := 168) (by decide +kernel), rfl⟩
theorem kk_201 : zW (.classLink "GlassPalace" 44 "GlassPalace$Water") := ⟨List.mem_of_getElem? (i := 201) (by decide +kernel), rfl⟩
theorem kk_202 : zW (.instantiable "GlassPalace$Water" 5) := ⟨List.mem_of_getElem? (i := 202) (by decide +kernel), rfl⟩
theorem kk_203 : zW (.methodLink "GlassPalace" 46 yX10_init) := ⟨List.mem_of_getElem? (i := 203) (by decide +kernel), rfl⟩
theorem kk_204 : zW (.instanceMethod yX10_init) := ⟨List.mem_of_getElem? (i := 204) (by decide +kernel), rfl⟩
theorem kk_205 : zW (.code yX10_init cX10_init 1 none) := ⟨List.mem_of_getElem? (i := 205) (by decide +kernel), rfl⟩
theorem kk_206 : zW (.methodLink "GlassPalace$Water" 3 objectInit) := ⟨List.mem_of_getElem? (i := 206) (by decide +kernel), rfl⟩
theorem kk_228 : zW (.classLink "GlassPalace" 57 "GlassPalace$Plan") := ⟨List.mem_of_getElem? (i := 228) (by decide +kernel), rfl⟩
theorem kk_229 : zW (.instantiable "GlassPalace$Plan" 10) := ⟨List.mem_of_getElem? (i := 229) (by decide +kernel), rfl⟩
theorem kk_230 : zW (.methodLink "GlassPalace" 59 yX6_init) := ⟨List.mem_of_getElem? (i := 230) (by decide +kernel), rfl⟩
theorem kk_231 : zW (.instanceMethod yX6_init) := ⟨List.mem_of_getElem? (i := 231) (by decide +kernel), rfl⟩
theorem kk_232 : zW (.code yX6_init cX6_init 1 none) := ⟨List.mem_of_getElem? (i := 232) (by decide +kernel), rfl⟩
theorem kk_233 : zW (.methodLink "GlassPalace$Plan" 3 objectInit) := ⟨List.mem_of_getElem? (i := 233) (by decide +kernel), rfl⟩
theorem kk_270 : zW (.classLink "GlassPalace" 64 "GlassPalace$Nations") := ⟨List.mem_of_getElem? (i := 270) (by decide +kernel), rfl⟩
theorem kk_271 : zW (.instantiable "GlassPalace$Nations" 3) := ⟨List.mem_of_getElem? (i := 271) (by decide +kernel), rfl⟩
theorem kk_272 : zW (.methodLink "GlassPalace" 66 yX5_init) := ⟨List.mem_of_getElem? (i := 272) (by decide +kernel), rfl⟩
theorem kk_273 : zW (.instanceMethod yX5_init) := ⟨List.mem_of_getElem? (i := 273) (by decide +kernel), rfl⟩
theorem kk_274 : zW (.code yX5_init cX5_init 1 none) := ⟨List.mem_of_getElem? (i := 274) (by decide +kernel), rfl⟩
theorem kk_275 : zW (.methodLink "GlassPalace$Nations" 3 objectInit) := ⟨List.mem_of_getElem? (i := 275) (by decide +kernel), rfl⟩
theorem kk_289 : zW (.classLink "GlassPalace" 71 "GlassPalace$Acts") := ⟨List.mem_of_getElem? (i := 289) (by decide +kernel), rfl⟩
theorem kk_290 : zW (.instantiable "GlassPalace$Acts" 2) := ⟨List.mem_of_getElem? (i := 290) (by decide +kernel), rfl⟩
theorem kk_291 : zW (.methodLink "GlassPalace" 73 yX0_init) := ⟨List.mem_of_getElem? (i := 291) (by decide +kernel), rfl⟩
theorem kk_292 : zW (.instanceMethod yX0_init) := ⟨List.mem_of_getElem? (i := 292) (by decide +kernel), rfl⟩
theorem kk_293 : zW (.code yX0_init cX0_init 1 none) := ⟨List.mem_of_getElem? (i := 293) (by decide +kernel), rfl⟩
theorem kk_294 : zW (.methodLink "GlassPalace$Acts" 3 objectInit) := ⟨List.mem_of_getElem? (i := 294) (by decide +kernel), rfl⟩
theorem kk_303 : zW (.classLink "GlassPalace" 78 "GlassPalace$Tape") := ⟨List.mem_of_getElem? (i := 303) (by decide +kernel), rfl⟩
theorem kk_305 : zW (.instantiable "GlassPalace$Bay" 8) := ⟨List.mem_of_getElem? (i := 305) (by decide +kernel), rfl⟩
theorem kk_306 : zW (.methodLink "GlassPalace" 84 yX1_init) := ⟨List.mem_of_getElem? (i := 306) (by decide +kernel), rfl⟩
theorem kk_307 : zW (.instanceMethod yX1_init) := ⟨List.mem_of_getElem? (i := 307) (by decide +kernel), rfl⟩
theorem kk_308 : zW (.code yX1_init cX1_init 2 none) := ⟨List.mem_of_getElem? (i := 308) (by decide +kernel), rfl⟩
theorem kk_309 : zW (.methodLink "GlassPalace$Bay" 3 objectInit) := ⟨List.mem_of_getElem? (i := 309) (by decide +kernel), rfl⟩
theorem kk_310 : zW (.classLink "GlassPalace$Bay" 15 "GlassPalace$Lot") := ⟨List.mem_of_getElem? (i := 310) (by decide +kernel), rfl⟩
theorem kk_344 : zW (.instantiable "GlassPalace$Tape" 3) := ⟨List.mem_of_getElem? (i := 344) (by decide +kernel), rfl⟩
theorem kk_345 : zW (.methodLink "GlassPalace" 87 yX8_init) := ⟨List.mem_of_getElem? (i := 345) (by decide +kernel), rfl⟩
theorem kk_346 : zW (.instanceMethod yX8_init) := ⟨List.mem_of_getElem? (i := 346) (by decide +kernel), rfl⟩
theorem kk_347 : zW (.code yX8_init cX8_init 1 none) := ⟨List.mem_of_getElem? (i := 347) (by decide +kernel), rfl⟩
theorem kk_348 : zW (.methodLink "GlassPalace$Tape" 3 objectInit) := ⟨List.mem_of_getElem? (i := 348) (by decide +kernel), rfl⟩
theorem kk_361 : zW (.arrayClass .long) := ⟨List.mem_of_getElem? (i := 361) (by decide +kernel), rfl⟩
theorem kk_1173 : zW (.instanceMethod yX12_init) := ⟨List.mem_of_getElem? (i := 1173) (by decide +kernel), rfl⟩
set_option maxRecDepth 1000000 in
set_option maxHeartbeats 4000000 in
theorem kk_1174 : zW (.code yX12_init cX12_init 2 none) := ⟨List.mem_of_getElem? (i := 1174) rfl, rfl⟩
theorem kk_1175 : zW (.methodLink "GlassPalaceModel" 11 objectInit) := ⟨List.mem_of_getElem? (i := 1175) (by decide +kernel), rfl⟩
theorem kk_1393 : zW (.arrayClass .boolean) := ⟨List.mem_of_getElem? (i := 1393) (by decide +kernel), rfl⟩
theorem mw_X0_init : MW yX0_init cX0_init 1 none 0 := ⟨kk_293, k_110, by decide, by decide, by decide +kernel⟩
theorem mv_X0_init : zW (.instanceMethod yX0_init) := kk_292
theorem mw_X10_init : MW yX10_init cX10_init 1 none 0 := ⟨kk_205, k_107, by decide, by decide, by decide +kernel⟩
theorem mv_X10_init : zW (.instanceMethod yX10_init) := kk_204
theorem mw_X11_init : MW yX11_init cX11_init 2 none 0 := ⟨kk_127, k_103, by decide, by decide, by decide +kernel⟩
theorem mv_X11_init : zW (.instanceMethod yX11_init) := kk_126
theorem mw_X12_init : MW yX12_init cX12_init 2 none 0 := ⟨kk_1174, k_113, by decide, by decide, by decide +kernel⟩
theorem mv_X12_init : zW (.instanceMethod yX12_init) := kk_1173
theorem mw_X1_init : MW yX1_init cX1_init 2 none 1 := ⟨kk_308, k_111, by decide, by decide, by decide +kernel⟩
theorem mv_X1_init : zW (.instanceMethod yX1_init) := kk_307
theorem mw_X3_init : MW yX3_init cX3_init 2 none 0 := ⟨kk_160, k_105, by decide, by decide, by decide +kernel⟩
theorem mv_X3_init : zW (.instanceMethod yX3_init) := kk_159
theorem mw_X5_init : MW yX5_init cX5_init 1 none 0 := ⟨kk_274, k_109, by decide, by decide, by decide +kernel⟩
theorem mv_X5_init : zW (.instanceMethod yX5_init) := kk_273
theorem mw_X6_init : MW yX6_init cX6_init 1 none 0 := ⟨kk_232, k_108, by decide, by decide, by decide +kernel⟩
theorem mv_X6_init : zW (.instanceMethod yX6_init) := kk_231
theorem mw_X7_init : MW yX7_init cX7_init 1 none 0 := ⟨kk_139, k_104, by decide, by decide, by decide +kernel⟩
theorem mv_X7_init : zW (.instanceMethod yX7_init) := kk_138
theorem mw_X8_init : MW yX8_init cX8_init 1 none 0 := ⟨kk_347, k_112, by decide, by decide, by decide +kernel⟩
theorem mv_X8_init : zW (.instanceMethod yX8_init) := kk_346
theorem mw_X9_init : MW yX9_init cX9_init 1 none 0 := ⟨kk_167, k_106, by decide, by decide, by decide +kernel⟩
theorem mv_X9_init : zW (.instanceMethod yX9_init) := kk_166
