section ZR
variable {p : Program} {l : Launch} {e : Env} {R : Room} {s : State} {m : MethodId} {args : Array Value} {below : List Frame} {meth : Method} {c : Code} {H : Heap} {locs : List Loc} {cells slots : Nat} {Q : State → Prop}
variable {cc : ByteArray} {pc nL : Nat} {ls : Array Slot} {rest : List Value} {own : String} {rt : Option FieldType} {K : KG} {L : Lay} {ad : Nat → Nat → Nat} {M M1 : Mem}
def Cx (p : Program) (s : State) (m : MethodId) (args : Array Value) (meth : Method) (c : Code) (cc : ByteArray) (nL : Nat) (own : String) (rt : Option FieldType) : Prop :=
  CallFix p m c cc nL s args ztb own ∧ meth.locks = false ∧ meth.sig.returnType = rt
theorem Cx.x (C : Cx p s m args meth c cc nL own rt) : p.tables.exec = Jvm.exec := C.1.1
theorem Cx.b (C : Cx p s m args meth c cc nL own rt) : c.code = cc := C.1.2.1
theorem Cx.o (C : Cx p s m args meth c cc nL own rt) : s.vm.findClass own = some m.cls := C.1.2.2.2.1
theorem Cx.h (C : Cx p s m args meth c cc nL own rt) : ∀ w ∈ ztb, w.before args s = true := C.1.2.2.2.2
theorem Cx.w (C : Cx p s m args meth c cc nL own rt) {w : Cond} (h : zW w) : w.before args s = true := C.h w h.mem
def RM (h mc ms : Nat) : Room := { frames := h, cells := mc, slots := ms, locals := 40 * h }
def Zp (K : KG) (L : Lay) (ad : Nat → Nat → Nat) (M : Mem) (U : State) : Prop := Zw K L ad M U.heap ∧ KK K U ∧ ZS K ad U U.heap
def zPc (K : KG) (L : Lay) (ad : Nat → Nat → Nat) (M : Mem) (av : List Value) : Array Value → State → Prop := fun v U => v = av.toArray ∧ Zp K L ad M U
def zQ (K : KG) (L : Lay) (ad : Nat → Nat → Nat) (rv : Option Value) (M1 : Mem) : Array Value → State → Outcome → State → Prop := fun _ st oc t => oc = .returned rv ∧ Zw K L ad M1 t.heap ∧ va_F (zA ad) st t
theorem zPc.blind : FrameBlind (zPc K L ad M rest) := fun a U g mk q => ⟨q.1, q.2.1, KK.moved (u := U) (U := U.calling g mk a) (Vm.Alike.refl U.vm) q.2.2.1, q.2.2.2.go (U := U.calling g mk a) (Vm.Alike.refl U.vm) (vk_R.same rfl) (fun _ _ _ => rfl)⟩
/-- a method's start -/
theorem z_enter {y : MethodName} {maxL h mc ms : Nat} {av : List Value} {rv : Option Value} (hy : plainName y.cls = true) (hlen : (lg_sl av).length ≤ maxL)
    (body : ∀ (p : Program) (e : Env) (s : State) (m : MethodId) (args : Array Value) (below : List Frame) (meth : Method) (c : Code) (ls : Array Slot), Cx p s m args meth c cc maxL y.cls rt → (y.name = "<init>" → meth.name = "<init>") → args = av.toArray → Zd K L ad M s s.heap [] → lv_has ls maxL (lv_args 0 av) →
      W p l e (RM h mc ms) s m args below meth c s.heap [] 0 0 (MQ below (zQ K L ad rv M1) args s mc ms (zA ad)) (F0 m 0 ls [])) :
    Met l y (Cond.code y cc maxL rt :: ztb) (RM h mc ms) (zPc K L ad M av) (zQ K L ad rv M1) mc ms (zA ad) := by
  refine Met.ofW (cc := cc) (maxL := maxL) (ret := rt) hy rfl ?_
  intro p e s m args below meth c s₁ B hml hv
  obtain ⟨hargs, hZ, hK, hS⟩ := hv
  subst hargs
  have hts := atoms_spec (ws := Cond.code y cc maxL rt :: ztb) B.pre
  have hl := lv_entry av (n := maxL) hlen
  rw [lg_entry_eq]
  exact body p e s m _ below meth c _ ⟨⟨B.exec, B.bytes, hml, findClass_of_methodNamed B.named, fun w hw => hts w (List.mem_cons_of_mem _ hw)⟩, B.notSynchronized, B.returns⟩ (fun hi => by rw [← hi]; exact (name_of_methodNamed B.named B.method).1) rfl ⟨hZ, va_S.rf, hK, hS⟩ hl
/-! ends -/
theorem Zd.q {rv : Option Value} (Z : Zd K L ad M s H locs) {t : State} (ht : t.heap = H) : zQ K L ad rv M args s (.returned rv) t := ⟨rfl, by rw [ht]; exact Z.1, Z.2.1.F ht⟩
theorem z_iret {v : Int32} (C : Cx p s m args meth c cc nL own (some .int)) (Z : Zd K L ad M s H locs) (d : decode cc pc = .ok (.ireturn, 1)) : W p l e R s m args below meth c H locs cells slots (MQ below (zQ K L ad (some (.int v)) M) args s cells slots (zA ad)) (F0 m pc ls [.int v]) :=
  W.iret C.x C.b C.2.2 (fun _ ht _ => Z.q ht) Z.2.1.2.2 d C.2.1
theorem z_zret {v : Int32} {ty : FieldType} (C : Cx p s m args meth c cc nL own (some ty)) (Z : Zd K L ad M s H locs) (hn : narrow ty (.int v) = .int v) (d : decode cc pc = .ok (.ireturn, 1)) : W p l e R s m args below meth c H locs cells slots (MQ below (zQ K L ad (some (.int v)) M) args s cells slots (zA ad)) (F0 m pc ls [.int v]) :=
  W.zret C.x C.b C.2.2 hn (fun _ ht _ => Z.q ht) Z.2.1.2.2 d C.2.1
theorem z_lret {v : Int64} (C : Cx p s m args meth c cc nL own (some .long)) (Z : Zd K L ad M s H locs) (d : decode cc pc = .ok (.lreturn, 1)) : W p l e R s m args below meth c H locs cells slots (MQ below (zQ K L ad (some (.long v)) M) args s cells slots (zA ad)) (F0 m pc ls [.long v]) :=
  W.lret C.x C.b C.2.2 (fun _ ht _ => Z.q ht) Z.2.1.2.2 d C.2.1
theorem z_vret (C : Cx p s m args meth c cc nL own none) (Z : Zd K L ad M s H locs) (d : decode cc pc = .ok (.return_, 1)) : W p l e R s m args below meth c H locs cells slots (MQ below (zQ K L ad none M) args s cells slots (zA ad)) (F0 m pc ls []) :=
  W.vret C.x C.b C.2.2 (fun _ ht _ => Z.q ht) Z.2.1.2.2 d C.2.1
theorem rf_ref (f : Nat → Nat) (k : Nat) : rf f k = .null ∨ ∃ a, rf f k = .ref a := by
  cases k
  · exact Or.inl rfl
  · exact Or.inr ⟨_, rfl⟩
theorem z_aret {f : Nat → Nat} {k : Nat} {n : String} (C : Cx p s m args meth c cc nL own (some (.object n))) (Z : Zd K L ad M s H locs) (d : decode cc pc = .ok (.areturn, 1)) : W p l e R s m args below meth c H locs cells slots (MQ below (zQ K L ad (some (rf f k)) M) args s cells slots (zA ad)) (F0 m pc ls [rf f k]) :=
  W.aret C.x C.b C.2.2 (Or.inl ⟨n, rfl⟩) (rf_ref f k) (fun _ ht _ => Z.q ht) Z.2.1.2.2 d C.2.1
/-! fields -/
theorem Zd.obj {r b ci n : Nat} {C0 : String} {T : u_T} (Z : Zd K L ad M s H locs) (hb : b < lc L M r) (hk : L.1 r = .inl ci) (hc : zcl[ci]? = some (C0, T, n)) : t_OB (ad r b) (K.1.1 ci) n (K.1.2 ci) H (sv L ad M r b) ∧ u_Kn s C0 T n (K.1.1 ci) (K.1.2 ci) := by
  have h := Z.1.1 r b hb
  unfold zAt at h
  rw [hk] at h
  obtain ⟨q, h1, h2⟩ := h
  rw [hc] at h1
  cases h1
  exact ⟨h2, Z.2.2.1.1 ci _ hc⟩
theorem z_get (C : Cx p s m args meth c cc nL own rt) (Z : Zd K L ad M s H locs) {r b ci n index : Nat} {C0 : String} {T : u_T} (hb : b < lc L M r) (hk : L.1 r = .inl ci) (hc : zcl[ci]? = some (C0, T, n)) (hin : ∀ w ∈ u_ws C0 T n, w ∈ ztb) (k : Nat) (hkn : k < n) {ref : String} (hlink : zW (.fieldLink own index ref (T k).2.1 (T k).2.2.1)) (hsame : (T k).1 = ref) {v : Value} (hv : sv L ad M r b k = v) (d : decode cc pc = .ok (.getfield index, 3))
    (kk : W p l e R s m args below meth c H locs cells slots Q (F0 m (pc + 3) ls (v :: rest))) : W p l e R s m args below meth c H locs cells slots Q (F0 m pc ls (.ref (ad r b) :: rest)) := by
  obtain ⟨⟨cell, q1, q2, q3, q4⟩, hS, hfc, kC, hkC, hkind⟩ := Z.obj hb hk hc
  obtain ⟨cf, kf, fi, f, hi, hsl⟩ := hS k hkn
  subst hsame
  refine W.getf C.x C.b C.o (C.w hlink) hi (u_facts hfc hkC (u_lays C.h hin hkn) hi).1 q1 (by rw [q3]; exact fun h => by cases h) (v := v) ?_ rfl rfl d kk
  rw [hsl, q4 k hkn, hv]
theorem z_put (C : Cx p s m args meth c cc nL own rt) (Z : Zd K L ad M s H locs) {r b ci n index : Nat} {C0 : String} {T : u_T} {ty0 : Nat → FieldType} (hb : b < lc L M r) (hr : r < 900) (hk : L.1 r = .inl ci) (hc : zcl[ci]? = some (C0, T, n)) (hin : ∀ w ∈ u_ws C0 T n, w ∈ ztb) (hty : ∀ k, k < n → parseFieldDescriptor (T k).2.2.1 = some (ty0 k)) (hnm : ∀ a, a < n → ∀ b, b < n → a ≠ b → (T a).2.1 ≠ (T b).2.1) (k : Nat) (hkn : k < n) {ref : String} (hlink : zW (.fieldLink own index ref (T k).2.1 (T k).2.2.1)) (hsame : (T k).1 = ref) {v : Value} (hu : zUp L ad M M1 r b k v) (hfin : (T k).2.2.2 = false ∨ meth.name = "<init>" ∧ (T k).1 = own) (hn : narrow (ty0 k) v = v) (hfit : fits (ty0 k) v = true) (d : decode cc pc = .ok (.putfield index, 3))
    (kk : ∀ (H1 : Heap) (locs1 : List Loc), Zd K L ad M1 s H1 locs1 → W p l e R s m args below meth c H1 locs1 cells slots Q (F0 m (pc + 3) ls rest)) : W p l e R s m args below meth c H locs cells slots Q (F0 m pc ls (v :: .ref (ad r b) :: rest)) := by
  obtain ⟨⟨cell, q1, q2, q3, q4⟩, hKn⟩ := Z.obj hb hk hc
  have hap : ∀ x y, x < n → y < n → x ≠ y → (K.1.2 ci) x ≠ (K.1.2 ci) y := va_apart (own := own) C.h hin ty0 hty hnm Z.2.2.1 hc
  obtain ⟨hS, hfc, kC, hkC, hkind⟩ := hKn
  obtain ⟨cf, kf, fi, f, hi, hsl⟩ := hS k hkn
  subst hsame
  have hst := (u_facts hfc hkC (u_lays C.h hin hkn) hi).1
  have fin : ∀ (H' : Heap), H'[ad r b]? = some (cell.setSlot f.slot v) → H'.size = H.size → (∀ q, q ≠ ad r b → H'[q]? = H[q]?) → W p l e R s m args below meth c H' (locs ++ [⟨ad r b, f.slot⟩]) cells slots Q (F0 m (pc + 3) ls rest) := by
    intro H' e1 e2 e3
    rw [hsl] at e1 ⊢
    refine kk H' _ ⟨Z.1.up hb hu ?_ e2 e3, Z.2.1.put e2 e3 ⟨r, b, hr, rfl⟩, Z.2.2⟩
    unfold zAt
    rw [hk]
    exact ⟨_, hc, t_OB.to (V := updV (sv L ad M r b) k v) ⟨_, e1, q2, q3, t_set q4 hap hkn v⟩ (fun j _ => by rw [hu.2.1 j]; rfl)⟩
  have hlay := C.h _ (hin _ (u_in_lay hkn))
  unfold u_lay at hlay
  by_cases hf : (T k).2.2.2 = false
  · rw [if_neg (by rw [hf]; decide)] at hlay
    have h6 := u_store hfc hkC hkind hlay hi (hty k hkn) hn hfit
    exact W.putK C.x C.b (f := f) ⟨C.o, C.w hlink, ⟨_, _, _, hi⟩, hst⟩ (by rw [q2]; exact h6) q1 q3 (by rw [hsl]; exact k2_hasslot (q4 k hkn)) rfl rfl d fin
  · have hf' : (T k).2.2.2 = true := by simpa using hf
    rw [if_pos hf'] at hlay
    obtain ⟨hin2, hdecl⟩ := hfin.resolve_left hf
    have hcf : m.cls = cf := by
      obtain ⟨_, _, c', _, _, _, -, -, hf2, -, -, -, hown2, -⟩ := Cond.laysFinal_spec hlay
      have e1 : c' = cf := by have := hi.symm.trans hf2; simp at this; exact this.1.symm
      rw [hdecl] at hown2
      rw [← e1]; exact Option.some.inj (C.o.symm.trans hown2)
    have h6 := u_fits hfc hkC hkind (Or.inr hlay) hi (hty k hkn) hn hfit
    exact W.putFinK C.x C.b C.o (C.w hlink) hi hst hcf hin2 (by rw [q2]; exact h6) q1 q3 (by rw [hsl]; exact k2_hasslot (q4 k hkn)) rfl rfl d fin
/-! rows -/
theorem Zd.arr {r b n : Nat} {ty : FieldType} (Z : Zd K L ad M s H locs) (hb : b < lc L M r) (hk : L.1 r = .inr (ty, n)) : H[ad r b]? = some (arrV (K.2.1 ty) n (sv L ad M r b)) := by
  have h := Z.1.1 r b hb
  unfold zAt at h
  rw [hk] at h
  exact h
theorem Zd.ty (Z : Zd K L ad M s H locs) {ty : FieldType} {t : Nat} (ht : ztys[t]? = some ty) : ArrOfT s (K.2.1 ty) ty ∧ va_RA s (K.2.1 ty) ty :=
  Z.2.2.1.2 t _ (by rw [List.getElem?_map, ht]; rfl)
theorem vin_lt {i : Int32} {n : Nat} (h : vp_in i n) : i.toNatClampNeg < n := Nat.not_le.mp fun q => h (Or.inr q)
theorem z_alen (C : Cx p s m args meth c cc nL own rt) (Z : Zd K L ad M s H locs) {r b n : Nat} {ty : FieldType} (hb : b < lc L M r) (hk : L.1 r = .inr (ty, n)) (t : Nat) (ht : ztys[t]? = some ty) {v : Int32} (hn : n.toInt32 = v) (d : decode cc pc = .ok (.arraylength, 1))
    (kk : W p l e R s m args below meth c H locs cells slots Q (F0 m (pc + 1) ls (.int v :: rest))) : W p l e R s m args below meth c H locs cells slots Q (F0 m pc ls (.ref (ad r b) :: rest)) :=
  W.alen C.x C.b (Z.arr hb hk) ((Z.ty ht).1 n _) (by rw [arrV_size]; exact hn) rfl rfl d kk
theorem z_iald (C : Cx p s m args meth c cc nL own rt) (Z : Zd K L ad M s H locs) {r b n : Nat} (hb : b < lc L M r) (hk : L.1 r = .inr (.int, n)) {i : Int32} (hin : vp_in i n) {v : Value} (hv : sv L ad M r b i.toNatClampNeg = v) (d : decode cc pc = .ok (.iaload, 1))
    (kk : W p l e R s m args below meth c H locs cells slots Q (F0 m (pc + 1) ls (v :: rest))) : W p l e R s m args below meth c H locs cells slots Q (F0 m pc ls (.int i :: .ref (ad r b) :: rest)) :=
  W.iald C.x C.b (Z.arr hb hk) ((Z.ty (t := 0) rfl).1 n _) (fun q => by cases q) (by rw [arrV_size]; exact hin) (by rw [arrV_read _ _ (vin_lt hin), hv]) rfl rfl d kk
theorem z_lald (C : Cx p s m args meth c cc nL own rt) (Z : Zd K L ad M s H locs) {r b n : Nat} (hb : b < lc L M r) (hk : L.1 r = .inr (.long, n)) {i : Int32} (hin : vp_in i n) {v : Value} (hv : sv L ad M r b i.toNatClampNeg = v) (d : decode cc pc = .ok (.laload, 1))
    (kk : W p l e R s m args below meth c H locs cells slots Q (F0 m (pc + 1) ls (v :: rest))) : W p l e R s m args below meth c H locs cells slots Q (F0 m pc ls (.int i :: .ref (ad r b) :: rest)) :=
  W.lald C.x C.b (Z.arr hb hk) ((Z.ty (t := 1) rfl).1 n _) (fun q => by cases q) (by rw [arrV_size]; exact hin) (by rw [arrV_read _ _ (vin_lt hin), hv]) rfl rfl d kk
theorem z_zald (C : Cx p s m args meth c cc nL own rt) (Z : Zd K L ad M s H locs) {r b n : Nat} (hb : b < lc L M r) (hk : L.1 r = .inr (.boolean, n)) {i : Int32} (hin : vp_in i n) {v : Value} (hv : sv L ad M r b i.toNatClampNeg = v) (d : decode cc pc = .ok (.baload, 1))
    (kk : W p l e R s m args below meth c H locs cells slots Q (F0 m (pc + 1) ls (v :: rest))) : W p l e R s m args below meth c H locs cells slots Q (F0 m pc ls (.int i :: .ref (ad r b) :: rest)) :=
  W.zald C.x C.b (Z.arr hb hk) ((Z.ty (t := 2) rfl).1 n _) (fun q => by cases q) (by rw [arrV_size]; exact hin) (by rw [arrV_read _ _ (vin_lt hin), hv]) rfl rfl d kk
theorem z_aald (C : Cx p s m args meth c cc nL own rt) (Z : Zd K L ad M s H locs) {r b n : Nat} {C0 : String} (hb : b < lc L M r) (hk : L.1 r = .inr (.object C0, n)) (t : Nat) (ht : ztys[t]? = some (.object C0)) {i : Int32} (hin : vp_in i n) {v : Value} (hv : sv L ad M r b i.toNatClampNeg = v) (d : decode cc pc = .ok (.aaload, 1))
    (kk : W p l e R s m args below meth c H locs cells slots Q (F0 m (pc + 1) ls (v :: rest))) : W p l e R s m args below meth c H locs cells slots Q (F0 m pc ls (.int i :: .ref (ad r b) :: rest)) :=
  W.aald C.x C.b (Z.arr hb hk) ((Z.ty ht).1 n _) rfl (fun q => by cases q) (by rw [arrV_size]; exact hin) (by rw [arrV_read _ _ (vin_lt hin), hv]) rfl rfl d kk
theorem Zd.aput {r b n k : Nat} {ty : FieldType} {v : Value} {H' : Heap} (Z : Zd K L ad M s H locs) (hb : b < lc L M r) (hr : r < 900) (hk : L.1 r = .inr (ty, n)) (hu : zUp L ad M M1 r b k v) (e1 : H'[ad r b]? = some ((arrV (K.2.1 ty) n (sv L ad M r b)).setSlot k v)) (e2 : H'.size = H.size) (e3 : ∀ q, q ≠ ad r b → H'[q]? = H[q]?) : Zd K L ad M1 s H' (locs ++ [⟨ad r b, k⟩]) := by
  refine ⟨Z.1.up hb hu ?_ e2 e3, Z.2.1.put e2 e3 ⟨r, b, hr, rfl⟩, Z.2.2⟩
  unfold zAt
  rw [hk]
  show H'[ad r b]? = some (arrV (K.2.1 ty) n (sv L ad M1 r b))
  rw [e1, arrV_store]
  congr 2
  funext j
  rw [hu.2.1 j]
  rfl
theorem z_iast (C : Cx p s m args meth c cc nL own rt) (Z : Zd K L ad M s H locs) {r b n : Nat} (hb : b < lc L M r) (hr : r < 900) (hk : L.1 r = .inr (.int, n)) {i x : Int32} (hin : vp_in i n) (em : M1 = sI M r b i.toNatClampNeg x) (ht : (L.2.1 r i.toNatClampNeg).1 = 0) (d : decode cc pc = .ok (.iastore, 1))
    (kk : ∀ (H1 : Heap) (locs1 : List Loc), Zd K L ad M1 s H1 locs1 → W p l e R s m args below meth c H1 locs1 cells slots Q (F0 m (pc + 1) ls rest)) : W p l e R s m args below meth c H locs cells slots Q (F0 m pc ls (.int x :: .int i :: .ref (ad r b) :: rest)) :=
  W.iast C.x C.b (Z.arr hb hk) ((Z.ty (t := 0) rfl).1 n _) (fun q => by cases q) (by rw [arrV_size]; exact hin) rfl rfl d fun H1 e1 e2 e3 => kk H1 _ (Z.aput hb hr hk (zUp_I em ht) e1 e2 e3)
theorem z_last (C : Cx p s m args meth c cc nL own rt) (Z : Zd K L ad M s H locs) {r b n : Nat} (hb : b < lc L M r) (hr : r < 900) (hk : L.1 r = .inr (.long, n)) {i : Int32} {x : Int64} (hin : vp_in i n) (em : M1 = sL M r b i.toNatClampNeg x) (ht : (L.2.1 r i.toNatClampNeg).1 = 1) (d : decode cc pc = .ok (.lastore, 1))
    (kk : ∀ (H1 : Heap) (locs1 : List Loc), Zd K L ad M1 s H1 locs1 → W p l e R s m args below meth c H1 locs1 cells slots Q (F0 m (pc + 1) ls rest)) : W p l e R s m args below meth c H locs cells slots Q (F0 m pc ls (.long x :: .int i :: .ref (ad r b) :: rest)) :=
  W.last C.x C.b (Z.arr hb hk) ((Z.ty (t := 1) rfl).1 n _) (fun q => by cases q) (by rw [arrV_size]; exact hin) rfl rfl d fun H1 e1 e2 e3 => kk H1 _ (Z.aput hb hr hk (zUp_L em ht) e1 e2 e3)
theorem z_zast (C : Cx p s m args meth c cc nL own rt) (Z : Zd K L ad M s H locs) {r b n : Nat} (hb : b < lc L M r) (hr : r < 900) (hk : L.1 r = .inr (.boolean, n)) {i x : Int32} (hin : vp_in i n) (em : M1 = sI M r b i.toNatClampNeg (vp_nar .boolean x)) (ht : (L.2.1 r i.toNatClampNeg).1 = 0) (d : decode cc pc = .ok (.bastore, 1))
    (kk : ∀ (H1 : Heap) (locs1 : List Loc), Zd K L ad M1 s H1 locs1 → W p l e R s m args below meth c H1 locs1 cells slots Q (F0 m (pc + 1) ls rest)) : W p l e R s m args below meth c H locs cells slots Q (F0 m pc ls (.int x :: .int i :: .ref (ad r b) :: rest)) :=
  W.zast C.x C.b (Z.arr hb hk) ((Z.ty (t := 2) rfl).1 n _) (fun q => by cases q) (by rw [arrV_size]; exact hin) rfl rfl d fun H1 e1 e2 e3 => kk H1 _ (Z.aput hb hr hk (v := .int (vp_nar .boolean x)) (zUp_I em ht) e1 e2 e3)
/-- a reference into a row of references; t, ci: the place of its type, its class -/
theorem z_aast (C : Cx p s m args meth c cc nL own rt) (Z : Zd K L ad M s H locs) {r b n t ci r2 N : Nat} {C0 : String} {T : u_T} (hb : b < lc L M r) (hr : r < 900) (hk : L.1 r = .inr (.object C0, n)) (ht : ztys[t]? = some (.object C0)) (hk2 : L.1 r2 = .inl ci) (hc2 : zcl[ci]? = some (C0, T, N)) {i : Int32} {x : Nat} (hx : ∀ j, x = j + 1 → j < lc L M r2) (hin : vp_in i n) (em : M1 = sR M r b i.toNatClampNeg x) (hs : L.2.1 r i.toNatClampNeg = (2, r2)) (d : decode cc pc = .ok (.aastore, 1))
    (kk : ∀ (H1 : Heap) (locs1 : List Loc), Zd K L ad M1 s H1 locs1 → W p l e R s m args below meth c H1 locs1 cells slots Q (F0 m (pc + 1) ls rest)) : W p l e R s m args below meth c H locs cells slots Q (F0 m pc ls (rf (ad r2) x :: .int i :: .ref (ad r b) :: rest)) := by
  have hu := zUp_R em hr hs (ad := ad)
  cases x with
  | zero =>
    exact va_WaastN C.x C.b (Z.arr hb hk) ((Z.ty ht).1 n _) (fun q => by cases q) (by rw [arrV_size]; exact hin) rfl rfl d fun H1 e1 e2 e3 => kk H1 _ (Z.aput hb hr hk hu e1 e2 e3)
  | succ j =>
    obtain ⟨⟨cellV, g1, g2, g3, -⟩, hKn⟩ := Z.obj (hx j rfl) hk2 hc2
    obtain ⟨kA, comp, k1, k2, k3, -⟩ := (Z.ty ht).2
    have hcls := hKn.2
    have hcomp : comp = K.1.1 ci := Option.some.inj (k3.symm.trans hcls.1)
    subst hcomp
    obtain ⟨kC, hkC, -⟩ := hcls.2
    exact W.aast C.x C.b (Z.arr hb hk) (fun q h => by cases h) (fun h => by cases h) k1 k2 rfl hkC ⟨fun q => hin (Or.inl q), by rw [arrV_size]; exact vin_lt hin⟩ g1 (fun q h => by rw [g3] at h; cases h) (by rw [g2]; exact hkC) (by rw [g2]; exact va_assign hcls) rfl rfl d fun H1 e1 e2 e3 => kk H1 _ (Z.aput hb hr hk hu e1 e2 e3)
/-! references that may be none -/
theorem z_aload_n {k : Fin 4} {i x : Nat} {f : Nat → Nat} (C : Cx p s m args meth c cc nL own rt) (d : decode cc pc = .ok (.aload_n k, 1)) (hi : (k : Nat) = i) (hl : ls[i]? = some (.val (rf f x)))
    (kk : W p l e R s m args below meth c H locs cells slots Q (F0 m (pc + 1) ls (rf f x :: rest))) : W p l e R s m args below meth c H locs cells slots Q (F0 m pc ls rest) := by
  cases x with
  | zero => exact lv_aload_nN C.x C.b d hi hl kk
  | succ j => exact lv_aload_n C.x C.b d hi hl kk
theorem z_aload {i x : Nat} {f : Nat → Nat} (C : Cx p s m args meth c cc nL own rt) (d : decode cc pc = .ok (.aload i, 2)) (hl : ls[i]? = some (.val (rf f x)))
    (kk : W p l e R s m args below meth c H locs cells slots Q (F0 m (pc + 2) ls (rf f x :: rest))) : W p l e R s m args below meth c H locs cells slots Q (F0 m pc ls rest) := by
  cases x with
  | zero => exact lv_aloadN C.x C.b d hl kk
  | succ j => exact lv_aload C.x C.b d hl kk
def lvd (lv : List (Nat × Value)) (i : Nat) : List (Nat × Value) := lv.filter (fun q => !(q.1 == i) && !(q.1 + 1 == i && q.2.category == 2))
theorem z_astore_n {k : Fin 4} {i x : Nat} {f : Nat → Nat} {lv lv' : List (Nat × Value)} (C : Cx p s m args meth c cc nL own rt) (d : decode cc pc = .ok (.astore_n k, 1)) (hi : (k : Nat) = i) (h : lv_has ls nL lv) (hn : i < nL) (hl : (i, rf f x) :: lvd lv i = lv')
    (kk : ∀ ls' : Array Slot, lv_has ls' nL lv' → W p l e R s m args below meth c H locs cells slots Q (F0 m (pc + 1) ls' rest)) : W p l e R s m args below meth c H locs cells slots Q (F0 m pc ls (rf f x :: rest)) := by
  cases x with
  | zero => exact lv_astore_nN C.x C.b d hi h hn hl kk
  | succ j => exact lv_astore_n C.x C.b d hi h hn hl kk
theorem z_astore {i x : Nat} {f : Nat → Nat} {lv lv' : List (Nat × Value)} (C : Cx p s m args meth c cc nL own rt) (d : decode cc pc = .ok (.astore i, 2)) (h : lv_has ls nL lv) (hn : i < nL) (hl : (i, rf f x) :: lvd lv i = lv')
    (kk : ∀ ls' : Array Slot, lv_has ls' nL lv' → W p l e R s m args below meth c H locs cells slots Q (F0 m (pc + 2) ls' rest)) : W p l e R s m args below meth c H locs cells slots Q (F0 m pc ls (rf f x :: rest)) := by
  cases x with
  | zero => exact lv_astoreN C.x C.b d h hn hl kk
  | succ j => exact lv_astore C.x C.b d h hn hl kk
theorem z_ifnull {x tgt : Nat} {off : Int} {f : Nat → Nat} (C : Cx p s m args meth c cc nL own rt) (d : decode cc pc = .ok (.ifnull off, 3)) (ht : (pc : Int) + off = (tgt : Int))
    (kt : x = 0 → W p l e R s m args below meth c H locs cells slots Q (F0 m tgt ls rest)) (kf : ¬ x = 0 → W p l e R s m args below meth c H locs cells slots Q (F0 m (pc + 3) ls rest)) : W p l e R s m args below meth c H locs cells slots Q (F0 m pc ls (rf f x :: rest)) := by
  cases x with
  | zero => exact lv_ifnullN C.x C.b d ht (kt rfl)
  | succ j => exact lv_ifnull C.x C.b d (kf (by omega))
theorem z_ifnonnull {x tgt : Nat} {off : Int} {f : Nat → Nat} (C : Cx p s m args meth c cc nL own rt) (d : decode cc pc = .ok (.ifnonnull off, 3)) (ht : (pc : Int) + off = (tgt : Int))
    (kt : ¬ x = 0 → W p l e R s m args below meth c H locs cells slots Q (F0 m tgt ls rest)) (kf : x = 0 → W p l e R s m args below meth c H locs cells slots Q (F0 m (pc + 3) ls rest)) : W p l e R s m args below meth c H locs cells slots Q (F0 m pc ls (rf f x :: rest)) := by
  cases x with
  | zero => exact lv_ifnonnullN C.x C.b d (kf rfl)
  | succ j => exact lv_ifnonnull C.x C.b d ht (kt (by omega))
/-! calls -/
def MW (y : MethodName) (cc : ByteArray) (maxL : Nat) (ret : Option FieldType) (n : Nat) : Prop := zW (.code y cc maxL ret) ∧ zW (.initialized y.cls) ∧ y.cls ≠ "java/lang/invoke/MethodHandle" ∧ y.cls ≠ "java/lang/invoke/VarHandle" ∧ (parseMethodDescriptor y.desc).map (fun d => d.parameters.length) = some n
theorem z_ran {y : MethodName} {mc ms : Nat} {a : Array Value} {rv : Option Value} {st0 : List Value} (Z : Zd K L ad M s H locs) (hr : va_Run p l e R s m args below meth c H locs cells slots mc ms (F0 m pc ls st0) rest (zQ K L ad rv M1 a) (zA ad))
    (kk : ∀ (H1 : Heap) (locs1 : List Loc), Zd K L ad M1 s H1 locs1 → W p l e R s m args below meth c H1 locs1 (cells + mc) (slots + ms) Q (F0 m (pc + 3) ls (rv.toList ++ rest))) : W p l e R s m args below meth c H locs cells slots Q (F0 m pc ls st0) := by
  intro T hT X
  obtain ⟨v, st₀, t, T', Ls, h0, X', hL, e1, e2, ⟨hv, hz, hF⟩, st⟩ := hr T hT X
  cases hv
  obtain ⟨hF1, hF2⟩ := hF
  rw [h0] at hF1 hF2
  have hS := Z.2.1
  obtain ⟨t2, a1, b1⟩ := kk T'.heap (locs ++ Ls) ⟨by rw [e1]; exact hz, ⟨Nat.le_trans hS.1 (by rw [e1]; exact hF1), fun q h1 h2 => by rw [e1, hF2 q (Nat.lt_of_lt_of_le h1 hS.1) h2]; exact hS.2.1 q h1 h2, fun q hq => by
      rcases List.mem_append.mp hq with h | h
      · exact hS.2.2 q h
      · exact hL q h⟩, Z.2.2⟩ T' rfl X'
  exact ⟨t2, st t2 a1, b1⟩
theorem z_calB {y : MethodName} {bytes : ByteArray} {maxL h mc ms n idx : Nat} {ret : Option FieldType} (C : Cx p s m args meth c cc nL own rt) (w : MW y bytes maxL ret n) (lk : zW (.methodLink own idx y)) (hL : maxL ≤ 20) (hR : h + 1 ≤ R.frames ∧ 40 * (h + 1) ≤ R.locals) : CallB R s args own idx y bytes maxL ret (Cond.code y bytes maxL ret :: ztb) (RM h mc ms) mc ms n :=
  callB_of n C.h (ztb_in w.1) rfl rfl rfl (C.w w.2.1) (C.w lk) w.2.2 ⟨hR.1, by have := hR.2; show 8 + (maxL + 11) + 40 * h ≤ _; omega⟩
theorem z_pre {av : List Value} (Z : Zd K L ad M s H locs) : ∀ U : State, U.heap = H → s.WarmedH U.vm → zPc K L ad M av av.toArray U := fun U hU hW => ⟨rfl, by rw [hU]; exact Z.1, Z.2.2.1.moved hW.alike, by rw [hU]; exact Z.2.2.2.go hW.alike (vk_R.warm hW) Z.2.1.2.1⟩
theorem z_calV {y : MethodName} {bytes : ByteArray} {maxL h mc ms n idx r b ci N : Nat} {ret : Option FieldType} {T : u_T} {As st0 : List Value} {rv : Option Value} (C : Cx p s m args meth c cc nL own rt) (Z : Zd K L ad M s H locs) (w : MW y bytes maxL ret n) (wv : zW (.instanceMethod y) ∧ Cond.selects y.cls y y ∈ ztb) (lk : zW (.methodLink own idx y)) (hL : maxL ≤ 20) (hR : h + 1 ≤ R.frames ∧ 40 * (h + 1) ≤ R.locals)
    (hb : b < lc L M r) (hk : L.1 r = .inl ci) (hc : zcl[ci]? = some (y.cls, T, N)) (hM : Met l y (Cond.code y bytes maxL ret :: ztb) (RM h mc ms) (zPc K L ad M (.ref (ad r b) :: As)) (zQ K L ad rv M1) mc ms (zA ad)) (hn : As.length = n) (hl : ls.size = nL) (hst : st0 = As.reverse ++ .ref (ad r b) :: rest) (hcat : (rest.map fun v => v.category).sum ≤ 8) (d : decode cc pc = .ok (.invokevirtual idx, 3)) (hf : cells + mc ≤ R.cells ∧ slots + ms ≤ R.slots)
    (kk : ∀ (H1 : Heap) (locs1 : List Loc), Zd K L ad M1 s H1 locs1 → W p l e R s m args below meth c H1 locs1 (cells + mc) (slots + ms) Q (F0 m (pc + 3) ls (rv.toList ++ rest))) : W p l e R s m args below meth c H locs cells slots Q (F0 m pc ls st0) := by
  obtain ⟨⟨cell, g1, g2, g3, -⟩, hKn⟩ := Z.obj hb hk hc
  exact z_ran (y := y) Z (va_runV (As := As) (rest := rest) (C := y.cls) C.1 hM ⟨z_calB C w lk hL hR, C.w wv.1, C.h _ wv.2⟩ ⟨zPc.blind, ⟨cell, g1, by rw [g3]; rfl, by rw [g2]; exact hKn.2.1⟩, z_pre Z⟩ rfl hn hl hst (lv_room hcat) d hf) kk
theorem z_calS {y : MethodName} {bytes : ByteArray} {maxL h mc ms n idx : Nat} {ret : Option FieldType} {As st0 : List Value} {rv : Option Value} (C : Cx p s m args meth c cc nL own rt) (Z : Zd K L ad M s H locs) (w : MW y bytes maxL ret n) (wv : zW (.static y)) (lk : zW (.methodLink own idx y)) (hL : maxL ≤ 20) (hR : h + 1 ≤ R.frames ∧ 40 * (h + 1) ≤ R.locals)
    (hM : Met l y (Cond.code y bytes maxL ret :: ztb) (RM h mc ms) (zPc K L ad M As) (zQ K L ad rv M1) mc ms (zA ad)) (hn : As.length = n) (hl : ls.size = nL) (hst : st0 = As.reverse ++ rest) (hcat : (rest.map fun v => v.category).sum ≤ 8) (d : decode cc pc = .ok (.invokestatic idx, 3)) (hf : cells + mc ≤ R.cells ∧ slots + ms ≤ R.slots)
    (kk : ∀ (H1 : Heap) (locs1 : List Loc), Zd K L ad M1 s H1 locs1 → W p l e R s m args below meth c H1 locs1 (cells + mc) (slots + ms) Q (F0 m (pc + 3) ls (rv.toList ++ rest))) : W p l e R s m args below meth c H locs cells slots Q (F0 m pc ls st0) :=
  z_ran (y := y) Z (va_runS (As := As) (rest := rest) C.1 hM ⟨z_calB C w lk hL hR, C.w wv⟩ ⟨zPc.blind, z_pre Z⟩ rfl hn hl hst (lv_room hcat) d hf) kk
theorem z_calI {y : MethodName} {bytes : ByteArray} {maxL h mc ms n idx r b : Nat} {As st0 : List Value} {rv : Option Value} (C : Cx p s m args meth c cc nL own rt) (Z : Zd K L ad M s H locs) (w : MW y bytes maxL none n) (wv : zW (.instanceMethod y)) (hy : y.name = "<init>") (lk : zW (.methodLink own idx y)) (hL : maxL ≤ 20) (hR : h + 1 ≤ R.frames ∧ 40 * (h + 1) ≤ R.locals)
    (hM : Met l y (Cond.code y bytes maxL none :: ztb) (RM h mc ms) (zPc K L ad M (.ref (ad r b) :: As)) (zQ K L ad rv M1) mc ms (zA ad)) (hn : As.length = n) (hl : ls.size = nL) (hst : st0 = As.reverse ++ .ref (ad r b) :: rest) (hcat : (rest.map fun v => v.category).sum ≤ 8) (d : decode cc pc = .ok (.invokespecial idx, 3)) (hf : cells + mc ≤ R.cells ∧ slots + ms ≤ R.slots)
    (kk : ∀ (H1 : Heap) (locs1 : List Loc), Zd K L ad M1 s H1 locs1 → W p l e R s m args below meth c H1 locs1 (cells + mc) (slots + ms) Q (F0 m (pc + 3) ls (rv.toList ++ rest))) : W p l e R s m args below meth c H locs cells slots Q (F0 m pc ls st0) :=
  z_ran (y := y) Z (va_runI (As := As) (rest := rest) C.1 hM ⟨z_calB C w lk hL hR, hy, C.w wv⟩ ⟨zPc.blind, z_pre Z⟩ rfl hn hl hst (lv_room hcat) d hf) kk
end ZR
