/-! constructors: a new row of numbers -/
section ZC
variable {p : Program} {l : Launch} {e : Env} {R : Room} {s : State} {m : MethodId} {args : Array Value} {below : List Frame} {meth : Method} {c : Code} {H : Heap} {locs : List Loc} {cells slots : Nat} {Q : State → Prop}
variable {cc : ByteArray} {pc nL : Nat} {ls : Array Slot} {rest : List Value} {own : String} {rt : Option FieldType} {K : KG} {L : Lay} {ad : Nat → Nat → Nat} {M M1 : Mem}
/-- the world with one cell more -/
theorem Zw.born {r b : Nat} {H1 : Heap} (Z : Zw K L ad M H) (hr : r < 900) (hb : b = gR M 999 r 0) (had : gR M 997 r b = gR M 998 0 0) (em : M1 = sN M r) (hlb : lc L M r = b) (hl1 : lc L M1 r = b + 1) (hl2 : ∀ r', r' ≠ r → lc L M1 r' = lc L M r') (hhi : ∀ r', 900 ≤ r' → lc L M r' = 0)
    (hc : zAt K L ad M1 r b H1) (s1 : H1.size = H.size + 1) (o1 : ∀ q, q < H.size → H1[q]? = H[q]?) : Zw K L ad M1 H1 := by
  obtain ⟨z1, z2, z3, z4⟩ := Z
  have hsz : ad r b = H.size := by rw [← z3, had, z4]
  have keep : ∀ r' b' j, b' < lc L M r' → sv L ad M1 r' b' j = sv L ad M r' b' j := by
    intro r' b' j hlt
    have hr' : r' < 900 := by
      rcases Nat.lt_or_ge r' 900 with q | q
      · exact q
      · rw [hhi r' q] at hlt; omega
    have hne : ¬ (r' = r ∧ b' = gR M 999 r 0) := fun q => by rw [q.1, hlb, q.2, ← hb] at hlt; omega
    subst em
    unfold sv
    split <;> try rfl
    · rw [gI_sN, if_neg hne]
    · rw [gL_sN, if_neg hne]
    · rw [gR_sN, if_neg (fun q => by omega), if_neg (fun q => by omega), if_neg hne]
  have old : ∀ r' b', b' < lc L M1 r' → ¬ (r' = r ∧ b' = b) → b' < lc L M r' := by
    intro r' b' h er
    by_cases e2 : r' = r
    · subst e2
      rw [hl1] at h
      rw [hlb]
      have : b' ≠ b := fun q => er ⟨rfl, q⟩
      omega
    · rw [hl2 r' e2] at h; exact h
  refine ⟨fun r' b' h => ?_, fun r' b' r2 b2 h h2 he => ?_, fun r' b' => ?_, ?_⟩
  · by_cases er : r' = r ∧ b' = b
    · rw [er.1, er.2]; exact hc
    · have hlt := old r' b' h er
      exact (z1 r' b' hlt).kept (fun j => keep r' b' j hlt) (o1 _ (z1 r' b' hlt).lt)
  · by_cases ea : r' = r ∧ b' = b
    · by_cases eb : r2 = r ∧ b2 = b
      · exact ⟨ea.1.trans eb.1.symm, ea.2.trans eb.2.symm⟩
      · have hlt := (z1 r2 b2 (old r2 b2 h2 eb)).lt
        rw [ea.1, ea.2, hsz] at he
        omega
    · by_cases eb : r2 = r ∧ b2 = b
      · have hlt := (z1 r' b' (old r' b' h ea)).lt
        rw [eb.1, eb.2, hsz] at he
        omega
      · exact z2 r' b' r2 b2 (old r' b' h ea) (old r2 b2 h2 eb) he
  · rw [em, gR_sN, if_neg (fun q => by omega), if_neg (fun q => by omega), if_neg (fun q => by omega)]
    exact z3 r' b'
  · rw [s1, em, gR_sN, if_neg (fun q => by omega), if_pos ⟨rfl, rfl, rfl⟩, z4]
    omega
theorem z_newa {atype : ArrayType} {ty : FieldType} {i N r b : Nat} {n0 : Int32} (C : Cx p s m args meth c cc nL own rt) (Z : Zd K L ad M s H locs) (hty : newarray.typeOf atype = ty) (hi : ztys[i]? = some ty) (hk : L.1 r = .inr (ty, N)) (wa : zW (.arrayClass ty)) (hr : r < 900) (hb : b = gR M 999 r 0) (had : gR M 997 r b = gR M 998 0 0) (em : M1 = sN M r) (hfs : ∀ j, sv L ad M1 r b j = defaultValue ty) (hlb : lc L M r = b) (hl1 : lc L M1 r = b + 1) (hl2 : ∀ r', r' ≠ r → lc L M1 r' = lc L M r') (hhi : ∀ r', 900 ≤ r' → lc L M r' = 0)
    (hn : ¬ n0 < 0) (hN : n0.toNatClampNeg = N) (hbytes : N * componentBytes ty ≤ 536870912) (hcells : cells + 1 ≤ R.cells) (hslots : slots + N ≤ R.slots) (d : decode cc pc = .ok (.newarray atype, 2))
    (kk : ∀ (H1 : Heap), Zd K L ad M1 s H1 locs → W p l e R s m args below meth c H1 locs (cells + 1) (slots + N) Q (F0 m (pc + 2) ls (.ref (ad r b) :: rest))) : W p l e R s m args below meth c H locs cells slots Q (F0 m pc ls (.int n0 :: rest)) := by
  subst hty
  have hsz : ad r b = H.size := by rw [← Z.1.2.2.1, had, Z.1.2.2.2]
  have hKt := (Z.2.2.1.2 i (K.2.1 (newarray.typeOf atype), newarray.typeOf atype) (by rw [List.getElem?_map, hi]; rfl)).2
  refine va_newaK C.x C.b (C.w wa) rfl d rfl hn hN hbytes hcells hslots rfl fun H1 cA e1 z1 o1 hAr hNm => ?_
  have hcA : cA = K.2.1 (newarray.typeOf atype) := by
    have h2 : s.vm.findClass ("[" ++ (newarray.typeOf atype).toString) = some (K.2.1 (newarray.typeOf atype)) := by
      cases atype <;> exact hKt
    rw [hNm] at h2
    exact Option.some.inj h2
  rw [← hsz]
  refine kk H1 ⟨Z.1.born hr hb had em hlb hl1 hl2 hhi ?_ z1 o1, ⟨Nat.le_trans Z.2.1.1 (by omega), fun q g1 g2 => (o1 q (Nat.lt_of_lt_of_le g1 Z.2.1.1)).trans (Z.2.1.2.1 q g1 g2), Z.2.1.2.2⟩, Z.2.2⟩
  unfold zAt
  rw [hk]
  show H1[ad r b]? = some (arrV (K.2.1 (newarray.typeOf atype)) N (sv L ad M1 r b))
  rw [hsz, e1, ← hcA, show sv L ad M1 r b = fun _ => defaultValue (newarray.typeOf atype) from funext hfs]
/-- a new row of references -/
theorem z_anewa {Cn : String} {i N r b index : Nat} {n0 : Int32} (C : Cx p s m args meth c cc nL own rt) (Z : Zd K L ad M s H locs) (hi : ztys[i]? = some (.object Cn)) (hk : L.1 r = .inr (.object Cn, N)) (wl : zW (.classLink own index Cn)) (wa : zW (.arrayOver (.object Cn))) (hr : r < 900) (hb : b = gR M 999 r 0) (had : gR M 997 r b = gR M 998 0 0) (em : M1 = sN M r) (hfs : ∀ j, sv L ad M1 r b j = .null) (hlb : lc L M r = b) (hl1 : lc L M1 r = b + 1) (hl2 : ∀ r', r' ≠ r → lc L M1 r' = lc L M r') (hhi : ∀ r', 900 ≤ r' → lc L M r' = 0)
    (hn : ¬ n0 < 0) (hN : n0.toNatClampNeg = N) (hbytes : N * 4 ≤ 536870912) (hcells : cells + 1 ≤ R.cells) (hslots : slots + N ≤ R.slots) (d : decode cc pc = .ok (.anewarray index, 3))
    (kk : ∀ (H1 : Heap), Zd K L ad M1 s H1 locs → W p l e R s m args below meth c H1 locs (cells + 1) (slots + N) Q (F0 m (pc + 3) ls (.ref (ad r b) :: rest))) : W p l e R s m args below meth c H locs cells slots Q (F0 m pc ls (.int n0 :: rest)) := by
  subst hN
  have hsz : ad r b = H.size := by rw [← Z.1.2.2.1, had, Z.1.2.2.2]
  obtain ⟨kA0, comp0, q1, q2, q3, hKt⟩ := (Z.2.2.1.2 i (K.2.1 (.object Cn), .object Cn) (by rw [List.getElem?_map, hi]; rfl)).2
  refine W.anew C.x C.b C.o (C.w wl) (C.w wa) rfl d rfl hn hbytes hcells hslots fun cA kA comp g1 g2 g3 g4 => ?_
  have hcA : cA = K.2.1 (.object Cn) := by
    rw [g1] at hKt
    exact Option.some.inj hKt
  rw [← hsz]
  refine kk _ ⟨Z.1.born hr hb had em hlb hl1 hl2 hhi ?_ (by simp) (fun q hq => by rw [Array.getElem?_push, if_neg (Nat.ne_of_lt hq)]), ⟨Nat.le_trans Z.2.1.1 (by simp), fun q g1 g2 => ?_, Z.2.1.2.2⟩, Z.2.2⟩
  · unfold zAt
    rw [hk]
    show _ = some (arrV (K.2.1 (.object Cn)) n0.toNatClampNeg (sv L ad M1 r b))
    rw [hsz, ← hcA, show sv L ad M1 r b = fun _ => Value.null from funext hfs]
    rw [Array.getElem?_push, if_pos rfl, ← arrV_new]
  · rw [Array.getElem?_push, if_neg (by have := Z.2.1.1; omega)]
    exact Z.2.1.2.1 q g1 g2
end ZC
