theorem Zw.up2 {K : KG} {L : Lay} {ad : Nat → Nat → Nat} {m m1 : Mem} {r b : Nat} {H H1 : Heap} (Z : Zw K L ad m H) (hb : b < lc L m r) (u1 : ∀ r' b' j, ¬ (r' = r ∧ b' = b) → sv L ad m1 r' b' j = sv L ad m r' b' j) (u3 : ∀ r' b' j, 900 ≤ r' → gR m1 r' b' j = gR m r' b' j) (hc : zAt K L ad m1 r b H1) (hz : H1.size = H.size) (hq : ∀ q, q ≠ ad r b → H1[q]? = H[q]?) : Zw K L ad m1 H1 := by
  obtain ⟨z1, z2, z3, z4⟩ := Z
  have hl := lc_eq (L := L) u3
  refine ⟨fun r' b' h => ?_, fun r' b' r2 b2 h h2 => ?_, fun r' b' => ?_, ?_⟩
  · rw [hl] at h
    by_cases e : r' = r ∧ b' = b
    · rw [e.1, e.2]; exact hc
    · exact (z1 r' b' h).kept (fun j => u1 r' b' j e) (hq _ (fun q => e (z2 r' b' r b h hb q)))
  · rw [hl] at h h2
    exact z2 r' b' r2 b2 h h2
  · rw [u3 _ _ _ (by decide)]; exact z3 r' b'
  · rw [hz, u3 _ _ _ (by decide)]; exact z4
def sCL (m : Mem) (r1 b1 r2 b2 sp dp n : Nat) : Mem := (m.1, fun r' b' k' => if r' = r2 ∧ b' = b2 ∧ dp ≤ k' ∧ k' < dp + n then m.2.1 r1 b1 (sp + (k' - dp)) else m.2.1 r' b' k', m.2.2)
theorem gL_sCL (m : Mem) (r1 b1 r2 b2 sp dp n r' b' k' : Nat) : gL (sCL m r1 b1 r2 b2 sp dp n) r' b' k' = if r' = r2 ∧ b' = b2 ∧ dp ≤ k' ∧ k' < dp + n then gL m r1 b1 (sp + (k' - dp)) else gL m r' b' k' := rfl
theorem gI_sCL (m : Mem) (r1 b1 r2 b2 sp dp n r' b' k' : Nat) : gI (sCL m r1 b1 r2 b2 sp dp n) r' b' k' = gI m r' b' k' := rfl
theorem gR_sCL (m : Mem) (r1 b1 r2 b2 sp dp n r' b' k' : Nat) : gR (sCL m r1 b1 r2 b2 sp dp n) r' b' k' = gR m r' b' k' := rfl
theorem nn_of {z : Int32} (hz : ¬ z < 0) : z.toInt = (z.toNatClampNeg : Int) := by
  have hz0 : (0 : Int) ≤ z.toInt := by
    have h := Int32.le_iff_toInt_le.mp (Int32.not_lt.mp hz)
    simpa using h
  show z.toInt = ((z.toInt.toNat : Nat) : Int)
  omega
section ZN
variable {p : Program} {l : Launch} {e : Env} {R : Room} {s : State} {m : MethodId} {args : Array Value} {below : List Frame} {meth : Method} {c : Code} {H : Heap} {locs : List Loc} {cells slots : Nat} {Q : State → Prop}
variable {cc : ByteArray} {pc nL : Nat} {ls : Array Slot} {rest : List Value} {own : String} {rt : Option FieldType} {K : KG} {L : Lay} {ad : Nat → Nat → Nat} {M M1 : Mem}
theorem z_copyL {index r1 b1 r2 b2 n0 n1 : Nat} {sp dp n : Int32} (C : Cx p s m args meth c cc nL own rt) (Z : Zd K L ad M s H locs) (w : zW (.methodLink own index arraycopyName)) (w1 : zW (.native arraycopyName)) (w2 : zW (.static arraycopyName)) (w3 : zW (.initialized "java/lang/System")) (hb1 : b1 < lc L M r1) (hb2 : b2 < lc L M r2) (hr : r2 < 900) (hk1 : L.1 r1 = .inr (.long, n0)) (hk2 : L.1 r2 = .inr (.long, n1)) (hv1 : sv L ad M r1 b1 = fun k => .long (gL M r1 b1 k)) (ht2 : ∀ k, (L.2.1 r2 k).1 = 1)
    (hq : ¬ sp < 0 ∧ ¬ dp < 0 ∧ ¬ n < 0 ∧ sp.toNatClampNeg + n.toNatClampNeg ≤ n0 ∧ dp.toNatClampNeg + n.toNatClampNeg ≤ n1) (em : M1 = sCL M r1 b1 r2 b2 sp.toNatClampNeg dp.toNatClampNeg n.toNatClampNeg) (hl : ls.size = nL) {h : Nat} (hR : h ≤ R.frames ∧ 40 * h ≤ R.locals) (hh : 1 ≤ h) (hcat : (rest.map fun v => v.category).sum + (nativeFrameWords "java/lang/System" "arraycopy" 5 + 11) ≤ 40) (d : decode cc pc = .ok (.invokestatic index, 3))
    (kk : ∀ (H1 : Heap) (locs1 : List Loc), Zd K L ad M1 s H1 locs1 → W p l e R s m args below meth c H1 locs1 cells slots Q (F0 m (pc + 3) ls rest)) : W p l e R s m args below meth c H locs cells slots Q (F0 m pc ls (.int n :: .int dp :: .ref (ad r2 b2) :: .int sp :: .ref (ad r1 b1) :: rest)) := by
  obtain ⟨h1, h2, h3, h4, h5⟩ := hq
  have sv2 : ∀ (m' : Mem) k, sv L ad m' r2 b2 k = .long (gL m' r2 b2 k) := fun m' k => by
    unfold sv
    rw [ht2 k]
    rfl
  intro T hT X
  have hc0 := Z.arr hb1 hk1
  have hc1 := Z.arr hb2 hk2
  obtain ⟨-, k0, hk0, cm0, hkk0⟩ := (Z.ty (t := 1) rfl).1 n0 (sv L ad M r1 b1)
  obtain ⟨-, k1, hk1', cm1, hkk1⟩ := (Z.ty (t := 1) rfl).1 n1 (sv L ad M r2 b2)
  obtain ⟨vm', X', step⟩ := X.arraycopy C.x C.o (C.w w) (C.w w1) (C.w w2) (C.w w3) (src := ad r1 b1) (dst := ad r2 b2) (cs := arrV (K.2.1 .long) n0 (sv L ad M r1 b1)) (cd := arrV (K.2.1 .long) n1 (sv L ad M r2 b2)) (srcPos := sp) (destPos := dp) (n := n) (by rw [hT]; exact hc0) (by rw [hT]; exact hc1)
    (fun _ h => by cases h) (fun _ h => by cases h) (fun h => by cases h) (fun h => by cases h) hk0 hk1' hkk0 hkk1 (by simp [refKind]) h1 h2 h3
    (by rw [nn_of h1, nn_of h3, arrV_size]; omega)
    (by rw [nn_of h2, nn_of h3, arrV_size]; omega)
    (fun vm₁ _ i hi => by
      have e1 : (arrV (K.2.1 .long) n0 (sv L ad M r1 b1)).slots.getD (sp.toNatClampNeg + i) .null = .long (gL M r1 b1 (sp.toNatClampNeg + i)) := by
        rw [Array.getD_eq_getD_getElem?, arrV_read _ _ (by omega), hv1]
        rfl
      rw [e1]
      exact ⟨rfl, trivial⟩)
    (g := F0 m pc ls (.int n :: .int dp :: .ref (ad r2 b2) :: .int sp :: .ref (ad r1 b1) :: rest)) rfl (by rw [C.1.2.2.1]; exact hl) (rest := rest) rfl (by rw [C.b]; exact d) (by omega) (by show 2 * 0 + _ + _ ≤ _; omega)
  have e1 : copied (arrV (K.2.1 .long) n0 (sv L ad M r1 b1)) (arrV (K.2.1 .long) n1 (sv L ad M r2 b2)) sp dp n = arrV (K.2.1 .long) n1 (sv L ad M1 r2 b2) := by
    have q2 : sv L ad M r2 b2 = fun k => .long (gL M r2 b2 k) := funext fun k => sv2 M k
    have q3 : sv L ad M1 r2 b2 = fun k => .long (va_cpy (gL M r1 b1) (gL M r2 b2) sp.toNatClampNeg dp.toNatClampNeg n.toNatClampNeg k) := by
      funext k
      rw [sv2 M1 k, em, gL_sCL]
      simp only [true_and, va_cpy]
    rw [hv1, q2, q3]
    exact va_copied (fun z => .long z) _ _ (gL M r1 b1) (gL M r2 b2) h4
  rw [e1] at X' step
  have hlt : ad r2 b2 < H.size := (Array.getElem?_eq_some_iff.mp hc1).1
  have hheap : ((T.setVm vm').setCell (ad r2 b2) (arrV (K.2.1 .long) n1 (sv L ad M1 r2 b2))).heap = H.setIfInBounds (ad r2 b2) (arrV (K.2.1 .long) n1 (sv L ad M1 r2 b2)) := by rw [← hT]; rfl
  have oq : ∀ q : Nat, q ≠ ad r2 b2 → (H.setIfInBounds (ad r2 b2) (arrV (K.2.1 .long) n1 (sv L ad M1 r2 b2)))[q]? = H[q]? := fun q hq => by simp [Array.getElem?_setIfInBounds, Ne.symm hq]
  have hself : (H.setIfInBounds (ad r2 b2) (arrV (K.2.1 .long) n1 (sv L ad M1 r2 b2)))[ad r2 b2]? = some (arrV (K.2.1 .long) n1 (sv L ad M1 r2 b2)) := by simp [Array.getElem?_setIfInBounds, hlt]
  have hA : zA ad (ad r2 b2) := ⟨r2, b2, hr, rfl⟩
  obtain ⟨t, a1, b1'⟩ := kk _ _ ⟨Z.1.up2 hb2 (m1 := M1) (fun r' b' j hn => by
      subst em
      unfold sv
      split <;> try rfl
      rw [gL_sCL, if_neg (fun q => hn ⟨q.1, q.2.1⟩)]) (fun r' b' j _ => by subst em; rfl) (by unfold zAt; rw [hk2]; exact hself) (by simp) oq, ⟨by simp; exact Z.2.1.1, fun q g1 g2 => by
      rw [oq q (fun e => g2 (by rw [e]; exact hA))]
      exact Z.2.1.2.1 q g1 g2, fun q hq => by
      rcases List.mem_append.mp hq with h | h
      · exact Z.2.1.2.2 q h
      · obtain ⟨z, -, hz⟩ := List.mem_map.mp h
        rw [← hz]
        exact hA⟩, Z.2.2⟩ _ hheap X'
  exact ⟨t, step t a1, b1'⟩
/-- a new object -/
theorem z_new {C0 : String} {T : u_T} {ty0 : Nat → FieldType} {n ci index r b : Nat} (C : Cx p s m args meth c cc nL own rt) (Z : Zd K L ad M s H locs) (hk : L.1 r = .inl ci) (hc : zcl[ci]? = some (C0, T, n)) (hin : ∀ w ∈ u_ws C0 T n, w ∈ ztb) (hty : ∀ k, k < n → parseFieldDescriptor (T k).2.2.1 = some (ty0 k)) (wl : zW (.classLink own index C0)) (wi : zW (.instantiable C0 n)) (wini : zW (.initialized C0)) (hr : r < 900) (hb : b = gR M 999 r 0) (had : gR M 997 r b = gR M 998 0 0) (em : M1 = sN M r) (hfs : ∀ j, j < n → defaultValue (ty0 j) = sv L ad M1 r b j) (hlb : lc L M r = b) (hl1 : lc L M1 r = b + 1) (hl2 : ∀ r', r' ≠ r → lc L M1 r' = lc L M r') (hhi : ∀ r', 900 ≤ r' → lc L M r' = 0)
    (hcells : cells + 1 ≤ R.cells) (hslots : slots + n ≤ R.slots) (d : decode cc pc = .ok (.new index, 3))
    (kk : ∀ (H1 : Heap), Zd K L ad M1 s H1 locs → W p l e R s m args below meth c H1 locs (cells + 1) (slots + n) Q (F0 m (pc + 3) ls (.ref (ad r b) :: rest))) : W p l e R s m args below meth c H locs cells slots Q (F0 m pc ls rest) := by
  obtain ⟨z1, z2, z3, z4⟩ := Z.1
  have hKn := Z.2.2.1.1 ci _ hc
  have hsz : ad r b = H.size := by rw [← z3, had, z4]
  refine W.newcK C.x C.b C.o (C.w wl) (C.w wi) (C.w wini) rfl d hcells hslots hKn.2.1 rfl fun H1 kC hkC e1 s1 o1 => ?_
  rw [← hsz]
  have keep : ∀ r' b' j, b' < lc L M r' → sv L ad M1 r' b' j = sv L ad M r' b' j := by
    intro r' b' j hlt
    have hr' : r' < 900 := by
      rcases Nat.lt_or_ge r' 900 with q | q
      · exact q
      · rw [hhi r' q] at hlt; omega
    have hne : ¬ (r' = r ∧ b' = gR M 999 r 0) := fun q => by rw [q.1, hlb, q.2, ← hb] at hlt; omega
    have n9 : ¬ (r' = 999 ∧ b' = r ∧ (j = 0)) := fun q => by omega
    subst em
    unfold sv
    split <;> try rfl
    · rw [gI_sN, if_neg hne]
    · rw [gL_sN, if_neg hne]
    · rw [gR_sN, if_neg (fun q => by omega), if_neg (fun q => by omega), if_neg hne]
  refine kk H1 ⟨⟨fun r' b' h => ?_, fun r' b' r2 b2 h h2 he => ?_, fun r' b' => ?_, ?_⟩, ⟨Nat.le_trans Z.2.1.1 (by omega), fun q g1 g2 => (o1 q (Nat.lt_of_lt_of_le g1 Z.2.1.1)).trans (Z.2.1.2.1 q g1 g2), Z.2.1.2.2⟩, Z.2.2⟩
  · by_cases er : r' = r ∧ b' = b
    · rw [er.1, er.2]
      unfold zAt
      rw [hk]
      refine ⟨_, hc, ?_⟩
      have hborn := u_born (H := H1) (o := ad r b) ty0 C.h hin hKn hkC (by rw [hsz]; exact e1) hty
      exact hborn.to hfs
    · have hlt : b' < lc L M r' := by
        by_cases e2 : r' = r
        · subst e2
          rw [hl1] at h
          rw [hlb]
          have : b' ≠ b := fun q => er ⟨rfl, q⟩
          omega
        · rw [hl2 r' e2] at h; exact h
      exact (z1 r' b' hlt).kept (fun j => keep r' b' j hlt) (o1 _ (z1 r' b' hlt).lt)
  · have old : ∀ r' b', b' < lc L M1 r' → ¬ (r' = r ∧ b' = b) → b' < lc L M r' := by
      intro r' b' h er
      by_cases e2 : r' = r
      · subst e2
        rw [hl1] at h
        rw [hlb]
        have : b' ≠ b := fun q => er ⟨rfl, q⟩
        omega
      · rw [hl2 r' e2] at h; exact h
    by_cases ea : r' = r ∧ b' = b
    · by_cases eb : r2 = r ∧ b2 = b
      · exact ⟨ea.1.trans eb.1.symm, ea.2.trans eb.2.symm⟩
      · have hlt := (z1 r2 b2 (old r2 b2 h2 eb)).lt
        rw [ea.1, ea.2, hsz] at he
        omega
    · by_cases eb : r2 = r ∧ b2 = b
      · have hlt := (z1 r' b' (old r' b' h ea)).lt
        rw [eb.1, eb.2, hsz] at he
        omega
      · exact z2 r' b' r2 b2 (old r' b' h ea) (old r2 b2 h2 eb) he
  · rw [em, gR_sN, if_neg (fun q => by omega), if_neg (fun q => by omega), if_neg (fun q => by omega)]
    exact z3 r' b'
  · rw [s1, em, gR_sN, if_neg (fun q => by omega), if_pos ⟨rfl, rfl, rfl⟩, z4]
    omega
theorem z_obj {idx a : Nat} (C : Cx p s m args meth c cc nL own rt) (w1 : zW (.methodLink own idx objectInit)) (w2 : zW (.instanceMethod objectInit)) (w3 : zW (.code objectInit ⟨#[0xb1]⟩ 1 none)) (hl : ls.size = nL) {h : Nat} (hR : h ≤ R.frames ∧ 40 * h ≤ R.locals) (hh : 1 ≤ h) (hcat : (rest.map fun v => v.category).sum ≤ 8) (d : decode cc pc = .ok (.invokespecial idx, 3))
    (kk : W p l e R s m args below meth c H locs cells slots Q (F0 m (pc + 3) ls rest)) : W p l e R s m args below meth c H locs cells slots Q (F0 m pc ls (.ref a :: rest)) :=
  W.objInit C.x C.b C.o (C.w w1) (C.w w2) (C.w w3) (g := F0 m pc ls (.ref a :: rest)) rfl (by rw [C.1.2.2.1]; exact hl) rfl d (by omega) (by show 2 * 0 + _ + 12 ≤ _; omega) kk
theorem z_cI {y : MethodName} {bytes : ByteArray} {maxL h n idx r b : Nat} {As st0 : List Value} (C : Cx p s m args meth c cc nL own rt) (Z : Zd K L ad M s H locs) (w : MW y bytes maxL none n) (wv : zW (.instanceMethod y)) (hy : y.name = "<init>") (lk : zW (.methodLink own idx y)) (hL : maxL ≤ 20) (hR : h + 1 ≤ R.frames ∧ 40 * (h + 1) ≤ R.locals)
    (hM : Met l y (Cond.code y bytes maxL none :: ztb) (RM h 0 0) (zPc K L ad M (.ref (ad r b) :: As)) (zQ K L ad none M1) 0 0 (zA ad)) (hn : As.length = n) (hl : ls.size = nL) (hst : st0 = As.reverse ++ .ref (ad r b) :: rest) (hcat : (rest.map fun v => v.category).sum ≤ 8) (d : decode cc pc = .ok (.invokespecial idx, 3)) (hf : cells ≤ R.cells ∧ slots ≤ R.slots)
    (kk : ∀ (H1 : Heap) (locs1 : List Loc), Zd K L ad M1 s H1 locs1 → W p l e R s m args below meth c H1 locs1 cells slots Q (F0 m (pc + 3) ls rest)) : W p l e R s m args below meth c H locs cells slots Q (F0 m pc ls st0) :=
  z_calI C Z w wv hy lk hL hR hM hn hl hst hcat d hf kk
/-- a call of the text's own methods -/
theorem z_str {y : MethodName} {bytes : ByteArray} {maxL h n idx : Nat} {ret : Option FieldType} {As st0 st1 : List Value} {rv : Option Value} (C : Cx p s m args meth c cc nL own rt) (Z : Zd K L ad M s H locs) (w : MW y bytes maxL ret n) (wv : zW (.instanceMethod y) ∧ Cond.selects y.cls y y ∈ ztb) (lk : zW (.methodLink own idx y)) (hL : maxL ≤ 20) (hR : h + 1 ≤ R.frames ∧ 40 * (h + 1) ≤ R.locals)
    (hy : y.cls = "java/lang/String") (hM : Met l y (Cond.code y bytes maxL ret :: ztb) (RM h 0 0) (zPc K L ad M (.ref (kSq K) :: As)) (zQ K L ad rv M) 0 0 (zA ad)) (hn : As.length = n) (hl : ls.size = nL) (hst : st0 = As.reverse ++ .ref (kSq K) :: rest) (hcat : (rest.map fun v => v.category).sum ≤ 8) (d : decode cc pc = .ok (.invokevirtual idx, 3)) (hf : cells ≤ R.cells ∧ slots ≤ R.slots) (hs1 : rv.toList ++ rest = st1)
    (kk : ∀ (H1 : Heap) (locs1 : List Loc), Zd K L ad M s H1 locs1 → W p l e R s m args below meth c H1 locs1 cells slots Q (F0 m (pc + 3) ls st1)) : W p l e R s m args below meth c H locs cells slots Q (F0 m pc ls st0) := by
  subst hs1
  obtain ⟨cell, g1, g2, g3⟩ := vk_recv (i := 0) Z.2.2.2.2.2.2.1 (by decide) Z.2.1
  exact z_ran (y := y) Z (va_runV (As := As) (rest := rest) (C := y.cls) C.1 hM ⟨z_calB C w lk hL hR, C.w wv.1, C.h _ wv.2⟩ ⟨zPc.blind, ⟨cell, g1, g2, by rw [hy]; exact g3⟩, z_pre Z⟩ rfl hn hl hst (lv_room hcat) d hf) kk
end ZN
