/-! the memory of a system: whole numbers, longs, references (0: none, j + 1: the object j of its region), by region, object, slot; regions from 900 on are written by no code: 900, 901 hold rows of statics, 997 the addresses, 998 the size of the heap, 999 how many objects a region has -/
abbrev Mem : Type := (Nat → Nat → Nat → Int32) × (Nat → Nat → Nat → Int64) × (Nat → Nat → Nat → Nat)
def gI (m : Mem) (r b k : Nat) : Int32 := m.1 r b k
def gL (m : Mem) (r b k : Nat) : Int64 := m.2.1 r b k
def gR (m : Mem) (r b k : Nat) : Nat := m.2.2 r b k
def sI (m : Mem) (r b k : Nat) (v : Int32) : Mem := (fun r' b' k' => if r' = r ∧ b' = b ∧ k' = k then v else m.1 r' b' k', m.2.1, m.2.2)
def sL (m : Mem) (r b k : Nat) (v : Int64) : Mem := (m.1, fun r' b' k' => if r' = r ∧ b' = b ∧ k' = k then v else m.2.1 r' b' k', m.2.2)
def sR (m : Mem) (r b k : Nat) (v : Nat) : Mem := (m.1, m.2.1, fun r' b' k' => if r' = r ∧ b' = b ∧ k' = k then v else m.2.2 r' b' k')
/-- a new object of a region -/
def sN (m : Mem) (r : Nat) : Mem := (fun r' b' k' => if r' = r ∧ b' = m.2.2 999 r 0 then 0 else m.1 r' b' k', fun r' b' k' => if r' = r ∧ b' = m.2.2 999 r 0 then 0 else m.2.1 r' b' k', fun r' b' k' => if r' = 999 ∧ b' = r ∧ k' = 0 then m.2.2 999 r 0 + 1 else if r' = 998 ∧ b' = 0 ∧ k' = 0 then m.2.2 998 0 0 + 1 else if r' = r ∧ b' = m.2.2 999 r 0 then 0 else m.2.2 r' b' k')
theorem gI_sI (m : Mem) (r b k : Nat) (v : Int32) (r' b' k' : Nat) : gI (sI m r b k v) r' b' k' = if r' = r ∧ b' = b ∧ k' = k then v else gI m r' b' k' := rfl
theorem gL_sI (m : Mem) (r b k : Nat) (v : Int32) (r' b' k' : Nat) : gL (sI m r b k v) r' b' k' = gL m r' b' k' := rfl
theorem gR_sI (m : Mem) (r b k : Nat) (v : Int32) (r' b' k' : Nat) : gR (sI m r b k v) r' b' k' = gR m r' b' k' := rfl
theorem gL_sL (m : Mem) (r b k : Nat) (v : Int64) (r' b' k' : Nat) : gL (sL m r b k v) r' b' k' = if r' = r ∧ b' = b ∧ k' = k then v else gL m r' b' k' := rfl
theorem gI_sL (m : Mem) (r b k : Nat) (v : Int64) (r' b' k' : Nat) : gI (sL m r b k v) r' b' k' = gI m r' b' k' := rfl
theorem gR_sL (m : Mem) (r b k : Nat) (v : Int64) (r' b' k' : Nat) : gR (sL m r b k v) r' b' k' = gR m r' b' k' := rfl
theorem gR_sR (m : Mem) (r b k : Nat) (v : Nat) (r' b' k' : Nat) : gR (sR m r b k v) r' b' k' = if r' = r ∧ b' = b ∧ k' = k then v else gR m r' b' k' := rfl
theorem gI_sR (m : Mem) (r b k : Nat) (v : Nat) (r' b' k' : Nat) : gI (sR m r b k v) r' b' k' = gI m r' b' k' := rfl
theorem gL_sR (m : Mem) (r b k : Nat) (v : Nat) (r' b' k' : Nat) : gL (sR m r b k v) r' b' k' = gL m r' b' k' := rfl
theorem gI_sN (m : Mem) (r r' b' k' : Nat) : gI (sN m r) r' b' k' = if r' = r ∧ b' = gR m 999 r 0 then 0 else gI m r' b' k' := rfl
theorem gL_sN (m : Mem) (r r' b' k' : Nat) : gL (sN m r) r' b' k' = if r' = r ∧ b' = gR m 999 r 0 then 0 else gL m r' b' k' := rfl
theorem gR_sN (m : Mem) (r r' b' k' : Nat) : gR (sN m r) r' b' k' = if r' = 999 ∧ b' = r ∧ k' = 0 then gR m 999 r 0 + 1 else if r' = 998 ∧ b' = 0 ∧ k' = 0 then gR m 998 0 0 + 1 else if r' = r ∧ b' = gR m 999 r 0 then 0 else gR m r' b' k' := rfl
/-! how the functions that follow the code are written -/
def asr {β : Type} (c : Prop) [Decidable c] (k : Option β) : Option β := if c then k else none
def bn2 {α β : Type} (x : Option (α × Mem)) (k : α → Mem → Option β) : Option β := match x with
  | none => none
  | some q => k q.1 q.2
def bn1 {β : Type} (x : Option Mem) (k : Mem → Option β) : Option β := match x with
  | none => none
  | some q => k q
def lt1 {α β : Type} (a : α) (k : α → Option β) : Option β := k a
def drf {β : Type} (n c : Nat) (k : Nat → Option β) : Option β := match c with
  | 0 => none
  | j + 1 => if j < n then k j else none
theorem asr_s {β : Type} {c : Prop} [Decidable c] {k : Option β} {r : β} (h : asr c k = some r) : c ∧ k = some r := by
  unfold asr at h
  by_cases hc : c
  · rw [if_pos hc] at h; exact ⟨hc, h⟩
  · rw [if_neg hc] at h; cases h
theorem bn2_s {α β : Type} {x : Option (α × Mem)} {k : α → Mem → Option β} {r : β} (h : bn2 x k = some r) : ∃ a m, x = some (a, m) ∧ k a m = some r := by
  unfold bn2 at h
  match x, h with
  | some (a, m), h => exact ⟨a, m, rfl, h⟩
theorem bn1_s {β : Type} {x : Option Mem} {k : Mem → Option β} {r : β} (h : bn1 x k = some r) : ∃ m, x = some m ∧ k m = some r := by
  unfold bn1 at h
  match x, h with
  | some m, h => exact ⟨m, rfl, h⟩
theorem lt1_s {α β : Type} {a : α} {k : α → Option β} {r : β} (h : lt1 a k = some r) : ∃ x, x = a ∧ k x = some r := ⟨a, rfl, h⟩
theorem drf_s {β : Type} {n c : Nat} {k : Nat → Option β} {r : β} (h : drf n c k = some r) : ∃ j, c = j + 1 ∧ j < n ∧ k j = some r := by
  unfold drf at h
  match c, h with
  | j + 1, h =>
    by_cases hj : j < n
    · exact ⟨j, rfl, hj, by simpa [hj] using h⟩
    · simp [hj] at h
def rf (f : Nat → Nat) (c : Nat) : Value := match c with
  | 0 => .null
  | j + 1 => .ref (f j)
theorem rf_cat (f : Nat → Nat) (c : Nat) : (rf f c).category = 1 := by cases c <;> rfl
/-! the world: which cell an object of a region is, what its slots hold -/
abbrev Lay : Type := (Nat → Nat ⊕ (FieldType × Nat)) × (Nat → Nat → Nat × Nat) × ((Nat → Nat) → Nat → Nat)
abbrev KG : Type := va_G × (FieldType → ClassId) × (Nat × Nat × Nat × Nat × Value × Nat)
def kWo (K : KG) : Nat := K.2.2.1
def kSt (K : KG) : Nat := K.2.2.2.1
def kSq (K : KG) : Nat := K.2.2.2.2.1
def kSv (K : KG) : Nat := K.2.2.2.2.2.1
def kSi (K : KG) : Value := K.2.2.2.2.2.2.1
def kB (K : KG) : Nat := K.2.2.2.2.2.2.2
def tWo (j : Nat) : Int32 := ([0, 10, 3, 2] : List Int32).getD j 0
def tSt (j : Nat) : Int32 := ([0, 5, 9, 14, 19, 23, 27] : List Int32).getD j 0
def lSp : List Int32 := [112, 97, 99, 107, 32, 112, 97, 121, 32, 108, 111, 97, 100, 32, 115, 110, 111, 119, 32, 99, 117, 116, 32, 98, 97, 114, 32]
def tSp (j : Nat) : Int32 := lSp.getD j 0
def sv (L : Lay) (ad : Nat → Nat → Nat) (m : Mem) (r b k : Nat) : Value := match (L.2.1 r k).1 with
  | 0 => .int (gI m r b k)
  | 1 => .long (gL m r b k)
  | 2 => rf (ad (L.2.1 r k).2) (gR m r b k)
  | 3 => .ref (ad (L.2.1 r k).2 b)
  | _ => .ref (ad (L.2.1 r k).2 k)
def lc (L : Lay) (m : Mem) (r : Nat) : Nat := L.2.2 (fun q => gR m 999 q 0) r
def zAt (K : KG) (L : Lay) (ad : Nat → Nat → Nat) (m : Mem) (r b : Nat) (H : Heap) : Prop := match L.1 r with
  | .inl ci => ∃ q : vw_C, zcl[ci]? = some q ∧ t_OB (ad r b) (K.1.1 ci) q.2.2 (K.1.2 ci) H (sv L ad m r b)
  | .inr a => H[ad r b]? = some (arrV (K.2.1 a.1) a.2 (sv L ad m r b))
def Zw (K : KG) (L : Lay) (ad : Nat → Nat → Nat) (m : Mem) (H : Heap) : Prop := (∀ r b, b < lc L m r → zAt K L ad m r b H) ∧ (∀ r b r' b', b < lc L m r → b' < lc L m r' → ad r b = ad r' b' → r = r' ∧ b = b') ∧ (∀ r b, kB K + gR m 997 r b = ad r b) ∧ H.size = kB K + gR m 998 0 0
def zA (ad : Nat → Nat → Nat) : Nat → Prop := fun q => ∃ r b, r < 900 ∧ q = ad r b
def ztys : List FieldType := [.int, .long, .boolean, .object RX4, .object RX1, .object RX9, .object RX2, .object RX8]
def KK (K : KG) (U : State) : Prop := va_K K.1 zcl (ztys.map fun t => (K.2.1 t, t)) U
theorem KK.moved {K : KG} {u U : State} (hvm : u.vm.Alike U.vm) (h : KK K u) : KK K U := va_K.moved hvm h
/-- the statics: two rows of whole numbers, the text of the words, what the text's own code reads -/
def ZS (K : KG) (ad : Nat → Nat → Nat) (U : State) (H : Heap) : Prop :=
  (va_Z "GlassPalace$Laws" "WITHOUT" "[I" (.ref (kWo K)) (zA ad) U H ∧ va_T .int (kWo K) 4 (fun j => .int (tWo j)) (zA ad) U H) ∧ (va_Z "GlassPalace$Script" "STARTS" "[I" (.ref (kSt K)) (zA ad) U H ∧ va_T .int (kSt K) 7 (fun j => .int (tSt j)) (zA ad) U H) ∧
  vk_R "GlassPalace$Script" 74 "pack pay load snow cut bar " (kSq K) U ∧ vk_S 1 [27] [lSp] (fun _ => kSq K) (fun _ => kSv K) (zA ad) U H ∧ va_Z "java/lang/String" "COMPACT_STRINGS" "Z" (.int 1) (zA ad) U H ∧ va_Z "jdk/internal/util/Preconditions" "SIOOBE_FORMATTER" "Ljava/util/function/BiFunction;" (kSi K) (zA ad) U H ∧ (kSi K = .null ∨ ∃ t, kSi K = .ref t)
theorem ZS.go {K : KG} {ad : Nat → Nat → Nat} {u U : State} {H H1 : Heap} (h : ZS K ad u H) (hvm : u.vm.Alike U.vm) (hR : vk_R "GlassPalace$Script" 74 "pack pay load snow cut bar " (kSq K) u → vk_R "GlassPalace$Script" 74 "pack pay load snow cut bar " (kSq K) U) (hq : ∀ a : Nat, a < H.size → ¬ zA ad a → H1[a]? = H[a]?) : ZS K ad U H1 := by
  obtain ⟨⟨h1, h2⟩, ⟨h3, h4⟩, h5, h6, h7, h8, h9⟩ := h
  exact ⟨⟨(h1.moved hvm).kept hq, (h2.moved hvm).kept hq⟩, ⟨(h3.moved hvm).kept hq, (h4.moved hvm).kept hq⟩, hR h5, (h6.moved hvm).kept hq, (h7.moved hvm).kept hq, (h8.moved hvm).kept hq, h9⟩
def Zd (K : KG) (L : Lay) (ad : Nat → Nat → Nat) (m : Mem) (s : State) (H : Heap) (locs : List Loc) : Prop := Zw K L ad m H ∧ va_S (zA ad) s.heap H locs ∧ KK K s ∧ ZS K ad s s.heap
theorem zAt.kept {K : KG} {L : Lay} {ad : Nat → Nat → Nat} {m m1 : Mem} {r b : Nat} {H H1 : Heap} (h : zAt K L ad m r b H) (hv : ∀ k, sv L ad m1 r b k = sv L ad m r b k) (hq : H1[ad r b]? = H[ad r b]?) : zAt K L ad m1 r b H1 := by
  have hf : sv L ad m1 r b = sv L ad m r b := funext hv
  unfold zAt at h ⊢
  split
  · rename_i ci he
    rw [he] at h
    obtain ⟨q, h1, h2⟩ := h
    exact ⟨q, h1, by rw [hf]; exact h2.kept hq⟩
  · rename_i a he
    rw [he] at h
    rw [hf, hq]
    exact h
theorem zAt.lt {K : KG} {L : Lay} {ad : Nat → Nat → Nat} {m : Mem} {r b : Nat} {H : Heap} (h : zAt K L ad m r b H) : ad r b < H.size := by
  unfold zAt at h
  split at h
  · obtain ⟨q, h1, cell, h2, -⟩ := h
    exact (Array.getElem?_eq_some_iff.mp h2).1
  · exact (Array.getElem?_eq_some_iff.mp h).1
/-- a write into one slot -/
def zUp (L : Lay) (ad : Nat → Nat → Nat) (m m1 : Mem) (r b k : Nat) (v : Value) : Prop := (∀ r' b' j, ¬ (r' = r ∧ b' = b) → sv L ad m1 r' b' j = sv L ad m r' b' j) ∧ (∀ j, sv L ad m1 r b j = if j = k then v else sv L ad m r b j) ∧ ∀ r' b' j, 900 ≤ r' → gR m1 r' b' j = gR m r' b' j
theorem zUp_I {L : Lay} {ad : Nat → Nat → Nat} {m m1 : Mem} {r b k : Nat} {v : Int32} (em : m1 = sI m r b k v) (ht : (L.2.1 r k).1 = 0) : zUp L ad m m1 r b k (.int v) := by
  subst em
  refine ⟨fun r' b' j h => ?_, fun j => ?_, fun _ _ _ _ => rfl⟩
  · unfold sv
    split <;> try rfl
    rw [gI_sI, if_neg (fun q => h ⟨q.1, q.2.1⟩)]
  · by_cases hj : j = k
    · subst hj
      rw [if_pos rfl]
      unfold sv
      rw [ht]
      simp only [gI_sI, and_self, if_true]
    · rw [if_neg hj]
      unfold sv
      split <;> try rfl
      rw [gI_sI, if_neg (fun q => hj q.2.2)]
theorem zUp_L {L : Lay} {ad : Nat → Nat → Nat} {m m1 : Mem} {r b k : Nat} {v : Int64} (em : m1 = sL m r b k v) (ht : (L.2.1 r k).1 = 1) : zUp L ad m m1 r b k (.long v) := by
  subst em
  refine ⟨fun r' b' j h => ?_, fun j => ?_, fun _ _ _ _ => rfl⟩
  · unfold sv
    split <;> try rfl
    rw [gL_sL, if_neg (fun q => h ⟨q.1, q.2.1⟩)]
  · by_cases hj : j = k
    · subst hj
      rw [if_pos rfl]
      unfold sv
      rw [ht]
      simp only [gL_sL, and_self, if_true]
    · rw [if_neg hj]
      unfold sv
      split <;> try rfl
      rw [gL_sL, if_neg (fun q => hj q.2.2)]
theorem zUp_R {L : Lay} {ad : Nat → Nat → Nat} {m m1 : Mem} {r b k : Nat} {v : Nat} (em : m1 = sR m r b k v) (hr : r < 900) {t : Nat} (ht : L.2.1 r k = (2, t)) : zUp L ad m m1 r b k (rf (ad t) v) := by
  subst em
  refine ⟨fun r' b' j h => ?_, fun j => ?_, fun r' b' j h => ?_⟩
  · unfold sv
    split <;> try rfl
    rw [gR_sR, if_neg (fun q => h ⟨q.1, q.2.1⟩)]
  · by_cases hj : j = k
    · subst hj
      rw [if_pos rfl]
      unfold sv
      rw [ht]
      simp only [gR_sR, and_self, if_true]
    · rw [if_neg hj]
      unfold sv
      split <;> try rfl
      rw [gR_sR, if_neg (fun q => hj q.2.2)]
  · rw [gR_sR, if_neg (fun q => by omega)]
theorem lc_eq {L : Lay} {m m1 : Mem} (h : ∀ r' b' j, 900 ≤ r' → gR m1 r' b' j = gR m r' b' j) (r : Nat) : lc L m1 r = lc L m r := by
  have e : (fun q => gR m1 999 q 0) = fun q => gR m 999 q 0 := funext fun q => h _ _ _ (by decide)
  unfold lc
  rw [e]
theorem Zw.up {K : KG} {L : Lay} {ad : Nat → Nat → Nat} {m m1 : Mem} {r b k : Nat} {v : Value} {H H1 : Heap} (Z : Zw K L ad m H) (hb : b < lc L m r) (hu : zUp L ad m m1 r b k v) (hc : zAt K L ad m1 r b H1) (hz : H1.size = H.size) (hq : ∀ q, q ≠ ad r b → H1[q]? = H[q]?) : Zw K L ad m1 H1 := by
  obtain ⟨z1, z2, z3, z4⟩ := Z
  obtain ⟨u1, u2, u3⟩ := hu
  have hl := lc_eq (L := L) u3
  refine ⟨fun r' b' h => ?_, fun r' b' r2 b2 h h2 => ?_, fun r' b' => ?_, ?_⟩
  · rw [hl] at h
    by_cases e : r' = r ∧ b' = b
    · rw [e.1, e.2]; exact hc
    · exact (z1 r' b' h).kept (fun j => u1 r' b' j e) (hq _ (fun q => e (z2 r' b' r b h hb q)))
  · rw [hl] at h h2
    exact z2 r' b' r2 b2 h h2
  · rw [u3 _ _ _ (by decide)]; exact z3 r' b'
  · rw [hz, u3 _ _ _ (by decide)]; exact z4
