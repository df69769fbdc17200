def kindsC : List (Nat ⊕ (FieldType × Nat)) := [.inl 11, .inr (.int, 8), .inr (.int, 8), .inr (.object RX4, 60), .inr (.object RX1, 30), .inl 7, .inl 3, .inl 10, .inr (.object RX2, 10), .inl 6, .inl 5, .inl 0, .inr (.object RX8, 6), .inl 1, .inr (.object RX4, 6), .inr (.object RX4, 24), .inr (.int, 100), .inr (.object RX9, 10), .inr (.int, 6), .inl 9, .inr (.int, 8), .inr (.int, 8), .inr (.int, 100), .inl 4, .inl 2, .inr (.int, 24), .inr (.int, 30), .inr (.int, 30), .inr (.int, 30), .inr (.int, 30), .inr (.int, 20), .inr (.int, 20), .inr (.int, 20), .inr (.int, 20), .inr (.int, 8), .inr (.int, 8), .inr (.int, 8), .inr (.int, 8), .inr (.int, 8), .inr (.int, 8), .inr (.int, 8), .inr (.int, 20), .inl 8, .inr (.long, 60)]
def slotsC : List (List (Nat × Nat) ⊕ (Nat × Nat)) := [.inl [(0, 0), (3, 1), (3, 2), (3, 3), (0, 0), (3, 4), (3, 5), (3, 6), (3, 7), (3, 8), (0, 0), (3, 9), (3, 10), (3, 11), (3, 12)], .inr (0, 0), .inr (0, 0), .inr (2, 23), .inr (4, 13), .inl [(0, 0), (3, 16), (0, 0), (0, 0)], .inl [(0, 0), (3, 17), (3, 18)], .inl [(3, 25), (3, 26), (3, 27), (3, 28), (3, 29)], .inr (2, 24), .inl [(0, 0), (0, 0), (3, 30), (3, 31), (3, 32), (3, 33), (3, 34), (3, 35), (3, 36), (3, 37)], .inl [(3, 38), (3, 39), (3, 40)], .inl [(0, 0), (3, 41)], .inr (4, 42), .inl [(0, 0), (0, 0), (0, 0), (0, 0), (0, 0), (0, 0), (3, 14), (3, 15)], .inr (2, 23), .inr (2, 23), .inr (0, 0), .inr (4, 19), .inr (0, 0), .inl [(0, 0), (0, 0), (0, 0), (3, 20), (3, 21), (3, 22)], .inr (0, 0), .inr (0, 0), .inr (0, 0), .inl [(0, 0), (0, 0), (0, 0), (0, 0), (0, 0), (0, 0), (0, 0), (0, 0), (0, 0), (0, 0), (0, 0)], .inl [(0, 0), (0, 0), (0, 0), (0, 0), (0, 0)], .inr (0, 0), .inr (0, 0), .inr (0, 0), .inr (0, 0), .inr (0, 0), .inr (0, 0), .inr (0, 0), .inr (0, 0), .inr (0, 0), .inr (0, 0), .inr (0, 0), .inr (0, 0), .inr (0, 0), .inr (0, 0), .inr (0, 0), .inr (0, 0), .inr (0, 0), .inl [(0, 0), (3, 43), (0, 0)], .inr (1, 0)]
def cnC (g : Nat → Nat) (r : Nat) : Nat := ([1, 1, 1, 1, 1, 1, 1, 1, 1, 1, 1, 1, 1, 30, 30, 30, 1, 1, 1, 10, 10, 10, 10, g 23, g 24, 1, 1, 1, 1, 1, 1, 1, 1, 1, 1, 1, 1, 1, 1, 1, 1, 1, 6, 6] : List Nat).getD r 0
def LC : Lay := (fun r => kindsC.getD r (.inl 99), fun r k => (match slotsC.getD r (.inr (0, 0)) with | .inl l => l.getD k (0, 0) | .inr t => t), cnC)
theorem kC0 : LC.1 0 = .inl 11 := rfl
theorem lvC0 {m : Mem} {b : Nat} (h : b < 1) : b < lc LC m 0 := h
theorem svC0_0 {ad : Nat → Nat → Nat} {m : Mem} {b : Nat} : sv LC ad m 0 b 0 = .int (gI m 0 b 0) := rfl
theorem stC0_0 : LC.2.1 0 0 = (0, 0) := rfl
theorem stC0_0u : (LC.2.1 0 0).1 = 0 := rfl
theorem svC0_1 {ad : Nat → Nat → Nat} {m : Mem} {b : Nat} : sv LC ad m 0 b 1 = .ref (ad 1 b) := rfl
theorem stC0_1 : LC.2.1 0 1 = (3, 1) := rfl
theorem stC0_1u : (LC.2.1 0 1).1 = 3 := rfl
theorem svC0_2 {ad : Nat → Nat → Nat} {m : Mem} {b : Nat} : sv LC ad m 0 b 2 = .ref (ad 2 b) := rfl
theorem stC0_2 : LC.2.1 0 2 = (3, 2) := rfl
theorem stC0_2u : (LC.2.1 0 2).1 = 3 := rfl
theorem svC0_3 {ad : Nat → Nat → Nat} {m : Mem} {b : Nat} : sv LC ad m 0 b 3 = .ref (ad 3 b) := rfl
theorem stC0_3 : LC.2.1 0 3 = (3, 3) := rfl
theorem stC0_3u : (LC.2.1 0 3).1 = 3 := rfl
theorem svC0_4 {ad : Nat → Nat → Nat} {m : Mem} {b : Nat} : sv LC ad m 0 b 4 = .int (gI m 0 b 4) := rfl
theorem stC0_4 : LC.2.1 0 4 = (0, 0) := rfl
theorem stC0_4u : (LC.2.1 0 4).1 = 0 := rfl
theorem svC0_5 {ad : Nat → Nat → Nat} {m : Mem} {b : Nat} : sv LC ad m 0 b 5 = .ref (ad 4 b) := rfl
theorem stC0_5 : LC.2.1 0 5 = (3, 4) := rfl
theorem stC0_5u : (LC.2.1 0 5).1 = 3 := rfl
theorem svC0_6 {ad : Nat → Nat → Nat} {m : Mem} {b : Nat} : sv LC ad m 0 b 6 = .ref (ad 5 b) := rfl
theorem stC0_6 : LC.2.1 0 6 = (3, 5) := rfl
theorem stC0_6u : (LC.2.1 0 6).1 = 3 := rfl
theorem svC0_7 {ad : Nat → Nat → Nat} {m : Mem} {b : Nat} : sv LC ad m 0 b 7 = .ref (ad 6 b) := rfl
theorem stC0_7 : LC.2.1 0 7 = (3, 6) := rfl
theorem stC0_7u : (LC.2.1 0 7).1 = 3 := rfl
theorem svC0_8 {ad : Nat → Nat → Nat} {m : Mem} {b : Nat} : sv LC ad m 0 b 8 = .ref (ad 7 b) := rfl
theorem stC0_8 : LC.2.1 0 8 = (3, 7) := rfl
theorem stC0_8u : (LC.2.1 0 8).1 = 3 := rfl
theorem svC0_9 {ad : Nat → Nat → Nat} {m : Mem} {b : Nat} : sv LC ad m 0 b 9 = .ref (ad 8 b) := rfl
theorem stC0_9 : LC.2.1 0 9 = (3, 8) := rfl
theorem stC0_9u : (LC.2.1 0 9).1 = 3 := rfl
theorem svC0_10 {ad : Nat → Nat → Nat} {m : Mem} {b : Nat} : sv LC ad m 0 b 10 = .int (gI m 0 b 10) := rfl
theorem stC0_10 : LC.2.1 0 10 = (0, 0) := rfl
theorem stC0_10u : (LC.2.1 0 10).1 = 0 := rfl
theorem svC0_11 {ad : Nat → Nat → Nat} {m : Mem} {b : Nat} : sv LC ad m 0 b 11 = .ref (ad 9 b) := rfl
theorem stC0_11 : LC.2.1 0 11 = (3, 9) := rfl
theorem stC0_11u : (LC.2.1 0 11).1 = 3 := rfl
theorem svC0_12 {ad : Nat → Nat → Nat} {m : Mem} {b : Nat} : sv LC ad m 0 b 12 = .ref (ad 10 b) := rfl
theorem stC0_12 : LC.2.1 0 12 = (3, 10) := rfl
theorem stC0_12u : (LC.2.1 0 12).1 = 3 := rfl
theorem svC0_13 {ad : Nat → Nat → Nat} {m : Mem} {b : Nat} : sv LC ad m 0 b 13 = .ref (ad 11 b) := rfl
theorem stC0_13 : LC.2.1 0 13 = (3, 11) := rfl
theorem stC0_13u : (LC.2.1 0 13).1 = 3 := rfl
theorem svC0_14 {ad : Nat → Nat → Nat} {m : Mem} {b : Nat} : sv LC ad m 0 b 14 = .ref (ad 12 b) := rfl
theorem stC0_14 : LC.2.1 0 14 = (3, 12) := rfl
theorem stC0_14u : (LC.2.1 0 14).1 = 3 := rfl
theorem kC1 : LC.1 1 = .inr (.int, 8) := rfl
theorem lvC1 {m : Mem} {b : Nat} (h : b < 1) : b < lc LC m 1 := h
theorem svC1 {ad : Nat → Nat → Nat} {m : Mem} {b k : Nat} : sv LC ad m 1 b k = .int (gI m 1 b k) := rfl
theorem stC1 {k : Nat} : LC.2.1 1 k = (0, 0) := rfl
theorem stC1u {k : Nat} : (LC.2.1 1 k).1 = 0 := rfl
theorem kC2 : LC.1 2 = .inr (.int, 8) := rfl
theorem lvC2 {m : Mem} {b : Nat} (h : b < 1) : b < lc LC m 2 := h
theorem svC2 {ad : Nat → Nat → Nat} {m : Mem} {b k : Nat} : sv LC ad m 2 b k = .int (gI m 2 b k) := rfl
theorem stC2 {k : Nat} : LC.2.1 2 k = (0, 0) := rfl
theorem stC2u {k : Nat} : (LC.2.1 2 k).1 = 0 := rfl
theorem kC3 : LC.1 3 = .inr (.object RX4, 60) := rfl
theorem lvC3 {m : Mem} {b : Nat} (h : b < 1) : b < lc LC m 3 := h
theorem svC3 {ad : Nat → Nat → Nat} {m : Mem} {b k : Nat} : sv LC ad m 3 b k = rf (ad 23) (gR m 3 b k) := rfl
theorem stC3 {k : Nat} : LC.2.1 3 k = (2, 23) := rfl
theorem stC3u {k : Nat} : (LC.2.1 3 k).1 = 2 := rfl
theorem kC4 : LC.1 4 = .inr (.object RX1, 30) := rfl
theorem lvC4 {m : Mem} {b : Nat} (h : b < 1) : b < lc LC m 4 := h
theorem svC4 {ad : Nat → Nat → Nat} {m : Mem} {b k : Nat} : sv LC ad m 4 b k = .ref (ad 13 k) := rfl
theorem stC4 {k : Nat} : LC.2.1 4 k = (4, 13) := rfl
theorem stC4u {k : Nat} : (LC.2.1 4 k).1 = 4 := rfl
theorem kC5 : LC.1 5 = .inl 7 := rfl
theorem lvC5 {m : Mem} {b : Nat} (h : b < 1) : b < lc LC m 5 := h
theorem svC5_0 {ad : Nat → Nat → Nat} {m : Mem} {b : Nat} : sv LC ad m 5 b 0 = .int (gI m 5 b 0) := rfl
theorem stC5_0 : LC.2.1 5 0 = (0, 0) := rfl
theorem stC5_0u : (LC.2.1 5 0).1 = 0 := rfl
theorem svC5_1 {ad : Nat → Nat → Nat} {m : Mem} {b : Nat} : sv LC ad m 5 b 1 = .ref (ad 16 b) := rfl
theorem stC5_1 : LC.2.1 5 1 = (3, 16) := rfl
theorem stC5_1u : (LC.2.1 5 1).1 = 3 := rfl
theorem svC5_2 {ad : Nat → Nat → Nat} {m : Mem} {b : Nat} : sv LC ad m 5 b 2 = .int (gI m 5 b 2) := rfl
theorem stC5_2 : LC.2.1 5 2 = (0, 0) := rfl
theorem stC5_2u : (LC.2.1 5 2).1 = 0 := rfl
theorem svC5_3 {ad : Nat → Nat → Nat} {m : Mem} {b : Nat} : sv LC ad m 5 b 3 = .int (gI m 5 b 3) := rfl
theorem stC5_3 : LC.2.1 5 3 = (0, 0) := rfl
theorem stC5_3u : (LC.2.1 5 3).1 = 0 := rfl
theorem kC6 : LC.1 6 = .inl 3 := rfl
theorem lvC6 {m : Mem} {b : Nat} (h : b < 1) : b < lc LC m 6 := h
theorem svC6_0 {ad : Nat → Nat → Nat} {m : Mem} {b : Nat} : sv LC ad m 6 b 0 = .int (gI m 6 b 0) := rfl
theorem stC6_0 : LC.2.1 6 0 = (0, 0) := rfl
theorem stC6_0u : (LC.2.1 6 0).1 = 0 := rfl
theorem svC6_1 {ad : Nat → Nat → Nat} {m : Mem} {b : Nat} : sv LC ad m 6 b 1 = .ref (ad 17 b) := rfl
theorem stC6_1 : LC.2.1 6 1 = (3, 17) := rfl
theorem stC6_1u : (LC.2.1 6 1).1 = 3 := rfl
theorem svC6_2 {ad : Nat → Nat → Nat} {m : Mem} {b : Nat} : sv LC ad m 6 b 2 = .ref (ad 18 b) := rfl
theorem stC6_2 : LC.2.1 6 2 = (3, 18) := rfl
theorem stC6_2u : (LC.2.1 6 2).1 = 3 := rfl
theorem kC7 : LC.1 7 = .inl 10 := rfl
theorem lvC7 {m : Mem} {b : Nat} (h : b < 1) : b < lc LC m 7 := h
theorem svC7_0 {ad : Nat → Nat → Nat} {m : Mem} {b : Nat} : sv LC ad m 7 b 0 = .ref (ad 25 b) := rfl
theorem stC7_0 : LC.2.1 7 0 = (3, 25) := rfl
theorem stC7_0u : (LC.2.1 7 0).1 = 3 := rfl
theorem svC7_1 {ad : Nat → Nat → Nat} {m : Mem} {b : Nat} : sv LC ad m 7 b 1 = .ref (ad 26 b) := rfl
theorem stC7_1 : LC.2.1 7 1 = (3, 26) := rfl
theorem stC7_1u : (LC.2.1 7 1).1 = 3 := rfl
theorem svC7_2 {ad : Nat → Nat → Nat} {m : Mem} {b : Nat} : sv LC ad m 7 b 2 = .ref (ad 27 b) := rfl
theorem stC7_2 : LC.2.1 7 2 = (3, 27) := rfl
theorem stC7_2u : (LC.2.1 7 2).1 = 3 := rfl
theorem svC7_3 {ad : Nat → Nat → Nat} {m : Mem} {b : Nat} : sv LC ad m 7 b 3 = .ref (ad 28 b) := rfl
theorem stC7_3 : LC.2.1 7 3 = (3, 28) := rfl
theorem stC7_3u : (LC.2.1 7 3).1 = 3 := rfl
theorem svC7_4 {ad : Nat → Nat → Nat} {m : Mem} {b : Nat} : sv LC ad m 7 b 4 = .ref (ad 29 b) := rfl
theorem stC7_4 : LC.2.1 7 4 = (3, 29) := rfl
theorem stC7_4u : (LC.2.1 7 4).1 = 3 := rfl
theorem kC8 : LC.1 8 = .inr (.object RX2, 10) := rfl
theorem lvC8 {m : Mem} {b : Nat} (h : b < 1) : b < lc LC m 8 := h
theorem svC8 {ad : Nat → Nat → Nat} {m : Mem} {b k : Nat} : sv LC ad m 8 b k = rf (ad 24) (gR m 8 b k) := rfl
theorem stC8 {k : Nat} : LC.2.1 8 k = (2, 24) := rfl
theorem stC8u {k : Nat} : (LC.2.1 8 k).1 = 2 := rfl
theorem kC9 : LC.1 9 = .inl 6 := rfl
theorem lvC9 {m : Mem} {b : Nat} (h : b < 1) : b < lc LC m 9 := h
theorem svC9_0 {ad : Nat → Nat → Nat} {m : Mem} {b : Nat} : sv LC ad m 9 b 0 = .int (gI m 9 b 0) := rfl
theorem stC9_0 : LC.2.1 9 0 = (0, 0) := rfl
theorem stC9_0u : (LC.2.1 9 0).1 = 0 := rfl
theorem svC9_1 {ad : Nat → Nat → Nat} {m : Mem} {b : Nat} : sv LC ad m 9 b 1 = .int (gI m 9 b 1) := rfl
theorem stC9_1 : LC.2.1 9 1 = (0, 0) := rfl
theorem stC9_1u : (LC.2.1 9 1).1 = 0 := rfl
theorem svC9_2 {ad : Nat → Nat → Nat} {m : Mem} {b : Nat} : sv LC ad m 9 b 2 = .ref (ad 30 b) := rfl
theorem stC9_2 : LC.2.1 9 2 = (3, 30) := rfl
theorem stC9_2u : (LC.2.1 9 2).1 = 3 := rfl
theorem svC9_3 {ad : Nat → Nat → Nat} {m : Mem} {b : Nat} : sv LC ad m 9 b 3 = .ref (ad 31 b) := rfl
theorem stC9_3 : LC.2.1 9 3 = (3, 31) := rfl
theorem stC9_3u : (LC.2.1 9 3).1 = 3 := rfl
theorem svC9_4 {ad : Nat → Nat → Nat} {m : Mem} {b : Nat} : sv LC ad m 9 b 4 = .ref (ad 32 b) := rfl
theorem stC9_4 : LC.2.1 9 4 = (3, 32) := rfl
theorem stC9_4u : (LC.2.1 9 4).1 = 3 := rfl
theorem svC9_5 {ad : Nat → Nat → Nat} {m : Mem} {b : Nat} : sv LC ad m 9 b 5 = .ref (ad 33 b) := rfl
theorem stC9_5 : LC.2.1 9 5 = (3, 33) := rfl
theorem stC9_5u : (LC.2.1 9 5).1 = 3 := rfl
theorem svC9_6 {ad : Nat → Nat → Nat} {m : Mem} {b : Nat} : sv LC ad m 9 b 6 = .ref (ad 34 b) := rfl
theorem stC9_6 : LC.2.1 9 6 = (3, 34) := rfl
theorem stC9_6u : (LC.2.1 9 6).1 = 3 := rfl
theorem svC9_7 {ad : Nat → Nat → Nat} {m : Mem} {b : Nat} : sv LC ad m 9 b 7 = .ref (ad 35 b) := rfl
theorem stC9_7 : LC.2.1 9 7 = (3, 35) := rfl
theorem stC9_7u : (LC.2.1 9 7).1 = 3 := rfl
theorem svC9_8 {ad : Nat → Nat → Nat} {m : Mem} {b : Nat} : sv LC ad m 9 b 8 = .ref (ad 36 b) := rfl
theorem stC9_8 : LC.2.1 9 8 = (3, 36) := rfl
theorem stC9_8u : (LC.2.1 9 8).1 = 3 := rfl
theorem svC9_9 {ad : Nat → Nat → Nat} {m : Mem} {b : Nat} : sv LC ad m 9 b 9 = .ref (ad 37 b) := rfl
theorem stC9_9 : LC.2.1 9 9 = (3, 37) := rfl
theorem stC9_9u : (LC.2.1 9 9).1 = 3 := rfl
theorem kC10 : LC.1 10 = .inl 5 := rfl
theorem lvC10 {m : Mem} {b : Nat} (h : b < 1) : b < lc LC m 10 := h
theorem svC10_0 {ad : Nat → Nat → Nat} {m : Mem} {b : Nat} : sv LC ad m 10 b 0 = .ref (ad 38 b) := rfl
theorem stC10_0 : LC.2.1 10 0 = (3, 38) := rfl
theorem stC10_0u : (LC.2.1 10 0).1 = 3 := rfl
theorem svC10_1 {ad : Nat → Nat → Nat} {m : Mem} {b : Nat} : sv LC ad m 10 b 1 = .ref (ad 39 b) := rfl
theorem stC10_1 : LC.2.1 10 1 = (3, 39) := rfl
theorem stC10_1u : (LC.2.1 10 1).1 = 3 := rfl
theorem svC10_2 {ad : Nat → Nat → Nat} {m : Mem} {b : Nat} : sv LC ad m 10 b 2 = .ref (ad 40 b) := rfl
theorem stC10_2 : LC.2.1 10 2 = (3, 40) := rfl
theorem stC10_2u : (LC.2.1 10 2).1 = 3 := rfl
theorem kC11 : LC.1 11 = .inl 0 := rfl
theorem lvC11 {m : Mem} {b : Nat} (h : b < 1) : b < lc LC m 11 := h
theorem svC11_0 {ad : Nat → Nat → Nat} {m : Mem} {b : Nat} : sv LC ad m 11 b 0 = .int (gI m 11 b 0) := rfl
theorem stC11_0 : LC.2.1 11 0 = (0, 0) := rfl
theorem stC11_0u : (LC.2.1 11 0).1 = 0 := rfl
theorem svC11_1 {ad : Nat → Nat → Nat} {m : Mem} {b : Nat} : sv LC ad m 11 b 1 = .ref (ad 41 b) := rfl
theorem stC11_1 : LC.2.1 11 1 = (3, 41) := rfl
theorem stC11_1u : (LC.2.1 11 1).1 = 3 := rfl
theorem kC12 : LC.1 12 = .inr (.object RX8, 6) := rfl
theorem lvC12 {m : Mem} {b : Nat} (h : b < 1) : b < lc LC m 12 := h
theorem svC12 {ad : Nat → Nat → Nat} {m : Mem} {b k : Nat} : sv LC ad m 12 b k = .ref (ad 42 k) := rfl
theorem stC12 {k : Nat} : LC.2.1 12 k = (4, 42) := rfl
theorem stC12u {k : Nat} : (LC.2.1 12 k).1 = 4 := rfl
theorem kC13 : LC.1 13 = .inl 1 := rfl
theorem lvC13 {m : Mem} {b : Nat} (h : b < 30) : b < lc LC m 13 := h
theorem svC13_0 {ad : Nat → Nat → Nat} {m : Mem} {b : Nat} : sv LC ad m 13 b 0 = .int (gI m 13 b 0) := rfl
theorem stC13_0 : LC.2.1 13 0 = (0, 0) := rfl
theorem stC13_0u : (LC.2.1 13 0).1 = 0 := rfl
theorem svC13_1 {ad : Nat → Nat → Nat} {m : Mem} {b : Nat} : sv LC ad m 13 b 1 = .int (gI m 13 b 1) := rfl
theorem stC13_1 : LC.2.1 13 1 = (0, 0) := rfl
theorem stC13_1u : (LC.2.1 13 1).1 = 0 := rfl
theorem svC13_2 {ad : Nat → Nat → Nat} {m : Mem} {b : Nat} : sv LC ad m 13 b 2 = .int (gI m 13 b 2) := rfl
theorem stC13_2 : LC.2.1 13 2 = (0, 0) := rfl
theorem stC13_2u : (LC.2.1 13 2).1 = 0 := rfl
theorem svC13_3 {ad : Nat → Nat → Nat} {m : Mem} {b : Nat} : sv LC ad m 13 b 3 = .int (gI m 13 b 3) := rfl
theorem stC13_3 : LC.2.1 13 3 = (0, 0) := rfl
theorem stC13_3u : (LC.2.1 13 3).1 = 0 := rfl
theorem svC13_4 {ad : Nat → Nat → Nat} {m : Mem} {b : Nat} : sv LC ad m 13 b 4 = .int (gI m 13 b 4) := rfl
theorem stC13_4 : LC.2.1 13 4 = (0, 0) := rfl
theorem stC13_4u : (LC.2.1 13 4).1 = 0 := rfl
theorem svC13_5 {ad : Nat → Nat → Nat} {m : Mem} {b : Nat} : sv LC ad m 13 b 5 = .int (gI m 13 b 5) := rfl
theorem stC13_5 : LC.2.1 13 5 = (0, 0) := rfl
theorem stC13_5u : (LC.2.1 13 5).1 = 0 := rfl
theorem svC13_6 {ad : Nat → Nat → Nat} {m : Mem} {b : Nat} : sv LC ad m 13 b 6 = .ref (ad 14 b) := rfl
theorem stC13_6 : LC.2.1 13 6 = (3, 14) := rfl
theorem stC13_6u : (LC.2.1 13 6).1 = 3 := rfl
theorem svC13_7 {ad : Nat → Nat → Nat} {m : Mem} {b : Nat} : sv LC ad m 13 b 7 = .ref (ad 15 b) := rfl
theorem stC13_7 : LC.2.1 13 7 = (3, 15) := rfl
theorem stC13_7u : (LC.2.1 13 7).1 = 3 := rfl
theorem kC14 : LC.1 14 = .inr (.object RX4, 6) := rfl
theorem lvC14 {m : Mem} {b : Nat} (h : b < 30) : b < lc LC m 14 := h
theorem svC14 {ad : Nat → Nat → Nat} {m : Mem} {b k : Nat} : sv LC ad m 14 b k = rf (ad 23) (gR m 14 b k) := rfl
theorem stC14 {k : Nat} : LC.2.1 14 k = (2, 23) := rfl
theorem stC14u {k : Nat} : (LC.2.1 14 k).1 = 2 := rfl
theorem kC15 : LC.1 15 = .inr (.object RX4, 24) := rfl
theorem lvC15 {m : Mem} {b : Nat} (h : b < 30) : b < lc LC m 15 := h
theorem svC15 {ad : Nat → Nat → Nat} {m : Mem} {b k : Nat} : sv LC ad m 15 b k = rf (ad 23) (gR m 15 b k) := rfl
theorem stC15 {k : Nat} : LC.2.1 15 k = (2, 23) := rfl
theorem stC15u {k : Nat} : (LC.2.1 15 k).1 = 2 := rfl
theorem kC16 : LC.1 16 = .inr (.int, 100) := rfl
theorem lvC16 {m : Mem} {b : Nat} (h : b < 1) : b < lc LC m 16 := h
theorem svC16 {ad : Nat → Nat → Nat} {m : Mem} {b k : Nat} : sv LC ad m 16 b k = .int (gI m 16 b k) := rfl
theorem stC16 {k : Nat} : LC.2.1 16 k = (0, 0) := rfl
theorem stC16u {k : Nat} : (LC.2.1 16 k).1 = 0 := rfl
theorem kC17 : LC.1 17 = .inr (.object RX9, 10) := rfl
theorem lvC17 {m : Mem} {b : Nat} (h : b < 1) : b < lc LC m 17 := h
theorem svC17 {ad : Nat → Nat → Nat} {m : Mem} {b k : Nat} : sv LC ad m 17 b k = .ref (ad 19 k) := rfl
theorem stC17 {k : Nat} : LC.2.1 17 k = (4, 19) := rfl
theorem stC17u {k : Nat} : (LC.2.1 17 k).1 = 4 := rfl
theorem kC18 : LC.1 18 = .inr (.int, 6) := rfl
theorem lvC18 {m : Mem} {b : Nat} (h : b < 1) : b < lc LC m 18 := h
theorem svC18 {ad : Nat → Nat → Nat} {m : Mem} {b k : Nat} : sv LC ad m 18 b k = .int (gI m 18 b k) := rfl
theorem stC18 {k : Nat} : LC.2.1 18 k = (0, 0) := rfl
theorem stC18u {k : Nat} : (LC.2.1 18 k).1 = 0 := rfl
theorem kC19 : LC.1 19 = .inl 9 := rfl
theorem lvC19 {m : Mem} {b : Nat} (h : b < 10) : b < lc LC m 19 := h
theorem svC19_0 {ad : Nat → Nat → Nat} {m : Mem} {b : Nat} : sv LC ad m 19 b 0 = .int (gI m 19 b 0) := rfl
theorem stC19_0 : LC.2.1 19 0 = (0, 0) := rfl
theorem stC19_0u : (LC.2.1 19 0).1 = 0 := rfl
theorem svC19_1 {ad : Nat → Nat → Nat} {m : Mem} {b : Nat} : sv LC ad m 19 b 1 = .int (gI m 19 b 1) := rfl
theorem stC19_1 : LC.2.1 19 1 = (0, 0) := rfl
theorem stC19_1u : (LC.2.1 19 1).1 = 0 := rfl
theorem svC19_2 {ad : Nat → Nat → Nat} {m : Mem} {b : Nat} : sv LC ad m 19 b 2 = .int (gI m 19 b 2) := rfl
theorem stC19_2 : LC.2.1 19 2 = (0, 0) := rfl
theorem stC19_2u : (LC.2.1 19 2).1 = 0 := rfl
theorem svC19_3 {ad : Nat → Nat → Nat} {m : Mem} {b : Nat} : sv LC ad m 19 b 3 = .ref (ad 20 b) := rfl
theorem stC19_3 : LC.2.1 19 3 = (3, 20) := rfl
theorem stC19_3u : (LC.2.1 19 3).1 = 3 := rfl
theorem svC19_4 {ad : Nat → Nat → Nat} {m : Mem} {b : Nat} : sv LC ad m 19 b 4 = .ref (ad 21 b) := rfl
theorem stC19_4 : LC.2.1 19 4 = (3, 21) := rfl
theorem stC19_4u : (LC.2.1 19 4).1 = 3 := rfl
theorem svC19_5 {ad : Nat → Nat → Nat} {m : Mem} {b : Nat} : sv LC ad m 19 b 5 = .ref (ad 22 b) := rfl
theorem stC19_5 : LC.2.1 19 5 = (3, 22) := rfl
theorem stC19_5u : (LC.2.1 19 5).1 = 3 := rfl
theorem kC20 : LC.1 20 = .inr (.int, 8) := rfl
theorem lvC20 {m : Mem} {b : Nat} (h : b < 10) : b < lc LC m 20 := h
theorem svC20 {ad : Nat → Nat → Nat} {m : Mem} {b k : Nat} : sv LC ad m 20 b k = .int (gI m 20 b k) := rfl
theorem stC20 {k : Nat} : LC.2.1 20 k = (0, 0) := rfl
theorem stC20u {k : Nat} : (LC.2.1 20 k).1 = 0 := rfl
theorem kC21 : LC.1 21 = .inr (.int, 8) := rfl
theorem lvC21 {m : Mem} {b : Nat} (h : b < 10) : b < lc LC m 21 := h
theorem svC21 {ad : Nat → Nat → Nat} {m : Mem} {b k : Nat} : sv LC ad m 21 b k = .int (gI m 21 b k) := rfl
theorem stC21 {k : Nat} : LC.2.1 21 k = (0, 0) := rfl
theorem stC21u {k : Nat} : (LC.2.1 21 k).1 = 0 := rfl
theorem kC22 : LC.1 22 = .inr (.int, 100) := rfl
theorem lvC22 {m : Mem} {b : Nat} (h : b < 10) : b < lc LC m 22 := h
theorem svC22 {ad : Nat → Nat → Nat} {m : Mem} {b k : Nat} : sv LC ad m 22 b k = .int (gI m 22 b k) := rfl
theorem stC22 {k : Nat} : LC.2.1 22 k = (0, 0) := rfl
theorem stC22u {k : Nat} : (LC.2.1 22 k).1 = 0 := rfl
theorem kC23 : LC.1 23 = .inl 4 := rfl
theorem lvC23 {m : Mem} {b : Nat} (h : b < gR m 999 23 0) : b < lc LC m 23 := h
theorem svC23_0 {ad : Nat → Nat → Nat} {m : Mem} {b : Nat} : sv LC ad m 23 b 0 = .int (gI m 23 b 0) := rfl
theorem stC23_0 : LC.2.1 23 0 = (0, 0) := rfl
theorem stC23_0u : (LC.2.1 23 0).1 = 0 := rfl
theorem svC23_1 {ad : Nat → Nat → Nat} {m : Mem} {b : Nat} : sv LC ad m 23 b 1 = .int (gI m 23 b 1) := rfl
theorem stC23_1 : LC.2.1 23 1 = (0, 0) := rfl
theorem stC23_1u : (LC.2.1 23 1).1 = 0 := rfl
theorem svC23_2 {ad : Nat → Nat → Nat} {m : Mem} {b : Nat} : sv LC ad m 23 b 2 = .int (gI m 23 b 2) := rfl
theorem stC23_2 : LC.2.1 23 2 = (0, 0) := rfl
theorem stC23_2u : (LC.2.1 23 2).1 = 0 := rfl
theorem svC23_3 {ad : Nat → Nat → Nat} {m : Mem} {b : Nat} : sv LC ad m 23 b 3 = .int (gI m 23 b 3) := rfl
theorem stC23_3 : LC.2.1 23 3 = (0, 0) := rfl
theorem stC23_3u : (LC.2.1 23 3).1 = 0 := rfl
theorem svC23_4 {ad : Nat → Nat → Nat} {m : Mem} {b : Nat} : sv LC ad m 23 b 4 = .int (gI m 23 b 4) := rfl
theorem stC23_4 : LC.2.1 23 4 = (0, 0) := rfl
theorem stC23_4u : (LC.2.1 23 4).1 = 0 := rfl
theorem svC23_5 {ad : Nat → Nat → Nat} {m : Mem} {b : Nat} : sv LC ad m 23 b 5 = .int (gI m 23 b 5) := rfl
theorem stC23_5 : LC.2.1 23 5 = (0, 0) := rfl
theorem stC23_5u : (LC.2.1 23 5).1 = 0 := rfl
theorem svC23_6 {ad : Nat → Nat → Nat} {m : Mem} {b : Nat} : sv LC ad m 23 b 6 = .int (gI m 23 b 6) := rfl
theorem stC23_6 : LC.2.1 23 6 = (0, 0) := rfl
theorem stC23_6u : (LC.2.1 23 6).1 = 0 := rfl
theorem svC23_7 {ad : Nat → Nat → Nat} {m : Mem} {b : Nat} : sv LC ad m 23 b 7 = .int (gI m 23 b 7) := rfl
theorem stC23_7 : LC.2.1 23 7 = (0, 0) := rfl
theorem stC23_7u : (LC.2.1 23 7).1 = 0 := rfl
theorem svC23_8 {ad : Nat → Nat → Nat} {m : Mem} {b : Nat} : sv LC ad m 23 b 8 = .int (gI m 23 b 8) := rfl
theorem stC23_8 : LC.2.1 23 8 = (0, 0) := rfl
theorem stC23_8u : (LC.2.1 23 8).1 = 0 := rfl
theorem svC23_9 {ad : Nat → Nat → Nat} {m : Mem} {b : Nat} : sv LC ad m 23 b 9 = .int (gI m 23 b 9) := rfl
theorem stC23_9 : LC.2.1 23 9 = (0, 0) := rfl
theorem stC23_9u : (LC.2.1 23 9).1 = 0 := rfl
theorem svC23_10 {ad : Nat → Nat → Nat} {m : Mem} {b : Nat} : sv LC ad m 23 b 10 = .int (gI m 23 b 10) := rfl
theorem stC23_10 : LC.2.1 23 10 = (0, 0) := rfl
theorem stC23_10u : (LC.2.1 23 10).1 = 0 := rfl
theorem kC24 : LC.1 24 = .inl 2 := rfl
theorem lvC24 {m : Mem} {b : Nat} (h : b < gR m 999 24 0) : b < lc LC m 24 := h
theorem svC24_0 {ad : Nat → Nat → Nat} {m : Mem} {b : Nat} : sv LC ad m 24 b 0 = .int (gI m 24 b 0) := rfl
theorem stC24_0 : LC.2.1 24 0 = (0, 0) := rfl
theorem stC24_0u : (LC.2.1 24 0).1 = 0 := rfl
theorem svC24_1 {ad : Nat → Nat → Nat} {m : Mem} {b : Nat} : sv LC ad m 24 b 1 = .int (gI m 24 b 1) := rfl
theorem stC24_1 : LC.2.1 24 1 = (0, 0) := rfl
theorem stC24_1u : (LC.2.1 24 1).1 = 0 := rfl
theorem svC24_2 {ad : Nat → Nat → Nat} {m : Mem} {b : Nat} : sv LC ad m 24 b 2 = .int (gI m 24 b 2) := rfl
theorem stC24_2 : LC.2.1 24 2 = (0, 0) := rfl
theorem stC24_2u : (LC.2.1 24 2).1 = 0 := rfl
theorem svC24_3 {ad : Nat → Nat → Nat} {m : Mem} {b : Nat} : sv LC ad m 24 b 3 = .int (gI m 24 b 3) := rfl
theorem stC24_3 : LC.2.1 24 3 = (0, 0) := rfl
theorem stC24_3u : (LC.2.1 24 3).1 = 0 := rfl
theorem svC24_4 {ad : Nat → Nat → Nat} {m : Mem} {b : Nat} : sv LC ad m 24 b 4 = .int (gI m 24 b 4) := rfl
theorem stC24_4 : LC.2.1 24 4 = (0, 0) := rfl
theorem stC24_4u : (LC.2.1 24 4).1 = 0 := rfl
theorem kC25 : LC.1 25 = .inr (.int, 24) := rfl
theorem lvC25 {m : Mem} {b : Nat} (h : b < 1) : b < lc LC m 25 := h
theorem svC25 {ad : Nat → Nat → Nat} {m : Mem} {b k : Nat} : sv LC ad m 25 b k = .int (gI m 25 b k) := rfl
theorem stC25 {k : Nat} : LC.2.1 25 k = (0, 0) := rfl
theorem stC25u {k : Nat} : (LC.2.1 25 k).1 = 0 := rfl
theorem kC26 : LC.1 26 = .inr (.int, 30) := rfl
theorem lvC26 {m : Mem} {b : Nat} (h : b < 1) : b < lc LC m 26 := h
theorem svC26 {ad : Nat → Nat → Nat} {m : Mem} {b k : Nat} : sv LC ad m 26 b k = .int (gI m 26 b k) := rfl
theorem stC26 {k : Nat} : LC.2.1 26 k = (0, 0) := rfl
theorem stC26u {k : Nat} : (LC.2.1 26 k).1 = 0 := rfl
theorem kC27 : LC.1 27 = .inr (.int, 30) := rfl
theorem lvC27 {m : Mem} {b : Nat} (h : b < 1) : b < lc LC m 27 := h
theorem svC27 {ad : Nat → Nat → Nat} {m : Mem} {b k : Nat} : sv LC ad m 27 b k = .int (gI m 27 b k) := rfl
theorem stC27 {k : Nat} : LC.2.1 27 k = (0, 0) := rfl
theorem stC27u {k : Nat} : (LC.2.1 27 k).1 = 0 := rfl
theorem kC28 : LC.1 28 = .inr (.int, 30) := rfl
theorem lvC28 {m : Mem} {b : Nat} (h : b < 1) : b < lc LC m 28 := h
theorem svC28 {ad : Nat → Nat → Nat} {m : Mem} {b k : Nat} : sv LC ad m 28 b k = .int (gI m 28 b k) := rfl
theorem stC28 {k : Nat} : LC.2.1 28 k = (0, 0) := rfl
theorem stC28u {k : Nat} : (LC.2.1 28 k).1 = 0 := rfl
theorem kC29 : LC.1 29 = .inr (.int, 30) := rfl
theorem lvC29 {m : Mem} {b : Nat} (h : b < 1) : b < lc LC m 29 := h
theorem svC29 {ad : Nat → Nat → Nat} {m : Mem} {b k : Nat} : sv LC ad m 29 b k = .int (gI m 29 b k) := rfl
theorem stC29 {k : Nat} : LC.2.1 29 k = (0, 0) := rfl
theorem stC29u {k : Nat} : (LC.2.1 29 k).1 = 0 := rfl
theorem kC30 : LC.1 30 = .inr (.int, 20) := rfl
theorem lvC30 {m : Mem} {b : Nat} (h : b < 1) : b < lc LC m 30 := h
theorem svC30 {ad : Nat → Nat → Nat} {m : Mem} {b k : Nat} : sv LC ad m 30 b k = .int (gI m 30 b k) := rfl
theorem stC30 {k : Nat} : LC.2.1 30 k = (0, 0) := rfl
theorem stC30u {k : Nat} : (LC.2.1 30 k).1 = 0 := rfl
theorem kC31 : LC.1 31 = .inr (.int, 20) := rfl
theorem lvC31 {m : Mem} {b : Nat} (h : b < 1) : b < lc LC m 31 := h
theorem svC31 {ad : Nat → Nat → Nat} {m : Mem} {b k : Nat} : sv LC ad m 31 b k = .int (gI m 31 b k) := rfl
theorem stC31 {k : Nat} : LC.2.1 31 k = (0, 0) := rfl
theorem stC31u {k : Nat} : (LC.2.1 31 k).1 = 0 := rfl
theorem kC32 : LC.1 32 = .inr (.int, 20) := rfl
theorem lvC32 {m : Mem} {b : Nat} (h : b < 1) : b < lc LC m 32 := h
theorem svC32 {ad : Nat → Nat → Nat} {m : Mem} {b k : Nat} : sv LC ad m 32 b k = .int (gI m 32 b k) := rfl
theorem stC32 {k : Nat} : LC.2.1 32 k = (0, 0) := rfl
theorem stC32u {k : Nat} : (LC.2.1 32 k).1 = 0 := rfl
theorem kC33 : LC.1 33 = .inr (.int, 20) := rfl
theorem lvC33 {m : Mem} {b : Nat} (h : b < 1) : b < lc LC m 33 := h
theorem svC33 {ad : Nat → Nat → Nat} {m : Mem} {b k : Nat} : sv LC ad m 33 b k = .int (gI m 33 b k) := rfl
theorem stC33 {k : Nat} : LC.2.1 33 k = (0, 0) := rfl
theorem stC33u {k : Nat} : (LC.2.1 33 k).1 = 0 := rfl
theorem kC34 : LC.1 34 = .inr (.int, 8) := rfl
theorem lvC34 {m : Mem} {b : Nat} (h : b < 1) : b < lc LC m 34 := h
theorem svC34 {ad : Nat → Nat → Nat} {m : Mem} {b k : Nat} : sv LC ad m 34 b k = .int (gI m 34 b k) := rfl
theorem stC34 {k : Nat} : LC.2.1 34 k = (0, 0) := rfl
theorem stC34u {k : Nat} : (LC.2.1 34 k).1 = 0 := rfl
theorem kC35 : LC.1 35 = .inr (.int, 8) := rfl
theorem lvC35 {m : Mem} {b : Nat} (h : b < 1) : b < lc LC m 35 := h
theorem svC35 {ad : Nat → Nat → Nat} {m : Mem} {b k : Nat} : sv LC ad m 35 b k = .int (gI m 35 b k) := rfl
theorem stC35 {k : Nat} : LC.2.1 35 k = (0, 0) := rfl
theorem stC35u {k : Nat} : (LC.2.1 35 k).1 = 0 := rfl
theorem kC36 : LC.1 36 = .inr (.int, 8) := rfl
theorem lvC36 {m : Mem} {b : Nat} (h : b < 1) : b < lc LC m 36 := h
theorem svC36 {ad : Nat → Nat → Nat} {m : Mem} {b k : Nat} : sv LC ad m 36 b k = .int (gI m 36 b k) := rfl
theorem stC36 {k : Nat} : LC.2.1 36 k = (0, 0) := rfl
theorem stC36u {k : Nat} : (LC.2.1 36 k).1 = 0 := rfl
theorem kC37 : LC.1 37 = .inr (.int, 8) := rfl
theorem lvC37 {m : Mem} {b : Nat} (h : b < 1) : b < lc LC m 37 := h
theorem svC37 {ad : Nat → Nat → Nat} {m : Mem} {b k : Nat} : sv LC ad m 37 b k = .int (gI m 37 b k) := rfl
theorem stC37 {k : Nat} : LC.2.1 37 k = (0, 0) := rfl
theorem stC37u {k : Nat} : (LC.2.1 37 k).1 = 0 := rfl
theorem kC38 : LC.1 38 = .inr (.int, 8) := rfl
theorem lvC38 {m : Mem} {b : Nat} (h : b < 1) : b < lc LC m 38 := h
theorem svC38 {ad : Nat → Nat → Nat} {m : Mem} {b k : Nat} : sv LC ad m 38 b k = .int (gI m 38 b k) := rfl
theorem stC38 {k : Nat} : LC.2.1 38 k = (0, 0) := rfl
theorem stC38u {k : Nat} : (LC.2.1 38 k).1 = 0 := rfl
theorem kC39 : LC.1 39 = .inr (.int, 8) := rfl
theorem lvC39 {m : Mem} {b : Nat} (h : b < 1) : b < lc LC m 39 := h
theorem svC39 {ad : Nat → Nat → Nat} {m : Mem} {b k : Nat} : sv LC ad m 39 b k = .int (gI m 39 b k) := rfl
theorem stC39 {k : Nat} : LC.2.1 39 k = (0, 0) := rfl
theorem stC39u {k : Nat} : (LC.2.1 39 k).1 = 0 := rfl
theorem kC40 : LC.1 40 = .inr (.int, 8) := rfl
theorem lvC40 {m : Mem} {b : Nat} (h : b < 1) : b < lc LC m 40 := h
theorem svC40 {ad : Nat → Nat → Nat} {m : Mem} {b k : Nat} : sv LC ad m 40 b k = .int (gI m 40 b k) := rfl
theorem stC40 {k : Nat} : LC.2.1 40 k = (0, 0) := rfl
theorem stC40u {k : Nat} : (LC.2.1 40 k).1 = 0 := rfl
theorem kC41 : LC.1 41 = .inr (.int, 20) := rfl
theorem lvC41 {m : Mem} {b : Nat} (h : b < 1) : b < lc LC m 41 := h
theorem svC41 {ad : Nat → Nat → Nat} {m : Mem} {b k : Nat} : sv LC ad m 41 b k = .int (gI m 41 b k) := rfl
theorem stC41 {k : Nat} : LC.2.1 41 k = (0, 0) := rfl
theorem stC41u {k : Nat} : (LC.2.1 41 k).1 = 0 := rfl
theorem kC42 : LC.1 42 = .inl 8 := rfl
theorem lvC42 {m : Mem} {b : Nat} (h : b < 6) : b < lc LC m 42 := h
theorem svC42_0 {ad : Nat → Nat → Nat} {m : Mem} {b : Nat} : sv LC ad m 42 b 0 = .int (gI m 42 b 0) := rfl
theorem stC42_0 : LC.2.1 42 0 = (0, 0) := rfl
theorem stC42_0u : (LC.2.1 42 0).1 = 0 := rfl
theorem svC42_1 {ad : Nat → Nat → Nat} {m : Mem} {b : Nat} : sv LC ad m 42 b 1 = .ref (ad 43 b) := rfl
theorem stC42_1 : LC.2.1 42 1 = (3, 43) := rfl
theorem stC42_1u : (LC.2.1 42 1).1 = 3 := rfl
theorem svC42_2 {ad : Nat → Nat → Nat} {m : Mem} {b : Nat} : sv LC ad m 42 b 2 = .int (gI m 42 b 2) := rfl
theorem stC42_2 : LC.2.1 42 2 = (0, 0) := rfl
theorem stC42_2u : (LC.2.1 42 2).1 = 0 := rfl
theorem kC43 : LC.1 43 = .inr (.long, 60) := rfl
theorem lvC43 {m : Mem} {b : Nat} (h : b < 6) : b < lc LC m 43 := h
theorem svC43 {ad : Nat → Nat → Nat} {m : Mem} {b k : Nat} : sv LC ad m 43 b k = .long (gL m 43 b k) := rfl
theorem stC43 {k : Nat} : LC.2.1 43 k = (1, 0) := rfl
theorem stC43u {k : Nat} : (LC.2.1 43 k).1 = 1 := rfl
def kindsM : List (Nat ⊕ (FieldType × Nat)) := [.inl 12, .inr (.int, 30), .inr (.int, 30), .inr (.int, 8), .inr (.int, 8), .inr (.int, 60), .inr (.int, 60), .inr (.int, 60), .inr (.int, 60), .inr (.int, 60), .inr (.int, 60), .inr (.int, 60), .inr (.int, 60), .inr (.boolean, 60), .inr (.int, 150), .inr (.int, 30), .inr (.int, 720), .inr (.int, 30), .inr (.int, 30), .inr (.int, 10), .inr (.int, 1100), .inr (.int, 11), .inr (.int, 6), .inr (.int, 6), .inr (.int, 6), .inr (.boolean, 6), .inr (.int, 101), .inr (.boolean, 101), .inr (.int, 24), .inr (.int, 30), .inr (.int, 30), .inr (.int, 30), .inr (.int, 10), .inr (.int, 10), .inr (.int, 10), .inr (.int, 10), .inr (.boolean, 30), .inr (.boolean, 30), .inr (.int, 20), .inr (.int, 20), .inr (.int, 20), .inr (.int, 8), .inr (.int, 8), .inr (.int, 8), .inr (.int, 8), .inr (.int, 20), .inr (.int, 20), .inr (.int, 8), .inr (.int, 8), .inr (.int, 8), .inr (.boolean, 150), .inr (.int, 20), .inr (.int, 6), .inr (.int, 6), .inr (.long, 360), .inr (.long, 60)]
def slotsM : List (List (Nat × Nat) ⊕ (Nat × Nat)) := [.inl [(0, 0), (0, 0), (3, 1), (3, 2), (3, 3), (3, 4), (3, 5), (3, 6), (3, 7), (3, 8), (3, 9), (3, 10), (3, 11), (3, 12), (3, 13), (0, 0), (3, 14), (3, 15), (3, 16), (3, 17), (3, 18), (0, 0), (0, 0), (3, 19), (3, 20), (3, 21), (3, 22), (3, 23), (3, 24), (3, 25), (0, 0), (0, 0), (0, 0), (0, 0), (0, 0), (3, 26), (3, 27), (0, 0), (0, 0), (0, 0), (3, 28), (3, 29), (3, 30), (3, 31), (0, 0), (3, 32), (3, 33), (3, 34), (3, 35), (3, 36), (3, 37), (0, 0), (0, 0), (3, 38), (3, 39), (3, 40), (3, 41), (3, 42), (3, 43), (3, 44), (3, 45), (3, 46), (3, 47), (3, 48), (3, 49), (3, 50), (0, 0), (3, 51), (3, 52), (3, 53), (3, 54), (3, 55)], .inr (0, 0), .inr (0, 0), .inr (0, 0), .inr (0, 0), .inr (0, 0), .inr (0, 0), .inr (0, 0), .inr (0, 0), .inr (0, 0), .inr (0, 0), .inr (0, 0), .inr (0, 0), .inr (0, 0), .inr (0, 0), .inr (0, 0), .inr (0, 0), .inr (0, 0), .inr (0, 0), .inr (0, 0), .inr (0, 0), .inr (0, 0), .inr (0, 0), .inr (0, 0), .inr (0, 0), .inr (0, 0), .inr (0, 0), .inr (0, 0), .inr (0, 0), .inr (0, 0), .inr (0, 0), .inr (0, 0), .inr (0, 0), .inr (0, 0), .inr (0, 0), .inr (0, 0), .inr (0, 0), .inr (0, 0), .inr (0, 0), .inr (0, 0), .inr (0, 0), .inr (0, 0), .inr (0, 0), .inr (0, 0), .inr (0, 0), .inr (0, 0), .inr (0, 0), .inr (0, 0), .inr (0, 0), .inr (0, 0), .inr (0, 0), .inr (0, 0), .inr (0, 0), .inr (0, 0), .inr (1, 0), .inr (1, 0)]
def cnM (g : Nat → Nat) (r : Nat) : Nat := ([1, 1, 1, 1, 1, 1, 1, 1, 1, 1, 1, 1, 1, 1, 1, 1, 1, 1, 1, 1, 1, 1, 1, 1, 1, 1, 1, 1, 1, 1, 1, 1, 1, 1, 1, 1, 1, 1, 1, 1, 1, 1, 1, 1, 1, 1, 1, 1, 1, 1, 1, 1, 1, 1, 1, 1] : List Nat).getD r 0
def LM : Lay := (fun r => kindsM.getD r (.inl 99), fun r k => (match slotsM.getD r (.inr (0, 0)) with | .inl l => l.getD k (0, 0) | .inr t => t), cnM)
theorem kM0 : LM.1 0 = .inl 12 := rfl
theorem lvM0 {m : Mem} {b : Nat} (h : b < 1) : b < lc LM m 0 := h
theorem svM0_0 {ad : Nat → Nat → Nat} {m : Mem} {b : Nat} : sv LM ad m 0 b 0 = .int (gI m 0 b 0) := rfl
theorem stM0_0 : LM.2.1 0 0 = (0, 0) := rfl
theorem stM0_0u : (LM.2.1 0 0).1 = 0 := rfl
theorem svM0_1 {ad : Nat → Nat → Nat} {m : Mem} {b : Nat} : sv LM ad m 0 b 1 = .int (gI m 0 b 1) := rfl
theorem stM0_1 : LM.2.1 0 1 = (0, 0) := rfl
theorem stM0_1u : (LM.2.1 0 1).1 = 0 := rfl
theorem svM0_2 {ad : Nat → Nat → Nat} {m : Mem} {b : Nat} : sv LM ad m 0 b 2 = .ref (ad 1 b) := rfl
theorem stM0_2 : LM.2.1 0 2 = (3, 1) := rfl
theorem stM0_2u : (LM.2.1 0 2).1 = 3 := rfl
theorem svM0_3 {ad : Nat → Nat → Nat} {m : Mem} {b : Nat} : sv LM ad m 0 b 3 = .ref (ad 2 b) := rfl
theorem stM0_3 : LM.2.1 0 3 = (3, 2) := rfl
theorem stM0_3u : (LM.2.1 0 3).1 = 3 := rfl
theorem svM0_4 {ad : Nat → Nat → Nat} {m : Mem} {b : Nat} : sv LM ad m 0 b 4 = .ref (ad 3 b) := rfl
theorem stM0_4 : LM.2.1 0 4 = (3, 3) := rfl
theorem stM0_4u : (LM.2.1 0 4).1 = 3 := rfl
theorem svM0_5 {ad : Nat → Nat → Nat} {m : Mem} {b : Nat} : sv LM ad m 0 b 5 = .ref (ad 4 b) := rfl
theorem stM0_5 : LM.2.1 0 5 = (3, 4) := rfl
theorem stM0_5u : (LM.2.1 0 5).1 = 3 := rfl
theorem svM0_6 {ad : Nat → Nat → Nat} {m : Mem} {b : Nat} : sv LM ad m 0 b 6 = .ref (ad 5 b) := rfl
theorem stM0_6 : LM.2.1 0 6 = (3, 5) := rfl
theorem stM0_6u : (LM.2.1 0 6).1 = 3 := rfl
theorem svM0_7 {ad : Nat → Nat → Nat} {m : Mem} {b : Nat} : sv LM ad m 0 b 7 = .ref (ad 6 b) := rfl
theorem stM0_7 : LM.2.1 0 7 = (3, 6) := rfl
theorem stM0_7u : (LM.2.1 0 7).1 = 3 := rfl
theorem svM0_8 {ad : Nat → Nat → Nat} {m : Mem} {b : Nat} : sv LM ad m 0 b 8 = .ref (ad 7 b) := rfl
theorem stM0_8 : LM.2.1 0 8 = (3, 7) := rfl
theorem stM0_8u : (LM.2.1 0 8).1 = 3 := rfl
theorem svM0_9 {ad : Nat → Nat → Nat} {m : Mem} {b : Nat} : sv LM ad m 0 b 9 = .ref (ad 8 b) := rfl
theorem stM0_9 : LM.2.1 0 9 = (3, 8) := rfl
theorem stM0_9u : (LM.2.1 0 9).1 = 3 := rfl
theorem svM0_10 {ad : Nat → Nat → Nat} {m : Mem} {b : Nat} : sv LM ad m 0 b 10 = .ref (ad 9 b) := rfl
theorem stM0_10 : LM.2.1 0 10 = (3, 9) := rfl
theorem stM0_10u : (LM.2.1 0 10).1 = 3 := rfl
theorem svM0_11 {ad : Nat → Nat → Nat} {m : Mem} {b : Nat} : sv LM ad m 0 b 11 = .ref (ad 10 b) := rfl
theorem stM0_11 : LM.2.1 0 11 = (3, 10) := rfl
theorem stM0_11u : (LM.2.1 0 11).1 = 3 := rfl
theorem svM0_12 {ad : Nat → Nat → Nat} {m : Mem} {b : Nat} : sv LM ad m 0 b 12 = .ref (ad 11 b) := rfl
theorem stM0_12 : LM.2.1 0 12 = (3, 11) := rfl
theorem stM0_12u : (LM.2.1 0 12).1 = 3 := rfl
theorem svM0_13 {ad : Nat → Nat → Nat} {m : Mem} {b : Nat} : sv LM ad m 0 b 13 = .ref (ad 12 b) := rfl
theorem stM0_13 : LM.2.1 0 13 = (3, 12) := rfl
theorem stM0_13u : (LM.2.1 0 13).1 = 3 := rfl
theorem svM0_14 {ad : Nat → Nat → Nat} {m : Mem} {b : Nat} : sv LM ad m 0 b 14 = .ref (ad 13 b) := rfl
theorem stM0_14 : LM.2.1 0 14 = (3, 13) := rfl
theorem stM0_14u : (LM.2.1 0 14).1 = 3 := rfl
theorem svM0_15 {ad : Nat → Nat → Nat} {m : Mem} {b : Nat} : sv LM ad m 0 b 15 = .int (gI m 0 b 15) := rfl
theorem stM0_15 : LM.2.1 0 15 = (0, 0) := rfl
theorem stM0_15u : (LM.2.1 0 15).1 = 0 := rfl
theorem svM0_16 {ad : Nat → Nat → Nat} {m : Mem} {b : Nat} : sv LM ad m 0 b 16 = .ref (ad 14 b) := rfl
theorem stM0_16 : LM.2.1 0 16 = (3, 14) := rfl
theorem stM0_16u : (LM.2.1 0 16).1 = 3 := rfl
theorem svM0_17 {ad : Nat → Nat → Nat} {m : Mem} {b : Nat} : sv LM ad m 0 b 17 = .ref (ad 15 b) := rfl
theorem stM0_17 : LM.2.1 0 17 = (3, 15) := rfl
theorem stM0_17u : (LM.2.1 0 17).1 = 3 := rfl
theorem svM0_18 {ad : Nat → Nat → Nat} {m : Mem} {b : Nat} : sv LM ad m 0 b 18 = .ref (ad 16 b) := rfl
theorem stM0_18 : LM.2.1 0 18 = (3, 16) := rfl
theorem stM0_18u : (LM.2.1 0 18).1 = 3 := rfl
theorem svM0_19 {ad : Nat → Nat → Nat} {m : Mem} {b : Nat} : sv LM ad m 0 b 19 = .ref (ad 17 b) := rfl
theorem stM0_19 : LM.2.1 0 19 = (3, 17) := rfl
theorem stM0_19u : (LM.2.1 0 19).1 = 3 := rfl
theorem svM0_20 {ad : Nat → Nat → Nat} {m : Mem} {b : Nat} : sv LM ad m 0 b 20 = .ref (ad 18 b) := rfl
theorem stM0_20 : LM.2.1 0 20 = (3, 18) := rfl
theorem stM0_20u : (LM.2.1 0 20).1 = 3 := rfl
theorem svM0_21 {ad : Nat → Nat → Nat} {m : Mem} {b : Nat} : sv LM ad m 0 b 21 = .int (gI m 0 b 21) := rfl
theorem stM0_21 : LM.2.1 0 21 = (0, 0) := rfl
theorem stM0_21u : (LM.2.1 0 21).1 = 0 := rfl
theorem svM0_22 {ad : Nat → Nat → Nat} {m : Mem} {b : Nat} : sv LM ad m 0 b 22 = .int (gI m 0 b 22) := rfl
theorem stM0_22 : LM.2.1 0 22 = (0, 0) := rfl
theorem stM0_22u : (LM.2.1 0 22).1 = 0 := rfl
theorem svM0_23 {ad : Nat → Nat → Nat} {m : Mem} {b : Nat} : sv LM ad m 0 b 23 = .ref (ad 19 b) := rfl
theorem stM0_23 : LM.2.1 0 23 = (3, 19) := rfl
theorem stM0_23u : (LM.2.1 0 23).1 = 3 := rfl
theorem svM0_24 {ad : Nat → Nat → Nat} {m : Mem} {b : Nat} : sv LM ad m 0 b 24 = .ref (ad 20 b) := rfl
theorem stM0_24 : LM.2.1 0 24 = (3, 20) := rfl
theorem stM0_24u : (LM.2.1 0 24).1 = 3 := rfl
theorem svM0_25 {ad : Nat → Nat → Nat} {m : Mem} {b : Nat} : sv LM ad m 0 b 25 = .ref (ad 21 b) := rfl
theorem stM0_25 : LM.2.1 0 25 = (3, 21) := rfl
theorem stM0_25u : (LM.2.1 0 25).1 = 3 := rfl
theorem svM0_26 {ad : Nat → Nat → Nat} {m : Mem} {b : Nat} : sv LM ad m 0 b 26 = .ref (ad 22 b) := rfl
theorem stM0_26 : LM.2.1 0 26 = (3, 22) := rfl
theorem stM0_26u : (LM.2.1 0 26).1 = 3 := rfl
theorem svM0_27 {ad : Nat → Nat → Nat} {m : Mem} {b : Nat} : sv LM ad m 0 b 27 = .ref (ad 23 b) := rfl
theorem stM0_27 : LM.2.1 0 27 = (3, 23) := rfl
theorem stM0_27u : (LM.2.1 0 27).1 = 3 := rfl
theorem svM0_28 {ad : Nat → Nat → Nat} {m : Mem} {b : Nat} : sv LM ad m 0 b 28 = .ref (ad 24 b) := rfl
theorem stM0_28 : LM.2.1 0 28 = (3, 24) := rfl
theorem stM0_28u : (LM.2.1 0 28).1 = 3 := rfl
theorem svM0_29 {ad : Nat → Nat → Nat} {m : Mem} {b : Nat} : sv LM ad m 0 b 29 = .ref (ad 25 b) := rfl
theorem stM0_29 : LM.2.1 0 29 = (3, 25) := rfl
theorem stM0_29u : (LM.2.1 0 29).1 = 3 := rfl
theorem svM0_30 {ad : Nat → Nat → Nat} {m : Mem} {b : Nat} : sv LM ad m 0 b 30 = .int (gI m 0 b 30) := rfl
theorem stM0_30 : LM.2.1 0 30 = (0, 0) := rfl
theorem stM0_30u : (LM.2.1 0 30).1 = 0 := rfl
theorem svM0_31 {ad : Nat → Nat → Nat} {m : Mem} {b : Nat} : sv LM ad m 0 b 31 = .int (gI m 0 b 31) := rfl
theorem stM0_31 : LM.2.1 0 31 = (0, 0) := rfl
theorem stM0_31u : (LM.2.1 0 31).1 = 0 := rfl
theorem svM0_32 {ad : Nat → Nat → Nat} {m : Mem} {b : Nat} : sv LM ad m 0 b 32 = .int (gI m 0 b 32) := rfl
theorem stM0_32 : LM.2.1 0 32 = (0, 0) := rfl
theorem stM0_32u : (LM.2.1 0 32).1 = 0 := rfl
theorem svM0_33 {ad : Nat → Nat → Nat} {m : Mem} {b : Nat} : sv LM ad m 0 b 33 = .int (gI m 0 b 33) := rfl
theorem stM0_33 : LM.2.1 0 33 = (0, 0) := rfl
theorem stM0_33u : (LM.2.1 0 33).1 = 0 := rfl
theorem svM0_34 {ad : Nat → Nat → Nat} {m : Mem} {b : Nat} : sv LM ad m 0 b 34 = .int (gI m 0 b 34) := rfl
theorem stM0_34 : LM.2.1 0 34 = (0, 0) := rfl
theorem stM0_34u : (LM.2.1 0 34).1 = 0 := rfl
theorem svM0_35 {ad : Nat → Nat → Nat} {m : Mem} {b : Nat} : sv LM ad m 0 b 35 = .ref (ad 26 b) := rfl
theorem stM0_35 : LM.2.1 0 35 = (3, 26) := rfl
theorem stM0_35u : (LM.2.1 0 35).1 = 3 := rfl
theorem svM0_36 {ad : Nat → Nat → Nat} {m : Mem} {b : Nat} : sv LM ad m 0 b 36 = .ref (ad 27 b) := rfl
theorem stM0_36 : LM.2.1 0 36 = (3, 27) := rfl
theorem stM0_36u : (LM.2.1 0 36).1 = 3 := rfl
theorem svM0_37 {ad : Nat → Nat → Nat} {m : Mem} {b : Nat} : sv LM ad m 0 b 37 = .int (gI m 0 b 37) := rfl
theorem stM0_37 : LM.2.1 0 37 = (0, 0) := rfl
theorem stM0_37u : (LM.2.1 0 37).1 = 0 := rfl
theorem svM0_38 {ad : Nat → Nat → Nat} {m : Mem} {b : Nat} : sv LM ad m 0 b 38 = .int (gI m 0 b 38) := rfl
theorem stM0_38 : LM.2.1 0 38 = (0, 0) := rfl
theorem stM0_38u : (LM.2.1 0 38).1 = 0 := rfl
theorem svM0_39 {ad : Nat → Nat → Nat} {m : Mem} {b : Nat} : sv LM ad m 0 b 39 = .int (gI m 0 b 39) := rfl
theorem stM0_39 : LM.2.1 0 39 = (0, 0) := rfl
theorem stM0_39u : (LM.2.1 0 39).1 = 0 := rfl
theorem svM0_40 {ad : Nat → Nat → Nat} {m : Mem} {b : Nat} : sv LM ad m 0 b 40 = .ref (ad 28 b) := rfl
theorem stM0_40 : LM.2.1 0 40 = (3, 28) := rfl
theorem stM0_40u : (LM.2.1 0 40).1 = 3 := rfl
theorem svM0_41 {ad : Nat → Nat → Nat} {m : Mem} {b : Nat} : sv LM ad m 0 b 41 = .ref (ad 29 b) := rfl
theorem stM0_41 : LM.2.1 0 41 = (3, 29) := rfl
theorem stM0_41u : (LM.2.1 0 41).1 = 3 := rfl
theorem svM0_42 {ad : Nat → Nat → Nat} {m : Mem} {b : Nat} : sv LM ad m 0 b 42 = .ref (ad 30 b) := rfl
theorem stM0_42 : LM.2.1 0 42 = (3, 30) := rfl
theorem stM0_42u : (LM.2.1 0 42).1 = 3 := rfl
theorem svM0_43 {ad : Nat → Nat → Nat} {m : Mem} {b : Nat} : sv LM ad m 0 b 43 = .ref (ad 31 b) := rfl
theorem stM0_43 : LM.2.1 0 43 = (3, 31) := rfl
theorem stM0_43u : (LM.2.1 0 43).1 = 3 := rfl
theorem svM0_44 {ad : Nat → Nat → Nat} {m : Mem} {b : Nat} : sv LM ad m 0 b 44 = .int (gI m 0 b 44) := rfl
theorem stM0_44 : LM.2.1 0 44 = (0, 0) := rfl
theorem stM0_44u : (LM.2.1 0 44).1 = 0 := rfl
theorem svM0_45 {ad : Nat → Nat → Nat} {m : Mem} {b : Nat} : sv LM ad m 0 b 45 = .ref (ad 32 b) := rfl
theorem stM0_45 : LM.2.1 0 45 = (3, 32) := rfl
theorem stM0_45u : (LM.2.1 0 45).1 = 3 := rfl
theorem svM0_46 {ad : Nat → Nat → Nat} {m : Mem} {b : Nat} : sv LM ad m 0 b 46 = .ref (ad 33 b) := rfl
theorem stM0_46 : LM.2.1 0 46 = (3, 33) := rfl
theorem stM0_46u : (LM.2.1 0 46).1 = 3 := rfl
theorem svM0_47 {ad : Nat → Nat → Nat} {m : Mem} {b : Nat} : sv LM ad m 0 b 47 = .ref (ad 34 b) := rfl
theorem stM0_47 : LM.2.1 0 47 = (3, 34) := rfl
theorem stM0_47u : (LM.2.1 0 47).1 = 3 := rfl
theorem svM0_48 {ad : Nat → Nat → Nat} {m : Mem} {b : Nat} : sv LM ad m 0 b 48 = .ref (ad 35 b) := rfl
theorem stM0_48 : LM.2.1 0 48 = (3, 35) := rfl
theorem stM0_48u : (LM.2.1 0 48).1 = 3 := rfl
theorem svM0_49 {ad : Nat → Nat → Nat} {m : Mem} {b : Nat} : sv LM ad m 0 b 49 = .ref (ad 36 b) := rfl
theorem stM0_49 : LM.2.1 0 49 = (3, 36) := rfl
theorem stM0_49u : (LM.2.1 0 49).1 = 3 := rfl
theorem svM0_50 {ad : Nat → Nat → Nat} {m : Mem} {b : Nat} : sv LM ad m 0 b 50 = .ref (ad 37 b) := rfl
theorem stM0_50 : LM.2.1 0 50 = (3, 37) := rfl
theorem stM0_50u : (LM.2.1 0 50).1 = 3 := rfl
theorem svM0_51 {ad : Nat → Nat → Nat} {m : Mem} {b : Nat} : sv LM ad m 0 b 51 = .int (gI m 0 b 51) := rfl
theorem stM0_51 : LM.2.1 0 51 = (0, 0) := rfl
theorem stM0_51u : (LM.2.1 0 51).1 = 0 := rfl
theorem svM0_52 {ad : Nat → Nat → Nat} {m : Mem} {b : Nat} : sv LM ad m 0 b 52 = .int (gI m 0 b 52) := rfl
theorem stM0_52 : LM.2.1 0 52 = (0, 0) := rfl
theorem stM0_52u : (LM.2.1 0 52).1 = 0 := rfl
theorem svM0_53 {ad : Nat → Nat → Nat} {m : Mem} {b : Nat} : sv LM ad m 0 b 53 = .ref (ad 38 b) := rfl
theorem stM0_53 : LM.2.1 0 53 = (3, 38) := rfl
theorem stM0_53u : (LM.2.1 0 53).1 = 3 := rfl
theorem svM0_54 {ad : Nat → Nat → Nat} {m : Mem} {b : Nat} : sv LM ad m 0 b 54 = .ref (ad 39 b) := rfl
theorem stM0_54 : LM.2.1 0 54 = (3, 39) := rfl
theorem stM0_54u : (LM.2.1 0 54).1 = 3 := rfl
theorem svM0_55 {ad : Nat → Nat → Nat} {m : Mem} {b : Nat} : sv LM ad m 0 b 55 = .ref (ad 40 b) := rfl
theorem stM0_55 : LM.2.1 0 55 = (3, 40) := rfl
theorem stM0_55u : (LM.2.1 0 55).1 = 3 := rfl
theorem svM0_56 {ad : Nat → Nat → Nat} {m : Mem} {b : Nat} : sv LM ad m 0 b 56 = .ref (ad 41 b) := rfl
theorem stM0_56 : LM.2.1 0 56 = (3, 41) := rfl
theorem stM0_56u : (LM.2.1 0 56).1 = 3 := rfl
theorem svM0_57 {ad : Nat → Nat → Nat} {m : Mem} {b : Nat} : sv LM ad m 0 b 57 = .ref (ad 42 b) := rfl
theorem stM0_57 : LM.2.1 0 57 = (3, 42) := rfl
theorem stM0_57u : (LM.2.1 0 57).1 = 3 := rfl
theorem svM0_58 {ad : Nat → Nat → Nat} {m : Mem} {b : Nat} : sv LM ad m 0 b 58 = .ref (ad 43 b) := rfl
theorem stM0_58 : LM.2.1 0 58 = (3, 43) := rfl
theorem stM0_58u : (LM.2.1 0 58).1 = 3 := rfl
theorem svM0_59 {ad : Nat → Nat → Nat} {m : Mem} {b : Nat} : sv LM ad m 0 b 59 = .ref (ad 44 b) := rfl
theorem stM0_59 : LM.2.1 0 59 = (3, 44) := rfl
theorem stM0_59u : (LM.2.1 0 59).1 = 3 := rfl
theorem svM0_60 {ad : Nat → Nat → Nat} {m : Mem} {b : Nat} : sv LM ad m 0 b 60 = .ref (ad 45 b) := rfl
theorem stM0_60 : LM.2.1 0 60 = (3, 45) := rfl
theorem stM0_60u : (LM.2.1 0 60).1 = 3 := rfl
theorem svM0_61 {ad : Nat → Nat → Nat} {m : Mem} {b : Nat} : sv LM ad m 0 b 61 = .ref (ad 46 b) := rfl
theorem stM0_61 : LM.2.1 0 61 = (3, 46) := rfl
theorem stM0_61u : (LM.2.1 0 61).1 = 3 := rfl
theorem svM0_62 {ad : Nat → Nat → Nat} {m : Mem} {b : Nat} : sv LM ad m 0 b 62 = .ref (ad 47 b) := rfl
theorem stM0_62 : LM.2.1 0 62 = (3, 47) := rfl
theorem stM0_62u : (LM.2.1 0 62).1 = 3 := rfl
theorem svM0_63 {ad : Nat → Nat → Nat} {m : Mem} {b : Nat} : sv LM ad m 0 b 63 = .ref (ad 48 b) := rfl
theorem stM0_63 : LM.2.1 0 63 = (3, 48) := rfl
theorem stM0_63u : (LM.2.1 0 63).1 = 3 := rfl
theorem svM0_64 {ad : Nat → Nat → Nat} {m : Mem} {b : Nat} : sv LM ad m 0 b 64 = .ref (ad 49 b) := rfl
theorem stM0_64 : LM.2.1 0 64 = (3, 49) := rfl
theorem stM0_64u : (LM.2.1 0 64).1 = 3 := rfl
theorem svM0_65 {ad : Nat → Nat → Nat} {m : Mem} {b : Nat} : sv LM ad m 0 b 65 = .ref (ad 50 b) := rfl
theorem stM0_65 : LM.2.1 0 65 = (3, 50) := rfl
theorem stM0_65u : (LM.2.1 0 65).1 = 3 := rfl
theorem svM0_66 {ad : Nat → Nat → Nat} {m : Mem} {b : Nat} : sv LM ad m 0 b 66 = .int (gI m 0 b 66) := rfl
theorem stM0_66 : LM.2.1 0 66 = (0, 0) := rfl
theorem stM0_66u : (LM.2.1 0 66).1 = 0 := rfl
theorem svM0_67 {ad : Nat → Nat → Nat} {m : Mem} {b : Nat} : sv LM ad m 0 b 67 = .ref (ad 51 b) := rfl
theorem stM0_67 : LM.2.1 0 67 = (3, 51) := rfl
theorem stM0_67u : (LM.2.1 0 67).1 = 3 := rfl
theorem svM0_68 {ad : Nat → Nat → Nat} {m : Mem} {b : Nat} : sv LM ad m 0 b 68 = .ref (ad 52 b) := rfl
theorem stM0_68 : LM.2.1 0 68 = (3, 52) := rfl
theorem stM0_68u : (LM.2.1 0 68).1 = 3 := rfl
theorem svM0_69 {ad : Nat → Nat → Nat} {m : Mem} {b : Nat} : sv LM ad m 0 b 69 = .ref (ad 53 b) := rfl
theorem stM0_69 : LM.2.1 0 69 = (3, 53) := rfl
theorem stM0_69u : (LM.2.1 0 69).1 = 3 := rfl
theorem svM0_70 {ad : Nat → Nat → Nat} {m : Mem} {b : Nat} : sv LM ad m 0 b 70 = .ref (ad 54 b) := rfl
theorem stM0_70 : LM.2.1 0 70 = (3, 54) := rfl
theorem stM0_70u : (LM.2.1 0 70).1 = 3 := rfl
theorem svM0_71 {ad : Nat → Nat → Nat} {m : Mem} {b : Nat} : sv LM ad m 0 b 71 = .ref (ad 55 b) := rfl
theorem stM0_71 : LM.2.1 0 71 = (3, 55) := rfl
theorem stM0_71u : (LM.2.1 0 71).1 = 3 := rfl
theorem kM1 : LM.1 1 = .inr (.int, 30) := rfl
theorem lvM1 {m : Mem} {b : Nat} (h : b < 1) : b < lc LM m 1 := h
theorem svM1 {ad : Nat → Nat → Nat} {m : Mem} {b k : Nat} : sv LM ad m 1 b k = .int (gI m 1 b k) := rfl
theorem stM1 {k : Nat} : LM.2.1 1 k = (0, 0) := rfl
theorem stM1u {k : Nat} : (LM.2.1 1 k).1 = 0 := rfl
theorem kM2 : LM.1 2 = .inr (.int, 30) := rfl
theorem lvM2 {m : Mem} {b : Nat} (h : b < 1) : b < lc LM m 2 := h
theorem svM2 {ad : Nat → Nat → Nat} {m : Mem} {b k : Nat} : sv LM ad m 2 b k = .int (gI m 2 b k) := rfl
theorem stM2 {k : Nat} : LM.2.1 2 k = (0, 0) := rfl
theorem stM2u {k : Nat} : (LM.2.1 2 k).1 = 0 := rfl
theorem kM3 : LM.1 3 = .inr (.int, 8) := rfl
theorem lvM3 {m : Mem} {b : Nat} (h : b < 1) : b < lc LM m 3 := h
theorem svM3 {ad : Nat → Nat → Nat} {m : Mem} {b k : Nat} : sv LM ad m 3 b k = .int (gI m 3 b k) := rfl
theorem stM3 {k : Nat} : LM.2.1 3 k = (0, 0) := rfl
theorem stM3u {k : Nat} : (LM.2.1 3 k).1 = 0 := rfl
theorem kM4 : LM.1 4 = .inr (.int, 8) := rfl
theorem lvM4 {m : Mem} {b : Nat} (h : b < 1) : b < lc LM m 4 := h
theorem svM4 {ad : Nat → Nat → Nat} {m : Mem} {b k : Nat} : sv LM ad m 4 b k = .int (gI m 4 b k) := rfl
theorem stM4 {k : Nat} : LM.2.1 4 k = (0, 0) := rfl
theorem stM4u {k : Nat} : (LM.2.1 4 k).1 = 0 := rfl
theorem kM5 : LM.1 5 = .inr (.int, 60) := rfl
theorem lvM5 {m : Mem} {b : Nat} (h : b < 1) : b < lc LM m 5 := h
theorem svM5 {ad : Nat → Nat → Nat} {m : Mem} {b k : Nat} : sv LM ad m 5 b k = .int (gI m 5 b k) := rfl
theorem stM5 {k : Nat} : LM.2.1 5 k = (0, 0) := rfl
theorem stM5u {k : Nat} : (LM.2.1 5 k).1 = 0 := rfl
theorem kM6 : LM.1 6 = .inr (.int, 60) := rfl
theorem lvM6 {m : Mem} {b : Nat} (h : b < 1) : b < lc LM m 6 := h
theorem svM6 {ad : Nat → Nat → Nat} {m : Mem} {b k : Nat} : sv LM ad m 6 b k = .int (gI m 6 b k) := rfl
theorem stM6 {k : Nat} : LM.2.1 6 k = (0, 0) := rfl
theorem stM6u {k : Nat} : (LM.2.1 6 k).1 = 0 := rfl
theorem kM7 : LM.1 7 = .inr (.int, 60) := rfl
theorem lvM7 {m : Mem} {b : Nat} (h : b < 1) : b < lc LM m 7 := h
theorem svM7 {ad : Nat → Nat → Nat} {m : Mem} {b k : Nat} : sv LM ad m 7 b k = .int (gI m 7 b k) := rfl
theorem stM7 {k : Nat} : LM.2.1 7 k = (0, 0) := rfl
theorem stM7u {k : Nat} : (LM.2.1 7 k).1 = 0 := rfl
theorem kM8 : LM.1 8 = .inr (.int, 60) := rfl
theorem lvM8 {m : Mem} {b : Nat} (h : b < 1) : b < lc LM m 8 := h
theorem svM8 {ad : Nat → Nat → Nat} {m : Mem} {b k : Nat} : sv LM ad m 8 b k = .int (gI m 8 b k) := rfl
theorem stM8 {k : Nat} : LM.2.1 8 k = (0, 0) := rfl
theorem stM8u {k : Nat} : (LM.2.1 8 k).1 = 0 := rfl
theorem kM9 : LM.1 9 = .inr (.int, 60) := rfl
theorem lvM9 {m : Mem} {b : Nat} (h : b < 1) : b < lc LM m 9 := h
theorem svM9 {ad : Nat → Nat → Nat} {m : Mem} {b k : Nat} : sv LM ad m 9 b k = .int (gI m 9 b k) := rfl
theorem stM9 {k : Nat} : LM.2.1 9 k = (0, 0) := rfl
theorem stM9u {k : Nat} : (LM.2.1 9 k).1 = 0 := rfl
theorem kM10 : LM.1 10 = .inr (.int, 60) := rfl
theorem lvM10 {m : Mem} {b : Nat} (h : b < 1) : b < lc LM m 10 := h
theorem svM10 {ad : Nat → Nat → Nat} {m : Mem} {b k : Nat} : sv LM ad m 10 b k = .int (gI m 10 b k) := rfl
theorem stM10 {k : Nat} : LM.2.1 10 k = (0, 0) := rfl
theorem stM10u {k : Nat} : (LM.2.1 10 k).1 = 0 := rfl
theorem kM11 : LM.1 11 = .inr (.int, 60) := rfl
theorem lvM11 {m : Mem} {b : Nat} (h : b < 1) : b < lc LM m 11 := h
theorem svM11 {ad : Nat → Nat → Nat} {m : Mem} {b k : Nat} : sv LM ad m 11 b k = .int (gI m 11 b k) := rfl
theorem stM11 {k : Nat} : LM.2.1 11 k = (0, 0) := rfl
theorem stM11u {k : Nat} : (LM.2.1 11 k).1 = 0 := rfl
theorem kM12 : LM.1 12 = .inr (.int, 60) := rfl
theorem lvM12 {m : Mem} {b : Nat} (h : b < 1) : b < lc LM m 12 := h
theorem svM12 {ad : Nat → Nat → Nat} {m : Mem} {b k : Nat} : sv LM ad m 12 b k = .int (gI m 12 b k) := rfl
theorem stM12 {k : Nat} : LM.2.1 12 k = (0, 0) := rfl
theorem stM12u {k : Nat} : (LM.2.1 12 k).1 = 0 := rfl
theorem kM13 : LM.1 13 = .inr (.boolean, 60) := rfl
theorem lvM13 {m : Mem} {b : Nat} (h : b < 1) : b < lc LM m 13 := h
theorem svM13 {ad : Nat → Nat → Nat} {m : Mem} {b k : Nat} : sv LM ad m 13 b k = .int (gI m 13 b k) := rfl
theorem stM13 {k : Nat} : LM.2.1 13 k = (0, 0) := rfl
theorem stM13u {k : Nat} : (LM.2.1 13 k).1 = 0 := rfl
theorem kM14 : LM.1 14 = .inr (.int, 150) := rfl
theorem lvM14 {m : Mem} {b : Nat} (h : b < 1) : b < lc LM m 14 := h
theorem svM14 {ad : Nat → Nat → Nat} {m : Mem} {b k : Nat} : sv LM ad m 14 b k = .int (gI m 14 b k) := rfl
theorem stM14 {k : Nat} : LM.2.1 14 k = (0, 0) := rfl
theorem stM14u {k : Nat} : (LM.2.1 14 k).1 = 0 := rfl
theorem kM15 : LM.1 15 = .inr (.int, 30) := rfl
theorem lvM15 {m : Mem} {b : Nat} (h : b < 1) : b < lc LM m 15 := h
theorem svM15 {ad : Nat → Nat → Nat} {m : Mem} {b k : Nat} : sv LM ad m 15 b k = .int (gI m 15 b k) := rfl
theorem stM15 {k : Nat} : LM.2.1 15 k = (0, 0) := rfl
theorem stM15u {k : Nat} : (LM.2.1 15 k).1 = 0 := rfl
theorem kM16 : LM.1 16 = .inr (.int, 720) := rfl
theorem lvM16 {m : Mem} {b : Nat} (h : b < 1) : b < lc LM m 16 := h
theorem svM16 {ad : Nat → Nat → Nat} {m : Mem} {b k : Nat} : sv LM ad m 16 b k = .int (gI m 16 b k) := rfl
theorem stM16 {k : Nat} : LM.2.1 16 k = (0, 0) := rfl
theorem stM16u {k : Nat} : (LM.2.1 16 k).1 = 0 := rfl
theorem kM17 : LM.1 17 = .inr (.int, 30) := rfl
theorem lvM17 {m : Mem} {b : Nat} (h : b < 1) : b < lc LM m 17 := h
theorem svM17 {ad : Nat → Nat → Nat} {m : Mem} {b k : Nat} : sv LM ad m 17 b k = .int (gI m 17 b k) := rfl
theorem stM17 {k : Nat} : LM.2.1 17 k = (0, 0) := rfl
theorem stM17u {k : Nat} : (LM.2.1 17 k).1 = 0 := rfl
theorem kM18 : LM.1 18 = .inr (.int, 30) := rfl
theorem lvM18 {m : Mem} {b : Nat} (h : b < 1) : b < lc LM m 18 := h
theorem svM18 {ad : Nat → Nat → Nat} {m : Mem} {b k : Nat} : sv LM ad m 18 b k = .int (gI m 18 b k) := rfl
theorem stM18 {k : Nat} : LM.2.1 18 k = (0, 0) := rfl
theorem stM18u {k : Nat} : (LM.2.1 18 k).1 = 0 := rfl
theorem kM19 : LM.1 19 = .inr (.int, 10) := rfl
theorem lvM19 {m : Mem} {b : Nat} (h : b < 1) : b < lc LM m 19 := h
theorem svM19 {ad : Nat → Nat → Nat} {m : Mem} {b k : Nat} : sv LM ad m 19 b k = .int (gI m 19 b k) := rfl
theorem stM19 {k : Nat} : LM.2.1 19 k = (0, 0) := rfl
theorem stM19u {k : Nat} : (LM.2.1 19 k).1 = 0 := rfl
theorem kM20 : LM.1 20 = .inr (.int, 1100) := rfl
theorem lvM20 {m : Mem} {b : Nat} (h : b < 1) : b < lc LM m 20 := h
theorem svM20 {ad : Nat → Nat → Nat} {m : Mem} {b k : Nat} : sv LM ad m 20 b k = .int (gI m 20 b k) := rfl
theorem stM20 {k : Nat} : LM.2.1 20 k = (0, 0) := rfl
theorem stM20u {k : Nat} : (LM.2.1 20 k).1 = 0 := rfl
theorem kM21 : LM.1 21 = .inr (.int, 11) := rfl
theorem lvM21 {m : Mem} {b : Nat} (h : b < 1) : b < lc LM m 21 := h
theorem svM21 {ad : Nat → Nat → Nat} {m : Mem} {b k : Nat} : sv LM ad m 21 b k = .int (gI m 21 b k) := rfl
theorem stM21 {k : Nat} : LM.2.1 21 k = (0, 0) := rfl
theorem stM21u {k : Nat} : (LM.2.1 21 k).1 = 0 := rfl
theorem kM22 : LM.1 22 = .inr (.int, 6) := rfl
theorem lvM22 {m : Mem} {b : Nat} (h : b < 1) : b < lc LM m 22 := h
theorem svM22 {ad : Nat → Nat → Nat} {m : Mem} {b k : Nat} : sv LM ad m 22 b k = .int (gI m 22 b k) := rfl
theorem stM22 {k : Nat} : LM.2.1 22 k = (0, 0) := rfl
theorem stM22u {k : Nat} : (LM.2.1 22 k).1 = 0 := rfl
theorem kM23 : LM.1 23 = .inr (.int, 6) := rfl
theorem lvM23 {m : Mem} {b : Nat} (h : b < 1) : b < lc LM m 23 := h
theorem svM23 {ad : Nat → Nat → Nat} {m : Mem} {b k : Nat} : sv LM ad m 23 b k = .int (gI m 23 b k) := rfl
theorem stM23 {k : Nat} : LM.2.1 23 k = (0, 0) := rfl
theorem stM23u {k : Nat} : (LM.2.1 23 k).1 = 0 := rfl
theorem kM24 : LM.1 24 = .inr (.int, 6) := rfl
theorem lvM24 {m : Mem} {b : Nat} (h : b < 1) : b < lc LM m 24 := h
theorem svM24 {ad : Nat → Nat → Nat} {m : Mem} {b k : Nat} : sv LM ad m 24 b k = .int (gI m 24 b k) := rfl
theorem stM24 {k : Nat} : LM.2.1 24 k = (0, 0) := rfl
theorem stM24u {k : Nat} : (LM.2.1 24 k).1 = 0 := rfl
theorem kM25 : LM.1 25 = .inr (.boolean, 6) := rfl
theorem lvM25 {m : Mem} {b : Nat} (h : b < 1) : b < lc LM m 25 := h
theorem svM25 {ad : Nat → Nat → Nat} {m : Mem} {b k : Nat} : sv LM ad m 25 b k = .int (gI m 25 b k) := rfl
theorem stM25 {k : Nat} : LM.2.1 25 k = (0, 0) := rfl
theorem stM25u {k : Nat} : (LM.2.1 25 k).1 = 0 := rfl
theorem kM26 : LM.1 26 = .inr (.int, 101) := rfl
theorem lvM26 {m : Mem} {b : Nat} (h : b < 1) : b < lc LM m 26 := h
theorem svM26 {ad : Nat → Nat → Nat} {m : Mem} {b k : Nat} : sv LM ad m 26 b k = .int (gI m 26 b k) := rfl
theorem stM26 {k : Nat} : LM.2.1 26 k = (0, 0) := rfl
theorem stM26u {k : Nat} : (LM.2.1 26 k).1 = 0 := rfl
theorem kM27 : LM.1 27 = .inr (.boolean, 101) := rfl
theorem lvM27 {m : Mem} {b : Nat} (h : b < 1) : b < lc LM m 27 := h
theorem svM27 {ad : Nat → Nat → Nat} {m : Mem} {b k : Nat} : sv LM ad m 27 b k = .int (gI m 27 b k) := rfl
theorem stM27 {k : Nat} : LM.2.1 27 k = (0, 0) := rfl
theorem stM27u {k : Nat} : (LM.2.1 27 k).1 = 0 := rfl
theorem kM28 : LM.1 28 = .inr (.int, 24) := rfl
theorem lvM28 {m : Mem} {b : Nat} (h : b < 1) : b < lc LM m 28 := h
theorem svM28 {ad : Nat → Nat → Nat} {m : Mem} {b k : Nat} : sv LM ad m 28 b k = .int (gI m 28 b k) := rfl
theorem stM28 {k : Nat} : LM.2.1 28 k = (0, 0) := rfl
theorem stM28u {k : Nat} : (LM.2.1 28 k).1 = 0 := rfl
theorem kM29 : LM.1 29 = .inr (.int, 30) := rfl
theorem lvM29 {m : Mem} {b : Nat} (h : b < 1) : b < lc LM m 29 := h
theorem svM29 {ad : Nat → Nat → Nat} {m : Mem} {b k : Nat} : sv LM ad m 29 b k = .int (gI m 29 b k) := rfl
theorem stM29 {k : Nat} : LM.2.1 29 k = (0, 0) := rfl
theorem stM29u {k : Nat} : (LM.2.1 29 k).1 = 0 := rfl
theorem kM30 : LM.1 30 = .inr (.int, 30) := rfl
theorem lvM30 {m : Mem} {b : Nat} (h : b < 1) : b < lc LM m 30 := h
theorem svM30 {ad : Nat → Nat → Nat} {m : Mem} {b k : Nat} : sv LM ad m 30 b k = .int (gI m 30 b k) := rfl
theorem stM30 {k : Nat} : LM.2.1 30 k = (0, 0) := rfl
theorem stM30u {k : Nat} : (LM.2.1 30 k).1 = 0 := rfl
theorem kM31 : LM.1 31 = .inr (.int, 30) := rfl
theorem lvM31 {m : Mem} {b : Nat} (h : b < 1) : b < lc LM m 31 := h
theorem svM31 {ad : Nat → Nat → Nat} {m : Mem} {b k : Nat} : sv LM ad m 31 b k = .int (gI m 31 b k) := rfl
theorem stM31 {k : Nat} : LM.2.1 31 k = (0, 0) := rfl
theorem stM31u {k : Nat} : (LM.2.1 31 k).1 = 0 := rfl
theorem kM32 : LM.1 32 = .inr (.int, 10) := rfl
theorem lvM32 {m : Mem} {b : Nat} (h : b < 1) : b < lc LM m 32 := h
theorem svM32 {ad : Nat → Nat → Nat} {m : Mem} {b k : Nat} : sv LM ad m 32 b k = .int (gI m 32 b k) := rfl
theorem stM32 {k : Nat} : LM.2.1 32 k = (0, 0) := rfl
theorem stM32u {k : Nat} : (LM.2.1 32 k).1 = 0 := rfl
theorem kM33 : LM.1 33 = .inr (.int, 10) := rfl
theorem lvM33 {m : Mem} {b : Nat} (h : b < 1) : b < lc LM m 33 := h
theorem svM33 {ad : Nat → Nat → Nat} {m : Mem} {b k : Nat} : sv LM ad m 33 b k = .int (gI m 33 b k) := rfl
theorem stM33 {k : Nat} : LM.2.1 33 k = (0, 0) := rfl
theorem stM33u {k : Nat} : (LM.2.1 33 k).1 = 0 := rfl
theorem kM34 : LM.1 34 = .inr (.int, 10) := rfl
theorem lvM34 {m : Mem} {b : Nat} (h : b < 1) : b < lc LM m 34 := h
theorem svM34 {ad : Nat → Nat → Nat} {m : Mem} {b k : Nat} : sv LM ad m 34 b k = .int (gI m 34 b k) := rfl
theorem stM34 {k : Nat} : LM.2.1 34 k = (0, 0) := rfl
theorem stM34u {k : Nat} : (LM.2.1 34 k).1 = 0 := rfl
theorem kM35 : LM.1 35 = .inr (.int, 10) := rfl
theorem lvM35 {m : Mem} {b : Nat} (h : b < 1) : b < lc LM m 35 := h
theorem svM35 {ad : Nat → Nat → Nat} {m : Mem} {b k : Nat} : sv LM ad m 35 b k = .int (gI m 35 b k) := rfl
theorem stM35 {k : Nat} : LM.2.1 35 k = (0, 0) := rfl
theorem stM35u {k : Nat} : (LM.2.1 35 k).1 = 0 := rfl
theorem kM36 : LM.1 36 = .inr (.boolean, 30) := rfl
theorem lvM36 {m : Mem} {b : Nat} (h : b < 1) : b < lc LM m 36 := h
theorem svM36 {ad : Nat → Nat → Nat} {m : Mem} {b k : Nat} : sv LM ad m 36 b k = .int (gI m 36 b k) := rfl
theorem stM36 {k : Nat} : LM.2.1 36 k = (0, 0) := rfl
theorem stM36u {k : Nat} : (LM.2.1 36 k).1 = 0 := rfl
theorem kM37 : LM.1 37 = .inr (.boolean, 30) := rfl
theorem lvM37 {m : Mem} {b : Nat} (h : b < 1) : b < lc LM m 37 := h
theorem svM37 {ad : Nat → Nat → Nat} {m : Mem} {b k : Nat} : sv LM ad m 37 b k = .int (gI m 37 b k) := rfl
theorem stM37 {k : Nat} : LM.2.1 37 k = (0, 0) := rfl
theorem stM37u {k : Nat} : (LM.2.1 37 k).1 = 0 := rfl
theorem kM38 : LM.1 38 = .inr (.int, 20) := rfl
theorem lvM38 {m : Mem} {b : Nat} (h : b < 1) : b < lc LM m 38 := h
theorem svM38 {ad : Nat → Nat → Nat} {m : Mem} {b k : Nat} : sv LM ad m 38 b k = .int (gI m 38 b k) := rfl
theorem stM38 {k : Nat} : LM.2.1 38 k = (0, 0) := rfl
theorem stM38u {k : Nat} : (LM.2.1 38 k).1 = 0 := rfl
theorem kM39 : LM.1 39 = .inr (.int, 20) := rfl
theorem lvM39 {m : Mem} {b : Nat} (h : b < 1) : b < lc LM m 39 := h
theorem svM39 {ad : Nat → Nat → Nat} {m : Mem} {b k : Nat} : sv LM ad m 39 b k = .int (gI m 39 b k) := rfl
theorem stM39 {k : Nat} : LM.2.1 39 k = (0, 0) := rfl
theorem stM39u {k : Nat} : (LM.2.1 39 k).1 = 0 := rfl
theorem kM40 : LM.1 40 = .inr (.int, 20) := rfl
theorem lvM40 {m : Mem} {b : Nat} (h : b < 1) : b < lc LM m 40 := h
theorem svM40 {ad : Nat → Nat → Nat} {m : Mem} {b k : Nat} : sv LM ad m 40 b k = .int (gI m 40 b k) := rfl
theorem stM40 {k : Nat} : LM.2.1 40 k = (0, 0) := rfl
theorem stM40u {k : Nat} : (LM.2.1 40 k).1 = 0 := rfl
theorem kM41 : LM.1 41 = .inr (.int, 8) := rfl
theorem lvM41 {m : Mem} {b : Nat} (h : b < 1) : b < lc LM m 41 := h
theorem svM41 {ad : Nat → Nat → Nat} {m : Mem} {b k : Nat} : sv LM ad m 41 b k = .int (gI m 41 b k) := rfl
theorem stM41 {k : Nat} : LM.2.1 41 k = (0, 0) := rfl
theorem stM41u {k : Nat} : (LM.2.1 41 k).1 = 0 := rfl
theorem kM42 : LM.1 42 = .inr (.int, 8) := rfl
theorem lvM42 {m : Mem} {b : Nat} (h : b < 1) : b < lc LM m 42 := h
theorem svM42 {ad : Nat → Nat → Nat} {m : Mem} {b k : Nat} : sv LM ad m 42 b k = .int (gI m 42 b k) := rfl
theorem stM42 {k : Nat} : LM.2.1 42 k = (0, 0) := rfl
theorem stM42u {k : Nat} : (LM.2.1 42 k).1 = 0 := rfl
theorem kM43 : LM.1 43 = .inr (.int, 8) := rfl
theorem lvM43 {m : Mem} {b : Nat} (h : b < 1) : b < lc LM m 43 := h
theorem svM43 {ad : Nat → Nat → Nat} {m : Mem} {b k : Nat} : sv LM ad m 43 b k = .int (gI m 43 b k) := rfl
theorem stM43 {k : Nat} : LM.2.1 43 k = (0, 0) := rfl
theorem stM43u {k : Nat} : (LM.2.1 43 k).1 = 0 := rfl
theorem kM44 : LM.1 44 = .inr (.int, 8) := rfl
theorem lvM44 {m : Mem} {b : Nat} (h : b < 1) : b < lc LM m 44 := h
theorem svM44 {ad : Nat → Nat → Nat} {m : Mem} {b k : Nat} : sv LM ad m 44 b k = .int (gI m 44 b k) := rfl
theorem stM44 {k : Nat} : LM.2.1 44 k = (0, 0) := rfl
theorem stM44u {k : Nat} : (LM.2.1 44 k).1 = 0 := rfl
theorem kM45 : LM.1 45 = .inr (.int, 20) := rfl
theorem lvM45 {m : Mem} {b : Nat} (h : b < 1) : b < lc LM m 45 := h
theorem svM45 {ad : Nat → Nat → Nat} {m : Mem} {b k : Nat} : sv LM ad m 45 b k = .int (gI m 45 b k) := rfl
theorem stM45 {k : Nat} : LM.2.1 45 k = (0, 0) := rfl
theorem stM45u {k : Nat} : (LM.2.1 45 k).1 = 0 := rfl
theorem kM46 : LM.1 46 = .inr (.int, 20) := rfl
theorem lvM46 {m : Mem} {b : Nat} (h : b < 1) : b < lc LM m 46 := h
theorem svM46 {ad : Nat → Nat → Nat} {m : Mem} {b k : Nat} : sv LM ad m 46 b k = .int (gI m 46 b k) := rfl
theorem stM46 {k : Nat} : LM.2.1 46 k = (0, 0) := rfl
theorem stM46u {k : Nat} : (LM.2.1 46 k).1 = 0 := rfl
theorem kM47 : LM.1 47 = .inr (.int, 8) := rfl
theorem lvM47 {m : Mem} {b : Nat} (h : b < 1) : b < lc LM m 47 := h
theorem svM47 {ad : Nat → Nat → Nat} {m : Mem} {b k : Nat} : sv LM ad m 47 b k = .int (gI m 47 b k) := rfl
theorem stM47 {k : Nat} : LM.2.1 47 k = (0, 0) := rfl
theorem stM47u {k : Nat} : (LM.2.1 47 k).1 = 0 := rfl
theorem kM48 : LM.1 48 = .inr (.int, 8) := rfl
theorem lvM48 {m : Mem} {b : Nat} (h : b < 1) : b < lc LM m 48 := h
theorem svM48 {ad : Nat → Nat → Nat} {m : Mem} {b k : Nat} : sv LM ad m 48 b k = .int (gI m 48 b k) := rfl
theorem stM48 {k : Nat} : LM.2.1 48 k = (0, 0) := rfl
theorem stM48u {k : Nat} : (LM.2.1 48 k).1 = 0 := rfl
theorem kM49 : LM.1 49 = .inr (.int, 8) := rfl
theorem lvM49 {m : Mem} {b : Nat} (h : b < 1) : b < lc LM m 49 := h
theorem svM49 {ad : Nat → Nat → Nat} {m : Mem} {b k : Nat} : sv LM ad m 49 b k = .int (gI m 49 b k) := rfl
theorem stM49 {k : Nat} : LM.2.1 49 k = (0, 0) := rfl
theorem stM49u {k : Nat} : (LM.2.1 49 k).1 = 0 := rfl
theorem kM50 : LM.1 50 = .inr (.boolean, 150) := rfl
theorem lvM50 {m : Mem} {b : Nat} (h : b < 1) : b < lc LM m 50 := h
theorem svM50 {ad : Nat → Nat → Nat} {m : Mem} {b k : Nat} : sv LM ad m 50 b k = .int (gI m 50 b k) := rfl
theorem stM50 {k : Nat} : LM.2.1 50 k = (0, 0) := rfl
theorem stM50u {k : Nat} : (LM.2.1 50 k).1 = 0 := rfl
theorem kM51 : LM.1 51 = .inr (.int, 20) := rfl
theorem lvM51 {m : Mem} {b : Nat} (h : b < 1) : b < lc LM m 51 := h
theorem svM51 {ad : Nat → Nat → Nat} {m : Mem} {b k : Nat} : sv LM ad m 51 b k = .int (gI m 51 b k) := rfl
theorem stM51 {k : Nat} : LM.2.1 51 k = (0, 0) := rfl
theorem stM51u {k : Nat} : (LM.2.1 51 k).1 = 0 := rfl
theorem kM52 : LM.1 52 = .inr (.int, 6) := rfl
theorem lvM52 {m : Mem} {b : Nat} (h : b < 1) : b < lc LM m 52 := h
theorem svM52 {ad : Nat → Nat → Nat} {m : Mem} {b k : Nat} : sv LM ad m 52 b k = .int (gI m 52 b k) := rfl
theorem stM52 {k : Nat} : LM.2.1 52 k = (0, 0) := rfl
theorem stM52u {k : Nat} : (LM.2.1 52 k).1 = 0 := rfl
theorem kM53 : LM.1 53 = .inr (.int, 6) := rfl
theorem lvM53 {m : Mem} {b : Nat} (h : b < 1) : b < lc LM m 53 := h
theorem svM53 {ad : Nat → Nat → Nat} {m : Mem} {b k : Nat} : sv LM ad m 53 b k = .int (gI m 53 b k) := rfl
theorem stM53 {k : Nat} : LM.2.1 53 k = (0, 0) := rfl
theorem stM53u {k : Nat} : (LM.2.1 53 k).1 = 0 := rfl
theorem kM54 : LM.1 54 = .inr (.long, 360) := rfl
theorem lvM54 {m : Mem} {b : Nat} (h : b < 1) : b < lc LM m 54 := h
theorem svM54 {ad : Nat → Nat → Nat} {m : Mem} {b k : Nat} : sv LM ad m 54 b k = .long (gL m 54 b k) := rfl
theorem stM54 {k : Nat} : LM.2.1 54 k = (1, 0) := rfl
theorem stM54u {k : Nat} : (LM.2.1 54 k).1 = 1 := rfl
theorem kM55 : LM.1 55 = .inr (.long, 60) := rfl
theorem lvM55 {m : Mem} {b : Nat} (h : b < 1) : b < lc LM m 55 := h
theorem svM55 {ad : Nat → Nat → Nat} {m : Mem} {b k : Nat} : sv LM ad m 55 b k = .long (gL m 55 b k) := rfl
theorem stM55 {k : Nat} : LM.2.1 55 k = (1, 0) := rfl
theorem stM55u {k : Nat} : (LM.2.1 55 k).1 = 1 := rfl
theorem lcHC {m : Mem} : ∀ r, 900 ≤ r → lc LC m r = 0 := by
  intro r h
  show ([1, 1, 1, 1, 1, 1, 1, 1, 1, 1, 1, 1, 1, 30, 30, 30, 1, 1, 1, 10, 10, 10, 10, gR m 999 23 0, gR m 999 24 0, 1, 1, 1, 1, 1, 1, 1, 1, 1, 1, 1, 1, 1, 1, 1, 1, 1, 6, 6] : List Nat).getD r 0 = 0
  exact getD_hi _ _ (by show 44 ≤ r; omega)
theorem newC23 {ad : Nat → Nat → Nat} {m m1 : Mem} {b : Nat} (eb : b = gR m 999 23 0) (em : m1 = sN m 23) (j : Nat) (hj : j < 11) : defaultValue (tyX4 j) = sv LC ad m1 23 b j := by
  rcases (show j = 0 ∨ j = 1 ∨ j = 2 ∨ j = 3 ∨ j = 4 ∨ j = 5 ∨ j = 6 ∨ j = 7 ∨ j = 8 ∨ j = 9 ∨ j = 10 by omega) with rfl | rfl | rfl | rfl | rfl | rfl | rfl | rfl | rfl | rfl | rfl <;>
    (rw [em]; unfold sv; show Value.int 0 = Value.int _; rw [gI_sN, if_pos ⟨rfl, eb⟩])
theorem lcNC23 {m m1 : Mem} {b : Nat} (eb : b = gR m 999 23 0) (em : m1 = sN m 23) : lc LC m1 23 = b + 1 := by
  rw [em, eb]
  show gR (sN m 23) 999 23 0 = _
  rw [gR_sN, if_pos ⟨rfl, rfl, rfl⟩]
theorem lcOC23 {m m1 : Mem} (em : m1 = sN m 23) : ∀ r, r ≠ 23 → lc LC m1 r = lc LC m r := by
  intro r hr
  subst em
  show cnC (fun q => gR (sN m 23) 999 q 0) r = cnC (fun q => gR m 999 q 0) r
  have h : (fun q => gR (sN m 23) 999 q 0) = fun q => if q = 23 then gR m 999 23 0 + 1 else gR m 999 q 0 := by
    funext q
    rw [gR_sN]
    by_cases e : q = 23
    · subst e; simp
    · simp [e]
  rw [h]
  by_cases hlt : r < 44
  · have hd : ∀ z : Nat, z < 44 → z ≠ 23 → cnC (fun q => if q = 23 then gR m 999 23 0 + 1 else gR m 999 q 0) z = cnC (fun q => gR m 999 q 0) z := by
      intro z hz hn
      rcases (show z = 0 ∨ z = 1 ∨ z = 2 ∨ z = 3 ∨ z = 4 ∨ z = 5 ∨ z = 6 ∨ z = 7 ∨ z = 8 ∨ z = 9 ∨ z = 10 ∨ z = 11 ∨ z = 12 ∨ z = 13 ∨ z = 14 ∨ z = 15 ∨ z = 16 ∨ z = 17 ∨ z = 18 ∨ z = 19 ∨ z = 20 ∨ z = 21 ∨ z = 22 ∨ z = 23 ∨ z = 24 ∨ z = 25 ∨ z = 26 ∨ z = 27 ∨ z = 28 ∨ z = 29 ∨ z = 30 ∨ z = 31 ∨ z = 32 ∨ z = 33 ∨ z = 34 ∨ z = 35 ∨ z = 36 ∨ z = 37 ∨ z = 38 ∨ z = 39 ∨ z = 40 ∨ z = 41 ∨ z = 42 ∨ z = 43 by omega) with rfl | rfl | rfl | rfl | rfl | rfl | rfl | rfl | rfl | rfl | rfl | rfl | rfl | rfl | rfl | rfl | rfl | rfl | rfl | rfl | rfl | rfl | rfl | rfl | rfl | rfl | rfl | rfl | rfl | rfl | rfl | rfl | rfl | rfl | rfl | rfl | rfl | rfl | rfl | rfl | rfl | rfl | rfl | rfl <;> first | rfl | exact absurd rfl hn
    exact hd r hlt hr
  · unfold cnC
    rw [getD_hi _ _ (by show 44 ≤ r; omega), getD_hi _ _ (by show 44 ≤ r; omega)]
theorem newC24 {ad : Nat → Nat → Nat} {m m1 : Mem} {b : Nat} (eb : b = gR m 999 24 0) (em : m1 = sN m 24) (j : Nat) (hj : j < 5) : defaultValue (tyX2 j) = sv LC ad m1 24 b j := by
  rcases (show j = 0 ∨ j = 1 ∨ j = 2 ∨ j = 3 ∨ j = 4 by omega) with rfl | rfl | rfl | rfl | rfl <;>
    (rw [em]; unfold sv; show Value.int 0 = Value.int _; rw [gI_sN, if_pos ⟨rfl, eb⟩])
theorem lcNC24 {m m1 : Mem} {b : Nat} (eb : b = gR m 999 24 0) (em : m1 = sN m 24) : lc LC m1 24 = b + 1 := by
  rw [em, eb]
  show gR (sN m 24) 999 24 0 = _
  rw [gR_sN, if_pos ⟨rfl, rfl, rfl⟩]
theorem lcOC24 {m m1 : Mem} (em : m1 = sN m 24) : ∀ r, r ≠ 24 → lc LC m1 r = lc LC m r := by
  intro r hr
  subst em
  show cnC (fun q => gR (sN m 24) 999 q 0) r = cnC (fun q => gR m 999 q 0) r
  have h : (fun q => gR (sN m 24) 999 q 0) = fun q => if q = 24 then gR m 999 24 0 + 1 else gR m 999 q 0 := by
    funext q
    rw [gR_sN]
    by_cases e : q = 24
    · subst e; simp
    · simp [e]
  rw [h]
  by_cases hlt : r < 44
  · have hd : ∀ z : Nat, z < 44 → z ≠ 24 → cnC (fun q => if q = 24 then gR m 999 24 0 + 1 else gR m 999 q 0) z = cnC (fun q => gR m 999 q 0) z := by
      intro z hz hn
      rcases (show z = 0 ∨ z = 1 ∨ z = 2 ∨ z = 3 ∨ z = 4 ∨ z = 5 ∨ z = 6 ∨ z = 7 ∨ z = 8 ∨ z = 9 ∨ z = 10 ∨ z = 11 ∨ z = 12 ∨ z = 13 ∨ z = 14 ∨ z = 15 ∨ z = 16 ∨ z = 17 ∨ z = 18 ∨ z = 19 ∨ z = 20 ∨ z = 21 ∨ z = 22 ∨ z = 23 ∨ z = 24 ∨ z = 25 ∨ z = 26 ∨ z = 27 ∨ z = 28 ∨ z = 29 ∨ z = 30 ∨ z = 31 ∨ z = 32 ∨ z = 33 ∨ z = 34 ∨ z = 35 ∨ z = 36 ∨ z = 37 ∨ z = 38 ∨ z = 39 ∨ z = 40 ∨ z = 41 ∨ z = 42 ∨ z = 43 by omega) with rfl | rfl | rfl | rfl | rfl | rfl | rfl | rfl | rfl | rfl | rfl | rfl | rfl | rfl | rfl | rfl | rfl | rfl | rfl | rfl | rfl | rfl | rfl | rfl | rfl | rfl | rfl | rfl | rfl | rfl | rfl | rfl | rfl | rfl | rfl | rfl | rfl | rfl | rfl | rfl | rfl | rfl | rfl | rfl <;> first | rfl | exact absurd rfl hn
    exact hd r hlt hr
  · unfold cnC
    rw [getD_hi _ _ (by show 44 ≤ r; omega), getD_hi _ _ (by show 44 ≤ r; omega)]
theorem zc0 : zcl[0]? = some (RX0, TX0, 2) := rfl
theorem zc1 : zcl[1]? = some (RX1, TX1, 8) := rfl
theorem zc2 : zcl[2]? = some (RX2, TX2, 5) := rfl
theorem zc3 : zcl[3]? = some (RX3, TX3, 3) := rfl
theorem zc4 : zcl[4]? = some (RX4, TX4, 11) := rfl
theorem zc5 : zcl[5]? = some (RX5, TX5, 3) := rfl
theorem zc6 : zcl[6]? = some (RX6, TX6, 10) := rfl
theorem zc7 : zcl[7]? = some (RX7, TX7, 4) := rfl
theorem zc8 : zcl[8]? = some (RX8, TX8, 3) := rfl
theorem zc9 : zcl[9]? = some (RX9, TX9, 6) := rfl
theorem zc10 : zcl[10]? = some (RX10, TX10, 5) := rfl
theorem zc11 : zcl[11]? = some (RX11, TX11, 15) := rfl
theorem zc12 : zcl[12]? = some (RX12, TX12, 72) := rfl
