def f_X0_bodyAt (fl : Nat) (a1 : Int32) (M0 : Mem) : Option (Int32 × Mem) :=
  if a1 < 0 then
    some ((-1), M0)
  else
    if (gI M0 11 0 0) ≤ a1 then
      some ((-1), M0)
    else
      if 20 ≤ a1 then
        some ((-1), M0)
      else
        asr (vq a1 20) <|
        some ((gI M0 41 0 (Int32.toNatClampNeg a1)), M0)
def f_X0_begin_b29 (fl : Nat) (M0 : Mem) : Option (Mem) :=
  lt1 (sI M0 11 0 0 ((gI M0 11 0 0) + 1)) fun m3 =>
  some m3
def f_X0_begin (fl : Nat) (a1 : Int32) (M0 : Mem) : Option (Mem) :=
  bn1 (
    if (gI M0 11 0 0) < 0 then
      some M0
    else
      if 20 ≤ (gI M0 11 0 0) then
        some M0
      else
        asr (vq (gI M0 11 0 0) 20) <|
        lt1 (sI M0 41 0 (Int32.toNatClampNeg (gI M0 11 0 0)) a1) fun m7 =>
        some m7
  ) fun m2 =>
  f_X0_begin_b29 fl  m2
def f_X0_fitsFrom_b (rk : Nat → Int32 → Int32 → Mem → Option (Int32 × Mem)) (fl : Nat) (a1 : Nat) (a2 : Int32) (a3 : Int32) (M0 : Mem) : Option (Int32 × Mem) :=
  if a2 = 1 then
    bn1 (f_X0_begin fl 20 M0) fun m2 =>
    bn2 (rk a1 0 a3 m2) fun v4 m3 =>
    drf (gR m3 999 23 0) a1 fun j5 =>
    some ((v4 ^^^ (gI m3 23 j5 0)), m3)
  else
  if a2 = 3 then
    bn1 (f_X0_begin fl 40 M0) fun m9 =>
    bn2 (rk a1 0 a3 m9) fun v11 m10 =>
    some ((-v11), m10)
  else
  if a2 = 6 then
    bn1 (f_X0_begin fl 70 M0) fun m13 =>
    bn2 (rk a1 1 (a3 - 2) m13) fun v15 m14 =>
    some (v15, m14)
  else
    bn1 (f_X0_begin fl 10 M0) fun m16 =>
    drf (gR m16 999 23 0) a1 fun j17 =>
    some ((a3 + (gI m16 23 j17 4)), m16)
def f_X0_fitsFrom (fl : Nat) : Nat → Nat → Int32 → Int32 → Mem → Option (Int32 × Mem)
  | 0 => fun _ _ _ _ => none
  | d + 1 => fun a1 a2 a3 M0 => f_X0_fitsFrom_b (f_X0_fitsFrom fl d) fl a1 a2 a3 M0
def f_X0_bearsFrom_b (rk : Nat → Int32 → Int32 → Mem → Option (Int32 × Mem)) (fl : Nat) (a1 : Nat) (a2 : Int32) (a3 : Int32) (M0 : Mem) : Option (Int32 × Mem) :=
  if a2 = 2 then
    bn1 (f_X0_begin fl 30 M0) fun m2 =>
    bn2 (rk a1 0 (a3 * 3) m2) fun v4 m3 =>
    some (v4, m3)
  else
  if a2 = 3 then
    bn1 (f_X0_begin fl 11 M0) fun m6 =>
    drf (gR m6 999 23 0) a1 fun j7 =>
    bn2 (f_X0_fitsFrom fl 8 (j7 + 1) (gI m6 23 j7 1) a3 m6) fun v11 m10 =>
    asr (j7 < gR m10 999 23 0) <|
    some ((v11 - (gI m10 23 j7 2)), m10)
  else
  if a2 = 4 then
    bn1 (f_X0_begin fl 50 M0) fun m14 =>
    bn2 (rk a1 0 a3 m14) fun v16 m15 =>
    bn2 (f_X0_fitsFrom fl 8 a1 0 2 m15) fun v18 m17 =>
    some ((v16 + v18), m17)
  else
  if a2 = 5 then
    bn1 (f_X0_begin fl 11 M0) fun m20 =>
    drf (gR m20 999 23 0) a1 fun j21 =>
    bn2 (f_X0_fitsFrom fl 8 (j21 + 1) (gI m20 23 j21 1) a3 m20) fun v25 m24 =>
    asr (j21 < gR m24 999 23 0) <|
    some ((v25 - (gI m24 23 j21 2)), m24)
  else
  if a2 = 6 then
    bn1 (f_X0_begin fl 71 M0) fun m28 =>
    bn2 (rk a1 0 a3 m28) fun v30 m29 =>
    some ((v30 * 5), m29)
  else
    bn1 (f_X0_begin fl 11 M0) fun m31 =>
    drf (gR m31 999 23 0) a1 fun j32 =>
    bn2 (f_X0_fitsFrom fl 8 (j32 + 1) (gI m31 23 j32 1) a3 m31) fun v36 m35 =>
    asr (j32 < gR m35 999 23 0) <|
    some ((v36 - (gI m35 23 j32 2)), m35)
def f_X0_bearsFrom (fl : Nat) : Nat → Nat → Int32 → Int32 → Mem → Option (Int32 × Mem)
  | 0 => fun _ _ _ _ => none
  | d + 1 => fun a1 a2 a3 M0 => f_X0_bearsFrom_b (f_X0_bearsFrom fl d) fl a1 a2 a3 M0
def f_X0_endsFrom_b (rk : Nat → Int32 → Int32 → Mem → Option (Int32 × Mem)) (fl : Nat) (a1 : Nat) (a2 : Int32) (a3 : Int32) (M0 : Mem) : Option (Int32 × Mem) :=
  if a2 = 1 then
    bn1 (f_X0_begin fl 21 M0) fun m2 =>
    bn2 (rk a1 0 a3 m2) fun v4 m3 =>
    drf (gR m3 999 23 0) a1 fun j5 =>
    bn2 (f_X0_fitsFrom fl 8 (j5 + 1) (gI m3 23 j5 1) 1 m3) fun v9 m8 =>
    some ((v4 + v9), m8)
  else
  if a2 = 5 then
    bn1 (f_X0_begin fl 60 M0) fun m11 =>
    drf (gR m11 999 23 0) a1 fun j12 =>
    bn2 (f_X0_bearsFrom fl 8 (j12 + 1) (gI m11 23 j12 1) a3 m11) fun v16 m15 =>
    bn2 (rk (j12 + 1) 0 a3 m15) fun v18 m17 =>
    some ((v16 - v18), m17)
  else
  if a2 = 6 then
    bn1 (f_X0_begin fl 21 M0) fun m20 =>
    bn2 (rk a1 0 a3 m20) fun v22 m21 =>
    drf (gR m21 999 23 0) a1 fun j23 =>
    bn2 (f_X0_fitsFrom fl 8 (j23 + 1) (gI m21 23 j23 1) 1 m21) fun v27 m26 =>
    some ((v22 + v27), m26)
  else
    bn1 (f_X0_begin fl 12 M0) fun m28 =>
    drf (gR m28 999 23 0) a1 fun j29 =>
    bn2 (f_X0_bearsFrom fl 8 (j29 + 1) (gI m28 23 j29 1) a3 m28) fun v33 m32 =>
    some ((v33 * 2), m32)
def f_X0_endsFrom (fl : Nat) : Nat → Nat → Int32 → Int32 → Mem → Option (Int32 × Mem)
  | 0 => fun _ _ _ _ => none
  | d + 1 => fun a1 a2 a3 M0 => f_X0_endsFrom_b (f_X0_endsFrom fl d) fl a1 a2 a3 M0
def f_X0_perform (fl : Nat) (a1 : Nat) (a2 : Int32) (a3 : Int32) (M0 : Mem) : Option (Int32 × Mem) :=
  if a2 = 0 then
    drf (gR M0 999 23 0) a1 fun j2 =>
    bn2 (f_X0_fitsFrom fl 8 (j2 + 1) (gI M0 23 j2 1) a3 M0) fun v6 m5 =>
    some (v6, m5)
  else
  if a2 = 1 then
    drf (gR M0 999 23 0) a1 fun j8 =>
    bn2 (f_X0_bearsFrom fl 8 (j8 + 1) (gI M0 23 j8 1) a3 M0) fun v12 m11 =>
    some (v12, m11)
  else
  if a2 = 2 then
    drf (gR M0 999 23 0) a1 fun j14 =>
    bn2 (f_X0_endsFrom fl 8 (j14 + 1) (gI M0 23 j14 1) a3 M0) fun v18 m17 =>
    some (v18, m17)
  else
    some (0, M0)
def f_X1_column (fl : Nat) (o : Nat) (M0 : Mem) : Option (Int32 × Mem) :=
  some ((jrem (gI M0 13 o 0) 6), M0)
def f_X1_row (fl : Nat) (o : Nat) (M0 : Mem) : Option (Int32 × Mem) :=
  some (((gI M0 13 o 0) / 6), M0)
def f_X1_wantedLength (fl : Nat) (o : Nat) (M0 : Mem) : Option (Int32 × Mem) :=
  some ((100 - (2 * (gI M0 13 o 1))), M0)
def f_X1_latestAt (fl : Nat) (o : Nat) (a1 : Int32) (M0 : Mem) : Option (Nat × Mem) :=
  if a1 = 3 then
    if (gI M0 13 o 4) ≤ 0 then
      some (0, M0)
    else
      if 24 < (gI M0 13 o 4) then
        some (0, M0)
      else
        asr (vq ((gI M0 13 o 4) - 1) 24) <|
        some ((gR M0 15 o (Int32.toNatClampNeg ((gI M0 13 o 4) - 1))), M0)
  else
    if a1 < 1 then
      some (0, M0)
    else
      if 5 < a1 then
        some (0, M0)
      else
        asr (vq a1 6) <|
        some ((gR M0 14 o (Int32.toNatClampNeg a1)), M0)
def f_X1_has (fl : Nat) (o : Nat) (a1 : Int32) (M0 : Mem) : Option (Int32 × Mem) :=
  bn2 (f_X1_latestAt fl o a1 M0) fun c2 m1 =>
  if c2 = 0 then
    some (0, m1)
  else
    some (1, m1)
def f_X1_room (fl : Nat) (o : Nat) (a1 : Int32) (M0 : Mem) : Option (Int32 × Mem) :=
  if a1 = 3 then
    some ((24 - (gI M0 13 o 4)), M0)
  else
    bn2 (f_X1_has fl o a1 M0) fun v3 m2 =>
    if v3 = 0 then
      some (1, m2)
    else
      some (0, m2)
def f_X1_isBare_l4_b (rk : Int32 → Int32 → Mem → Option (Int32 × Mem)) (fl : Nat) (g0 : Nat) (u1 : Int32) (u2 : Int32) (M0 : Mem) : Option (Int32 × Mem) :=
  if 5 < u2 then
    some (u1, M0)
  else
    if u1 = 0 then
      lt1 (u2 + 1) fun (x3 : Int32) =>
      rk 0 x3 M0
    else
      bn2 (f_X1_has fl g0 u2 M0) fun v5 m4 =>
      if v5 = 0 then
        lt1 (u2 + 1) fun (x8 : Int32) =>
        rk 1 x8 m4
      else
        lt1 (u2 + 1) fun (x7 : Int32) =>
        rk 0 x7 m4
def f_X1_isBare_l4 (fl : Nat) (g0 : Nat) : Nat → Int32 → Int32 → Mem → Option (Int32 × Mem)
  | 0 => fun _ _ _ => none
  | n + 1 => fun u1 u2 M0 => f_X1_isBare_l4_b (f_X1_isBare_l4 fl g0 n) fl g0 u1 u2 M0
def f_X1_isBare (fl : Nat) (o : Nat) (M0 : Mem) : Option (Int32 × Mem) :=
  bn2 (f_X1_isBare_l4 fl o fl 1 1 M0) fun (q9 : Int32) m10 =>
  asr (q9 = 0 ∨ q9 = 1) <|
  some (q9, m10)
def f_X4_place (fl : Nat) (o : Nat) (M0 : Mem) : Option (Int32 × Mem) :=
  if (gI M0 23 o 1) = 6 then
    some (1, M0)
  else
    some ((gI M0 23 o 1), M0)
def f_X1_put_b77 (fl : Nat) (g1 : Nat) (M0 : Mem) : Option (Mem) :=
  drf (gR M0 999 23 0) g1 fun j13 =>
  lt1 (sI M0 23 j13 8 ((gI M0 23 j13 8) + 1)) fun m16 =>
  some m16
def f_X1_put_b67 (fl : Nat) (g0 : Nat) (g1 : Nat) (g2 : Int32) (M0 : Mem) : Option (Mem) :=
  bn1 (
    if g2 = 4 then
      lt1 (sI M0 13 g0 5 (-1)) fun m18 =>
      some m18
    else
      some M0
  ) fun m12 =>
  f_X1_put_b77 fl g1 m12
def f_X1_put (fl : Nat) (o : Nat) (a1 : Nat) (M0 : Mem) : Option (Mem) :=
  drf (gR M0 999 23 0) a1 fun j1 =>
  bn2 (f_X4_place fl j1 M0) fun v5 m4 =>
  bn2 (f_X1_room fl o v5 m4) fun v7 m6 =>
  if 1 ≤ v7 then
    bn1 (
      if v5 = 3 then
        if (gI m6 13 o 4) < 0 then
          if v5 < 1 then
            some m6
          else
            if 5 < v5 then
              some m6
            else
              asr (vq v5 6) <|
              asr ((j1 + 1) ≤ (gR m6 999 23 0)) <|
              lt1 (sR m6 14 o (Int32.toNatClampNeg v5) (j1 + 1)) fun m30 =>
              some m30
        else
          asr (vq (gI m6 13 o 4) 24) <|
          asr ((j1 + 1) ≤ (gR m6 999 23 0)) <|
          lt1 (sR m6 15 o (Int32.toNatClampNeg (gI m6 13 o 4)) (j1 + 1)) fun m33 =>
          lt1 (sI m33 13 o 4 ((gI m33 13 o 4) + 1)) fun m34 =>
          some m34
      else
        if v5 < 1 then
          some m6
        else
          if 5 < v5 then
            some m6
          else
            asr (vq v5 6) <|
            asr ((j1 + 1) ≤ (gR m6 999 23 0)) <|
            lt1 (sR m6 14 o (Int32.toNatClampNeg v5) (j1 + 1)) fun m24 =>
            some m24
    ) fun m10 =>
    f_X1_put_b67 fl o (j1 + 1) v5 m10
  else
    some m6
def f_X1_remove_b40 (fl : Nat) (g1 : Nat) (M0 : Mem) : Option (Mem) :=
  drf (gR M0 999 23 0) g1 fun j8 =>
  lt1 (sI M0 23 j8 8 ((gI M0 23 j8 8) - 1)) fun m11 =>
  some m11
def f_X1_remove (fl : Nat) (o : Nat) (a1 : Nat) (M0 : Mem) : Option (Mem) :=
  drf (gR M0 999 23 0) a1 fun j1 =>
  bn2 (f_X4_place fl j1 M0) fun v5 m4 =>
  bn1 (
    if v5 = 3 then
      lt1 (sI m4 13 o 4 ((gI m4 13 o 4) - 1)) fun m18 =>
      some m18
    else
      if v5 < 1 then
        some m4
      else
        if 5 < v5 then
          some m4
        else
          asr (vq v5 6) <|
          asr (0 ≤ (gR m4 999 23 0)) <|
          lt1 (sR m4 14 o (Int32.toNatClampNeg v5) 0) fun m17 =>
          some m17
  ) fun m7 =>
  f_X1_remove_b40 fl (j1 + 1) m7
def f_X2_init (fl : Nat) (o : Nat) (a1 : Int32) (a2 : Int32) (M0 : Mem) : Option (Mem) :=
  lt1 (sI M0 24 o 1 (-5)) fun m1 =>
  lt1 (sI m1 24 o 2 (-5)) fun m2 =>
  lt1 (sI m2 24 o 0 a1) fun m3 =>
  lt1 (sI m3 24 o 3 a2) fun m4 =>
  some m4
def f_X2_pieces (fl : Nat) (o : Nat) (M0 : Mem) : Option (Int32 × Mem) :=
  some ((jmin 20 ((gI M0 24 o 3) + ((gI M0 24 o 4) / 10))), M0)
def f_X2_worked (fl : Nat) (o : Nat) (a1 : Int32) (a2 : Int32) (a3 : Int32) (M0 : Mem) : Option (Mem) :=
  lt1 (sI M0 24 o 1 a1) fun m1 =>
  lt1 (sI m1 24 o 2 a2) fun m2 =>
  lt1 (sI m2 24 o 4 ((gI m2 24 o 4) + a3)) fun m3 =>
  some m3
def f_X3_nextText (fl : Nat)  (M0 : Mem) : Option (Nat × Mem) :=
  if (gI M0 6 0 0) < 0 then
    some (0, M0)
  else
    if 10 ≤ (gI M0 6 0 0) then
      some (0, M0)
    else
      asr (vq (gI M0 6 0 0) 10) <|
      some (((Int32.toNatClampNeg (gI M0 6 0 0)) + 1), M0)
def f_X3_textOf (fl : Nat) (a1 : Int32) (M0 : Mem) : Option (Nat × Mem) :=
  if a1 < 0 then
    some (0, M0)
  else
    if (gI M0 6 0 0) ≤ a1 then
      some (0, M0)
    else
      if 10 ≤ a1 then
        some (0, M0)
      else
        asr (vq a1 10) <|
        some (((Int32.toNatClampNeg a1) + 1), M0)
def f_X9_lastClauseOf_l4_b (rk : Int32 → Int32 → Mem → Option (Int32 × Mem)) (fl : Nat) (g0 : Nat) (g1 : Int32) (u2 : Int32) (u3 : Int32) (M0 : Mem) : Option (Int32 × Mem) :=
  if (gI M0 19 g0 2) ≤ u3 then
    some (u2, M0)
  else
    if 8 ≤ u3 then
      some (u2, M0)
    else
      asr (vq u3 8) <|
      if (gI M0 20 g0 (Int32.toNatClampNeg u3)) = g1 then
        lt1 (u3 + 1) fun (x6 : Int32) =>
        rk u3 x6 M0
      else
        lt1 (u3 + 1) fun (x5 : Int32) =>
        rk u2 x5 M0
def f_X9_lastClauseOf_l4 (fl : Nat) (g0 : Nat) (g1 : Int32) : Nat → Int32 → Int32 → Mem → Option (Int32 × Mem)
  | 0 => fun _ _ _ => none
  | n + 1 => fun u2 u3 M0 => f_X9_lastClauseOf_l4_b (f_X9_lastClauseOf_l4 fl g0 g1 n) fl g0 g1 u2 u3 M0
def f_X9_lastClauseOf (fl : Nat) (o : Nat) (a1 : Int32) (M0 : Mem) : Option (Int32 × Mem) :=
  bn2 (f_X9_lastClauseOf_l4 fl o a1 fl (-1) 0 M0) fun (q7 : Int32) m8 =>
  some (q7, m8)
def f_X3_textFor_l8_b (rk : Int32 → Int32 → Int32 → Mem → Option (Int32 × Mem)) (fl : Nat) (g1 : Int32) (g2 : Int32) (u3 : Int32) (u4 : Int32) (u5 : Int32) (M0 : Mem) : Option (Int32 × Mem) :=
  if (gI M0 6 0 0) ≤ u5 then
    some (u3, M0)
  else
    if 10 ≤ u5 then
      some (u3, M0)
    else
      asr (vq u5 10) <|
      if g2 < (gI M0 19 (Int32.toNatClampNeg u5) 0) then
        lt1 (u5 + 1) fun (x5 : Int32) =>
        rk u3 u4 x5 M0
      else
        if (gI M0 19 (Int32.toNatClampNeg u5) 0) < u4 then
          lt1 (u5 + 1) fun (x7 : Int32) =>
          rk u3 u4 x7 M0
        else
          bn2 (f_X9_lastClauseOf fl (Int32.toNatClampNeg u5) g1 M0) fun v9 m8 =>
          if v9 < 0 then
            lt1 (u5 + 1) fun (x11 : Int32) =>
            rk u3 u4 x11 m8
          else
            lt1 (gI m8 19 (Int32.toNatClampNeg u5) 0) fun (x12 : Int32) =>
            lt1 (u5 + 1) fun (x13 : Int32) =>
            rk u5 x12 x13 m8
def f_X3_textFor_l8 (fl : Nat) (g1 : Int32) (g2 : Int32) : Nat → Int32 → Int32 → Int32 → Mem → Option (Int32 × Mem)
  | 0 => fun _ _ _ _ => none
  | n + 1 => fun u3 u4 u5 M0 => f_X3_textFor_l8_b (f_X3_textFor_l8 fl g1 g2 n) fl g1 g2 u3 u4 u5 M0
def f_X3_textFor (fl : Nat) (a1 : Int32) (a2 : Int32) (M0 : Mem) : Option (Int32 × Mem) :=
  bn2 (f_X3_textFor_l8 fl a1 a2 fl (-1) 0 0 M0) fun (q14 : Int32) m15 =>
  some (q14, m15)
def f_X9_valueOf (fl : Nat) (o : Nat) (a1 : Int32) (M0 : Mem) : Option (Int32 × Mem) :=
  if a1 < 0 then
    some (0, M0)
  else
    if 8 ≤ a1 then
      some (0, M0)
    else
      asr (vq a1 8) <|
      some ((gI M0 21 o (Int32.toNatClampNeg a1)), M0)
def f_X3_numberFor (fl : Nat) (a1 : Int32) (a2 : Int32) (M0 : Mem) : Option (Int32 × Mem) :=
  bn2 (f_X3_textFor fl a1 a2 M0) fun v2 m1 =>
  bn2 (f_X3_textOf fl v2 m1) fun c4 m3 =>
  if c4 = 0 then
    if a1 < 0 then
      some (0, m3)
    else
      if 4 ≤ a1 then
        some (0, m3)
      else
        asr (vq a1 4) <|
        some ((tWo (Int32.toNatClampNeg a1)), m3)
  else
    drf 10 c4 fun j9 =>
    bn2 (f_X9_lastClauseOf fl j9 a1 m3) fun v13 m12 =>
    bn2 (f_X9_valueOf fl j9 v13 m12) fun v15 m14 =>
    some (v15, m14)
def f_X9_testHolds_b43 (fl : Nat) (g2 : Int32) (g3 : Int32) (z0 : Int32) (M0 : Mem) : Option (Int32 × Mem) :=
  if g3 = 0 then
    if g2 ≤ z0 then
      some (0, M0)
    else
      some (1, M0)
  else
  if g3 = 1 then
    if z0 = g2 then
      some (1, M0)
    else
      some (0, M0)
  else
    if z0 ≤ g2 then
      some (0, M0)
    else
      some (1, M0)
def f_X9_testHolds (fl : Nat) (a1 : Int32) (M0 : Mem) : Option (Int32 × Mem) :=
  lt1 (jrem a1 1000) fun (x1 : Int32) =>
  lt1 (jrem (a1 / 1000) 3) fun (x2 : Int32) =>
  lt1 ((a1 / 1000) / 3) fun (x3 : Int32) =>
  bn2 (
    if x3 < 0 then
      some (0, M0)
    else
      if 6 ≤ x3 then
        some (0, M0)
      else
        asr (vq x3 6) <|
        some ((gI M0 18 0 (Int32.toNatClampNeg x3)), M0)
  ) fun (q4 : Int32) m5 =>
  f_X9_testHolds_b43 fl x1 x2 q4 m5
def f_X9_holds_l9_b (rk : Int32 → Int32 → Mem → Option (Int32 × Mem)) (fl : Nat) (g0 : Nat) (u3 : Int32) (u4 : Int32) (M0 : Mem) : Option (Int32 × Mem) :=
  if (gI M0 19 g0 1) ≤ u4 then
    some (u3, M0)
  else
    if 100 ≤ u4 then
      some (u3, M0)
    else
      asr (vq u4 100) <|
      if (gI M0 22 g0 (Int32.toNatClampNeg u4)) = (-4) then
        some (u3, M0)
      else
        asr (vq u4 100) <|
        lt1 (gI M0 22 g0 (Int32.toNatClampNeg u4)) fun (x7 : Int32) =>
        if x7 = (-3) then
          lt1 (u3 ^^^ 1) fun (x9 : Int32) =>
          lt1 (u4 + 1) fun (x10 : Int32) =>
          rk x9 x10 M0
        else
        if x7 = (-2) then
          lt1 ((jshr u3 1) ||| (u3 &&& 1)) fun (x12 : Int32) =>
          lt1 (u4 + 1) fun (x13 : Int32) =>
          rk x12 x13 M0
        else
        if x7 = (-1) then
          lt1 ((jshr u3 1) &&& (u3 ||| (-2))) fun (x15 : Int32) =>
          lt1 (u4 + 1) fun (x16 : Int32) =>
          rk x15 x16 M0
        else
          bn2 (f_X9_testHolds fl x7 M0) fun v18 m17 =>
          if v18 = 0 then
            lt1 ((jshl u3 1) ||| 0) fun (x20 : Int32) =>
            lt1 (u4 + 1) fun (x21 : Int32) =>
            rk x20 x21 m17
          else
            lt1 ((jshl u3 1) ||| 1) fun (x22 : Int32) =>
            lt1 (u4 + 1) fun (x23 : Int32) =>
            rk x22 x23 m17
def f_X9_holds_l9 (fl : Nat) (g0 : Nat) : Nat → Int32 → Int32 → Mem → Option (Int32 × Mem)
  | 0 => fun _ _ _ => none
  | n + 1 => fun u3 u4 M0 => f_X9_holds_l9_b (f_X9_holds_l9 fl g0 n) fl g0 u3 u4 M0
def f_X9_holds_b131 (fl : Nat) (g3 : Int32) (M0 : Mem) : Option (Int32 × Mem) :=
  if (g3 &&& 1) = 1 then
    some (1, M0)
  else
    some (0, M0)
def f_X9_holds (fl : Nat) (o : Nat) (a1 : Int32) (M0 : Mem) : Option (Int32 × Mem) :=
  lt1 (jmax a1 0) fun (x1 : Int32) =>
  bn2 (f_X9_holds_l9 fl o fl 0 x1 M0) fun (q24 : Int32) m25 =>
  f_X9_holds_b131 fl q24 m25
def f_X3_holdsFor (fl : Nat) (a1 : Int32) (a2 : Int32) (M0 : Mem) : Option (Int32 × Mem) :=
  bn2 (f_X3_textFor fl a1 a2 M0) fun v2 m1 =>
  bn2 (f_X3_textOf fl v2 m1) fun c4 m3 =>
  if c4 = 0 then
    some (0, m3)
  else
    drf 10 c4 fun j6 =>
    bn2 (f_X9_lastClauseOf fl j6 a1 m3) fun v10 m9 =>
    bn2 (f_X9_valueOf fl j6 v10 m9) fun v12 m11 =>
    bn2 (f_X9_holds fl j6 v12 m11) fun v14 m13 =>
    if v14 = 0 then
      some (0, m13)
    else
      some (1, m13)
def f_X3_mayCut (fl : Nat) (a1 : Nat) (a2 : Int32) (M0 : Mem) : Option (Int32 × Mem) :=
  drf 30 a1 fun j1 =>
  asr (vq 0 6) <|
  lt1 (sI M0 18 0 (Int32.toNatClampNeg 0) (gI M0 13 j1 2)) fun m5 =>
  asr (vq 1 6) <|
  lt1 (sI m5 18 0 (Int32.toNatClampNeg 1) (gI m5 13 j1 1)) fun m7 =>
  bn2 (f_X1_column fl j1 m7) fun v9 m8 =>
  asr (vq 2 6) <|
  lt1 (sI m8 18 0 (Int32.toNatClampNeg 2) v9) fun m11 =>
  bn2 (f_X1_row fl j1 m11) fun v13 m12 =>
  asr (vq 3 6) <|
  lt1 (sI m12 18 0 (Int32.toNatClampNeg 3) v13) fun m15 =>
  asr (vq 4 6) <|
  lt1 (sI m15 18 0 (Int32.toNatClampNeg 4) (jrem a2 7)) fun m17 =>
  asr (vq 5 6) <|
  lt1 (sI m17 18 0 (Int32.toNatClampNeg 5) 0) fun m19 =>
  bn2 (f_X3_holdsFor fl 4 a2 m19) fun v21 m20 =>
  asr (v21 = 0 ∨ v21 = 1) <|
  some (v21, m20)
def f_X3_bars (fl : Nat) (a1 : Int32) (a2 : Int32) (M0 : Mem) : Option (Int32 × Mem) :=
  asr (vq 0 6) <|
  lt1 (sI M0 18 0 (Int32.toNatClampNeg 0) 0) fun m2 =>
  asr (vq 1 6) <|
  lt1 (sI m2 18 0 (Int32.toNatClampNeg 1) 0) fun m4 =>
  asr (vq 2 6) <|
  lt1 (sI m4 18 0 (Int32.toNatClampNeg 2) 0) fun m6 =>
  asr (vq 3 6) <|
  lt1 (sI m6 18 0 (Int32.toNatClampNeg 3) 0) fun m8 =>
  asr (vq 4 6) <|
  lt1 (sI m8 18 0 (Int32.toNatClampNeg 4) (jrem a2 7)) fun m10 =>
  asr (vq 5 6) <|
  lt1 (sI m10 18 0 (Int32.toNatClampNeg 5) a1) fun m12 =>
  bn2 (f_X3_holdsFor fl 5 a2 m12) fun v14 m13 =>
  asr (v14 = 0 ∨ v14 = 1) <|
  some (v14, m13)
def f_X4_init (fl : Nat) (o : Nat) (a1 : Int32) (a2 : Int32) (a3 : Int32) (a4 : Int32) (a5 : Int32) (a6 : Int32) (M0 : Mem) : Option (Mem) :=
  lt1 (sI M0 23 o 6 (-5)) fun m1 =>
  lt1 (sI m1 23 o 7 (-5)) fun m2 =>
  lt1 (sI m2 23 o 0 a1) fun m3 =>
  lt1 (sI m3 23 o 1 a2) fun m4 =>
  lt1 (sI m4 23 o 2 a3) fun m5 =>
  lt1 (sI m5 23 o 3 a4) fun m6 =>
  lt1 (sI m6 23 o 4 a5) fun m7 =>
  lt1 (sI m7 23 o 5 a6) fun m8 =>
  some m8
def f_X4_isTold (fl : Nat) (o : Nat) (M0 : Mem) : Option (Int32 × Mem) :=
  if (gI M0 23 o 6) = (-5) then
    some (0, M0)
  else
    some (1, M0)
def f_X4_stock (fl : Nat) (o : Nat) (M0 : Mem) : Option (Int32 × Mem) :=
  bn2 (f_X4_isTold fl o M0) fun v2 m1 =>
  if v2 = 0 then
    some (0, m1)
  else
    asr (o < gR m1 999 23 0) <|
    some (((((gI m1 23 o 3) - (gI m1 23 o 8)) - (gI m1 23 o 9)) - (gI m1 23 o 10)), m1)
def f_X4_isUnder (fl : Nat) (o : Nat) (a1 : Int32) (M0 : Mem) : Option (Int32 × Mem) :=
  if (gI M0 23 o 1) = a1 then
    some (1, M0)
  else
    if a1 = 0 then
      some (1, M0)
    else
      if a1 = 1 then
        if (gI M0 23 o 1) = 6 then
          some (1, M0)
        else
          some (0, M0)
      else
        some (0, M0)
def f_X4_isOrderedLike (fl : Nat) (o : Nat) (a1 : Nat) (M0 : Mem) : Option (Int32 × Mem) :=
  drf (gR M0 999 23 0) a1 fun j1 =>
  if (gI M0 23 o 1) = (gI M0 23 j1 1) then
    if (gI M0 23 o 2) = (gI M0 23 j1 2) then
      if (gI M0 23 o 5) = (gI M0 23 j1 5) then
        some (1, M0)
      else
        some (0, M0)
    else
      some (0, M0)
  else
    some (0, M0)
def f_X5_meets (fl : Nat) (a1 : Int32) (a2 : Int32) (a3 : Int32) (M0 : Mem) : Option (Int32 × Mem) :=
  asr (vq a1 8) <|
  if (gI M0 39 0 (Int32.toNatClampNeg a1)) ≤ 0 then
    some (0, M0)
  else
    asr (vq a1 8) <|
    if (a2 + a3) ≤ (gI M0 38 0 (Int32.toNatClampNeg a1)) then
      some (0, M0)
    else
      asr (vq a1 8) <|
      asr (vq a1 8) <|
      if ((gI M0 38 0 (Int32.toNatClampNeg a1)) + (gI M0 39 0 (Int32.toNatClampNeg a1))) ≤ a2 then
        some (0, M0)
      else
        some (1, M0)
def f_X5_inTheWay_l5_b (rk : Int32 → Int32 → Mem → Option (Int32 × Mem)) (fl : Nat) (g1 : Int32) (g2 : Int32) (u3 : Int32) (u4 : Int32) (M0 : Mem) : Option (Int32 × Mem) :=
  if 8 ≤ u4 then
    some (u3, M0)
  else
    bn2 (f_X5_meets fl u4 g1 g2 M0) fun v3 m2 =>
    if v3 = 0 then
      lt1 (u3 + 0) fun (x5 : Int32) =>
      lt1 (u4 + 1) fun (x6 : Int32) =>
      rk x5 x6 m2
    else
      lt1 (u3 + 1) fun (x7 : Int32) =>
      lt1 (u4 + 1) fun (x8 : Int32) =>
      rk x7 x8 m2
def f_X5_inTheWay_l5 (fl : Nat) (g1 : Int32) (g2 : Int32) : Nat → Int32 → Int32 → Mem → Option (Int32 × Mem)
  | 0 => fun _ _ _ => none
  | n + 1 => fun u3 u4 M0 => f_X5_inTheWay_l5_b (f_X5_inTheWay_l5 fl g1 g2 n) fl g1 g2 u3 u4 M0
def f_X5_inTheWay (fl : Nat) (a1 : Int32) (a2 : Int32) (M0 : Mem) : Option (Int32 × Mem) :=
  bn2 (f_X5_inTheWay_l5 fl a1 a2 fl 0 0 M0) fun (q9 : Int32) m10 =>
  some (q9, m10)
def f_X5_clear_l2_b (rk : Int32 → Mem → Option (Mem)) (fl : Nat) (g1 : Int32) (g2 : Int32) (u3 : Int32) (M0 : Mem) : Option (Mem) :=
  if 8 ≤ u3 then
    some M0
  else
    bn2 (f_X5_meets fl u3 g1 g2 M0) fun v3 m2 =>
    if v3 = 0 then
      lt1 (u3 + 1) fun (x5 : Int32) =>
      rk x5 m2
    else
      asr (vq u3 8) <|
      lt1 (sI m2 39 0 (Int32.toNatClampNeg u3) 0) fun m7 =>
      asr (vq u3 8) <|
      asr (vq u3 8) <|
      lt1 (sI m7 40 0 (Int32.toNatClampNeg u3) ((gI m7 40 0 (Int32.toNatClampNeg u3)) + 1)) fun m10 =>
      lt1 (u3 + 1) fun (x11 : Int32) =>
      rk x11 m10
def f_X5_clear_l2 (fl : Nat) (g1 : Int32) (g2 : Int32) : Nat → Int32 → Mem → Option (Mem)
  | 0 => fun _ _ => none
  | n + 1 => fun u3 M0 => f_X5_clear_l2_b (f_X5_clear_l2 fl g1 g2 n) fl g1 g2 u3 M0
def f_X5_clear (fl : Nat) (a1 : Int32) (a2 : Int32) (M0 : Mem) : Option (Mem) :=
  bn1 (f_X5_clear_l2 fl a1 a2 fl 0 M0) fun m13 =>
  some m13
def f_X5_place_l28_b (rk : Int32 → Int32 → Int32 → Mem → Option (Int32 × Mem)) (fl : Nat) (g1 : Int32) (g2 : Int32) (u3 : Int32) (u4 : Int32) (u5 : Int32) (M0 : Mem) : Option (Int32 × Mem) :=
  if 30 ≤ u5 then
    some (u3, M0)
  else
    if 6 < ((jrem u5 6) + g2) then
      lt1 (u5 + 1) fun (x7 : Int32) =>
      rk u3 u4 x7 M0
    else
      bn2 (f_X5_inTheWay fl u5 g2 M0) fun v9 m8 =>
      if u4 ≤ v9 then
        lt1 (u5 + 1) fun (x11 : Int32) =>
        rk u3 u4 x11 m8
      else
        bn2 (f_X5_inTheWay fl u5 g2 m8) fun v13 m12 =>
        lt1 (u5 + 1) fun (x14 : Int32) =>
        rk u5 v13 x14 m12
def f_X5_place_l28 (fl : Nat) (g1 : Int32) (g2 : Int32) : Nat → Int32 → Int32 → Int32 → Mem → Option (Int32 × Mem)
  | 0 => fun _ _ _ _ => none
  | n + 1 => fun u3 u4 u5 M0 => f_X5_place_l28_b (f_X5_place_l28 fl g1 g2 n) fl g1 g2 u3 u4 u5 M0
def f_X5_place (fl : Nat) (a1 : Int32) (a2 : Int32) (M0 : Mem) : Option (Int32 × Mem) :=
  if a1 < 0 then
    some ((-1), M0)
  else
    if a1 < 8 then
      asr (vq a1 8) <|
      lt1 (sI M0 39 0 (Int32.toNatClampNeg a1) 0) fun m4 =>
      bn2 (f_X5_place_l28 fl a1 a2 fl 0 8 0 m4) fun (q15 : Int32) m16 =>
      bn1 (f_X5_clear fl q15 a2 m16) fun m17 =>
      asr (vq a1 8) <|
      lt1 (sI m17 38 0 (Int32.toNatClampNeg a1) q15) fun m19 =>
      asr (vq a1 8) <|
      lt1 (sI m19 39 0 (Int32.toNatClampNeg a1) a2) fun m21 =>
      some (q15, m21)
    else
      some ((-1), M0)
def f_X6_addRow (fl : Nat) (a1 : Int32) (a2 : Int32) (a3 : Int32) (M0 : Mem) : Option (Int32 × Mem) :=
  if (gI M0 9 0 0) < 0 then
    some (0, M0)
  else
    if (gI M0 9 0 0) < 20 then
      asr (vq (gI M0 9 0 0) 20) <|
      lt1 (sI M0 30 0 (Int32.toNatClampNeg (gI M0 9 0 0)) a1) fun m4 =>
      asr (vq (gI m4 9 0 0) 20) <|
      lt1 (sI m4 33 0 (Int32.toNatClampNeg (gI m4 9 0 0)) a2) fun m6 =>
      asr (vq (gI m6 9 0 0) 20) <|
      lt1 (sI m6 31 0 (Int32.toNatClampNeg (gI m6 9 0 0)) a3) fun m8 =>
      lt1 (sI m8 9 0 0 ((gI m8 9 0 0) + 1)) fun m9 =>
      some (1, m9)
    else
      some (0, M0)
def f_X6_addAddition (fl : Nat) (a1 : Int32) (a2 : Int32) (a3 : Int32) (a4 : Int32) (M0 : Mem) : Option (Int32 × Mem) :=
  if (gI M0 9 0 1) < 0 then
    some (0, M0)
  else
    if (gI M0 9 0 1) < 8 then
      asr (vq (gI M0 9 0 1) 8) <|
      lt1 (sI M0 34 0 (Int32.toNatClampNeg (gI M0 9 0 1)) a1) fun m4 =>
      asr (vq (gI m4 9 0 1) 8) <|
      lt1 (sI m4 35 0 (Int32.toNatClampNeg (gI m4 9 0 1)) a2) fun m6 =>
      asr (vq (gI m6 9 0 1) 8) <|
      lt1 (sI m6 36 0 (Int32.toNatClampNeg (gI m6 9 0 1)) a3) fun m8 =>
      asr (vq (gI m8 9 0 1) 8) <|
      lt1 (sI m8 37 0 (Int32.toNatClampNeg (gI m8 9 0 1)) a4) fun m10 =>
      lt1 (sI m10 9 0 1 ((gI m10 9 0 1) + 1)) fun m11 =>
      some (1, m11)
    else
      some (0, M0)
def f_X6_wantedWith_l4_b (rk : Int32 → Int32 → Mem → Option (Int32 × Mem)) (fl : Nat) (g1 : Int32) (u2 : Int32) (u3 : Int32) (M0 : Mem) : Option (Int32 × Mem) :=
  if g1 < 0 then
    some (u2, M0)
  else
    if 20 ≤ g1 then
      some (u2, M0)
    else
      if (gI M0 9 0 0) ≤ u3 then
        some (u2, M0)
      else
        if 20 ≤ u3 then
          some (u2, M0)
        else
          asr (vq u3 20) <|
          asr (vq g1 20) <|
          if (gI M0 30 0 (Int32.toNatClampNeg u3)) = (gI M0 30 0 (Int32.toNatClampNeg g1)) then
            asr (vq u3 20) <|
            asr (vq g1 20) <|
            if (gI M0 31 0 (Int32.toNatClampNeg g1)) < (gI M0 31 0 (Int32.toNatClampNeg u3)) then
              lt1 (u3 + 1) fun (x12 : Int32) =>
              rk u2 x12 M0
            else
              asr (vq u3 20) <|
              lt1 (u2 + (gI M0 33 0 (Int32.toNatClampNeg u3))) fun (x14 : Int32) =>
              lt1 (u3 + 1) fun (x15 : Int32) =>
              rk x14 x15 M0
          else
            lt1 (u3 + 1) fun (x8 : Int32) =>
            rk u2 x8 M0
def f_X6_wantedWith_l4 (fl : Nat) (g1 : Int32) : Nat → Int32 → Int32 → Mem → Option (Int32 × Mem)
  | 0 => fun _ _ _ => none
  | n + 1 => fun u2 u3 M0 => f_X6_wantedWith_l4_b (f_X6_wantedWith_l4 fl g1 n) fl g1 u2 u3 M0
def f_X6_wantedWith (fl : Nat) (a1 : Int32) (M0 : Mem) : Option (Int32 × Mem) :=
  bn2 (f_X6_wantedWith_l4 fl a1 fl 0 0 M0) fun (q16 : Int32) m17 =>
  some (q16, m17)
def f_X6_addedFor_l5_b (rk : Int32 → Int32 → Mem → Option (Int32 × Mem)) (fl : Nat) (g1 : Int32) (g2 : Int32) (u3 : Int32) (u4 : Int32) (M0 : Mem) : Option (Int32 × Mem) :=
  if (gI M0 9 0 1) ≤ u4 then
    some (u3, M0)
  else
    if 8 ≤ u4 then
      some (u3, M0)
    else
      if ((jshr g1 u4) &&& 1) = 1 then
        asr (vq u4 8) <|
        asr (vq g2 20) <|
        if (gI M0 34 0 (Int32.toNatClampNeg u4)) = (gI M0 30 0 (Int32.toNatClampNeg g2)) then
          asr (vq u4 8) <|
          asr (vq g2 20) <|
          if (gI M0 31 0 (Int32.toNatClampNeg g2)) < (gI M0 36 0 (Int32.toNatClampNeg u4)) then
            lt1 (u4 + 1) fun (x12 : Int32) =>
            rk u3 x12 M0
          else
            asr (vq u4 8) <|
            lt1 (u3 + (gI M0 35 0 (Int32.toNatClampNeg u4))) fun (x14 : Int32) =>
            lt1 (u4 + 1) fun (x15 : Int32) =>
            rk x14 x15 M0
        else
          lt1 (u4 + 1) fun (x8 : Int32) =>
          rk u3 x8 M0
      else
        lt1 (u4 + 1) fun (x4 : Int32) =>
        rk u3 x4 M0
def f_X6_addedFor_l5 (fl : Nat) (g1 : Int32) (g2 : Int32) : Nat → Int32 → Int32 → Mem → Option (Int32 × Mem)
  | 0 => fun _ _ _ => none
  | n + 1 => fun u3 u4 M0 => f_X6_addedFor_l5_b (f_X6_addedFor_l5 fl g1 g2 n) fl g1 g2 u3 u4 M0
def f_X6_addedFor (fl : Nat) (a1 : Int32) (a2 : Int32) (M0 : Mem) : Option (Int32 × Mem) :=
  bn2 (f_X6_addedFor_l5 fl a1 a2 fl 0 0 M0) fun (q16 : Int32) m17 =>
  some (q16, m17)
def f_X6_isAhead (fl : Nat) (a1 : Int32) (a2 : Int32) (M0 : Mem) : Option (Int32 × Mem) :=
  asr (vq a1 20) <|
  asr (vq a2 20) <|
  if (gI M0 31 0 (Int32.toNatClampNeg a1)) < (gI M0 31 0 (Int32.toNatClampNeg a2)) then
    some (1, M0)
  else
    asr (vq a1 20) <|
    asr (vq a2 20) <|
    if (gI M0 31 0 (Int32.toNatClampNeg a1)) = (gI M0 31 0 (Int32.toNatClampNeg a2)) then
      asr (vq a1 20) <|
      asr (vq a2 20) <|
      if (gI M0 30 0 (Int32.toNatClampNeg a2)) ≤ (gI M0 30 0 (Int32.toNatClampNeg a1)) then
        some (0, M0)
      else
        some (1, M0)
    else
      some (0, M0)
def f_X6_firstLack_l4_b (rk : Int32 → Int32 → Mem → Option (Int32 × Mem)) (fl : Nat) (g1 : Int32) (u2 : Int32) (u3 : Int32) (M0 : Mem) : Option (Int32 × Mem) :=
  if (gI M0 9 0 0) ≤ u3 then
    some (u2, M0)
  else
    if 20 ≤ u3 then
      some (u2, M0)
    else
      asr (vq u3 20) <|
      bn2 (f_X6_addedFor fl g1 u3 M0) fun v5 m4 =>
      if (gI M0 32 0 (Int32.toNatClampNeg u3)) ≤ v5 then
        lt1 (u3 + 1) fun (x7 : Int32) =>
        rk u2 x7 m4
      else
        if u2 < 0 then
          lt1 (u3 + 1) fun (x9 : Int32) =>
          rk u3 x9 m4
        else
          bn2 (f_X6_isAhead fl u3 u2 m4) fun v11 m10 =>
          if v11 = 0 then
            lt1 (u3 + 1) fun (x13 : Int32) =>
            rk u2 x13 m10
          else
            lt1 (u3 + 1) fun (x14 : Int32) =>
            rk u3 x14 m10
def f_X6_firstLack_l4 (fl : Nat) (g1 : Int32) : Nat → Int32 → Int32 → Mem → Option (Int32 × Mem)
  | 0 => fun _ _ _ => none
  | n + 1 => fun u2 u3 M0 => f_X6_firstLack_l4_b (f_X6_firstLack_l4 fl g1 n) fl g1 u2 u3 M0
def f_X6_firstLack (fl : Nat) (a1 : Int32) (M0 : Mem) : Option (Int32 × Mem) :=
  bn2 (f_X6_firstLack_l4 fl a1 fl (-1) 0 M0) fun (q15 : Int32) m16 =>
  some (q15, m16)
def f_X6_coinOf_l4_b (rk : Int32 → Int32 → Mem → Option (Int32 × Mem)) (fl : Nat) (g1 : Int32) (u2 : Int32) (u3 : Int32) (M0 : Mem) : Option (Int32 × Mem) :=
  if (gI M0 9 0 1) ≤ u3 then
    some (u2, M0)
  else
    if 8 ≤ u3 then
      some (u2, M0)
    else
      if ((jshr g1 u3) &&& 1) = 1 then
        asr (vq u3 8) <|
        lt1 (u2 + (gI M0 37 0 (Int32.toNatClampNeg u3))) fun (x7 : Int32) =>
        lt1 (u3 + 1) fun (x8 : Int32) =>
        rk x7 x8 M0
      else
        lt1 (u2 + 0) fun (x4 : Int32) =>
        lt1 (u3 + 1) fun (x5 : Int32) =>
        rk x4 x5 M0
def f_X6_coinOf_l4 (fl : Nat) (g1 : Int32) : Nat → Int32 → Int32 → Mem → Option (Int32 × Mem)
  | 0 => fun _ _ _ => none
  | n + 1 => fun u2 u3 M0 => f_X6_coinOf_l4_b (f_X6_coinOf_l4 fl g1 n) fl g1 u2 u3 M0
def f_X6_coinOf (fl : Nat) (a1 : Int32) (M0 : Mem) : Option (Int32 × Mem) :=
  bn2 (f_X6_coinOf_l4 fl a1 fl 0 0 M0) fun (q9 : Int32) m10 =>
  some (q9, m10)
def f_J6_bitCount_0f7a4 (fl : Nat) (a1 : Int32) (M0 : Mem) : Option (Int32 × Mem) :=
  lt1 (a1 - ((jushr a1 1) &&& 1431655765)) fun (x1 : Int32) =>
  lt1 ((x1 &&& 858993459) + ((jushr x1 2) &&& 858993459)) fun (x2 : Int32) =>
  lt1 ((x2 + (jushr x2 4)) &&& 252645135) fun (x3 : Int32) =>
  lt1 (x3 + (jushr x3 8)) fun (x4 : Int32) =>
  lt1 (x4 + (jushr x4 16)) fun (x5 : Int32) =>
  some ((x5 &&& 63), M0)
def f_X6_cheapestSet_l7_b (rk : Int32 → Int32 → Int32 → Mem → Option (Int32 × Mem)) (fl : Nat) (u1 : Int32) (u2 : Int32) (u3 : Int32) (M0 : Mem) : Option (Int32 × Mem) :=
  if (jshl 1 (gI M0 9 0 1)) ≤ u3 then
    some (u1, M0)
  else
    bn2 (f_X6_coinOf fl u3 M0) fun v3 m2 =>
    bn2 (
      if u1 = (-5) then
        some (1, m2)
      else
        if v3 < u2 then
          some (1, m2)
        else
          if v3 = u2 then
            bn2 (f_J6_bitCount_0f7a4 fl u3 m2) fun v17 m16 =>
            bn2 (f_J6_bitCount_0f7a4 fl u1 m16) fun v19 m18 =>
            if v19 ≤ v17 then
              some (0, m18)
            else
              some (1, m18)
          else
            some (0, m2)
    ) fun (q4 : Int32) m5 =>
    if q4 = 0 then
      lt1 (u3 + 1) fun (x7 : Int32) =>
      rk u1 u2 x7 m5
    else
      bn2 (f_X6_firstLack fl u3 m5) fun v9 m8 =>
      if 0 ≤ v9 then
        lt1 (u3 + 1) fun (x11 : Int32) =>
        rk u1 u2 x11 m8
      else
        lt1 (u3 + 1) fun (x12 : Int32) =>
        rk u3 v3 x12 m8
def f_X6_cheapestSet_l7 (fl : Nat) : Nat → Int32 → Int32 → Int32 → Mem → Option (Int32 × Mem)
  | 0 => fun _ _ _ _ => none
  | n + 1 => fun u1 u2 u3 M0 => f_X6_cheapestSet_l7_b (f_X6_cheapestSet_l7 fl  n) fl  u1 u2 u3 M0
def f_X6_cheapestSet (fl : Nat)  (M0 : Mem) : Option (Int32 × Mem) :=
  bn2 (f_X6_cheapestSet_l7 fl  fl (-5) 0 0 M0) fun (q21 : Int32) m22 =>
  some (q21, m22)
def f_X7_append (fl : Nat) (a1 : Int32) (M0 : Mem) : Option (Mem) :=
  if (gI M0 5 0 0) < 0 then
    some M0
  else
    if 100 ≤ (gI M0 5 0 0) then
      some M0
    else
      asr (vq (gI M0 5 0 0) 100) <|
      lt1 (sI M0 16 0 (Int32.toNatClampNeg (gI M0 5 0 0)) a1) fun m4 =>
      lt1 (sI m4 5 0 0 ((gI m4 5 0 0) + 1)) fun m5 =>
      some m5
def f_X9_empty (fl : Nat) (o : Nat) (M0 : Mem) : Option (Mem) :=
  lt1 (sI M0 19 o 2 0) fun m1 =>
  lt1 (sI m1 19 o 1 0) fun m2 =>
  some m2
def f_X7_bytesLike_l2_b (rk : Int32 → Mem → Option (Int32 × Mem)) (fl : Nat) (g1 : Int32) (g2 : Int32) (u3 : Int32) (M0 : Mem) : Option (Int32 × Mem) :=
  if g2 ≤ u3 then
    some (u3, M0)
  else
    if 27 ≤ (g1 + u3) then
      some (u3, M0)
    else
      if (gI M0 5 0 0) ≤ ((gI M0 5 0 2) + u3) then
        some (u3, M0)
      else
        if 100 ≤ ((gI M0 5 0 2) + u3) then
          some (u3, M0)
        else
          asr (vq ((gI M0 5 0 2) + u3) 100) <|
          asr (vq (g1 + u3) 27) <|
          if (gI M0 16 0 (Int32.toNatClampNeg ((gI M0 5 0 2) + u3))) = (tSp (Int32.toNatClampNeg (g1 + u3))) then
            lt1 (u3 + 1) fun (x8 : Int32) =>
            rk x8 M0
          else
            some (u3, M0)
def f_X7_bytesLike_l2 (fl : Nat) (g1 : Int32) (g2 : Int32) : Nat → Int32 → Mem → Option (Int32 × Mem)
  | 0 => fun _ _ => none
  | n + 1 => fun u3 M0 => f_X7_bytesLike_l2_b (f_X7_bytesLike_l2 fl g1 g2 n) fl g1 g2 u3 M0
def f_X7_bytesLike (fl : Nat) (a1 : Int32) (a2 : Int32) (M0 : Mem) : Option (Int32 × Mem) :=
  bn2 (f_X7_bytesLike_l2 fl a1 a2 fl 0 M0) fun (q9 : Int32) m10 =>
  some (q9, m10)
def f_X7_fail (fl : Nat)  (M0 : Mem) : Option (Mem) :=
  if (gI M0 5 0 3) = (-1) then
    lt1 (sI M0 5 0 3 (gI M0 5 0 2)) fun m2 =>
    some m2
  else
    some M0
def f_X7_readWord_l4_b (rk : Int32 → Int32 → Mem → Option ((Nat × Int32 × Int32 × Int32) × Mem)) (fl : Nat) (u1 : Int32) (u2 : Int32) (M0 : Mem) : Option ((Nat × Int32 × Int32 × Int32) × Mem) :=
  if 6 ≤ u2 then
    some ((1, u1, u2, 0), M0)
  else
    asr (vq (u2 + 1) 7) <|
    asr (vq u2 7) <|
    lt1 ((tSt (Int32.toNatClampNeg (u2 + 1))) - (tSt (Int32.toNatClampNeg u2))) fun (x4 : Int32) =>
    asr (vq u2 7) <|
    bn2 (f_X7_bytesLike fl (tSt (Int32.toNatClampNeg u2)) x4 M0) fun v7 m6 =>
    if v7 = x4 then
      some ((0, u1, u2, x4), m6)
    else
      lt1 (jmax u1 v7) fun (x9 : Int32) =>
      lt1 (u2 + 1) fun (x10 : Int32) =>
      rk x9 x10 m6
def f_X7_readWord_l4 (fl : Nat) : Nat → Int32 → Int32 → Mem → Option ((Nat × Int32 × Int32 × Int32) × Mem)
  | 0 => fun _ _ _ => none
  | n + 1 => fun u1 u2 M0 => f_X7_readWord_l4_b (f_X7_readWord_l4 fl  n) fl  u1 u2 M0
def f_X7_readWord (fl : Nat)  (M0 : Mem) : Option (Int32 × Mem) :=
  bn2 (f_X7_readWord_l4 fl  fl 0 0 M0) fun (q11 : Nat × Int32 × Int32 × Int32) m12 =>
  if q11.1 = 0 then
    lt1 (sI m12 5 0 2 ((gI m12 5 0 2) + q11.2.2.2)) fun m13 =>
    some (q11.2.2.1, m13)
  else
    lt1 (sI m12 5 0 2 ((gI m12 5 0 2) + q11.2.1)) fun m14 =>
    bn1 (f_X7_fail fl  m14) fun m15 =>
    some ((-1), m15)
def f_X9_addClause (fl : Nat) (o : Nat) (a1 : Int32) (a2 : Int32) (M0 : Mem) : Option (Mem) :=
  if (gI M0 19 o 2) < 0 then
    some M0
  else
    if 8 ≤ (gI M0 19 o 2) then
      some M0
    else
      asr (vq (gI M0 19 o 2) 8) <|
      lt1 (sI M0 20 o (Int32.toNatClampNeg (gI M0 19 o 2)) a1) fun m4 =>
      asr (vq (gI m4 19 o 2) 8) <|
      lt1 (sI m4 21 o (Int32.toNatClampNeg (gI m4 19 o 2)) a2) fun m6 =>
      lt1 (sI m6 19 o 2 ((gI m6 19 o 2) + 1)) fun m7 =>
      some m7
def f_X9_addCode (fl : Nat) (o : Nat) (a1 : Int32) (M0 : Mem) : Option (Mem) :=
  if (gI M0 19 o 1) < 0 then
    some M0
  else
    if 100 ≤ (gI M0 19 o 1) then
      some M0
    else
      asr (vq (gI M0 19 o 1) 100) <|
      lt1 (sI M0 22 o (Int32.toNatClampNeg (gI M0 19 o 1)) a1) fun m4 =>
      lt1 (sI m4 19 o 1 ((gI m4 19 o 1) + 1)) fun m5 =>
      some m5
def f_X7_look_b40 (fl : Nat) (z0 : Int32) (M0 : Mem) : Option (Int32 × Mem) :=
  if z0 = 0 then
    some ((-1), M0)
  else
    asr (vq (gI M0 5 0 2) 100) <|
    some ((gI M0 16 0 (Int32.toNatClampNeg (gI M0 5 0 2))), M0)
def f_X7_look (fl : Nat)  (M0 : Mem) : Option (Int32 × Mem) :=
  bn2 (
    if (gI M0 5 0 3) = (-1) then
      if (gI M0 5 0 2) < 0 then
        some (0, M0)
      else
        if (gI M0 5 0 0) ≤ (gI M0 5 0 2) then
          some (0, M0)
        else
          if 100 ≤ (gI M0 5 0 2) then
            some (0, M0)
          else
            some (1, M0)
    else
      some (0, M0)
  ) fun (q1 : Int32) m2 =>
  f_X7_look_b40 fl q1 m2
def f_X7_readEither_l11_b (rk : Int32 → Int32 → Int32 → Int32 → Mem → Option (Mem)) (fl : Nat) (one : Nat → Int32 → Mem → Option Mem) (g1 : Nat) (g2 : Int32) (u3 : Int32) (u4 : Int32) (u5 : Int32) (u6 : Int32) (M0 : Mem) : Option (Mem) :=
  if u5 = 0 then
    some M0
  else
    if 100 ≤ u6 then
      some M0
    else
      bn1 (one g1 g2 M0) fun m3 =>
      bn1 (
        if u3 = 0 then
          some m3
        else
          drf 10 g1 fun j35 =>
          bn1 (f_X9_addCode fl j35 (-1) m3) fun m38 =>
          some m38
      ) fun m5 =>
      bn2 (f_X7_look fl  m5) fun v7 m6 =>
      bn2 (
        if v7 = 38 then
          some (1, m6)
        else
          some (0, m6)
      ) fun (q8 : Int32) m9 =>
      bn1 (
        if q8 = 0 then
          if u4 = 0 then
            some m9
          else
            drf 10 g1 fun j29 =>
            bn1 (f_X9_addCode fl j29 (-2) m9) fun m32 =>
            some m32
        else
          some m9
      ) fun m11 =>
      bn2 (f_X7_look fl  m11) fun v13 m12 =>
      bn2 (
        if v13 = 124 then
          some (1, m12)
        else
          if q8 = 0 then
            some (0, m12)
          else
            if u4 = 0 then
              some (0, m12)
            else
              some (1, m12)
      ) fun (q14 : Int32) m15 =>
      bn2 (
        if q8 = 0 then
          if q14 = 0 then
            some (0, m15)
          else
            some (1, m15)
        else
          some (1, m15)
      ) fun (q16 : Int32) m17 =>
      if q16 = 0 then
        lt1 (u6 + 1) fun (x19 : Int32) =>
        rk q8 q14 q16 x19 m17
      else
        lt1 (sI m17 5 0 2 ((gI m17 5 0 2) + 1)) fun m20 =>
        lt1 (u6 + 1) fun (x21 : Int32) =>
        rk q8 q14 q16 x21 m20
def f_X7_readEither_l11 (fl : Nat) (one : Nat → Int32 → Mem → Option Mem) (g1 : Nat) (g2 : Int32) : Nat → Int32 → Int32 → Int32 → Int32 → Mem → Option (Mem)
  | 0 => fun _ _ _ _ _ => none
  | n + 1 => fun u3 u4 u5 u6 M0 => f_X7_readEither_l11_b (f_X7_readEither_l11 fl one g1 g2 n) fl one g1 g2 u3 u4 u5 u6 M0
def f_X7_readEither (fl : Nat) (one : Nat → Int32 → Mem → Option Mem) (a1 : Nat) (a2 : Int32) (M0 : Mem) : Option (Mem) :=
  bn1 (f_X7_readEither_l11 fl one a1 a2 fl 0 0 1 0 M0) fun m40 =>
  some m40
def f_X7_readNumber_l4_b (rk : Int32 → Int32 → Mem → Option ((Int32 × Int32) × Mem)) (fl : Nat) (u1 : Int32) (u2 : Int32) (M0 : Mem) : Option ((Int32 × Int32) × Mem) :=
  if 3 ≤ u2 then
    some ((u1, u2), M0)
  else
    bn2 (f_X7_look fl  M0) fun v3 m2 =>
    if v3 < 48 then
      some ((u1, u2), m2)
    else
      bn2 (f_X7_look fl  m2) fun v6 m5 =>
      if 57 < v6 then
        some ((u1, u2), m5)
      else
        bn2 (f_X7_look fl  m5) fun v9 m8 =>
        lt1 (((10 * u1) + v9) - 48) fun (x10 : Int32) =>
        lt1 (u2 + 1) fun (x11 : Int32) =>
        lt1 (sI m8 5 0 2 ((gI m8 5 0 2) + 1)) fun m12 =>
        rk x10 x11 m12
def f_X7_readNumber_l4 (fl : Nat) : Nat → Int32 → Int32 → Mem → Option ((Int32 × Int32) × Mem)
  | 0 => fun _ _ _ => none
  | n + 1 => fun u1 u2 M0 => f_X7_readNumber_l4_b (f_X7_readNumber_l4 fl  n) fl  u1 u2 M0
def f_X7_readNumber_b56 (fl : Nat) (g1 : Int32) (g2 : Int32) (M0 : Mem) : Option (Int32 × Mem) :=
  if g2 = 0 then
    bn1 (f_X7_fail fl  M0) fun m16 =>
    some (g1, m16)
  else
    some (g1, M0)
def f_X7_readNumber (fl : Nat)  (M0 : Mem) : Option (Int32 × Mem) :=
  bn2 (f_X7_readNumber_l4 fl  fl 0 0 M0) fun (q13 : Int32 × Int32) m14 =>
  f_X7_readNumber_b56 fl q13.1 q13.2 m14
def f_X9_letterOf (fl : Nat) (a1 : Int32) (M0 : Mem) : Option (Int32 × Mem) :=
  if a1 = 99 then
    some (2, M0)
  else
  if a1 = 100 then
    some (4, M0)
  else
  if a1 = 101 then
    some ((-1), M0)
  else
  if a1 = 102 then
    some (5, M0)
  else
  if a1 = 103 then
    some ((-1), M0)
  else
  if a1 = 104 then
    some ((-1), M0)
  else
  if a1 = 105 then
    some ((-1), M0)
  else
  if a1 = 106 then
    some ((-1), M0)
  else
  if a1 = 107 then
    some ((-1), M0)
  else
  if a1 = 108 then
    some (1, M0)
  else
  if a1 = 109 then
    some ((-1), M0)
  else
  if a1 = 110 then
    some ((-1), M0)
  else
  if a1 = 111 then
    some ((-1), M0)
  else
  if a1 = 112 then
    some ((-1), M0)
  else
  if a1 = 113 then
    some ((-1), M0)
  else
  if a1 = 114 then
    some (3, M0)
  else
  if a1 = 115 then
    some ((-1), M0)
  else
  if a1 = 116 then
    some (0, M0)
  else
    some ((-1), M0)
def f_X9_relationOf (fl : Nat) (a1 : Int32) (M0 : Mem) : Option (Int32 × Mem) :=
  if a1 = 60 then
    some (0, M0)
  else
  if a1 = 61 then
    some (1, M0)
  else
  if a1 = 62 then
    some (2, M0)
  else
    some ((-1), M0)
def f_X9_addTest (fl : Nat) (o : Nat) (a1 : Int32) (a2 : Int32) (a3 : Int32) (M0 : Mem) : Option (Mem) :=
  bn1 (f_X9_addCode fl o ((((a1 * 3) + a2) * 1000) + a3) M0) fun m1 =>
  some m1
def f_X7_readTest_b42 (fl : Nat) (g1 : Nat) (g2 : Int32) (g3 : Int32) (M0 : Mem) : Option (Mem) :=
  lt1 (sI M0 5 0 2 ((gI M0 5 0 2) + 1)) fun m14 =>
  bn2 (f_X7_readNumber fl  m14) fun v16 m15 =>
  drf 10 g1 fun j17 =>
  bn1 (f_X9_addTest fl j17 g2 g3 v16 m15) fun m20 =>
  some m20
def f_X7_readTest_b16 (fl : Nat) (g1 : Nat) (g2 : Int32) (M0 : Mem) : Option (Mem) :=
  lt1 (sI M0 5 0 2 ((gI M0 5 0 2) + 1)) fun m7 =>
  bn2 (f_X7_look fl  m7) fun v9 m8 =>
  bn2 (f_X9_relationOf fl v9 m8) fun v11 m10 =>
  bn1 (
    if 0 ≤ v11 then
      some m10
    else
      bn1 (f_X7_fail fl  m10) fun m22 =>
      some m22
  ) fun m13 =>
  f_X7_readTest_b42 fl g1 g2 v11 m13
def f_X7_readTest (fl : Nat) (a1 : Nat) (M0 : Mem) : Option (Mem) :=
  bn2 (f_X7_look fl  M0) fun v2 m1 =>
  bn2 (f_X9_letterOf fl v2 m1) fun v4 m3 =>
  bn1 (
    if 0 ≤ v4 then
      some m3
    else
      bn1 (f_X7_fail fl  m3) fun m24 =>
      some m24
  ) fun m6 =>
  f_X7_readTest_b16 fl a1 v4 m6
def f_X7_readOne_b (rk : Nat → Int32 → Mem → Option (Mem)) (fl : Nat) (a1 : Nat) (a2 : Int32) (M0 : Mem) : Option (Mem) :=
  bn2 (
    if 4 ≤ a2 then
      some ((-1), M0)
    else
      bn2 (f_X7_look fl  M0) fun v21 m20 =>
      some (v21, m20)
  ) fun (q1 : Int32) m2 =>
  if q1 = 33 then
    lt1 (sI m2 5 0 2 ((gI m2 5 0 2) + 1)) fun m13 =>
    bn1 (rk a1 (a2 + 1) m13) fun m14 =>
    drf 10 a1 fun j15 =>
    bn1 (f_X9_addCode fl j15 (-3) m14) fun m18 =>
    some m18
  else
    if q1 = 40 then
      lt1 (sI m2 5 0 2 ((gI m2 5 0 2) + 1)) fun m6 =>
      bn1 (f_X7_readEither fl rk a1 (a2 + 1) m6) fun m7 =>
      bn2 (f_X7_look fl  m7) fun v9 m8 =>
      if v9 = 41 then
        lt1 (sI m8 5 0 2 ((gI m8 5 0 2) + 1)) fun m12 =>
        some m12
      else
        bn1 (f_X7_fail fl  m8) fun m11 =>
        some m11
    else
      bn1 (f_X7_readTest fl a1 m2) fun m5 =>
      some m5
def f_X7_readOne (fl : Nat) : Nat → Nat → Int32 → Mem → Option (Mem)
  | 0 => fun _ _ _ => none
  | d + 1 => fun a1 a2 M0 => f_X7_readOne_b (f_X7_readOne fl d) fl a1 a2 M0
def f_X7_readClause_b15 (fl : Nat) (g1 : Nat) (g2 : Int32) (M0 : Mem) : Option (Mem) :=
  drf 10 g1 fun j4 =>
  bn1 (f_X9_addClause fl j4 g2 (gI M0 19 j4 1) M0) fun m7 =>
  bn1 (f_X7_readEither fl (f_X7_readOne fl 8) (j4 + 1) 0 m7) fun m8 =>
  bn1 (f_X9_addCode fl j4 (-4) m8) fun m9 =>
  some m9
def f_X7_readClause (fl : Nat) (a1 : Nat) (M0 : Mem) : Option (Mem) :=
  bn2 (f_X7_readWord fl  M0) fun v2 m1 =>
  if v2 = 4 then
    f_X7_readClause_b15 fl a1 v2 m1
  else
    if v2 = 5 then
      f_X7_readClause_b15 fl a1 v2 m1
    else
      bn2 (f_X7_readNumber fl  m1) fun v12 m11 =>
      drf 10 a1 fun j13 =>
      bn1 (f_X9_addClause fl j13 v2 v12 m11) fun m16 =>
      some m16
def f_X7_readInto_l18_b (rk : Int32 → Int32 → Mem → Option (Mem)) (fl : Nat) (g1 : Nat) (u2 : Int32) (u3 : Int32) (M0 : Mem) : Option (Mem) :=
  if u2 = 0 then
    some M0
  else
    if 8 < u3 then
      some M0
    else
      bn1 (f_X7_readClause fl (g1 + 1) M0) fun m9 =>
      bn2 (f_X7_look fl  m9) fun v11 m10 =>
      bn2 (
        if v11 = 59 then
          if 8 ≤ u3 then
            some (0, m10)
          else
            some (1, m10)
        else
          some (0, m10)
      ) fun (q12 : Int32) m13 =>
      if q12 = 0 then
        lt1 (u3 + 1) fun (x15 : Int32) =>
        rk q12 x15 m13
      else
        lt1 (sI m13 5 0 2 ((gI m13 5 0 2) + 1)) fun m16 =>
        lt1 (u3 + 1) fun (x17 : Int32) =>
        rk q12 x17 m16
def f_X7_readInto_l18 (fl : Nat) (g1 : Nat) : Nat → Int32 → Int32 → Mem → Option (Mem)
  | 0 => fun _ _ _ => none
  | n + 1 => fun u2 u3 M0 => f_X7_readInto_l18_b (f_X7_readInto_l18 fl g1 n) fl g1 u2 u3 M0
def f_X7_readInto_b74 (fl : Nat) (M0 : Mem) : Option (Int32 × Mem) :=
  if (gI M0 5 0 0) ≤ (gI M0 5 0 2) then
    some ((gI M0 5 0 3), M0)
  else
    bn1 (f_X7_fail fl  M0) fun m23 =>
    some ((gI m23 5 0 3), m23)
def f_X7_readInto (fl : Nat) (a1 : Nat) (M0 : Mem) : Option (Int32 × Mem) :=
  lt1 (sI M0 5 0 2 0) fun m1 =>
  lt1 (sI m1 5 0 3 (-1)) fun m2 =>
  drf 10 a1 fun j3 =>
  bn1 (f_X9_empty fl j3 m2) fun m6 =>
  bn1 (f_X7_readInto_l18 fl j3 fl 1 1 m6) fun m21 =>
  f_X7_readInto_b74 fl  m21
def f_X8_become_l12_b (rk : Int32 → Mem → Option (Mem)) (fl : Nat) (g0 : Nat) (u3 : Int32) (M0 : Mem) : Option (Mem) :=
  if 60 ≤ u3 then
    some M0
  else
    asr (vq u3 60) <|
    lt1 (sL M0 43 g0 (Int32.toNatClampNeg u3) 0) fun m5 =>
    lt1 (u3 + 1) fun (x6 : Int32) =>
    rk x6 m5
def f_X8_become_l12 (fl : Nat) (g0 : Nat) : Nat → Int32 → Mem → Option (Mem)
  | 0 => fun _ _ => none
  | n + 1 => fun u3 M0 => f_X8_become_l12_b (f_X8_become_l12 fl g0 n) fl g0 u3 M0
def f_X8_become (fl : Nat) (o : Nat) (a1 : Int32) (a2 : Int32) (M0 : Mem) : Option (Mem) :=
  lt1 (sI M0 42 o 0 a1) fun m1 =>
  lt1 (sI m1 42 o 2 a2) fun m2 =>
  bn1 (f_X8_become_l12 fl o fl 0 m2) fun m8 =>
  some m8
def f_X8_hasItem (fl : Nat) (o : Nat) (a1 : Int64) (M0 : Mem) : Option (Int32 × Mem) :=
  if (lg_cmp a1 0) < 0 then
    some (0, M0)
  else
    if 0 ≤ (lg_cmp a1 (Int32.toInt64 (gI M0 42 o 2))) then
      some (0, M0)
    else
      if 0 ≤ (lg_cmp a1 60) then
        some (0, M0)
      else
        some (1, M0)
def f_X8_hasItems (fl : Nat) (o : Nat) (a1 : Int32) (a2 : Int32) (M0 : Mem) : Option (Int32 × Mem) :=
  if a1 < 0 then
    some (0, M0)
  else
    if a2 < 0 then
      some (0, M0)
    else
      if 0 < (lg_cmp ((Int32.toInt64 a1) + (Int32.toInt64 a2)) (Int32.toInt64 (gI M0 42 o 2))) then
        some (0, M0)
      else
        some (1, M0)
def f_X8_itemAt (fl : Nat) (o : Nat) (a1 : Int64) (M0 : Mem) : Option (Int64 × Mem) :=
  bn2 (f_X8_hasItem fl o a1 M0) fun v2 m1 =>
  if v2 = 0 then
    some (0, m1)
  else
    asr (vq (Int64.toInt32 a1) 60) <|
    some ((gL m1 43 o (Int32.toNatClampNeg (Int64.toInt32 a1))), m1)
def f_X8_trimmed (fl : Nat) (o : Nat) (a1 : Int64) (M0 : Mem) : Option (Int64 × Mem) :=
  if (gI M0 42 o 0) = 0 then
    some ((Int32.toInt64 (ji2b (Int64.toInt32 a1))), M0)
  else
  if (gI M0 42 o 0) = 1 then
    some ((Int32.toInt64 (ji2s (Int64.toInt32 a1))), M0)
  else
  if (gI M0 42 o 0) = 2 then
    some ((Int32.toInt64 (Int64.toInt32 a1)), M0)
  else
  if (gI M0 42 o 0) = 3 then
    some (a1, M0)
  else
    if (lg_cmp a1 0) = 0 then
      some (0, M0)
    else
      some (1, M0)
def f_X8_put (fl : Nat) (o : Nat) (a1 : Int32) (a2 : Int64) (M0 : Mem) : Option (Int32 × Mem) :=
  bn2 (f_X8_hasItem fl o (Int32.toInt64 a1) M0) fun v2 m1 =>
  if v2 = 0 then
    some (0, m1)
  else
    bn2 (f_X8_trimmed fl o a2 m1) fun y5 m4 =>
    asr (vq a1 60) <|
    lt1 (sL m4 43 o (Int32.toNatClampNeg a1) y5) fun m7 =>
    some (1, m7)
def f_X10_drain_b27 (fl : Nat) (g1 : Nat) (g2 : Int32) (z0 : Int32) (M0 : Mem) : Option (Mem) :=
  asr (vq g2 30) <|
  asr (vq g2 30) <|
  lt1 (sI M0 26 0 (Int32.toNatClampNeg g2) ((gI M0 26 0 (Int32.toNatClampNeg g2)) - z0)) fun m10 =>
  drf 30 g1 fun j11 =>
  if (gI m10 13 j11 5) < 0 then
    some m10
  else
    if 30 ≤ (gI m10 13 j11 5) then
      some m10
    else
      asr (vq (gI m10 13 j11 5) 30) <|
      asr (vq (gI m10 13 j11 5) 30) <|
      lt1 (sI m10 29 0 (Int32.toNatClampNeg (gI m10 13 j11 5)) ((gI m10 29 0 (Int32.toNatClampNeg (gI m10 13 j11 5))) + z0)) fun m18 =>
      some m18
def f_X10_drain (fl : Nat) (a1 : Nat) (a2 : Int32) (M0 : Mem) : Option (Mem) :=
  drf 30 a1 fun j1 =>
  bn2 (f_X1_latestAt fl j1 4 M0) fun c5 m4 =>
  bn2 (
    if c5 = 0 then
      some (0, m4)
    else
      asr (vq a2 30) <|
      drf (gR m4 999 23 0) c5 fun j21 =>
      some ((jmin (gI m4 26 0 (Int32.toNatClampNeg a2)) (gI m4 23 j21 4)), m4)
  ) fun (q6 : Int32) m7 =>
  f_X10_drain_b27 fl (j1 + 1) a2 q6 m7
def f_X10_runHour_l2_b (rk : Int32 → Mem → Option (Mem)) (fl : Nat) (g2 : Int32) (u3 : Int32) (M0 : Mem) : Option (Mem) :=
  if 30 ≤ u3 then
    some M0
  else
    asr (vq u3 30) <|
    lt1 (sI M0 29 0 (Int32.toNatClampNeg u3) 0) fun m3 =>
    lt1 (u3 + 1) fun (x4 : Int32) =>
    rk x4 m3
def f_X10_runHour_l2 (fl : Nat) (g2 : Int32) : Nat → Int32 → Mem → Option (Mem)
  | 0 => fun _ _ => none
  | n + 1 => fun u3 M0 => f_X10_runHour_l2_b (f_X10_runHour_l2 fl g2 n) fl g2 u3 M0
def f_X10_runHour_l23_b (rk : Int32 → Mem → Option (Mem)) (fl : Nat) (g2 : Int32) (u3 : Int32) (M0 : Mem) : Option (Mem) :=
  if 30 ≤ u3 then
    some M0
  else
    if 30 ≤ u3 then
      some M0
    else
      asr (vq u3 30) <|
      if (gI M0 13 (Int32.toNatClampNeg u3) 4) ≤ 0 then
        lt1 (u3 + 1) fun (x11 : Int32) =>
        rk x11 M0
      else
        asr (vq u3 30) <|
        asr (vq u3 30) <|
        asr (vq u3 30) <|
        lt1 (sI M0 26 0 (Int32.toNatClampNeg u3) ((gI M0 26 0 (Int32.toNatClampNeg u3)) + (((g2 * (gI M0 13 (Int32.toNatClampNeg u3) 4)) / 8) + (gI M0 28 0 (Int32.toNatClampNeg u3))))) fun m15 =>
        bn1 (f_X10_drain fl ((Int32.toNatClampNeg u3) + 1) u3 m15) fun m16 =>
        asr (vq u3 30) <|
        asr (vq u3 30) <|
        asr (vq u3 30) <|
        lt1 (sI m16 27 0 (Int32.toNatClampNeg u3) ((gI m16 27 0 (Int32.toNatClampNeg u3)) + (jmax 0 ((gI m16 26 0 (Int32.toNatClampNeg u3)) - 50)))) fun m20 =>
        lt1 (u3 + 1) fun (x21 : Int32) =>
        rk x21 m20
def f_X10_runHour_l23 (fl : Nat) (g2 : Int32) : Nat → Int32 → Mem → Option (Mem)
  | 0 => fun _ _ => none
  | n + 1 => fun u3 M0 => f_X10_runHour_l23_b (f_X10_runHour_l23 fl g2 n) fl g2 u3 M0
def f_X10_runHour_l116_b (rk : Int32 → Mem → Option (Mem)) (fl : Nat) (u3 : Int32) (M0 : Mem) : Option (Mem) :=
  if 30 ≤ u3 then
    some M0
  else
    asr (vq u3 30) <|
    asr (vq u3 30) <|
    lt1 (sI M0 28 0 (Int32.toNatClampNeg u3) (gI M0 29 0 (Int32.toNatClampNeg u3))) fun m27 =>
    lt1 (u3 + 1) fun (x28 : Int32) =>
    rk x28 m27
def f_X10_runHour_l116 (fl : Nat) : Nat → Int32 → Mem → Option (Mem)
  | 0 => fun _ _ => none
  | n + 1 => fun u3 M0 => f_X10_runHour_l116_b (f_X10_runHour_l116 fl  n) fl  u3 M0
def f_X10_runHour_b114 (fl : Nat) (M0 : Mem) : Option (Mem) :=
  bn1 (f_X10_runHour_l116 fl  fl 0 M0) fun m30 =>
  some m30
def f_X10_runHour (fl : Nat) (a2 : Int32) (M0 : Mem) : Option (Mem) :=
  bn1 (f_X10_runHour_l2 fl a2 fl 0 M0) fun m6 =>
  bn1 (f_X10_runHour_l23 fl a2 fl 0 m6) fun m23 =>
  f_X10_runHour_b114 fl  m23
def f_X10_runThrough_l2_b (rk : Int32 → Mem → Option (Mem)) (fl : Nat) (g2 : Int32) (u3 : Int32) (M0 : Mem) : Option (Mem) :=
  if 30 ≤ u3 then
    some M0
  else
    asr (vq u3 30) <|
    lt1 (sI M0 26 0 (Int32.toNatClampNeg u3) 0) fun m3 =>
    asr (vq u3 30) <|
    lt1 (sI m3 28 0 (Int32.toNatClampNeg u3) 0) fun m5 =>
    asr (vq u3 30) <|
    lt1 (sI m5 27 0 (Int32.toNatClampNeg u3) 0) fun m7 =>
    lt1 (u3 + 1) fun (x8 : Int32) =>
    rk x8 m7
def f_X10_runThrough_l2 (fl : Nat) (g2 : Int32) : Nat → Int32 → Mem → Option (Mem)
  | 0 => fun _ _ => none
  | n + 1 => fun u3 M0 => f_X10_runThrough_l2_b (f_X10_runThrough_l2 fl g2 n) fl g2 u3 M0
def f_X10_runThrough_l37_b (rk : Int32 → Mem → Option (Mem)) (fl : Nat) (g2 : Int32) (u3 : Int32) (M0 : Mem) : Option (Mem) :=
  if g2 < u3 then
    some M0
  else
    if 24 ≤ u3 then
      some M0
    else
      asr (vq u3 24) <|
      bn1 (f_X10_runHour fl (gI M0 25 0 (Int32.toNatClampNeg u3)) M0) fun m14 =>
      lt1 (u3 + 1) fun (x15 : Int32) =>
      rk x15 m14
def f_X10_runThrough_l37 (fl : Nat) (g2 : Int32) : Nat → Int32 → Mem → Option (Mem)
  | 0 => fun _ _ => none
  | n + 1 => fun u3 M0 => f_X10_runThrough_l37_b (f_X10_runThrough_l37 fl g2 n) fl g2 u3 M0
def f_X10_runThrough (fl : Nat) (a2 : Int32) (M0 : Mem) : Option (Mem) :=
  bn1 (f_X10_runThrough_l2 fl a2 fl 0 M0) fun m10 =>
  bn1 (f_X10_runThrough_l37 fl a2 fl 0 m10) fun m17 =>
  some m17
def f_X10_leaksOfAll_l4_b (rk : Int32 → Int32 → Mem → Option (Int32 × Mem)) (fl : Nat) (u1 : Int32) (u2 : Int32) (M0 : Mem) : Option (Int32 × Mem) :=
  if 30 ≤ u2 then
    some (u1, M0)
  else
    asr (vq u2 30) <|
    lt1 (u1 + (gI M0 27 0 (Int32.toNatClampNeg u2))) fun (x3 : Int32) =>
    lt1 (u2 + 1) fun (x4 : Int32) =>
    rk x3 x4 M0
def f_X10_leaksOfAll_l4 (fl : Nat) : Nat → Int32 → Int32 → Mem → Option (Int32 × Mem)
  | 0 => fun _ _ _ => none
  | n + 1 => fun u1 u2 M0 => f_X10_leaksOfAll_l4_b (f_X10_leaksOfAll_l4 fl  n) fl  u1 u2 M0
def f_X10_leaksOfAll (fl : Nat)  (M0 : Mem) : Option (Int32 × Mem) :=
  bn2 (f_X10_leaksOfAll_l4 fl  fl 0 0 M0) fun (q5 : Int32) m6 =>
  some (q5, m6)
def f_X11_pass (fl : Nat) (a1 : Int32) (M0 : Mem) : Option (Int32 × Mem) :=
  if a1 < 1 then
    some ((-2), M0)
  else
    if 50 < a1 then
      some ((-2), M0)
    else
      if a1 ≤ (399 - (gI M0 0 0 0)) then
        lt1 (sI M0 0 0 0 ((gI M0 0 0 0) + a1)) fun m4 =>
        some ((gI m4 0 0 0), m4)
      else
        some ((-2), M0)
def f_X11_isBay (fl : Nat) (a1 : Int32) (M0 : Mem) : Option (Int32 × Mem) :=
  if a1 < 0 then
    some (0, M0)
  else
    if 30 ≤ a1 then
      some (0, M0)
    else
      some (1, M0)
def f_X11_bayOf (fl : Nat) (a1 : Int32) (M0 : Mem) : Option (Nat × Mem) :=
  bn2 (f_X11_isBay fl a1 M0) fun v2 m1 =>
  if v2 = 0 then
    some (0, m1)
  else
    asr (vq a1 30) <|
    some (((Int32.toNatClampNeg a1) + 1), m1)
def f_X11_bay_b73 (fl : Nat) (g2 : Int32) (g3 : Int32) (g4 : Nat) (z0 : Int32) (M0 : Mem) : Option (Int32 × Mem) :=
  if g2 = 0 then
    drf 30 g4 fun j23 =>
    lt1 (sI M0 13 j23 1 g3) fun m26 =>
    some (z0, m26)
  else
    drf 30 g4 fun j19 =>
    lt1 (sI M0 13 j19 2 g3) fun m22 =>
    some (z0, m22)
def f_X11_bay_b39 (fl : Nat) (g2 : Int32) (g3 : Int32) (g4 : Nat) (z0 : Int32) (z1 : Int32) (M0 : Mem) : Option (Int32 × Mem) :=
  if z0 ≤ z1 then
    drf 30 g4 fun j10 =>
    bn2 (f_X1_isBare fl j10 M0) fun v14 m13 =>
    if v14 = 0 then
      some ((-3), m13)
    else
      bn2 (
        if g2 = 0 then
          some ((gI m13 13 j10 1), m13)
        else
          some ((gI m13 13 j10 2), m13)
      ) fun (q16 : Int32) m17 =>
      f_X11_bay_b73 fl g2 g3 (j10 + 1) q16 m17
  else
    some ((-2), M0)
def f_X11_bay (fl : Nat) (a1 : Int32) (a2 : Int32) (a3 : Int32) (M0 : Mem) : Option (Int32 × Mem) :=
  bn2 (f_X11_bayOf fl a1 M0) fun c2 m1 =>
  if c2 = 0 then
    some ((-1), m1)
  else
    if a2 < 0 then
      some ((-1), m1)
    else
      if a2 ≤ 1 then
        if a3 < 0 then
          some ((-2), m1)
        else
          bn2 (
            if a2 = 0 then
              some (20, m1)
            else
              some (60, m1)
          ) fun (q7 : Int32) m8 =>
          f_X11_bay_b39 fl a2 a3 c2 a3 q7 m8
      else
        some ((-1), m1)
def f_X11_isFoundry (fl : Nat) (a1 : Int32) (M0 : Mem) : Option (Int32 × Mem) :=
  if a1 < 0 then
    some (0, M0)
  else
    if 8 ≤ a1 then
      some (0, M0)
    else
      some (1, M0)
def f_X11_foundry (fl : Nat) (a1 : Int32) (a2 : Int32) (a3 : Int32) (M0 : Mem) : Option (Int32 × Mem) :=
  bn2 (f_X11_isFoundry fl a1 M0) fun v2 m1 =>
  if v2 = 0 then
    some ((-1), m1)
  else
    if a2 < 1 then
      some ((-2), m1)
    else
      if 60 < a3 then
        some ((-2), m1)
      else
        if a2 ≤ a3 then
          asr (vq a1 8) <|
          lt1 (sI m1 1 0 (Int32.toNatClampNeg a1) a2) fun m8 =>
          asr (vq a1 8) <|
          lt1 (sI m8 2 0 (Int32.toNatClampNeg a1) a3) fun m10 =>
          some (1, m10)
        else
          some ((-2), m1)
def f_X11_isKind (fl : Nat) (a1 : Int32) (M0 : Mem) : Option (Int32 × Mem) :=
  if a1 < 0 then
    some (0, M0)
  else
    if 6 < a1 then
      some (0, M0)
    else
      some (1, M0)
def f_X11_isNumberOfPieces (fl : Nat) (a1 : Int32) (M0 : Mem) : Option (Int32 × Mem) :=
  if a1 < 1 then
    some (0, M0)
  else
    if 999 < a1 then
      some (0, M0)
    else
      some (1, M0)
def f_X11_order (fl : Nat) (a1 : Int32) (a2 : Int32) (a3 : Int32) (a4 : Int32) (M0 : Mem) : Option (Int32 × Mem) :=
  bn2 (f_X11_isKind fl a1 M0) fun v2 m1 =>
  if v2 = 0 then
    some ((-1), m1)
  else
    bn2 (f_X11_isFoundry fl a2 m1) fun v5 m4 =>
    if v5 = 0 then
      some ((-1), m4)
    else
      bn2 (f_X11_isNumberOfPieces fl a3 m4) fun v8 m7 =>
      if v8 = 0 then
        some ((-2), m7)
      else
        if a4 < 0 then
          some ((-2), m7)
        else
          if a4 ≤ 999 then
            if (gI m7 0 0 4) < 60 then
              asr (gR m7 997 23 (gR m7 999 23 0) = gR m7 998 0 0) <|
              lt1 (gR m7 999 23 0) fun (i14 : Nat) =>
              lt1 (sN m7 23) fun (m15 : Mem) =>
              bn1 (f_X4_init fl i14 (gI m15 0 0 4) a1 a2 a3 a4 (gI m15 0 0 0) m15) fun m17 =>
              asr (vq (gI m7 0 0 4) 60) <|
              asr ((i14 + 1) ≤ (gR m17 999 23 0)) <|
              lt1 (sR m17 3 0 (Int32.toNatClampNeg (gI m7 0 0 4)) (i14 + 1)) fun m20 =>
              lt1 (sI m20 0 0 4 ((gI m20 0 0 4) + 1)) fun m21 =>
              some (((gI m21 0 0 4) - 1), m21)
            else
              some ((-4), m7)
          else
            some ((-2), m7)
def f_X11_lotOf (fl : Nat) (a1 : Int32) (M0 : Mem) : Option (Nat × Mem) :=
  if a1 < 0 then
    some (0, M0)
  else
    if 60 ≤ a1 then
      some (0, M0)
    else
      asr (vq a1 60) <|
      some ((gR M0 3 0 (Int32.toNatClampNeg a1)), M0)
def f_X11_come (fl : Nat) (a1 : Int32) (a2 : Int32) (M0 : Mem) : Option (Int32 × Mem) :=
  bn2 (f_X11_lotOf fl a1 M0) fun c2 m1 =>
  if c2 = 0 then
    some ((-1), m1)
  else
    drf (gR m1 999 23 0) c2 fun j4 =>
    if a2 < (gI m1 23 j4 5) then
      some ((-2), m1)
    else
      if a2 ≤ (gI m1 0 0 0) then
        bn2 (f_X4_isTold fl j4 m1) fun v10 m9 =>
        if v10 = 0 then
          asr (j4 < gR m9 999 23 0) <|
          lt1 (sI m9 23 j4 6 a2) fun m13 =>
          lt1 (sI m13 23 j4 7 (gI m13 0 0 0)) fun m14 =>
          some (1, m14)
        else
          some ((-3), m9)
      else
        some ((-2), m1)
def f_X11_isBarred_l31_b (rk : Int32 → Mem → Option (Nat × Mem)) (fl : Nat) (g1 : Nat) (g3 : Int32) (u4 : Int32) (M0 : Mem) : Option (Nat × Mem) :=
  if g3 ≤ u4 then
    some (1, M0)
  else
    asr (vq u4 60) <|
    lt1 (gR M0 3 0 (Int32.toNatClampNeg u4)) fun c9 =>
    if c9 = 0 then
      lt1 (u4 + 1) fun (x11 : Int32) =>
      rk x11 M0
    else
      drf (gR M0 999 23 0) c9 fun j12 =>
      if (gI M0 23 j12 9) ≤ 0 then
        lt1 (u4 + 1) fun (x16 : Int32) =>
        rk x16 M0
      else
        bn2 (f_X4_isOrderedLike fl j12 g1 M0) fun v18 m17 =>
        if v18 = 0 then
          lt1 (u4 + 1) fun (x20 : Int32) =>
          rk x20 m17
        else
          some (0, m17)
def f_X11_isBarred_l31 (fl : Nat) (g1 : Nat) (g3 : Int32) : Nat → Int32 → Mem → Option (Nat × Mem)
  | 0 => fun _ _ => none
  | n + 1 => fun u4 M0 => f_X11_isBarred_l31_b (f_X11_isBarred_l31 fl g1 g3 n) fl g1 g3 u4 M0
def f_X11_isBarred (fl : Nat) (a1 : Nat) (M0 : Mem) : Option (Int32 × Mem) :=
  drf (gR M0 999 23 0) a1 fun j1 =>
  bn2 (f_X3_bars fl (gI M0 23 j1 2) (gI M0 0 0 0) M0) fun v5 m4 =>
  if v5 = 0 then
    bn2 (f_X11_isBarred_l31 fl (j1 + 1) 60 fl 0 m4) fun (q21 : Nat) m22 =>
    if q21 = 0 then
      some (1, m22)
    else
      some (0, m22)
  else
    some (1, m4)
def f_X11_of (fl : Nat) (a1 : Int32) (a2 : Int32) (M0 : Mem) : Option (Int32 × Mem) :=
  bn2 (f_X11_lotOf fl a1 M0) fun c2 m1 =>
  if c2 = 0 then
    some ((-1), m1)
  else
    if a2 = 0 then
      drf (gR m1 999 23 0) c2 fun j5 =>
      some ((gI m1 23 j5 1), m1)
    else
    if a2 = 1 then
      drf (gR m1 999 23 0) c2 fun j9 =>
      some ((gI m1 23 j9 2), m1)
    else
    if a2 = 2 then
      drf (gR m1 999 23 0) c2 fun j13 =>
      some ((gI m1 23 j13 3), m1)
    else
    if a2 = 3 then
      drf (gR m1 999 23 0) c2 fun j17 =>
      some ((gI m1 23 j17 4), m1)
    else
    if a2 = 4 then
      drf (gR m1 999 23 0) c2 fun j21 =>
      some ((gI m1 23 j21 5), m1)
    else
    if a2 = 5 then
      drf (gR m1 999 23 0) c2 fun j25 =>
      some ((gI m1 23 j25 6), m1)
    else
    if a2 = 6 then
      drf (gR m1 999 23 0) c2 fun j29 =>
      bn2 (f_X4_stock fl j29 m1) fun v33 m32 =>
      some (v33, m32)
    else
    if a2 = 7 then
      bn2 (f_X11_isBarred fl c2 m1) fun v36 m35 =>
      if v36 = 0 then
        some (0, m35)
      else
        some (1, m35)
    else
    if a2 = 8 then
      drf (gR m1 999 23 0) c2 fun j39 =>
      bn2 (f_X3_numberFor fl 1 (gI m1 23 j39 5) m1) fun v43 m42 =>
      some (((gI m1 23 j39 3) * v43), m42)
    else
      some ((-1), m1)
def f_X11_tried_b55 (fl : Nat) (g3 : Nat) (z0 : Int32) (z1 : Int32) (M0 : Mem) : Option (Int32 × Mem) :=
  if z1 < z0 then
    drf (gR M0 999 23 0) g3 fun j16 =>
    lt1 (sI M0 23 j16 9 ((gI M0 23 j16 9) + 1)) fun m19 =>
    some (0, m19)
  else
    some (1, M0)
def f_X11_tried (fl : Nat) (a1 : Int32) (a2 : Int32) (M0 : Mem) : Option (Int32 × Mem) :=
  bn2 (f_X11_lotOf fl a1 M0) fun c2 m1 =>
  if c2 = 0 then
    some ((-1), m1)
  else
    if a2 < 0 then
      some ((-2), m1)
    else
      if a2 ≤ 2000 then
        drf (gR m1 999 23 0) c2 fun j6 =>
        bn2 (f_X4_stock fl j6 m1) fun v10 m9 =>
        if 1 ≤ v10 then
          asr (j6 < gR m9 999 23 0) <|
          bn2 (
            if (gI m9 23 j6 1) = 2 then
              some ((gI m9 23 j6 4), m9)
            else
              some (100, m9)
          ) fun (q13 : Int32) m14 =>
          f_X11_tried_b55 fl (j6 + 1) a2 q13 m14
        else
          some ((-3), m9)
      else
        some ((-2), m1)
def f_X11_sell (fl : Nat) (a1 : Int32) (a2 : Int32) (M0 : Mem) : Option (Int32 × Mem) :=
  bn2 (f_X11_lotOf fl a1 M0) fun c2 m1 =>
  if c2 = 0 then
    some ((-1), m1)
  else
    bn2 (f_X11_isNumberOfPieces fl a2 m1) fun v5 m4 =>
    if v5 = 0 then
      some ((-2), m4)
    else
      drf (gR m4 999 23 0) c2 fun j7 =>
      bn2 (f_X4_stock fl j7 m4) fun v11 m10 =>
      if a2 ≤ v11 then
        asr (j7 < gR m10 999 23 0) <|
        lt1 (sI m10 23 j7 10 ((gI m10 23 j7 10) + a2)) fun m14 =>
        bn2 (f_X4_stock fl j7 m14) fun v16 m15 =>
        some (v16, m15)
      else
        some ((-3), m10)
def f_X11_wants (fl : Nat) (a1 : Int32) (M0 : Mem) : Option (Int32 × Mem) :=
  bn2 (f_X11_bayOf fl a1 M0) fun c2 m1 =>
  if c2 = 0 then
    some ((-1), m1)
  else
    drf 30 c2 fun j4 =>
    bn2 (f_X1_wantedLength fl j4 m1) fun v8 m7 =>
    some (v8, m7)
def f_X11_hasLengthFor (fl : Nat) (a1 : Nat) (a2 : Int32) (M0 : Mem) : Option (Int32 × Mem) :=
  drf 30 a1 fun j1 =>
  bn2 (f_X1_wantedLength fl j1 M0) fun v5 m4 =>
  lt1 (v5 - a2) fun (x6 : Int32) =>
  if x6 < 0 then
    some (0, m4)
  else
    bn2 (f_X3_numberFor fl 0 (gI m4 0 0 0) m4) fun v9 m8 =>
    if v9 < x6 then
      some (0, m8)
    else
      some (1, m8)
def f_X11_rightOf (fl : Nat) (a1 : Nat) (M0 : Mem) : Option (Nat × Mem) :=
  drf 30 a1 fun j1 =>
  bn2 (f_X1_column fl j1 M0) fun v5 m4 =>
  if v5 = 5 then
    some (0, m4)
  else
    bn2 (f_X11_bayOf fl ((gI m4 13 j1 0) + 1) m4) fun c8 m7 =>
    some (c8, m7)
def f_X11_hasGroundFor_b10 (fl : Nat) (g1 : Nat) (M0 : Mem) : Option (Int32 × Mem) :=
  drf 30 g1 fun j2 =>
  bn2 (f_X1_has fl j2 2 M0) fun v6 m5 =>
  asr (v6 = 0 ∨ v6 = 1) <|
  some (v6, m5)
def f_X11_hasGroundFor (fl : Nat) (a1 : Nat) (a2 : Int32) (M0 : Mem) : Option (Int32 × Mem) :=
  if a2 = 3 then
    f_X11_hasGroundFor_b10 fl a1 M0
  else
    if a2 = 4 then
      f_X11_hasGroundFor_b10 fl a1 M0
    else
      bn2 (f_X11_rightOf fl a1 M0) fun c10 m9 =>
      if a2 = 2 then
        drf 30 a1 fun j12 =>
        bn2 (f_X1_has fl j12 1 m9) fun v16 m15 =>
        if v16 = 0 then
          some (0, m15)
        else
          if c10 = 0 then
            some (1, m15)
          else
            drf 30 c10 fun j19 =>
            bn2 (f_X1_has fl j19 1 m15) fun v23 m22 =>
            if v23 = 0 then
              some (0, m22)
            else
              some (1, m22)
      else
        some (1, m9)
def f_X11_hindrance_b80 (fl : Nat) (g2 : Nat) (g3 : Int32) (M0 : Mem) : Option (Int32 × Mem) :=
  bn2 (f_X11_hasGroundFor fl g2 g3 M0) fun v23 m22 =>
  if v23 = 0 then
    some ((-7), m22)
  else
    some (1, m22)
def f_X11_hindrance_b65 (fl : Nat) (g2 : Nat) (g3 : Int32) (M0 : Mem) : Option (Int32 × Mem) :=
  if g3 = 1 then
    drf 30 g2 fun j25 =>
    if (gI M0 13 j25 2) ≤ 0 then
      f_X11_hindrance_b80 fl (j25 + 1) g3 M0
    else
      some ((-6), M0)
  else
    f_X11_hindrance_b80 fl g2 g3 M0
def f_X11_hindrance (fl : Nat) (a1 : Nat) (a2 : Nat) (M0 : Mem) : Option (Int32 × Mem) :=
  drf (gR M0 999 23 0) a1 fun j1 =>
  bn2 (f_X4_place fl j1 M0) fun v5 m4 =>
  asr (j1 < gR m4 999 23 0) <|
  bn2 (f_X4_stock fl j1 m4) fun v8 m7 =>
  if 1 ≤ v8 then
    bn2 (f_X11_isBarred fl (j1 + 1) m7) fun v11 m10 =>
    if v11 = 0 then
      if v5 = 0 then
        some ((-3), m10)
      else
        drf 30 a2 fun j14 =>
        bn2 (f_X1_room fl j14 v5 m10) fun v18 m17 =>
        if 1 ≤ v18 then
          if v5 = 1 then
            asr (j1 < gR m17 999 23 0) <|
            bn2 (f_X11_hasLengthFor fl (j14 + 1) (gI m17 23 j1 4) m17) fun v31 m30 =>
            if v31 = 0 then
              some ((-5), m30)
            else
              f_X11_hindrance_b65 fl (j14 + 1) v5 m30
          else
            f_X11_hindrance_b65 fl (j14 + 1) v5 m17
        else
          some ((-4), m17)
    else
      some ((-2), m10)
  else
    some (0, m7)
def f_X11_fit (fl : Nat) (a1 : Int32) (a2 : Int32) (M0 : Mem) : Option (Int32 × Mem) :=
  bn2 (f_X11_lotOf fl a1 M0) fun c2 m1 =>
  bn2 (f_X11_bayOf fl a2 m1) fun c4 m3 =>
  if c2 = 0 then
    some ((-1), m3)
  else
    if c4 = 0 then
      some ((-1), m3)
    else
      bn2 (f_X11_hindrance fl c2 c4 m3) fun v8 m7 =>
      some (v8, m7)
def f_X11_set (fl : Nat) (a1 : Int32) (a2 : Int32) (M0 : Mem) : Option (Int32 × Mem) :=
  bn2 (f_X11_lotOf fl a1 M0) fun c2 m1 =>
  bn2 (f_X11_bayOf fl a2 m1) fun c4 m3 =>
  if c2 = 0 then
    some ((-1), m3)
  else
    if c4 = 0 then
      some ((-1), m3)
    else
      bn2 (f_X11_hindrance fl c2 c4 m3) fun v8 m7 =>
      if v8 = 1 then
        drf 30 c4 fun j10 =>
        bn1 (f_X1_put fl j10 c2 m7) fun m13 =>
        some (1, m13)
      else
        some ((-3), m7)
def f_X11_isPlace (fl : Nat) (a1 : Int32) (M0 : Mem) : Option (Int32 × Mem) :=
  if a1 < 1 then
    some (0, M0)
  else
    if 5 < a1 then
      some (0, M0)
    else
      some (1, M0)
def f_X11_at (fl : Nat) (a1 : Int32) (a2 : Int32) (M0 : Mem) : Option (Int32 × Mem) :=
  bn2 (f_X11_bayOf fl a1 M0) fun c2 m1 =>
  if c2 = 0 then
    some ((-1), m1)
  else
    bn2 (f_X11_isPlace fl a2 m1) fun v5 m4 =>
    if v5 = 0 then
      some ((-1), m4)
    else
      if a2 = 3 then
        drf 30 c2 fun j17 =>
        some ((gI m4 13 j17 4), m4)
      else
        drf 30 c2 fun j8 =>
        bn2 (f_X1_latestAt fl j8 a2 m4) fun c12 m11 =>
        if c12 = 0 then
          some ((-5), m11)
        else
          drf (gR m11 999 23 0) c12 fun j14 =>
          some ((gI m11 23 j14 0), m11)
def f_X11_leftOf (fl : Nat) (a1 : Nat) (M0 : Mem) : Option (Nat × Mem) :=
  drf 30 a1 fun j1 =>
  bn2 (f_X1_column fl j1 M0) fun v5 m4 =>
  if v5 = 0 then
    some (0, m4)
  else
    bn2 (f_X11_bayOf fl ((gI m4 13 j1 0) - 1) m4) fun c8 m7 =>
    some (c8, m7)
def f_X11_isNeeded (fl : Nat) (a1 : Nat) (a2 : Int32) (M0 : Mem) : Option (Int32 × Mem) :=
  if a2 = 2 then
    drf 30 a1 fun j18 =>
    bn2 (f_X1_has fl j18 3 M0) fun v22 m21 =>
    if v22 = 0 then
      bn2 (f_X1_has fl j18 4 m21) fun v25 m24 =>
      if v25 = 0 then
        some (0, m24)
      else
        some (1, m24)
    else
      some (1, m21)
  else
    bn2 (f_X11_leftOf fl a1 M0) fun c3 m2 =>
    if a2 = 1 then
      drf 30 a1 fun j5 =>
      bn2 (f_X1_has fl j5 2 m2) fun v9 m8 =>
      if v9 = 0 then
        if c3 = 0 then
          some (0, m8)
        else
          drf 30 c3 fun j12 =>
          bn2 (f_X1_has fl j12 2 m8) fun v16 m15 =>
          if v16 = 0 then
            some (0, m15)
          else
            some (1, m15)
      else
        some (1, m8)
    else
      some (0, m2)
def f_X11_down (fl : Nat) (a1 : Int32) (a2 : Int32) (M0 : Mem) : Option (Int32 × Mem) :=
  bn2 (f_X11_bayOf fl a1 M0) fun c2 m1 =>
  if c2 = 0 then
    some ((-1), m1)
  else
    bn2 (f_X11_isPlace fl a2 m1) fun v5 m4 =>
    if v5 = 0 then
      some ((-1), m4)
    else
      drf 30 c2 fun j7 =>
      bn2 (f_X1_latestAt fl j7 a2 m4) fun c11 m10 =>
      if c11 = 0 then
        some ((-3), m10)
      else
        bn2 (f_X11_isNeeded fl (j7 + 1) a2 m10) fun v14 m13 =>
        if v14 = 0 then
          bn1 (f_X1_remove fl j7 c11 m13) fun m16 =>
          drf (gR m16 999 23 0) c11 fun j17 =>
          some ((gI m16 23 j17 0), m16)
        else
          some ((-3), m13)
def f_X11_cut (fl : Nat) (a1 : Int32) (M0 : Mem) : Option (Int32 × Mem) :=
  bn2 (f_X11_bayOf fl a1 M0) fun c2 m1 =>
  if c2 = 0 then
    some ((-1), m1)
  else
    drf 30 c2 fun j4 =>
    if (gI m1 13 j4 2) = 0 then
      some ((-3), m1)
    else
      bn2 (f_X3_mayCut fl (j4 + 1) (gI m1 0 0 0) m1) fun v9 m8 =>
      if v9 = 0 then
        some ((-3), m8)
      else
        lt1 (gI m8 13 j4 2) fun (x11 : Int32) =>
        lt1 (sI m8 13 j4 2 0) fun m12 =>
        some (x11, m12)
def f_X11_feed_l33_b (rk : Int32 → Mem → Option (Mem)) (fl : Nat) (g1 : Int32) (u3 : Int32) (M0 : Mem) : Option (Mem) :=
  if u3 < 0 then
    some M0
  else
    bn1 (f_X7_append fl ((jshr g1 (8 * u3)) &&& 255) M0) fun m6 =>
    lt1 (u3 + (-1)) fun (x7 : Int32) =>
    rk x7 m6
def f_X11_feed_l33 (fl : Nat) (g1 : Int32) : Nat → Int32 → Mem → Option (Mem)
  | 0 => fun _ _ => none
  | n + 1 => fun u3 M0 => f_X11_feed_l33_b (f_X11_feed_l33 fl g1 n) fl g1 u3 M0
def f_X11_feed (fl : Nat) (a1 : Int32) (a2 : Int32) (M0 : Mem) : Option (Int32 × Mem) :=
  if a2 < 0 then
    some ((-2), M0)
  else
    if a2 ≤ 4 then
      if a2 ≤ (100 - (gI M0 5 0 0)) then
        lt1 (a2 - 1) fun (x4 : Int32) =>
        bn1 (f_X11_feed_l33 fl a1 fl x4 M0) fun m9 =>
        some ((gI m9 5 0 0), m9)
      else
        some ((-4), M0)
    else
      some ((-2), M0)
def f_X11_isDay (fl : Nat) (a1 : Int32) (M0 : Mem) : Option (Int32 × Mem) :=
  if a1 < 0 then
    some (0, M0)
  else
    if 399 < a1 then
      some (0, M0)
    else
      some (1, M0)
def f_X11_law (fl : Nat) (a1 : Int32) (M0 : Mem) : Option (Int32 × Mem) :=
  bn2 (f_X11_isDay fl a1 M0) fun v2 m1 =>
  if v2 = 0 then
    some ((-2), m1)
  else
    bn2 (f_X3_nextText fl  m1) fun c5 m4 =>
    if c5 = 0 then
      some ((-4), m4)
    else
      bn2 (f_X7_readInto fl c5 m4) fun v8 m7 =>
      lt1 (sI m7 5 0 0 0) fun m9 =>
      if v8 < 0 then
        drf 10 c5 fun j11 =>
        lt1 (sI m9 19 j11 0 a1) fun m14 =>
        lt1 (sI m14 6 0 0 ((gI m14 6 0 0) + 1)) fun m15 =>
        some (((gI m15 6 0 0) - 1), m15)
      else
        some (((-10) - v8), m9)
def f_X11_isWord (fl : Nat) (a1 : Int32) (M0 : Mem) : Option (Int32 × Mem) :=
  if a1 < 0 then
    some (0, M0)
  else
    if 6 ≤ a1 then
      some (0, M0)
    else
      some (1, M0)
def f_X11_force_b38 (fl : Nat) (g1 : Int32) (g2 : Int32) (g3 : Int32) (g4 : Nat) (M0 : Mem) : Option (Int32 × Mem) :=
  bn2 (f_X11_isDay fl g2 M0) fun v9 m8 =>
  if v9 = 0 then
    some ((-2), m8)
  else
    if g1 = 5 then
      bn2 (f_X3_bars fl g3 g2 m8) fun v20 m19 =>
      if v20 = 0 then
        some (0, m19)
      else
        some (1, m19)
    else
      if g1 = 4 then
        if g4 = 0 then
          some (0, m8)
        else
          bn2 (f_X3_mayCut fl g4 g2 m8) fun v17 m16 =>
          if v17 = 0 then
            some (0, m16)
          else
            some (1, m16)
      else
        bn2 (f_X3_numberFor fl g1 g2 m8) fun v14 m13 =>
        some (v14, m13)
def f_X11_force_b24 (fl : Nat) (g1 : Int32) (g2 : Int32) (g3 : Int32) (g4 : Nat) (M0 : Mem) : Option (Int32 × Mem) :=
  if g1 = 5 then
    bn2 (f_X11_isFoundry fl g3 M0) fun v23 m22 =>
    if v23 = 0 then
      some ((-1), m22)
    else
      f_X11_force_b38 fl g1 g2 g3 g4 m22
  else
    f_X11_force_b38 fl g1 g2 g3 g4 M0
def f_X11_force (fl : Nat) (a1 : Int32) (a2 : Int32) (a3 : Int32) (M0 : Mem) : Option (Int32 × Mem) :=
  bn2 (f_X11_bayOf fl a3 M0) fun c2 m1 =>
  bn2 (f_X11_isWord fl a1 m1) fun v4 m3 =>
  if v4 = 0 then
    some ((-1), m3)
  else
    if a1 = 4 then
      if c2 = 0 then
        some ((-1), m3)
      else
        f_X11_force_b24 fl a1 a2 a3 c2 m3
    else
      f_X11_force_b24 fl a1 a2 a3 c2 m3
def f_X11_why (fl : Nat) (a1 : Int32) (a2 : Int32) (M0 : Mem) : Option (Int32 × Mem) :=
  bn2 (f_X11_isWord fl a1 M0) fun v2 m1 =>
  if v2 = 0 then
    some ((-1), m1)
  else
    bn2 (f_X11_isDay fl a2 m1) fun v5 m4 =>
    if v5 = 0 then
      some ((-2), m4)
    else
      bn2 (f_X3_textFor fl a1 a2 m4) fun v8 m7 =>
      bn2 (f_X3_textOf fl v8 m7) fun c10 m9 =>
      if c10 = 0 then
        some ((-5), m9)
      else
        drf 10 c10 fun j12 =>
        bn2 (f_X9_lastClauseOf fl j12 a1 m9) fun v16 m15 =>
        some (((100 * v8) + v16), m15)
def f_X11_people (fl : Nat) (a1 : Int32) (a2 : Int32) (M0 : Mem) : Option (Int32 × Mem) :=
  bn2 (f_X11_bayOf fl a1 M0) fun c2 m1 =>
  if c2 = 0 then
    some ((-1), m1)
  else
    if a2 < 0 then
      some ((-2), m1)
    else
      if a2 ≤ 200 then
        drf 30 c2 fun j6 =>
        lt1 (gI m1 13 j6 3) fun (x9 : Int32) =>
        lt1 (sI m1 13 j6 3 a2) fun m10 =>
        some (x9, m10)
      else
        some ((-2), m1)
def f_X11_girderLoad (fl : Nat) (a1 : Nat) (M0 : Mem) : Option (Int32 × Mem) :=
  drf 30 a1 fun j1 =>
  bn2 (f_X1_has fl j1 2 M0) fun v5 m4 =>
  if v5 = 0 then
    some (0, m4)
  else
    bn2 (f_X3_numberFor fl 2 (gI m4 0 0 0) m4) fun v8 m7 =>
    bn2 (f_X3_numberFor fl 3 (gI m7 0 0 0) m7) fun v10 m9 =>
    some (((v8 * (gI m7 13 j1 3)) + (v10 * (gI m9 13 j1 4))), m9)
def f_X11_columnLoad (fl : Nat) (a1 : Nat) (M0 : Mem) : Option (Int32 × Mem) :=
  bn2 (f_X11_leftOf fl a1 M0) fun c2 m1 =>
  bn2 (f_X11_girderLoad fl a1 m1) fun v4 m3 =>
  if c2 = 0 then
    some ((v4 + 0), m3)
  else
    bn2 (f_X11_girderLoad fl c2 m3) fun v7 m6 =>
    some ((v4 + v7), m6)
def f_X11_girderHolds (fl : Nat) (a1 : Nat) (M0 : Mem) : Option (Int32 × Mem) :=
  drf 30 a1 fun j1 =>
  bn2 (f_X1_latestAt fl j1 2 M0) fun c5 m4 =>
  if c5 = 0 then
    some (1, m4)
  else
    bn2 (f_X11_girderLoad fl (j1 + 1) m4) fun v8 m7 =>
    drf (gR m7 999 23 0) c5 fun j9 =>
    if (gI m7 23 j9 4) < v8 then
      some (0, m7)
    else
      some (1, m7)
def f_X11_columnHolds (fl : Nat) (a1 : Nat) (M0 : Mem) : Option (Int32 × Mem) :=
  drf 30 a1 fun j1 =>
  bn2 (f_X1_latestAt fl j1 1 M0) fun c5 m4 =>
  if c5 = 0 then
    some (1, m4)
  else
    bn2 (f_X11_columnLoad fl (j1 + 1) m4) fun v8 m7 =>
    drf (gR m7 999 23 0) c5 fun j9 =>
    if (600 - (3 * (gI m7 23 j9 4))) < v8 then
      some (0, m7)
    else
      some (1, m7)
def f_X11_bears_b48 (fl : Nat) (g2 : Int32) (g3 : Nat) (z0 : Nat) (z1 : Int32) (M0 : Mem) : Option (Int32 × Mem) :=
  drf 30 z0 fun j10 =>
  bn2 (f_X1_has fl j10 z1 M0) fun v14 m13 =>
  if v14 = 0 then
    some ((-5), m13)
  else
    if g2 = 0 then
      bn2 (f_X11_girderLoad fl g3 m13) fun v18 m17 =>
      some (v18, m17)
    else
    if g2 = 1 then
      bn2 (f_X11_columnLoad fl g3 m13) fun v21 m20 =>
      some (v21, m20)
    else
    if g2 = 2 then
      bn2 (f_X11_girderHolds fl g3 m13) fun v24 m23 =>
      if v24 = 0 then
        some (0, m23)
      else
        some (1, m23)
    else
      bn2 (f_X11_columnHolds fl g3 m13) fun v27 m26 =>
      if v27 = 0 then
        some (0, m26)
      else
        some (1, m26)
def f_X11_bears_b35 (fl : Nat) (g2 : Int32) (g3 : Nat) (z0 : Int32) (M0 : Mem) : Option (Int32 × Mem) :=
  bn2 (
    if z0 = 0 then
      some (1, M0)
    else
      some (2, M0)
  ) fun (q8 : Int32) m9 =>
  f_X11_bears_b48 fl g2 g3 g3 q8 m9
def f_X11_bears (fl : Nat) (a1 : Int32) (a2 : Int32) (M0 : Mem) : Option (Int32 × Mem) :=
  bn2 (f_X11_bayOf fl a1 M0) fun c2 m1 =>
  if c2 = 0 then
    some ((-1), m1)
  else
    if a2 < 0 then
      some ((-1), m1)
    else
      if a2 ≤ 3 then
        bn2 (
          if a2 = 0 then
            some (1, m1)
          else
            if a2 = 2 then
              some (1, m1)
            else
              some (0, m1)
        ) fun (q6 : Int32) m7 =>
        f_X11_bears_b35 fl a2 c2 q6 m7
      else
        some ((-1), m1)
def f_X11_breaks_l13_b (rk : Int32 → Int32 → Mem → Option (Int32 × Mem)) (fl : Nat) (g3 : Int32) (u1 : Int32) (u4 : Int32) (M0 : Mem) : Option (Int32 × Mem) :=
  if g3 ≤ u4 then
    some (u1, M0)
  else
    asr (vq u4 30) <|
    bn2 (f_X11_girderHolds fl ((Int32.toNatClampNeg u4) + 1) M0) fun v4 m3 =>
    if v4 = 0 then
      lt1 (u1 ||| (jshl 1 (gI m3 13 (Int32.toNatClampNeg u4) 0))) fun (x6 : Int32) =>
      lt1 (u4 + 1) fun (x7 : Int32) =>
      rk x6 x7 m3
    else
      bn2 (f_X11_columnHolds fl ((Int32.toNatClampNeg u4) + 1) m3) fun v9 m8 =>
      if v9 = 0 then
        lt1 (u1 ||| (jshl 1 (gI m8 13 (Int32.toNatClampNeg u4) 0))) fun (x12 : Int32) =>
        lt1 (u4 + 1) fun (x13 : Int32) =>
        rk x12 x13 m8
      else
        lt1 (u4 + 1) fun (x11 : Int32) =>
        rk u1 x11 m8
def f_X11_breaks_l13 (fl : Nat) (g3 : Int32) : Nat → Int32 → Int32 → Mem → Option (Int32 × Mem)
  | 0 => fun _ _ _ => none
  | n + 1 => fun u1 u4 M0 => f_X11_breaks_l13_b (f_X11_breaks_l13 fl g3 n) fl g3 u1 u4 M0
def f_X11_breaks (fl : Nat)  (M0 : Mem) : Option (Int32 × Mem) :=
  bn2 (f_X11_breaks_l13 fl 30 fl 0 0 M0) fun (q14 : Int32) m15 =>
  some (q14, m15)
def f_X11_isHour (fl : Nat) (a1 : Int32) (M0 : Mem) : Option (Int32 × Mem) :=
  if a1 < 0 then
    some (0, M0)
  else
    if 24 ≤ a1 then
      some (0, M0)
    else
      some (1, M0)
def f_X11_rain (fl : Nat) (a1 : Int32) (a2 : Int32) (M0 : Mem) : Option (Int32 × Mem) :=
  bn2 (f_X11_isHour fl a1 M0) fun v2 m1 =>
  if v2 = 0 then
    some ((-1), m1)
  else
    if a2 < 0 then
      some ((-2), m1)
    else
      if a2 ≤ 99 then
        asr (vq a1 24) <|
        lt1 (gI m1 25 0 (Int32.toNatClampNeg a1)) fun (x7 : Int32) =>
        asr (vq a1 24) <|
        lt1 (sI m1 25 0 (Int32.toNatClampNeg a1) a2) fun m9 =>
        some (x7, m9)
      else
        some ((-2), m1)
def f_X11_isBeside (fl : Nat) (a1 : Int32) (a2 : Int32) (M0 : Mem) : Option (Int32 × Mem) :=
  lt1 (jabs ((jrem a1 6) - (jrem a2 6))) fun (x1 : Int32) =>
  lt1 (jabs ((a1 / 6) - (a2 / 6))) fun (x2 : Int32) =>
  if (x1 + x2) = 1 then
    some (1, M0)
  else
    some (0, M0)
def f_X11_leads_b53 (fl : Nat) (g2 : Int32) (g3 : Nat) (M0 : Mem) : Option (Int32 × Mem) :=
  drf 30 g3 fun j8 =>
  bn2 (f_X1_has fl j8 4 M0) fun v12 m11 =>
  if v12 = 0 then
    some ((-3), m11)
  else
    lt1 (sI m11 13 j8 5 g2) fun m14 =>
    some (1, m14)
def f_X11_leads_b37 (fl : Nat) (g1 : Int32) (g2 : Int32) (g3 : Nat) (g4 : Int32) (M0 : Mem) : Option (Int32 × Mem) :=
  if g4 = 0 then
    bn2 (f_X11_isBeside fl g1 g2 M0) fun v16 m15 =>
    if v16 = 0 then
      some ((-2), m15)
    else
      f_X11_leads_b53 fl g2 g3 m15
  else
    f_X11_leads_b53 fl g2 g3 M0
def f_X11_leads_b16 (fl : Nat) (g1 : Int32) (g2 : Int32) (g3 : Nat) (z0 : Int32) (M0 : Mem) : Option (Int32 × Mem) :=
  if g3 = 0 then
    some ((-1), M0)
  else
    if z0 = 0 then
      bn2 (f_X11_bayOf fl g2 M0) fun c19 m18 =>
      if c19 = 0 then
        some ((-1), m18)
      else
        f_X11_leads_b37 fl g1 g2 g3 z0 m18
    else
      f_X11_leads_b37 fl g1 g2 g3 z0 M0
def f_X11_leads (fl : Nat) (a1 : Int32) (a2 : Int32) (M0 : Mem) : Option (Int32 × Mem) :=
  bn2 (f_X11_bayOf fl a1 M0) fun c2 m1 =>
  bn2 (
    if a2 = (-1) then
      some (1, m1)
    else
      some (0, m1)
  ) fun (q3 : Int32) m4 =>
  f_X11_leads_b16 fl a1 a2 c2 q3 m4
def f_X11_stands (fl : Nat) (a1 : Int32) (a2 : Int32) (M0 : Mem) : Option (Int32 × Mem) :=
  bn2 (f_X11_isBay fl a1 M0) fun v2 m1 =>
  if v2 = 0 then
    some ((-1), m1)
  else
    bn2 (f_X11_isHour fl a2 m1) fun v5 m4 =>
    if v5 = 0 then
      some ((-1), m4)
    else
      bn1 (f_X10_runThrough fl a2 m4) fun m7 =>
      asr (vq a1 30) <|
      some ((gI m7 26 0 (Int32.toNatClampNeg a1)), m7)
def f_X11_leaks_b15 (fl : Nat) (g1 : Int32) (M0 : Mem) : Option (Int32 × Mem) :=
  bn1 (f_X10_runThrough fl 23 M0) fun m2 =>
  if g1 = (-1) then
    bn2 (f_X10_leaksOfAll fl  m2) fun v6 m5 =>
    some (v6, m5)
  else
    asr (vq g1 30) <|
    some ((gI m2 27 0 (Int32.toNatClampNeg g1)), m2)
def f_X11_leaks (fl : Nat) (a1 : Int32) (M0 : Mem) : Option (Int32 × Mem) :=
  if a1 = (-1) then
    f_X11_leaks_b15 fl a1 M0
  else
    bn2 (f_X11_isBay fl a1 M0) fun v8 m7 =>
    if v8 = 0 then
      some ((-5), m7)
    else
      f_X11_leaks_b15 fl a1 m7
def f_X11_gang (fl : Nat) (a1 : Int32) (a2 : Int32) (M0 : Mem) : Option (Int32 × Mem) :=
  if a1 < 1 then
    some ((-1), M0)
  else
    if a1 ≤ 4 then
      if a2 < 1 then
        some ((-2), M0)
      else
        if a2 ≤ 20 then
          if (gI M0 0 0 10) < 10 then
            asr (gR M0 997 24 (gR M0 999 24 0) = gR M0 998 0 0) <|
            lt1 (gR M0 999 24 0) fun (i7 : Nat) =>
            lt1 (sN M0 24) fun (m8 : Mem) =>
            bn1 (f_X2_init fl i7 a1 a2 m8) fun m10 =>
            asr (vq (gI M0 0 0 10) 10) <|
            asr ((i7 + 1) ≤ (gR m10 999 24 0)) <|
            lt1 (sR m10 8 0 (Int32.toNatClampNeg (gI M0 0 0 10)) (i7 + 1)) fun m13 =>
            lt1 (sI m13 0 0 10 ((gI m13 0 0 10) + 1)) fun m14 =>
            some (((gI m14 0 0 10) - 1), m14)
          else
            some ((-4), M0)
        else
          some ((-2), M0)
    else
      some ((-1), M0)
def f_X11_gangOf (fl : Nat) (a1 : Int32) (M0 : Mem) : Option (Nat × Mem) :=
  if a1 < 0 then
    some (0, M0)
  else
    if 10 ≤ a1 then
      some (0, M0)
    else
      asr (vq a1 10) <|
      some ((gR M0 8 0 (Int32.toNatClampNeg a1)), M0)
def f_X11_isKeptAway_l25_b (rk : Int32 → Mem → Option (Nat × Mem)) (fl : Nat) (g1 : Nat) (g2 : Int32) (g4 : Int32) (u5 : Int32) (M0 : Mem) : Option (Nat × Mem) :=
  if g4 ≤ u5 then
    some (1, M0)
  else
    asr (vq u5 10) <|
    lt1 (gR M0 8 0 (Int32.toNatClampNeg u5)) fun c7 =>
    if c7 = 0 then
      lt1 (u5 + 1) fun (x9 : Int32) =>
      rk x9 M0
    else
      drf (gR M0 999 24 0) c7 fun j10 =>
      if (gI M0 24 j10 1) = (gI M0 0 0 0) then
        drf (gR M0 999 24 0) g1 fun j15 =>
        bn2 (
          if (gI M0 24 j15 0) = 2 then
            some (1, M0)
          else
            if (gI M0 24 j10 0) = 2 then
              some (1, M0)
            else
              some (0, M0)
        ) fun (q18 : Int32) m19 =>
        asr (j10 < gR m19 999 24 0) <|
        if (gI m19 24 j10 2) = g2 then
          some (0, m19)
        else
          if q18 = 0 then
            lt1 (u5 + 1) fun (x23 : Int32) =>
            rk x23 m19
          else
            bn2 (f_X11_isBeside fl (gI m19 24 j10 2) g2 m19) fun v25 m24 =>
            if v25 = 0 then
              lt1 (u5 + 1) fun (x27 : Int32) =>
              rk x27 m24
            else
              some (0, m24)
      else
        lt1 (u5 + 1) fun (x14 : Int32) =>
        rk x14 M0
def f_X11_isKeptAway_l25 (fl : Nat) (g1 : Nat) (g2 : Int32) (g4 : Int32) : Nat → Int32 → Mem → Option (Nat × Mem)
  | 0 => fun _ _ => none
  | n + 1 => fun u5 M0 => f_X11_isKeptAway_l25_b (f_X11_isKeptAway_l25 fl g1 g2 g4 n) fl g1 g2 g4 u5 M0
def f_X11_isKeptAway (fl : Nat) (a1 : Nat) (a2 : Int32) (M0 : Mem) : Option (Int32 × Mem) :=
  drf (gR M0 999 24 0) a1 fun j1 =>
  if (gI M0 24 j1 1) = (gI M0 0 0 0) then
    some (1, M0)
  else
    bn2 (f_X11_isKeptAway_l25 fl (j1 + 1) a2 10 fl 0 M0) fun (q30 : Nat) m31 =>
    if q30 = 0 then
      some (1, m31)
    else
      some (0, m31)
def f_X11_work_l117_b (rk : Int32 → Mem → Option (Mem)) (fl : Nat) (g2 : Int32) (g4 : Nat) (g5 : Nat) (g6 : Nat) (g8 : Int32) (u9 : Int32) (M0 : Mem) : Option (Mem) :=
  if g8 ≤ u9 then
    some M0
  else
    bn1 (f_X1_put fl g5 g6 M0) fun m39 =>
    lt1 (u9 + 1) fun (x40 : Int32) =>
    rk x40 m39
def f_X11_work_l117 (fl : Nat) (g2 : Int32) (g4 : Nat) (g5 : Nat) (g6 : Nat) (g8 : Int32) : Nat → Int32 → Mem → Option (Mem)
  | 0 => fun _ _ => none
  | n + 1 => fun u9 M0 => f_X11_work_l117_b (f_X11_work_l117 fl g2 g4 g5 g6 g8 n) fl g2 g4 g5 g6 g8 u9 M0
def f_X11_work (fl : Nat) (a1 : Int32) (a2 : Int32) (a3 : Int32) (M0 : Mem) : Option (Int32 × Mem) :=
  bn2 (f_X11_gangOf fl a1 M0) fun c2 m1 =>
  bn2 (f_X11_bayOf fl a2 m1) fun c4 m3 =>
  bn2 (f_X11_lotOf fl a3 m3) fun c6 m5 =>
  if c2 = 0 then
    some ((-1), m5)
  else
    if c4 = 0 then
      some ((-1), m5)
    else
      if c6 = 0 then
        some ((-1), m5)
      else
        drf (gR m5 999 23 0) c6 fun j10 =>
        bn2 (f_X4_place fl j10 m5) fun v14 m13 =>
        drf (gR m13 999 24 0) c2 fun j15 =>
        if v14 = (gI m13 24 j15 0) then
          bn2 (f_X11_isKeptAway fl (j15 + 1) a2 m13) fun v20 m19 =>
          if v20 = 0 then
            bn2 (f_X11_hindrance fl (j10 + 1) c4 m19) fun v23 m22 =>
            if v23 = 1 then
              asr (j15 < gR m22 999 24 0) <|
              bn2 (f_X2_pieces fl j15 m22) fun v27 m26 =>
              asr (j10 < gR m26 999 23 0) <|
              bn2 (f_X4_stock fl j10 m26) fun v30 m29 =>
              asr (j15 < gR m29 999 24 0) <|
              drf 30 c4 fun j32 =>
              bn2 (f_X1_room fl j32 (gI m29 24 j15 0) m29) fun v36 m35 =>
              lt1 (jmin v27 (jmin v30 v36)) fun (x37 : Int32) =>
              bn1 (f_X11_work_l117 fl a2 (j15 + 1) j32 (j10 + 1) x37 fl 0 m35) fun m42 =>
              drf (gR m42 999 24 0) (j15 + 1) fun j43 =>
              bn1 (f_X2_worked fl j43 (gI m42 0 0 0) a2 x37 m42) fun m46 =>
              some (x37, m46)
            else
              some (v23, m22)
          else
            some ((-3), m19)
        else
          some ((-12), m13)
def f_X11_pace (fl : Nat) (a1 : Int32) (M0 : Mem) : Option (Int32 × Mem) :=
  bn2 (f_X11_gangOf fl a1 M0) fun c2 m1 =>
  if c2 = 0 then
    some ((-1), m1)
  else
    drf (gR m1 999 24 0) c2 fun j4 =>
    bn2 (f_X2_pieces fl j4 m1) fun v8 m7 =>
    some (v8, m7)
def f_X11_want (fl : Nat) (a1 : Int32) (a2 : Int32) (a3 : Int32) (M0 : Mem) : Option (Int32 × Mem) :=
  bn2 (f_X11_isPlace fl a1 M0) fun v2 m1 =>
  if v2 = 0 then
    some ((-1), m1)
  else
    bn2 (f_X11_isNumberOfPieces fl a2 m1) fun v5 m4 =>
    if v5 = 0 then
      some ((-2), m4)
    else
      bn2 (f_X11_isDay fl a3 m4) fun v8 m7 =>
      if v8 = 0 then
        some ((-2), m7)
      else
        bn2 (f_X6_addRow fl a1 a2 a3 m7) fun v11 m10 =>
        if v11 = 0 then
          some ((-4), m10)
        else
          some ((gI m10 9 0 0), m10)
def f_X11_comingDay (fl : Nat) (a1 : Nat) (a2 : Int32) (M0 : Mem) : Option (Int32 × Mem) :=
  drf (gR M0 999 23 0) a1 fun j1 =>
  bn2 (f_X4_isTold fl j1 M0) fun v5 m4 =>
  if v5 = 0 then
    asr (j1 < gR m4 999 23 0) <|
    bn2 (f_X11_isFoundry fl (gI m4 23 j1 2) m4) fun v10 m9 =>
    if v10 = 0 then
      asr (j1 < gR m9 999 23 0) <|
      some ((gI m9 23 j1 6), m9)
    else
      asr (j1 < gR m9 999 23 0) <|
      if a2 = 0 then
        asr (vq (gI m9 23 j1 2) 8) <|
        some (((gI m9 23 j1 5) + (gI m9 1 0 (Int32.toNatClampNeg (gI m9 23 j1 2)))), m9)
      else
        asr (vq (gI m9 23 j1 2) 8) <|
        some (((gI m9 23 j1 5) + (gI m9 2 0 (Int32.toNatClampNeg (gI m9 23 j1 2)))), m9)
  else
    asr (j1 < gR m4 999 23 0) <|
    some ((gI m4 23 j1 6), m4)
def f_X11_willHaveCome_l17_b (rk : Int32 → Int32 → Mem → Option (Int32 × Mem)) (fl : Nat) (g1 : Int32) (g2 : Int32) (g3 : Int32) (g6 : Int32) (u4 : Int32) (u7 : Int32) (M0 : Mem) : Option (Int32 × Mem) :=
  if g6 ≤ u7 then
    some (u4, M0)
  else
    asr (vq u7 60) <|
    lt1 (gR M0 3 0 (Int32.toNatClampNeg u7)) fun c3 =>
    if c3 = 0 then
      lt1 (u7 + 1) fun (x5 : Int32) =>
      rk u4 x5 M0
    else
      drf (gR M0 999 23 0) c3 fun j6 =>
      if (gI M0 23 j6 1) = g1 then
        bn2 (f_X11_comingDay fl (j6 + 1) g3 M0) fun v12 m11 =>
        if g2 < v12 then
          lt1 (u7 + 1) fun (x14 : Int32) =>
          rk u4 x14 m11
        else
          asr (j6 < gR m11 999 23 0) <|
          lt1 (u4 + (gI m11 23 j6 3)) fun (x16 : Int32) =>
          lt1 (u7 + 1) fun (x17 : Int32) =>
          rk x16 x17 m11
      else
        lt1 (u7 + 1) fun (x10 : Int32) =>
        rk u4 x10 M0
def f_X11_willHaveCome_l17 (fl : Nat) (g1 : Int32) (g2 : Int32) (g3 : Int32) (g6 : Int32) : Nat → Int32 → Int32 → Mem → Option (Int32 × Mem)
  | 0 => fun _ _ _ => none
  | n + 1 => fun u4 u7 M0 => f_X11_willHaveCome_l17_b (f_X11_willHaveCome_l17 fl g1 g2 g3 g6 n) fl g1 g2 g3 g6 u4 u7 M0
def f_X11_willHaveCome (fl : Nat) (a1 : Int32) (a2 : Int32) (a3 : Int32) (M0 : Mem) : Option (Int32 × Mem) :=
  bn2 (f_X11_willHaveCome_l17 fl a1 a2 a3 60 fl 0 0 M0) fun (q18 : Int32) m19 =>
  some (q18, m19)
def f_X11_ahead (fl : Nat) (a1 : Int32) (a2 : Int32) (a3 : Int32) (M0 : Mem) : Option (Int32 × Mem) :=
  bn2 (f_X11_isPlace fl a1 M0) fun v2 m1 =>
  if v2 = 0 then
    some ((-1), m1)
  else
    bn2 (f_X11_isDay fl a2 m1) fun v5 m4 =>
    if v5 = 0 then
      some ((-2), m4)
    else
      bn2 (f_X11_willHaveCome fl a1 a2 a3 m4) fun v8 m7 =>
      some (v8, m7)
def f_X11_lookAhead_l2_b (rk : Int32 → Mem → Option (Mem)) (fl : Nat) (g1 : Int32) (u2 : Int32) (M0 : Mem) : Option (Mem) :=
  if (gI M0 9 0 0) ≤ u2 then
    some M0
  else
    if 20 ≤ u2 then
      some M0
    else
      asr (vq u2 20) <|
      asr (vq u2 20) <|
      bn2 (f_X11_willHaveCome fl (gI M0 30 0 (Int32.toNatClampNeg u2)) (gI M0 31 0 (Int32.toNatClampNeg u2)) g1 M0) fun v6 m5 =>
      bn2 (f_X6_wantedWith fl u2 m5) fun v8 m7 =>
      asr (vq u2 20) <|
      lt1 (sI m7 32 0 (Int32.toNatClampNeg u2) (v8 - v6)) fun m10 =>
      lt1 (u2 + 1) fun (x11 : Int32) =>
      rk x11 m10
def f_X11_lookAhead_l2 (fl : Nat) (g1 : Int32) : Nat → Int32 → Mem → Option (Mem)
  | 0 => fun _ _ => none
  | n + 1 => fun u2 M0 => f_X11_lookAhead_l2_b (f_X11_lookAhead_l2 fl g1 n) fl g1 u2 M0
def f_X11_lookAhead (fl : Nat) (a1 : Int32) (M0 : Mem) : Option (Mem) :=
  bn1 (f_X11_lookAhead_l2 fl a1 fl 0 M0) fun m13 =>
  some m13
def f_X11_lack (fl : Nat) (a1 : Int32) (a2 : Int32) (a3 : Int32) (M0 : Mem) : Option (Int32 × Mem) :=
  if a2 < 0 then
    some ((-1), M0)
  else
    if a2 ≤ 1 then
      if a1 < 0 then
        some ((-2), M0)
      else
        if a1 < (jshl 1 (gI M0 9 0 1)) then
          bn1 (f_X11_lookAhead fl a3 M0) fun m5 =>
          bn2 (f_X6_firstLack fl a1 m5) fun v7 m6 =>
          if v7 < 0 then
            some ((-5), m6)
          else
            if v7 < 20 then
              if a2 = 0 then
                asr (vq v7 20) <|
                some ((gI m6 31 0 (Int32.toNatClampNeg v7)), m6)
              else
                asr (vq v7 20) <|
                some ((gI m6 30 0 (Int32.toNatClampNeg v7)), m6)
            else
              some ((-5), m6)
        else
          some ((-2), M0)
    else
      some ((-1), M0)
def f_X11_more (fl : Nat) (a1 : Int32) (a2 : Int32) (a3 : Int32) (a4 : Int32) (M0 : Mem) : Option (Int32 × Mem) :=
  bn2 (f_X11_isPlace fl a1 M0) fun v2 m1 =>
  if v2 = 0 then
    some ((-1), m1)
  else
    bn2 (f_X11_isNumberOfPieces fl a2 m1) fun v5 m4 =>
    if v5 = 0 then
      some ((-2), m4)
    else
      bn2 (f_X11_isDay fl a3 m4) fun v8 m7 =>
      if v8 = 0 then
        some ((-2), m7)
      else
        if a4 < 0 then
          some ((-2), m7)
        else
          if a4 ≤ 999 then
            bn2 (f_X6_addAddition fl a1 a2 a3 a4 m7) fun v13 m12 =>
            if v13 = 0 then
              some ((-4), m12)
            else
              some (((gI m12 9 0 1) - 1), m12)
          else
            some ((-2), m7)
def f_X11_best (fl : Nat)  (M0 : Mem) : Option (Int32 × Mem) :=
  bn1 (f_X11_lookAhead fl 1 M0) fun m1 =>
  bn2 (f_X6_cheapestSet fl  m1) fun v3 m2 =>
  some (v3, m2)
def f_X11_isNation (fl : Nat) (a1 : Int32) (M0 : Mem) : Option (Int32 × Mem) :=
  if a1 < 0 then
    some (0, M0)
  else
    if 8 ≤ a1 then
      some (0, M0)
    else
      some (1, M0)
def f_X11_let (fl : Nat) (a1 : Int32) (a2 : Int32) (M0 : Mem) : Option (Int32 × Mem) :=
  bn2 (f_X11_isNation fl a1 M0) fun v2 m1 =>
  if v2 = 0 then
    some ((-1), m1)
  else
    if a2 < 1 then
      some ((-2), m1)
    else
      if a2 ≤ 6 then
        bn2 (f_X5_place fl a1 a2 m1) fun v7 m6 =>
        some (v7, m6)
      else
        some ((-2), m1)
def f_X11_nation (fl : Nat) (a1 : Int32) (a2 : Int32) (M0 : Mem) : Option (Int32 × Mem) :=
  bn2 (f_X11_isNation fl a1 M0) fun v2 m1 =>
  if v2 = 0 then
    some ((-1), m1)
  else
    if a2 = 0 then
      asr (vq a1 8) <|
      if (gI m1 39 0 (Int32.toNatClampNeg a1)) = 0 then
        some ((-5), m1)
      else
        asr (vq a1 8) <|
        some ((gI m1 38 0 (Int32.toNatClampNeg a1)), m1)
    else
    if a2 = 1 then
      asr (vq a1 8) <|
      some ((gI m1 39 0 (Int32.toNatClampNeg a1)), m1)
    else
    if a2 = 2 then
      asr (vq a1 8) <|
      some ((gI m1 40 0 (Int32.toNatClampNeg a1)), m1)
    else
      some ((-1), m1)
def f_X11_unbuild_l30_b (rk : Int32 → Int32 → Mem → Option ((Nat × Int32 × Int32) × Mem)) (fl : Nat) (g1 : Int32) (g4 : Int32) (g5 : Int32) (g6 : Nat) (u2 : Int32) (u7 : Int32) (M0 : Mem) : Option ((Nat × Int32 × Int32) × Mem) :=
  if u7 < 1 then
    some ((1, u2, u7), M0)
  else
    bn2 (f_X1_has fl g6 u7 M0) fun v5 m4 =>
    if v5 = 0 then
      lt1 (u7 + (-1)) fun (x7 : Int32) =>
      rk u2 x7 m4
    else
      if u2 = g1 then
        some ((0, u2, u7), m4)
      else
        lt1 (u2 + 1) fun (x9 : Int32) =>
        lt1 (u7 + (-1)) fun (x10 : Int32) =>
        rk x9 x10 m4
def f_X11_unbuild_l30 (fl : Nat) (g1 : Int32) (g4 : Int32) (g5 : Int32) (g6 : Nat) : Nat → Int32 → Int32 → Mem → Option ((Nat × Int32 × Int32) × Mem)
  | 0 => fun _ _ _ => none
  | n + 1 => fun u2 u7 M0 => f_X11_unbuild_l30_b (f_X11_unbuild_l30 fl g1 g4 g5 g6 n) fl g1 g4 g5 g6 u2 u7 M0
def f_X11_unbuild_l14_b (rk : Int32 → Int32 → Mem → Option ((Nat × Int32 × Nat × Int32) × Mem)) (fl : Nat) (g1 : Int32) (g4 : Int32) (u2 : Int32) (u5 : Int32) (M0 : Mem) : Option ((Nat × Int32 × Nat × Int32) × Mem) :=
  if g4 ≤ u5 then
    some ((1, u2, 0, 0), M0)
  else
    asr (vq u5 30) <|
    bn2 (f_X11_unbuild_l30 fl g1 g4 u5 (Int32.toNatClampNeg u5) fl u2 5 M0) fun (q11 : Nat × Int32 × Int32) m12 =>
    if q11.1 = 0 then
      some ((0, 0, ((Int32.toNatClampNeg u5) + 1), q11.2.2), m12)
    else
      lt1 (u5 + 1) fun (x13 : Int32) =>
      rk q11.2.1 x13 m12
def f_X11_unbuild_l14 (fl : Nat) (g1 : Int32) (g4 : Int32) : Nat → Int32 → Int32 → Mem → Option ((Nat × Int32 × Nat × Int32) × Mem)
  | 0 => fun _ _ _ => none
  | n + 1 => fun u2 u5 M0 => f_X11_unbuild_l14_b (f_X11_unbuild_l14 fl g1 g4 n) fl g1 g4 u2 u5 M0
def f_X11_unbuild (fl : Nat) (a1 : Int32) (M0 : Mem) : Option (Int32 × Mem) :=
  bn2 (f_X11_unbuild_l14 fl a1 30 fl 0 0 M0) fun (q14 : Nat × Int32 × Nat × Int32) m15 =>
  if q14.1 = 0 then
    drf 30 q14.2.2.1 fun j16 =>
    some (((10 * (gI m15 13 j16 0)) + q14.2.2.2), m15)
  else
    if a1 = (-1) then
      some (q14.2.1, m15)
    else
      some ((-1), m15)
def f_X11_known_l26_b (rk : Int32 → Int32 → Mem → Option (Int32 × Mem)) (fl : Nat) (g1 : Int32) (g2 : Int32) (g5 : Int32) (u3 : Int32) (u6 : Int32) (M0 : Mem) : Option (Int32 × Mem) :=
  if g5 ≤ u6 then
    some (u3, M0)
  else
    asr (vq u6 60) <|
    lt1 (gR M0 3 0 (Int32.toNatClampNeg u6)) fun c6 =>
    if c6 = 0 then
      lt1 (u6 + 1) fun (x8 : Int32) =>
      rk u3 x8 M0
    else
      drf (gR M0 999 23 0) c6 fun j9 =>
      bn2 (f_X4_isTold fl j9 M0) fun v13 m12 =>
      if v13 = 0 then
        lt1 (u6 + 1) fun (x15 : Int32) =>
        rk u3 x15 m12
      else
        bn2 (
          if g2 = 0 then
            asr (j9 < gR m12 999 23 0) <|
            some ((gI m12 23 j9 7), m12)
          else
            asr (j9 < gR m12 999 23 0) <|
            some ((gI m12 23 j9 6), m12)
        ) fun (q16 : Int32) m17 =>
        if g1 < q16 then
          lt1 (u6 + 1) fun (x19 : Int32) =>
          rk u3 x19 m17
        else
          lt1 (u3 + 1) fun (x20 : Int32) =>
          lt1 (u6 + 1) fun (x21 : Int32) =>
          rk x20 x21 m17
def f_X11_known_l26 (fl : Nat) (g1 : Int32) (g2 : Int32) (g5 : Int32) : Nat → Int32 → Int32 → Mem → Option (Int32 × Mem)
  | 0 => fun _ _ _ => none
  | n + 1 => fun u3 u6 M0 => f_X11_known_l26_b (f_X11_known_l26 fl g1 g2 g5 n) fl g1 g2 g5 u3 u6 M0
def f_X11_known (fl : Nat) (a1 : Int32) (a2 : Int32) (M0 : Mem) : Option (Int32 × Mem) :=
  bn2 (f_X11_isDay fl a1 M0) fun v2 m1 =>
  if v2 = 0 then
    some ((-2), m1)
  else
    bn2 (f_X11_known_l26 fl a1 a2 60 fl 0 0 m1) fun (q25 : Int32) m26 =>
    some (q25, m26)
def f_X11_act (fl : Nat) (a1 : Int32) (a2 : Int32) (a3 : Int32) (M0 : Mem) : Option (Int32 × Mem) :=
  lt1 (sI M0 11 0 0 0) fun m1 =>
  bn2 (f_X11_lotOf fl a1 m1) fun c3 m2 =>
  if c3 = 0 then
    some (0, m2)
  else
    bn2 (f_X0_perform fl c3 a2 a3 m2) fun v6 m5 =>
    some (v6, m5)
def f_X11_trace (fl : Nat) (a1 : Int32) (M0 : Mem) : Option (Int32 × Mem) :=
  bn2 (f_X0_bodyAt fl a1 M0) fun v2 m1 =>
  some (v2, m1)
def f_X11_taken (fl : Nat) (a1 : Int32) (a2 : Int32) (M0 : Mem) : Option (Int32 × Mem) :=
  bn2 (f_X11_isKind fl a2 M0) fun v2 m1 =>
  if v2 = 0 then
    some ((-2), m1)
  else
    bn2 (f_X11_lotOf fl a1 m1) fun c5 m4 =>
    if c5 = 0 then
      some ((-11), m4)
    else
      drf (gR m4 999 23 0) c5 fun j7 =>
      bn2 (f_X4_isUnder fl j7 a2 m4) fun v11 m10 =>
      if v11 = 0 then
        some ((-12), m10)
      else
        asr (j7 < gR m10 999 23 0) <|
        some ((gI m10 23 j7 1), m10)
def f_X11_tapeOf (fl : Nat) (a1 : Int32) (M0 : Mem) : Option (Nat × Mem) :=
  if a1 < 0 then
    some (0, M0)
  else
    if 6 ≤ a1 then
      some (0, M0)
    else
      asr (vq a1 6) <|
      some (((Int32.toNatClampNeg a1) + 1), M0)
def f_X11_agrees (fl : Nat) (a1 : Int64) (a2 : Int64) (M0 : Mem) : Option (Int32 × Mem) :=
  bn2 (f_X11_lotOf fl (Int64.toInt32 a1) M0) fun c2 m1 =>
  if c2 = 0 then
    some (0, m1)
  else
    drf (gR m1 999 23 0) c2 fun j4 =>
    bn2 (f_X4_isTold fl j4 m1) fun v8 m7 =>
    if v8 = 0 then
      some (0, m7)
    else
      asr (j4 < gR m7 999 23 0) <|
      if (lg_cmp (Int32.toInt64 (gI m7 23 j4 3)) a2) = 0 then
        some (1, m7)
      else
        some (0, m7)
def f_X11_list_l55_b (rk : Int64 → Int32 → Mem → Option ((Nat × Int64) × Mem)) (fl : Nat) (g2 : Int32) (g3 : Int32) (g4 : Nat) (u5 : Int64) (u7 : Int32) (M0 : Mem) : Option ((Nat × Int64) × Mem) :=
  if g3 ≤ u7 then
    some ((1, u5), M0)
  else
    lt1 ((Int32.toInt64 g2) + (2 * (Int32.toInt64 u7))) fun (y11 : Int64) =>
    drf 6 g4 fun j12 =>
    bn2 (f_X8_hasItem fl j12 y11 M0) fun v16 m15 =>
    if v16 = 0 then
      some ((0, u5), m15)
    else
      bn2 (f_X8_hasItem fl j12 (y11 + 1) m15) fun v19 m18 =>
      if v19 = 0 then
        some ((0, u5), m18)
      else
        bn2 (f_X8_itemAt fl j12 y11 m18) fun y22 m21 =>
        bn2 (f_X8_itemAt fl j12 (y11 + 1) m21) fun y24 m23 =>
        bn2 (f_X11_agrees fl y22 y24 m23) fun v26 m25 =>
        if v26 = 0 then
          lt1 (u5 + 1) fun (y28 : Int64) =>
          lt1 (u7 + 1) fun (x29 : Int32) =>
          rk y28 x29 m25
        else
          lt1 (u5 + 1000) fun (y30 : Int64) =>
          lt1 (u7 + 1) fun (x31 : Int32) =>
          rk y30 x31 m25
def f_X11_list_l55 (fl : Nat) (g2 : Int32) (g3 : Int32) (g4 : Nat) : Nat → Int64 → Int32 → Mem → Option ((Nat × Int64) × Mem)
  | 0 => fun _ _ _ => none
  | n + 1 => fun u5 u7 M0 => f_X11_list_l55_b (f_X11_list_l55 fl g2 g3 g4 n) fl g2 g3 g4 u5 u7 M0
def f_X11_list_b49 (fl : Nat) (g2 : Int32) (g3 : Int32) (g4 : Nat) (M0 : Mem) : Option (Int64 × Mem) :=
  bn2 (f_X11_list_l55 fl g2 g3 g4 fl 0 0 M0) fun (q32 : Nat × Int64) m33 =>
  if q32.1 = 0 then
    some ((q32.2 + 1000000), m33)
  else
    some (q32.2, m33)
def f_X11_list (fl : Nat) (a1 : Int32) (a2 : Int32) (a3 : Int32) (M0 : Mem) : Option (Int64 × Mem) :=
  bn2 (f_X11_tapeOf fl a1 M0) fun c2 m1 =>
  if c2 = 0 then
    some ((-9223372036854775808), m1)
  else
    if a3 < 1 then
      some ((-9223372036854775808), m1)
    else
      if a3 ≤ 20 then
        drf 6 c2 fun j6 =>
        if (gI m1 42 j6 0) = (-1) then
          f_X11_list_b49 fl a2 a3 (j6 + 1) m1
        else
          if (gI m1 42 j6 0) = 2 then
            f_X11_list_b49 fl a2 a3 (j6 + 1) m1
          else
            some ((-9223372036854775807), m1)
      else
        some ((-9223372036854775808), m1)
def f_X11_standingPieces_l13_b (rk : Int32 → Int32 → Mem → Option (Int32 × Mem)) (fl : Nat) (g3 : Int32) (u1 : Int32) (u4 : Int32) (M0 : Mem) : Option (Int32 × Mem) :=
  if g3 ≤ u4 then
    some (u1, M0)
  else
    asr (vq u4 60) <|
    lt1 (gR M0 3 0 (Int32.toNatClampNeg u4)) fun c3 =>
    if c3 = 0 then
      lt1 (u1 + 0) fun (x10 : Int32) =>
      lt1 (u4 + 1) fun (x11 : Int32) =>
      rk x10 x11 M0
    else
      drf (gR M0 999 23 0) c3 fun j5 =>
      lt1 (u1 + (gI M0 23 j5 8)) fun (x8 : Int32) =>
      lt1 (u4 + 1) fun (x9 : Int32) =>
      rk x8 x9 M0
def f_X11_standingPieces_l13 (fl : Nat) (g3 : Int32) : Nat → Int32 → Int32 → Mem → Option (Int32 × Mem)
  | 0 => fun _ _ _ => none
  | n + 1 => fun u1 u4 M0 => f_X11_standingPieces_l13_b (f_X11_standingPieces_l13 fl g3 n) fl g3 u1 u4 M0
def f_X11_standingPieces (fl : Nat)  (M0 : Mem) : Option (Int32 × Mem) :=
  bn2 (f_X11_standingPieces_l13 fl 60 fl 0 0 M0) fun (q12 : Int32) m13 =>
  some (q12, m13)
def f_X11_brokenPieces_l13_b (rk : Int32 → Int32 → Mem → Option (Int32 × Mem)) (fl : Nat) (g3 : Int32) (u1 : Int32) (u4 : Int32) (M0 : Mem) : Option (Int32 × Mem) :=
  if g3 ≤ u4 then
    some (u1, M0)
  else
    asr (vq u4 60) <|
    lt1 (gR M0 3 0 (Int32.toNatClampNeg u4)) fun c3 =>
    if c3 = 0 then
      lt1 (u1 + 0) fun (x10 : Int32) =>
      lt1 (u4 + 1) fun (x11 : Int32) =>
      rk x10 x11 M0
    else
      drf (gR M0 999 23 0) c3 fun j5 =>
      lt1 (u1 + (gI M0 23 j5 9)) fun (x8 : Int32) =>
      lt1 (u4 + 1) fun (x9 : Int32) =>
      rk x8 x9 M0
def f_X11_brokenPieces_l13 (fl : Nat) (g3 : Int32) : Nat → Int32 → Int32 → Mem → Option (Int32 × Mem)
  | 0 => fun _ _ _ => none
  | n + 1 => fun u1 u4 M0 => f_X11_brokenPieces_l13_b (f_X11_brokenPieces_l13 fl g3 n) fl g3 u1 u4 M0
def f_X11_brokenPieces (fl : Nat)  (M0 : Mem) : Option (Int32 × Mem) :=
  bn2 (f_X11_brokenPieces_l13 fl 60 fl 0 0 M0) fun (q12 : Int32) m13 =>
  some (q12, m13)
def f_X11_count (fl : Nat) (a1 : Int32) (M0 : Mem) : Option (Int32 × Mem) :=
  if a1 = 0 then
    some ((gI M0 0 0 0), M0)
  else
  if a1 = 1 then
    some ((gI M0 0 0 4), M0)
  else
  if a1 = 2 then
    some ((gI M0 6 0 0), M0)
  else
  if a1 = 3 then
    some ((gI M0 5 0 0), M0)
  else
  if a1 = 4 then
    some ((gI M0 0 0 10), M0)
  else
  if a1 = 5 then
    some ((gI M0 9 0 0), M0)
  else
  if a1 = 6 then
    some ((gI M0 9 0 1), M0)
  else
  if a1 = 7 then
    bn2 (f_X11_standingPieces fl  M0) fun v10 m9 =>
    some (v10, m9)
  else
  if a1 = 8 then
    bn2 (f_X11_brokenPieces fl  M0) fun v13 m12 =>
    some (v13, m12)
  else
  if a1 = 9 then
    some ((gI M0 11 0 0), M0)
  else
    some ((-2), M0)
def f_X11_tape_b63 (fl : Nat) (z0 : Nat) (z1 : Int32) (z2 : Int32) (M0 : Mem) : Option (Int32 × Mem) :=
  drf 6 z0 fun j10 =>
  bn1 (f_X8_become fl j10 z1 z2 M0) fun m13 =>
  some (1, m13)
def f_X11_tape_b50 (fl : Nat) (g2 : Int32) (g3 : Int32) (g4 : Nat) (M0 : Mem) : Option (Int32 × Mem) :=
  bn2 (
    if g2 = (-1) then
      some (0, M0)
    else
      some (g3, M0)
  ) fun (q8 : Int32) m9 =>
  f_X11_tape_b63 fl g4 g2 q8 m9
def f_X11_tape_b38 (fl : Nat) (g2 : Int32) (g3 : Int32) (g4 : Nat) (M0 : Mem) : Option (Int32 × Mem) :=
  if g2 = (-1) then
    f_X11_tape_b50 fl g2 g3 g4 M0
  else
    if 0 ≤ g3 then
      f_X11_tape_b50 fl g2 g3 g4 M0
    else
      some ((-14), M0)
def f_X11_tape (fl : Nat) (a1 : Int32) (a2 : Int32) (a3 : Int32) (M0 : Mem) : Option (Int32 × Mem) :=
  bn2 (f_X11_tapeOf fl a1 M0) fun c2 m1 =>
  if c2 = 0 then
    some ((-1), m1)
  else
    if a2 < (-1) then
      some ((-2), m1)
    else
      if 4 < a2 then
        some ((-2), m1)
      else
        if a2 = (-1) then
          f_X11_tape_b38 fl a2 a3 c2 m1
        else
          if a3 ≤ 60 then
            f_X11_tape_b38 fl a2 a3 c2 m1
          else
            some ((-2), m1)
def f_X11_item (fl : Nat) (a1 : Int32) (a2 : Int32) (a3 : Int64) (M0 : Mem) : Option (Int32 × Mem) :=
  bn2 (f_X11_tapeOf fl a1 M0) fun c2 m1 =>
  if c2 = 0 then
    some ((-1), m1)
  else
    drf 6 c2 fun j4 =>
    if (gI m1 42 j4 0) = (-1) then
      some ((-11), m1)
    else
      bn2 (f_X8_put fl j4 a2 a3 m1) fun v9 m8 =>
      if v9 = 0 then
        some ((-13), m8)
      else
        some (1, m8)
def f_X11_read (fl : Nat) (a1 : Int32) (a2 : Int32) (M0 : Mem) : Option (Int64 × Mem) :=
  bn2 (f_X11_tapeOf fl a1 M0) fun c2 m1 =>
  if c2 = 0 then
    some ((-9223372036854775808), m1)
  else
    drf 6 c2 fun j4 =>
    bn2 (f_X8_hasItem fl j4 (Int32.toInt64 a2) m1) fun v8 m7 =>
    if v8 = 0 then
      some ((-9223372036854775808), m7)
    else
      bn2 (f_X8_itemAt fl j4 (Int32.toInt64 a2) m7) fun y11 m10 =>
      some (y11, m10)
def f_X11_shift (fl : Nat) (a1 : Int32) (a2 : Int32) (a3 : Int32) (a4 : Int32) (a5 : Int32) (M0 : Mem) : Option (Int32 × Mem) :=
  bn2 (f_X11_tapeOf fl a1 M0) fun c2 m1 =>
  bn2 (f_X11_tapeOf fl a3 m1) fun c4 m3 =>
  if c2 = 0 then
    some ((-1), m3)
  else
    if c4 = 0 then
      some ((-1), m3)
    else
      drf 6 c2 fun j7 =>
      if (gI m3 42 j7 0) = (-1) then
        some ((-11), m3)
      else
        drf 6 c4 fun j11 =>
        if (gI m3 42 j11 0) = (-1) then
          some ((-11), m3)
        else
          if (gI m3 42 j7 0) = (gI m3 42 j11 0) then
            bn2 (f_X8_hasItems fl j7 a2 a5 m3) fun v17 m16 =>
            if v17 = 0 then
              some ((-13), m16)
            else
              bn2 (f_X8_hasItems fl j11 a4 a5 m16) fun v20 m19 =>
              if v20 = 0 then
                some ((-13), m19)
              else
                asr (¬ a2 < 0 ∧ ¬ a4 < 0 ∧ ¬ a5 < 0 ∧ a2.toNatClampNeg + a5.toNatClampNeg ≤ 60 ∧ a4.toNatClampNeg + a5.toNatClampNeg ≤ 60) <|
                lt1 (sCL m19 43 j7 43 j11 a2.toNatClampNeg a4.toNatClampNeg a5.toNatClampNeg) fun m23 =>
                some (a5, m23)
          else
            some ((-12), m3)
def f_X12_in (fl : Nat) (a1 : Int32) (a2 : Int32) (a3 : Int32) (M0 : Mem) : Option (Int32 × Mem) :=
  if a1 < a2 then
    some (0, M0)
  else
    if a3 < a1 then
      some (0, M0)
    else
      some (1, M0)
def f_X12_isDay (fl : Nat) (a1 : Int32) (M0 : Mem) : Option (Int32 × Mem) :=
  bn2 (f_X12_in fl a1 0 399 M0) fun v2 m1 =>
  asr (v2 = 0 ∨ v2 = 1) <|
  some (v2, m1)
def f_X12_isBay (fl : Nat) (a1 : Int32) (M0 : Mem) : Option (Int32 × Mem) :=
  bn2 (f_X12_in fl a1 0 29 M0) fun v2 m1 =>
  asr (v2 = 0 ∨ v2 = 1) <|
  some (v2, m1)
def f_X12_isFoundry (fl : Nat) (a1 : Int32) (M0 : Mem) : Option (Int32 × Mem) :=
  bn2 (f_X12_in fl a1 0 7 M0) fun v2 m1 =>
  asr (v2 = 0 ∨ v2 = 1) <|
  some (v2, m1)
def f_X12_abs (fl : Nat) (a1 : Int32) (M0 : Mem) : Option (Int32 × Mem) :=
  if 0 ≤ a1 then
    some (a1, M0)
  else
    some ((-a1), M0)
def f_X12_areBeside (fl : Nat) (a1 : Int32) (a2 : Int32) (M0 : Mem) : Option (Int32 × Mem) :=
  bn2 (f_X12_abs fl ((jrem a1 6) - (jrem a2 6)) M0) fun v2 m1 =>
  bn2 (f_X12_abs fl ((a1 / 6) - (a2 / 6)) m1) fun v4 m3 =>
  if (v2 + v4) = 1 then
    some (1, m3)
  else
    some (0, m3)
def f_X12_pass_l38_b (rk : Int32 → Mem → Option (Mem)) (fl : Nat) (u2 : Int32) (M0 : Mem) : Option (Mem) :=
  if (gI M0 0 0 44) ≤ u2 then
    some M0
  else
    asr (vq u2 10) <|
    lt1 (sI M0 35 0 (Int32.toNatClampNeg u2) (-1)) fun m8 =>
    lt1 (u2 + 1) fun (x9 : Int32) =>
    rk x9 m8
def f_X12_pass_l38 (fl : Nat) : Nat → Int32 → Mem → Option (Mem)
  | 0 => fun _ _ => none
  | n + 1 => fun u2 M0 => f_X12_pass_l38_b (f_X12_pass_l38 fl  n) fl  u2 M0
def f_X12_pass_l61_b (rk : Int32 → Mem → Option (Mem)) (fl : Nat) (u2 : Int32) (M0 : Mem) : Option (Mem) :=
  if 30 ≤ u2 then
    some M0
  else
    asr (vq u2 30) <|
    lt1 (sI M0 36 0 (Int32.toNatClampNeg u2) (vp_nar .boolean 0)) fun m14 =>
    asr (vq u2 30) <|
    lt1 (sI m14 37 0 (Int32.toNatClampNeg u2) (vp_nar .boolean 0)) fun m16 =>
    lt1 (u2 + 1) fun (x17 : Int32) =>
    rk x17 m16
def f_X12_pass_l61 (fl : Nat) : Nat → Int32 → Mem → Option (Mem)
  | 0 => fun _ _ => none
  | n + 1 => fun u2 M0 => f_X12_pass_l61_b (f_X12_pass_l61 fl  n) fl  u2 M0
def f_X12_pass (fl : Nat) (a1 : Int32) (M0 : Mem) : Option (Int32 × Mem) :=
  bn2 (f_X12_in fl a1 1 50 M0) fun v2 m1 =>
  if v2 = 0 then
    some ((-2), m1)
  else
    if ((gI m1 0 0 0) + a1) ≤ 399 then
      lt1 (sI m1 0 0 0 ((gI m1 0 0 0) + a1)) fun m5 =>
      bn1 (f_X12_pass_l38 fl  fl 0 m5) fun m11 =>
      bn1 (f_X12_pass_l61 fl  fl 0 m11) fun m19 =>
      some ((gI m19 0 0 0), m19)
    else
      some ((-2), m1)
def f_X12_has (fl : Nat) (a1 : Int32) (a2 : Int32) (M0 : Mem) : Option (Int32 × Mem) :=
  if a2 = 3 then
    asr (vq a1 30) <|
    if (gI M0 15 0 (Int32.toNatClampNeg a1)) ≤ 0 then
      some (0, M0)
    else
      some (1, M0)
  else
    asr (vq (((5 * a1) + a2) - 1) 150) <|
    if (gI M0 14 0 (Int32.toNatClampNeg (((5 * a1) + a2) - 1))) < 0 then
      some (0, M0)
    else
      some (1, M0)
def f_X12_isEmpty_l2_b (rk : Int32 → Mem → Option (Nat × Mem)) (fl : Nat) (g1 : Int32) (u2 : Int32) (M0 : Mem) : Option (Nat × Mem) :=
  if 6 ≤ u2 then
    some (1, M0)
  else
    bn2 (f_X12_has fl g1 u2 M0) fun v3 m2 =>
    if v3 = 0 then
      lt1 (u2 + 1) fun (x5 : Int32) =>
      rk x5 m2
    else
      some (0, m2)
def f_X12_isEmpty_l2 (fl : Nat) (g1 : Int32) : Nat → Int32 → Mem → Option (Nat × Mem)
  | 0 => fun _ _ => none
  | n + 1 => fun u2 M0 => f_X12_isEmpty_l2_b (f_X12_isEmpty_l2 fl g1 n) fl g1 u2 M0
def f_X12_isEmpty (fl : Nat) (a1 : Int32) (M0 : Mem) : Option (Int32 × Mem) :=
  bn2 (f_X12_isEmpty_l2 fl a1 fl 1 M0) fun (q6 : Nat) m7 =>
  if q6 = 0 then
    some (0, m7)
  else
    some (1, m7)
def f_X12_bay_b73 (fl : Nat) (g1 : Int32) (g2 : Int32) (g3 : Int32) (z0 : Int32) (M0 : Mem) : Option (Int32 × Mem) :=
  if g2 = 0 then
    asr (vq g1 30) <|
    lt1 (sI M0 1 0 (Int32.toNatClampNeg g1) g3) fun m21 =>
    some (z0, m21)
  else
    asr (vq g1 30) <|
    lt1 (sI M0 2 0 (Int32.toNatClampNeg g1) g3) fun m19 =>
    some (z0, m19)
def f_X12_bay_b34 (fl : Nat) (g1 : Int32) (g2 : Int32) (g3 : Int32) (z1 : Int32) (z2 : Int32) (z3 : Int32) (M0 : Mem) : Option (Int32 × Mem) :=
  bn2 (f_X12_in fl z1 z2 z3 M0) fun v10 m9 =>
  if v10 = 0 then
    some ((-2), m9)
  else
    bn2 (f_X12_isEmpty fl g1 m9) fun v13 m12 =>
    if v13 = 0 then
      some ((-3), m12)
    else
      bn2 (
        if g2 = 0 then
          asr (vq g1 30) <|
          some ((gI m12 1 0 (Int32.toNatClampNeg g1)), m12)
        else
          asr (vq g1 30) <|
          some ((gI m12 2 0 (Int32.toNatClampNeg g1)), m12)
      ) fun (q15 : Int32) m16 =>
      f_X12_bay_b73 fl g1 g2 g3 q15 m16
def f_X12_bay (fl : Nat) (a1 : Int32) (a2 : Int32) (a3 : Int32) (M0 : Mem) : Option (Int32 × Mem) :=
  bn2 (f_X12_isBay fl a1 M0) fun v2 m1 =>
  if v2 = 0 then
    some ((-1), m1)
  else
    bn2 (f_X12_in fl a2 0 1 m1) fun v5 m4 =>
    if v5 = 0 then
      some ((-1), m4)
    else
      bn2 (
        if a2 = 0 then
          some (20, m4)
        else
          some (60, m4)
      ) fun (q7 : Int32) m8 =>
      f_X12_bay_b34 fl a1 a2 a3 a3 0 q7 m8
def f_X12_foundry (fl : Nat) (a1 : Int32) (a2 : Int32) (a3 : Int32) (M0 : Mem) : Option (Int32 × Mem) :=
  bn2 (f_X12_isFoundry fl a1 M0) fun v2 m1 =>
  if v2 = 0 then
    some ((-1), m1)
  else
    bn2 (f_X12_in fl a2 1 60 m1) fun v5 m4 =>
    if v5 = 0 then
      some ((-2), m4)
    else
      bn2 (f_X12_in fl a3 a2 60 m4) fun v8 m7 =>
      if v8 = 0 then
        some ((-2), m7)
      else
        asr (vq a1 8) <|
        lt1 (sI m7 3 0 (Int32.toNatClampNeg a1) a2) fun m11 =>
        asr (vq a1 8) <|
        lt1 (sI m11 4 0 (Int32.toNatClampNeg a1) a3) fun m13 =>
        some (1, m13)
def f_X12_order (fl : Nat) (a1 : Int32) (a2 : Int32) (a3 : Int32) (a4 : Int32) (M0 : Mem) : Option (Int32 × Mem) :=
  bn2 (f_X12_in fl a1 0 6 M0) fun v2 m1 =>
  if v2 = 0 then
    some ((-1), m1)
  else
    bn2 (f_X12_isFoundry fl a2 m1) fun v5 m4 =>
    if v5 = 0 then
      some ((-1), m4)
    else
      bn2 (f_X12_in fl a3 1 999 m4) fun v8 m7 =>
      if v8 = 0 then
        some ((-2), m7)
      else
        bn2 (f_X12_in fl a4 0 999 m7) fun v11 m10 =>
        if v11 = 0 then
          some ((-2), m10)
        else
          if (gI m10 0 0 1) = 60 then
            some ((-4), m10)
          else
            asr (vq (gI m10 0 0 1) 60) <|
            lt1 (sI m10 5 0 (Int32.toNatClampNeg (gI m10 0 0 1)) a1) fun m15 =>
            asr (vq (gI m15 0 0 1) 60) <|
            lt1 (sI m15 6 0 (Int32.toNatClampNeg (gI m15 0 0 1)) a2) fun m17 =>
            asr (vq (gI m17 0 0 1) 60) <|
            lt1 (sI m17 7 0 (Int32.toNatClampNeg (gI m17 0 0 1)) a3) fun m19 =>
            asr (vq (gI m19 0 0 1) 60) <|
            lt1 (sI m19 8 0 (Int32.toNatClampNeg (gI m19 0 0 1)) a4) fun m21 =>
            asr (vq (gI m21 0 0 1) 60) <|
            lt1 (sI m21 9 0 (Int32.toNatClampNeg (gI m21 0 0 1)) (gI m21 0 0 0)) fun m23 =>
            asr (vq (gI m23 0 0 1) 60) <|
            lt1 (sI m23 10 0 (Int32.toNatClampNeg (gI m23 0 0 1)) (-1)) fun m25 =>
            asr (vq (gI m25 0 0 1) 60) <|
            lt1 (sI m25 11 0 (Int32.toNatClampNeg (gI m25 0 0 1)) (-1)) fun m27 =>
            lt1 (sI m27 0 0 1 ((gI m27 0 0 1) + 1)) fun m28 =>
            some (((gI m28 0 0 1) - 1), m28)
def f_X12_isLot (fl : Nat) (a1 : Int32) (M0 : Mem) : Option (Int32 × Mem) :=
  bn2 (f_X12_in fl a1 0 ((gI M0 0 0 1) - 1) M0) fun v2 m1 =>
  asr (v2 = 0 ∨ v2 = 1) <|
  some (v2, m1)
def f_X12_come (fl : Nat) (a1 : Int32) (a2 : Int32) (M0 : Mem) : Option (Int32 × Mem) :=
  bn2 (f_X12_isLot fl a1 M0) fun v2 m1 =>
  if v2 = 0 then
    some ((-1), m1)
  else
    asr (vq a1 60) <|
    bn2 (f_X12_in fl a2 (gI m1 9 0 (Int32.toNatClampNeg a1)) (gI m1 0 0 0) m1) fun v6 m5 =>
    if v6 = 0 then
      some ((-2), m5)
    else
      asr (vq a1 60) <|
      if (gI m5 10 0 (Int32.toNatClampNeg a1)) < 0 then
        asr (vq a1 60) <|
        lt1 (sI m5 10 0 (Int32.toNatClampNeg a1) a2) fun m11 =>
        asr (vq a1 60) <|
        lt1 (sI m11 11 0 (Int32.toNatClampNeg a1) (gI m11 0 0 0)) fun m13 =>
        some (1, m13)
      else
        some ((-3), m5)
def f_X12_stock (fl : Nat) (a1 : Int32) (M0 : Mem) : Option (Int32 × Mem) :=
  asr (vq a1 60) <|
  if 0 ≤ (gI M0 10 0 (Int32.toNatClampNeg a1)) then
    asr (vq a1 60) <|
    asr (vq a1 60) <|
    some (((gI M0 7 0 (Int32.toNatClampNeg a1)) - (gI M0 12 0 (Int32.toNatClampNeg a1))), M0)
  else
    some (0, M0)
def f_X12_next (fl : Nat)  (M0 : Mem) : Option (Int32 × Mem) :=
  if (gI M0 0 0 31) ≤ (gI M0 0 0 32) then
    some ((-1), M0)
  else
    asr (vq ((gI M0 0 0 30) + (gI M0 0 0 32)) 1100) <|
    some ((gI M0 20 0 (Int32.toNatClampNeg ((gI M0 0 0 30) + (gI M0 0 0 32)))), M0)
def f_X12_takes (fl : Nat) (a1 : Int32) (M0 : Mem) : Option (Int32 × Mem) :=
  bn2 (f_X12_next fl  M0) fun v2 m1 =>
  if v2 = a1 then
    lt1 (sI m1 0 0 32 ((gI m1 0 0 32) + 1)) fun m4 =>
    some (1, m4)
  else
    some (0, m1)
def f_X12_takesWord_l4_b (rk : Int32 → Mem → Option (Nat × Mem)) (fl : Nat) (g1 : Int32) (u3 : Int32) (M0 : Mem) : Option (Nat × Mem) :=
  if u3 < 0 then
    some (1, M0)
  else
    bn2 (f_X12_takes fl (96 + ((jshr g1 (5 * u3)) &&& 31)) M0) fun v4 m3 =>
    if v4 = 0 then
      some (0, m3)
    else
      lt1 (u3 + (-1)) fun (x6 : Int32) =>
      rk x6 m3
def f_X12_takesWord_l4 (fl : Nat) (g1 : Int32) : Nat → Int32 → Mem → Option (Nat × Mem)
  | 0 => fun _ _ => none
  | n + 1 => fun u3 M0 => f_X12_takesWord_l4_b (f_X12_takesWord_l4 fl g1 n) fl g1 u3 M0
def f_X12_takesWord (fl : Nat) (a1 : Int32) (a2 : Int32) (M0 : Mem) : Option (Int32 × Mem) :=
  lt1 (a2 - 1) fun (x1 : Int32) =>
  bn2 (f_X12_takesWord_l4 fl a1 fl x1 M0) fun (q7 : Nat) m8 =>
  if q7 = 0 then
    some (0, m8)
  else
    bn2 (f_X12_takes fl 32 m8) fun v10 m9 =>
    asr (v10 = 0 ∨ v10 = 1) <|
    some (v10, m9)
def f_X12_takesAnyWord_b38 (fl : Nat) (g1 : Int32) (z0 : Int32) (M0 : Mem) : Option (Int32 × Mem) :=
  if g1 = 98 then
    bn2 (f_X12_takesWord fl 2098 3 M0) fun v7 m6 =>
    if v7 = 0 then
      some ((-1), m6)
    else
      some (5, m6)
  else
  if g1 = 99 then
    bn2 (f_X12_takesWord fl 3764 3 M0) fun v11 m10 =>
    if v11 = 0 then
      some ((-1), m10)
    else
      some (4, m10)
  else
  if g1 = 108 then
    bn2 (f_X12_takesWord fl 408612 4 M0) fun v15 m14 =>
    if v15 = 0 then
      some ((-1), m14)
    else
      some (2, m14)
  else
  if g1 = 112 then
    if z0 = 121 then
      bn2 (f_X12_takesWord fl 16441 3 M0) fun v23 m22 =>
      if v23 = 0 then
        some ((-1), m22)
      else
        some (1, m22)
    else
      bn2 (f_X12_takesWord fl 525419 4 M0) fun v20 m19 =>
      if v20 = 0 then
        some ((-1), m19)
      else
        some (0, m19)
  else
  if g1 = 115 then
    bn2 (f_X12_takesWord fl 637431 4 M0) fun v27 m26 =>
    if v27 = 0 then
      some ((-1), m26)
    else
      some (3, m26)
  else
    some ((-1), M0)
def f_X12_takesAnyWord (fl : Nat)  (M0 : Mem) : Option (Int32 × Mem) :=
  bn2 (f_X12_next fl  M0) fun v2 m1 =>
  bn2 (
    if (gI m1 0 0 31) ≤ ((gI m1 0 0 32) + 2) then
      some ((-1), m1)
    else
      asr (vq (((gI m1 0 0 30) + (gI m1 0 0 32)) + 2) 1100) <|
      some ((gI m1 20 0 (Int32.toNatClampNeg (((gI m1 0 0 30) + (gI m1 0 0 32)) + 2))), m1)
  ) fun (q3 : Int32) m4 =>
  f_X12_takesAnyWord_b38 fl v2 q3 m4
def f_X12_isDigit (fl : Nat)  (M0 : Mem) : Option (Int32 × Mem) :=
  bn2 (f_X12_next fl  M0) fun v2 m1 =>
  bn2 (f_X12_in fl v2 48 57 m1) fun v4 m3 =>
  asr (v4 = 0 ∨ v4 = 1) <|
  some (v4, m3)
def f_X12_takesNumber_l16_b (rk : Int32 → Mem → Option (Mem)) (fl : Nat) (u1 : Int32) (M0 : Mem) : Option (Mem) :=
  if 3 ≤ u1 then
    some M0
  else
    bn2 (f_X12_isDigit fl  M0) fun v7 m6 =>
    if v7 = 0 then
      some m6
    else
      bn2 (f_X12_next fl  m6) fun v10 m9 =>
      lt1 (sI m9 0 0 34 (((10 * (gI m6 0 0 34)) + v10) - 48)) fun m11 =>
      lt1 (sI m11 0 0 32 ((gI m11 0 0 32) + 1)) fun m12 =>
      lt1 (u1 + 1) fun (x13 : Int32) =>
      rk x13 m12
def f_X12_takesNumber_l16 (fl : Nat) : Nat → Int32 → Mem → Option (Mem)
  | 0 => fun _ _ => none
  | n + 1 => fun u1 M0 => f_X12_takesNumber_l16_b (f_X12_takesNumber_l16 fl  n) fl  u1 M0
def f_X12_takesNumber (fl : Nat)  (M0 : Mem) : Option (Int32 × Mem) :=
  bn2 (f_X12_isDigit fl  M0) fun v2 m1 =>
  if v2 = 0 then
    some (0, m1)
  else
    lt1 (sI m1 0 0 34 0) fun m4 =>
    bn1 (f_X12_takesNumber_l16 fl  fl 0 m4) fun m15 =>
    some (1, m15)
def f_X12_push_l2_b (rk : Int32 → Mem → Option (Int32 × Mem)) (fl : Nat) (u2 : Int32) (M0 : Mem) : Option (Int32 × Mem) :=
  if (gI M0 0 0 37) ≤ 0 then
    some (u2, M0)
  else
    asr (vq ((gI M0 0 0 37) - 1) 101) <|
    if (gI M0 26 0 (Int32.toNatClampNeg ((gI M0 0 0 37) - 1))) = 33 then
      bn2 (
        if u2 = 0 then
          some (1, M0)
        else
          some (0, M0)
      ) fun (q4 : Int32) m5 =>
      lt1 (sI m5 0 0 37 ((gI m5 0 0 37) - 1)) fun m6 =>
      lt1 (sI m6 0 0 39 ((gI m6 0 0 39) - 1)) fun m7 =>
      rk q4 m7
    else
      some (u2, M0)
def f_X12_push_l2 (fl : Nat) : Nat → Int32 → Mem → Option (Int32 × Mem)
  | 0 => fun _ _ => none
  | n + 1 => fun u2 M0 => f_X12_push_l2_b (f_X12_push_l2 fl  n) fl  u2 M0
def f_X12_push_b58 (fl : Nat) (g2 : Int32) (M0 : Mem) : Option (Mem) :=
  asr (vq (gI M0 0 0 38) 101) <|
  lt1 (sI M0 27 0 (Int32.toNatClampNeg (gI M0 0 0 38)) (vp_nar .boolean g2)) fun m12 =>
  lt1 (sI m12 0 0 38 ((gI m12 0 0 38) + 1)) fun m13 =>
  some m13
def f_X12_push (fl : Nat) (a1 : Int32) (M0 : Mem) : Option (Mem) :=
  bn2 (f_X12_push_l2 fl  fl a1 M0) fun (q9 : Int32) m10 =>
  f_X12_push_b58 fl q9 m10
def f_X12_takesTest_b194 (fl : Nat) (z1 : Int32) (M0 : Mem) : Option (Int32 × Mem) :=
  bn1 (f_X12_push fl z1 M0) fun m18 =>
  some (1, m18)
def f_X12_takesTest_b66 (fl : Nat) (z0 : Int32) (M0 : Mem) : Option (Int32 × Mem) :=
  if 0 ≤ z0 then
    lt1 (sI M0 0 0 32 ((gI M0 0 0 32) + 1)) fun m6 =>
    bn2 (f_X12_next fl  m6) fun v8 m7 =>
    bn2 (f_X12_in fl v8 60 62 m7) fun v10 m9 =>
    if v10 = 0 then
      some (0, m9)
    else
      lt1 (sI m9 0 0 32 ((gI m9 0 0 32) + 1)) fun m12 =>
      bn2 (f_X12_takesNumber fl  m12) fun v14 m13 =>
      if v14 = 0 then
        some (0, m13)
      else
        bn2 (
          if v8 = 60 then
            asr (vq z0 6) <|
            if (gI m13 0 0 34) ≤ (gI m13 22 0 (Int32.toNatClampNeg z0)) then
              some (0, m13)
            else
              some (1, m13)
          else
            if v8 = 61 then
              asr (vq z0 6) <|
              if (gI m13 22 0 (Int32.toNatClampNeg z0)) = (gI m13 0 0 34) then
                some (1, m13)
              else
                some (0, m13)
            else
              asr (vq z0 6) <|
              if (gI m13 22 0 (Int32.toNatClampNeg z0)) ≤ (gI m13 0 0 34) then
                some (0, m13)
              else
                some (1, m13)
        ) fun (q16 : Int32) m17 =>
        f_X12_takesTest_b194 fl q16 m17
  else
    some (0, M0)
def f_X12_takesTest (fl : Nat)  (M0 : Mem) : Option (Int32 × Mem) :=
  bn2 (f_X12_next fl  M0) fun v2 m1 =>
  bn2 (
    if v2 = 116 then
      some (0, m1)
    else
      if v2 = 108 then
        some (1, m1)
      else
        if v2 = 99 then
          some (2, m1)
        else
          if v2 = 114 then
            some (3, m1)
          else
            if v2 = 100 then
              some (4, m1)
            else
              if v2 = 102 then
                some (5, m1)
              else
                some ((-1), m1)
  ) fun (q3 : Int32) m4 =>
  f_X12_takesTest_b66 fl q3 m4
def f_X12_settle_l0_b (rk : Mem → Option (Mem)) (fl : Nat) (g1 : Int32)  (M0 : Mem) : Option (Mem) :=
  if (gI M0 0 0 37) ≤ 0 then
    some M0
  else
    asr (vq ((gI M0 0 0 37) - 1) 101) <|
    if (gI M0 26 0 (Int32.toNatClampNeg ((gI M0 0 0 37) - 1))) = 38 then
      lt1 (sI M0 0 0 37 ((gI M0 0 0 37) - 1)) fun m4 =>
      lt1 (sI m4 0 0 38 ((gI m4 0 0 38) - 1)) fun m5 =>
      asr (vq (gI m5 0 0 37) 101) <|
      if (gI m5 26 0 (Int32.toNatClampNeg (gI m5 0 0 37))) = 38 then
        asr (vq ((gI m5 0 0 38) - 1) 101) <|
        if (gI m5 27 0 (Int32.toNatClampNeg ((gI m5 0 0 38) - 1))) = 0 then
          asr (vq ((gI m5 0 0 38) - 1) 101) <|
          lt1 (sI m5 27 0 (Int32.toNatClampNeg ((gI m5 0 0 38) - 1)) (vp_nar .boolean 0)) fun m21 =>
          rk  m21
        else
          asr (vq (gI m5 0 0 38) 101) <|
          if (gI m5 27 0 (Int32.toNatClampNeg (gI m5 0 0 38))) = 0 then
            asr (vq ((gI m5 0 0 38) - 1) 101) <|
            lt1 (sI m5 27 0 (Int32.toNatClampNeg ((gI m5 0 0 38) - 1)) (vp_nar .boolean 0)) fun m25 =>
            rk  m25
          else
            asr (vq ((gI m5 0 0 38) - 1) 101) <|
            lt1 (sI m5 27 0 (Int32.toNatClampNeg ((gI m5 0 0 38) - 1)) (vp_nar .boolean 1)) fun m27 =>
            rk  m27
      else
        asr (vq ((gI m5 0 0 38) - 1) 101) <|
        if (gI m5 27 0 (Int32.toNatClampNeg ((gI m5 0 0 38) - 1))) = 0 then
          asr (vq (gI m5 0 0 38) 101) <|
          if (gI m5 27 0 (Int32.toNatClampNeg (gI m5 0 0 38))) = 0 then
            asr (vq ((gI m5 0 0 38) - 1) 101) <|
            lt1 (sI m5 27 0 (Int32.toNatClampNeg ((gI m5 0 0 38) - 1)) (vp_nar .boolean 0)) fun m15 =>
            rk  m15
          else
            asr (vq ((gI m5 0 0 38) - 1) 101) <|
            lt1 (sI m5 27 0 (Int32.toNatClampNeg ((gI m5 0 0 38) - 1)) (vp_nar .boolean 1)) fun m17 =>
            rk  m17
        else
          asr (vq ((gI m5 0 0 38) - 1) 101) <|
          lt1 (sI m5 27 0 (Int32.toNatClampNeg ((gI m5 0 0 38) - 1)) (vp_nar .boolean 1)) fun m11 =>
          rk  m11
    else
      asr (vq ((gI M0 0 0 37) - 1) 101) <|
      if (gI M0 26 0 (Int32.toNatClampNeg ((gI M0 0 0 37) - 1))) = 124 then
        if g1 = 38 then
          some M0
        else
          lt1 (sI M0 0 0 37 ((gI M0 0 0 37) - 1)) fun m31 =>
          lt1 (sI m31 0 0 38 ((gI m31 0 0 38) - 1)) fun m32 =>
          asr (vq (gI m32 0 0 37) 101) <|
          if (gI m32 26 0 (Int32.toNatClampNeg (gI m32 0 0 37))) = 38 then
            asr (vq ((gI m32 0 0 38) - 1) 101) <|
            if (gI m32 27 0 (Int32.toNatClampNeg ((gI m32 0 0 38) - 1))) = 0 then
              asr (vq ((gI m32 0 0 38) - 1) 101) <|
              lt1 (sI m32 27 0 (Int32.toNatClampNeg ((gI m32 0 0 38) - 1)) (vp_nar .boolean 0)) fun m48 =>
              rk  m48
            else
              asr (vq (gI m32 0 0 38) 101) <|
              if (gI m32 27 0 (Int32.toNatClampNeg (gI m32 0 0 38))) = 0 then
                asr (vq ((gI m32 0 0 38) - 1) 101) <|
                lt1 (sI m32 27 0 (Int32.toNatClampNeg ((gI m32 0 0 38) - 1)) (vp_nar .boolean 0)) fun m52 =>
                rk  m52
              else
                asr (vq ((gI m32 0 0 38) - 1) 101) <|
                lt1 (sI m32 27 0 (Int32.toNatClampNeg ((gI m32 0 0 38) - 1)) (vp_nar .boolean 1)) fun m54 =>
                rk  m54
          else
            asr (vq ((gI m32 0 0 38) - 1) 101) <|
            if (gI m32 27 0 (Int32.toNatClampNeg ((gI m32 0 0 38) - 1))) = 0 then
              asr (vq (gI m32 0 0 38) 101) <|
              if (gI m32 27 0 (Int32.toNatClampNeg (gI m32 0 0 38))) = 0 then
                asr (vq ((gI m32 0 0 38) - 1) 101) <|
                lt1 (sI m32 27 0 (Int32.toNatClampNeg ((gI m32 0 0 38) - 1)) (vp_nar .boolean 0)) fun m42 =>
                rk  m42
              else
                asr (vq ((gI m32 0 0 38) - 1) 101) <|
                lt1 (sI m32 27 0 (Int32.toNatClampNeg ((gI m32 0 0 38) - 1)) (vp_nar .boolean 1)) fun m44 =>
                rk  m44
            else
              asr (vq ((gI m32 0 0 38) - 1) 101) <|
              lt1 (sI m32 27 0 (Int32.toNatClampNeg ((gI m32 0 0 38) - 1)) (vp_nar .boolean 1)) fun m38 =>
              rk  m38
      else
        some M0
def f_X12_settle_l0 (fl : Nat) (g1 : Int32) : Nat → Mem → Option (Mem)
  | 0 => fun  _ => none
  | n + 1 => fun  M0 => f_X12_settle_l0_b (f_X12_settle_l0 fl g1 n) fl g1  M0
def f_X12_settle (fl : Nat) (a1 : Int32) (M0 : Mem) : Option (Mem) :=
  bn1 (f_X12_settle_l0 fl a1 fl  M0) fun m56 =>
  some m56
def f_X12_takesE_l17_b (rk : Int32 → Mem → Option (Nat × Mem)) (fl : Nat) (u1 : Int32) (M0 : Mem) : Option (Nat × Mem) :=
  bn2 (f_X12_next fl  M0) fun v5 m4 =>
  if u1 = 0 then
    if v5 = 38 then
      bn1 (f_X12_settle fl v5 m4) fun m8 =>
      asr (vq (gI m8 0 0 37) 101) <|
      lt1 (sI m8 26 0 (Int32.toNatClampNeg (gI m8 0 0 37)) v5) fun m10 =>
      lt1 (sI m10 0 0 37 ((gI m10 0 0 37) + 1)) fun m11 =>
      lt1 (sI m11 0 0 32 ((gI m11 0 0 32) + 1)) fun m12 =>
      rk 1 m12
    else
      if v5 = 124 then
        bn1 (f_X12_settle fl v5 m4) fun m23 =>
        asr (vq (gI m23 0 0 37) 101) <|
        lt1 (sI m23 26 0 (Int32.toNatClampNeg (gI m23 0 0 37)) v5) fun m25 =>
        lt1 (sI m25 0 0 37 ((gI m25 0 0 37) + 1)) fun m26 =>
        lt1 (sI m26 0 0 32 ((gI m26 0 0 32) + 1)) fun m27 =>
        rk 1 m27
      else
        bn1 (f_X12_settle fl 124 m4) fun m14 =>
        if (gI m14 0 0 37) = 0 then
          some (2, m14)
        else
          if v5 = 41 then
            lt1 (sI m14 0 0 37 ((gI m14 0 0 37) - 1)) fun m17 =>
            lt1 (sI m17 0 0 39 ((gI m17 0 0 39) - 1)) fun m18 =>
            lt1 (sI m18 0 0 38 ((gI m18 0 0 38) - 1)) fun m19 =>
            lt1 (sI m19 0 0 32 ((gI m19 0 0 32) + 1)) fun m20 =>
            asr (vq (gI m20 0 0 38) 101) <|
            bn1 (f_X12_push fl (gI m20 27 0 (Int32.toNatClampNeg (gI m20 0 0 38))) m20) fun m22 =>
            rk u1 m22
          else
            some (3, m14)
  else
    if v5 = 33 then
      if (gI m4 0 0 39) = 4 then
        some (0, m4)
      else
        lt1 (sI m4 0 0 39 ((gI m4 0 0 39) + 1)) fun m30 =>
        asr (vq (gI m30 0 0 37) 101) <|
        lt1 (sI m30 26 0 (Int32.toNatClampNeg (gI m30 0 0 37)) v5) fun m32 =>
        lt1 (sI m32 0 0 37 ((gI m32 0 0 37) + 1)) fun m33 =>
        lt1 (sI m33 0 0 32 ((gI m33 0 0 32) + 1)) fun m34 =>
        rk u1 m34
    else
      if v5 = 40 then
        if (gI m4 0 0 39) = 4 then
          some (0, m4)
        else
          lt1 (sI m4 0 0 39 ((gI m4 0 0 39) + 1)) fun m40 =>
          asr (vq (gI m40 0 0 37) 101) <|
          lt1 (sI m40 26 0 (Int32.toNatClampNeg (gI m40 0 0 37)) v5) fun m42 =>
          lt1 (sI m42 0 0 37 ((gI m42 0 0 37) + 1)) fun m43 =>
          lt1 (sI m43 0 0 32 ((gI m43 0 0 32) + 1)) fun m44 =>
          rk u1 m44
      else
        bn2 (f_X12_takesTest fl  m4) fun v37 m36 =>
        if v37 = 0 then
          some (1, m36)
        else
          rk 0 m36
def f_X12_takesE_l17 (fl : Nat) : Nat → Int32 → Mem → Option (Nat × Mem)
  | 0 => fun _ _ => none
  | n + 1 => fun u1 M0 => f_X12_takesE_l17_b (f_X12_takesE_l17 fl  n) fl  u1 M0
def f_X12_takesE (fl : Nat)  (M0 : Mem) : Option (Int32 × Mem) :=
  lt1 (sI M0 0 0 37 0) fun m1 =>
  lt1 (sI m1 0 0 38 0) fun m2 =>
  lt1 (sI m2 0 0 39 0) fun m3 =>
  bn2 (f_X12_takesE_l17 fl  fl 1 m3) fun (q45 : Nat) m46 =>
  if q45 = 0 then
    some (0, m46)
  else
  if q45 = 1 then
    some (0, m46)
  else
  if q45 = 2 then
    some (1, m46)
  else
    some (0, m46)
def f_X12_takesClause_b33 (fl : Nat) (g1 : Int32) (M0 : Mem) : Option (Int32 × Mem) :=
  asr (vq g1 6) <|
  lt1 (sI M0 23 0 (Int32.toNatClampNeg g1) (gI M0 0 0 33)) fun m9 =>
  asr (vq g1 6) <|
  lt1 (sI m9 24 0 (Int32.toNatClampNeg g1) (gI m9 0 0 34)) fun m11 =>
  if g1 ≤ 3 then
    asr (vq g1 6) <|
    lt1 (sI m11 25 0 (Int32.toNatClampNeg g1) (vp_nar .boolean 0)) fun m14 =>
    some (1, m14)
  else
    asr (vq 0 101) <|
    if (gI m11 27 0 (Int32.toNatClampNeg 0)) = 0 then
      asr (vq g1 6) <|
      lt1 (sI m11 25 0 (Int32.toNatClampNeg g1) (vp_nar .boolean 0)) fun m18 =>
      some (1, m18)
    else
      asr (vq g1 6) <|
      lt1 (sI m11 25 0 (Int32.toNatClampNeg g1) (vp_nar .boolean 1)) fun m20 =>
      some (1, m20)
def f_X12_takesClause (fl : Nat)  (M0 : Mem) : Option (Int32 × Mem) :=
  bn2 (f_X12_takesAnyWord fl  M0) fun v2 m1 =>
  if v2 < 0 then
    some (0, m1)
  else
    if 4 ≤ v2 then
      bn2 (f_X12_takesE fl  m1) fun v6 m5 =>
      if v6 = 0 then
        some (0, m5)
      else
        f_X12_takesClause_b33 fl v2 m5
    else
      bn2 (f_X12_takesNumber fl  m1) fun v22 m21 =>
      if v22 = 0 then
        some (0, m21)
      else
        f_X12_takesClause_b33 fl v2 m21
def f_X12_goes_l30_b (rk : Int32 → Mem → Option (Mem)) (fl : Nat) (u2 : Int32) (M0 : Mem) : Option (Mem) :=
  if 6 ≤ u2 then
    some M0
  else
    asr (vq u2 6) <|
    lt1 (sI M0 23 0 (Int32.toNatClampNeg u2) (-1)) fun m8 =>
    lt1 (u2 + 1) fun (x9 : Int32) =>
    rk x9 m8
def f_X12_goes_l30 (fl : Nat) : Nat → Int32 → Mem → Option (Mem)
  | 0 => fun _ _ => none
  | n + 1 => fun u2 M0 => f_X12_goes_l30_b (f_X12_goes_l30 fl  n) fl  u2 M0
def f_X12_goes_l49_b (rk : Mem → Option (Nat × Mem)) (fl : Nat)  (M0 : Mem) : Option (Nat × Mem) :=
  bn2 (f_X12_takesClause fl  M0) fun v13 m12 =>
  if v13 = 0 then
    some (0, m12)
  else
    lt1 (sI m12 0 0 33 ((gI m12 0 0 33) + 1)) fun m15 =>
    if (gI m15 0 0 32) = (gI m15 0 0 31) then
      some (1, m15)
    else
      if (gI m15 0 0 33) = 8 then
        some (2, m15)
      else
        bn2 (f_X12_takes fl 59 m15) fun v19 m18 =>
        if v19 = 0 then
          some (2, m18)
        else
          rk  m18
def f_X12_goes_l49 (fl : Nat) : Nat → Mem → Option (Nat × Mem)
  | 0 => fun  _ => none
  | n + 1 => fun  M0 => f_X12_goes_l49_b (f_X12_goes_l49 fl  n) fl   M0
def f_X12_goes (fl : Nat) (a1 : Int32) (M0 : Mem) : Option (Int32 × Mem) :=
  lt1 (sI M0 0 0 30 (100 * a1)) fun m1 =>
  asr (vq a1 11) <|
  lt1 (sI m1 0 0 31 (gI m1 21 0 (Int32.toNatClampNeg a1))) fun m3 =>
  lt1 (sI m3 0 0 32 0) fun m4 =>
  lt1 (sI m4 0 0 33 0) fun m5 =>
  bn1 (f_X12_goes_l30 fl  fl 0 m5) fun m11 =>
  bn2 (f_X12_goes_l49 fl  fl  m11) fun (q21 : Nat) m22 =>
  if q21 = 0 then
    some (0, m22)
  else
  if q21 = 1 then
    some (1, m22)
  else
    some (0, m22)
def f_X12_ruler_l5_b (rk : Int32 → Int32 → Mem → Option (Int32 × Mem)) (fl : Nat) (g1 : Int32) (g2 : Int32) (u3 : Int32) (u4 : Int32) (M0 : Mem) : Option (Int32 × Mem) :=
  if (gI M0 0 0 21) ≤ u4 then
    some (u3, M0)
  else
    asr (vq u4 10) <|
    if g2 < (gI M0 19 0 (Int32.toNatClampNeg u4)) then
      lt1 (u4 + 1) fun (x4 : Int32) =>
      rk u3 x4 M0
    else
      bn2 (f_X12_goes fl u4 M0) fun v6 m5 =>
      if v6 = 0 then
        lt1 (u4 + 1) fun (x8 : Int32) =>
        rk u3 x8 m5
      else
        asr (vq g1 6) <|
        if (gI m5 23 0 (Int32.toNatClampNeg g1)) < 0 then
          lt1 (u4 + 1) fun (x11 : Int32) =>
          rk u3 x11 m5
        else
          if u3 < 0 then
            lt1 (u4 + 1) fun (x13 : Int32) =>
            rk u4 x13 m5
          else
            asr (vq u4 10) <|
            asr (vq u3 10) <|
            if (gI m5 19 0 (Int32.toNatClampNeg u4)) < (gI m5 19 0 (Int32.toNatClampNeg u3)) then
              lt1 (u4 + 1) fun (x17 : Int32) =>
              rk u3 x17 m5
            else
              lt1 (u4 + 1) fun (x18 : Int32) =>
              rk u4 x18 m5
def f_X12_ruler_l5 (fl : Nat) (g1 : Int32) (g2 : Int32) : Nat → Int32 → Int32 → Mem → Option (Int32 × Mem)
  | 0 => fun _ _ _ => none
  | n + 1 => fun u3 u4 M0 => f_X12_ruler_l5_b (f_X12_ruler_l5 fl g1 g2 n) fl g1 g2 u3 u4 M0
def f_X12_ruler (fl : Nat) (a1 : Int32) (a2 : Int32) (M0 : Mem) : Option (Int32 × Mem) :=
  bn2 (f_X12_ruler_l5 fl a1 a2 fl (-1) 0 M0) fun (q19 : Int32) m20 =>
  if q19 < 0 then
    some ((-1), m20)
  else
    bn2 (f_X12_goes fl q19 m20) fun v23 m22 =>
    if v23 = 0 then
      some ((-1), m22)
    else
      some (q19, m22)
def f_X12_barsFoundry_l2_b (rk : Int32 → Mem → Option (Mem)) (fl : Nat) (g1 : Int32) (g2 : Int32) (u3 : Int32) (M0 : Mem) : Option (Mem) :=
  if 4 ≤ u3 then
    some M0
  else
    asr (vq u3 6) <|
    lt1 (sI M0 22 0 (Int32.toNatClampNeg u3) 0) fun m3 =>
    lt1 (u3 + 1) fun (x4 : Int32) =>
    rk x4 m3
def f_X12_barsFoundry_l2 (fl : Nat) (g1 : Int32) (g2 : Int32) : Nat → Int32 → Mem → Option (Mem)
  | 0 => fun _ _ => none
  | n + 1 => fun u3 M0 => f_X12_barsFoundry_l2_b (f_X12_barsFoundry_l2 fl g1 g2 n) fl g1 g2 u3 M0
def f_X12_barsFoundry (fl : Nat) (a1 : Int32) (a2 : Int32) (M0 : Mem) : Option (Int32 × Mem) :=
  bn1 (f_X12_barsFoundry_l2 fl a1 a2 fl 0 M0) fun m6 =>
  asr (vq 4 6) <|
  lt1 (sI m6 22 0 (Int32.toNatClampNeg 4) (jrem a2 7)) fun m8 =>
  asr (vq 5 6) <|
  lt1 (sI m8 22 0 (Int32.toNatClampNeg 5) a1) fun m10 =>
  bn2 (f_X12_ruler fl 5 a2 m10) fun v12 m11 =>
  if v12 < 0 then
    some (0, m11)
  else
    asr (vq 5 6) <|
    if (gI m11 25 0 (Int32.toNatClampNeg 5)) = 0 then
      some (0, m11)
    else
      some (1, m11)
def f_X12_isBarred_l21_b (rk : Int32 → Mem → Option (Nat × Mem)) (fl : Nat) (g1 : Int32) (u2 : Int32) (M0 : Mem) : Option (Nat × Mem) :=
  if (gI M0 0 0 1) ≤ u2 then
    some (1, M0)
  else
    asr (vq u2 60) <|
    if (gI M0 13 0 (Int32.toNatClampNeg u2)) = 0 then
      lt1 (u2 + 1) fun (x8 : Int32) =>
      rk x8 M0
    else
      asr (vq u2 60) <|
      asr (vq g1 60) <|
      if (gI M0 5 0 (Int32.toNatClampNeg u2)) = (gI M0 5 0 (Int32.toNatClampNeg g1)) then
        asr (vq u2 60) <|
        asr (vq g1 60) <|
        if (gI M0 6 0 (Int32.toNatClampNeg u2)) = (gI M0 6 0 (Int32.toNatClampNeg g1)) then
          asr (vq u2 60) <|
          asr (vq g1 60) <|
          if (gI M0 9 0 (Int32.toNatClampNeg u2)) = (gI M0 9 0 (Int32.toNatClampNeg g1)) then
            some (0, M0)
          else
            lt1 (u2 + 1) fun (x20 : Int32) =>
            rk x20 M0
        else
          lt1 (u2 + 1) fun (x16 : Int32) =>
          rk x16 M0
      else
        lt1 (u2 + 1) fun (x12 : Int32) =>
        rk x12 M0
def f_X12_isBarred_l21 (fl : Nat) (g1 : Int32) : Nat → Int32 → Mem → Option (Nat × Mem)
  | 0 => fun _ _ => none
  | n + 1 => fun u2 M0 => f_X12_isBarred_l21_b (f_X12_isBarred_l21 fl g1 n) fl g1 u2 M0
def f_X12_isBarred (fl : Nat) (a1 : Int32) (M0 : Mem) : Option (Int32 × Mem) :=
  asr (vq a1 60) <|
  bn2 (f_X12_barsFoundry fl (gI M0 6 0 (Int32.toNatClampNeg a1)) (gI M0 0 0 0) M0) fun v3 m2 =>
  if v3 = 0 then
    bn2 (f_X12_isBarred_l21 fl a1 fl 0 m2) fun (q21 : Nat) m22 =>
    if q21 = 0 then
      some (1, m22)
    else
      some (0, m22)
  else
    some (1, m2)
def f_X12_number (fl : Nat) (a1 : Int32) (a2 : Int32) (M0 : Mem) : Option (Int32 × Mem) :=
  bn2 (f_X12_ruler fl a1 a2 M0) fun v2 m1 =>
  if v2 < 0 then
    if a1 = 1 then
      some (10, m1)
    else
      if a1 = 2 then
        some (3, m1)
      else
        if a1 = 3 then
          some (2, m1)
        else
          some (0, m1)
  else
    asr (vq a1 6) <|
    some ((gI m1 24 0 (Int32.toNatClampNeg a1)), m1)
def f_X12_of (fl : Nat) (a1 : Int32) (a2 : Int32) (M0 : Mem) : Option (Int32 × Mem) :=
  bn2 (f_X12_isLot fl a1 M0) fun v2 m1 =>
  if v2 = 0 then
    some ((-1), m1)
  else
    if a2 = 0 then
      asr (vq a1 60) <|
      some ((gI m1 5 0 (Int32.toNatClampNeg a1)), m1)
    else
    if a2 = 1 then
      asr (vq a1 60) <|
      some ((gI m1 6 0 (Int32.toNatClampNeg a1)), m1)
    else
    if a2 = 2 then
      asr (vq a1 60) <|
      some ((gI m1 7 0 (Int32.toNatClampNeg a1)), m1)
    else
    if a2 = 3 then
      asr (vq a1 60) <|
      some ((gI m1 8 0 (Int32.toNatClampNeg a1)), m1)
    else
    if a2 = 4 then
      asr (vq a1 60) <|
      some ((gI m1 9 0 (Int32.toNatClampNeg a1)), m1)
    else
    if a2 = 5 then
      asr (vq a1 60) <|
      if 0 ≤ (gI m1 10 0 (Int32.toNatClampNeg a1)) then
        asr (vq a1 60) <|
        some ((gI m1 10 0 (Int32.toNatClampNeg a1)), m1)
      else
        some ((-5), m1)
    else
    if a2 = 6 then
      bn2 (f_X12_stock fl a1 m1) fun v20 m19 =>
      some (v20, m19)
    else
    if a2 = 7 then
      bn2 (f_X12_isBarred fl a1 m1) fun v23 m22 =>
      if v23 = 0 then
        some (0, m22)
      else
        some (1, m22)
    else
    if a2 = 8 then
      asr (vq a1 60) <|
      asr (vq a1 60) <|
      bn2 (f_X12_number fl 1 (gI m1 9 0 (Int32.toNatClampNeg a1)) m1) fun v29 m28 =>
      some (((gI m1 7 0 (Int32.toNatClampNeg a1)) * v29), m28)
    else
      some ((-1), m1)
def f_X12_tried_b59 (fl : Nat) (g1 : Int32) (z0 : Int32) (z1 : Int32) (M0 : Mem) : Option (Int32 × Mem) :=
  if z1 < z0 then
    asr (vq g1 60) <|
    asr (vq g1 60) <|
    lt1 (sI M0 12 0 (Int32.toNatClampNeg g1) ((gI M0 12 0 (Int32.toNatClampNeg g1)) + 1)) fun m16 =>
    lt1 (sI m16 0 0 15 ((gI m16 0 0 15) + 1)) fun m17 =>
    asr (vq g1 60) <|
    lt1 (sI m17 13 0 (Int32.toNatClampNeg g1) (vp_nar .boolean 1)) fun m19 =>
    some (0, m19)
  else
    some (1, M0)
def f_X12_tried (fl : Nat) (a1 : Int32) (a2 : Int32) (M0 : Mem) : Option (Int32 × Mem) :=
  bn2 (f_X12_isLot fl a1 M0) fun v2 m1 =>
  if v2 = 0 then
    some ((-1), m1)
  else
    bn2 (f_X12_in fl a2 0 2000 m1) fun v5 m4 =>
    if v5 = 0 then
      some ((-2), m4)
    else
      bn2 (f_X12_stock fl a1 m4) fun v8 m7 =>
      if 1 ≤ v8 then
        asr (vq a1 60) <|
        bn2 (
          if (gI m7 5 0 (Int32.toNatClampNeg a1)) = 2 then
            asr (vq a1 60) <|
            some ((gI m7 8 0 (Int32.toNatClampNeg a1)), m7)
          else
            some (100, m7)
        ) fun (q11 : Int32) m12 =>
        f_X12_tried_b59 fl a1 a2 q11 m12
      else
        some ((-3), m7)
def f_X12_sell (fl : Nat) (a1 : Int32) (a2 : Int32) (M0 : Mem) : Option (Int32 × Mem) :=
  bn2 (f_X12_isLot fl a1 M0) fun v2 m1 =>
  if v2 = 0 then
    some ((-1), m1)
  else
    bn2 (f_X12_in fl a2 1 999 m1) fun v5 m4 =>
    if v5 = 0 then
      some ((-2), m4)
    else
      bn2 (f_X12_stock fl a1 m4) fun v8 m7 =>
      if a2 ≤ v8 then
        asr (vq a1 60) <|
        asr (vq a1 60) <|
        lt1 (sI m7 12 0 (Int32.toNatClampNeg a1) ((gI m7 12 0 (Int32.toNatClampNeg a1)) + a2)) fun m12 =>
        bn2 (f_X12_stock fl a1 m12) fun v14 m13 =>
        some (v14, m13)
      else
        some ((-3), m7)
def f_X12_wantsOf (fl : Nat) (a1 : Int32) (M0 : Mem) : Option (Int32 × Mem) :=
  asr (vq a1 30) <|
  some ((100 - (2 * (gI M0 1 0 (Int32.toNatClampNeg a1)))), M0)
def f_X12_wants (fl : Nat) (a1 : Int32) (M0 : Mem) : Option (Int32 × Mem) :=
  bn2 (f_X12_isBay fl a1 M0) fun v2 m1 =>
  if v2 = 0 then
    some ((-1), m1)
  else
    bn2 (f_X12_wantsOf fl a1 m1) fun v5 m4 =>
    some (v5, m4)
def f_X12_placeOf (fl : Nat) (a1 : Int32) (M0 : Mem) : Option (Int32 × Mem) :=
  if a1 = 6 then
    some (1, M0)
  else
    some (a1, M0)
def f_X12_fits_b181 (fl : Nat) (g2 : Int32) (M0 : Mem) : Option (Int32 × Mem) :=
  bn2 (f_X12_has fl g2 2 M0) fun v21 m20 =>
  if v21 = 0 then
    some ((-7), m20)
  else
    some (1, m20)
def f_X12_fits_b169 (fl : Nat) (g2 : Int32) (g4 : Int32) (M0 : Mem) : Option (Int32 × Mem) :=
  if g4 = 3 then
    f_X12_fits_b181 fl g2 M0
  else
    if g4 = 4 then
      f_X12_fits_b181 fl g2 M0
    else
      some (1, M0)
def f_X12_fits_b132 (fl : Nat) (g2 : Int32) (g4 : Int32) (M0 : Mem) : Option (Int32 × Mem) :=
  if g4 = 2 then
    bn2 (f_X12_has fl g2 1 M0) fun v25 m24 =>
    if v25 = 0 then
      some ((-7), m24)
    else
      if 5 ≤ (jrem g2 6) then
        f_X12_fits_b169 fl g2 g4 m24
      else
        bn2 (f_X12_has fl (g2 + 1) 1 m24) fun v29 m28 =>
        if v29 = 0 then
          some ((-7), m28)
        else
          f_X12_fits_b169 fl g2 g4 m28
  else
    f_X12_fits_b169 fl g2 g4 M0
def f_X12_fits_b114 (fl : Nat) (g2 : Int32) (g4 : Int32) (M0 : Mem) : Option (Int32 × Mem) :=
  if g4 = 1 then
    asr (vq g2 30) <|
    if (gI M0 2 0 (Int32.toNatClampNeg g2)) ≤ 0 then
      f_X12_fits_b132 fl g2 g4 M0
    else
      some ((-6), M0)
  else
    f_X12_fits_b132 fl g2 g4 M0
def f_X12_fits_b76 (fl : Nat) (g1 : Int32) (g2 : Int32) (g4 : Int32) (M0 : Mem) : Option (Int32 × Mem) :=
  if g4 = 1 then
    bn2 (f_X12_wantsOf fl g2 M0) fun v34 m33 =>
    asr (vq g1 60) <|
    bn2 (f_X12_number fl 0 (gI m33 0 0 0) m33) fun v37 m36 =>
    bn2 (f_X12_in fl (v34 - (gI m33 8 0 (Int32.toNatClampNeg g1))) 0 v37 m36) fun v39 m38 =>
    if v39 = 0 then
      some ((-5), m38)
    else
      f_X12_fits_b114 fl g2 g4 m38
  else
    f_X12_fits_b114 fl g2 g4 M0
def f_X12_fits (fl : Nat) (a1 : Int32) (a2 : Int32) (M0 : Mem) : Option (Int32 × Mem) :=
  asr (vq a1 60) <|
  lt1 (gI M0 5 0 (Int32.toNatClampNeg a1)) fun (x2 : Int32) =>
  bn2 (f_X12_placeOf fl x2 M0) fun v4 m3 =>
  bn2 (f_X12_stock fl a1 m3) fun v6 m5 =>
  if 1 ≤ v6 then
    bn2 (f_X12_isBarred fl a1 m5) fun v9 m8 =>
    if v9 = 0 then
      if x2 = 0 then
        some ((-3), m8)
      else
        if v4 = 3 then
          asr (vq a2 30) <|
          if (gI m8 15 0 (Int32.toNatClampNeg a2)) = 24 then
            some ((-4), m8)
          else
            f_X12_fits_b76 fl a1 a2 v4 m8
        else
          bn2 (f_X12_has fl a2 v4 m8) fun v14 m13 =>
          if v14 = 0 then
            f_X12_fits_b76 fl a1 a2 v4 m13
          else
            some ((-4), m13)
    else
      some ((-2), m8)
  else
    some (0, m5)
def f_X12_fit (fl : Nat) (a1 : Int32) (a2 : Int32) (M0 : Mem) : Option (Int32 × Mem) :=
  bn2 (f_X12_isLot fl a1 M0) fun v2 m1 =>
  if v2 = 0 then
    some ((-1), m1)
  else
    bn2 (f_X12_isBay fl a2 m1) fun v5 m4 =>
    if v5 = 0 then
      some ((-1), m4)
    else
      bn2 (f_X12_fits fl a1 a2 m4) fun v8 m7 =>
      some (v8, m7)
def f_X12_put_b69 (fl : Nat) (g2 : Int32) (g3 : Int32) (M0 : Mem) : Option (Mem) :=
  if g3 = 4 then
    asr (vq g2 30) <|
    lt1 (sI M0 17 0 (Int32.toNatClampNeg g2) (-1)) fun m11 =>
    some m11
  else
    some M0
def f_X12_put (fl : Nat) (a1 : Int32) (a2 : Int32) (M0 : Mem) : Option (Mem) :=
  asr (vq a1 60) <|
  bn2 (f_X12_placeOf fl (gI M0 5 0 (Int32.toNatClampNeg a1)) M0) fun v3 m2 =>
  asr (vq a1 60) <|
  asr (vq a1 60) <|
  lt1 (sI m2 12 0 (Int32.toNatClampNeg a1) ((gI m2 12 0 (Int32.toNatClampNeg a1)) + 1)) fun m6 =>
  bn1 (
    if v3 = 3 then
      asr (vq a2 30) <|
      asr (vq ((24 * a2) + (gI m6 15 0 (Int32.toNatClampNeg a2))) 720) <|
      lt1 (sI m6 16 0 (Int32.toNatClampNeg ((24 * a2) + (gI m6 15 0 (Int32.toNatClampNeg a2)))) a1) fun m17 =>
      asr (vq a2 30) <|
      asr (vq a2 30) <|
      lt1 (sI m17 15 0 (Int32.toNatClampNeg a2) ((gI m17 15 0 (Int32.toNatClampNeg a2)) + 1)) fun m20 =>
      some m20
    else
      asr (vq (((5 * a2) + v3) - 1) 150) <|
      lt1 (sI m6 14 0 (Int32.toNatClampNeg (((5 * a2) + v3) - 1)) a1) fun m14 =>
      some m14
  ) fun m8 =>
  f_X12_put_b69 fl a2 v3 m8
def f_X12_set (fl : Nat) (a1 : Int32) (a2 : Int32) (M0 : Mem) : Option (Int32 × Mem) :=
  bn2 (f_X12_isLot fl a1 M0) fun v2 m1 =>
  if v2 = 0 then
    some ((-1), m1)
  else
    bn2 (f_X12_isBay fl a2 m1) fun v5 m4 =>
    if v5 = 0 then
      some ((-1), m4)
    else
      bn2 (f_X12_fits fl a1 a2 m4) fun v8 m7 =>
      if v8 = 1 then
        bn1 (f_X12_put fl a1 a2 m7) fun m10 =>
        some (1, m10)
      else
        some ((-3), m7)
def f_X12_isPlace (fl : Nat) (a1 : Int32) (M0 : Mem) : Option (Int32 × Mem) :=
  bn2 (f_X12_in fl a1 1 5 M0) fun v2 m1 =>
  asr (v2 = 0 ∨ v2 = 1) <|
  some (v2, m1)
def f_X12_at (fl : Nat) (a1 : Int32) (a2 : Int32) (M0 : Mem) : Option (Int32 × Mem) :=
  bn2 (f_X12_isBay fl a1 M0) fun v2 m1 =>
  if v2 = 0 then
    some ((-1), m1)
  else
    bn2 (f_X12_isPlace fl a2 m1) fun v5 m4 =>
    if v5 = 0 then
      some ((-1), m4)
    else
      if a2 = 3 then
        asr (vq a1 30) <|
        some ((gI m4 15 0 (Int32.toNatClampNeg a1)), m4)
      else
        bn2 (f_X12_has fl a1 a2 m4) fun v9 m8 =>
        if v9 = 0 then
          some ((-5), m8)
        else
          asr (vq (((5 * a1) + a2) - 1) 150) <|
          some ((gI m8 14 0 (Int32.toNatClampNeg (((5 * a1) + a2) - 1))), m8)
def f_X12_down_b161 (fl : Nat) (g3 : Int32) (M0 : Mem) : Option (Int32 × Mem) :=
  asr (vq g3 60) <|
  asr (vq g3 60) <|
  lt1 (sI M0 12 0 (Int32.toNatClampNeg g3) ((gI M0 12 0 (Int32.toNatClampNeg g3)) - 1)) fun m18 =>
  some (g3, m18)
def f_X12_down_b129 (fl : Nat) (g1 : Int32) (g2 : Int32) (z0 : Int32) (M0 : Mem) : Option (Int32 × Mem) :=
  bn1 (
    if g2 = 3 then
      asr (vq g1 30) <|
      asr (vq g1 30) <|
      lt1 (sI M0 15 0 (Int32.toNatClampNeg g1) ((gI M0 15 0 (Int32.toNatClampNeg g1)) - 1)) fun m24 =>
      some m24
    else
      asr (vq (((5 * g1) + g2) - 1) 150) <|
      lt1 (sI M0 14 0 (Int32.toNatClampNeg (((5 * g1) + g2) - 1)) (-1)) fun m21 =>
      some m21
  ) fun m15 =>
  f_X12_down_b161 fl z0 m15
def f_X12_down_b91 (fl : Nat) (g1 : Int32) (g2 : Int32) (M0 : Mem) : Option (Int32 × Mem) :=
  bn2 (
    if g2 = 3 then
      asr (vq g1 30) <|
      asr (vq (((24 * g1) + (gI M0 15 0 (Int32.toNatClampNeg g1))) - 1) 720) <|
      some ((gI M0 16 0 (Int32.toNatClampNeg (((24 * g1) + (gI M0 15 0 (Int32.toNatClampNeg g1))) - 1))), M0)
    else
      asr (vq (((5 * g1) + g2) - 1) 150) <|
      some ((gI M0 14 0 (Int32.toNatClampNeg (((5 * g1) + g2) - 1))), M0)
  ) fun (q12 : Int32) m13 =>
  f_X12_down_b129 fl g1 g2 q12 m13
def f_X12_down_b65 (fl : Nat) (g1 : Int32) (g2 : Int32) (M0 : Mem) : Option (Int32 × Mem) :=
  if g2 = 2 then
    bn2 (f_X12_has fl g1 3 M0) fun v30 m29 =>
    if v30 = 0 then
      bn2 (f_X12_has fl g1 4 m29) fun v33 m32 =>
      if v33 = 0 then
        f_X12_down_b91 fl g1 g2 m32
      else
        some ((-3), m32)
    else
      some ((-3), m29)
  else
    f_X12_down_b91 fl g1 g2 M0
def f_X12_down (fl : Nat) (a1 : Int32) (a2 : Int32) (M0 : Mem) : Option (Int32 × Mem) :=
  bn2 (f_X12_isBay fl a1 M0) fun v2 m1 =>
  if v2 = 0 then
    some ((-1), m1)
  else
    bn2 (f_X12_isPlace fl a2 m1) fun v5 m4 =>
    if v5 = 0 then
      some ((-1), m4)
    else
      bn2 (f_X12_has fl a1 a2 m4) fun v8 m7 =>
      if v8 = 0 then
        some ((-3), m7)
      else
        if a2 = 1 then
          bn2 (f_X12_has fl a1 2 m7) fun v36 m35 =>
          if v36 = 0 then
            if (jrem a1 6) ≤ 0 then
              f_X12_down_b65 fl a1 a2 m35
            else
              bn2 (f_X12_has fl (a1 - 1) 2 m35) fun v40 m39 =>
              if v40 = 0 then
                f_X12_down_b65 fl a1 a2 m39
              else
                some ((-3), m39)
          else
            some ((-3), m35)
        else
          f_X12_down_b65 fl a1 a2 m7
def f_X12_mayCut (fl : Nat) (a1 : Int32) (a2 : Int32) (M0 : Mem) : Option (Int32 × Mem) :=
  asr (vq a1 30) <|
  asr (vq 0 6) <|
  lt1 (sI M0 22 0 (Int32.toNatClampNeg 0) (gI M0 2 0 (Int32.toNatClampNeg a1))) fun m3 =>
  asr (vq a1 30) <|
  asr (vq 1 6) <|
  lt1 (sI m3 22 0 (Int32.toNatClampNeg 1) (gI m3 1 0 (Int32.toNatClampNeg a1))) fun m6 =>
  asr (vq 2 6) <|
  lt1 (sI m6 22 0 (Int32.toNatClampNeg 2) (jrem a1 6)) fun m8 =>
  asr (vq 3 6) <|
  lt1 (sI m8 22 0 (Int32.toNatClampNeg 3) (a1 / 6)) fun m10 =>
  asr (vq 4 6) <|
  lt1 (sI m10 22 0 (Int32.toNatClampNeg 4) (jrem a2 7)) fun m12 =>
  asr (vq 5 6) <|
  lt1 (sI m12 22 0 (Int32.toNatClampNeg 5) 0) fun m14 =>
  bn2 (f_X12_ruler fl 4 a2 m14) fun v16 m15 =>
  if v16 < 0 then
    some (0, m15)
  else
    asr (vq 4 6) <|
    if (gI m15 25 0 (Int32.toNatClampNeg 4)) = 0 then
      some (0, m15)
    else
      some (1, m15)
def f_X12_cut (fl : Nat) (a1 : Int32) (M0 : Mem) : Option (Int32 × Mem) :=
  bn2 (f_X12_isBay fl a1 M0) fun v2 m1 =>
  if v2 = 0 then
    some ((-1), m1)
  else
    asr (vq a1 30) <|
    if (gI m1 2 0 (Int32.toNatClampNeg a1)) = 0 then
      some ((-3), m1)
    else
      bn2 (f_X12_mayCut fl a1 (gI m1 0 0 0) m1) fun v7 m6 =>
      if v7 = 0 then
        some ((-3), m6)
      else
        asr (vq a1 30) <|
        lt1 (gI m6 2 0 (Int32.toNatClampNeg a1)) fun (x10 : Int32) =>
        asr (vq a1 30) <|
        lt1 (sI m6 2 0 (Int32.toNatClampNeg a1) 0) fun m12 =>
        some (x10, m12)
def f_X12_feed_l31_b (rk : Int32 → Mem → Option (Mem)) (fl : Nat) (g1 : Int32) (u3 : Int32) (M0 : Mem) : Option (Mem) :=
  if u3 < 0 then
    some M0
  else
    asr (vq (1000 + (gI M0 0 0 22)) 1100) <|
    lt1 (sI M0 20 0 (Int32.toNatClampNeg (1000 + (gI M0 0 0 22))) (ji2b (jshr g1 (8 * u3)))) fun m8 =>
    lt1 (sI m8 0 0 22 ((gI m8 0 0 22) + 1)) fun m9 =>
    lt1 (u3 + (-1)) fun (x10 : Int32) =>
    rk x10 m9
def f_X12_feed_l31 (fl : Nat) (g1 : Int32) : Nat → Int32 → Mem → Option (Mem)
  | 0 => fun _ _ => none
  | n + 1 => fun u3 M0 => f_X12_feed_l31_b (f_X12_feed_l31 fl g1 n) fl g1 u3 M0
def f_X12_feed (fl : Nat) (a1 : Int32) (a2 : Int32) (M0 : Mem) : Option (Int32 × Mem) :=
  bn2 (f_X12_in fl a2 0 4 M0) fun v2 m1 =>
  if v2 = 0 then
    some ((-2), m1)
  else
    if ((gI m1 0 0 22) + a2) ≤ 100 then
      lt1 (a2 - 1) fun (x5 : Int32) =>
      bn1 (f_X12_feed_l31 fl a1 fl x5 m1) fun m12 =>
      some ((gI m12 0 0 22), m12)
    else
      some ((-4), m1)
def f_X12_law_l74_b (rk : Int32 → Mem → Option (Mem)) (fl : Nat) (g1 : Int32) (u2 : Int32) (M0 : Mem) : Option (Mem) :=
  asr (vq 10 11) <|
  if (gI M0 21 0 (Int32.toNatClampNeg 10)) ≤ u2 then
    some M0
  else
    asr (vq (1000 + u2) 1100) <|
    asr (vq ((100 * (gI M0 0 0 21)) + u2) 1100) <|
    lt1 (sI M0 20 0 (Int32.toNatClampNeg ((100 * (gI M0 0 0 21)) + u2)) (gI M0 20 0 (Int32.toNatClampNeg (1000 + u2)))) fun m18 =>
    lt1 (u2 + 1) fun (x19 : Int32) =>
    rk x19 m18
def f_X12_law_l74 (fl : Nat) (g1 : Int32) : Nat → Int32 → Mem → Option (Mem)
  | 0 => fun _ _ => none
  | n + 1 => fun u2 M0 => f_X12_law_l74_b (f_X12_law_l74 fl g1 n) fl g1 u2 M0
def f_X12_law (fl : Nat) (a1 : Int32) (M0 : Mem) : Option (Int32 × Mem) :=
  bn2 (f_X12_isDay fl a1 M0) fun v2 m1 =>
  if v2 = 0 then
    some ((-2), m1)
  else
    if (gI m1 0 0 21) = 10 then
      some ((-4), m1)
    else
      asr (vq 10 11) <|
      lt1 (sI m1 21 0 (Int32.toNatClampNeg 10) (gI m1 0 0 22)) fun m6 =>
      lt1 (sI m6 0 0 22 0) fun m7 =>
      bn2 (f_X12_goes fl 10 m7) fun v9 m8 =>
      if v9 = 0 then
        some (((-10) - (gI m8 0 0 32)), m8)
      else
        asr (vq 10 11) <|
        asr (vq (gI m8 0 0 21) 11) <|
        lt1 (sI m8 21 0 (Int32.toNatClampNeg (gI m8 0 0 21)) (gI m8 21 0 (Int32.toNatClampNeg 10))) fun m13 =>
        bn1 (f_X12_law_l74 fl a1 fl 0 m13) fun m21 =>
        asr (vq (gI m21 0 0 21) 10) <|
        lt1 (sI m21 19 0 (Int32.toNatClampNeg (gI m21 0 0 21)) a1) fun m23 =>
        lt1 (sI m23 0 0 21 ((gI m23 0 0 21) + 1)) fun m24 =>
        some (((gI m24 0 0 21) - 1), m24)
def f_X12_force_b38 (fl : Nat) (g1 : Int32) (g2 : Int32) (g3 : Int32) (M0 : Mem) : Option (Int32 × Mem) :=
  bn2 (f_X12_isDay fl g2 M0) fun v7 m6 =>
  if v7 = 0 then
    some ((-2), m6)
  else
    if 4 ≤ g1 then
      if g1 = 4 then
        bn2 (f_X12_mayCut fl g3 g2 m6) fun v15 m14 =>
        if v15 = 0 then
          some (0, m14)
        else
          some (1, m14)
      else
        bn2 (f_X12_barsFoundry fl g3 g2 m6) fun v12 m11 =>
        if v12 = 0 then
          some (0, m11)
        else
          some (1, m11)
    else
      bn2 (f_X12_number fl g1 g2 m6) fun v18 m17 =>
      some (v18, m17)
def f_X12_force_b23 (fl : Nat) (g1 : Int32) (g2 : Int32) (g3 : Int32) (M0 : Mem) : Option (Int32 × Mem) :=
  if g1 = 5 then
    bn2 (f_X12_isFoundry fl g3 M0) fun v20 m19 =>
    if v20 = 0 then
      some ((-1), m19)
    else
      f_X12_force_b38 fl g1 g2 g3 m19
  else
    f_X12_force_b38 fl g1 g2 g3 M0
def f_X12_force (fl : Nat) (a1 : Int32) (a2 : Int32) (a3 : Int32) (M0 : Mem) : Option (Int32 × Mem) :=
  bn2 (f_X12_in fl a1 0 5 M0) fun v2 m1 =>
  if v2 = 0 then
    some ((-1), m1)
  else
    if a1 = 4 then
      bn2 (f_X12_isBay fl a3 m1) fun v23 m22 =>
      if v23 = 0 then
        some ((-1), m22)
      else
        f_X12_force_b23 fl a1 a2 a3 m22
    else
      f_X12_force_b23 fl a1 a2 a3 m1
def f_X12_why (fl : Nat) (a1 : Int32) (a2 : Int32) (M0 : Mem) : Option (Int32 × Mem) :=
  bn2 (f_X12_in fl a1 0 5 M0) fun v2 m1 =>
  if v2 = 0 then
    some ((-1), m1)
  else
    bn2 (f_X12_isDay fl a2 m1) fun v5 m4 =>
    if v5 = 0 then
      some ((-2), m4)
    else
      bn2 (f_X12_ruler fl a1 a2 m4) fun v8 m7 =>
      if 0 ≤ v8 then
        asr (vq a1 6) <|
        some (((100 * v8) + (gI m7 23 0 (Int32.toNatClampNeg a1))), m7)
      else
        some ((-5), m7)
def f_X12_people (fl : Nat) (a1 : Int32) (a2 : Int32) (M0 : Mem) : Option (Int32 × Mem) :=
  bn2 (f_X12_isBay fl a1 M0) fun v2 m1 =>
  if v2 = 0 then
    some ((-1), m1)
  else
    bn2 (f_X12_in fl a2 0 200 m1) fun v5 m4 =>
    if v5 = 0 then
      some ((-2), m4)
    else
      asr (vq a1 30) <|
      lt1 (gI m4 18 0 (Int32.toNatClampNeg a1)) fun (x8 : Int32) =>
      asr (vq a1 30) <|
      lt1 (sI m4 18 0 (Int32.toNatClampNeg a1) a2) fun m10 =>
      some (x8, m10)
def f_X12_loadOf (fl : Nat) (a1 : Int32) (M0 : Mem) : Option (Int32 × Mem) :=
  bn2 (f_X12_has fl a1 2 M0) fun v2 m1 =>
  if v2 = 0 then
    some (0, m1)
  else
    bn2 (f_X12_number fl 2 (gI m1 0 0 0) m1) fun v5 m4 =>
    asr (vq a1 30) <|
    bn2 (f_X12_number fl 3 (gI m4 0 0 0) m4) fun v8 m7 =>
    asr (vq a1 30) <|
    some (((v5 * (gI m4 18 0 (Int32.toNatClampNeg a1))) + (v8 * (gI m7 15 0 (Int32.toNatClampNeg a1)))), m7)
def f_X12_borne (fl : Nat) (a1 : Int32) (M0 : Mem) : Option (Int32 × Mem) :=
  bn2 (f_X12_loadOf fl a1 M0) fun v2 m1 =>
  if (jrem a1 6) ≤ 0 then
    some ((v2 + 0), m1)
  else
    bn2 (f_X12_loadOf fl (a1 - 1) m1) fun v5 m4 =>
    some ((v2 + v5), m4)
def f_X12_girderHolds (fl : Nat) (a1 : Int32) (M0 : Mem) : Option (Int32 × Mem) :=
  bn2 (f_X12_loadOf fl a1 M0) fun v2 m1 =>
  asr (vq ((5 * a1) + 1) 150) <|
  asr (vq (gI m1 14 0 (Int32.toNatClampNeg ((5 * a1) + 1))) 60) <|
  if (gI m1 8 0 (Int32.toNatClampNeg (gI m1 14 0 (Int32.toNatClampNeg ((5 * a1) + 1))))) < v2 then
    some (0, m1)
  else
    some (1, m1)
def f_X12_columnHolds (fl : Nat) (a1 : Int32) (M0 : Mem) : Option (Int32 × Mem) :=
  bn2 (f_X12_borne fl a1 M0) fun v2 m1 =>
  asr (vq (5 * a1) 150) <|
  asr (vq (gI m1 14 0 (Int32.toNatClampNeg (5 * a1))) 60) <|
  if (600 - (3 * (gI m1 8 0 (Int32.toNatClampNeg (gI m1 14 0 (Int32.toNatClampNeg (5 * a1))))))) < v2 then
    some (0, m1)
  else
    some (1, m1)
def f_X12_bears_b33 (fl : Nat) (g1 : Int32) (g2 : Int32) (z1 : Int32) (z2 : Int32) (M0 : Mem) : Option (Int32 × Mem) :=
  bn2 (f_X12_has fl z1 z2 M0) fun v10 m9 =>
  if v10 = 0 then
    some ((-5), m9)
  else
    if g2 = 0 then
      bn2 (f_X12_loadOf fl g1 m9) fun v24 m23 =>
      some (v24, m23)
    else
      if g2 = 1 then
        bn2 (f_X12_borne fl g1 m9) fun v22 m21 =>
        some (v22, m21)
      else
        if g2 = 2 then
          bn2 (f_X12_girderHolds fl g1 m9) fun v19 m18 =>
          if v19 = 0 then
            some (0, m18)
          else
            some (1, m18)
        else
          bn2 (f_X12_columnHolds fl g1 m9) fun v16 m15 =>
          if v16 = 0 then
            some (0, m15)
          else
            some (1, m15)
def f_X12_bears (fl : Nat) (a1 : Int32) (a2 : Int32) (M0 : Mem) : Option (Int32 × Mem) :=
  bn2 (f_X12_isBay fl a1 M0) fun v2 m1 =>
  if v2 = 0 then
    some ((-1), m1)
  else
    bn2 (f_X12_in fl a2 0 3 m1) fun v5 m4 =>
    if v5 = 0 then
      some ((-1), m4)
    else
      bn2 (
        if (jrem a2 2) = 0 then
          some (2, m4)
        else
          some (1, m4)
      ) fun (q7 : Int32) m8 =>
      f_X12_bears_b33 fl a1 a2 a1 q7 m8
def f_X12_breaks_l4_b (rk : Int32 → Int32 → Mem → Option (Int32 × Mem)) (fl : Nat) (u1 : Int32) (u2 : Int32) (M0 : Mem) : Option (Int32 × Mem) :=
  if 30 ≤ u2 then
    some (u1, M0)
  else
    bn2 (f_X12_has fl u2 2 M0) fun v3 m2 =>
    if v3 = 0 then
      bn2 (f_X12_has fl u2 1 m2) fun v6 m5 =>
      if v6 = 0 then
        lt1 (u2 + 1) fun (x8 : Int32) =>
        rk u1 x8 m5
      else
        bn2 (f_X12_columnHolds fl u2 m5) fun v10 m9 =>
        if v10 = 0 then
          lt1 (u1 ||| (jshl 1 u2)) fun (x13 : Int32) =>
          lt1 (u2 + 1) fun (x14 : Int32) =>
          rk x13 x14 m9
        else
          lt1 (u2 + 1) fun (x12 : Int32) =>
          rk u1 x12 m9
    else
      bn2 (f_X12_girderHolds fl u2 m2) fun v16 m15 =>
      if v16 = 0 then
        lt1 (u1 ||| (jshl 1 u2)) fun (x18 : Int32) =>
        lt1 (u2 + 1) fun (x19 : Int32) =>
        rk x18 x19 m15
      else
        bn2 (f_X12_has fl u2 1 m15) fun v21 m20 =>
        if v21 = 0 then
          lt1 (u2 + 1) fun (x23 : Int32) =>
          rk u1 x23 m20
        else
          bn2 (f_X12_columnHolds fl u2 m20) fun v25 m24 =>
          if v25 = 0 then
            lt1 (u1 ||| (jshl 1 u2)) fun (x28 : Int32) =>
            lt1 (u2 + 1) fun (x29 : Int32) =>
            rk x28 x29 m24
          else
            lt1 (u2 + 1) fun (x27 : Int32) =>
            rk u1 x27 m24
def f_X12_breaks_l4 (fl : Nat) : Nat → Int32 → Int32 → Mem → Option (Int32 × Mem)
  | 0 => fun _ _ _ => none
  | n + 1 => fun u1 u2 M0 => f_X12_breaks_l4_b (f_X12_breaks_l4 fl  n) fl  u1 u2 M0
def f_X12_breaks (fl : Nat)  (M0 : Mem) : Option (Int32 × Mem) :=
  bn2 (f_X12_breaks_l4 fl  fl 0 0 M0) fun (q30 : Int32) m31 =>
  some (q30, m31)
def f_X12_rain (fl : Nat) (a1 : Int32) (a2 : Int32) (M0 : Mem) : Option (Int32 × Mem) :=
  bn2 (f_X12_in fl a1 0 23 M0) fun v2 m1 =>
  if v2 = 0 then
    some ((-1), m1)
  else
    bn2 (f_X12_in fl a2 0 99 m1) fun v5 m4 =>
    if v5 = 0 then
      some ((-2), m4)
    else
      asr (vq a1 24) <|
      lt1 (gI m4 28 0 (Int32.toNatClampNeg a1)) fun (x8 : Int32) =>
      asr (vq a1 24) <|
      lt1 (sI m4 28 0 (Int32.toNatClampNeg a1) a2) fun m10 =>
      some (x8, m10)
def f_X12_leads_b39 (fl : Nat) (g1 : Int32) (g2 : Int32) (M0 : Mem) : Option (Int32 × Mem) :=
  bn2 (f_X12_has fl g1 4 M0) fun v7 m6 =>
  if v7 = 0 then
    some ((-3), m6)
  else
    asr (vq g1 30) <|
    lt1 (sI m6 17 0 (Int32.toNatClampNeg g1) g2) fun m10 =>
    some (1, m10)
def f_X12_leads_b23 (fl : Nat) (g1 : Int32) (g2 : Int32) (M0 : Mem) : Option (Int32 × Mem) :=
  if g2 < 0 then
    f_X12_leads_b39 fl g1 g2 M0
  else
    bn2 (f_X12_areBeside fl g1 g2 M0) fun v12 m11 =>
    if v12 = 0 then
      some ((-2), m11)
    else
      f_X12_leads_b39 fl g1 g2 m11
def f_X12_leads (fl : Nat) (a1 : Int32) (a2 : Int32) (M0 : Mem) : Option (Int32 × Mem) :=
  bn2 (f_X12_isBay fl a1 M0) fun v2 m1 =>
  if v2 = 0 then
    some ((-1), m1)
  else
    if a2 = (-1) then
      f_X12_leads_b23 fl a1 a2 m1
    else
      bn2 (f_X12_isBay fl a2 m1) fun v15 m14 =>
      if v15 = 0 then
        some ((-1), m14)
      else
        f_X12_leads_b23 fl a1 a2 m14
def f_X12_flow_l2_b (rk : Int32 → Mem → Option (Mem)) (fl : Nat) (g1 : Int32) (u2 : Int32) (M0 : Mem) : Option (Mem) :=
  if 30 ≤ u2 then
    some M0
  else
    asr (vq u2 30) <|
    lt1 (sI M0 29 0 (Int32.toNatClampNeg u2) 0) fun m3 =>
    asr (vq u2 30) <|
    lt1 (sI m3 30 0 (Int32.toNatClampNeg u2) 0) fun m5 =>
    asr (vq u2 30) <|
    lt1 (sI m5 31 0 (Int32.toNatClampNeg u2) 0) fun m7 =>
    lt1 (u2 + 1) fun (x8 : Int32) =>
    rk x8 m7
def f_X12_flow_l2 (fl : Nat) (g1 : Int32) : Nat → Int32 → Mem → Option (Mem)
  | 0 => fun _ _ => none
  | n + 1 => fun u2 M0 => f_X12_flow_l2_b (f_X12_flow_l2 fl g1 n) fl g1 u2 M0
def f_X12_flow_l44_b (rk : Int32 → Mem → Option (Mem)) (fl : Nat) (g1 : Int32) (g2 : Int32) (u3 : Int32) (M0 : Mem) : Option (Mem) :=
  if 30 ≤ u3 then
    some M0
  else
    asr (vq u3 30) <|
    bn1 (
      if (gI M0 15 0 (Int32.toNatClampNeg u3)) ≤ 0 then
        some M0
      else
        asr (vq u3 30) <|
        asr (vq g2 24) <|
        asr (vq u3 30) <|
        asr (vq u3 30) <|
        asr (vq u3 30) <|
        lt1 (sI M0 29 0 (Int32.toNatClampNeg u3) ((gI M0 29 0 (Int32.toNatClampNeg u3)) + ((((gI M0 28 0 (Int32.toNatClampNeg g2)) * (gI M0 15 0 (Int32.toNatClampNeg u3))) / 8) + (gI M0 30 0 (Int32.toNatClampNeg u3))))) fun m25 =>
        some m25
    ) fun m15 =>
    asr (vq u3 30) <|
    lt1 (sI m15 30 0 (Int32.toNatClampNeg u3) 0) fun m17 =>
    lt1 (u3 + 1) fun (x18 : Int32) =>
    rk x18 m17
def f_X12_flow_l44 (fl : Nat) (g1 : Int32) (g2 : Int32) : Nat → Int32 → Mem → Option (Mem)
  | 0 => fun _ _ => none
  | n + 1 => fun u3 M0 => f_X12_flow_l44_b (f_X12_flow_l44 fl g1 g2 n) fl g1 g2 u3 M0
def f_X12_flow_l106_b (rk : Int32 → Mem → Option (Mem)) (fl : Nat) (g1 : Int32) (g2 : Int32) (u3 : Int32) (M0 : Mem) : Option (Mem) :=
  if 30 ≤ u3 then
    some M0
  else
    asr (vq u3 30) <|
    if (gI M0 15 0 (Int32.toNatClampNeg u3)) = 0 then
      lt1 (u3 + 1) fun (x31 : Int32) =>
      rk x31 M0
    else
      bn2 (f_X12_has fl u3 4 M0) fun v33 m32 =>
      if v33 = 0 then
        lt1 (u3 + 1) fun (x54 : Int32) =>
        rk x54 m32
      else
        asr (vq ((5 * u3) + 3) 150) <|
        asr (vq (gI m32 14 0 (Int32.toNatClampNeg ((5 * u3) + 3))) 60) <|
        lt1 (gI m32 8 0 (Int32.toNatClampNeg (gI m32 14 0 (Int32.toNatClampNeg ((5 * u3) + 3))))) fun (x37 : Int32) =>
        asr (vq u3 30) <|
        bn2 (
          if (gI m32 29 0 (Int32.toNatClampNeg u3)) ≤ x37 then
            asr (vq u3 30) <|
            some ((gI m32 29 0 (Int32.toNatClampNeg u3)), m32)
          else
            some (x37, m32)
        ) fun (q39 : Int32) m40 =>
        asr (vq u3 30) <|
        asr (vq u3 30) <|
        lt1 (sI m40 29 0 (Int32.toNatClampNeg u3) ((gI m40 29 0 (Int32.toNatClampNeg u3)) - q39)) fun m43 =>
        asr (vq u3 30) <|
        if (gI m43 17 0 (Int32.toNatClampNeg u3)) < 0 then
          lt1 (u3 + 1) fun (x46 : Int32) =>
          rk x46 m43
        else
          asr (vq u3 30) <|
          asr (vq (gI m43 17 0 (Int32.toNatClampNeg u3)) 30) <|
          asr (vq (gI m43 17 0 (Int32.toNatClampNeg u3)) 30) <|
          lt1 (sI m43 30 0 (Int32.toNatClampNeg (gI m43 17 0 (Int32.toNatClampNeg u3))) ((gI m43 30 0 (Int32.toNatClampNeg (gI m43 17 0 (Int32.toNatClampNeg u3)))) + q39)) fun m50 =>
          lt1 (u3 + 1) fun (x51 : Int32) =>
          rk x51 m50
def f_X12_flow_l106 (fl : Nat) (g1 : Int32) (g2 : Int32) : Nat → Int32 → Mem → Option (Mem)
  | 0 => fun _ _ => none
  | n + 1 => fun u3 M0 => f_X12_flow_l106_b (f_X12_flow_l106 fl g1 g2 n) fl g1 g2 u3 M0
def f_X12_flow_l218_b (rk : Int32 → Mem → Option (Mem)) (fl : Nat) (g1 : Int32) (g2 : Int32) (u3 : Int32) (M0 : Mem) : Option (Mem) :=
  if 30 ≤ u3 then
    some M0
  else
    asr (vq u3 30) <|
    asr (vq u3 30) <|
    if (gI M0 29 0 (Int32.toNatClampNeg u3)) ≤ 50 then
      asr (vq u3 30) <|
      lt1 (sI M0 31 0 (Int32.toNatClampNeg u3) ((gI M0 31 0 (Int32.toNatClampNeg u3)) + 0)) fun m62 =>
      lt1 (u3 + 1) fun (x63 : Int32) =>
      rk x63 m62
    else
      asr (vq u3 30) <|
      asr (vq u3 30) <|
      lt1 (sI M0 31 0 (Int32.toNatClampNeg u3) ((gI M0 31 0 (Int32.toNatClampNeg u3)) + ((gI M0 29 0 (Int32.toNatClampNeg u3)) - 50))) fun m66 =>
      lt1 (u3 + 1) fun (x67 : Int32) =>
      rk x67 m66
def f_X12_flow_l218 (fl : Nat) (g1 : Int32) (g2 : Int32) : Nat → Int32 → Mem → Option (Mem)
  | 0 => fun _ _ => none
  | n + 1 => fun u3 M0 => f_X12_flow_l218_b (f_X12_flow_l218 fl g1 g2 n) fl g1 g2 u3 M0
def f_X12_flow_l37_b (rk : Int32 → Mem → Option (Mem)) (fl : Nat) (g1 : Int32) (u2 : Int32) (M0 : Mem) : Option (Mem) :=
  if g1 < u2 then
    some M0
  else
    bn1 (f_X12_flow_l44 fl g1 u2 fl 0 M0) fun m27 =>
    bn1 (f_X12_flow_l106 fl g1 u2 fl 0 m27) fun m56 =>
    bn1 (f_X12_flow_l218 fl g1 u2 fl 0 m56) fun m69 =>
    lt1 (u2 + 1) fun (x70 : Int32) =>
    rk x70 m69
def f_X12_flow_l37 (fl : Nat) (g1 : Int32) : Nat → Int32 → Mem → Option (Mem)
  | 0 => fun _ _ => none
  | n + 1 => fun u2 M0 => f_X12_flow_l37_b (f_X12_flow_l37 fl g1 n) fl g1 u2 M0
def f_X12_flow (fl : Nat) (a1 : Int32) (M0 : Mem) : Option (Mem) :=
  bn1 (f_X12_flow_l2 fl a1 fl 0 M0) fun m10 =>
  bn1 (f_X12_flow_l37 fl a1 fl 0 m10) fun m72 =>
  some m72
def f_X12_stands (fl : Nat) (a1 : Int32) (a2 : Int32) (M0 : Mem) : Option (Int32 × Mem) :=
  bn2 (f_X12_isBay fl a1 M0) fun v2 m1 =>
  if v2 = 0 then
    some ((-1), m1)
  else
    bn2 (f_X12_in fl a2 0 23 m1) fun v5 m4 =>
    if v5 = 0 then
      some ((-1), m4)
    else
      bn1 (f_X12_flow fl a2 m4) fun m7 =>
      asr (vq a1 30) <|
      some ((gI m7 29 0 (Int32.toNatClampNeg a1)), m7)
def f_X12_leaks_l26_b (rk : Int32 → Int32 → Mem → Option (Int32 × Mem)) (fl : Nat) (g1 : Int32) (u2 : Int32) (u3 : Int32) (M0 : Mem) : Option (Int32 × Mem) :=
  if 30 ≤ u3 then
    some (u2, M0)
  else
    if g1 = (-1) then
      asr (vq u3 30) <|
      lt1 (u2 + (gI M0 31 0 (Int32.toNatClampNeg u3))) fun (x6 : Int32) =>
      lt1 (u3 + 1) fun (x7 : Int32) =>
      rk x6 x7 M0
    else
      if g1 = u3 then
        asr (vq u3 30) <|
        lt1 (u2 + (gI M0 31 0 (Int32.toNatClampNeg u3))) fun (x12 : Int32) =>
        lt1 (u3 + 1) fun (x13 : Int32) =>
        rk x12 x13 M0
      else
        lt1 (u2 + 0) fun (x9 : Int32) =>
        lt1 (u3 + 1) fun (x10 : Int32) =>
        rk x9 x10 M0
def f_X12_leaks_l26 (fl : Nat) (g1 : Int32) : Nat → Int32 → Int32 → Mem → Option (Int32 × Mem)
  | 0 => fun _ _ _ => none
  | n + 1 => fun u2 u3 M0 => f_X12_leaks_l26_b (f_X12_leaks_l26 fl g1 n) fl g1 u2 u3 M0
def f_X12_leaks_b16 (fl : Nat) (g1 : Int32) (M0 : Mem) : Option (Int32 × Mem) :=
  bn1 (f_X12_flow fl 23 M0) fun m2 =>
  bn2 (f_X12_leaks_l26 fl g1 fl 0 0 m2) fun (q14 : Int32) m15 =>
  some (q14, m15)
def f_X12_leaks (fl : Nat) (a1 : Int32) (M0 : Mem) : Option (Int32 × Mem) :=
  if a1 = (-1) then
    f_X12_leaks_b16 fl a1 M0
  else
    bn2 (f_X12_isBay fl a1 M0) fun v17 m16 =>
    if v17 = 0 then
      some ((-5), m16)
    else
      f_X12_leaks_b16 fl a1 m16
def f_X12_gang (fl : Nat) (a1 : Int32) (a2 : Int32) (M0 : Mem) : Option (Int32 × Mem) :=
  bn2 (f_X12_in fl a1 1 4 M0) fun v2 m1 =>
  if v2 = 0 then
    some ((-1), m1)
  else
    bn2 (f_X12_in fl a2 1 20 m1) fun v5 m4 =>
    if v5 = 0 then
      some ((-2), m4)
    else
      if (gI m4 0 0 44) = 10 then
        some ((-4), m4)
      else
        asr (vq (gI m4 0 0 44) 10) <|
        lt1 (sI m4 32 0 (Int32.toNatClampNeg (gI m4 0 0 44)) a1) fun m9 =>
        asr (vq (gI m9 0 0 44) 10) <|
        lt1 (sI m9 33 0 (Int32.toNatClampNeg (gI m9 0 0 44)) a2) fun m11 =>
        lt1 (sI m11 0 0 44 ((gI m11 0 0 44) + 1)) fun m12 =>
        some (((gI m12 0 0 44) - 1), m12)
def f_X12_isGang (fl : Nat) (a1 : Int32) (M0 : Mem) : Option (Int32 × Mem) :=
  bn2 (f_X12_in fl a1 0 ((gI M0 0 0 44) - 1) M0) fun v2 m1 =>
  asr (v2 = 0 ∨ v2 = 1) <|
  some (v2, m1)
def f_X12_paceOf (fl : Nat) (a1 : Int32) (M0 : Mem) : Option (Int32 × Mem) :=
  asr (vq a1 10) <|
  asr (vq a1 10) <|
  lt1 ((gI M0 33 0 (Int32.toNatClampNeg a1)) + ((gI M0 34 0 (Int32.toNatClampNeg a1)) / 10)) fun (x3 : Int32) =>
  if x3 ≤ 20 then
    some (x3, M0)
  else
    some (20, M0)
def f_X12_pace (fl : Nat) (a1 : Int32) (M0 : Mem) : Option (Int32 × Mem) :=
  bn2 (f_X12_isGang fl a1 M0) fun v2 m1 =>
  if v2 = 0 then
    some ((-1), m1)
  else
    bn2 (f_X12_paceOf fl a1 m1) fun v5 m4 =>
    some (v5, m4)
def f_X12_work_l85_b (rk : Int32 → Int32 → Mem → Option (Int32 × Mem)) (fl : Nat) (g1 : Int32) (g2 : Int32) (g3 : Int32) (u4 : Int32) (u5 : Int32) (M0 : Mem) : Option (Int32 × Mem) :=
  if 30 ≤ u5 then
    some (u4, M0)
  else
    if u4 = 0 then
      bn2 (f_X12_areBeside fl g2 u5 M0) fun v24 m23 =>
      if v24 = 0 then
        lt1 (u5 + 1) fun (x26 : Int32) =>
        rk 0 x26 m23
      else
        asr (vq u5 30) <|
        if (gI m23 37 0 (Int32.toNatClampNeg u5)) = 0 then
          asr (vq g1 10) <|
          if (gI m23 32 0 (Int32.toNatClampNeg g1)) = 2 then
            asr (vq u5 30) <|
            if (gI m23 36 0 (Int32.toNatClampNeg u5)) = 0 then
              lt1 (u5 + 1) fun (x35 : Int32) =>
              rk 0 x35 m23
            else
              lt1 (u5 + 1) fun (x36 : Int32) =>
              rk 1 x36 m23
          else
            lt1 (u5 + 1) fun (x32 : Int32) =>
            rk 0 x32 m23
        else
          lt1 (u5 + 1) fun (x29 : Int32) =>
          rk 1 x29 m23
    else
      lt1 (u5 + 1) fun (x22 : Int32) =>
      rk 1 x22 M0
def f_X12_work_l85 (fl : Nat) (g1 : Int32) (g2 : Int32) (g3 : Int32) : Nat → Int32 → Int32 → Mem → Option (Int32 × Mem)
  | 0 => fun _ _ _ => none
  | n + 1 => fun u4 u5 M0 => f_X12_work_l85_b (f_X12_work_l85 fl g1 g2 g3 n) fl g1 g2 g3 u4 u5 M0
def f_X12_work_l185_b (rk : Int32 → Mem → Option (Int32 × Mem)) (fl : Nat) (g1 : Int32) (g2 : Int32) (g3 : Int32) (g5 : Int32) (u6 : Int32) (M0 : Mem) : Option (Int32 × Mem) :=
  if g5 ≤ u6 then
    some (u6, M0)
  else
    bn2 (f_X12_fits fl g3 g2 M0) fun v47 m46 =>
    if v47 = 1 then
      bn1 (f_X12_put fl g3 g2 m46) fun m49 =>
      lt1 (u6 + 1) fun (x50 : Int32) =>
      rk x50 m49
    else
      some (u6, m46)
def f_X12_work_l185 (fl : Nat) (g1 : Int32) (g2 : Int32) (g3 : Int32) (g5 : Int32) : Nat → Int32 → Mem → Option (Int32 × Mem)
  | 0 => fun _ _ => none
  | n + 1 => fun u6 M0 => f_X12_work_l185_b (f_X12_work_l185 fl g1 g2 g3 g5 n) fl g1 g2 g3 g5 u6 M0
def f_X12_work_b248 (fl : Nat) (g1 : Int32) (g6 : Int32) (z1 : Int32) (z2 : Int32) (M0 : Mem) : Option (Int32 × Mem) :=
  asr (vq z1 30) <|
  lt1 (sI M0 37 0 (Int32.toNatClampNeg z1) (vp_nar .boolean z2)) fun m61 =>
  asr (vq g1 10) <|
  asr (vq g1 10) <|
  lt1 (sI m61 34 0 (Int32.toNatClampNeg g1) ((gI m61 34 0 (Int32.toNatClampNeg g1)) + g6)) fun m64 =>
  some (g6, m64)
def f_X12_work_b214 (fl : Nat) (g1 : Int32) (g2 : Int32) (g6 : Int32) (M0 : Mem) : Option (Int32 × Mem) :=
  asr (vq g1 10) <|
  lt1 (sI M0 35 0 (Int32.toNatClampNeg g1) g2) fun m54 =>
  asr (vq g2 30) <|
  lt1 (sI m54 36 0 (Int32.toNatClampNeg g2) (vp_nar .boolean 1)) fun m56 =>
  asr (vq g1 10) <|
  bn2 (
    if (gI m56 32 0 (Int32.toNatClampNeg g1)) = 2 then
      some (1, m56)
    else
      some (0, m56)
  ) fun (q58 : Int32) m59 =>
  f_X12_work_b248 fl g1 g6 g2 q58 m59
def f_X12_work_b80 (fl : Nat) (g1 : Int32) (g2 : Int32) (g3 : Int32) (z0 : Int32) (M0 : Mem) : Option (Int32 × Mem) :=
  bn2 (f_X12_work_l85 fl g1 g2 g3 fl z0 0 M0) fun (q37 : Int32) m38 =>
  if q37 = 0 then
    bn2 (f_X12_fits fl g3 g2 m38) fun v41 m40 =>
    if v41 = 1 then
      bn2 (f_X12_paceOf fl g1 m40) fun v44 m43 =>
      bn2 (f_X12_work_l185 fl g1 g2 g3 v44 fl 0 m43) fun (q51 : Int32) m52 =>
      f_X12_work_b214 fl g1 g2 q51 m52
    else
      bn2 (f_X12_fits fl g3 g2 m40) fun v67 m66 =>
      some (v67, m66)
  else
    some ((-3), m38)
def f_X12_work (fl : Nat) (a1 : Int32) (a2 : Int32) (a3 : Int32) (M0 : Mem) : Option (Int32 × Mem) :=
  bn2 (f_X12_isGang fl a1 M0) fun v2 m1 =>
  if v2 = 0 then
    some ((-1), m1)
  else
    bn2 (f_X12_isBay fl a2 m1) fun v5 m4 =>
    if v5 = 0 then
      some ((-1), m4)
    else
      bn2 (f_X12_isLot fl a3 m4) fun v8 m7 =>
      if v8 = 0 then
        some ((-1), m7)
      else
        asr (vq a3 60) <|
        if (gI m7 5 0 (Int32.toNatClampNeg a3)) = 0 then
          some ((-12), m7)
        else
          asr (vq a3 60) <|
          bn2 (f_X12_placeOf fl (gI m7 5 0 (Int32.toNatClampNeg a3)) m7) fun v14 m13 =>
          asr (vq a1 10) <|
          if v14 = (gI m13 32 0 (Int32.toNatClampNeg a1)) then
            asr (vq a1 10) <|
            bn2 (
              if 0 ≤ (gI m13 35 0 (Int32.toNatClampNeg a1)) then
                some (1, m13)
              else
                asr (vq a2 30) <|
                if (gI m13 36 0 (Int32.toNatClampNeg a2)) = 0 then
                  some (0, m13)
                else
                  some (1, m13)
            ) fun (q18 : Int32) m19 =>
            f_X12_work_b80 fl a1 a2 a3 q18 m19
          else
            some ((-12), m13)
def f_X12_isKind (fl : Nat) (a1 : Int32) (M0 : Mem) : Option (Int32 × Mem) :=
  bn2 (f_X12_in fl a1 1 5 M0) fun v2 m1 =>
  asr (v2 = 0 ∨ v2 = 1) <|
  some (v2, m1)
def f_X12_want (fl : Nat) (a1 : Int32) (a2 : Int32) (a3 : Int32) (M0 : Mem) : Option (Int32 × Mem) :=
  bn2 (f_X12_isKind fl a1 M0) fun v2 m1 =>
  if v2 = 0 then
    some ((-1), m1)
  else
    bn2 (f_X12_in fl a2 1 999 m1) fun v5 m4 =>
    if v5 = 0 then
      some ((-2), m4)
    else
      bn2 (f_X12_isDay fl a3 m4) fun v8 m7 =>
      if v8 = 0 then
        some ((-2), m7)
      else
        if (gI m7 0 0 51) = 20 then
          some ((-4), m7)
        else
          asr (vq (gI m7 0 0 51) 20) <|
          lt1 (sI m7 38 0 (Int32.toNatClampNeg (gI m7 0 0 51)) a1) fun m12 =>
          asr (vq (gI m12 0 0 51) 20) <|
          lt1 (sI m12 39 0 (Int32.toNatClampNeg (gI m12 0 0 51)) a2) fun m14 =>
          asr (vq (gI m14 0 0 51) 20) <|
          lt1 (sI m14 40 0 (Int32.toNatClampNeg (gI m14 0 0 51)) a3) fun m16 =>
          lt1 (sI m16 0 0 51 ((gI m16 0 0 51) + 1)) fun m17 =>
          some ((gI m17 0 0 51), m17)
def f_X12_comes_l6_b (rk : Int32 → Int32 → Mem → Option (Int32 × Mem)) (fl : Nat) (g1 : Int32) (g2 : Int32) (g3 : Int32) (u4 : Int32) (u5 : Int32) (M0 : Mem) : Option (Int32 × Mem) :=
  if (gI M0 0 0 1) ≤ u5 then
    some (u4, M0)
  else
    asr (vq u5 60) <|
    if (gI M0 5 0 (Int32.toNatClampNeg u5)) = g1 then
      asr (vq u5 60) <|
      bn2 (
        if (gI M0 10 0 (Int32.toNatClampNeg u5)) < 0 then
          asr (vq u5 60) <|
          if g3 = 0 then
            asr (vq u5 60) <|
            asr (vq (gI M0 6 0 (Int32.toNatClampNeg u5)) 8) <|
            some (((gI M0 9 0 (Int32.toNatClampNeg u5)) + (gI M0 3 0 (Int32.toNatClampNeg (gI M0 6 0 (Int32.toNatClampNeg u5))))), M0)
          else
            asr (vq u5 60) <|
            asr (vq (gI M0 6 0 (Int32.toNatClampNeg u5)) 8) <|
            some (((gI M0 9 0 (Int32.toNatClampNeg u5)) + (gI M0 4 0 (Int32.toNatClampNeg (gI M0 6 0 (Int32.toNatClampNeg u5))))), M0)
        else
          asr (vq u5 60) <|
          some ((gI M0 10 0 (Int32.toNatClampNeg u5)), M0)
      ) fun (q5 : Int32) m6 =>
      if g2 < q5 then
        lt1 (u4 + 0) fun (x8 : Int32) =>
        lt1 (u5 + 1) fun (x9 : Int32) =>
        rk x8 x9 m6
      else
        asr (vq u5 60) <|
        lt1 (u4 + (gI m6 7 0 (Int32.toNatClampNeg u5))) fun (x11 : Int32) =>
        lt1 (u5 + 1) fun (x12 : Int32) =>
        rk x11 x12 m6
    else
      lt1 (u5 + 1) fun (x21 : Int32) =>
      rk u4 x21 M0
def f_X12_comes_l6 (fl : Nat) (g1 : Int32) (g2 : Int32) (g3 : Int32) : Nat → Int32 → Int32 → Mem → Option (Int32 × Mem)
  | 0 => fun _ _ _ => none
  | n + 1 => fun u4 u5 M0 => f_X12_comes_l6_b (f_X12_comes_l6 fl g1 g2 g3 n) fl g1 g2 g3 u4 u5 M0
def f_X12_comes (fl : Nat) (a1 : Int32) (a2 : Int32) (a3 : Int32) (M0 : Mem) : Option (Int32 × Mem) :=
  bn2 (f_X12_comes_l6 fl a1 a2 a3 fl 0 0 M0) fun (q22 : Int32) m23 =>
  some (q22, m23)
def f_X12_ahead (fl : Nat) (a1 : Int32) (a2 : Int32) (a3 : Int32) (M0 : Mem) : Option (Int32 × Mem) :=
  bn2 (f_X12_isKind fl a1 M0) fun v2 m1 =>
  if v2 = 0 then
    some ((-1), m1)
  else
    bn2 (f_X12_isDay fl a2 m1) fun v5 m4 =>
    if v5 = 0 then
      some ((-2), m4)
    else
      bn2 (f_X12_comes fl a1 a2 a3 m4) fun v8 m7 =>
      some (v8, m7)
def f_X12_findNeeds_l19_b (rk : Int32 → Mem → Option (Mem)) (fl : Nat) (g1 : Int32) (g2 : Int32) (u3 : Int32) (M0 : Mem) : Option (Mem) :=
  if (gI M0 0 0 51) ≤ u3 then
    some M0
  else
    asr (vq g2 20) <|
    asr (vq u3 20) <|
    asr (vq g2 20) <|
    if (gI M0 38 0 (Int32.toNatClampNeg u3)) = (gI M0 38 0 (Int32.toNatClampNeg g2)) then
      asr (vq u3 20) <|
      asr (vq g2 20) <|
      if (gI M0 40 0 (Int32.toNatClampNeg g2)) < (gI M0 40 0 (Int32.toNatClampNeg u3)) then
        asr (vq g2 20) <|
        lt1 (sI M0 45 0 (Int32.toNatClampNeg g2) ((gI M0 45 0 (Int32.toNatClampNeg g2)) + 0)) fun m16 =>
        lt1 (u3 + 1) fun (x17 : Int32) =>
        rk x17 m16
      else
        asr (vq u3 20) <|
        asr (vq g2 20) <|
        lt1 (sI M0 45 0 (Int32.toNatClampNeg g2) ((gI M0 45 0 (Int32.toNatClampNeg g2)) + (gI M0 39 0 (Int32.toNatClampNeg u3)))) fun m20 =>
        lt1 (u3 + 1) fun (x21 : Int32) =>
        rk x21 m20
    else
      asr (vq g2 20) <|
      lt1 (sI M0 45 0 (Int32.toNatClampNeg g2) ((gI M0 45 0 (Int32.toNatClampNeg g2)) + 0)) fun m10 =>
      lt1 (u3 + 1) fun (x11 : Int32) =>
      rk x11 m10
def f_X12_findNeeds_l19 (fl : Nat) (g1 : Int32) (g2 : Int32) : Nat → Int32 → Mem → Option (Mem)
  | 0 => fun _ _ => none
  | n + 1 => fun u3 M0 => f_X12_findNeeds_l19_b (f_X12_findNeeds_l19 fl g1 g2 n) fl g1 g2 u3 M0
def f_X12_findNeeds_l2_b (rk : Int32 → Mem → Option (Mem)) (fl : Nat) (g1 : Int32) (u2 : Int32) (M0 : Mem) : Option (Mem) :=
  if (gI M0 0 0 51) ≤ u2 then
    some M0
  else
    asr (vq u2 20) <|
    lt1 (sI M0 45 0 (Int32.toNatClampNeg u2) 0) fun m3 =>
    bn1 (f_X12_findNeeds_l19 fl g1 u2 fl 0 m3) fun m23 =>
    asr (vq u2 20) <|
    asr (vq u2 20) <|
    bn2 (f_X12_comes fl (gI m23 38 0 (Int32.toNatClampNeg u2)) (gI m23 40 0 (Int32.toNatClampNeg u2)) g1 m23) fun v27 m26 =>
    asr (vq u2 20) <|
    lt1 (sI m26 46 0 (Int32.toNatClampNeg u2) v27) fun m29 =>
    lt1 (u2 + 1) fun (x30 : Int32) =>
    rk x30 m29
def f_X12_findNeeds_l2 (fl : Nat) (g1 : Int32) : Nat → Int32 → Mem → Option (Mem)
  | 0 => fun _ _ => none
  | n + 1 => fun u2 M0 => f_X12_findNeeds_l2_b (f_X12_findNeeds_l2 fl g1 n) fl g1 u2 M0
def f_X12_findNeeds (fl : Nat) (a1 : Int32) (M0 : Mem) : Option (Mem) :=
  bn1 (f_X12_findNeeds_l2 fl a1 fl 0 M0) fun m32 =>
  some m32
def f_X12_lacking_l23_b (rk : Int32 → Int32 → Mem → Option (Int32 × Mem)) (fl : Nat) (g1 : Int32) (g2 : Int32) (g3 : Int32) (u4 : Int32) (u5 : Int32) (M0 : Mem) : Option (Int32 × Mem) :=
  if (gI M0 0 0 52) ≤ u5 then
    some (u4, M0)
  else
    if ((jshr g1 u5) &&& 1) = 1 then
      asr (vq u5 8) <|
      asr (vq g3 20) <|
      if (gI M0 41 0 (Int32.toNatClampNeg u5)) = (gI M0 38 0 (Int32.toNatClampNeg g3)) then
        asr (vq u5 8) <|
        asr (vq g3 20) <|
        if (gI M0 40 0 (Int32.toNatClampNeg g3)) < (gI M0 43 0 (Int32.toNatClampNeg u5)) then
          lt1 (u4 + 0) fun (x16 : Int32) =>
          lt1 (u5 + 1) fun (x17 : Int32) =>
          rk x16 x17 M0
        else
          asr (vq u5 8) <|
          lt1 (u4 + (gI M0 42 0 (Int32.toNatClampNeg u5))) fun (x19 : Int32) =>
          lt1 (u5 + 1) fun (x20 : Int32) =>
          rk x19 x20 M0
      else
        lt1 (u4 + 0) fun (x11 : Int32) =>
        lt1 (u5 + 1) fun (x12 : Int32) =>
        rk x11 x12 M0
    else
      lt1 (u4 + 0) fun (x6 : Int32) =>
      lt1 (u5 + 1) fun (x7 : Int32) =>
      rk x6 x7 M0
def f_X12_lacking_l23 (fl : Nat) (g1 : Int32) (g2 : Int32) (g3 : Int32) : Nat → Int32 → Int32 → Mem → Option (Int32 × Mem)
  | 0 => fun _ _ _ => none
  | n + 1 => fun u4 u5 M0 => f_X12_lacking_l23_b (f_X12_lacking_l23 fl g1 g2 g3 n) fl g1 g2 g3 u4 u5 M0
def f_X12_lacking_l4_b (rk : Int32 → Int32 → Mem → Option (Int32 × Mem)) (fl : Nat) (g1 : Int32) (u2 : Int32) (u3 : Int32) (M0 : Mem) : Option (Int32 × Mem) :=
  if (gI M0 0 0 51) ≤ u3 then
    some (u2, M0)
  else
    asr (vq u3 20) <|
    lt1 (gI M0 46 0 (Int32.toNatClampNeg u3)) fun (x3 : Int32) =>
    bn2 (f_X12_lacking_l23 fl g1 u2 u3 fl x3 0 M0) fun (q21 : Int32) m22 =>
    asr (vq u3 20) <|
    if q21 < (gI m22 45 0 (Int32.toNatClampNeg u3)) then
      if u2 < 0 then
        lt1 (u3 + 1) fun (x26 : Int32) =>
        rk u3 x26 m22
      else
        asr (vq u3 20) <|
        asr (vq u2 20) <|
        if (gI m22 40 0 (Int32.toNatClampNeg u3)) < (gI m22 40 0 (Int32.toNatClampNeg u2)) then
          lt1 (u3 + 1) fun (x30 : Int32) =>
          rk u3 x30 m22
        else
          asr (vq u3 20) <|
          asr (vq u2 20) <|
          if (gI m22 40 0 (Int32.toNatClampNeg u3)) = (gI m22 40 0 (Int32.toNatClampNeg u2)) then
            asr (vq u3 20) <|
            asr (vq u2 20) <|
            if (gI m22 38 0 (Int32.toNatClampNeg u2)) ≤ (gI m22 38 0 (Int32.toNatClampNeg u3)) then
              lt1 (u3 + 1) fun (x38 : Int32) =>
              rk u2 x38 m22
            else
              lt1 (u3 + 1) fun (x39 : Int32) =>
              rk u3 x39 m22
          else
            lt1 (u3 + 1) fun (x34 : Int32) =>
            rk u2 x34 m22
    else
      lt1 (u3 + 1) fun (x40 : Int32) =>
      rk u2 x40 m22
def f_X12_lacking_l4 (fl : Nat) (g1 : Int32) : Nat → Int32 → Int32 → Mem → Option (Int32 × Mem)
  | 0 => fun _ _ _ => none
  | n + 1 => fun u2 u3 M0 => f_X12_lacking_l4_b (f_X12_lacking_l4 fl g1 n) fl g1 u2 u3 M0
def f_X12_lacking (fl : Nat) (a1 : Int32) (M0 : Mem) : Option (Int32 × Mem) :=
  bn2 (f_X12_lacking_l4 fl a1 fl (-1) 0 M0) fun (q41 : Int32) m42 =>
  some (q41, m42)
def f_X12_lack (fl : Nat) (a1 : Int32) (a2 : Int32) (a3 : Int32) (M0 : Mem) : Option (Int32 × Mem) :=
  bn2 (f_X12_in fl a2 0 1 M0) fun v2 m1 =>
  if v2 = 0 then
    some ((-1), m1)
  else
    bn2 (f_X12_in fl a1 0 ((jshl 1 (gI m1 0 0 52)) - 1) m1) fun v5 m4 =>
    if v5 = 0 then
      some ((-2), m4)
    else
      bn1 (f_X12_findNeeds fl a3 m4) fun m7 =>
      bn2 (f_X12_lacking fl a1 m7) fun v9 m8 =>
      if 0 ≤ v9 then
        if a2 = 0 then
          asr (vq v9 20) <|
          some ((gI m8 40 0 (Int32.toNatClampNeg v9)), m8)
        else
          asr (vq v9 20) <|
          some ((gI m8 38 0 (Int32.toNatClampNeg v9)), m8)
      else
        some ((-5), m8)
def f_X12_more (fl : Nat) (a1 : Int32) (a2 : Int32) (a3 : Int32) (a4 : Int32) (M0 : Mem) : Option (Int32 × Mem) :=
  bn2 (f_X12_isKind fl a1 M0) fun v2 m1 =>
  if v2 = 0 then
    some ((-1), m1)
  else
    bn2 (f_X12_in fl a2 1 999 m1) fun v5 m4 =>
    if v5 = 0 then
      some ((-2), m4)
    else
      bn2 (f_X12_isDay fl a3 m4) fun v8 m7 =>
      if v8 = 0 then
        some ((-2), m7)
      else
        bn2 (f_X12_in fl a4 0 999 m7) fun v11 m10 =>
        if v11 = 0 then
          some ((-2), m10)
        else
          if (gI m10 0 0 52) = 8 then
            some ((-4), m10)
          else
            asr (vq (gI m10 0 0 52) 8) <|
            lt1 (sI m10 41 0 (Int32.toNatClampNeg (gI m10 0 0 52)) a1) fun m15 =>
            asr (vq (gI m15 0 0 52) 8) <|
            lt1 (sI m15 42 0 (Int32.toNatClampNeg (gI m15 0 0 52)) a2) fun m17 =>
            asr (vq (gI m17 0 0 52) 8) <|
            lt1 (sI m17 43 0 (Int32.toNatClampNeg (gI m17 0 0 52)) a3) fun m19 =>
            asr (vq (gI m19 0 0 52) 8) <|
            lt1 (sI m19 44 0 (Int32.toNatClampNeg (gI m19 0 0 52)) a4) fun m21 =>
            lt1 (sI m21 0 0 52 ((gI m21 0 0 52) + 1)) fun m22 =>
            some (((gI m22 0 0 52) - 1), m22)
def f_X12_best_l35_b (rk : Int32 → Int32 → Int32 → Mem → Option ((Int32 × Int32) × Mem)) (fl : Nat) (g1 : Int32) (g2 : Int32) (g3 : Int32) (g4 : Int32) (u5 : Int32) (u6 : Int32) (u7 : Int32) (M0 : Mem) : Option ((Int32 × Int32) × Mem) :=
  if (gI M0 0 0 52) ≤ u7 then
    some ((u5, u6), M0)
  else
    bn2 (
      if ((jshr g4 u7) &&& 1) = 1 then
        asr (vq u7 8) <|
        some ((gI M0 44 0 (Int32.toNatClampNeg u7)), M0)
      else
        some (0, M0)
    ) fun (q4 : Int32) m5 =>
    lt1 (u5 + q4) fun (x6 : Int32) =>
    lt1 (u6 + ((jshr g4 u7) &&& 1)) fun (x7 : Int32) =>
    lt1 (u7 + 1) fun (x8 : Int32) =>
    rk x6 x7 x8 m5
def f_X12_best_l35 (fl : Nat) (g1 : Int32) (g2 : Int32) (g3 : Int32) (g4 : Int32) : Nat → Int32 → Int32 → Int32 → Mem → Option ((Int32 × Int32) × Mem)
  | 0 => fun _ _ _ _ => none
  | n + 1 => fun u5 u6 u7 M0 => f_X12_best_l35_b (f_X12_best_l35 fl g1 g2 g3 g4 n) fl g1 g2 g3 g4 u5 u6 u7 M0
def f_X12_best_l15_b (rk : Int32 → Int32 → Int32 → Int32 → Mem → Option (Int32 × Mem)) (fl : Nat) (u1 : Int32) (u2 : Int32) (u3 : Int32) (u4 : Int32) (M0 : Mem) : Option (Int32 × Mem) :=
  if (jshl 1 (gI M0 0 0 52)) ≤ u4 then
    some (u1, M0)
  else
    bn2 (f_X12_best_l35 fl u1 u2 u3 u4 fl 0 0 0 M0) fun (q11 : Int32 × Int32) m12 =>
    if u1 < 0 then
      bn2 (f_X12_lacking fl u4 m12) fun v15 m14 =>
      if v15 < 0 then
        lt1 (u4 + 1) fun (x17 : Int32) =>
        rk u4 q11.1 q11.2 x17 m14
      else
        lt1 (u4 + 1) fun (x18 : Int32) =>
        rk u1 u2 u3 x18 m14
    else
      if u2 < q11.1 then
        lt1 (u4 + 1) fun (x20 : Int32) =>
        rk u1 u2 u3 x20 m12
      else
        if q11.1 = u2 then
          if u3 ≤ q11.2 then
            lt1 (u4 + 1) fun (x28 : Int32) =>
            rk u1 u2 u3 x28 m12
          else
            bn2 (f_X12_lacking fl u4 m12) fun v30 m29 =>
            if v30 < 0 then
              lt1 (u4 + 1) fun (x32 : Int32) =>
              rk u4 q11.1 q11.2 x32 m29
            else
              lt1 (u4 + 1) fun (x33 : Int32) =>
              rk u1 u2 u3 x33 m29
        else
          bn2 (f_X12_lacking fl u4 m12) fun v23 m22 =>
          if v23 < 0 then
            lt1 (u4 + 1) fun (x25 : Int32) =>
            rk u4 q11.1 q11.2 x25 m22
          else
            lt1 (u4 + 1) fun (x26 : Int32) =>
            rk u1 u2 u3 x26 m22
def f_X12_best_l15 (fl : Nat) : Nat → Int32 → Int32 → Int32 → Int32 → Mem → Option (Int32 × Mem)
  | 0 => fun _ _ _ _ _ => none
  | n + 1 => fun u1 u2 u3 u4 M0 => f_X12_best_l15_b (f_X12_best_l15 fl  n) fl  u1 u2 u3 u4 M0
def f_X12_best (fl : Nat)  (M0 : Mem) : Option (Int32 × Mem) :=
  bn1 (f_X12_findNeeds fl 1 M0) fun m1 =>
  bn2 (f_X12_best_l15 fl  fl (-5) 0 0 0 m1) fun (q34 : Int32) m35 =>
  some (q34, m35)
def f_X12_meet (fl : Nat) (a1 : Int32) (a2 : Int32) (a3 : Int32) (M0 : Mem) : Option (Int32 × Mem) :=
  asr (vq a1 8) <|
  if (gI M0 47 0 (Int32.toNatClampNeg a1)) < 0 then
    some (0, M0)
  else
    asr (vq a1 8) <|
    if (a2 + a3) ≤ (gI M0 47 0 (Int32.toNatClampNeg a1)) then
      some (0, M0)
    else
      asr (vq a1 8) <|
      asr (vq a1 8) <|
      if ((gI M0 47 0 (Int32.toNatClampNeg a1)) + (gI M0 48 0 (Int32.toNatClampNeg a1))) ≤ a2 then
        some (0, M0)
      else
        some (1, M0)
def f_X12_let_l71_b (rk : Int32 → Int32 → Mem → Option (Int32 × Mem)) (fl : Nat) (g1 : Int32) (g2 : Int32) (g3 : Int32) (g4 : Int32) (g5 : Int32) (u6 : Int32) (u7 : Int32) (M0 : Mem) : Option (Int32 × Mem) :=
  if 8 ≤ u7 then
    some (u6, M0)
  else
    bn2 (f_X12_meet fl u7 g5 g2 M0) fun v13 m12 =>
    if v13 = 0 then
      lt1 (u6 + 0) fun (x15 : Int32) =>
      lt1 (u7 + 1) fun (x16 : Int32) =>
      rk x15 x16 m12
    else
      lt1 (u6 + 1) fun (x17 : Int32) =>
      lt1 (u7 + 1) fun (x18 : Int32) =>
      rk x17 x18 m12
def f_X12_let_l71 (fl : Nat) (g1 : Int32) (g2 : Int32) (g3 : Int32) (g4 : Int32) (g5 : Int32) : Nat → Int32 → Int32 → Mem → Option (Int32 × Mem)
  | 0 => fun _ _ _ => none
  | n + 1 => fun u6 u7 M0 => f_X12_let_l71_b (f_X12_let_l71 fl g1 g2 g3 g4 g5 n) fl g1 g2 g3 g4 g5 u6 u7 M0
def f_X12_let_l43_b (rk : Int32 → Int32 → Int32 → Mem → Option (Int32 × Mem)) (fl : Nat) (g1 : Int32) (g2 : Int32) (u3 : Int32) (u4 : Int32) (u5 : Int32) (M0 : Mem) : Option (Int32 × Mem) :=
  if 30 ≤ u5 then
    some (u3, M0)
  else
    if ((jrem u5 6) + g2) ≤ 6 then
      bn2 (f_X12_let_l71 fl g1 g2 u3 u4 u5 fl 0 0 M0) fun (q19 : Int32) m20 =>
      if q19 < u4 then
        lt1 (u5 + 1) fun (x22 : Int32) =>
        rk u5 q19 x22 m20
      else
        lt1 (u5 + 1) fun (x23 : Int32) =>
        rk u3 u4 x23 m20
    else
      lt1 (u5 + 1) fun (x24 : Int32) =>
      rk u3 u4 x24 M0
def f_X12_let_l43 (fl : Nat) (g1 : Int32) (g2 : Int32) : Nat → Int32 → Int32 → Int32 → Mem → Option (Int32 × Mem)
  | 0 => fun _ _ _ _ => none
  | n + 1 => fun u3 u4 u5 M0 => f_X12_let_l43_b (f_X12_let_l43 fl g1 g2 n) fl g1 g2 u3 u4 u5 M0
def f_X12_let_l132_b (rk : Int32 → Mem → Option (Mem)) (fl : Nat) (g1 : Int32) (g2 : Int32) (g3 : Int32) (u5 : Int32) (M0 : Mem) : Option (Mem) :=
  if 8 ≤ u5 then
    some M0
  else
    bn2 (f_X12_meet fl u5 g3 g2 M0) fun v29 m28 =>
    if v29 = 0 then
      lt1 (u5 + 1) fun (x37 : Int32) =>
      rk x37 m28
    else
      asr (vq u5 8) <|
      lt1 (sI m28 47 0 (Int32.toNatClampNeg u5) (-1)) fun m32 =>
      asr (vq u5 8) <|
      asr (vq u5 8) <|
      lt1 (sI m32 49 0 (Int32.toNatClampNeg u5) ((gI m32 49 0 (Int32.toNatClampNeg u5)) + 1)) fun m35 =>
      lt1 (u5 + 1) fun (x36 : Int32) =>
      rk x36 m35
def f_X12_let_l132 (fl : Nat) (g1 : Int32) (g2 : Int32) (g3 : Int32) : Nat → Int32 → Mem → Option (Mem)
  | 0 => fun _ _ => none
  | n + 1 => fun u5 M0 => f_X12_let_l132_b (f_X12_let_l132 fl g1 g2 g3 n) fl g1 g2 g3 u5 M0
def f_X12_let (fl : Nat) (a1 : Int32) (a2 : Int32) (M0 : Mem) : Option (Int32 × Mem) :=
  bn2 (f_X12_in fl a1 0 7 M0) fun v2 m1 =>
  if v2 = 0 then
    some ((-1), m1)
  else
    bn2 (f_X12_in fl a2 1 6 m1) fun v5 m4 =>
    if v5 = 0 then
      some ((-2), m4)
    else
      asr (vq a1 8) <|
      lt1 (sI m4 47 0 (Int32.toNatClampNeg a1) (-1)) fun m8 =>
      bn2 (f_X12_let_l43 fl a1 a2 fl (-1) 9 0 m8) fun (q25 : Int32) m26 =>
      bn1 (f_X12_let_l132 fl a1 a2 q25 fl 0 m26) fun m39 =>
      asr (vq a1 8) <|
      lt1 (sI m39 47 0 (Int32.toNatClampNeg a1) q25) fun m41 =>
      asr (vq a1 8) <|
      lt1 (sI m41 48 0 (Int32.toNatClampNeg a1) a2) fun m43 =>
      some (q25, m43)
def f_X12_nation (fl : Nat) (a1 : Int32) (a2 : Int32) (M0 : Mem) : Option (Int32 × Mem) :=
  bn2 (f_X12_in fl a1 0 7 M0) fun v2 m1 =>
  if v2 = 0 then
    some ((-1), m1)
  else
    if a2 = 0 then
      asr (vq a1 8) <|
      if 0 ≤ (gI m1 47 0 (Int32.toNatClampNeg a1)) then
        asr (vq a1 8) <|
        some ((gI m1 47 0 (Int32.toNatClampNeg a1)), m1)
      else
        some ((-5), m1)
    else
    if a2 = 1 then
      asr (vq a1 8) <|
      if 0 ≤ (gI m1 47 0 (Int32.toNatClampNeg a1)) then
        asr (vq a1 8) <|
        some ((gI m1 48 0 (Int32.toNatClampNeg a1)), m1)
      else
        some (0, m1)
    else
    if a2 = 2 then
      asr (vq a1 8) <|
      some ((gI m1 49 0 (Int32.toNatClampNeg a1)), m1)
    else
      some ((-1), m1)
def f_X12_mayGo (fl : Nat) (a1 : Int32) (a2 : Int32) (M0 : Mem) : Option (Int32 × Mem) :=
  asr (vq (((5 * a1) + a2) - 1) 150) <|
  if (gI M0 50 0 (Int32.toNatClampNeg (((5 * a1) + a2) - 1))) = 0 then
    some (0, M0)
  else
    if a2 = 1 then
      asr (vq ((5 * a1) + 1) 150) <|
      if (gI M0 50 0 (Int32.toNatClampNeg ((5 * a1) + 1))) = 0 then
        if (jrem a1 6) = 0 then
          some (1, M0)
        else
          asr (vq ((5 * a1) - 4) 150) <|
          if (gI M0 50 0 (Int32.toNatClampNeg ((5 * a1) - 4))) = 0 then
            some (1, M0)
          else
            some (0, M0)
      else
        some (0, M0)
    else
      if a2 = 2 then
        asr (vq ((5 * a1) + 2) 150) <|
        if (gI M0 50 0 (Int32.toNatClampNeg ((5 * a1) + 2))) = 0 then
          asr (vq ((5 * a1) + 3) 150) <|
          if (gI M0 50 0 (Int32.toNatClampNeg ((5 * a1) + 3))) = 0 then
            some (1, M0)
          else
            some (0, M0)
        else
          some (0, M0)
      else
        some (1, M0)
def f_X12_nextDown_l10_b (rk : Int32 → Mem → Option ((Nat × Int32) × Mem)) (fl : Nat) (g1 : Int32) (u2 : Int32) (M0 : Mem) : Option ((Nat × Int32) × Mem) :=
  if u2 ≤ 0 then
    some ((1, u2), M0)
  else
    bn2 (f_X12_mayGo fl g1 u2 M0) fun v4 m3 =>
    if v4 = 0 then
      lt1 (u2 + (-1)) fun (x6 : Int32) =>
      rk x6 m3
    else
      some ((0, u2), m3)
def f_X12_nextDown_l10 (fl : Nat) (g1 : Int32) : Nat → Int32 → Mem → Option ((Nat × Int32) × Mem)
  | 0 => fun _ _ => none
  | n + 1 => fun u2 M0 => f_X12_nextDown_l10_b (f_X12_nextDown_l10 fl g1 n) fl g1 u2 M0
def f_X12_nextDown_l2_b (rk : Int32 → Mem → Option ((Nat × Int32 × Int32) × Mem)) (fl : Nat) (u1 : Int32) (M0 : Mem) : Option ((Nat × Int32 × Int32) × Mem) :=
  if 30 ≤ u1 then
    some ((1, u1, 0), M0)
  else
    bn2 (f_X12_nextDown_l10 fl u1 fl 5 M0) fun (q7 : Nat × Int32) m8 =>
    if q7.1 = 0 then
      some ((0, u1, q7.2), m8)
    else
      lt1 (u1 + 1) fun (x9 : Int32) =>
      rk x9 m8
def f_X12_nextDown_l2 (fl : Nat) : Nat → Int32 → Mem → Option ((Nat × Int32 × Int32) × Mem)
  | 0 => fun _ _ => none
  | n + 1 => fun u1 M0 => f_X12_nextDown_l2_b (f_X12_nextDown_l2 fl  n) fl  u1 M0
def f_X12_nextDown (fl : Nat)  (M0 : Mem) : Option (Int32 × Mem) :=
  bn2 (f_X12_nextDown_l2 fl  fl 0 M0) fun (q10 : Nat × Int32 × Int32) m11 =>
  if q10.1 = 0 then
    some (((10 * q10.2.1) + q10.2.2), m11)
  else
    some ((-1), m11)
def f_X12_unbuild_l20_b (rk : Int32 → Int32 → Mem → Option (Int32 × Mem)) (fl : Nat) (g1 : Int32) (g3 : Int32) (u2 : Int32) (u4 : Int32) (M0 : Mem) : Option (Int32 × Mem) :=
  if 6 ≤ u4 then
    some (u2, M0)
  else
    bn2 (f_X12_has fl g3 u4 M0) fun v5 m4 =>
    asr (vq (((5 * g3) + u4) - 1) 150) <|
    lt1 (sI m4 50 0 (Int32.toNatClampNeg (((5 * g3) + u4) - 1)) (vp_nar .boolean v5)) fun m7 =>
    bn2 (f_X12_has fl g3 u4 m7) fun v9 m8 =>
    if v9 = 0 then
      lt1 (u2 + 0) fun (x11 : Int32) =>
      lt1 (u4 + 1) fun (x12 : Int32) =>
      rk x11 x12 m8
    else
      lt1 (u2 + 1) fun (x13 : Int32) =>
      lt1 (u4 + 1) fun (x14 : Int32) =>
      rk x13 x14 m8
def f_X12_unbuild_l20 (fl : Nat) (g1 : Int32) (g3 : Int32) : Nat → Int32 → Int32 → Mem → Option (Int32 × Mem)
  | 0 => fun _ _ _ => none
  | n + 1 => fun u2 u4 M0 => f_X12_unbuild_l20_b (f_X12_unbuild_l20 fl g1 g3 n) fl g1 g3 u2 u4 M0
def f_X12_unbuild_l11_b (rk : Int32 → Int32 → Mem → Option (Int32 × Mem)) (fl : Nat) (g1 : Int32) (u2 : Int32) (u3 : Int32) (M0 : Mem) : Option (Int32 × Mem) :=
  if 30 ≤ u3 then
    some (u2, M0)
  else
    bn2 (f_X12_unbuild_l20 fl g1 u3 fl u2 1 M0) fun (q15 : Int32) m16 =>
    lt1 (u3 + 1) fun (x17 : Int32) =>
    rk q15 x17 m16
def f_X12_unbuild_l11 (fl : Nat) (g1 : Int32) : Nat → Int32 → Int32 → Mem → Option (Int32 × Mem)
  | 0 => fun _ _ _ => none
  | n + 1 => fun u2 u3 M0 => f_X12_unbuild_l11_b (f_X12_unbuild_l11 fl g1 n) fl g1 u2 u3 M0
def f_X12_unbuild_l96_b (rk : Int32 → Int32 → Mem → Option (Int32 × Mem)) (fl : Nat) (g1 : Int32) (u3 : Int32) (u4 : Int32) (M0 : Mem) : Option (Int32 × Mem) :=
  if g1 < u4 then
    some (u3, M0)
  else
    bn2 (f_X12_nextDown fl  M0) fun v24 m23 =>
    asr (vq (((5 * (v24 / 10)) + (jrem v24 10)) - 1) 150) <|
    lt1 (sI m23 50 0 (Int32.toNatClampNeg (((5 * (v24 / 10)) + (jrem v24 10)) - 1)) (vp_nar .boolean 0)) fun m26 =>
    lt1 (u4 + 1) fun (x27 : Int32) =>
    rk v24 x27 m26
def f_X12_unbuild_l96 (fl : Nat) (g1 : Int32) : Nat → Int32 → Int32 → Mem → Option (Int32 × Mem)
  | 0 => fun _ _ _ => none
  | n + 1 => fun u3 u4 M0 => f_X12_unbuild_l96_b (f_X12_unbuild_l96 fl g1 n) fl g1 u3 u4 M0
def f_X12_unbuild (fl : Nat) (a1 : Int32) (M0 : Mem) : Option (Int32 × Mem) :=
  if (-1) ≤ a1 then
    bn2 (f_X12_unbuild_l11 fl a1 fl 0 0 M0) fun (q18 : Int32) m19 =>
    if a1 = (-1) then
      some (q18, m19)
    else
      if a1 < q18 then
        bn2 (f_X12_unbuild_l96 fl a1 fl (-1) 0 m19) fun (q28 : Int32) m29 =>
        some (q28, m29)
      else
        some ((-1), m19)
  else
    some ((-1), M0)
def f_X12_known_l16_b (rk : Int32 → Int32 → Mem → Option (Int32 × Mem)) (fl : Nat) (g1 : Int32) (g2 : Int32) (u3 : Int32) (u4 : Int32) (M0 : Mem) : Option (Int32 × Mem) :=
  if (gI M0 0 0 1) ≤ u4 then
    some (u3, M0)
  else
    asr (vq u4 60) <|
    if (gI M0 10 0 (Int32.toNatClampNeg u4)) < 0 then
      lt1 (u3 + 0) fun (x7 : Int32) =>
      lt1 (u4 + 1) fun (x8 : Int32) =>
      rk x7 x8 M0
    else
      bn2 (
        if g2 = 0 then
          asr (vq u4 60) <|
          some ((gI M0 11 0 (Int32.toNatClampNeg u4)), M0)
        else
          asr (vq u4 60) <|
          some ((gI M0 10 0 (Int32.toNatClampNeg u4)), M0)
      ) fun (q9 : Int32) m10 =>
      if g1 < q9 then
        lt1 (u3 + 0) fun (x12 : Int32) =>
        lt1 (u4 + 1) fun (x13 : Int32) =>
        rk x12 x13 m10
      else
        lt1 (u3 + 1) fun (x14 : Int32) =>
        lt1 (u4 + 1) fun (x15 : Int32) =>
        rk x14 x15 m10
def f_X12_known_l16 (fl : Nat) (g1 : Int32) (g2 : Int32) : Nat → Int32 → Int32 → Mem → Option (Int32 × Mem)
  | 0 => fun _ _ _ => none
  | n + 1 => fun u3 u4 M0 => f_X12_known_l16_b (f_X12_known_l16 fl g1 g2 n) fl g1 g2 u3 u4 M0
def f_X12_known (fl : Nat) (a1 : Int32) (a2 : Int32) (M0 : Mem) : Option (Int32 × Mem) :=
  bn2 (f_X12_isDay fl a1 M0) fun v2 m1 =>
  if v2 = 0 then
    some ((-2), m1)
  else
    bn2 (f_X12_known_l16 fl a1 a2 fl 0 0 m1) fun (q19 : Int32) m20 =>
    some (q19, m20)
def f_X12_body_b19 (fl : Nat) (M0 : Mem) : Option (Mem) :=
  lt1 (sI M0 0 0 66 ((gI M0 0 0 66) + 1)) fun m3 =>
  some m3
def f_X12_body (fl : Nat) (a1 : Int32) (M0 : Mem) : Option (Mem) :=
  bn1 (
    if 20 ≤ (gI M0 0 0 66) then
      some M0
    else
      asr (vq (gI M0 0 0 66) 20) <|
      lt1 (sI M0 51 0 (Int32.toNatClampNeg (gI M0 0 0 66)) a1) fun m6 =>
      some m6
  ) fun m2 =>
  f_X12_body_b19 fl  m2
def f_X12_plainFits (fl : Nat) (a1 : Int32) (a2 : Int32) (M0 : Mem) : Option (Int32 × Mem) :=
  bn1 (f_X12_body fl 10 M0) fun m1 =>
  asr (vq a1 60) <|
  some ((a2 + (gI m1 8 0 (Int32.toNatClampNeg a1))), m1)
def f_X12_columnFits (fl : Nat) (a1 : Int32) (a2 : Int32) (M0 : Mem) : Option (Int32 × Mem) :=
  bn1 (f_X12_body fl 20 M0) fun m1 =>
  bn2 (f_X12_plainFits fl a1 a2 m1) fun v3 m2 =>
  some ((v3 ^^^ a1), m2)
def f_X12_fitsOf (fl : Nat) (a1 : Int32) (a2 : Int32) (M0 : Mem) : Option (Int32 × Mem) :=
  asr (vq a1 60) <|
  if (gI M0 5 0 (Int32.toNatClampNeg a1)) = 1 then
    bn2 (f_X12_columnFits fl a1 a2 M0) fun v16 m15 =>
    some (v16, m15)
  else
    asr (vq a1 60) <|
    if (gI M0 5 0 (Int32.toNatClampNeg a1)) = 3 then
      bn1 (f_X12_body fl 40 M0) fun m12 =>
      bn2 (f_X12_plainFits fl a1 a2 m12) fun v14 m13 =>
      some ((-v14), m13)
    else
      asr (vq a1 60) <|
      if (gI M0 5 0 (Int32.toNatClampNeg a1)) = 6 then
        bn1 (f_X12_body fl 70 M0) fun m9 =>
        bn2 (f_X12_columnFits fl a1 (a2 - 2) m9) fun v11 m10 =>
        some (v11, m10)
      else
        bn2 (f_X12_plainFits fl a1 a2 M0) fun v8 m7 =>
        some (v8, m7)
def f_X12_plainBears (fl : Nat) (a1 : Int32) (a2 : Int32) (M0 : Mem) : Option (Int32 × Mem) :=
  bn1 (f_X12_body fl 11 M0) fun m1 =>
  bn2 (f_X12_fitsOf fl a1 a2 m1) fun v3 m2 =>
  asr (vq a1 60) <|
  some ((v3 - (gI m2 6 0 (Int32.toNatClampNeg a1))), m2)
def f_X12_bearsOf (fl : Nat) (a1 : Int32) (a2 : Int32) (M0 : Mem) : Option (Int32 × Mem) :=
  asr (vq a1 60) <|
  if (gI M0 5 0 (Int32.toNatClampNeg a1)) = 2 then
    bn1 (f_X12_body fl 30 M0) fun m17 =>
    bn2 (f_X12_plainBears fl a1 (a2 * 3) m17) fun v19 m18 =>
    some (v19, m18)
  else
    asr (vq a1 60) <|
    if (gI M0 5 0 (Int32.toNatClampNeg a1)) = 4 then
      bn1 (f_X12_body fl 50 M0) fun m12 =>
      bn2 (f_X12_plainBears fl a1 a2 m12) fun v14 m13 =>
      bn2 (f_X12_plainFits fl a1 2 m13) fun v16 m15 =>
      some ((v14 + v16), m15)
    else
      asr (vq a1 60) <|
      if (gI M0 5 0 (Int32.toNatClampNeg a1)) = 6 then
        bn1 (f_X12_body fl 71 M0) fun m9 =>
        bn2 (f_X12_plainBears fl a1 a2 m9) fun v11 m10 =>
        some ((v11 * 5), m10)
      else
        bn2 (f_X12_plainBears fl a1 a2 M0) fun v8 m7 =>
        some (v8, m7)
def f_X12_plainEnds (fl : Nat) (a1 : Int32) (a2 : Int32) (M0 : Mem) : Option (Int32 × Mem) :=
  bn1 (f_X12_body fl 12 M0) fun m1 =>
  bn2 (f_X12_bearsOf fl a1 a2 m1) fun v3 m2 =>
  some ((v3 * 2), m2)
def f_X12_endsOf_b21 (fl : Nat) (g1 : Int32) (g2 : Int32) (M0 : Mem) : Option (Int32 × Mem) :=
  bn1 (f_X12_body fl 21 M0) fun m3 =>
  bn2 (f_X12_plainEnds fl g1 g2 m3) fun v5 m4 =>
  bn2 (f_X12_fitsOf fl g1 1 m4) fun v7 m6 =>
  some ((v5 + v7), m6)
def f_X12_endsOf (fl : Nat) (a1 : Int32) (a2 : Int32) (M0 : Mem) : Option (Int32 × Mem) :=
  asr (vq a1 60) <|
  if (gI M0 5 0 (Int32.toNatClampNeg a1)) = 1 then
    f_X12_endsOf_b21 fl a1 a2 M0
  else
    asr (vq a1 60) <|
    if (gI M0 5 0 (Int32.toNatClampNeg a1)) = 6 then
      f_X12_endsOf_b21 fl a1 a2 M0
    else
      asr (vq a1 60) <|
      if (gI M0 5 0 (Int32.toNatClampNeg a1)) = 5 then
        bn1 (f_X12_body fl 60 M0) fun m14 =>
        bn2 (f_X12_bearsOf fl a1 a2 m14) fun v16 m15 =>
        bn2 (f_X12_plainEnds fl a1 a2 m15) fun v18 m17 =>
        some ((v16 - v18), m17)
      else
        bn2 (f_X12_plainEnds fl a1 a2 M0) fun v13 m12 =>
        some (v13, m12)
def f_X12_act (fl : Nat) (a1 : Int32) (a2 : Int32) (a3 : Int32) (M0 : Mem) : Option (Int32 × Mem) :=
  lt1 (sI M0 0 0 66 0) fun m1 =>
  bn2 (f_X12_isLot fl a1 m1) fun v3 m2 =>
  if v3 = 0 then
    some (0, m2)
  else
    bn2 (f_X12_in fl a2 0 2 m2) fun v6 m5 =>
    if v6 = 0 then
      some (0, m5)
    else
      if a2 = 0 then
        bn2 (f_X12_fitsOf fl a1 a3 m5) fun v15 m14 =>
        some (v15, m14)
      else
        if a2 = 1 then
          bn2 (f_X12_bearsOf fl a1 a3 m5) fun v13 m12 =>
          some (v13, m12)
        else
          bn2 (f_X12_endsOf fl a1 a3 m5) fun v11 m10 =>
          some (v11, m10)
def f_X12_trace (fl : Nat) (a1 : Int32) (M0 : Mem) : Option (Int32 × Mem) :=
  bn2 (f_X12_in fl a1 0 19 M0) fun v2 m1 =>
  if v2 = 0 then
    some ((-1), m1)
  else
    if (gI m1 0 0 66) ≤ a1 then
      some ((-1), m1)
    else
      asr (vq a1 20) <|
      some ((gI m1 51 0 (Int32.toNatClampNeg a1)), m1)
def f_X12_taken (fl : Nat) (a1 : Int32) (a2 : Int32) (M0 : Mem) : Option (Int32 × Mem) :=
  bn2 (f_X12_in fl a2 0 6 M0) fun v2 m1 =>
  if v2 = 0 then
    some ((-2), m1)
  else
    bn2 (f_X12_isLot fl a1 m1) fun v5 m4 =>
    if v5 = 0 then
      some ((-11), m4)
    else
      if a2 = 0 then
        asr (vq a1 60) <|
        some ((gI m4 5 0 (Int32.toNatClampNeg a1)), m4)
      else
        asr (vq a1 60) <|
        if (gI m4 5 0 (Int32.toNatClampNeg a1)) = a2 then
          asr (vq a1 60) <|
          some ((gI m4 5 0 (Int32.toNatClampNeg a1)), m4)
        else
          if a2 = 1 then
            asr (vq a1 60) <|
            if (gI m4 5 0 (Int32.toNatClampNeg a1)) = 6 then
              asr (vq a1 60) <|
              some ((gI m4 5 0 (Int32.toNatClampNeg a1)), m4)
            else
              some ((-12), m4)
          else
            some ((-12), m4)
def f_X12_standing_l4_b (rk : Int32 → Int32 → Mem → Option (Int32 × Mem)) (fl : Nat) (u1 : Int32) (u2 : Int32) (M0 : Mem) : Option (Int32 × Mem) :=
  if 150 ≤ u2 then
    some (u1, M0)
  else
    asr (vq u2 150) <|
    if (gI M0 14 0 (Int32.toNatClampNeg u2)) < 0 then
      lt1 (u1 + 0) fun (x4 : Int32) =>
      lt1 (u2 + 1) fun (x5 : Int32) =>
      rk x4 x5 M0
    else
      lt1 (u1 + 1) fun (x6 : Int32) =>
      lt1 (u2 + 1) fun (x7 : Int32) =>
      rk x6 x7 M0
def f_X12_standing_l4 (fl : Nat) : Nat → Int32 → Int32 → Mem → Option (Int32 × Mem)
  | 0 => fun _ _ _ => none
  | n + 1 => fun u1 u2 M0 => f_X12_standing_l4_b (f_X12_standing_l4 fl  n) fl  u1 u2 M0
def f_X12_standing_l36_b (rk : Int32 → Int32 → Mem → Option (Int32 × Mem)) (fl : Nat) (u1 : Int32) (u2 : Int32) (M0 : Mem) : Option (Int32 × Mem) :=
  if 30 ≤ u2 then
    some (u1, M0)
  else
    asr (vq u2 30) <|
    lt1 (u1 + (gI M0 15 0 (Int32.toNatClampNeg u2))) fun (x12 : Int32) =>
    lt1 (u2 + 1) fun (x13 : Int32) =>
    rk x12 x13 M0
def f_X12_standing_l36 (fl : Nat) : Nat → Int32 → Int32 → Mem → Option (Int32 × Mem)
  | 0 => fun _ _ _ => none
  | n + 1 => fun u1 u2 M0 => f_X12_standing_l36_b (f_X12_standing_l36 fl  n) fl  u1 u2 M0
def f_X12_standing (fl : Nat)  (M0 : Mem) : Option (Int32 × Mem) :=
  bn2 (f_X12_standing_l4 fl  fl 0 0 M0) fun (q8 : Int32) m9 =>
  bn2 (f_X12_standing_l36 fl  fl q8 0 m9) fun (q14 : Int32) m15 =>
  some (q14, m15)
def f_X12_count (fl : Nat) (a1 : Int32) (M0 : Mem) : Option (Int32 × Mem) :=
  if a1 = 0 then
    some ((gI M0 0 0 0), M0)
  else
  if a1 = 1 then
    some ((gI M0 0 0 1), M0)
  else
  if a1 = 2 then
    some ((gI M0 0 0 21), M0)
  else
  if a1 = 3 then
    some ((gI M0 0 0 22), M0)
  else
  if a1 = 4 then
    some ((gI M0 0 0 44), M0)
  else
  if a1 = 5 then
    some ((gI M0 0 0 51), M0)
  else
  if a1 = 6 then
    some ((gI M0 0 0 52), M0)
  else
  if a1 = 7 then
    bn2 (f_X12_standing fl  M0) fun v10 m9 =>
    some (v10, m9)
  else
  if a1 = 8 then
    some ((gI M0 0 0 15), M0)
  else
  if a1 = 9 then
    some ((gI M0 0 0 66), M0)
  else
    some ((-2), M0)
def f_X12_isTape (fl : Nat) (a1 : Int32) (M0 : Mem) : Option (Int32 × Mem) :=
  bn2 (f_X12_in fl a1 0 5 M0) fun v2 m1 =>
  asr (v2 = 0 ∨ v2 = 1) <|
  some (v2, m1)
def f_X12_list_l52_b (rk : Int64 → Int32 → Mem → Option ((Nat × Int64) × Mem)) (fl : Nat) (g1 : Int32) (g2 : Int32) (g3 : Int32) (u4 : Int64) (u6 : Int32) (M0 : Mem) : Option ((Nat × Int64) × Mem) :=
  if g3 ≤ u6 then
    some ((1, u4), M0)
  else
    asr (vq g1 6) <|
    if (gI M0 52 0 (Int32.toNatClampNeg g1)) < 0 then
      some ((0, u4), M0)
    else
      if g2 < 0 then
        some ((0, u4), M0)
      else
        asr (vq g1 6) <|
        if g2 ≤ (((gI M0 53 0 (Int32.toNatClampNeg g1)) - (2 * u6)) - 2) then
          asr (vq (((60 * g1) + g2) + (2 * u6)) 360) <|
          lt1 (Int64.toInt32 (gL M0 54 0 (Int32.toNatClampNeg (((60 * g1) + g2) + (2 * u6))))) fun (x16 : Int32) =>
          asr (vq ((((60 * g1) + g2) + (2 * u6)) + 1) 360) <|
          lt1 (Int64.toInt32 (gL M0 54 0 (Int32.toNatClampNeg ((((60 * g1) + g2) + (2 * u6)) + 1)))) fun (x18 : Int32) =>
          bn2 (f_X12_isLot fl x16 M0) fun v20 m19 =>
          if v20 = 0 then
            lt1 (u4 + 1) fun (y22 : Int64) =>
            lt1 (u6 + 1) fun (x23 : Int32) =>
            rk y22 x23 m19
          else
            asr (vq x16 60) <|
            if (gI m19 10 0 (Int32.toNatClampNeg x16)) < 0 then
              lt1 (u4 + 1) fun (y26 : Int64) =>
              lt1 (u6 + 1) fun (x27 : Int32) =>
              rk y26 x27 m19
            else
              asr (vq x16 60) <|
              if (gI m19 7 0 (Int32.toNatClampNeg x16)) = x18 then
                lt1 (u4 + 1000) fun (y32 : Int64) =>
                lt1 (u6 + 1) fun (x33 : Int32) =>
                rk y32 x33 m19
              else
                lt1 (u4 + 1) fun (y30 : Int64) =>
                lt1 (u6 + 1) fun (x31 : Int32) =>
                rk y30 x31 m19
        else
          some ((0, u4), M0)
def f_X12_list_l52 (fl : Nat) (g1 : Int32) (g2 : Int32) (g3 : Int32) : Nat → Int64 → Int32 → Mem → Option ((Nat × Int64) × Mem)
  | 0 => fun _ _ _ => none
  | n + 1 => fun u4 u6 M0 => f_X12_list_l52_b (f_X12_list_l52 fl g1 g2 g3 n) fl g1 g2 g3 u4 u6 M0
def f_X12_list_b46 (fl : Nat) (g1 : Int32) (g2 : Int32) (g3 : Int32) (M0 : Mem) : Option (Int64 × Mem) :=
  bn2 (f_X12_list_l52 fl g1 g2 g3 fl 0 0 M0) fun (q34 : Nat × Int64) m35 =>
  if q34.1 = 0 then
    some ((q34.2 + 1000000), m35)
  else
    some (q34.2, m35)
def f_X12_list (fl : Nat) (a1 : Int32) (a2 : Int32) (a3 : Int32) (M0 : Mem) : Option (Int64 × Mem) :=
  bn2 (f_X12_isTape fl a1 M0) fun v2 m1 =>
  if v2 = 0 then
    some ((-9223372036854775808), m1)
  else
    bn2 (f_X12_in fl a3 1 20 m1) fun v5 m4 =>
    if v5 = 0 then
      some ((-9223372036854775808), m4)
    else
      asr (vq a1 6) <|
      if (gI m4 52 0 (Int32.toNatClampNeg a1)) < 0 then
        f_X12_list_b46 fl a1 a2 a3 m4
      else
        asr (vq a1 6) <|
        if (gI m4 52 0 (Int32.toNatClampNeg a1)) = 2 then
          f_X12_list_b46 fl a1 a2 a3 m4
        else
          some ((-9223372036854775807), m4)
def f_X12_tape_l69_b (rk : Int32 → Mem → Option (Mem)) (fl : Nat) (g1 : Int32) (u4 : Int32) (M0 : Mem) : Option (Mem) :=
  if 60 ≤ u4 then
    some M0
  else
    asr (vq ((60 * g1) + u4) 360) <|
    lt1 (sL M0 54 0 (Int32.toNatClampNeg ((60 * g1) + u4)) 0) fun m17 =>
    lt1 (u4 + 1) fun (x18 : Int32) =>
    rk x18 m17
def f_X12_tape_l69 (fl : Nat) (g1 : Int32) : Nat → Int32 → Mem → Option (Mem)
  | 0 => fun _ _ => none
  | n + 1 => fun u4 M0 => f_X12_tape_l69_b (f_X12_tape_l69 fl g1 n) fl g1 u4 M0
def f_X12_tape_b65 (fl : Nat) (g1 : Int32) (z1 : Int32) (z2 : Int32) (M0 : Mem) : Option (Int32 × Mem) :=
  asr (vq z1 6) <|
  lt1 (sI M0 53 0 (Int32.toNatClampNeg z1) z2) fun m14 =>
  bn1 (f_X12_tape_l69 fl g1 fl 0 m14) fun m20 =>
  some (1, m20)
def f_X12_tape_b44 (fl : Nat) (g1 : Int32) (g2 : Int32) (g3 : Int32) (M0 : Mem) : Option (Int32 × Mem) :=
  asr (vq g1 6) <|
  lt1 (sI M0 52 0 (Int32.toNatClampNeg g1) g2) fun m10 =>
  bn2 (
    if 0 ≤ g2 then
      some (g3, m10)
    else
      some (0, m10)
  ) fun (q11 : Int32) m12 =>
  f_X12_tape_b65 fl g1 g1 q11 m12
def f_X12_tape_b33 (fl : Nat) (g1 : Int32) (g2 : Int32) (g3 : Int32) (M0 : Mem) : Option (Int32 × Mem) :=
  if g2 < 0 then
    f_X12_tape_b44 fl g1 g2 g3 M0
  else
    if 0 ≤ g3 then
      f_X12_tape_b44 fl g1 g2 g3 M0
    else
      some ((-14), M0)
def f_X12_tape (fl : Nat) (a1 : Int32) (a2 : Int32) (a3 : Int32) (M0 : Mem) : Option (Int32 × Mem) :=
  bn2 (f_X12_isTape fl a1 M0) fun v2 m1 =>
  if v2 = 0 then
    some ((-1), m1)
  else
    bn2 (f_X12_in fl a2 (-1) 4 m1) fun v5 m4 =>
    if v5 = 0 then
      some ((-2), m4)
    else
      if a2 < 0 then
        f_X12_tape_b33 fl a1 a2 a3 m4
      else
        if a3 ≤ 60 then
          f_X12_tape_b33 fl a1 a2 a3 m4
        else
          some ((-2), m4)
def f_X12_narrow (fl : Nat) (a1 : Int32) (a2 : Int64) (M0 : Mem) : Option (Int64 × Mem) :=
  if a1 = 0 then
    some ((Int32.toInt64 (ji2b (Int64.toInt32 a2))), M0)
  else
    if a1 = 1 then
      some ((Int32.toInt64 (ji2s (Int64.toInt32 a2))), M0)
    else
      if a1 = 2 then
        some ((Int32.toInt64 (Int64.toInt32 a2)), M0)
      else
        if a1 = 4 then
          if (lg_cmp a2 0) = 0 then
            some (0, M0)
          else
            some (1, M0)
        else
          some (a2, M0)
def f_X12_item (fl : Nat) (a1 : Int32) (a2 : Int32) (a3 : Int64) (M0 : Mem) : Option (Int32 × Mem) :=
  bn2 (f_X12_isTape fl a1 M0) fun v2 m1 =>
  if v2 = 0 then
    some ((-1), m1)
  else
    asr (vq a1 6) <|
    if 0 ≤ (gI m1 52 0 (Int32.toNatClampNeg a1)) then
      asr (vq a1 6) <|
      bn2 (f_X12_in fl a2 0 ((gI m1 53 0 (Int32.toNatClampNeg a1)) - 1) m1) fun v8 m7 =>
      if v8 = 0 then
        some ((-13), m7)
      else
        asr (vq a1 6) <|
        bn2 (f_X12_narrow fl (gI m7 52 0 (Int32.toNatClampNeg a1)) a3 m7) fun y12 m11 =>
        asr (vq ((60 * a1) + a2) 360) <|
        lt1 (sL m11 54 0 (Int32.toNatClampNeg ((60 * a1) + a2)) y12) fun m14 =>
        some (1, m14)
    else
      some ((-11), m1)
def f_X12_read (fl : Nat) (a1 : Int32) (a2 : Int32) (M0 : Mem) : Option (Int64 × Mem) :=
  bn2 (f_X12_isTape fl a1 M0) fun v2 m1 =>
  if v2 = 0 then
    some ((-9223372036854775808), m1)
  else
    asr (vq a1 6) <|
    if (gI m1 52 0 (Int32.toNatClampNeg a1)) < 0 then
      some ((-9223372036854775808), m1)
    else
      asr (vq a1 6) <|
      bn2 (f_X12_in fl a2 0 ((gI m1 53 0 (Int32.toNatClampNeg a1)) - 1) m1) fun v8 m7 =>
      if v8 = 0 then
        some ((-9223372036854775808), m7)
      else
        asr (vq ((60 * a1) + a2) 360) <|
        some ((gL m7 54 0 (Int32.toNatClampNeg ((60 * a1) + a2))), m7)
def f_X12_shift_l104_b (rk : Int32 → Mem → Option (Mem)) (fl : Nat) (g1 : Int32) (g2 : Int32) (g3 : Int32) (g4 : Int32) (g5 : Int32) (u6 : Int32) (M0 : Mem) : Option (Mem) :=
  if g5 ≤ u6 then
    some M0
  else
    asr (vq (((60 * g1) + g2) + u6) 360) <|
    asr (vq u6 60) <|
    lt1 (sL M0 55 0 (Int32.toNatClampNeg u6) (gL M0 54 0 (Int32.toNatClampNeg (((60 * g1) + g2) + u6)))) fun m24 =>
    lt1 (u6 + 1) fun (x25 : Int32) =>
    rk x25 m24
def f_X12_shift_l104 (fl : Nat) (g1 : Int32) (g2 : Int32) (g3 : Int32) (g4 : Int32) (g5 : Int32) : Nat → Int32 → Mem → Option (Mem)
  | 0 => fun _ _ => none
  | n + 1 => fun u6 M0 => f_X12_shift_l104_b (f_X12_shift_l104 fl g1 g2 g3 g4 g5 n) fl g1 g2 g3 g4 g5 u6 M0
def f_X12_shift_l141_b (rk : Int32 → Mem → Option (Mem)) (fl : Nat) (g3 : Int32) (g4 : Int32) (g5 : Int32) (u6 : Int32) (M0 : Mem) : Option (Mem) :=
  if g5 ≤ u6 then
    some M0
  else
    asr (vq u6 60) <|
    asr (vq (((60 * g3) + g4) + u6) 360) <|
    lt1 (sL M0 54 0 (Int32.toNatClampNeg (((60 * g3) + g4) + u6)) (gL M0 55 0 (Int32.toNatClampNeg u6))) fun m31 =>
    lt1 (u6 + 1) fun (x32 : Int32) =>
    rk x32 m31
def f_X12_shift_l141 (fl : Nat) (g3 : Int32) (g4 : Int32) (g5 : Int32) : Nat → Int32 → Mem → Option (Mem)
  | 0 => fun _ _ => none
  | n + 1 => fun u6 M0 => f_X12_shift_l141_b (f_X12_shift_l141 fl g3 g4 g5 n) fl g3 g4 g5 u6 M0
def f_X12_shift (fl : Nat) (a1 : Int32) (a2 : Int32) (a3 : Int32) (a4 : Int32) (a5 : Int32) (M0 : Mem) : Option (Int32 × Mem) :=
  bn2 (f_X12_isTape fl a1 M0) fun v2 m1 =>
  if v2 = 0 then
    some ((-1), m1)
  else
    bn2 (f_X12_isTape fl a3 m1) fun v5 m4 =>
    if v5 = 0 then
      some ((-1), m4)
    else
      asr (vq a1 6) <|
      if (gI m4 52 0 (Int32.toNatClampNeg a1)) < 0 then
        some ((-11), m4)
      else
        asr (vq a3 6) <|
        if 0 ≤ (gI m4 52 0 (Int32.toNatClampNeg a3)) then
          asr (vq a1 6) <|
          asr (vq a3 6) <|
          if (gI m4 52 0 (Int32.toNatClampNeg a1)) = (gI m4 52 0 (Int32.toNatClampNeg a3)) then
            if a5 < 0 then
              some ((-13), m4)
            else
              if a2 < 0 then
                some ((-13), m4)
              else
                if a4 < 0 then
                  some ((-13), m4)
                else
                  asr (vq a1 6) <|
                  if ((gI m4 53 0 (Int32.toNatClampNeg a1)) - a5) < a2 then
                    some ((-13), m4)
                  else
                    asr (vq a3 6) <|
                    if a4 ≤ ((gI m4 53 0 (Int32.toNatClampNeg a3)) - a5) then
                      bn1 (f_X12_shift_l104 fl a1 a2 a3 a4 a5 fl 0 m4) fun m27 =>
                      bn1 (f_X12_shift_l141 fl a3 a4 a5 fl 0 m27) fun m34 =>
                      some (a5, m34)
                    else
                      some ((-13), m4)
          else
            some ((-12), m4)
        else
          some ((-11), m4)
