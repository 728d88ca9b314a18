/-! the small programs alone -/
def B_st_liftUnder_4 (l0 : Nat) (l1 : Int32) (h : Hp) (s : Int32 × Int32) : Option ((Int32 × Int32) ⊕ (Int32)) :=
  if s.2 < (5 : Int32) then
    (bn (gR h l0 8 0) fun x1 =>
    bn (aI h 100 x1 ((l1 * (5 : Int32)) + s.2)) fun x3 =>
    bn (aI h 100 1000001 s.2) fun x5 =>
    some (.inl (s.1 + (x3 * x5), s.2 + (1 : Int32))))
  else
    (some (.inr s.1))
def F_st_liftUnder (a0 : Nat) (a1 : Int32) (h : Hp) : Option Int32 :=
  ck h a0 8 (bn (lq (B_st_liftUnder_4 a0 a1 h) FU ((0 : Int32), (0 : Int32))) fun x7 =>
  some x7)
def B_to_weightAt_10 (l0 : Nat) (l1 : Int32) (l2 : Nat) (h : Hp) (s : Int32 × Int32) : Option ((Int32 × Int32) ⊕ (Int32)) :=
  bn (gI h l0 10 8) fun x5 =>
  if s.2 < x5 then
    (bn (gR h l2 8 1) fun x7 =>
    bn (aI h 100 x7 s.2) fun x9 =>
    if x9 = l1 then
      (bn (gR h l0 10 9) fun x11 =>
      bn (aI h 100 x11 s.2) fun x13 =>
      some (.inl (s.1 + x13, s.2 + (1 : Int32))))
    else
      (some (.inl (s.1, s.2 + (1 : Int32)))))
  else
    (some (.inr s.1))
def F_to_weightAt (a0 : Nat) (a1 : Int32) (a2 : Nat) (h : Hp) : Option Int32 :=
  ck h a0 10 (bn (gR h a0 10 3) fun x1 =>
  bn (aI h 100 x1 a1) fun x3 =>
  bn (lq (B_to_weightAt_10 a0 a1 a2 h) FU (x3, (0 : Int32))) fun x15 =>
  some x15)
def B_ra_weigh_10 (l0 : Nat) (l1 : Nat) (l2 : Nat) (s : Int32) (h : Hp) : Option (((Int32) ⊕ (Unit)) × Hp) :=
  bn (gI h l0 6 0) fun x5 =>
  if s < x5 then
    (bn (gR h l0 6 1) fun x7 =>
    bn (F_st_liftUnder l2 s h) fun x10 =>
    bn (F_to_weightAt l1 s l2 h) fun x12 =>
    bn (sI h 100 x7 s (x10 - x12)) fun h13 =>
    some (.inl (s + (1 : Int32)), h13))
  else
    (some (.inr (), h))
def F_ra_weigh (a0 : Nat) (a1 : Nat) (a2 : Nat) (h : Hp) : Option Hp :=
  ck h a0 6 (bn (gI h a1 10 1) fun x1 =>
  bn (pI h a0 6 0 x1) fun h3 =>
  bd (lp (B_ra_weigh_10 a0 a1 a2) FU (0 : Int32) h3) fun x15 h17 =>
  some h17)
def B_ra_merge_2 (l0 : Nat) (l1 : Int32) (s : Int32) (h : Hp) : Option (((Int32) ⊕ (Unit)) × Hp) :=
  bn (gI h l0 6 0) fun x1 =>
  if s < x1 then
    (if ((l1 >>> (s &&& 31)) &&& (1 : Int32)) = (0 : Int32) then
      (some (.inl (s + (1 : Int32)), h))
    else
      (bn (gR h l0 6 2) fun x3 =>
      bn (sI h 100 x3 s l1) fun h5 =>
      some (.inl (s + (1 : Int32)), h5)))
  else
    (some (.inr (), h))
def F_ra_merge (a0 : Nat) (a1 : Int32) (h : Hp) : Option Hp :=
  ck h a0 6 (bd (lp (B_ra_merge_2 a0 a1) FU (0 : Int32) h) fun x7 h9 =>
  some h9)
def B_ra_join_2 (l0 : Nat) (l1 : Nat) (l2 : Int32) (s : Int32) (h : Hp) : Option (((Int32) ⊕ (Unit)) × Hp) :=
  bn (gI h l0 6 0) fun x1 =>
  if s < x1 then
    (bn (gR h l0 6 2) fun x3 =>
    bn (sI h 100 x3 s ((1 : Int32) <<< (s &&& 31))) fun h5 =>
    some (.inl (s + (1 : Int32)), h5))
  else
    (some (.inr (), h))
def B_ra_join_27 (l0 : Nat) (l1 : Nat) (l2 : Int32) (s : Int32) (h : Hp) : Option (((Int32) ⊕ (Unit)) × Hp) :=
  bn (gI h l1 10 5) fun x10 =>
  if s < x10 then
    (if ((l2 >>> (s &&& 31)) &&& (1 : Int32)) = (0 : Int32) then
      (some (.inl (s + (1 : Int32)), h))
    else
      (bn (gR h l0 6 2) fun x12 =>
      bn (gR h l1 10 6) fun x14 =>
      bn (aI h 100 x14 s) fun x16 =>
      bn (aI h 100 x12 x16) fun x18 =>
      bn (gR h l0 6 2) fun x20 =>
      bn (gR h l1 10 7) fun x22 =>
      bn (aI h 100 x22 s) fun x24 =>
      bn (aI h 100 x20 x24) fun x26 =>
      bn (F_ra_merge l0 (x18 ||| x26) h) fun h29 =>
      some (.inl (s + (1 : Int32)), h29)))
  else
    (some (.inr (), h))
def F_ra_join (a0 : Nat) (a1 : Nat) (a2 : Int32) (h : Hp) : Option Hp :=
  ck h a0 6 (bd (lp (B_ra_join_2 a0 a1 a2) FU (0 : Int32) h) fun x7 h9 =>
  bd (lp (B_ra_join_27 a0 a1 a2) FU (0 : Int32) h9) fun x30 h32 =>
  some h32)
def B_ra_firstOf_2 (l0 : Nat) (l1 : Int32) (h : Hp) (s : Int32) : Option ((Int32) ⊕ ((Unit) ⊕ Int32)) :=
  if s < l1 then
    (bn (gR h l0 6 2) fun x1 =>
    bn (aI h 100 x1 l1) fun x3 =>
    if ((x3 >>> (s &&& 31)) &&& (1 : Int32)) = (0 : Int32) then
      (some (.inl (s + (1 : Int32))))
    else
      (some (.inr (.inr s))))
  else
    (some (.inr (.inl ())))
def F_ra_firstOf (a0 : Nat) (a1 : Int32) (h : Hp) : Option Int32 :=
  ck h a0 6 (bn (lq (B_ra_firstOf_2 a0 a1 h) FU (0 : Int32)) fun x5 =>
  ei x5 (fun q7 =>
  some a1)
  (fun x8 => some x8))
def F_in_bitCount (a0 : Int32) : Option Int32 :=
  some ((((((((a0 - (((a0.toUInt32 >>> ((1 : Int32).toUInt32 &&& Int32.toUInt32 31)).toInt32) &&& (1431655765 : Int32))) &&& (858993459 : Int32)) + ((((a0 - (((a0.toUInt32 >>> ((1 : Int32).toUInt32 &&& Int32.toUInt32 31)).toInt32) &&& (1431655765 : Int32))).toUInt32 >>> ((2 : Int32).toUInt32 &&& Int32.toUInt32 31)).toInt32) &&& (858993459 : Int32))) + (((((a0 - (((a0.toUInt32 >>> ((1 : Int32).toUInt32 &&& Int32.toUInt32 31)).toInt32) &&& (1431655765 : Int32))) &&& (858993459 : Int32)) + ((((a0 - (((a0.toUInt32 >>> ((1 : Int32).toUInt32 &&& Int32.toUInt32 31)).toInt32) &&& (1431655765 : Int32))).toUInt32 >>> ((2 : Int32).toUInt32 &&& Int32.toUInt32 31)).toInt32) &&& (858993459 : Int32))).toUInt32 >>> ((4 : Int32).toUInt32 &&& Int32.toUInt32 31)).toInt32)) &&& (252645135 : Int32)) + (((((((a0 - (((a0.toUInt32 >>> ((1 : Int32).toUInt32 &&& Int32.toUInt32 31)).toInt32) &&& (1431655765 : Int32))) &&& (858993459 : Int32)) + ((((a0 - (((a0.toUInt32 >>> ((1 : Int32).toUInt32 &&& Int32.toUInt32 31)).toInt32) &&& (1431655765 : Int32))).toUInt32 >>> ((2 : Int32).toUInt32 &&& Int32.toUInt32 31)).toInt32) &&& (858993459 : Int32))) + (((((a0 - (((a0.toUInt32 >>> ((1 : Int32).toUInt32 &&& Int32.toUInt32 31)).toInt32) &&& (1431655765 : Int32))) &&& (858993459 : Int32)) + ((((a0 - (((a0.toUInt32 >>> ((1 : Int32).toUInt32 &&& Int32.toUInt32 31)).toInt32) &&& (1431655765 : Int32))).toUInt32 >>> ((2 : Int32).toUInt32 &&& Int32.toUInt32 31)).toInt32) &&& (858993459 : Int32))).toUInt32 >>> ((4 : Int32).toUInt32 &&& Int32.toUInt32 31)).toInt32)) &&& (252645135 : Int32)).toUInt32 >>> ((8 : Int32).toUInt32 &&& Int32.toUInt32 31)).toInt32)) + ((((((((a0 - (((a0.toUInt32 >>> ((1 : Int32).toUInt32 &&& Int32.toUInt32 31)).toInt32) &&& (1431655765 : Int32))) &&& (858993459 : Int32)) + ((((a0 - (((a0.toUInt32 >>> ((1 : Int32).toUInt32 &&& Int32.toUInt32 31)).toInt32) &&& (1431655765 : Int32))).toUInt32 >>> ((2 : Int32).toUInt32 &&& Int32.toUInt32 31)).toInt32) &&& (858993459 : Int32))) + (((((a0 - (((a0.toUInt32 >>> ((1 : Int32).toUInt32 &&& Int32.toUInt32 31)).toInt32) &&& (1431655765 : Int32))) &&& (858993459 : Int32)) + ((((a0 - (((a0.toUInt32 >>> ((1 : Int32).toUInt32 &&& Int32.toUInt32 31)).toInt32) &&& (1431655765 : Int32))).toUInt32 >>> ((2 : Int32).toUInt32 &&& Int32.toUInt32 31)).toInt32) &&& (858993459 : Int32))).toUInt32 >>> ((4 : Int32).toUInt32 &&& Int32.toUInt32 31)).toInt32)) &&& (252645135 : Int32)) + (((((((a0 - (((a0.toUInt32 >>> ((1 : Int32).toUInt32 &&& Int32.toUInt32 31)).toInt32) &&& (1431655765 : Int32))) &&& (858993459 : Int32)) + ((((a0 - (((a0.toUInt32 >>> ((1 : Int32).toUInt32 &&& Int32.toUInt32 31)).toInt32) &&& (1431655765 : Int32))).toUInt32 >>> ((2 : Int32).toUInt32 &&& Int32.toUInt32 31)).toInt32) &&& (858993459 : Int32))) + (((((a0 - (((a0.toUInt32 >>> ((1 : Int32).toUInt32 &&& Int32.toUInt32 31)).toInt32) &&& (1431655765 : Int32))) &&& (858993459 : Int32)) + ((((a0 - (((a0.toUInt32 >>> ((1 : Int32).toUInt32 &&& Int32.toUInt32 31)).toInt32) &&& (1431655765 : Int32))).toUInt32 >>> ((2 : Int32).toUInt32 &&& Int32.toUInt32 31)).toInt32) &&& (858993459 : Int32))).toUInt32 >>> ((4 : Int32).toUInt32 &&& Int32.toUInt32 31)).toInt32)) &&& (252645135 : Int32)).toUInt32 >>> ((8 : Int32).toUInt32 &&& Int32.toUInt32 31)).toInt32)).toUInt32 >>> ((16 : Int32).toUInt32 &&& Int32.toUInt32 31)).toInt32)) &&& (63 : Int32))
def F_ra_sizeOf (a0 : Nat) (a1 : Int32) (h : Hp) : Option Int32 :=
  ck h a0 6 (bn (gR h a0 6 2) fun x1 =>
  bn (aI h 100 x1 a1) fun x3 =>
  bn (F_in_bitCount x3) fun x6 =>
  some x6)
def B_ra_totalOf_4 (l0 : Nat) (l1 : Int32) (h : Hp) (s : Int32 × Int32) : Option ((Int32 × Int32) ⊕ (Int32)) :=
  bn (gI h l0 6 0) fun x1 =>
  if s.2 < x1 then
    (bn (gR h l0 6 2) fun x3 =>
    bn (aI h 100 x3 l1) fun x5 =>
    if ((x5 >>> (s.2 &&& 31)) &&& (1 : Int32)) = (0 : Int32) then
      (some (.inl (s.1, s.2 + (1 : Int32))))
    else
      (bn (gR h l0 6 1) fun x7 =>
      bn (aI h 100 x7 s.2) fun x9 =>
      some (.inl (s.1 + x9, s.2 + (1 : Int32)))))
  else
    (some (.inr s.1))
def F_ra_totalOf (a0 : Nat) (a1 : Int32) (h : Hp) : Option Int32 :=
  ck h a0 6 (bn (lq (B_ra_totalOf_4 a0 a1 h) FU ((0 : Int32), (0 : Int32))) fun x11 =>
  some x11)
def F_ma_floorDiv (a0 : Int32) (a1 : Int32) : Option Int32 :=
  bn (dv a0 a1) fun x1 =>
  if (a0 ^^^ a1) < (0 : Int32) then
    (if (x1 * a1) = a0 then
      (some x1)
    else
      (some (x1 - (1 : Int32))))
  else
    (some x1)
def B_ra_level_2 (l0 : Nat) (s : Int32) (h : Hp) : Option (((Int32) ⊕ (Unit)) × Hp) :=
  bn (gI h l0 6 0) fun x1 =>
  if s < x1 then
    (bn (F_ra_firstOf l0 s h) fun x4 =>
    if x4 < s then
      (bn (gR h l0 6 3) fun x5 =>
      bn (gR h l0 6 3) fun x7 =>
      bn (aI h 100 x7 x4) fun x9 =>
      bn (sI h 100 x5 s x9) fun h11 =>
      some (.inl (s + (1 : Int32)), h11))
    else
      (bn (F_ra_sizeOf l0 s h) fun x14 =>
      bn (gR h l0 6 3) fun x15 =>
      if (0 : Int32) < x14 then
        (bn (F_ra_totalOf l0 s h) fun x18 =>
        bn (F_ma_floorDiv x18 x14) fun x20 =>
        bn (sI h 100 x15 s x20) fun h21 =>
        some (.inl (s + (1 : Int32)), h21))
      else
        (bn (sI h 100 x15 s (0 : Int32)) fun h23 =>
        some (.inl (s + (1 : Int32)), h23))))
  else
    (some (.inr (), h))
def F_ra_level (a0 : Nat) (h : Hp) : Option Hp :=
  ck h a0 6 (bd (lp (B_ra_level_2 a0) FU (0 : Int32) h) fun x25 h27 =>
  some h27)
def F_ra_measure (a0 : Nat) (a1 : Nat) (a2 : Nat) (h : Hp) : Option Hp :=
  ck h a0 6 (bn (F_ra_weigh a0 a1 a2 h) fun h2 =>
  bn (gI h2 a2 8 2) fun x3 =>
  bn (F_ra_join a0 a1 x3 h2) fun h6 =>
  bn (F_ra_level a0 h6) fun h8 =>
  some h8)
def B_cs_led_19 (l0 : Nat) (h : Hp) (s : Int32 × Int32) : Option ((Int32 × Int32) ⊕ ((Unit) ⊕ Int32)) :=
  bn (gR h l0 11 3) fun x9 =>
  bn (gI h x9 10 1) fun x11 =>
  if s.2 < x11 then
    (if s.1 < (0 : Int32) then
      (some (.inr (.inl ())))
    else
      (bn (gR h l0 11 6) fun x13 =>
      bn (gR h x13 6 3) fun x15 =>
      bn (aI h 100 x15 s.2) fun x17 =>
      if x17 < (0 : Int32) then
        (if s.1 = (0 : Int32) then
          (some (.inr (.inr s.2)))
        else
          (some (.inl (s.1 + (-1 : Int32), s.2 + (1 : Int32)))))
      else
        (some (.inl (s.1, s.2 + (1 : Int32))))))
  else
    (some (.inr (.inl ())))
def F_cs_led (a0 : Nat) (a1 : Int32) (h : Hp) : Option (Option Int32 × Hp) :=
  ck h a0 11 (bn (gR h a0 11 6) fun x1 =>
  bn (gR h a0 11 3) fun x3 =>
  bn (gR h a0 11 4) fun x5 =>
  bn (F_ra_measure x1 x3 x5 h) fun h8 =>
  bn (lq (B_cs_led_19 a0 h8) FU (a1, (0 : Int32))) fun x19 =>
  ei x19 (fun q21 =>
  if cn h8 < 900000 then
    (some (none, mkX h8 6))
  else
    (none))
  (fun x22 => some (some x22, h8)))
def F_lw_led (a0 : Nat) (a1 : Int32) (a2 : Nat) (h : Hp) : Option (Int32 × Hp) :=
  bd (F_cs_led a0 a1 h) fun o h1 =>
  eo o (fun v => bn (sL h1 a2 (0 : Int32) v.toInt64) fun h2 => some ((0 : Int32), h2))
  (some ((1 : Int32), h1))
def F_tk_init (a0 : Nat) (h : Hp) : Option Hp :=
  bd (nA h 101 (0 : Int32)) fun x1 h2 =>
  bn (pR h2 a0 9 0 (some x1)) fun h4 =>
  some h4
def F_hs_init (a0 : Nat) (h : Hp) : Option Hp :=
  bd (nA h 100 (4 : Int32)) fun x1 h2 =>
  bn (pR h2 a0 1 1 (some x1)) fun h4 =>
  bd (nA h4 100 (4 : Int32)) fun x6 h7 =>
  bn (pR h7 a0 1 2 (some x6)) fun h9 =>
  bd (nA h9 100 (4 : Int32)) fun x11 h12 =>
  bn (pR h12 a0 1 3 (some x11)) fun h14 =>
  bd (nA h14 100 (5 : Int32)) fun x16 h17 =>
  bn (pR h17 a0 1 5 (some x16)) fun h19 =>
  bd (nA h19 100 (5 : Int32)) fun x21 h22 =>
  bn (pR h22 a0 1 6 (some x21)) fun h24 =>
  some h24
def F_to_init (a0 : Nat) (h : Hp) : Option Hp :=
  bd (nA h 100 (5 : Int32)) fun x1 h2 =>
  bn (pR h2 a0 10 3 (some x1)) fun h4 =>
  bd (nA h4 100 (25 : Int32)) fun x6 h7 =>
  bn (pR h7 a0 10 4 (some x6)) fun h9 =>
  bd (nA h9 100 (5 : Int32)) fun x11 h12 =>
  bn (pR h12 a0 10 6 (some x11)) fun h14 =>
  bd (nA h14 100 (5 : Int32)) fun x16 h17 =>
  bn (pR h17 a0 10 7 (some x16)) fun h19 =>
  bd (nA h19 100 (3 : Int32)) fun x21 h22 =>
  bn (pR h22 a0 10 9 (some x21)) fun h24 =>
  bd (nA h24 100 (3 : Int32)) fun x26 h27 =>
  bn (pR h27 a0 10 10 (some x26)) fun h29 =>
  bd (nA h29 100 (3 : Int32)) fun x31 h32 =>
  bn (pR h32 a0 10 12 (some x31)) fun h34 =>
  bd (nA h34 100 (3 : Int32)) fun x36 h37 =>
  bn (pR h37 a0 10 13 (some x36)) fun h39 =>
  bd (nA h39 100 (4 : Int32)) fun x41 h42 =>
  bn (pR h42 a0 10 15 (some x41)) fun h44 =>
  bd (nA h44 100 (4 : Int32)) fun x46 h47 =>
  bn (pR h47 a0 10 16 (some x46)) fun h49 =>
  bd (nA h49 100 (4 : Int32)) fun x51 h52 =>
  bn (pR h52 a0 10 17 (some x51)) fun h54 =>
  bd (nO h54 1) fun x56 h57 =>
  bn (F_hs_init x56 h57) fun h60 =>
  bn (pR h60 a0 10 18 (some x56)) fun h61 =>
  some h61
def F_rd_init (a0 : Nat) (h : Hp) : Option Hp :=
  bd (nO h 9) fun x1 h2 =>
  bn (F_tk_init x1 h2) fun h5 =>
  bn (pR h5 a0 7 2 (some x1)) fun h6 =>
  bd (nO h6 10) fun x8 h9 =>
  bn (F_to_init x8 h9) fun h12 =>
  bn (pR h12 a0 7 3 (some x8)) fun h13 =>
  bd (nA h13 102 (11 : Int32)) fun x15 h16 =>
  bn (pR h16 a0 7 6 (some x15)) fun h18 =>
  bd (nA h18 100 (11 : Int32)) fun x20 h21 =>
  bn (pR h21 a0 7 7 (some x20)) fun h23 =>
  bd (nA h23 100 (11 : Int32)) fun x25 h26 =>
  bn (pR h26 a0 7 8 (some x25)) fun h28 =>
  some h28
def F_st_init (a0 : Nat) (h : Hp) : Option Hp :=
  bd (nA h 100 (25 : Int32)) fun x1 h2 =>
  bn (pR h2 a0 8 0 (some x1)) fun h4 =>
  bd (nA h4 100 (3 : Int32)) fun x6 h7 =>
  bn (pR h7 a0 8 1 (some x6)) fun h9 =>
  some h9
def F_ra_init (a0 : Nat) (h : Hp) : Option Hp :=
  bd (nA h 100 (5 : Int32)) fun x1 h2 =>
  bn (pR h2 a0 6 1 (some x1)) fun h4 =>
  bd (nA h4 100 (5 : Int32)) fun x6 h7 =>
  bn (pR h7 a0 6 2 (some x6)) fun h9 =>
  bd (nA h9 100 (5 : Int32)) fun x11 h12 =>
  bn (pR h12 a0 6 3 (some x11)) fun h14 =>
  some h14
def F_me_init (a0 : Nat) (h : Hp) : Option Hp :=
  bd (nA h 100 (496 : Int32)) fun x1 h2 =>
  bn (pR h2 a0 3 0 (some x1)) fun h4 =>
  bd (nA h4 100 (93 : Int32)) fun x6 h7 =>
  bn (pR h7 a0 3 1 (some x6)) fun h9 =>
  some h9
def F_pl_init (a0 : Nat) (h : Hp) : Option Hp :=
  bd (nO h 6) fun x1 h2 =>
  bn (F_ra_init x1 h2) fun h5 =>
  bn (pR h5 a0 5 1 (some x1)) fun h6 =>
  bd (nO h6 8) fun x8 h9 =>
  bn (F_st_init x8 h9) fun h12 =>
  bn (pR h12 a0 5 2 (some x8)) fun h13 =>
  bd (nA h13 100 (20 : Int32)) fun x15 h16 =>
  bn (pR h16 a0 5 4 (some x15)) fun h18 =>
  bd (nA h18 100 (3 : Int32)) fun x20 h21 =>
  bn (pR h21 a0 5 5 (some x20)) fun h23 =>
  bd (nA h23 100 (3 : Int32)) fun x25 h26 =>
  bn (pR h26 a0 5 6 (some x25)) fun h28 =>
  bd (nA h28 100 (3 : Int32)) fun x30 h31 =>
  bn (pR h31 a0 5 7 (some x30)) fun h33 =>
  bd (nA h33 100 (3 : Int32)) fun x35 h36 =>
  bn (pR h36 a0 5 8 (some x35)) fun h38 =>
  some h38
def F_ho_init (a0 : Nat) (h : Hp) : Option Hp :=
  bd (nA h 100 (8 : Int32)) fun x1 h2 =>
  bn (pR h2 a0 2 1 (some x1)) fun h4 =>
  bd (nO h4 6) fun x6 h7 =>
  bn (F_ra_init x6 h7) fun h10 =>
  bn (pR h10 a0 2 2 (some x6)) fun h11 =>
  bd (nO h11 8) fun x13 h14 =>
  bn (F_st_init x13 h14) fun h17 =>
  bn (pR h17 a0 2 3 (some x13)) fun h18 =>
  some h18
def F_gm_init (a0 : Nat) (h : Hp) : Option Hp :=
  bd (nO h 6) fun x1 h2 =>
  bn (F_ra_init x1 h2) fun h5 =>
  bn (pR h5 a0 0 0 (some x1)) fun h6 =>
  some h6
def F_mo_init (a0 : Nat) (h : Hp) : Option Hp :=
  bd (nO h 8) fun x1 h2 =>
  bn (F_st_init x1 h2) fun h5 =>
  bn (pR h5 a0 4 4 (some x1)) fun h6 =>
  some h6
def F_cs_init (a0 : Nat) (h : Hp) : Option Hp :=
  bd (nA h 101 (1000 : Int32)) fun x1 h2 =>
  bn (pR h2 a0 11 0 (some x1)) fun h4 =>
  bd (nO h4 7) fun x6 h7 =>
  bn (F_rd_init x6 h7) fun h10 =>
  bn (pR h10 a0 11 2 (some x6)) fun h11 =>
  bd (nO h11 10) fun x13 h14 =>
  bn (F_to_init x13 h14) fun h17 =>
  bn (pR h17 a0 11 3 (some x13)) fun h18 =>
  bd (nO h18 8) fun x20 h21 =>
  bn (F_st_init x20 h21) fun h24 =>
  bn (pR h24 a0 11 4 (some x20)) fun h25 =>
  bd (nO h25 8) fun x27 h28 =>
  bn (F_st_init x27 h28) fun h31 =>
  bn (pR h31 a0 11 5 (some x27)) fun h32 =>
  bd (nO h32 6) fun x34 h35 =>
  bn (F_ra_init x34 h35) fun h38 =>
  bn (pR h38 a0 11 6 (some x34)) fun h39 =>
  bd (nO h39 3) fun x41 h42 =>
  bn (F_me_init x41 h42) fun h45 =>
  bn (pR h45 a0 11 7 (some x41)) fun h46 =>
  bd (nO h46 5) fun x48 h49 =>
  bn (F_pl_init x48 h49) fun h52 =>
  bn (pR h52 a0 11 8 (some x48)) fun h53 =>
  bd (nO h53 2) fun x55 h56 =>
  bn (F_ho_init x55 h56) fun h59 =>
  bn (pR h59 a0 11 9 (some x55)) fun h60 =>
  bd (nO h60 0) fun x62 h63 =>
  bn (F_gm_init x62 h63) fun h66 =>
  bn (pR h66 a0 11 10 (some x62)) fun h67 =>
  bd (nO h67 4) fun x69 h70 =>
  bn (F_mo_init x69 h70) fun h73 =>
  bn (pR h73 a0 11 11 (some x69)) fun h74 =>
  some h74
def B_cs_putOnTape_3 (l0 : Nat) (l1 : Int32) (s : Int32) (h : Hp) : Option (((Int32) ⊕ (Unit)) × Hp) :=
  if s < (0 : Int32) then
    (some (.inr (), h))
  else
    (bn (gI h l0 11 1) fun x1 =>
    if x1 < (1000 : Int32) then
      (bn (gR h l0 11 0) fun x3 =>
      bn (gI h l0 11 1) fun x5 =>
      bn (sI h 101 x3 x5 ((l1 >>> (s &&& 31)).toInt8.toInt32).toInt8.toInt32) fun h7 =>
      bn (gI h7 l0 11 1) fun x9 =>
      bn (pI h7 l0 11 1 (x9 + (1 : Int32))) fun h11 =>
      some (.inl (s + (-8 : Int32)), h11))
    else
      (some (.inr (), h)))
def F_cs_putOnTape (a0 : Nat) (a1 : Int32) (h : Hp) : Option Hp :=
  ck h a0 11 (bd (lp (B_cs_putOnTape_3 a0 a1) FU (24 : Int32) h) fun x13 h15 =>
  some h15)
def F_cs_feed (a0 : Nat) (a1 : Int32) (a2 : Int32) (a3 : Int32) (a4 : Int32) (a5 : Int32) (h : Hp) : Option (Int32 × Hp) :=
  ck h a0 11 (bn (gI h a0 11 1) fun x1 =>
  if (1000 : Int32) < (x1 + (20 : Int32)) then
    (some ((-1 : Int32), h))
  else
    (bn (F_cs_putOnTape a0 a1 h) fun h4 =>
    bn (F_cs_putOnTape a0 a2 h4) fun h6 =>
    bn (F_cs_putOnTape a0 a3 h6) fun h8 =>
    bn (F_cs_putOnTape a0 a4 h8) fun h10 =>
    bn (F_cs_putOnTape a0 a5 h10) fun h12 =>
    bn (gI h12 a0 11 1) fun x13 =>
    some (x13, h12)))
def F_cs_outside (a0 : Int32) (a1 : Int32) (a2 : Int32) : Option Int32 :=
  if a0 < a1 then
    (some (1 : Int32))
  else
    (if a2 < a0 then
      (some (1 : Int32))
    else
      (some (0 : Int32)))
def F_cs_refused (a0 : Nat) (a1 : Int32) (a2 : Int32) (h : Hp) : Option (Int32 × Hp) :=
  ck h a0 11 (bn (if a1 = (0 : Int32) then
      (if a2 = (0 : Int32) then
        (some (0 : Int32))
      else
        (some (2 : Int32)))
    else
      (some (1 : Int32))) fun q1 =>
  bn (pI h a0 11 12 q1) fun h2 =>
  bn (gI h2 a0 11 12) fun x4 =>
  if x4 = (0 : Int32) then
    (some ((0 : Int32), h2))
  else
    (some ((1 : Int32), h2)))
def B_to_clear_37 (l0 : Nat) (s : Int32) (h : Hp) : Option (((Int32) ⊕ (Unit)) × Hp) :=
  bn (gR h l0 10 4) fun x15 =>
  bn (aN h x15) fun x17 =>
  if s < x17 then
    (bn (gR h l0 10 4) fun x19 =>
    bn (sI h 100 x19 s (0 : Int32)) fun h21 =>
    some (.inl (s + (1 : Int32)), h21))
  else
    (some (.inr (), h))
def F_to_clear (a0 : Nat) (h : Hp) : Option Hp :=
  ck h a0 10 (bn (pI h a0 10 0 (0 : Int32)) fun h1 =>
  bn (pI h1 a0 10 1 (0 : Int32)) fun h3 =>
  bn (pI h3 a0 10 2 (0 : Int32)) fun h5 =>
  bn (pI h5 a0 10 5 (0 : Int32)) fun h7 =>
  bn (pI h7 a0 10 8 (0 : Int32)) fun h9 =>
  bn (pI h9 a0 10 11 (0 : Int32)) fun h11 =>
  bn (pI h11 a0 10 14 (0 : Int32)) fun h13 =>
  bd (lp (B_to_clear_37 a0) FU (0 : Int32) h13) fun x23 h25 =>
  bn (gR h25 a0 10 18) fun x26 =>
  bn (pI h25 x26 1 0 (0 : Int32)) fun h28 =>
  bn (gR h28 a0 10 18) fun x30 =>
  bn (pI h28 x30 1 4 (0 : Int32)) fun h32 =>
  some h32)
def F_ma_min (a0 : Int32) (a1 : Int32) : Option Int32 :=
  if a1 < a0 then
    (some a1)
  else
    (some a0)
def F_tk_isLetter (a0 : Int32) : Option Int32 :=
  if a0 < (97 : Int32) then
    (some (0 : Int32))
  else
    (if (122 : Int32) < a0 then
      (some (0 : Int32))
    else
      (some (1 : Int32)))
def F_tk_isDigit (a0 : Int32) : Option Int32 :=
  if a0 < (48 : Int32) then
    (some (0 : Int32))
  else
    (if (57 : Int32) < a0 then
      (some (0 : Int32))
    else
      (some (1 : Int32)))
def B_tk_advance_8 (l0 : Nat) (s : Unit) (h : Hp) : Option (((Unit) ⊕ (Unit)) × Hp) :=
  bn (gI h l0 9 3) fun x5 =>
  bn (gI h l0 9 1) fun x7 =>
  if x5 < x7 then
    (bn (gR h l0 9 0) fun x9 =>
    bn (gI h l0 9 3) fun x11 =>
    bn (aI h 101 x9 x11) fun x13 =>
    if x13 = (32 : Int32) then
      (bn (gI h l0 9 3) fun x15 =>
      bn (pI h l0 9 3 (x15 + (1 : Int32))) fun h17 =>
      some (.inl (), h17))
    else
      (some (.inr (), h)))
  else
    (some (.inr (), h))
def B_tk_advance_59 (l0 : Nat) (s : Unit) (h : Hp) : Option (((Unit) ⊕ (Unit)) × Hp) :=
  bn (gI h l0 9 2) fun x28 =>
  bn (gI h l0 9 1) fun x30 =>
  if x28 < x30 then
    (bn (gR h l0 9 0) fun x32 =>
    bn (gI h l0 9 2) fun x34 =>
    bn (aI h 101 x32 x34) fun x36 =>
    bn (F_tk_isLetter x36) fun x39 =>
    if x39 = (0 : Int32) then
      (some (.inr (), h))
    else
      (bn (gL h l0 9 6) fun x40 =>
      bn (gR h l0 9 0) fun x42 =>
      bn (gI h l0 9 2) fun x44 =>
      bn (aI h 101 x42 x44) fun x46 =>
      bn (pL h l0 9 6 ((x40 * (27 : Int64)) + (((x46 - (97 : Int32)) + (1 : Int32)).toInt64))) fun h48 =>
      bn (gI h48 l0 9 2) fun x50 =>
      bn (pI h48 l0 9 2 (x50 + (1 : Int32))) fun h52 =>
      some (.inl (), h52)))
  else
    (some (.inr (), h))
def B_tk_advance_166 (l0 : Nat) (s : Unit) (h : Hp) : Option (((Unit) ⊕ (Unit)) × Hp) :=
  bn (gI h l0 9 2) fun x71 =>
  bn (gI h l0 9 1) fun x73 =>
  if x71 < x73 then
    (bn (gR h l0 9 0) fun x75 =>
    bn (gI h l0 9 2) fun x77 =>
    bn (aI h 101 x75 x77) fun x79 =>
    bn (F_tk_isDigit x79) fun x82 =>
    if x82 = (0 : Int32) then
      (some (.inr (), h))
    else
      (bn (gI h l0 9 5) fun x83 =>
      bn (gR h l0 9 0) fun x85 =>
      bn (gI h l0 9 2) fun x87 =>
      bn (aI h 101 x85 x87) fun x89 =>
      bn (pI h l0 9 5 ((x83 * (10 : Int32)) + (x89 - (48 : Int32)))) fun h91 =>
      bn (gI h91 l0 9 2) fun x93 =>
      bn (pI h91 l0 9 2 (x93 + (1 : Int32))) fun h95 =>
      some (.inl (), h95)))
  else
    (some (.inr (), h))
def F_tk_advance (a0 : Nat) (h : Hp) : Option Hp :=
  ck h a0 9 (bn (gI h a0 9 2) fun x1 =>
  bn (pI h a0 9 3 x1) fun h3 =>
  bd (lp (B_tk_advance_8 a0) FU () h3) fun x19 h21 =>
  bn (gI h21 a0 9 3) fun x22 =>
  bn (pI h21 a0 9 2 x22) fun h24 =>
  bn (pL h24 a0 9 6 (0 : Int64)) fun h26 =>
  bd (lp (B_tk_advance_59 a0) FU () h26) fun x54 h56 =>
  bn (gI h56 a0 9 2) fun x57 =>
  bn (gI h56 a0 9 3) fun x59 =>
  if x59 < x57 then
    (bn (gI h56 a0 9 2) fun x61 =>
    bn (gI h56 a0 9 3) fun x63 =>
    if (8 : Int32) < (x61 - x63) then
      (bn (pI h56 a0 9 4 (4 : Int32)) fun h65 =>
      some h65)
    else
      (bn (pI h56 a0 9 4 (0 : Int32)) fun h67 =>
      some h67))
  else
    (bn (pI h56 a0 9 5 (0 : Int32)) fun h69 =>
    bd (lp (B_tk_advance_166 a0) FU () h69) fun x97 h99 =>
    bn (gI h99 a0 9 2) fun x100 =>
    bn (gI h99 a0 9 3) fun x102 =>
    if x102 < x100 then
      (bn (gI h99 a0 9 2) fun x104 =>
      bn (gI h99 a0 9 3) fun x106 =>
      if (3 : Int32) < (x104 - x106) then
        (bn (pI h99 a0 9 4 (4 : Int32)) fun h108 =>
        some h108)
      else
        (bn (pI h99 a0 9 4 (1 : Int32)) fun h110 =>
        some h110))
    else
      (bn (gI h99 a0 9 3) fun x112 =>
      bn (gI h99 a0 9 1) fun x114 =>
      if x112 < x114 then
        (bn (gR h99 a0 9 0) fun x116 =>
        bn (gI h99 a0 9 3) fun x118 =>
        bn (aI h99 101 x116 x118) fun x120 =>
        bn (if x120 = (59 : Int32) then
            (some (2 : Int32))
          else
            (some (4 : Int32))) fun q122 =>
        bn (pI h99 a0 9 4 q122) fun h123 =>
        bn (gI h123 a0 9 2) fun x125 =>
        bn (pI h123 a0 9 2 (x125 + (1 : Int32))) fun h127 =>
        some h127)
      else
        (bn (pI h99 a0 9 4 (3 : Int32)) fun h129 =>
        some h129))))
def F_tk_start (a0 : Nat) (a1 : Nat) (a2 : Int32) (h : Hp) : Option Hp :=
  ck h a0 9 (bn (pR h a0 9 0 (some a1)) fun h1 =>
  bn (gR h1 a0 9 0) fun x3 =>
  bn (aN h1 x3) fun x5 =>
  bn (F_ma_min a2 x5) fun x8 =>
  bn (pI h1 a0 9 1 x8) fun h9 =>
  bn (pI h9 a0 9 2 (0 : Int32)) fun h11 =>
  bn (F_tk_advance a0 h11) fun h14 =>
  some h14)
def F_sg_coder (a0 : Nat) (h : Hp) : Option Int32 :=
  ck h a0 50 (if (1 : Int32) = (0 : Int32) then
    (some (1 : Int32))
  else
    (bn (gI h a0 50 1) fun x1 =>
    if retV .byte x1 = true then
      (some x1)
    else
      (none)))
def F_sg_length (a0 : Nat) (h : Hp) : Option Int32 :=
  ck h a0 50 (bn (gR h a0 50 0) fun x1 =>
  bn (aN h x1) fun x3 =>
  bn (F_sg_coder a0 h) fun x6 =>
  some (x3 >>> (x6 &&& 31)))
def F_sg_isLatin1 (a0 : Nat) (h : Hp) : Option Int32 :=
  ck h a0 50 (if (1 : Int32) = (0 : Int32) then
    (some (0 : Int32))
  else
    (bn (gI h a0 50 1) fun x1 =>
    if x1 = (0 : Int32) then
      (some (1 : Int32))
    else
      (some (0 : Int32))))
def F_pq_checkIndex (a0 : Int32) (a1 : Int32) : Option Int32 :=
  bn (if a0 < (0 : Int32) then
      (some (Sum.inl ()))
    else
      (if a0 < a1 then
        (some (Sum.inr a0))
      else
        (some (Sum.inl ())))) fun x3 =>
  ei x3 (fun z2 =>
  none)
  (fun z => some z)
def F_sg_checkIndex (a0 : Int32) (a1 : Int32) : Option Unit :=
  bn (F_pq_checkIndex a0 a1) fun x2 =>
  some ()
def F_sl_charAt (a0 : Nat) (a1 : Int32) (h : Hp) : Option Int32 :=
  bn (aN h a0) fun x1 =>
  bn (F_sg_checkIndex a1 x1) fun _ =>
  bn (aI h 101 a0 a1) fun x4 =>
  if retV .char (((x4 &&& (255 : Int32)).toUInt32 % 65536).toInt32) = true then
    (some (((x4 &&& (255 : Int32)).toUInt32 % 65536).toInt32))
  else
    (none)
def F_sg_charAt (a0 : Nat) (a1 : Int32) (h : Hp) : Option Int32 :=
  ck h a0 50 (bn (F_sg_isLatin1 a0 h) fun x2 =>
  if x2 = (0 : Int32) then
    (bn (gR h a0 50 0) fun x3 =>
    none)
  else
    (bn (gR h a0 50 0) fun x5 =>
    bn (F_sl_charAt x5 a1 h) fun x8 =>
    if retV .char x8 = true then
      (some x8)
    else
      (none)))
def B_tk_isWord_27 (l0 : Nat) (l1 : Nat) (h : Hp) (s : Int32) : Option ((Int32) ⊕ ((Unit) ⊕ Int32)) :=
  bn (F_sg_length l1 h) fun x10 =>
  if s < x10 then
    (bn (F_sg_charAt l1 s h) fun x12 =>
    bn (gR h l0 9 0) fun x13 =>
    bn (gI h l0 9 3) fun x15 =>
    bn (aI h 101 x13 (x15 + s)) fun x17 =>
    if x12 = x17 then
      (some (.inl (s + (1 : Int32))))
    else
      (some (.inr (.inr (0 : Int32)))))
  else
    (some (.inr (.inl ())))
def F_tk_isWord (a0 : Nat) (a1 : Nat) (h : Hp) : Option Int32 :=
  ck h a0 9 (bn (gI h a0 9 4) fun x1 =>
  if x1 = (0 : Int32) then
    (bn (F_sg_length a1 h) fun x4 =>
    bn (gI h a0 9 2) fun x5 =>
    bn (gI h a0 9 3) fun x7 =>
    if x4 = (x5 - x7) then
      (bn (lq (B_tk_isWord_27 a0 a1 h) FU (0 : Int32)) fun x19 =>
      ei x19 (fun q21 =>
      some (1 : Int32))
      (fun x22 => some x22))
    else
      (some (0 : Int32)))
  else
    (some (0 : Int32)))
def F_rd_lineSort (a0 : Nat) (h : Hp) : Option Int32 :=
  ck h a0 7 (bn (gR h a0 7 2) fun x1 =>
  bn (F_tk_isWord x1 1000003 h) fun x4 =>
  if x4 = (0 : Int32) then
    (bn (gR h a0 7 2) fun x5 =>
    bn (F_tk_isWord x5 1000004 h) fun x8 =>
    if x8 = (0 : Int32) then
      (bn (gR h a0 7 2) fun x9 =>
      bn (F_tk_isWord x9 1000005 h) fun x12 =>
      if x12 = (0 : Int32) then
        (bn (gR h a0 7 2) fun x13 =>
        bn (F_tk_isWord x13 1000006 h) fun x16 =>
        if x16 = (0 : Int32) then
          (bn (gR h a0 7 2) fun x17 =>
          bn (F_tk_isWord x17 1000007 h) fun x20 =>
          if x20 = (0 : Int32) then
            (bn (gR h a0 7 2) fun x21 =>
            bn (F_tk_isWord x21 1000008 h) fun x24 =>
            if x24 = (0 : Int32) then
              (bn (gR h a0 7 2) fun x25 =>
              bn (F_tk_isWord x25 1000009 h) fun x28 =>
              if x28 = (0 : Int32) then
                (bn (gR h a0 7 2) fun x29 =>
                bn (F_tk_isWord x29 1000010 h) fun x32 =>
                if x32 = (0 : Int32) then
                  (bn (gR h a0 7 2) fun x33 =>
                  bn (F_tk_isWord x33 1000011 h) fun x36 =>
                  if x36 = (0 : Int32) then
                    (some (-1 : Int32))
                  else
                    (some (8 : Int32)))
                else
                  (some (7 : Int32)))
              else
                (some (6 : Int32)))
            else
              (some (5 : Int32)))
          else
            (some (4 : Int32)))
        else
          (some (3 : Int32)))
      else
        (some (2 : Int32)))
    else
      (some (1 : Int32)))
  else
    (some (0 : Int32)))
def F_rd_fail (a0 : Nat) (a1 : Int32) (h : Hp) : Option (Int32 × Hp) :=
  ck h a0 7 (bn (pI h a0 7 0 a1) fun h1 =>
  bn (gR h1 a0 7 2) fun x3 =>
  bn (gI h1 x3 9 3) fun x5 =>
  bn (pI h1 a0 7 1 x5) fun h7 =>
  some ((0 : Int32), h7))
def F_rd_hasRoomFor (a0 : Nat) (a1 : Int32) (h : Hp) : Option Int32 :=
  ck h a0 7 (if (a1).toInt < 1 ∨ 7 < (a1).toInt then
    (some (1 : Int32))
  else if a1 = (1 : Int32) then
    (bn (gR h a0 7 3) fun x1 =>
    bn (gI h x1 10 1) fun x3 =>
    if x3 < (5 : Int32) then
      (some (1 : Int32))
    else
      (some (0 : Int32)))
  else if a1 = (2 : Int32) then
    (bn (gR h a0 7 3) fun x5 =>
    bn (gI h x5 10 5) fun x7 =>
    if x7 < (5 : Int32) then
      (some (1 : Int32))
    else
      (some (0 : Int32)))
  else if a1 = (3 : Int32) then
    (some (1 : Int32))
  else if a1 = (4 : Int32) then
    (bn (gR h a0 7 3) fun x9 =>
    bn (gI h x9 10 8) fun x11 =>
    if x11 < (3 : Int32) then
      (some (1 : Int32))
    else
      (some (0 : Int32)))
  else if a1 = (5 : Int32) then
    (bn (gR h a0 7 3) fun x13 =>
    bn (gI h x13 10 11) fun x15 =>
    if x15 < (3 : Int32) then
      (some (1 : Int32))
    else
      (some (0 : Int32)))
  else if a1 = (6 : Int32) then
    (bn (gR h a0 7 3) fun x17 =>
    bn (gI h x17 10 14) fun x19 =>
    if x19 < (4 : Int32) then
      (some (1 : Int32))
    else
      (some (0 : Int32)))
  else if a1 = (7 : Int32) then
    (bn (gR h a0 7 3) fun x21 =>
    bn (gR h x21 10 18) fun x23 =>
    bn (gI h x23 1 0) fun x25 =>
    if x25 < (4 : Int32) then
      (some (1 : Int32))
    else
      (some (0 : Int32)))
  else none)
def F_rd_takeWord (a0 : Nat) (a1 : Nat) (h : Hp) : Option (Int32 × Hp) :=
  ck h a0 7 (bn (gR h a0 7 2) fun x1 =>
  bn (F_tk_isWord x1 a1 h) fun x4 =>
  if x4 = (0 : Int32) then
    (bd (F_rd_fail a0 (1 : Int32) h) fun x6 h7 =>
    if retV .boolean x6 = true then
      (some (x6, h7))
    else
      (none))
  else
    (bn (gR h a0 7 2) fun x8 =>
    bn (F_tk_advance x8 h) fun h11 =>
    some ((1 : Int32), h11)))
def F_rd_takeWhole (a0 : Nat) (a1 : Int32) (a2 : Int32) (h : Hp) : Option (Int32 × Hp) :=
  ck h a0 7 (bn (gR h a0 7 2) fun x1 =>
  bn (gI h x1 9 4) fun x3 =>
  if x3 = (1 : Int32) then
    (bn (gR h a0 7 2) fun x5 =>
    bn (gI h x5 9 5) fun x7 =>
    bn (if x7 < a1 then
        (some (Sum.inl ()))
      else
        (bn (gR h a0 7 2) fun x9 =>
        bn (gI h x9 9 5) fun x11 =>
        if a2 < x11 then
          (some (Sum.inl ()))
        else
          (bn (gR h a0 7 2) fun x13 =>
          bn (gI h x13 9 5) fun x15 =>
          bn (pI h a0 7 9 x15) fun h17 =>
          bn (gR h17 a0 7 2) fun x19 =>
          bn (F_tk_advance x19 h17) fun h22 =>
          some (Sum.inr ((1 : Int32), h22))))) fun x28 =>
    ei x28 (fun z24 =>
    bd (F_rd_fail a0 (4 : Int32) h) fun x26 h27 =>
    if retV .boolean x26 = true then
      (some (x26, h27))
    else
      (none))
    (fun z => some z))
  else
    (bd (F_rd_fail a0 (1 : Int32) h) fun x30 h31 =>
    if retV .boolean x30 = true then
      (some (x30, h31))
    else
      (none)))
def F_rd_readMice (a0 : Nat) (h : Hp) : Option (Int32 × Hp) :=
  ck h a0 7 (bd (F_rd_takeWord a0 1000012 h) fun x2 h3 =>
  if x2 = (0 : Int32) then
    (some ((0 : Int32), h3))
  else
    (bd (F_rd_takeWhole a0 (0 : Int32) (100 : Int32) h3) fun x5 h6 =>
    if x5 = (0 : Int32) then
      (some ((0 : Int32), h6))
    else
      (bn (gR h6 a0 7 3) fun x7 =>
      bn (gI h6 a0 7 9) fun x9 =>
      bn (pI h6 x7 10 0 x9) fun h11 =>
      bn (pZ h11 a0 7 4 (1 : Int32)) fun h13 =>
      some ((1 : Int32), h13))))
def B_rd_findName_2 (l0 : Nat) (h : Hp) (s : Int32) : Option ((Int32) ⊕ ((Unit) ⊕ Int32)) :=
  bn (gI h l0 7 5) fun x1 =>
  if s < x1 then
    (bn (gR h l0 7 6) fun x3 =>
    bn (aL h x3 s) fun x5 =>
    bn (gR h l0 7 2) fun x7 =>
    bn (gL h x7 9 6) fun x9 =>
    if (lg_cmp x5 x9) = (0 : Int32) then
      (some (.inr (.inr s)))
    else
      (some (.inl (s + (1 : Int32)))))
  else
    (some (.inr (.inl ())))
def F_rd_findName (a0 : Nat) (h : Hp) : Option Int32 :=
  ck h a0 7 (bn (lq (B_rd_findName_2 a0 h) FU (0 : Int32)) fun x11 =>
  ei x11 (fun q13 =>
  some (-1 : Int32))
  (fun x14 => some x14))
def F_rd_takeNewName (a0 : Nat) (a1 : Int32) (a2 : Int32) (h : Hp) : Option (Int32 × Hp) :=
  ck h a0 7 (bn (gR h a0 7 2) fun x1 =>
  bn (gI h x1 9 4) fun x3 =>
  bn (if x3 = (0 : Int32) then
      (bn (F_rd_lineSort a0 h) fun x6 =>
      if x6 = (-1 : Int32) then
        (bn (F_rd_findName a0 h) fun x8 =>
        if x8 < (0 : Int32) then
          (bn (gI h a0 7 5) fun x9 =>
          if x9 < (11 : Int32) then
            (bn (gR h a0 7 6) fun x11 =>
            bn (gI h a0 7 5) fun x13 =>
            bn (gR h a0 7 2) fun x15 =>
            bn (gL h x15 9 6) fun x17 =>
            bn (sL h x11 x13 x17) fun h19 =>
            bn (gR h19 a0 7 7) fun x21 =>
            bn (gI h19 a0 7 5) fun x23 =>
            bn (sI h19 100 x21 x23 a1) fun h25 =>
            bn (gR h25 a0 7 8) fun x27 =>
            bn (gI h25 a0 7 5) fun x29 =>
            bn (sI h25 100 x27 x29 a2) fun h31 =>
            bn (gI h31 a0 7 5) fun x33 =>
            bn (pI h31 a0 7 5 (x33 + (1 : Int32))) fun h35 =>
            bn (gR h35 a0 7 2) fun x37 =>
            bn (F_tk_advance x37 h35) fun h40 =>
            some (Sum.inr ((1 : Int32), h40)))
          else
            (bd (F_rd_fail a0 (5 : Int32) h) fun x42 h43 =>
            if retV .boolean x42 = true then
              (some (Sum.inr (x42, h43)))
            else
              (none)))
        else
          (bd (F_rd_fail a0 (3 : Int32) h) fun x45 h46 =>
          if retV .boolean x45 = true then
            (some (Sum.inr (x45, h46)))
          else
            (none)))
      else
        (some (Sum.inl ())))
    else
      (some (Sum.inl ()))) fun x52 =>
  ei x52 (fun z48 =>
  bd (F_rd_fail a0 (1 : Int32) h) fun x50 h51 =>
  if retV .boolean x50 = true then
    (some (x50, h51))
  else
    (none))
  (fun z => some z))
def F_rd_readHouse (a0 : Nat) (h : Hp) : Option (Int32 × Hp) :=
  ck h a0 7 (bn (gR h a0 7 3) fun x1 =>
  bn (gI h x1 10 1) fun x3 =>
  bd (F_rd_takeNewName a0 (1 : Int32) x3 h) fun x6 h7 =>
  if x6 = (0 : Int32) then
    (some ((0 : Int32), h7))
  else
    (bn (gR h7 a0 7 2) fun x8 =>
    bn (F_tk_isWord x8 1000013 h7) fun x11 =>
    bn (if x11 = (0 : Int32) then
        (bn (gR h7 a0 7 2) fun x12 =>
        bn (F_tk_isWord x12 1000014 h7) fun x15 =>
        if x15 = (0 : Int32) then
          (bd (F_rd_fail a0 (1 : Int32) h7) fun x17 h18 =>
          if retV .boolean x17 = true then
            (some (Sum.inr (x17, h18)))
          else
            (none))
        else
          (some (Sum.inl h7)))
      else
        (bn (gR h7 a0 7 3) fun x19 =>
        bn (gI h7 x19 10 2) fun x21 =>
        bn (pI h7 x19 10 2 (x21 ||| ((1 : Int32) <<< (x3 &&& 31)))) fun h23 =>
        some (Sum.inl h23))) fun x52 =>
    ei x52 (fun z27 =>
    bn (gR z27 a0 7 2) fun x28 =>
    bn (F_tk_advance x28 z27) fun h31 =>
    bd (F_rd_takeWord a0 1000015 h31) fun x33 h34 =>
    if x33 = (0 : Int32) then
      (some ((0 : Int32), h34))
    else
      (bd (F_rd_takeWhole a0 (0 : Int32) (99 : Int32) h34) fun x36 h37 =>
      if x36 = (0 : Int32) then
        (some ((0 : Int32), h37))
      else
        (bn (gR h37 a0 7 3) fun x38 =>
        bn (gR h37 x38 10 3) fun x40 =>
        bn (gI h37 a0 7 9) fun x42 =>
        bn (sI h37 100 x40 x3 x42) fun h44 =>
        bn (gR h44 a0 7 3) fun x46 =>
        bn (gI h44 x46 10 1) fun x48 =>
        bn (pI h44 x46 10 1 (x48 + (1 : Int32))) fun h50 =>
        some ((1 : Int32), h50))))
    (fun z => some z)))
def F_rd_numberOfName (a0 : Nat) (a1 : Int32) (h : Hp) : Option (Int32 × Hp) :=
  ck h a0 7 (bn (gR h a0 7 2) fun x1 =>
  bn (gI h x1 9 4) fun x3 =>
  bn (if x3 = (0 : Int32) then
      (bn (F_rd_lineSort a0 h) fun x6 =>
      if x6 = (-1 : Int32) then
        (bn (F_rd_findName a0 h) fun x8 =>
        bn (if x8 < (0 : Int32) then
            (some (Sum.inl ()))
          else
            (bn (gR h a0 7 7) fun x9 =>
            bn (aI h 100 x9 x8) fun x11 =>
            if x11 = a1 then
              (bn (gR h a0 7 8) fun x13 =>
              bn (aI h 100 x13 x8) fun x15 =>
              some (Sum.inr (Sum.inr (x15, h))))
            else
              (some (Sum.inl ())))) fun x22 =>
        ei x22 (fun z18 =>
        bd (F_rd_fail a0 (2 : Int32) h) fun x20 h21 =>
        some (Sum.inr ((-1 : Int32), h21)))
        (fun z => some z))
      else
        (some (Sum.inl ())))
    else
      (some (Sum.inl ()))) fun x28 =>
  ei x28 (fun z24 =>
  bd (F_rd_fail a0 (1 : Int32) h) fun x26 h27 =>
  some ((-1 : Int32), h27))
  (fun z => some z))
def F_ma_max (a0 : Int32) (a1 : Int32) : Option Int32 :=
  if a0 < a1 then
    (some a1)
  else
    (some a0)
def B_to_hasRope_2 (l0 : Nat) (l1 : Int32) (l2 : Int32) (h : Hp) (s : Int32) : Option ((Int32) ⊕ ((Unit) ⊕ Int32)) :=
  bn (gI h l0 10 5) fun x1 =>
  if s < x1 then
    (bn (gR h l0 10 6) fun x3 =>
    bn (aI h 100 x3 s) fun x5 =>
    bn (F_ma_min l1 l2) fun x8 =>
    if x5 = x8 then
      (bn (gR h l0 10 7) fun x9 =>
      bn (aI h 100 x9 s) fun x11 =>
      bn (F_ma_max l1 l2) fun x14 =>
      if x11 = x14 then
        (some (.inr (.inr (1 : Int32))))
      else
        (some (.inl (s + (1 : Int32)))))
    else
      (some (.inl (s + (1 : Int32)))))
  else
    (some (.inr (.inl ())))
def F_to_hasRope (a0 : Nat) (a1 : Int32) (a2 : Int32) (h : Hp) : Option Int32 :=
  ck h a0 10 (bn (lq (B_to_hasRope_2 a0 a1 a2 h) FU (0 : Int32)) fun x15 =>
  ei x15 (fun q17 =>
  some (0 : Int32))
  (fun x18 => some x18))
def F_rd_readRope (a0 : Nat) (h : Hp) : Option (Int32 × Hp) :=
  ck h a0 7 (bd (F_rd_numberOfName a0 (1 : Int32) h) fun x2 h3 =>
  if x2 < (0 : Int32) then
    (some ((0 : Int32), h3))
  else
    (bn (gR h3 a0 7 2) fun x4 =>
    bn (F_tk_advance x4 h3) fun h7 =>
    bd (F_rd_numberOfName a0 (1 : Int32) h7) fun x9 h10 =>
    if x9 < (0 : Int32) then
      (some ((0 : Int32), h10))
    else
      (bn (if x2 = x9 then
          (some (Sum.inl ()))
        else
          (bn (gR h10 a0 7 3) fun x11 =>
          bn (F_to_hasRope x11 x2 x9 h10) fun x14 =>
          if x14 = (0 : Int32) then
            (bn (gR h10 a0 7 2) fun x15 =>
            bn (F_tk_advance x15 h10) fun h18 =>
            bn (gR h18 a0 7 3) fun x19 =>
            bn (gR h18 x19 10 6) fun x21 =>
            bn (gR h18 a0 7 3) fun x23 =>
            bn (gI h18 x23 10 5) fun x25 =>
            bn (F_ma_min x2 x9) fun x28 =>
            bn (sI h18 100 x21 x25 x28) fun h29 =>
            bn (gR h29 a0 7 3) fun x31 =>
            bn (gR h29 x31 10 7) fun x33 =>
            bn (gR h29 a0 7 3) fun x35 =>
            bn (gI h29 x35 10 5) fun x37 =>
            bn (F_ma_max x2 x9) fun x40 =>
            bn (sI h29 100 x33 x37 x40) fun h41 =>
            bn (gR h41 a0 7 3) fun x43 =>
            bn (gI h41 x43 10 5) fun x45 =>
            bn (pI h41 x43 10 5 (x45 + (1 : Int32))) fun h47 =>
            some (Sum.inr ((1 : Int32), h47)))
          else
            (some (Sum.inl ())))) fun x54 =>
      ei x54 (fun z50 =>
      bd (F_rd_fail a0 (3 : Int32) h10) fun x52 h53 =>
      if retV .boolean x52 = true then
        (some (x52, h53))
      else
        (none))
      (fun z => some z))))
def F_rd_kindHere (a0 : Nat) (h : Hp) : Option Int32 :=
  ck h a0 7 (bn (gR h a0 7 2) fun x1 =>
  bn (F_tk_isWord x1 1000016 h) fun x4 =>
  if x4 = (0 : Int32) then
    (bn (gR h a0 7 2) fun x5 =>
    bn (F_tk_isWord x5 1000017 h) fun x8 =>
    if x8 = (0 : Int32) then
      (bn (gR h a0 7 2) fun x9 =>
      bn (F_tk_isWord x9 1000018 h) fun x12 =>
      if x12 = (0 : Int32) then
        (bn (gR h a0 7 2) fun x13 =>
        bn (F_tk_isWord x13 1000019 h) fun x16 =>
        if x16 = (0 : Int32) then
          (bn (gR h a0 7 2) fun x17 =>
          bn (F_tk_isWord x17 1000020 h) fun x20 =>
          if x20 = (0 : Int32) then
            (some (-1 : Int32))
          else
            (some (4 : Int32)))
        else
          (some (3 : Int32)))
      else
        (some (2 : Int32)))
    else
      (some (1 : Int32)))
  else
    (some (0 : Int32)))
def F_rd_readCorks (a0 : Nat) (h : Hp) : Option (Int32 × Hp) :=
  ck h a0 7 (bd (F_rd_numberOfName a0 (1 : Int32) h) fun x2 h3 =>
  if x2 < (0 : Int32) then
    (some ((0 : Int32), h3))
  else
    (bn (gR h3 a0 7 2) fun x4 =>
    bn (F_tk_advance x4 h3) fun h7 =>
    bn (F_rd_kindHere a0 h7) fun x9 =>
    if x9 < (0 : Int32) then
      (bd (F_rd_fail a0 (1 : Int32) h7) fun x11 h12 =>
      if retV .boolean x11 = true then
        (some (x11, h12))
      else
        (none))
    else
      (bn (gR h7 a0 7 3) fun x13 =>
      bn (gR h7 x13 10 4) fun x15 =>
      bn (aI h7 100 x15 ((x2 * (5 : Int32)) + x9)) fun x17 =>
      if (0 : Int32) < x17 then
        (bd (F_rd_fail a0 (3 : Int32) h7) fun x20 h21 =>
        if retV .boolean x20 = true then
          (some (x20, h21))
        else
          (none))
      else
        (bn (gR h7 a0 7 2) fun x22 =>
        bn (F_tk_advance x22 h7) fun h25 =>
        bd (F_rd_takeWhole a0 (1 : Int32) (30 : Int32) h25) fun x27 h28 =>
        if x27 = (0 : Int32) then
          (some ((0 : Int32), h28))
        else
          (bn (gR h28 a0 7 3) fun x29 =>
          bn (gR h28 x29 10 4) fun x31 =>
          bn (gI h28 a0 7 9) fun x33 =>
          bn (sI h28 100 x31 ((x2 * (5 : Int32)) + x9) x33) fun h35 =>
          some ((1 : Int32), h35))))))
def F_rd_readGuest (a0 : Nat) (h : Hp) : Option (Int32 × Hp) :=
  ck h a0 7 (bn (gR h a0 7 3) fun x1 =>
  bn (gI h x1 10 8) fun x3 =>
  bd (F_rd_takeNewName a0 (4 : Int32) x3 h) fun x6 h7 =>
  if x6 = (0 : Int32) then
    (some ((0 : Int32), h7))
  else
    (bd (F_rd_takeWord a0 1000015 h7) fun x9 h10 =>
    if x9 = (0 : Int32) then
      (some ((0 : Int32), h10))
    else
      (bd (F_rd_takeWhole a0 (1 : Int32) (50 : Int32) h10) fun x12 h13 =>
      if x12 = (0 : Int32) then
        (some ((0 : Int32), h13))
      else
        (bd (F_rd_takeWord a0 1000021 h13) fun x15 h16 =>
        if x15 = (0 : Int32) then
          (some ((0 : Int32), h16))
        else
          (bd (F_rd_numberOfName a0 (1 : Int32) h16) fun x18 h19 =>
          if x18 < (0 : Int32) then
            (some ((0 : Int32), h19))
          else
            (bn (gR h19 a0 7 2) fun x20 =>
            bn (F_tk_advance x20 h19) fun h23 =>
            bn (gR h23 a0 7 3) fun x24 =>
            bn (gR h23 x24 10 9) fun x26 =>
            bn (gI h23 a0 7 9) fun x28 =>
            bn (sI h23 100 x26 x3 x28) fun h30 =>
            bn (gR h30 a0 7 3) fun x32 =>
            bn (gR h30 x32 10 10) fun x34 =>
            bn (sI h30 100 x34 x3 x18) fun h36 =>
            bn (gR h36 a0 7 3) fun x38 =>
            bn (gI h36 x38 10 8) fun x40 =>
            bn (pI h36 x38 10 8 (x40 + (1 : Int32))) fun h42 =>
            some ((1 : Int32), h42)))))))
def F_rd_readDrinker (a0 : Nat) (h : Hp) : Option (Int32 × Hp) :=
  ck h a0 7 (bn (gR h a0 7 3) fun x1 =>
  bn (gI h x1 10 11) fun x3 =>
  bd (F_rd_takeNewName a0 (5 : Int32) x3 h) fun x6 h7 =>
  if x6 = (0 : Int32) then
    (some ((0 : Int32), h7))
  else
    (bn (F_rd_kindHere a0 h7) fun x9 =>
    bn (if x9 = (0 : Int32) then
        (some (Sum.inl ()))
      else
        (if x9 = (3 : Int32) then
          (some (Sum.inl ()))
        else
          (if x9 = (4 : Int32) then
            (some (Sum.inl ()))
          else
            (bd (F_rd_fail a0 (1 : Int32) h7) fun x11 h12 =>
            if retV .boolean x11 = true then
              (some (Sum.inr (x11, h12)))
            else
              (none))))) fun x45 =>
    ei x45 (fun z14 =>
    bn (gR h7 a0 7 2) fun x15 =>
    bn (F_tk_advance x15 h7) fun h18 =>
    bd (F_rd_takeWord a0 1000022 h18) fun x20 h21 =>
    if x20 = (0 : Int32) then
      (some ((0 : Int32), h21))
    else
      (bd (F_rd_takeWhole a0 (1 : Int32) (9 : Int32) h21) fun x23 h24 =>
      if x23 = (0 : Int32) then
        (some ((0 : Int32), h24))
      else
        (bn (gR h24 a0 7 3) fun x25 =>
        bn (gR h24 x25 10 12) fun x27 =>
        bn (sI h24 100 x27 x3 x9) fun h29 =>
        bn (gR h29 a0 7 3) fun x31 =>
        bn (gR h29 x31 10 13) fun x33 =>
        bn (gI h29 a0 7 9) fun x35 =>
        bn (sI h29 100 x33 x3 x35) fun h37 =>
        bn (gR h37 a0 7 3) fun x39 =>
        bn (gI h37 x39 10 11) fun x41 =>
        bn (pI h37 x39 10 11 (x41 + (1 : Int32))) fun h43 =>
        some ((1 : Int32), h43))))
    (fun z => some z)))
def F_rd_readFeast (a0 : Nat) (h : Hp) : Option (Int32 × Hp) :=
  ck h a0 7 (bn (gR h a0 7 3) fun x1 =>
  bn (gI h x1 10 14) fun x3 =>
  bd (F_rd_numberOfName a0 (1 : Int32) h) fun x6 h7 =>
  if x6 < (0 : Int32) then
    (some ((0 : Int32), h7))
  else
    (bn (gR h7 a0 7 2) fun x8 =>
    bn (F_tk_advance x8 h7) fun h11 =>
    bd (F_rd_takeWord a0 1000023 h11) fun x13 h14 =>
    if x13 = (0 : Int32) then
      (some ((0 : Int32), h14))
    else
      (bd (F_rd_takeWhole a0 (0 : Int32) (9 : Int32) h14) fun x16 h17 =>
      if x16 = (0 : Int32) then
        (some ((0 : Int32), h17))
      else
        (bn (gR h17 a0 7 3) fun x18 =>
        bn (gR h17 x18 10 16) fun x20 =>
        bn (gI h17 a0 7 9) fun x22 =>
        bn (sI h17 100 x20 x3 x22) fun h24 =>
        bd (F_rd_takeWord a0 1000024 h24) fun x27 h28 =>
        if x27 = (0 : Int32) then
          (some ((0 : Int32), h28))
        else
          (bd (F_rd_takeWhole a0 (0 : Int32) (50 : Int32) h28) fun x30 h31 =>
          if x30 = (0 : Int32) then
            (some ((0 : Int32), h31))
          else
            (bn (gR h31 a0 7 3) fun x32 =>
            bn (gR h31 x32 10 17) fun x34 =>
            bn (gI h31 a0 7 9) fun x36 =>
            bn (sI h31 100 x34 x3 x36) fun h38 =>
            bn (gR h38 a0 7 3) fun x40 =>
            bn (gR h38 x40 10 15) fun x42 =>
            bn (sI h38 100 x42 x3 x6) fun h44 =>
            bn (gR h44 a0 7 3) fun x46 =>
            bn (gI h44 x46 10 14) fun x48 =>
            bn (pI h44 x46 10 14 (x48 + (1 : Int32))) fun h50 =>
            some ((1 : Int32), h50)))))))
def F_rd_readGave (a0 : Nat) (h : Hp) : Option (Int32 × Hp) :=
  ck h a0 7 (bd (F_rd_numberOfName a0 (5 : Int32) h) fun x2 h3 =>
  if x2 < (0 : Int32) then
    (some ((0 : Int32), h3))
  else
    (bn (gR h3 a0 7 2) fun x4 =>
    bn (F_tk_advance x4 h3) fun h7 =>
    bd (F_rd_numberOfName a0 (1 : Int32) h7) fun x9 h10 =>
    if x9 < (0 : Int32) then
      (some ((0 : Int32), h10))
    else
      (bn (gR h10 a0 7 2) fun x11 =>
      bn (F_tk_advance x11 h10) fun h14 =>
      bd (F_rd_takeWhole a0 (1 : Int32) (20 : Int32) h14) fun x16 h17 =>
      if x16 = (0 : Int32) then
        (some ((0 : Int32), h17))
      else
        (bn (gR h17 a0 7 3) fun x18 =>
        bn (gR h17 x18 10 18) fun x20 =>
        bn (gR h17 x20 1 1) fun x22 =>
        bn (gI h17 x20 1 0) fun x24 =>
        bn (sI h17 100 x22 x24 x2) fun h26 =>
        bn (gR h26 x20 1 2) fun x28 =>
        bn (gI h26 x20 1 0) fun x30 =>
        bn (sI h26 100 x28 x30 x9) fun h32 =>
        bn (gR h32 x20 1 3) fun x34 =>
        bn (gI h32 x20 1 0) fun x36 =>
        bn (gI h32 a0 7 9) fun x38 =>
        bn (sI h32 100 x34 x36 x38) fun h40 =>
        bn (gI h40 x20 1 0) fun x42 =>
        bn (pI h40 x20 1 0 (x42 + (1 : Int32))) fun h44 =>
        some ((1 : Int32), h44)))))
def B_hs_hasSeen_2 (l0 : Nat) (l1 : Int32) (h : Hp) (s : Int32) : Option ((Int32) ⊕ ((Unit) ⊕ Int32)) :=
  bn (gI h l0 1 4) fun x1 =>
  if s < x1 then
    (bn (gR h l0 1 5) fun x3 =>
    bn (aI h 100 x3 s) fun x5 =>
    if x5 = l1 then
      (some (.inr (.inr (1 : Int32))))
    else
      (some (.inl (s + (1 : Int32)))))
  else
    (some (.inr (.inl ())))
def F_hs_hasSeen (a0 : Nat) (a1 : Int32) (h : Hp) : Option Int32 :=
  ck h a0 1 (bn (lq (B_hs_hasSeen_2 a0 a1 h) FU (0 : Int32)) fun x7 =>
  ei x7 (fun q9 =>
  some (0 : Int32))
  (fun x10 => some x10))
def F_rd_readSeen (a0 : Nat) (h : Hp) : Option (Int32 × Hp) :=
  ck h a0 7 (bn (gR h a0 7 3) fun x1 =>
  bn (gR h x1 10 18) fun x3 =>
  bd (F_rd_numberOfName a0 (1 : Int32) h) fun x6 h7 =>
  if x6 < (0 : Int32) then
    (some ((0 : Int32), h7))
  else
    (bn (F_hs_hasSeen x3 x6 h7) fun x9 =>
    if x9 = (0 : Int32) then
      (bn (gR h7 a0 7 2) fun x10 =>
      bn (F_tk_advance x10 h7) fun h13 =>
      bn (gR h13 a0 7 2) fun x14 =>
      bn (F_tk_isWord x14 1000025 h13) fun x17 =>
      bn (if x17 = (0 : Int32) then
          (bn (gR h13 a0 7 2) fun x18 =>
          bn (F_tk_isWord x18 1000026 h13) fun x21 =>
          if x21 = (0 : Int32) then
            (bd (F_rd_fail a0 (1 : Int32) h13) fun x23 h24 =>
            if retV .boolean x23 = true then
              (some (Sum.inr (x23, h24)))
            else
              (none))
          else
            (some (Sum.inl ())))
        else
          (some (Sum.inl ()))) fun x56 =>
      ei x56 (fun z26 =>
      bn (gR h13 a0 7 2) fun x27 =>
      bn (F_tk_advance x27 h13) fun h30 =>
      bn (if x17 = (0 : Int32) then
          (some (0 : Int32))
        else
          (some (1 : Int32))) fun q31 =>
      bd (F_rd_takeWhole a0 q31 (200 : Int32) h30) fun x33 h34 =>
      if x33 = (0 : Int32) then
        (some ((0 : Int32), h34))
      else
        (bn (gR h34 x3 1 5) fun x35 =>
        bn (gI h34 x3 1 4) fun x37 =>
        bn (sI h34 100 x35 x37 x6) fun h39 =>
        bn (gR h39 x3 1 6) fun x41 =>
        bn (gI h39 x3 1 4) fun x43 =>
        bn (if x17 = (0 : Int32) then
            (bn (gI h39 a0 7 9) fun x45 =>
            some x45)
          else
            (bn (gI h39 a0 7 9) fun x47 =>
            some (-x47))) fun q49 =>
        bn (sI h39 100 x41 x43 q49) fun h50 =>
        bn (gI h50 x3 1 4) fun x52 =>
        bn (pI h50 x3 1 4 (x52 + (1 : Int32))) fun h54 =>
        some ((1 : Int32), h54)))
      (fun z => some z))
    else
      (bd (F_rd_fail a0 (3 : Int32) h7) fun x58 h59 =>
      if retV .boolean x58 = true then
        (some (x58, h59))
      else
        (none))))
def F_rd_readLine (a0 : Nat) (h : Hp) : Option (Int32 × Hp) :=
  ck h a0 7 (bn (F_rd_lineSort a0 h) fun x2 =>
  if x2 = (-1 : Int32) then
    (bd (F_rd_fail a0 (1 : Int32) h) fun x4 h5 =>
    if retV .boolean x4 = true then
      (some (x4, h5))
    else
      (none))
  else
    (bn (if x2 = (0 : Int32) then
        (bn (gI h a0 7 4) fun x6 =>
        if x6 = (0 : Int32) then
          (some (Sum.inl ()))
        else
          (bd (F_rd_fail a0 (3 : Int32) h) fun x9 h10 =>
          if retV .boolean x9 = true then
            (some (Sum.inr (x9, h10)))
          else
            (none)))
      else
        (some (Sum.inl ()))) fun x57 =>
    ei x57 (fun z12 =>
    bn (if x2 = (0 : Int32) then
        (some (Sum.inl ()))
      else
        (bn (gI h a0 7 4) fun x13 =>
        if x13 = (0 : Int32) then
          (bd (F_rd_fail a0 (6 : Int32) h) fun x16 h17 =>
          if retV .boolean x16 = true then
            (some (Sum.inr (x16, h17)))
          else
            (none))
        else
          (some (Sum.inl ())))) fun x56 =>
    ei x56 (fun z19 =>
    bn (F_rd_hasRoomFor a0 x2 h) fun x21 =>
    if x21 = (0 : Int32) then
      (bd (F_rd_fail a0 (5 : Int32) h) fun x23 h24 =>
      if retV .boolean x23 = true then
        (some (x23, h24))
      else
        (none))
    else
      (bn (gR h a0 7 2) fun x25 =>
      bn (F_tk_advance x25 h) fun h28 =>
      if (x2).toInt < 0 ∨ 7 < (x2).toInt then
        (bd (F_rd_readSeen a0 h28) fun x30 h31 =>
        if retV .boolean x30 = true then
          (some (x30, h31))
        else
          (none))
      else if x2 = (0 : Int32) then
        (bd (F_rd_readMice a0 h28) fun x33 h34 =>
        if retV .boolean x33 = true then
          (some (x33, h34))
        else
          (none))
      else if x2 = (1 : Int32) then
        (bd (F_rd_readHouse a0 h28) fun x36 h37 =>
        if retV .boolean x36 = true then
          (some (x36, h37))
        else
          (none))
      else if x2 = (2 : Int32) then
        (bd (F_rd_readRope a0 h28) fun x39 h40 =>
        if retV .boolean x39 = true then
          (some (x39, h40))
        else
          (none))
      else if x2 = (3 : Int32) then
        (bd (F_rd_readCorks a0 h28) fun x42 h43 =>
        if retV .boolean x42 = true then
          (some (x42, h43))
        else
          (none))
      else if x2 = (4 : Int32) then
        (bd (F_rd_readGuest a0 h28) fun x45 h46 =>
        if retV .boolean x45 = true then
          (some (x45, h46))
        else
          (none))
      else if x2 = (5 : Int32) then
        (bd (F_rd_readDrinker a0 h28) fun x48 h49 =>
        if retV .boolean x48 = true then
          (some (x48, h49))
        else
          (none))
      else if x2 = (6 : Int32) then
        (bd (F_rd_readFeast a0 h28) fun x51 h52 =>
        if retV .boolean x51 = true then
          (some (x51, h52))
        else
          (none))
      else if x2 = (7 : Int32) then
        (bd (F_rd_readGave a0 h28) fun x54 h55 =>
        if retV .boolean x54 = true then
          (some (x54, h55))
        else
          (none))
      else none))
    (fun z => some z))
    (fun z => some z)))
def B_rd_read_41 (l0 : Nat) (s : Int32 × Int32) (h : Hp) : Option (((Int32 × Int32) ⊕ ((Unit) ⊕ Unit)) × Hp) :=
  if s.2 < (1000 : Int32) then
    (if s.1 = (0 : Int32) then
      (some (.inr (.inl ()), h))
    else
      (bd (F_rd_readLine l0 h) fun x18 h19 =>
      if x18 = (0 : Int32) then
        (some (.inr (.inr ()), h19))
      else
        (bn (gR h19 l0 7 2) fun x20 =>
        bn (gI h19 x20 9 4) fun x22 =>
        bn (if x22 = (2 : Int32) then
            (some (1 : Int32))
          else
            (some (0 : Int32))) fun q24 =>
        if q24 = (0 : Int32) then
          (some (.inl (q24, s.2 + (1 : Int32)), h19))
        else
          (bn (gR h19 l0 7 2) fun x25 =>
          bn (F_tk_advance x25 h19) fun h28 =>
          some (.inl (q24, s.2 + (1 : Int32)), h28)))))
  else
    (some (.inr (.inl ()), h))
def F_rd_read (a0 : Nat) (a1 : Nat) (a2 : Int32) (h : Hp) : Option Hp :=
  ck h a0 7 (bn (gR h a0 7 3) fun x1 =>
  bn (F_to_clear x1 h) fun h4 =>
  bn (pI h4 a0 7 0 (0 : Int32)) fun h5 =>
  bn (pI h5 a0 7 1 (0 : Int32)) fun h7 =>
  bn (pZ h7 a0 7 4 (0 : Int32)) fun h9 =>
  bn (pI h9 a0 7 5 (0 : Int32)) fun h11 =>
  bn (gR h11 a0 7 2) fun x13 =>
  bn (F_tk_start x13 a1 a2 h11) fun h16 =>
  bd (lp (B_rd_read_41 a0) FU ((1 : Int32), (0 : Int32)) h16) fun x29 h31 =>
  ei x29 (fun q32 =>
  bn (gR h31 a0 7 2) fun x33 =>
  bn (gI h31 x33 9 4) fun x35 =>
  if x35 = (3 : Int32) then
    (bn (gR h31 a0 7 3) fun x37 =>
    bn (gI h31 x37 10 1) fun x39 =>
    if x39 = (0 : Int32) then
      (bd (F_rd_fail a0 (6 : Int32) h31) fun x42 h43 =>
      some h43)
    else
      (some h31))
  else
    (bd (F_rd_fail a0 (1 : Int32) h31) fun x45 h46 =>
    some h46))
  (fun x47 => some h31))
def F_cs_refusedBy (a0 : Nat) (a1 : Int32) (a2 : Int32) (h : Hp) : Option (Int32 × Hp) :=
  ck h a0 11 (if a2 = (0 : Int32) then
    (bn (pI h a0 11 12 (0 : Int32)) fun h1 =>
    if retV .boolean a2 = true then
      (some (a2, h1))
    else
      (none))
  else
    (bn (pI h a0 11 12 a1) fun h3 =>
    if retV .boolean a2 = true then
      (some (a2, h3))
    else
      (none)))
def F_rd_exchange (a0 : Nat) (a1 : Nat) (h : Hp) : Option (Nat × Hp) :=
  ck h a0 7 (bn (gR h a0 7 3) fun x1 =>
  bn (pR h a0 7 3 (some a1)) fun h3 =>
  some (x1, h3))
def B_to_begin_38 (l0 : Nat) (l1 : Nat) (l2 : Int32) (s : Int32) (h : Hp) : Option (((Int32) ⊕ (Unit)) × Hp) :=
  bn (gR h l0 10 18) fun x21 =>
  bn (gI h x21 1 0) fun x23 =>
  if s < x23 then
    (bn (gR h l0 10 18) fun x25 =>
    bn (gR h x25 1 1) fun x27 =>
    bn (aI h 100 x27 s) fun x29 =>
    if ((l2 >>> (x29 &&& 31)) &&& (1 : Int32)) = (0 : Int32) then
      (bn (gR h l1 8 0) fun x31 =>
      bn (gR h l0 10 18) fun x33 =>
      bn (gR h x33 1 2) fun x35 =>
      bn (aI h 100 x35 s) fun x37 =>
      bn (gR h l0 10 12) fun x39 =>
      bn (aI h 100 x39 x29) fun x41 =>
      bn (aI h 100 x31 ((x37 * (5 : Int32)) + x41)) fun x43 =>
      bn (gR h l0 10 18) fun x45 =>
      bn (gR h x45 1 3) fun x47 =>
      bn (aI h 100 x47 s) fun x49 =>
      bn (sI h 100 x31 ((x37 * (5 : Int32)) + x41) (x43 + x49)) fun h51 =>
      some (.inl (s + (1 : Int32)), h51))
    else
      (some (.inl (s + (1 : Int32)), h)))
  else
    (some (.inr (), h))
def F_to_begin (a0 : Nat) (a1 : Nat) (a2 : Int32) (h : Hp) : Option Hp :=
  ck h a0 10 (bn (gR h a0 10 4) fun x1 =>
  bn (gR h a1 8 0) fun x3 =>
  bn (gR h a0 10 4) fun x5 =>
  bn (aN h x5) fun x7 =>
  bn (cpI h x1 (0 : Int32) x3 (0 : Int32) x7) fun h9 =>
  bn (gR h9 a0 10 10) fun x11 =>
  bn (gR h9 a1 8 1) fun x13 =>
  bn (gR h9 a0 10 10) fun x15 =>
  bn (aN h9 x15) fun x17 =>
  bn (cpI h9 x11 (0 : Int32) x13 (0 : Int32) x17) fun h19 =>
  bd (lp (B_to_begin_38 a0 a1 a2) FU (0 : Int32) h19) fun x53 h55 =>
  bn (gI h55 a0 10 5) fun x56 =>
  bn (pI h55 a1 8 2 (((1 : Int32) <<< (x56 &&& 31)) - (1 : Int32))) fun h58 =>
  bn (pI h58 a1 8 3 (0 : Int32)) fun h60 =>
  bn (pI h60 a1 8 4 (0 : Int32)) fun h62 =>
  some h62)
def F_me_clear (a0 : Nat) (h : Hp) : Option Hp :=
  ck h a0 3 (bn (pI h a0 3 2 (0 : Int32)) fun h1 =>
  bn (pI h1 a0 3 3 (0 : Int32)) fun h3 =>
  bn (pI h3 a0 3 4 (0 : Int32)) fun h5 =>
  some h5)
def F_cs_lake (a0 : Nat) (a1 : Int32) (h : Hp) : Option (Int32 × Hp) :=
  ck h a0 11 (bn (gI h a0 11 1) fun x1 =>
  bn (F_cs_outside a1 (0 : Int32) x1) fun x4 =>
  bd (F_cs_refused a0 (0 : Int32) x4 h) fun x6 h7 =>
  if x6 = (0 : Int32) then
    (bn (pI h7 a0 11 1 (0 : Int32)) fun h8 =>
    bn (gR h8 a0 11 2) fun x10 =>
    bn (gR h8 a0 11 0) fun x12 =>
    bn (F_rd_read x10 x12 a1 h8) fun h15 =>
    bn (gR h15 a0 11 2) fun x16 =>
    bn (gI h15 x16 7 0) fun x18 =>
    bn (if x18 = (0 : Int32) then
        (some (0 : Int32))
      else
        (some (1 : Int32))) fun q20 =>
    bd (F_cs_refusedBy a0 (4 : Int32) q20 h15) fun x22 h23 =>
    if x22 = (0 : Int32) then
      (bn (gR h23 a0 11 2) fun x24 =>
      bn (gR h23 a0 11 3) fun x26 =>
      bd (F_rd_exchange x24 x26 h23) fun x29 h30 =>
      bn (pR h30 a0 11 3 (some x29)) fun h31 =>
      bn (gR h31 a0 11 3) fun x33 =>
      bn (gR h31 a0 11 4) fun x35 =>
      bn (F_to_begin x33 x35 (0 : Int32) h31) fun h38 =>
      bn (gR h38 a0 11 7) fun x39 =>
      bn (F_me_clear x39 h38) fun h42 =>
      bn (gR h42 a0 11 3) fun x43 =>
      bn (gI h42 x43 10 1) fun x45 =>
      some (x45, h42))
    else
      (some ((-1 : Int32), h23)))
  else
    (some ((-1 : Int32), h7)))
def F_cs_fault (a0 : Nat) (h : Hp) : Option Int32 :=
  ck h a0 11 (bn (gR h a0 11 2) fun x1 =>
  bn (gI h x1 7 0) fun x3 =>
  some x3)
def F_cs_where (a0 : Nat) (h : Hp) : Option Int32 :=
  ck h a0 11 (bn (gI h a0 11 12) fun x1 =>
  if x1 = (4 : Int32) then
    (bn (gR h a0 11 2) fun x3 =>
    bn (gI h x3 7 1) fun x5 =>
    some x5)
  else
    (some (-1 : Int32)))
def F_cs_noHouse (a0 : Nat) (a1 : Int32) (h : Hp) : Option Int32 :=
  ck h a0 11 (bn (gR h a0 11 3) fun x1 =>
  bn (gI h x1 10 1) fun x3 =>
  bn (F_cs_outside a1 (0 : Int32) (x3 - (1 : Int32))) fun x6 =>
  if retV .boolean x6 = true then
    (some x6)
  else
    (none))
def F_to_isNorth (a0 : Nat) (a1 : Int32) (h : Hp) : Option Int32 :=
  ck h a0 10 (bn (gI h a0 10 2) fun x1 =>
  if ((x1 >>> (a1 &&& 31)) &&& (1 : Int32)) = (0 : Int32) then
    (some (0 : Int32))
  else
    (some (1 : Int32)))
def B_cs_guestBits_4 (l0 : Nat) (l1 : Int32) (h : Hp) (s : Int32 × Int32) : Option ((Int32 × Int32) ⊕ (Int32)) :=
  bn (gR h l0 11 3) fun x1 =>
  bn (gI h x1 10 8) fun x3 =>
  if s.2 < x3 then
    (bn (gR h l0 11 4) fun x5 =>
    bn (gR h x5 8 1) fun x7 =>
    bn (aI h 100 x7 s.2) fun x9 =>
    if x9 = l1 then
      (some (.inl (s.1 ||| ((1 : Int32) <<< (s.2 &&& 31)), s.2 + (1 : Int32))))
    else
      (some (.inl (s.1, s.2 + (1 : Int32)))))
  else
    (some (.inr s.1))
def F_cs_guestBits (a0 : Nat) (a1 : Int32) (h : Hp) : Option Int32 :=
  ck h a0 11 (bn (lq (B_cs_guestBits_4 a0 a1 h) FU ((0 : Int32), (0 : Int32))) fun x11 =>
  some x11)
def F_cs_house (a0 : Nat) (a1 : Int32) (a2 : Int32) (h : Hp) : Option (Int32 × Hp) :=
  ck h a0 11 (bn (F_cs_noHouse a0 a1 h) fun x2 =>
  bn (if x2 = (0 : Int32) then
      (bn (F_cs_outside a2 (0 : Int32) (5 : Int32)) fun x4 =>
      if x4 = (0 : Int32) then
        (some (0 : Int32))
      else
        (some (1 : Int32)))
    else
      (some (1 : Int32))) fun q5 =>
  bd (F_cs_refused a0 q5 (0 : Int32) h) fun x7 h8 =>
  if x7 = (0 : Int32) then
    (bn (gR h8 a0 11 6) fun x9 =>
    bn (gR h8 a0 11 3) fun x11 =>
    bn (gR h8 a0 11 4) fun x13 =>
    bn (F_ra_measure x9 x11 x13 h8) fun h16 =>
    if (a2).toInt < 0 ∨ 4 < (a2).toInt then
      (bn (F_cs_guestBits a0 a1 h16) fun x18 =>
      some (x18, h16))
    else if a2 = (0 : Int32) then
      (bn (gR h16 a0 11 3) fun x19 =>
      bn (F_to_isNorth x19 a1 h16) fun x22 =>
      if x22 = (0 : Int32) then
        (some ((1 : Int32), h16))
      else
        (some ((0 : Int32), h16)))
    else if a2 = (1 : Int32) then
      (bn (gR h16 a0 11 3) fun x23 =>
      bn (gR h16 a0 11 4) fun x25 =>
      bn (F_to_weightAt x23 a1 x25 h16) fun x28 =>
      some (x28, h16))
    else if a2 = (2 : Int32) then
      (bn (gR h16 a0 11 4) fun x29 =>
      bn (F_st_liftUnder x29 a1 h16) fun x32 =>
      some (x32, h16))
    else if a2 = (3 : Int32) then
      (bn (gR h16 a0 11 6) fun x33 =>
      bn (gR h16 x33 6 3) fun x35 =>
      bn (aI h16 100 x35 a1) fun x37 =>
      some (x37 + (1000 : Int32), h16))
    else if a2 = (4 : Int32) then
      (bn (gR h16 a0 11 6) fun x39 =>
      bn (gR h16 x39 6 2) fun x41 =>
      bn (aI h16 100 x41 a1) fun x43 =>
      some (x43, h16))
    else none)
  else
    (some ((-1 : Int32), h8)))
def F_cs_noKind (a0 : Int32) : Option Int32 :=
  bn (F_cs_outside a0 (0 : Int32) (4 : Int32)) fun x2 =>
  if retV .boolean x2 = true then
    (some x2)
  else
    (none)
def F_cs_corks (a0 : Nat) (a1 : Int32) (a2 : Int32) (h : Hp) : Option (Int32 × Hp) :=
  ck h a0 11 (bn (F_cs_noHouse a0 a1 h) fun x2 =>
  bn (F_cs_noKind a2) fun x4 =>
  bd (F_cs_refused a0 x2 x4 h) fun x6 h7 =>
  if x6 = (0 : Int32) then
    (bn (gR h7 a0 11 4) fun x8 =>
    bn (gR h7 x8 8 0) fun x10 =>
    bn (aI h7 100 x10 ((a1 * (5 : Int32)) + a2)) fun x12 =>
    some (x12, h7))
  else
    (some ((-1 : Int32), h7)))
def F_cs_noGuest (a0 : Nat) (a1 : Int32) (h : Hp) : Option Int32 :=
  ck h a0 11 (bn (gR h a0 11 3) fun x1 =>
  bn (gI h x1 10 8) fun x3 =>
  bn (F_cs_outside a1 (0 : Int32) (x3 - (1 : Int32))) fun x6 =>
  if retV .boolean x6 = true then
    (some x6)
  else
    (none))
def F_cs_guest (a0 : Nat) (a1 : Int32) (a2 : Int32) (h : Hp) : Option (Int32 × Hp) :=
  ck h a0 11 (bn (F_cs_noGuest a0 a1 h) fun x2 =>
  bn (if x2 = (0 : Int32) then
      (bn (F_cs_outside a2 (0 : Int32) (1 : Int32)) fun x4 =>
      if x4 = (0 : Int32) then
        (some (0 : Int32))
      else
        (some (1 : Int32)))
    else
      (some (1 : Int32))) fun q5 =>
  bd (F_cs_refused a0 q5 (0 : Int32) h) fun x7 h8 =>
  if x7 = (0 : Int32) then
    (if a2 = (0 : Int32) then
      (bn (gR h8 a0 11 3) fun x9 =>
      bn (gR h8 x9 10 9) fun x11 =>
      bn (aI h8 100 x11 a1) fun x13 =>
      some (x13, h8))
    else
      (bn (gR h8 a0 11 4) fun x15 =>
      bn (gR h8 x15 8 1) fun x17 =>
      bn (aI h8 100 x17 a1) fun x19 =>
      some (x19, h8)))
  else
    (some ((-1 : Int32), h8)))
def F_cs_noRope (a0 : Nat) (a1 : Int32) (h : Hp) : Option Int32 :=
  ck h a0 11 (bn (gR h a0 11 3) fun x1 =>
  bn (gI h x1 10 5) fun x3 =>
  bn (F_cs_outside a1 (0 : Int32) (x3 - (1 : Int32))) fun x6 =>
  if retV .boolean x6 = true then
    (some x6)
  else
    (none))
def F_st_isTied (a0 : Nat) (a1 : Int32) (h : Hp) : Option Int32 :=
  ck h a0 8 (bn (gI h a0 8 2) fun x1 =>
  if ((x1 >>> (a1 &&& 31)) &&& (1 : Int32)) = (0 : Int32) then
    (some (0 : Int32))
  else
    (some (1 : Int32)))
def F_cs_rope (a0 : Nat) (a1 : Int32) (a2 : Int32) (h : Hp) : Option (Int32 × Hp) :=
  ck h a0 11 (bn (F_cs_noRope a0 a1 h) fun x2 =>
  bn (if x2 = (0 : Int32) then
      (bn (F_cs_outside a2 (0 : Int32) (2 : Int32)) fun x4 =>
      if x4 = (0 : Int32) then
        (some (0 : Int32))
      else
        (some (1 : Int32)))
    else
      (some (1 : Int32))) fun q5 =>
  bd (F_cs_refused a0 q5 (0 : Int32) h) fun x7 h8 =>
  if x7 = (0 : Int32) then
    (if a2 = (2 : Int32) then
      (bn (gR h8 a0 11 4) fun x9 =>
      bn (F_st_isTied x9 a1 h8) fun x12 =>
      if x12 = (0 : Int32) then
        (some ((0 : Int32), h8))
      else
        (some ((1 : Int32), h8)))
    else
      (if a2 = (0 : Int32) then
        (bn (gR h8 a0 11 3) fun x13 =>
        bn (gR h8 x13 10 6) fun x15 =>
        bn (aI h8 100 x15 a1) fun x17 =>
        some (x17, h8))
      else
        (bn (gR h8 a0 11 3) fun x19 =>
        bn (gR h8 x19 10 7) fun x21 =>
        bn (aI h8 100 x21 a1) fun x23 =>
        some (x23, h8))))
  else
    (some ((-1 : Int32), h8)))
def F_cs_noLake (a0 : Nat) (h : Hp) : Option Int32 :=
  ck h a0 11 (bn (gR h a0 11 3) fun x1 =>
  bn (gI h x1 10 1) fun x3 =>
  if x3 = (0 : Int32) then
    (some (1 : Int32))
  else
    (some (0 : Int32)))
def B_ra_underBits_4 (l0 : Nat) (h : Hp) (s : Int32 × Int32) : Option ((Int32 × Int32) ⊕ (Int32)) :=
  bn (gI h l0 6 0) fun x1 =>
  if s.2 < x1 then
    (bn (gR h l0 6 3) fun x3 =>
    bn (aI h 100 x3 s.2) fun x5 =>
    if x5 < (0 : Int32) then
      (some (.inl (s.1 ||| ((1 : Int32) <<< (s.2 &&& 31)), s.2 + (1 : Int32))))
    else
      (some (.inl (s.1, s.2 + (1 : Int32)))))
  else
    (some (.inr s.1))
def F_ra_underBits (a0 : Nat) (h : Hp) : Option Int32 :=
  ck h a0 6 (bn (lq (B_ra_underBits_4 a0 h) FU ((0 : Int32), (0 : Int32))) fun x7 =>
  some x7)
def F_cs_under (a0 : Nat) (h : Hp) : Option (Int32 × Hp) :=
  ck h a0 11 (bn (F_cs_noLake a0 h) fun x2 =>
  bd (F_cs_refused a0 x2 (0 : Int32) h) fun x4 h5 =>
  if x4 = (0 : Int32) then
    (bn (gR h5 a0 11 6) fun x6 =>
    bn (gR h5 a0 11 3) fun x8 =>
    bn (gR h5 a0 11 4) fun x10 =>
    bn (F_ra_measure x6 x8 x10 h5) fun h13 =>
    bn (gR h13 a0 11 6) fun x14 =>
    bn (F_ra_underBits x14 h13) fun x17 =>
    some (x17, h13))
  else
    (some ((-1 : Int32), h5)))
def B_ra_lowestHouse_4 (l0 : Nat) (h : Hp) (s : Int32 × Int32) : Option ((Int32 × Int32) ⊕ (Int32)) :=
  bn (gI h l0 6 0) fun x1 =>
  if s.2 < x1 then
    (bn (gR h l0 6 3) fun x3 =>
    bn (aI h 100 x3 s.2) fun x5 =>
    bn (gR h l0 6 3) fun x7 =>
    bn (aI h 100 x7 s.1) fun x9 =>
    if x5 < x9 then
      (some (.inl (s.2, s.2 + (1 : Int32))))
    else
      (some (.inl (s.1, s.2 + (1 : Int32)))))
  else
    (some (.inr s.1))
def F_ra_lowestHouse (a0 : Nat) (h : Hp) : Option Int32 :=
  ck h a0 6 (bn (lq (B_ra_lowestHouse_4 a0 h) FU ((0 : Int32), (1 : Int32))) fun x11 =>
  some x11)
def F_cs_lowest (a0 : Nat) (h : Hp) : Option (Int32 × Hp) :=
  ck h a0 11 (bn (F_cs_noLake a0 h) fun x2 =>
  bd (F_cs_refused a0 x2 (0 : Int32) h) fun x4 h5 =>
  if x4 = (0 : Int32) then
    (bn (gR h5 a0 11 6) fun x6 =>
    bn (gR h5 a0 11 3) fun x8 =>
    bn (gR h5 a0 11 4) fun x10 =>
    bn (F_ra_measure x6 x8 x10 h5) fun h13 =>
    bn (gR h13 a0 11 6) fun x14 =>
    bn (F_ra_lowestHouse x14 h13) fun x17 =>
    some (x17, h13))
  else
    (some ((-1 : Int32), h5)))
def B_ra_howMany_4 (l0 : Nat) (h : Hp) (s : Int32 × Int32) : Option ((Int32 × Int32) ⊕ (Int32)) :=
  bn (gI h l0 6 0) fun x1 =>
  if s.2 < x1 then
    (bn (F_ra_firstOf l0 s.2 h) fun x4 =>
    if x4 = s.2 then
      (some (.inl (s.1 + (1 : Int32), s.2 + (1 : Int32))))
    else
      (some (.inl (s.1, s.2 + (1 : Int32)))))
  else
    (some (.inr s.1))
def F_ra_howMany (a0 : Nat) (h : Hp) : Option Int32 :=
  ck h a0 6 (bn (lq (B_ra_howMany_4 a0 h) FU ((0 : Int32), (0 : Int32))) fun x5 =>
  some x5)
def F_cs_rafts (a0 : Nat) (h : Hp) : Option (Int32 × Hp) :=
  ck h a0 11 (bn (F_cs_noLake a0 h) fun x2 =>
  bd (F_cs_refused a0 x2 (0 : Int32) h) fun x4 h5 =>
  if x4 = (0 : Int32) then
    (bn (gR h5 a0 11 6) fun x6 =>
    bn (gR h5 a0 11 3) fun x8 =>
    bn (gR h5 a0 11 4) fun x10 =>
    bn (F_ra_measure x6 x8 x10 h5) fun h13 =>
    bn (gR h13 a0 11 6) fun x14 =>
    bn (F_ra_howMany x14 h13) fun x17 =>
    some (x17, h13))
  else
    (some ((-1 : Int32), h5)))
def B_ra_tiltOf_17 (l0 : Nat) (l1 : Int32) (h : Hp) (s : Int32 × Int32 × Int32) : Option ((Int32 × Int32 × Int32) ⊕ (Int32 × Int32)) :=
  bn (gI h l0 6 0) fun x9 =>
  if s.2.2 < x9 then
    (bn (gR h l0 6 2) fun x11 =>
    bn (aI h 100 x11 l1) fun x13 =>
    if ((x13 >>> (s.2.2 &&& 31)) &&& (1 : Int32)) = (0 : Int32) then
      (some (.inl (s.1, s.2.1, s.2.2 + (1 : Int32))))
    else
      (bn (gR h l0 6 1) fun x15 =>
      bn (aI h 100 x15 s.2.2) fun x17 =>
      bn (F_ma_max s.1 x17) fun x20 =>
      bn (gR h l0 6 1) fun x21 =>
      bn (aI h 100 x21 s.2.2) fun x23 =>
      bn (F_ma_min s.2.1 x23) fun x26 =>
      some (.inl (x20, x26, s.2.2 + (1 : Int32)))))
  else
    (some (.inr (s.1, s.2.1)))
def F_ra_tiltOf (a0 : Nat) (a1 : Int32) (h : Hp) : Option Int32 :=
  ck h a0 6 (bn (gR h a0 6 1) fun x1 =>
  bn (aI h 100 x1 a1) fun x3 =>
  bn (gR h a0 6 1) fun x5 =>
  bn (aI h 100 x5 a1) fun x7 =>
  bn (lq (B_ra_tiltOf_17 a0 a1 h) FU (x3, x7, (0 : Int32))) fun x27 =>
  some (x27.1 - x27.2))
def F_cs_tilt (a0 : Nat) (a1 : Int32) (h : Hp) : Option (Int32 × Hp) :=
  ck h a0 11 (bn (F_cs_noHouse a0 a1 h) fun x2 =>
  bd (F_cs_refused a0 x2 (0 : Int32) h) fun x4 h5 =>
  if x4 = (0 : Int32) then
    (bn (gR h5 a0 11 6) fun x6 =>
    bn (gR h5 a0 11 3) fun x8 =>
    bn (gR h5 a0 11 4) fun x10 =>
    bn (F_ra_measure x6 x8 x10 h5) fun h13 =>
    bn (gR h13 a0 11 6) fun x14 =>
    bn (F_ra_tiltOf x14 a1 h13) fun x17 =>
    some (x17, h13))
  else
    (some ((-1 : Int32), h5)))
def F_st_copyFrom (a0 : Nat) (a1 : Nat) (h : Hp) : Option Hp :=
  ck h a0 8 (bn (gR h a1 8 0) fun x1 =>
  bn (gR h a0 8 0) fun x3 =>
  bn (cpI h x1 (0 : Int32) x3 (0 : Int32) (25 : Int32)) fun h5 =>
  bn (gR h5 a1 8 1) fun x7 =>
  bn (gR h5 a0 8 1) fun x9 =>
  bn (cpI h5 x7 (0 : Int32) x9 (0 : Int32) (3 : Int32)) fun h11 =>
  bn (gI h11 a1 8 2) fun x13 =>
  bn (pI h11 a0 8 2 x13) fun h15 =>
  bn (gI h15 a1 8 3) fun x17 =>
  bn (pI h15 a0 8 3 x17) fun h19 =>
  bn (gI h19 a1 8 4) fun x21 =>
  bn (pI h19 a0 8 4 x21) fun h23 =>
  some h23)
def F_st_softenUnder (a0 : Nat) (a1 : Int32) (h : Hp) : Option Hp :=
  ck h a0 8 (bn (gR h a0 8 0) fun x1 =>
  bn (gR h a0 8 0) fun x3 =>
  bn (aI h 100 x3 ((a1 * (5 : Int32)) + (1 : Int32))) fun x5 =>
  bn (sI h 100 x1 ((a1 * (5 : Int32)) + (2 : Int32)) x5) fun h7 =>
  bn (gR h7 a0 8 0) fun x9 =>
  bn (gR h7 a0 8 0) fun x11 =>
  bn (aI h7 100 x11 ((a1 * (5 : Int32)) + (0 : Int32))) fun x13 =>
  bn (sI h7 100 x9 ((a1 * (5 : Int32)) + (1 : Int32)) x13) fun h15 =>
  bn (gR h15 a0 8 0) fun x17 =>
  bn (sI h15 100 x17 ((a1 * (5 : Int32)) + (0 : Int32)) (0 : Int32)) fun h19 =>
  some h19)
def B_st_soften_2 (l0 : Nat) (s : Int32) (h : Hp) : Option (((Int32) ⊕ (Unit)) × Hp) :=
  if s < (5 : Int32) then
    (bn (F_st_softenUnder l0 s h) fun h2 =>
    some (.inl (s + (1 : Int32)), h2))
  else
    (some (.inr (), h))
def F_st_soften (a0 : Nat) (h : Hp) : Option Hp :=
  ck h a0 8 (bd (lp (B_st_soften_2 a0) FU (0 : Int32) h) fun x3 h5 =>
  some h5)
def B_cs_measureIn_13 (l0 : Nat) (l1 : Int32) (s : Int32) (h : Hp) : Option (((Int32) ⊕ (Unit)) × Hp) :=
  if s < l1 then
    (bn (gR h l0 11 5) fun x7 =>
    bn (F_st_soften x7 h) fun h10 =>
    some (.inl (s + (1 : Int32)), h10))
  else
    (some (.inr (), h))
def F_cs_measureIn (a0 : Nat) (a1 : Int32) (h : Hp) : Option Hp :=
  ck h a0 11 (bn (gR h a0 11 5) fun x1 =>
  bn (gR h a0 11 4) fun x3 =>
  bn (F_st_copyFrom x1 x3 h) fun h6 =>
  bd (lp (B_cs_measureIn_13 a0 a1) FU (0 : Int32) h6) fun x11 h13 =>
  bn (gR h13 a0 11 6) fun x14 =>
  bn (gR h13 a0 11 3) fun x16 =>
  bn (gR h13 a0 11 5) fun x18 =>
  bn (F_ra_measure x14 x16 x18 h13) fun h21 =>
  some h21)
def F_cs_heightIn (a0 : Nat) (a1 : Int32) (a2 : Int32) (h : Hp) : Option (Int32 × Hp) :=
  ck h a0 11 (bn (F_cs_noHouse a0 a1 h) fun x2 =>
  bn (F_cs_outside a2 (0 : Int32) (20 : Int32)) fun x4 =>
  bd (F_cs_refused a0 x2 x4 h) fun x6 h7 =>
  if x6 = (0 : Int32) then
    (bn (F_cs_measureIn a0 a2 h7) fun h9 =>
    bn (gR h9 a0 11 6) fun x10 =>
    bn (gR h9 x10 6 3) fun x12 =>
    bn (aI h9 100 x12 a1) fun x14 =>
    some (x14 + (1000 : Int32), h9))
  else
    (some ((-1 : Int32), h7)))
def F_cs_underIn (a0 : Nat) (a1 : Int32) (h : Hp) : Option (Int32 × Hp) :=
  ck h a0 11 (bn (F_cs_noLake a0 h) fun x2 =>
  bn (F_cs_outside a1 (0 : Int32) (20 : Int32)) fun x4 =>
  bd (F_cs_refused a0 x2 x4 h) fun x6 h7 =>
  if x6 = (0 : Int32) then
    (bn (F_cs_measureIn a0 a1 h7) fun h9 =>
    bn (gR h9 a0 11 6) fun x10 =>
    bn (F_ra_underBits x10 h9) fun x13 =>
    some (x13, h9))
  else
    (some ((-1 : Int32), h7)))
def B_cs_sinks_28 (l0 : Nat) (l1 : Int32) (s : Int32) (h : Hp) : Option (((Int32) ⊕ ((Unit) ⊕ Int32)) × Hp) :=
  if (20 : Int32) < s then
    (some (.inr (.inl ()), h))
  else
    (bn (gR h l0 11 6) fun x12 =>
    bn (gR h l0 11 3) fun x14 =>
    bn (gR h l0 11 5) fun x16 =>
    bn (F_ra_measure x12 x14 x16 h) fun h19 =>
    bn (gR h19 l0 11 6) fun x20 =>
    bn (gR h19 x20 6 3) fun x22 =>
    bn (aI h19 100 x22 l1) fun x24 =>
    if x24 < (0 : Int32) then
      (some (.inr (.inr s), h19))
    else
      (bn (gR h19 l0 11 5) fun x26 =>
      bn (F_st_soften x26 h19) fun h29 =>
      some (.inl (s + (1 : Int32)), h29)))
def F_cs_sinks (a0 : Nat) (a1 : Int32) (h : Hp) : Option (Int32 × Hp) :=
  ck h a0 11 (bn (F_cs_noHouse a0 a1 h) fun x2 =>
  bd (F_cs_refused a0 x2 (0 : Int32) h) fun x4 h5 =>
  if x4 = (0 : Int32) then
    (bn (gR h5 a0 11 5) fun x6 =>
    bn (gR h5 a0 11 4) fun x8 =>
    bn (F_st_copyFrom x6 x8 h5) fun h11 =>
    bd (lp (B_cs_sinks_28 a0 a1) FU (0 : Int32) h11) fun x30 h32 =>
    ei x30 (fun q33 =>
    some ((-2 : Int32), h32))
    (fun x34 => some (x34, h32)))
  else
    (some ((-1 : Int32), h5)))
def B_cs_wetFeast_16 (l0 : Nat) (s : Int32) (h : Hp) : Option (((Int32) ⊕ ((Unit) ⊕ Int32)) × Hp) :=
  bn (gR h l0 11 3) fun x6 =>
  bn (gI h x6 10 14) fun x8 =>
  if s < x8 then
    (bn (gR h l0 11 3) fun x10 =>
    bn (gR h x10 10 16) fun x12 =>
    bn (aI h 100 x12 s) fun x14 =>
    bn (F_cs_measureIn l0 x14 h) fun h17 =>
    bn (gR h17 l0 11 6) fun x18 =>
    bn (gR h17 x18 6 3) fun x20 =>
    bn (gR h17 l0 11 3) fun x22 =>
    bn (gR h17 x22 10 15) fun x24 =>
    bn (aI h17 100 x24 s) fun x26 =>
    bn (aI h17 100 x20 x26) fun x28 =>
    bn (gR h17 l0 11 3) fun x30 =>
    bn (gR h17 x30 10 17) fun x32 =>
    bn (aI h17 100 x32 s) fun x34 =>
    if x28 < x34 then
      (some (.inr (.inr s), h17))
    else
      (some (.inl (s + (1 : Int32)), h17)))
  else
    (some (.inr (.inl ()), h))
def F_cs_wetFeast (a0 : Nat) (h : Hp) : Option (Int32 × Hp) :=
  ck h a0 11 (bn (F_cs_noLake a0 h) fun x2 =>
  bd (F_cs_refused a0 x2 (0 : Int32) h) fun x4 h5 =>
  if x4 = (0 : Int32) then
    (bd (lp (B_cs_wetFeast_16 a0) FU (0 : Int32) h5) fun x36 h38 =>
    ei x36 (fun q39 =>
    some ((-2 : Int32), h38))
    (fun x40 => some (x40, h38)))
  else
    (some ((-1 : Int32), h5)))
def F_st_liftOfKind (a0 : Int32) (h : Hp) : Option Int32 :=
  if a0 < (0 : Int32) then
    (some (0 : Int32))
  else
    (bn (aN h 1000001) fun x1 =>
    if a0 < x1 then
      (bn (aI h 100 1000001 a0) fun x3 =>
      some x3)
    else
      (some (0 : Int32)))
def B_cs_aunt_72 (l4 : Int32) (l5 : Int32) (s : Int32) : Option ((Int32) ⊕ ((Unit) ⊕ Int32)) :=
  if (300 : Int32) < s then
    (some (.inr (.inl ())))
  else
    (if (s * l5) < l4 then
      (some (.inl (s + (1 : Int32))))
    else
      (some (.inr (.inr s))))
def F_cs_aunt (a0 : Nat) (a1 : Int32) (a2 : Int32) (a3 : Int32) (h : Hp) : Option (Int32 × Hp) :=
  ck h a0 11 (bn (F_cs_noHouse a0 a1 h) fun x2 =>
  bn (F_cs_outside a2 (0 : Int32) (99 : Int32)) fun x4 =>
  bn (if x4 = (0 : Int32) then
      (bn (F_cs_noKind a3) fun x6 =>
      if x6 = (0 : Int32) then
        (some (0 : Int32))
      else
        (some (1 : Int32)))
    else
      (some (1 : Int32))) fun q7 =>
  bd (F_cs_refused a0 x2 q7 h) fun x9 h10 =>
  if x9 = (0 : Int32) then
    (bn (gR h10 a0 11 6) fun x11 =>
    bn (gR h10 a0 11 3) fun x13 =>
    bn (gR h10 a0 11 4) fun x15 =>
    bn (F_ra_measure x11 x13 x15 h10) fun h18 =>
    bn (gR h18 a0 11 6) fun x19 =>
    bn (F_ra_totalOf x19 a1 h18) fun x22 =>
    bn (F_st_liftOfKind a3 h18) fun x24 =>
    bn (lq (B_cs_aunt_72 (a2 - x22) x24) FU (0 : Int32)) fun x25 =>
    ei x25 (fun q27 =>
    some ((-2 : Int32), h18))
    (fun x28 => some (x28, h18)))
  else
    (some ((-1 : Int32), h10)))
def B_ra_bestHouseFor_7 (l0 : Nat) (l1 : Int32) (s : Int32 × Int32 × Int32) (h : Hp) : Option (((Int32 × Int32 × Int32) ⊕ (Int32)) × Hp) :=
  bn (gI h l0 6 0) fun x1 =>
  if s.2.2 < x1 then
    (bn (gR h l0 6 1) fun x3 =>
    bn (aI h 100 x3 s.2.2) fun x5 =>
    bn (sI h 100 x3 s.2.2 (x5 - l1)) fun h7 =>
    bn (F_ra_level l0 h7) fun h10 =>
    bn (gR h10 l0 6 1) fun x11 =>
    bn (aI h10 100 x11 s.2.2) fun x13 =>
    bn (sI h10 100 x11 s.2.2 (x13 + l1)) fun h15 =>
    bn (gR h15 l0 6 3) fun x17 =>
    bn (F_ra_lowestHouse l0 h15) fun x20 =>
    bn (aI h15 100 x17 x20) fun x21 =>
    if s.2.2 = (0 : Int32) then
      (some (.inl (s.2.2, x21, s.2.2 + (1 : Int32)), h15))
    else
      (if s.2.1 < x21 then
        (some (.inl (s.2.2, x21, s.2.2 + (1 : Int32)), h15))
      else
        (some (.inl (s.1, s.2.1, s.2.2 + (1 : Int32)), h15))))
  else
    (some (.inr s.1, h))
def F_ra_bestHouseFor (a0 : Nat) (a1 : Int32) (h : Hp) : Option (Int32 × Hp) :=
  ck h a0 6 (bd (lp (B_ra_bestHouseFor_7 a0 a1) FU ((0 : Int32), (0 : Int32), (0 : Int32)) h) fun x23 h25 =>
  some (x23, h25))
def F_cs_bestStay (a0 : Nat) (a1 : Int32) (h : Hp) : Option (Int32 × Hp) :=
  ck h a0 11 (bn (F_cs_noLake a0 h) fun x2 =>
  bn (F_cs_outside a1 (0 : Int32) (99 : Int32)) fun x4 =>
  bd (F_cs_refused a0 x2 x4 h) fun x6 h7 =>
  if x6 = (0 : Int32) then
    (bn (gR h7 a0 11 6) fun x8 =>
    bn (gR h7 a0 11 3) fun x10 =>
    bn (gR h7 a0 11 4) fun x12 =>
    bn (F_ra_measure x8 x10 x12 h7) fun h15 =>
    bn (gR h15 a0 11 6) fun x16 =>
    bd (F_ra_bestHouseFor x16 a1 h15) fun x19 h20 =>
    some (x19, h20))
  else
    (some ((-1 : Int32), h7)))
def F_cs_bestMove (a0 : Nat) (a1 : Int32) (h : Hp) : Option (Int32 × Hp) :=
  ck h a0 11 (bn (F_cs_noGuest a0 a1 h) fun x2 =>
  bd (F_cs_refused a0 x2 (0 : Int32) h) fun x4 h5 =>
  if x4 = (0 : Int32) then
    (bn (gR h5 a0 11 6) fun x6 =>
    bn (gR h5 a0 11 3) fun x8 =>
    bn (gR h5 a0 11 4) fun x10 =>
    bn (F_ra_measure x6 x8 x10 h5) fun h13 =>
    bn (gR h13 a0 11 6) fun x14 =>
    bn (gR h13 x14 6 1) fun x16 =>
    bn (gR h13 a0 11 4) fun x18 =>
    bn (gR h13 x18 8 1) fun x20 =>
    bn (aI h13 100 x20 a1) fun x22 =>
    bn (aI h13 100 x16 x22) fun x24 =>
    bn (gR h13 a0 11 3) fun x26 =>
    bn (gR h13 x26 10 9) fun x28 =>
    bn (aI h13 100 x28 a1) fun x30 =>
    bn (sI h13 100 x16 x22 (x24 + x30)) fun h32 =>
    bn (gR h32 a0 11 6) fun x34 =>
    bn (gR h32 a0 11 3) fun x36 =>
    bn (gR h32 x36 10 9) fun x38 =>
    bn (aI h32 100 x38 a1) fun x40 =>
    bd (F_ra_bestHouseFor x34 x40 h32) fun x43 h44 =>
    some (x43, h44))
  else
    (some ((-1 : Int32), h5)))
def F_ra_dryHouses (a0 : Nat) (h : Hp) : Option Int32 :=
  ck h a0 6 (bn (gI h a0 6 0) fun x1 =>
  bn (F_ra_underBits a0 h) fun x4 =>
  bn (F_in_bitCount x4) fun x6 =>
  some (x1 - x6))
def B_cs_bestCut_42 (l0 : Nat) (s : Int32 × Int32 × Int32) (h : Hp) : Option (((Int32 × Int32 × Int32) ⊕ (Int32)) × Hp) :=
  bn (gR h l0 11 3) fun x18 =>
  bn (gI h x18 10 5) fun x20 =>
  if s.2.2 < x20 then
    (bn (gR h l0 11 4) fun x22 =>
    bn (F_st_isTied x22 s.2.2 h) fun x25 =>
    if x25 = (0 : Int32) then
      (some (.inl (s.1, s.2.1, s.2.2 + (1 : Int32)), h))
    else
      (bn (gR h l0 11 6) fun x26 =>
      bn (gR h l0 11 3) fun x28 =>
      bn (gR h l0 11 4) fun x30 =>
      bn (gI h x30 8 2) fun x32 =>
      bn (F_ra_join x26 x28 (x32 &&& (((1 : Int32) <<< (s.2.2 &&& 31)) ^^^ (-1 : Int32))) h) fun h35 =>
      bn (gR h35 l0 11 6) fun x36 =>
      bn (F_ra_level x36 h35) fun h39 =>
      bn (gR h39 l0 11 6) fun x40 =>
      bn (F_ra_dryHouses x40 h39) fun x43 =>
      if s.1 < x43 then
        (some (.inl (x43, s.2.2, s.2.2 + (1 : Int32)), h39))
      else
        (some (.inl (s.1, s.2.1, s.2.2 + (1 : Int32)), h39))))
  else
    (some (.inr s.2.1, h))
def F_cs_bestCut (a0 : Nat) (h : Hp) : Option (Int32 × Hp) :=
  ck h a0 11 (bn (F_cs_noLake a0 h) fun x2 =>
  bd (F_cs_refused a0 x2 (0 : Int32) h) fun x4 h5 =>
  if x4 = (0 : Int32) then
    (bn (gR h5 a0 11 6) fun x6 =>
    bn (gR h5 a0 11 3) fun x8 =>
    bn (gR h5 a0 11 4) fun x10 =>
    bn (F_ra_measure x6 x8 x10 h5) fun h13 =>
    bn (gR h13 a0 11 6) fun x14 =>
    bn (F_ra_dryHouses x14 h13) fun x17 =>
    bd (lp (B_cs_bestCut_42 a0) FU (x17, (-2 : Int32), (0 : Int32)) h13) fun x44 h46 =>
    some (x44, h46))
  else
    (some ((-1 : Int32), h5)))
def F_pl_note (a0 : Nat) (a1 : Int32) (a2 : Int32) (a3 : Int32) (h : Hp) : Option Hp :=
  ck h a0 5 (bn (gR h a0 5 1) fun x1 =>
  bn (F_ra_firstOf x1 a1 h) fun x4 =>
  bn (gR h a0 5 4) fun x5 =>
  bn (gR h a0 5 4) fun x7 =>
  bn (aI h 100 x7 ((x4 * (4 : Int32)) + a2)) fun x9 =>
  bn (gR h a0 5 1) fun x11 =>
  bn (F_ra_sizeOf x11 a1 h) fun x14 =>
  bn (gR h a0 5 1) fun x15 =>
  bn (F_ra_totalOf x15 a1 h) fun x18 =>
  bn (F_ma_max x9 ((a3 * x14) - x18)) fun x20 =>
  bn (sI h 100 x5 ((x4 * (4 : Int32)) + a2) x20) fun h21 =>
  some h21)
def B_pl_noteHouses_2 (l0 : Nat) (l1 : Nat) (s : Int32) (h : Hp) : Option (((Int32) ⊕ (Unit)) × Hp) :=
  bn (gI h l1 10 1) fun x1 =>
  if s < x1 then
    (bn (F_pl_note l0 s (0 : Int32) (0 : Int32) h) fun h4 =>
    some (.inl (s + (1 : Int32)), h4))
  else
    (some (.inr (), h))
def F_pl_noteHouses (a0 : Nat) (a1 : Nat) (h : Hp) : Option Hp :=
  ck h a0 5 (bd (lp (B_pl_noteHouses_2 a0 a1) FU (0 : Int32) h) fun x5 h7 =>
  some h7)
def B_pl_noteFeasts_2 (l0 : Nat) (l1 : Nat) (l2 : Int32) (s : Int32) (h : Hp) : Option (((Int32) ⊕ (Unit)) × Hp) :=
  bn (gI h l1 10 14) fun x1 =>
  if s < x1 then
    (bn (gR h l1 10 16) fun x3 =>
    bn (aI h 100 x3 s) fun x5 =>
    bn (F_ma_min x5 (3 : Int32)) fun x8 =>
    if x8 = l2 then
      (bn (gR h l1 10 15) fun x9 =>
      bn (aI h 100 x9 s) fun x11 =>
      bn (gR h l1 10 17) fun x13 =>
      bn (aI h 100 x13 s) fun x15 =>
      bn (F_pl_note l0 x11 l2 x15 h) fun h18 =>
      some (.inl (s + (1 : Int32)), h18))
    else
      (some (.inl (s + (1 : Int32)), h)))
  else
    (some (.inr (), h))
def F_pl_noteFeasts (a0 : Nat) (a1 : Nat) (a2 : Int32) (h : Hp) : Option Hp :=
  ck h a0 5 (bd (lp (B_pl_noteFeasts_2 a0 a1 a2) FU (0 : Int32) h) fun x19 h21 =>
  some h21)
def B_pl_isLacking_2 (l0 : Nat) (l1 : Int32) (h : Hp) (s : Int32) : Option ((Int32) ⊕ ((Unit) ⊕ Int32)) :=
  if s < (4 : Int32) then
    (bn (gR h l0 5 4) fun x1 =>
    bn (aI h 100 x1 ((l1 * (4 : Int32)) + s)) fun x3 =>
    if (0 : Int32) < x3 then
      (some (.inr (.inr (1 : Int32))))
    else
      (some (.inl (s + (1 : Int32)))))
  else
    (some (.inr (.inl ())))
def F_pl_isLacking (a0 : Nat) (a1 : Int32) (h : Hp) : Option Int32 :=
  ck h a0 5 (bn (lq (B_pl_isLacking_2 a0 a1 h) FU (0 : Int32)) fun x5 =>
  ei x5 (fun q7 =>
  some (0 : Int32))
  (fun x8 => some x8))
def B_pl_lackingRafts_4 (l0 : Nat) (l1 : Int32) (h : Hp) (s : Int32 × Int32) : Option ((Int32 × Int32) ⊕ (Int32)) :=
  if s.2 < l1 then
    (bn (F_pl_isLacking l0 s.2 h) fun x2 =>
    if x2 = (0 : Int32) then
      (some (.inl (s.1, s.2 + (1 : Int32))))
    else
      (some (.inl (s.1 + (1 : Int32), s.2 + (1 : Int32)))))
  else
    (some (.inr s.1))
def F_pl_lackingRafts (a0 : Nat) (a1 : Int32) (h : Hp) : Option Int32 :=
  ck h a0 5 (bn (lq (B_pl_lackingRafts_4 a0 a1 h) FU ((0 : Int32), (0 : Int32))) fun x3 =>
  some x3)
def F_st_liftOfOld (a0 : Int32) (a1 : Int32) (h : Hp) : Option Int32 :=
  if a0 = (0 : Int32) then
    (bn (aI h 100 1000001 (0 : Int32)) fun x1 =>
    bn (F_ma_max (0 : Int32) (x1 - a1)) fun x4 =>
    some x4)
  else
    (bn (F_st_liftOfKind a0 h) fun x6 =>
    some x6)
def B_pl_put_3 (l0 : Nat) (l1 : Int32) (l2 : Int32) (l3 : Int32) (s : Int32) (h : Hp) : Option (((Int32) ⊕ (Unit)) × Hp) :=
  if s < (4 : Int32) then
    (bn (gR h l0 5 4) fun x1 =>
    bn (aI h 100 x1 ((l1 * (4 : Int32)) + s)) fun x3 =>
    bn (F_st_liftOfOld l2 s h) fun x6 =>
    bn (sI h 100 x1 ((l1 * (4 : Int32)) + s) (x3 - (l3 * x6))) fun h7 =>
    some (.inl (s + (1 : Int32)), h7))
  else
    (some (.inr (), h))
def F_pl_put (a0 : Nat) (a1 : Int32) (a2 : Int32) (a3 : Int32) (h : Hp) : Option Hp :=
  ck h a0 5 (bd (lp (B_pl_put_3 a0 a1 a2 a3) FU (0 : Int32) h) fun x9 h11 =>
  some h11)
def B_pl_search_125 (rc : Nat → Nat → Int32 → Int32 → Hp → Option Hp) (l0 : Nat) (l1 : Nat) (l2 : Int32) (l3 : Int32) (l4 : Int32) (l5 : Int32) (s : Int32) (h : Hp) : Option (((Int32) ⊕ (Unit)) × Hp) :=
  bn (gI h l1 10 1) fun x23 =>
  if s < x23 then
    (bn (F_pl_isLacking l0 s h) fun x26 =>
    if x26 = (0 : Int32) then
      (some (.inl (s + (1 : Int32)), h))
    else
      (bn (gR h l0 5 5) fun x27 =>
      bn (sI h 100 x27 l2 l4) fun h29 =>
      bn (gR h29 l0 5 6) fun x31 =>
      bn (sI h29 100 x31 l2 s) fun h33 =>
      bn (gR h33 l1 10 12) fun x35 =>
      bn (aI h33 100 x35 l2) fun x37 =>
      bn (F_pl_put l0 s x37 l5 h33) fun h40 =>
      bn (rc l0 l1 (l2 + (1 : Int32)) (l3 + l5) h40) fun h42 =>
      bn (gR h42 l1 10 12) fun x43 =>
      bn (aI h42 100 x43 l2) fun x45 =>
      bn (F_pl_put l0 s x45 (-l5) h42) fun h48 =>
      some (.inl (s + (1 : Int32)), h48)))
  else
    (some (.inr (), h))
def B_pl_search_102 (rc : Nat → Nat → Int32 → Int32 → Hp → Option Hp) (l0 : Nat) (l1 : Nat) (l2 : Int32) (l3 : Int32) (s : Int32) (h : Hp) : Option (((Int32) ⊕ (Unit)) × Hp) :=
  bn (gI h l0 5 3) fun x17 =>
  if x17 < s then
    (some (.inr (), h))
  else
    (bn (gR h l1 10 13) fun x19 =>
    bn (aI h 100 x19 l2) fun x21 =>
    bd (lp (B_pl_search_125 rc l0 l1 l2 l3 s (s * x21)) FU (0 : Int32) h) fun x49 h51 =>
    some (.inl (s + (1 : Int32)), h51))
def G_pl_search (rc : Nat → Nat → Int32 → Int32 → Hp → Option Hp) (a0 : Nat) (a1 : Nat) (a2 : Int32) (a3 : Int32) (h : Hp) : Option Hp :=
  ck h a0 5 (bn (gI h a0 5 0) fun x1 =>
  if x1 < (0 : Int32) then
    (bn (gI h a1 10 1) fun x3 =>
    bn (F_pl_lackingRafts a0 x3 h) fun x6 =>
    bn (gI h a1 10 11) fun x7 =>
    if (x7 - a2) < x6 then
      (some h)
    else
      (bn (gI h a1 10 11) fun x9 =>
      if a2 < x9 then
        (bn (gR h a0 5 5) fun x11 =>
        bn (sI h 100 x11 a2 (0 : Int32)) fun h13 =>
        bn (rc a0 a1 (a2 + (1 : Int32)) a3 h13) fun h16 =>
        bd (lp (B_pl_search_102 rc a0 a1 a2 a3) FU (1 : Int32) h16) fun x52 h54 =>
        some h54)
      else
        (bn (pI h a0 5 0 a3) fun h55 =>
        bn (gR h55 a0 5 5) fun x57 =>
        bn (gR h55 a0 5 7) fun x59 =>
        bn (gR h55 a0 5 7) fun x61 =>
        bn (aN h55 x61) fun x63 =>
        bn (cpI h55 x57 (0 : Int32) x59 (0 : Int32) x63) fun h65 =>
        bn (gR h65 a0 5 6) fun x67 =>
        bn (gR h65 a0 5 8) fun x69 =>
        bn (gR h65 a0 5 8) fun x71 =>
        bn (aN h65 x71) fun x73 =>
        bn (cpI h65 x67 (0 : Int32) x69 (0 : Int32) x73) fun h75 =>
        some h75)))
  else
    (bn (gI h a0 5 0) fun x77 =>
    if a3 < x77 then
      (bn (gI h a1 10 1) fun x79 =>
      bn (F_pl_lackingRafts a0 x79 h) fun x82 =>
      bn (gI h a1 10 11) fun x83 =>
      if (x83 - a2) < x82 then
        (some h)
      else
        (bn (gI h a1 10 11) fun x85 =>
        if a2 < x85 then
          (bn (gR h a0 5 5) fun x87 =>
          bn (sI h 100 x87 a2 (0 : Int32)) fun h89 =>
          bn (rc a0 a1 (a2 + (1 : Int32)) a3 h89) fun h92 =>
          bd (lp (B_pl_search_102 rc a0 a1 a2 a3) FU (1 : Int32) h92) fun x128 h130 =>
          some h130)
        else
          (bn (pI h a0 5 0 a3) fun h131 =>
          bn (gR h131 a0 5 5) fun x133 =>
          bn (gR h131 a0 5 7) fun x135 =>
          bn (gR h131 a0 5 7) fun x137 =>
          bn (aN h131 x137) fun x139 =>
          bn (cpI h131 x133 (0 : Int32) x135 (0 : Int32) x139) fun h141 =>
          bn (gR h141 a0 5 6) fun x143 =>
          bn (gR h141 a0 5 8) fun x145 =>
          bn (gR h141 a0 5 8) fun x147 =>
          bn (aN h141 x147) fun x149 =>
          bn (cpI h141 x143 (0 : Int32) x145 (0 : Int32) x149) fun h151 =>
          some h151)))
    else
      (some h)))
def F_pl_search : Nat → Nat → Nat → Int32 → Int32 → Hp → Option Hp
  | 0 => fun _ _ _ _ _ => none
  | n + 1 => G_pl_search (F_pl_search n)
def B_pl_find_14 (l0 : Nat) (l1 : Nat) (l2 : Nat) (l4 : Int32) (s : Int32) (h : Hp) : Option (((Int32) ⊕ (Unit)) × Hp) :=
  bn (gR h l0 5 4) fun x5 =>
  bn (aN h x5) fun x7 =>
  if s < x7 then
    (bn (gR h l0 5 4) fun x9 =>
    bn (sI h 100 x9 s (0 : Int32)) fun h11 =>
    some (.inl (s + (1 : Int32)), h11))
  else
    (some (.inr (), h))
def B_pl_find_49 (l0 : Nat) (l1 : Nat) (l4 : Int32) (s : Int32) (h : Hp) : Option (((Int32) ⊕ (Unit)) × Hp) :=
  if s < (4 : Int32) then
    (bn (gR h l0 5 1) fun x20 =>
    bn (gR h l0 5 2) fun x22 =>
    bn (F_ra_measure x20 l1 x22 h) fun h25 =>
    bn (if s = (0 : Int32) then
        (bn (F_pl_noteHouses l0 l1 h25) fun h27 =>
        some h27)
      else
        (some h25)) fun h29 =>
    bn (if l4 = (0 : Int32) then
        (some h29)
      else
        (bn (F_pl_noteFeasts l0 l1 s h29) fun h31 =>
        some h31)) fun h33 =>
    bn (gR h33 l0 5 2) fun x34 =>
    bn (F_st_soften x34 h33) fun h37 =>
    some (.inl (s + (1 : Int32)), h37))
  else
    (some (.inr (), h))
def F_pl_find (a0 : Nat) (a1 : Nat) (a2 : Nat) (a3 : Int32) (a4 : Int32) (h : Hp) : Option Hp :=
  ck h a0 5 (bn (pI h a0 5 3 a3) fun h1 =>
  bn (pI h1 a0 5 0 (-2 : Int32)) fun h3 =>
  bd (lp (B_pl_find_14 a0 a1 a2 a4) FU (0 : Int32) h3) fun x13 h15 =>
  bn (gR h15 a0 5 2) fun x16 =>
  bn (F_st_copyFrom x16 a2 h15) fun h19 =>
  bd (lp (B_pl_find_49 a0 a1 a4) FU (0 : Int32) h19) fun x38 h40 =>
  bn (F_pl_search 6 a0 a1 (0 : Int32) (0 : Int32) h40) fun h42 =>
  some h42)
def F_cs_plan (a0 : Nat) (a1 : Int32) (h : Hp) : Option (Int32 × Hp) :=
  ck h a0 11 (bn (F_cs_noLake a0 h) fun x2 =>
  bn (F_cs_outside a1 (1 : Int32) (4 : Int32)) fun x4 =>
  bd (F_cs_refused a0 x2 x4 h) fun x6 h7 =>
  if x6 = (0 : Int32) then
    (bn (gR h7 a0 11 8) fun x8 =>
    bn (gR h7 a0 11 3) fun x10 =>
    bn (gR h7 a0 11 4) fun x12 =>
    bn (F_pl_find x8 x10 x12 a1 (0 : Int32) h7) fun h15 =>
    bn (gR h15 a0 11 8) fun x16 =>
    bn (gI h15 x16 5 0) fun x18 =>
    some (x18, h15))
  else
    (some ((-1 : Int32), h7)))
def F_cs_noDrinker (a0 : Nat) (a1 : Int32) (h : Hp) : Option Int32 :=
  ck h a0 11 (bn (gR h a0 11 3) fun x1 =>
  bn (gI h x1 10 11) fun x3 =>
  bn (F_cs_outside a1 (0 : Int32) (x3 - (1 : Int32))) fun x6 =>
  if retV .boolean x6 = true then
    (some x6)
  else
    (none))
def F_pl_daysOf (a0 : Nat) (a1 : Int32) (h : Hp) : Option Int32 :=
  ck h a0 5 (bn (gI h a0 5 0) fun x1 =>
  if x1 < (0 : Int32) then
    (some (-2 : Int32))
  else
    (bn (gR h a0 5 7) fun x3 =>
    bn (aI h 100 x3 a1) fun x5 =>
    some x5))
def F_cs_planDays (a0 : Nat) (a1 : Int32) (a2 : Int32) (h : Hp) : Option (Int32 × Hp) :=
  ck h a0 11 (bn (F_cs_noDrinker a0 a1 h) fun x2 =>
  bn (F_cs_outside a2 (1 : Int32) (4 : Int32)) fun x4 =>
  bd (F_cs_refused a0 x2 x4 h) fun x6 h7 =>
  if x6 = (0 : Int32) then
    (bn (gR h7 a0 11 8) fun x8 =>
    bn (gR h7 a0 11 3) fun x10 =>
    bn (gR h7 a0 11 4) fun x12 =>
    bn (F_pl_find x8 x10 x12 a2 (0 : Int32) h7) fun h15 =>
    bn (gR h15 a0 11 8) fun x16 =>
    bn (F_pl_daysOf x16 a1 h15) fun x19 =>
    some (x19, h15))
  else
    (some ((-1 : Int32), h7)))
def F_pl_houseOf (a0 : Nat) (a1 : Int32) (h : Hp) : Option Int32 :=
  ck h a0 5 (bn (gI h a0 5 0) fun x1 =>
  if x1 < (0 : Int32) then
    (some (-2 : Int32))
  else
    (bn (gR h a0 5 7) fun x3 =>
    bn (aI h 100 x3 a1) fun x5 =>
    if x5 = (0 : Int32) then
      (some (-2 : Int32))
    else
      (bn (gR h a0 5 8) fun x7 =>
      bn (aI h 100 x7 a1) fun x9 =>
      some x9)))
def F_cs_planHouse (a0 : Nat) (a1 : Int32) (a2 : Int32) (h : Hp) : Option (Int32 × Hp) :=
  ck h a0 11 (bn (F_cs_noDrinker a0 a1 h) fun x2 =>
  bn (F_cs_outside a2 (1 : Int32) (4 : Int32)) fun x4 =>
  bd (F_cs_refused a0 x2 x4 h) fun x6 h7 =>
  if x6 = (0 : Int32) then
    (bn (gR h7 a0 11 8) fun x8 =>
    bn (gR h7 a0 11 3) fun x10 =>
    bn (gR h7 a0 11 4) fun x12 =>
    bn (F_pl_find x8 x10 x12 a2 (0 : Int32) h7) fun h15 =>
    bn (gR h15 a0 11 8) fun x16 =>
    bn (F_pl_houseOf x16 a1 h15) fun x19 =>
    some (x19, h15))
  else
    (some ((-1 : Int32), h7)))
def F_cs_feasts (a0 : Nat) (a1 : Int32) (h : Hp) : Option (Int32 × Hp) :=
  ck h a0 11 (bn (F_cs_noLake a0 h) fun x2 =>
  bn (F_cs_outside a1 (1 : Int32) (4 : Int32)) fun x4 =>
  bd (F_cs_refused a0 x2 x4 h) fun x6 h7 =>
  if x6 = (0 : Int32) then
    (bn (gR h7 a0 11 8) fun x8 =>
    bn (gR h7 a0 11 3) fun x10 =>
    bn (gR h7 a0 11 4) fun x12 =>
    bn (F_pl_find x8 x10 x12 a1 (1 : Int32) h7) fun h15 =>
    bn (gR h15 a0 11 8) fun x16 =>
    bn (gI h15 x16 5 0) fun x18 =>
    some (x18, h15))
  else
    (some ((-1 : Int32), h7)))
def F_cs_feastHouse (a0 : Nat) (a1 : Int32) (a2 : Int32) (h : Hp) : Option (Int32 × Hp) :=
  ck h a0 11 (bn (F_cs_noDrinker a0 a1 h) fun x2 =>
  bn (F_cs_outside a2 (1 : Int32) (4 : Int32)) fun x4 =>
  bd (F_cs_refused a0 x2 x4 h) fun x6 h7 =>
  if x6 = (0 : Int32) then
    (bn (gR h7 a0 11 8) fun x8 =>
    bn (gR h7 a0 11 3) fun x10 =>
    bn (gR h7 a0 11 4) fun x12 =>
    bn (F_pl_find x8 x10 x12 a2 (1 : Int32) h7) fun h15 =>
    bn (gR h15 a0 11 8) fun x16 =>
    bn (F_pl_houseOf x16 a1 h15) fun x19 =>
    some (x19, h15))
  else
    (some ((-1 : Int32), h7)))
def B_ho_firstUnlike_29 (l0 : Nat) (l3 : Nat) (h : Hp) (s : Int32) : Option ((Int32) ⊕ ((Unit) ⊕ Int32)) :=
  bn (gI h l3 1 4) fun x13 =>
  if s < x13 then
    (bn (gR h l0 2 2) fun x15 =>
    bn (gR h x15 6 3) fun x17 =>
    bn (gR h l3 1 5) fun x19 =>
    bn (aI h 100 x19 s) fun x21 =>
    bn (aI h 100 x17 x21) fun x23 =>
    bn (gR h l3 1 6) fun x25 =>
    bn (aI h 100 x25 s) fun x27 =>
    if x23 = x27 then
      (some (.inl (s + (1 : Int32))))
    else
      (some (.inr (.inr s))))
  else
    (some (.inr (.inl ())))
def F_ho_firstUnlike (a0 : Nat) (a1 : Nat) (a2 : Int32) (h : Hp) : Option (Int32 × Hp) :=
  ck h a0 2 (bn (gR h a0 2 3) fun x1 =>
  bn (F_to_begin a1 x1 a2 h) fun h4 =>
  bn (gR h4 a0 2 2) fun x5 =>
  bn (gR h4 a0 2 3) fun x7 =>
  bn (F_ra_measure x5 a1 x7 h4) fun h10 =>
  bn (gR h10 a1 10 18) fun x11 =>
  bn (lq (B_ho_firstUnlike_29 a0 x11 h10) FU (0 : Int32)) fun x29 =>
  ei x29 (fun q31 =>
  some ((-2 : Int32), h10))
  (fun x32 => some (x32, h10)))
def B_ho_find_7 (l0 : Nat) (l1 : Nat) (s : Int32) (h : Hp) : Option (((Int32) ⊕ (Unit)) × Hp) :=
  bn (gI h l1 10 11) fun x3 =>
  if s < ((1 : Int32) <<< (x3 &&& 31)) then
    (bn (gI h l0 2 0) fun x5 =>
    bn (gR h l0 2 1) fun x7 =>
    bn (aN h x7) fun x9 =>
    if x5 < x9 then
      (bd (F_ho_firstUnlike l0 l1 s h) fun x12 h13 =>
      if x12 = (-2 : Int32) then
        (bn (gR h13 l0 2 1) fun x14 =>
        bn (gI h13 l0 2 0) fun x16 =>
        bn (sI h13 100 x14 x16 s) fun h18 =>
        bn (gI h18 l0 2 0) fun x20 =>
        bn (pI h18 l0 2 0 (x20 + (1 : Int32))) fun h22 =>
        some (.inl (s + (1 : Int32)), h22))
      else
        (some (.inl (s + (1 : Int32)), h13)))
    else
      (some (.inr (), h)))
  else
    (some (.inr (), h))
def F_ho_find (a0 : Nat) (a1 : Nat) (h : Hp) : Option Hp :=
  ck h a0 2 (bn (pI h a0 2 0 (0 : Int32)) fun h1 =>
  bd (lp (B_ho_find_7 a0 a1) FU (0 : Int32) h1) fun x24 h26 =>
  some h26)
def F_cs_sets (a0 : Nat) (h : Hp) : Option (Int32 × Hp) :=
  ck h a0 11 (bn (F_cs_noLake a0 h) fun x2 =>
  bd (F_cs_refused a0 x2 (0 : Int32) h) fun x4 h5 =>
  if x4 = (0 : Int32) then
    (bn (gR h5 a0 11 9) fun x6 =>
    bn (gR h5 a0 11 3) fun x8 =>
    bn (F_ho_find x6 x8 h5) fun h11 =>
    bn (gR h11 a0 11 9) fun x12 =>
    bn (gI h11 x12 2 0) fun x14 =>
    some (x14, h11))
  else
    (some ((-1 : Int32), h5)))
def F_cs_setAt (a0 : Nat) (a1 : Int32) (h : Hp) : Option (Int32 × Hp) :=
  ck h a0 11 (bn (F_cs_noLake a0 h) fun x2 =>
  bd (F_cs_refused a0 x2 (0 : Int32) h) fun x4 h5 =>
  if x4 = (0 : Int32) then
    (bn (gR h5 a0 11 9) fun x6 =>
    bn (gR h5 a0 11 3) fun x8 =>
    bn (F_ho_find x6 x8 h5) fun h11 =>
    bn (gR h11 a0 11 9) fun x12 =>
    bn (gI h11 x12 2 0) fun x14 =>
    bn (F_cs_outside a1 (0 : Int32) (x14 - (1 : Int32))) fun x17 =>
    bd (F_cs_refusedBy a0 (1 : Int32) x17 h11) fun x19 h20 =>
    if x19 = (0 : Int32) then
      (bn (gR h20 a0 11 9) fun x21 =>
      bn (gR h20 x21 2 1) fun x23 =>
      bn (aI h20 100 x23 a1) fun x25 =>
      some (x25, h20))
    else
      (some ((-1 : Int32), h20)))
  else
    (some ((-1 : Int32), h5)))
def B_ho_inSome_4 (l0 : Nat) (h : Hp) (s : Int32 × Int32) : Option ((Int32 × Int32) ⊕ (Int32)) :=
  bn (gI h l0 2 0) fun x1 =>
  if s.2 < x1 then
    (bn (gR h l0 2 1) fun x3 =>
    bn (aI h 100 x3 s.2) fun x5 =>
    some (.inl (s.1 ||| x5, s.2 + (1 : Int32))))
  else
    (some (.inr s.1))
def F_ho_inSome (a0 : Nat) (h : Hp) : Option Int32 :=
  ck h a0 2 (bn (lq (B_ho_inSome_4 a0 h) FU ((0 : Int32), (0 : Int32))) fun x7 =>
  some x7)
def F_cs_could (a0 : Nat) (h : Hp) : Option (Int32 × Hp) :=
  ck h a0 11 (bn (F_cs_noLake a0 h) fun x2 =>
  bd (F_cs_refused a0 x2 (0 : Int32) h) fun x4 h5 =>
  if x4 = (0 : Int32) then
    (bn (gR h5 a0 11 9) fun x6 =>
    bn (gR h5 a0 11 3) fun x8 =>
    bn (F_ho_find x6 x8 h5) fun h11 =>
    bn (gR h11 a0 11 9) fun x12 =>
    bn (F_ho_inSome x12 h11) fun x15 =>
    some (x15, h11))
  else
    (some ((-1 : Int32), h5)))
def B_ho_inAll_20 (l0 : Nat) (h : Hp) (s : Int32 × Int32) : Option ((Int32 × Int32) ⊕ (Int32)) :=
  bn (gI h l0 2 0) fun x8 =>
  if s.2 < x8 then
    (bn (gR h l0 2 1) fun x10 =>
    bn (aI h 100 x10 s.2) fun x12 =>
    some (.inl (s.1 &&& x12, s.2 + (1 : Int32))))
  else
    (some (.inr s.1))
def F_ho_inAll (a0 : Nat) (h : Hp) : Option Int32 :=
  ck h a0 2 (bn (gI h a0 2 0) fun x1 =>
  bn (if (0 : Int32) < x1 then
      (bn (gR h a0 2 1) fun x3 =>
      bn (aI h 100 x3 (0 : Int32)) fun x5 =>
      some x5)
    else
      (some (0 : Int32))) fun q7 =>
  bn (lq (B_ho_inAll_20 a0 h) FU (q7, (1 : Int32))) fun x14 =>
  some x14)
def F_cs_surely (a0 : Nat) (h : Hp) : Option (Int32 × Hp) :=
  ck h a0 11 (bn (F_cs_noLake a0 h) fun x2 =>
  bd (F_cs_refused a0 x2 (0 : Int32) h) fun x4 h5 =>
  if x4 = (0 : Int32) then
    (bn (gR h5 a0 11 9) fun x6 =>
    bn (gR h5 a0 11 3) fun x8 =>
    bn (F_ho_find x6 x8 h5) fun h11 =>
    bn (gR h11 a0 11 9) fun x12 =>
    bn (F_ho_inAll x12 h11) fun x15 =>
    some (x15, h11))
  else
    (some ((-1 : Int32), h5)))
def B_ho_leftBy_4 (l0 : Nat) (l1 : Int32) (h : Hp) (s : Int32 × Int32) : Option ((Int32 × Int32) ⊕ (Int32)) :=
  bn (gI h l0 2 0) fun x1 =>
  if s.2 < x1 then
    (bn (gR h l0 2 1) fun x3 =>
    bn (aI h 100 x3 s.2) fun x5 =>
    some (.inl (s.1 + ((x5 >>> (l1 &&& 31)) &&& (1 : Int32)), s.2 + (1 : Int32))))
  else
    (some (.inr s.1))
def F_ho_leftBy (a0 : Nat) (a1 : Int32) (h : Hp) : Option Int32 :=
  ck h a0 2 (bn (lq (B_ho_leftBy_4 a0 a1 h) FU ((0 : Int32), (0 : Int32))) fun x7 =>
  bn (gI h a0 2 0) fun x9 =>
  bn (F_ma_max x7 (x9 - x7)) fun x12 =>
  some x12)
def B_ho_whomToAsk_18 (l0 : Nat) (l1 : Int32) (h : Hp) (s : Int32 × Int32) : Option ((Int32 × Int32) ⊕ (Int32)) :=
  if s.2 < l1 then
    (bn (F_ho_leftBy l0 s.2 h) fun x4 =>
    bn (F_ho_leftBy l0 s.1 h) fun x6 =>
    if x4 < x6 then
      (some (.inl (s.2, s.2 + (1 : Int32))))
    else
      (some (.inl (s.1, s.2 + (1 : Int32)))))
  else
    (some (.inr s.1))
def F_ho_whomToAsk (a0 : Nat) (a1 : Int32) (h : Hp) : Option Int32 :=
  ck h a0 2 (bn (gI h a0 2 0) fun x1 =>
  if x1 = (0 : Int32) then
    (some (-2 : Int32))
  else
    (if a1 = (0 : Int32) then
      (some (-2 : Int32))
    else
      (bn (lq (B_ho_whomToAsk_18 a0 a1 h) FU ((0 : Int32), (1 : Int32))) fun x7 =>
      some x7)))
def F_cs_ask (a0 : Nat) (h : Hp) : Option (Int32 × Hp) :=
  ck h a0 11 (bn (F_cs_noLake a0 h) fun x2 =>
  bd (F_cs_refused a0 x2 (0 : Int32) h) fun x4 h5 =>
  if x4 = (0 : Int32) then
    (bn (gR h5 a0 11 9) fun x6 =>
    bn (gR h5 a0 11 3) fun x8 =>
    bn (F_ho_find x6 x8 h5) fun h11 =>
    bn (gR h11 a0 11 9) fun x12 =>
    bn (gR h11 a0 11 3) fun x14 =>
    bn (gI h11 x14 10 11) fun x16 =>
    bn (F_ho_whomToAsk x12 x16 h11) fun x19 =>
    some (x19, h11))
  else
    (some ((-1 : Int32), h5)))
def F_cs_askLeaves (a0 : Nat) (h : Hp) : Option (Int32 × Hp) :=
  ck h a0 11 (bn (F_cs_noLake a0 h) fun x2 =>
  bd (F_cs_refused a0 x2 (0 : Int32) h) fun x4 h5 =>
  if x4 = (0 : Int32) then
    (bn (gR h5 a0 11 9) fun x6 =>
    bn (gR h5 a0 11 3) fun x8 =>
    bn (F_ho_find x6 x8 h5) fun h11 =>
    bn (gR h11 a0 11 9) fun x12 =>
    bn (gR h11 a0 11 3) fun x14 =>
    bn (gI h11 x14 10 11) fun x16 =>
    bn (F_ho_whomToAsk x12 x16 h11) fun x19 =>
    if x19 < (0 : Int32) then
      (some ((-2 : Int32), h11))
    else
      (bn (gR h11 a0 11 9) fun x20 =>
      bn (F_ho_leftBy x20 x19 h11) fun x23 =>
      some (x23, h11)))
  else
    (some ((-1 : Int32), h5)))
def F_cs_judge (a0 : Nat) (h : Hp) : Option (Int32 × Hp) :=
  ck h a0 11 (bn (F_cs_noLake a0 h) fun x2 =>
  bd (F_cs_refused a0 x2 (0 : Int32) h) fun x4 h5 =>
  if x4 = (0 : Int32) then
    (bn (gR h5 a0 11 9) fun x6 =>
    bn (gR h5 a0 11 3) fun x8 =>
    bd (F_ho_firstUnlike x6 x8 (0 : Int32) h5) fun x11 h12 =>
    some (x11, h12))
  else
    (some ((-1 : Int32), h5)))
def F_gm_dryBy (a0 : Nat) (a1 : Nat) (a2 : Int32) (h : Hp) : Option (Int32 × Hp) :=
  ck h a0 0 (bn (gR h a0 0 0) fun x1 =>
  bn (F_ra_join x1 a1 a2 h) fun h4 =>
  bn (gR h4 a0 0 0) fun x5 =>
  bn (F_ra_level x5 h4) fun h8 =>
  bn (gR h8 a0 0 0) fun x9 =>
  bn (F_ra_dryHouses x9 h8) fun x12 =>
  some (x12, h8))
def B_gm_mostRaised_4 (l0 : Nat) (h : Hp) (s : Int32 × Int32) : Option ((Int32 × Int32) ⊕ (Int32)) :=
  bn (gR h l0 0 0) fun x1 =>
  bn (gI h x1 6 0) fun x3 =>
  if s.2 < x3 then
    (bn (gR h l0 0 0) fun x5 =>
    bn (gR h x5 6 3) fun x7 =>
    bn (aI h 100 x7 s.2) fun x9 =>
    if x9 < (0 : Int32) then
      (bn (gR h l0 0 0) fun x11 =>
      bn (F_ra_totalOf x11 s.2 h) fun x14 =>
      if (x14 + (2 : Int32)) < (0 : Int32) then
        (some (.inl (s.1, s.2 + (1 : Int32))))
      else
        (bn (gR h l0 0 0) fun x15 =>
        bn (F_ra_sizeOf x15 s.2 h) fun x18 =>
        bn (F_ma_max s.1 x18) fun x20 =>
        some (.inl (x20, s.2 + (1 : Int32)))))
    else
      (some (.inl (s.1, s.2 + (1 : Int32)))))
  else
    (some (.inr s.1))
def F_gm_mostRaised (a0 : Nat) (h : Hp) : Option Int32 :=
  ck h a0 0 (bn (lq (B_gm_mostRaised_4 a0 h) FU ((0 : Int32), (0 : Int32))) fun x21 =>
  some x21)
def B_gm_villageMoves_34 (rc : Nat → Nat → Int32 → Int32 → Hp → Option (Int32 × Hp)) (l0 : Nat) (l1 : Nat) (l2 : Int32) (l3 : Int32) (s : Int32 × Int32) (h : Hp) : Option (((Int32 × Int32) ⊕ (Int32)) × Hp) :=
  bn (gI h l1 10 1) fun x6 =>
  if s.2 < x6 then
    (bn (gR h l0 0 0) fun x8 =>
    bn (gR h x8 6 1) fun x10 =>
    bn (aI h 100 x10 s.2) fun x12 =>
    bn (sI h 100 x10 s.2 (x12 + (2 : Int32))) fun h14 =>
    bd (rc l0 l1 l2 (l3 - (1 : Int32)) h14) fun x17 h18 =>
    bn (F_ma_max s.1 x17) fun x20 =>
    bn (gR h18 l0 0 0) fun x21 =>
    bn (gR h18 x21 6 1) fun x23 =>
    bn (aI h18 100 x23 s.2) fun x25 =>
    bn (sI h18 100 x23 s.2 (x25 - (2 : Int32))) fun h27 =>
    some (.inl (x20, s.2 + (1 : Int32)), h27))
  else
    (some (.inr s.1, h))
def G_gm_villageMoves (rc : Nat → Nat → Int32 → Int32 → Hp → Option (Int32 × Hp)) (a0 : Nat) (a1 : Nat) (a2 : Int32) (a3 : Int32) (h : Hp) : Option (Int32 × Hp) :=
  ck h a0 0 (if (0 : Int32) < a3 then
    (if a3 = (1 : Int32) then
      (bd (F_gm_dryBy a0 a1 a2 h) fun x2 h3 =>
      bn (F_gm_mostRaised a0 h3) fun x5 =>
      some (x2 + x5, h3))
    else
      (bd (lp (B_gm_villageMoves_34 rc a0 a1 a2 a3) FU ((0 : Int32), (0 : Int32)) h) fun x29 h31 =>
      some (x29, h31)))
  else
    (bd (F_gm_dryBy a0 a1 a2 h) fun x33 h34 =>
    some (x33, h34)))
def B_gm_kingMoves_25 (rc : Nat → Nat → Int32 → Int32 → Hp → Option (Int32 × Hp)) (l0 : Nat) (l1 : Nat) (l2 : Int32) (l3 : Int32) (s : Int32 × Int32) (h : Hp) : Option (((Int32 × Int32) ⊕ (Int32)) × Hp) :=
  bn (gI h l1 10 5) fun x4 =>
  if s.2 < x4 then
    (if ((l2 >>> (s.2 &&& 31)) &&& (1 : Int32)) = (0 : Int32) then
      (some (.inl (s.1, s.2 + (1 : Int32)), h))
    else
      (bd (G_gm_villageMoves rc l0 l1 (l2 &&& (((1 : Int32) <<< (s.2 &&& 31)) ^^^ (-1 : Int32))) (l3 - (1 : Int32)) h) fun x7 h8 =>
      bn (F_ma_min s.1 x7) fun x10 =>
      some (.inl (x10, s.2 + (1 : Int32)), h8)))
  else
    (some (.inr s.1, h))
def G_gm_kingMoves (rc : Nat → Nat → Int32 → Int32 → Hp → Option (Int32 × Hp)) (a0 : Nat) (a1 : Nat) (a2 : Int32) (a3 : Int32) (h : Hp) : Option (Int32 × Hp) :=
  ck h a0 0 (if (0 : Int32) < a3 then
    (bd (G_gm_villageMoves rc a0 a1 a2 (a3 - (1 : Int32)) h) fun x2 h3 =>
    bd (lp (B_gm_kingMoves_25 rc a0 a1 a2 a3) FU (x2, (0 : Int32)) h3) fun x11 h13 =>
    some (x11, h13))
  else
    (bd (F_gm_dryBy a0 a1 a2 h) fun x15 h16 =>
    some (x15, h16)))
def F_gm_kingMoves : Nat → Nat → Nat → Int32 → Int32 → Hp → Option (Int32 × Hp)
  | 0 => fun _ _ _ _ _ => none
  | n + 1 => G_gm_kingMoves (F_gm_kingMoves n)
def F_gm_villageMoves (n : Nat) : Nat → Nat → Int32 → Int32 → Hp → Option (Int32 × Hp) := G_gm_villageMoves (F_gm_kingMoves n)
def F_gm_valueOf (a0 : Nat) (a1 : Nat) (a2 : Nat) (a3 : Int32) (h : Hp) : Option (Int32 × Hp) :=
  ck h a0 0 (bn (gR h a0 0 0) fun x1 =>
  bn (F_ra_weigh x1 a1 a2 h) fun h4 =>
  bn (gI h4 a2 8 2) fun x5 =>
  bd (F_gm_kingMoves 6 a0 a1 x5 a3 h4) fun x8 h9 =>
  some (x8, h9))
def F_cs_value (a0 : Nat) (a1 : Int32) (h : Hp) : Option (Int32 × Hp) :=
  ck h a0 11 (bn (F_cs_noLake a0 h) fun x2 =>
  bn (F_cs_outside a1 (0 : Int32) (4 : Int32)) fun x4 =>
  bd (F_cs_refused a0 x2 x4 h) fun x6 h7 =>
  if x6 = (0 : Int32) then
    (bn (gR h7 a0 11 10) fun x8 =>
    bn (gR h7 a0 11 3) fun x10 =>
    bn (gR h7 a0 11 4) fun x12 =>
    bd (F_gm_valueOf x8 x10 x12 a1 h7) fun x15 h16 =>
    some (x15, h16))
  else
    (some ((-1 : Int32), h7)))
def B_gm_firstCut_30 (l0 : Nat) (l1 : Nat) (l2 : Nat) (l3 : Int32) (s : Int32 × Int32 × Int32) (h : Hp) : Option (((Int32 × Int32 × Int32) ⊕ (Int32)) × Hp) :=
  bn (gI h l1 10 5) fun x10 =>
  if s.2.2 < x10 then
    (bn (F_st_isTied l2 s.2.2 h) fun x13 =>
    if x13 = (0 : Int32) then
      (some (.inl (s.1, s.2.1, s.2.2 + (1 : Int32)), h))
    else
      (bn (gI h l2 8 2) fun x14 =>
      bd (F_gm_villageMoves 6 l0 l1 (x14 &&& (((1 : Int32) <<< (s.2.2 &&& 31)) ^^^ (-1 : Int32))) (l3 - (1 : Int32)) h) fun x17 h18 =>
      if x17 < s.1 then
        (some (.inl (x17, s.2.2, s.2.2 + (1 : Int32)), h18))
      else
        (some (.inl (s.1, s.2.1, s.2.2 + (1 : Int32)), h18))))
  else
    (some (.inr s.2.1, h))
def F_gm_firstCut (a0 : Nat) (a1 : Nat) (a2 : Nat) (a3 : Int32) (h : Hp) : Option (Int32 × Hp) :=
  ck h a0 0 (bn (gR h a0 0 0) fun x1 =>
  bn (F_ra_weigh x1 a1 a2 h) fun h4 =>
  bn (gI h4 a2 8 2) fun x5 =>
  bd (F_gm_villageMoves 6 a0 a1 x5 (a3 - (1 : Int32)) h4) fun x8 h9 =>
  bd (lp (B_gm_firstCut_30 a0 a1 a2 a3) FU (x8, (-2 : Int32), (0 : Int32)) h9) fun x19 h21 =>
  some (x19, h21))
def F_cs_kingCuts (a0 : Nat) (a1 : Int32) (h : Hp) : Option (Int32 × Hp) :=
  ck h a0 11 (bn (F_cs_noLake a0 h) fun x2 =>
  bn (F_cs_outside a1 (1 : Int32) (4 : Int32)) fun x4 =>
  bd (F_cs_refused a0 x2 x4 h) fun x6 h7 =>
  if x6 = (0 : Int32) then
    (bn (gR h7 a0 11 10) fun x8 =>
    bn (gR h7 a0 11 3) fun x10 =>
    bn (gR h7 a0 11 4) fun x12 =>
    bd (F_gm_firstCut x8 x10 x12 a1 h7) fun x15 h16 =>
    some (x15, h16))
  else
    (some ((-1 : Int32), h7)))
def F_cs_refusedOdds (a0 : Nat) (a1 : Int32) (a2 : Int32) (h : Hp) : Option (Int32 × Hp) :=
  ck h a0 11 (bn (F_cs_noHouse a0 a1 h) fun x2 =>
  bn (F_cs_outside a2 (0 : Int32) (4 : Int32)) fun x4 =>
  bd (F_cs_refused a0 x2 x4 h) fun x6 h7 =>
  if x6 = (0 : Int32) then
    (bn (gR h7 a0 11 3) fun x8 =>
    bn (F_to_isNorth x8 a1 h7) fun x11 =>
    bn (if x11 = (0 : Int32) then
        (some (1 : Int32))
      else
        (some (0 : Int32))) fun q12 =>
    bd (F_cs_refusedBy a0 (5 : Int32) q12 h7) fun x14 h15 =>
    if x14 = (0 : Int32) then
      (some ((0 : Int32), h15))
    else
      (some ((1 : Int32), h15)))
  else
    (some ((1 : Int32), h7)))
def B_mo_shareOf_5 (l0 : Int32) (l1 : Int32) (l2 : Int32) (s : Int64 × Int32) : Option ((Int64 × Int32) ⊕ (Int64)) :=
  if s.2 < l1 then
    (if ((l0 >>> (s.2 &&& 31)) &&& (1 : Int32)) = (0 : Int32) then
      (some (.inl (s.1 * (((100 : Int32) - l2).toInt64), s.2 + (1 : Int32))))
    else
      (some (.inl (s.1 * l2.toInt64, s.2 + (1 : Int32)))))
  else
    (some (.inr s.1))
def F_mo_shareOf (a0 : Int32) (a1 : Int32) (a2 : Int32) : Option Int64 :=
  bn (lq (B_mo_shareOf_5 a0 a1 a2) FU ((1 : Int64), (0 : Int32))) fun x1 =>
  some x1
def B_st_loseOne_2 (l0 : Nat) (l1 : Int32) (s : Int32) (h : Hp) : Option (((Int32) ⊕ ((Unit) ⊕ Int32)) × Hp) :=
  if s < (5 : Int32) then
    (bn (aI h 100 1000002 s) fun x1 =>
    bn (gR h l0 8 0) fun x3 =>
    bn (aI h 100 x3 ((l1 * (5 : Int32)) + x1)) fun x5 =>
    if (0 : Int32) < x5 then
      (bn (gR h l0 8 0) fun x7 =>
      bn (aI h 100 x7 ((l1 * (5 : Int32)) + x1)) fun x9 =>
      bn (sI h 100 x7 ((l1 * (5 : Int32)) + x1) (x9 - (1 : Int32))) fun h11 =>
      some (.inr (.inr (1 : Int32)), h11))
    else
      (some (.inl (s + (1 : Int32)), h)))
  else
    (some (.inr (.inl ()), h))
def F_st_loseOne (a0 : Nat) (a1 : Int32) (h : Hp) : Option (Int32 × Hp) :=
  ck h a0 8 (bd (lp (B_st_loseOne_2 a0 a1) FU (0 : Int32) h) fun x13 h15 =>
  ei x13 (fun q16 =>
  some ((0 : Int32), h15))
  (fun x17 => some (x17, h15)))
def B_mo_lossBy_6 (l0 : Nat) (l1 : Int32) (l2 : Int32) (l3 : Int32) (s : Int32 × Int32) (h : Hp) : Option (((Int32 × Int32) ⊕ (Int32)) × Hp) :=
  if s.2 < l3 then
    (bn (gR h l0 4 4) fun x1 =>
    bn (F_st_softenUnder x1 l2 h) fun h4 =>
    if ((l1 >>> (s.2 &&& 31)) &&& (1 : Int32)) = (0 : Int32) then
      (some (.inl (s.1, s.2 + (1 : Int32)), h4))
    else
      (bn (gR h4 l0 4 4) fun x5 =>
      bd (F_st_loseOne x5 l2 h4) fun x8 h9 =>
      if x8 = (0 : Int32) then
        (some (.inl (s.1, s.2 + (1 : Int32)), h9))
      else
        (some (.inl (s.1 + (1 : Int32), s.2 + (1 : Int32)), h9))))
  else
    (some (.inr s.1, h))
def F_mo_lossBy (a0 : Nat) (a1 : Int32) (a2 : Int32) (a3 : Int32) (h : Hp) : Option (Int32 × Hp) :=
  ck h a0 4 (bd (lp (B_mo_lossBy_6 a0 a1 a2 a3) FU ((0 : Int32), (0 : Int32)) h) fun x10 h12 =>
  some (x10, h12))
def B_mo_follow_8 (l0 : Nat) (l1 : Nat) (l2 : Nat) (l3 : Int32) (l4 : Int32) (s : Int32) (h : Hp) : Option (((Int32) ⊕ (Unit)) × Hp) :=
  if s < l4 then
    (bn (gL h l0 4 0) fun x3 =>
    bn (pL h l0 4 0 (x3 * (100 : Int64))) fun h5 =>
    some (.inl (s + (1 : Int32)), h5))
  else
    (some (.inr (), h))
def B_mo_follow_59 (l0 : Nat) (l1 : Nat) (l2 : Nat) (l3 : Int32) (l4 : Int32) (l5 : Int32) (s : Int32) (h : Hp) : Option (((Int32) ⊕ (Unit)) × Hp) :=
  if s < ((1 : Int32) <<< (l4 &&& 31)) then
    (bn (gI h l1 10 0) fun x18 =>
    bn (F_mo_shareOf s l4 x18) fun x21 =>
    if (0 : Int32) < (lg_cmp x21 (0 : Int64)) then
      (bn (gR h l0 4 4) fun x22 =>
      bn (F_st_copyFrom x22 l2 h) fun h25 =>
      bn (gL h25 l0 4 3) fun x26 =>
      bd (F_mo_lossBy l0 s l3 l4 h25) fun x29 h30 =>
      bn (pL h30 l0 4 3 (x26 + (x21 * x29.toInt64))) fun h31 =>
      bn (gR h31 l0 4 4) fun x33 =>
      bn (F_st_liftUnder x33 l3 h31) fun x36 =>
      bn (gL h31 l0 4 2) fun x37 =>
      bn (pL h31 l0 4 2 (x37 + (x21 * ((x36 - l5).toInt64)))) fun h39 =>
      bn (gL h39 l0 4 1) fun x41 =>
      if (x36 - l5) < (0 : Int32) then
        (bn (pL h39 l0 4 1 (x41 + (0 : Int64))) fun h43 =>
        some (.inl (s + (1 : Int32)), h43))
      else
        (bn (pL h39 l0 4 1 (x41 + x21)) fun h45 =>
        some (.inl (s + (1 : Int32)), h45)))
    else
      (some (.inl (s + (1 : Int32)), h)))
  else
    (some (.inr (), h))
def F_mo_follow (a0 : Nat) (a1 : Nat) (a2 : Nat) (a3 : Int32) (a4 : Int32) (h : Hp) : Option Hp :=
  ck h a0 4 (bn (pL h a0 4 0 (1 : Int64)) fun h1 =>
  bd (lp (B_mo_follow_8 a0 a1 a2 a3 a4) FU (0 : Int32) h1) fun x7 h9 =>
  bn (pL h9 a0 4 1 (0 : Int64)) fun h10 =>
  bn (pL h10 a0 4 2 (0 : Int64)) fun h12 =>
  bn (pL h12 a0 4 3 (0 : Int64)) fun h14 =>
  bn (F_to_weightAt a1 a3 a2 h14) fun x17 =>
  bd (lp (B_mo_follow_59 a0 a1 a2 a3 a4 x17) FU (0 : Int32) h14) fun x47 h49 =>
  some h49)
def B_cs_commonDivisor_9 (s : Int64 × Int64 × Int32) : Option ((Int64 × Int64 × Int32) ⊕ (Int64)) :=
  if s.2.2 < (100 : Int32) then
    (if (lg_cmp s.2.1 (0 : Int64)) = (0 : Int32) then
      (some (.inr s.1))
    else
      (bn (rm64 s.1 s.2.1) fun x1 =>
      some (.inl (s.2.1, x1, s.2.2 + (1 : Int32)))))
  else
    (some (.inr s.1))
def F_cs_commonDivisor (a0 : Int64) (a1 : Int64) : Option Int64 :=
  bn (lq (B_cs_commonDivisor_9) FU (a0, a1, (0 : Int32))) fun x3 =>
  some x3
def F_cs_partOf (a0 : Int64) (a1 : Int64) (a2 : Int32) : Option Int64 :=
  bn (F_cs_commonDivisor a0 a1) fun x2 =>
  if (0 : Int32) < (lg_cmp x2 (0 : Int64)) then
    (if a2 = (0 : Int32) then
      (bn (dv64 a0 x2) fun x3 =>
      some x3)
    else
      (bn (dv64 a1 x2) fun x5 =>
      some x5))
  else
    (if a2 = (0 : Int32) then
      (some (0 : Int64))
    else
      (some (1 : Int64)))
def F_cs_dry (a0 : Nat) (a1 : Int32) (a2 : Int32) (a3 : Int32) (h : Hp) : Option (Int64 × Hp) :=
  ck h a0 11 (bd (F_cs_refusedOdds a0 a1 a2 h) fun x2 h3 =>
  if x2 = (0 : Int32) then
    (bn (gR h3 a0 11 11) fun x4 =>
    bn (gR h3 a0 11 3) fun x6 =>
    bn (gR h3 a0 11 4) fun x8 =>
    bn (F_mo_follow x4 x6 x8 a1 a2 h3) fun h11 =>
    bn (gR h11 a0 11 11) fun x12 =>
    bn (gL h11 x12 4 1) fun x14 =>
    bn (gR h11 a0 11 11) fun x16 =>
    bn (gL h11 x16 4 0) fun x18 =>
    bn (F_cs_partOf x14 x18 a3) fun x21 =>
    some (x21, h11))
  else
    (some ((-1 : Int64), h3)))
def F_cs_mean (a0 : Nat) (a1 : Int32) (a2 : Int32) (a3 : Int32) (h : Hp) : Option (Int64 × Hp) :=
  ck h a0 11 (bd (F_cs_refusedOdds a0 a1 a2 h) fun x2 h3 =>
  if x2 = (0 : Int32) then
    (bn (gR h3 a0 11 11) fun x4 =>
    bn (gR h3 a0 11 3) fun x6 =>
    bn (gR h3 a0 11 4) fun x8 =>
    bn (F_mo_follow x4 x6 x8 a1 a2 h3) fun h11 =>
    bn (gR h11 a0 11 11) fun x12 =>
    bn (gL h11 x12 4 2) fun x14 =>
    bn (gR h11 a0 11 11) fun x16 =>
    bn (gL h11 x16 4 0) fun x18 =>
    bn (gR h11 a0 11 11) fun x20 =>
    bn (gL h11 x20 4 0) fun x22 =>
    bn (F_cs_partOf (x14 + ((1000 : Int64) * x18)) x22 a3) fun x25 =>
    some (x25, h11))
  else
    (some ((-1 : Int64), h3)))
def B_cs_safest_29 (l0 : Nat) (l1 : Int32) (s : Int32 × Int64 × Int32) (h : Hp) : Option (((Int32 × Int64 × Int32) ⊕ (Int32)) × Hp) :=
  bn (gR h l0 11 3) fun x8 =>
  bn (gI h x8 10 1) fun x10 =>
  if s.2.2 < x10 then
    (bn (gR h l0 11 3) fun x12 =>
    bn (F_to_isNorth x12 s.2.2 h) fun x15 =>
    if x15 = (0 : Int32) then
      (some (.inl (s.1, s.2.1, s.2.2 + (1 : Int32)), h))
    else
      (bn (gR h l0 11 11) fun x16 =>
      bn (gR h l0 11 3) fun x18 =>
      bn (gR h l0 11 4) fun x20 =>
      bn (F_mo_follow x16 x18 x20 s.2.2 l1 h) fun h23 =>
      bn (gR h23 l0 11 11) fun x24 =>
      bn (gL h23 x24 4 1) fun x26 =>
      if (0 : Int32) < (lg_cmp x26 s.2.1) then
        (bn (gR h23 l0 11 11) fun x28 =>
        bn (gL h23 x28 4 1) fun x30 =>
        some (.inl (s.2.2, x30, s.2.2 + (1 : Int32)), h23))
      else
        (some (.inl (s.1, s.2.1, s.2.2 + (1 : Int32)), h23))))
  else
    (some (.inr s.1, h))
def F_cs_safest (a0 : Nat) (a1 : Int32) (h : Hp) : Option (Int32 × Hp) :=
  ck h a0 11 (bn (F_cs_noLake a0 h) fun x2 =>
  bn (F_cs_outside a1 (0 : Int32) (4 : Int32)) fun x4 =>
  bd (F_cs_refused a0 x2 x4 h) fun x6 h7 =>
  if x6 = (0 : Int32) then
    (bd (lp (B_cs_safest_29 a0 a1) FU ((-2 : Int32), (-1 : Int64), (0 : Int32)) h7) fun x32 h34 =>
    some (x32, h34))
  else
    (some ((-1 : Int32), h7)))
def F_cs_losses (a0 : Nat) (a1 : Int32) (a2 : Int32) (a3 : Int32) (h : Hp) : Option (Int64 × Hp) :=
  ck h a0 11 (bd (F_cs_refusedOdds a0 a1 a2 h) fun x2 h3 =>
  if x2 = (0 : Int32) then
    (bn (gR h3 a0 11 11) fun x4 =>
    bn (gR h3 a0 11 3) fun x6 =>
    bn (gR h3 a0 11 4) fun x8 =>
    bn (F_mo_follow x4 x6 x8 a1 a2 h3) fun h11 =>
    bn (gR h11 a0 11 11) fun x12 =>
    bn (gL h11 x12 4 3) fun x14 =>
    bn (gR h11 a0 11 11) fun x16 =>
    bn (gL h11 x16 4 0) fun x18 =>
    bn (F_cs_partOf x14 x18 a3) fun x21 =>
    some (x21, h11))
  else
    (some ((-1 : Int64), h3)))
def F_cs_wrongDraws (a0 : Int32) (a1 : Int32) : Option Int32 :=
  bn (F_cs_outside a0 (0 : Int32) (65536 : Int32)) fun x2 =>
  if x2 = (0 : Int32) then
    (bn (F_cs_outside a1 (0 : Int32) (20 : Int32)) fun x4 =>
    if x4 = (0 : Int32) then
      (some (0 : Int32))
    else
      (some (1 : Int32)))
  else
    (some (1 : Int32))
def B_st_passWithMice_8 (l0 : Nat) (l1 : Nat) (s : Int32 × Int32) (h : Hp) : Option (((Int32 × Int32) ⊕ (Int32)) × Hp) :=
  bn (gI h l1 10 1) fun x3 =>
  if s.2 < x3 then
    (bn (F_to_isNorth l1 s.2 h) fun x6 =>
    if x6 = (0 : Int32) then
      (some (.inl (s.1, s.2 + (1 : Int32)), h))
    else
      (bn (gI h l0 8 3) fun x7 =>
      bn (rm32 (((75 : Int32) * x7) + (74 : Int32)) (65537 : Int32)) fun x9 =>
      bn (pI h l0 8 3 x9) fun h11 =>
      bn (gI h11 l0 8 3) fun x13 =>
      bn (rm32 x13 (100 : Int32)) fun x15 =>
      bn (gI h11 l1 10 0) fun x17 =>
      if x15 < x17 then
        (bd (F_st_loseOne l0 s.2 h11) fun x20 h21 =>
        if x20 = (0 : Int32) then
          (some (.inl (s.1, s.2 + (1 : Int32)), h21))
        else
          (some (.inl (s.1 + (1 : Int32), s.2 + (1 : Int32)), h21)))
      else
        (some (.inl (s.1, s.2 + (1 : Int32)), h11))))
  else
    (some (.inr s.1, h))
def F_st_passWithMice (a0 : Nat) (a1 : Nat) (h : Hp) : Option (Int32 × Hp) :=
  ck h a0 8 (bn (F_st_soften a0 h) fun h2 =>
  bd (lp (B_st_passWithMice_8 a0 a1) FU ((0 : Int32), (0 : Int32)) h2) fun x22 h24 =>
  bn (gI h24 a0 8 4) fun x25 =>
  bn (pI h24 a0 8 4 (x25 + (1 : Int32))) fun h27 =>
  some (x22, h27))
def B_cs_eatLater_24 (l0 : Nat) (l2 : Int32) (s : Int32 × Int32) (h : Hp) : Option (((Int32 × Int32) ⊕ (Int32)) × Hp) :=
  if s.2 < l2 then
    (bn (gR h l0 11 5) fun x11 =>
    bn (gR h l0 11 3) fun x13 =>
    bd (F_st_passWithMice x11 x13 h) fun x16 h17 =>
    some (.inl (s.1 + x16, s.2 + (1 : Int32)), h17))
  else
    (some (.inr s.1, h))
def F_cs_eatLater (a0 : Nat) (a1 : Int32) (a2 : Int32) (h : Hp) : Option (Int32 × Hp) :=
  ck h a0 11 (bn (gR h a0 11 5) fun x1 =>
  bn (gR h a0 11 4) fun x3 =>
  bn (F_st_copyFrom x1 x3 h) fun h6 =>
  bn (gR h6 a0 11 5) fun x7 =>
  bn (pI h6 x7 8 3 a1) fun h9 =>
  bd (lp (B_cs_eatLater_24 a0 a2) FU ((0 : Int32), (0 : Int32)) h9) fun x18 h20 =>
  some (x18, h20))
def F_cs_weeks (a0 : Nat) (a1 : Int32) (a2 : Int32) (a3 : Int32) (h : Hp) : Option (Int32 × Hp) :=
  ck h a0 11 (bn (F_cs_noHouse a0 a1 h) fun x2 =>
  bn (F_cs_wrongDraws a2 a3) fun x4 =>
  bd (F_cs_refused a0 x2 x4 h) fun x6 h7 =>
  if x6 = (0 : Int32) then
    (bd (F_cs_eatLater a0 a2 a3 h7) fun x9 h10 =>
    bn (gR h10 a0 11 6) fun x11 =>
    bn (gR h10 a0 11 3) fun x13 =>
    bn (gR h10 a0 11 5) fun x15 =>
    bn (F_ra_measure x11 x13 x15 h10) fun h18 =>
    bn (gR h18 a0 11 6) fun x19 =>
    bn (gR h18 x19 6 3) fun x21 =>
    bn (aI h18 100 x21 a1) fun x23 =>
    some (x23 + (1000 : Int32), h18))
  else
    (some ((-1 : Int32), h7)))
def F_cs_eaten (a0 : Nat) (a1 : Int32) (a2 : Int32) (h : Hp) : Option (Int32 × Hp) :=
  ck h a0 11 (bn (F_cs_noLake a0 h) fun x2 =>
  bn (F_cs_wrongDraws a1 a2) fun x4 =>
  bd (F_cs_refused a0 x2 x4 h) fun x6 h7 =>
  if x6 = (0 : Int32) then
    (bd (F_cs_eatLater a0 a1 a2 h7) fun x9 h10 =>
    some (x9, h10))
  else
    (some ((-1 : Int32), h7)))
def B_cs_sunkAt_27 (l0 : Nat) (l2 : Int32) (s : Int32) (h : Hp) : Option (((Int32) ⊕ ((Unit) ⊕ Int32)) × Hp) :=
  if l2 < s then
    (some (.inr (.inl ()), h))
  else
    (bn (gR h l0 11 6) fun x11 =>
    bn (gR h l0 11 3) fun x13 =>
    bn (gR h l0 11 5) fun x15 =>
    bn (F_ra_measure x11 x13 x15 h) fun h18 =>
    bn (gR h18 l0 11 6) fun x19 =>
    bn (F_ra_underBits x19 h18) fun x22 =>
    if x22 = (0 : Int32) then
      (bn (gR h18 l0 11 5) fun x23 =>
      bn (gR h18 l0 11 3) fun x25 =>
      bd (F_st_passWithMice x23 x25 h18) fun x28 h29 =>
      some (.inl (s + (1 : Int32)), h29))
    else
      (some (.inr (.inr s), h18)))
def F_cs_sunkAt (a0 : Nat) (a1 : Int32) (a2 : Int32) (h : Hp) : Option (Int32 × Hp) :=
  ck h a0 11 (bn (F_cs_noLake a0 h) fun x2 =>
  bn (F_cs_wrongDraws a1 a2) fun x4 =>
  bd (F_cs_refused a0 x2 x4 h) fun x6 h7 =>
  if x6 = (0 : Int32) then
    (bd (F_cs_eatLater a0 a1 (0 : Int32) h7) fun x9 h10 =>
    bd (lp (B_cs_sunkAt_27 a0 a2) FU (0 : Int32) h10) fun x30 h32 =>
    ei x30 (fun q33 =>
    some ((-2 : Int32), h32))
    (fun x34 => some (x34, h32)))
  else
    (some ((-1 : Int32), h7)))
def F_st_save (a0 : Nat) (a1 : Nat) (a2 : Int32) (h : Hp) : Option Hp :=
  ck h a0 8 (if (a2 * (31 : Int32)) < (0 : Int32) then
    (some h)
  else
    (bn (aN h a1) fun x1 =>
    if x1 < ((a2 * (31 : Int32)) + (31 : Int32)) then
      (some h)
    else
      (bn (gR h a0 8 0) fun x3 =>
      bn (cpI h x3 (0 : Int32) a1 (a2 * (31 : Int32)) (25 : Int32)) fun h5 =>
      bn (gR h5 a0 8 1) fun x7 =>
      bn (cpI h5 x7 (0 : Int32) a1 ((a2 * (31 : Int32)) + (25 : Int32)) (3 : Int32)) fun h9 =>
      bn (gI h9 a0 8 2) fun x11 =>
      bn (sI h9 100 a1 (((a2 * (31 : Int32)) + (31 : Int32)) - (3 : Int32)) x11) fun h13 =>
      bn (gI h13 a0 8 3) fun x15 =>
      bn (sI h13 100 a1 (((a2 * (31 : Int32)) + (31 : Int32)) - (2 : Int32)) x15) fun h17 =>
      bn (gI h17 a0 8 4) fun x19 =>
      bn (sI h17 100 a1 (((a2 * (31 : Int32)) + (31 : Int32)) - (1 : Int32)) x19) fun h21 =>
      some h21)))
def F_me_keep (a0 : Nat) (a1 : Nat) (h : Hp) : Option Hp :=
  ck h a0 3 (bn (gR h a0 3 0) fun x1 =>
  bn (gI h a0 3 2) fun x3 =>
  bn (F_st_save a1 x1 x3 h) fun h6 =>
  bn (gI h6 a0 3 2) fun x7 =>
  bn (rm32 (x7 + (1 : Int32)) (16 : Int32)) fun x9 =>
  bn (pI h6 a0 3 2 x9) fun h11 =>
  bn (gI h11 a0 3 3) fun x13 =>
  bn (F_ma_min (x13 + (1 : Int32)) (16 : Int32)) fun x16 =>
  bn (pI h11 a0 3 3 x16) fun h17 =>
  some h17)
def F_cs_drink (a0 : Nat) (a1 : Int32) (a2 : Int32) (h : Hp) : Option (Int32 × Hp) :=
  ck h a0 11 (bn (F_cs_noDrinker a0 a1 h) fun x2 =>
  bn (if x2 = (0 : Int32) then
      (bn (F_cs_noHouse a0 a2 h) fun x4 =>
      if x4 = (0 : Int32) then
        (some (0 : Int32))
      else
        (some (1 : Int32)))
    else
      (some (1 : Int32))) fun q5 =>
  bd (F_cs_refused a0 q5 (0 : Int32) h) fun x7 h8 =>
  if x7 = (0 : Int32) then
    (bn (gR h8 a0 11 3) fun x9 =>
    bn (gR h8 x9 10 12) fun x11 =>
    bn (aI h8 100 x11 a1) fun x13 =>
    bn (gR h8 a0 11 4) fun x15 =>
    bn (gR h8 x15 8 0) fun x17 =>
    bn (aI h8 100 x17 ((a2 * (5 : Int32)) + x13)) fun x19 =>
    bn (if x19 < (999 : Int32) then
        (some (0 : Int32))
      else
        (some (1 : Int32))) fun q21 =>
    bd (F_cs_refusedBy a0 (3 : Int32) q21 h8) fun x23 h24 =>
    if x23 = (0 : Int32) then
      (bn (gR h24 a0 11 7) fun x25 =>
      bn (gR h24 a0 11 4) fun x27 =>
      bn (F_me_keep x25 x27 h24) fun h30 =>
      bn (gR h30 a0 11 4) fun x31 =>
      bn (gR h30 x31 8 0) fun x33 =>
      bn (aI h30 100 x33 ((a2 * (5 : Int32)) + x13)) fun x35 =>
      bn (sI h30 100 x33 ((a2 * (5 : Int32)) + x13) (x35 + (1 : Int32))) fun h37 =>
      bn (gR h37 a0 11 4) fun x39 =>
      bn (gR h37 x39 8 0) fun x41 =>
      bn (aI h37 100 x41 ((a2 * (5 : Int32)) + x13)) fun x43 =>
      some (x43, h37))
    else
      (some ((-1 : Int32), h24)))
  else
    (some ((-1 : Int32), h8)))
def F_cs_move (a0 : Nat) (a1 : Int32) (a2 : Int32) (h : Hp) : Option (Int32 × Hp) :=
  ck h a0 11 (bn (F_cs_noGuest a0 a1 h) fun x2 =>
  bn (if x2 = (0 : Int32) then
      (bn (F_cs_noHouse a0 a2 h) fun x4 =>
      if x4 = (0 : Int32) then
        (some (0 : Int32))
      else
        (some (1 : Int32)))
    else
      (some (1 : Int32))) fun q5 =>
  bd (F_cs_refused a0 q5 (0 : Int32) h) fun x7 h8 =>
  if x7 = (0 : Int32) then
    (bn (gR h8 a0 11 4) fun x9 =>
    bn (gR h8 x9 8 1) fun x11 =>
    bn (aI h8 100 x11 a1) fun x13 =>
    bn (if x13 = a2 then
        (some (1 : Int32))
      else
        (some (0 : Int32))) fun q15 =>
    bd (F_cs_refusedBy a0 (5 : Int32) q15 h8) fun x17 h18 =>
    if x17 = (0 : Int32) then
      (bn (gR h18 a0 11 7) fun x19 =>
      bn (gR h18 a0 11 4) fun x21 =>
      bn (F_me_keep x19 x21 h18) fun h24 =>
      bn (gR h24 a0 11 4) fun x25 =>
      bn (gR h24 x25 8 1) fun x27 =>
      bn (sI h24 100 x27 a1 a2) fun h29 =>
      some ((1 : Int32), h29))
    else
      (some ((0 : Int32), h18)))
  else
    (some ((0 : Int32), h8)))
def F_cs_cut (a0 : Nat) (a1 : Int32) (h : Hp) : Option (Int32 × Hp) :=
  ck h a0 11 (bn (F_cs_noRope a0 a1 h) fun x2 =>
  bd (F_cs_refused a0 x2 (0 : Int32) h) fun x4 h5 =>
  if x4 = (0 : Int32) then
    (bn (gR h5 a0 11 4) fun x6 =>
    bn (F_st_isTied x6 a1 h5) fun x9 =>
    bn (if x9 = (0 : Int32) then
        (some (1 : Int32))
      else
        (some (0 : Int32))) fun q10 =>
    bd (F_cs_refusedBy a0 (5 : Int32) q10 h5) fun x12 h13 =>
    if x12 = (0 : Int32) then
      (bn (gR h13 a0 11 7) fun x14 =>
      bn (gR h13 a0 11 4) fun x16 =>
      bn (F_me_keep x14 x16 h13) fun h19 =>
      bn (gR h19 a0 11 4) fun x20 =>
      bn (gI h19 x20 8 2) fun x22 =>
      bn (pI h19 x20 8 2 (x22 &&& (((1 : Int32) <<< (a1 &&& 31)) ^^^ (-1 : Int32)))) fun h24 =>
      some ((1 : Int32), h24))
    else
      (some ((0 : Int32), h13)))
  else
    (some ((0 : Int32), h5)))
def F_cs_tie (a0 : Nat) (a1 : Int32) (h : Hp) : Option (Int32 × Hp) :=
  ck h a0 11 (bn (F_cs_noRope a0 a1 h) fun x2 =>
  bd (F_cs_refused a0 x2 (0 : Int32) h) fun x4 h5 =>
  if x4 = (0 : Int32) then
    (bn (gR h5 a0 11 4) fun x6 =>
    bn (F_st_isTied x6 a1 h5) fun x9 =>
    bd (F_cs_refusedBy a0 (5 : Int32) x9 h5) fun x11 h12 =>
    if x11 = (0 : Int32) then
      (bn (gR h12 a0 11 7) fun x13 =>
      bn (gR h12 a0 11 4) fun x15 =>
      bn (F_me_keep x13 x15 h12) fun h18 =>
      bn (gR h18 a0 11 4) fun x19 =>
      bn (gI h18 x19 8 2) fun x21 =>
      bn (pI h18 x19 8 2 (x21 ||| ((1 : Int32) <<< (a1 &&& 31)))) fun h23 =>
      some ((1 : Int32), h23))
    else
      (some ((0 : Int32), h12)))
  else
    (some ((0 : Int32), h5)))
def F_cs_week (a0 : Nat) (h : Hp) : Option (Int32 × Hp) :=
  ck h a0 11 (bn (F_cs_noLake a0 h) fun x2 =>
  bd (F_cs_refused a0 x2 (0 : Int32) h) fun x4 h5 =>
  if x4 = (0 : Int32) then
    (bn (gR h5 a0 11 4) fun x6 =>
    bn (gI h5 x6 8 4) fun x8 =>
    bn (if x8 < (999 : Int32) then
        (some (0 : Int32))
      else
        (some (1 : Int32))) fun q10 =>
    bd (F_cs_refusedBy a0 (3 : Int32) q10 h5) fun x12 h13 =>
    if x12 = (0 : Int32) then
      (bn (gR h13 a0 11 7) fun x14 =>
      bn (gR h13 a0 11 4) fun x16 =>
      bn (F_me_keep x14 x16 h13) fun h19 =>
      bn (gR h19 a0 11 4) fun x20 =>
      bn (gR h19 a0 11 3) fun x22 =>
      bd (F_st_passWithMice x20 x22 h19) fun x25 h26 =>
      bn (gR h26 a0 11 6) fun x27 =>
      bn (gR h26 a0 11 3) fun x29 =>
      bn (gR h26 a0 11 4) fun x31 =>
      bn (F_ra_measure x27 x29 x31 h26) fun h34 =>
      bn (gR h34 a0 11 6) fun x35 =>
      bn (F_ra_underBits x35 h34) fun x38 =>
      some (x38, h34))
    else
      (some ((-1 : Int32), h13)))
  else
    (some ((-1 : Int32), h5)))
def F_cs_seed (a0 : Nat) (a1 : Int32) (h : Hp) : Option (Int32 × Hp) :=
  ck h a0 11 (bn (F_cs_noLake a0 h) fun x2 =>
  bn (F_cs_outside a1 (0 : Int32) (65536 : Int32)) fun x4 =>
  bd (F_cs_refused a0 x2 x4 h) fun x6 h7 =>
  if x6 = (0 : Int32) then
    (bn (gR h7 a0 11 4) fun x8 =>
    bn (pI h7 x8 8 3 a1) fun h10 =>
    some ((1 : Int32), h10))
  else
    (some ((0 : Int32), h7)))
def F_st_load (a0 : Nat) (a1 : Nat) (a2 : Int32) (h : Hp) : Option Hp :=
  ck h a0 8 (if (a2 * (31 : Int32)) < (0 : Int32) then
    (some h)
  else
    (bn (aN h a1) fun x1 =>
    if x1 < ((a2 * (31 : Int32)) + (31 : Int32)) then
      (some h)
    else
      (bn (gR h a0 8 0) fun x3 =>
      bn (cpI h a1 (a2 * (31 : Int32)) x3 (0 : Int32) (25 : Int32)) fun h5 =>
      bn (gR h5 a0 8 1) fun x7 =>
      bn (cpI h5 a1 ((a2 * (31 : Int32)) + (25 : Int32)) x7 (0 : Int32) (3 : Int32)) fun h9 =>
      bn (aI h9 100 a1 (((a2 * (31 : Int32)) + (31 : Int32)) - (3 : Int32))) fun x11 =>
      bn (pI h9 a0 8 2 x11) fun h13 =>
      bn (aI h13 100 a1 (((a2 * (31 : Int32)) + (31 : Int32)) - (2 : Int32))) fun x15 =>
      bn (pI h13 a0 8 3 x15) fun h17 =>
      bn (aI h17 100 a1 (((a2 * (31 : Int32)) + (31 : Int32)) - (1 : Int32))) fun x19 =>
      bn (pI h17 a0 8 4 x19) fun h21 =>
      some h21)))
def F_me_takeBack (a0 : Nat) (a1 : Nat) (h : Hp) : Option Hp :=
  ck h a0 3 (bn (gI h a0 3 2) fun x1 =>
  bn (rm32 ((x1 + (16 : Int32)) - (1 : Int32)) (16 : Int32)) fun x3 =>
  bn (pI h a0 3 2 x3) fun h5 =>
  bn (gI h5 a0 3 3) fun x7 =>
  bn (pI h5 a0 3 3 (x7 - (1 : Int32))) fun h9 =>
  bn (gR h9 a0 3 0) fun x11 =>
  bn (gI h9 a0 3 2) fun x13 =>
  bn (F_st_load a1 x11 x13 h9) fun h16 =>
  some h16)
def F_cs_undo (a0 : Nat) (h : Hp) : Option (Int32 × Hp) :=
  ck h a0 11 (bn (gR h a0 11 7) fun x1 =>
  bn (gI h x1 3 3) fun x3 =>
  bn (if x3 = (0 : Int32) then
      (some (1 : Int32))
    else
      (some (0 : Int32))) fun q5 =>
  bd (F_cs_refusedBy a0 (6 : Int32) q5 h) fun x7 h8 =>
  if x7 = (0 : Int32) then
    (bn (gR h8 a0 11 7) fun x9 =>
    bn (gR h8 a0 11 4) fun x11 =>
    bn (F_me_takeBack x9 x11 h8) fun h14 =>
    some ((1 : Int32), h14))
  else
    (some ((0 : Int32), h8)))
def F_me_paint (a0 : Nat) (a1 : Nat) (h : Hp) : Option (Int32 × Hp) :=
  ck h a0 3 (bn (gR h a0 3 1) fun x1 =>
  bn (gI h a0 3 4) fun x3 =>
  bn (F_st_save a1 x1 x3 h) fun h6 =>
  bn (gI h6 a0 3 4) fun x7 =>
  bn (pI h6 a0 3 4 (x7 + (1 : Int32))) fun h9 =>
  bn (gI h9 a0 3 4) fun x11 =>
  some (x11 - (1 : Int32), h9))
def F_cs_image (a0 : Nat) (h : Hp) : Option (Int32 × Hp) :=
  ck h a0 11 (bn (F_cs_noLake a0 h) fun x2 =>
  bd (F_cs_refused a0 x2 (0 : Int32) h) fun x4 h5 =>
  if x4 = (0 : Int32) then
    (bn (gR h5 a0 11 7) fun x6 =>
    bn (gI h5 x6 3 4) fun x8 =>
    bn (if x8 < (3 : Int32) then
        (some (0 : Int32))
      else
        (some (1 : Int32))) fun q10 =>
    bd (F_cs_refusedBy a0 (3 : Int32) q10 h5) fun x12 h13 =>
    if x12 = (0 : Int32) then
      (bn (gR h13 a0 11 7) fun x14 =>
      bn (gR h13 a0 11 4) fun x16 =>
      bd (F_me_paint x14 x16 h13) fun x19 h20 =>
      some (x19, h20))
    else
      (some ((-1 : Int32), h13)))
  else
    (some ((-1 : Int32), h5)))
def F_me_goBack (a0 : Nat) (a1 : Nat) (a2 : Int32) (h : Hp) : Option Hp :=
  ck h a0 3 (bn (gR h a0 3 1) fun x1 =>
  bn (F_st_load a1 x1 a2 h) fun h4 =>
  bn (pI h4 a0 3 3 (0 : Int32)) fun h5 =>
  some h5)
def F_cs_back (a0 : Nat) (a1 : Int32) (h : Hp) : Option (Int32 × Hp) :=
  ck h a0 11 (bn (gR h a0 11 7) fun x1 =>
  bn (gI h x1 3 4) fun x3 =>
  bn (F_cs_outside a1 (0 : Int32) (x3 - (1 : Int32))) fun x6 =>
  bd (F_cs_refused a0 x6 (0 : Int32) h) fun x8 h9 =>
  if x8 = (0 : Int32) then
    (bn (gR h9 a0 11 7) fun x10 =>
    bn (gR h9 a0 11 4) fun x12 =>
    bn (F_me_goBack x10 x12 a1 h9) fun h15 =>
    some ((1 : Int32), h15))
  else
    (some ((0 : Int32), h9)))
def F_cs_size (a0 : Nat) (a1 : Int32) (h : Hp) : Option Int32 :=
  ck h a0 11 (if (a1).toInt < 0 ∨ 12 < (a1).toInt then
    (some (-1 : Int32))
  else if a1 = (0 : Int32) then
    (bn (gR h a0 11 3) fun x1 =>
    bn (gI h x1 10 0) fun x3 =>
    some x3)
  else if a1 = (1 : Int32) then
    (bn (gR h a0 11 3) fun x5 =>
    bn (gI h x5 10 1) fun x7 =>
    some x7)
  else if a1 = (2 : Int32) then
    (bn (gR h a0 11 3) fun x9 =>
    bn (gI h x9 10 5) fun x11 =>
    some x11)
  else if a1 = (3 : Int32) then
    (bn (gR h a0 11 3) fun x13 =>
    bn (gI h x13 10 8) fun x15 =>
    some x15)
  else if a1 = (4 : Int32) then
    (bn (gR h a0 11 3) fun x17 =>
    bn (gI h x17 10 11) fun x19 =>
    some x19)
  else if a1 = (5 : Int32) then
    (bn (gR h a0 11 3) fun x21 =>
    bn (gI h x21 10 14) fun x23 =>
    some x23)
  else if a1 = (6 : Int32) then
    (bn (gR h a0 11 3) fun x25 =>
    bn (gR h x25 10 18) fun x27 =>
    bn (gI h x27 1 0) fun x29 =>
    some x29)
  else if a1 = (7 : Int32) then
    (bn (gR h a0 11 3) fun x31 =>
    bn (gR h x31 10 18) fun x33 =>
    bn (gI h x33 1 4) fun x35 =>
    some x35)
  else if a1 = (8 : Int32) then
    (bn (gR h a0 11 4) fun x37 =>
    bn (gI h x37 8 4) fun x39 =>
    some x39)
  else if a1 = (9 : Int32) then
    (bn (gR h a0 11 4) fun x41 =>
    bn (gI h x41 8 3) fun x43 =>
    some x43)
  else if a1 = (10 : Int32) then
    (bn (gR h a0 11 7) fun x45 =>
    bn (gI h x45 3 3) fun x47 =>
    some x47)
  else if a1 = (11 : Int32) then
    (bn (gR h a0 11 7) fun x49 =>
    bn (gI h x49 3 4) fun x51 =>
    some x51)
  else if a1 = (12 : Int32) then
    (bn (gI h a0 11 1) fun x53 =>
    some x53)
  else none)
def F_cs_trouble (a0 : Nat) (h : Hp) : Option Int32 :=
  ck h a0 11 (bn (gI h a0 11 12) fun x1 =>
  some x1)
def F_md_init (a0 : Nat) (h : Hp) : Option Hp :=
  bn (pI h a0 13 2 (-1 : Int32)) fun h1 =>
  bd (nA h1 101 (1000 : Int32)) fun x3 h4 =>
  bn (pR h4 a0 13 5 (some x3)) fun h6 =>
  bd (nA h6 100 (31 : Int32)) fun x8 h9 =>
  bn (pR h9 a0 13 15 (some x8)) fun h11 =>
  bd (nA h11 100 (31 : Int32)) fun x13 h14 =>
  bn (pR h14 a0 13 16 (some x13)) fun h16 =>
  bd (nA h16 100 (496 : Int32)) fun x18 h19 =>
  bn (pR h19 a0 13 17 (some x18)) fun h21 =>
  bd (nA h21 100 (93 : Int32)) fun x23 h24 =>
  bn (pR h24 a0 13 18 (some x23)) fun h26 =>
  bd (nA h26 100 (3 : Int32)) fun x28 h29 =>
  bn (pR h29 a0 13 21 (some x28)) fun h31 =>
  bd (nA h31 100 (3 : Int32)) fun x33 h34 =>
  bn (pR h34 a0 13 22 (some x33)) fun h36 =>
  bd (nA h36 100 (3 : Int32)) fun x38 h39 =>
  bn (pR h39 a0 13 23 (some x38)) fun h41 =>
  bd (nA h41 100 (3 : Int32)) fun x43 h44 =>
  bn (pR h44 a0 13 24 (some x43)) fun h46 =>
  bd (nA h46 100 (3 : Int32)) fun x48 h49 =>
  bn (pR h49 a0 13 25 (some x48)) fun h51 =>
  bd (nA h51 100 (900 : Int32)) fun x53 h54 =>
  bn (pR h54 a0 13 30 (some x53)) fun h56 =>
  bd (nA h56 100 (4 : Int32)) fun x58 h59 =>
  bn (pR h59 a0 13 31 (some x58)) fun h61 =>
  some h61
def F_md_thrown (a0 : Nat) (h : Hp) : Option Int32 :=
  ck h a0 13 (bn (gI h a0 13 0) fun x1 =>
  some x1)
def B_md_feed_23 (l0 : Nat) (l1 : Int32) (l2 : Int32) (l3 : Int32) (l4 : Int32) (l5 : Int32) (s : Int32) (h : Hp) : Option (((Int32) ⊕ (Unit)) × Hp) :=
  if s < (20 : Int32) then
    (bn (if s < (4 : Int32) then
        (some l1)
      else
        (if s < (8 : Int32) then
          (some l2)
        else
          (if s < (12 : Int32) then
            (some l3)
          else
            (if s < (16 : Int32) then
              (some l4)
            else
              (some l5))))) fun q5 =>
    bn (gR h l0 13 5) fun x6 =>
    bn (gI h l0 13 6) fun x8 =>
    bn (rm32 s (4 : Int32)) fun x10 =>
    bn (sI h 101 x6 x8 ((q5 >>> (((24 : Int32) - ((8 : Int32) * x10)) &&& 31)).toInt8.toInt32).toInt8.toInt32) fun h12 =>
    bn (gI h12 l0 13 6) fun x14 =>
    bn (pI h12 l0 13 6 (x14 + (1 : Int32))) fun h16 =>
    some (.inl (s + (1 : Int32)), h16))
  else
    (some (.inr (), h))
def F_md_feed (a0 : Nat) (a1 : Int32) (a2 : Int32) (a3 : Int32) (a4 : Int32) (a5 : Int32) (h : Hp) : Option (Int32 × Hp) :=
  ck h a0 13 (bn (pI h a0 13 0 (0 : Int32)) fun h1 =>
  bn (gI h1 a0 13 6) fun x3 =>
  if (1000 : Int32) < (x3 + (20 : Int32)) then
    (some ((-1 : Int32), h1))
  else
    (bd (lp (B_md_feed_23 a0 a1 a2 a3 a4 a5) FU (0 : Int32) h1) fun x18 h20 =>
    bn (gI h20 a0 13 6) fun x21 =>
    some (x21, h20)))
def F_md_refused (a0 : Nat) (a1 : Int32) (h : Hp) : Option (Int32 × Hp) :=
  ck h a0 13 (bn (pI h a0 13 1 a1) fun h1 =>
  bn (pI h1 a0 13 2 (-1 : Int32)) fun h3 =>
  some ((-1 : Int32), h3))
def F_la_init (a0 : Nat) (h : Hp) : Option Hp :=
  bn (pI h a0 12 0 (-1 : Int32)) fun h1 =>
  bd (nA h1 100 (5 : Int32)) fun x3 h4 =>
  bn (pR h4 a0 12 9 (some x3)) fun h6 =>
  bd (nA h6 100 (5 : Int32)) fun x8 h9 =>
  bn (pR h9 a0 12 10 (some x8)) fun h11 =>
  bd (nA h11 100 (25 : Int32)) fun x13 h14 =>
  bn (pR h14 a0 12 11 (some x13)) fun h16 =>
  bd (nA h16 100 (5 : Int32)) fun x18 h19 =>
  bn (pR h19 a0 12 12 (some x18)) fun h21 =>
  bd (nA h21 100 (5 : Int32)) fun x23 h24 =>
  bn (pR h24 a0 12 13 (some x23)) fun h26 =>
  bd (nA h26 100 (5 : Int32)) fun x28 h29 =>
  bn (pR h29 a0 12 14 (some x28)) fun h31 =>
  bd (nA h31 100 (3 : Int32)) fun x33 h34 =>
  bn (pR h34 a0 12 15 (some x33)) fun h36 =>
  bd (nA h36 100 (3 : Int32)) fun x38 h39 =>
  bn (pR h39 a0 12 16 (some x38)) fun h41 =>
  bd (nA h41 100 (3 : Int32)) fun x43 h44 =>
  bn (pR h44 a0 12 17 (some x43)) fun h46 =>
  bd (nA h46 100 (3 : Int32)) fun x48 h49 =>
  bn (pR h49 a0 12 18 (some x48)) fun h51 =>
  bd (nA h51 100 (4 : Int32)) fun x53 h54 =>
  bn (pR h54 a0 12 19 (some x53)) fun h56 =>
  bd (nA h56 100 (4 : Int32)) fun x58 h59 =>
  bn (pR h59 a0 12 20 (some x58)) fun h61 =>
  bd (nA h61 100 (4 : Int32)) fun x63 h64 =>
  bn (pR h64 a0 12 21 (some x63)) fun h66 =>
  bd (nA h66 100 (4 : Int32)) fun x68 h69 =>
  bn (pR h69 a0 12 22 (some x68)) fun h71 =>
  bd (nA h71 100 (4 : Int32)) fun x73 h74 =>
  bn (pR h74 a0 12 23 (some x73)) fun h76 =>
  bd (nA h76 100 (4 : Int32)) fun x78 h79 =>
  bn (pR h79 a0 12 24 (some x78)) fun h81 =>
  bd (nA h81 100 (5 : Int32)) fun x83 h84 =>
  bn (pR h84 a0 12 25 (some x83)) fun h86 =>
  bd (nA h86 100 (5 : Int32)) fun x88 h89 =>
  bn (pR h89 a0 12 26 (some x88)) fun h91 =>
  bd (nA h91 102 (11 : Int32)) fun x93 h94 =>
  bn (pR h94 a0 12 27 (some x93)) fun h96 =>
  bd (nA h96 100 (11 : Int32)) fun x98 h99 =>
  bn (pR h99 a0 12 28 (some x98)) fun h101 =>
  bd (nA h101 100 (11 : Int32)) fun x103 h104 =>
  bn (pR h104 a0 12 29 (some x103)) fun h106 =>
  some h106
def F_md_byteAt (a0 : Nat) (a1 : Int32) (h : Hp) : Option Int32 :=
  ck h a0 13 (bn (gI h a0 13 7) fun x1 =>
  if a1 < x1 then
    (bn (gR h a0 13 5) fun x3 =>
    bn (aI h 101 x3 a1) fun x5 =>
    some (x5 &&& (255 : Int32)))
  else
    (some (-1 : Int32)))
def F_md_isLetter (a0 : Int32) : Option Int32 :=
  if a0 < (97 : Int32) then
    (some (0 : Int32))
  else
    (if (122 : Int32) < a0 then
      (some (0 : Int32))
    else
      (some (1 : Int32)))
def F_md_isDigit (a0 : Int32) : Option Int32 :=
  if a0 < (48 : Int32) then
    (some (0 : Int32))
  else
    (if (57 : Int32) < a0 then
      (some (0 : Int32))
    else
      (some (1 : Int32)))
def B_md_goesOn_9 (l0 : Nat) (s : Unit) (h : Hp) : Option (((Unit) ⊕ (Unit)) × Hp) :=
  bn (gI h l0 13 8) fun x3 =>
  bn (F_md_byteAt l0 x3 h) fun x6 =>
  if x6 = (32 : Int32) then
    (bn (gI h l0 13 8) fun x7 =>
    bn (pI h l0 13 8 (x7 + (1 : Int32))) fun h9 =>
    some (.inl (), h9))
  else
    (some (.inr (), h))
def B_md_goesOn_173 (l0 : Nat) (s : Int32) (h : Hp) : Option (((Int32) ⊕ (Int32)) × Hp) :=
  bn (gI h l0 13 8) fun x38 =>
  bn (F_md_byteAt l0 x38 h) fun x41 =>
  bn (F_md_isDigit x41) fun x43 =>
  if x43 = (0 : Int32) then
    (some (.inr s, h))
  else
    (bn (if s < (3 : Int32) then
        (bn (gI h l0 13 11) fun x44 =>
        bn (gI h l0 13 8) fun x46 =>
        bn (F_md_byteAt l0 x46 h) fun x49 =>
        bn (pI h l0 13 11 ((((10 : Int32) * x44) + x49) - (48 : Int32))) fun h50 =>
        some h50)
      else
        (some h)) fun h53 =>
    bn (gI h53 l0 13 8) fun x54 =>
    bn (pI h53 l0 13 8 (x54 + (1 : Int32))) fun h56 =>
    some (.inl (s + (1 : Int32)), h56))
def B_md_goesOn_84 (l0 : Nat) (s : Int32) (h : Hp) : Option (((Int32) ⊕ (Int32)) × Hp) :=
  bn (gI h l0 13 8) fun x65 =>
  bn (F_md_byteAt l0 x65 h) fun x68 =>
  bn (F_md_isLetter x68) fun x70 =>
  if x70 = (0 : Int32) then
    (some (.inr s, h))
  else
    (bn (if s < (8 : Int32) then
        (bn (gL h l0 13 14) fun x71 =>
        bn (gI h l0 13 8) fun x73 =>
        bn (F_md_byteAt l0 x73 h) fun x76 =>
        bn (pL h l0 13 14 (((32 : Int64) * x71) + (((x76 - (97 : Int32)) + (1 : Int32)).toInt64))) fun h77 =>
        some h77)
      else
        (some h)) fun h80 =>
    bn (gI h80 l0 13 8) fun x81 =>
    bn (pI h80 l0 13 8 (x81 + (1 : Int32))) fun h83 =>
    some (.inl (s + (1 : Int32)), h83))
def F_md_goesOn (a0 : Nat) (h : Hp) : Option Hp :=
  ck h a0 13 (bn (gI h a0 13 9) fun x1 =>
  if x1 = (5 : Int32) then
    (some h)
  else
    (bd (lp (B_md_goesOn_9 a0) FU () h) fun x11 h13 =>
    bn (gI h13 a0 13 8) fun x14 =>
    bn (pI h13 a0 13 10 x14) fun h16 =>
    bn (pI h16 a0 13 9 (0 : Int32)) fun h18 =>
    bn (gI h18 a0 13 8) fun x20 =>
    bn (F_md_byteAt a0 x20 h18) fun x23 =>
    if x23 = (-1 : Int32) then
      (bn (pI h18 a0 13 9 (1 : Int32)) fun h24 =>
      some h24)
    else
      (bn (F_md_isLetter x23) fun x27 =>
      if x27 = (0 : Int32) then
        (bn (F_md_isDigit x23) fun x29 =>
        if x29 = (0 : Int32) then
          (if x23 = (59 : Int32) then
            (bn (pI h18 a0 13 9 (4 : Int32)) fun h30 =>
            bn (gI h30 a0 13 8) fun x32 =>
            bn (pI h30 a0 13 8 (x32 + (1 : Int32))) fun h34 =>
            some h34)
          else
            (some h18))
        else
          (bn (pI h18 a0 13 11 (0 : Int32)) fun h36 =>
          bd (lp (B_md_goesOn_173 a0) FU (0 : Int32) h36) fun x58 h60 =>
          if (3 : Int32) < x58 then
            (some h60)
          else
            (bn (pI h60 a0 13 9 (3 : Int32)) fun h61 =>
            some h61)))
      else
        (bn (pL h18 a0 13 14 (0 : Int64)) fun h63 =>
        bd (lp (B_md_goesOn_84 a0) FU (0 : Int32) h63) fun x85 h87 =>
        if (8 : Int32) < x85 then
          (some h87)
        else
          (bn (pI h87 a0 13 9 (2 : Int32)) fun h88 =>
          some h88)))))
def B_md_packed_4 (l0 : Nat) (h : Hp) (s : Int64 × Int32) : Option ((Int64 × Int32) ⊕ (Int64)) :=
  bn (F_sg_length l0 h) fun x2 =>
  if s.2 < x2 then
    (bn (F_sg_charAt l0 s.2 h) fun x4 =>
    some (.inl (((32 : Int64) * s.1) + (((x4 - (97 : Int32)) + (1 : Int32)).toInt64), s.2 + (1 : Int32))))
  else
    (some (.inr s.1))
def F_md_packed (a0 : Nat) (h : Hp) : Option Int64 :=
  bn (lq (B_md_packed_4 a0 h) FU ((0 : Int64), (0 : Int32))) fun x5 =>
  some x5
def F_md_isWord (a0 : Nat) (a1 : Nat) (h : Hp) : Option Int32 :=
  ck h a0 13 (bn (gI h a0 13 9) fun x1 =>
  if x1 = (2 : Int32) then
    (bn (gL h a0 13 14) fun x3 =>
    bn (F_md_packed a1 h) fun x6 =>
    if (lg_cmp x3 x6) = (0 : Int32) then
      (some (1 : Int32))
    else
      (some (0 : Int32)))
  else
    (some (0 : Int32)))
def F_md_flaw (a0 : Nat) (a1 : Int32) (h : Hp) : Option Hp :=
  ck h a0 13 (bn (gI h a0 13 9) fun x1 =>
  if x1 = (5 : Int32) then
    (some h)
  else
    (bn (pI h a0 13 12 a1) fun h3 =>
    bn (gI h3 a0 13 10) fun x5 =>
    bn (pI h3 a0 13 13 x5) fun h7 =>
    bn (pI h7 a0 13 9 (5 : Int32)) fun h9 =>
    some h9))
def F_md_needs (a0 : Nat) (a1 : Nat) (h : Hp) : Option Hp :=
  ck h a0 13 (bn (F_md_isWord a0 a1 h) fun x2 =>
  bn (if x2 = (0 : Int32) then
      (bn (F_md_flaw a0 (1 : Int32) h) fun h4 =>
      some h4)
    else
      (some h)) fun h6 =>
  bn (F_md_goesOn a0 h6) fun h8 =>
  some h8)
def F_md_in (a0 : Int32) (a1 : Int32) (a2 : Int32) : Option Int32 :=
  if a0 < a1 then
    (some (0 : Int32))
  else
    (if a2 < a0 then
      (some (0 : Int32))
    else
      (some (1 : Int32)))
def F_md_readWhole (a0 : Nat) (a1 : Int32) (a2 : Int32) (h : Hp) : Option (Int32 × Hp) :=
  ck h a0 13 (bn (gI h a0 13 9) fun x1 =>
  bn (if x1 = (3 : Int32) then
      (bn (gI h a0 13 11) fun x3 =>
      bn (F_md_in x3 a1 a2) fun x6 =>
      if x6 = (0 : Int32) then
        (bn (F_md_flaw a0 (4 : Int32) h) fun h8 =>
        some h8)
      else
        (some h))
    else
      (bn (F_md_flaw a0 (1 : Int32) h) fun h10 =>
      some h10)) fun h12 =>
  bn (gI h12 a0 13 9) fun x13 =>
  bn (if x13 = (5 : Int32) then
      (some a1)
    else
      (bn (gI h12 a0 13 11) fun x15 =>
      some x15)) fun q17 =>
  bn (F_md_goesOn a0 h12) fun h19 =>
  some (q17, h19))
def F_md_readPart (a0 : Nat) (a1 : Nat) (a2 : Int32) (a3 : Int32) (h : Hp) : Option (Int32 × Hp) :=
  ck h a0 13 (bn (F_md_needs a0 a1 h) fun h2 =>
  bd (F_md_readWhole a0 a2 a3 h2) fun x4 h5 =>
  some (x4, h5))
def F_md_readLake (a0 : Nat) (h : Hp) : Option Hp :=
  ck h a0 13 (bn (gR h a0 13 4) fun x1 =>
  bn (gI h x1 12 0) fun x3 =>
  bn (if x3 = (-1 : Int32) then
      (some h)
    else
      (bn (F_md_flaw a0 (3 : Int32) h) fun h6 =>
      some h6)) fun h8 =>
  bn (F_md_goesOn a0 h8) fun h10 =>
  bd (F_md_readPart a0 1000012 (0 : Int32) (100 : Int32) h10) fun x12 h13 =>
  bn (gI h13 a0 13 9) fun x14 =>
  if x14 = (5 : Int32) then
    (some h13)
  else
    (bn (gR h13 a0 13 4) fun x16 =>
    bn (pI h13 x16 12 0 x12) fun h18 =>
    some h18))
def F_md_lineBegins (a0 : Nat) (a1 : Int32) (a2 : Int32) (h : Hp) : Option Hp :=
  ck h a0 13 (bn (if a1 = a2 then
      (bn (F_md_flaw a0 (5 : Int32) h) fun h2 =>
      some h2)
    else
      (some h)) fun h4 =>
  bn (gR h4 a0 13 4) fun x5 =>
  bn (gI h4 x5 12 0) fun x7 =>
  bn (if x7 = (-1 : Int32) then
      (bn (F_md_flaw a0 (6 : Int32) h4) fun h10 =>
      some h10)
    else
      (some h4)) fun h12 =>
  bn (F_md_goesOn a0 h12) fun h14 =>
  some h14)
def F_md_isName (a0 : Nat) (h : Hp) : Option Int32 :=
  ck h a0 13 (bn (gI h a0 13 9) fun x1 =>
  if x1 = (2 : Int32) then
    (bn (F_md_isWord a0 1000003 h) fun x4 =>
    if x4 = (0 : Int32) then
      (bn (F_md_isWord a0 1000004 h) fun x6 =>
      if x6 = (0 : Int32) then
        (bn (F_md_isWord a0 1000005 h) fun x8 =>
        if x8 = (0 : Int32) then
          (bn (F_md_isWord a0 1000006 h) fun x10 =>
          if x10 = (0 : Int32) then
            (bn (F_md_isWord a0 1000007 h) fun x12 =>
            if x12 = (0 : Int32) then
              (bn (F_md_isWord a0 1000008 h) fun x14 =>
              if x14 = (0 : Int32) then
                (bn (F_md_isWord a0 1000009 h) fun x16 =>
                if x16 = (0 : Int32) then
                  (bn (F_md_isWord a0 1000010 h) fun x18 =>
                  if x18 = (0 : Int32) then
                    (bn (F_md_isWord a0 1000011 h) fun x20 =>
                    if x20 = (0 : Int32) then
                      (some (1 : Int32))
                    else
                      (some (0 : Int32)))
                  else
                    (some (0 : Int32)))
                else
                  (some (0 : Int32)))
              else
                (some (0 : Int32)))
            else
              (some (0 : Int32)))
          else
            (some (0 : Int32)))
        else
          (some (0 : Int32)))
      else
        (some (0 : Int32)))
    else
      (some (0 : Int32)))
  else
    (some (0 : Int32)))
def B_la_find_2 (l0 : Nat) (l1 : Int64) (h : Hp) (s : Int32) : Option ((Int32) ⊕ ((Unit) ⊕ Int32)) :=
  bn (gI h l0 12 8) fun x1 =>
  if s < x1 then
    (bn (gR h l0 12 27) fun x3 =>
    bn (aL h x3 s) fun x5 =>
    if (lg_cmp x5 l1) = (0 : Int32) then
      (some (.inr (.inr s)))
    else
      (some (.inl (s + (1 : Int32)))))
  else
    (some (.inr (.inl ())))
def F_la_find (a0 : Nat) (a1 : Int64) (h : Hp) : Option Int32 :=
  ck h a0 12 (bn (lq (B_la_find_2 a0 a1 h) FU (0 : Int32)) fun x7 =>
  ei x7 (fun q9 =>
  some (-1 : Int32))
  (fun x10 => some x10))
def F_md_readFresh (a0 : Nat) (h : Hp) : Option (Int64 × Hp) :=
  ck h a0 13 (bn (F_md_isName a0 h) fun x2 =>
  bn (if x2 = (0 : Int32) then
      (bn (F_md_flaw a0 (1 : Int32) h) fun h4 =>
      some h4)
    else
      (some h)) fun h6 =>
  bn (gR h6 a0 13 4) fun x7 =>
  bn (gL h6 a0 13 14) fun x9 =>
  bn (F_la_find x7 x9 h6) fun x12 =>
  bn (if x12 = (-1 : Int32) then
      (some h6)
    else
      (bn (F_md_flaw a0 (3 : Int32) h6) fun h14 =>
      some h14)) fun h16 =>
  bn (gL h16 a0 13 14) fun x17 =>
  bn (F_md_goesOn a0 h16) fun h20 =>
  some (x17, h20))
def F_md_names (a0 : Nat) (a1 : Int64) (a2 : Int32) (a3 : Int32) (h : Hp) : Option Hp :=
  ck h a0 13 (bn (gR h a0 13 4) fun x1 =>
  bn (gR h x1 12 27) fun x3 =>
  bn (gR h a0 13 4) fun x5 =>
  bn (gI h x5 12 8) fun x7 =>
  bn (sL h x3 x7 a1) fun h9 =>
  bn (gR h9 a0 13 4) fun x11 =>
  bn (gR h9 x11 12 28) fun x13 =>
  bn (gR h9 a0 13 4) fun x15 =>
  bn (gI h9 x15 12 8) fun x17 =>
  bn (sI h9 100 x13 x17 a2) fun h19 =>
  bn (gR h19 a0 13 4) fun x21 =>
  bn (gR h19 x21 12 29) fun x23 =>
  bn (gR h19 a0 13 4) fun x25 =>
  bn (gI h19 x25 12 8) fun x27 =>
  bn (sI h19 100 x23 x27 a3) fun h29 =>
  bn (gR h29 a0 13 4) fun x31 =>
  bn (gI h29 x31 12 8) fun x33 =>
  bn (pI h29 x31 12 8 (x33 + (1 : Int32))) fun h35 =>
  some h35)
def F_md_readHouse (a0 : Nat) (h : Hp) : Option Hp :=
  ck h a0 13 (bn (gR h a0 13 4) fun x1 =>
  bn (gI h x1 12 1) fun x3 =>
  bn (F_md_lineBegins a0 x3 (5 : Int32) h) fun h6 =>
  bd (F_md_readFresh a0 h6) fun x8 h9 =>
  bn (F_md_isWord a0 1000013 h9) fun x11 =>
  bn (if x11 = (0 : Int32) then
      (bn (F_md_isWord a0 1000014 h9) fun x13 =>
      if x13 = (0 : Int32) then
        (some (-1 : Int32))
      else
        (some (1 : Int32)))
    else
      (some (0 : Int32))) fun q14 =>
  bn (if q14 = (-1 : Int32) then
      (bn (F_md_flaw a0 (1 : Int32) h9) fun h16 =>
      some h16)
    else
      (some h9)) fun h18 =>
  bn (F_md_goesOn a0 h18) fun h20 =>
  bd (F_md_readPart a0 1000015 (0 : Int32) (99 : Int32) h20) fun x22 h23 =>
  bn (gI h23 a0 13 9) fun x24 =>
  if x24 = (5 : Int32) then
    (some h23)
  else
    (bn (gR h23 a0 13 4) fun x26 =>
    bn (gI h23 x26 12 1) fun x28 =>
    bn (F_md_names a0 x8 (0 : Int32) x28 h23) fun h31 =>
    bn (gR h31 a0 13 4) fun x32 =>
    bn (gR h31 x32 12 9) fun x34 =>
    bn (gR h31 a0 13 4) fun x36 =>
    bn (gI h31 x36 12 1) fun x38 =>
    bn (sI h31 100 x34 x38 q14) fun h40 =>
    bn (gR h40 a0 13 4) fun x42 =>
    bn (gR h40 x42 12 10) fun x44 =>
    bn (gR h40 a0 13 4) fun x46 =>
    bn (gI h40 x46 12 1) fun x48 =>
    bn (sI h40 100 x44 x48 x22) fun h50 =>
    bn (gR h50 a0 13 4) fun x52 =>
    bn (gI h50 x52 12 1) fun x54 =>
    bn (pI h50 x52 12 1 (x54 + (1 : Int32))) fun h56 =>
    some h56))
def F_md_knownOne (a0 : Nat) (a1 : Int32) (h : Hp) : Option (Int32 × Hp) :=
  ck h a0 13 (bn (F_md_isName a0 h) fun x2 =>
  bn (if x2 = (0 : Int32) then
      (bn (F_md_flaw a0 (1 : Int32) h) fun h4 =>
      some h4)
    else
      (some h)) fun h6 =>
  bn (gR h6 a0 13 4) fun x7 =>
  bn (gL h6 a0 13 14) fun x9 =>
  bn (F_la_find x7 x9 h6) fun x12 =>
  bn (if x12 = (-1 : Int32) then
      (bn (F_md_flaw a0 (2 : Int32) h6) fun h14 =>
      some h14)
    else
      (bn (gR h6 a0 13 4) fun x15 =>
      bn (gR h6 x15 12 28) fun x17 =>
      bn (aI h6 100 x17 x12) fun x19 =>
      if x19 = a1 then
        (some h6)
      else
        (bn (F_md_flaw a0 (2 : Int32) h6) fun h22 =>
        some h22))) fun h24 =>
  bn (gI h24 a0 13 9) fun x25 =>
  if x25 = (5 : Int32) then
    (some ((0 : Int32), h24))
  else
    (bn (gR h24 a0 13 4) fun x27 =>
    bn (gR h24 x27 12 29) fun x29 =>
    bn (aI h24 100 x29 x12) fun x31 =>
    some (x31, h24)))
def F_md_readKnown (a0 : Nat) (a1 : Int32) (h : Hp) : Option (Int32 × Hp) :=
  ck h a0 13 (bd (F_md_knownOne a0 a1 h) fun x2 h3 =>
  bn (F_md_goesOn a0 h3) fun h5 =>
  some (x2, h5))
def B_la_isRope_2 (l0 : Nat) (l1 : Int32) (l2 : Int32) (h : Hp) (s : Int32) : Option ((Int32) ⊕ ((Unit) ⊕ Int32)) :=
  bn (gI h l0 12 2) fun x1 =>
  if s < x1 then
    (bn (gR h l0 12 13) fun x3 =>
    bn (aI h 100 x3 s) fun x5 =>
    if x5 = l1 then
      (bn (gR h l0 12 14) fun x7 =>
      bn (aI h 100 x7 s) fun x9 =>
      if x9 = l2 then
        (some (.inr (.inr (1 : Int32))))
      else
        (bn (gR h l0 12 13) fun x11 =>
        bn (aI h 100 x11 s) fun x13 =>
        if x13 = l2 then
          (bn (gR h l0 12 14) fun x15 =>
          bn (aI h 100 x15 s) fun x17 =>
          if x17 = l1 then
            (some (.inr (.inr (1 : Int32))))
          else
            (some (.inl (s + (1 : Int32)))))
        else
          (some (.inl (s + (1 : Int32))))))
    else
      (bn (gR h l0 12 13) fun x19 =>
      bn (aI h 100 x19 s) fun x21 =>
      if x21 = l2 then
        (bn (gR h l0 12 14) fun x23 =>
        bn (aI h 100 x23 s) fun x25 =>
        if x25 = l1 then
          (some (.inr (.inr (1 : Int32))))
        else
          (some (.inl (s + (1 : Int32)))))
      else
        (some (.inl (s + (1 : Int32))))))
  else
    (some (.inr (.inl ())))
def F_la_isRope (a0 : Nat) (a1 : Int32) (a2 : Int32) (h : Hp) : Option Int32 :=
  ck h a0 12 (bn (lq (B_la_isRope_2 a0 a1 a2 h) FU (0 : Int32)) fun x27 =>
  ei x27 (fun q29 =>
  some (0 : Int32))
  (fun x30 => some x30))
def F_md_readRope (a0 : Nat) (h : Hp) : Option Hp :=
  ck h a0 13 (bn (gR h a0 13 4) fun x1 =>
  bn (gI h x1 12 2) fun x3 =>
  bn (F_md_lineBegins a0 x3 (5 : Int32) h) fun h6 =>
  bd (F_md_readKnown a0 (0 : Int32) h6) fun x8 h9 =>
  bd (F_md_knownOne a0 (0 : Int32) h9) fun x11 h12 =>
  bn (gI h12 a0 13 9) fun x13 =>
  bn (if x13 = (5 : Int32) then
      (some h12)
    else
      (bn (if x8 = x11 then
          (some (Sum.inl ()))
        else
          (bn (gR h12 a0 13 4) fun x15 =>
          bn (F_la_isRope x15 x8 x11 h12) fun x18 =>
          if x18 = (0 : Int32) then
            (some (Sum.inr h12))
          else
            (some (Sum.inl ())))) fun x23 =>
      ei x23 (fun z20 =>
      bn (F_md_flaw a0 (3 : Int32) h12) fun h22 =>
      some h22)
      (fun z => some z))) fun h25 =>
  bn (F_md_goesOn a0 h25) fun h27 =>
  bn (gI h27 a0 13 9) fun x28 =>
  if x28 = (5 : Int32) then
    (some h27)
  else
    (bn (gR h27 a0 13 4) fun x30 =>
    bn (gR h27 x30 12 13) fun x32 =>
    bn (gR h27 a0 13 4) fun x34 =>
    bn (gI h27 x34 12 2) fun x36 =>
    bn (if x8 < x11 then
        (some x8)
      else
        (some x11)) fun q38 =>
    bn (sI h27 100 x32 x36 q38) fun h39 =>
    bn (gR h39 a0 13 4) fun x41 =>
    bn (gR h39 x41 12 14) fun x43 =>
    bn (gR h39 a0 13 4) fun x45 =>
    bn (gI h39 x45 12 2) fun x47 =>
    bn (if x8 < x11 then
        (some x11)
      else
        (some x8)) fun q49 =>
    bn (sI h39 100 x43 x47 q49) fun h50 =>
    bn (gR h50 a0 13 4) fun x52 =>
    bn (gI h50 x52 12 2) fun x54 =>
    bn (pI h50 x52 12 2 (x54 + (1 : Int32))) fun h56 =>
    some h56))
def F_md_kindAtHand (a0 : Nat) (h : Hp) : Option (Int32 × Hp) :=
  ck h a0 13 (bn (F_md_isWord a0 1000016 h) fun x2 =>
  bn (if x2 = (0 : Int32) then
      (bn (F_md_isWord a0 1000017 h) fun x4 =>
      if x4 = (0 : Int32) then
        (bn (F_md_isWord a0 1000018 h) fun x6 =>
        if x6 = (0 : Int32) then
          (bn (F_md_isWord a0 1000019 h) fun x8 =>
          if x8 = (0 : Int32) then
            (bn (F_md_isWord a0 1000020 h) fun x10 =>
            if x10 = (0 : Int32) then
              (some (-1 : Int32))
            else
              (some (4 : Int32)))
          else
            (some (3 : Int32)))
        else
          (some (2 : Int32)))
      else
        (some (1 : Int32)))
    else
      (some (0 : Int32))) fun q11 =>
  bn (if q11 = (-1 : Int32) then
      (bn (F_md_flaw a0 (1 : Int32) h) fun h13 =>
      some h13)
    else
      (some h)) fun h15 =>
  if q11 = (-1 : Int32) then
    (some ((0 : Int32), h15))
  else
    (some (q11, h15)))
def F_md_bit (a0 : Int32) (a1 : Int32) : Option Int32 :=
  if ((a0 >>> (a1 &&& 31)) &&& (1 : Int32)) = (1 : Int32) then
    (some (1 : Int32))
  else
    (some (0 : Int32))
def F_md_readCorks (a0 : Nat) (h : Hp) : Option Hp :=
  ck h a0 13 (bn (F_md_lineBegins a0 (0 : Int32) (1 : Int32) h) fun h2 =>
  bd (F_md_readKnown a0 (0 : Int32) h2) fun x4 h5 =>
  bd (F_md_kindAtHand a0 h5) fun x7 h8 =>
  bn (gI h8 a0 13 9) fun x9 =>
  bn (if x9 = (5 : Int32) then
      (some h8)
    else
      (bn (gR h8 a0 13 4) fun x11 =>
      bn (gR h8 x11 12 12) fun x13 =>
      bn (aI h8 100 x13 x4) fun x15 =>
      bn (F_md_bit x15 x7) fun x18 =>
      if x18 = (0 : Int32) then
        (some h8)
      else
        (bn (F_md_flaw a0 (3 : Int32) h8) fun h20 =>
        some h20))) fun h22 =>
  bn (F_md_goesOn a0 h22) fun h24 =>
  bd (F_md_readWhole a0 (1 : Int32) (30 : Int32) h24) fun x26 h27 =>
  bn (gI h27 a0 13 9) fun x28 =>
  if x28 = (5 : Int32) then
    (some h27)
  else
    (bn (gR h27 a0 13 4) fun x30 =>
    bn (gR h27 x30 12 12) fun x32 =>
    bn (aI h27 100 x32 x4) fun x34 =>
    bn (sI h27 100 x32 x4 (x34 ||| ((1 : Int32) <<< (x7 &&& 31)))) fun h36 =>
    bn (gR h36 a0 13 4) fun x38 =>
    bn (gR h36 x38 12 11) fun x40 =>
    bn (sI h36 100 x40 (((5 : Int32) * x4) + x7) x26) fun h42 =>
    some h42))
def F_md_readGuest (a0 : Nat) (h : Hp) : Option Hp :=
  ck h a0 13 (bn (gR h a0 13 4) fun x1 =>
  bn (gI h x1 12 3) fun x3 =>
  bn (F_md_lineBegins a0 x3 (3 : Int32) h) fun h6 =>
  bd (F_md_readFresh a0 h6) fun x8 h9 =>
  bd (F_md_readPart a0 1000015 (1 : Int32) (50 : Int32) h9) fun x11 h12 =>
  bn (F_md_needs a0 1000021 h12) fun h14 =>
  bd (F_md_readKnown a0 (0 : Int32) h14) fun x16 h17 =>
  bn (gI h17 a0 13 9) fun x18 =>
  if x18 = (5 : Int32) then
    (some h17)
  else
    (bn (gR h17 a0 13 4) fun x20 =>
    bn (gI h17 x20 12 3) fun x22 =>
    bn (F_md_names a0 x8 (1 : Int32) x22 h17) fun h25 =>
    bn (gR h25 a0 13 4) fun x26 =>
    bn (gR h25 x26 12 15) fun x28 =>
    bn (gR h25 a0 13 4) fun x30 =>
    bn (gI h25 x30 12 3) fun x32 =>
    bn (sI h25 100 x28 x32 x11) fun h34 =>
    bn (gR h34 a0 13 4) fun x36 =>
    bn (gR h34 x36 12 16) fun x38 =>
    bn (gR h34 a0 13 4) fun x40 =>
    bn (gI h34 x40 12 3) fun x42 =>
    bn (sI h34 100 x38 x42 x16) fun h44 =>
    bn (gR h44 a0 13 4) fun x46 =>
    bn (gI h44 x46 12 3) fun x48 =>
    bn (pI h44 x46 12 3 (x48 + (1 : Int32))) fun h50 =>
    some h50))
def F_md_readDrinker (a0 : Nat) (h : Hp) : Option Hp :=
  ck h a0 13 (bn (gR h a0 13 4) fun x1 =>
  bn (gI h x1 12 4) fun x3 =>
  bn (F_md_lineBegins a0 x3 (3 : Int32) h) fun h6 =>
  bd (F_md_readFresh a0 h6) fun x8 h9 =>
  bd (F_md_kindAtHand a0 h9) fun x11 h12 =>
  bn (gI h12 a0 13 9) fun x13 =>
  bn (if x13 = (5 : Int32) then
      (some h12)
    else
      (bn (if x11 = (1 : Int32) then
          (some (Sum.inl ()))
        else
          (if x11 = (2 : Int32) then
            (some (Sum.inl ()))
          else
            (some (Sum.inr h12)))) fun x19 =>
      ei x19 (fun z16 =>
      bn (F_md_flaw a0 (1 : Int32) h12) fun h18 =>
      some h18)
      (fun z => some z))) fun h21 =>
  bn (F_md_goesOn a0 h21) fun h23 =>
  bd (F_md_readPart a0 1000022 (1 : Int32) (9 : Int32) h23) fun x25 h26 =>
  bn (gI h26 a0 13 9) fun x27 =>
  if x27 = (5 : Int32) then
    (some h26)
  else
    (bn (gR h26 a0 13 4) fun x29 =>
    bn (gI h26 x29 12 4) fun x31 =>
    bn (F_md_names a0 x8 (2 : Int32) x31 h26) fun h34 =>
    bn (gR h34 a0 13 4) fun x35 =>
    bn (gR h34 x35 12 17) fun x37 =>
    bn (gR h34 a0 13 4) fun x39 =>
    bn (gI h34 x39 12 4) fun x41 =>
    bn (sI h34 100 x37 x41 x11) fun h43 =>
    bn (gR h43 a0 13 4) fun x45 =>
    bn (gR h43 x45 12 18) fun x47 =>
    bn (gR h43 a0 13 4) fun x49 =>
    bn (gI h43 x49 12 4) fun x51 =>
    bn (sI h43 100 x47 x51 x25) fun h53 =>
    bn (gR h53 a0 13 4) fun x55 =>
    bn (gI h53 x55 12 4) fun x57 =>
    bn (pI h53 x55 12 4 (x57 + (1 : Int32))) fun h59 =>
    some h59))
def F_md_readFeast (a0 : Nat) (h : Hp) : Option Hp :=
  ck h a0 13 (bn (gR h a0 13 4) fun x1 =>
  bn (gI h x1 12 5) fun x3 =>
  bn (F_md_lineBegins a0 x3 (4 : Int32) h) fun h6 =>
  bd (F_md_readKnown a0 (0 : Int32) h6) fun x8 h9 =>
  bd (F_md_readPart a0 1000023 (0 : Int32) (9 : Int32) h9) fun x11 h12 =>
  bd (F_md_readPart a0 1000024 (0 : Int32) (50 : Int32) h12) fun x14 h15 =>
  bn (gI h15 a0 13 9) fun x16 =>
  if x16 = (5 : Int32) then
    (some h15)
  else
    (bn (gR h15 a0 13 4) fun x18 =>
    bn (gR h15 x18 12 19) fun x20 =>
    bn (gR h15 a0 13 4) fun x22 =>
    bn (gI h15 x22 12 5) fun x24 =>
    bn (sI h15 100 x20 x24 x8) fun h26 =>
    bn (gR h26 a0 13 4) fun x28 =>
    bn (gR h26 x28 12 20) fun x30 =>
    bn (gR h26 a0 13 4) fun x32 =>
    bn (gI h26 x32 12 5) fun x34 =>
    bn (sI h26 100 x30 x34 x11) fun h36 =>
    bn (gR h36 a0 13 4) fun x38 =>
    bn (gR h36 x38 12 21) fun x40 =>
    bn (gR h36 a0 13 4) fun x42 =>
    bn (gI h36 x42 12 5) fun x44 =>
    bn (sI h36 100 x40 x44 x14) fun h46 =>
    bn (gR h46 a0 13 4) fun x48 =>
    bn (gI h46 x48 12 5) fun x50 =>
    bn (pI h46 x48 12 5 (x50 + (1 : Int32))) fun h52 =>
    some h52))
def F_md_readGave (a0 : Nat) (h : Hp) : Option Hp :=
  ck h a0 13 (bn (gR h a0 13 4) fun x1 =>
  bn (gI h x1 12 6) fun x3 =>
  bn (F_md_lineBegins a0 x3 (4 : Int32) h) fun h6 =>
  bd (F_md_readKnown a0 (2 : Int32) h6) fun x8 h9 =>
  bd (F_md_readKnown a0 (0 : Int32) h9) fun x11 h12 =>
  bd (F_md_readWhole a0 (1 : Int32) (20 : Int32) h12) fun x14 h15 =>
  bn (gI h15 a0 13 9) fun x16 =>
  if x16 = (5 : Int32) then
    (some h15)
  else
    (bn (gR h15 a0 13 4) fun x18 =>
    bn (gR h15 x18 12 22) fun x20 =>
    bn (gR h15 a0 13 4) fun x22 =>
    bn (gI h15 x22 12 6) fun x24 =>
    bn (sI h15 100 x20 x24 x8) fun h26 =>
    bn (gR h26 a0 13 4) fun x28 =>
    bn (gR h26 x28 12 23) fun x30 =>
    bn (gR h26 a0 13 4) fun x32 =>
    bn (gI h26 x32 12 6) fun x34 =>
    bn (sI h26 100 x30 x34 x11) fun h36 =>
    bn (gR h36 a0 13 4) fun x38 =>
    bn (gR h36 x38 12 24) fun x40 =>
    bn (gR h36 a0 13 4) fun x42 =>
    bn (gI h36 x42 12 6) fun x44 =>
    bn (sI h36 100 x40 x44 x14) fun h46 =>
    bn (gR h46 a0 13 4) fun x48 =>
    bn (gI h46 x48 12 6) fun x50 =>
    bn (pI h46 x48 12 6 (x50 + (1 : Int32))) fun h52 =>
    some h52))
def B_la_isSeen_2 (l0 : Nat) (l1 : Int32) (h : Hp) (s : Int32) : Option ((Int32) ⊕ ((Unit) ⊕ Int32)) :=
  bn (gI h l0 12 7) fun x1 =>
  if s < x1 then
    (bn (gR h l0 12 25) fun x3 =>
    bn (aI h 100 x3 s) fun x5 =>
    if x5 = l1 then
      (some (.inr (.inr (1 : Int32))))
    else
      (some (.inl (s + (1 : Int32)))))
  else
    (some (.inr (.inl ())))
def F_la_isSeen (a0 : Nat) (a1 : Int32) (h : Hp) : Option Int32 :=
  ck h a0 12 (bn (lq (B_la_isSeen_2 a0 a1 h) FU (0 : Int32)) fun x7 =>
  ei x7 (fun q9 =>
  some (0 : Int32))
  (fun x10 => some x10))
def F_md_readSeen (a0 : Nat) (h : Hp) : Option Hp :=
  ck h a0 13 (bn (F_md_lineBegins a0 (0 : Int32) (1 : Int32) h) fun h2 =>
  bd (F_md_knownOne a0 (0 : Int32) h2) fun x4 h5 =>
  bn (gI h5 a0 13 9) fun x6 =>
  bn (if x6 = (5 : Int32) then
      (some h5)
    else
      (bn (gR h5 a0 13 4) fun x8 =>
      bn (F_la_isSeen x8 x4 h5) fun x11 =>
      if x11 = (0 : Int32) then
        (some h5)
      else
        (bn (F_md_flaw a0 (3 : Int32) h5) fun h13 =>
        some h13))) fun h15 =>
  bn (F_md_goesOn a0 h15) fun h17 =>
  bn (F_md_isWord a0 1000025 h17) fun x19 =>
  bn (if x19 = (0 : Int32) then
      (bn (F_md_isWord a0 1000026 h17) fun x21 =>
      if x21 = (0 : Int32) then
        (bn (F_md_flaw a0 (1 : Int32) h17) fun h23 =>
        some h23)
      else
        (some h17))
    else
      (some h17)) fun h25 =>
  bn (F_md_goesOn a0 h25) fun h27 =>
  bn (if x19 = (0 : Int32) then
      (some (0 : Int32))
    else
      (some (1 : Int32))) fun q28 =>
  bd (F_md_readWhole a0 q28 (200 : Int32) h27) fun x30 h31 =>
  bn (gI h31 a0 13 9) fun x32 =>
  if x32 = (5 : Int32) then
    (some h31)
  else
    (bn (gR h31 a0 13 4) fun x34 =>
    bn (gR h31 x34 12 25) fun x36 =>
    bn (gR h31 a0 13 4) fun x38 =>
    bn (gI h31 x38 12 7) fun x40 =>
    bn (sI h31 100 x36 x40 x4) fun h42 =>
    bn (gR h42 a0 13 4) fun x44 =>
    bn (gR h42 x44 12 26) fun x46 =>
    bn (gR h42 a0 13 4) fun x48 =>
    bn (gI h42 x48 12 7) fun x50 =>
    bn (if x19 = (0 : Int32) then
        (some x30)
      else
        (some (-x30))) fun q52 =>
    bn (sI h42 100 x46 x50 q52) fun h53 =>
    bn (gR h53 a0 13 4) fun x55 =>
    bn (gI h53 x55 12 7) fun x57 =>
    bn (pI h53 x55 12 7 (x57 + (1 : Int32))) fun h59 =>
    some h59))
def F_md_readLine (a0 : Nat) (h : Hp) : Option Hp :=
  ck h a0 13 (bn (F_md_isWord a0 1000003 h) fun x2 =>
  if x2 = (0 : Int32) then
    (bn (F_md_isWord a0 1000004 h) fun x4 =>
    if x4 = (0 : Int32) then
      (bn (F_md_isWord a0 1000005 h) fun x6 =>
      if x6 = (0 : Int32) then
        (bn (F_md_isWord a0 1000006 h) fun x8 =>
        if x8 = (0 : Int32) then
          (bn (F_md_isWord a0 1000007 h) fun x10 =>
          if x10 = (0 : Int32) then
            (bn (F_md_isWord a0 1000008 h) fun x12 =>
            if x12 = (0 : Int32) then
              (bn (F_md_isWord a0 1000009 h) fun x14 =>
              if x14 = (0 : Int32) then
                (bn (F_md_isWord a0 1000010 h) fun x16 =>
                if x16 = (0 : Int32) then
                  (bn (F_md_isWord a0 1000011 h) fun x18 =>
                  if x18 = (0 : Int32) then
                    (bn (F_md_flaw a0 (1 : Int32) h) fun h20 =>
                    some h20)
                  else
                    (bn (F_md_readSeen a0 h) fun h22 =>
                    some h22))
                else
                  (bn (F_md_readGave a0 h) fun h24 =>
                  some h24))
              else
                (bn (F_md_readFeast a0 h) fun h26 =>
                some h26))
            else
              (bn (F_md_readDrinker a0 h) fun h28 =>
              some h28))
          else
            (bn (F_md_readGuest a0 h) fun h30 =>
            some h30))
        else
          (bn (F_md_readCorks a0 h) fun h32 =>
          some h32))
      else
        (bn (F_md_readRope a0 h) fun h34 =>
        some h34))
    else
      (bn (F_md_readHouse a0 h) fun h36 =>
      some h36))
  else
    (bn (F_md_readLake a0 h) fun h38 =>
    some h38))
def F_md_eatsSemicolon (a0 : Nat) (h : Hp) : Option (Int32 × Hp) :=
  ck h a0 13 (bn (gI h a0 13 9) fun x1 =>
  bn (if x1 = (4 : Int32) then
      (some (1 : Int32))
    else
      (some (0 : Int32))) fun q3 =>
  if q3 = (0 : Int32) then
    (if retV .boolean q3 = true then
      (some (q3, h))
    else
      (none))
  else
    (bn (F_md_goesOn a0 h) fun h5 =>
    if retV .boolean q3 = true then
      (some (q3, h5))
    else
      (none)))
def B_md_readAll_2 (l0 : Nat) (s : Int32) (h : Hp) : Option (((Int32) ⊕ (Unit)) × Hp) :=
  if s = (0 : Int32) then
    (some (.inr (), h))
  else
    (bn (F_md_readLine l0 h) fun h2 =>
    bd (F_md_eatsSemicolon l0 h2) fun x4 h5 =>
    some (.inl x4, h5))
def F_md_readAll (a0 : Nat) (h : Hp) : Option Hp :=
  ck h a0 13 (bd (lp (B_md_readAll_2 a0) FU (1 : Int32) h) fun x6 h8 =>
  bn (gI h8 a0 13 9) fun x9 =>
  bn (if x9 = (1 : Int32) then
      (some h8)
    else
      (bn (F_md_flaw a0 (1 : Int32) h8) fun h12 =>
      some h12)) fun h14 =>
  bn (gR h14 a0 13 4) fun x15 =>
  bn (gI h14 x15 12 1) fun x17 =>
  if x17 = (0 : Int32) then
    (bn (F_md_flaw a0 (6 : Int32) h14) fun h20 =>
    some h20)
  else
    (some h14))
def F_md_cell (a0 : Int32) (a1 : Int32) : Option Int32 :=
  some (((0 : Int32) + ((5 : Int32) * a0)) + a1)
def B_md_asTold_2 (l0 : Nat) (l1 : Int32) (s : Int32) (h : Hp) : Option (((Int32) ⊕ (Unit)) × Hp) :=
  if s < (31 : Int32) then
    (bn (gR h l0 13 16) fun x1 =>
    bn (sI h 100 x1 s (0 : Int32)) fun h3 =>
    some (.inl (s + (1 : Int32)), h3))
  else
    (some (.inr (), h))
def B_md_asTold_23 (l0 : Nat) (l1 : Int32) (s : Int32) (h : Hp) : Option (((Int32) ⊕ (Unit)) × Hp) :=
  if s < (25 : Int32) then
    (bn (gR h l0 13 16) fun x8 =>
    bn (gR h l0 13 3) fun x10 =>
    bn (gR h x10 12 11) fun x12 =>
    bn (aI h 100 x12 s) fun x14 =>
    bn (sI h 100 x8 ((0 : Int32) + s) x14) fun h16 =>
    some (.inl (s + (1 : Int32)), h16))
  else
    (some (.inr (), h))
def B_md_asTold_54 (l0 : Nat) (l1 : Int32) (s : Int32) (h : Hp) : Option (((Int32) ⊕ (Unit)) × Hp) :=
  bn (gR h l0 13 3) fun x21 =>
  bn (gI h x21 12 6) fun x23 =>
  if s < x23 then
    (bn (gR h l0 13 3) fun x25 =>
    bn (gR h x25 12 22) fun x27 =>
    bn (aI h 100 x27 s) fun x29 =>
    bn (F_md_bit l1 x29) fun x32 =>
    if x32 = (0 : Int32) then
      (bn (gR h l0 13 16) fun x33 =>
      bn (gR h l0 13 3) fun x35 =>
      bn (gR h x35 12 23) fun x37 =>
      bn (aI h 100 x37 s) fun x39 =>
      bn (gR h l0 13 3) fun x41 =>
      bn (gR h x41 12 17) fun x43 =>
      bn (gR h l0 13 3) fun x45 =>
      bn (gR h x45 12 22) fun x47 =>
      bn (aI h 100 x47 s) fun x49 =>
      bn (aI h 100 x43 x49) fun x51 =>
      bn (F_md_cell x39 x51) fun x54 =>
      bn (aI h 100 x33 x54) fun x55 =>
      bn (gR h l0 13 3) fun x57 =>
      bn (gR h x57 12 24) fun x59 =>
      bn (aI h 100 x59 s) fun x61 =>
      bn (sI h 100 x33 x54 (x55 + x61)) fun h63 =>
      some (.inl (s + (1 : Int32)), h63))
    else
      (some (.inl (s + (1 : Int32)), h)))
  else
    (some (.inr (), h))
def B_md_asTold_135 (l0 : Nat) (s : Int32) (h : Hp) : Option (((Int32) ⊕ (Unit)) × Hp) :=
  bn (gR h l0 13 3) fun x68 =>
  bn (gI h x68 12 3) fun x70 =>
  if s < x70 then
    (bn (gR h l0 13 16) fun x72 =>
    bn (gR h l0 13 3) fun x74 =>
    bn (gR h x74 12 16) fun x76 =>
    bn (aI h 100 x76 s) fun x78 =>
    bn (sI h 100 x72 ((25 : Int32) + s) x78) fun h80 =>
    some (.inl (s + (1 : Int32)), h80))
  else
    (some (.inr (), h))
def F_md_asTold (a0 : Nat) (a1 : Int32) (h : Hp) : Option Hp :=
  ck h a0 13 (bd (lp (B_md_asTold_2 a0 a1) FU (0 : Int32) h) fun x5 h7 =>
  bd (lp (B_md_asTold_23 a0 a1) FU (0 : Int32) h7) fun x18 h20 =>
  bd (lp (B_md_asTold_54 a0 a1) FU (0 : Int32) h20) fun x65 h67 =>
  bd (lp (B_md_asTold_135 a0) FU (0 : Int32) h67) fun x82 h84 =>
  some h84)
def F_md_good (a0 : Nat) (a1 : Int32) (h : Hp) : Option (Int32 × Hp) :=
  ck h a0 13 (bn (pI h a0 13 1 (0 : Int32)) fun h1 =>
  bn (pI h1 a0 13 2 (-1 : Int32)) fun h3 =>
  some (a1, h3))
def B_md_lake_104 (l0 : Nat) (s : Int32) (h : Hp) : Option (((Int32) ⊕ (Unit)) × Hp) :=
  if s < (31 : Int32) then
    (bn (gR h l0 13 15) fun x40 =>
    bn (gR h l0 13 16) fun x42 =>
    bn (aI h 100 x42 s) fun x44 =>
    bn (sI h 100 x40 s x44) fun h46 =>
    some (.inl (s + (1 : Int32)), h46))
  else
    (some (.inr (), h))
def F_md_lake (a0 : Nat) (a1 : Int32) (h : Hp) : Option (Int32 × Hp) :=
  ck h a0 13 (bn (pI h a0 13 0 (0 : Int32)) fun h1 =>
  bn (if a1 < (0 : Int32) then
      (some (Sum.inl ()))
    else
      (bn (gI h1 a0 13 6) fun x3 =>
      if x3 < a1 then
        (some (Sum.inl ()))
      else
        (bn (pI h1 a0 13 7 a1) fun h5 =>
        bn (pI h5 a0 13 6 (0 : Int32)) fun h7 =>
        bn (pI h7 a0 13 8 (0 : Int32)) fun h9 =>
        bn (pI h9 a0 13 12 (0 : Int32)) fun h11 =>
        bd (nO h11 12) fun x13 h14 =>
        bn (F_la_init x13 h14) fun h17 =>
        bn (pR h17 a0 13 4 (some x13)) fun h18 =>
        bn (pI h18 a0 13 9 (0 : Int32)) fun h20 =>
        bn (F_md_goesOn a0 h20) fun h23 =>
        bn (F_md_readAll a0 h23) fun h25 =>
        bn (gI h25 a0 13 12) fun x26 =>
        if (0 : Int32) < x26 then
          (bn (pI h25 a0 13 1 (4 : Int32)) fun h28 =>
          bn (gI h28 a0 13 13) fun x30 =>
          bn (pI h28 a0 13 2 x30) fun h32 =>
          some (Sum.inr ((-1 : Int32), h32)))
        else
          (bn (gR h25 a0 13 4) fun x34 =>
          bn (pR h25 a0 13 3 (some x34)) fun h36 =>
          bn (F_md_asTold a0 (0 : Int32) h36) fun h39 =>
          bd (lp (B_md_lake_104 a0) FU (0 : Int32) h39) fun x48 h50 =>
          bn (pI h50 a0 13 19 (0 : Int32)) fun h51 =>
          bn (pI h51 a0 13 20 (0 : Int32)) fun h53 =>
          bn (gR h53 a0 13 3) fun x55 =>
          bn (gI h53 x55 12 1) fun x57 =>
          bd (F_md_good a0 x57 h53) fun x60 h61 =>
          some (Sum.inr (x60, h61)))))) fun x67 =>
  ei x67 (fun z63 =>
  bd (F_md_refused a0 (2 : Int32) h1) fun x65 h66 =>
  some (x65, h66))
  (fun z => some z))
def F_md_fault (a0 : Nat) (h : Hp) : Option (Int32 × Hp) :=
  ck h a0 13 (bn (pI h a0 13 0 (0 : Int32)) fun h1 =>
  bn (gI h1 a0 13 12) fun x3 =>
  some (x3, h1))
def F_md_where (a0 : Nat) (h : Hp) : Option (Int32 × Hp) :=
  ck h a0 13 (bn (pI h a0 13 0 (0 : Int32)) fun h1 =>
  bn (gI h1 a0 13 2) fun x3 =>
  some (x3, h1))
def F_md_isHouse (a0 : Nat) (a1 : Int32) (h : Hp) : Option Int32 :=
  ck h a0 13 (bn (gQ h a0 13 3) fun x1 =>
  if x1 = none then
    (some (0 : Int32))
  else
    (if a1 < (0 : Int32) then
      (some (0 : Int32))
    else
      (bn (gR h a0 13 3) fun x3 =>
      bn (gI h x3 12 1) fun x5 =>
      if a1 < x5 then
        (some (1 : Int32))
      else
        (some (0 : Int32)))))
def B_md_works_2 (l0 : Nat) (s : Int32) (h : Hp) : Option (((Int32) ⊕ (Unit)) × Hp) :=
  if s < (31 : Int32) then
    (bn (gR h l0 13 16) fun x1 =>
    bn (gR h l0 13 15) fun x3 =>
    bn (aI h 100 x3 s) fun x5 =>
    bn (sI h 100 x1 s x5) fun h7 =>
    some (.inl (s + (1 : Int32)), h7))
  else
    (some (.inr (), h))
def F_md_works (a0 : Nat) (h : Hp) : Option Hp :=
  ck h a0 13 (bd (lp (B_md_works_2 a0) FU (0 : Int32) h) fun x9 h11 =>
  some h11)
def B_md_weightOf_12 (l0 : Nat) (l1 : Int32) (h : Hp) (s : Int32 × Int32) : Option ((Int32 × Int32) ⊕ (Int32)) :=
  bn (gR h l0 13 3) fun x7 =>
  bn (gI h x7 12 3) fun x9 =>
  if s.2 < x9 then
    (bn (gR h l0 13 16) fun x11 =>
    bn (aI h 100 x11 ((25 : Int32) + s.2)) fun x13 =>
    if x13 = l1 then
      (bn (gR h l0 13 3) fun x15 =>
      bn (gR h x15 12 15) fun x17 =>
      bn (aI h 100 x17 s.2) fun x19 =>
      some (.inl (s.1 + x19, s.2 + (1 : Int32))))
    else
      (some (.inl (s.1 + (0 : Int32), s.2 + (1 : Int32)))))
  else
    (some (.inr s.1))
def F_md_weightOf (a0 : Nat) (a1 : Int32) (h : Hp) : Option Int32 :=
  ck h a0 13 (bn (gR h a0 13 3) fun x1 =>
  bn (gR h x1 12 10) fun x3 =>
  bn (aI h 100 x3 a1) fun x5 =>
  bn (lq (B_md_weightOf_12 a0 a1 h) FU (x5, (0 : Int32))) fun x21 =>
  some x21)
def F_md_lifts (a0 : Int32) : Option Int32 :=
  if a0 = (0 : Int32) then
    (some (3 : Int32))
  else
    (if a0 = (2 : Int32) then
      (some (1 : Int32))
    else
      (if a0 = (4 : Int32) then
        (some (4 : Int32))
      else
        (some (2 : Int32))))
def B_md_liftOf_4 (l0 : Nat) (l1 : Int32) (h : Hp) (s : Int32 × Int32) : Option ((Int32 × Int32) ⊕ (Int32)) :=
  if s.2 < (5 : Int32) then
    (bn (F_md_lifts s.2) fun x2 =>
    bn (gR h l0 13 16) fun x3 =>
    bn (F_md_cell l1 s.2) fun x6 =>
    bn (aI h 100 x3 x6) fun x7 =>
    some (.inl (s.1 + (x2 * x7), s.2 + (1 : Int32))))
  else
    (some (.inr s.1))
def F_md_liftOf (a0 : Nat) (a1 : Int32) (h : Hp) : Option Int32 :=
  ck h a0 13 (bn (lq (B_md_liftOf_4 a0 a1 h) FU ((0 : Int32), (0 : Int32))) fun x9 =>
  some x9)
def B_md_raftOf_20 (l0 : Nat) (l3 : Int32) (h : Hp) (s : Int32 × Int32) : Option ((Int32 × Int32) ⊕ (Int32)) :=
  bn (gR h l0 13 3) fun x5 =>
  bn (gI h x5 12 2) fun x7 =>
  if s.2 < x7 then
    (bn (gR h l0 13 16) fun x9 =>
    bn (aI h 100 x9 (28 : Int32)) fun x11 =>
    bn (F_md_bit x11 s.2) fun x14 =>
    if x14 = (0 : Int32) then
      (bn (gR h l0 13 3) fun x15 =>
      bn (gR h x15 12 13) fun x17 =>
      bn (aI h 100 x17 s.2) fun x19 =>
      bn (F_md_bit s.1 x19) fun x22 =>
      bn (if x22 = (0 : Int32) then
          (some s.1)
        else
          (bn (gR h l0 13 3) fun x23 =>
          bn (gR h x23 12 14) fun x25 =>
          bn (aI h 100 x25 s.2) fun x27 =>
          some (s.1 ||| ((1 : Int32) <<< (x27 &&& 31))))) fun q29 =>
      bn (gR h l0 13 3) fun x30 =>
      bn (gR h x30 12 14) fun x32 =>
      bn (aI h 100 x32 s.2) fun x34 =>
      bn (F_md_bit q29 x34) fun x37 =>
      if x37 = (0 : Int32) then
        (some (.inl (q29, s.2 + (1 : Int32))))
      else
        (bn (gR h l0 13 3) fun x38 =>
        bn (gR h x38 12 13) fun x40 =>
        bn (aI h 100 x40 s.2) fun x42 =>
        some (.inl (q29 ||| ((1 : Int32) <<< (x42 &&& 31)), s.2 + (1 : Int32)))))
    else
      (some (.inl (s.1, s.2 + (1 : Int32)))))
  else
    (some (.inr s.1))
def B_md_raftOf_6 (l0 : Nat) (h : Hp) (s : Int32 × Int32) : Option ((Int32 × Int32) ⊕ (Int32)) :=
  bn (gR h l0 13 3) fun x1 =>
  bn (gI h x1 12 1) fun x3 =>
  if s.2 < x3 then
    (bn (lq (B_md_raftOf_20 l0 s.2 h) FU (s.1, (0 : Int32))) fun x44 =>
    some (.inl (x44, s.2 + (1 : Int32))))
  else
    (some (.inr s.1))
def F_md_raftOf (a0 : Nat) (a1 : Int32) (h : Hp) : Option Int32 :=
  ck h a0 13 (bn (lq (B_md_raftOf_6 a0 h) FU ((1 : Int32) <<< (a1 &&& 31), (0 : Int32))) fun x46 =>
  some x46)
def F_md_netOf (a0 : Nat) (a1 : Int32) (h : Hp) : Option Int32 :=
  ck h a0 13 (bn (F_md_liftOf a0 a1 h) fun x2 =>
  bn (F_md_weightOf a0 a1 h) fun x4 =>
  some (x2 - x4))
def B_md_netOfAll_4 (l0 : Nat) (l1 : Int32) (h : Hp) (s : Int32 × Int32) : Option ((Int32 × Int32) ⊕ (Int32)) :=
  bn (gR h l0 13 3) fun x1 =>
  bn (gI h x1 12 1) fun x3 =>
  if s.2 < x3 then
    (bn (F_md_bit l1 s.2) fun x6 =>
    if x6 = (0 : Int32) then
      (some (.inl (s.1 + (0 : Int32), s.2 + (1 : Int32))))
    else
      (bn (F_md_netOf l0 s.2 h) fun x8 =>
      some (.inl (s.1 + x8, s.2 + (1 : Int32)))))
  else
    (some (.inr s.1))
def F_md_netOfAll (a0 : Nat) (a1 : Int32) (h : Hp) : Option Int32 :=
  ck h a0 13 (bn (lq (B_md_netOfAll_4 a0 a1 h) FU ((0 : Int32), (0 : Int32))) fun x9 =>
  some x9)
def B_md_bits_4 (s : Int32 × Int32) : Option ((Int32 × Int32) ⊕ (Int32)) :=
  if s.2 = (0 : Int32) then
    (some (.inr s.1))
  else
    (some (.inl (s.1 + (1 : Int32), s.2 &&& (s.2 - (1 : Int32)))))
def F_md_bits (a0 : Int32) : Option Int32 :=
  bn (lq (B_md_bits_4) FU ((0 : Int32), a0)) fun x1 =>
  some x1
def F_md_down (a0 : Int32) (a1 : Int32) : Option Int32 :=
  if a0 < (0 : Int32) then
    (bn (dv (((-a0) + a1) - (1 : Int32)) a1) fun x1 =>
    some (-x1))
  else
    (bn (dv a0 a1) fun x3 =>
    some x3)
def F_md_heightOf (a0 : Nat) (a1 : Int32) (h : Hp) : Option Int32 :=
  ck h a0 13 (bn (F_md_raftOf a0 a1 h) fun x2 =>
  bn (F_md_netOfAll a0 x2 h) fun x4 =>
  bn (F_md_bits x2) fun x6 =>
  bn (F_md_down x4 x6) fun x8 =>
  some x8)
def B_md_guestsAt_4 (l0 : Nat) (l1 : Int32) (h : Hp) (s : Int32 × Int32) : Option ((Int32 × Int32) ⊕ (Int32)) :=
  bn (gR h l0 13 3) fun x1 =>
  bn (gI h x1 12 3) fun x3 =>
  if s.2 < x3 then
    (bn (gR h l0 13 16) fun x5 =>
    bn (aI h 100 x5 ((25 : Int32) + s.2)) fun x7 =>
    if x7 = l1 then
      (some (.inl (s.1 ||| ((1 : Int32) <<< (s.2 &&& 31)), s.2 + (1 : Int32))))
    else
      (some (.inl (s.1 ||| (0 : Int32), s.2 + (1 : Int32)))))
  else
    (some (.inr s.1))
def F_md_guestsAt (a0 : Nat) (a1 : Int32) (h : Hp) : Option Int32 :=
  ck h a0 13 (bn (lq (B_md_guestsAt_4 a0 a1 h) FU ((0 : Int32), (0 : Int32))) fun x9 =>
  some x9)
def F_md_house (a0 : Nat) (a1 : Int32) (a2 : Int32) (h : Hp) : Option (Int32 × Hp) :=
  ck h a0 13 (bn (pI h a0 13 0 (0 : Int32)) fun h1 =>
  bn (F_md_isHouse a0 a1 h1) fun x4 =>
  bn (if x4 = (0 : Int32) then
      (some (Sum.inl ()))
    else
      (bn (F_md_in a2 (0 : Int32) (5 : Int32)) fun x6 =>
      if x6 = (0 : Int32) then
        (some (Sum.inl ()))
      else
        (bn (F_md_works a0 h1) fun h8 =>
        if (a2).toInt < 0 ∨ 4 < (a2).toInt then
          (bn (F_md_guestsAt a0 a1 h8) fun x10 =>
          bd (F_md_good a0 x10 h8) fun x12 h13 =>
          some (Sum.inr (x12, h13)))
        else if a2 = (0 : Int32) then
          (bn (gR h8 a0 13 3) fun x14 =>
          bn (gR h8 x14 12 9) fun x16 =>
          bn (aI h8 100 x16 a1) fun x18 =>
          bd (F_md_good a0 x18 h8) fun x21 h22 =>
          some (Sum.inr (x21, h22)))
        else if a2 = (1 : Int32) then
          (bn (F_md_weightOf a0 a1 h8) fun x24 =>
          bd (F_md_good a0 x24 h8) fun x26 h27 =>
          some (Sum.inr (x26, h27)))
        else if a2 = (2 : Int32) then
          (bn (F_md_liftOf a0 a1 h8) fun x29 =>
          bd (F_md_good a0 x29 h8) fun x31 h32 =>
          some (Sum.inr (x31, h32)))
        else if a2 = (3 : Int32) then
          (bn (F_md_heightOf a0 a1 h8) fun x34 =>
          bd (F_md_good a0 ((1000 : Int32) + x34) h8) fun x36 h37 =>
          some (Sum.inr (x36, h37)))
        else if a2 = (4 : Int32) then
          (bn (F_md_raftOf a0 a1 h8) fun x39 =>
          bd (F_md_good a0 x39 h8) fun x41 h42 =>
          some (Sum.inr (x41, h42)))
        else none))) fun x48 =>
  ei x48 (fun z44 =>
  bd (F_md_refused a0 (1 : Int32) h1) fun x46 h47 =>
  some (x46, h47))
  (fun z => some z))
def F_md_corks (a0 : Nat) (a1 : Int32) (a2 : Int32) (h : Hp) : Option (Int32 × Hp) :=
  ck h a0 13 (bn (pI h a0 13 0 (0 : Int32)) fun h1 =>
  bn (F_md_isHouse a0 a1 h1) fun x4 =>
  if x4 = (0 : Int32) then
    (bd (F_md_refused a0 (1 : Int32) h1) fun x6 h7 =>
    some (x6, h7))
  else
    (bn (F_md_in a2 (0 : Int32) (4 : Int32)) fun x9 =>
    if x9 = (0 : Int32) then
      (bd (F_md_refused a0 (2 : Int32) h1) fun x11 h12 =>
      some (x11, h12))
    else
      (bn (gR h1 a0 13 15) fun x13 =>
      bn (F_md_cell a1 a2) fun x16 =>
      bn (aI h1 100 x13 x16) fun x17 =>
      bd (F_md_good a0 x17 h1) fun x20 h21 =>
      some (x20, h21))))
def F_md_isGuest (a0 : Nat) (a1 : Int32) (h : Hp) : Option Int32 :=
  ck h a0 13 (bn (gQ h a0 13 3) fun x1 =>
  if x1 = none then
    (some (0 : Int32))
  else
    (if a1 < (0 : Int32) then
      (some (0 : Int32))
    else
      (bn (gR h a0 13 3) fun x3 =>
      bn (gI h x3 12 3) fun x5 =>
      if a1 < x5 then
        (some (1 : Int32))
      else
        (some (0 : Int32)))))
def F_md_guest (a0 : Nat) (a1 : Int32) (a2 : Int32) (h : Hp) : Option (Int32 × Hp) :=
  ck h a0 13 (bn (pI h a0 13 0 (0 : Int32)) fun h1 =>
  bn (F_md_isGuest a0 a1 h1) fun x4 =>
  bn (if x4 = (0 : Int32) then
      (some (Sum.inl ()))
    else
      (bn (F_md_in a2 (0 : Int32) (1 : Int32)) fun x6 =>
      if x6 = (0 : Int32) then
        (some (Sum.inl ()))
      else
        (bn (if a2 = (0 : Int32) then
            (bn (gR h1 a0 13 3) fun x7 =>
            bn (gR h1 x7 12 15) fun x9 =>
            bn (aI h1 100 x9 a1) fun x11 =>
            some x11)
          else
            (bn (gR h1 a0 13 15) fun x13 =>
            bn (aI h1 100 x13 ((25 : Int32) + a1)) fun x15 =>
            some x15)) fun q17 =>
        bd (F_md_good a0 q17 h1) fun x19 h20 =>
        some (Sum.inr (x19, h20))))) fun x26 =>
  ei x26 (fun z22 =>
  bd (F_md_refused a0 (1 : Int32) h1) fun x24 h25 =>
  some (x24, h25))
  (fun z => some z))
def F_md_isRopeNumber (a0 : Nat) (a1 : Int32) (h : Hp) : Option Int32 :=
  ck h a0 13 (bn (gQ h a0 13 3) fun x1 =>
  if x1 = none then
    (some (0 : Int32))
  else
    (if a1 < (0 : Int32) then
      (some (0 : Int32))
    else
      (bn (gR h a0 13 3) fun x3 =>
      bn (gI h x3 12 2) fun x5 =>
      if a1 < x5 then
        (some (1 : Int32))
      else
        (some (0 : Int32)))))
def F_md_rope (a0 : Nat) (a1 : Int32) (a2 : Int32) (h : Hp) : Option (Int32 × Hp) :=
  ck h a0 13 (bn (pI h a0 13 0 (0 : Int32)) fun h1 =>
  bn (F_md_isRopeNumber a0 a1 h1) fun x4 =>
  bn (if x4 = (0 : Int32) then
      (some (Sum.inl ()))
    else
      (bn (F_md_in a2 (0 : Int32) (2 : Int32)) fun x6 =>
      if x6 = (0 : Int32) then
        (some (Sum.inl ()))
      else
        (bn (if a2 = (0 : Int32) then
            (bn (gR h1 a0 13 3) fun x7 =>
            bn (gR h1 x7 12 13) fun x9 =>
            bn (aI h1 100 x9 a1) fun x11 =>
            some x11)
          else
            (if a2 = (1 : Int32) then
              (bn (gR h1 a0 13 3) fun x13 =>
              bn (gR h1 x13 12 14) fun x15 =>
              bn (aI h1 100 x15 a1) fun x17 =>
              some x17)
            else
              (bn (gR h1 a0 13 15) fun x19 =>
              bn (aI h1 100 x19 (28 : Int32)) fun x21 =>
              bn (F_md_bit x21 a1) fun x24 =>
              if x24 = (0 : Int32) then
                (some (1 : Int32))
              else
                (some (0 : Int32))))) fun q25 =>
        bd (F_md_good a0 q25 h1) fun x27 h28 =>
        some (Sum.inr (x27, h28))))) fun x34 =>
  ei x34 (fun z30 =>
  bd (F_md_refused a0 (1 : Int32) h1) fun x32 h33 =>
  some (x32, h33))
  (fun z => some z))
def B_md_underNow_4 (l0 : Nat) (h : Hp) (s : Int32 × Int32) : Option ((Int32 × Int32) ⊕ (Int32)) :=
  bn (gR h l0 13 3) fun x1 =>
  bn (gI h x1 12 1) fun x3 =>
  if s.2 < x3 then
    (bn (F_md_heightOf l0 s.2 h) fun x6 =>
    if x6 < (0 : Int32) then
      (some (.inl (s.1 ||| ((1 : Int32) <<< (s.2 &&& 31)), s.2 + (1 : Int32))))
    else
      (some (.inl (s.1 ||| (0 : Int32), s.2 + (1 : Int32)))))
  else
    (some (.inr s.1))
def F_md_underNow (a0 : Nat) (h : Hp) : Option Int32 :=
  ck h a0 13 (bn (lq (B_md_underNow_4 a0 h) FU ((0 : Int32), (0 : Int32))) fun x7 =>
  some x7)
def F_md_under (a0 : Nat) (h : Hp) : Option (Int32 × Hp) :=
  ck h a0 13 (bn (pI h a0 13 0 (0 : Int32)) fun h1 =>
  bn (gQ h1 a0 13 3) fun x3 =>
  if x3 = none then
    (bd (F_md_refused a0 (1 : Int32) h1) fun x6 h7 =>
    some (x6, h7))
  else
    (bn (F_md_works a0 h1) fun h9 =>
    bn (F_md_underNow a0 h9) fun x11 =>
    bd (F_md_good a0 x11 h9) fun x13 h14 =>
    some (x13, h14)))
def B_md_lowestNow_4 (l0 : Nat) (h : Hp) (s : Int32 × Int32) : Option ((Int32 × Int32) ⊕ (Int32)) :=
  bn (gR h l0 13 3) fun x1 =>
  bn (gI h x1 12 1) fun x3 =>
  if s.2 < x3 then
    (bn (F_md_heightOf l0 s.2 h) fun x6 =>
    bn (F_md_heightOf l0 s.1 h) fun x8 =>
    if x6 < x8 then
      (some (.inl (s.2, s.2 + (1 : Int32))))
    else
      (some (.inl (s.1, s.2 + (1 : Int32)))))
  else
    (some (.inr s.1))
def F_md_lowestNow (a0 : Nat) (h : Hp) : Option Int32 :=
  ck h a0 13 (bn (lq (B_md_lowestNow_4 a0 h) FU ((0 : Int32), (1 : Int32))) fun x9 =>
  some x9)
def F_md_lowest (a0 : Nat) (h : Hp) : Option (Int32 × Hp) :=
  ck h a0 13 (bn (pI h a0 13 0 (0 : Int32)) fun h1 =>
  bn (gQ h1 a0 13 3) fun x3 =>
  if x3 = none then
    (bd (F_md_refused a0 (1 : Int32) h1) fun x6 h7 =>
    some (x6, h7))
  else
    (bn (F_md_works a0 h1) fun h9 =>
    bn (F_md_lowestNow a0 h9) fun x11 =>
    bd (F_md_good a0 x11 h9) fun x13 h14 =>
    some (x13, h14)))
def B_md_rafts_26 (l0 : Nat) (h : Hp) (s : Int32 × Int32) : Option ((Int32 × Int32) ⊕ (Int32)) :=
  bn (gR h l0 13 3) fun x10 =>
  bn (gI h x10 12 1) fun x12 =>
  if s.2 < x12 then
    (bn (F_md_raftOf l0 s.2 h) fun x15 =>
    if (x15 &&& (((1 : Int32) <<< (s.2 &&& 31)) - (1 : Int32))) = (0 : Int32) then
      (some (.inl (s.1 + (1 : Int32), s.2 + (1 : Int32))))
    else
      (some (.inl (s.1 + (0 : Int32), s.2 + (1 : Int32)))))
  else
    (some (.inr s.1))
def F_md_rafts (a0 : Nat) (h : Hp) : Option (Int32 × Hp) :=
  ck h a0 13 (bn (pI h a0 13 0 (0 : Int32)) fun h1 =>
  bn (gQ h1 a0 13 3) fun x3 =>
  if x3 = none then
    (bd (F_md_refused a0 (1 : Int32) h1) fun x6 h7 =>
    some (x6, h7))
  else
    (bn (F_md_works a0 h1) fun h9 =>
    bn (lq (B_md_rafts_26 a0 h9) FU ((0 : Int32), (0 : Int32))) fun x16 =>
    bd (F_md_good a0 x16 h9) fun x19 h20 =>
    some (x19, h20)))
def B_md_tilt_45 (l0 : Nat) (l2 : Int32) (h : Hp) (s : Int32 × Int32 × Int32) : Option ((Int32 × Int32 × Int32) ⊕ (Int32 × Int32)) :=
  bn (gR h l0 13 3) fun x16 =>
  bn (gI h x16 12 1) fun x18 =>
  if s.2.2 < x18 then
    (bn (F_md_bit l2 s.2.2) fun x21 =>
    if x21 = (0 : Int32) then
      (some (.inl (s.1, s.2.1, s.2.2 + (1 : Int32))))
    else
      (bn (F_md_netOf l0 s.2.2 h) fun x23 =>
      bn (if s.1 < x23 then
          (bn (F_md_netOf l0 s.2.2 h) fun x25 =>
          some x25)
        else
          (some s.1)) fun q26 =>
      bn (F_md_netOf l0 s.2.2 h) fun x28 =>
      if x28 < s.2.1 then
        (bn (F_md_netOf l0 s.2.2 h) fun x30 =>
        some (.inl (q26, x30, s.2.2 + (1 : Int32))))
      else
        (some (.inl (q26, s.2.1, s.2.2 + (1 : Int32))))))
  else
    (some (.inr (s.1, s.2.1)))
def F_md_tilt (a0 : Nat) (a1 : Int32) (h : Hp) : Option (Int32 × Hp) :=
  ck h a0 13 (bn (pI h a0 13 0 (0 : Int32)) fun h1 =>
  bn (F_md_isHouse a0 a1 h1) fun x4 =>
  if x4 = (0 : Int32) then
    (bd (F_md_refused a0 (1 : Int32) h1) fun x6 h7 =>
    some (x6, h7))
  else
    (bn (F_md_works a0 h1) fun h9 =>
    bn (F_md_raftOf a0 a1 h9) fun x11 =>
    bn (F_md_netOf a0 a1 h9) fun x13 =>
    bn (F_md_netOf a0 a1 h9) fun x15 =>
    bn (lq (B_md_tilt_45 a0 x11 h9) FU (x13, x15, (0 : Int32))) fun x31 =>
    bd (F_md_good a0 (x31.1 - x31.2) h9) fun x34 h35 =>
    some (x34, h35)))
def F_md_refusesWeeks (a0 : Nat) (a1 : Int32) (a2 : Int32) (h : Hp) : Option Int32 :=
  ck h a0 13 (if a1 = (0 : Int32) then
    (some (1 : Int32))
  else
    (bn (F_md_in a2 (0 : Int32) (20 : Int32)) fun x2 =>
    if x2 = (0 : Int32) then
      (some (2 : Int32))
    else
      (some (0 : Int32))))
def B_md_softens_2 (l0 : Nat) (s : Int32) (h : Hp) : Option (((Int32) ⊕ (Unit)) × Hp) :=
  bn (gR h l0 13 3) fun x1 =>
  bn (gI h x1 12 1) fun x3 =>
  if s < x3 then
    (bn (gR h l0 13 16) fun x5 =>
    bn (F_md_cell s (2 : Int32)) fun x8 =>
    bn (gR h l0 13 16) fun x9 =>
    bn (F_md_cell s (1 : Int32)) fun x12 =>
    bn (aI h 100 x9 x12) fun x13 =>
    bn (sI h 100 x5 x8 x13) fun h15 =>
    bn (gR h15 l0 13 16) fun x17 =>
    bn (F_md_cell s (1 : Int32)) fun x20 =>
    bn (gR h15 l0 13 16) fun x21 =>
    bn (F_md_cell s (0 : Int32)) fun x24 =>
    bn (aI h15 100 x21 x24) fun x25 =>
    bn (sI h15 100 x17 x20 x25) fun h27 =>
    bn (gR h27 l0 13 16) fun x29 =>
    bn (F_md_cell s (0 : Int32)) fun x32 =>
    bn (sI h27 100 x29 x32 (0 : Int32)) fun h33 =>
    some (.inl (s + (1 : Int32)), h33))
  else
    (some (.inr (), h))
def F_md_softens (a0 : Nat) (h : Hp) : Option Hp :=
  ck h a0 13 (bd (lp (B_md_softens_2 a0) FU (0 : Int32) h) fun x35 h37 =>
  some h37)
def B_md_softensAll_2 (l0 : Nat) (l1 : Int32) (s : Int32) (h : Hp) : Option (((Int32) ⊕ (Unit)) × Hp) :=
  if s < l1 then
    (bn (F_md_softens l0 h) fun h2 =>
    some (.inl (s + (1 : Int32)), h2))
  else
    (some (.inr (), h))
def F_md_softensAll (a0 : Nat) (a1 : Int32) (h : Hp) : Option Hp :=
  ck h a0 13 (bd (lp (B_md_softensAll_2 a0 a1) FU (0 : Int32) h) fun x3 h5 =>
  some h5)
def F_md_heightIn (a0 : Nat) (a1 : Int32) (a2 : Int32) (h : Hp) : Option (Int32 × Hp) :=
  ck h a0 13 (bn (pI h a0 13 0 (0 : Int32)) fun h1 =>
  bn (F_md_isHouse a0 a1 h1) fun x4 =>
  bn (F_md_refusesWeeks a0 x4 a2 h1) fun x6 =>
  if (0 : Int32) < x6 then
    (bd (F_md_refused a0 x6 h1) fun x8 h9 =>
    some (x8, h9))
  else
    (bn (F_md_works a0 h1) fun h11 =>
    bn (F_md_softensAll a0 a2 h11) fun h13 =>
    bn (F_md_heightOf a0 a1 h13) fun x15 =>
    bd (F_md_good a0 ((1000 : Int32) + x15) h13) fun x17 h18 =>
    some (x17, h18)))
def F_md_underIn (a0 : Nat) (a1 : Int32) (h : Hp) : Option (Int32 × Hp) :=
  ck h a0 13 (bn (pI h a0 13 0 (0 : Int32)) fun h1 =>
  bn (gQ h1 a0 13 3) fun x3 =>
  bn (if x3 = none then
      (some (0 : Int32))
    else
      (some (1 : Int32))) fun q5 =>
  bn (F_md_refusesWeeks a0 q5 a1 h1) fun x7 =>
  if (0 : Int32) < x7 then
    (bd (F_md_refused a0 x7 h1) fun x9 h10 =>
    some (x9, h10))
  else
    (bn (F_md_works a0 h1) fun h12 =>
    bn (F_md_softensAll a0 a1 h12) fun h14 =>
    bn (F_md_underNow a0 h14) fun x16 =>
    bd (F_md_good a0 x16 h14) fun x18 h19 =>
    some (x18, h19)))
def B_md_sinks_25 (l0 : Nat) (l1 : Int32) (s : Int32) (h : Hp) : Option (((Int32) ⊕ ((Unit) ⊕ Int32)) × Hp) :=
  if (20 : Int32) < s then
    (some (.inr (.inl ()), h))
  else
    (bn (F_md_heightOf l0 l1 h) fun x11 =>
    if x11 < (0 : Int32) then
      (bd (F_md_good l0 s h) fun x13 h14 =>
      some (.inr (.inr x13), h14))
    else
      (bn (F_md_softens l0 h) fun h16 =>
      some (.inl (s + (1 : Int32)), h16)))
def F_md_sinks (a0 : Nat) (a1 : Int32) (h : Hp) : Option (Int32 × Hp) :=
  ck h a0 13 (bn (pI h a0 13 0 (0 : Int32)) fun h1 =>
  bn (F_md_isHouse a0 a1 h1) fun x4 =>
  if x4 = (0 : Int32) then
    (bd (F_md_refused a0 (1 : Int32) h1) fun x6 h7 =>
    some (x6, h7))
  else
    (bn (F_md_works a0 h1) fun h9 =>
    bd (lp (B_md_sinks_25 a0 a1) FU (0 : Int32) h9) fun x17 h19 =>
    ei x17 (fun q20 =>
    bd (F_md_good a0 (-2 : Int32) h19) fun x22 h23 =>
    some (x22, h23))
    (fun x24 => some (x24, h19))))
def F_md_isDry (a0 : Nat) (a1 : Int32) (h : Hp) : Option Int32 :=
  ck h a0 13 (bn (gR h a0 13 3) fun x1 =>
  bn (gR h x1 12 19) fun x3 =>
  bn (aI h 100 x3 a1) fun x5 =>
  bn (F_md_heightOf a0 x5 h) fun x8 =>
  bn (gR h a0 13 3) fun x9 =>
  bn (gR h x9 12 21) fun x11 =>
  bn (aI h 100 x11 a1) fun x13 =>
  if x8 < x13 then
    (some (0 : Int32))
  else
    (some (1 : Int32)))
def B_md_wetFeast_20 (l0 : Nat) (s : Int32) (h : Hp) : Option (((Int32) ⊕ ((Unit) ⊕ Int32)) × Hp) :=
  bn (gR h l0 13 3) fun x8 =>
  bn (gI h x8 12 5) fun x10 =>
  if s < x10 then
    (bn (F_md_works l0 h) fun h13 =>
    bn (gR h13 l0 13 3) fun x14 =>
    bn (gR h13 x14 12 20) fun x16 =>
    bn (aI h13 100 x16 s) fun x18 =>
    bn (F_md_softensAll l0 x18 h13) fun h21 =>
    bn (F_md_isDry l0 s h21) fun x23 =>
    if x23 = (0 : Int32) then
      (bd (F_md_good l0 s h21) fun x25 h26 =>
      some (.inr (.inr x25), h26))
    else
      (some (.inl (s + (1 : Int32)), h21)))
  else
    (some (.inr (.inl ()), h))
def F_md_wetFeast (a0 : Nat) (h : Hp) : Option (Int32 × Hp) :=
  ck h a0 13 (bn (pI h a0 13 0 (0 : Int32)) fun h1 =>
  bn (gQ h1 a0 13 3) fun x3 =>
  if x3 = none then
    (bd (F_md_refused a0 (1 : Int32) h1) fun x6 h7 =>
    some (x6, h7))
  else
    (bd (lp (B_md_wetFeast_20 a0) FU (0 : Int32) h1) fun x27 h29 =>
    ei x27 (fun q30 =>
    bd (F_md_good a0 (-2 : Int32) h29) fun x32 h33 =>
    some (x32, h33))
    (fun x34 => some (x34, h29))))
def B_md_aunt_64 (l0 : Nat) (l3 : Int32) (l4 : Int32) (s : Int32) (h : Hp) : Option (((Int32) ⊕ ((Unit) ⊕ Int32)) × Hp) :=
  if (300 : Int32) < s then
    (some (.inr (.inl ()), h))
  else
    (bn (F_md_lifts l3) fun x19 =>
    if (l4 + (s * x19)) < (0 : Int32) then
      (some (.inl (s + (1 : Int32)), h))
    else
      (bd (F_md_good l0 s h) fun x21 h22 =>
      some (.inr (.inr x21), h22)))
def F_md_aunt (a0 : Nat) (a1 : Int32) (a2 : Int32) (a3 : Int32) (h : Hp) : Option (Int32 × Hp) :=
  ck h a0 13 (bn (pI h a0 13 0 (0 : Int32)) fun h1 =>
  bn (F_md_isHouse a0 a1 h1) fun x4 =>
  if x4 = (0 : Int32) then
    (bd (F_md_refused a0 (1 : Int32) h1) fun x6 h7 =>
    some (x6, h7))
  else
    (bn (F_md_in a2 (0 : Int32) (99 : Int32)) fun x9 =>
    bn (if x9 = (0 : Int32) then
        (some (Sum.inl ()))
      else
        (bn (F_md_in a3 (0 : Int32) (4 : Int32)) fun x11 =>
        if x11 = (0 : Int32) then
          (some (Sum.inl ()))
        else
          (bn (F_md_works a0 h1) fun h13 =>
          bn (F_md_raftOf a0 a1 h13) fun x15 =>
          bn (F_md_netOfAll a0 x15 h13) fun x17 =>
          bd (lp (B_md_aunt_64 a0 a3 (x17 - a2)) FU (0 : Int32) h13) fun x23 h25 =>
          ei x23 (fun q26 =>
          bd (F_md_good a0 (-2 : Int32) h25) fun x28 h29 =>
          some (Sum.inr (x28, h29)))
          (fun x30 => some (Sum.inr (x30, h25)))))) fun x36 =>
    ei x36 (fun z32 =>
    bd (F_md_refused a0 (2 : Int32) h1) fun x34 h35 =>
    some (x34, h35))
    (fun z => some z)))
def B_md_stays_37 (l0 : Nat) (l1 : Int32) (l2 : Int32) (l3 : Int32) (l4 : Int32) (l6 : Int32) (h : Hp) (s : Int32 × Int32) : Option ((Int32 × Int32) ⊕ (Int32)) :=
  bn (gR h l0 13 3) fun x7 =>
  bn (gI h x7 12 1) fun x9 =>
  if s.2 < x9 then
    (bn (F_md_bit l6 s.2) fun x12 =>
    bn (if x12 = (0 : Int32) then
        (bn (F_md_heightOf l0 s.2 h) fun x14 =>
        some x14)
      else
        (bn (F_md_netOfAll l0 l6 h) fun x16 =>
        bn (F_md_bits l6) fun x18 =>
        bn (F_md_down (x16 - l1) x18) fun x20 =>
        some x20)) fun q21 =>
    if q21 < s.1 then
      (some (.inl (q21, s.2 + (1 : Int32))))
    else
      (some (.inl (s.1, s.2 + (1 : Int32)))))
  else
    (some (.inr s.1))
def B_md_stays_9 (l0 : Nat) (l1 : Int32) (h : Hp) (s : Int32 × Int32 × Int32) : Option ((Int32 × Int32 × Int32) ⊕ (Int32)) :=
  bn (gR h l0 13 3) fun x1 =>
  bn (gI h x1 12 1) fun x3 =>
  if s.2.2 < x3 then
    (bn (F_md_raftOf l0 s.2.2 h) fun x6 =>
    bn (lq (B_md_stays_37 l0 l1 s.1 s.2.1 s.2.2 x6 h) FU ((99999 : Int32), (0 : Int32))) fun x22 =>
    if s.2.1 < x22 then
      (some (.inl (s.2.2, x22, s.2.2 + (1 : Int32))))
    else
      (some (.inl (s.1, s.2.1, s.2.2 + (1 : Int32)))))
  else
    (some (.inr s.1))
def F_md_stays (a0 : Nat) (a1 : Int32) (h : Hp) : Option Int32 :=
  ck h a0 13 (bn (lq (B_md_stays_9 a0 a1 h) FU ((0 : Int32), (-99999 : Int32), (0 : Int32))) fun x24 =>
  some x24)
def F_md_bestStay (a0 : Nat) (a1 : Int32) (h : Hp) : Option (Int32 × Hp) :=
  ck h a0 13 (bn (pI h a0 13 0 (0 : Int32)) fun h1 =>
  bn (gQ h1 a0 13 3) fun x3 =>
  if x3 = none then
    (bd (F_md_refused a0 (1 : Int32) h1) fun x6 h7 =>
    some (x6, h7))
  else
    (bn (F_md_in a1 (0 : Int32) (99 : Int32)) fun x9 =>
    if x9 = (0 : Int32) then
      (bd (F_md_refused a0 (2 : Int32) h1) fun x11 h12 =>
      some (x11, h12))
    else
      (bn (F_md_works a0 h1) fun h14 =>
      bn (F_md_stays a0 a1 h14) fun x16 =>
      bd (F_md_good a0 x16 h14) fun x18 h19 =>
      some (x18, h19))))
def F_md_bestMove (a0 : Nat) (a1 : Int32) (h : Hp) : Option (Int32 × Hp) :=
  ck h a0 13 (bn (pI h a0 13 0 (0 : Int32)) fun h1 =>
  bn (F_md_isGuest a0 a1 h1) fun x4 =>
  if x4 = (0 : Int32) then
    (bd (F_md_refused a0 (1 : Int32) h1) fun x6 h7 =>
    some (x6, h7))
  else
    (bn (F_md_works a0 h1) fun h9 =>
    bn (gR h9 a0 13 16) fun x10 =>
    bn (sI h9 100 x10 ((25 : Int32) + a1) (-1 : Int32)) fun h12 =>
    bn (gR h12 a0 13 3) fun x14 =>
    bn (gR h12 x14 12 15) fun x16 =>
    bn (aI h12 100 x16 a1) fun x18 =>
    bn (F_md_stays a0 x18 h12) fun x21 =>
    bd (F_md_good a0 x21 h12) fun x23 h24 =>
    some (x23, h24)))
def B_md_bestCut_35 (l0 : Nat) (s : Int32 × Int32 × Int32) (h : Hp) : Option (((Int32 × Int32 × Int32) ⊕ (Int32)) × Hp) :=
  bn (gR h l0 13 3) fun x14 =>
  bn (gI h x14 12 2) fun x16 =>
  if s.2.2 < x16 then
    (bn (F_md_works l0 h) fun h19 =>
    bn (gR h19 l0 13 16) fun x20 =>
    bn (aI h19 100 x20 (28 : Int32)) fun x22 =>
    bn (sI h19 100 x20 (28 : Int32) (x22 ||| ((1 : Int32) <<< (s.2.2 &&& 31)))) fun h24 =>
    bn (F_md_underNow l0 h24) fun x27 =>
    bn (F_md_bits x27) fun x29 =>
    if x29 < s.1 then
      (bn (F_md_underNow l0 h24) fun x31 =>
      bn (F_md_bits x31) fun x33 =>
      some (.inl (x33, s.2.2, s.2.2 + (1 : Int32)), h24))
    else
      (some (.inl (s.1, s.2.1, s.2.2 + (1 : Int32)), h24)))
  else
    (some (.inr s.2.1, h))
def F_md_bestCut (a0 : Nat) (h : Hp) : Option (Int32 × Hp) :=
  ck h a0 13 (bn (pI h a0 13 0 (0 : Int32)) fun h1 =>
  bn (gQ h1 a0 13 3) fun x3 =>
  if x3 = none then
    (bd (F_md_refused a0 (1 : Int32) h1) fun x6 h7 =>
    some (x6, h7))
  else
    (bn (F_md_works a0 h1) fun h9 =>
    bn (F_md_underNow a0 h9) fun x11 =>
    bn (F_md_bits x11) fun x13 =>
    bd (lp (B_md_bestCut_35 a0) FU (x13, (-2 : Int32), (0 : Int32)) h9) fun x34 h36 =>
    bd (F_md_good a0 x34 h36) fun x38 h39 =>
    some (x38, h39)))
def F_md_refusesDays (a0 : Nat) (a1 : Int32) (a2 : Int32) (h : Hp) : Option Int32 :=
  ck h a0 13 (if a1 = (0 : Int32) then
    (some (1 : Int32))
  else
    (bn (F_md_in a2 (1 : Int32) (4 : Int32)) fun x2 =>
    if x2 = (0 : Int32) then
      (some (2 : Int32))
    else
      (some (0 : Int32))))
def F_md_options (a0 : Nat) (a1 : Int32) (h : Hp) : Option Int32 :=
  ck h a0 13 (bn (gR h a0 13 3) fun x1 =>
  bn (gI h x1 12 1) fun x3 =>
  some ((1 : Int32) + (a1 * x3)))
def B_md_plansAll_4 (l0 : Nat) (l1 : Int32) (h : Hp) (s : Int32 × Int32) : Option ((Int32 × Int32) ⊕ (Int32)) :=
  bn (gR h l0 13 3) fun x1 =>
  bn (gI h x1 12 4) fun x3 =>
  if s.2 < x3 then
    (bn (F_md_options l0 l1 h) fun x6 =>
    some (.inl (s.1 * x6, s.2 + (1 : Int32))))
  else
    (some (.inr s.1))
def F_md_plansAll (a0 : Nat) (a1 : Int32) (h : Hp) : Option Int32 :=
  ck h a0 13 (bn (lq (B_md_plansAll_4 a0 a1 h) FU ((1 : Int32), (0 : Int32))) fun x7 =>
  some x7)
def B_md_laysPlan_16 (l0 : Nat) (l2 : Int32) (s : Int32 × Int32 × Int32) (h : Hp) : Option (((Int32 × Int32 × Int32) ⊕ (Int32)) × Hp) :=
  if s.2.2 < (0 : Int32) then
    (some (.inr s.2.1, h))
  else
    (bn (F_md_options l0 l2 h) fun x6 =>
    bn (rm32 s.1 x6) fun x7 =>
    bn (F_md_options l0 l2 h) fun x10 =>
    bn (dv s.1 x10) fun x11 =>
    bn (gR h l0 13 21) fun x13 =>
    bn (if x7 = (0 : Int32) then
        (some (0 : Int32))
      else
        (bn (gR h l0 13 3) fun x15 =>
        bn (gI h x15 12 1) fun x17 =>
        bn (dv (x7 - (1 : Int32)) x17) fun x19 =>
        some ((1 : Int32) + x19))) fun q21 =>
    bn (sI h 100 x13 s.2.2 q21) fun h22 =>
    bn (gR h22 l0 13 22) fun x24 =>
    bn (if x7 = (0 : Int32) then
        (some (-2 : Int32))
      else
        (bn (gR h22 l0 13 3) fun x26 =>
        bn (gI h22 x26 12 1) fun x28 =>
        bn (rm32 (x7 - (1 : Int32)) x28) fun x30 =>
        some x30)) fun q32 =>
    bn (sI h22 100 x24 s.2.2 q32) fun h33 =>
    bn (gR h33 l0 13 21) fun x35 =>
    bn (aI h33 100 x35 s.2.2) fun x37 =>
    bn (gR h33 l0 13 3) fun x39 =>
    bn (gR h33 x39 12 18) fun x41 =>
    bn (aI h33 100 x41 s.2.2) fun x43 =>
    some (.inl (x11, s.2.1 + (x37 * x43), s.2.2 + (-1 : Int32)), h33))
def F_md_laysPlan (a0 : Nat) (a1 : Int32) (a2 : Int32) (h : Hp) : Option (Int32 × Hp) :=
  ck h a0 13 (bn (gR h a0 13 3) fun x1 =>
  bn (gI h x1 12 4) fun x3 =>
  bd (lp (B_md_laysPlan_16 a0 a2) FU (a1, (0 : Int32), x3 - (1 : Int32)) h) fun x45 h47 =>
  some (x45, h47))
def B_md_drinksAll_6 (l0 : Nat) (s : Int32) (h : Hp) : Option (((Int32) ⊕ (Unit)) × Hp) :=
  bn (gR h l0 13 3) fun x3 =>
  bn (gI h x3 12 4) fun x5 =>
  if s < x5 then
    (bn (gR h l0 13 21) fun x7 =>
    bn (aI h 100 x7 s) fun x9 =>
    if (0 : Int32) < x9 then
      (bn (gR h l0 13 16) fun x11 =>
      bn (gR h l0 13 22) fun x13 =>
      bn (aI h 100 x13 s) fun x15 =>
      bn (gR h l0 13 3) fun x17 =>
      bn (gR h x17 12 17) fun x19 =>
      bn (aI h 100 x19 s) fun x21 =>
      bn (F_md_cell x15 x21) fun x24 =>
      bn (aI h 100 x11 x24) fun x25 =>
      bn (gR h l0 13 21) fun x27 =>
      bn (aI h 100 x27 s) fun x29 =>
      bn (gR h l0 13 3) fun x31 =>
      bn (gR h x31 12 18) fun x33 =>
      bn (aI h 100 x33 s) fun x35 =>
      bn (sI h 100 x11 x24 (x25 + (x29 * x35))) fun h37 =>
      some (.inl (s + (1 : Int32)), h37))
    else
      (some (.inl (s + (1 : Int32)), h)))
  else
    (some (.inr (), h))
def F_md_drinksAll (a0 : Nat) (h : Hp) : Option Hp :=
  ck h a0 13 (bn (F_md_works a0 h) fun h2 =>
  bd (lp (B_md_drinksAll_6 a0) FU (0 : Int32) h2) fun x39 h41 =>
  some h41)
def B_md_allDry_2 (l0 : Nat) (s : Int32) (h : Hp) : Option (((Int32) ⊕ ((Unit) ⊕ Int32)) × Hp) :=
  bn (gR h l0 13 3) fun x1 =>
  bn (gI h x1 12 5) fun x3 =>
  if s < x3 then
    (bn (F_md_drinksAll l0 h) fun h6 =>
    bn (gR h6 l0 13 3) fun x7 =>
    bn (gR h6 x7 12 20) fun x9 =>
    bn (aI h6 100 x9 s) fun x11 =>
    bn (F_md_softensAll l0 x11 h6) fun h14 =>
    bn (F_md_isDry l0 s h14) fun x16 =>
    if x16 = (0 : Int32) then
      (some (.inr (.inr (0 : Int32)), h14))
    else
      (some (.inl (s + (1 : Int32)), h14)))
  else
    (some (.inr (.inl ()), h))
def F_md_allDry (a0 : Nat) (h : Hp) : Option (Int32 × Hp) :=
  ck h a0 13 (bd (lp (B_md_allDry_2 a0) FU (0 : Int32) h) fun x17 h19 =>
  ei x17 (fun q20 =>
  some ((1 : Int32), h19))
  (fun x21 => some (x21, h19)))
def B_md_plans_71 (l0 : Nat) (l1 : Int32) (l2 : Int32) (l3 : Int32) (l4 : Int32) (s : Int32) (h : Hp) : Option (((Int32) ⊕ (Unit)) × Hp) :=
  bn (gR h l0 13 3) fun x10 =>
  bn (gI h x10 12 4) fun x12 =>
  if s < x12 then
    (bn (gR h l0 13 23) fun x14 =>
    bn (gR h l0 13 21) fun x16 =>
    bn (aI h 100 x16 s) fun x18 =>
    bn (sI h 100 x14 s x18) fun h20 =>
    bn (gR h20 l0 13 24) fun x22 =>
    bn (gR h20 l0 13 22) fun x24 =>
    bn (aI h20 100 x24 s) fun x26 =>
    bn (sI h20 100 x22 s x26) fun h28 =>
    some (.inl (s + (1 : Int32)), h28))
  else
    (some (.inr (), h))
def B_md_plans_6 (l0 : Nat) (l1 : Int32) (l2 : Int32) (s : Int32 × Int32) (h : Hp) : Option (((Int32 × Int32) ⊕ (Int32)) × Hp) :=
  bn (F_md_plansAll l0 l1 h) fun x2 =>
  if s.2 < x2 then
    (bd (F_md_laysPlan l0 s.2 l1 h) fun x4 h5 =>
    if s.1 = (-2 : Int32) then
      (bn (F_md_drinksAll l0 h5) fun h7 =>
      bn (F_md_underNow l0 h7) fun x9 =>
      if x9 = (0 : Int32) then
        (if l2 = (0 : Int32) then
          (bd (lp (B_md_plans_71 l0 l1 l2 x4 s.2) FU (0 : Int32) h7) fun x30 h32 =>
          some (.inl (x4, s.2 + (1 : Int32)), h32))
        else
          (bd (F_md_allDry l0 h7) fun x34 h35 =>
          if x34 = (0 : Int32) then
            (some (.inl (s.1, s.2 + (1 : Int32)), h35))
          else
            (bd (lp (B_md_plans_71 l0 l1 l2 x4 s.2) FU (0 : Int32) h35) fun x56 h58 =>
            some (.inl (x4, s.2 + (1 : Int32)), h58))))
      else
        (some (.inl (s.1, s.2 + (1 : Int32)), h7)))
    else
      (if x4 < s.1 then
        (bn (F_md_drinksAll l0 h5) fun h60 =>
        bn (F_md_underNow l0 h60) fun x62 =>
        if x62 = (0 : Int32) then
          (if l2 = (0 : Int32) then
            (bd (lp (B_md_plans_71 l0 l1 l2 x4 s.2) FU (0 : Int32) h60) fun x83 h85 =>
            some (.inl (x4, s.2 + (1 : Int32)), h85))
          else
            (bd (F_md_allDry l0 h60) fun x87 h88 =>
            if x87 = (0 : Int32) then
              (some (.inl (s.1, s.2 + (1 : Int32)), h88))
            else
              (bd (lp (B_md_plans_71 l0 l1 l2 x4 s.2) FU (0 : Int32) h88) fun x109 h111 =>
              some (.inl (x4, s.2 + (1 : Int32)), h111))))
        else
          (some (.inl (s.1, s.2 + (1 : Int32)), h60)))
      else
        (some (.inl (s.1, s.2 + (1 : Int32)), h5))))
  else
    (some (.inr s.1, h))
def F_md_plans (a0 : Nat) (a1 : Int32) (a2 : Int32) (h : Hp) : Option (Int32 × Hp) :=
  ck h a0 13 (bd (lp (B_md_plans_6 a0 a1 a2) FU ((-2 : Int32), (0 : Int32)) h) fun x112 h114 =>
  some (x112, h114))
def F_md_plan (a0 : Nat) (a1 : Int32) (h : Hp) : Option (Int32 × Hp) :=
  ck h a0 13 (bn (pI h a0 13 0 (0 : Int32)) fun h1 =>
  bn (gQ h1 a0 13 3) fun x3 =>
  bn (if x3 = none then
      (some (0 : Int32))
    else
      (some (1 : Int32))) fun q5 =>
  bn (F_md_refusesDays a0 q5 a1 h1) fun x7 =>
  if (0 : Int32) < x7 then
    (bd (F_md_refused a0 x7 h1) fun x9 h10 =>
    some (x9, h10))
  else
    (bd (F_md_plans a0 a1 (0 : Int32) h1) fun x12 h13 =>
    bd (F_md_good a0 x12 h13) fun x15 h16 =>
    some (x15, h16)))
def F_md_isDrinker (a0 : Nat) (a1 : Int32) (h : Hp) : Option Int32 :=
  ck h a0 13 (bn (gQ h a0 13 3) fun x1 =>
  if x1 = none then
    (some (0 : Int32))
  else
    (if a1 < (0 : Int32) then
      (some (0 : Int32))
    else
      (bn (gR h a0 13 3) fun x3 =>
      bn (gI h x3 12 4) fun x5 =>
      if a1 < x5 then
        (some (1 : Int32))
      else
        (some (0 : Int32)))))
def F_md_planDays (a0 : Nat) (a1 : Int32) (a2 : Int32) (h : Hp) : Option (Int32 × Hp) :=
  ck h a0 13 (bn (pI h a0 13 0 (0 : Int32)) fun h1 =>
  bn (F_md_isDrinker a0 a1 h1) fun x4 =>
  bn (F_md_refusesDays a0 x4 a2 h1) fun x6 =>
  if (0 : Int32) < x6 then
    (bd (F_md_refused a0 x6 h1) fun x8 h9 =>
    some (x8, h9))
  else
    (bd (F_md_plans a0 a2 (0 : Int32) h1) fun x11 h12 =>
    bn (if x11 = (-2 : Int32) then
        (some (-2 : Int32))
      else
        (bn (gR h12 a0 13 23) fun x13 =>
        bn (aI h12 100 x13 a1) fun x15 =>
        some x15)) fun q17 =>
    bd (F_md_good a0 q17 h12) fun x19 h20 =>
    some (x19, h20)))
def F_md_planHouse (a0 : Nat) (a1 : Int32) (a2 : Int32) (h : Hp) : Option (Int32 × Hp) :=
  ck h a0 13 (bn (pI h a0 13 0 (0 : Int32)) fun h1 =>
  bn (F_md_isDrinker a0 a1 h1) fun x4 =>
  bn (F_md_refusesDays a0 x4 a2 h1) fun x6 =>
  if (0 : Int32) < x6 then
    (bd (F_md_refused a0 x6 h1) fun x8 h9 =>
    some (x8, h9))
  else
    (bd (F_md_plans a0 a2 (0 : Int32) h1) fun x11 h12 =>
    bn (if x11 = (-2 : Int32) then
        (some (-2 : Int32))
      else
        (bn (gR h12 a0 13 24) fun x13 =>
        bn (aI h12 100 x13 a1) fun x15 =>
        some x15)) fun q17 =>
    bd (F_md_good a0 q17 h12) fun x19 h20 =>
    some (x19, h20)))
def F_md_feasts (a0 : Nat) (a1 : Int32) (h : Hp) : Option (Int32 × Hp) :=
  ck h a0 13 (bn (pI h a0 13 0 (0 : Int32)) fun h1 =>
  bn (gQ h1 a0 13 3) fun x3 =>
  bn (if x3 = none then
      (some (0 : Int32))
    else
      (some (1 : Int32))) fun q5 =>
  bn (F_md_refusesDays a0 q5 a1 h1) fun x7 =>
  if (0 : Int32) < x7 then
    (bd (F_md_refused a0 x7 h1) fun x9 h10 =>
    some (x9, h10))
  else
    (bd (F_md_plans a0 a1 (1 : Int32) h1) fun x12 h13 =>
    bd (F_md_good a0 x12 h13) fun x15 h16 =>
    some (x15, h16)))
def F_md_feastHouse (a0 : Nat) (a1 : Int32) (a2 : Int32) (h : Hp) : Option (Int32 × Hp) :=
  ck h a0 13 (bn (pI h a0 13 0 (0 : Int32)) fun h1 =>
  bn (F_md_isDrinker a0 a1 h1) fun x4 =>
  bn (F_md_refusesDays a0 x4 a2 h1) fun x6 =>
  if (0 : Int32) < x6 then
    (bd (F_md_refused a0 x6 h1) fun x8 h9 =>
    some (x8, h9))
  else
    (bd (F_md_plans a0 a2 (1 : Int32) h1) fun x11 h12 =>
    bn (if x11 = (-2 : Int32) then
        (some (-2 : Int32))
      else
        (bn (gR h12 a0 13 24) fun x13 =>
        bn (aI h12 100 x13 a1) fun x15 =>
        some x15)) fun q17 =>
    bd (F_md_good a0 q17 h12) fun x19 h20 =>
    some (x19, h20)))
def B_md_wrong_7 (l0 : Nat) (h : Hp) (s : Int32) : Option ((Int32) ⊕ ((Unit) ⊕ Int32)) :=
  bn (gR h l0 13 3) fun x3 =>
  bn (gI h x3 12 7) fun x5 =>
  if s < x5 then
    (bn (gR h l0 13 3) fun x7 =>
    bn (gR h x7 12 25) fun x9 =>
    bn (aI h 100 x9 s) fun x11 =>
    bn (F_md_heightOf l0 x11 h) fun x14 =>
    bn (gR h l0 13 3) fun x15 =>
    bn (gR h x15 12 26) fun x17 =>
    bn (aI h 100 x17 s) fun x19 =>
    if x14 = x19 then
      (some (.inl (s + (1 : Int32))))
    else
      (some (.inr (.inr s))))
  else
    (some (.inr (.inl ())))
def F_md_wrong (a0 : Nat) (a1 : Int32) (h : Hp) : Option (Int32 × Hp) :=
  ck h a0 13 (bn (F_md_asTold a0 a1 h) fun h2 =>
  bn (lq (B_md_wrong_7 a0 h2) FU (0 : Int32)) fun x21 =>
  ei x21 (fun q23 =>
  some ((-2 : Int32), h2))
  (fun x24 => some (x24, h2)))
def B_md_fitting_30 (l0 : Nat) (l1 : Int32) (l2 : Int32) (s : Int32) (h : Hp) : Option (((Int32) ⊕ (Unit)) × Hp) :=
  if s < (3 : Int32) then
    (bn (gR h l0 13 25) fun x11 =>
    bn (sI h 100 x11 s (0 : Int32)) fun h13 =>
    some (.inl (s + (1 : Int32)), h13))
  else
    (some (.inr (), h))
def B_md_fitting_119 (l0 : Nat) (l1 : Int32) (l2 : Int32) (l3 : Int32) (s : Int32) (h : Hp) : Option (((Int32) ⊕ (Unit)) × Hp) :=
  bn (gR h l0 13 3) fun x40 =>
  bn (gI h x40 12 4) fun x42 =>
  if s < x42 then
    (bn (gR h l0 13 25) fun x44 =>
    bn (aI h 100 x44 s) fun x46 =>
    bn (F_md_bit l3 s) fun x49 =>
    if x49 = (0 : Int32) then
      (bn (sI h 100 x44 s (x46 + (0 : Int32))) fun h50 =>
      some (.inl (s + (1 : Int32)), h50))
    else
      (bn (sI h 100 x44 s (x46 + (1 : Int32))) fun h52 =>
      some (.inl (s + (1 : Int32)), h52)))
  else
    (some (.inr (), h))
def B_md_fitting_50 (l0 : Nat) (l1 : Int32) (s : Int32 × Int32) (h : Hp) : Option (((Int32 × Int32) ⊕ (Int32)) × Hp) :=
  bn (gR h l0 13 3) fun x18 =>
  bn (gI h x18 12 4) fun x20 =>
  if s.2 < ((1 : Int32) <<< (x20 &&& 31)) then
    (bd (F_md_wrong l0 s.2 h) fun x23 h24 =>
    if x23 = (-2 : Int32) then
      (bn (gI h24 l0 13 26) fun x25 =>
      bn (if x25 = l1 then
          (some s.2)
        else
          (some s.1)) fun q27 =>
      bn (gI h24 l0 13 26) fun x28 =>
      bn (pI h24 l0 13 26 (x28 + (1 : Int32))) fun h30 =>
      bn (gI h30 l0 13 27) fun x32 =>
      bn (pI h30 l0 13 27 (x32 ||| s.2)) fun h34 =>
      bn (gI h34 l0 13 28) fun x36 =>
      bn (pI h34 l0 13 28 (x36 &&& s.2)) fun h38 =>
      bd (lp (B_md_fitting_119 l0 l1 q27 s.2) FU (0 : Int32) h38) fun x54 h56 =>
      some (.inl (q27, s.2 + (1 : Int32)), h56))
    else
      (some (.inl (s.1, s.2 + (1 : Int32)), h24)))
  else
    (some (.inr s.1, h))
def F_md_fitting (a0 : Nat) (a1 : Int32) (h : Hp) : Option (Int32 × Hp) :=
  ck h a0 13 (bn (pI h a0 13 26 (0 : Int32)) fun h1 =>
  bn (pI h1 a0 13 27 (0 : Int32)) fun h3 =>
  bn (gR h3 a0 13 3) fun x5 =>
  bn (gI h3 x5 12 4) fun x7 =>
  bn (pI h3 a0 13 28 (((1 : Int32) <<< (x7 &&& 31)) - (1 : Int32))) fun h9 =>
  bd (lp (B_md_fitting_30 a0 a1 (-2 : Int32)) FU (0 : Int32) h9) fun x15 h17 =>
  bd (lp (B_md_fitting_50 a0 a1) FU ((-2 : Int32), (0 : Int32)) h17) fun x57 h59 =>
  bn (gI h59 a0 13 26) fun x60 =>
  if x60 = (0 : Int32) then
    (bn (pI h59 a0 13 28 (0 : Int32)) fun h62 =>
    some (x57, h62))
  else
    (some (x57, h59)))
def F_md_sets (a0 : Nat) (h : Hp) : Option (Int32 × Hp) :=
  ck h a0 13 (bn (pI h a0 13 0 (0 : Int32)) fun h1 =>
  bn (gQ h1 a0 13 3) fun x3 =>
  if x3 = none then
    (bd (F_md_refused a0 (1 : Int32) h1) fun x6 h7 =>
    some (x6, h7))
  else
    (bd (F_md_fitting a0 (-1 : Int32) h1) fun x9 h10 =>
    bn (gI h10 a0 13 26) fun x11 =>
    bd (F_md_good a0 x11 h10) fun x14 h15 =>
    some (x14, h15)))
def F_md_setAt (a0 : Nat) (a1 : Int32) (h : Hp) : Option (Int32 × Hp) :=
  ck h a0 13 (bn (pI h a0 13 0 (0 : Int32)) fun h1 =>
  bn (gQ h1 a0 13 3) fun x3 =>
  bn (if x3 = none then
      (some (Sum.inl ()))
    else
      (if a1 < (0 : Int32) then
        (some (Sum.inl ()))
      else
        (bd (F_md_fitting a0 a1 h1) fun x6 h7 =>
        if x6 = (-2 : Int32) then
          (bd (F_md_refused a0 (1 : Int32) h7) fun x9 h10 =>
          some (Sum.inr (x9, h10)))
        else
          (bd (F_md_good a0 x6 h7) fun x12 h13 =>
          some (Sum.inr (x12, h13)))))) fun x19 =>
  ei x19 (fun z15 =>
  bd (F_md_refused a0 (1 : Int32) h1) fun x17 h18 =>
  some (x17, h18))
  (fun z => some z))
def F_md_could (a0 : Nat) (h : Hp) : Option (Int32 × Hp) :=
  ck h a0 13 (bn (pI h a0 13 0 (0 : Int32)) fun h1 =>
  bn (gQ h1 a0 13 3) fun x3 =>
  if x3 = none then
    (bd (F_md_refused a0 (1 : Int32) h1) fun x6 h7 =>
    some (x6, h7))
  else
    (bd (F_md_fitting a0 (-1 : Int32) h1) fun x9 h10 =>
    bn (gI h10 a0 13 27) fun x11 =>
    bd (F_md_good a0 x11 h10) fun x14 h15 =>
    some (x14, h15)))
def F_md_surely (a0 : Nat) (h : Hp) : Option (Int32 × Hp) :=
  ck h a0 13 (bn (pI h a0 13 0 (0 : Int32)) fun h1 =>
  bn (gQ h1 a0 13 3) fun x3 =>
  if x3 = none then
    (bd (F_md_refused a0 (1 : Int32) h1) fun x6 h7 =>
    some (x6, h7))
  else
    (bd (F_md_fitting a0 (-1 : Int32) h1) fun x9 h10 =>
    bn (gI h10 a0 13 28) fun x11 =>
    bd (F_md_good a0 x11 h10) fun x14 h15 =>
    some (x14, h15)))
def B_md_toAsk_17 (l0 : Nat) (s : Int32 × Int32) (h : Hp) : Option (((Int32 × Int32) ⊕ (Int32)) × Hp) :=
  bn (gR h l0 13 3) fun x6 =>
  bn (gI h x6 12 4) fun x8 =>
  if s.2 < x8 then
    (bn (gI h l0 13 26) fun x10 =>
    if (0 : Int32) < x10 then
      (bn (gR h l0 13 25) fun x12 =>
      bn (aI h 100 x12 s.2) fun x14 =>
      bn (gI h l0 13 26) fun x16 =>
      bn (gR h l0 13 25) fun x18 =>
      bn (aI h 100 x18 s.2) fun x20 =>
      bn (if (x16 - x20) < x14 then
          (bn (gR h l0 13 25) fun x22 =>
          bn (aI h 100 x22 s.2) fun x24 =>
          some x24)
        else
          (bn (gI h l0 13 26) fun x26 =>
          bn (gR h l0 13 25) fun x28 =>
          bn (aI h 100 x28 s.2) fun x30 =>
          some (x26 - x30))) fun q32 =>
      if s.1 = (-2 : Int32) then
        (bn (pI h l0 13 29 q32) fun h33 =>
        some (.inl (s.2, s.2 + (1 : Int32)), h33))
      else
        (bn (gI h l0 13 29) fun x35 =>
        if q32 < x35 then
          (bn (pI h l0 13 29 q32) fun h37 =>
          some (.inl (s.2, s.2 + (1 : Int32)), h37))
        else
          (some (.inl (s.1, s.2 + (1 : Int32)), h))))
    else
      (some (.inr s.1, h)))
  else
    (some (.inr s.1, h))
def F_md_toAsk (a0 : Nat) (h : Hp) : Option (Int32 × Hp) :=
  ck h a0 13 (bd (F_md_fitting a0 (-1 : Int32) h) fun x2 h3 =>
  bn (pI h3 a0 13 29 (-2 : Int32)) fun h4 =>
  bd (lp (B_md_toAsk_17 a0) FU ((-2 : Int32), (0 : Int32)) h4) fun x39 h41 =>
  some (x39, h41))
def F_md_ask (a0 : Nat) (h : Hp) : Option (Int32 × Hp) :=
  ck h a0 13 (bn (pI h a0 13 0 (0 : Int32)) fun h1 =>
  bn (gQ h1 a0 13 3) fun x3 =>
  if x3 = none then
    (bd (F_md_refused a0 (1 : Int32) h1) fun x6 h7 =>
    some (x6, h7))
  else
    (bd (F_md_toAsk a0 h1) fun x9 h10 =>
    bd (F_md_good a0 x9 h10) fun x12 h13 =>
    some (x12, h13)))
def F_md_askLeaves (a0 : Nat) (h : Hp) : Option (Int32 × Hp) :=
  ck h a0 13 (bn (pI h a0 13 0 (0 : Int32)) fun h1 =>
  bn (gQ h1 a0 13 3) fun x3 =>
  if x3 = none then
    (bd (F_md_refused a0 (1 : Int32) h1) fun x6 h7 =>
    some (x6, h7))
  else
    (bd (F_md_toAsk a0 h1) fun x9 h10 =>
    bn (gI h10 a0 13 29) fun x11 =>
    bd (F_md_good a0 x11 h10) fun x14 h15 =>
    some (x14, h15)))
def F_md_judge (a0 : Nat) (h : Hp) : Option (Int32 × Hp) :=
  ck h a0 13 (bn (pI h a0 13 0 (0 : Int32)) fun h1 =>
  bn (gQ h1 a0 13 3) fun x3 =>
  if x3 = none then
    (bd (F_md_refused a0 (1 : Int32) h1) fun x6 h7 =>
    some (x6, h7))
  else
    (bd (F_md_wrong a0 (0 : Int32) h1) fun x9 h10 =>
    bd (F_md_good a0 x9 h10) fun x12 h13 =>
    some (x12, h13)))
def F_md_choices (a0 : Nat) (a1 : Int32) (h : Hp) : Option Int32 :=
  ck h a0 13 (bn (rm32 a1 (2 : Int32)) fun x1 =>
  if x1 = (0 : Int32) then
    (bn (gR h a0 13 3) fun x3 =>
    bn (gI h x3 12 2) fun x5 =>
    some (x5 + (1 : Int32)))
  else
    (bn (gR h a0 13 3) fun x7 =>
    bn (gI h x7 12 1) fun x9 =>
    some x9))
def B_md_afloat_6 (l0 : Nat) (l1 : Int32) (s : Int32) (h : Hp) : Option (((Int32) ⊕ (Unit)) × Hp) :=
  if s < l1 then
    (bn (rm32 s (2 : Int32)) fun x3 =>
    if x3 = (1 : Int32) then
      (bn (gR h l0 13 16) fun x5 =>
      bn (gR h l0 13 31) fun x7 =>
      bn (aI h 100 x7 s) fun x9 =>
      bn (F_md_cell x9 (3 : Int32)) fun x12 =>
      bn (aI h 100 x5 x12) fun x13 =>
      bn (sI h 100 x5 x12 (x13 + (1 : Int32))) fun h15 =>
      some (.inl (s + (1 : Int32)), h15))
    else
      (bn (gR h l0 13 31) fun x17 =>
      bn (aI h 100 x17 s) fun x19 =>
      if (0 : Int32) < x19 then
        (bn (gR h l0 13 16) fun x21 =>
        bn (aI h 100 x21 (28 : Int32)) fun x23 =>
        bn (gR h l0 13 31) fun x25 =>
        bn (aI h 100 x25 s) fun x27 =>
        bn (sI h 100 x21 (28 : Int32) (x23 ||| ((1 : Int32) <<< ((x27 - (1 : Int32)) &&& 31)))) fun h29 =>
        some (.inl (s + (1 : Int32)), h29))
      else
        (some (.inl (s + (1 : Int32)), h))))
  else
    (some (.inr (), h))
def F_md_afloat (a0 : Nat) (a1 : Int32) (h : Hp) : Option (Int32 × Hp) :=
  ck h a0 13 (bn (F_md_works a0 h) fun h2 =>
  bd (lp (B_md_afloat_6 a0 a1) FU (0 : Int32) h2) fun x31 h33 =>
  bn (gR h33 a0 13 3) fun x34 =>
  bn (gI h33 x34 12 1) fun x36 =>
  bn (F_md_underNow a0 h33) fun x39 =>
  bn (F_md_bits x39) fun x41 =>
  some (x36 - x41, h33))
def B_md_argues_4 (l0 : Nat) (l1 : Int32) (h : Hp) (s : Int32 × Int32) : Option ((Int32 × Int32) ⊕ (Int32)) :=
  if s.2 < l1 then
    (bn (F_md_choices l0 s.2 h) fun x2 =>
    some (.inl (s.1 * x2, s.2 + (1 : Int32))))
  else
    (some (.inr s.1))
def B_md_argues_38 (l0 : Nat) (l1 : Int32) (l2 : Int32) (l3 : Int32) (s : Int32 × Int32) (h : Hp) : Option (((Int32 × Int32) ⊕ (Unit)) × Hp) :=
  if s.2 < (0 : Int32) then
    (some (.inr (), h))
  else
    (bn (gR h l0 13 31) fun x5 =>
    bn (F_md_choices l0 s.2 h) fun x8 =>
    bn (rm32 s.1 x8) fun x9 =>
    bn (sI h 100 x5 s.2 x9) fun h11 =>
    bn (F_md_choices l0 s.2 h11) fun x14 =>
    bn (dv s.1 x14) fun x15 =>
    some (.inl (x15, s.2 + (-1 : Int32)), h11))
def B_md_argues_25 (l0 : Nat) (l1 : Int32) (l2 : Int32) (s : Int32) (h : Hp) : Option (((Int32) ⊕ (Unit)) × Hp) :=
  if s < l2 then
    (bd (lp (B_md_argues_38 l0 l1 l2 s) FU (s, l1 - (1 : Int32)) h) fun x17 h19 =>
    bn (gR h19 l0 13 30) fun x20 =>
    bd (F_md_afloat l0 l1 h19) fun x23 h24 =>
    bn (sI h24 100 x20 s x23) fun h25 =>
    some (.inl (s + (1 : Int32)), h25))
  else
    (some (.inr (), h))
def B_md_argues_136 (l0 : Nat) (l2 : Int32) (l3 : Int32) (l4 : Int32) (h : Hp) (s : Int32 × Int32) : Option ((Int32 × Int32) ⊕ (Int32)) :=
  bn (F_md_choices l0 l3 h) fun x41 =>
  if s.2 < x41 then
    (bn (gR h l0 13 30) fun x42 =>
    bn (F_md_choices l0 l3 h) fun x45 =>
    bn (aI h 100 x42 ((l4 * x45) + s.2)) fun x46 =>
    bn (rm32 l3 (2 : Int32)) fun x48 =>
    if x48 = (0 : Int32) then
      (if x46 < s.1 then
        (some (.inl (x46, s.2 + (1 : Int32))))
      else
        (some (.inl (s.1, s.2 + (1 : Int32)))))
    else
      (if s.1 < x46 then
        (some (.inl (x46, s.2 + (1 : Int32))))
      else
        (some (.inl (s.1, s.2 + (1 : Int32))))))
  else
    (some (.inr s.1))
def B_md_argues_112 (l0 : Nat) (l2 : Int32) (l3 : Int32) (s : Int32) (h : Hp) : Option (((Int32) ⊕ (Unit)) × Hp) :=
  if s < l2 then
    (bn (gR h l0 13 30) fun x34 =>
    bn (F_md_choices l0 l3 h) fun x37 =>
    bn (aI h 100 x34 (s * x37)) fun x38 =>
    bn (lq (B_md_argues_136 l0 l2 l3 s h) FU (x38, (1 : Int32))) fun x50 =>
    bn (gR h l0 13 30) fun x52 =>
    bn (sI h 100 x52 s x50) fun h54 =>
    some (.inl (s + (1 : Int32)), h54))
  else
    (some (.inr (), h))
def B_md_argues_97 (l0 : Nat) (s : Int32 × Int32) (h : Hp) : Option (((Int32 × Int32) ⊕ (Unit)) × Hp) :=
  if (0 : Int32) < s.2 then
    (bn (F_md_choices l0 s.2 h) fun x31 =>
    bn (dv s.1 x31) fun x32 =>
    bd (lp (B_md_argues_112 l0 x32 s.2) FU (0 : Int32) h) fun x56 h58 =>
    some (.inl (x32, s.2 + (-1 : Int32)), h58))
  else
    (some (.inr (), h))
def F_md_argues (a0 : Nat) (a1 : Int32) (h : Hp) : Option Hp :=
  ck h a0 13 (bn (lq (B_md_argues_4 a0 a1 h) FU ((1 : Int32), (0 : Int32))) fun x3 =>
  bd (lp (B_md_argues_25 a0 a1 x3) FU (0 : Int32) h) fun x27 h29 =>
  bd (lp (B_md_argues_97 a0) FU (x3, a1 - (1 : Int32)) h29) fun x59 h61 =>
  some h61)
def B_md_valueOf_14 (l0 : Nat) (l1 : Int32) (h : Hp) (s : Int32 × Int32) : Option ((Int32 × Int32) ⊕ (Int32)) :=
  if (0 : Int32) < l1 then
    (bn (F_md_choices l0 (0 : Int32) h) fun x8 =>
    if s.2 < x8 then
      (bn (gR h l0 13 30) fun x9 =>
      bn (aI h 100 x9 s.2) fun x11 =>
      if x11 < s.1 then
        (bn (gR h l0 13 30) fun x13 =>
        bn (aI h 100 x13 s.2) fun x15 =>
        some (.inl (x15, s.2 + (1 : Int32))))
      else
        (some (.inl (s.1, s.2 + (1 : Int32)))))
    else
      (some (.inr s.1)))
  else
    (some (.inr s.1))
def F_md_valueOf (a0 : Nat) (a1 : Int32) (h : Hp) : Option (Int32 × Hp) :=
  ck h a0 13 (bn (F_md_argues a0 a1 h) fun h2 =>
  bn (gR h2 a0 13 30) fun x3 =>
  bn (aI h2 100 x3 (0 : Int32)) fun x5 =>
  bn (lq (B_md_valueOf_14 a0 a1 h2) FU (x5, (1 : Int32))) fun x17 =>
  some (x17, h2))
def F_md_value (a0 : Nat) (a1 : Int32) (h : Hp) : Option (Int32 × Hp) :=
  ck h a0 13 (bn (pI h a0 13 0 (0 : Int32)) fun h1 =>
  bn (gQ h1 a0 13 3) fun x3 =>
  if x3 = none then
    (bd (F_md_refused a0 (1 : Int32) h1) fun x6 h7 =>
    some (x6, h7))
  else
    (bn (F_md_in a1 (0 : Int32) (4 : Int32)) fun x9 =>
    if x9 = (0 : Int32) then
      (bd (F_md_refused a0 (2 : Int32) h1) fun x11 h12 =>
      some (x11, h12))
    else
      (bd (F_md_valueOf a0 a1 h1) fun x14 h15 =>
      bd (F_md_good a0 x14 h15) fun x17 h18 =>
      some (x17, h18))))
def B_md_kingCuts_41 (l0 : Nat) (l2 : Int32) (h : Hp) (s : Int32) : Option ((Int32) ⊕ (Int32)) :=
  bn (gR h l0 13 30) fun x16 =>
  bn (aI h 100 x16 s) fun x18 =>
  if x18 = l2 then
    (some (.inr s))
  else
    (some (.inl (s + (1 : Int32))))
def F_md_kingCuts (a0 : Nat) (a1 : Int32) (h : Hp) : Option (Int32 × Hp) :=
  ck h a0 13 (bn (pI h a0 13 0 (0 : Int32)) fun h1 =>
  bn (gQ h1 a0 13 3) fun x3 =>
  if x3 = none then
    (bd (F_md_refused a0 (1 : Int32) h1) fun x6 h7 =>
    some (x6, h7))
  else
    (bn (F_md_in a1 (1 : Int32) (4 : Int32)) fun x9 =>
    if x9 = (0 : Int32) then
      (bd (F_md_refused a0 (2 : Int32) h1) fun x11 h12 =>
      some (x11, h12))
    else
      (bd (F_md_valueOf a0 a1 h1) fun x14 h15 =>
      bn (lq (B_md_kingCuts_41 a0 x14 h15) FU (0 : Int32)) fun x20 =>
      bn (if x20 = (0 : Int32) then
          (some (-2 : Int32))
        else
          (some (x20 - (1 : Int32)))) fun q22 =>
      bd (F_md_good a0 q22 h15) fun x24 h25 =>
      some (x24, h25))))
def F_md_refusesMice (a0 : Nat) (a1 : Int32) (a2 : Int32) (h : Hp) : Option Int32 :=
  ck h a0 13 (bn (F_md_isHouse a0 a1 h) fun x2 =>
  if x2 = (0 : Int32) then
    (some (1 : Int32))
  else
    (bn (F_md_in a2 (0 : Int32) (4 : Int32)) fun x4 =>
    if x4 = (0 : Int32) then
      (some (2 : Int32))
    else
      (bn (gR h a0 13 3) fun x5 =>
      bn (gR h x5 12 9) fun x7 =>
      bn (aI h 100 x7 a1) fun x9 =>
      if x9 = (1 : Int32) then
        (some (5 : Int32))
      else
        (some (0 : Int32)))))
def B_md_loses_4 (l0 : Nat) (l1 : Int32) (h : Hp) (s : Int32 × Int32) : Option ((Int32 × Int32) ⊕ (Int32)) :=
  if s.2 < (5 : Int32) then
    (bn (gR h l0 13 16) fun x1 =>
    bn (F_md_cell l1 s.2) fun x4 =>
    bn (aI h 100 x1 x4) fun x5 =>
    if (0 : Int32) < x5 then
      (if s.1 = (-1 : Int32) then
        (some (.inl (s.2, s.2 + (1 : Int32))))
      else
        (bn (F_md_lifts s.2) fun x8 =>
        bn (F_md_lifts s.1) fun x10 =>
        if x8 < x10 then
          (some (.inl (s.2, s.2 + (1 : Int32))))
        else
          (some (.inl (s.1, s.2 + (1 : Int32))))))
    else
      (some (.inl (s.1, s.2 + (1 : Int32)))))
  else
    (some (.inr s.1))
def F_md_loses (a0 : Nat) (a1 : Int32) (h : Hp) : Option (Int32 × Hp) :=
  ck h a0 13 (bn (lq (B_md_loses_4 a0 a1 h) FU ((-1 : Int32), (0 : Int32))) fun x11 =>
  if x11 = (-1 : Int32) then
    (some ((0 : Int32), h))
  else
    (bn (gR h a0 13 16) fun x13 =>
    bn (F_md_cell a1 x11) fun x16 =>
    bn (aI h 100 x13 x16) fun x17 =>
    bn (sI h 100 x13 x16 (x17 - (1 : Int32))) fun h19 =>
    some ((1 : Int32), h19)))
def B_md_miceAll_22 (l0 : Nat) (l1 : Int32) (l2 : Int32) (s : Int32) (h : Hp) : Option (((Int32) ⊕ (Unit)) × Hp) :=
  if s < l2 then
    (bn (gL h l0 13 32) fun x9 =>
    bn (pL h l0 13 32 (x9 * (100 : Int64))) fun h11 =>
    some (.inl (s + (1 : Int32)), h11))
  else
    (some (.inr (), h))
def B_md_miceAll_67 (l0 : Nat) (l1 : Int32) (l2 : Int32) (l3 : Int32) (s : Int64 × Int32 × Int32) (h : Hp) : Option (((Int64 × Int32 × Int32) ⊕ (Int64 × Int32)) × Hp) :=
  if s.2.2 < l2 then
    (bn (F_md_softens l0 h) fun h19 =>
    bn (F_md_bit l3 s.2.2) fun x21 =>
    bn (if x21 = (0 : Int32) then
        (bn (gR h19 l0 13 3) fun x22 =>
        bn (gI h19 x22 12 0) fun x24 =>
        some (((100 : Int32) - x24).toInt64))
      else
        (bn (gR h19 l0 13 3) fun x26 =>
        bn (gI h19 x26 12 0) fun x28 =>
        some x28.toInt64)) fun q30 =>
    bn (F_md_bit l3 s.2.2) fun x32 =>
    if x32 = (0 : Int32) then
      (some (.inl (s.1 * q30, s.2.1, s.2.2 + (1 : Int32)), h19))
    else
      (bd (F_md_loses l0 l1 h19) fun x34 h35 =>
      if x34 = (0 : Int32) then
        (some (.inl (s.1 * q30, s.2.1, s.2.2 + (1 : Int32)), h35))
      else
        (some (.inl (s.1 * q30, s.2.1 + (1 : Int32), s.2.2 + (1 : Int32)), h35))))
  else
    (some (.inr (s.1, s.2.1), h))
def B_md_miceAll_47 (l0 : Nat) (l1 : Int32) (l2 : Int32) (s : Int32) (h : Hp) : Option (((Int32) ⊕ (Unit)) × Hp) :=
  if s < ((1 : Int32) <<< (l2 &&& 31)) then
    (bn (F_md_works l0 h) fun h17 =>
    bd (lp (B_md_miceAll_67 l0 l1 l2 s) FU ((1 : Int64), (0 : Int32), (0 : Int32)) h17) fun x36 h38 =>
    bn (gL h38 l0 13 33) fun x39 =>
    bn (F_md_netOf l0 l1 h38) fun x42 =>
    bn (if x42 < (0 : Int32) then
        (some (0 : Int64))
      else
        (some x36.1)) fun q43 =>
    bn (pL h38 l0 13 33 (x39 + q43)) fun h44 =>
    bn (gL h44 l0 13 34) fun x46 =>
    bn (F_md_netOf l0 l1 h44) fun x49 =>
    bn (pL h44 l0 13 34 (x46 + (x36.1 * (((1000 : Int32) + x49).toInt64)))) fun h50 =>
    bn (gL h50 l0 13 35) fun x52 =>
    bn (pL h50 l0 13 35 (x52 + (x36.1 * x36.2.toInt64))) fun h54 =>
    some (.inl (s + (1 : Int32)), h54))
  else
    (some (.inr (), h))
def F_md_miceAll (a0 : Nat) (a1 : Int32) (a2 : Int32) (h : Hp) : Option Hp :=
  ck h a0 13 (bn (pL h a0 13 32 (1 : Int64)) fun h1 =>
  bn (pL h1 a0 13 33 (0 : Int64)) fun h3 =>
  bn (pL h3 a0 13 34 (0 : Int64)) fun h5 =>
  bn (pL h5 a0 13 35 (0 : Int64)) fun h7 =>
  bd (lp (B_md_miceAll_22 a0 a1 a2) FU (0 : Int32) h7) fun x13 h15 =>
  bd (lp (B_md_miceAll_47 a0 a1 a2) FU (0 : Int32) h15) fun x56 h58 =>
  some h58)
def B_md_common_6 (s : Int64 × Int64) : Option ((Int64 × Int64) ⊕ (Int64)) :=
  if (lg_cmp s.2 (0 : Int64)) = (0 : Int32) then
    (some (.inr s.1))
  else
    (bn (rm64 s.1 s.2) fun x1 =>
    some (.inl (s.2, x1)))
def F_md_common (a0 : Int64) (a1 : Int64) : Option Int64 :=
  bn (lq (B_md_common_6) FU (a0, a1)) fun x3 =>
  some x3
def F_md_fraction (a0 : Nat) (a1 : Int64) (a2 : Int64) (a3 : Int32) (h : Hp) : Option (Int64 × Hp) :=
  ck h a0 13 (bd (F_md_good a0 (0 : Int32) h) fun x2 h3 =>
  bn (if a3 = (0 : Int32) then
      (some a1)
    else
      (some a2)) fun q4 =>
  bn (F_md_common a1 a2) fun x6 =>
  bn (dv64 q4 x6) fun x7 =>
  some (x7, h3))
def F_md_dry (a0 : Nat) (a1 : Int32) (a2 : Int32) (a3 : Int32) (h : Hp) : Option (Int64 × Hp) :=
  ck h a0 13 (bn (pI h a0 13 0 (0 : Int32)) fun h1 =>
  bn (F_md_refusesMice a0 a1 a2 h1) fun x4 =>
  if (0 : Int32) < x4 then
    (bd (F_md_refused a0 x4 h1) fun x6 h7 =>
    some (x6.toInt64, h7))
  else
    (bn (F_md_miceAll a0 a1 a2 h1) fun h9 =>
    bn (gL h9 a0 13 33) fun x10 =>
    bn (gL h9 a0 13 32) fun x12 =>
    bd (F_md_fraction a0 x10 x12 a3 h9) fun x15 h16 =>
    some (x15, h16)))
def F_md_mean (a0 : Nat) (a1 : Int32) (a2 : Int32) (a3 : Int32) (h : Hp) : Option (Int64 × Hp) :=
  ck h a0 13 (bn (pI h a0 13 0 (0 : Int32)) fun h1 =>
  bn (F_md_refusesMice a0 a1 a2 h1) fun x4 =>
  if (0 : Int32) < x4 then
    (bd (F_md_refused a0 x4 h1) fun x6 h7 =>
    some (x6.toInt64, h7))
  else
    (bn (F_md_miceAll a0 a1 a2 h1) fun h9 =>
    bn (gL h9 a0 13 34) fun x10 =>
    bn (gL h9 a0 13 32) fun x12 =>
    bd (F_md_fraction a0 x10 x12 a3 h9) fun x15 h16 =>
    some (x15, h16)))
def B_md_safest_43 (l0 : Nat) (l1 : Int32) (s : Int32 × Int64 × Int32) (h : Hp) : Option (((Int32 × Int64 × Int32) ⊕ (Int32)) × Hp) :=
  bn (gR h l0 13 3) fun x13 =>
  bn (gI h x13 12 1) fun x15 =>
  if s.2.2 < x15 then
    (bn (gR h l0 13 3) fun x17 =>
    bn (gR h x17 12 9) fun x19 =>
    bn (aI h 100 x19 s.2.2) fun x21 =>
    if x21 = (1 : Int32) then
      (some (.inl (s.1, s.2.1, s.2.2 + (1 : Int32)), h))
    else
      (bn (F_md_miceAll l0 s.2.2 l1 h) fun h24 =>
      bn (gL h24 l0 13 33) fun x25 =>
      if (0 : Int32) < (lg_cmp x25 s.2.1) then
        (bn (gL h24 l0 13 33) fun x27 =>
        some (.inl (s.2.2, x27, s.2.2 + (1 : Int32)), h24))
      else
        (some (.inl (s.1, s.2.1, s.2.2 + (1 : Int32)), h24))))
  else
    (some (.inr s.1, h))
def F_md_safest (a0 : Nat) (a1 : Int32) (h : Hp) : Option (Int32 × Hp) :=
  ck h a0 13 (bn (pI h a0 13 0 (0 : Int32)) fun h1 =>
  bn (gQ h1 a0 13 3) fun x3 =>
  if x3 = none then
    (bd (F_md_refused a0 (1 : Int32) h1) fun x6 h7 =>
    some (x6, h7))
  else
    (bn (F_md_in a1 (0 : Int32) (4 : Int32)) fun x9 =>
    if x9 = (0 : Int32) then
      (bd (F_md_refused a0 (2 : Int32) h1) fun x11 h12 =>
      some (x11, h12))
    else
      (bd (lp (B_md_safest_43 a0 a1) FU ((-2 : Int32), (-1 : Int64), (0 : Int32)) h1) fun x29 h31 =>
      bd (F_md_good a0 x29 h31) fun x33 h34 =>
      some (x33, h34))))
def F_md_losses (a0 : Nat) (a1 : Int32) (a2 : Int32) (a3 : Int32) (h : Hp) : Option (Int64 × Hp) :=
  ck h a0 13 (bn (pI h a0 13 0 (0 : Int32)) fun h1 =>
  bn (F_md_refusesMice a0 a1 a2 h1) fun x4 =>
  if (0 : Int32) < x4 then
    (bd (F_md_refused a0 x4 h1) fun x6 h7 =>
    some (x6.toInt64, h7))
  else
    (bn (F_md_miceAll a0 a1 a2 h1) fun h9 =>
    bn (gL h9 a0 13 35) fun x10 =>
    bn (gL h9 a0 13 32) fun x12 =>
    bd (F_md_fraction a0 x10 x12 a3 h9) fun x15 h16 =>
    some (x15, h16)))
def F_md_refusesSeed (a0 : Nat) (a1 : Int32) (a2 : Int32) (a3 : Int32) (h : Hp) : Option Int32 :=
  ck h a0 13 (if a1 = (0 : Int32) then
    (some (1 : Int32))
  else
    (bn (F_md_in a2 (0 : Int32) (65536 : Int32)) fun x2 =>
    if x2 = (0 : Int32) then
      (some (2 : Int32))
    else
      (bn (F_md_in a3 (0 : Int32) (20 : Int32)) fun x4 =>
      if x4 = (0 : Int32) then
        (some (2 : Int32))
      else
        (some (0 : Int32)))))
def B_md_aWeek_6 (l0 : Nat) (s : Int32) (h : Hp) : Option (((Int32) ⊕ (Unit)) × Hp) :=
  bn (gR h l0 13 3) fun x3 =>
  bn (gI h x3 12 1) fun x5 =>
  if s < x5 then
    (bn (gR h l0 13 3) fun x7 =>
    bn (gR h x7 12 9) fun x9 =>
    bn (aI h 100 x9 s) fun x11 =>
    if x11 = (1 : Int32) then
      (some (.inl (s + (1 : Int32)), h))
    else
      (bn (gR h l0 13 16) fun x13 =>
      bn (gR h l0 13 16) fun x15 =>
      bn (aI h 100 x15 (30 : Int32)) fun x17 =>
      bn (rm64 (((75 : Int64) * x17.toInt64) + (74 : Int64)) (65537 : Int64)) fun x19 =>
      bn (sI h 100 x13 (30 : Int32) x19.toInt32) fun h21 =>
      bn (gR h21 l0 13 16) fun x23 =>
      bn (aI h21 100 x23 (30 : Int32)) fun x25 =>
      bn (rm32 x25 (100 : Int32)) fun x27 =>
      bn (gR h21 l0 13 3) fun x29 =>
      bn (gI h21 x29 12 0) fun x31 =>
      if x27 < x31 then
        (bd (F_md_loses l0 s h21) fun x34 h35 =>
        if x34 = (0 : Int32) then
          (some (.inl (s + (1 : Int32)), h35))
        else
          (bn (gI h35 l0 13 36) fun x36 =>
          bn (pI h35 l0 13 36 (x36 + (1 : Int32))) fun h38 =>
          some (.inl (s + (1 : Int32)), h38)))
      else
        (some (.inl (s + (1 : Int32)), h21))))
  else
    (some (.inr (), h))
def F_md_aWeek (a0 : Nat) (h : Hp) : Option Hp :=
  ck h a0 13 (bn (F_md_softens a0 h) fun h2 =>
  bd (lp (B_md_aWeek_6 a0) FU (0 : Int32) h2) fun x40 h42 =>
  some h42)
def B_md_weeksAll_34 (l0 : Nat) (l2 : Int32) (s : Int32 × Int32) (h : Hp) : Option (((Int32 × Int32) ⊕ (Int32)) × Hp) :=
  if l2 < s.2 then
    (some (.inr s.1, h))
  else
    (bn (F_md_aWeek l0 h) fun h13 =>
    if s.1 = (-2 : Int32) then
      (bn (F_md_underNow l0 h13) fun x15 =>
      if x15 = (0 : Int32) then
        (some (.inl (s.1, s.2 + (1 : Int32)), h13))
      else
        (some (.inl (s.2, s.2 + (1 : Int32)), h13)))
    else
      (some (.inl (s.1, s.2 + (1 : Int32)), h13)))
def F_md_weeksAll (a0 : Nat) (a1 : Int32) (a2 : Int32) (h : Hp) : Option (Int32 × Hp) :=
  ck h a0 13 (bn (F_md_works a0 h) fun h2 =>
  bn (gR h2 a0 13 16) fun x3 =>
  bn (sI h2 100 x3 (30 : Int32) a1) fun h5 =>
  bn (pI h5 a0 13 36 (0 : Int32)) fun h7 =>
  bn (F_md_underNow a0 h7) fun x10 =>
  bn (if x10 = (0 : Int32) then
      (some (-2 : Int32))
    else
      (some (0 : Int32))) fun q11 =>
  bd (lp (B_md_weeksAll_34 a0 a2) FU (q11, (1 : Int32)) h7) fun x16 h18 =>
  some (x16, h18))
def F_md_weeks (a0 : Nat) (a1 : Int32) (a2 : Int32) (a3 : Int32) (h : Hp) : Option (Int32 × Hp) :=
  ck h a0 13 (bn (pI h a0 13 0 (0 : Int32)) fun h1 =>
  bn (F_md_isHouse a0 a1 h1) fun x4 =>
  bn (F_md_refusesSeed a0 x4 a2 a3 h1) fun x6 =>
  if (0 : Int32) < x6 then
    (bd (F_md_refused a0 x6 h1) fun x8 h9 =>
    some (x8, h9))
  else
    (bd (F_md_weeksAll a0 a2 a3 h1) fun x11 h12 =>
    bn (F_md_heightOf a0 a1 h12) fun x14 =>
    bd (F_md_good a0 ((1000 : Int32) + x14) h12) fun x16 h17 =>
    some (x16, h17)))
def F_md_eaten (a0 : Nat) (a1 : Int32) (a2 : Int32) (h : Hp) : Option (Int32 × Hp) :=
  ck h a0 13 (bn (pI h a0 13 0 (0 : Int32)) fun h1 =>
  bn (gQ h1 a0 13 3) fun x3 =>
  bn (if x3 = none then
      (some (0 : Int32))
    else
      (some (1 : Int32))) fun q5 =>
  bn (F_md_refusesSeed a0 q5 a1 a2 h1) fun x7 =>
  if (0 : Int32) < x7 then
    (bd (F_md_refused a0 x7 h1) fun x9 h10 =>
    some (x9, h10))
  else
    (bd (F_md_weeksAll a0 a1 a2 h1) fun x12 h13 =>
    bn (gI h13 a0 13 36) fun x14 =>
    bd (F_md_good a0 x14 h13) fun x17 h18 =>
    some (x17, h18)))
def F_md_sunkAt (a0 : Nat) (a1 : Int32) (a2 : Int32) (h : Hp) : Option (Int32 × Hp) :=
  ck h a0 13 (bn (pI h a0 13 0 (0 : Int32)) fun h1 =>
  bn (gQ h1 a0 13 3) fun x3 =>
  bn (if x3 = none then
      (some (0 : Int32))
    else
      (some (1 : Int32))) fun q5 =>
  bn (F_md_refusesSeed a0 q5 a1 a2 h1) fun x7 =>
  if (0 : Int32) < x7 then
    (bd (F_md_refused a0 x7 h1) fun x9 h10 =>
    some (x9, h10))
  else
    (bd (F_md_weeksAll a0 a1 a2 h1) fun x12 h13 =>
    bd (F_md_good a0 x12 h13) fun x15 h16 =>
    some (x15, h16)))
def B_md_remembers_11 (l0 : Nat) (s : Int32) (h : Hp) : Option (((Int32) ⊕ (Unit)) × Hp) :=
  if s < (465 : Int32) then
    (bn (gR h l0 13 17) fun x3 =>
    bn (gR h l0 13 17) fun x5 =>
    bn (aI h 100 x5 (s + (31 : Int32))) fun x7 =>
    bn (sI h 100 x3 s x7) fun h9 =>
    some (.inl (s + (1 : Int32)), h9))
  else
    (some (.inr (), h))
def B_md_remembers_51 (l0 : Nat) (s : Int32) (h : Hp) : Option (((Int32) ⊕ (Unit)) × Hp) :=
  if s < (31 : Int32) then
    (bn (gR h l0 13 17) fun x20 =>
    bn (gI h l0 13 19) fun x22 =>
    bn (gR h l0 13 15) fun x24 =>
    bn (aI h 100 x24 s) fun x26 =>
    bn (sI h 100 x20 (((31 : Int32) * x22) + s) x26) fun h28 =>
    some (.inl (s + (1 : Int32)), h28))
  else
    (some (.inr (), h))
def F_md_remembers (a0 : Nat) (h : Hp) : Option Hp :=
  ck h a0 13 (bn (gI h a0 13 19) fun x1 =>
  bn (if x1 = (16 : Int32) then
      (bd (lp (B_md_remembers_11 a0) FU (0 : Int32) h) fun x11 h13 =>
      bn (gI h13 a0 13 19) fun x14 =>
      bn (pI h13 a0 13 19 (x14 - (1 : Int32))) fun h16 =>
      some h16)
    else
      (some h)) fun h19 =>
  bd (lp (B_md_remembers_51 a0) FU (0 : Int32) h19) fun x30 h32 =>
  bn (gI h32 a0 13 19) fun x33 =>
  bn (pI h32 a0 13 19 (x33 + (1 : Int32))) fun h35 =>
  some h35)
def F_md_drink (a0 : Nat) (a1 : Int32) (a2 : Int32) (h : Hp) : Option (Int32 × Hp) :=
  ck h a0 13 (bn (pI h a0 13 0 (0 : Int32)) fun h1 =>
  bn (F_md_isDrinker a0 a1 h1) fun x4 =>
  bn (if x4 = (0 : Int32) then
      (some (Sum.inl ()))
    else
      (bn (F_md_isHouse a0 a2 h1) fun x6 =>
      if x6 = (0 : Int32) then
        (some (Sum.inl ()))
      else
        (bn (gR h1 a0 13 3) fun x7 =>
        bn (gR h1 x7 12 17) fun x9 =>
        bn (aI h1 100 x9 a1) fun x11 =>
        bn (F_md_cell a2 x11) fun x14 =>
        bn (gR h1 a0 13 15) fun x15 =>
        bn (aI h1 100 x15 x14) fun x17 =>
        if x17 < (999 : Int32) then
          (bn (F_md_remembers a0 h1) fun h20 =>
          bn (gR h20 a0 13 15) fun x21 =>
          bn (aI h20 100 x21 x14) fun x23 =>
          bn (sI h20 100 x21 x14 (x23 + (1 : Int32))) fun h25 =>
          bn (gR h25 a0 13 15) fun x27 =>
          bn (aI h25 100 x27 x14) fun x29 =>
          bd (F_md_good a0 x29 h25) fun x32 h33 =>
          some (Sum.inr (x32, h33)))
        else
          (bd (F_md_refused a0 (3 : Int32) h1) fun x35 h36 =>
          some (Sum.inr (x35, h36)))))) fun x42 =>
  ei x42 (fun z38 =>
  bd (F_md_refused a0 (1 : Int32) h1) fun x40 h41 =>
  some (x40, h41))
  (fun z => some z))
def F_md_denied (a0 : Nat) (a1 : Int32) (h : Hp) : Option (Int32 × Hp) :=
  ck h a0 13 (bd (F_md_refused a0 a1 h) fun x2 h3 =>
  some ((0 : Int32), h3))
def F_md_granted (a0 : Nat) (h : Hp) : Option (Int32 × Hp) :=
  ck h a0 13 (bd (F_md_good a0 (0 : Int32) h) fun x2 h3 =>
  some ((1 : Int32), h3))
def F_md_move (a0 : Nat) (a1 : Int32) (a2 : Int32) (h : Hp) : Option (Int32 × Hp) :=
  ck h a0 13 (bn (pI h a0 13 0 (0 : Int32)) fun h1 =>
  bn (F_md_isGuest a0 a1 h1) fun x4 =>
  bn (if x4 = (0 : Int32) then
      (some (Sum.inl ()))
    else
      (bn (F_md_isHouse a0 a2 h1) fun x6 =>
      if x6 = (0 : Int32) then
        (some (Sum.inl ()))
      else
        (bn (gR h1 a0 13 15) fun x7 =>
        bn (aI h1 100 x7 ((25 : Int32) + a1)) fun x9 =>
        if x9 = a2 then
          (bd (F_md_denied a0 (5 : Int32) h1) fun x12 h13 =>
          if retV .boolean x12 = true then
            (some (Sum.inr (x12, h13)))
          else
            (none))
        else
          (bn (F_md_remembers a0 h1) fun h15 =>
          bn (gR h15 a0 13 15) fun x16 =>
          bn (sI h15 100 x16 ((25 : Int32) + a1) a2) fun h18 =>
          bd (F_md_granted a0 h18) fun x21 h22 =>
          if retV .boolean x21 = true then
            (some (Sum.inr (x21, h22)))
          else
            (none))))) fun x28 =>
  ei x28 (fun z24 =>
  bd (F_md_denied a0 (1 : Int32) h1) fun x26 h27 =>
  if retV .boolean x26 = true then
    (some (x26, h27))
  else
    (none))
  (fun z => some z))
def F_md_changes (a0 : Nat) (a1 : Int32) (a2 : Int32) (h : Hp) : Option (Int32 × Hp) :=
  ck h a0 13 (bn (F_md_isRopeNumber a0 a1 h) fun x2 =>
  if x2 = (0 : Int32) then
    (bd (F_md_denied a0 (1 : Int32) h) fun x4 h5 =>
    if retV .boolean x4 = true then
      (some (x4, h5))
    else
      (none))
  else
    (bn (gR h a0 13 15) fun x6 =>
    bn (aI h 100 x6 (28 : Int32)) fun x8 =>
    bn (F_md_bit x8 a1) fun x11 =>
    if x11 = a2 then
      (bd (F_md_denied a0 (5 : Int32) h) fun x13 h14 =>
      if retV .boolean x13 = true then
        (some (x13, h14))
      else
        (none))
    else
      (bn (F_md_remembers a0 h) fun h16 =>
      bn (gR h16 a0 13 15) fun x17 =>
      bn (aI h16 100 x17 (28 : Int32)) fun x19 =>
      bn (sI h16 100 x17 (28 : Int32) (x19 ^^^ ((1 : Int32) <<< (a1 &&& 31)))) fun h21 =>
      bd (F_md_granted a0 h21) fun x24 h25 =>
      if retV .boolean x24 = true then
        (some (x24, h25))
      else
        (none))))
def F_md_cut (a0 : Nat) (a1 : Int32) (h : Hp) : Option (Int32 × Hp) :=
  ck h a0 13 (bn (pI h a0 13 0 (0 : Int32)) fun h1 =>
  bd (F_md_changes a0 a1 (1 : Int32) h1) fun x4 h5 =>
  if retV .boolean x4 = true then
    (some (x4, h5))
  else
    (none))
def F_md_tie (a0 : Nat) (a1 : Int32) (h : Hp) : Option (Int32 × Hp) :=
  ck h a0 13 (bn (pI h a0 13 0 (0 : Int32)) fun h1 =>
  bd (F_md_changes a0 a1 (0 : Int32) h1) fun x4 h5 =>
  if retV .boolean x4 = true then
    (some (x4, h5))
  else
    (none))
def B_md_week_51 (l0 : Nat) (s : Int32) (h : Hp) : Option (((Int32) ⊕ (Unit)) × Hp) :=
  if s < (31 : Int32) then
    (bn (gR h l0 13 15) fun x21 =>
    bn (gR h l0 13 16) fun x23 =>
    bn (aI h 100 x23 s) fun x25 =>
    bn (sI h 100 x21 s x25) fun h27 =>
    some (.inl (s + (1 : Int32)), h27))
  else
    (some (.inr (), h))
def F_md_week (a0 : Nat) (h : Hp) : Option (Int32 × Hp) :=
  ck h a0 13 (bn (pI h a0 13 0 (0 : Int32)) fun h1 =>
  bn (gQ h1 a0 13 3) fun x3 =>
  if x3 = none then
    (bd (F_md_refused a0 (1 : Int32) h1) fun x6 h7 =>
    some (x6, h7))
  else
    (bn (gR h1 a0 13 15) fun x8 =>
    bn (aI h1 100 x8 (29 : Int32)) fun x10 =>
    if x10 = (999 : Int32) then
      (bd (F_md_refused a0 (3 : Int32) h1) fun x13 h14 =>
      some (x13, h14))
    else
      (bn (F_md_remembers a0 h1) fun h16 =>
      bn (F_md_works a0 h16) fun h18 =>
      bn (F_md_aWeek a0 h18) fun h20 =>
      bd (lp (B_md_week_51 a0) FU (0 : Int32) h20) fun x29 h31 =>
      bn (gR h31 a0 13 15) fun x32 =>
      bn (aI h31 100 x32 (29 : Int32)) fun x34 =>
      bn (sI h31 100 x32 (29 : Int32) (x34 + (1 : Int32))) fun h36 =>
      bn (F_md_underNow a0 h36) fun x39 =>
      bd (F_md_good a0 x39 h36) fun x41 h42 =>
      some (x41, h42))))
def F_md_seed (a0 : Nat) (a1 : Int32) (h : Hp) : Option (Int32 × Hp) :=
  ck h a0 13 (bn (pI h a0 13 0 (0 : Int32)) fun h1 =>
  bn (gQ h1 a0 13 3) fun x3 =>
  if x3 = none then
    (bd (F_md_denied a0 (1 : Int32) h1) fun x6 h7 =>
    if retV .boolean x6 = true then
      (some (x6, h7))
    else
      (none))
  else
    (bn (F_md_in a1 (0 : Int32) (65536 : Int32)) fun x9 =>
    if x9 = (0 : Int32) then
      (bd (F_md_denied a0 (2 : Int32) h1) fun x11 h12 =>
      if retV .boolean x11 = true then
        (some (x11, h12))
      else
        (none))
    else
      (bn (gR h1 a0 13 15) fun x13 =>
      bn (sI h1 100 x13 (30 : Int32) a1) fun h15 =>
      bd (F_md_granted a0 h15) fun x18 h19 =>
      if retV .boolean x18 = true then
        (some (x18, h19))
      else
        (none))))
def B_md_undo_38 (l0 : Nat) (s : Int32) (h : Hp) : Option (((Int32) ⊕ (Unit)) × Hp) :=
  if s < (31 : Int32) then
    (bn (gR h l0 13 15) fun x11 =>
    bn (gR h l0 13 17) fun x13 =>
    bn (gI h l0 13 19) fun x15 =>
    bn (aI h 100 x13 (((31 : Int32) * x15) + s)) fun x17 =>
    bn (sI h 100 x11 s x17) fun h19 =>
    some (.inl (s + (1 : Int32)), h19))
  else
    (some (.inr (), h))
def F_md_undo (a0 : Nat) (h : Hp) : Option (Int32 × Hp) :=
  ck h a0 13 (bn (pI h a0 13 0 (0 : Int32)) fun h1 =>
  bn (gQ h1 a0 13 3) fun x3 =>
  bn (if x3 = none then
      (some (Sum.inl ()))
    else
      (bn (gI h1 a0 13 19) fun x5 =>
      if x5 = (0 : Int32) then
        (some (Sum.inl ()))
      else
        (bn (gI h1 a0 13 19) fun x7 =>
        bn (pI h1 a0 13 19 (x7 - (1 : Int32))) fun h9 =>
        bd (lp (B_md_undo_38 a0) FU (0 : Int32) h9) fun x21 h23 =>
        bd (F_md_granted a0 h23) fun x25 h26 =>
        if retV .boolean x25 = true then
          (some (Sum.inr (x25, h26)))
        else
          (none)))) fun x32 =>
  ei x32 (fun z28 =>
  bd (F_md_denied a0 (6 : Int32) h1) fun x30 h31 =>
  if retV .boolean x30 = true then
    (some (x30, h31))
  else
    (none))
  (fun z => some z))
def B_md_image_34 (l0 : Nat) (s : Int32) (h : Hp) : Option (((Int32) ⊕ (Unit)) × Hp) :=
  if s < (31 : Int32) then
    (bn (gR h l0 13 18) fun x13 =>
    bn (gI h l0 13 20) fun x15 =>
    bn (gR h l0 13 15) fun x17 =>
    bn (aI h 100 x17 s) fun x19 =>
    bn (sI h 100 x13 (((31 : Int32) * x15) + s) x19) fun h21 =>
    some (.inl (s + (1 : Int32)), h21))
  else
    (some (.inr (), h))
def F_md_image (a0 : Nat) (h : Hp) : Option (Int32 × Hp) :=
  ck h a0 13 (bn (pI h a0 13 0 (0 : Int32)) fun h1 =>
  bn (gQ h1 a0 13 3) fun x3 =>
  if x3 = none then
    (bd (F_md_refused a0 (1 : Int32) h1) fun x6 h7 =>
    some (x6, h7))
  else
    (bn (gI h1 a0 13 20) fun x8 =>
    if x8 = (3 : Int32) then
      (bd (F_md_refused a0 (3 : Int32) h1) fun x11 h12 =>
      some (x11, h12))
    else
      (bd (lp (B_md_image_34 a0) FU (0 : Int32) h1) fun x23 h25 =>
      bn (gI h25 a0 13 20) fun x26 =>
      bn (pI h25 a0 13 20 (x26 + (1 : Int32))) fun h28 =>
      bn (gI h28 a0 13 20) fun x30 =>
      bd (F_md_good a0 (x30 - (1 : Int32)) h28) fun x33 h34 =>
      some (x33, h34))))
def B_md_back_32 (l0 : Nat) (l1 : Int32) (s : Int32) (h : Hp) : Option (((Int32) ⊕ (Unit)) × Hp) :=
  if s < (31 : Int32) then
    (bn (gR h l0 13 15) fun x7 =>
    bn (gR h l0 13 18) fun x9 =>
    bn (aI h 100 x9 (((31 : Int32) * l1) + s)) fun x11 =>
    bn (sI h 100 x7 s x11) fun h13 =>
    some (.inl (s + (1 : Int32)), h13))
  else
    (some (.inr (), h))
def F_md_back (a0 : Nat) (a1 : Int32) (h : Hp) : Option (Int32 × Hp) :=
  ck h a0 13 (bn (pI h a0 13 0 (0 : Int32)) fun h1 =>
  bn (gQ h1 a0 13 3) fun x3 =>
  bn (if x3 = none then
      (some (Sum.inl ()))
    else
      (if a1 < (0 : Int32) then
        (some (Sum.inl ()))
      else
        (bn (gI h1 a0 13 20) fun x5 =>
        if a1 < x5 then
          (bd (lp (B_md_back_32 a0 a1) FU (0 : Int32) h1) fun x15 h17 =>
          bn (pI h17 a0 13 19 (0 : Int32)) fun h18 =>
          bd (F_md_granted a0 h18) fun x21 h22 =>
          if retV .boolean x21 = true then
            (some (Sum.inr (x21, h22)))
          else
            (none))
        else
          (some (Sum.inl ()))))) fun x28 =>
  ei x28 (fun z24 =>
  bd (F_md_denied a0 (1 : Int32) h1) fun x26 h27 =>
  if retV .boolean x26 = true then
    (some (x26, h27))
  else
    (none))
  (fun z => some z))
def B_md_led_20 (l0 : Nat) (l1 : Int32) (h : Hp) (s : Int32 × Int32) : Option ((Int32 × Int32) ⊕ ((Unit) ⊕ Int32)) :=
  bn (gQ h l0 13 3) fun x9 =>
  if x9 = none then
    (some (.inr (.inl ())))
  else
    (bn (gR h l0 13 3) fun x11 =>
    bn (gI h x11 12 1) fun x13 =>
    if s.2 < x13 then
      (bn (F_md_heightOf l0 s.2 h) fun x16 =>
      if x16 < (0 : Int32) then
        (if s.1 = l1 then
          (some (.inr (.inr s.2)))
        else
          (some (.inl (s.1 + (1 : Int32), s.2 + (1 : Int32)))))
      else
        (some (.inl (s.1, s.2 + (1 : Int32)))))
    else
      (some (.inr (.inl ()))))
def F_md_led (a0 : Nat) (a1 : Int32) (h : Hp) : Option (Int32 × Hp) :=
  ck h a0 13 (bn (pI h a0 13 0 (0 : Int32)) fun h1 =>
  bn (gQ h1 a0 13 3) fun x3 =>
  bn (if x3 = none then
      (some h1)
    else
      (bn (F_md_works a0 h1) fun h6 =>
      some h6)) fun h8 =>
  bn (lq (B_md_led_20 a0 a1 h8) FU ((0 : Int32), (0 : Int32))) fun x17 =>
  ei x17 (fun q19 =>
  bn (pI h8 a0 13 0 (1 : Int32)) fun h20 =>
  some ((0 : Int32), h20))
  (fun x22 => some (x22, h8)))
def F_md_size (a0 : Nat) (a1 : Int32) (h : Hp) : Option (Int32 × Hp) :=
  ck h a0 13 (bn (pI h a0 13 0 (0 : Int32)) fun h1 =>
  if a1 = (12 : Int32) then
    (bn (gI h1 a0 13 6) fun x3 =>
    some (x3, h1))
  else
    (bn (F_md_in a1 (0 : Int32) (11 : Int32)) fun x6 =>
    if x6 = (0 : Int32) then
      (some ((-1 : Int32), h1))
    else
      (bn (gQ h1 a0 13 3) fun x7 =>
      if x7 = none then
        (some ((0 : Int32), h1))
      else
        (if (a1).toInt < 0 ∨ 10 < (a1).toInt then
          (bn (gI h1 a0 13 20) fun x9 =>
          some (x9, h1))
        else if a1 = (0 : Int32) then
          (bn (gR h1 a0 13 3) fun x11 =>
          bn (gI h1 x11 12 0) fun x13 =>
          some (x13, h1))
        else if a1 = (1 : Int32) then
          (bn (gR h1 a0 13 3) fun x15 =>
          bn (gI h1 x15 12 1) fun x17 =>
          some (x17, h1))
        else if a1 = (2 : Int32) then
          (bn (gR h1 a0 13 3) fun x19 =>
          bn (gI h1 x19 12 2) fun x21 =>
          some (x21, h1))
        else if a1 = (3 : Int32) then
          (bn (gR h1 a0 13 3) fun x23 =>
          bn (gI h1 x23 12 3) fun x25 =>
          some (x25, h1))
        else if a1 = (4 : Int32) then
          (bn (gR h1 a0 13 3) fun x27 =>
          bn (gI h1 x27 12 4) fun x29 =>
          some (x29, h1))
        else if a1 = (5 : Int32) then
          (bn (gR h1 a0 13 3) fun x31 =>
          bn (gI h1 x31 12 5) fun x33 =>
          some (x33, h1))
        else if a1 = (6 : Int32) then
          (bn (gR h1 a0 13 3) fun x35 =>
          bn (gI h1 x35 12 6) fun x37 =>
          some (x37, h1))
        else if a1 = (7 : Int32) then
          (bn (gR h1 a0 13 3) fun x39 =>
          bn (gI h1 x39 12 7) fun x41 =>
          some (x41, h1))
        else if a1 = (8 : Int32) then
          (bn (gR h1 a0 13 15) fun x43 =>
          bn (aI h1 100 x43 (29 : Int32)) fun x45 =>
          some (x45, h1))
        else if a1 = (9 : Int32) then
          (bn (gR h1 a0 13 15) fun x47 =>
          bn (aI h1 100 x47 (30 : Int32)) fun x49 =>
          some (x49, h1))
        else if a1 = (10 : Int32) then
          (bn (gI h1 a0 13 19) fun x51 =>
          some (x51, h1))
        else none))))
def F_md_trouble (a0 : Nat) (h : Hp) : Option (Int32 × Hp) :=
  ck h a0 13 (bn (pI h a0 13 0 (0 : Int32)) fun h1 =>
  bn (gI h1 a0 13 1) fun x3 =>
  some (x3, h1))
def B_lw_law_23 (l0 : Nat) (l1 : Nat) (l2 : Nat) (l3 : Nat) (s : Int32) (h : Hp) : Option (((Int32) ⊕ ((Unit) ⊕ Int32)) × Hp) :=
  bn (aN h l0) fun x14 =>
  if (x14 - (6 : Int32)) < s then
    (some (.inr (.inl ()), h))
  else
    (bn (aI h 100 l0 s) fun x16 =>
    if (x16 &&& (63 : Int32)).toInt < 0 ∨ 52 < (x16 &&& (63 : Int32)).toInt then
      (some (.inl (s + (6 : Int32)), h))
    else if (x16 &&& (63 : Int32)) = (0 : Int32) then
      (bn (aI h 100 l0 (s + (1 : Int32))) fun x18 =>
      bn (aI h 100 l0 (s + (2 : Int32))) fun x20 =>
      bn (aI h 100 l0 (s + (3 : Int32))) fun x22 =>
      bn (aI h 100 l0 (s + (4 : Int32))) fun x24 =>
      bn (aI h 100 l0 (s + (5 : Int32))) fun x26 =>
      bd (F_cs_feed l1 x18 x20 x22 x24 x26 h) fun x29 h30 =>
      bn (aI h30 100 l0 (s + (1 : Int32))) fun x31 =>
      bn (aI h30 100 l0 (s + (2 : Int32))) fun x33 =>
      bn (aI h30 100 l0 (s + (3 : Int32))) fun x35 =>
      bn (aI h30 100 l0 (s + (4 : Int32))) fun x37 =>
      bn (aI h30 100 l0 (s + (5 : Int32))) fun x39 =>
      bd (F_md_feed l2 x31 x33 x35 x37 x39 h30) fun x42 h43 =>
      if x29 = x42 then
        (some (.inl (s + (6 : Int32)), h43))
      else
        (some (.inr (.inr (0 : Int32)), h43)))
    else if (x16 &&& (63 : Int32)) = (1 : Int32) then
      (bn (aI h 100 l0 (s + (1 : Int32))) fun x44 =>
      bd (F_cs_lake l1 x44 h) fun x47 h48 =>
      bn (aI h48 100 l0 (s + (1 : Int32))) fun x49 =>
      bd (F_md_lake l2 x49 h48) fun x52 h53 =>
      if x47 = x52 then
        (some (.inl (s + (6 : Int32)), h53))
      else
        (some (.inr (.inr (0 : Int32)), h53)))
    else if (x16 &&& (63 : Int32)) = (2 : Int32) then
      (bn (F_cs_fault l1 h) fun x55 =>
      bd (F_md_fault l2 h) fun x57 h58 =>
      if x55 = x57 then
        (some (.inl (s + (6 : Int32)), h58))
      else
        (some (.inr (.inr (0 : Int32)), h58)))
    else if (x16 &&& (63 : Int32)) = (3 : Int32) then
      (bn (F_cs_where l1 h) fun x60 =>
      bd (F_md_where l2 h) fun x62 h63 =>
      if x60 = x62 then
        (some (.inl (s + (6 : Int32)), h63))
      else
        (some (.inr (.inr (0 : Int32)), h63)))
    else if (x16 &&& (63 : Int32)) = (4 : Int32) then
      (bn (aI h 100 l0 (s + (1 : Int32))) fun x64 =>
      bn (aI h 100 l0 (s + (2 : Int32))) fun x66 =>
      bd (F_cs_house l1 x64 x66 h) fun x69 h70 =>
      bn (aI h70 100 l0 (s + (1 : Int32))) fun x71 =>
      bn (aI h70 100 l0 (s + (2 : Int32))) fun x73 =>
      bd (F_md_house l2 x71 x73 h70) fun x76 h77 =>
      if x69 = x76 then
        (some (.inl (s + (6 : Int32)), h77))
      else
        (some (.inr (.inr (0 : Int32)), h77)))
    else if (x16 &&& (63 : Int32)) = (5 : Int32) then
      (bn (aI h 100 l0 (s + (1 : Int32))) fun x78 =>
      bn (aI h 100 l0 (s + (2 : Int32))) fun x80 =>
      bd (F_cs_corks l1 x78 x80 h) fun x83 h84 =>
      bn (aI h84 100 l0 (s + (1 : Int32))) fun x85 =>
      bn (aI h84 100 l0 (s + (2 : Int32))) fun x87 =>
      bd (F_md_corks l2 x85 x87 h84) fun x90 h91 =>
      if x83 = x90 then
        (some (.inl (s + (6 : Int32)), h91))
      else
        (some (.inr (.inr (0 : Int32)), h91)))
    else if (x16 &&& (63 : Int32)) = (6 : Int32) then
      (bn (aI h 100 l0 (s + (1 : Int32))) fun x92 =>
      bn (aI h 100 l0 (s + (2 : Int32))) fun x94 =>
      bd (F_cs_guest l1 x92 x94 h) fun x97 h98 =>
      bn (aI h98 100 l0 (s + (1 : Int32))) fun x99 =>
      bn (aI h98 100 l0 (s + (2 : Int32))) fun x101 =>
      bd (F_md_guest l2 x99 x101 h98) fun x104 h105 =>
      if x97 = x104 then
        (some (.inl (s + (6 : Int32)), h105))
      else
        (some (.inr (.inr (0 : Int32)), h105)))
    else if (x16 &&& (63 : Int32)) = (7 : Int32) then
      (bn (aI h 100 l0 (s + (1 : Int32))) fun x106 =>
      bn (aI h 100 l0 (s + (2 : Int32))) fun x108 =>
      bd (F_cs_rope l1 x106 x108 h) fun x111 h112 =>
      bn (aI h112 100 l0 (s + (1 : Int32))) fun x113 =>
      bn (aI h112 100 l0 (s + (2 : Int32))) fun x115 =>
      bd (F_md_rope l2 x113 x115 h112) fun x118 h119 =>
      if x111 = x118 then
        (some (.inl (s + (6 : Int32)), h119))
      else
        (some (.inr (.inr (0 : Int32)), h119)))
    else if (x16 &&& (63 : Int32)) = (8 : Int32) then
      (bd (F_cs_under l1 h) fun x121 h122 =>
      bd (F_md_under l2 h122) fun x124 h125 =>
      if x121 = x124 then
        (some (.inl (s + (6 : Int32)), h125))
      else
        (some (.inr (.inr (0 : Int32)), h125)))
    else if (x16 &&& (63 : Int32)) = (9 : Int32) then
      (bd (F_cs_lowest l1 h) fun x127 h128 =>
      bd (F_md_lowest l2 h128) fun x130 h131 =>
      if x127 = x130 then
        (some (.inl (s + (6 : Int32)), h131))
      else
        (some (.inr (.inr (0 : Int32)), h131)))
    else if (x16 &&& (63 : Int32)) = (10 : Int32) then
      (bd (F_cs_rafts l1 h) fun x133 h134 =>
      bd (F_md_rafts l2 h134) fun x136 h137 =>
      if x133 = x136 then
        (some (.inl (s + (6 : Int32)), h137))
      else
        (some (.inr (.inr (0 : Int32)), h137)))
    else if (x16 &&& (63 : Int32)) = (11 : Int32) then
      (bn (aI h 100 l0 (s + (1 : Int32))) fun x138 =>
      bd (F_cs_tilt l1 x138 h) fun x141 h142 =>
      bn (aI h142 100 l0 (s + (1 : Int32))) fun x143 =>
      bd (F_md_tilt l2 x143 h142) fun x146 h147 =>
      if x141 = x146 then
        (some (.inl (s + (6 : Int32)), h147))
      else
        (some (.inr (.inr (0 : Int32)), h147)))
    else if (x16 &&& (63 : Int32)) = (12 : Int32) then
      (bn (aI h 100 l0 (s + (1 : Int32))) fun x148 =>
      bn (aI h 100 l0 (s + (2 : Int32))) fun x150 =>
      bd (F_cs_heightIn l1 x148 x150 h) fun x153 h154 =>
      bn (aI h154 100 l0 (s + (1 : Int32))) fun x155 =>
      bn (aI h154 100 l0 (s + (2 : Int32))) fun x157 =>
      bd (F_md_heightIn l2 x155 x157 h154) fun x160 h161 =>
      if x153 = x160 then
        (some (.inl (s + (6 : Int32)), h161))
      else
        (some (.inr (.inr (0 : Int32)), h161)))
    else if (x16 &&& (63 : Int32)) = (13 : Int32) then
      (bn (aI h 100 l0 (s + (1 : Int32))) fun x162 =>
      bd (F_cs_underIn l1 x162 h) fun x165 h166 =>
      bn (aI h166 100 l0 (s + (1 : Int32))) fun x167 =>
      bd (F_md_underIn l2 x167 h166) fun x170 h171 =>
      if x165 = x170 then
        (some (.inl (s + (6 : Int32)), h171))
      else
        (some (.inr (.inr (0 : Int32)), h171)))
    else if (x16 &&& (63 : Int32)) = (14 : Int32) then
      (bn (aI h 100 l0 (s + (1 : Int32))) fun x172 =>
      bd (F_cs_sinks l1 x172 h) fun x175 h176 =>
      bn (aI h176 100 l0 (s + (1 : Int32))) fun x177 =>
      bd (F_md_sinks l2 x177 h176) fun x180 h181 =>
      if x175 = x180 then
        (some (.inl (s + (6 : Int32)), h181))
      else
        (some (.inr (.inr (0 : Int32)), h181)))
    else if (x16 &&& (63 : Int32)) = (15 : Int32) then
      (bd (F_cs_wetFeast l1 h) fun x183 h184 =>
      bd (F_md_wetFeast l2 h184) fun x186 h187 =>
      if x183 = x186 then
        (some (.inl (s + (6 : Int32)), h187))
      else
        (some (.inr (.inr (0 : Int32)), h187)))
    else if (x16 &&& (63 : Int32)) = (16 : Int32) then
      (bn (aI h 100 l0 (s + (1 : Int32))) fun x188 =>
      bn (aI h 100 l0 (s + (2 : Int32))) fun x190 =>
      bn (aI h 100 l0 (s + (3 : Int32))) fun x192 =>
      bd (F_cs_aunt l1 x188 x190 x192 h) fun x195 h196 =>
      bn (aI h196 100 l0 (s + (1 : Int32))) fun x197 =>
      bn (aI h196 100 l0 (s + (2 : Int32))) fun x199 =>
      bn (aI h196 100 l0 (s + (3 : Int32))) fun x201 =>
      bd (F_md_aunt l2 x197 x199 x201 h196) fun x204 h205 =>
      if x195 = x204 then
        (some (.inl (s + (6 : Int32)), h205))
      else
        (some (.inr (.inr (0 : Int32)), h205)))
    else if (x16 &&& (63 : Int32)) = (17 : Int32) then
      (bn (aI h 100 l0 (s + (1 : Int32))) fun x206 =>
      bd (F_cs_bestStay l1 x206 h) fun x209 h210 =>
      bn (aI h210 100 l0 (s + (1 : Int32))) fun x211 =>
      bd (F_md_bestStay l2 x211 h210) fun x214 h215 =>
      if x209 = x214 then
        (some (.inl (s + (6 : Int32)), h215))
      else
        (some (.inr (.inr (0 : Int32)), h215)))
    else if (x16 &&& (63 : Int32)) = (18 : Int32) then
      (bn (aI h 100 l0 (s + (1 : Int32))) fun x216 =>
      bd (F_cs_bestMove l1 x216 h) fun x219 h220 =>
      bn (aI h220 100 l0 (s + (1 : Int32))) fun x221 =>
      bd (F_md_bestMove l2 x221 h220) fun x224 h225 =>
      if x219 = x224 then
        (some (.inl (s + (6 : Int32)), h225))
      else
        (some (.inr (.inr (0 : Int32)), h225)))
    else if (x16 &&& (63 : Int32)) = (19 : Int32) then
      (bd (F_cs_bestCut l1 h) fun x227 h228 =>
      bd (F_md_bestCut l2 h228) fun x230 h231 =>
      if x227 = x230 then
        (some (.inl (s + (6 : Int32)), h231))
      else
        (some (.inr (.inr (0 : Int32)), h231)))
    else if (x16 &&& (63 : Int32)) = (20 : Int32) then
      (bn (aI h 100 l0 (s + (1 : Int32))) fun x232 =>
      bd (F_cs_plan l1 x232 h) fun x235 h236 =>
      bn (aI h236 100 l0 (s + (1 : Int32))) fun x237 =>
      bd (F_md_plan l2 x237 h236) fun x240 h241 =>
      if x235 = x240 then
        (some (.inl (s + (6 : Int32)), h241))
      else
        (some (.inr (.inr (0 : Int32)), h241)))
    else if (x16 &&& (63 : Int32)) = (21 : Int32) then
      (bn (aI h 100 l0 (s + (1 : Int32))) fun x242 =>
      bn (aI h 100 l0 (s + (2 : Int32))) fun x244 =>
      bd (F_cs_planDays l1 x242 x244 h) fun x247 h248 =>
      bn (aI h248 100 l0 (s + (1 : Int32))) fun x249 =>
      bn (aI h248 100 l0 (s + (2 : Int32))) fun x251 =>
      bd (F_md_planDays l2 x249 x251 h248) fun x254 h255 =>
      if x247 = x254 then
        (some (.inl (s + (6 : Int32)), h255))
      else
        (some (.inr (.inr (0 : Int32)), h255)))
    else if (x16 &&& (63 : Int32)) = (22 : Int32) then
      (bn (aI h 100 l0 (s + (1 : Int32))) fun x256 =>
      bn (aI h 100 l0 (s + (2 : Int32))) fun x258 =>
      bd (F_cs_planHouse l1 x256 x258 h) fun x261 h262 =>
      bn (aI h262 100 l0 (s + (1 : Int32))) fun x263 =>
      bn (aI h262 100 l0 (s + (2 : Int32))) fun x265 =>
      bd (F_md_planHouse l2 x263 x265 h262) fun x268 h269 =>
      if x261 = x268 then
        (some (.inl (s + (6 : Int32)), h269))
      else
        (some (.inr (.inr (0 : Int32)), h269)))
    else if (x16 &&& (63 : Int32)) = (23 : Int32) then
      (bn (aI h 100 l0 (s + (1 : Int32))) fun x270 =>
      bd (F_cs_feasts l1 x270 h) fun x273 h274 =>
      bn (aI h274 100 l0 (s + (1 : Int32))) fun x275 =>
      bd (F_md_feasts l2 x275 h274) fun x278 h279 =>
      if x273 = x278 then
        (some (.inl (s + (6 : Int32)), h279))
      else
        (some (.inr (.inr (0 : Int32)), h279)))
    else if (x16 &&& (63 : Int32)) = (24 : Int32) then
      (bn (aI h 100 l0 (s + (1 : Int32))) fun x280 =>
      bn (aI h 100 l0 (s + (2 : Int32))) fun x282 =>
      bd (F_cs_feastHouse l1 x280 x282 h) fun x285 h286 =>
      bn (aI h286 100 l0 (s + (1 : Int32))) fun x287 =>
      bn (aI h286 100 l0 (s + (2 : Int32))) fun x289 =>
      bd (F_md_feastHouse l2 x287 x289 h286) fun x292 h293 =>
      if x285 = x292 then
        (some (.inl (s + (6 : Int32)), h293))
      else
        (some (.inr (.inr (0 : Int32)), h293)))
    else if (x16 &&& (63 : Int32)) = (25 : Int32) then
      (bd (F_cs_sets l1 h) fun x295 h296 =>
      bd (F_md_sets l2 h296) fun x298 h299 =>
      if x295 = x298 then
        (some (.inl (s + (6 : Int32)), h299))
      else
        (some (.inr (.inr (0 : Int32)), h299)))
    else if (x16 &&& (63 : Int32)) = (26 : Int32) then
      (bn (aI h 100 l0 (s + (1 : Int32))) fun x300 =>
      bd (F_cs_setAt l1 x300 h) fun x303 h304 =>
      bn (aI h304 100 l0 (s + (1 : Int32))) fun x305 =>
      bd (F_md_setAt l2 x305 h304) fun x308 h309 =>
      if x303 = x308 then
        (some (.inl (s + (6 : Int32)), h309))
      else
        (some (.inr (.inr (0 : Int32)), h309)))
    else if (x16 &&& (63 : Int32)) = (27 : Int32) then
      (bd (F_cs_could l1 h) fun x311 h312 =>
      bd (F_md_could l2 h312) fun x314 h315 =>
      if x311 = x314 then
        (some (.inl (s + (6 : Int32)), h315))
      else
        (some (.inr (.inr (0 : Int32)), h315)))
    else if (x16 &&& (63 : Int32)) = (28 : Int32) then
      (bd (F_cs_surely l1 h) fun x317 h318 =>
      bd (F_md_surely l2 h318) fun x320 h321 =>
      if x317 = x320 then
        (some (.inl (s + (6 : Int32)), h321))
      else
        (some (.inr (.inr (0 : Int32)), h321)))
    else if (x16 &&& (63 : Int32)) = (29 : Int32) then
      (bd (F_cs_ask l1 h) fun x323 h324 =>
      bd (F_md_ask l2 h324) fun x326 h327 =>
      if x323 = x326 then
        (some (.inl (s + (6 : Int32)), h327))
      else
        (some (.inr (.inr (0 : Int32)), h327)))
    else if (x16 &&& (63 : Int32)) = (30 : Int32) then
      (bd (F_cs_askLeaves l1 h) fun x329 h330 =>
      bd (F_md_askLeaves l2 h330) fun x332 h333 =>
      if x329 = x332 then
        (some (.inl (s + (6 : Int32)), h333))
      else
        (some (.inr (.inr (0 : Int32)), h333)))
    else if (x16 &&& (63 : Int32)) = (31 : Int32) then
      (bd (F_cs_judge l1 h) fun x335 h336 =>
      bd (F_md_judge l2 h336) fun x338 h339 =>
      if x335 = x338 then
        (some (.inl (s + (6 : Int32)), h339))
      else
        (some (.inr (.inr (0 : Int32)), h339)))
    else if (x16 &&& (63 : Int32)) = (32 : Int32) then
      (bn (aI h 100 l0 (s + (1 : Int32))) fun x340 =>
      bd (F_cs_value l1 x340 h) fun x343 h344 =>
      bn (aI h344 100 l0 (s + (1 : Int32))) fun x345 =>
      bd (F_md_value l2 x345 h344) fun x348 h349 =>
      if x343 = x348 then
        (some (.inl (s + (6 : Int32)), h349))
      else
        (some (.inr (.inr (0 : Int32)), h349)))
    else if (x16 &&& (63 : Int32)) = (33 : Int32) then
      (bn (aI h 100 l0 (s + (1 : Int32))) fun x350 =>
      bd (F_cs_kingCuts l1 x350 h) fun x353 h354 =>
      bn (aI h354 100 l0 (s + (1 : Int32))) fun x355 =>
      bd (F_md_kingCuts l2 x355 h354) fun x358 h359 =>
      if x353 = x358 then
        (some (.inl (s + (6 : Int32)), h359))
      else
        (some (.inr (.inr (0 : Int32)), h359)))
    else if (x16 &&& (63 : Int32)) = (34 : Int32) then
      (bn (aI h 100 l0 (s + (1 : Int32))) fun x360 =>
      bn (aI h 100 l0 (s + (2 : Int32))) fun x362 =>
      bn (aI h 100 l0 (s + (3 : Int32))) fun x364 =>
      bn (if x364 = (0 : Int32) then
          (some (0 : Int32))
        else
          (some (1 : Int32))) fun q366 =>
      bd (F_cs_dry l1 x360 x362 q366 h) fun x368 h369 =>
      bn (aI h369 100 l0 (s + (1 : Int32))) fun x370 =>
      bn (aI h369 100 l0 (s + (2 : Int32))) fun x372 =>
      bn (aI h369 100 l0 (s + (3 : Int32))) fun x374 =>
      bn (if x374 = (0 : Int32) then
          (some (0 : Int32))
        else
          (some (1 : Int32))) fun q376 =>
      bd (F_md_dry l2 x370 x372 q376 h369) fun x378 h379 =>
      if (lg_cmp x368 x378) = (0 : Int32) then
        (some (.inl (s + (6 : Int32)), h379))
      else
        (some (.inr (.inr (0 : Int32)), h379)))
    else if (x16 &&& (63 : Int32)) = (35 : Int32) then
      (bn (aI h 100 l0 (s + (1 : Int32))) fun x380 =>
      bn (aI h 100 l0 (s + (2 : Int32))) fun x382 =>
      bn (aI h 100 l0 (s + (3 : Int32))) fun x384 =>
      bn (if x384 = (0 : Int32) then
          (some (0 : Int32))
        else
          (some (1 : Int32))) fun q386 =>
      bd (F_cs_mean l1 x380 x382 q386 h) fun x388 h389 =>
      bn (aI h389 100 l0 (s + (1 : Int32))) fun x390 =>
      bn (aI h389 100 l0 (s + (2 : Int32))) fun x392 =>
      bn (aI h389 100 l0 (s + (3 : Int32))) fun x394 =>
      bn (if x394 = (0 : Int32) then
          (some (0 : Int32))
        else
          (some (1 : Int32))) fun q396 =>
      bd (F_md_mean l2 x390 x392 q396 h389) fun x398 h399 =>
      if (lg_cmp x388 x398) = (0 : Int32) then
        (some (.inl (s + (6 : Int32)), h399))
      else
        (some (.inr (.inr (0 : Int32)), h399)))
    else if (x16 &&& (63 : Int32)) = (36 : Int32) then
      (bn (aI h 100 l0 (s + (1 : Int32))) fun x400 =>
      bd (F_cs_safest l1 x400 h) fun x403 h404 =>
      bn (aI h404 100 l0 (s + (1 : Int32))) fun x405 =>
      bd (F_md_safest l2 x405 h404) fun x408 h409 =>
      if x403 = x408 then
        (some (.inl (s + (6 : Int32)), h409))
      else
        (some (.inr (.inr (0 : Int32)), h409)))
    else if (x16 &&& (63 : Int32)) = (37 : Int32) then
      (bn (aI h 100 l0 (s + (1 : Int32))) fun x410 =>
      bn (aI h 100 l0 (s + (2 : Int32))) fun x412 =>
      bn (aI h 100 l0 (s + (3 : Int32))) fun x414 =>
      bn (if x414 = (0 : Int32) then
          (some (0 : Int32))
        else
          (some (1 : Int32))) fun q416 =>
      bd (F_cs_losses l1 x410 x412 q416 h) fun x418 h419 =>
      bn (aI h419 100 l0 (s + (1 : Int32))) fun x420 =>
      bn (aI h419 100 l0 (s + (2 : Int32))) fun x422 =>
      bn (aI h419 100 l0 (s + (3 : Int32))) fun x424 =>
      bn (if x424 = (0 : Int32) then
          (some (0 : Int32))
        else
          (some (1 : Int32))) fun q426 =>
      bd (F_md_losses l2 x420 x422 q426 h419) fun x428 h429 =>
      if (lg_cmp x418 x428) = (0 : Int32) then
        (some (.inl (s + (6 : Int32)), h429))
      else
        (some (.inr (.inr (0 : Int32)), h429)))
    else if (x16 &&& (63 : Int32)) = (38 : Int32) then
      (bn (aI h 100 l0 (s + (1 : Int32))) fun x430 =>
      bn (aI h 100 l0 (s + (2 : Int32))) fun x432 =>
      bn (aI h 100 l0 (s + (3 : Int32))) fun x434 =>
      bd (F_cs_weeks l1 x430 x432 x434 h) fun x437 h438 =>
      bn (aI h438 100 l0 (s + (1 : Int32))) fun x439 =>
      bn (aI h438 100 l0 (s + (2 : Int32))) fun x441 =>
      bn (aI h438 100 l0 (s + (3 : Int32))) fun x443 =>
      bd (F_md_weeks l2 x439 x441 x443 h438) fun x446 h447 =>
      if x437 = x446 then
        (some (.inl (s + (6 : Int32)), h447))
      else
        (some (.inr (.inr (0 : Int32)), h447)))
    else if (x16 &&& (63 : Int32)) = (39 : Int32) then
      (bn (aI h 100 l0 (s + (1 : Int32))) fun x448 =>
      bn (aI h 100 l0 (s + (2 : Int32))) fun x450 =>
      bd (F_cs_eaten l1 x448 x450 h) fun x453 h454 =>
      bn (aI h454 100 l0 (s + (1 : Int32))) fun x455 =>
      bn (aI h454 100 l0 (s + (2 : Int32))) fun x457 =>
      bd (F_md_eaten l2 x455 x457 h454) fun x460 h461 =>
      if x453 = x460 then
        (some (.inl (s + (6 : Int32)), h461))
      else
        (some (.inr (.inr (0 : Int32)), h461)))
    else if (x16 &&& (63 : Int32)) = (40 : Int32) then
      (bn (aI h 100 l0 (s + (1 : Int32))) fun x462 =>
      bn (aI h 100 l0 (s + (2 : Int32))) fun x464 =>
      bd (F_cs_sunkAt l1 x462 x464 h) fun x467 h468 =>
      bn (aI h468 100 l0 (s + (1 : Int32))) fun x469 =>
      bn (aI h468 100 l0 (s + (2 : Int32))) fun x471 =>
      bd (F_md_sunkAt l2 x469 x471 h468) fun x474 h475 =>
      if x467 = x474 then
        (some (.inl (s + (6 : Int32)), h475))
      else
        (some (.inr (.inr (0 : Int32)), h475)))
    else if (x16 &&& (63 : Int32)) = (41 : Int32) then
      (bn (aI h 100 l0 (s + (1 : Int32))) fun x476 =>
      bn (aI h 100 l0 (s + (2 : Int32))) fun x478 =>
      bd (F_cs_drink l1 x476 x478 h) fun x481 h482 =>
      bn (aI h482 100 l0 (s + (1 : Int32))) fun x483 =>
      bn (aI h482 100 l0 (s + (2 : Int32))) fun x485 =>
      bd (F_md_drink l2 x483 x485 h482) fun x488 h489 =>
      if x481 = x488 then
        (some (.inl (s + (6 : Int32)), h489))
      else
        (some (.inr (.inr (0 : Int32)), h489)))
    else if (x16 &&& (63 : Int32)) = (42 : Int32) then
      (bn (aI h 100 l0 (s + (1 : Int32))) fun x490 =>
      bn (aI h 100 l0 (s + (2 : Int32))) fun x492 =>
      bd (F_cs_move l1 x490 x492 h) fun x495 h496 =>
      bn (aI h496 100 l0 (s + (1 : Int32))) fun x497 =>
      bn (aI h496 100 l0 (s + (2 : Int32))) fun x499 =>
      bd (F_md_move l2 x497 x499 h496) fun x502 h503 =>
      if x495 = x502 then
        (some (.inl (s + (6 : Int32)), h503))
      else
        (some (.inr (.inr (0 : Int32)), h503)))
    else if (x16 &&& (63 : Int32)) = (43 : Int32) then
      (bn (aI h 100 l0 (s + (1 : Int32))) fun x504 =>
      bd (F_cs_cut l1 x504 h) fun x507 h508 =>
      bn (aI h508 100 l0 (s + (1 : Int32))) fun x509 =>
      bd (F_md_cut l2 x509 h508) fun x512 h513 =>
      if x507 = x512 then
        (some (.inl (s + (6 : Int32)), h513))
      else
        (some (.inr (.inr (0 : Int32)), h513)))
    else if (x16 &&& (63 : Int32)) = (44 : Int32) then
      (bn (aI h 100 l0 (s + (1 : Int32))) fun x514 =>
      bd (F_cs_tie l1 x514 h) fun x517 h518 =>
      bn (aI h518 100 l0 (s + (1 : Int32))) fun x519 =>
      bd (F_md_tie l2 x519 h518) fun x522 h523 =>
      if x517 = x522 then
        (some (.inl (s + (6 : Int32)), h523))
      else
        (some (.inr (.inr (0 : Int32)), h523)))
    else if (x16 &&& (63 : Int32)) = (45 : Int32) then
      (bd (F_cs_week l1 h) fun x525 h526 =>
      bd (F_md_week l2 h526) fun x528 h529 =>
      if x525 = x528 then
        (some (.inl (s + (6 : Int32)), h529))
      else
        (some (.inr (.inr (0 : Int32)), h529)))
    else if (x16 &&& (63 : Int32)) = (46 : Int32) then
      (bn (aI h 100 l0 (s + (1 : Int32))) fun x530 =>
      bd (F_cs_seed l1 x530 h) fun x533 h534 =>
      bn (aI h534 100 l0 (s + (1 : Int32))) fun x535 =>
      bd (F_md_seed l2 x535 h534) fun x538 h539 =>
      if x533 = x538 then
        (some (.inl (s + (6 : Int32)), h539))
      else
        (some (.inr (.inr (0 : Int32)), h539)))
    else if (x16 &&& (63 : Int32)) = (47 : Int32) then
      (bd (F_cs_undo l1 h) fun x541 h542 =>
      bd (F_md_undo l2 h542) fun x544 h545 =>
      if x541 = x544 then
        (some (.inl (s + (6 : Int32)), h545))
      else
        (some (.inr (.inr (0 : Int32)), h545)))
    else if (x16 &&& (63 : Int32)) = (48 : Int32) then
      (bd (F_cs_image l1 h) fun x547 h548 =>
      bd (F_md_image l2 h548) fun x550 h551 =>
      if x547 = x550 then
        (some (.inl (s + (6 : Int32)), h551))
      else
        (some (.inr (.inr (0 : Int32)), h551)))
    else if (x16 &&& (63 : Int32)) = (49 : Int32) then
      (bn (aI h 100 l0 (s + (1 : Int32))) fun x552 =>
      bd (F_cs_back l1 x552 h) fun x555 h556 =>
      bn (aI h556 100 l0 (s + (1 : Int32))) fun x557 =>
      bd (F_md_back l2 x557 h556) fun x560 h561 =>
      if x555 = x560 then
        (some (.inl (s + (6 : Int32)), h561))
      else
        (some (.inr (.inr (0 : Int32)), h561)))
    else if (x16 &&& (63 : Int32)) = (50 : Int32) then
      (bn (aI h 100 l0 (s + (1 : Int32))) fun x562 =>
      bd (F_lw_led l1 x562 l3 h) fun x565 h566 =>
      bn (aI h566 100 l0 (s + (1 : Int32))) fun x567 =>
      bd (F_md_led l2 x567 h566) fun x570 h571 =>
      bn (F_md_thrown l2 h571) fun x573 =>
      if x573 = x565 then
        (if x565 = (0 : Int32) then
          (bn (aL h571 l3 (0 : Int32)) fun x574 =>
          if (lg_cmp x574 x570.toInt64) = (0 : Int32) then
            (some (.inl (s + (6 : Int32)), h571))
          else
            (some (.inr (.inr (0 : Int32)), h571)))
        else
          (some (.inl (s + (6 : Int32)), h571)))
      else
        (some (.inr (.inr (0 : Int32)), h571)))
    else if (x16 &&& (63 : Int32)) = (51 : Int32) then
      (bn (aI h 100 l0 (s + (1 : Int32))) fun x576 =>
      bn (F_cs_size l1 x576 h) fun x579 =>
      bn (aI h 100 l0 (s + (1 : Int32))) fun x580 =>
      bd (F_md_size l2 x580 h) fun x583 h584 =>
      if x579 = x583 then
        (some (.inl (s + (6 : Int32)), h584))
      else
        (some (.inr (.inr (0 : Int32)), h584)))
    else if (x16 &&& (63 : Int32)) = (52 : Int32) then
      (bn (F_cs_trouble l1 h) fun x586 =>
      bd (F_md_trouble l2 h) fun x588 h589 =>
      if x586 = x588 then
        (some (.inl (s + (6 : Int32)), h589))
      else
        (some (.inr (.inr (0 : Int32)), h589)))
    else none)
def F_lw_law (a0 : Nat) (h : Hp) : Option (Int32 × Hp) :=
  bd (nO h 11) fun x1 h2 =>
  bn (F_cs_init x1 h2) fun h5 =>
  bd (nO h5 13) fun x6 h7 =>
  bn (F_md_init x6 h7) fun h10 =>
  bd (nA h10 102 (1 : Int32)) fun x11 h12 =>
  bd (lp (B_lw_law_23 a0 x1 x6 x11) FU (0 : Int32) h12) fun x590 h592 =>
  ei x590 (fun q593 =>
  some ((1 : Int32), h592))
  (fun x594 => some (x594, h592))
