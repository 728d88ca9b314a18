def F_rd_readHouse (a0 : Nat) (h : Hp) : Option (Int32 × Hp) :=
  ck h a0 7 (bn (gR h a0 7 3) fun x1 =>
  bn (gI h x1 10 1) fun x3 =>
  bd (F_rd_takeNewName a0 (1 : Int32) x3 h) fun x6 h7 =>
  if x6 = (0 : Int32) then
    (some ((0 : Int32), h7))
  else
    (bn (gR h7 a0 7 2) fun x8 =>
    bn (F_tk_isWord x8 1000013 h7) fun x11 =>
    bn (if x11 = (0 : Int32) then
        (bn (gR h7 a0 7 2) fun x12 =>
        bn (F_tk_isWord x12 1000014 h7) fun x15 =>
        if x15 = (0 : Int32) then
          (bd (F_rd_fail a0 (1 : Int32) h7) fun x17 h18 =>
          if retV .boolean x17 = true then
            (some (Sum.inr (x17, h18)))
          else
            (none))
        else
          (some (Sum.inl h7)))
      else
        (bn (gR h7 a0 7 3) fun x19 =>
        bn (gI h7 x19 10 2) fun x21 =>
        bn (pI h7 x19 10 2 (x21 ||| ((1 : Int32) <<< (x3 &&& 31)))) fun h23 =>
        some (Sum.inl h23))) fun x52 =>
    ei x52 (fun z27 =>
    bn (gR z27 a0 7 2) fun x28 =>
    bn (F_tk_advance x28 z27) fun h31 =>
    bd (F_rd_takeWord a0 1000015 h31) fun x33 h34 =>
    if x33 = (0 : Int32) then
      (some ((0 : Int32), h34))
    else
      (bd (F_rd_takeWhole a0 (0 : Int32) (99 : Int32) h34) fun x36 h37 =>
      if x36 = (0 : Int32) then
        (some ((0 : Int32), h37))
      else
        (bn (gR h37 a0 7 3) fun x38 =>
        bn (gR h37 x38 10 3) fun x40 =>
        bn (gI h37 a0 7 9) fun x42 =>
        bn (sI h37 100 x40 x3 x42) fun h44 =>
        bn (gR h44 a0 7 3) fun x46 =>
        bn (gI h44 x46 10 1) fun x48 =>
        bn (pI h44 x46 10 1 (x48 + (1 : Int32))) fun h50 =>
        some ((1 : Int32), h50))))
    (fun z => some z)))
set_option maxRecDepth 20000 in
theorem K_rd_readHouse {a0 : Nat} {h : Hp} {v : Int32} {h' : Hp} (hS : F_rd_readHouse a0 h = some (v, h')) : kd h a0 = 7 := by
  unfold F_rd_readHouse at hS
  exact (ck_s hS).1
set_option maxRecDepth 20000 in
theorem R_rd_readHouse (d : Nat) (hd : 7 ≤ d) {a0 : Nat} {h : Hp} {v : Int32} {h' : Hp} (hS : F_rd_readHouse a0 h = some (v, h')) : Ev P d 41 (0, [.ref a0, unk], [], h) (some (.int v), h') := by
  unfold F_rd_readHouse at hS
  replace hS := (ck_s hS).2
  refine ev_aload_n pm41 i41_0 rfl rfl rfl ?_
  obtain ⟨x1, e2, hS⟩ := bn_s hS
  refine ev_getR pm41 i41_1 rfl rfl rfl e2 rfl ?_
  obtain ⟨x3, e4, hS⟩ := bn_s hS
  refine ev_getI pm41 i41_4 rfl rfl (by decide) e4 rfl ?_
  refine ev_istore_n (ls' := [.ref a0, .int x3]) pm41 i41_7 rfl (Nat.le_of_ble_eq_true rfl) rfl rfl ?_
  refine ev_aload_n pm41 i41_8 rfl rfl rfl ?_
  refine ev_iconst (v := 1) pm41 i41_9 rfl (by decide) rfl ?_
  refine ev_iload_n pm41 i41_10 rfl rfl rfl ?_
  obtain ⟨x6, h7, e5, hS⟩ := bd_s hS
  refine ev_callV (sa := [.int x3, .int (1 : Int32)]) (rest := []) (st' := [.int x6]) (ls0 := [.ref a0, .int (1 : Int32), .int x3]) (rv := some (.int x6)) pm41 i41_11 rfl rfl pm42 (by decide) (K_rd_takeNewName e5) rfl rfl (Nat.le_of_ble_eq_true rfl) (by omega) rfl (R_rd_takeNewName (d - 1) (by omega) e5) (by simp) rfl rfl ?_
  by_cases c104 : x6 = (0 : Int32)
  · rw [if_pos c104] at hS
    refine ev_if_ne_t (t := 19) pm41 i41_14 rfl c104 rfl rfl ?_
    refine ev_iconst (v := 0) pm41 i41_17 rfl (by decide) rfl ?_
    cases hS
    exact ev_ireturn pm41 i41_18 rfl (by decide) rfl
  · rw [if_neg c104] at hS
    refine ev_if_ne_f (t := 19) pm41 i41_14 rfl c104 rfl rfl ?_
    refine ev_aload_n pm41 i41_19 rfl rfl rfl ?_
    obtain ⟨x8, e9, hS⟩ := bn_s hS
    refine ev_getR pm41 i41_20 rfl rfl rfl e9 rfl ?_
    refine ev_ldc (v := .ref 1000013) pm41 i41_23 rfl rfl rfl ?_
    obtain ⟨x11, e10, hS⟩ := bn_s hS
    refine ev_callV (sa := [.ref 1000013]) (rest := []) (st' := [.int x11]) (ls0 := [.ref x8, .ref 1000013, unk]) (rv := some (.int x11)) pm41 i41_25 rfl rfl pm28 (by decide) (K_tk_isWord e10) rfl rfl (Nat.le_of_ble_eq_true rfl) (by omega) rfl (R_tk_isWord (d - 1) (by omega) e10) (by simp) rfl rfl ?_
    obtain ⟨x52, I105, hS⟩ := bn_s hS
    have J1 : ∀ z27, x52 = Sum.inl z27 → Ev P d 41 (67, [.ref a0, .int x3], [], z27) (some (.int v), h') := by
      intro z27 hx
      subst hx
      replace hS := ei_l hS
      refine ev_aload_n pm41 i41_67 rfl rfl rfl ?_
      obtain ⟨x28, e29, hS⟩ := bn_s hS
      refine ev_getR pm41 i41_68 rfl rfl rfl e29 rfl ?_
      obtain ⟨h31, e30, hS⟩ := bn_s hS
      refine ev_callV (sa := []) (rest := []) (st' := []) (ls0 := [.ref x28]) (rv := none) pm41 i41_71 rfl rfl pm23 (by decide) (K_tk_advance e30) rfl rfl (Nat.le_of_ble_eq_true rfl) (by omega) rfl (R_tk_advance (d - 1) (by omega) e30) (by simp) rfl rfl ?_
      refine ev_aload_n pm41 i41_74 rfl rfl rfl ?_
      refine ev_ldc (v := .ref 1000015) pm41 i41_75 rfl rfl rfl ?_
      obtain ⟨x33, h34, e32, hS⟩ := bd_s hS
      refine ev_callV (sa := [.ref 1000015]) (rest := []) (st' := [.int x33]) (ls0 := [.ref a0, .ref 1000015]) (rv := some (.int x33)) pm41 i41_77 rfl rfl pm39 (by decide) (K_rd_takeWord e32) rfl rfl (Nat.le_of_ble_eq_true rfl) (by omega) rfl (R_rd_takeWord (d - 1) (by omega) e32) (by simp) rfl rfl ?_
      by_cases c106 : x33 = (0 : Int32)
      · rw [if_pos c106] at hS
        refine ev_if_eq_t (t := 93) pm41 i41_80 rfl c106 rfl rfl ?_
        refine ev_kls (ls' := [unk, unk]) pm41 i41_93 rfl rfl ?_
        refine ev_iconst (v := 0) pm41 i41_93 rfl (by decide) rfl ?_
        cases hS
        exact ev_ireturn pm41 i41_94 rfl (by decide) rfl
      · rw [if_neg c106] at hS
        refine ev_if_eq_f (t := 93) pm41 i41_80 rfl c106 rfl rfl ?_
        refine ev_aload_n pm41 i41_83 rfl rfl rfl ?_
        refine ev_iconst (v := 0) pm41 i41_84 rfl (by decide) rfl ?_
        refine ev_bipush (v := 99) pm41 i41_85 rfl (by decide) rfl ?_
        obtain ⟨x36, h37, e35, hS⟩ := bd_s hS
        refine ev_callV (sa := [.int (99 : Int32), .int (0 : Int32)]) (rest := []) (st' := [.int x36]) (ls0 := [.ref a0, .int (0 : Int32), .int (99 : Int32)]) (rv := some (.int x36)) pm41 i41_87 rfl rfl pm40 (by decide) (K_rd_takeWhole e35) rfl rfl (Nat.le_of_ble_eq_true rfl) (by omega) rfl (R_rd_takeWhole (d - 1) (by omega) e35) (by simp) rfl rfl ?_
        by_cases c107 : x36 = (0 : Int32)
        · rw [if_pos c107] at hS
          refine ev_if_ne_t (t := 95) pm41 i41_90 rfl c107 rfl rfl ?_
          refine ev_kls (ls' := [unk, unk]) pm41 i41_93 rfl rfl ?_
          refine ev_iconst (v := 0) pm41 i41_93 rfl (by decide) rfl ?_
          cases hS
          exact ev_ireturn pm41 i41_94 rfl (by decide) rfl
        · rw [if_neg c107] at hS
          refine ev_if_ne_f (t := 95) pm41 i41_90 rfl c107 rfl rfl ?_
          refine ev_aload_n pm41 i41_95 rfl rfl rfl ?_
          obtain ⟨x38, e39, hS⟩ := bn_s hS
          refine ev_getR pm41 i41_96 rfl rfl rfl e39 rfl ?_
          obtain ⟨x40, e41, hS⟩ := bn_s hS
          refine ev_getR pm41 i41_99 rfl rfl rfl e41 rfl ?_
          refine ev_iload_n pm41 i41_102 rfl rfl rfl ?_
          refine ev_aload_n pm41 i41_103 rfl rfl rfl ?_
          obtain ⟨x42, e43, hS⟩ := bn_s hS
          refine ev_getI pm41 i41_104 rfl rfl (by decide) e43 rfl ?_
          obtain ⟨h44, e45, hS⟩ := bn_s hS
          refine ev_iast pm41 i41_107 rfl e45 rfl ?_
          refine ev_aload_n pm41 i41_108 rfl rfl rfl ?_
          obtain ⟨x46, e47, hS⟩ := bn_s hS
          refine ev_getR pm41 i41_109 rfl rfl rfl e47 rfl ?_
          refine ev_dup pm41 i41_112 rfl rfl rfl ?_
          obtain ⟨x48, e49, hS⟩ := bn_s hS
          refine ev_getI pm41 i41_113 rfl rfl (by decide) e49 rfl ?_
          refine ev_iconst (v := 1) pm41 i41_116 rfl (by decide) rfl ?_
          refine ev_b2 (f := fun x y => x + y) pm41 i41_117 rfl (fun _ _ _ _ => rfl) rfl ?_
          obtain ⟨h50, e51, hS⟩ := bn_s hS
          refine ev_putI pm41 i41_118 rfl rfl rfl e51 rfl ?_
          refine ev_iconst (v := 1) pm41 i41_121 rfl (by decide) rfl ?_
          cases hS
          exact ev_ireturn pm41 i41_122 rfl (by decide) rfl
    have Z1 := ej_z hS
    clear hS
    by_cases c105 : x11 = (0 : Int32)
    · rw [if_pos c105] at I105
      refine ev_if_eq_t (t := 49) pm41 i41_28 rfl c105 rfl rfl ?_
      refine ev_aload_n pm41 i41_49 rfl rfl rfl ?_
      obtain ⟨x12, e13, I105⟩ := bn_s I105
      refine ev_getR pm41 i41_50 rfl rfl rfl e13 rfl ?_
      refine ev_ldc (v := .ref 1000014) pm41 i41_53 rfl rfl rfl ?_
      obtain ⟨x15, e14, I105⟩ := bn_s I105
      refine ev_callV (sa := [.ref 1000014]) (rest := []) (st' := [.int x15]) (ls0 := [.ref x12, .ref 1000014, unk]) (rv := some (.int x15)) pm41 i41_55 rfl rfl pm28 (by decide) (K_tk_isWord e14) rfl rfl (Nat.le_of_ble_eq_true rfl) (by omega) rfl (R_tk_isWord (d - 1) (by omega) e14) (by simp) rfl rfl ?_
      by_cases c108 : x15 = (0 : Int32)
      · rw [if_pos c108] at I105
        refine ev_if_ne_t (t := 67) pm41 i41_58 rfl c108 rfl rfl ?_
        refine ev_aload_n pm41 i41_61 rfl rfl rfl ?_
        refine ev_iconst (v := 1) pm41 i41_62 rfl (by decide) rfl ?_
        obtain ⟨x17, h18, e16, I105⟩ := bd_s I105
        refine ev_callV (sa := [.int (1 : Int32)]) (rest := []) (st' := [.int x17]) (ls0 := [.ref a0, .int (1 : Int32)]) (rv := some (.int x17)) pm41 i41_63 rfl rfl pm36 (by decide) (K_rd_fail e16) rfl rfl (Nat.le_of_ble_eq_true rfl) (by omega) rfl (R_rd_fail (d - 1) (by omega) e16) (by simp) rfl rfl ?_
        by_cases c109 : retV .boolean x17 = true
        · rw [if_pos c109] at I105
          cases I105
          have hz1 := Z1 _ rfl
          cases hz1
          exact ev_ireturn pm41 i41_66 rfl c109 rfl
        · rw [if_neg c109] at I105
          cases I105
      · rw [if_neg c108] at I105
        refine ev_if_ne_f (t := 67) pm41 i41_58 rfl c108 rfl rfl ?_
        cases I105
        exact J1 _ rfl
    · rw [if_neg c105] at I105
      refine ev_if_eq_f (t := 49) pm41 i41_28 rfl c105 rfl rfl ?_
      refine ev_aload_n pm41 i41_31 rfl rfl rfl ?_
      obtain ⟨x19, e20, I105⟩ := bn_s I105
      refine ev_getR pm41 i41_32 rfl rfl rfl e20 rfl ?_
      refine ev_dup pm41 i41_35 rfl rfl rfl ?_
      obtain ⟨x21, e22, I105⟩ := bn_s I105
      refine ev_getI pm41 i41_36 rfl rfl (by decide) e22 rfl ?_
      refine ev_iconst (v := 1) pm41 i41_39 rfl (by decide) rfl ?_
      refine ev_iload_n pm41 i41_40 rfl rfl rfl ?_
      refine ev_b2 (f := fun x y => x <<< (y &&& 31)) pm41 i41_41 rfl (fun _ _ _ _ => rfl) rfl ?_
      refine ev_b2 (f := fun x y => x ||| y) pm41 i41_42 rfl (fun _ _ _ _ => rfl) rfl ?_
      obtain ⟨h23, e24, I105⟩ := bn_s I105
      refine ev_putI pm41 i41_43 rfl rfl rfl e24 rfl ?_
      refine ev_goto (t := 67) pm41 i41_46 rfl rfl ?_
      cases I105
      exact J1 _ rfl
def F_rd_numberOfName (a0 : Nat) (a1 : Int32) (h : Hp) : Option (Int32 × Hp) :=
  ck h a0 7 (bn (gR h a0 7 2) fun x1 =>
  bn (gI h x1 9 4) fun x3 =>
  bn (if x3 = (0 : Int32) then
      (bn (F_rd_lineSort a0 h) fun x6 =>
      if x6 = (-1 : Int32) then
        (bn (F_rd_findName a0 h) fun x8 =>
        bn (if x8 < (0 : Int32) then
            (some (Sum.inl ()))
          else
            (bn (gR h a0 7 7) fun x9 =>
            bn (aI h 100 x9 x8) fun x11 =>
            if x11 = a1 then
              (bn (gR h a0 7 8) fun x13 =>
              bn (aI h 100 x13 x8) fun x15 =>
              some (Sum.inr (Sum.inr (x15, h))))
            else
              (some (Sum.inl ())))) fun x22 =>
        ei x22 (fun z18 =>
        bd (F_rd_fail a0 (2 : Int32) h) fun x20 h21 =>
        some (Sum.inr ((-1 : Int32), h21)))
        (fun z => some z))
      else
        (some (Sum.inl ())))
    else
      (some (Sum.inl ()))) fun x28 =>
  ei x28 (fun z24 =>
  bd (F_rd_fail a0 (1 : Int32) h) fun x26 h27 =>
  some ((-1 : Int32), h27))
  (fun z => some z))
set_option maxRecDepth 20000 in
theorem K_rd_numberOfName {a0 : Nat} {a1 : Int32} {h : Hp} {v : Int32} {h' : Hp} (hS : F_rd_numberOfName a0 a1 h = some (v, h')) : kd h a0 = 7 := by
  unfold F_rd_numberOfName at hS
  exact (ck_s hS).1
set_option maxRecDepth 20000 in
theorem R_rd_numberOfName (d : Nat) (hd : 6 ≤ d) {a0 : Nat} {a1 : Int32} {h : Hp} {v : Int32} {h' : Hp} (hS : F_rd_numberOfName a0 a1 h = some (v, h')) : Ev P d 45 (0, [.ref a0, .int a1, unk], [], h) (some (.int v), h') := by
  unfold F_rd_numberOfName at hS
  replace hS := (ck_s hS).2
  refine ev_aload_n pm45 i45_0 rfl rfl rfl ?_
  obtain ⟨x1, e2, hS⟩ := bn_s hS
  refine ev_getR pm45 i45_1 rfl rfl rfl e2 rfl ?_
  obtain ⟨x3, e4, hS⟩ := bn_s hS
  refine ev_getI pm45 i45_4 rfl rfl (by decide) e4 rfl ?_
  obtain ⟨x28, I110, hS⟩ := bn_s hS
  have J1 : ∀ z24, x28 = Sum.inl z24 → Ev P d 45 (18, [.ref a0, unk, unk], [], h) (some (.int v), h') := by
    intro z24 hx
    subst hx
    replace hS := ei_l hS
    refine ev_aload_n pm45 i45_18 rfl rfl rfl ?_
    refine ev_iconst (v := 1) pm45 i45_19 rfl (by decide) rfl ?_
    obtain ⟨x26, h27, e25, hS⟩ := bd_s hS
    refine ev_callV (sa := [.int (1 : Int32)]) (rest := []) (st' := [.int x26]) (ls0 := [.ref a0, .int (1 : Int32)]) (rv := some (.int x26)) pm45 i45_20 rfl rfl pm36 (by decide) (K_rd_fail e25) rfl rfl (Nat.le_of_ble_eq_true rfl) (by omega) rfl (R_rd_fail (d - 1) (by omega) e25) (by simp) rfl rfl ?_
    refine ev_pop pm45 i45_23 rfl rfl rfl ?_
    refine ev_iconst (v := -1) pm45 i45_24 rfl (by decide) rfl ?_
    cases hS
    exact ev_ireturn pm45 i45_25 rfl rfl rfl
  have Z1 := ej_z hS
  clear hS
  by_cases c110 : x3 = (0 : Int32)
  · rw [if_pos c110] at I110
    refine ev_if_ne_t (t := 18) pm45 i45_7 rfl c110 rfl rfl ?_
    refine ev_aload_n pm45 i45_10 rfl rfl rfl ?_
    obtain ⟨x6, e5, I110⟩ := bn_s I110
    refine ev_callV (sa := []) (rest := []) (st' := [.int x6]) (ls0 := [.ref a0]) (rv := some (.int x6)) pm45 i45_11 rfl rfl pm27 (by decide) (K_rd_lineSort e5) rfl rfl (Nat.le_of_ble_eq_true rfl) (by omega) rfl (R_rd_lineSort (d - 1) (by omega) e5) (by simp) rfl rfl ?_
    refine ev_iconst (v := -1) pm45 i45_14 rfl (by decide) rfl ?_
    by_cases c111 : x6 = (-1 : Int32)
    · rw [if_pos c111] at I110
      refine ev_icmp_eq_t (t := 26) pm45 i45_15 rfl c111 rfl rfl ?_
      refine ev_aload_n pm45 i45_26 rfl rfl rfl ?_
      obtain ⟨x8, e7, I110⟩ := bn_s I110
      refine ev_callV (sa := []) (rest := []) (st' := [.int x8]) (ls0 := [.ref a0, unk]) (rv := some (.int x8)) pm45 i45_27 rfl rfl pm43 (by decide) (K_rd_findName e7) rfl rfl (Nat.le_of_ble_eq_true rfl) (by omega) rfl (R_rd_findName (d - 1) (by omega) e7) (by simp) rfl rfl ?_
      refine ev_istore_n (ls' := [.ref a0, .int a1, .int x8]) pm45 i45_30 rfl (Nat.le_of_ble_eq_true rfl) rfl rfl ?_
      refine ev_iload_n pm45 i45_31 rfl rfl rfl ?_
      obtain ⟨x22, I112, I110⟩ := bn_s I110
      have J2 : ∀ z18, x22 = Sum.inl z18 → Ev P d 45 (45, [.ref a0, unk, unk], [], h) (some (.int v), h') := by
        intro z18 hx
        subst hx
        replace I110 := ei_l I110
        refine ev_aload_n pm45 i45_45 rfl rfl rfl ?_
        refine ev_iconst (v := 2) pm45 i45_46 rfl (by decide) rfl ?_
        obtain ⟨x20, h21, e19, I110⟩ := bd_s I110
        refine ev_callV (sa := [.int (2 : Int32)]) (rest := []) (st' := [.int x20]) (ls0 := [.ref a0, .int (2 : Int32)]) (rv := some (.int x20)) pm45 i45_47 rfl rfl pm36 (by decide) (K_rd_fail e19) rfl rfl (Nat.le_of_ble_eq_true rfl) (by omega) rfl (R_rd_fail (d - 1) (by omega) e19) (by simp) rfl rfl ?_
        refine ev_pop pm45 i45_50 rfl rfl rfl ?_
        refine ev_iconst (v := -1) pm45 i45_51 rfl (by decide) rfl ?_
        cases I110
        have hz1 := Z1 _ rfl
        cases hz1
        exact ev_ireturn pm45 i45_52 rfl rfl rfl
      have Z2 := ej_z I110
      clear I110
      by_cases c112 : x8 < (0 : Int32)
      · rw [if_pos c112] at I112
        refine ev_if_lt_t (t := 45) pm45 i45_32 rfl c112 rfl rfl ?_
        refine ev_kls (ls' := [.ref a0, unk, unk]) pm45 i45_45 rfl rfl ?_
        cases I112
        exact J2 _ rfl
      · rw [if_neg c112] at I112
        refine ev_if_lt_f (t := 45) pm45 i45_32 rfl c112 rfl rfl ?_
        refine ev_aload_n pm45 i45_35 rfl rfl rfl ?_
        obtain ⟨x9, e10, I112⟩ := bn_s I112
        refine ev_getR pm45 i45_36 rfl rfl rfl e10 rfl ?_
        refine ev_iload_n pm45 i45_39 rfl rfl rfl ?_
        obtain ⟨x11, e12, I112⟩ := bn_s I112
        refine ev_iald pm45 i45_40 rfl e12 rfl ?_
        refine ev_iload_n pm45 i45_41 rfl rfl rfl ?_
        by_cases c113 : x11 = a1
        · rw [if_pos c113] at I112
          refine ev_icmp_eq_t (t := 53) pm45 i45_42 rfl c113 rfl rfl ?_
          refine ev_aload_n pm45 i45_53 rfl rfl rfl ?_
          obtain ⟨x13, e14, I112⟩ := bn_s I112
          refine ev_getR pm45 i45_54 rfl rfl rfl e14 rfl ?_
          refine ev_iload_n pm45 i45_57 rfl rfl rfl ?_
          obtain ⟨x15, e16, I112⟩ := bn_s I112
          refine ev_iald pm45 i45_58 rfl e16 rfl ?_
          cases I112
          have hz2 := Z2 _ rfl
          cases hz2
          have hz1 := Z1 _ rfl
          cases hz1
          exact ev_ireturn pm45 i45_59 rfl rfl rfl
        · rw [if_neg c113] at I112
          refine ev_icmp_eq_f (t := 53) pm45 i45_42 rfl c113 rfl rfl ?_
          refine ev_kls (ls' := [.ref a0, unk, unk]) pm45 i45_45 rfl rfl ?_
          cases I112
          exact J2 _ rfl
    · rw [if_neg c111] at I110
      refine ev_icmp_eq_f (t := 26) pm45 i45_15 rfl c111 rfl rfl ?_
      refine ev_kls (ls' := [.ref a0, unk, unk]) pm45 i45_18 rfl rfl ?_
      cases I110
      exact J1 _ rfl
  · rw [if_neg c110] at I110
    refine ev_if_ne_f (t := 18) pm45 i45_7 rfl c110 rfl rfl ?_
    refine ev_kls (ls' := [.ref a0, unk, unk]) pm45 i45_18 rfl rfl ?_
    cases I110
    exact J1 _ rfl
def F_ma_max (a0 : Int32) (a1 : Int32) : Option Int32 :=
  if a0 < a1 then
    (some a1)
  else
    (some a0)
set_option maxRecDepth 20000 in
theorem R_ma_max (d : Nat) (hd : 0 ≤ d) {a0 : Int32} {a1 : Int32} {h : Hp} {v : Int32} (hS : F_ma_max a0 a1 = some v) : Ev P d 47 (0, [.int a0, .int a1], [], h) (some (.int v), h) := by
  unfold F_ma_max at hS
  refine ev_iload_n pm47 i47_0 rfl rfl rfl ?_
  refine ev_iload_n pm47 i47_1 rfl rfl rfl ?_
  by_cases c114 : a0 < a1
  · rw [if_pos c114] at hS
    refine ev_icmp_lt_t (t := 9) pm47 i47_2 rfl c114 rfl rfl ?_
    refine ev_iload_n pm47 i47_9 rfl rfl rfl ?_
    refine ev_kls (ls' := [unk, unk]) pm47 i47_10 rfl rfl ?_
    cases hS
    exact ev_ireturn pm47 i47_10 rfl rfl rfl
  · rw [if_neg c114] at hS
    refine ev_icmp_lt_f (t := 9) pm47 i47_2 rfl c114 rfl rfl ?_
    refine ev_iload_n pm47 i47_5 rfl rfl rfl ?_
    refine ev_goto (t := 10) pm47 i47_6 rfl rfl ?_
    refine ev_kls (ls' := [unk, unk]) pm47 i47_10 rfl rfl ?_
    cases hS
    exact ev_ireturn pm47 i47_10 rfl rfl rfl
def B_to_hasRope_2 (l0 : Nat) (l1 : Int32) (l2 : Int32) (h : Hp) (s : Int32) : Option ((Int32) ⊕ ((Unit) ⊕ Int32)) :=
  bn (gI h l0 10 5) fun x1 =>
  if s < x1 then
    (bn (gR h l0 10 6) fun x3 =>
    bn (aI h 100 x3 s) fun x5 =>
    bn (F_ma_min l1 l2) fun x8 =>
    if x5 = x8 then
      (bn (gR h l0 10 7) fun x9 =>
      bn (aI h 100 x9 s) fun x11 =>
      bn (F_ma_max l1 l2) fun x14 =>
      if x11 = x14 then
        (some (.inr (.inr (1 : Int32))))
      else
        (some (.inl (s + (1 : Int32)))))
    else
      (some (.inl (s + (1 : Int32)))))
  else
    (some (.inr (.inl ())))
set_option maxRecDepth 20000 in
theorem L_to_hasRope_2 (d : Nat) (hd : 1 ≤ d) {l0 : Nat} {l1 : Int32} {l2 : Int32} {h : Hp} : ∀ (n : Nat) (s : Int32) (x : (Unit) ⊕ Int32), lq (B_to_hasRope_2 l0 l1 l2 h) n s = some x → ∀ r, ei x (fun q => Ev P d 46 (46, [unk, unk, unk, unk], [], h) r) (fun v => (some (.int v), h) = r) → Ev P d 46 (2, [.ref l0, .int l1, .int l2, .int s], [], h) r := by
  refine lq_ev (G0 := fun (s : Int32) r => Ev P d 46 (2, [.ref l0, .int l1, .int l2, .int s], [], h) r) (X := fun (x : (Unit) ⊕ Int32) r => ei x (fun q => Ev P d 46 (46, [unk, unk, unk, unk], [], h) r) (fun v => (some (.int v), h) = r)) ?_
  intro s y hS r hK
  unfold B_to_hasRope_2 at hS
  show Ev P d 46 (2, [.ref l0, .int l1, .int l2, .int s], [], h) r
  refine ev_iload_n pm46 i46_2 rfl rfl rfl ?_
  refine ev_aload_n pm46 i46_3 rfl rfl rfl ?_
  obtain ⟨x1, e2, hS⟩ := bn_s hS
  refine ev_getI pm46 i46_4 rfl rfl (by decide) e2 rfl ?_
  by_cases c115 : s < x1
  · rw [if_pos c115] at hS
    refine ev_icmp_ge_t (t := 46) pm46 i46_7 rfl c115 rfl rfl ?_
    refine ev_aload_n pm46 i46_10 rfl rfl rfl ?_
    obtain ⟨x3, e4, hS⟩ := bn_s hS
    refine ev_getR pm46 i46_11 rfl rfl rfl e4 rfl ?_
    refine ev_iload_n pm46 i46_14 rfl rfl rfl ?_
    obtain ⟨x5, e6, hS⟩ := bn_s hS
    refine ev_iald pm46 i46_15 rfl e6 rfl ?_
    refine ev_iload_n pm46 i46_16 rfl rfl rfl ?_
    refine ev_iload_n pm46 i46_17 rfl rfl rfl ?_
    obtain ⟨x8, e7, hS⟩ := bn_s hS
    refine ev_callS (sa := [.int l2, .int l1]) (rest := [.int x5]) (st' := [.int x8, .int x5]) (ls0 := [.int l1, .int l2]) (rv := some (.int x8)) pm46 i46_18 rfl rfl pm22 (by decide) rfl rfl (Nat.le_of_ble_eq_true rfl) (by omega) rfl (R_ma_min (d - 1) (by omega) e7) (by simp) rfl rfl ?_
    by_cases c116 : x5 = x8
    · rw [if_pos c116] at hS
      refine ev_icmp_ne_t (t := 40) pm46 i46_21 rfl c116 rfl rfl ?_
      refine ev_aload_n pm46 i46_24 rfl rfl rfl ?_
      obtain ⟨x9, e10, hS⟩ := bn_s hS
      refine ev_getR pm46 i46_25 rfl rfl rfl e10 rfl ?_
      refine ev_iload_n pm46 i46_28 rfl rfl rfl ?_
      obtain ⟨x11, e12, hS⟩ := bn_s hS
      refine ev_iald pm46 i46_29 rfl e12 rfl ?_
      refine ev_iload_n pm46 i46_30 rfl rfl rfl ?_
      refine ev_iload_n pm46 i46_31 rfl rfl rfl ?_
      obtain ⟨x14, e13, hS⟩ := bn_s hS
      refine ev_callS (sa := [.int l2, .int l1]) (rest := [.int x11]) (st' := [.int x14, .int x11]) (ls0 := [.int l1, .int l2]) (rv := some (.int x14)) pm46 i46_32 rfl rfl pm47 (by decide) rfl rfl (Nat.le_of_ble_eq_true rfl) (by omega) rfl (R_ma_max (d - 1) (by omega) e13) (by simp) rfl rfl ?_
      by_cases c117 : x11 = x14
      · rw [if_pos c117] at hS
        refine ev_icmp_ne_t (t := 40) pm46 i46_35 rfl c117 rfl rfl ?_
        refine ev_iconst (v := 1) pm46 i46_38 rfl (by decide) rfl ?_
        cases hS
        exact ev_ireturn pm46 i46_39 rfl (by decide) hK
      · rw [if_neg c117] at hS
        refine ev_icmp_ne_f (t := 40) pm46 i46_35 rfl c117 rfl rfl ?_
        refine ev_iinc (v := 1) (ls' := [.ref l0, .int l1, .int l2, .int (s + (1 : Int32))]) pm46 i46_40 rfl rfl (by decide) rfl rfl ?_
        refine ev_goto (t := 2) pm46 i46_43 rfl rfl ?_
        cases hS
        exact hK
    · rw [if_neg c116] at hS
      refine ev_icmp_ne_f (t := 40) pm46 i46_21 rfl c116 rfl rfl ?_
      refine ev_iinc (v := 1) (ls' := [.ref l0, .int l1, .int l2, .int (s + (1 : Int32))]) pm46 i46_40 rfl rfl (by decide) rfl rfl ?_
      refine ev_goto (t := 2) pm46 i46_43 rfl rfl ?_
      cases hS
      exact hK
  · rw [if_neg c115] at hS
    refine ev_icmp_ge_f (t := 46) pm46 i46_7 rfl c115 rfl rfl ?_
    refine ev_kls (ls' := [unk, unk, unk, unk]) pm46 i46_46 rfl rfl ?_
    cases hS
    exact hK
def F_to_hasRope (a0 : Nat) (a1 : Int32) (a2 : Int32) (h : Hp) : Option Int32 :=
  ck h a0 10 (bn (lq (B_to_hasRope_2 a0 a1 a2 h) FU (0 : Int32)) fun x15 =>
  ei x15 (fun q17 =>
  some (0 : Int32))
  (fun x18 => some x18))
set_option maxRecDepth 20000 in
theorem K_to_hasRope {a0 : Nat} {a1 : Int32} {a2 : Int32} {h : Hp} {v : Int32} (hS : F_to_hasRope a0 a1 a2 h = some v) : kd h a0 = 10 := by
  unfold F_to_hasRope at hS
  exact (ck_s hS).1
set_option maxRecDepth 20000 in
theorem R_to_hasRope (d : Nat) (hd : 1 ≤ d) {a0 : Nat} {a1 : Int32} {a2 : Int32} {h : Hp} {v : Int32} (hS : F_to_hasRope a0 a1 a2 h = some v) : Ev P d 46 (0, [.ref a0, .int a1, .int a2, unk], [], h) (some (.int v), h) := by
  unfold F_to_hasRope at hS
  replace hS := (ck_s hS).2
  refine ev_iconst (v := 0) pm46 i46_0 rfl (by decide) rfl ?_
  refine ev_istore_n (ls' := [.ref a0, .int a1, .int a2, .int (0 : Int32)]) pm46 i46_1 rfl (Nat.le_of_ble_eq_true rfl) rfl rfl ?_
  obtain ⟨x15, e16, hS⟩ := bn_s hS
  refine L_to_hasRope_2 d (by omega) _ _ _ e16 _ ?_
  cases x15 with
  | inl q17 =>
    replace hS := ei_l hS
    show Ev P d 46 (46, [unk, unk, unk, unk], [], h) _
    refine ev_iconst (v := 0) pm46 i46_46 rfl (by decide) rfl ?_
    cases hS
    exact ev_ireturn pm46 i46_47 rfl (by decide) rfl
  | inr x18 =>
    replace hS := ei_r hS
    cases hS
    rfl
def F_rd_readRope (a0 : Nat) (h : Hp) : Option (Int32 × Hp) :=
  ck h a0 7 (bd (F_rd_numberOfName a0 (1 : Int32) h) fun x2 h3 =>
  if x2 < (0 : Int32) then
    (some ((0 : Int32), h3))
  else
    (bn (gR h3 a0 7 2) fun x4 =>
    bn (F_tk_advance x4 h3) fun h7 =>
    bd (F_rd_numberOfName a0 (1 : Int32) h7) fun x9 h10 =>
    if x9 < (0 : Int32) then
      (some ((0 : Int32), h10))
    else
      (bn (if x2 = x9 then
          (some (Sum.inl ()))
        else
          (bn (gR h10 a0 7 3) fun x11 =>
          bn (F_to_hasRope x11 x2 x9 h10) fun x14 =>
          if x14 = (0 : Int32) then
            (bn (gR h10 a0 7 2) fun x15 =>
            bn (F_tk_advance x15 h10) fun h18 =>
            bn (gR h18 a0 7 3) fun x19 =>
            bn (gR h18 x19 10 6) fun x21 =>
            bn (gR h18 a0 7 3) fun x23 =>
            bn (gI h18 x23 10 5) fun x25 =>
            bn (F_ma_min x2 x9) fun x28 =>
            bn (sI h18 100 x21 x25 x28) fun h29 =>
            bn (gR h29 a0 7 3) fun x31 =>
            bn (gR h29 x31 10 7) fun x33 =>
            bn (gR h29 a0 7 3) fun x35 =>
            bn (gI h29 x35 10 5) fun x37 =>
            bn (F_ma_max x2 x9) fun x40 =>
            bn (sI h29 100 x33 x37 x40) fun h41 =>
            bn (gR h41 a0 7 3) fun x43 =>
            bn (gI h41 x43 10 5) fun x45 =>
            bn (pI h41 x43 10 5 (x45 + (1 : Int32))) fun h47 =>
            some (Sum.inr ((1 : Int32), h47)))
          else
            (some (Sum.inl ())))) fun x54 =>
      ei x54 (fun z50 =>
      bd (F_rd_fail a0 (3 : Int32) h10) fun x52 h53 =>
      if retV .boolean x52 = true then
        (some (x52, h53))
      else
        (none))
      (fun z => some z))))
set_option maxRecDepth 20000 in
theorem K_rd_readRope {a0 : Nat} {h : Hp} {v : Int32} {h' : Hp} (hS : F_rd_readRope a0 h = some (v, h')) : kd h a0 = 7 := by
  unfold F_rd_readRope at hS
  exact (ck_s hS).1
set_option maxRecDepth 20000 in
theorem R_rd_readRope (d : Nat) (hd : 7 ≤ d) {a0 : Nat} {h : Hp} {v : Int32} {h' : Hp} (hS : F_rd_readRope a0 h = some (v, h')) : Ev P d 44 (0, [.ref a0, unk, unk], [], h) (some (.int v), h') := by
  unfold F_rd_readRope at hS
  replace hS := (ck_s hS).2
  refine ev_aload_n pm44 i44_0 rfl rfl rfl ?_
  refine ev_iconst (v := 1) pm44 i44_1 rfl (by decide) rfl ?_
  obtain ⟨x2, h3, e1, hS⟩ := bd_s hS
  refine ev_callV (sa := [.int (1 : Int32)]) (rest := []) (st' := [.int x2]) (ls0 := [.ref a0, .int (1 : Int32), unk]) (rv := some (.int x2)) pm44 i44_2 rfl rfl pm45 (by decide) (K_rd_numberOfName e1) rfl rfl (Nat.le_of_ble_eq_true rfl) (by omega) rfl (R_rd_numberOfName (d - 1) (by omega) e1) (by simp) rfl rfl ?_
  refine ev_istore_n (ls' := [.ref a0, .int x2, unk]) pm44 i44_5 rfl (Nat.le_of_ble_eq_true rfl) rfl rfl ?_
  refine ev_iload_n pm44 i44_6 rfl rfl rfl ?_
  by_cases c118 : x2 < (0 : Int32)
  · rw [if_pos c118] at hS
    refine ev_if_ge_t (t := 12) pm44 i44_7 rfl c118 rfl rfl ?_
    refine ev_iconst (v := 0) pm44 i44_10 rfl (by decide) rfl ?_
    cases hS
    exact ev_ireturn pm44 i44_11 rfl (by decide) rfl
  · rw [if_neg c118] at hS
    refine ev_if_ge_f (t := 12) pm44 i44_7 rfl c118 rfl rfl ?_
    refine ev_aload_n pm44 i44_12 rfl rfl rfl ?_
    obtain ⟨x4, e5, hS⟩ := bn_s hS
    refine ev_getR pm44 i44_13 rfl rfl rfl e5 rfl ?_
    obtain ⟨h7, e6, hS⟩ := bn_s hS
    refine ev_callV (sa := []) (rest := []) (st' := []) (ls0 := [.ref x4]) (rv := none) pm44 i44_16 rfl rfl pm23 (by decide) (K_tk_advance e6) rfl rfl (Nat.le_of_ble_eq_true rfl) (by omega) rfl (R_tk_advance (d - 1) (by omega) e6) (by simp) rfl rfl ?_
    refine ev_aload_n pm44 i44_19 rfl rfl rfl ?_
    refine ev_iconst (v := 1) pm44 i44_20 rfl (by decide) rfl ?_
    obtain ⟨x9, h10, e8, hS⟩ := bd_s hS
    refine ev_callV (sa := [.int (1 : Int32)]) (rest := []) (st' := [.int x9]) (ls0 := [.ref a0, .int (1 : Int32), unk]) (rv := some (.int x9)) pm44 i44_21 rfl rfl pm45 (by decide) (K_rd_numberOfName e8) rfl rfl (Nat.le_of_ble_eq_true rfl) (by omega) rfl (R_rd_numberOfName (d - 1) (by omega) e8) (by simp) rfl rfl ?_
    refine ev_istore_n (ls' := [.ref a0, .int x2, .int x9]) pm44 i44_24 rfl (Nat.le_of_ble_eq_true rfl) rfl rfl ?_
    refine ev_iload_n pm44 i44_25 rfl rfl rfl ?_
    by_cases c119 : x9 < (0 : Int32)
    · rw [if_pos c119] at hS
      refine ev_if_ge_t (t := 31) pm44 i44_26 rfl c119 rfl rfl ?_
      refine ev_iconst (v := 0) pm44 i44_29 rfl (by decide) rfl ?_
      cases hS
      exact ev_ireturn pm44 i44_30 rfl (by decide) rfl
    · rw [if_neg c119] at hS
      refine ev_if_ge_f (t := 31) pm44 i44_26 rfl c119 rfl rfl ?_
      refine ev_iload_n pm44 i44_31 rfl rfl rfl ?_
      refine ev_iload_n pm44 i44_32 rfl rfl rfl ?_
      obtain ⟨x54, I120, hS⟩ := bn_s hS
      have J1 : ∀ z50, x54 = Sum.inl z50 → Ev P d 44 (48, [.ref a0, unk, unk], [], h10) (some (.int v), h') := by
        intro z50 hx
        subst hx
        replace hS := ei_l hS
        refine ev_aload_n pm44 i44_48 rfl rfl rfl ?_
        refine ev_iconst (v := 3) pm44 i44_49 rfl (by decide) rfl ?_
        obtain ⟨x52, h53, e51, hS⟩ := bd_s hS
        refine ev_callV (sa := [.int (3 : Int32)]) (rest := []) (st' := [.int x52]) (ls0 := [.ref a0, .int (3 : Int32)]) (rv := some (.int x52)) pm44 i44_50 rfl rfl pm36 (by decide) (K_rd_fail e51) rfl rfl (Nat.le_of_ble_eq_true rfl) (by omega) rfl (R_rd_fail (d - 1) (by omega) e51) (by simp) rfl rfl ?_
        by_cases c121 : retV .boolean x52 = true
        · rw [if_pos c121] at hS
          cases hS
          exact ev_ireturn pm44 i44_53 rfl c121 rfl
        · rw [if_neg c121] at hS
          cases hS
      have Z1 := ej_z hS
      clear hS
      by_cases c120 : x2 = x9
      · rw [if_pos c120] at I120
        refine ev_icmp_eq_t (t := 48) pm44 i44_33 rfl c120 rfl rfl ?_
        refine ev_kls (ls' := [.ref a0, unk, unk]) pm44 i44_48 rfl rfl ?_
        cases I120
        exact J1 _ rfl
      · rw [if_neg c120] at I120
        refine ev_icmp_eq_f (t := 48) pm44 i44_33 rfl c120 rfl rfl ?_
        refine ev_aload_n pm44 i44_36 rfl rfl rfl ?_
        obtain ⟨x11, e12, I120⟩ := bn_s I120
        refine ev_getR pm44 i44_37 rfl rfl rfl e12 rfl ?_
        refine ev_iload_n pm44 i44_40 rfl rfl rfl ?_
        refine ev_iload_n pm44 i44_41 rfl rfl rfl ?_
        obtain ⟨x14, e13, I120⟩ := bn_s I120
        refine ev_callV (sa := [.int x9, .int x2]) (rest := []) (st' := [.int x14]) (ls0 := [.ref x11, .int x2, .int x9, unk]) (rv := some (.int x14)) pm44 i44_42 rfl rfl pm46 (by decide) (K_to_hasRope e13) rfl rfl (Nat.le_of_ble_eq_true rfl) (by omega) rfl (R_to_hasRope (d - 1) (by omega) e13) (by simp) rfl rfl ?_
        by_cases c122 : x14 = (0 : Int32)
        · rw [if_pos c122] at I120
          refine ev_if_eq_t (t := 54) pm44 i44_45 rfl c122 rfl rfl ?_
          refine ev_aload_n pm44 i44_54 rfl rfl rfl ?_
          obtain ⟨x15, e16, I120⟩ := bn_s I120
          refine ev_getR pm44 i44_55 rfl rfl rfl e16 rfl ?_
          obtain ⟨h18, e17, I120⟩ := bn_s I120
          refine ev_callV (sa := []) (rest := []) (st' := []) (ls0 := [.ref x15]) (rv := none) pm44 i44_58 rfl rfl pm23 (by decide) (K_tk_advance e17) rfl rfl (Nat.le_of_ble_eq_true rfl) (by omega) rfl (R_tk_advance (d - 1) (by omega) e17) (by simp) rfl rfl ?_
          refine ev_aload_n pm44 i44_61 rfl rfl rfl ?_
          obtain ⟨x19, e20, I120⟩ := bn_s I120
          refine ev_getR pm44 i44_62 rfl rfl rfl e20 rfl ?_
          obtain ⟨x21, e22, I120⟩ := bn_s I120
          refine ev_getR pm44 i44_65 rfl rfl rfl e22 rfl ?_
          refine ev_aload_n pm44 i44_68 rfl rfl rfl ?_
          obtain ⟨x23, e24, I120⟩ := bn_s I120
          refine ev_getR pm44 i44_69 rfl rfl rfl e24 rfl ?_
          obtain ⟨x25, e26, I120⟩ := bn_s I120
          refine ev_getI pm44 i44_72 rfl rfl (by decide) e26 rfl ?_
          refine ev_iload_n pm44 i44_75 rfl rfl rfl ?_
          refine ev_iload_n pm44 i44_76 rfl rfl rfl ?_
          obtain ⟨x28, e27, I120⟩ := bn_s I120
          refine ev_callS (sa := [.int x9, .int x2]) (rest := [.int x25, .ref x21]) (st' := [.int x28, .int x25, .ref x21]) (ls0 := [.int x2, .int x9]) (rv := some (.int x28)) pm44 i44_77 rfl rfl pm22 (by decide) rfl rfl (Nat.le_of_ble_eq_true rfl) (by omega) rfl (R_ma_min (d - 1) (by omega) e27) (by simp) rfl rfl ?_
          obtain ⟨h29, e30, I120⟩ := bn_s I120
          refine ev_iast pm44 i44_80 rfl e30 rfl ?_
          refine ev_aload_n pm44 i44_81 rfl rfl rfl ?_
          obtain ⟨x31, e32, I120⟩ := bn_s I120
          refine ev_getR pm44 i44_82 rfl rfl rfl e32 rfl ?_
          obtain ⟨x33, e34, I120⟩ := bn_s I120
          refine ev_getR pm44 i44_85 rfl rfl rfl e34 rfl ?_
          refine ev_aload_n pm44 i44_88 rfl rfl rfl ?_
          obtain ⟨x35, e36, I120⟩ := bn_s I120
          refine ev_getR pm44 i44_89 rfl rfl rfl e36 rfl ?_
          obtain ⟨x37, e38, I120⟩ := bn_s I120
          refine ev_getI pm44 i44_92 rfl rfl (by decide) e38 rfl ?_
          refine ev_iload_n pm44 i44_95 rfl rfl rfl ?_
          refine ev_iload_n pm44 i44_96 rfl rfl rfl ?_
          obtain ⟨x40, e39, I120⟩ := bn_s I120
          refine ev_callS (sa := [.int x9, .int x2]) (rest := [.int x37, .ref x33]) (st' := [.int x40, .int x37, .ref x33]) (ls0 := [.int x2, .int x9]) (rv := some (.int x40)) pm44 i44_97 rfl rfl pm47 (by decide) rfl rfl (Nat.le_of_ble_eq_true rfl) (by omega) rfl (R_ma_max (d - 1) (by omega) e39) (by simp) rfl rfl ?_
          obtain ⟨h41, e42, I120⟩ := bn_s I120
          refine ev_iast pm44 i44_100 rfl e42 rfl ?_
          refine ev_aload_n pm44 i44_101 rfl rfl rfl ?_
          obtain ⟨x43, e44, I120⟩ := bn_s I120
          refine ev_getR pm44 i44_102 rfl rfl rfl e44 rfl ?_
          refine ev_dup pm44 i44_105 rfl rfl rfl ?_
          obtain ⟨x45, e46, I120⟩ := bn_s I120
          refine ev_getI pm44 i44_106 rfl rfl (by decide) e46 rfl ?_
          refine ev_iconst (v := 1) pm44 i44_109 rfl (by decide) rfl ?_
          refine ev_b2 (f := fun x y => x + y) pm44 i44_110 rfl (fun _ _ _ _ => rfl) rfl ?_
          obtain ⟨h47, e48, I120⟩ := bn_s I120
          refine ev_putI pm44 i44_111 rfl rfl rfl e48 rfl ?_
          refine ev_iconst (v := 1) pm44 i44_114 rfl (by decide) rfl ?_
          cases I120
          have hz1 := Z1 _ rfl
          cases hz1
          exact ev_ireturn pm44 i44_115 rfl (by decide) rfl
        · rw [if_neg c122] at I120
          refine ev_if_eq_f (t := 54) pm44 i44_45 rfl c122 rfl rfl ?_
          refine ev_kls (ls' := [.ref a0, unk, unk]) pm44 i44_48 rfl rfl ?_
          cases I120
          exact J1 _ rfl
def F_rd_kindHere (a0 : Nat) (h : Hp) : Option Int32 :=
  ck h a0 7 (bn (gR h a0 7 2) fun x1 =>
  bn (F_tk_isWord x1 1000016 h) fun x4 =>
  if x4 = (0 : Int32) then
    (bn (gR h a0 7 2) fun x5 =>
    bn (F_tk_isWord x5 1000017 h) fun x8 =>
    if x8 = (0 : Int32) then
      (bn (gR h a0 7 2) fun x9 =>
      bn (F_tk_isWord x9 1000018 h) fun x12 =>
      if x12 = (0 : Int32) then
        (bn (gR h a0 7 2) fun x13 =>
        bn (F_tk_isWord x13 1000019 h) fun x16 =>
        if x16 = (0 : Int32) then
          (bn (gR h a0 7 2) fun x17 =>
          bn (F_tk_isWord x17 1000020 h) fun x20 =>
          if x20 = (0 : Int32) then
            (some (-1 : Int32))
          else
            (some (4 : Int32)))
        else
          (some (3 : Int32)))
      else
        (some (2 : Int32)))
    else
      (some (1 : Int32)))
  else
    (some (0 : Int32)))
set_option maxRecDepth 20000 in
theorem K_rd_kindHere {a0 : Nat} {h : Hp} {v : Int32} (hS : F_rd_kindHere a0 h = some v) : kd h a0 = 7 := by
  unfold F_rd_kindHere at hS
  exact (ck_s hS).1
set_option maxRecDepth 20000 in
theorem R_rd_kindHere (d : Nat) (hd : 5 ≤ d) {a0 : Nat} {h : Hp} {v : Int32} (hS : F_rd_kindHere a0 h = some v) : Ev P d 49 (0, [.ref a0], [], h) (some (.int v), h) := by
  unfold F_rd_kindHere at hS
  replace hS := (ck_s hS).2
  refine ev_aload_n pm49 i49_0 rfl rfl rfl ?_
  obtain ⟨x1, e2, hS⟩ := bn_s hS
  refine ev_getR pm49 i49_1 rfl rfl rfl e2 rfl ?_
  refine ev_ldc_w (v := .ref 1000016) pm49 i49_4 rfl rfl rfl ?_
  obtain ⟨x4, e3, hS⟩ := bn_s hS
  refine ev_callV (sa := [.ref 1000016]) (rest := []) (st' := [.int x4]) (ls0 := [.ref x1, .ref 1000016, unk]) (rv := some (.int x4)) pm49 i49_7 rfl rfl pm28 (by decide) (K_tk_isWord e3) rfl rfl (Nat.le_of_ble_eq_true rfl) (by omega) rfl (R_tk_isWord (d - 1) (by omega) e3) (by simp) rfl rfl ?_
  by_cases c123 : x4 = (0 : Int32)
  · rw [if_pos c123] at hS
    refine ev_if_eq_t (t := 15) pm49 i49_10 rfl c123 rfl rfl ?_
    refine ev_aload_n pm49 i49_15 rfl rfl rfl ?_
    obtain ⟨x5, e6, hS⟩ := bn_s hS
    refine ev_getR pm49 i49_16 rfl rfl rfl e6 rfl ?_
    refine ev_ldc_w (v := .ref 1000017) pm49 i49_19 rfl rfl rfl ?_
    obtain ⟨x8, e7, hS⟩ := bn_s hS
    refine ev_callV (sa := [.ref 1000017]) (rest := []) (st' := [.int x8]) (ls0 := [.ref x5, .ref 1000017, unk]) (rv := some (.int x8)) pm49 i49_22 rfl rfl pm28 (by decide) (K_tk_isWord e7) rfl rfl (Nat.le_of_ble_eq_true rfl) (by omega) rfl (R_tk_isWord (d - 1) (by omega) e7) (by simp) rfl rfl ?_
    by_cases c124 : x8 = (0 : Int32)
    · rw [if_pos c124] at hS
      refine ev_if_eq_t (t := 30) pm49 i49_25 rfl c124 rfl rfl ?_
      refine ev_aload_n pm49 i49_30 rfl rfl rfl ?_
      obtain ⟨x9, e10, hS⟩ := bn_s hS
      refine ev_getR pm49 i49_31 rfl rfl rfl e10 rfl ?_
      refine ev_ldc_w (v := .ref 1000018) pm49 i49_34 rfl rfl rfl ?_
      obtain ⟨x12, e11, hS⟩ := bn_s hS
      refine ev_callV (sa := [.ref 1000018]) (rest := []) (st' := [.int x12]) (ls0 := [.ref x9, .ref 1000018, unk]) (rv := some (.int x12)) pm49 i49_37 rfl rfl pm28 (by decide) (K_tk_isWord e11) rfl rfl (Nat.le_of_ble_eq_true rfl) (by omega) rfl (R_tk_isWord (d - 1) (by omega) e11) (by simp) rfl rfl ?_
      by_cases c125 : x12 = (0 : Int32)
      · rw [if_pos c125] at hS
        refine ev_if_eq_t (t := 45) pm49 i49_40 rfl c125 rfl rfl ?_
        refine ev_aload_n pm49 i49_45 rfl rfl rfl ?_
        obtain ⟨x13, e14, hS⟩ := bn_s hS
        refine ev_getR pm49 i49_46 rfl rfl rfl e14 rfl ?_
        refine ev_ldc_w (v := .ref 1000019) pm49 i49_49 rfl rfl rfl ?_
        obtain ⟨x16, e15, hS⟩ := bn_s hS
        refine ev_callV (sa := [.ref 1000019]) (rest := []) (st' := [.int x16]) (ls0 := [.ref x13, .ref 1000019, unk]) (rv := some (.int x16)) pm49 i49_52 rfl rfl pm28 (by decide) (K_tk_isWord e15) rfl rfl (Nat.le_of_ble_eq_true rfl) (by omega) rfl (R_tk_isWord (d - 1) (by omega) e15) (by simp) rfl rfl ?_
        by_cases c126 : x16 = (0 : Int32)
        · rw [if_pos c126] at hS
          refine ev_if_eq_t (t := 60) pm49 i49_55 rfl c126 rfl rfl ?_
          refine ev_aload_n pm49 i49_60 rfl rfl rfl ?_
          obtain ⟨x17, e18, hS⟩ := bn_s hS
          refine ev_getR pm49 i49_61 rfl rfl rfl e18 rfl ?_
          refine ev_ldc_w (v := .ref 1000020) pm49 i49_64 rfl rfl rfl ?_
          obtain ⟨x20, e19, hS⟩ := bn_s hS
          refine ev_callV (sa := [.ref 1000020]) (rest := []) (st' := [.int x20]) (ls0 := [.ref x17, .ref 1000020, unk]) (rv := some (.int x20)) pm49 i49_67 rfl rfl pm28 (by decide) (K_tk_isWord e19) rfl rfl (Nat.le_of_ble_eq_true rfl) (by omega) rfl (R_tk_isWord (d - 1) (by omega) e19) (by simp) rfl rfl ?_
          by_cases c127 : x20 = (0 : Int32)
          · rw [if_pos c127] at hS
            refine ev_if_eq_t (t := 77) pm49 i49_70 rfl c127 rfl rfl ?_
            refine ev_iconst (v := -1) pm49 i49_77 rfl (by decide) rfl ?_
            refine ev_kls (ls' := [unk]) pm49 i49_78 rfl rfl ?_
            cases hS
            exact ev_ireturn pm49 i49_78 rfl rfl rfl
          · rw [if_neg c127] at hS
            refine ev_if_eq_f (t := 77) pm49 i49_70 rfl c127 rfl rfl ?_
            refine ev_iconst (v := 4) pm49 i49_73 rfl (by decide) rfl ?_
            refine ev_goto (t := 78) pm49 i49_74 rfl rfl ?_
            refine ev_kls (ls' := [unk]) pm49 i49_78 rfl rfl ?_
            cases hS
            exact ev_ireturn pm49 i49_78 rfl rfl rfl
        · rw [if_neg c126] at hS
          refine ev_if_eq_f (t := 60) pm49 i49_55 rfl c126 rfl rfl ?_
          refine ev_iconst (v := 3) pm49 i49_58 rfl (by decide) rfl ?_
          cases hS
          exact ev_ireturn pm49 i49_59 rfl rfl rfl
      · rw [if_neg c125] at hS
        refine ev_if_eq_f (t := 45) pm49 i49_40 rfl c125 rfl rfl ?_
        refine ev_iconst (v := 2) pm49 i49_43 rfl (by decide) rfl ?_
        cases hS
        exact ev_ireturn pm49 i49_44 rfl rfl rfl
    · rw [if_neg c124] at hS
      refine ev_if_eq_f (t := 30) pm49 i49_25 rfl c124 rfl rfl ?_
      refine ev_iconst (v := 1) pm49 i49_28 rfl (by decide) rfl ?_
      cases hS
      exact ev_ireturn pm49 i49_29 rfl rfl rfl
  · rw [if_neg c123] at hS
    refine ev_if_eq_f (t := 15) pm49 i49_10 rfl c123 rfl rfl ?_
    refine ev_iconst (v := 0) pm49 i49_13 rfl (by decide) rfl ?_
    cases hS
    exact ev_ireturn pm49 i49_14 rfl rfl rfl
def F_rd_readCorks (a0 : Nat) (h : Hp) : Option (Int32 × Hp) :=
  ck h a0 7 (bd (F_rd_numberOfName a0 (1 : Int32) h) fun x2 h3 =>
  if x2 < (0 : Int32) then
    (some ((0 : Int32), h3))
  else
    (bn (gR h3 a0 7 2) fun x4 =>
    bn (F_tk_advance x4 h3) fun h7 =>
    bn (F_rd_kindHere a0 h7) fun x9 =>
    if x9 < (0 : Int32) then
      (bd (F_rd_fail a0 (1 : Int32) h7) fun x11 h12 =>
      if retV .boolean x11 = true then
        (some (x11, h12))
      else
        (none))
    else
      (bn (gR h7 a0 7 3) fun x13 =>
      bn (gR h7 x13 10 4) fun x15 =>
      bn (aI h7 100 x15 ((x2 * (5 : Int32)) + x9)) fun x17 =>
      if (0 : Int32) < x17 then
        (bd (F_rd_fail a0 (3 : Int32) h7) fun x20 h21 =>
        if retV .boolean x20 = true then
          (some (x20, h21))
        else
          (none))
      else
        (bn (gR h7 a0 7 2) fun x22 =>
        bn (F_tk_advance x22 h7) fun h25 =>
        bd (F_rd_takeWhole a0 (1 : Int32) (30 : Int32) h25) fun x27 h28 =>
        if x27 = (0 : Int32) then
          (some ((0 : Int32), h28))
        else
          (bn (gR h28 a0 7 3) fun x29 =>
          bn (gR h28 x29 10 4) fun x31 =>
          bn (gI h28 a0 7 9) fun x33 =>
          bn (sI h28 100 x31 ((x2 * (5 : Int32)) + x9) x33) fun h35 =>
          some ((1 : Int32), h35))))))
set_option maxRecDepth 20000 in
theorem K_rd_readCorks {a0 : Nat} {h : Hp} {v : Int32} {h' : Hp} (hS : F_rd_readCorks a0 h = some (v, h')) : kd h a0 = 7 := by
  unfold F_rd_readCorks at hS
  exact (ck_s hS).1
set_option maxRecDepth 20000 in
theorem R_rd_readCorks (d : Nat) (hd : 7 ≤ d) {a0 : Nat} {h : Hp} {v : Int32} {h' : Hp} (hS : F_rd_readCorks a0 h = some (v, h')) : Ev P d 48 (0, [.ref a0, unk, unk], [], h) (some (.int v), h') := by
  unfold F_rd_readCorks at hS
  replace hS := (ck_s hS).2
  refine ev_aload_n pm48 i48_0 rfl rfl rfl ?_
  refine ev_iconst (v := 1) pm48 i48_1 rfl (by decide) rfl ?_
  obtain ⟨x2, h3, e1, hS⟩ := bd_s hS
  refine ev_callV (sa := [.int (1 : Int32)]) (rest := []) (st' := [.int x2]) (ls0 := [.ref a0, .int (1 : Int32), unk]) (rv := some (.int x2)) pm48 i48_2 rfl rfl pm45 (by decide) (K_rd_numberOfName e1) rfl rfl (Nat.le_of_ble_eq_true rfl) (by omega) rfl (R_rd_numberOfName (d - 1) (by omega) e1) (by simp) rfl rfl ?_
  refine ev_istore_n (ls' := [.ref a0, .int x2, unk]) pm48 i48_5 rfl (Nat.le_of_ble_eq_true rfl) rfl rfl ?_
  refine ev_iload_n pm48 i48_6 rfl rfl rfl ?_
  by_cases c128 : x2 < (0 : Int32)
  · rw [if_pos c128] at hS
    refine ev_if_ge_t (t := 12) pm48 i48_7 rfl c128 rfl rfl ?_
    refine ev_iconst (v := 0) pm48 i48_10 rfl (by decide) rfl ?_
    cases hS
    exact ev_ireturn pm48 i48_11 rfl (by decide) rfl
  · rw [if_neg c128] at hS
    refine ev_if_ge_f (t := 12) pm48 i48_7 rfl c128 rfl rfl ?_
    refine ev_aload_n pm48 i48_12 rfl rfl rfl ?_
    obtain ⟨x4, e5, hS⟩ := bn_s hS
    refine ev_getR pm48 i48_13 rfl rfl rfl e5 rfl ?_
    obtain ⟨h7, e6, hS⟩ := bn_s hS
    refine ev_callV (sa := []) (rest := []) (st' := []) (ls0 := [.ref x4]) (rv := none) pm48 i48_16 rfl rfl pm23 (by decide) (K_tk_advance e6) rfl rfl (Nat.le_of_ble_eq_true rfl) (by omega) rfl (R_tk_advance (d - 1) (by omega) e6) (by simp) rfl rfl ?_
    refine ev_aload_n pm48 i48_19 rfl rfl rfl ?_
    obtain ⟨x9, e8, hS⟩ := bn_s hS
    refine ev_callV (sa := []) (rest := []) (st' := [.int x9]) (ls0 := [.ref a0]) (rv := some (.int x9)) pm48 i48_20 rfl rfl pm49 (by decide) (K_rd_kindHere e8) rfl rfl (Nat.le_of_ble_eq_true rfl) (by omega) rfl (R_rd_kindHere (d - 1) (by omega) e8) (by simp) rfl rfl ?_
    refine ev_istore_n (ls' := [.ref a0, .int x2, .int x9]) pm48 i48_23 rfl (Nat.le_of_ble_eq_true rfl) rfl rfl ?_
    refine ev_iload_n pm48 i48_24 rfl rfl rfl ?_
    by_cases c129 : x9 < (0 : Int32)
    · rw [if_pos c129] at hS
      refine ev_if_ge_t (t := 34) pm48 i48_25 rfl c129 rfl rfl ?_
      refine ev_aload_n pm48 i48_28 rfl rfl rfl ?_
      refine ev_iconst (v := 1) pm48 i48_29 rfl (by decide) rfl ?_
      obtain ⟨x11, h12, e10, hS⟩ := bd_s hS
      refine ev_callV (sa := [.int (1 : Int32)]) (rest := []) (st' := [.int x11]) (ls0 := [.ref a0, .int (1 : Int32)]) (rv := some (.int x11)) pm48 i48_30 rfl rfl pm36 (by decide) (K_rd_fail e10) rfl rfl (Nat.le_of_ble_eq_true rfl) (by omega) rfl (R_rd_fail (d - 1) (by omega) e10) (by simp) rfl rfl ?_
      by_cases c130 : retV .boolean x11 = true
      · rw [if_pos c130] at hS
        cases hS
        exact ev_ireturn pm48 i48_33 rfl c130 rfl
      · rw [if_neg c130] at hS
        cases hS
    · rw [if_neg c129] at hS
      refine ev_if_ge_f (t := 34) pm48 i48_25 rfl c129 rfl rfl ?_
      refine ev_aload_n pm48 i48_34 rfl rfl rfl ?_
      obtain ⟨x13, e14, hS⟩ := bn_s hS
      refine ev_getR pm48 i48_35 rfl rfl rfl e14 rfl ?_
      obtain ⟨x15, e16, hS⟩ := bn_s hS
      refine ev_getR pm48 i48_38 rfl rfl rfl e16 rfl ?_
      refine ev_iload_n pm48 i48_41 rfl rfl rfl ?_
      refine ev_iconst (v := 5) pm48 i48_42 rfl (by decide) rfl ?_
      refine ev_b2 (f := fun x y => x * y) pm48 i48_43 rfl (fun _ _ _ _ => rfl) rfl ?_
      refine ev_iload_n pm48 i48_44 rfl rfl rfl ?_
      refine ev_b2 (f := fun x y => x + y) pm48 i48_45 rfl (fun _ _ _ _ => rfl) rfl ?_
      obtain ⟨x17, e18, hS⟩ := bn_s hS
      refine ev_iald pm48 i48_46 rfl e18 rfl ?_
      by_cases c131 : (0 : Int32) < x17
      · rw [if_pos c131] at hS
        refine ev_if_le_t (t := 56) pm48 i48_47 rfl c131 rfl rfl ?_
        refine ev_aload_n pm48 i48_50 rfl rfl rfl ?_
        refine ev_iconst (v := 3) pm48 i48_51 rfl (by decide) rfl ?_
        obtain ⟨x20, h21, e19, hS⟩ := bd_s hS
        refine ev_callV (sa := [.int (3 : Int32)]) (rest := []) (st' := [.int x20]) (ls0 := [.ref a0, .int (3 : Int32)]) (rv := some (.int x20)) pm48 i48_52 rfl rfl pm36 (by decide) (K_rd_fail e19) rfl rfl (Nat.le_of_ble_eq_true rfl) (by omega) rfl (R_rd_fail (d - 1) (by omega) e19) (by simp) rfl rfl ?_
        by_cases c132 : retV .boolean x20 = true
        · rw [if_pos c132] at hS
          cases hS
          exact ev_ireturn pm48 i48_55 rfl c132 rfl
        · rw [if_neg c132] at hS
          cases hS
      · rw [if_neg c131] at hS
        refine ev_if_le_f (t := 56) pm48 i48_47 rfl c131 rfl rfl ?_
        refine ev_aload_n pm48 i48_56 rfl rfl rfl ?_
        obtain ⟨x22, e23, hS⟩ := bn_s hS
        refine ev_getR pm48 i48_57 rfl rfl rfl e23 rfl ?_
        obtain ⟨h25, e24, hS⟩ := bn_s hS
        refine ev_callV (sa := []) (rest := []) (st' := []) (ls0 := [.ref x22]) (rv := none) pm48 i48_60 rfl rfl pm23 (by decide) (K_tk_advance e24) rfl rfl (Nat.le_of_ble_eq_true rfl) (by omega) rfl (R_tk_advance (d - 1) (by omega) e24) (by simp) rfl rfl ?_
        refine ev_aload_n pm48 i48_63 rfl rfl rfl ?_
        refine ev_iconst (v := 1) pm48 i48_64 rfl (by decide) rfl ?_
        refine ev_bipush (v := 30) pm48 i48_65 rfl (by decide) rfl ?_
        obtain ⟨x27, h28, e26, hS⟩ := bd_s hS
        refine ev_callV (sa := [.int (30 : Int32), .int (1 : Int32)]) (rest := []) (st' := [.int x27]) (ls0 := [.ref a0, .int (1 : Int32), .int (30 : Int32)]) (rv := some (.int x27)) pm48 i48_67 rfl rfl pm40 (by decide) (K_rd_takeWhole e26) rfl rfl (Nat.le_of_ble_eq_true rfl) (by omega) rfl (R_rd_takeWhole (d - 1) (by omega) e26) (by simp) rfl rfl ?_
        by_cases c133 : x27 = (0 : Int32)
        · rw [if_pos c133] at hS
          refine ev_if_ne_t (t := 75) pm48 i48_70 rfl c133 rfl rfl ?_
          refine ev_iconst (v := 0) pm48 i48_73 rfl (by decide) rfl ?_
          cases hS
          exact ev_ireturn pm48 i48_74 rfl (by decide) rfl
        · rw [if_neg c133] at hS
          refine ev_if_ne_f (t := 75) pm48 i48_70 rfl c133 rfl rfl ?_
          refine ev_aload_n pm48 i48_75 rfl rfl rfl ?_
          obtain ⟨x29, e30, hS⟩ := bn_s hS
          refine ev_getR pm48 i48_76 rfl rfl rfl e30 rfl ?_
          obtain ⟨x31, e32, hS⟩ := bn_s hS
          refine ev_getR pm48 i48_79 rfl rfl rfl e32 rfl ?_
          refine ev_iload_n pm48 i48_82 rfl rfl rfl ?_
          refine ev_iconst (v := 5) pm48 i48_83 rfl (by decide) rfl ?_
          refine ev_b2 (f := fun x y => x * y) pm48 i48_84 rfl (fun _ _ _ _ => rfl) rfl ?_
          refine ev_iload_n pm48 i48_85 rfl rfl rfl ?_
          refine ev_b2 (f := fun x y => x + y) pm48 i48_86 rfl (fun _ _ _ _ => rfl) rfl ?_
          refine ev_aload_n pm48 i48_87 rfl rfl rfl ?_
          obtain ⟨x33, e34, hS⟩ := bn_s hS
          refine ev_getI pm48 i48_88 rfl rfl (by decide) e34 rfl ?_
          obtain ⟨h35, e36, hS⟩ := bn_s hS
          refine ev_iast pm48 i48_91 rfl e36 rfl ?_
          refine ev_iconst (v := 1) pm48 i48_92 rfl (by decide) rfl ?_
          cases hS
          exact ev_ireturn pm48 i48_93 rfl (by decide) rfl
def F_rd_readGuest (a0 : Nat) (h : Hp) : Option (Int32 × Hp) :=
  ck h a0 7 (bn (gR h a0 7 3) fun x1 =>
  bn (gI h x1 10 8) fun x3 =>
  bd (F_rd_takeNewName a0 (4 : Int32) x3 h) fun x6 h7 =>
  if x6 = (0 : Int32) then
    (some ((0 : Int32), h7))
  else
    (bd (F_rd_takeWord a0 1000015 h7) fun x9 h10 =>
    if x9 = (0 : Int32) then
      (some ((0 : Int32), h10))
    else
      (bd (F_rd_takeWhole a0 (1 : Int32) (50 : Int32) h10) fun x12 h13 =>
      if x12 = (0 : Int32) then
        (some ((0 : Int32), h13))
      else
        (bd (F_rd_takeWord a0 1000021 h13) fun x15 h16 =>
        if x15 = (0 : Int32) then
          (some ((0 : Int32), h16))
        else
          (bd (F_rd_numberOfName a0 (1 : Int32) h16) fun x18 h19 =>
          if x18 < (0 : Int32) then
            (some ((0 : Int32), h19))
          else
            (bn (gR h19 a0 7 2) fun x20 =>
            bn (F_tk_advance x20 h19) fun h23 =>
            bn (gR h23 a0 7 3) fun x24 =>
            bn (gR h23 x24 10 9) fun x26 =>
            bn (gI h23 a0 7 9) fun x28 =>
            bn (sI h23 100 x26 x3 x28) fun h30 =>
            bn (gR h30 a0 7 3) fun x32 =>
            bn (gR h30 x32 10 10) fun x34 =>
            bn (sI h30 100 x34 x3 x18) fun h36 =>
            bn (gR h36 a0 7 3) fun x38 =>
            bn (gI h36 x38 10 8) fun x40 =>
            bn (pI h36 x38 10 8 (x40 + (1 : Int32))) fun h42 =>
            some ((1 : Int32), h42)))))))
set_option maxRecDepth 20000 in
theorem K_rd_readGuest {a0 : Nat} {h : Hp} {v : Int32} {h' : Hp} (hS : F_rd_readGuest a0 h = some (v, h')) : kd h a0 = 7 := by
  unfold F_rd_readGuest at hS
  exact (ck_s hS).1
set_option maxRecDepth 20000 in
theorem R_rd_readGuest (d : Nat) (hd : 7 ≤ d) {a0 : Nat} {h : Hp} {v : Int32} {h' : Hp} (hS : F_rd_readGuest a0 h = some (v, h')) : Ev P d 50 (0, [.ref a0, unk, unk], [], h) (some (.int v), h') := by
  unfold F_rd_readGuest at hS
  replace hS := (ck_s hS).2
  refine ev_aload_n pm50 i50_0 rfl rfl rfl ?_
  obtain ⟨x1, e2, hS⟩ := bn_s hS
  refine ev_getR pm50 i50_1 rfl rfl rfl e2 rfl ?_
  obtain ⟨x3, e4, hS⟩ := bn_s hS
  refine ev_getI pm50 i50_4 rfl rfl (by decide) e4 rfl ?_
  refine ev_istore_n (ls' := [.ref a0, .int x3, unk]) pm50 i50_7 rfl (Nat.le_of_ble_eq_true rfl) rfl rfl ?_
  refine ev_aload_n pm50 i50_8 rfl rfl rfl ?_
  refine ev_iconst (v := 4) pm50 i50_9 rfl (by decide) rfl ?_
  refine ev_iload_n pm50 i50_10 rfl rfl rfl ?_
  obtain ⟨x6, h7, e5, hS⟩ := bd_s hS
  refine ev_callV (sa := [.int x3, .int (4 : Int32)]) (rest := []) (st' := [.int x6]) (ls0 := [.ref a0, .int (4 : Int32), .int x3]) (rv := some (.int x6)) pm50 i50_11 rfl rfl pm42 (by decide) (K_rd_takeNewName e5) rfl rfl (Nat.le_of_ble_eq_true rfl) (by omega) rfl (R_rd_takeNewName (d - 1) (by omega) e5) (by simp) rfl rfl ?_
  by_cases c134 : x6 = (0 : Int32)
  · rw [if_pos c134] at hS
    refine ev_if_eq_t (t := 45) pm50 i50_14 rfl c134 rfl rfl ?_
    refine ev_kls (ls' := [unk, unk, unk]) pm50 i50_45 rfl rfl ?_
    refine ev_iconst (v := 0) pm50 i50_45 rfl (by decide) rfl ?_
    cases hS
    exact ev_ireturn pm50 i50_46 rfl (by decide) rfl
  · rw [if_neg c134] at hS
    refine ev_if_eq_f (t := 45) pm50 i50_14 rfl c134 rfl rfl ?_
    refine ev_aload_n pm50 i50_17 rfl rfl rfl ?_
    refine ev_ldc (v := .ref 1000015) pm50 i50_18 rfl rfl rfl ?_
    obtain ⟨x9, h10, e8, hS⟩ := bd_s hS
    refine ev_callV (sa := [.ref 1000015]) (rest := []) (st' := [.int x9]) (ls0 := [.ref a0, .ref 1000015]) (rv := some (.int x9)) pm50 i50_20 rfl rfl pm39 (by decide) (K_rd_takeWord e8) rfl rfl (Nat.le_of_ble_eq_true rfl) (by omega) rfl (R_rd_takeWord (d - 1) (by omega) e8) (by simp) rfl rfl ?_
    by_cases c135 : x9 = (0 : Int32)
    · rw [if_pos c135] at hS
      refine ev_if_eq_t (t := 45) pm50 i50_23 rfl c135 rfl rfl ?_
      refine ev_kls (ls' := [unk, unk, unk]) pm50 i50_45 rfl rfl ?_
      refine ev_iconst (v := 0) pm50 i50_45 rfl (by decide) rfl ?_
      cases hS
      exact ev_ireturn pm50 i50_46 rfl (by decide) rfl
    · rw [if_neg c135] at hS
      refine ev_if_eq_f (t := 45) pm50 i50_23 rfl c135 rfl rfl ?_
      refine ev_aload_n pm50 i50_26 rfl rfl rfl ?_
      refine ev_iconst (v := 1) pm50 i50_27 rfl (by decide) rfl ?_
      refine ev_bipush (v := 50) pm50 i50_28 rfl (by decide) rfl ?_
      obtain ⟨x12, h13, e11, hS⟩ := bd_s hS
      refine ev_callV (sa := [.int (50 : Int32), .int (1 : Int32)]) (rest := []) (st' := [.int x12]) (ls0 := [.ref a0, .int (1 : Int32), .int (50 : Int32)]) (rv := some (.int x12)) pm50 i50_30 rfl rfl pm40 (by decide) (K_rd_takeWhole e11) rfl rfl (Nat.le_of_ble_eq_true rfl) (by omega) rfl (R_rd_takeWhole (d - 1) (by omega) e11) (by simp) rfl rfl ?_
      by_cases c136 : x12 = (0 : Int32)
      · rw [if_pos c136] at hS
        refine ev_if_eq_t (t := 45) pm50 i50_33 rfl c136 rfl rfl ?_
        refine ev_kls (ls' := [unk, unk, unk]) pm50 i50_45 rfl rfl ?_
        refine ev_iconst (v := 0) pm50 i50_45 rfl (by decide) rfl ?_
        cases hS
        exact ev_ireturn pm50 i50_46 rfl (by decide) rfl
      · rw [if_neg c136] at hS
        refine ev_if_eq_f (t := 45) pm50 i50_33 rfl c136 rfl rfl ?_
        refine ev_aload_n pm50 i50_36 rfl rfl rfl ?_
        refine ev_ldc (v := .ref 1000021) pm50 i50_37 rfl rfl rfl ?_
        obtain ⟨x15, h16, e14, hS⟩ := bd_s hS
        refine ev_callV (sa := [.ref 1000021]) (rest := []) (st' := [.int x15]) (ls0 := [.ref a0, .ref 1000021]) (rv := some (.int x15)) pm50 i50_39 rfl rfl pm39 (by decide) (K_rd_takeWord e14) rfl rfl (Nat.le_of_ble_eq_true rfl) (by omega) rfl (R_rd_takeWord (d - 1) (by omega) e14) (by simp) rfl rfl ?_
        by_cases c137 : x15 = (0 : Int32)
        · rw [if_pos c137] at hS
          refine ev_if_ne_t (t := 47) pm50 i50_42 rfl c137 rfl rfl ?_
          refine ev_kls (ls' := [unk, unk, unk]) pm50 i50_45 rfl rfl ?_
          refine ev_iconst (v := 0) pm50 i50_45 rfl (by decide) rfl ?_
          cases hS
          exact ev_ireturn pm50 i50_46 rfl (by decide) rfl
        · rw [if_neg c137] at hS
          refine ev_if_ne_f (t := 47) pm50 i50_42 rfl c137 rfl rfl ?_
          refine ev_aload_n pm50 i50_47 rfl rfl rfl ?_
          refine ev_iconst (v := 1) pm50 i50_48 rfl (by decide) rfl ?_
          obtain ⟨x18, h19, e17, hS⟩ := bd_s hS
          refine ev_callV (sa := [.int (1 : Int32)]) (rest := []) (st' := [.int x18]) (ls0 := [.ref a0, .int (1 : Int32), unk]) (rv := some (.int x18)) pm50 i50_49 rfl rfl pm45 (by decide) (K_rd_numberOfName e17) rfl rfl (Nat.le_of_ble_eq_true rfl) (by omega) rfl (R_rd_numberOfName (d - 1) (by omega) e17) (by simp) rfl rfl ?_
          refine ev_istore_n (ls' := [.ref a0, .int x3, .int x18]) pm50 i50_52 rfl (Nat.le_of_ble_eq_true rfl) rfl rfl ?_
          refine ev_iload_n pm50 i50_53 rfl rfl rfl ?_
          by_cases c138 : x18 < (0 : Int32)
          · rw [if_pos c138] at hS
            refine ev_if_ge_t (t := 59) pm50 i50_54 rfl c138 rfl rfl ?_
            refine ev_iconst (v := 0) pm50 i50_57 rfl (by decide) rfl ?_
            cases hS
            exact ev_ireturn pm50 i50_58 rfl (by decide) rfl
          · rw [if_neg c138] at hS
            refine ev_if_ge_f (t := 59) pm50 i50_54 rfl c138 rfl rfl ?_
            refine ev_aload_n pm50 i50_59 rfl rfl rfl ?_
            obtain ⟨x20, e21, hS⟩ := bn_s hS
            refine ev_getR pm50 i50_60 rfl rfl rfl e21 rfl ?_
            obtain ⟨h23, e22, hS⟩ := bn_s hS
            refine ev_callV (sa := []) (rest := []) (st' := []) (ls0 := [.ref x20]) (rv := none) pm50 i50_63 rfl rfl pm23 (by decide) (K_tk_advance e22) rfl rfl (Nat.le_of_ble_eq_true rfl) (by omega) rfl (R_tk_advance (d - 1) (by omega) e22) (by simp) rfl rfl ?_
            refine ev_aload_n pm50 i50_66 rfl rfl rfl ?_
            obtain ⟨x24, e25, hS⟩ := bn_s hS
            refine ev_getR pm50 i50_67 rfl rfl rfl e25 rfl ?_
            obtain ⟨x26, e27, hS⟩ := bn_s hS
            refine ev_getR pm50 i50_70 rfl rfl rfl e27 rfl ?_
            refine ev_iload_n pm50 i50_73 rfl rfl rfl ?_
            refine ev_aload_n pm50 i50_74 rfl rfl rfl ?_
            obtain ⟨x28, e29, hS⟩ := bn_s hS
            refine ev_getI pm50 i50_75 rfl rfl (by decide) e29 rfl ?_
            obtain ⟨h30, e31, hS⟩ := bn_s hS
            refine ev_iast pm50 i50_78 rfl e31 rfl ?_
            refine ev_aload_n pm50 i50_79 rfl rfl rfl ?_
            obtain ⟨x32, e33, hS⟩ := bn_s hS
            refine ev_getR pm50 i50_80 rfl rfl rfl e33 rfl ?_
            obtain ⟨x34, e35, hS⟩ := bn_s hS
            refine ev_getR pm50 i50_83 rfl rfl rfl e35 rfl ?_
            refine ev_iload_n pm50 i50_86 rfl rfl rfl ?_
            refine ev_iload_n pm50 i50_87 rfl rfl rfl ?_
            obtain ⟨h36, e37, hS⟩ := bn_s hS
            refine ev_iast pm50 i50_88 rfl e37 rfl ?_
            refine ev_aload_n pm50 i50_89 rfl rfl rfl ?_
            obtain ⟨x38, e39, hS⟩ := bn_s hS
            refine ev_getR pm50 i50_90 rfl rfl rfl e39 rfl ?_
            refine ev_dup pm50 i50_93 rfl rfl rfl ?_
            obtain ⟨x40, e41, hS⟩ := bn_s hS
            refine ev_getI pm50 i50_94 rfl rfl (by decide) e41 rfl ?_
            refine ev_iconst (v := 1) pm50 i50_97 rfl (by decide) rfl ?_
            refine ev_b2 (f := fun x y => x + y) pm50 i50_98 rfl (fun _ _ _ _ => rfl) rfl ?_
            obtain ⟨h42, e43, hS⟩ := bn_s hS
            refine ev_putI pm50 i50_99 rfl rfl rfl e43 rfl ?_
            refine ev_iconst (v := 1) pm50 i50_102 rfl (by decide) rfl ?_
            cases hS
            exact ev_ireturn pm50 i50_103 rfl (by decide) rfl
def F_rd_readDrinker (a0 : Nat) (h : Hp) : Option (Int32 × Hp) :=
  ck h a0 7 (bn (gR h a0 7 3) fun x1 =>
  bn (gI h x1 10 11) fun x3 =>
  bd (F_rd_takeNewName a0 (5 : Int32) x3 h) fun x6 h7 =>
  if x6 = (0 : Int32) then
    (some ((0 : Int32), h7))
  else
    (bn (F_rd_kindHere a0 h7) fun x9 =>
    bn (if x9 = (0 : Int32) then
        (some (Sum.inl ()))
      else
        (if x9 = (3 : Int32) then
          (some (Sum.inl ()))
        else
          (if x9 = (4 : Int32) then
            (some (Sum.inl ()))
          else
            (bd (F_rd_fail a0 (1 : Int32) h7) fun x11 h12 =>
            if retV .boolean x11 = true then
              (some (Sum.inr (x11, h12)))
            else
              (none))))) fun x45 =>
    ei x45 (fun z14 =>
    bn (gR h7 a0 7 2) fun x15 =>
    bn (F_tk_advance x15 h7) fun h18 =>
    bd (F_rd_takeWord a0 1000022 h18) fun x20 h21 =>
    if x20 = (0 : Int32) then
      (some ((0 : Int32), h21))
    else
      (bd (F_rd_takeWhole a0 (1 : Int32) (9 : Int32) h21) fun x23 h24 =>
      if x23 = (0 : Int32) then
        (some ((0 : Int32), h24))
      else
        (bn (gR h24 a0 7 3) fun x25 =>
        bn (gR h24 x25 10 12) fun x27 =>
        bn (sI h24 100 x27 x3 x9) fun h29 =>
        bn (gR h29 a0 7 3) fun x31 =>
        bn (gR h29 x31 10 13) fun x33 =>
        bn (gI h29 a0 7 9) fun x35 =>
        bn (sI h29 100 x33 x3 x35) fun h37 =>
        bn (gR h37 a0 7 3) fun x39 =>
        bn (gI h37 x39 10 11) fun x41 =>
        bn (pI h37 x39 10 11 (x41 + (1 : Int32))) fun h43 =>
        some ((1 : Int32), h43))))
    (fun z => some z)))
set_option maxRecDepth 20000 in
theorem K_rd_readDrinker {a0 : Nat} {h : Hp} {v : Int32} {h' : Hp} (hS : F_rd_readDrinker a0 h = some (v, h')) : kd h a0 = 7 := by
  unfold F_rd_readDrinker at hS
  exact (ck_s hS).1
set_option maxRecDepth 20000 in
theorem R_rd_readDrinker (d : Nat) (hd : 7 ≤ d) {a0 : Nat} {h : Hp} {v : Int32} {h' : Hp} (hS : F_rd_readDrinker a0 h = some (v, h')) : Ev P d 51 (0, [.ref a0, unk, unk], [], h) (some (.int v), h') := by
  unfold F_rd_readDrinker at hS
  replace hS := (ck_s hS).2
  refine ev_aload_n pm51 i51_0 rfl rfl rfl ?_
  obtain ⟨x1, e2, hS⟩ := bn_s hS
  refine ev_getR pm51 i51_1 rfl rfl rfl e2 rfl ?_
  obtain ⟨x3, e4, hS⟩ := bn_s hS
  refine ev_getI pm51 i51_4 rfl rfl (by decide) e4 rfl ?_
  refine ev_istore_n (ls' := [.ref a0, .int x3, unk]) pm51 i51_7 rfl (Nat.le_of_ble_eq_true rfl) rfl rfl ?_
  refine ev_aload_n pm51 i51_8 rfl rfl rfl ?_
  refine ev_iconst (v := 5) pm51 i51_9 rfl (by decide) rfl ?_
  refine ev_iload_n pm51 i51_10 rfl rfl rfl ?_
  obtain ⟨x6, h7, e5, hS⟩ := bd_s hS
  refine ev_callV (sa := [.int x3, .int (5 : Int32)]) (rest := []) (st' := [.int x6]) (ls0 := [.ref a0, .int (5 : Int32), .int x3]) (rv := some (.int x6)) pm51 i51_11 rfl rfl pm42 (by decide) (K_rd_takeNewName e5) rfl rfl (Nat.le_of_ble_eq_true rfl) (by omega) rfl (R_rd_takeNewName (d - 1) (by omega) e5) (by simp) rfl rfl ?_
  by_cases c139 : x6 = (0 : Int32)
  · rw [if_pos c139] at hS
    refine ev_if_ne_t (t := 19) pm51 i51_14 rfl c139 rfl rfl ?_
    refine ev_iconst (v := 0) pm51 i51_17 rfl (by decide) rfl ?_
    cases hS
    exact ev_ireturn pm51 i51_18 rfl (by decide) rfl
  · rw [if_neg c139] at hS
    refine ev_if_ne_f (t := 19) pm51 i51_14 rfl c139 rfl rfl ?_
    refine ev_aload_n pm51 i51_19 rfl rfl rfl ?_
    obtain ⟨x9, e8, hS⟩ := bn_s hS
    refine ev_callV (sa := []) (rest := []) (st' := [.int x9]) (ls0 := [.ref a0]) (rv := some (.int x9)) pm51 i51_20 rfl rfl pm49 (by decide) (K_rd_kindHere e8) rfl rfl (Nat.le_of_ble_eq_true rfl) (by omega) rfl (R_rd_kindHere (d - 1) (by omega) e8) (by simp) rfl rfl ?_
    refine ev_istore_n (ls' := [.ref a0, .int x3, .int x9]) pm51 i51_23 rfl (Nat.le_of_ble_eq_true rfl) rfl rfl ?_
    refine ev_iload_n pm51 i51_24 rfl rfl rfl ?_
    obtain ⟨x45, I140, hS⟩ := bn_s hS
    have J1 : ∀ z14, x45 = Sum.inl z14 → Ev P d 51 (44, [.ref a0, .int x3, .int x9], [], h7) (some (.int v), h') := by
      intro z14 hx
      subst hx
      replace hS := ei_l hS
      refine ev_aload_n pm51 i51_44 rfl rfl rfl ?_
      obtain ⟨x15, e16, hS⟩ := bn_s hS
      refine ev_getR pm51 i51_45 rfl rfl rfl e16 rfl ?_
      obtain ⟨h18, e17, hS⟩ := bn_s hS
      refine ev_callV (sa := []) (rest := []) (st' := []) (ls0 := [.ref x15]) (rv := none) pm51 i51_48 rfl rfl pm23 (by decide) (K_tk_advance e17) rfl rfl (Nat.le_of_ble_eq_true rfl) (by omega) rfl (R_tk_advance (d - 1) (by omega) e17) (by simp) rfl rfl ?_
      refine ev_aload_n pm51 i51_51 rfl rfl rfl ?_
      refine ev_ldc (v := .ref 1000022) pm51 i51_52 rfl rfl rfl ?_
      obtain ⟨x20, h21, e19, hS⟩ := bd_s hS
      refine ev_callV (sa := [.ref 1000022]) (rest := []) (st' := [.int x20]) (ls0 := [.ref a0, .ref 1000022]) (rv := some (.int x20)) pm51 i51_54 rfl rfl pm39 (by decide) (K_rd_takeWord e19) rfl rfl (Nat.le_of_ble_eq_true rfl) (by omega) rfl (R_rd_takeWord (d - 1) (by omega) e19) (by simp) rfl rfl ?_
      by_cases c141 : x20 = (0 : Int32)
      · rw [if_pos c141] at hS
        refine ev_if_eq_t (t := 70) pm51 i51_57 rfl c141 rfl rfl ?_
        refine ev_kls (ls' := [unk, unk, unk]) pm51 i51_70 rfl rfl ?_
        refine ev_iconst (v := 0) pm51 i51_70 rfl (by decide) rfl ?_
        cases hS
        exact ev_ireturn pm51 i51_71 rfl (by decide) rfl
      · rw [if_neg c141] at hS
        refine ev_if_eq_f (t := 70) pm51 i51_57 rfl c141 rfl rfl ?_
        refine ev_aload_n pm51 i51_60 rfl rfl rfl ?_
        refine ev_iconst (v := 1) pm51 i51_61 rfl (by decide) rfl ?_
        refine ev_bipush (v := 9) pm51 i51_62 rfl (by decide) rfl ?_
        obtain ⟨x23, h24, e22, hS⟩ := bd_s hS
        refine ev_callV (sa := [.int (9 : Int32), .int (1 : Int32)]) (rest := []) (st' := [.int x23]) (ls0 := [.ref a0, .int (1 : Int32), .int (9 : Int32)]) (rv := some (.int x23)) pm51 i51_64 rfl rfl pm40 (by decide) (K_rd_takeWhole e22) rfl rfl (Nat.le_of_ble_eq_true rfl) (by omega) rfl (R_rd_takeWhole (d - 1) (by omega) e22) (by simp) rfl rfl ?_
        by_cases c142 : x23 = (0 : Int32)
        · rw [if_pos c142] at hS
          refine ev_if_ne_t (t := 72) pm51 i51_67 rfl c142 rfl rfl ?_
          refine ev_kls (ls' := [unk, unk, unk]) pm51 i51_70 rfl rfl ?_
          refine ev_iconst (v := 0) pm51 i51_70 rfl (by decide) rfl ?_
          cases hS
          exact ev_ireturn pm51 i51_71 rfl (by decide) rfl
        · rw [if_neg c142] at hS
          refine ev_if_ne_f (t := 72) pm51 i51_67 rfl c142 rfl rfl ?_
          refine ev_aload_n pm51 i51_72 rfl rfl rfl ?_
          obtain ⟨x25, e26, hS⟩ := bn_s hS
          refine ev_getR pm51 i51_73 rfl rfl rfl e26 rfl ?_
          obtain ⟨x27, e28, hS⟩ := bn_s hS
          refine ev_getR pm51 i51_76 rfl rfl rfl e28 rfl ?_
          refine ev_iload_n pm51 i51_79 rfl rfl rfl ?_
          refine ev_iload_n pm51 i51_80 rfl rfl rfl ?_
          obtain ⟨h29, e30, hS⟩ := bn_s hS
          refine ev_iast pm51 i51_81 rfl e30 rfl ?_
          refine ev_aload_n pm51 i51_82 rfl rfl rfl ?_
          obtain ⟨x31, e32, hS⟩ := bn_s hS
          refine ev_getR pm51 i51_83 rfl rfl rfl e32 rfl ?_
          obtain ⟨x33, e34, hS⟩ := bn_s hS
          refine ev_getR pm51 i51_86 rfl rfl rfl e34 rfl ?_
          refine ev_iload_n pm51 i51_89 rfl rfl rfl ?_
          refine ev_aload_n pm51 i51_90 rfl rfl rfl ?_
          obtain ⟨x35, e36, hS⟩ := bn_s hS
          refine ev_getI pm51 i51_91 rfl rfl (by decide) e36 rfl ?_
          obtain ⟨h37, e38, hS⟩ := bn_s hS
          refine ev_iast pm51 i51_94 rfl e38 rfl ?_
          refine ev_aload_n pm51 i51_95 rfl rfl rfl ?_
          obtain ⟨x39, e40, hS⟩ := bn_s hS
          refine ev_getR pm51 i51_96 rfl rfl rfl e40 rfl ?_
          refine ev_dup pm51 i51_99 rfl rfl rfl ?_
          obtain ⟨x41, e42, hS⟩ := bn_s hS
          refine ev_getI pm51 i51_100 rfl rfl (by decide) e42 rfl ?_
          refine ev_iconst (v := 1) pm51 i51_103 rfl (by decide) rfl ?_
          refine ev_b2 (f := fun x y => x + y) pm51 i51_104 rfl (fun _ _ _ _ => rfl) rfl ?_
          obtain ⟨h43, e44, hS⟩ := bn_s hS
          refine ev_putI pm51 i51_105 rfl rfl rfl e44 rfl ?_
          refine ev_iconst (v := 1) pm51 i51_108 rfl (by decide) rfl ?_
          cases hS
          exact ev_ireturn pm51 i51_109 rfl (by decide) rfl
    have Z1 := ej_z hS
    clear hS
    by_cases c140 : x9 = (0 : Int32)
    · rw [if_pos c140] at I140
      refine ev_if_eq_t (t := 44) pm51 i51_25 rfl c140 rfl rfl ?_
      cases I140
      exact J1 _ rfl
    · rw [if_neg c140] at I140
      refine ev_if_eq_f (t := 44) pm51 i51_25 rfl c140 rfl rfl ?_
      refine ev_iload_n pm51 i51_28 rfl rfl rfl ?_
      refine ev_iconst (v := 3) pm51 i51_29 rfl (by decide) rfl ?_
      by_cases c143 : x9 = (3 : Int32)
      · rw [if_pos c143] at I140
        refine ev_icmp_eq_t (t := 44) pm51 i51_30 rfl c143 rfl rfl ?_
        cases I140
        exact J1 _ rfl
      · rw [if_neg c143] at I140
        refine ev_icmp_eq_f (t := 44) pm51 i51_30 rfl c143 rfl rfl ?_
        refine ev_iload_n pm51 i51_33 rfl rfl rfl ?_
        refine ev_iconst (v := 4) pm51 i51_34 rfl (by decide) rfl ?_
        by_cases c144 : x9 = (4 : Int32)
        · rw [if_pos c144] at I140
          refine ev_icmp_eq_t (t := 44) pm51 i51_35 rfl c144 rfl rfl ?_
          cases I140
          exact J1 _ rfl
        · rw [if_neg c144] at I140
          refine ev_icmp_eq_f (t := 44) pm51 i51_35 rfl c144 rfl rfl ?_
          refine ev_aload_n pm51 i51_38 rfl rfl rfl ?_
          refine ev_iconst (v := 1) pm51 i51_39 rfl (by decide) rfl ?_
          obtain ⟨x11, h12, e10, I140⟩ := bd_s I140
          refine ev_callV (sa := [.int (1 : Int32)]) (rest := []) (st' := [.int x11]) (ls0 := [.ref a0, .int (1 : Int32)]) (rv := some (.int x11)) pm51 i51_40 rfl rfl pm36 (by decide) (K_rd_fail e10) rfl rfl (Nat.le_of_ble_eq_true rfl) (by omega) rfl (R_rd_fail (d - 1) (by omega) e10) (by simp) rfl rfl ?_
          by_cases c145 : retV .boolean x11 = true
          · rw [if_pos c145] at I140
            cases I140
            have hz1 := Z1 _ rfl
            cases hz1
            exact ev_ireturn pm51 i51_43 rfl c145 rfl
          · rw [if_neg c145] at I140
            cases I140
def F_rd_readFeast (a0 : Nat) (h : Hp) : Option (Int32 × Hp) :=
  ck h a0 7 (bn (gR h a0 7 3) fun x1 =>
  bn (gI h x1 10 14) fun x3 =>
  bd (F_rd_numberOfName a0 (1 : Int32) h) fun x6 h7 =>
  if x6 < (0 : Int32) then
    (some ((0 : Int32), h7))
  else
    (bn (gR h7 a0 7 2) fun x8 =>
    bn (F_tk_advance x8 h7) fun h11 =>
    bd (F_rd_takeWord a0 1000023 h11) fun x13 h14 =>
    if x13 = (0 : Int32) then
      (some ((0 : Int32), h14))
    else
      (bd (F_rd_takeWhole a0 (0 : Int32) (9 : Int32) h14) fun x16 h17 =>
      if x16 = (0 : Int32) then
        (some ((0 : Int32), h17))
      else
        (bn (gR h17 a0 7 3) fun x18 =>
        bn (gR h17 x18 10 16) fun x20 =>
        bn (gI h17 a0 7 9) fun x22 =>
        bn (sI h17 100 x20 x3 x22) fun h24 =>
        bd (F_rd_takeWord a0 1000024 h24) fun x27 h28 =>
        if x27 = (0 : Int32) then
          (some ((0 : Int32), h28))
        else
          (bd (F_rd_takeWhole a0 (0 : Int32) (50 : Int32) h28) fun x30 h31 =>
          if x30 = (0 : Int32) then
            (some ((0 : Int32), h31))
          else
            (bn (gR h31 a0 7 3) fun x32 =>
            bn (gR h31 x32 10 17) fun x34 =>
            bn (gI h31 a0 7 9) fun x36 =>
            bn (sI h31 100 x34 x3 x36) fun h38 =>
            bn (gR h38 a0 7 3) fun x40 =>
            bn (gR h38 x40 10 15) fun x42 =>
            bn (sI h38 100 x42 x3 x6) fun h44 =>
            bn (gR h44 a0 7 3) fun x46 =>
            bn (gI h44 x46 10 14) fun x48 =>
            bn (pI h44 x46 10 14 (x48 + (1 : Int32))) fun h50 =>
            some ((1 : Int32), h50)))))))
set_option maxRecDepth 20000 in
theorem K_rd_readFeast {a0 : Nat} {h : Hp} {v : Int32} {h' : Hp} (hS : F_rd_readFeast a0 h = some (v, h')) : kd h a0 = 7 := by
  unfold F_rd_readFeast at hS
  exact (ck_s hS).1
set_option maxRecDepth 20000 in
theorem R_rd_readFeast (d : Nat) (hd : 7 ≤ d) {a0 : Nat} {h : Hp} {v : Int32} {h' : Hp} (hS : F_rd_readFeast a0 h = some (v, h')) : Ev P d 52 (0, [.ref a0, unk, unk], [], h) (some (.int v), h') := by
  unfold F_rd_readFeast at hS
  replace hS := (ck_s hS).2
  refine ev_aload_n pm52 i52_0 rfl rfl rfl ?_
  obtain ⟨x1, e2, hS⟩ := bn_s hS
  refine ev_getR pm52 i52_1 rfl rfl rfl e2 rfl ?_
  obtain ⟨x3, e4, hS⟩ := bn_s hS
  refine ev_getI pm52 i52_4 rfl rfl (by decide) e4 rfl ?_
  refine ev_istore_n (ls' := [.ref a0, .int x3, unk]) pm52 i52_7 rfl (Nat.le_of_ble_eq_true rfl) rfl rfl ?_
  refine ev_aload_n pm52 i52_8 rfl rfl rfl ?_
  refine ev_iconst (v := 1) pm52 i52_9 rfl (by decide) rfl ?_
  obtain ⟨x6, h7, e5, hS⟩ := bd_s hS
  refine ev_callV (sa := [.int (1 : Int32)]) (rest := []) (st' := [.int x6]) (ls0 := [.ref a0, .int (1 : Int32), unk]) (rv := some (.int x6)) pm52 i52_10 rfl rfl pm45 (by decide) (K_rd_numberOfName e5) rfl rfl (Nat.le_of_ble_eq_true rfl) (by omega) rfl (R_rd_numberOfName (d - 1) (by omega) e5) (by simp) rfl rfl ?_
  refine ev_istore_n (ls' := [.ref a0, .int x3, .int x6]) pm52 i52_13 rfl (Nat.le_of_ble_eq_true rfl) rfl rfl ?_
  refine ev_iload_n pm52 i52_14 rfl rfl rfl ?_
  by_cases c146 : x6 < (0 : Int32)
  · rw [if_pos c146] at hS
    refine ev_if_ge_t (t := 20) pm52 i52_15 rfl c146 rfl rfl ?_
    refine ev_iconst (v := 0) pm52 i52_18 rfl (by decide) rfl ?_
    cases hS
    exact ev_ireturn pm52 i52_19 rfl (by decide) rfl
  · rw [if_neg c146] at hS
    refine ev_if_ge_f (t := 20) pm52 i52_15 rfl c146 rfl rfl ?_
    refine ev_aload_n pm52 i52_20 rfl rfl rfl ?_
    obtain ⟨x8, e9, hS⟩ := bn_s hS
    refine ev_getR pm52 i52_21 rfl rfl rfl e9 rfl ?_
    obtain ⟨h11, e10, hS⟩ := bn_s hS
    refine ev_callV (sa := []) (rest := []) (st' := []) (ls0 := [.ref x8]) (rv := none) pm52 i52_24 rfl rfl pm23 (by decide) (K_tk_advance e10) rfl rfl (Nat.le_of_ble_eq_true rfl) (by omega) rfl (R_tk_advance (d - 1) (by omega) e10) (by simp) rfl rfl ?_
    refine ev_aload_n pm52 i52_27 rfl rfl rfl ?_
    refine ev_ldc (v := .ref 1000023) pm52 i52_28 rfl rfl rfl ?_
    obtain ⟨x13, h14, e12, hS⟩ := bd_s hS
    refine ev_callV (sa := [.ref 1000023]) (rest := []) (st' := [.int x13]) (ls0 := [.ref a0, .ref 1000023]) (rv := some (.int x13)) pm52 i52_30 rfl rfl pm39 (by decide) (K_rd_takeWord e12) rfl rfl (Nat.le_of_ble_eq_true rfl) (by omega) rfl (R_rd_takeWord (d - 1) (by omega) e12) (by simp) rfl rfl ?_
    by_cases c147 : x13 = (0 : Int32)
    · rw [if_pos c147] at hS
      refine ev_if_eq_t (t := 46) pm52 i52_33 rfl c147 rfl rfl ?_
      refine ev_kls (ls' := [unk, unk, unk]) pm52 i52_46 rfl rfl ?_
      refine ev_iconst (v := 0) pm52 i52_46 rfl (by decide) rfl ?_
      cases hS
      exact ev_ireturn pm52 i52_47 rfl (by decide) rfl
    · rw [if_neg c147] at hS
      refine ev_if_eq_f (t := 46) pm52 i52_33 rfl c147 rfl rfl ?_
      refine ev_aload_n pm52 i52_36 rfl rfl rfl ?_
      refine ev_iconst (v := 0) pm52 i52_37 rfl (by decide) rfl ?_
      refine ev_bipush (v := 9) pm52 i52_38 rfl (by decide) rfl ?_
      obtain ⟨x16, h17, e15, hS⟩ := bd_s hS
      refine ev_callV (sa := [.int (9 : Int32), .int (0 : Int32)]) (rest := []) (st' := [.int x16]) (ls0 := [.ref a0, .int (0 : Int32), .int (9 : Int32)]) (rv := some (.int x16)) pm52 i52_40 rfl rfl pm40 (by decide) (K_rd_takeWhole e15) rfl rfl (Nat.le_of_ble_eq_true rfl) (by omega) rfl (R_rd_takeWhole (d - 1) (by omega) e15) (by simp) rfl rfl ?_
      by_cases c148 : x16 = (0 : Int32)
      · rw [if_pos c148] at hS
        refine ev_if_ne_t (t := 48) pm52 i52_43 rfl c148 rfl rfl ?_
        refine ev_kls (ls' := [unk, unk, unk]) pm52 i52_46 rfl rfl ?_
        refine ev_iconst (v := 0) pm52 i52_46 rfl (by decide) rfl ?_
        cases hS
        exact ev_ireturn pm52 i52_47 rfl (by decide) rfl
      · rw [if_neg c148] at hS
        refine ev_if_ne_f (t := 48) pm52 i52_43 rfl c148 rfl rfl ?_
        refine ev_aload_n pm52 i52_48 rfl rfl rfl ?_
        obtain ⟨x18, e19, hS⟩ := bn_s hS
        refine ev_getR pm52 i52_49 rfl rfl rfl e19 rfl ?_
        obtain ⟨x20, e21, hS⟩ := bn_s hS
        refine ev_getR pm52 i52_52 rfl rfl rfl e21 rfl ?_
        refine ev_iload_n pm52 i52_55 rfl rfl rfl ?_
        refine ev_aload_n pm52 i52_56 rfl rfl rfl ?_
        obtain ⟨x22, e23, hS⟩ := bn_s hS
        refine ev_getI pm52 i52_57 rfl rfl (by decide) e23 rfl ?_
        obtain ⟨h24, e25, hS⟩ := bn_s hS
        refine ev_iast pm52 i52_60 rfl e25 rfl ?_
        refine ev_aload_n pm52 i52_61 rfl rfl rfl ?_
        refine ev_ldc (v := .ref 1000024) pm52 i52_62 rfl rfl rfl ?_
        obtain ⟨x27, h28, e26, hS⟩ := bd_s hS
        refine ev_callV (sa := [.ref 1000024]) (rest := []) (st' := [.int x27]) (ls0 := [.ref a0, .ref 1000024]) (rv := some (.int x27)) pm52 i52_64 rfl rfl pm39 (by decide) (K_rd_takeWord e26) rfl rfl (Nat.le_of_ble_eq_true rfl) (by omega) rfl (R_rd_takeWord (d - 1) (by omega) e26) (by simp) rfl rfl ?_
        by_cases c149 : x27 = (0 : Int32)
        · rw [if_pos c149] at hS
          refine ev_if_eq_t (t := 80) pm52 i52_67 rfl c149 rfl rfl ?_
          refine ev_kls (ls' := [unk, unk, unk]) pm52 i52_80 rfl rfl ?_
          refine ev_iconst (v := 0) pm52 i52_80 rfl (by decide) rfl ?_
          cases hS
          exact ev_ireturn pm52 i52_81 rfl (by decide) rfl
        · rw [if_neg c149] at hS
          refine ev_if_eq_f (t := 80) pm52 i52_67 rfl c149 rfl rfl ?_
          refine ev_aload_n pm52 i52_70 rfl rfl rfl ?_
          refine ev_iconst (v := 0) pm52 i52_71 rfl (by decide) rfl ?_
          refine ev_bipush (v := 50) pm52 i52_72 rfl (by decide) rfl ?_
          obtain ⟨x30, h31, e29, hS⟩ := bd_s hS
          refine ev_callV (sa := [.int (50 : Int32), .int (0 : Int32)]) (rest := []) (st' := [.int x30]) (ls0 := [.ref a0, .int (0 : Int32), .int (50 : Int32)]) (rv := some (.int x30)) pm52 i52_74 rfl rfl pm40 (by decide) (K_rd_takeWhole e29) rfl rfl (Nat.le_of_ble_eq_true rfl) (by omega) rfl (R_rd_takeWhole (d - 1) (by omega) e29) (by simp) rfl rfl ?_
          by_cases c150 : x30 = (0 : Int32)
          · rw [if_pos c150] at hS
            refine ev_if_ne_t (t := 82) pm52 i52_77 rfl c150 rfl rfl ?_
            refine ev_kls (ls' := [unk, unk, unk]) pm52 i52_80 rfl rfl ?_
            refine ev_iconst (v := 0) pm52 i52_80 rfl (by decide) rfl ?_
            cases hS
            exact ev_ireturn pm52 i52_81 rfl (by decide) rfl
          · rw [if_neg c150] at hS
            refine ev_if_ne_f (t := 82) pm52 i52_77 rfl c150 rfl rfl ?_
            refine ev_aload_n pm52 i52_82 rfl rfl rfl ?_
            obtain ⟨x32, e33, hS⟩ := bn_s hS
            refine ev_getR pm52 i52_83 rfl rfl rfl e33 rfl ?_
            obtain ⟨x34, e35, hS⟩ := bn_s hS
            refine ev_getR pm52 i52_86 rfl rfl rfl e35 rfl ?_
            refine ev_iload_n pm52 i52_89 rfl rfl rfl ?_
            refine ev_aload_n pm52 i52_90 rfl rfl rfl ?_
            obtain ⟨x36, e37, hS⟩ := bn_s hS
            refine ev_getI pm52 i52_91 rfl rfl (by decide) e37 rfl ?_
            obtain ⟨h38, e39, hS⟩ := bn_s hS
            refine ev_iast pm52 i52_94 rfl e39 rfl ?_
            refine ev_aload_n pm52 i52_95 rfl rfl rfl ?_
            obtain ⟨x40, e41, hS⟩ := bn_s hS
            refine ev_getR pm52 i52_96 rfl rfl rfl e41 rfl ?_
            obtain ⟨x42, e43, hS⟩ := bn_s hS
            refine ev_getR pm52 i52_99 rfl rfl rfl e43 rfl ?_
            refine ev_iload_n pm52 i52_102 rfl rfl rfl ?_
            refine ev_iload_n pm52 i52_103 rfl rfl rfl ?_
            obtain ⟨h44, e45, hS⟩ := bn_s hS
            refine ev_iast pm52 i52_104 rfl e45 rfl ?_
            refine ev_aload_n pm52 i52_105 rfl rfl rfl ?_
            obtain ⟨x46, e47, hS⟩ := bn_s hS
            refine ev_getR pm52 i52_106 rfl rfl rfl e47 rfl ?_
            refine ev_dup pm52 i52_109 rfl rfl rfl ?_
            obtain ⟨x48, e49, hS⟩ := bn_s hS
            refine ev_getI pm52 i52_110 rfl rfl (by decide) e49 rfl ?_
            refine ev_iconst (v := 1) pm52 i52_113 rfl (by decide) rfl ?_
            refine ev_b2 (f := fun x y => x + y) pm52 i52_114 rfl (fun _ _ _ _ => rfl) rfl ?_
            obtain ⟨h50, e51, hS⟩ := bn_s hS
            refine ev_putI pm52 i52_115 rfl rfl rfl e51 rfl ?_
            refine ev_iconst (v := 1) pm52 i52_118 rfl (by decide) rfl ?_
            cases hS
            exact ev_ireturn pm52 i52_119 rfl (by decide) rfl
def F_rd_readGave (a0 : Nat) (h : Hp) : Option (Int32 × Hp) :=
  ck h a0 7 (bd (F_rd_numberOfName a0 (5 : Int32) h) fun x2 h3 =>
  if x2 < (0 : Int32) then
    (some ((0 : Int32), h3))
  else
    (bn (gR h3 a0 7 2) fun x4 =>
    bn (F_tk_advance x4 h3) fun h7 =>
    bd (F_rd_numberOfName a0 (1 : Int32) h7) fun x9 h10 =>
    if x9 < (0 : Int32) then
      (some ((0 : Int32), h10))
    else
      (bn (gR h10 a0 7 2) fun x11 =>
      bn (F_tk_advance x11 h10) fun h14 =>
      bd (F_rd_takeWhole a0 (1 : Int32) (20 : Int32) h14) fun x16 h17 =>
      if x16 = (0 : Int32) then
        (some ((0 : Int32), h17))
      else
        (bn (gR h17 a0 7 3) fun x18 =>
        bn (gR h17 x18 10 18) fun x20 =>
        bn (gR h17 x20 1 1) fun x22 =>
        bn (gI h17 x20 1 0) fun x24 =>
        bn (sI h17 100 x22 x24 x2) fun h26 =>
        bn (gR h26 x20 1 2) fun x28 =>
        bn (gI h26 x20 1 0) fun x30 =>
        bn (sI h26 100 x28 x30 x9) fun h32 =>
        bn (gR h32 x20 1 3) fun x34 =>
        bn (gI h32 x20 1 0) fun x36 =>
        bn (gI h32 a0 7 9) fun x38 =>
        bn (sI h32 100 x34 x36 x38) fun h40 =>
        bn (gI h40 x20 1 0) fun x42 =>
        bn (pI h40 x20 1 0 (x42 + (1 : Int32))) fun h44 =>
        some ((1 : Int32), h44)))))
set_option maxRecDepth 20000 in
theorem K_rd_readGave {a0 : Nat} {h : Hp} {v : Int32} {h' : Hp} (hS : F_rd_readGave a0 h = some (v, h')) : kd h a0 = 7 := by
  unfold F_rd_readGave at hS
  exact (ck_s hS).1
set_option maxRecDepth 20000 in
theorem R_rd_readGave (d : Nat) (hd : 7 ≤ d) {a0 : Nat} {h : Hp} {v : Int32} {h' : Hp} (hS : F_rd_readGave a0 h = some (v, h')) : Ev P d 53 (0, [.ref a0, unk, unk, unk], [], h) (some (.int v), h') := by
  unfold F_rd_readGave at hS
  replace hS := (ck_s hS).2
  refine ev_aload_n pm53 i53_0 rfl rfl rfl ?_
  refine ev_iconst (v := 5) pm53 i53_1 rfl (by decide) rfl ?_
  obtain ⟨x2, h3, e1, hS⟩ := bd_s hS
  refine ev_callV (sa := [.int (5 : Int32)]) (rest := []) (st' := [.int x2]) (ls0 := [.ref a0, .int (5 : Int32), unk]) (rv := some (.int x2)) pm53 i53_2 rfl rfl pm45 (by decide) (K_rd_numberOfName e1) rfl rfl (Nat.le_of_ble_eq_true rfl) (by omega) rfl (R_rd_numberOfName (d - 1) (by omega) e1) (by simp) rfl rfl ?_
  refine ev_istore_n (ls' := [.ref a0, .int x2, unk, unk]) pm53 i53_5 rfl (Nat.le_of_ble_eq_true rfl) rfl rfl ?_
  refine ev_iload_n pm53 i53_6 rfl rfl rfl ?_
  by_cases c151 : x2 < (0 : Int32)
  · rw [if_pos c151] at hS
    refine ev_if_ge_t (t := 12) pm53 i53_7 rfl c151 rfl rfl ?_
    refine ev_iconst (v := 0) pm53 i53_10 rfl (by decide) rfl ?_
    cases hS
    exact ev_ireturn pm53 i53_11 rfl (by decide) rfl
  · rw [if_neg c151] at hS
    refine ev_if_ge_f (t := 12) pm53 i53_7 rfl c151 rfl rfl ?_
    refine ev_aload_n pm53 i53_12 rfl rfl rfl ?_
    obtain ⟨x4, e5, hS⟩ := bn_s hS
    refine ev_getR pm53 i53_13 rfl rfl rfl e5 rfl ?_
    obtain ⟨h7, e6, hS⟩ := bn_s hS
    refine ev_callV (sa := []) (rest := []) (st' := []) (ls0 := [.ref x4]) (rv := none) pm53 i53_16 rfl rfl pm23 (by decide) (K_tk_advance e6) rfl rfl (Nat.le_of_ble_eq_true rfl) (by omega) rfl (R_tk_advance (d - 1) (by omega) e6) (by simp) rfl rfl ?_
    refine ev_aload_n pm53 i53_19 rfl rfl rfl ?_
    refine ev_iconst (v := 1) pm53 i53_20 rfl (by decide) rfl ?_
    obtain ⟨x9, h10, e8, hS⟩ := bd_s hS
    refine ev_callV (sa := [.int (1 : Int32)]) (rest := []) (st' := [.int x9]) (ls0 := [.ref a0, .int (1 : Int32), unk]) (rv := some (.int x9)) pm53 i53_21 rfl rfl pm45 (by decide) (K_rd_numberOfName e8) rfl rfl (Nat.le_of_ble_eq_true rfl) (by omega) rfl (R_rd_numberOfName (d - 1) (by omega) e8) (by simp) rfl rfl ?_
    refine ev_istore_n (ls' := [.ref a0, .int x2, .int x9, unk]) pm53 i53_24 rfl (Nat.le_of_ble_eq_true rfl) rfl rfl ?_
    refine ev_iload_n pm53 i53_25 rfl rfl rfl ?_
    by_cases c152 : x9 < (0 : Int32)
    · rw [if_pos c152] at hS
      refine ev_if_ge_t (t := 31) pm53 i53_26 rfl c152 rfl rfl ?_
      refine ev_iconst (v := 0) pm53 i53_29 rfl (by decide) rfl ?_
      cases hS
      exact ev_ireturn pm53 i53_30 rfl (by decide) rfl
    · rw [if_neg c152] at hS
      refine ev_if_ge_f (t := 31) pm53 i53_26 rfl c152 rfl rfl ?_
      refine ev_aload_n pm53 i53_31 rfl rfl rfl ?_
      obtain ⟨x11, e12, hS⟩ := bn_s hS
      refine ev_getR pm53 i53_32 rfl rfl rfl e12 rfl ?_
      obtain ⟨h14, e13, hS⟩ := bn_s hS
      refine ev_callV (sa := []) (rest := []) (st' := []) (ls0 := [.ref x11]) (rv := none) pm53 i53_35 rfl rfl pm23 (by decide) (K_tk_advance e13) rfl rfl (Nat.le_of_ble_eq_true rfl) (by omega) rfl (R_tk_advance (d - 1) (by omega) e13) (by simp) rfl rfl ?_
      refine ev_aload_n pm53 i53_38 rfl rfl rfl ?_
      refine ev_iconst (v := 1) pm53 i53_39 rfl (by decide) rfl ?_
      refine ev_bipush (v := 20) pm53 i53_40 rfl (by decide) rfl ?_
      obtain ⟨x16, h17, e15, hS⟩ := bd_s hS
      refine ev_callV (sa := [.int (20 : Int32), .int (1 : Int32)]) (rest := []) (st' := [.int x16]) (ls0 := [.ref a0, .int (1 : Int32), .int (20 : Int32)]) (rv := some (.int x16)) pm53 i53_42 rfl rfl pm40 (by decide) (K_rd_takeWhole e15) rfl rfl (Nat.le_of_ble_eq_true rfl) (by omega) rfl (R_rd_takeWhole (d - 1) (by omega) e15) (by simp) rfl rfl ?_
      by_cases c153 : x16 = (0 : Int32)
      · rw [if_pos c153] at hS
        refine ev_if_ne_t (t := 50) pm53 i53_45 rfl c153 rfl rfl ?_
        refine ev_iconst (v := 0) pm53 i53_48 rfl (by decide) rfl ?_
        cases hS
        exact ev_ireturn pm53 i53_49 rfl (by decide) rfl
      · rw [if_neg c153] at hS
        refine ev_if_ne_f (t := 50) pm53 i53_45 rfl c153 rfl rfl ?_
        refine ev_aload_n pm53 i53_50 rfl rfl rfl ?_
        obtain ⟨x18, e19, hS⟩ := bn_s hS
        refine ev_getR pm53 i53_51 rfl rfl rfl e19 rfl ?_
        obtain ⟨x20, e21, hS⟩ := bn_s hS
        refine ev_getR pm53 i53_54 rfl rfl rfl e21 rfl ?_
        refine ev_astore_n (ls' := [.ref a0, .int x2, .int x9, .ref x20]) pm53 i53_57 rfl (Nat.le_of_ble_eq_true rfl) rfl rfl ?_
        refine ev_aload_n pm53 i53_58 rfl rfl rfl ?_
        obtain ⟨x22, e23, hS⟩ := bn_s hS
        refine ev_getR pm53 i53_59 rfl rfl rfl e23 rfl ?_
        refine ev_aload_n pm53 i53_62 rfl rfl rfl ?_
        obtain ⟨x24, e25, hS⟩ := bn_s hS
        refine ev_getI pm53 i53_63 rfl rfl (by decide) e25 rfl ?_
        refine ev_iload_n pm53 i53_66 rfl rfl rfl ?_
        obtain ⟨h26, e27, hS⟩ := bn_s hS
        refine ev_iast pm53 i53_67 rfl e27 rfl ?_
        refine ev_aload_n pm53 i53_68 rfl rfl rfl ?_
        obtain ⟨x28, e29, hS⟩ := bn_s hS
        refine ev_getR pm53 i53_69 rfl rfl rfl e29 rfl ?_
        refine ev_aload_n pm53 i53_72 rfl rfl rfl ?_
        obtain ⟨x30, e31, hS⟩ := bn_s hS
        refine ev_getI pm53 i53_73 rfl rfl (by decide) e31 rfl ?_
        refine ev_iload_n pm53 i53_76 rfl rfl rfl ?_
        obtain ⟨h32, e33, hS⟩ := bn_s hS
        refine ev_iast pm53 i53_77 rfl e33 rfl ?_
        refine ev_aload_n pm53 i53_78 rfl rfl rfl ?_
        obtain ⟨x34, e35, hS⟩ := bn_s hS
        refine ev_getR pm53 i53_79 rfl rfl rfl e35 rfl ?_
        refine ev_aload_n pm53 i53_82 rfl rfl rfl ?_
        obtain ⟨x36, e37, hS⟩ := bn_s hS
        refine ev_getI pm53 i53_83 rfl rfl (by decide) e37 rfl ?_
        refine ev_aload_n pm53 i53_86 rfl rfl rfl ?_
        obtain ⟨x38, e39, hS⟩ := bn_s hS
        refine ev_getI pm53 i53_87 rfl rfl (by decide) e39 rfl ?_
        obtain ⟨h40, e41, hS⟩ := bn_s hS
        refine ev_iast pm53 i53_90 rfl e41 rfl ?_
        refine ev_aload_n pm53 i53_91 rfl rfl rfl ?_
        refine ev_dup pm53 i53_92 rfl rfl rfl ?_
        obtain ⟨x42, e43, hS⟩ := bn_s hS
        refine ev_getI pm53 i53_93 rfl rfl (by decide) e43 rfl ?_
        refine ev_iconst (v := 1) pm53 i53_96 rfl (by decide) rfl ?_
        refine ev_b2 (f := fun x y => x + y) pm53 i53_97 rfl (fun _ _ _ _ => rfl) rfl ?_
        obtain ⟨h44, e45, hS⟩ := bn_s hS
        refine ev_putI pm53 i53_98 rfl rfl rfl e45 rfl ?_
        refine ev_iconst (v := 1) pm53 i53_101 rfl (by decide) rfl ?_
        cases hS
        exact ev_ireturn pm53 i53_102 rfl (by decide) rfl
def B_hs_hasSeen_2 (l0 : Nat) (l1 : Int32) (h : Hp) (s : Int32) : Option ((Int32) ⊕ ((Unit) ⊕ Int32)) :=
  bn (gI h l0 1 4) fun x1 =>
  if s < x1 then
    (bn (gR h l0 1 5) fun x3 =>
    bn (aI h 100 x3 s) fun x5 =>
    if x5 = l1 then
      (some (.inr (.inr (1 : Int32))))
    else
      (some (.inl (s + (1 : Int32)))))
  else
    (some (.inr (.inl ())))
set_option maxRecDepth 20000 in
theorem L_hs_hasSeen_2 (d : Nat) (hd : 0 ≤ d) {l0 : Nat} {l1 : Int32} {h : Hp} : ∀ (n : Nat) (s : Int32) (x : (Unit) ⊕ Int32), lq (B_hs_hasSeen_2 l0 l1 h) n s = some x → ∀ r, ei x (fun q => Ev P d 55 (28, [unk, unk, unk], [], h) r) (fun v => (some (.int v), h) = r) → Ev P d 55 (2, [.ref l0, .int l1, .int s], [], h) r := by
  refine lq_ev (G0 := fun (s : Int32) r => Ev P d 55 (2, [.ref l0, .int l1, .int s], [], h) r) (X := fun (x : (Unit) ⊕ Int32) r => ei x (fun q => Ev P d 55 (28, [unk, unk, unk], [], h) r) (fun v => (some (.int v), h) = r)) ?_
  intro s y hS r hK
  unfold B_hs_hasSeen_2 at hS
  show Ev P d 55 (2, [.ref l0, .int l1, .int s], [], h) r
  refine ev_iload_n pm55 i55_2 rfl rfl rfl ?_
  refine ev_aload_n pm55 i55_3 rfl rfl rfl ?_
  obtain ⟨x1, e2, hS⟩ := bn_s hS
  refine ev_getI pm55 i55_4 rfl rfl (by decide) e2 rfl ?_
  by_cases c154 : s < x1
  · rw [if_pos c154] at hS
    refine ev_icmp_ge_t (t := 28) pm55 i55_7 rfl c154 rfl rfl ?_
    refine ev_aload_n pm55 i55_10 rfl rfl rfl ?_
    obtain ⟨x3, e4, hS⟩ := bn_s hS
    refine ev_getR pm55 i55_11 rfl rfl rfl e4 rfl ?_
    refine ev_iload_n pm55 i55_14 rfl rfl rfl ?_
    obtain ⟨x5, e6, hS⟩ := bn_s hS
    refine ev_iald pm55 i55_15 rfl e6 rfl ?_
    refine ev_iload_n pm55 i55_16 rfl rfl rfl ?_
    by_cases c155 : x5 = l1
    · rw [if_pos c155] at hS
      refine ev_icmp_ne_t (t := 22) pm55 i55_17 rfl c155 rfl rfl ?_
      refine ev_iconst (v := 1) pm55 i55_20 rfl (by decide) rfl ?_
      cases hS
      exact ev_ireturn pm55 i55_21 rfl (by decide) hK
    · rw [if_neg c155] at hS
      refine ev_icmp_ne_f (t := 22) pm55 i55_17 rfl c155 rfl rfl ?_
      refine ev_iinc (v := 1) (ls' := [.ref l0, .int l1, .int (s + (1 : Int32))]) pm55 i55_22 rfl rfl (by decide) rfl rfl ?_
      refine ev_goto (t := 2) pm55 i55_25 rfl rfl ?_
      cases hS
      exact hK
  · rw [if_neg c154] at hS
    refine ev_icmp_ge_f (t := 28) pm55 i55_7 rfl c154 rfl rfl ?_
    refine ev_kls (ls' := [unk, unk, unk]) pm55 i55_28 rfl rfl ?_
    cases hS
    exact hK
def F_hs_hasSeen (a0 : Nat) (a1 : Int32) (h : Hp) : Option Int32 :=
  ck h a0 1 (bn (lq (B_hs_hasSeen_2 a0 a1 h) FU (0 : Int32)) fun x7 =>
  ei x7 (fun q9 =>
  some (0 : Int32))
  (fun x10 => some x10))
set_option maxRecDepth 20000 in
theorem K_hs_hasSeen {a0 : Nat} {a1 : Int32} {h : Hp} {v : Int32} (hS : F_hs_hasSeen a0 a1 h = some v) : kd h a0 = 1 := by
  unfold F_hs_hasSeen at hS
  exact (ck_s hS).1
set_option maxRecDepth 20000 in
theorem R_hs_hasSeen (d : Nat) (hd : 0 ≤ d) {a0 : Nat} {a1 : Int32} {h : Hp} {v : Int32} (hS : F_hs_hasSeen a0 a1 h = some v) : Ev P d 55 (0, [.ref a0, .int a1, unk], [], h) (some (.int v), h) := by
  unfold F_hs_hasSeen at hS
  replace hS := (ck_s hS).2
  refine ev_iconst (v := 0) pm55 i55_0 rfl (by decide) rfl ?_
  refine ev_istore_n (ls' := [.ref a0, .int a1, .int (0 : Int32)]) pm55 i55_1 rfl (Nat.le_of_ble_eq_true rfl) rfl rfl ?_
  obtain ⟨x7, e8, hS⟩ := bn_s hS
  refine L_hs_hasSeen_2 d (by omega) _ _ _ e8 _ ?_
  cases x7 with
  | inl q9 =>
    replace hS := ei_l hS
    show Ev P d 55 (28, [unk, unk, unk], [], h) _
    refine ev_iconst (v := 0) pm55 i55_28 rfl (by decide) rfl ?_
    cases hS
    exact ev_ireturn pm55 i55_29 rfl (by decide) rfl
  | inr x10 =>
    replace hS := ei_r hS
    cases hS
    rfl
def F_rd_readSeen (a0 : Nat) (h : Hp) : Option (Int32 × Hp) :=
  ck h a0 7 (bn (gR h a0 7 3) fun x1 =>
  bn (gR h x1 10 18) fun x3 =>
  bd (F_rd_numberOfName a0 (1 : Int32) h) fun x6 h7 =>
  if x6 < (0 : Int32) then
    (some ((0 : Int32), h7))
  else
    (bn (F_hs_hasSeen x3 x6 h7) fun x9 =>
    if x9 = (0 : Int32) then
      (bn (gR h7 a0 7 2) fun x10 =>
      bn (F_tk_advance x10 h7) fun h13 =>
      bn (gR h13 a0 7 2) fun x14 =>
      bn (F_tk_isWord x14 1000025 h13) fun x17 =>
      bn (if x17 = (0 : Int32) then
          (bn (gR h13 a0 7 2) fun x18 =>
          bn (F_tk_isWord x18 1000026 h13) fun x21 =>
          if x21 = (0 : Int32) then
            (bd (F_rd_fail a0 (1 : Int32) h13) fun x23 h24 =>
            if retV .boolean x23 = true then
              (some (Sum.inr (x23, h24)))
            else
              (none))
          else
            (some (Sum.inl ())))
        else
          (some (Sum.inl ()))) fun x56 =>
      ei x56 (fun z26 =>
      bn (gR h13 a0 7 2) fun x27 =>
      bn (F_tk_advance x27 h13) fun h30 =>
      bn (if x17 = (0 : Int32) then
          (some (0 : Int32))
        else
          (some (1 : Int32))) fun q31 =>
      bd (F_rd_takeWhole a0 q31 (200 : Int32) h30) fun x33 h34 =>
      if x33 = (0 : Int32) then
        (some ((0 : Int32), h34))
      else
        (bn (gR h34 x3 1 5) fun x35 =>
        bn (gI h34 x3 1 4) fun x37 =>
        bn (sI h34 100 x35 x37 x6) fun h39 =>
        bn (gR h39 x3 1 6) fun x41 =>
        bn (gI h39 x3 1 4) fun x43 =>
        bn (if x17 = (0 : Int32) then
            (bn (gI h39 a0 7 9) fun x45 =>
            some x45)
          else
            (bn (gI h39 a0 7 9) fun x47 =>
            some (-x47))) fun q49 =>
        bn (sI h39 100 x41 x43 q49) fun h50 =>
        bn (gI h50 x3 1 4) fun x52 =>
        bn (pI h50 x3 1 4 (x52 + (1 : Int32))) fun h54 =>
        some ((1 : Int32), h54)))
      (fun z => some z))
    else
      (bd (F_rd_fail a0 (3 : Int32) h7) fun x58 h59 =>
      if retV .boolean x58 = true then
        (some (x58, h59))
      else
        (none))))
set_option maxRecDepth 20000 in
theorem K_rd_readSeen {a0 : Nat} {h : Hp} {v : Int32} {h' : Hp} (hS : F_rd_readSeen a0 h = some (v, h')) : kd h a0 = 7 := by
  unfold F_rd_readSeen at hS
  exact (ck_s hS).1
set_option maxRecDepth 20000 in
theorem R_rd_readSeen (d : Nat) (hd : 7 ≤ d) {a0 : Nat} {h : Hp} {v : Int32} {h' : Hp} (hS : F_rd_readSeen a0 h = some (v, h')) : Ev P d 54 (0, [.ref a0, unk, unk, unk], [], h) (some (.int v), h') := by
  unfold F_rd_readSeen at hS
  replace hS := (ck_s hS).2
  refine ev_aload_n pm54 i54_0 rfl rfl rfl ?_
  obtain ⟨x1, e2, hS⟩ := bn_s hS
  refine ev_getR pm54 i54_1 rfl rfl rfl e2 rfl ?_
  obtain ⟨x3, e4, hS⟩ := bn_s hS
  refine ev_getR pm54 i54_4 rfl rfl rfl e4 rfl ?_
  refine ev_astore_n (ls' := [.ref a0, .ref x3, unk, unk]) pm54 i54_7 rfl (Nat.le_of_ble_eq_true rfl) rfl rfl ?_
  refine ev_aload_n pm54 i54_8 rfl rfl rfl ?_
  refine ev_iconst (v := 1) pm54 i54_9 rfl (by decide) rfl ?_
  obtain ⟨x6, h7, e5, hS⟩ := bd_s hS
  refine ev_callV (sa := [.int (1 : Int32)]) (rest := []) (st' := [.int x6]) (ls0 := [.ref a0, .int (1 : Int32), unk]) (rv := some (.int x6)) pm54 i54_10 rfl rfl pm45 (by decide) (K_rd_numberOfName e5) rfl rfl (Nat.le_of_ble_eq_true rfl) (by omega) rfl (R_rd_numberOfName (d - 1) (by omega) e5) (by simp) rfl rfl ?_
  refine ev_istore_n (ls' := [.ref a0, .ref x3, .int x6, unk]) pm54 i54_13 rfl (Nat.le_of_ble_eq_true rfl) rfl rfl ?_
  refine ev_iload_n pm54 i54_14 rfl rfl rfl ?_
  by_cases c156 : x6 < (0 : Int32)
  · rw [if_pos c156] at hS
    refine ev_if_ge_t (t := 20) pm54 i54_15 rfl c156 rfl rfl ?_
    refine ev_iconst (v := 0) pm54 i54_18 rfl (by decide) rfl ?_
    cases hS
    exact ev_ireturn pm54 i54_19 rfl (by decide) rfl
  · rw [if_neg c156] at hS
    refine ev_if_ge_f (t := 20) pm54 i54_15 rfl c156 rfl rfl ?_
    refine ev_aload_n pm54 i54_20 rfl rfl rfl ?_
    refine ev_iload_n pm54 i54_21 rfl rfl rfl ?_
    obtain ⟨x9, e8, hS⟩ := bn_s hS
    refine ev_callV (sa := [.int x6]) (rest := []) (st' := [.int x9]) (ls0 := [.ref x3, .int x6, unk]) (rv := some (.int x9)) pm54 i54_22 rfl rfl pm55 (by decide) (K_hs_hasSeen e8) rfl rfl (Nat.le_of_ble_eq_true rfl) (by omega) rfl (R_hs_hasSeen (d - 1) (by omega) e8) (by simp) rfl rfl ?_
    by_cases c157 : x9 = (0 : Int32)
    · rw [if_pos c157] at hS
      refine ev_if_eq_t (t := 34) pm54 i54_25 rfl c157 rfl rfl ?_
      refine ev_aload_n pm54 i54_34 rfl rfl rfl ?_
      obtain ⟨x10, e11, hS⟩ := bn_s hS
      refine ev_getR pm54 i54_35 rfl rfl rfl e11 rfl ?_
      obtain ⟨h13, e12, hS⟩ := bn_s hS
      refine ev_callV (sa := []) (rest := []) (st' := []) (ls0 := [.ref x10]) (rv := none) pm54 i54_38 rfl rfl pm23 (by decide) (K_tk_advance e12) rfl rfl (Nat.le_of_ble_eq_true rfl) (by omega) rfl (R_tk_advance (d - 1) (by omega) e12) (by simp) rfl rfl ?_
      refine ev_aload_n pm54 i54_41 rfl rfl rfl ?_
      obtain ⟨x14, e15, hS⟩ := bn_s hS
      refine ev_getR pm54 i54_42 rfl rfl rfl e15 rfl ?_
      refine ev_ldc (v := .ref 1000025) pm54 i54_45 rfl rfl rfl ?_
      obtain ⟨x17, e16, hS⟩ := bn_s hS
      refine ev_callV (sa := [.ref 1000025]) (rest := []) (st' := [.int x17]) (ls0 := [.ref x14, .ref 1000025, unk]) (rv := some (.int x17)) pm54 i54_47 rfl rfl pm28 (by decide) (K_tk_isWord e16) rfl rfl (Nat.le_of_ble_eq_true rfl) (by omega) rfl (R_tk_isWord (d - 1) (by omega) e16) (by simp) rfl rfl ?_
      refine ev_istore_n (ls' := [.ref a0, .ref x3, .int x6, .int x17]) pm54 i54_50 rfl (Nat.le_of_ble_eq_true rfl) rfl rfl ?_
      refine ev_iload_n pm54 i54_51 rfl rfl rfl ?_
      obtain ⟨x56, I158, hS⟩ := bn_s hS
      have J1 : ∀ z26, x56 = Sum.inl z26 → Ev P d 54 (73, [.ref a0, .ref x3, .int x6, .int x17], [], h13) (some (.int v), h') := by
        intro z26 hx
        subst hx
        replace hS := ei_l hS
        refine ev_aload_n pm54 i54_73 rfl rfl rfl ?_
        obtain ⟨x27, e28, hS⟩ := bn_s hS
        refine ev_getR pm54 i54_74 rfl rfl rfl e28 rfl ?_
        obtain ⟨h30, e29, hS⟩ := bn_s hS
        refine ev_callV (sa := []) (rest := []) (st' := []) (ls0 := [.ref x27]) (rv := none) pm54 i54_77 rfl rfl pm23 (by decide) (K_tk_advance e29) rfl rfl (Nat.le_of_ble_eq_true rfl) (by omega) rfl (R_tk_advance (d - 1) (by omega) e29) (by simp) rfl rfl ?_
        refine ev_aload_n pm54 i54_80 rfl rfl rfl ?_
        refine ev_iload_n pm54 i54_81 rfl rfl rfl ?_
        obtain ⟨q31, I159, hS⟩ := bn_s hS
        have J2 : Ev P d 54 (90, [.ref a0, .ref x3, .int x6, .int x17], [.int q31, .ref a0], h30) (some (.int v), h') := by
          refine ev_sipush (v := 200) pm54 i54_90 rfl (by decide) rfl ?_
          obtain ⟨x33, h34, e32, hS⟩ := bd_s hS
          refine ev_callV (sa := [.int (200 : Int32), .int q31]) (rest := []) (st' := [.int x33]) (ls0 := [.ref a0, .int q31, .int (200 : Int32)]) (rv := some (.int x33)) pm54 i54_93 rfl rfl pm40 (by decide) (K_rd_takeWhole e32) rfl rfl (Nat.le_of_ble_eq_true rfl) (by omega) rfl (R_rd_takeWhole (d - 1) (by omega) e32) (by simp) rfl rfl ?_
          by_cases c160 : x33 = (0 : Int32)
          · rw [if_pos c160] at hS
            refine ev_if_ne_t (t := 101) pm54 i54_96 rfl c160 rfl rfl ?_
            refine ev_iconst (v := 0) pm54 i54_99 rfl (by decide) rfl ?_
            cases hS
            exact ev_ireturn pm54 i54_100 rfl (by decide) rfl
          · rw [if_neg c160] at hS
            refine ev_if_ne_f (t := 101) pm54 i54_96 rfl c160 rfl rfl ?_
            refine ev_aload_n pm54 i54_101 rfl rfl rfl ?_
            obtain ⟨x35, e36, hS⟩ := bn_s hS
            refine ev_getR pm54 i54_102 rfl rfl rfl e36 rfl ?_
            refine ev_aload_n pm54 i54_105 rfl rfl rfl ?_
            obtain ⟨x37, e38, hS⟩ := bn_s hS
            refine ev_getI pm54 i54_106 rfl rfl (by decide) e38 rfl ?_
            refine ev_iload_n pm54 i54_109 rfl rfl rfl ?_
            obtain ⟨h39, e40, hS⟩ := bn_s hS
            refine ev_iast pm54 i54_110 rfl e40 rfl ?_
            refine ev_aload_n pm54 i54_111 rfl rfl rfl ?_
            obtain ⟨x41, e42, hS⟩ := bn_s hS
            refine ev_getR pm54 i54_112 rfl rfl rfl e42 rfl ?_
            refine ev_aload_n pm54 i54_115 rfl rfl rfl ?_
            obtain ⟨x43, e44, hS⟩ := bn_s hS
            refine ev_getI pm54 i54_116 rfl rfl (by decide) e44 rfl ?_
            refine ev_iload_n pm54 i54_119 rfl rfl rfl ?_
            obtain ⟨q49, I161, hS⟩ := bn_s hS
            have J3 : Ev P d 54 (135, [unk, .ref x3, unk, unk], [.int q49, .int x43, .ref x41], h39) (some (.int v), h') := by
              obtain ⟨h50, e51, hS⟩ := bn_s hS
              refine ev_iast pm54 i54_135 rfl e51 rfl ?_
              refine ev_aload_n pm54 i54_136 rfl rfl rfl ?_
              refine ev_dup pm54 i54_137 rfl rfl rfl ?_
              obtain ⟨x52, e53, hS⟩ := bn_s hS
              refine ev_getI pm54 i54_138 rfl rfl (by decide) e53 rfl ?_
              refine ev_iconst (v := 1) pm54 i54_141 rfl (by decide) rfl ?_
              refine ev_b2 (f := fun x y => x + y) pm54 i54_142 rfl (fun _ _ _ _ => rfl) rfl ?_
              obtain ⟨h54, e55, hS⟩ := bn_s hS
              refine ev_putI pm54 i54_143 rfl rfl rfl e55 rfl ?_
              refine ev_iconst (v := 1) pm54 i54_146 rfl (by decide) rfl ?_
              cases hS
              exact ev_ireturn pm54 i54_147 rfl (by decide) rfl
            clear hS
            by_cases c161 : x17 = (0 : Int32)
            · rw [if_pos c161] at I161
              refine ev_if_eq_t (t := 131) pm54 i54_120 rfl c161 rfl rfl ?_
              refine ev_aload_n pm54 i54_131 rfl rfl rfl ?_
              obtain ⟨x45, e46, I161⟩ := bn_s I161
              refine ev_getI pm54 i54_132 rfl rfl (by decide) e46 rfl ?_
              refine ev_kls (ls' := [unk, .ref x3, unk, unk]) pm54 i54_135 rfl rfl ?_
              cases I161
              exact J3
            · rw [if_neg c161] at I161
              refine ev_if_eq_f (t := 131) pm54 i54_120 rfl c161 rfl rfl ?_
              refine ev_aload_n pm54 i54_123 rfl rfl rfl ?_
              obtain ⟨x47, e48, I161⟩ := bn_s I161
              refine ev_getI pm54 i54_124 rfl rfl (by decide) e48 rfl ?_
              refine ev_ineg pm54 i54_127 rfl rfl ?_
              refine ev_goto (t := 135) pm54 i54_128 rfl rfl ?_
              refine ev_kls (ls' := [unk, .ref x3, unk, unk]) pm54 i54_135 rfl rfl ?_
              cases I161
              exact J3
        clear hS
        by_cases c159 : x17 = (0 : Int32)
        · rw [if_pos c159] at I159
          refine ev_if_eq_t (t := 89) pm54 i54_82 rfl c159 rfl rfl ?_
          refine ev_iconst (v := 0) pm54 i54_89 rfl (by decide) rfl ?_
          cases I159
          exact J2
        · rw [if_neg c159] at I159
          refine ev_if_eq_f (t := 89) pm54 i54_82 rfl c159 rfl rfl ?_
          refine ev_iconst (v := 1) pm54 i54_85 rfl (by decide) rfl ?_
          refine ev_goto (t := 90) pm54 i54_86 rfl rfl ?_
          cases I159
          exact J2
      have Z1 := ej_z hS
      clear hS
      by_cases c158 : x17 = (0 : Int32)
      · rw [if_pos c158] at I158
        refine ev_if_ne_t (t := 73) pm54 i54_52 rfl c158 rfl rfl ?_
        refine ev_aload_n pm54 i54_55 rfl rfl rfl ?_
        obtain ⟨x18, e19, I158⟩ := bn_s I158
        refine ev_getR pm54 i54_56 rfl rfl rfl e19 rfl ?_
        refine ev_ldc (v := .ref 1000026) pm54 i54_59 rfl rfl rfl ?_
        obtain ⟨x21, e20, I158⟩ := bn_s I158
        refine ev_callV (sa := [.ref 1000026]) (rest := []) (st' := [.int x21]) (ls0 := [.ref x18, .ref 1000026, unk]) (rv := some (.int x21)) pm54 i54_61 rfl rfl pm28 (by decide) (K_tk_isWord e20) rfl rfl (Nat.le_of_ble_eq_true rfl) (by omega) rfl (R_tk_isWord (d - 1) (by omega) e20) (by simp) rfl rfl ?_
        by_cases c162 : x21 = (0 : Int32)
        · rw [if_pos c162] at I158
          refine ev_if_ne_t (t := 73) pm54 i54_64 rfl c162 rfl rfl ?_
          refine ev_aload_n pm54 i54_67 rfl rfl rfl ?_
          refine ev_iconst (v := 1) pm54 i54_68 rfl (by decide) rfl ?_
          obtain ⟨x23, h24, e22, I158⟩ := bd_s I158
          refine ev_callV (sa := [.int (1 : Int32)]) (rest := []) (st' := [.int x23]) (ls0 := [.ref a0, .int (1 : Int32)]) (rv := some (.int x23)) pm54 i54_69 rfl rfl pm36 (by decide) (K_rd_fail e22) rfl rfl (Nat.le_of_ble_eq_true rfl) (by omega) rfl (R_rd_fail (d - 1) (by omega) e22) (by simp) rfl rfl ?_
          by_cases c163 : retV .boolean x23 = true
          · rw [if_pos c163] at I158
            cases I158
            have hz1 := Z1 _ rfl
            cases hz1
            exact ev_ireturn pm54 i54_72 rfl c163 rfl
          · rw [if_neg c163] at I158
            cases I158
        · rw [if_neg c162] at I158
          refine ev_if_ne_f (t := 73) pm54 i54_64 rfl c162 rfl rfl ?_
          cases I158
          exact J1 _ rfl
      · rw [if_neg c158] at I158
        refine ev_if_ne_f (t := 73) pm54 i54_52 rfl c158 rfl rfl ?_
        cases I158
        exact J1 _ rfl
    · rw [if_neg c157] at hS
      refine ev_if_eq_f (t := 34) pm54 i54_25 rfl c157 rfl rfl ?_
      refine ev_aload_n pm54 i54_28 rfl rfl rfl ?_
      refine ev_iconst (v := 3) pm54 i54_29 rfl (by decide) rfl ?_
      obtain ⟨x58, h59, e57, hS⟩ := bd_s hS
      refine ev_callV (sa := [.int (3 : Int32)]) (rest := []) (st' := [.int x58]) (ls0 := [.ref a0, .int (3 : Int32)]) (rv := some (.int x58)) pm54 i54_30 rfl rfl pm36 (by decide) (K_rd_fail e57) rfl rfl (Nat.le_of_ble_eq_true rfl) (by omega) rfl (R_rd_fail (d - 1) (by omega) e57) (by simp) rfl rfl ?_
      by_cases c164 : retV .boolean x58 = true
      · rw [if_pos c164] at hS
        cases hS
        exact ev_ireturn pm54 i54_33 rfl c164 rfl
      · rw [if_neg c164] at hS
        cases hS
def F_rd_readLine (a0 : Nat) (h : Hp) : Option (Int32 × Hp) :=
  ck h a0 7 (bn (F_rd_lineSort a0 h) fun x2 =>
  if x2 = (-1 : Int32) then
    (bd (F_rd_fail a0 (1 : Int32) h) fun x4 h5 =>
    if retV .boolean x4 = true then
      (some (x4, h5))
    else
      (none))
  else
    (bn (if x2 = (0 : Int32) then
        (bn (gI h a0 7 4) fun x6 =>
        if x6 = (0 : Int32) then
          (some (Sum.inl ()))
        else
          (bd (F_rd_fail a0 (3 : Int32) h) fun x9 h10 =>
          if retV .boolean x9 = true then
            (some (Sum.inr (x9, h10)))
          else
            (none)))
      else
        (some (Sum.inl ()))) fun x57 =>
    ei x57 (fun z12 =>
    bn (if x2 = (0 : Int32) then
        (some (Sum.inl ()))
      else
        (bn (gI h a0 7 4) fun x13 =>
        if x13 = (0 : Int32) then
          (bd (F_rd_fail a0 (6 : Int32) h) fun x16 h17 =>
          if retV .boolean x16 = true then
            (some (Sum.inr (x16, h17)))
          else
            (none))
        else
          (some (Sum.inl ())))) fun x56 =>
    ei x56 (fun z19 =>
    bn (F_rd_hasRoomFor a0 x2 h) fun x21 =>
    if x21 = (0 : Int32) then
      (bd (F_rd_fail a0 (5 : Int32) h) fun x23 h24 =>
      if retV .boolean x23 = true then
        (some (x23, h24))
      else
        (none))
    else
      (bn (gR h a0 7 2) fun x25 =>
      bn (F_tk_advance x25 h) fun h28 =>
      if (x2).toInt < 0 ∨ 7 < (x2).toInt then
        (bd (F_rd_readSeen a0 h28) fun x30 h31 =>
        if retV .boolean x30 = true then
          (some (x30, h31))
        else
          (none))
      else if x2 = (0 : Int32) then
        (bd (F_rd_readMice a0 h28) fun x33 h34 =>
        if retV .boolean x33 = true then
          (some (x33, h34))
        else
          (none))
      else if x2 = (1 : Int32) then
        (bd (F_rd_readHouse a0 h28) fun x36 h37 =>
        if retV .boolean x36 = true then
          (some (x36, h37))
        else
          (none))
      else if x2 = (2 : Int32) then
        (bd (F_rd_readRope a0 h28) fun x39 h40 =>
        if retV .boolean x39 = true then
          (some (x39, h40))
        else
          (none))
      else if x2 = (3 : Int32) then
        (bd (F_rd_readCorks a0 h28) fun x42 h43 =>
        if retV .boolean x42 = true then
          (some (x42, h43))
        else
          (none))
      else if x2 = (4 : Int32) then
        (bd (F_rd_readGuest a0 h28) fun x45 h46 =>
        if retV .boolean x45 = true then
          (some (x45, h46))
        else
          (none))
      else if x2 = (5 : Int32) then
        (bd (F_rd_readDrinker a0 h28) fun x48 h49 =>
        if retV .boolean x48 = true then
          (some (x48, h49))
        else
          (none))
      else if x2 = (6 : Int32) then
        (bd (F_rd_readFeast a0 h28) fun x51 h52 =>
        if retV .boolean x51 = true then
          (some (x51, h52))
        else
          (none))
      else if x2 = (7 : Int32) then
        (bd (F_rd_readGave a0 h28) fun x54 h55 =>
        if retV .boolean x54 = true then
          (some (x54, h55))
        else
          (none))
      else none))
    (fun z => some z))
    (fun z => some z)))
set_option maxRecDepth 20000 in
theorem K_rd_readLine {a0 : Nat} {h : Hp} {v : Int32} {h' : Hp} (hS : F_rd_readLine a0 h = some (v, h')) : kd h a0 = 7 := by
  unfold F_rd_readLine at hS
  exact (ck_s hS).1
set_option maxRecDepth 20000 in
theorem R_rd_readLine (d : Nat) (hd : 8 ≤ d) {a0 : Nat} {h : Hp} {v : Int32} {h' : Hp} (hS : F_rd_readLine a0 h = some (v, h')) : Ev P d 26 (0, [.ref a0, unk], [], h) (some (.int v), h') := by
  unfold F_rd_readLine at hS
  replace hS := (ck_s hS).2
  refine ev_aload_n pm26 i26_0 rfl rfl rfl ?_
  obtain ⟨x2, e1, hS⟩ := bn_s hS
  refine ev_callV (sa := []) (rest := []) (st' := [.int x2]) (ls0 := [.ref a0]) (rv := some (.int x2)) pm26 i26_1 rfl rfl pm27 (by decide) (K_rd_lineSort e1) rfl rfl (Nat.le_of_ble_eq_true rfl) (by omega) rfl (R_rd_lineSort (d - 1) (by omega) e1) (by simp) rfl rfl ?_
  refine ev_istore_n (ls' := [.ref a0, .int x2]) pm26 i26_4 rfl (Nat.le_of_ble_eq_true rfl) rfl rfl ?_
  refine ev_iload_n pm26 i26_5 rfl rfl rfl ?_
  refine ev_iconst (v := -1) pm26 i26_6 rfl (by decide) rfl ?_
  by_cases c165 : x2 = (-1 : Int32)
  · rw [if_pos c165] at hS
    refine ev_icmp_ne_t (t := 16) pm26 i26_7 rfl c165 rfl rfl ?_
    refine ev_aload_n pm26 i26_10 rfl rfl rfl ?_
    refine ev_iconst (v := 1) pm26 i26_11 rfl (by decide) rfl ?_
    obtain ⟨x4, h5, e3, hS⟩ := bd_s hS
    refine ev_callV (sa := [.int (1 : Int32)]) (rest := []) (st' := [.int x4]) (ls0 := [.ref a0, .int (1 : Int32)]) (rv := some (.int x4)) pm26 i26_12 rfl rfl pm36 (by decide) (K_rd_fail e3) rfl rfl (Nat.le_of_ble_eq_true rfl) (by omega) rfl (R_rd_fail (d - 1) (by omega) e3) (by simp) rfl rfl ?_
    by_cases c166 : retV .boolean x4 = true
    · rw [if_pos c166] at hS
      cases hS
      exact ev_ireturn pm26 i26_15 rfl c166 rfl
    · rw [if_neg c166] at hS
      cases hS
  · rw [if_neg c165] at hS
    refine ev_icmp_ne_f (t := 16) pm26 i26_7 rfl c165 rfl rfl ?_
    refine ev_iload_n pm26 i26_16 rfl rfl rfl ?_
    obtain ⟨x57, I167, hS⟩ := bn_s hS
    have J1 : ∀ z12, x57 = Sum.inl z12 → Ev P d 26 (33, [.ref a0, .int x2], [], h) (some (.int v), h') := by
      intro z12 hx
      subst hx
      replace hS := ei_l hS
      refine ev_iload_n pm26 i26_33 rfl rfl rfl ?_
      obtain ⟨x56, I168, hS⟩ := bn_s hS
      have J2 : ∀ z19, x56 = Sum.inl z19 → Ev P d 26 (51, [.ref a0, .int x2], [], h) (some (.int v), h') := by
        intro z19 hx
        subst hx
        replace hS := ei_l hS
        refine ev_aload_n pm26 i26_51 rfl rfl rfl ?_
        refine ev_iload_n pm26 i26_52 rfl rfl rfl ?_
        obtain ⟨x21, e20, hS⟩ := bn_s hS
        refine ev_callV (sa := [.int x2]) (rest := []) (st' := [.int x21]) (ls0 := [.ref a0, .int x2]) (rv := some (.int x21)) pm26 i26_53 rfl rfl pm37 (by decide) (K_rd_hasRoomFor e20) rfl rfl (Nat.le_of_ble_eq_true rfl) (by omega) rfl (R_rd_hasRoomFor (d - 1) (by omega) e20) (by simp) rfl rfl ?_
        by_cases c169 : x21 = (0 : Int32)
        · rw [if_pos c169] at hS
          refine ev_if_ne_t (t := 65) pm26 i26_56 rfl c169 rfl rfl ?_
          refine ev_aload_n pm26 i26_59 rfl rfl rfl ?_
          refine ev_iconst (v := 5) pm26 i26_60 rfl (by decide) rfl ?_
          obtain ⟨x23, h24, e22, hS⟩ := bd_s hS
          refine ev_callV (sa := [.int (5 : Int32)]) (rest := []) (st' := [.int x23]) (ls0 := [.ref a0, .int (5 : Int32)]) (rv := some (.int x23)) pm26 i26_61 rfl rfl pm36 (by decide) (K_rd_fail e22) rfl rfl (Nat.le_of_ble_eq_true rfl) (by omega) rfl (R_rd_fail (d - 1) (by omega) e22) (by simp) rfl rfl ?_
          by_cases c170 : retV .boolean x23 = true
          · rw [if_pos c170] at hS
            cases hS
            exact ev_ireturn pm26 i26_64 rfl c170 rfl
          · rw [if_neg c170] at hS
            cases hS
        · rw [if_neg c169] at hS
          refine ev_if_ne_f (t := 65) pm26 i26_56 rfl c169 rfl rfl ?_
          refine ev_aload_n pm26 i26_65 rfl rfl rfl ?_
          obtain ⟨x25, e26, hS⟩ := bn_s hS
          refine ev_getR pm26 i26_66 rfl rfl rfl e26 rfl ?_
          obtain ⟨h28, e27, hS⟩ := bn_s hS
          refine ev_callV (sa := []) (rest := []) (st' := []) (ls0 := [.ref x25]) (rv := none) pm26 i26_69 rfl rfl pm23 (by decide) (K_tk_advance e27) rfl rfl (Nat.le_of_ble_eq_true rfl) (by omega) rfl (R_tk_advance (d - 1) (by omega) e27) (by simp) rfl rfl ?_
          refine ev_iload_n pm26 i26_72 rfl rfl rfl ?_
          by_cases c171 : (x2).toInt < 0 ∨ 7 < (x2).toInt
          · rw [if_pos c171] at hS
            refine ev_tabO (t := 160) pm26 i26_73 rfl c171 rfl ?_
            refine ev_aload_n pm26 i26_160 rfl rfl rfl ?_
            obtain ⟨x30, h31, e29, hS⟩ := bd_s hS
            refine ev_callV (sa := []) (rest := []) (st' := [.int x30]) (ls0 := [.ref a0, unk, unk, unk]) (rv := some (.int x30)) pm26 i26_161 rfl rfl pm54 (by decide) (K_rd_readSeen e29) rfl rfl (Nat.le_of_ble_eq_true rfl) (by omega) rfl (R_rd_readSeen (d - 1) (by omega) e29) (by simp) rfl rfl ?_
            by_cases c172 : retV .boolean x30 = true
            · rw [if_pos c172] at hS
              cases hS
              exact ev_ireturn pm26 i26_164 rfl c172 rfl
            · rw [if_neg c172] at hS
              cases hS
          rw [if_neg c171] at hS
          by_cases c173 : x2 = (0 : Int32)
          · rw [if_pos c173] at hS
            refine ev_tabI (t := 120) (off := 47) pm26 i26_73 rfl (0 : Int32) c173 (by decide) rfl rfl ?_
            refine ev_aload_n pm26 i26_120 rfl rfl rfl ?_
            obtain ⟨x33, h34, e32, hS⟩ := bd_s hS
            refine ev_callV (sa := []) (rest := []) (st' := [.int x33]) (ls0 := [.ref a0]) (rv := some (.int x33)) pm26 i26_121 rfl rfl pm38 (by decide) (K_rd_readMice e32) rfl rfl (Nat.le_of_ble_eq_true rfl) (by omega) rfl (R_rd_readMice (d - 1) (by omega) e32) (by simp) rfl rfl ?_
            by_cases c174 : retV .boolean x33 = true
            · rw [if_pos c174] at hS
              cases hS
              exact ev_ireturn pm26 i26_124 rfl c174 rfl
            · rw [if_neg c174] at hS
              cases hS
          rw [if_neg c173] at hS
          by_cases c175 : x2 = (1 : Int32)
          · rw [if_pos c175] at hS
            refine ev_tabI (t := 125) (off := 52) pm26 i26_73 rfl (1 : Int32) c175 (by decide) rfl rfl ?_
            refine ev_aload_n pm26 i26_125 rfl rfl rfl ?_
            obtain ⟨x36, h37, e35, hS⟩ := bd_s hS
            refine ev_callV (sa := []) (rest := []) (st' := [.int x36]) (ls0 := [.ref a0, unk]) (rv := some (.int x36)) pm26 i26_126 rfl rfl pm41 (by decide) (K_rd_readHouse e35) rfl rfl (Nat.le_of_ble_eq_true rfl) (by omega) rfl (R_rd_readHouse (d - 1) (by omega) e35) (by simp) rfl rfl ?_
            by_cases c176 : retV .boolean x36 = true
            · rw [if_pos c176] at hS
              cases hS
              exact ev_ireturn pm26 i26_129 rfl c176 rfl
            · rw [if_neg c176] at hS
              cases hS
          rw [if_neg c175] at hS
          by_cases c177 : x2 = (2 : Int32)
          · rw [if_pos c177] at hS
            refine ev_tabI (t := 130) (off := 57) pm26 i26_73 rfl (2 : Int32) c177 (by decide) rfl rfl ?_
            refine ev_aload_n pm26 i26_130 rfl rfl rfl ?_
            obtain ⟨x39, h40, e38, hS⟩ := bd_s hS
            refine ev_callV (sa := []) (rest := []) (st' := [.int x39]) (ls0 := [.ref a0, unk, unk]) (rv := some (.int x39)) pm26 i26_131 rfl rfl pm44 (by decide) (K_rd_readRope e38) rfl rfl (Nat.le_of_ble_eq_true rfl) (by omega) rfl (R_rd_readRope (d - 1) (by omega) e38) (by simp) rfl rfl ?_
            by_cases c178 : retV .boolean x39 = true
            · rw [if_pos c178] at hS
              cases hS
              exact ev_ireturn pm26 i26_134 rfl c178 rfl
            · rw [if_neg c178] at hS
              cases hS
          rw [if_neg c177] at hS
          by_cases c179 : x2 = (3 : Int32)
          · rw [if_pos c179] at hS
            refine ev_tabI (t := 135) (off := 62) pm26 i26_73 rfl (3 : Int32) c179 (by decide) rfl rfl ?_
            refine ev_aload_n pm26 i26_135 rfl rfl rfl ?_
            obtain ⟨x42, h43, e41, hS⟩ := bd_s hS
            refine ev_callV (sa := []) (rest := []) (st' := [.int x42]) (ls0 := [.ref a0, unk, unk]) (rv := some (.int x42)) pm26 i26_136 rfl rfl pm48 (by decide) (K_rd_readCorks e41) rfl rfl (Nat.le_of_ble_eq_true rfl) (by omega) rfl (R_rd_readCorks (d - 1) (by omega) e41) (by simp) rfl rfl ?_
            by_cases c180 : retV .boolean x42 = true
            · rw [if_pos c180] at hS
              cases hS
              exact ev_ireturn pm26 i26_139 rfl c180 rfl
            · rw [if_neg c180] at hS
              cases hS
          rw [if_neg c179] at hS
          by_cases c181 : x2 = (4 : Int32)
          · rw [if_pos c181] at hS
            refine ev_tabI (t := 140) (off := 67) pm26 i26_73 rfl (4 : Int32) c181 (by decide) rfl rfl ?_
            refine ev_aload_n pm26 i26_140 rfl rfl rfl ?_
            obtain ⟨x45, h46, e44, hS⟩ := bd_s hS
            refine ev_callV (sa := []) (rest := []) (st' := [.int x45]) (ls0 := [.ref a0, unk, unk]) (rv := some (.int x45)) pm26 i26_141 rfl rfl pm50 (by decide) (K_rd_readGuest e44) rfl rfl (Nat.le_of_ble_eq_true rfl) (by omega) rfl (R_rd_readGuest (d - 1) (by omega) e44) (by simp) rfl rfl ?_
            by_cases c182 : retV .boolean x45 = true
            · rw [if_pos c182] at hS
              cases hS
              exact ev_ireturn pm26 i26_144 rfl c182 rfl
            · rw [if_neg c182] at hS
              cases hS
          rw [if_neg c181] at hS
          by_cases c183 : x2 = (5 : Int32)
          · rw [if_pos c183] at hS
            refine ev_tabI (t := 145) (off := 72) pm26 i26_73 rfl (5 : Int32) c183 (by decide) rfl rfl ?_
            refine ev_aload_n pm26 i26_145 rfl rfl rfl ?_
            obtain ⟨x48, h49, e47, hS⟩ := bd_s hS
            refine ev_callV (sa := []) (rest := []) (st' := [.int x48]) (ls0 := [.ref a0, unk, unk]) (rv := some (.int x48)) pm26 i26_146 rfl rfl pm51 (by decide) (K_rd_readDrinker e47) rfl rfl (Nat.le_of_ble_eq_true rfl) (by omega) rfl (R_rd_readDrinker (d - 1) (by omega) e47) (by simp) rfl rfl ?_
            by_cases c184 : retV .boolean x48 = true
            · rw [if_pos c184] at hS
              cases hS
              exact ev_ireturn pm26 i26_149 rfl c184 rfl
            · rw [if_neg c184] at hS
              cases hS
          rw [if_neg c183] at hS
          by_cases c185 : x2 = (6 : Int32)
          · rw [if_pos c185] at hS
            refine ev_tabI (t := 150) (off := 77) pm26 i26_73 rfl (6 : Int32) c185 (by decide) rfl rfl ?_
            refine ev_aload_n pm26 i26_150 rfl rfl rfl ?_
            obtain ⟨x51, h52, e50, hS⟩ := bd_s hS
            refine ev_callV (sa := []) (rest := []) (st' := [.int x51]) (ls0 := [.ref a0, unk, unk]) (rv := some (.int x51)) pm26 i26_151 rfl rfl pm52 (by decide) (K_rd_readFeast e50) rfl rfl (Nat.le_of_ble_eq_true rfl) (by omega) rfl (R_rd_readFeast (d - 1) (by omega) e50) (by simp) rfl rfl ?_
            by_cases c186 : retV .boolean x51 = true
            · rw [if_pos c186] at hS
              cases hS
              exact ev_ireturn pm26 i26_154 rfl c186 rfl
            · rw [if_neg c186] at hS
              cases hS
          rw [if_neg c185] at hS
          by_cases c187 : x2 = (7 : Int32)
          · rw [if_pos c187] at hS
            refine ev_tabI (t := 155) (off := 82) pm26 i26_73 rfl (7 : Int32) c187 (by decide) rfl rfl ?_
            refine ev_aload_n pm26 i26_155 rfl rfl rfl ?_
            obtain ⟨x54, h55, e53, hS⟩ := bd_s hS
            refine ev_callV (sa := []) (rest := []) (st' := [.int x54]) (ls0 := [.ref a0, unk, unk, unk]) (rv := some (.int x54)) pm26 i26_156 rfl rfl pm53 (by decide) (K_rd_readGave e53) rfl rfl (Nat.le_of_ble_eq_true rfl) (by omega) rfl (R_rd_readGave (d - 1) (by omega) e53) (by simp) rfl rfl ?_
            by_cases c188 : retV .boolean x54 = true
            · rw [if_pos c188] at hS
              cases hS
              exact ev_ireturn pm26 i26_159 rfl c188 rfl
            · rw [if_neg c188] at hS
              cases hS
          rw [if_neg c187] at hS
          cases hS
      have Z2 := ej_z hS
      clear hS
      by_cases c168 : x2 = (0 : Int32)
      · rw [if_pos c168] at I168
        refine ev_if_eq_t (t := 51) pm26 i26_34 rfl c168 rfl rfl ?_
        cases I168
        exact J2 _ rfl
      · rw [if_neg c168] at I168
        refine ev_if_eq_f (t := 51) pm26 i26_34 rfl c168 rfl rfl ?_
        refine ev_aload_n pm26 i26_37 rfl rfl rfl ?_
        obtain ⟨x13, e14, I168⟩ := bn_s I168
        refine ev_getI pm26 i26_38 rfl rfl (by decide) e14 rfl ?_
        by_cases c189 : x13 = (0 : Int32)
        · rw [if_pos c189] at I168
          refine ev_if_ne_t (t := 51) pm26 i26_41 rfl c189 rfl rfl ?_
          refine ev_aload_n pm26 i26_44 rfl rfl rfl ?_
          refine ev_bipush (v := 6) pm26 i26_45 rfl (by decide) rfl ?_
          obtain ⟨x16, h17, e15, I168⟩ := bd_s I168
          refine ev_callV (sa := [.int (6 : Int32)]) (rest := []) (st' := [.int x16]) (ls0 := [.ref a0, .int (6 : Int32)]) (rv := some (.int x16)) pm26 i26_47 rfl rfl pm36 (by decide) (K_rd_fail e15) rfl rfl (Nat.le_of_ble_eq_true rfl) (by omega) rfl (R_rd_fail (d - 1) (by omega) e15) (by simp) rfl rfl ?_
          by_cases c190 : retV .boolean x16 = true
          · rw [if_pos c190] at I168
            cases I168
            have hz2 := Z2 _ rfl
            cases hz2
            exact ev_ireturn pm26 i26_50 rfl c190 rfl
          · rw [if_neg c190] at I168
            cases I168
        · rw [if_neg c189] at I168
          refine ev_if_ne_f (t := 51) pm26 i26_41 rfl c189 rfl rfl ?_
          cases I168
          exact J2 _ rfl
    have Z1 := ej_z hS
    clear hS
    by_cases c167 : x2 = (0 : Int32)
    · rw [if_pos c167] at I167
      refine ev_if_ne_t (t := 33) pm26 i26_17 rfl c167 rfl rfl ?_
      refine ev_aload_n pm26 i26_20 rfl rfl rfl ?_
      obtain ⟨x6, e7, I167⟩ := bn_s I167
      refine ev_getI pm26 i26_21 rfl rfl (by decide) e7 rfl ?_
      by_cases c191 : x6 = (0 : Int32)
      · rw [if_pos c191] at I167
        refine ev_if_eq_t (t := 33) pm26 i26_24 rfl c191 rfl rfl ?_
        cases I167
        exact J1 _ rfl
      · rw [if_neg c191] at I167
        refine ev_if_eq_f (t := 33) pm26 i26_24 rfl c191 rfl rfl ?_
        refine ev_aload_n pm26 i26_27 rfl rfl rfl ?_
        refine ev_iconst (v := 3) pm26 i26_28 rfl (by decide) rfl ?_
        obtain ⟨x9, h10, e8, I167⟩ := bd_s I167
        refine ev_callV (sa := [.int (3 : Int32)]) (rest := []) (st' := [.int x9]) (ls0 := [.ref a0, .int (3 : Int32)]) (rv := some (.int x9)) pm26 i26_29 rfl rfl pm36 (by decide) (K_rd_fail e8) rfl rfl (Nat.le_of_ble_eq_true rfl) (by omega) rfl (R_rd_fail (d - 1) (by omega) e8) (by simp) rfl rfl ?_
        by_cases c192 : retV .boolean x9 = true
        · rw [if_pos c192] at I167
          cases I167
          have hz1 := Z1 _ rfl
          cases hz1
          exact ev_ireturn pm26 i26_32 rfl c192 rfl
        · rw [if_neg c192] at I167
          cases I167
    · rw [if_neg c167] at I167
      refine ev_if_ne_f (t := 33) pm26 i26_17 rfl c167 rfl rfl ?_
      cases I167
      exact J1 _ rfl
def B_rd_read_41 (l0 : Nat) (s : Int32 × Int32) (h : Hp) : Option (((Int32 × Int32) ⊕ ((Unit) ⊕ Unit)) × Hp) :=
  if s.2 < (1000 : Int32) then
    (if s.1 = (0 : Int32) then
      (some (.inr (.inl ()), h))
    else
      (bd (F_rd_readLine l0 h) fun x18 h19 =>
      if x18 = (0 : Int32) then
        (some (.inr (.inr ()), h19))
      else
        (bn (gR h19 l0 7 2) fun x20 =>
        bn (gI h19 x20 9 4) fun x22 =>
        bn (if x22 = (2 : Int32) then
            (some (1 : Int32))
          else
            (some (0 : Int32))) fun q24 =>
        if q24 = (0 : Int32) then
          (some (.inl (q24, s.2 + (1 : Int32)), h19))
        else
          (bn (gR h19 l0 7 2) fun x25 =>
          bn (F_tk_advance x25 h19) fun h28 =>
          some (.inl (q24, s.2 + (1 : Int32)), h28)))))
  else
    (some (.inr (.inl ()), h))
set_option maxRecDepth 20000 in
theorem L_rd_read_41 (d : Nat) (hd : 9 ≤ d) {l0 : Nat} : ∀ (n : Nat) (s : Int32 × Int32) (h : Hp) (x : (Unit) ⊕ Unit) (hx : Hp), lp (B_rd_read_41 l0) n s h = some (x, hx) → ∀ r, ei x (fun q => Ev P d 19 (95, [.ref l0, unk, unk, unk, unk], [], hx) r) (fun v => (none, hx) = r) → Ev P d 19 (41, [.ref l0, unk, unk, .int s.1, .int s.2], [], h) r := by
  refine lp_ev (G0 := fun (s : Int32 × Int32) h r => Ev P d 19 (41, [.ref l0, unk, unk, .int s.1, .int s.2], [], h) r) (X := fun (x : (Unit) ⊕ Unit) hx r => ei x (fun q => Ev P d 19 (95, [.ref l0, unk, unk, unk, unk], [], hx) r) (fun v => (none, hx) = r)) ?_
  intro s h y h9 hS r hK
  unfold B_rd_read_41 at hS
  show Ev P d 19 (41, [.ref l0, unk, unk, .int s.1, .int s.2], [], h) r
  refine ev_iload pm19 i19_41 rfl rfl rfl ?_
  refine ev_sipush (v := 1000) pm19 i19_43 rfl (by decide) rfl ?_
  by_cases c193 : s.2 < (1000 : Int32)
  · rw [if_pos c193] at hS
    refine ev_icmp_ge_t (t := 95) pm19 i19_46 rfl c193 rfl rfl ?_
    refine ev_iload_n pm19 i19_49 rfl rfl rfl ?_
    by_cases c194 : s.1 = (0 : Int32)
    · rw [if_pos c194] at hS
      refine ev_if_eq_t (t := 95) pm19 i19_50 rfl c194 rfl rfl ?_
      refine ev_kls (ls' := [.ref l0, unk, unk, unk, unk]) pm19 i19_95 rfl rfl ?_
      cases hS
      exact hK
    · rw [if_neg c194] at hS
      refine ev_if_eq_f (t := 95) pm19 i19_50 rfl c194 rfl rfl ?_
      refine ev_aload_n pm19 i19_53 rfl rfl rfl ?_
      obtain ⟨x18, h19, e17, hS⟩ := bd_s hS
      refine ev_callV (sa := []) (rest := []) (st' := [.int x18]) (ls0 := [.ref l0, unk]) (rv := some (.int x18)) pm19 i19_54 rfl rfl pm26 (by decide) (K_rd_readLine e17) rfl rfl (Nat.le_of_ble_eq_true rfl) (by omega) rfl (R_rd_readLine (d - 1) (by omega) e17) (by simp) rfl rfl ?_
      by_cases c195 : x18 = (0 : Int32)
      · rw [if_pos c195] at hS
        refine ev_if_ne_t (t := 61) pm19 i19_57 rfl c195 rfl rfl ?_
        cases hS
        exact ev_return pm19 i19_60 rfl rfl hK
      · rw [if_neg c195] at hS
        refine ev_if_ne_f (t := 61) pm19 i19_57 rfl c195 rfl rfl ?_
        refine ev_aload_n pm19 i19_61 rfl rfl rfl ?_
        obtain ⟨x20, e21, hS⟩ := bn_s hS
        refine ev_getR pm19 i19_62 rfl rfl rfl e21 rfl ?_
        obtain ⟨x22, e23, hS⟩ := bn_s hS
        refine ev_getI pm19 i19_65 rfl rfl (by decide) e23 rfl ?_
        refine ev_iconst (v := 2) pm19 i19_68 rfl (by decide) rfl ?_
        obtain ⟨q24, I196, hS⟩ := bn_s hS
        have J1 : Ev P d 19 (77, [.ref l0, unk, unk, unk, .int s.2], [.int q24], h19) r := by
          refine ev_istore_n (ls' := [.ref l0, unk, unk, .int q24, .int s.2]) pm19 i19_77 rfl (Nat.le_of_ble_eq_true rfl) rfl rfl ?_
          refine ev_iload_n pm19 i19_78 rfl rfl rfl ?_
          by_cases c197 : q24 = (0 : Int32)
          · rw [if_pos c197] at hS
            refine ev_if_eq_t (t := 89) pm19 i19_79 rfl c197 rfl rfl ?_
            refine ev_iinc (v := 1) (ls' := [.ref l0, unk, unk, .int q24, .int (s.2 + (1 : Int32))]) pm19 i19_89 rfl rfl (by decide) rfl rfl ?_
            refine ev_goto (t := 41) pm19 i19_92 rfl rfl ?_
            cases hS
            exact hK
          · rw [if_neg c197] at hS
            refine ev_if_eq_f (t := 89) pm19 i19_79 rfl c197 rfl rfl ?_
            refine ev_aload_n pm19 i19_82 rfl rfl rfl ?_
            obtain ⟨x25, e26, hS⟩ := bn_s hS
            refine ev_getR pm19 i19_83 rfl rfl rfl e26 rfl ?_
            obtain ⟨h28, e27, hS⟩ := bn_s hS
            refine ev_callV (sa := []) (rest := []) (st' := []) (ls0 := [.ref x25]) (rv := none) pm19 i19_86 rfl rfl pm23 (by decide) (K_tk_advance e27) rfl rfl (Nat.le_of_ble_eq_true rfl) (by omega) rfl (R_tk_advance (d - 1) (by omega) e27) (by simp) rfl rfl ?_
            refine ev_iinc (v := 1) (ls' := [.ref l0, unk, unk, .int q24, .int (s.2 + (1 : Int32))]) pm19 i19_89 rfl rfl (by decide) rfl rfl ?_
            refine ev_goto (t := 41) pm19 i19_92 rfl rfl ?_
            cases hS
            exact hK
        clear hS
        by_cases c196 : x22 = (2 : Int32)
        · rw [if_pos c196] at I196
          refine ev_icmp_ne_t (t := 76) pm19 i19_69 rfl c196 rfl rfl ?_
          refine ev_iconst (v := 1) pm19 i19_72 rfl (by decide) rfl ?_
          refine ev_goto (t := 77) pm19 i19_73 rfl rfl ?_
          refine ev_kls (ls' := [.ref l0, unk, unk, unk, .int s.2]) pm19 i19_77 rfl rfl ?_
          cases I196
          exact J1
        · rw [if_neg c196] at I196
          refine ev_icmp_ne_f (t := 76) pm19 i19_69 rfl c196 rfl rfl ?_
          refine ev_iconst (v := 0) pm19 i19_76 rfl (by decide) rfl ?_
          refine ev_kls (ls' := [.ref l0, unk, unk, unk, .int s.2]) pm19 i19_77 rfl rfl ?_
          cases I196
          exact J1
  · rw [if_neg c193] at hS
    refine ev_icmp_ge_f (t := 95) pm19 i19_46 rfl c193 rfl rfl ?_
    refine ev_kls (ls' := [.ref l0, unk, unk, unk, unk]) pm19 i19_95 rfl rfl ?_
    cases hS
    exact hK
def F_rd_read (a0 : Nat) (a1 : Nat) (a2 : Int32) (h : Hp) : Option Hp :=
  ck h a0 7 (bn (gR h a0 7 3) fun x1 =>
  bn (F_to_clear x1 h) fun h4 =>
  bn (pI h4 a0 7 0 (0 : Int32)) fun h5 =>
  bn (pI h5 a0 7 1 (0 : Int32)) fun h7 =>
  bn (pZ h7 a0 7 4 (0 : Int32)) fun h9 =>
  bn (pI h9 a0 7 5 (0 : Int32)) fun h11 =>
  bn (gR h11 a0 7 2) fun x13 =>
  bn (F_tk_start x13 a1 a2 h11) fun h16 =>
  bd (lp (B_rd_read_41 a0) FU ((1 : Int32), (0 : Int32)) h16) fun x29 h31 =>
  ei x29 (fun q32 =>
  bn (gR h31 a0 7 2) fun x33 =>
  bn (gI h31 x33 9 4) fun x35 =>
  if x35 = (3 : Int32) then
    (bn (gR h31 a0 7 3) fun x37 =>
    bn (gI h31 x37 10 1) fun x39 =>
    if x39 = (0 : Int32) then
      (bd (F_rd_fail a0 (6 : Int32) h31) fun x42 h43 =>
      some h43)
    else
      (some h31))
  else
    (bd (F_rd_fail a0 (1 : Int32) h31) fun x45 h46 =>
    some h46))
  (fun x47 => some h31))
set_option maxRecDepth 20000 in
theorem K_rd_read {a0 : Nat} {a1 : Nat} {a2 : Int32} {h : Hp} {h' : Hp} (hS : F_rd_read a0 a1 a2 h = some h') : kd h a0 = 7 := by
  unfold F_rd_read at hS
  exact (ck_s hS).1
set_option maxRecDepth 20000 in
theorem R_rd_read (d : Nat) (hd : 9 ≤ d) {a0 : Nat} {a1 : Nat} {a2 : Int32} {h : Hp} {h' : Hp} (hS : F_rd_read a0 a1 a2 h = some h') : Ev P d 19 (0, [.ref a0, .ref a1, .int a2, unk, unk], [], h) (none, h') := by
  unfold F_rd_read at hS
  replace hS := (ck_s hS).2
  refine ev_aload_n pm19 i19_0 rfl rfl rfl ?_
  obtain ⟨x1, e2, hS⟩ := bn_s hS
  refine ev_getR pm19 i19_1 rfl rfl rfl e2 rfl ?_
  obtain ⟨h4, e3, hS⟩ := bn_s hS
  refine ev_callV (sa := []) (rest := []) (st' := []) (ls0 := [.ref x1, unk]) (rv := none) pm19 i19_4 rfl rfl pm20 (by decide) (K_to_clear e3) rfl rfl (Nat.le_of_ble_eq_true rfl) (by omega) rfl (R_to_clear (d - 1) (by omega) e3) (by simp) rfl rfl ?_
  refine ev_aload_n pm19 i19_7 rfl rfl rfl ?_
  refine ev_iconst (v := 0) pm19 i19_8 rfl (by decide) rfl ?_
  obtain ⟨h5, e6, hS⟩ := bn_s hS
  refine ev_putI pm19 i19_9 rfl rfl rfl e6 rfl ?_
  refine ev_aload_n pm19 i19_12 rfl rfl rfl ?_
  refine ev_iconst (v := 0) pm19 i19_13 rfl (by decide) rfl ?_
  obtain ⟨h7, e8, hS⟩ := bn_s hS
  refine ev_putI pm19 i19_14 rfl rfl rfl e8 rfl ?_
  refine ev_aload_n pm19 i19_17 rfl rfl rfl ?_
  refine ev_iconst (v := 0) pm19 i19_18 rfl (by decide) rfl ?_
  obtain ⟨h9, e10, hS⟩ := bn_s hS
  refine ev_putZ pm19 i19_19 rfl rfl rfl e10 rfl ?_
  refine ev_aload_n pm19 i19_22 rfl rfl rfl ?_
  refine ev_iconst (v := 0) pm19 i19_23 rfl (by decide) rfl ?_
  obtain ⟨h11, e12, hS⟩ := bn_s hS
  refine ev_putI pm19 i19_24 rfl rfl rfl e12 rfl ?_
  refine ev_aload_n pm19 i19_27 rfl rfl rfl ?_
  obtain ⟨x13, e14, hS⟩ := bn_s hS
  refine ev_getR pm19 i19_28 rfl rfl rfl e14 rfl ?_
  refine ev_aload_n pm19 i19_31 rfl rfl rfl ?_
  refine ev_iload_n pm19 i19_32 rfl rfl rfl ?_
  obtain ⟨h16, e15, hS⟩ := bn_s hS
  refine ev_callV (sa := [.int a2, .ref a1]) (rest := []) (st' := []) (ls0 := [.ref x13, .ref a1, .int a2]) (rv := none) pm19 i19_33 rfl rfl pm21 (by decide) (K_tk_start e15) rfl rfl (Nat.le_of_ble_eq_true rfl) (by omega) rfl (R_tk_start (d - 1) (by omega) e15) (by simp) rfl rfl ?_
  refine ev_iconst (v := 1) pm19 i19_36 rfl (by decide) rfl ?_
  refine ev_istore_n (ls' := [.ref a0, .ref a1, .int a2, .int (1 : Int32), unk]) pm19 i19_37 rfl (Nat.le_of_ble_eq_true rfl) rfl rfl ?_
  refine ev_iconst (v := 0) pm19 i19_38 rfl (by decide) rfl ?_
  refine ev_istore (ls' := [.ref a0, .ref a1, .int a2, .int (1 : Int32), .int (0 : Int32)]) pm19 i19_39 rfl (Nat.le_of_ble_eq_true rfl) rfl rfl ?_
  refine ev_kls (ls' := [.ref a0, unk, unk, .int (1 : Int32), .int (0 : Int32)]) pm19 i19_41 rfl rfl ?_
  obtain ⟨x29, h31, e30, hS⟩ := bd_s hS
  refine L_rd_read_41 d (by omega) _ _ _ _ _ e30 _ ?_
  cases x29 with
  | inl q32 =>
    replace hS := ei_l hS
    show Ev P d 19 (95, [.ref a0, unk, unk, unk, unk], [], h31) _
    refine ev_aload_n pm19 i19_95 rfl rfl rfl ?_
    obtain ⟨x33, e34, hS⟩ := bn_s hS
    refine ev_getR pm19 i19_96 rfl rfl rfl e34 rfl ?_
    obtain ⟨x35, e36, hS⟩ := bn_s hS
    refine ev_getI pm19 i19_99 rfl rfl (by decide) e36 rfl ?_
    refine ev_iconst (v := 3) pm19 i19_102 rfl (by decide) rfl ?_
    by_cases c198 : x35 = (3 : Int32)
    · rw [if_pos c198] at hS
      refine ev_icmp_eq_t (t := 115) pm19 i19_103 rfl c198 rfl rfl ?_
      refine ev_aload_n pm19 i19_115 rfl rfl rfl ?_
      obtain ⟨x37, e38, hS⟩ := bn_s hS
      refine ev_getR pm19 i19_116 rfl rfl rfl e38 rfl ?_
      obtain ⟨x39, e40, hS⟩ := bn_s hS
      refine ev_getI pm19 i19_119 rfl rfl (by decide) e40 rfl ?_
      by_cases c199 : x39 = (0 : Int32)
      · rw [if_pos c199] at hS
        refine ev_if_ne_t (t := 132) pm19 i19_122 rfl c199 rfl rfl ?_
        refine ev_aload_n pm19 i19_125 rfl rfl rfl ?_
        refine ev_bipush (v := 6) pm19 i19_126 rfl (by decide) rfl ?_
        obtain ⟨x42, h43, e41, hS⟩ := bd_s hS
        refine ev_callV (sa := [.int (6 : Int32)]) (rest := []) (st' := [.int x42]) (ls0 := [.ref a0, .int (6 : Int32)]) (rv := some (.int x42)) pm19 i19_128 rfl rfl pm36 (by decide) (K_rd_fail e41) rfl rfl (Nat.le_of_ble_eq_true rfl) (by omega) rfl (R_rd_fail (d - 1) (by omega) e41) (by simp) rfl rfl ?_
        refine ev_pop pm19 i19_131 rfl rfl rfl ?_
        refine ev_kls (ls' := [unk, unk, unk, unk, unk]) pm19 i19_132 rfl rfl ?_
        cases hS
        exact ev_return pm19 i19_132 rfl rfl rfl
      · rw [if_neg c199] at hS
        refine ev_if_ne_f (t := 132) pm19 i19_122 rfl c199 rfl rfl ?_
        refine ev_kls (ls' := [unk, unk, unk, unk, unk]) pm19 i19_132 rfl rfl ?_
        cases hS
        exact ev_return pm19 i19_132 rfl rfl rfl
    · rw [if_neg c198] at hS
      refine ev_icmp_eq_f (t := 115) pm19 i19_103 rfl c198 rfl rfl ?_
      refine ev_aload_n pm19 i19_106 rfl rfl rfl ?_
      refine ev_iconst (v := 1) pm19 i19_107 rfl (by decide) rfl ?_
      obtain ⟨x45, h46, e44, hS⟩ := bd_s hS
      refine ev_callV (sa := [.int (1 : Int32)]) (rest := []) (st' := [.int x45]) (ls0 := [.ref a0, .int (1 : Int32)]) (rv := some (.int x45)) pm19 i19_108 rfl rfl pm36 (by decide) (K_rd_fail e44) rfl rfl (Nat.le_of_ble_eq_true rfl) (by omega) rfl (R_rd_fail (d - 1) (by omega) e44) (by simp) rfl rfl ?_
      refine ev_pop pm19 i19_111 rfl rfl rfl ?_
      refine ev_goto (t := 132) pm19 i19_112 rfl rfl ?_
      refine ev_kls (ls' := [unk, unk, unk, unk, unk]) pm19 i19_132 rfl rfl ?_
      cases hS
      exact ev_return pm19 i19_132 rfl rfl rfl
  | inr x47 =>
    replace hS := ei_r hS
    cases hS
    rfl
def F_cs_refusedBy (a0 : Nat) (a1 : Int32) (a2 : Int32) (h : Hp) : Option (Int32 × Hp) :=
  ck h a0 11 (if a2 = (0 : Int32) then
    (bn (pI h a0 11 12 (0 : Int32)) fun h1 =>
    if retV .boolean a2 = true then
      (some (a2, h1))
    else
      (none))
  else
    (bn (pI h a0 11 12 a1) fun h3 =>
    if retV .boolean a2 = true then
      (some (a2, h3))
    else
      (none)))
set_option maxRecDepth 20000 in
theorem K_cs_refusedBy {a0 : Nat} {a1 : Int32} {a2 : Int32} {h : Hp} {v : Int32} {h' : Hp} (hS : F_cs_refusedBy a0 a1 a2 h = some (v, h')) : kd h a0 = 11 := by
  unfold F_cs_refusedBy at hS
  exact (ck_s hS).1
set_option maxRecDepth 20000 in
theorem R_cs_refusedBy (d : Nat) (hd : 0 ≤ d) {a0 : Nat} {a1 : Int32} {a2 : Int32} {h : Hp} {v : Int32} {h' : Hp} (hS : F_cs_refusedBy a0 a1 a2 h = some (v, h')) : Ev P d 56 (0, [.ref a0, .int a1, .int a2], [], h) (some (.int v), h') := by
  unfold F_cs_refusedBy at hS
  replace hS := (ck_s hS).2
  refine ev_aload_n pm56 i56_0 rfl rfl rfl ?_
  refine ev_iload_n pm56 i56_1 rfl rfl rfl ?_
  by_cases c200 : a2 = (0 : Int32)
  · rw [if_pos c200] at hS
    refine ev_if_eq_t (t := 9) pm56 i56_2 rfl c200 rfl rfl ?_
    refine ev_iconst (v := 0) pm56 i56_9 rfl (by decide) rfl ?_
    refine ev_kls (ls' := [unk, unk, .int a2]) pm56 i56_10 rfl rfl ?_
    obtain ⟨h1, e2, hS⟩ := bn_s hS
    refine ev_putI pm56 i56_10 rfl rfl rfl e2 rfl ?_
    refine ev_iload_n pm56 i56_13 rfl rfl rfl ?_
    by_cases c201 : retV .boolean a2 = true
    · rw [if_pos c201] at hS
      cases hS
      exact ev_ireturn pm56 i56_14 rfl c201 rfl
    · rw [if_neg c201] at hS
      cases hS
  · rw [if_neg c200] at hS
    refine ev_if_eq_f (t := 9) pm56 i56_2 rfl c200 rfl rfl ?_
    refine ev_iload_n pm56 i56_5 rfl rfl rfl ?_
    refine ev_goto (t := 10) pm56 i56_6 rfl rfl ?_
    refine ev_kls (ls' := [unk, unk, .int a2]) pm56 i56_10 rfl rfl ?_
    obtain ⟨h3, e4, hS⟩ := bn_s hS
    refine ev_putI pm56 i56_10 rfl rfl rfl e4 rfl ?_
    refine ev_iload_n pm56 i56_13 rfl rfl rfl ?_
    by_cases c202 : retV .boolean a2 = true
    · rw [if_pos c202] at hS
      cases hS
      exact ev_ireturn pm56 i56_14 rfl c202 rfl
    · rw [if_neg c202] at hS
      cases hS
def F_rd_exchange (a0 : Nat) (a1 : Nat) (h : Hp) : Option (Nat × Hp) :=
  ck h a0 7 (bn (gR h a0 7 3) fun x1 =>
  bn (pR h a0 7 3 (some a1)) fun h3 =>
  some (x1, h3))
set_option maxRecDepth 20000 in
theorem K_rd_exchange {a0 : Nat} {a1 : Nat} {h : Hp} {v : Nat} {h' : Hp} (hS : F_rd_exchange a0 a1 h = some (v, h')) : kd h a0 = 7 := by
  unfold F_rd_exchange at hS
  exact (ck_s hS).1
set_option maxRecDepth 20000 in
theorem R_rd_exchange (d : Nat) (hd : 0 ≤ d) {a0 : Nat} {a1 : Nat} {h : Hp} {v : Nat} {h' : Hp} (hS : F_rd_exchange a0 a1 h = some (v, h')) : Ev P d 57 (0, [.ref a0, .ref a1, unk], [], h) (some (.ref v), h') := by
  unfold F_rd_exchange at hS
  replace hS := (ck_s hS).2
  refine ev_aload_n pm57 i57_0 rfl rfl rfl ?_
  obtain ⟨x1, e2, hS⟩ := bn_s hS
  refine ev_getR pm57 i57_1 rfl rfl rfl e2 rfl ?_
  refine ev_astore_n (ls' := [.ref a0, .ref a1, .ref x1]) pm57 i57_4 rfl (Nat.le_of_ble_eq_true rfl) rfl rfl ?_
  refine ev_aload_n pm57 i57_5 rfl rfl rfl ?_
  refine ev_aload_n pm57 i57_6 rfl rfl rfl ?_
  obtain ⟨h3, e4, hS⟩ := bn_s hS
  refine ev_putR pm57 i57_7 rfl rfl rfl e4 rfl ?_
  refine ev_aload_n pm57 i57_10 rfl rfl rfl ?_
  cases hS
  exact ev_areturn pm57 i57_11 rfl rfl rfl
def B_to_begin_38 (l0 : Nat) (l1 : Nat) (l2 : Int32) (s : Int32) (h : Hp) : Option (((Int32) ⊕ (Unit)) × Hp) :=
  bn (gR h l0 10 18) fun x21 =>
  bn (gI h x21 1 0) fun x23 =>
  if s < x23 then
    (bn (gR h l0 10 18) fun x25 =>
    bn (gR h x25 1 1) fun x27 =>
    bn (aI h 100 x27 s) fun x29 =>
    if ((l2 >>> (x29 &&& 31)) &&& (1 : Int32)) = (0 : Int32) then
      (bn (gR h l1 8 0) fun x31 =>
      bn (gR h l0 10 18) fun x33 =>
      bn (gR h x33 1 2) fun x35 =>
      bn (aI h 100 x35 s) fun x37 =>
      bn (gR h l0 10 12) fun x39 =>
      bn (aI h 100 x39 x29) fun x41 =>
      bn (aI h 100 x31 ((x37 * (5 : Int32)) + x41)) fun x43 =>
      bn (gR h l0 10 18) fun x45 =>
      bn (gR h x45 1 3) fun x47 =>
      bn (aI h 100 x47 s) fun x49 =>
      bn (sI h 100 x31 ((x37 * (5 : Int32)) + x41) (x43 + x49)) fun h51 =>
      some (.inl (s + (1 : Int32)), h51))
    else
      (some (.inl (s + (1 : Int32)), h)))
  else
    (some (.inr (), h))
set_option maxRecDepth 20000 in
theorem L_to_begin_38 (d : Nat) (hd : 0 ≤ d) {l0 : Nat} {l1 : Nat} {l2 : Int32} : ∀ (n : Nat) (s : Int32) (h : Hp) (x : Unit) (hx : Hp), lp (B_to_begin_38 l0 l1 l2) n s h = some (x, hx) → ∀ r, Ev P d 58 (111, [.ref l0, .ref l1, unk, unk, unk], [], hx) r → Ev P d 58 (38, [.ref l0, .ref l1, .int l2, .int s, unk], [], h) r := by
  refine lp_ev (G0 := fun (s : Int32) h r => Ev P d 58 (38, [.ref l0, .ref l1, .int l2, .int s, unk], [], h) r) (X := fun (x : Unit) hx r => Ev P d 58 (111, [.ref l0, .ref l1, unk, unk, unk], [], hx) r) ?_
  intro s h y h9 hS r hK
  unfold B_to_begin_38 at hS
  show Ev P d 58 (38, [.ref l0, .ref l1, .int l2, .int s, unk], [], h) r
  refine ev_iload_n pm58 i58_38 rfl rfl rfl ?_
  refine ev_aload_n pm58 i58_39 rfl rfl rfl ?_
  obtain ⟨x21, e22, hS⟩ := bn_s hS
  refine ev_getR pm58 i58_40 rfl rfl rfl e22 rfl ?_
  obtain ⟨x23, e24, hS⟩ := bn_s hS
  refine ev_getI pm58 i58_43 rfl rfl (by decide) e24 rfl ?_
  by_cases c203 : s < x23
  · rw [if_pos c203] at hS
    refine ev_icmp_ge_t (t := 111) pm58 i58_46 rfl c203 rfl rfl ?_
    refine ev_aload_n pm58 i58_49 rfl rfl rfl ?_
    obtain ⟨x25, e26, hS⟩ := bn_s hS
    refine ev_getR pm58 i58_50 rfl rfl rfl e26 rfl ?_
    obtain ⟨x27, e28, hS⟩ := bn_s hS
    refine ev_getR pm58 i58_53 rfl rfl rfl e28 rfl ?_
    refine ev_iload_n pm58 i58_56 rfl rfl rfl ?_
    obtain ⟨x29, e30, hS⟩ := bn_s hS
    refine ev_iald pm58 i58_57 rfl e30 rfl ?_
    refine ev_istore (ls' := [.ref l0, .ref l1, .int l2, .int s, .int x29]) pm58 i58_58 rfl (Nat.le_of_ble_eq_true rfl) rfl rfl ?_
    refine ev_iload_n pm58 i58_60 rfl rfl rfl ?_
    refine ev_iload pm58 i58_61 rfl rfl rfl ?_
    refine ev_b2 (f := fun x y => x >>> (y &&& 31)) pm58 i58_63 rfl (fun _ _ _ _ => rfl) rfl ?_
    refine ev_iconst (v := 1) pm58 i58_64 rfl (by decide) rfl ?_
    refine ev_b2 (f := fun x y => x &&& y) pm58 i58_65 rfl (fun _ _ _ _ => rfl) rfl ?_
    by_cases c204 : ((l2 >>> (x29 &&& 31)) &&& (1 : Int32)) = (0 : Int32)
    · rw [if_pos c204] at hS
      refine ev_if_ne_t (t := 105) pm58 i58_66 rfl c204 rfl rfl ?_
      refine ev_aload_n pm58 i58_69 rfl rfl rfl ?_
      obtain ⟨x31, e32, hS⟩ := bn_s hS
      refine ev_getR pm58 i58_70 rfl rfl rfl e32 rfl ?_
      refine ev_aload_n pm58 i58_73 rfl rfl rfl ?_
      obtain ⟨x33, e34, hS⟩ := bn_s hS
      refine ev_getR pm58 i58_74 rfl rfl rfl e34 rfl ?_
      obtain ⟨x35, e36, hS⟩ := bn_s hS
      refine ev_getR pm58 i58_77 rfl rfl rfl e36 rfl ?_
      refine ev_iload_n pm58 i58_80 rfl rfl rfl ?_
      obtain ⟨x37, e38, hS⟩ := bn_s hS
      refine ev_iald pm58 i58_81 rfl e38 rfl ?_
      refine ev_iconst (v := 5) pm58 i58_82 rfl (by decide) rfl ?_
      refine ev_b2 (f := fun x y => x * y) pm58 i58_83 rfl (fun _ _ _ _ => rfl) rfl ?_
      refine ev_aload_n pm58 i58_84 rfl rfl rfl ?_
      obtain ⟨x39, e40, hS⟩ := bn_s hS
      refine ev_getR pm58 i58_85 rfl rfl rfl e40 rfl ?_
      refine ev_iload pm58 i58_88 rfl rfl rfl ?_
      obtain ⟨x41, e42, hS⟩ := bn_s hS
      refine ev_iald pm58 i58_90 rfl e42 rfl ?_
      refine ev_b2 (f := fun x y => x + y) pm58 i58_91 rfl (fun _ _ _ _ => rfl) rfl ?_
      refine ev_dup2 pm58 i58_92 rfl ⟨rfl, rfl⟩ rfl ?_
      obtain ⟨x43, e44, hS⟩ := bn_s hS
      refine ev_iald pm58 i58_93 rfl e44 rfl ?_
      refine ev_aload_n pm58 i58_94 rfl rfl rfl ?_
      obtain ⟨x45, e46, hS⟩ := bn_s hS
      refine ev_getR pm58 i58_95 rfl rfl rfl e46 rfl ?_
      obtain ⟨x47, e48, hS⟩ := bn_s hS
      refine ev_getR pm58 i58_98 rfl rfl rfl e48 rfl ?_
      refine ev_iload_n pm58 i58_101 rfl rfl rfl ?_
      obtain ⟨x49, e50, hS⟩ := bn_s hS
      refine ev_iald pm58 i58_102 rfl e50 rfl ?_
      refine ev_b2 (f := fun x y => x + y) pm58 i58_103 rfl (fun _ _ _ _ => rfl) rfl ?_
      obtain ⟨h51, e52, hS⟩ := bn_s hS
      refine ev_iast pm58 i58_104 rfl e52 rfl ?_
      refine ev_kls (ls' := [.ref l0, .ref l1, .int l2, .int s, unk]) pm58 i58_105 rfl rfl ?_
      refine ev_iinc (v := 1) (ls' := [.ref l0, .ref l1, .int l2, .int (s + (1 : Int32)), unk]) pm58 i58_105 rfl rfl (by decide) rfl rfl ?_
      refine ev_goto (t := 38) pm58 i58_108 rfl rfl ?_
      cases hS
      exact hK
    · rw [if_neg c204] at hS
      refine ev_if_ne_f (t := 105) pm58 i58_66 rfl c204 rfl rfl ?_
      refine ev_kls (ls' := [.ref l0, .ref l1, .int l2, .int s, unk]) pm58 i58_105 rfl rfl ?_
      refine ev_iinc (v := 1) (ls' := [.ref l0, .ref l1, .int l2, .int (s + (1 : Int32)), unk]) pm58 i58_105 rfl rfl (by decide) rfl rfl ?_
      refine ev_goto (t := 38) pm58 i58_108 rfl rfl ?_
      cases hS
      exact hK
  · rw [if_neg c203] at hS
    refine ev_icmp_ge_f (t := 111) pm58 i58_46 rfl c203 rfl rfl ?_
    refine ev_kls (ls' := [.ref l0, .ref l1, unk, unk, unk]) pm58 i58_111 rfl rfl ?_
    cases hS
    exact hK
def F_to_begin (a0 : Nat) (a1 : Nat) (a2 : Int32) (h : Hp) : Option Hp :=
  ck h a0 10 (bn (gR h a0 10 4) fun x1 =>
  bn (gR h a1 8 0) fun x3 =>
  bn (gR h a0 10 4) fun x5 =>
  bn (aN h x5) fun x7 =>
  bn (cpI h x1 (0 : Int32) x3 (0 : Int32) x7) fun h9 =>
  bn (gR h9 a0 10 10) fun x11 =>
  bn (gR h9 a1 8 1) fun x13 =>
  bn (gR h9 a0 10 10) fun x15 =>
  bn (aN h9 x15) fun x17 =>
  bn (cpI h9 x11 (0 : Int32) x13 (0 : Int32) x17) fun h19 =>
  bd (lp (B_to_begin_38 a0 a1 a2) FU (0 : Int32) h19) fun x53 h55 =>
  bn (gI h55 a0 10 5) fun x56 =>
  bn (pI h55 a1 8 2 (((1 : Int32) <<< (x56 &&& 31)) - (1 : Int32))) fun h58 =>
  bn (pI h58 a1 8 3 (0 : Int32)) fun h60 =>
  bn (pI h60 a1 8 4 (0 : Int32)) fun h62 =>
  some h62)
set_option maxRecDepth 20000 in
theorem K_to_begin {a0 : Nat} {a1 : Nat} {a2 : Int32} {h : Hp} {h' : Hp} (hS : F_to_begin a0 a1 a2 h = some h') : kd h a0 = 10 := by
  unfold F_to_begin at hS
  exact (ck_s hS).1
set_option maxRecDepth 20000 in
theorem R_to_begin (d : Nat) (hd : 0 ≤ d) {a0 : Nat} {a1 : Nat} {a2 : Int32} {h : Hp} {h' : Hp} (hS : F_to_begin a0 a1 a2 h = some h') : Ev P d 58 (0, [.ref a0, .ref a1, .int a2, unk, unk], [], h) (none, h') := by
  unfold F_to_begin at hS
  replace hS := (ck_s hS).2
  refine ev_aload_n pm58 i58_0 rfl rfl rfl ?_
  obtain ⟨x1, e2, hS⟩ := bn_s hS
  refine ev_getR pm58 i58_1 rfl rfl rfl e2 rfl ?_
  refine ev_iconst (v := 0) pm58 i58_4 rfl (by decide) rfl ?_
  refine ev_aload_n pm58 i58_5 rfl rfl rfl ?_
  obtain ⟨x3, e4, hS⟩ := bn_s hS
  refine ev_getR pm58 i58_6 rfl rfl rfl e4 rfl ?_
  refine ev_iconst (v := 0) pm58 i58_9 rfl (by decide) rfl ?_
  refine ev_aload_n pm58 i58_10 rfl rfl rfl ?_
  obtain ⟨x5, e6, hS⟩ := bn_s hS
  refine ev_getR pm58 i58_11 rfl rfl rfl e6 rfl ?_
  obtain ⟨x7, e8, hS⟩ := bn_s hS
  refine ev_alen pm58 i58_14 rfl e8 rfl ?_
  obtain ⟨h9, e10, hS⟩ := bn_s hS
  refine ev_copy pm58 i58_15 rfl rfl (Nat.le_of_ble_eq_true rfl) e10 rfl ?_
  refine ev_aload_n pm58 i58_18 rfl rfl rfl ?_
  obtain ⟨x11, e12, hS⟩ := bn_s hS
  refine ev_getR pm58 i58_19 rfl rfl rfl e12 rfl ?_
  refine ev_iconst (v := 0) pm58 i58_22 rfl (by decide) rfl ?_
  refine ev_aload_n pm58 i58_23 rfl rfl rfl ?_
  obtain ⟨x13, e14, hS⟩ := bn_s hS
  refine ev_getR pm58 i58_24 rfl rfl rfl e14 rfl ?_
  refine ev_iconst (v := 0) pm58 i58_27 rfl (by decide) rfl ?_
  refine ev_aload_n pm58 i58_28 rfl rfl rfl ?_
  obtain ⟨x15, e16, hS⟩ := bn_s hS
  refine ev_getR pm58 i58_29 rfl rfl rfl e16 rfl ?_
  obtain ⟨x17, e18, hS⟩ := bn_s hS
  refine ev_alen pm58 i58_32 rfl e18 rfl ?_
  obtain ⟨h19, e20, hS⟩ := bn_s hS
  refine ev_copy pm58 i58_33 rfl rfl (Nat.le_of_ble_eq_true rfl) e20 rfl ?_
  refine ev_iconst (v := 0) pm58 i58_36 rfl (by decide) rfl ?_
  refine ev_istore_n (ls' := [.ref a0, .ref a1, .int a2, .int (0 : Int32), unk]) pm58 i58_37 rfl (Nat.le_of_ble_eq_true rfl) rfl rfl ?_
  obtain ⟨x53, h55, e54, hS⟩ := bd_s hS
  refine L_to_begin_38 d (by omega) _ _ _ _ _ e54 _ ?_
  show Ev P d 58 (111, [.ref a0, .ref a1, unk, unk, unk], [], h55) _
  refine ev_aload_n pm58 i58_111 rfl rfl rfl ?_
  refine ev_iconst (v := 1) pm58 i58_112 rfl (by decide) rfl ?_
  refine ev_aload_n pm58 i58_113 rfl rfl rfl ?_
  obtain ⟨x56, e57, hS⟩ := bn_s hS
  refine ev_getI pm58 i58_114 rfl rfl (by decide) e57 rfl ?_
  refine ev_b2 (f := fun x y => x <<< (y &&& 31)) pm58 i58_117 rfl (fun _ _ _ _ => rfl) rfl ?_
  refine ev_iconst (v := 1) pm58 i58_118 rfl (by decide) rfl ?_
  refine ev_b2 (f := fun x y => x - y) pm58 i58_119 rfl (fun _ _ _ _ => rfl) rfl ?_
  obtain ⟨h58, e59, hS⟩ := bn_s hS
  refine ev_putI pm58 i58_120 rfl rfl rfl e59 rfl ?_
  refine ev_aload_n pm58 i58_123 rfl rfl rfl ?_
  refine ev_iconst (v := 0) pm58 i58_124 rfl (by decide) rfl ?_
  obtain ⟨h60, e61, hS⟩ := bn_s hS
  refine ev_putI pm58 i58_125 rfl rfl rfl e61 rfl ?_
  refine ev_aload_n pm58 i58_128 rfl rfl rfl ?_
  refine ev_iconst (v := 0) pm58 i58_129 rfl (by decide) rfl ?_
  obtain ⟨h62, e63, hS⟩ := bn_s hS
  refine ev_putI pm58 i58_130 rfl rfl rfl e63 rfl ?_
  cases hS
  exact ev_return pm58 i58_133 rfl rfl rfl
def F_me_clear (a0 : Nat) (h : Hp) : Option Hp :=
  ck h a0 3 (bn (pI h a0 3 2 (0 : Int32)) fun h1 =>
  bn (pI h1 a0 3 3 (0 : Int32)) fun h3 =>
  bn (pI h3 a0 3 4 (0 : Int32)) fun h5 =>
  some h5)
set_option maxRecDepth 20000 in
theorem K_me_clear {a0 : Nat} {h : Hp} {h' : Hp} (hS : F_me_clear a0 h = some h') : kd h a0 = 3 := by
  unfold F_me_clear at hS
  exact (ck_s hS).1
set_option maxRecDepth 20000 in
theorem R_me_clear (d : Nat) (hd : 0 ≤ d) {a0 : Nat} {h : Hp} {h' : Hp} (hS : F_me_clear a0 h = some h') : Ev P d 59 (0, [.ref a0], [], h) (none, h') := by
  unfold F_me_clear at hS
  replace hS := (ck_s hS).2
  refine ev_aload_n pm59 i59_0 rfl rfl rfl ?_
  refine ev_iconst (v := 0) pm59 i59_1 rfl (by decide) rfl ?_
  obtain ⟨h1, e2, hS⟩ := bn_s hS
  refine ev_putI pm59 i59_2 rfl rfl rfl e2 rfl ?_
  refine ev_aload_n pm59 i59_5 rfl rfl rfl ?_
  refine ev_iconst (v := 0) pm59 i59_6 rfl (by decide) rfl ?_
  obtain ⟨h3, e4, hS⟩ := bn_s hS
  refine ev_putI pm59 i59_7 rfl rfl rfl e4 rfl ?_
  refine ev_aload_n pm59 i59_10 rfl rfl rfl ?_
  refine ev_iconst (v := 0) pm59 i59_11 rfl (by decide) rfl ?_
  obtain ⟨h5, e6, hS⟩ := bn_s hS
  refine ev_putI pm59 i59_12 rfl rfl rfl e6 rfl ?_
  cases hS
  exact ev_return pm59 i59_15 rfl rfl rfl
def F_cs_lake (a0 : Nat) (a1 : Int32) (h : Hp) : Option (Int32 × Hp) :=
  ck h a0 11 (bn (gI h a0 11 1) fun x1 =>
  bn (F_cs_outside a1 (0 : Int32) x1) fun x4 =>
  bd (F_cs_refused a0 (0 : Int32) x4 h) fun x6 h7 =>
  if x6 = (0 : Int32) then
    (bn (pI h7 a0 11 1 (0 : Int32)) fun h8 =>
    bn (gR h8 a0 11 2) fun x10 =>
    bn (gR h8 a0 11 0) fun x12 =>
    bn (F_rd_read x10 x12 a1 h8) fun h15 =>
    bn (gR h15 a0 11 2) fun x16 =>
    bn (gI h15 x16 7 0) fun x18 =>
    bn (if x18 = (0 : Int32) then
        (some (0 : Int32))
      else
        (some (1 : Int32))) fun q20 =>
    bd (F_cs_refusedBy a0 (4 : Int32) q20 h15) fun x22 h23 =>
    if x22 = (0 : Int32) then
      (bn (gR h23 a0 11 2) fun x24 =>
      bn (gR h23 a0 11 3) fun x26 =>
      bd (F_rd_exchange x24 x26 h23) fun x29 h30 =>
      bn (pR h30 a0 11 3 (some x29)) fun h31 =>
      bn (gR h31 a0 11 3) fun x33 =>
      bn (gR h31 a0 11 4) fun x35 =>
      bn (F_to_begin x33 x35 (0 : Int32) h31) fun h38 =>
      bn (gR h38 a0 11 7) fun x39 =>
      bn (F_me_clear x39 h38) fun h42 =>
      bn (gR h42 a0 11 3) fun x43 =>
      bn (gI h42 x43 10 1) fun x45 =>
      some (x45, h42))
    else
      (some ((-1 : Int32), h23)))
  else
    (some ((-1 : Int32), h7)))
set_option maxRecDepth 20000 in
theorem K_cs_lake {a0 : Nat} {a1 : Int32} {h : Hp} {v : Int32} {h' : Hp} (hS : F_cs_lake a0 a1 h = some (v, h')) : kd h a0 = 11 := by
  unfold F_cs_lake at hS
  exact (ck_s hS).1
set_option maxRecDepth 20000 in
theorem R_cs_lake (d : Nat) (hd : 10 ≤ d) {a0 : Nat} {a1 : Int32} {h : Hp} {v : Int32} {h' : Hp} (hS : F_cs_lake a0 a1 h = some (v, h')) : Ev P d 16 (0, [.ref a0, .int a1], [], h) (some (.int v), h') := by
  unfold F_cs_lake at hS
  replace hS := (ck_s hS).2
  refine ev_aload_n pm16 i16_0 rfl rfl rfl ?_
  refine ev_iconst (v := 0) pm16 i16_1 rfl (by decide) rfl ?_
  refine ev_iload_n pm16 i16_2 rfl rfl rfl ?_
  refine ev_iconst (v := 0) pm16 i16_3 rfl (by decide) rfl ?_
  refine ev_aload_n pm16 i16_4 rfl rfl rfl ?_
  obtain ⟨x1, e2, hS⟩ := bn_s hS
  refine ev_getI pm16 i16_5 rfl rfl (by decide) e2 rfl ?_
  obtain ⟨x4, e3, hS⟩ := bn_s hS
  refine ev_callS (sa := [.int x1, .int (0 : Int32), .int a1]) (rest := [.int (0 : Int32), .ref a0]) (st' := [.int x4, .int (0 : Int32), .ref a0]) (ls0 := [.int a1, .int (0 : Int32), .int x1]) (rv := some (.int x4)) pm16 i16_8 rfl rfl pm17 (by decide) rfl rfl (Nat.le_of_ble_eq_true rfl) (by omega) rfl (R_cs_outside (d - 1) (by omega) e3) (by simp) rfl rfl ?_
  obtain ⟨x6, h7, e5, hS⟩ := bd_s hS
  refine ev_callV (sa := [.int x4, .int (0 : Int32)]) (rest := []) (st' := [.int x6]) (ls0 := [.ref a0, .int (0 : Int32), .int x4]) (rv := some (.int x6)) pm16 i16_11 rfl rfl pm18 (by decide) (K_cs_refused e5) rfl rfl (Nat.le_of_ble_eq_true rfl) (by omega) rfl (R_cs_refused (d - 1) (by omega) e5) (by simp) rfl rfl ?_
  by_cases c205 : x6 = (0 : Int32)
  · rw [if_pos c205] at hS
    refine ev_if_eq_t (t := 19) pm16 i16_14 rfl c205 rfl rfl ?_
    refine ev_aload_n pm16 i16_19 rfl rfl rfl ?_
    refine ev_iconst (v := 0) pm16 i16_20 rfl (by decide) rfl ?_
    obtain ⟨h8, e9, hS⟩ := bn_s hS
    refine ev_putI pm16 i16_21 rfl rfl rfl e9 rfl ?_
    refine ev_aload_n pm16 i16_24 rfl rfl rfl ?_
    obtain ⟨x10, e11, hS⟩ := bn_s hS
    refine ev_getR pm16 i16_25 rfl rfl rfl e11 rfl ?_
    refine ev_aload_n pm16 i16_28 rfl rfl rfl ?_
    obtain ⟨x12, e13, hS⟩ := bn_s hS
    refine ev_getR pm16 i16_29 rfl rfl rfl e13 rfl ?_
    refine ev_iload_n pm16 i16_32 rfl rfl rfl ?_
    obtain ⟨h15, e14, hS⟩ := bn_s hS
    refine ev_callV (sa := [.int a1, .ref x12]) (rest := []) (st' := []) (ls0 := [.ref x10, .ref x12, .int a1, unk, unk]) (rv := none) pm16 i16_33 rfl rfl pm19 (by decide) (K_rd_read e14) rfl rfl (Nat.le_of_ble_eq_true rfl) (by omega) rfl (R_rd_read (d - 1) (by omega) e14) (by simp) rfl rfl ?_
    refine ev_aload_n pm16 i16_36 rfl rfl rfl ?_
    refine ev_iconst (v := 4) pm16 i16_37 rfl (by decide) rfl ?_
    refine ev_aload_n pm16 i16_38 rfl rfl rfl ?_
    obtain ⟨x16, e17, hS⟩ := bn_s hS
    refine ev_getR pm16 i16_39 rfl rfl rfl e17 rfl ?_
    obtain ⟨x18, e19, hS⟩ := bn_s hS
    refine ev_getI pm16 i16_42 rfl rfl (by decide) e19 rfl ?_
    obtain ⟨q20, I206, hS⟩ := bn_s hS
    have J1 : Ev P d 16 (53, [.ref a0, unk], [.int q20, .int (4 : Int32), .ref a0], h15) (some (.int v), h') := by
      obtain ⟨x22, h23, e21, hS⟩ := bd_s hS
      refine ev_callV (sa := [.int q20, .int (4 : Int32)]) (rest := []) (st' := [.int x22]) (ls0 := [.ref a0, .int (4 : Int32), .int q20]) (rv := some (.int x22)) pm16 i16_53 rfl rfl pm56 (by decide) (K_cs_refusedBy e21) rfl rfl (Nat.le_of_ble_eq_true rfl) (by omega) rfl (R_cs_refusedBy (d - 1) (by omega) e21) (by simp) rfl rfl ?_
      by_cases c207 : x22 = (0 : Int32)
      · rw [if_pos c207] at hS
        refine ev_if_eq_t (t := 61) pm16 i16_56 rfl c207 rfl rfl ?_
        refine ev_aload_n pm16 i16_61 rfl rfl rfl ?_
        refine ev_aload_n pm16 i16_62 rfl rfl rfl ?_
        obtain ⟨x24, e25, hS⟩ := bn_s hS
        refine ev_getR pm16 i16_63 rfl rfl rfl e25 rfl ?_
        refine ev_aload_n pm16 i16_66 rfl rfl rfl ?_
        obtain ⟨x26, e27, hS⟩ := bn_s hS
        refine ev_getR pm16 i16_67 rfl rfl rfl e27 rfl ?_
        obtain ⟨x29, h30, e28, hS⟩ := bd_s hS
        refine ev_callV (sa := [.ref x26]) (rest := [.ref a0]) (st' := [.ref x29, .ref a0]) (ls0 := [.ref x24, .ref x26, unk]) (rv := some (.ref x29)) pm16 i16_70 rfl rfl pm57 (by decide) (K_rd_exchange e28) rfl rfl (Nat.le_of_ble_eq_true rfl) (by omega) rfl (R_rd_exchange (d - 1) (by omega) e28) (by simp) rfl rfl ?_
        obtain ⟨h31, e32, hS⟩ := bn_s hS
        refine ev_putR pm16 i16_73 rfl rfl rfl e32 rfl ?_
        refine ev_aload_n pm16 i16_76 rfl rfl rfl ?_
        obtain ⟨x33, e34, hS⟩ := bn_s hS
        refine ev_getR pm16 i16_77 rfl rfl rfl e34 rfl ?_
        refine ev_aload_n pm16 i16_80 rfl rfl rfl ?_
        obtain ⟨x35, e36, hS⟩ := bn_s hS
        refine ev_getR pm16 i16_81 rfl rfl rfl e36 rfl ?_
        refine ev_iconst (v := 0) pm16 i16_84 rfl (by decide) rfl ?_
        obtain ⟨h38, e37, hS⟩ := bn_s hS
        refine ev_callV (sa := [.int (0 : Int32), .ref x35]) (rest := []) (st' := []) (ls0 := [.ref x33, .ref x35, .int (0 : Int32), unk, unk]) (rv := none) pm16 i16_85 rfl rfl pm58 (by decide) (K_to_begin e37) rfl rfl (Nat.le_of_ble_eq_true rfl) (by omega) rfl (R_to_begin (d - 1) (by omega) e37) (by simp) rfl rfl ?_
        refine ev_aload_n pm16 i16_88 rfl rfl rfl ?_
        obtain ⟨x39, e40, hS⟩ := bn_s hS
        refine ev_getR pm16 i16_89 rfl rfl rfl e40 rfl ?_
        obtain ⟨h42, e41, hS⟩ := bn_s hS
        refine ev_callV (sa := []) (rest := []) (st' := []) (ls0 := [.ref x39]) (rv := none) pm16 i16_92 rfl rfl pm59 (by decide) (K_me_clear e41) rfl rfl (Nat.le_of_ble_eq_true rfl) (by omega) rfl (R_me_clear (d - 1) (by omega) e41) (by simp) rfl rfl ?_
        refine ev_aload_n pm16 i16_95 rfl rfl rfl ?_
        obtain ⟨x43, e44, hS⟩ := bn_s hS
        refine ev_getR pm16 i16_96 rfl rfl rfl e44 rfl ?_
        obtain ⟨x45, e46, hS⟩ := bn_s hS
        refine ev_getI pm16 i16_99 rfl rfl (by decide) e46 rfl ?_
        cases hS
        exact ev_ireturn pm16 i16_102 rfl rfl rfl
      · rw [if_neg c207] at hS
        refine ev_if_eq_f (t := 61) pm16 i16_56 rfl c207 rfl rfl ?_
        refine ev_iconst (v := -1) pm16 i16_59 rfl (by decide) rfl ?_
        cases hS
        exact ev_ireturn pm16 i16_60 rfl rfl rfl
    clear hS
    by_cases c206 : x18 = (0 : Int32)
    · rw [if_pos c206] at I206
      refine ev_if_eq_t (t := 52) pm16 i16_45 rfl c206 rfl rfl ?_
      refine ev_iconst (v := 0) pm16 i16_52 rfl (by decide) rfl ?_
      refine ev_kls (ls' := [.ref a0, unk]) pm16 i16_53 rfl rfl ?_
      cases I206
      exact J1
    · rw [if_neg c206] at I206
      refine ev_if_eq_f (t := 52) pm16 i16_45 rfl c206 rfl rfl ?_
      refine ev_iconst (v := 1) pm16 i16_48 rfl (by decide) rfl ?_
      refine ev_goto (t := 53) pm16 i16_49 rfl rfl ?_
      refine ev_kls (ls' := [.ref a0, unk]) pm16 i16_53 rfl rfl ?_
      cases I206
      exact J1
  · rw [if_neg c205] at hS
    refine ev_if_eq_f (t := 19) pm16 i16_14 rfl c205 rfl rfl ?_
    refine ev_iconst (v := -1) pm16 i16_17 rfl (by decide) rfl ?_
    cases hS
    exact ev_ireturn pm16 i16_18 rfl rfl rfl
def F_cs_fault (a0 : Nat) (h : Hp) : Option Int32 :=
  ck h a0 11 (bn (gR h a0 11 2) fun x1 =>
  bn (gI h x1 7 0) fun x3 =>
  some x3)
set_option maxRecDepth 20000 in
theorem K_cs_fault {a0 : Nat} {h : Hp} {v : Int32} (hS : F_cs_fault a0 h = some v) : kd h a0 = 11 := by
  unfold F_cs_fault at hS
  exact (ck_s hS).1
set_option maxRecDepth 20000 in
theorem R_cs_fault (d : Nat) (hd : 0 ≤ d) {a0 : Nat} {h : Hp} {v : Int32} (hS : F_cs_fault a0 h = some v) : Ev P d 60 (0, [.ref a0], [], h) (some (.int v), h) := by
  unfold F_cs_fault at hS
  replace hS := (ck_s hS).2
  refine ev_aload_n pm60 i60_0 rfl rfl rfl ?_
  obtain ⟨x1, e2, hS⟩ := bn_s hS
  refine ev_getR pm60 i60_1 rfl rfl rfl e2 rfl ?_
  obtain ⟨x3, e4, hS⟩ := bn_s hS
  refine ev_getI pm60 i60_4 rfl rfl (by decide) e4 rfl ?_
  cases hS
  exact ev_ireturn pm60 i60_7 rfl rfl rfl
def F_cs_where (a0 : Nat) (h : Hp) : Option Int32 :=
  ck h a0 11 (bn (gI h a0 11 12) fun x1 =>
  if x1 = (4 : Int32) then
    (bn (gR h a0 11 2) fun x3 =>
    bn (gI h x3 7 1) fun x5 =>
    some x5)
  else
    (some (-1 : Int32)))
set_option maxRecDepth 20000 in
theorem K_cs_where {a0 : Nat} {h : Hp} {v : Int32} (hS : F_cs_where a0 h = some v) : kd h a0 = 11 := by
  unfold F_cs_where at hS
  exact (ck_s hS).1
set_option maxRecDepth 20000 in
theorem R_cs_where (d : Nat) (hd : 0 ≤ d) {a0 : Nat} {h : Hp} {v : Int32} (hS : F_cs_where a0 h = some v) : Ev P d 61 (0, [.ref a0], [], h) (some (.int v), h) := by
  unfold F_cs_where at hS
  replace hS := (ck_s hS).2
  refine ev_aload_n pm61 i61_0 rfl rfl rfl ?_
  obtain ⟨x1, e2, hS⟩ := bn_s hS
  refine ev_getI pm61 i61_1 rfl rfl (by decide) e2 rfl ?_
  refine ev_iconst (v := 4) pm61 i61_4 rfl (by decide) rfl ?_
  by_cases c208 : x1 = (4 : Int32)
  · rw [if_pos c208] at hS
    refine ev_icmp_ne_t (t := 18) pm61 i61_5 rfl c208 rfl rfl ?_
    refine ev_aload_n pm61 i61_8 rfl rfl rfl ?_
    obtain ⟨x3, e4, hS⟩ := bn_s hS
    refine ev_getR pm61 i61_9 rfl rfl rfl e4 rfl ?_
    obtain ⟨x5, e6, hS⟩ := bn_s hS
    refine ev_getI pm61 i61_12 rfl rfl (by decide) e6 rfl ?_
    refine ev_goto (t := 19) pm61 i61_15 rfl rfl ?_
    refine ev_kls (ls' := [unk]) pm61 i61_19 rfl rfl ?_
    cases hS
    exact ev_ireturn pm61 i61_19 rfl rfl rfl
  · rw [if_neg c208] at hS
    refine ev_icmp_ne_f (t := 18) pm61 i61_5 rfl c208 rfl rfl ?_
    refine ev_iconst (v := -1) pm61 i61_18 rfl (by decide) rfl ?_
    refine ev_kls (ls' := [unk]) pm61 i61_19 rfl rfl ?_
    cases hS
    exact ev_ireturn pm61 i61_19 rfl rfl rfl
def F_cs_noHouse (a0 : Nat) (a1 : Int32) (h : Hp) : Option Int32 :=
  ck h a0 11 (bn (gR h a0 11 3) fun x1 =>
  bn (gI h x1 10 1) fun x3 =>
  bn (F_cs_outside a1 (0 : Int32) (x3 - (1 : Int32))) fun x6 =>
  if retV .boolean x6 = true then
    (some x6)
  else
    (none))
set_option maxRecDepth 20000 in
theorem K_cs_noHouse {a0 : Nat} {a1 : Int32} {h : Hp} {v : Int32} (hS : F_cs_noHouse a0 a1 h = some v) : kd h a0 = 11 := by
  unfold F_cs_noHouse at hS
  exact (ck_s hS).1
set_option maxRecDepth 20000 in
theorem R_cs_noHouse (d : Nat) (hd : 1 ≤ d) {a0 : Nat} {a1 : Int32} {h : Hp} {v : Int32} (hS : F_cs_noHouse a0 a1 h = some v) : Ev P d 63 (0, [.ref a0, .int a1], [], h) (some (.int v), h) := by
  unfold F_cs_noHouse at hS
  replace hS := (ck_s hS).2
  refine ev_iload_n pm63 i63_0 rfl rfl rfl ?_
  refine ev_iconst (v := 0) pm63 i63_1 rfl (by decide) rfl ?_
  refine ev_aload_n pm63 i63_2 rfl rfl rfl ?_
  obtain ⟨x1, e2, hS⟩ := bn_s hS
  refine ev_getR pm63 i63_3 rfl rfl rfl e2 rfl ?_
  obtain ⟨x3, e4, hS⟩ := bn_s hS
  refine ev_getI pm63 i63_6 rfl rfl (by decide) e4 rfl ?_
  refine ev_iconst (v := 1) pm63 i63_9 rfl (by decide) rfl ?_
  refine ev_b2 (f := fun x y => x - y) pm63 i63_10 rfl (fun _ _ _ _ => rfl) rfl ?_
  obtain ⟨x6, e5, hS⟩ := bn_s hS
  refine ev_callS (sa := [.int (x3 - (1 : Int32)), .int (0 : Int32), .int a1]) (rest := []) (st' := [.int x6]) (ls0 := [.int a1, .int (0 : Int32), .int (x3 - (1 : Int32))]) (rv := some (.int x6)) pm63 i63_11 rfl rfl pm17 (by decide) rfl rfl (Nat.le_of_ble_eq_true rfl) (by omega) rfl (R_cs_outside (d - 1) (by omega) e5) (by simp) rfl rfl ?_
  by_cases c209 : retV .boolean x6 = true
  · rw [if_pos c209] at hS
    cases hS
    exact ev_ireturn pm63 i63_14 rfl c209 rfl
  · rw [if_neg c209] at hS
    cases hS
def F_to_isNorth (a0 : Nat) (a1 : Int32) (h : Hp) : Option Int32 :=
  ck h a0 10 (bn (gI h a0 10 2) fun x1 =>
  if ((x1 >>> (a1 &&& 31)) &&& (1 : Int32)) = (0 : Int32) then
    (some (0 : Int32))
  else
    (some (1 : Int32)))
set_option maxRecDepth 20000 in
theorem K_to_isNorth {a0 : Nat} {a1 : Int32} {h : Hp} {v : Int32} (hS : F_to_isNorth a0 a1 h = some v) : kd h a0 = 10 := by
  unfold F_to_isNorth at hS
  exact (ck_s hS).1
set_option maxRecDepth 20000 in
theorem R_to_isNorth (d : Nat) (hd : 0 ≤ d) {a0 : Nat} {a1 : Int32} {h : Hp} {v : Int32} (hS : F_to_isNorth a0 a1 h = some v) : Ev P d 76 (0, [.ref a0, .int a1], [], h) (some (.int v), h) := by
  unfold F_to_isNorth at hS
  replace hS := (ck_s hS).2
  refine ev_aload_n pm76 i76_0 rfl rfl rfl ?_
  obtain ⟨x1, e2, hS⟩ := bn_s hS
  refine ev_getI pm76 i76_1 rfl rfl (by decide) e2 rfl ?_
  refine ev_iload_n pm76 i76_4 rfl rfl rfl ?_
  refine ev_b2 (f := fun x y => x >>> (y &&& 31)) pm76 i76_5 rfl (fun _ _ _ _ => rfl) rfl ?_
  refine ev_iconst (v := 1) pm76 i76_6 rfl (by decide) rfl ?_
  refine ev_b2 (f := fun x y => x &&& y) pm76 i76_7 rfl (fun _ _ _ _ => rfl) rfl ?_
  by_cases c210 : ((x1 >>> (a1 &&& 31)) &&& (1 : Int32)) = (0 : Int32)
  · rw [if_pos c210] at hS
    refine ev_if_eq_t (t := 15) pm76 i76_8 rfl c210 rfl rfl ?_
    refine ev_iconst (v := 0) pm76 i76_15 rfl (by decide) rfl ?_
    refine ev_kls (ls' := [unk, unk]) pm76 i76_16 rfl rfl ?_
    cases hS
    exact ev_ireturn pm76 i76_16 rfl (by decide) rfl
  · rw [if_neg c210] at hS
    refine ev_if_eq_f (t := 15) pm76 i76_8 rfl c210 rfl rfl ?_
    refine ev_iconst (v := 1) pm76 i76_11 rfl (by decide) rfl ?_
    refine ev_goto (t := 16) pm76 i76_12 rfl rfl ?_
    refine ev_kls (ls' := [unk, unk]) pm76 i76_16 rfl rfl ?_
    cases hS
    exact ev_ireturn pm76 i76_16 rfl (by decide) rfl
def B_cs_guestBits_4 (l0 : Nat) (l1 : Int32) (h : Hp) (s : Int32 × Int32) : Option ((Int32 × Int32) ⊕ (Int32)) :=
  bn (gR h l0 11 3) fun x1 =>
  bn (gI h x1 10 8) fun x3 =>
  if s.2 < x3 then
    (bn (gR h l0 11 4) fun x5 =>
    bn (gR h x5 8 1) fun x7 =>
    bn (aI h 100 x7 s.2) fun x9 =>
    if x9 = l1 then
      (some (.inl (s.1 ||| ((1 : Int32) <<< (s.2 &&& 31)), s.2 + (1 : Int32))))
    else
      (some (.inl (s.1, s.2 + (1 : Int32)))))
  else
    (some (.inr s.1))
set_option maxRecDepth 20000 in
theorem L_cs_guestBits_4 (d : Nat) (hd : 0 ≤ d) {l0 : Nat} {l1 : Int32} {h : Hp} : ∀ (n : Nat) (s : Int32 × Int32) (x : Int32), lq (B_cs_guestBits_4 l0 l1 h) n s = some x → ∀ r, Ev P d 77 (40, [unk, unk, .int x, unk], [], h) r → Ev P d 77 (4, [.ref l0, .int l1, .int s.1, .int s.2], [], h) r := by
  refine lq_ev (G0 := fun (s : Int32 × Int32) r => Ev P d 77 (4, [.ref l0, .int l1, .int s.1, .int s.2], [], h) r) (X := fun (x : Int32) r => Ev P d 77 (40, [unk, unk, .int x, unk], [], h) r) ?_
  intro s y hS r hK
  unfold B_cs_guestBits_4 at hS
  show Ev P d 77 (4, [.ref l0, .int l1, .int s.1, .int s.2], [], h) r
  refine ev_iload_n pm77 i77_4 rfl rfl rfl ?_
  refine ev_aload_n pm77 i77_5 rfl rfl rfl ?_
  obtain ⟨x1, e2, hS⟩ := bn_s hS
  refine ev_getR pm77 i77_6 rfl rfl rfl e2 rfl ?_
  obtain ⟨x3, e4, hS⟩ := bn_s hS
  refine ev_getI pm77 i77_9 rfl rfl (by decide) e4 rfl ?_
  by_cases c211 : s.2 < x3
  · rw [if_pos c211] at hS
    refine ev_icmp_ge_t (t := 40) pm77 i77_12 rfl c211 rfl rfl ?_
    refine ev_aload_n pm77 i77_15 rfl rfl rfl ?_
    obtain ⟨x5, e6, hS⟩ := bn_s hS
    refine ev_getR pm77 i77_16 rfl rfl rfl e6 rfl ?_
    obtain ⟨x7, e8, hS⟩ := bn_s hS
    refine ev_getR pm77 i77_19 rfl rfl rfl e8 rfl ?_
    refine ev_iload_n pm77 i77_22 rfl rfl rfl ?_
    obtain ⟨x9, e10, hS⟩ := bn_s hS
    refine ev_iald pm77 i77_23 rfl e10 rfl ?_
    refine ev_iload_n pm77 i77_24 rfl rfl rfl ?_
    by_cases c212 : x9 = l1
    · rw [if_pos c212] at hS
      refine ev_icmp_ne_t (t := 34) pm77 i77_25 rfl c212 rfl rfl ?_
      refine ev_iload_n pm77 i77_28 rfl rfl rfl ?_
      refine ev_iconst (v := 1) pm77 i77_29 rfl (by decide) rfl ?_
      refine ev_iload_n pm77 i77_30 rfl rfl rfl ?_
      refine ev_b2 (f := fun x y => x <<< (y &&& 31)) pm77 i77_31 rfl (fun _ _ _ _ => rfl) rfl ?_
      refine ev_b2 (f := fun x y => x ||| y) pm77 i77_32 rfl (fun _ _ _ _ => rfl) rfl ?_
      refine ev_istore_n (ls' := [.ref l0, .int l1, .int (s.1 ||| ((1 : Int32) <<< (s.2 &&& 31))), .int s.2]) pm77 i77_33 rfl (Nat.le_of_ble_eq_true rfl) rfl rfl ?_
      refine ev_iinc (v := 1) (ls' := [.ref l0, .int l1, .int (s.1 ||| ((1 : Int32) <<< (s.2 &&& 31))), .int (s.2 + (1 : Int32))]) pm77 i77_34 rfl rfl (by decide) rfl rfl ?_
      refine ev_goto (t := 4) pm77 i77_37 rfl rfl ?_
      cases hS
      exact hK
    · rw [if_neg c212] at hS
      refine ev_icmp_ne_f (t := 34) pm77 i77_25 rfl c212 rfl rfl ?_
      refine ev_iinc (v := 1) (ls' := [.ref l0, .int l1, .int s.1, .int (s.2 + (1 : Int32))]) pm77 i77_34 rfl rfl (by decide) rfl rfl ?_
      refine ev_goto (t := 4) pm77 i77_37 rfl rfl ?_
      cases hS
      exact hK
  · rw [if_neg c211] at hS
    refine ev_icmp_ge_f (t := 40) pm77 i77_12 rfl c211 rfl rfl ?_
    refine ev_kls (ls' := [unk, unk, .int s.1, unk]) pm77 i77_40 rfl rfl ?_
    cases hS
    exact hK
def F_cs_guestBits (a0 : Nat) (a1 : Int32) (h : Hp) : Option Int32 :=
  ck h a0 11 (bn (lq (B_cs_guestBits_4 a0 a1 h) FU ((0 : Int32), (0 : Int32))) fun x11 =>
  some x11)
set_option maxRecDepth 20000 in
theorem K_cs_guestBits {a0 : Nat} {a1 : Int32} {h : Hp} {v : Int32} (hS : F_cs_guestBits a0 a1 h = some v) : kd h a0 = 11 := by
  unfold F_cs_guestBits at hS
  exact (ck_s hS).1
set_option maxRecDepth 20000 in
theorem R_cs_guestBits (d : Nat) (hd : 0 ≤ d) {a0 : Nat} {a1 : Int32} {h : Hp} {v : Int32} (hS : F_cs_guestBits a0 a1 h = some v) : Ev P d 77 (0, [.ref a0, .int a1, unk, unk], [], h) (some (.int v), h) := by
  unfold F_cs_guestBits at hS
  replace hS := (ck_s hS).2
  refine ev_iconst (v := 0) pm77 i77_0 rfl (by decide) rfl ?_
  refine ev_istore_n (ls' := [.ref a0, .int a1, .int (0 : Int32), unk]) pm77 i77_1 rfl (Nat.le_of_ble_eq_true rfl) rfl rfl ?_
  refine ev_iconst (v := 0) pm77 i77_2 rfl (by decide) rfl ?_
  refine ev_istore_n (ls' := [.ref a0, .int a1, .int (0 : Int32), .int (0 : Int32)]) pm77 i77_3 rfl (Nat.le_of_ble_eq_true rfl) rfl rfl ?_
  obtain ⟨x11, e12, hS⟩ := bn_s hS
  refine L_cs_guestBits_4 d (by omega) _ _ _ e12 _ ?_
  show Ev P d 77 (40, [unk, unk, .int x11, unk], [], h) _
  refine ev_iload_n pm77 i77_40 rfl rfl rfl ?_
  cases hS
  exact ev_ireturn pm77 i77_41 rfl rfl rfl
def F_cs_house (a0 : Nat) (a1 : Int32) (a2 : Int32) (h : Hp) : Option (Int32 × Hp) :=
  ck h a0 11 (bn (F_cs_noHouse a0 a1 h) fun x2 =>
  bn (if x2 = (0 : Int32) then
      (bn (F_cs_outside a2 (0 : Int32) (5 : Int32)) fun x4 =>
      if x4 = (0 : Int32) then
        (some (0 : Int32))
      else
        (some (1 : Int32)))
    else
      (some (1 : Int32))) fun q5 =>
  bd (F_cs_refused a0 q5 (0 : Int32) h) fun x7 h8 =>
  if x7 = (0 : Int32) then
    (bn (gR h8 a0 11 6) fun x9 =>
    bn (gR h8 a0 11 3) fun x11 =>
    bn (gR h8 a0 11 4) fun x13 =>
    bn (F_ra_measure x9 x11 x13 h8) fun h16 =>
    if (a2).toInt < 0 ∨ 4 < (a2).toInt then
      (bn (F_cs_guestBits a0 a1 h16) fun x18 =>
      some (x18, h16))
    else if a2 = (0 : Int32) then
      (bn (gR h16 a0 11 3) fun x19 =>
      bn (F_to_isNorth x19 a1 h16) fun x22 =>
      if x22 = (0 : Int32) then
        (some ((1 : Int32), h16))
      else
        (some ((0 : Int32), h16)))
    else if a2 = (1 : Int32) then
      (bn (gR h16 a0 11 3) fun x23 =>
      bn (gR h16 a0 11 4) fun x25 =>
      bn (F_to_weightAt x23 a1 x25 h16) fun x28 =>
      some (x28, h16))
    else if a2 = (2 : Int32) then
      (bn (gR h16 a0 11 4) fun x29 =>
      bn (F_st_liftUnder x29 a1 h16) fun x32 =>
      some (x32, h16))
    else if a2 = (3 : Int32) then
      (bn (gR h16 a0 11 6) fun x33 =>
      bn (gR h16 x33 6 3) fun x35 =>
      bn (aI h16 100 x35 a1) fun x37 =>
      some (x37 + (1000 : Int32), h16))
    else if a2 = (4 : Int32) then
      (bn (gR h16 a0 11 6) fun x39 =>
      bn (gR h16 x39 6 2) fun x41 =>
      bn (aI h16 100 x41 a1) fun x43 =>
      some (x43, h16))
    else none)
  else
    (some ((-1 : Int32), h8)))
set_option maxRecDepth 20000 in
theorem K_cs_house {a0 : Nat} {a1 : Int32} {a2 : Int32} {h : Hp} {v : Int32} {h' : Hp} (hS : F_cs_house a0 a1 a2 h = some (v, h')) : kd h a0 = 11 := by
  unfold F_cs_house at hS
  exact (ck_s hS).1
set_option maxRecDepth 20000 in
theorem R_cs_house (d : Nat) (hd : 4 ≤ d) {a0 : Nat} {a1 : Int32} {a2 : Int32} {h : Hp} {v : Int32} {h' : Hp} (hS : F_cs_house a0 a1 a2 h = some (v, h')) : Ev P d 62 (0, [.ref a0, .int a1, .int a2], [], h) (some (.int v), h') := by
  unfold F_cs_house at hS
  replace hS := (ck_s hS).2
  refine ev_aload_n pm62 i62_0 rfl rfl rfl ?_
  refine ev_aload_n pm62 i62_1 rfl rfl rfl ?_
  refine ev_iload_n pm62 i62_2 rfl rfl rfl ?_
  obtain ⟨x2, e1, hS⟩ := bn_s hS
  refine ev_callV (sa := [.int a1]) (rest := [.ref a0]) (st' := [.int x2, .ref a0]) (ls0 := [.ref a0, .int a1]) (rv := some (.int x2)) pm62 i62_3 rfl rfl pm63 (by decide) (K_cs_noHouse e1) rfl rfl (Nat.le_of_ble_eq_true rfl) (by omega) rfl (R_cs_noHouse (d - 1) (by omega) e1) (by simp) rfl rfl ?_
  obtain ⟨q5, I213, hS⟩ := bn_s hS
  have J1 : Ev P d 62 (23, [.ref a0, .int a1, .int a2], [.int q5, .ref a0], h) (some (.int v), h') := by
    refine ev_iconst (v := 0) pm62 i62_23 rfl (by decide) rfl ?_
    obtain ⟨x7, h8, e6, hS⟩ := bd_s hS
    refine ev_callV (sa := [.int (0 : Int32), .int q5]) (rest := []) (st' := [.int x7]) (ls0 := [.ref a0, .int q5, .int (0 : Int32)]) (rv := some (.int x7)) pm62 i62_24 rfl rfl pm18 (by decide) (K_cs_refused e6) rfl rfl (Nat.le_of_ble_eq_true rfl) (by omega) rfl (R_cs_refused (d - 1) (by omega) e6) (by simp) rfl rfl ?_
    by_cases c214 : x7 = (0 : Int32)
    · rw [if_pos c214] at hS
      refine ev_if_eq_t (t := 32) pm62 i62_27 rfl c214 rfl rfl ?_
      refine ev_aload_n pm62 i62_32 rfl rfl rfl ?_
      obtain ⟨x9, e10, hS⟩ := bn_s hS
      refine ev_getR pm62 i62_33 rfl rfl rfl e10 rfl ?_
      refine ev_aload_n pm62 i62_36 rfl rfl rfl ?_
      obtain ⟨x11, e12, hS⟩ := bn_s hS
      refine ev_getR pm62 i62_37 rfl rfl rfl e12 rfl ?_
      refine ev_aload_n pm62 i62_40 rfl rfl rfl ?_
      obtain ⟨x13, e14, hS⟩ := bn_s hS
      refine ev_getR pm62 i62_41 rfl rfl rfl e14 rfl ?_
      obtain ⟨h16, e15, hS⟩ := bn_s hS
      refine ev_callV (sa := [.ref x13, .ref x11]) (rest := []) (st' := []) (ls0 := [.ref x9, .ref x11, .ref x13]) (rv := none) pm62 i62_44 rfl rfl pm64 (by decide) (K_ra_measure e15) rfl rfl (Nat.le_of_ble_eq_true rfl) (by omega) rfl (R_ra_measure (d - 1) (by omega) e15) (by simp) rfl rfl ?_
      refine ev_iload_n pm62 i62_47 rfl rfl rfl ?_
      by_cases c215 : (a2).toInt < 0 ∨ 4 < (a2).toInt
      · rw [if_pos c215] at hS
        refine ev_tabO (t := 147) pm62 i62_48 rfl c215 rfl ?_
        refine ev_aload_n pm62 i62_147 rfl rfl rfl ?_
        refine ev_iload_n pm62 i62_148 rfl rfl rfl ?_
        obtain ⟨x18, e17, hS⟩ := bn_s hS
        refine ev_callV (sa := [.int a1]) (rest := []) (st' := [.int x18]) (ls0 := [.ref a0, .int a1, unk, unk]) (rv := some (.int x18)) pm62 i62_149 rfl rfl pm77 (by decide) (K_cs_guestBits e17) rfl rfl (Nat.le_of_ble_eq_true rfl) (by omega) rfl (R_cs_guestBits (d - 1) (by omega) e17) (by simp) rfl rfl ?_
        cases hS
        exact ev_ireturn pm62 i62_152 rfl rfl rfl
      rw [if_neg c215] at hS
      by_cases c216 : a2 = (0 : Int32)
      · rw [if_pos c216] at hS
        refine ev_tabI (t := 84) (off := 36) pm62 i62_48 rfl (0 : Int32) c216 (by decide) rfl rfl ?_
        refine ev_aload_n pm62 i62_84 rfl rfl rfl ?_
        obtain ⟨x19, e20, hS⟩ := bn_s hS
        refine ev_getR pm62 i62_85 rfl rfl rfl e20 rfl ?_
        refine ev_iload_n pm62 i62_88 rfl rfl rfl ?_
        obtain ⟨x22, e21, hS⟩ := bn_s hS
        refine ev_callV (sa := [.int a1]) (rest := []) (st' := [.int x22]) (ls0 := [.ref x19, .int a1]) (rv := some (.int x22)) pm62 i62_89 rfl rfl pm76 (by decide) (K_to_isNorth e21) rfl rfl (Nat.le_of_ble_eq_true rfl) (by omega) rfl (R_to_isNorth (d - 1) (by omega) e21) (by simp) rfl rfl ?_
        by_cases c217 : x22 = (0 : Int32)
        · rw [if_pos c217] at hS
          refine ev_if_eq_t (t := 99) pm62 i62_92 rfl c217 rfl rfl ?_
          refine ev_iconst (v := 1) pm62 i62_99 rfl (by decide) rfl ?_
          refine ev_kls (ls' := [unk, unk, unk]) pm62 i62_100 rfl rfl ?_
          cases hS
          exact ev_ireturn pm62 i62_100 rfl rfl rfl
        · rw [if_neg c217] at hS
          refine ev_if_eq_f (t := 99) pm62 i62_92 rfl c217 rfl rfl ?_
          refine ev_iconst (v := 0) pm62 i62_95 rfl (by decide) rfl ?_
          refine ev_goto (t := 100) pm62 i62_96 rfl rfl ?_
          refine ev_kls (ls' := [unk, unk, unk]) pm62 i62_100 rfl rfl ?_
          cases hS
          exact ev_ireturn pm62 i62_100 rfl rfl rfl
      rw [if_neg c216] at hS
      by_cases c218 : a2 = (1 : Int32)
      · rw [if_pos c218] at hS
        refine ev_tabI (t := 101) (off := 53) pm62 i62_48 rfl (1 : Int32) c218 (by decide) rfl rfl ?_
        refine ev_aload_n pm62 i62_101 rfl rfl rfl ?_
        obtain ⟨x23, e24, hS⟩ := bn_s hS
        refine ev_getR pm62 i62_102 rfl rfl rfl e24 rfl ?_
        refine ev_iload_n pm62 i62_105 rfl rfl rfl ?_
        refine ev_aload_n pm62 i62_106 rfl rfl rfl ?_
        obtain ⟨x25, e26, hS⟩ := bn_s hS
        refine ev_getR pm62 i62_107 rfl rfl rfl e26 rfl ?_
        obtain ⟨x28, e27, hS⟩ := bn_s hS
        refine ev_callV (sa := [.ref x25, .int a1]) (rest := []) (st' := [.int x28]) (ls0 := [.ref x23, .int a1, .ref x25, unk, unk]) (rv := some (.int x28)) pm62 i62_110 rfl rfl pm67 (by decide) (K_to_weightAt e27) rfl rfl (Nat.le_of_ble_eq_true rfl) (by omega) rfl (R_to_weightAt (d - 1) (by omega) e27) (by simp) rfl rfl ?_
        cases hS
        exact ev_ireturn pm62 i62_113 rfl rfl rfl
      rw [if_neg c218] at hS
      by_cases c219 : a2 = (2 : Int32)
      · rw [if_pos c219] at hS
        refine ev_tabI (t := 114) (off := 66) pm62 i62_48 rfl (2 : Int32) c219 (by decide) rfl rfl ?_
        refine ev_aload_n pm62 i62_114 rfl rfl rfl ?_
        obtain ⟨x29, e30, hS⟩ := bn_s hS
        refine ev_getR pm62 i62_115 rfl rfl rfl e30 rfl ?_
        refine ev_iload_n pm62 i62_118 rfl rfl rfl ?_
        obtain ⟨x32, e31, hS⟩ := bn_s hS
        refine ev_callV (sa := [.int a1]) (rest := []) (st' := [.int x32]) (ls0 := [.ref x29, .int a1, unk, unk]) (rv := some (.int x32)) pm62 i62_119 rfl rfl pm66 (by decide) (K_st_liftUnder e31) rfl rfl (Nat.le_of_ble_eq_true rfl) (by omega) rfl (R_st_liftUnder (d - 1) (by omega) e31) (by simp) rfl rfl ?_
        cases hS
        exact ev_ireturn pm62 i62_122 rfl rfl rfl
      rw [if_neg c219] at hS
      by_cases c220 : a2 = (3 : Int32)
      · rw [if_pos c220] at hS
        refine ev_tabI (t := 123) (off := 75) pm62 i62_48 rfl (3 : Int32) c220 (by decide) rfl rfl ?_
        refine ev_aload_n pm62 i62_123 rfl rfl rfl ?_
        obtain ⟨x33, e34, hS⟩ := bn_s hS
        refine ev_getR pm62 i62_124 rfl rfl rfl e34 rfl ?_
        obtain ⟨x35, e36, hS⟩ := bn_s hS
        refine ev_getR pm62 i62_127 rfl rfl rfl e36 rfl ?_
        refine ev_iload_n pm62 i62_130 rfl rfl rfl ?_
        obtain ⟨x37, e38, hS⟩ := bn_s hS
        refine ev_iald pm62 i62_131 rfl e38 rfl ?_
        refine ev_sipush (v := 1000) pm62 i62_132 rfl (by decide) rfl ?_
        refine ev_b2 (f := fun x y => x + y) pm62 i62_135 rfl (fun _ _ _ _ => rfl) rfl ?_
        cases hS
        exact ev_ireturn pm62 i62_136 rfl rfl rfl
      rw [if_neg c220] at hS
      by_cases c221 : a2 = (4 : Int32)
      · rw [if_pos c221] at hS
        refine ev_tabI (t := 137) (off := 89) pm62 i62_48 rfl (4 : Int32) c221 (by decide) rfl rfl ?_
        refine ev_aload_n pm62 i62_137 rfl rfl rfl ?_
        obtain ⟨x39, e40, hS⟩ := bn_s hS
        refine ev_getR pm62 i62_138 rfl rfl rfl e40 rfl ?_
        obtain ⟨x41, e42, hS⟩ := bn_s hS
        refine ev_getR pm62 i62_141 rfl rfl rfl e42 rfl ?_
        refine ev_iload_n pm62 i62_144 rfl rfl rfl ?_
        obtain ⟨x43, e44, hS⟩ := bn_s hS
        refine ev_iald pm62 i62_145 rfl e44 rfl ?_
        cases hS
        exact ev_ireturn pm62 i62_146 rfl rfl rfl
      rw [if_neg c221] at hS
      cases hS
    · rw [if_neg c214] at hS
      refine ev_if_eq_f (t := 32) pm62 i62_27 rfl c214 rfl rfl ?_
      refine ev_iconst (v := -1) pm62 i62_30 rfl (by decide) rfl ?_
      cases hS
      exact ev_ireturn pm62 i62_31 rfl rfl rfl
  clear hS
  by_cases c213 : x2 = (0 : Int32)
  · rw [if_pos c213] at I213
    refine ev_if_ne_t (t := 18) pm62 i62_6 rfl c213 rfl rfl ?_
    refine ev_iload_n pm62 i62_9 rfl rfl rfl ?_
    refine ev_iconst (v := 0) pm62 i62_10 rfl (by decide) rfl ?_
    refine ev_iconst (v := 5) pm62 i62_11 rfl (by decide) rfl ?_
    obtain ⟨x4, e3, I213⟩ := bn_s I213
    refine ev_callS (sa := [.int (5 : Int32), .int (0 : Int32), .int a2]) (rest := [.ref a0]) (st' := [.int x4, .ref a0]) (ls0 := [.int a2, .int (0 : Int32), .int (5 : Int32)]) (rv := some (.int x4)) pm62 i62_12 rfl rfl pm17 (by decide) rfl rfl (Nat.le_of_ble_eq_true rfl) (by omega) rfl (R_cs_outside (d - 1) (by omega) e3) (by simp) rfl rfl ?_
    by_cases c222 : x4 = (0 : Int32)
    · rw [if_pos c222] at I213
      refine ev_if_eq_t (t := 22) pm62 i62_15 rfl c222 rfl rfl ?_
      refine ev_iconst (v := 0) pm62 i62_22 rfl (by decide) rfl ?_
      cases I213
      exact J1
    · rw [if_neg c222] at I213
      refine ev_if_eq_f (t := 22) pm62 i62_15 rfl c222 rfl rfl ?_
      refine ev_iconst (v := 1) pm62 i62_18 rfl (by decide) rfl ?_
      refine ev_goto (t := 23) pm62 i62_19 rfl rfl ?_
      cases I213
      exact J1
  · rw [if_neg c213] at I213
    refine ev_if_ne_f (t := 18) pm62 i62_6 rfl c213 rfl rfl ?_
    refine ev_iconst (v := 1) pm62 i62_18 rfl (by decide) rfl ?_
    refine ev_goto (t := 23) pm62 i62_19 rfl rfl ?_
    cases I213
    exact J1
def F_cs_noKind (a0 : Int32) : Option Int32 :=
  bn (F_cs_outside a0 (0 : Int32) (4 : Int32)) fun x2 =>
  if retV .boolean x2 = true then
    (some x2)
  else
    (none)
set_option maxRecDepth 20000 in
theorem R_cs_noKind (d : Nat) (hd : 1 ≤ d) {a0 : Int32} {h : Hp} {v : Int32} (hS : F_cs_noKind a0 = some v) : Ev P d 79 (0, [.int a0], [], h) (some (.int v), h) := by
  unfold F_cs_noKind at hS
  refine ev_iload_n pm79 i79_0 rfl rfl rfl ?_
  refine ev_iconst (v := 0) pm79 i79_1 rfl (by decide) rfl ?_
  refine ev_iconst (v := 4) pm79 i79_2 rfl (by decide) rfl ?_
  obtain ⟨x2, e1, hS⟩ := bn_s hS
  refine ev_callS (sa := [.int (4 : Int32), .int (0 : Int32), .int a0]) (rest := []) (st' := [.int x2]) (ls0 := [.int a0, .int (0 : Int32), .int (4 : Int32)]) (rv := some (.int x2)) pm79 i79_3 rfl rfl pm17 (by decide) rfl rfl (Nat.le_of_ble_eq_true rfl) (by omega) rfl (R_cs_outside (d - 1) (by omega) e1) (by simp) rfl rfl ?_
  by_cases c223 : retV .boolean x2 = true
  · rw [if_pos c223] at hS
    cases hS
    exact ev_ireturn pm79 i79_6 rfl c223 rfl
  · rw [if_neg c223] at hS
    cases hS
def F_cs_corks (a0 : Nat) (a1 : Int32) (a2 : Int32) (h : Hp) : Option (Int32 × Hp) :=
  ck h a0 11 (bn (F_cs_noHouse a0 a1 h) fun x2 =>
  bn (F_cs_noKind a2) fun x4 =>
  bd (F_cs_refused a0 x2 x4 h) fun x6 h7 =>
  if x6 = (0 : Int32) then
    (bn (gR h7 a0 11 4) fun x8 =>
    bn (gR h7 x8 8 0) fun x10 =>
    bn (aI h7 100 x10 ((a1 * (5 : Int32)) + a2)) fun x12 =>
    some (x12, h7))
  else
    (some ((-1 : Int32), h7)))
set_option maxRecDepth 20000 in
theorem K_cs_corks {a0 : Nat} {a1 : Int32} {a2 : Int32} {h : Hp} {v : Int32} {h' : Hp} (hS : F_cs_corks a0 a1 a2 h = some (v, h')) : kd h a0 = 11 := by
  unfold F_cs_corks at hS
  exact (ck_s hS).1
set_option maxRecDepth 20000 in
theorem R_cs_corks (d : Nat) (hd : 2 ≤ d) {a0 : Nat} {a1 : Int32} {a2 : Int32} {h : Hp} {v : Int32} {h' : Hp} (hS : F_cs_corks a0 a1 a2 h = some (v, h')) : Ev P d 78 (0, [.ref a0, .int a1, .int a2], [], h) (some (.int v), h') := by
  unfold F_cs_corks at hS
  replace hS := (ck_s hS).2
  refine ev_aload_n pm78 i78_0 rfl rfl rfl ?_
  refine ev_aload_n pm78 i78_1 rfl rfl rfl ?_
  refine ev_iload_n pm78 i78_2 rfl rfl rfl ?_
  obtain ⟨x2, e1, hS⟩ := bn_s hS
  refine ev_callV (sa := [.int a1]) (rest := [.ref a0]) (st' := [.int x2, .ref a0]) (ls0 := [.ref a0, .int a1]) (rv := some (.int x2)) pm78 i78_3 rfl rfl pm63 (by decide) (K_cs_noHouse e1) rfl rfl (Nat.le_of_ble_eq_true rfl) (by omega) rfl (R_cs_noHouse (d - 1) (by omega) e1) (by simp) rfl rfl ?_
  refine ev_iload_n pm78 i78_6 rfl rfl rfl ?_
  obtain ⟨x4, e3, hS⟩ := bn_s hS
  refine ev_callS (sa := [.int a2]) (rest := [.int x2, .ref a0]) (st' := [.int x4, .int x2, .ref a0]) (ls0 := [.int a2]) (rv := some (.int x4)) pm78 i78_7 rfl rfl pm79 (by decide) rfl rfl (Nat.le_of_ble_eq_true rfl) (by omega) rfl (R_cs_noKind (d - 1) (by omega) e3) (by simp) rfl rfl ?_
  obtain ⟨x6, h7, e5, hS⟩ := bd_s hS
  refine ev_callV (sa := [.int x4, .int x2]) (rest := []) (st' := [.int x6]) (ls0 := [.ref a0, .int x2, .int x4]) (rv := some (.int x6)) pm78 i78_10 rfl rfl pm18 (by decide) (K_cs_refused e5) rfl rfl (Nat.le_of_ble_eq_true rfl) (by omega) rfl (R_cs_refused (d - 1) (by omega) e5) (by simp) rfl rfl ?_
  by_cases c224 : x6 = (0 : Int32)
  · rw [if_pos c224] at hS
    refine ev_if_eq_t (t := 18) pm78 i78_13 rfl c224 rfl rfl ?_
    refine ev_aload_n pm78 i78_18 rfl rfl rfl ?_
    obtain ⟨x8, e9, hS⟩ := bn_s hS
    refine ev_getR pm78 i78_19 rfl rfl rfl e9 rfl ?_
    obtain ⟨x10, e11, hS⟩ := bn_s hS
    refine ev_getR pm78 i78_22 rfl rfl rfl e11 rfl ?_
    refine ev_iload_n pm78 i78_25 rfl rfl rfl ?_
    refine ev_iconst (v := 5) pm78 i78_26 rfl (by decide) rfl ?_
    refine ev_b2 (f := fun x y => x * y) pm78 i78_27 rfl (fun _ _ _ _ => rfl) rfl ?_
    refine ev_iload_n pm78 i78_28 rfl rfl rfl ?_
    refine ev_b2 (f := fun x y => x + y) pm78 i78_29 rfl (fun _ _ _ _ => rfl) rfl ?_
    obtain ⟨x12, e13, hS⟩ := bn_s hS
    refine ev_iald pm78 i78_30 rfl e13 rfl ?_
    cases hS
    exact ev_ireturn pm78 i78_31 rfl rfl rfl
  · rw [if_neg c224] at hS
    refine ev_if_eq_f (t := 18) pm78 i78_13 rfl c224 rfl rfl ?_
    refine ev_iconst (v := -1) pm78 i78_16 rfl (by decide) rfl ?_
    cases hS
    exact ev_ireturn pm78 i78_17 rfl rfl rfl
def F_cs_noGuest (a0 : Nat) (a1 : Int32) (h : Hp) : Option Int32 :=
  ck h a0 11 (bn (gR h a0 11 3) fun x1 =>
  bn (gI h x1 10 8) fun x3 =>
  bn (F_cs_outside a1 (0 : Int32) (x3 - (1 : Int32))) fun x6 =>
  if retV .boolean x6 = true then
    (some x6)
  else
    (none))
set_option maxRecDepth 20000 in
theorem K_cs_noGuest {a0 : Nat} {a1 : Int32} {h : Hp} {v : Int32} (hS : F_cs_noGuest a0 a1 h = some v) : kd h a0 = 11 := by
  unfold F_cs_noGuest at hS
  exact (ck_s hS).1
set_option maxRecDepth 20000 in
theorem R_cs_noGuest (d : Nat) (hd : 1 ≤ d) {a0 : Nat} {a1 : Int32} {h : Hp} {v : Int32} (hS : F_cs_noGuest a0 a1 h = some v) : Ev P d 81 (0, [.ref a0, .int a1], [], h) (some (.int v), h) := by
  unfold F_cs_noGuest at hS
  replace hS := (ck_s hS).2
  refine ev_iload_n pm81 i81_0 rfl rfl rfl ?_
  refine ev_iconst (v := 0) pm81 i81_1 rfl (by decide) rfl ?_
  refine ev_aload_n pm81 i81_2 rfl rfl rfl ?_
  obtain ⟨x1, e2, hS⟩ := bn_s hS
  refine ev_getR pm81 i81_3 rfl rfl rfl e2 rfl ?_
  obtain ⟨x3, e4, hS⟩ := bn_s hS
  refine ev_getI pm81 i81_6 rfl rfl (by decide) e4 rfl ?_
  refine ev_iconst (v := 1) pm81 i81_9 rfl (by decide) rfl ?_
  refine ev_b2 (f := fun x y => x - y) pm81 i81_10 rfl (fun _ _ _ _ => rfl) rfl ?_
  obtain ⟨x6, e5, hS⟩ := bn_s hS
  refine ev_callS (sa := [.int (x3 - (1 : Int32)), .int (0 : Int32), .int a1]) (rest := []) (st' := [.int x6]) (ls0 := [.int a1, .int (0 : Int32), .int (x3 - (1 : Int32))]) (rv := some (.int x6)) pm81 i81_11 rfl rfl pm17 (by decide) rfl rfl (Nat.le_of_ble_eq_true rfl) (by omega) rfl (R_cs_outside (d - 1) (by omega) e5) (by simp) rfl rfl ?_
  by_cases c225 : retV .boolean x6 = true
  · rw [if_pos c225] at hS
    cases hS
    exact ev_ireturn pm81 i81_14 rfl c225 rfl
  · rw [if_neg c225] at hS
    cases hS
def F_cs_guest (a0 : Nat) (a1 : Int32) (a2 : Int32) (h : Hp) : Option (Int32 × Hp) :=
  ck h a0 11 (bn (F_cs_noGuest a0 a1 h) fun x2 =>
  bn (if x2 = (0 : Int32) then
      (bn (F_cs_outside a2 (0 : Int32) (1 : Int32)) fun x4 =>
      if x4 = (0 : Int32) then
        (some (0 : Int32))
      else
        (some (1 : Int32)))
    else
      (some (1 : Int32))) fun q5 =>
  bd (F_cs_refused a0 q5 (0 : Int32) h) fun x7 h8 =>
  if x7 = (0 : Int32) then
    (if a2 = (0 : Int32) then
      (bn (gR h8 a0 11 3) fun x9 =>
      bn (gR h8 x9 10 9) fun x11 =>
      bn (aI h8 100 x11 a1) fun x13 =>
      some (x13, h8))
    else
      (bn (gR h8 a0 11 4) fun x15 =>
      bn (gR h8 x15 8 1) fun x17 =>
      bn (aI h8 100 x17 a1) fun x19 =>
      some (x19, h8)))
  else
    (some ((-1 : Int32), h8)))
set_option maxRecDepth 20000 in
theorem K_cs_guest {a0 : Nat} {a1 : Int32} {a2 : Int32} {h : Hp} {v : Int32} {h' : Hp} (hS : F_cs_guest a0 a1 a2 h = some (v, h')) : kd h a0 = 11 := by
  unfold F_cs_guest at hS
  exact (ck_s hS).1
set_option maxRecDepth 20000 in
theorem R_cs_guest (d : Nat) (hd : 2 ≤ d) {a0 : Nat} {a1 : Int32} {a2 : Int32} {h : Hp} {v : Int32} {h' : Hp} (hS : F_cs_guest a0 a1 a2 h = some (v, h')) : Ev P d 80 (0, [.ref a0, .int a1, .int a2], [], h) (some (.int v), h') := by
  unfold F_cs_guest at hS
  replace hS := (ck_s hS).2
  refine ev_aload_n pm80 i80_0 rfl rfl rfl ?_
  refine ev_aload_n pm80 i80_1 rfl rfl rfl ?_
  refine ev_iload_n pm80 i80_2 rfl rfl rfl ?_
  obtain ⟨x2, e1, hS⟩ := bn_s hS
  refine ev_callV (sa := [.int a1]) (rest := [.ref a0]) (st' := [.int x2, .ref a0]) (ls0 := [.ref a0, .int a1]) (rv := some (.int x2)) pm80 i80_3 rfl rfl pm81 (by decide) (K_cs_noGuest e1) rfl rfl (Nat.le_of_ble_eq_true rfl) (by omega) rfl (R_cs_noGuest (d - 1) (by omega) e1) (by simp) rfl rfl ?_
  obtain ⟨q5, I226, hS⟩ := bn_s hS
  have J1 : Ev P d 80 (23, [.ref a0, .int a1, .int a2], [.int q5, .ref a0], h) (some (.int v), h') := by
    refine ev_iconst (v := 0) pm80 i80_23 rfl (by decide) rfl ?_
    obtain ⟨x7, h8, e6, hS⟩ := bd_s hS
    refine ev_callV (sa := [.int (0 : Int32), .int q5]) (rest := []) (st' := [.int x7]) (ls0 := [.ref a0, .int q5, .int (0 : Int32)]) (rv := some (.int x7)) pm80 i80_24 rfl rfl pm18 (by decide) (K_cs_refused e6) rfl rfl (Nat.le_of_ble_eq_true rfl) (by omega) rfl (R_cs_refused (d - 1) (by omega) e6) (by simp) rfl rfl ?_
    by_cases c227 : x7 = (0 : Int32)
    · rw [if_pos c227] at hS
      refine ev_if_eq_t (t := 32) pm80 i80_27 rfl c227 rfl rfl ?_
      refine ev_iload_n pm80 i80_32 rfl rfl rfl ?_
      by_cases c228 : a2 = (0 : Int32)
      · rw [if_pos c228] at hS
        refine ev_if_ne_t (t := 48) pm80 i80_33 rfl c228 rfl rfl ?_
        refine ev_aload_n pm80 i80_36 rfl rfl rfl ?_
        obtain ⟨x9, e10, hS⟩ := bn_s hS
        refine ev_getR pm80 i80_37 rfl rfl rfl e10 rfl ?_
        obtain ⟨x11, e12, hS⟩ := bn_s hS
        refine ev_getR pm80 i80_40 rfl rfl rfl e12 rfl ?_
        refine ev_iload_n pm80 i80_43 rfl rfl rfl ?_
        obtain ⟨x13, e14, hS⟩ := bn_s hS
        refine ev_iald pm80 i80_44 rfl e14 rfl ?_
        refine ev_goto (t := 57) pm80 i80_45 rfl rfl ?_
        refine ev_kls (ls' := [unk, unk, unk]) pm80 i80_57 rfl rfl ?_
        cases hS
        exact ev_ireturn pm80 i80_57 rfl rfl rfl
      · rw [if_neg c228] at hS
        refine ev_if_ne_f (t := 48) pm80 i80_33 rfl c228 rfl rfl ?_
        refine ev_aload_n pm80 i80_48 rfl rfl rfl ?_
        obtain ⟨x15, e16, hS⟩ := bn_s hS
        refine ev_getR pm80 i80_49 rfl rfl rfl e16 rfl ?_
        obtain ⟨x17, e18, hS⟩ := bn_s hS
        refine ev_getR pm80 i80_52 rfl rfl rfl e18 rfl ?_
        refine ev_iload_n pm80 i80_55 rfl rfl rfl ?_
        obtain ⟨x19, e20, hS⟩ := bn_s hS
        refine ev_iald pm80 i80_56 rfl e20 rfl ?_
        refine ev_kls (ls' := [unk, unk, unk]) pm80 i80_57 rfl rfl ?_
        cases hS
        exact ev_ireturn pm80 i80_57 rfl rfl rfl
    · rw [if_neg c227] at hS
      refine ev_if_eq_f (t := 32) pm80 i80_27 rfl c227 rfl rfl ?_
      refine ev_iconst (v := -1) pm80 i80_30 rfl (by decide) rfl ?_
      cases hS
      exact ev_ireturn pm80 i80_31 rfl rfl rfl
  clear hS
  by_cases c226 : x2 = (0 : Int32)
  · rw [if_pos c226] at I226
    refine ev_if_ne_t (t := 18) pm80 i80_6 rfl c226 rfl rfl ?_
    refine ev_iload_n pm80 i80_9 rfl rfl rfl ?_
    refine ev_iconst (v := 0) pm80 i80_10 rfl (by decide) rfl ?_
    refine ev_iconst (v := 1) pm80 i80_11 rfl (by decide) rfl ?_
    obtain ⟨x4, e3, I226⟩ := bn_s I226
    refine ev_callS (sa := [.int (1 : Int32), .int (0 : Int32), .int a2]) (rest := [.ref a0]) (st' := [.int x4, .ref a0]) (ls0 := [.int a2, .int (0 : Int32), .int (1 : Int32)]) (rv := some (.int x4)) pm80 i80_12 rfl rfl pm17 (by decide) rfl rfl (Nat.le_of_ble_eq_true rfl) (by omega) rfl (R_cs_outside (d - 1) (by omega) e3) (by simp) rfl rfl ?_
    by_cases c229 : x4 = (0 : Int32)
    · rw [if_pos c229] at I226
      refine ev_if_eq_t (t := 22) pm80 i80_15 rfl c229 rfl rfl ?_
      refine ev_iconst (v := 0) pm80 i80_22 rfl (by decide) rfl ?_
      cases I226
      exact J1
    · rw [if_neg c229] at I226
      refine ev_if_eq_f (t := 22) pm80 i80_15 rfl c229 rfl rfl ?_
      refine ev_iconst (v := 1) pm80 i80_18 rfl (by decide) rfl ?_
      refine ev_goto (t := 23) pm80 i80_19 rfl rfl ?_
      cases I226
      exact J1
  · rw [if_neg c226] at I226
    refine ev_if_ne_f (t := 18) pm80 i80_6 rfl c226 rfl rfl ?_
    refine ev_iconst (v := 1) pm80 i80_18 rfl (by decide) rfl ?_
    refine ev_goto (t := 23) pm80 i80_19 rfl rfl ?_
    cases I226
    exact J1
def F_cs_noRope (a0 : Nat) (a1 : Int32) (h : Hp) : Option Int32 :=
  ck h a0 11 (bn (gR h a0 11 3) fun x1 =>
  bn (gI h x1 10 5) fun x3 =>
  bn (F_cs_outside a1 (0 : Int32) (x3 - (1 : Int32))) fun x6 =>
  if retV .boolean x6 = true then
    (some x6)
  else
    (none))
set_option maxRecDepth 20000 in
theorem K_cs_noRope {a0 : Nat} {a1 : Int32} {h : Hp} {v : Int32} (hS : F_cs_noRope a0 a1 h = some v) : kd h a0 = 11 := by
  unfold F_cs_noRope at hS
  exact (ck_s hS).1
set_option maxRecDepth 20000 in
theorem R_cs_noRope (d : Nat) (hd : 1 ≤ d) {a0 : Nat} {a1 : Int32} {h : Hp} {v : Int32} (hS : F_cs_noRope a0 a1 h = some v) : Ev P d 83 (0, [.ref a0, .int a1], [], h) (some (.int v), h) := by
  unfold F_cs_noRope at hS
  replace hS := (ck_s hS).2
  refine ev_iload_n pm83 i83_0 rfl rfl rfl ?_
  refine ev_iconst (v := 0) pm83 i83_1 rfl (by decide) rfl ?_
  refine ev_aload_n pm83 i83_2 rfl rfl rfl ?_
  obtain ⟨x1, e2, hS⟩ := bn_s hS
  refine ev_getR pm83 i83_3 rfl rfl rfl e2 rfl ?_
  obtain ⟨x3, e4, hS⟩ := bn_s hS
  refine ev_getI pm83 i83_6 rfl rfl (by decide) e4 rfl ?_
  refine ev_iconst (v := 1) pm83 i83_9 rfl (by decide) rfl ?_
  refine ev_b2 (f := fun x y => x - y) pm83 i83_10 rfl (fun _ _ _ _ => rfl) rfl ?_
  obtain ⟨x6, e5, hS⟩ := bn_s hS
  refine ev_callS (sa := [.int (x3 - (1 : Int32)), .int (0 : Int32), .int a1]) (rest := []) (st' := [.int x6]) (ls0 := [.int a1, .int (0 : Int32), .int (x3 - (1 : Int32))]) (rv := some (.int x6)) pm83 i83_11 rfl rfl pm17 (by decide) rfl rfl (Nat.le_of_ble_eq_true rfl) (by omega) rfl (R_cs_outside (d - 1) (by omega) e5) (by simp) rfl rfl ?_
  by_cases c230 : retV .boolean x6 = true
  · rw [if_pos c230] at hS
    cases hS
    exact ev_ireturn pm83 i83_14 rfl c230 rfl
  · rw [if_neg c230] at hS
    cases hS
def F_st_isTied (a0 : Nat) (a1 : Int32) (h : Hp) : Option Int32 :=
  ck h a0 8 (bn (gI h a0 8 2) fun x1 =>
  if ((x1 >>> (a1 &&& 31)) &&& (1 : Int32)) = (0 : Int32) then
    (some (0 : Int32))
  else
    (some (1 : Int32)))
set_option maxRecDepth 20000 in
theorem K_st_isTied {a0 : Nat} {a1 : Int32} {h : Hp} {v : Int32} (hS : F_st_isTied a0 a1 h = some v) : kd h a0 = 8 := by
  unfold F_st_isTied at hS
  exact (ck_s hS).1
set_option maxRecDepth 20000 in
theorem R_st_isTied (d : Nat) (hd : 0 ≤ d) {a0 : Nat} {a1 : Int32} {h : Hp} {v : Int32} (hS : F_st_isTied a0 a1 h = some v) : Ev P d 84 (0, [.ref a0, .int a1], [], h) (some (.int v), h) := by
  unfold F_st_isTied at hS
  replace hS := (ck_s hS).2
  refine ev_aload_n pm84 i84_0 rfl rfl rfl ?_
  obtain ⟨x1, e2, hS⟩ := bn_s hS
  refine ev_getI pm84 i84_1 rfl rfl (by decide) e2 rfl ?_
  refine ev_iload_n pm84 i84_4 rfl rfl rfl ?_
  refine ev_b2 (f := fun x y => x >>> (y &&& 31)) pm84 i84_5 rfl (fun _ _ _ _ => rfl) rfl ?_
  refine ev_iconst (v := 1) pm84 i84_6 rfl (by decide) rfl ?_
  refine ev_b2 (f := fun x y => x &&& y) pm84 i84_7 rfl (fun _ _ _ _ => rfl) rfl ?_
  by_cases c231 : ((x1 >>> (a1 &&& 31)) &&& (1 : Int32)) = (0 : Int32)
  · rw [if_pos c231] at hS
    refine ev_if_eq_t (t := 15) pm84 i84_8 rfl c231 rfl rfl ?_
    refine ev_iconst (v := 0) pm84 i84_15 rfl (by decide) rfl ?_
    refine ev_kls (ls' := [unk, unk]) pm84 i84_16 rfl rfl ?_
    cases hS
    exact ev_ireturn pm84 i84_16 rfl (by decide) rfl
  · rw [if_neg c231] at hS
    refine ev_if_eq_f (t := 15) pm84 i84_8 rfl c231 rfl rfl ?_
    refine ev_iconst (v := 1) pm84 i84_11 rfl (by decide) rfl ?_
    refine ev_goto (t := 16) pm84 i84_12 rfl rfl ?_
    refine ev_kls (ls' := [unk, unk]) pm84 i84_16 rfl rfl ?_
    cases hS
    exact ev_ireturn pm84 i84_16 rfl (by decide) rfl
def F_cs_rope (a0 : Nat) (a1 : Int32) (a2 : Int32) (h : Hp) : Option (Int32 × Hp) :=
  ck h a0 11 (bn (F_cs_noRope a0 a1 h) fun x2 =>
  bn (if x2 = (0 : Int32) then
      (bn (F_cs_outside a2 (0 : Int32) (2 : Int32)) fun x4 =>
      if x4 = (0 : Int32) then
        (some (0 : Int32))
      else
        (some (1 : Int32)))
    else
      (some (1 : Int32))) fun q5 =>
  bd (F_cs_refused a0 q5 (0 : Int32) h) fun x7 h8 =>
  if x7 = (0 : Int32) then
    (if a2 = (2 : Int32) then
      (bn (gR h8 a0 11 4) fun x9 =>
      bn (F_st_isTied x9 a1 h8) fun x12 =>
      if x12 = (0 : Int32) then
        (some ((0 : Int32), h8))
      else
        (some ((1 : Int32), h8)))
    else
      (if a2 = (0 : Int32) then
        (bn (gR h8 a0 11 3) fun x13 =>
        bn (gR h8 x13 10 6) fun x15 =>
        bn (aI h8 100 x15 a1) fun x17 =>
        some (x17, h8))
      else
        (bn (gR h8 a0 11 3) fun x19 =>
        bn (gR h8 x19 10 7) fun x21 =>
        bn (aI h8 100 x21 a1) fun x23 =>
        some (x23, h8))))
  else
    (some ((-1 : Int32), h8)))
set_option maxRecDepth 20000 in
theorem K_cs_rope {a0 : Nat} {a1 : Int32} {a2 : Int32} {h : Hp} {v : Int32} {h' : Hp} (hS : F_cs_rope a0 a1 a2 h = some (v, h')) : kd h a0 = 11 := by
  unfold F_cs_rope at hS
  exact (ck_s hS).1
set_option maxRecDepth 20000 in
theorem R_cs_rope (d : Nat) (hd : 2 ≤ d) {a0 : Nat} {a1 : Int32} {a2 : Int32} {h : Hp} {v : Int32} {h' : Hp} (hS : F_cs_rope a0 a1 a2 h = some (v, h')) : Ev P d 82 (0, [.ref a0, .int a1, .int a2], [], h) (some (.int v), h') := by
  unfold F_cs_rope at hS
  replace hS := (ck_s hS).2
  refine ev_aload_n pm82 i82_0 rfl rfl rfl ?_
  refine ev_aload_n pm82 i82_1 rfl rfl rfl ?_
  refine ev_iload_n pm82 i82_2 rfl rfl rfl ?_
  obtain ⟨x2, e1, hS⟩ := bn_s hS
  refine ev_callV (sa := [.int a1]) (rest := [.ref a0]) (st' := [.int x2, .ref a0]) (ls0 := [.ref a0, .int a1]) (rv := some (.int x2)) pm82 i82_3 rfl rfl pm83 (by decide) (K_cs_noRope e1) rfl rfl (Nat.le_of_ble_eq_true rfl) (by omega) rfl (R_cs_noRope (d - 1) (by omega) e1) (by simp) rfl rfl ?_
  obtain ⟨q5, I232, hS⟩ := bn_s hS
  have J1 : Ev P d 82 (23, [.ref a0, .int a1, .int a2], [.int q5, .ref a0], h) (some (.int v), h') := by
    refine ev_iconst (v := 0) pm82 i82_23 rfl (by decide) rfl ?_
    obtain ⟨x7, h8, e6, hS⟩ := bd_s hS
    refine ev_callV (sa := [.int (0 : Int32), .int q5]) (rest := []) (st' := [.int x7]) (ls0 := [.ref a0, .int q5, .int (0 : Int32)]) (rv := some (.int x7)) pm82 i82_24 rfl rfl pm18 (by decide) (K_cs_refused e6) rfl rfl (Nat.le_of_ble_eq_true rfl) (by omega) rfl (R_cs_refused (d - 1) (by omega) e6) (by simp) rfl rfl ?_
    by_cases c233 : x7 = (0 : Int32)
    · rw [if_pos c233] at hS
      refine ev_if_eq_t (t := 32) pm82 i82_27 rfl c233 rfl rfl ?_
      refine ev_iload_n pm82 i82_32 rfl rfl rfl ?_
      refine ev_iconst (v := 2) pm82 i82_33 rfl (by decide) rfl ?_
      by_cases c234 : a2 = (2 : Int32)
      · rw [if_pos c234] at hS
        refine ev_icmp_ne_t (t := 54) pm82 i82_34 rfl c234 rfl rfl ?_
        refine ev_aload_n pm82 i82_37 rfl rfl rfl ?_
        obtain ⟨x9, e10, hS⟩ := bn_s hS
        refine ev_getR pm82 i82_38 rfl rfl rfl e10 rfl ?_
        refine ev_iload_n pm82 i82_41 rfl rfl rfl ?_
        obtain ⟨x12, e11, hS⟩ := bn_s hS
        refine ev_callV (sa := [.int a1]) (rest := []) (st' := [.int x12]) (ls0 := [.ref x9, .int a1]) (rv := some (.int x12)) pm82 i82_42 rfl rfl pm84 (by decide) (K_st_isTied e11) rfl rfl (Nat.le_of_ble_eq_true rfl) (by omega) rfl (R_st_isTied (d - 1) (by omega) e11) (by simp) rfl rfl ?_
        by_cases c235 : x12 = (0 : Int32)
        · rw [if_pos c235] at hS
          refine ev_if_eq_t (t := 52) pm82 i82_45 rfl c235 rfl rfl ?_
          refine ev_iconst (v := 0) pm82 i82_52 rfl (by decide) rfl ?_
          refine ev_kls (ls' := [unk, unk, unk]) pm82 i82_53 rfl rfl ?_
          cases hS
          exact ev_ireturn pm82 i82_53 rfl rfl rfl
        · rw [if_neg c235] at hS
          refine ev_if_eq_f (t := 52) pm82 i82_45 rfl c235 rfl rfl ?_
          refine ev_iconst (v := 1) pm82 i82_48 rfl (by decide) rfl ?_
          refine ev_goto (t := 53) pm82 i82_49 rfl rfl ?_
          refine ev_kls (ls' := [unk, unk, unk]) pm82 i82_53 rfl rfl ?_
          cases hS
          exact ev_ireturn pm82 i82_53 rfl rfl rfl
      · rw [if_neg c234] at hS
        refine ev_icmp_ne_f (t := 54) pm82 i82_34 rfl c234 rfl rfl ?_
        refine ev_iload_n pm82 i82_54 rfl rfl rfl ?_
        by_cases c236 : a2 = (0 : Int32)
        · rw [if_pos c236] at hS
          refine ev_if_ne_t (t := 70) pm82 i82_55 rfl c236 rfl rfl ?_
          refine ev_aload_n pm82 i82_58 rfl rfl rfl ?_
          obtain ⟨x13, e14, hS⟩ := bn_s hS
          refine ev_getR pm82 i82_59 rfl rfl rfl e14 rfl ?_
          obtain ⟨x15, e16, hS⟩ := bn_s hS
          refine ev_getR pm82 i82_62 rfl rfl rfl e16 rfl ?_
          refine ev_iload_n pm82 i82_65 rfl rfl rfl ?_
          obtain ⟨x17, e18, hS⟩ := bn_s hS
          refine ev_iald pm82 i82_66 rfl e18 rfl ?_
          refine ev_goto (t := 79) pm82 i82_67 rfl rfl ?_
          refine ev_kls (ls' := [unk, unk, unk]) pm82 i82_79 rfl rfl ?_
          cases hS
          exact ev_ireturn pm82 i82_79 rfl rfl rfl
        · rw [if_neg c236] at hS
          refine ev_if_ne_f (t := 70) pm82 i82_55 rfl c236 rfl rfl ?_
          refine ev_aload_n pm82 i82_70 rfl rfl rfl ?_
          obtain ⟨x19, e20, hS⟩ := bn_s hS
          refine ev_getR pm82 i82_71 rfl rfl rfl e20 rfl ?_
          obtain ⟨x21, e22, hS⟩ := bn_s hS
          refine ev_getR pm82 i82_74 rfl rfl rfl e22 rfl ?_
          refine ev_iload_n pm82 i82_77 rfl rfl rfl ?_
          obtain ⟨x23, e24, hS⟩ := bn_s hS
          refine ev_iald pm82 i82_78 rfl e24 rfl ?_
          refine ev_kls (ls' := [unk, unk, unk]) pm82 i82_79 rfl rfl ?_
          cases hS
          exact ev_ireturn pm82 i82_79 rfl rfl rfl
    · rw [if_neg c233] at hS
      refine ev_if_eq_f (t := 32) pm82 i82_27 rfl c233 rfl rfl ?_
      refine ev_iconst (v := -1) pm82 i82_30 rfl (by decide) rfl ?_
      cases hS
      exact ev_ireturn pm82 i82_31 rfl rfl rfl
  clear hS
  by_cases c232 : x2 = (0 : Int32)
  · rw [if_pos c232] at I232
    refine ev_if_ne_t (t := 18) pm82 i82_6 rfl c232 rfl rfl ?_
    refine ev_iload_n pm82 i82_9 rfl rfl rfl ?_
    refine ev_iconst (v := 0) pm82 i82_10 rfl (by decide) rfl ?_
    refine ev_iconst (v := 2) pm82 i82_11 rfl (by decide) rfl ?_
    obtain ⟨x4, e3, I232⟩ := bn_s I232
    refine ev_callS (sa := [.int (2 : Int32), .int (0 : Int32), .int a2]) (rest := [.ref a0]) (st' := [.int x4, .ref a0]) (ls0 := [.int a2, .int (0 : Int32), .int (2 : Int32)]) (rv := some (.int x4)) pm82 i82_12 rfl rfl pm17 (by decide) rfl rfl (Nat.le_of_ble_eq_true rfl) (by omega) rfl (R_cs_outside (d - 1) (by omega) e3) (by simp) rfl rfl ?_
    by_cases c237 : x4 = (0 : Int32)
    · rw [if_pos c237] at I232
      refine ev_if_eq_t (t := 22) pm82 i82_15 rfl c237 rfl rfl ?_
      refine ev_iconst (v := 0) pm82 i82_22 rfl (by decide) rfl ?_
      cases I232
      exact J1
    · rw [if_neg c237] at I232
      refine ev_if_eq_f (t := 22) pm82 i82_15 rfl c237 rfl rfl ?_
      refine ev_iconst (v := 1) pm82 i82_18 rfl (by decide) rfl ?_
      refine ev_goto (t := 23) pm82 i82_19 rfl rfl ?_
      cases I232
      exact J1
  · rw [if_neg c232] at I232
    refine ev_if_ne_f (t := 18) pm82 i82_6 rfl c232 rfl rfl ?_
    refine ev_iconst (v := 1) pm82 i82_18 rfl (by decide) rfl ?_
    refine ev_goto (t := 23) pm82 i82_19 rfl rfl ?_
    cases I232
    exact J1
def F_cs_noLake (a0 : Nat) (h : Hp) : Option Int32 :=
  ck h a0 11 (bn (gR h a0 11 3) fun x1 =>
  bn (gI h x1 10 1) fun x3 =>
  if x3 = (0 : Int32) then
    (some (1 : Int32))
  else
    (some (0 : Int32)))
set_option maxRecDepth 20000 in
theorem K_cs_noLake {a0 : Nat} {h : Hp} {v : Int32} (hS : F_cs_noLake a0 h = some v) : kd h a0 = 11 := by
  unfold F_cs_noLake at hS
  exact (ck_s hS).1
set_option maxRecDepth 20000 in
theorem R_cs_noLake (d : Nat) (hd : 0 ≤ d) {a0 : Nat} {h : Hp} {v : Int32} (hS : F_cs_noLake a0 h = some v) : Ev P d 86 (0, [.ref a0], [], h) (some (.int v), h) := by
  unfold F_cs_noLake at hS
  replace hS := (ck_s hS).2
  refine ev_aload_n pm86 i86_0 rfl rfl rfl ?_
  obtain ⟨x1, e2, hS⟩ := bn_s hS
  refine ev_getR pm86 i86_1 rfl rfl rfl e2 rfl ?_
  obtain ⟨x3, e4, hS⟩ := bn_s hS
  refine ev_getI pm86 i86_4 rfl rfl (by decide) e4 rfl ?_
  by_cases c238 : x3 = (0 : Int32)
  · rw [if_pos c238] at hS
    refine ev_if_ne_t (t := 14) pm86 i86_7 rfl c238 rfl rfl ?_
    refine ev_iconst (v := 1) pm86 i86_10 rfl (by decide) rfl ?_
    refine ev_goto (t := 15) pm86 i86_11 rfl rfl ?_
    refine ev_kls (ls' := [unk]) pm86 i86_15 rfl rfl ?_
    cases hS
    exact ev_ireturn pm86 i86_15 rfl (by decide) rfl
  · rw [if_neg c238] at hS
    refine ev_if_ne_f (t := 14) pm86 i86_7 rfl c238 rfl rfl ?_
    refine ev_iconst (v := 0) pm86 i86_14 rfl (by decide) rfl ?_
    refine ev_kls (ls' := [unk]) pm86 i86_15 rfl rfl ?_
    cases hS
    exact ev_ireturn pm86 i86_15 rfl (by decide) rfl
def B_ra_underBits_4 (l0 : Nat) (h : Hp) (s : Int32 × Int32) : Option ((Int32 × Int32) ⊕ (Int32)) :=
  bn (gI h l0 6 0) fun x1 =>
  if s.2 < x1 then
    (bn (gR h l0 6 3) fun x3 =>
    bn (aI h 100 x3 s.2) fun x5 =>
    if x5 < (0 : Int32) then
      (some (.inl (s.1 ||| ((1 : Int32) <<< (s.2 &&& 31)), s.2 + (1 : Int32))))
    else
      (some (.inl (s.1, s.2 + (1 : Int32)))))
  else
    (some (.inr s.1))
set_option maxRecDepth 20000 in
theorem L_ra_underBits_4 (d : Nat) (hd : 0 ≤ d) {l0 : Nat} {h : Hp} : ∀ (n : Nat) (s : Int32 × Int32) (x : Int32), lq (B_ra_underBits_4 l0 h) n s = some x → ∀ r, Ev P d 87 (33, [unk, .int x, unk], [], h) r → Ev P d 87 (4, [.ref l0, .int s.1, .int s.2], [], h) r := by
  refine lq_ev (G0 := fun (s : Int32 × Int32) r => Ev P d 87 (4, [.ref l0, .int s.1, .int s.2], [], h) r) (X := fun (x : Int32) r => Ev P d 87 (33, [unk, .int x, unk], [], h) r) ?_
  intro s y hS r hK
  unfold B_ra_underBits_4 at hS
  show Ev P d 87 (4, [.ref l0, .int s.1, .int s.2], [], h) r
  refine ev_iload_n pm87 i87_4 rfl rfl rfl ?_
  refine ev_aload_n pm87 i87_5 rfl rfl rfl ?_
  obtain ⟨x1, e2, hS⟩ := bn_s hS
  refine ev_getI pm87 i87_6 rfl rfl (by decide) e2 rfl ?_
  by_cases c239 : s.2 < x1
  · rw [if_pos c239] at hS
    refine ev_icmp_ge_t (t := 33) pm87 i87_9 rfl c239 rfl rfl ?_
    refine ev_aload_n pm87 i87_12 rfl rfl rfl ?_
    obtain ⟨x3, e4, hS⟩ := bn_s hS
    refine ev_getR pm87 i87_13 rfl rfl rfl e4 rfl ?_
    refine ev_iload_n pm87 i87_16 rfl rfl rfl ?_
    obtain ⟨x5, e6, hS⟩ := bn_s hS
    refine ev_iald pm87 i87_17 rfl e6 rfl ?_
    by_cases c240 : x5 < (0 : Int32)
    · rw [if_pos c240] at hS
      refine ev_if_ge_t (t := 27) pm87 i87_18 rfl c240 rfl rfl ?_
      refine ev_iload_n pm87 i87_21 rfl rfl rfl ?_
      refine ev_iconst (v := 1) pm87 i87_22 rfl (by decide) rfl ?_
      refine ev_iload_n pm87 i87_23 rfl rfl rfl ?_
      refine ev_b2 (f := fun x y => x <<< (y &&& 31)) pm87 i87_24 rfl (fun _ _ _ _ => rfl) rfl ?_
      refine ev_b2 (f := fun x y => x ||| y) pm87 i87_25 rfl (fun _ _ _ _ => rfl) rfl ?_
      refine ev_istore_n (ls' := [.ref l0, .int (s.1 ||| ((1 : Int32) <<< (s.2 &&& 31))), .int s.2]) pm87 i87_26 rfl (Nat.le_of_ble_eq_true rfl) rfl rfl ?_
      refine ev_iinc (v := 1) (ls' := [.ref l0, .int (s.1 ||| ((1 : Int32) <<< (s.2 &&& 31))), .int (s.2 + (1 : Int32))]) pm87 i87_27 rfl rfl (by decide) rfl rfl ?_
      refine ev_goto (t := 4) pm87 i87_30 rfl rfl ?_
      cases hS
      exact hK
    · rw [if_neg c240] at hS
      refine ev_if_ge_f (t := 27) pm87 i87_18 rfl c240 rfl rfl ?_
      refine ev_iinc (v := 1) (ls' := [.ref l0, .int s.1, .int (s.2 + (1 : Int32))]) pm87 i87_27 rfl rfl (by decide) rfl rfl ?_
      refine ev_goto (t := 4) pm87 i87_30 rfl rfl ?_
      cases hS
      exact hK
  · rw [if_neg c239] at hS
    refine ev_icmp_ge_f (t := 33) pm87 i87_9 rfl c239 rfl rfl ?_
    refine ev_kls (ls' := [unk, .int s.1, unk]) pm87 i87_33 rfl rfl ?_
    cases hS
    exact hK
def F_ra_underBits (a0 : Nat) (h : Hp) : Option Int32 :=
  ck h a0 6 (bn (lq (B_ra_underBits_4 a0 h) FU ((0 : Int32), (0 : Int32))) fun x7 =>
  some x7)
set_option maxRecDepth 20000 in
theorem K_ra_underBits {a0 : Nat} {h : Hp} {v : Int32} (hS : F_ra_underBits a0 h = some v) : kd h a0 = 6 := by
  unfold F_ra_underBits at hS
  exact (ck_s hS).1
set_option maxRecDepth 20000 in
theorem R_ra_underBits (d : Nat) (hd : 0 ≤ d) {a0 : Nat} {h : Hp} {v : Int32} (hS : F_ra_underBits a0 h = some v) : Ev P d 87 (0, [.ref a0, unk, unk], [], h) (some (.int v), h) := by
  unfold F_ra_underBits at hS
  replace hS := (ck_s hS).2
  refine ev_iconst (v := 0) pm87 i87_0 rfl (by decide) rfl ?_
  refine ev_istore_n (ls' := [.ref a0, .int (0 : Int32), unk]) pm87 i87_1 rfl (Nat.le_of_ble_eq_true rfl) rfl rfl ?_
  refine ev_iconst (v := 0) pm87 i87_2 rfl (by decide) rfl ?_
  refine ev_istore_n (ls' := [.ref a0, .int (0 : Int32), .int (0 : Int32)]) pm87 i87_3 rfl (Nat.le_of_ble_eq_true rfl) rfl rfl ?_
  obtain ⟨x7, e8, hS⟩ := bn_s hS
  refine L_ra_underBits_4 d (by omega) _ _ _ e8 _ ?_
  show Ev P d 87 (33, [unk, .int x7, unk], [], h) _
  refine ev_iload_n pm87 i87_33 rfl rfl rfl ?_
  cases hS
  exact ev_ireturn pm87 i87_34 rfl rfl rfl
def F_cs_under (a0 : Nat) (h : Hp) : Option (Int32 × Hp) :=
  ck h a0 11 (bn (F_cs_noLake a0 h) fun x2 =>
  bd (F_cs_refused a0 x2 (0 : Int32) h) fun x4 h5 =>
  if x4 = (0 : Int32) then
    (bn (gR h5 a0 11 6) fun x6 =>
    bn (gR h5 a0 11 3) fun x8 =>
    bn (gR h5 a0 11 4) fun x10 =>
    bn (F_ra_measure x6 x8 x10 h5) fun h13 =>
    bn (gR h13 a0 11 6) fun x14 =>
    bn (F_ra_underBits x14 h13) fun x17 =>
    some (x17, h13))
  else
    (some ((-1 : Int32), h5)))
set_option maxRecDepth 20000 in
theorem K_cs_under {a0 : Nat} {h : Hp} {v : Int32} {h' : Hp} (hS : F_cs_under a0 h = some (v, h')) : kd h a0 = 11 := by
  unfold F_cs_under at hS
  exact (ck_s hS).1
set_option maxRecDepth 20000 in
theorem R_cs_under (d : Nat) (hd : 4 ≤ d) {a0 : Nat} {h : Hp} {v : Int32} {h' : Hp} (hS : F_cs_under a0 h = some (v, h')) : Ev P d 85 (0, [.ref a0], [], h) (some (.int v), h') := by
  unfold F_cs_under at hS
  replace hS := (ck_s hS).2
  refine ev_aload_n pm85 i85_0 rfl rfl rfl ?_
  refine ev_aload_n pm85 i85_1 rfl rfl rfl ?_
  obtain ⟨x2, e1, hS⟩ := bn_s hS
  refine ev_callV (sa := []) (rest := [.ref a0]) (st' := [.int x2, .ref a0]) (ls0 := [.ref a0]) (rv := some (.int x2)) pm85 i85_2 rfl rfl pm86 (by decide) (K_cs_noLake e1) rfl rfl (Nat.le_of_ble_eq_true rfl) (by omega) rfl (R_cs_noLake (d - 1) (by omega) e1) (by simp) rfl rfl ?_
  refine ev_iconst (v := 0) pm85 i85_5 rfl (by decide) rfl ?_
  obtain ⟨x4, h5, e3, hS⟩ := bd_s hS
  refine ev_callV (sa := [.int (0 : Int32), .int x2]) (rest := []) (st' := [.int x4]) (ls0 := [.ref a0, .int x2, .int (0 : Int32)]) (rv := some (.int x4)) pm85 i85_6 rfl rfl pm18 (by decide) (K_cs_refused e3) rfl rfl (Nat.le_of_ble_eq_true rfl) (by omega) rfl (R_cs_refused (d - 1) (by omega) e3) (by simp) rfl rfl ?_
  by_cases c241 : x4 = (0 : Int32)
  · rw [if_pos c241] at hS
    refine ev_if_eq_t (t := 14) pm85 i85_9 rfl c241 rfl rfl ?_
    refine ev_aload_n pm85 i85_14 rfl rfl rfl ?_
    obtain ⟨x6, e7, hS⟩ := bn_s hS
    refine ev_getR pm85 i85_15 rfl rfl rfl e7 rfl ?_
    refine ev_aload_n pm85 i85_18 rfl rfl rfl ?_
    obtain ⟨x8, e9, hS⟩ := bn_s hS
    refine ev_getR pm85 i85_19 rfl rfl rfl e9 rfl ?_
    refine ev_aload_n pm85 i85_22 rfl rfl rfl ?_
    obtain ⟨x10, e11, hS⟩ := bn_s hS
    refine ev_getR pm85 i85_23 rfl rfl rfl e11 rfl ?_
    obtain ⟨h13, e12, hS⟩ := bn_s hS
    refine ev_callV (sa := [.ref x10, .ref x8]) (rest := []) (st' := []) (ls0 := [.ref x6, .ref x8, .ref x10]) (rv := none) pm85 i85_26 rfl rfl pm64 (by decide) (K_ra_measure e12) rfl rfl (Nat.le_of_ble_eq_true rfl) (by omega) rfl (R_ra_measure (d - 1) (by omega) e12) (by simp) rfl rfl ?_
    refine ev_aload_n pm85 i85_29 rfl rfl rfl ?_
    obtain ⟨x14, e15, hS⟩ := bn_s hS
    refine ev_getR pm85 i85_30 rfl rfl rfl e15 rfl ?_
    obtain ⟨x17, e16, hS⟩ := bn_s hS
    refine ev_callV (sa := []) (rest := []) (st' := [.int x17]) (ls0 := [.ref x14, unk, unk]) (rv := some (.int x17)) pm85 i85_33 rfl rfl pm87 (by decide) (K_ra_underBits e16) rfl rfl (Nat.le_of_ble_eq_true rfl) (by omega) rfl (R_ra_underBits (d - 1) (by omega) e16) (by simp) rfl rfl ?_
    cases hS
    exact ev_ireturn pm85 i85_36 rfl rfl rfl
  · rw [if_neg c241] at hS
    refine ev_if_eq_f (t := 14) pm85 i85_9 rfl c241 rfl rfl ?_
    refine ev_iconst (v := -1) pm85 i85_12 rfl (by decide) rfl ?_
    cases hS
    exact ev_ireturn pm85 i85_13 rfl rfl rfl
