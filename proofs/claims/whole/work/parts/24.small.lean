def F_cs_cut (a0 : Nat) (a1 : Int32) (h : Hp) : Option (Int32 × Hp) :=
  ck h a0 11 (bn (F_cs_noRope a0 a1 h) fun x2 =>
  bd (F_cs_refused a0 x2 (0 : Int32) h) fun x4 h5 =>
  if x4 = (0 : Int32) then
    (bn (gR h5 a0 11 4) fun x6 =>
    bn (F_st_isTied x6 a1 h5) fun x9 =>
    bn (if x9 = (0 : Int32) then
        (some (1 : Int32))
      else
        (some (0 : Int32))) fun q10 =>
    bd (F_cs_refusedBy a0 (5 : Int32) q10 h5) fun x12 h13 =>
    if x12 = (0 : Int32) then
      (bn (gR h13 a0 11 7) fun x14 =>
      bn (gR h13 a0 11 4) fun x16 =>
      bn (F_me_keep x14 x16 h13) fun h19 =>
      bn (gR h19 a0 11 4) fun x20 =>
      bn (gI h19 x20 8 2) fun x22 =>
      bn (pI h19 x20 8 2 (x22 &&& (((1 : Int32) <<< (a1 &&& 31)) ^^^ (-1 : Int32)))) fun h24 =>
      some ((1 : Int32), h24))
    else
      (some ((0 : Int32), h13)))
  else
    (some ((0 : Int32), h5)))
set_option maxRecDepth 20000 in
theorem K_cs_cut {a0 : Nat} {a1 : Int32} {h : Hp} {v : Int32} {h' : Hp} (hS : F_cs_cut a0 a1 h = some (v, h')) : kd h a0 = 11 := by
  unfold F_cs_cut at hS
  exact (ck_s hS).1
set_option maxRecDepth 20000 in
theorem R_cs_cut (d : Nat) (hd : 2 ≤ d) {a0 : Nat} {a1 : Int32} {h : Hp} {v : Int32} {h' : Hp} (hS : F_cs_cut a0 a1 h = some (v, h')) : Ev P d 168 (0, [.ref a0, .int a1], [], h) (some (.int v), h') := by
  unfold F_cs_cut at hS
  replace hS := (ck_s hS).2
  refine ev_aload_n pm168 i168_0 rfl rfl rfl ?_
  refine ev_aload_n pm168 i168_1 rfl rfl rfl ?_
  refine ev_iload_n pm168 i168_2 rfl rfl rfl ?_
  obtain ⟨x2, e1, hS⟩ := bn_s hS
  refine ev_callV (sa := [.int a1]) (rest := [.ref a0]) (st' := [.int x2, .ref a0]) (ls0 := [.ref a0, .int a1]) (rv := some (.int x2)) pm168 i168_3 rfl rfl pm83 (by decide) (K_cs_noRope e1) rfl rfl (Nat.le_of_ble_eq_true rfl) (by omega) rfl (R_cs_noRope (d - 1) (by omega) e1) (by simp) rfl rfl ?_
  refine ev_iconst (v := 0) pm168 i168_6 rfl (by decide) rfl ?_
  obtain ⟨x4, h5, e3, hS⟩ := bd_s hS
  refine ev_callV (sa := [.int (0 : Int32), .int x2]) (rest := []) (st' := [.int x4]) (ls0 := [.ref a0, .int x2, .int (0 : Int32)]) (rv := some (.int x4)) pm168 i168_7 rfl rfl pm18 (by decide) (K_cs_refused e3) rfl rfl (Nat.le_of_ble_eq_true rfl) (by omega) rfl (R_cs_refused (d - 1) (by omega) e3) (by simp) rfl rfl ?_
  by_cases c397 : x4 = (0 : Int32)
  · rw [if_pos c397] at hS
    refine ev_if_ne_t (t := 37) pm168 i168_10 rfl c397 rfl rfl ?_
    refine ev_aload_n pm168 i168_13 rfl rfl rfl ?_
    refine ev_iconst (v := 5) pm168 i168_14 rfl (by decide) rfl ?_
    refine ev_aload_n pm168 i168_15 rfl rfl rfl ?_
    obtain ⟨x6, e7, hS⟩ := bn_s hS
    refine ev_getR pm168 i168_16 rfl rfl rfl e7 rfl ?_
    refine ev_iload_n pm168 i168_19 rfl rfl rfl ?_
    obtain ⟨x9, e8, hS⟩ := bn_s hS
    refine ev_callV (sa := [.int a1]) (rest := [.int (5 : Int32), .ref a0]) (st' := [.int x9, .int (5 : Int32), .ref a0]) (ls0 := [.ref x6, .int a1]) (rv := some (.int x9)) pm168 i168_20 rfl rfl pm84 (by decide) (K_st_isTied e8) rfl rfl (Nat.le_of_ble_eq_true rfl) (by omega) rfl (R_st_isTied (d - 1) (by omega) e8) (by simp) rfl rfl ?_
    obtain ⟨q10, I398, hS⟩ := bn_s hS
    have J1 : Ev P d 168 (31, [.ref a0, .int a1], [.int q10, .int (5 : Int32), .ref a0], h5) (some (.int v), h') := by
      obtain ⟨x12, h13, e11, hS⟩ := bd_s hS
      refine ev_callV (sa := [.int q10, .int (5 : Int32)]) (rest := []) (st' := [.int x12]) (ls0 := [.ref a0, .int (5 : Int32), .int q10]) (rv := some (.int x12)) pm168 i168_31 rfl rfl pm56 (by decide) (K_cs_refusedBy e11) rfl rfl (Nat.le_of_ble_eq_true rfl) (by omega) rfl (R_cs_refusedBy (d - 1) (by omega) e11) (by simp) rfl rfl ?_
      by_cases c399 : x12 = (0 : Int32)
      · rw [if_pos c399] at hS
        refine ev_if_eq_t (t := 39) pm168 i168_34 rfl c399 rfl rfl ?_
        refine ev_aload_n pm168 i168_39 rfl rfl rfl ?_
        obtain ⟨x14, e15, hS⟩ := bn_s hS
        refine ev_getR pm168 i168_40 rfl rfl rfl e15 rfl ?_
        refine ev_aload_n pm168 i168_43 rfl rfl rfl ?_
        obtain ⟨x16, e17, hS⟩ := bn_s hS
        refine ev_getR pm168 i168_44 rfl rfl rfl e17 rfl ?_
        obtain ⟨h19, e18, hS⟩ := bn_s hS
        refine ev_callV (sa := [.ref x16]) (rest := []) (st' := []) (ls0 := [.ref x14, .ref x16]) (rv := none) pm168 i168_47 rfl rfl pm165 (by decide) (K_me_keep e18) rfl rfl (Nat.le_of_ble_eq_true rfl) (by omega) rfl (R_me_keep (d - 1) (by omega) e18) (by simp) rfl rfl ?_
        refine ev_aload_n pm168 i168_50 rfl rfl rfl ?_
        obtain ⟨x20, e21, hS⟩ := bn_s hS
        refine ev_getR pm168 i168_51 rfl rfl rfl e21 rfl ?_
        refine ev_dup pm168 i168_54 rfl rfl rfl ?_
        obtain ⟨x22, e23, hS⟩ := bn_s hS
        refine ev_getI pm168 i168_55 rfl rfl (by decide) e23 rfl ?_
        refine ev_iconst (v := 1) pm168 i168_58 rfl (by decide) rfl ?_
        refine ev_iload_n pm168 i168_59 rfl rfl rfl ?_
        refine ev_b2 (f := fun x y => x <<< (y &&& 31)) pm168 i168_60 rfl (fun _ _ _ _ => rfl) rfl ?_
        refine ev_iconst (v := -1) pm168 i168_61 rfl (by decide) rfl ?_
        refine ev_b2 (f := fun x y => x ^^^ y) pm168 i168_62 rfl (fun _ _ _ _ => rfl) rfl ?_
        refine ev_b2 (f := fun x y => x &&& y) pm168 i168_63 rfl (fun _ _ _ _ => rfl) rfl ?_
        obtain ⟨h24, e25, hS⟩ := bn_s hS
        refine ev_putI pm168 i168_64 rfl rfl rfl e25 rfl ?_
        refine ev_iconst (v := 1) pm168 i168_67 rfl (by decide) rfl ?_
        cases hS
        exact ev_ireturn pm168 i168_68 rfl (by decide) rfl
      · rw [if_neg c399] at hS
        refine ev_if_eq_f (t := 39) pm168 i168_34 rfl c399 rfl rfl ?_
        refine ev_kls (ls' := [unk, unk]) pm168 i168_37 rfl rfl ?_
        refine ev_iconst (v := 0) pm168 i168_37 rfl (by decide) rfl ?_
        cases hS
        exact ev_ireturn pm168 i168_38 rfl (by decide) rfl
    clear hS
    by_cases c398 : x9 = (0 : Int32)
    · rw [if_pos c398] at I398
      refine ev_if_ne_t (t := 30) pm168 i168_23 rfl c398 rfl rfl ?_
      refine ev_iconst (v := 1) pm168 i168_26 rfl (by decide) rfl ?_
      refine ev_goto (t := 31) pm168 i168_27 rfl rfl ?_
      cases I398
      exact J1
    · rw [if_neg c398] at I398
      refine ev_if_ne_f (t := 30) pm168 i168_23 rfl c398 rfl rfl ?_
      refine ev_iconst (v := 0) pm168 i168_30 rfl (by decide) rfl ?_
      cases I398
      exact J1
  · rw [if_neg c397] at hS
    refine ev_if_ne_f (t := 37) pm168 i168_10 rfl c397 rfl rfl ?_
    refine ev_kls (ls' := [unk, unk]) pm168 i168_37 rfl rfl ?_
    refine ev_iconst (v := 0) pm168 i168_37 rfl (by decide) rfl ?_
    cases hS
    exact ev_ireturn pm168 i168_38 rfl (by decide) rfl
def F_cs_tie (a0 : Nat) (a1 : Int32) (h : Hp) : Option (Int32 × Hp) :=
  ck h a0 11 (bn (F_cs_noRope a0 a1 h) fun x2 =>
  bd (F_cs_refused a0 x2 (0 : Int32) h) fun x4 h5 =>
  if x4 = (0 : Int32) then
    (bn (gR h5 a0 11 4) fun x6 =>
    bn (F_st_isTied x6 a1 h5) fun x9 =>
    bd (F_cs_refusedBy a0 (5 : Int32) x9 h5) fun x11 h12 =>
    if x11 = (0 : Int32) then
      (bn (gR h12 a0 11 7) fun x13 =>
      bn (gR h12 a0 11 4) fun x15 =>
      bn (F_me_keep x13 x15 h12) fun h18 =>
      bn (gR h18 a0 11 4) fun x19 =>
      bn (gI h18 x19 8 2) fun x21 =>
      bn (pI h18 x19 8 2 (x21 ||| ((1 : Int32) <<< (a1 &&& 31)))) fun h23 =>
      some ((1 : Int32), h23))
    else
      (some ((0 : Int32), h12)))
  else
    (some ((0 : Int32), h5)))
set_option maxRecDepth 20000 in
theorem K_cs_tie {a0 : Nat} {a1 : Int32} {h : Hp} {v : Int32} {h' : Hp} (hS : F_cs_tie a0 a1 h = some (v, h')) : kd h a0 = 11 := by
  unfold F_cs_tie at hS
  exact (ck_s hS).1
set_option maxRecDepth 20000 in
theorem R_cs_tie (d : Nat) (hd : 2 ≤ d) {a0 : Nat} {a1 : Int32} {h : Hp} {v : Int32} {h' : Hp} (hS : F_cs_tie a0 a1 h = some (v, h')) : Ev P d 169 (0, [.ref a0, .int a1], [], h) (some (.int v), h') := by
  unfold F_cs_tie at hS
  replace hS := (ck_s hS).2
  refine ev_aload_n pm169 i169_0 rfl rfl rfl ?_
  refine ev_aload_n pm169 i169_1 rfl rfl rfl ?_
  refine ev_iload_n pm169 i169_2 rfl rfl rfl ?_
  obtain ⟨x2, e1, hS⟩ := bn_s hS
  refine ev_callV (sa := [.int a1]) (rest := [.ref a0]) (st' := [.int x2, .ref a0]) (ls0 := [.ref a0, .int a1]) (rv := some (.int x2)) pm169 i169_3 rfl rfl pm83 (by decide) (K_cs_noRope e1) rfl rfl (Nat.le_of_ble_eq_true rfl) (by omega) rfl (R_cs_noRope (d - 1) (by omega) e1) (by simp) rfl rfl ?_
  refine ev_iconst (v := 0) pm169 i169_6 rfl (by decide) rfl ?_
  obtain ⟨x4, h5, e3, hS⟩ := bd_s hS
  refine ev_callV (sa := [.int (0 : Int32), .int x2]) (rest := []) (st' := [.int x4]) (ls0 := [.ref a0, .int x2, .int (0 : Int32)]) (rv := some (.int x4)) pm169 i169_7 rfl rfl pm18 (by decide) (K_cs_refused e3) rfl rfl (Nat.le_of_ble_eq_true rfl) (by omega) rfl (R_cs_refused (d - 1) (by omega) e3) (by simp) rfl rfl ?_
  by_cases c400 : x4 = (0 : Int32)
  · rw [if_pos c400] at hS
    refine ev_if_ne_t (t := 29) pm169 i169_10 rfl c400 rfl rfl ?_
    refine ev_aload_n pm169 i169_13 rfl rfl rfl ?_
    refine ev_iconst (v := 5) pm169 i169_14 rfl (by decide) rfl ?_
    refine ev_aload_n pm169 i169_15 rfl rfl rfl ?_
    obtain ⟨x6, e7, hS⟩ := bn_s hS
    refine ev_getR pm169 i169_16 rfl rfl rfl e7 rfl ?_
    refine ev_iload_n pm169 i169_19 rfl rfl rfl ?_
    obtain ⟨x9, e8, hS⟩ := bn_s hS
    refine ev_callV (sa := [.int a1]) (rest := [.int (5 : Int32), .ref a0]) (st' := [.int x9, .int (5 : Int32), .ref a0]) (ls0 := [.ref x6, .int a1]) (rv := some (.int x9)) pm169 i169_20 rfl rfl pm84 (by decide) (K_st_isTied e8) rfl rfl (Nat.le_of_ble_eq_true rfl) (by omega) rfl (R_st_isTied (d - 1) (by omega) e8) (by simp) rfl rfl ?_
    obtain ⟨x11, h12, e10, hS⟩ := bd_s hS
    refine ev_callV (sa := [.int x9, .int (5 : Int32)]) (rest := []) (st' := [.int x11]) (ls0 := [.ref a0, .int (5 : Int32), .int x9]) (rv := some (.int x11)) pm169 i169_23 rfl rfl pm56 (by decide) (K_cs_refusedBy e10) rfl rfl (Nat.le_of_ble_eq_true rfl) (by omega) rfl (R_cs_refusedBy (d - 1) (by omega) e10) (by simp) rfl rfl ?_
    by_cases c401 : x11 = (0 : Int32)
    · rw [if_pos c401] at hS
      refine ev_if_eq_t (t := 31) pm169 i169_26 rfl c401 rfl rfl ?_
      refine ev_aload_n pm169 i169_31 rfl rfl rfl ?_
      obtain ⟨x13, e14, hS⟩ := bn_s hS
      refine ev_getR pm169 i169_32 rfl rfl rfl e14 rfl ?_
      refine ev_aload_n pm169 i169_35 rfl rfl rfl ?_
      obtain ⟨x15, e16, hS⟩ := bn_s hS
      refine ev_getR pm169 i169_36 rfl rfl rfl e16 rfl ?_
      obtain ⟨h18, e17, hS⟩ := bn_s hS
      refine ev_callV (sa := [.ref x15]) (rest := []) (st' := []) (ls0 := [.ref x13, .ref x15]) (rv := none) pm169 i169_39 rfl rfl pm165 (by decide) (K_me_keep e17) rfl rfl (Nat.le_of_ble_eq_true rfl) (by omega) rfl (R_me_keep (d - 1) (by omega) e17) (by simp) rfl rfl ?_
      refine ev_aload_n pm169 i169_42 rfl rfl rfl ?_
      obtain ⟨x19, e20, hS⟩ := bn_s hS
      refine ev_getR pm169 i169_43 rfl rfl rfl e20 rfl ?_
      refine ev_dup pm169 i169_46 rfl rfl rfl ?_
      obtain ⟨x21, e22, hS⟩ := bn_s hS
      refine ev_getI pm169 i169_47 rfl rfl (by decide) e22 rfl ?_
      refine ev_iconst (v := 1) pm169 i169_50 rfl (by decide) rfl ?_
      refine ev_iload_n pm169 i169_51 rfl rfl rfl ?_
      refine ev_b2 (f := fun x y => x <<< (y &&& 31)) pm169 i169_52 rfl (fun _ _ _ _ => rfl) rfl ?_
      refine ev_b2 (f := fun x y => x ||| y) pm169 i169_53 rfl (fun _ _ _ _ => rfl) rfl ?_
      obtain ⟨h23, e24, hS⟩ := bn_s hS
      refine ev_putI pm169 i169_54 rfl rfl rfl e24 rfl ?_
      refine ev_iconst (v := 1) pm169 i169_57 rfl (by decide) rfl ?_
      cases hS
      exact ev_ireturn pm169 i169_58 rfl (by decide) rfl
    · rw [if_neg c401] at hS
      refine ev_if_eq_f (t := 31) pm169 i169_26 rfl c401 rfl rfl ?_
      refine ev_kls (ls' := [unk, unk]) pm169 i169_29 rfl rfl ?_
      refine ev_iconst (v := 0) pm169 i169_29 rfl (by decide) rfl ?_
      cases hS
      exact ev_ireturn pm169 i169_30 rfl (by decide) rfl
  · rw [if_neg c400] at hS
    refine ev_if_ne_f (t := 29) pm169 i169_10 rfl c400 rfl rfl ?_
    refine ev_kls (ls' := [unk, unk]) pm169 i169_29 rfl rfl ?_
    refine ev_iconst (v := 0) pm169 i169_29 rfl (by decide) rfl ?_
    cases hS
    exact ev_ireturn pm169 i169_30 rfl (by decide) rfl
def F_cs_week (a0 : Nat) (h : Hp) : Option (Int32 × Hp) :=
  ck h a0 11 (bn (F_cs_noLake a0 h) fun x2 =>
  bd (F_cs_refused a0 x2 (0 : Int32) h) fun x4 h5 =>
  if x4 = (0 : Int32) then
    (bn (gR h5 a0 11 4) fun x6 =>
    bn (gI h5 x6 8 4) fun x8 =>
    bn (if x8 < (999 : Int32) then
        (some (0 : Int32))
      else
        (some (1 : Int32))) fun q10 =>
    bd (F_cs_refusedBy a0 (3 : Int32) q10 h5) fun x12 h13 =>
    if x12 = (0 : Int32) then
      (bn (gR h13 a0 11 7) fun x14 =>
      bn (gR h13 a0 11 4) fun x16 =>
      bn (F_me_keep x14 x16 h13) fun h19 =>
      bn (gR h19 a0 11 4) fun x20 =>
      bn (gR h19 a0 11 3) fun x22 =>
      bd (F_st_passWithMice x20 x22 h19) fun x25 h26 =>
      bn (gR h26 a0 11 6) fun x27 =>
      bn (gR h26 a0 11 3) fun x29 =>
      bn (gR h26 a0 11 4) fun x31 =>
      bn (F_ra_measure x27 x29 x31 h26) fun h34 =>
      bn (gR h34 a0 11 6) fun x35 =>
      bn (F_ra_underBits x35 h34) fun x38 =>
      some (x38, h34))
    else
      (some ((-1 : Int32), h13)))
  else
    (some ((-1 : Int32), h5)))
set_option maxRecDepth 20000 in
theorem K_cs_week {a0 : Nat} {h : Hp} {v : Int32} {h' : Hp} (hS : F_cs_week a0 h = some (v, h')) : kd h a0 = 11 := by
  unfold F_cs_week at hS
  exact (ck_s hS).1
set_option maxRecDepth 20000 in
theorem R_cs_week (d : Nat) (hd : 4 ≤ d) {a0 : Nat} {h : Hp} {v : Int32} {h' : Hp} (hS : F_cs_week a0 h = some (v, h')) : Ev P d 170 (0, [.ref a0], [], h) (some (.int v), h') := by
  unfold F_cs_week at hS
  replace hS := (ck_s hS).2
  refine ev_aload_n pm170 i170_0 rfl rfl rfl ?_
  refine ev_aload_n pm170 i170_1 rfl rfl rfl ?_
  obtain ⟨x2, e1, hS⟩ := bn_s hS
  refine ev_callV (sa := []) (rest := [.ref a0]) (st' := [.int x2, .ref a0]) (ls0 := [.ref a0]) (rv := some (.int x2)) pm170 i170_2 rfl rfl pm86 (by decide) (K_cs_noLake e1) rfl rfl (Nat.le_of_ble_eq_true rfl) (by omega) rfl (R_cs_noLake (d - 1) (by omega) e1) (by simp) rfl rfl ?_
  refine ev_iconst (v := 0) pm170 i170_5 rfl (by decide) rfl ?_
  obtain ⟨x4, h5, e3, hS⟩ := bd_s hS
  refine ev_callV (sa := [.int (0 : Int32), .int x2]) (rest := []) (st' := [.int x4]) (ls0 := [.ref a0, .int x2, .int (0 : Int32)]) (rv := some (.int x4)) pm170 i170_6 rfl rfl pm18 (by decide) (K_cs_refused e3) rfl rfl (Nat.le_of_ble_eq_true rfl) (by omega) rfl (R_cs_refused (d - 1) (by omega) e3) (by simp) rfl rfl ?_
  by_cases c402 : x4 = (0 : Int32)
  · rw [if_pos c402] at hS
    refine ev_if_ne_t (t := 38) pm170 i170_9 rfl c402 rfl rfl ?_
    refine ev_aload_n pm170 i170_12 rfl rfl rfl ?_
    refine ev_iconst (v := 3) pm170 i170_13 rfl (by decide) rfl ?_
    refine ev_aload_n pm170 i170_14 rfl rfl rfl ?_
    obtain ⟨x6, e7, hS⟩ := bn_s hS
    refine ev_getR pm170 i170_15 rfl rfl rfl e7 rfl ?_
    obtain ⟨x8, e9, hS⟩ := bn_s hS
    refine ev_getI pm170 i170_18 rfl rfl (by decide) e9 rfl ?_
    refine ev_sipush (v := 999) pm170 i170_21 rfl (by decide) rfl ?_
    obtain ⟨q10, I403, hS⟩ := bn_s hS
    have J1 : Ev P d 170 (32, [.ref a0], [.int q10, .int (3 : Int32), .ref a0], h5) (some (.int v), h') := by
      obtain ⟨x12, h13, e11, hS⟩ := bd_s hS
      refine ev_callV (sa := [.int q10, .int (3 : Int32)]) (rest := []) (st' := [.int x12]) (ls0 := [.ref a0, .int (3 : Int32), .int q10]) (rv := some (.int x12)) pm170 i170_32 rfl rfl pm56 (by decide) (K_cs_refusedBy e11) rfl rfl (Nat.le_of_ble_eq_true rfl) (by omega) rfl (R_cs_refusedBy (d - 1) (by omega) e11) (by simp) rfl rfl ?_
      by_cases c404 : x12 = (0 : Int32)
      · rw [if_pos c404] at hS
        refine ev_if_eq_t (t := 40) pm170 i170_35 rfl c404 rfl rfl ?_
        refine ev_aload_n pm170 i170_40 rfl rfl rfl ?_
        obtain ⟨x14, e15, hS⟩ := bn_s hS
        refine ev_getR pm170 i170_41 rfl rfl rfl e15 rfl ?_
        refine ev_aload_n pm170 i170_44 rfl rfl rfl ?_
        obtain ⟨x16, e17, hS⟩ := bn_s hS
        refine ev_getR pm170 i170_45 rfl rfl rfl e17 rfl ?_
        obtain ⟨h19, e18, hS⟩ := bn_s hS
        refine ev_callV (sa := [.ref x16]) (rest := []) (st' := []) (ls0 := [.ref x14, .ref x16]) (rv := none) pm170 i170_48 rfl rfl pm165 (by decide) (K_me_keep e18) rfl rfl (Nat.le_of_ble_eq_true rfl) (by omega) rfl (R_me_keep (d - 1) (by omega) e18) (by simp) rfl rfl ?_
        refine ev_aload_n pm170 i170_51 rfl rfl rfl ?_
        obtain ⟨x20, e21, hS⟩ := bn_s hS
        refine ev_getR pm170 i170_52 rfl rfl rfl e21 rfl ?_
        refine ev_aload_n pm170 i170_55 rfl rfl rfl ?_
        obtain ⟨x22, e23, hS⟩ := bn_s hS
        refine ev_getR pm170 i170_56 rfl rfl rfl e23 rfl ?_
        obtain ⟨x25, h26, e24, hS⟩ := bd_s hS
        refine ev_callV (sa := [.ref x22]) (rest := []) (st' := [.int x25]) (ls0 := [.ref x20, .ref x22, unk, unk]) (rv := some (.int x25)) pm170 i170_59 rfl rfl pm161 (by decide) (K_st_passWithMice e24) rfl rfl (Nat.le_of_ble_eq_true rfl) (by omega) rfl (R_st_passWithMice (d - 1) (by omega) e24) (by simp) rfl rfl ?_
        refine ev_pop pm170 i170_62 rfl rfl rfl ?_
        refine ev_aload_n pm170 i170_63 rfl rfl rfl ?_
        obtain ⟨x27, e28, hS⟩ := bn_s hS
        refine ev_getR pm170 i170_64 rfl rfl rfl e28 rfl ?_
        refine ev_aload_n pm170 i170_67 rfl rfl rfl ?_
        obtain ⟨x29, e30, hS⟩ := bn_s hS
        refine ev_getR pm170 i170_68 rfl rfl rfl e30 rfl ?_
        refine ev_aload_n pm170 i170_71 rfl rfl rfl ?_
        obtain ⟨x31, e32, hS⟩ := bn_s hS
        refine ev_getR pm170 i170_72 rfl rfl rfl e32 rfl ?_
        obtain ⟨h34, e33, hS⟩ := bn_s hS
        refine ev_callV (sa := [.ref x31, .ref x29]) (rest := []) (st' := []) (ls0 := [.ref x27, .ref x29, .ref x31]) (rv := none) pm170 i170_75 rfl rfl pm64 (by decide) (K_ra_measure e33) rfl rfl (Nat.le_of_ble_eq_true rfl) (by omega) rfl (R_ra_measure (d - 1) (by omega) e33) (by simp) rfl rfl ?_
        refine ev_aload_n pm170 i170_78 rfl rfl rfl ?_
        obtain ⟨x35, e36, hS⟩ := bn_s hS
        refine ev_getR pm170 i170_79 rfl rfl rfl e36 rfl ?_
        obtain ⟨x38, e37, hS⟩ := bn_s hS
        refine ev_callV (sa := []) (rest := []) (st' := [.int x38]) (ls0 := [.ref x35, unk, unk]) (rv := some (.int x38)) pm170 i170_82 rfl rfl pm87 (by decide) (K_ra_underBits e37) rfl rfl (Nat.le_of_ble_eq_true rfl) (by omega) rfl (R_ra_underBits (d - 1) (by omega) e37) (by simp) rfl rfl ?_
        cases hS
        exact ev_ireturn pm170 i170_85 rfl rfl rfl
      · rw [if_neg c404] at hS
        refine ev_if_eq_f (t := 40) pm170 i170_35 rfl c404 rfl rfl ?_
        refine ev_kls (ls' := [unk]) pm170 i170_38 rfl rfl ?_
        refine ev_iconst (v := -1) pm170 i170_38 rfl (by decide) rfl ?_
        cases hS
        exact ev_ireturn pm170 i170_39 rfl rfl rfl
    clear hS
    by_cases c403 : x8 < (999 : Int32)
    · rw [if_pos c403] at I403
      refine ev_icmp_lt_t (t := 31) pm170 i170_24 rfl c403 rfl rfl ?_
      refine ev_iconst (v := 0) pm170 i170_31 rfl (by decide) rfl ?_
      cases I403
      exact J1
    · rw [if_neg c403] at I403
      refine ev_icmp_lt_f (t := 31) pm170 i170_24 rfl c403 rfl rfl ?_
      refine ev_iconst (v := 1) pm170 i170_27 rfl (by decide) rfl ?_
      refine ev_goto (t := 32) pm170 i170_28 rfl rfl ?_
      cases I403
      exact J1
  · rw [if_neg c402] at hS
    refine ev_if_ne_f (t := 38) pm170 i170_9 rfl c402 rfl rfl ?_
    refine ev_kls (ls' := [unk]) pm170 i170_38 rfl rfl ?_
    refine ev_iconst (v := -1) pm170 i170_38 rfl (by decide) rfl ?_
    cases hS
    exact ev_ireturn pm170 i170_39 rfl rfl rfl
def F_cs_seed (a0 : Nat) (a1 : Int32) (h : Hp) : Option (Int32 × Hp) :=
  ck h a0 11 (bn (F_cs_noLake a0 h) fun x2 =>
  bn (F_cs_outside a1 (0 : Int32) (65536 : Int32)) fun x4 =>
  bd (F_cs_refused a0 x2 x4 h) fun x6 h7 =>
  if x6 = (0 : Int32) then
    (bn (gR h7 a0 11 4) fun x8 =>
    bn (pI h7 x8 8 3 a1) fun h10 =>
    some ((1 : Int32), h10))
  else
    (some ((0 : Int32), h7)))
set_option maxRecDepth 20000 in
theorem K_cs_seed {a0 : Nat} {a1 : Int32} {h : Hp} {v : Int32} {h' : Hp} (hS : F_cs_seed a0 a1 h = some (v, h')) : kd h a0 = 11 := by
  unfold F_cs_seed at hS
  exact (ck_s hS).1
set_option maxRecDepth 20000 in
theorem R_cs_seed (d : Nat) (hd : 1 ≤ d) {a0 : Nat} {a1 : Int32} {h : Hp} {v : Int32} {h' : Hp} (hS : F_cs_seed a0 a1 h = some (v, h')) : Ev P d 171 (0, [.ref a0, .int a1], [], h) (some (.int v), h') := by
  unfold F_cs_seed at hS
  replace hS := (ck_s hS).2
  refine ev_aload_n pm171 i171_0 rfl rfl rfl ?_
  refine ev_aload_n pm171 i171_1 rfl rfl rfl ?_
  obtain ⟨x2, e1, hS⟩ := bn_s hS
  refine ev_callV (sa := []) (rest := [.ref a0]) (st' := [.int x2, .ref a0]) (ls0 := [.ref a0]) (rv := some (.int x2)) pm171 i171_2 rfl rfl pm86 (by decide) (K_cs_noLake e1) rfl rfl (Nat.le_of_ble_eq_true rfl) (by omega) rfl (R_cs_noLake (d - 1) (by omega) e1) (by simp) rfl rfl ?_
  refine ev_iload_n pm171 i171_5 rfl rfl rfl ?_
  refine ev_iconst (v := 0) pm171 i171_6 rfl (by decide) rfl ?_
  refine ev_ldc_w (v := .int (65536 : Int32)) pm171 i171_7 rfl rfl rfl ?_
  obtain ⟨x4, e3, hS⟩ := bn_s hS
  refine ev_callS (sa := [.int (65536 : Int32), .int (0 : Int32), .int a1]) (rest := [.int x2, .ref a0]) (st' := [.int x4, .int x2, .ref a0]) (ls0 := [.int a1, .int (0 : Int32), .int (65536 : Int32)]) (rv := some (.int x4)) pm171 i171_10 rfl rfl pm17 (by decide) rfl rfl (Nat.le_of_ble_eq_true rfl) (by omega) rfl (R_cs_outside (d - 1) (by omega) e3) (by simp) rfl rfl ?_
  obtain ⟨x6, h7, e5, hS⟩ := bd_s hS
  refine ev_callV (sa := [.int x4, .int x2]) (rest := []) (st' := [.int x6]) (ls0 := [.ref a0, .int x2, .int x4]) (rv := some (.int x6)) pm171 i171_13 rfl rfl pm18 (by decide) (K_cs_refused e5) rfl rfl (Nat.le_of_ble_eq_true rfl) (by omega) rfl (R_cs_refused (d - 1) (by omega) e5) (by simp) rfl rfl ?_
  by_cases c405 : x6 = (0 : Int32)
  · rw [if_pos c405] at hS
    refine ev_if_eq_t (t := 21) pm171 i171_16 rfl c405 rfl rfl ?_
    refine ev_aload_n pm171 i171_21 rfl rfl rfl ?_
    obtain ⟨x8, e9, hS⟩ := bn_s hS
    refine ev_getR pm171 i171_22 rfl rfl rfl e9 rfl ?_
    refine ev_iload_n pm171 i171_25 rfl rfl rfl ?_
    obtain ⟨h10, e11, hS⟩ := bn_s hS
    refine ev_putI pm171 i171_26 rfl rfl rfl e11 rfl ?_
    refine ev_iconst (v := 1) pm171 i171_29 rfl (by decide) rfl ?_
    cases hS
    exact ev_ireturn pm171 i171_30 rfl (by decide) rfl
  · rw [if_neg c405] at hS
    refine ev_if_eq_f (t := 21) pm171 i171_16 rfl c405 rfl rfl ?_
    refine ev_iconst (v := 0) pm171 i171_19 rfl (by decide) rfl ?_
    cases hS
    exact ev_ireturn pm171 i171_20 rfl (by decide) rfl
def F_st_load (a0 : Nat) (a1 : Nat) (a2 : Int32) (h : Hp) : Option Hp :=
  ck h a0 8 (if (a2 * (31 : Int32)) < (0 : Int32) then
    (some h)
  else
    (bn (aN h a1) fun x1 =>
    if x1 < ((a2 * (31 : Int32)) + (31 : Int32)) then
      (some h)
    else
      (bn (gR h a0 8 0) fun x3 =>
      bn (cpI h a1 (a2 * (31 : Int32)) x3 (0 : Int32) (25 : Int32)) fun h5 =>
      bn (gR h5 a0 8 1) fun x7 =>
      bn (cpI h5 a1 ((a2 * (31 : Int32)) + (25 : Int32)) x7 (0 : Int32) (3 : Int32)) fun h9 =>
      bn (aI h9 100 a1 (((a2 * (31 : Int32)) + (31 : Int32)) - (3 : Int32))) fun x11 =>
      bn (pI h9 a0 8 2 x11) fun h13 =>
      bn (aI h13 100 a1 (((a2 * (31 : Int32)) + (31 : Int32)) - (2 : Int32))) fun x15 =>
      bn (pI h13 a0 8 3 x15) fun h17 =>
      bn (aI h17 100 a1 (((a2 * (31 : Int32)) + (31 : Int32)) - (1 : Int32))) fun x19 =>
      bn (pI h17 a0 8 4 x19) fun h21 =>
      some h21)))
set_option maxRecDepth 20000 in
theorem K_st_load {a0 : Nat} {a1 : Nat} {a2 : Int32} {h : Hp} {h' : Hp} (hS : F_st_load a0 a1 a2 h = some h') : kd h a0 = 8 := by
  unfold F_st_load at hS
  exact (ck_s hS).1
set_option maxRecDepth 20000 in
theorem R_st_load (d : Nat) (hd : 0 ≤ d) {a0 : Nat} {a1 : Nat} {a2 : Int32} {h : Hp} {h' : Hp} (hS : F_st_load a0 a1 a2 h = some h') : Ev P d 174 (0, [.ref a0, .ref a1, .int a2, unk], [], h) (none, h') := by
  unfold F_st_load at hS
  replace hS := (ck_s hS).2
  refine ev_iload_n pm174 i174_0 rfl rfl rfl ?_
  refine ev_bipush (v := 31) pm174 i174_1 rfl (by decide) rfl ?_
  refine ev_b2 (f := fun x y => x * y) pm174 i174_3 rfl (fun _ _ _ _ => rfl) rfl ?_
  refine ev_istore_n (ls' := [.ref a0, .ref a1, .int a2, .int (a2 * (31 : Int32))]) pm174 i174_4 rfl (Nat.le_of_ble_eq_true rfl) rfl rfl ?_
  refine ev_iload_n pm174 i174_5 rfl rfl rfl ?_
  by_cases c406 : (a2 * (31 : Int32)) < (0 : Int32)
  · rw [if_pos c406] at hS
    refine ev_if_lt_t (t := 18) pm174 i174_6 rfl c406 rfl rfl ?_
    refine ev_kls (ls' := [unk, unk, unk, unk]) pm174 i174_18 rfl rfl ?_
    cases hS
    exact ev_return pm174 i174_18 rfl rfl rfl
  · rw [if_neg c406] at hS
    refine ev_if_lt_f (t := 18) pm174 i174_6 rfl c406 rfl rfl ?_
    refine ev_iload_n pm174 i174_9 rfl rfl rfl ?_
    refine ev_bipush (v := 31) pm174 i174_10 rfl (by decide) rfl ?_
    refine ev_b2 (f := fun x y => x + y) pm174 i174_12 rfl (fun _ _ _ _ => rfl) rfl ?_
    refine ev_aload_n pm174 i174_13 rfl rfl rfl ?_
    obtain ⟨x1, e2, hS⟩ := bn_s hS
    refine ev_alen pm174 i174_14 rfl e2 rfl ?_
    by_cases c407 : x1 < ((a2 * (31 : Int32)) + (31 : Int32))
    · rw [if_pos c407] at hS
      refine ev_icmp_le_t (t := 19) pm174 i174_15 rfl c407 rfl rfl ?_
      refine ev_kls (ls' := [unk, unk, unk, unk]) pm174 i174_18 rfl rfl ?_
      cases hS
      exact ev_return pm174 i174_18 rfl rfl rfl
    · rw [if_neg c407] at hS
      refine ev_icmp_le_f (t := 19) pm174 i174_15 rfl c407 rfl rfl ?_
      refine ev_aload_n pm174 i174_19 rfl rfl rfl ?_
      refine ev_iload_n pm174 i174_20 rfl rfl rfl ?_
      refine ev_aload_n pm174 i174_21 rfl rfl rfl ?_
      obtain ⟨x3, e4, hS⟩ := bn_s hS
      refine ev_getR pm174 i174_22 rfl rfl rfl e4 rfl ?_
      refine ev_iconst (v := 0) pm174 i174_25 rfl (by decide) rfl ?_
      refine ev_bipush (v := 25) pm174 i174_26 rfl (by decide) rfl ?_
      obtain ⟨h5, e6, hS⟩ := bn_s hS
      refine ev_copy pm174 i174_28 rfl rfl (Nat.le_of_ble_eq_true rfl) e6 rfl ?_
      refine ev_aload_n pm174 i174_31 rfl rfl rfl ?_
      refine ev_iload_n pm174 i174_32 rfl rfl rfl ?_
      refine ev_bipush (v := 25) pm174 i174_33 rfl (by decide) rfl ?_
      refine ev_b2 (f := fun x y => x + y) pm174 i174_35 rfl (fun _ _ _ _ => rfl) rfl ?_
      refine ev_aload_n pm174 i174_36 rfl rfl rfl ?_
      obtain ⟨x7, e8, hS⟩ := bn_s hS
      refine ev_getR pm174 i174_37 rfl rfl rfl e8 rfl ?_
      refine ev_iconst (v := 0) pm174 i174_40 rfl (by decide) rfl ?_
      refine ev_iconst (v := 3) pm174 i174_41 rfl (by decide) rfl ?_
      obtain ⟨h9, e10, hS⟩ := bn_s hS
      refine ev_copy pm174 i174_42 rfl rfl (Nat.le_of_ble_eq_true rfl) e10 rfl ?_
      refine ev_aload_n pm174 i174_45 rfl rfl rfl ?_
      refine ev_aload_n pm174 i174_46 rfl rfl rfl ?_
      refine ev_iload_n pm174 i174_47 rfl rfl rfl ?_
      refine ev_bipush (v := 31) pm174 i174_48 rfl (by decide) rfl ?_
      refine ev_b2 (f := fun x y => x + y) pm174 i174_50 rfl (fun _ _ _ _ => rfl) rfl ?_
      refine ev_iconst (v := 3) pm174 i174_51 rfl (by decide) rfl ?_
      refine ev_b2 (f := fun x y => x - y) pm174 i174_52 rfl (fun _ _ _ _ => rfl) rfl ?_
      obtain ⟨x11, e12, hS⟩ := bn_s hS
      refine ev_iald pm174 i174_53 rfl e12 rfl ?_
      obtain ⟨h13, e14, hS⟩ := bn_s hS
      refine ev_putI pm174 i174_54 rfl rfl rfl e14 rfl ?_
      refine ev_aload_n pm174 i174_57 rfl rfl rfl ?_
      refine ev_aload_n pm174 i174_58 rfl rfl rfl ?_
      refine ev_iload_n pm174 i174_59 rfl rfl rfl ?_
      refine ev_bipush (v := 31) pm174 i174_60 rfl (by decide) rfl ?_
      refine ev_b2 (f := fun x y => x + y) pm174 i174_62 rfl (fun _ _ _ _ => rfl) rfl ?_
      refine ev_iconst (v := 2) pm174 i174_63 rfl (by decide) rfl ?_
      refine ev_b2 (f := fun x y => x - y) pm174 i174_64 rfl (fun _ _ _ _ => rfl) rfl ?_
      obtain ⟨x15, e16, hS⟩ := bn_s hS
      refine ev_iald pm174 i174_65 rfl e16 rfl ?_
      obtain ⟨h17, e18, hS⟩ := bn_s hS
      refine ev_putI pm174 i174_66 rfl rfl rfl e18 rfl ?_
      refine ev_aload_n pm174 i174_69 rfl rfl rfl ?_
      refine ev_aload_n pm174 i174_70 rfl rfl rfl ?_
      refine ev_iload_n pm174 i174_71 rfl rfl rfl ?_
      refine ev_bipush (v := 31) pm174 i174_72 rfl (by decide) rfl ?_
      refine ev_b2 (f := fun x y => x + y) pm174 i174_74 rfl (fun _ _ _ _ => rfl) rfl ?_
      refine ev_iconst (v := 1) pm174 i174_75 rfl (by decide) rfl ?_
      refine ev_b2 (f := fun x y => x - y) pm174 i174_76 rfl (fun _ _ _ _ => rfl) rfl ?_
      obtain ⟨x19, e20, hS⟩ := bn_s hS
      refine ev_iald pm174 i174_77 rfl e20 rfl ?_
      obtain ⟨h21, e22, hS⟩ := bn_s hS
      refine ev_putI pm174 i174_78 rfl rfl rfl e22 rfl ?_
      cases hS
      exact ev_return pm174 i174_81 rfl rfl rfl
def F_me_takeBack (a0 : Nat) (a1 : Nat) (h : Hp) : Option Hp :=
  ck h a0 3 (bn (gI h a0 3 2) fun x1 =>
  bn (rm32 ((x1 + (16 : Int32)) - (1 : Int32)) (16 : Int32)) fun x3 =>
  bn (pI h a0 3 2 x3) fun h5 =>
  bn (gI h5 a0 3 3) fun x7 =>
  bn (pI h5 a0 3 3 (x7 - (1 : Int32))) fun h9 =>
  bn (gR h9 a0 3 0) fun x11 =>
  bn (gI h9 a0 3 2) fun x13 =>
  bn (F_st_load a1 x11 x13 h9) fun h16 =>
  some h16)
set_option maxRecDepth 20000 in
theorem K_me_takeBack {a0 : Nat} {a1 : Nat} {h : Hp} {h' : Hp} (hS : F_me_takeBack a0 a1 h = some h') : kd h a0 = 3 := by
  unfold F_me_takeBack at hS
  exact (ck_s hS).1
set_option maxRecDepth 20000 in
theorem R_me_takeBack (d : Nat) (hd : 1 ≤ d) {a0 : Nat} {a1 : Nat} {h : Hp} {h' : Hp} (hS : F_me_takeBack a0 a1 h = some h') : Ev P d 173 (0, [.ref a0, .ref a1], [], h) (none, h') := by
  unfold F_me_takeBack at hS
  replace hS := (ck_s hS).2
  refine ev_aload_n pm173 i173_0 rfl rfl rfl ?_
  refine ev_aload_n pm173 i173_1 rfl rfl rfl ?_
  obtain ⟨x1, e2, hS⟩ := bn_s hS
  refine ev_getI pm173 i173_2 rfl rfl (by decide) e2 rfl ?_
  refine ev_bipush (v := 16) pm173 i173_5 rfl (by decide) rfl ?_
  refine ev_b2 (f := fun x y => x + y) pm173 i173_7 rfl (fun _ _ _ _ => rfl) rfl ?_
  refine ev_iconst (v := 1) pm173 i173_8 rfl (by decide) rfl ?_
  refine ev_b2 (f := fun x y => x - y) pm173 i173_9 rfl (fun _ _ _ _ => rfl) rfl ?_
  refine ev_bipush (v := 16) pm173 i173_10 rfl (by decide) rfl ?_
  obtain ⟨x3, e4, hS⟩ := bn_s hS
  refine ev_irem pm173 i173_12 rfl e4 rfl ?_
  obtain ⟨h5, e6, hS⟩ := bn_s hS
  refine ev_putI pm173 i173_13 rfl rfl rfl e6 rfl ?_
  refine ev_aload_n pm173 i173_16 rfl rfl rfl ?_
  refine ev_dup pm173 i173_17 rfl rfl rfl ?_
  obtain ⟨x7, e8, hS⟩ := bn_s hS
  refine ev_getI pm173 i173_18 rfl rfl (by decide) e8 rfl ?_
  refine ev_iconst (v := 1) pm173 i173_21 rfl (by decide) rfl ?_
  refine ev_b2 (f := fun x y => x - y) pm173 i173_22 rfl (fun _ _ _ _ => rfl) rfl ?_
  obtain ⟨h9, e10, hS⟩ := bn_s hS
  refine ev_putI pm173 i173_23 rfl rfl rfl e10 rfl ?_
  refine ev_aload_n pm173 i173_26 rfl rfl rfl ?_
  refine ev_aload_n pm173 i173_27 rfl rfl rfl ?_
  obtain ⟨x11, e12, hS⟩ := bn_s hS
  refine ev_getR pm173 i173_28 rfl rfl rfl e12 rfl ?_
  refine ev_aload_n pm173 i173_31 rfl rfl rfl ?_
  obtain ⟨x13, e14, hS⟩ := bn_s hS
  refine ev_getI pm173 i173_32 rfl rfl (by decide) e14 rfl ?_
  obtain ⟨h16, e15, hS⟩ := bn_s hS
  refine ev_callV (sa := [.int x13, .ref x11]) (rest := []) (st' := []) (ls0 := [.ref a1, .ref x11, .int x13, unk]) (rv := none) pm173 i173_35 rfl rfl pm174 (by decide) (K_st_load e15) rfl rfl (Nat.le_of_ble_eq_true rfl) (by omega) rfl (R_st_load (d - 1) (by omega) e15) (by simp) rfl rfl ?_
  cases hS
  exact ev_return pm173 i173_38 rfl rfl rfl
def F_cs_undo (a0 : Nat) (h : Hp) : Option (Int32 × Hp) :=
  ck h a0 11 (bn (gR h a0 11 7) fun x1 =>
  bn (gI h x1 3 3) fun x3 =>
  bn (if x3 = (0 : Int32) then
      (some (1 : Int32))
    else
      (some (0 : Int32))) fun q5 =>
  bd (F_cs_refusedBy a0 (6 : Int32) q5 h) fun x7 h8 =>
  if x7 = (0 : Int32) then
    (bn (gR h8 a0 11 7) fun x9 =>
    bn (gR h8 a0 11 4) fun x11 =>
    bn (F_me_takeBack x9 x11 h8) fun h14 =>
    some ((1 : Int32), h14))
  else
    (some ((0 : Int32), h8)))
set_option maxRecDepth 20000 in
theorem K_cs_undo {a0 : Nat} {h : Hp} {v : Int32} {h' : Hp} (hS : F_cs_undo a0 h = some (v, h')) : kd h a0 = 11 := by
  unfold F_cs_undo at hS
  exact (ck_s hS).1
set_option maxRecDepth 20000 in
theorem R_cs_undo (d : Nat) (hd : 2 ≤ d) {a0 : Nat} {h : Hp} {v : Int32} {h' : Hp} (hS : F_cs_undo a0 h = some (v, h')) : Ev P d 172 (0, [.ref a0], [], h) (some (.int v), h') := by
  unfold F_cs_undo at hS
  replace hS := (ck_s hS).2
  refine ev_aload_n pm172 i172_0 rfl rfl rfl ?_
  refine ev_bipush (v := 6) pm172 i172_1 rfl (by decide) rfl ?_
  refine ev_aload_n pm172 i172_3 rfl rfl rfl ?_
  obtain ⟨x1, e2, hS⟩ := bn_s hS
  refine ev_getR pm172 i172_4 rfl rfl rfl e2 rfl ?_
  obtain ⟨x3, e4, hS⟩ := bn_s hS
  refine ev_getI pm172 i172_7 rfl rfl (by decide) e4 rfl ?_
  obtain ⟨q5, I408, hS⟩ := bn_s hS
  have J1 : Ev P d 172 (18, [.ref a0], [.int q5, .int (6 : Int32), .ref a0], h) (some (.int v), h') := by
    obtain ⟨x7, h8, e6, hS⟩ := bd_s hS
    refine ev_callV (sa := [.int q5, .int (6 : Int32)]) (rest := []) (st' := [.int x7]) (ls0 := [.ref a0, .int (6 : Int32), .int q5]) (rv := some (.int x7)) pm172 i172_18 rfl rfl pm56 (by decide) (K_cs_refusedBy e6) rfl rfl (Nat.le_of_ble_eq_true rfl) (by omega) rfl (R_cs_refusedBy (d - 1) (by omega) e6) (by simp) rfl rfl ?_
    by_cases c409 : x7 = (0 : Int32)
    · rw [if_pos c409] at hS
      refine ev_if_eq_t (t := 26) pm172 i172_21 rfl c409 rfl rfl ?_
      refine ev_aload_n pm172 i172_26 rfl rfl rfl ?_
      obtain ⟨x9, e10, hS⟩ := bn_s hS
      refine ev_getR pm172 i172_27 rfl rfl rfl e10 rfl ?_
      refine ev_aload_n pm172 i172_30 rfl rfl rfl ?_
      obtain ⟨x11, e12, hS⟩ := bn_s hS
      refine ev_getR pm172 i172_31 rfl rfl rfl e12 rfl ?_
      obtain ⟨h14, e13, hS⟩ := bn_s hS
      refine ev_callV (sa := [.ref x11]) (rest := []) (st' := []) (ls0 := [.ref x9, .ref x11]) (rv := none) pm172 i172_34 rfl rfl pm173 (by decide) (K_me_takeBack e13) rfl rfl (Nat.le_of_ble_eq_true rfl) (by omega) rfl (R_me_takeBack (d - 1) (by omega) e13) (by simp) rfl rfl ?_
      refine ev_iconst (v := 1) pm172 i172_37 rfl (by decide) rfl ?_
      cases hS
      exact ev_ireturn pm172 i172_38 rfl (by decide) rfl
    · rw [if_neg c409] at hS
      refine ev_if_eq_f (t := 26) pm172 i172_21 rfl c409 rfl rfl ?_
      refine ev_iconst (v := 0) pm172 i172_24 rfl (by decide) rfl ?_
      cases hS
      exact ev_ireturn pm172 i172_25 rfl (by decide) rfl
  clear hS
  by_cases c408 : x3 = (0 : Int32)
  · rw [if_pos c408] at I408
    refine ev_if_ne_t (t := 17) pm172 i172_10 rfl c408 rfl rfl ?_
    refine ev_iconst (v := 1) pm172 i172_13 rfl (by decide) rfl ?_
    refine ev_goto (t := 18) pm172 i172_14 rfl rfl ?_
    cases I408
    exact J1
  · rw [if_neg c408] at I408
    refine ev_if_ne_f (t := 17) pm172 i172_10 rfl c408 rfl rfl ?_
    refine ev_iconst (v := 0) pm172 i172_17 rfl (by decide) rfl ?_
    cases I408
    exact J1
def F_me_paint (a0 : Nat) (a1 : Nat) (h : Hp) : Option (Int32 × Hp) :=
  ck h a0 3 (bn (gR h a0 3 1) fun x1 =>
  bn (gI h a0 3 4) fun x3 =>
  bn (F_st_save a1 x1 x3 h) fun h6 =>
  bn (gI h6 a0 3 4) fun x7 =>
  bn (pI h6 a0 3 4 (x7 + (1 : Int32))) fun h9 =>
  bn (gI h9 a0 3 4) fun x11 =>
  some (x11 - (1 : Int32), h9))
set_option maxRecDepth 20000 in
theorem K_me_paint {a0 : Nat} {a1 : Nat} {h : Hp} {v : Int32} {h' : Hp} (hS : F_me_paint a0 a1 h = some (v, h')) : kd h a0 = 3 := by
  unfold F_me_paint at hS
  exact (ck_s hS).1
set_option maxRecDepth 20000 in
theorem R_me_paint (d : Nat) (hd : 1 ≤ d) {a0 : Nat} {a1 : Nat} {h : Hp} {v : Int32} {h' : Hp} (hS : F_me_paint a0 a1 h = some (v, h')) : Ev P d 176 (0, [.ref a0, .ref a1], [], h) (some (.int v), h') := by
  unfold F_me_paint at hS
  replace hS := (ck_s hS).2
  refine ev_aload_n pm176 i176_0 rfl rfl rfl ?_
  refine ev_aload_n pm176 i176_1 rfl rfl rfl ?_
  obtain ⟨x1, e2, hS⟩ := bn_s hS
  refine ev_getR pm176 i176_2 rfl rfl rfl e2 rfl ?_
  refine ev_aload_n pm176 i176_5 rfl rfl rfl ?_
  obtain ⟨x3, e4, hS⟩ := bn_s hS
  refine ev_getI pm176 i176_6 rfl rfl (by decide) e4 rfl ?_
  obtain ⟨h6, e5, hS⟩ := bn_s hS
  refine ev_callV (sa := [.int x3, .ref x1]) (rest := []) (st' := []) (ls0 := [.ref a1, .ref x1, .int x3, unk]) (rv := none) pm176 i176_9 rfl rfl pm166 (by decide) (K_st_save e5) rfl rfl (Nat.le_of_ble_eq_true rfl) (by omega) rfl (R_st_save (d - 1) (by omega) e5) (by simp) rfl rfl ?_
  refine ev_aload_n pm176 i176_12 rfl rfl rfl ?_
  refine ev_dup pm176 i176_13 rfl rfl rfl ?_
  obtain ⟨x7, e8, hS⟩ := bn_s hS
  refine ev_getI pm176 i176_14 rfl rfl (by decide) e8 rfl ?_
  refine ev_iconst (v := 1) pm176 i176_17 rfl (by decide) rfl ?_
  refine ev_b2 (f := fun x y => x + y) pm176 i176_18 rfl (fun _ _ _ _ => rfl) rfl ?_
  obtain ⟨h9, e10, hS⟩ := bn_s hS
  refine ev_putI pm176 i176_19 rfl rfl rfl e10 rfl ?_
  refine ev_aload_n pm176 i176_22 rfl rfl rfl ?_
  obtain ⟨x11, e12, hS⟩ := bn_s hS
  refine ev_getI pm176 i176_23 rfl rfl (by decide) e12 rfl ?_
  refine ev_iconst (v := 1) pm176 i176_26 rfl (by decide) rfl ?_
  refine ev_b2 (f := fun x y => x - y) pm176 i176_27 rfl (fun _ _ _ _ => rfl) rfl ?_
  cases hS
  exact ev_ireturn pm176 i176_28 rfl rfl rfl
def F_cs_image (a0 : Nat) (h : Hp) : Option (Int32 × Hp) :=
  ck h a0 11 (bn (F_cs_noLake a0 h) fun x2 =>
  bd (F_cs_refused a0 x2 (0 : Int32) h) fun x4 h5 =>
  if x4 = (0 : Int32) then
    (bn (gR h5 a0 11 7) fun x6 =>
    bn (gI h5 x6 3 4) fun x8 =>
    bn (if x8 < (3 : Int32) then
        (some (0 : Int32))
      else
        (some (1 : Int32))) fun q10 =>
    bd (F_cs_refusedBy a0 (3 : Int32) q10 h5) fun x12 h13 =>
    if x12 = (0 : Int32) then
      (bn (gR h13 a0 11 7) fun x14 =>
      bn (gR h13 a0 11 4) fun x16 =>
      bd (F_me_paint x14 x16 h13) fun x19 h20 =>
      some (x19, h20))
    else
      (some ((-1 : Int32), h13)))
  else
    (some ((-1 : Int32), h5)))
set_option maxRecDepth 20000 in
theorem K_cs_image {a0 : Nat} {h : Hp} {v : Int32} {h' : Hp} (hS : F_cs_image a0 h = some (v, h')) : kd h a0 = 11 := by
  unfold F_cs_image at hS
  exact (ck_s hS).1
set_option maxRecDepth 20000 in
theorem R_cs_image (d : Nat) (hd : 2 ≤ d) {a0 : Nat} {h : Hp} {v : Int32} {h' : Hp} (hS : F_cs_image a0 h = some (v, h')) : Ev P d 175 (0, [.ref a0], [], h) (some (.int v), h') := by
  unfold F_cs_image at hS
  replace hS := (ck_s hS).2
  refine ev_aload_n pm175 i175_0 rfl rfl rfl ?_
  refine ev_aload_n pm175 i175_1 rfl rfl rfl ?_
  obtain ⟨x2, e1, hS⟩ := bn_s hS
  refine ev_callV (sa := []) (rest := [.ref a0]) (st' := [.int x2, .ref a0]) (ls0 := [.ref a0]) (rv := some (.int x2)) pm175 i175_2 rfl rfl pm86 (by decide) (K_cs_noLake e1) rfl rfl (Nat.le_of_ble_eq_true rfl) (by omega) rfl (R_cs_noLake (d - 1) (by omega) e1) (by simp) rfl rfl ?_
  refine ev_iconst (v := 0) pm175 i175_5 rfl (by decide) rfl ?_
  obtain ⟨x4, h5, e3, hS⟩ := bd_s hS
  refine ev_callV (sa := [.int (0 : Int32), .int x2]) (rest := []) (st' := [.int x4]) (ls0 := [.ref a0, .int x2, .int (0 : Int32)]) (rv := some (.int x4)) pm175 i175_6 rfl rfl pm18 (by decide) (K_cs_refused e3) rfl rfl (Nat.le_of_ble_eq_true rfl) (by omega) rfl (R_cs_refused (d - 1) (by omega) e3) (by simp) rfl rfl ?_
  by_cases c410 : x4 = (0 : Int32)
  · rw [if_pos c410] at hS
    refine ev_if_ne_t (t := 36) pm175 i175_9 rfl c410 rfl rfl ?_
    refine ev_aload_n pm175 i175_12 rfl rfl rfl ?_
    refine ev_iconst (v := 3) pm175 i175_13 rfl (by decide) rfl ?_
    refine ev_aload_n pm175 i175_14 rfl rfl rfl ?_
    obtain ⟨x6, e7, hS⟩ := bn_s hS
    refine ev_getR pm175 i175_15 rfl rfl rfl e7 rfl ?_
    obtain ⟨x8, e9, hS⟩ := bn_s hS
    refine ev_getI pm175 i175_18 rfl rfl (by decide) e9 rfl ?_
    refine ev_iconst (v := 3) pm175 i175_21 rfl (by decide) rfl ?_
    obtain ⟨q10, I411, hS⟩ := bn_s hS
    have J1 : Ev P d 175 (30, [.ref a0], [.int q10, .int (3 : Int32), .ref a0], h5) (some (.int v), h') := by
      obtain ⟨x12, h13, e11, hS⟩ := bd_s hS
      refine ev_callV (sa := [.int q10, .int (3 : Int32)]) (rest := []) (st' := [.int x12]) (ls0 := [.ref a0, .int (3 : Int32), .int q10]) (rv := some (.int x12)) pm175 i175_30 rfl rfl pm56 (by decide) (K_cs_refusedBy e11) rfl rfl (Nat.le_of_ble_eq_true rfl) (by omega) rfl (R_cs_refusedBy (d - 1) (by omega) e11) (by simp) rfl rfl ?_
      by_cases c412 : x12 = (0 : Int32)
      · rw [if_pos c412] at hS
        refine ev_if_eq_t (t := 38) pm175 i175_33 rfl c412 rfl rfl ?_
        refine ev_aload_n pm175 i175_38 rfl rfl rfl ?_
        obtain ⟨x14, e15, hS⟩ := bn_s hS
        refine ev_getR pm175 i175_39 rfl rfl rfl e15 rfl ?_
        refine ev_aload_n pm175 i175_42 rfl rfl rfl ?_
        obtain ⟨x16, e17, hS⟩ := bn_s hS
        refine ev_getR pm175 i175_43 rfl rfl rfl e17 rfl ?_
        obtain ⟨x19, h20, e18, hS⟩ := bd_s hS
        refine ev_callV (sa := [.ref x16]) (rest := []) (st' := [.int x19]) (ls0 := [.ref x14, .ref x16]) (rv := some (.int x19)) pm175 i175_46 rfl rfl pm176 (by decide) (K_me_paint e18) rfl rfl (Nat.le_of_ble_eq_true rfl) (by omega) rfl (R_me_paint (d - 1) (by omega) e18) (by simp) rfl rfl ?_
        cases hS
        exact ev_ireturn pm175 i175_49 rfl rfl rfl
      · rw [if_neg c412] at hS
        refine ev_if_eq_f (t := 38) pm175 i175_33 rfl c412 rfl rfl ?_
        refine ev_kls (ls' := [unk]) pm175 i175_36 rfl rfl ?_
        refine ev_iconst (v := -1) pm175 i175_36 rfl (by decide) rfl ?_
        cases hS
        exact ev_ireturn pm175 i175_37 rfl rfl rfl
    clear hS
    by_cases c411 : x8 < (3 : Int32)
    · rw [if_pos c411] at I411
      refine ev_icmp_lt_t (t := 29) pm175 i175_22 rfl c411 rfl rfl ?_
      refine ev_iconst (v := 0) pm175 i175_29 rfl (by decide) rfl ?_
      cases I411
      exact J1
    · rw [if_neg c411] at I411
      refine ev_icmp_lt_f (t := 29) pm175 i175_22 rfl c411 rfl rfl ?_
      refine ev_iconst (v := 1) pm175 i175_25 rfl (by decide) rfl ?_
      refine ev_goto (t := 30) pm175 i175_26 rfl rfl ?_
      cases I411
      exact J1
  · rw [if_neg c410] at hS
    refine ev_if_ne_f (t := 36) pm175 i175_9 rfl c410 rfl rfl ?_
    refine ev_kls (ls' := [unk]) pm175 i175_36 rfl rfl ?_
    refine ev_iconst (v := -1) pm175 i175_36 rfl (by decide) rfl ?_
    cases hS
    exact ev_ireturn pm175 i175_37 rfl rfl rfl
def F_me_goBack (a0 : Nat) (a1 : Nat) (a2 : Int32) (h : Hp) : Option Hp :=
  ck h a0 3 (bn (gR h a0 3 1) fun x1 =>
  bn (F_st_load a1 x1 a2 h) fun h4 =>
  bn (pI h4 a0 3 3 (0 : Int32)) fun h5 =>
  some h5)
set_option maxRecDepth 20000 in
theorem K_me_goBack {a0 : Nat} {a1 : Nat} {a2 : Int32} {h : Hp} {h' : Hp} (hS : F_me_goBack a0 a1 a2 h = some h') : kd h a0 = 3 := by
  unfold F_me_goBack at hS
  exact (ck_s hS).1
set_option maxRecDepth 20000 in
theorem R_me_goBack (d : Nat) (hd : 1 ≤ d) {a0 : Nat} {a1 : Nat} {a2 : Int32} {h : Hp} {h' : Hp} (hS : F_me_goBack a0 a1 a2 h = some h') : Ev P d 178 (0, [.ref a0, .ref a1, .int a2], [], h) (none, h') := by
  unfold F_me_goBack at hS
  replace hS := (ck_s hS).2
  refine ev_aload_n pm178 i178_0 rfl rfl rfl ?_
  refine ev_aload_n pm178 i178_1 rfl rfl rfl ?_
  obtain ⟨x1, e2, hS⟩ := bn_s hS
  refine ev_getR pm178 i178_2 rfl rfl rfl e2 rfl ?_
  refine ev_iload_n pm178 i178_5 rfl rfl rfl ?_
  obtain ⟨h4, e3, hS⟩ := bn_s hS
  refine ev_callV (sa := [.int a2, .ref x1]) (rest := []) (st' := []) (ls0 := [.ref a1, .ref x1, .int a2, unk]) (rv := none) pm178 i178_6 rfl rfl pm174 (by decide) (K_st_load e3) rfl rfl (Nat.le_of_ble_eq_true rfl) (by omega) rfl (R_st_load (d - 1) (by omega) e3) (by simp) rfl rfl ?_
  refine ev_aload_n pm178 i178_9 rfl rfl rfl ?_
  refine ev_iconst (v := 0) pm178 i178_10 rfl (by decide) rfl ?_
  obtain ⟨h5, e6, hS⟩ := bn_s hS
  refine ev_putI pm178 i178_11 rfl rfl rfl e6 rfl ?_
  cases hS
  exact ev_return pm178 i178_14 rfl rfl rfl
def F_cs_back (a0 : Nat) (a1 : Int32) (h : Hp) : Option (Int32 × Hp) :=
  ck h a0 11 (bn (gR h a0 11 7) fun x1 =>
  bn (gI h x1 3 4) fun x3 =>
  bn (F_cs_outside a1 (0 : Int32) (x3 - (1 : Int32))) fun x6 =>
  bd (F_cs_refused a0 x6 (0 : Int32) h) fun x8 h9 =>
  if x8 = (0 : Int32) then
    (bn (gR h9 a0 11 7) fun x10 =>
    bn (gR h9 a0 11 4) fun x12 =>
    bn (F_me_goBack x10 x12 a1 h9) fun h15 =>
    some ((1 : Int32), h15))
  else
    (some ((0 : Int32), h9)))
set_option maxRecDepth 20000 in
theorem K_cs_back {a0 : Nat} {a1 : Int32} {h : Hp} {v : Int32} {h' : Hp} (hS : F_cs_back a0 a1 h = some (v, h')) : kd h a0 = 11 := by
  unfold F_cs_back at hS
  exact (ck_s hS).1
set_option maxRecDepth 20000 in
theorem R_cs_back (d : Nat) (hd : 2 ≤ d) {a0 : Nat} {a1 : Int32} {h : Hp} {v : Int32} {h' : Hp} (hS : F_cs_back a0 a1 h = some (v, h')) : Ev P d 177 (0, [.ref a0, .int a1], [], h) (some (.int v), h') := by
  unfold F_cs_back at hS
  replace hS := (ck_s hS).2
  refine ev_aload_n pm177 i177_0 rfl rfl rfl ?_
  refine ev_iload_n pm177 i177_1 rfl rfl rfl ?_
  refine ev_iconst (v := 0) pm177 i177_2 rfl (by decide) rfl ?_
  refine ev_aload_n pm177 i177_3 rfl rfl rfl ?_
  obtain ⟨x1, e2, hS⟩ := bn_s hS
  refine ev_getR pm177 i177_4 rfl rfl rfl e2 rfl ?_
  obtain ⟨x3, e4, hS⟩ := bn_s hS
  refine ev_getI pm177 i177_7 rfl rfl (by decide) e4 rfl ?_
  refine ev_iconst (v := 1) pm177 i177_10 rfl (by decide) rfl ?_
  refine ev_b2 (f := fun x y => x - y) pm177 i177_11 rfl (fun _ _ _ _ => rfl) rfl ?_
  obtain ⟨x6, e5, hS⟩ := bn_s hS
  refine ev_callS (sa := [.int (x3 - (1 : Int32)), .int (0 : Int32), .int a1]) (rest := [.ref a0]) (st' := [.int x6, .ref a0]) (ls0 := [.int a1, .int (0 : Int32), .int (x3 - (1 : Int32))]) (rv := some (.int x6)) pm177 i177_12 rfl rfl pm17 (by decide) rfl rfl (Nat.le_of_ble_eq_true rfl) (by omega) rfl (R_cs_outside (d - 1) (by omega) e5) (by simp) rfl rfl ?_
  refine ev_iconst (v := 0) pm177 i177_15 rfl (by decide) rfl ?_
  obtain ⟨x8, h9, e7, hS⟩ := bd_s hS
  refine ev_callV (sa := [.int (0 : Int32), .int x6]) (rest := []) (st' := [.int x8]) (ls0 := [.ref a0, .int x6, .int (0 : Int32)]) (rv := some (.int x8)) pm177 i177_16 rfl rfl pm18 (by decide) (K_cs_refused e7) rfl rfl (Nat.le_of_ble_eq_true rfl) (by omega) rfl (R_cs_refused (d - 1) (by omega) e7) (by simp) rfl rfl ?_
  by_cases c413 : x8 = (0 : Int32)
  · rw [if_pos c413] at hS
    refine ev_if_eq_t (t := 24) pm177 i177_19 rfl c413 rfl rfl ?_
    refine ev_aload_n pm177 i177_24 rfl rfl rfl ?_
    obtain ⟨x10, e11, hS⟩ := bn_s hS
    refine ev_getR pm177 i177_25 rfl rfl rfl e11 rfl ?_
    refine ev_aload_n pm177 i177_28 rfl rfl rfl ?_
    obtain ⟨x12, e13, hS⟩ := bn_s hS
    refine ev_getR pm177 i177_29 rfl rfl rfl e13 rfl ?_
    refine ev_iload_n pm177 i177_32 rfl rfl rfl ?_
    obtain ⟨h15, e14, hS⟩ := bn_s hS
    refine ev_callV (sa := [.int a1, .ref x12]) (rest := []) (st' := []) (ls0 := [.ref x10, .ref x12, .int a1]) (rv := none) pm177 i177_33 rfl rfl pm178 (by decide) (K_me_goBack e14) rfl rfl (Nat.le_of_ble_eq_true rfl) (by omega) rfl (R_me_goBack (d - 1) (by omega) e14) (by simp) rfl rfl ?_
    refine ev_iconst (v := 1) pm177 i177_36 rfl (by decide) rfl ?_
    cases hS
    exact ev_ireturn pm177 i177_37 rfl (by decide) rfl
  · rw [if_neg c413] at hS
    refine ev_if_eq_f (t := 24) pm177 i177_19 rfl c413 rfl rfl ?_
    refine ev_iconst (v := 0) pm177 i177_22 rfl (by decide) rfl ?_
    cases hS
    exact ev_ireturn pm177 i177_23 rfl (by decide) rfl
def F_cs_size (a0 : Nat) (a1 : Int32) (h : Hp) : Option Int32 :=
  ck h a0 11 (if (a1).toInt < 0 ∨ 12 < (a1).toInt then
    (some (-1 : Int32))
  else if a1 = (0 : Int32) then
    (bn (gR h a0 11 3) fun x1 =>
    bn (gI h x1 10 0) fun x3 =>
    some x3)
  else if a1 = (1 : Int32) then
    (bn (gR h a0 11 3) fun x5 =>
    bn (gI h x5 10 1) fun x7 =>
    some x7)
  else if a1 = (2 : Int32) then
    (bn (gR h a0 11 3) fun x9 =>
    bn (gI h x9 10 5) fun x11 =>
    some x11)
  else if a1 = (3 : Int32) then
    (bn (gR h a0 11 3) fun x13 =>
    bn (gI h x13 10 8) fun x15 =>
    some x15)
  else if a1 = (4 : Int32) then
    (bn (gR h a0 11 3) fun x17 =>
    bn (gI h x17 10 11) fun x19 =>
    some x19)
  else if a1 = (5 : Int32) then
    (bn (gR h a0 11 3) fun x21 =>
    bn (gI h x21 10 14) fun x23 =>
    some x23)
  else if a1 = (6 : Int32) then
    (bn (gR h a0 11 3) fun x25 =>
    bn (gR h x25 10 18) fun x27 =>
    bn (gI h x27 1 0) fun x29 =>
    some x29)
  else if a1 = (7 : Int32) then
    (bn (gR h a0 11 3) fun x31 =>
    bn (gR h x31 10 18) fun x33 =>
    bn (gI h x33 1 4) fun x35 =>
    some x35)
  else if a1 = (8 : Int32) then
    (bn (gR h a0 11 4) fun x37 =>
    bn (gI h x37 8 4) fun x39 =>
    some x39)
  else if a1 = (9 : Int32) then
    (bn (gR h a0 11 4) fun x41 =>
    bn (gI h x41 8 3) fun x43 =>
    some x43)
  else if a1 = (10 : Int32) then
    (bn (gR h a0 11 7) fun x45 =>
    bn (gI h x45 3 3) fun x47 =>
    some x47)
  else if a1 = (11 : Int32) then
    (bn (gR h a0 11 7) fun x49 =>
    bn (gI h x49 3 4) fun x51 =>
    some x51)
  else if a1 = (12 : Int32) then
    (bn (gI h a0 11 1) fun x53 =>
    some x53)
  else none)
set_option maxRecDepth 20000 in
theorem K_cs_size {a0 : Nat} {a1 : Int32} {h : Hp} {v : Int32} (hS : F_cs_size a0 a1 h = some v) : kd h a0 = 11 := by
  unfold F_cs_size at hS
  exact (ck_s hS).1
set_option maxRecDepth 20000 in
theorem R_cs_size (d : Nat) (hd : 0 ≤ d) {a0 : Nat} {a1 : Int32} {h : Hp} {v : Int32} (hS : F_cs_size a0 a1 h = some v) : Ev P d 179 (0, [.ref a0, .int a1], [], h) (some (.int v), h) := by
  unfold F_cs_size at hS
  replace hS := (ck_s hS).2
  refine ev_iload_n pm179 i179_0 rfl rfl rfl ?_
  by_cases c414 : (a1).toInt < 0 ∨ 12 < (a1).toInt
  · rw [if_pos c414] at hS
    refine ev_tabO (t := 175) pm179 i179_1 rfl c414 rfl ?_
    refine ev_iconst (v := -1) pm179 i179_175 rfl (by decide) rfl ?_
    cases hS
    exact ev_ireturn pm179 i179_176 rfl rfl rfl
  rw [if_neg c414] at hS
  by_cases c415 : a1 = (0 : Int32)
  · rw [if_pos c415] at hS
    refine ev_tabI (t := 68) (off := 67) pm179 i179_1 rfl (0 : Int32) c415 (by decide) rfl rfl ?_
    refine ev_aload_n pm179 i179_68 rfl rfl rfl ?_
    obtain ⟨x1, e2, hS⟩ := bn_s hS
    refine ev_getR pm179 i179_69 rfl rfl rfl e2 rfl ?_
    obtain ⟨x3, e4, hS⟩ := bn_s hS
    refine ev_getI pm179 i179_72 rfl rfl (by decide) e4 rfl ?_
    cases hS
    exact ev_ireturn pm179 i179_75 rfl rfl rfl
  rw [if_neg c415] at hS
  by_cases c416 : a1 = (1 : Int32)
  · rw [if_pos c416] at hS
    refine ev_tabI (t := 76) (off := 75) pm179 i179_1 rfl (1 : Int32) c416 (by decide) rfl rfl ?_
    refine ev_aload_n pm179 i179_76 rfl rfl rfl ?_
    obtain ⟨x5, e6, hS⟩ := bn_s hS
    refine ev_getR pm179 i179_77 rfl rfl rfl e6 rfl ?_
    obtain ⟨x7, e8, hS⟩ := bn_s hS
    refine ev_getI pm179 i179_80 rfl rfl (by decide) e8 rfl ?_
    cases hS
    exact ev_ireturn pm179 i179_83 rfl rfl rfl
  rw [if_neg c416] at hS
  by_cases c417 : a1 = (2 : Int32)
  · rw [if_pos c417] at hS
    refine ev_tabI (t := 84) (off := 83) pm179 i179_1 rfl (2 : Int32) c417 (by decide) rfl rfl ?_
    refine ev_aload_n pm179 i179_84 rfl rfl rfl ?_
    obtain ⟨x9, e10, hS⟩ := bn_s hS
    refine ev_getR pm179 i179_85 rfl rfl rfl e10 rfl ?_
    obtain ⟨x11, e12, hS⟩ := bn_s hS
    refine ev_getI pm179 i179_88 rfl rfl (by decide) e12 rfl ?_
    cases hS
    exact ev_ireturn pm179 i179_91 rfl rfl rfl
  rw [if_neg c417] at hS
  by_cases c418 : a1 = (3 : Int32)
  · rw [if_pos c418] at hS
    refine ev_tabI (t := 92) (off := 91) pm179 i179_1 rfl (3 : Int32) c418 (by decide) rfl rfl ?_
    refine ev_aload_n pm179 i179_92 rfl rfl rfl ?_
    obtain ⟨x13, e14, hS⟩ := bn_s hS
    refine ev_getR pm179 i179_93 rfl rfl rfl e14 rfl ?_
    obtain ⟨x15, e16, hS⟩ := bn_s hS
    refine ev_getI pm179 i179_96 rfl rfl (by decide) e16 rfl ?_
    cases hS
    exact ev_ireturn pm179 i179_99 rfl rfl rfl
  rw [if_neg c418] at hS
  by_cases c419 : a1 = (4 : Int32)
  · rw [if_pos c419] at hS
    refine ev_tabI (t := 100) (off := 99) pm179 i179_1 rfl (4 : Int32) c419 (by decide) rfl rfl ?_
    refine ev_aload_n pm179 i179_100 rfl rfl rfl ?_
    obtain ⟨x17, e18, hS⟩ := bn_s hS
    refine ev_getR pm179 i179_101 rfl rfl rfl e18 rfl ?_
    obtain ⟨x19, e20, hS⟩ := bn_s hS
    refine ev_getI pm179 i179_104 rfl rfl (by decide) e20 rfl ?_
    cases hS
    exact ev_ireturn pm179 i179_107 rfl rfl rfl
  rw [if_neg c419] at hS
  by_cases c420 : a1 = (5 : Int32)
  · rw [if_pos c420] at hS
    refine ev_tabI (t := 108) (off := 107) pm179 i179_1 rfl (5 : Int32) c420 (by decide) rfl rfl ?_
    refine ev_aload_n pm179 i179_108 rfl rfl rfl ?_
    obtain ⟨x21, e22, hS⟩ := bn_s hS
    refine ev_getR pm179 i179_109 rfl rfl rfl e22 rfl ?_
    obtain ⟨x23, e24, hS⟩ := bn_s hS
    refine ev_getI pm179 i179_112 rfl rfl (by decide) e24 rfl ?_
    cases hS
    exact ev_ireturn pm179 i179_115 rfl rfl rfl
  rw [if_neg c420] at hS
  by_cases c421 : a1 = (6 : Int32)
  · rw [if_pos c421] at hS
    refine ev_tabI (t := 116) (off := 115) pm179 i179_1 rfl (6 : Int32) c421 (by decide) rfl rfl ?_
    refine ev_aload_n pm179 i179_116 rfl rfl rfl ?_
    obtain ⟨x25, e26, hS⟩ := bn_s hS
    refine ev_getR pm179 i179_117 rfl rfl rfl e26 rfl ?_
    obtain ⟨x27, e28, hS⟩ := bn_s hS
    refine ev_getR pm179 i179_120 rfl rfl rfl e28 rfl ?_
    obtain ⟨x29, e30, hS⟩ := bn_s hS
    refine ev_getI pm179 i179_123 rfl rfl (by decide) e30 rfl ?_
    cases hS
    exact ev_ireturn pm179 i179_126 rfl rfl rfl
  rw [if_neg c421] at hS
  by_cases c422 : a1 = (7 : Int32)
  · rw [if_pos c422] at hS
    refine ev_tabI (t := 127) (off := 126) pm179 i179_1 rfl (7 : Int32) c422 (by decide) rfl rfl ?_
    refine ev_aload_n pm179 i179_127 rfl rfl rfl ?_
    obtain ⟨x31, e32, hS⟩ := bn_s hS
    refine ev_getR pm179 i179_128 rfl rfl rfl e32 rfl ?_
    obtain ⟨x33, e34, hS⟩ := bn_s hS
    refine ev_getR pm179 i179_131 rfl rfl rfl e34 rfl ?_
    obtain ⟨x35, e36, hS⟩ := bn_s hS
    refine ev_getI pm179 i179_134 rfl rfl (by decide) e36 rfl ?_
    cases hS
    exact ev_ireturn pm179 i179_137 rfl rfl rfl
  rw [if_neg c422] at hS
  by_cases c423 : a1 = (8 : Int32)
  · rw [if_pos c423] at hS
    refine ev_tabI (t := 138) (off := 137) pm179 i179_1 rfl (8 : Int32) c423 (by decide) rfl rfl ?_
    refine ev_aload_n pm179 i179_138 rfl rfl rfl ?_
    obtain ⟨x37, e38, hS⟩ := bn_s hS
    refine ev_getR pm179 i179_139 rfl rfl rfl e38 rfl ?_
    obtain ⟨x39, e40, hS⟩ := bn_s hS
    refine ev_getI pm179 i179_142 rfl rfl (by decide) e40 rfl ?_
    cases hS
    exact ev_ireturn pm179 i179_145 rfl rfl rfl
  rw [if_neg c423] at hS
  by_cases c424 : a1 = (9 : Int32)
  · rw [if_pos c424] at hS
    refine ev_tabI (t := 146) (off := 145) pm179 i179_1 rfl (9 : Int32) c424 (by decide) rfl rfl ?_
    refine ev_aload_n pm179 i179_146 rfl rfl rfl ?_
    obtain ⟨x41, e42, hS⟩ := bn_s hS
    refine ev_getR pm179 i179_147 rfl rfl rfl e42 rfl ?_
    obtain ⟨x43, e44, hS⟩ := bn_s hS
    refine ev_getI pm179 i179_150 rfl rfl (by decide) e44 rfl ?_
    cases hS
    exact ev_ireturn pm179 i179_153 rfl rfl rfl
  rw [if_neg c424] at hS
  by_cases c425 : a1 = (10 : Int32)
  · rw [if_pos c425] at hS
    refine ev_tabI (t := 154) (off := 153) pm179 i179_1 rfl (10 : Int32) c425 (by decide) rfl rfl ?_
    refine ev_aload_n pm179 i179_154 rfl rfl rfl ?_
    obtain ⟨x45, e46, hS⟩ := bn_s hS
    refine ev_getR pm179 i179_155 rfl rfl rfl e46 rfl ?_
    obtain ⟨x47, e48, hS⟩ := bn_s hS
    refine ev_getI pm179 i179_158 rfl rfl (by decide) e48 rfl ?_
    cases hS
    exact ev_ireturn pm179 i179_161 rfl rfl rfl
  rw [if_neg c425] at hS
  by_cases c426 : a1 = (11 : Int32)
  · rw [if_pos c426] at hS
    refine ev_tabI (t := 162) (off := 161) pm179 i179_1 rfl (11 : Int32) c426 (by decide) rfl rfl ?_
    refine ev_aload_n pm179 i179_162 rfl rfl rfl ?_
    obtain ⟨x49, e50, hS⟩ := bn_s hS
    refine ev_getR pm179 i179_163 rfl rfl rfl e50 rfl ?_
    obtain ⟨x51, e52, hS⟩ := bn_s hS
    refine ev_getI pm179 i179_166 rfl rfl (by decide) e52 rfl ?_
    cases hS
    exact ev_ireturn pm179 i179_169 rfl rfl rfl
  rw [if_neg c426] at hS
  by_cases c427 : a1 = (12 : Int32)
  · rw [if_pos c427] at hS
    refine ev_tabI (t := 170) (off := 169) pm179 i179_1 rfl (12 : Int32) c427 (by decide) rfl rfl ?_
    refine ev_aload_n pm179 i179_170 rfl rfl rfl ?_
    obtain ⟨x53, e54, hS⟩ := bn_s hS
    refine ev_getI pm179 i179_171 rfl rfl (by decide) e54 rfl ?_
    cases hS
    exact ev_ireturn pm179 i179_174 rfl rfl rfl
  rw [if_neg c427] at hS
  cases hS
def F_cs_trouble (a0 : Nat) (h : Hp) : Option Int32 :=
  ck h a0 11 (bn (gI h a0 11 12) fun x1 =>
  some x1)
set_option maxRecDepth 20000 in
theorem K_cs_trouble {a0 : Nat} {h : Hp} {v : Int32} (hS : F_cs_trouble a0 h = some v) : kd h a0 = 11 := by
  unfold F_cs_trouble at hS
  exact (ck_s hS).1
set_option maxRecDepth 20000 in
theorem R_cs_trouble (d : Nat) (hd : 0 ≤ d) {a0 : Nat} {h : Hp} {v : Int32} (hS : F_cs_trouble a0 h = some v) : Ev P d 180 (0, [.ref a0], [], h) (some (.int v), h) := by
  unfold F_cs_trouble at hS
  replace hS := (ck_s hS).2
  refine ev_aload_n pm180 i180_0 rfl rfl rfl ?_
  obtain ⟨x1, e2, hS⟩ := bn_s hS
  refine ev_getI pm180 i180_1 rfl rfl (by decide) e2 rfl ?_
  cases hS
  exact ev_ireturn pm180 i180_4 rfl rfl rfl
def F_md_init (a0 : Nat) (h : Hp) : Option Hp :=
  bn (pI h a0 13 2 (-1 : Int32)) fun h1 =>
  bd (nA h1 101 (1000 : Int32)) fun x3 h4 =>
  bn (pR h4 a0 13 5 (some x3)) fun h6 =>
  bd (nA h6 100 (31 : Int32)) fun x8 h9 =>
  bn (pR h9 a0 13 15 (some x8)) fun h11 =>
  bd (nA h11 100 (31 : Int32)) fun x13 h14 =>
  bn (pR h14 a0 13 16 (some x13)) fun h16 =>
  bd (nA h16 100 (496 : Int32)) fun x18 h19 =>
  bn (pR h19 a0 13 17 (some x18)) fun h21 =>
  bd (nA h21 100 (93 : Int32)) fun x23 h24 =>
  bn (pR h24 a0 13 18 (some x23)) fun h26 =>
  bd (nA h26 100 (3 : Int32)) fun x28 h29 =>
  bn (pR h29 a0 13 21 (some x28)) fun h31 =>
  bd (nA h31 100 (3 : Int32)) fun x33 h34 =>
  bn (pR h34 a0 13 22 (some x33)) fun h36 =>
  bd (nA h36 100 (3 : Int32)) fun x38 h39 =>
  bn (pR h39 a0 13 23 (some x38)) fun h41 =>
  bd (nA h41 100 (3 : Int32)) fun x43 h44 =>
  bn (pR h44 a0 13 24 (some x43)) fun h46 =>
  bd (nA h46 100 (3 : Int32)) fun x48 h49 =>
  bn (pR h49 a0 13 25 (some x48)) fun h51 =>
  bd (nA h51 100 (900 : Int32)) fun x53 h54 =>
  bn (pR h54 a0 13 30 (some x53)) fun h56 =>
  bd (nA h56 100 (4 : Int32)) fun x58 h59 =>
  bn (pR h59 a0 13 31 (some x58)) fun h61 =>
  some h61
set_option maxRecDepth 20000 in
theorem R_md_init (d : Nat) (hd : 0 ≤ d) {a0 : Nat} {h : Hp} {h' : Hp} (hS : F_md_init a0 h = some h') : Ev P d 182 (0, [.ref a0], [], h) (none, h') := by
  unfold F_md_init at hS
  refine ev_aload_n pm182 i182_0 rfl rfl rfl ?_
  refine ev_objinit pm182 i182_1 rfl rfl (Nat.le_of_ble_eq_true rfl) rfl ?_
  refine ev_aload_n pm182 i182_4 rfl rfl rfl ?_
  refine ev_iconst (v := -1) pm182 i182_5 rfl (by decide) rfl ?_
  obtain ⟨h1, e2, hS⟩ := bn_s hS
  refine ev_putI pm182 i182_6 rfl rfl rfl e2 rfl ?_
  refine ev_aload_n pm182 i182_9 rfl rfl rfl ?_
  refine ev_sipush (v := 1000) pm182 i182_10 rfl (by decide) rfl ?_
  obtain ⟨x3, h4, e5, hS⟩ := bd_s hS
  refine ev_newB pm182 i182_13 rfl e5 rfl ?_
  obtain ⟨h6, e7, hS⟩ := bn_s hS
  refine ev_putR pm182 i182_15 rfl rfl rfl e7 rfl ?_
  refine ev_aload_n pm182 i182_18 rfl rfl rfl ?_
  refine ev_bipush (v := 31) pm182 i182_19 rfl (by decide) rfl ?_
  obtain ⟨x8, h9, e10, hS⟩ := bd_s hS
  refine ev_newI pm182 i182_21 rfl e10 rfl ?_
  obtain ⟨h11, e12, hS⟩ := bn_s hS
  refine ev_putR pm182 i182_23 rfl rfl rfl e12 rfl ?_
  refine ev_aload_n pm182 i182_26 rfl rfl rfl ?_
  refine ev_bipush (v := 31) pm182 i182_27 rfl (by decide) rfl ?_
  obtain ⟨x13, h14, e15, hS⟩ := bd_s hS
  refine ev_newI pm182 i182_29 rfl e15 rfl ?_
  obtain ⟨h16, e17, hS⟩ := bn_s hS
  refine ev_putR pm182 i182_31 rfl rfl rfl e17 rfl ?_
  refine ev_aload_n pm182 i182_34 rfl rfl rfl ?_
  refine ev_sipush (v := 496) pm182 i182_35 rfl (by decide) rfl ?_
  obtain ⟨x18, h19, e20, hS⟩ := bd_s hS
  refine ev_newI pm182 i182_38 rfl e20 rfl ?_
  obtain ⟨h21, e22, hS⟩ := bn_s hS
  refine ev_putR pm182 i182_40 rfl rfl rfl e22 rfl ?_
  refine ev_aload_n pm182 i182_43 rfl rfl rfl ?_
  refine ev_bipush (v := 93) pm182 i182_44 rfl (by decide) rfl ?_
  obtain ⟨x23, h24, e25, hS⟩ := bd_s hS
  refine ev_newI pm182 i182_46 rfl e25 rfl ?_
  obtain ⟨h26, e27, hS⟩ := bn_s hS
  refine ev_putR pm182 i182_48 rfl rfl rfl e27 rfl ?_
  refine ev_aload_n pm182 i182_51 rfl rfl rfl ?_
  refine ev_iconst (v := 3) pm182 i182_52 rfl (by decide) rfl ?_
  obtain ⟨x28, h29, e30, hS⟩ := bd_s hS
  refine ev_newI pm182 i182_53 rfl e30 rfl ?_
  obtain ⟨h31, e32, hS⟩ := bn_s hS
  refine ev_putR pm182 i182_55 rfl rfl rfl e32 rfl ?_
  refine ev_aload_n pm182 i182_58 rfl rfl rfl ?_
  refine ev_iconst (v := 3) pm182 i182_59 rfl (by decide) rfl ?_
  obtain ⟨x33, h34, e35, hS⟩ := bd_s hS
  refine ev_newI pm182 i182_60 rfl e35 rfl ?_
  obtain ⟨h36, e37, hS⟩ := bn_s hS
  refine ev_putR pm182 i182_62 rfl rfl rfl e37 rfl ?_
  refine ev_aload_n pm182 i182_65 rfl rfl rfl ?_
  refine ev_iconst (v := 3) pm182 i182_66 rfl (by decide) rfl ?_
  obtain ⟨x38, h39, e40, hS⟩ := bd_s hS
  refine ev_newI pm182 i182_67 rfl e40 rfl ?_
  obtain ⟨h41, e42, hS⟩ := bn_s hS
  refine ev_putR pm182 i182_69 rfl rfl rfl e42 rfl ?_
  refine ev_aload_n pm182 i182_72 rfl rfl rfl ?_
  refine ev_iconst (v := 3) pm182 i182_73 rfl (by decide) rfl ?_
  obtain ⟨x43, h44, e45, hS⟩ := bd_s hS
  refine ev_newI pm182 i182_74 rfl e45 rfl ?_
  obtain ⟨h46, e47, hS⟩ := bn_s hS
  refine ev_putR pm182 i182_76 rfl rfl rfl e47 rfl ?_
  refine ev_aload_n pm182 i182_79 rfl rfl rfl ?_
  refine ev_iconst (v := 3) pm182 i182_80 rfl (by decide) rfl ?_
  obtain ⟨x48, h49, e50, hS⟩ := bd_s hS
  refine ev_newI pm182 i182_81 rfl e50 rfl ?_
  obtain ⟨h51, e52, hS⟩ := bn_s hS
  refine ev_putR pm182 i182_83 rfl rfl rfl e52 rfl ?_
  refine ev_aload_n pm182 i182_86 rfl rfl rfl ?_
  refine ev_sipush (v := 900) pm182 i182_87 rfl (by decide) rfl ?_
  obtain ⟨x53, h54, e55, hS⟩ := bd_s hS
  refine ev_newI pm182 i182_90 rfl e55 rfl ?_
  obtain ⟨h56, e57, hS⟩ := bn_s hS
  refine ev_putR pm182 i182_92 rfl rfl rfl e57 rfl ?_
  refine ev_aload_n pm182 i182_95 rfl rfl rfl ?_
  refine ev_iconst (v := 4) pm182 i182_96 rfl (by decide) rfl ?_
  obtain ⟨x58, h59, e60, hS⟩ := bd_s hS
  refine ev_newI pm182 i182_97 rfl e60 rfl ?_
  obtain ⟨h61, e62, hS⟩ := bn_s hS
  refine ev_putR pm182 i182_99 rfl rfl rfl e62 rfl ?_
  cases hS
  exact ev_return pm182 i182_102 rfl rfl rfl
def F_md_thrown (a0 : Nat) (h : Hp) : Option Int32 :=
  ck h a0 13 (bn (gI h a0 13 0) fun x1 =>
  some x1)
set_option maxRecDepth 20000 in
theorem K_md_thrown {a0 : Nat} {h : Hp} {v : Int32} (hS : F_md_thrown a0 h = some v) : kd h a0 = 13 := by
  unfold F_md_thrown at hS
  exact (ck_s hS).1
set_option maxRecDepth 20000 in
theorem R_md_thrown (d : Nat) (hd : 0 ≤ d) {a0 : Nat} {h : Hp} {v : Int32} (hS : F_md_thrown a0 h = some v) : Ev P d 183 (0, [.ref a0], [], h) (some (.int v), h) := by
  unfold F_md_thrown at hS
  replace hS := (ck_s hS).2
  refine ev_aload_n pm183 i183_0 rfl rfl rfl ?_
  obtain ⟨x1, e2, hS⟩ := bn_s hS
  refine ev_getI pm183 i183_1 rfl rfl (by decide) e2 rfl ?_
  cases hS
  exact ev_ireturn pm183 i183_4 rfl rfl rfl
def B_md_feed_23 (l0 : Nat) (l1 : Int32) (l2 : Int32) (l3 : Int32) (l4 : Int32) (l5 : Int32) (s : Int32) (h : Hp) : Option (((Int32) ⊕ (Unit)) × Hp) :=
  if s < (20 : Int32) then
    (bn (if s < (4 : Int32) then
        (some l1)
      else
        (if s < (8 : Int32) then
          (some l2)
        else
          (if s < (12 : Int32) then
            (some l3)
          else
            (if s < (16 : Int32) then
              (some l4)
            else
              (some l5))))) fun q5 =>
    bn (gR h l0 13 5) fun x6 =>
    bn (gI h l0 13 6) fun x8 =>
    bn (rm32 s (4 : Int32)) fun x10 =>
    bn (sI h 101 x6 x8 ((q5 >>> (((24 : Int32) - ((8 : Int32) * x10)) &&& 31)).toInt8.toInt32).toInt8.toInt32) fun h12 =>
    bn (gI h12 l0 13 6) fun x14 =>
    bn (pI h12 l0 13 6 (x14 + (1 : Int32))) fun h16 =>
    some (.inl (s + (1 : Int32)), h16))
  else
    (some (.inr (), h))
set_option maxRecDepth 20000 in
theorem L_md_feed_23 (d : Nat) (hd : 0 ≤ d) {l0 : Nat} {l1 : Int32} {l2 : Int32} {l3 : Int32} {l4 : Int32} {l5 : Int32} : ∀ (n : Nat) (s : Int32) (h : Hp) (x : Unit) (hx : Hp), lp (B_md_feed_23 l0 l1 l2 l3 l4 l5) n s h = some (x, hx) → ∀ r, Ev P d 184 (117, [.ref l0, unk, unk, unk, unk, unk, unk, unk], [], hx) r → Ev P d 184 (23, [.ref l0, .int l1, .int l2, .int l3, .int l4, .int l5, .int s, unk], [], h) r := by
  refine lp_ev (G0 := fun (s : Int32) h r => Ev P d 184 (23, [.ref l0, .int l1, .int l2, .int l3, .int l4, .int l5, .int s, unk], [], h) r) (X := fun (x : Unit) hx r => Ev P d 184 (117, [.ref l0, unk, unk, unk, unk, unk, unk, unk], [], hx) r) ?_
  intro s h y h9 hS r hK
  unfold B_md_feed_23 at hS
  show Ev P d 184 (23, [.ref l0, .int l1, .int l2, .int l3, .int l4, .int l5, .int s, unk], [], h) r
  refine ev_iload pm184 i184_23 rfl rfl rfl ?_
  refine ev_bipush (v := 20) pm184 i184_25 rfl (by decide) rfl ?_
  by_cases c428 : s < (20 : Int32)
  · rw [if_pos c428] at hS
    refine ev_icmp_ge_t (t := 117) pm184 i184_27 rfl c428 rfl rfl ?_
    refine ev_iload pm184 i184_30 rfl rfl rfl ?_
    refine ev_iconst (v := 4) pm184 i184_32 rfl (by decide) rfl ?_
    obtain ⟨q5, I429, hS⟩ := bn_s hS
    have J1 : Ev P d 184 (76, [.ref l0, .int l1, .int l2, .int l3, .int l4, .int l5, .int s, unk], [.int q5], h) r := by
      refine ev_istore (ls' := [.ref l0, .int l1, .int l2, .int l3, .int l4, .int l5, .int s, .int q5]) pm184 i184_76 rfl (Nat.le_of_ble_eq_true rfl) rfl rfl ?_
      refine ev_aload_n pm184 i184_78 rfl rfl rfl ?_
      obtain ⟨x6, e7, hS⟩ := bn_s hS
      refine ev_getR pm184 i184_79 rfl rfl rfl e7 rfl ?_
      refine ev_aload_n pm184 i184_82 rfl rfl rfl ?_
      obtain ⟨x8, e9, hS⟩ := bn_s hS
      refine ev_getI pm184 i184_83 rfl rfl (by decide) e9 rfl ?_
      refine ev_iload pm184 i184_86 rfl rfl rfl ?_
      refine ev_bipush (v := 24) pm184 i184_88 rfl (by decide) rfl ?_
      refine ev_bipush (v := 8) pm184 i184_90 rfl (by decide) rfl ?_
      refine ev_iload pm184 i184_92 rfl rfl rfl ?_
      refine ev_iconst (v := 4) pm184 i184_94 rfl (by decide) rfl ?_
      obtain ⟨x10, e11, hS⟩ := bn_s hS
      refine ev_irem pm184 i184_95 rfl e11 rfl ?_
      refine ev_b2 (f := fun x y => x * y) pm184 i184_96 rfl (fun _ _ _ _ => rfl) rfl ?_
      refine ev_b2 (f := fun x y => x - y) pm184 i184_97 rfl (fun _ _ _ _ => rfl) rfl ?_
      refine ev_b2 (f := fun x y => x >>> (y &&& 31)) pm184 i184_98 rfl (fun _ _ _ _ => rfl) rfl ?_
      refine ev_i2b pm184 i184_99 rfl rfl ?_
      obtain ⟨h12, e13, hS⟩ := bn_s hS
      refine ev_bast pm184 i184_100 rfl e13 rfl ?_
      refine ev_aload_n pm184 i184_101 rfl rfl rfl ?_
      refine ev_dup pm184 i184_102 rfl rfl rfl ?_
      obtain ⟨x14, e15, hS⟩ := bn_s hS
      refine ev_getI pm184 i184_103 rfl rfl (by decide) e15 rfl ?_
      refine ev_iconst (v := 1) pm184 i184_106 rfl (by decide) rfl ?_
      refine ev_b2 (f := fun x y => x + y) pm184 i184_107 rfl (fun _ _ _ _ => rfl) rfl ?_
      obtain ⟨h16, e17, hS⟩ := bn_s hS
      refine ev_putI pm184 i184_108 rfl rfl rfl e17 rfl ?_
      refine ev_iinc (v := 1) (ls' := [.ref l0, .int l1, .int l2, .int l3, .int l4, .int l5, .int (s + (1 : Int32)), .int q5]) pm184 i184_111 rfl rfl (by decide) rfl rfl ?_
      refine ev_goto (t := 23) pm184 i184_114 rfl rfl ?_
      refine ev_kls (ls' := [.ref l0, .int l1, .int l2, .int l3, .int l4, .int l5, .int (s + (1 : Int32)), unk]) pm184 i184_23 rfl rfl ?_
      cases hS
      exact hK
    clear hS
    by_cases c429 : s < (4 : Int32)
    · rw [if_pos c429] at I429
      refine ev_icmp_ge_t (t := 40) pm184 i184_33 rfl c429 rfl rfl ?_
      refine ev_iload_n pm184 i184_36 rfl rfl rfl ?_
      refine ev_goto (t := 76) pm184 i184_37 rfl rfl ?_
      cases I429
      exact J1
    · rw [if_neg c429] at I429
      refine ev_icmp_ge_f (t := 40) pm184 i184_33 rfl c429 rfl rfl ?_
      refine ev_iload pm184 i184_40 rfl rfl rfl ?_
      refine ev_bipush (v := 8) pm184 i184_42 rfl (by decide) rfl ?_
      by_cases c430 : s < (8 : Int32)
      · rw [if_pos c430] at I429
        refine ev_icmp_ge_t (t := 51) pm184 i184_44 rfl c430 rfl rfl ?_
        refine ev_iload_n pm184 i184_47 rfl rfl rfl ?_
        refine ev_goto (t := 76) pm184 i184_48 rfl rfl ?_
        cases I429
        exact J1
      · rw [if_neg c430] at I429
        refine ev_icmp_ge_f (t := 51) pm184 i184_44 rfl c430 rfl rfl ?_
        refine ev_iload pm184 i184_51 rfl rfl rfl ?_
        refine ev_bipush (v := 12) pm184 i184_53 rfl (by decide) rfl ?_
        by_cases c431 : s < (12 : Int32)
        · rw [if_pos c431] at I429
          refine ev_icmp_ge_t (t := 62) pm184 i184_55 rfl c431 rfl rfl ?_
          refine ev_iload_n pm184 i184_58 rfl rfl rfl ?_
          refine ev_goto (t := 76) pm184 i184_59 rfl rfl ?_
          cases I429
          exact J1
        · rw [if_neg c431] at I429
          refine ev_icmp_ge_f (t := 62) pm184 i184_55 rfl c431 rfl rfl ?_
          refine ev_iload pm184 i184_62 rfl rfl rfl ?_
          refine ev_bipush (v := 16) pm184 i184_64 rfl (by decide) rfl ?_
          by_cases c432 : s < (16 : Int32)
          · rw [if_pos c432] at I429
            refine ev_icmp_ge_t (t := 74) pm184 i184_66 rfl c432 rfl rfl ?_
            refine ev_iload pm184 i184_69 rfl rfl rfl ?_
            refine ev_goto (t := 76) pm184 i184_71 rfl rfl ?_
            cases I429
            exact J1
          · rw [if_neg c432] at I429
            refine ev_icmp_ge_f (t := 74) pm184 i184_66 rfl c432 rfl rfl ?_
            refine ev_iload pm184 i184_74 rfl rfl rfl ?_
            cases I429
            exact J1
  · rw [if_neg c428] at hS
    refine ev_icmp_ge_f (t := 117) pm184 i184_27 rfl c428 rfl rfl ?_
    refine ev_kls (ls' := [.ref l0, unk, unk, unk, unk, unk, unk, unk]) pm184 i184_117 rfl rfl ?_
    cases hS
    exact hK
def F_md_feed (a0 : Nat) (a1 : Int32) (a2 : Int32) (a3 : Int32) (a4 : Int32) (a5 : Int32) (h : Hp) : Option (Int32 × Hp) :=
  ck h a0 13 (bn (pI h a0 13 0 (0 : Int32)) fun h1 =>
  bn (gI h1 a0 13 6) fun x3 =>
  if (1000 : Int32) < (x3 + (20 : Int32)) then
    (some ((-1 : Int32), h1))
  else
    (bd (lp (B_md_feed_23 a0 a1 a2 a3 a4 a5) FU (0 : Int32) h1) fun x18 h20 =>
    bn (gI h20 a0 13 6) fun x21 =>
    some (x21, h20)))
set_option maxRecDepth 20000 in
theorem K_md_feed {a0 : Nat} {a1 : Int32} {a2 : Int32} {a3 : Int32} {a4 : Int32} {a5 : Int32} {h : Hp} {v : Int32} {h' : Hp} (hS : F_md_feed a0 a1 a2 a3 a4 a5 h = some (v, h')) : kd h a0 = 13 := by
  unfold F_md_feed at hS
  exact (ck_s hS).1
set_option maxRecDepth 20000 in
theorem R_md_feed (d : Nat) (hd : 0 ≤ d) {a0 : Nat} {a1 : Int32} {a2 : Int32} {a3 : Int32} {a4 : Int32} {a5 : Int32} {h : Hp} {v : Int32} {h' : Hp} (hS : F_md_feed a0 a1 a2 a3 a4 a5 h = some (v, h')) : Ev P d 184 (0, [.ref a0, .int a1, .int a2, .int a3, .int a4, .int a5, unk, unk], [], h) (some (.int v), h') := by
  unfold F_md_feed at hS
  replace hS := (ck_s hS).2
  refine ev_aload_n pm184 i184_0 rfl rfl rfl ?_
  refine ev_iconst (v := 0) pm184 i184_1 rfl (by decide) rfl ?_
  obtain ⟨h1, e2, hS⟩ := bn_s hS
  refine ev_putI pm184 i184_2 rfl rfl rfl e2 rfl ?_
  refine ev_aload_n pm184 i184_5 rfl rfl rfl ?_
  obtain ⟨x3, e4, hS⟩ := bn_s hS
  refine ev_getI pm184 i184_6 rfl rfl (by decide) e4 rfl ?_
  refine ev_bipush (v := 20) pm184 i184_9 rfl (by decide) rfl ?_
  refine ev_b2 (f := fun x y => x + y) pm184 i184_11 rfl (fun _ _ _ _ => rfl) rfl ?_
  refine ev_sipush (v := 1000) pm184 i184_12 rfl (by decide) rfl ?_
  by_cases c433 : (1000 : Int32) < (x3 + (20 : Int32))
  · rw [if_pos c433] at hS
    refine ev_icmp_le_t (t := 20) pm184 i184_15 rfl c433 rfl rfl ?_
    refine ev_iconst (v := -1) pm184 i184_18 rfl (by decide) rfl ?_
    cases hS
    exact ev_ireturn pm184 i184_19 rfl rfl rfl
  · rw [if_neg c433] at hS
    refine ev_icmp_le_f (t := 20) pm184 i184_15 rfl c433 rfl rfl ?_
    refine ev_iconst (v := 0) pm184 i184_20 rfl (by decide) rfl ?_
    refine ev_istore (ls' := [.ref a0, .int a1, .int a2, .int a3, .int a4, .int a5, .int (0 : Int32), unk]) pm184 i184_21 rfl (Nat.le_of_ble_eq_true rfl) rfl rfl ?_
    obtain ⟨x18, h20, e19, hS⟩ := bd_s hS
    refine L_md_feed_23 d (by omega) _ _ _ _ _ e19 _ ?_
    show Ev P d 184 (117, [.ref a0, unk, unk, unk, unk, unk, unk, unk], [], h20) _
    refine ev_aload_n pm184 i184_117 rfl rfl rfl ?_
    obtain ⟨x21, e22, hS⟩ := bn_s hS
    refine ev_getI pm184 i184_118 rfl rfl (by decide) e22 rfl ?_
    cases hS
    exact ev_ireturn pm184 i184_121 rfl rfl rfl
def F_md_refused (a0 : Nat) (a1 : Int32) (h : Hp) : Option (Int32 × Hp) :=
  ck h a0 13 (bn (pI h a0 13 1 a1) fun h1 =>
  bn (pI h1 a0 13 2 (-1 : Int32)) fun h3 =>
  some ((-1 : Int32), h3))
set_option maxRecDepth 20000 in
theorem K_md_refused {a0 : Nat} {a1 : Int32} {h : Hp} {v : Int32} {h' : Hp} (hS : F_md_refused a0 a1 h = some (v, h')) : kd h a0 = 13 := by
  unfold F_md_refused at hS
  exact (ck_s hS).1
set_option maxRecDepth 20000 in
theorem R_md_refused (d : Nat) (hd : 0 ≤ d) {a0 : Nat} {a1 : Int32} {h : Hp} {v : Int32} {h' : Hp} (hS : F_md_refused a0 a1 h = some (v, h')) : Ev P d 186 (0, [.ref a0, .int a1], [], h) (some (.int v), h') := by
  unfold F_md_refused at hS
  replace hS := (ck_s hS).2
  refine ev_aload_n pm186 i186_0 rfl rfl rfl ?_
  refine ev_iload_n pm186 i186_1 rfl rfl rfl ?_
  obtain ⟨h1, e2, hS⟩ := bn_s hS
  refine ev_putI pm186 i186_2 rfl rfl rfl e2 rfl ?_
  refine ev_aload_n pm186 i186_5 rfl rfl rfl ?_
  refine ev_iconst (v := -1) pm186 i186_6 rfl (by decide) rfl ?_
  obtain ⟨h3, e4, hS⟩ := bn_s hS
  refine ev_putI pm186 i186_7 rfl rfl rfl e4 rfl ?_
  refine ev_iconst (v := -1) pm186 i186_10 rfl (by decide) rfl ?_
  cases hS
  exact ev_ireturn pm186 i186_11 rfl rfl rfl
def F_la_init (a0 : Nat) (h : Hp) : Option Hp :=
  bn (pI h a0 12 0 (-1 : Int32)) fun h1 =>
  bd (nA h1 100 (5 : Int32)) fun x3 h4 =>
  bn (pR h4 a0 12 9 (some x3)) fun h6 =>
  bd (nA h6 100 (5 : Int32)) fun x8 h9 =>
  bn (pR h9 a0 12 10 (some x8)) fun h11 =>
  bd (nA h11 100 (25 : Int32)) fun x13 h14 =>
  bn (pR h14 a0 12 11 (some x13)) fun h16 =>
  bd (nA h16 100 (5 : Int32)) fun x18 h19 =>
  bn (pR h19 a0 12 12 (some x18)) fun h21 =>
  bd (nA h21 100 (5 : Int32)) fun x23 h24 =>
  bn (pR h24 a0 12 13 (some x23)) fun h26 =>
  bd (nA h26 100 (5 : Int32)) fun x28 h29 =>
  bn (pR h29 a0 12 14 (some x28)) fun h31 =>
  bd (nA h31 100 (3 : Int32)) fun x33 h34 =>
  bn (pR h34 a0 12 15 (some x33)) fun h36 =>
  bd (nA h36 100 (3 : Int32)) fun x38 h39 =>
  bn (pR h39 a0 12 16 (some x38)) fun h41 =>
  bd (nA h41 100 (3 : Int32)) fun x43 h44 =>
  bn (pR h44 a0 12 17 (some x43)) fun h46 =>
  bd (nA h46 100 (3 : Int32)) fun x48 h49 =>
  bn (pR h49 a0 12 18 (some x48)) fun h51 =>
  bd (nA h51 100 (4 : Int32)) fun x53 h54 =>
  bn (pR h54 a0 12 19 (some x53)) fun h56 =>
  bd (nA h56 100 (4 : Int32)) fun x58 h59 =>
  bn (pR h59 a0 12 20 (some x58)) fun h61 =>
  bd (nA h61 100 (4 : Int32)) fun x63 h64 =>
  bn (pR h64 a0 12 21 (some x63)) fun h66 =>
  bd (nA h66 100 (4 : Int32)) fun x68 h69 =>
  bn (pR h69 a0 12 22 (some x68)) fun h71 =>
  bd (nA h71 100 (4 : Int32)) fun x73 h74 =>
  bn (pR h74 a0 12 23 (some x73)) fun h76 =>
  bd (nA h76 100 (4 : Int32)) fun x78 h79 =>
  bn (pR h79 a0 12 24 (some x78)) fun h81 =>
  bd (nA h81 100 (5 : Int32)) fun x83 h84 =>
  bn (pR h84 a0 12 25 (some x83)) fun h86 =>
  bd (nA h86 100 (5 : Int32)) fun x88 h89 =>
  bn (pR h89 a0 12 26 (some x88)) fun h91 =>
  bd (nA h91 102 (11 : Int32)) fun x93 h94 =>
  bn (pR h94 a0 12 27 (some x93)) fun h96 =>
  bd (nA h96 100 (11 : Int32)) fun x98 h99 =>
  bn (pR h99 a0 12 28 (some x98)) fun h101 =>
  bd (nA h101 100 (11 : Int32)) fun x103 h104 =>
  bn (pR h104 a0 12 29 (some x103)) fun h106 =>
  some h106
set_option maxRecDepth 20000 in
theorem R_la_init (d : Nat) (hd : 0 ≤ d) {a0 : Nat} {h : Hp} {h' : Hp} (hS : F_la_init a0 h = some h') : Ev P d 187 (0, [.ref a0], [], h) (none, h') := by
  unfold F_la_init at hS
  refine ev_aload_n pm187 i187_0 rfl rfl rfl ?_
  refine ev_objinit pm187 i187_1 rfl rfl (Nat.le_of_ble_eq_true rfl) rfl ?_
  refine ev_aload_n pm187 i187_4 rfl rfl rfl ?_
  refine ev_iconst (v := -1) pm187 i187_5 rfl (by decide) rfl ?_
  obtain ⟨h1, e2, hS⟩ := bn_s hS
  refine ev_putI pm187 i187_6 rfl rfl rfl e2 rfl ?_
  refine ev_aload_n pm187 i187_9 rfl rfl rfl ?_
  refine ev_iconst (v := 5) pm187 i187_10 rfl (by decide) rfl ?_
  obtain ⟨x3, h4, e5, hS⟩ := bd_s hS
  refine ev_newI pm187 i187_11 rfl e5 rfl ?_
  obtain ⟨h6, e7, hS⟩ := bn_s hS
  refine ev_putR pm187 i187_13 rfl rfl rfl e7 rfl ?_
  refine ev_aload_n pm187 i187_16 rfl rfl rfl ?_
  refine ev_iconst (v := 5) pm187 i187_17 rfl (by decide) rfl ?_
  obtain ⟨x8, h9, e10, hS⟩ := bd_s hS
  refine ev_newI pm187 i187_18 rfl e10 rfl ?_
  obtain ⟨h11, e12, hS⟩ := bn_s hS
  refine ev_putR pm187 i187_20 rfl rfl rfl e12 rfl ?_
  refine ev_aload_n pm187 i187_23 rfl rfl rfl ?_
  refine ev_bipush (v := 25) pm187 i187_24 rfl (by decide) rfl ?_
  obtain ⟨x13, h14, e15, hS⟩ := bd_s hS
  refine ev_newI pm187 i187_26 rfl e15 rfl ?_
  obtain ⟨h16, e17, hS⟩ := bn_s hS
  refine ev_putR pm187 i187_28 rfl rfl rfl e17 rfl ?_
  refine ev_aload_n pm187 i187_31 rfl rfl rfl ?_
  refine ev_iconst (v := 5) pm187 i187_32 rfl (by decide) rfl ?_
  obtain ⟨x18, h19, e20, hS⟩ := bd_s hS
  refine ev_newI pm187 i187_33 rfl e20 rfl ?_
  obtain ⟨h21, e22, hS⟩ := bn_s hS
  refine ev_putR pm187 i187_35 rfl rfl rfl e22 rfl ?_
  refine ev_aload_n pm187 i187_38 rfl rfl rfl ?_
  refine ev_iconst (v := 5) pm187 i187_39 rfl (by decide) rfl ?_
  obtain ⟨x23, h24, e25, hS⟩ := bd_s hS
  refine ev_newI pm187 i187_40 rfl e25 rfl ?_
  obtain ⟨h26, e27, hS⟩ := bn_s hS
  refine ev_putR pm187 i187_42 rfl rfl rfl e27 rfl ?_
  refine ev_aload_n pm187 i187_45 rfl rfl rfl ?_
  refine ev_iconst (v := 5) pm187 i187_46 rfl (by decide) rfl ?_
  obtain ⟨x28, h29, e30, hS⟩ := bd_s hS
  refine ev_newI pm187 i187_47 rfl e30 rfl ?_
  obtain ⟨h31, e32, hS⟩ := bn_s hS
  refine ev_putR pm187 i187_49 rfl rfl rfl e32 rfl ?_
  refine ev_aload_n pm187 i187_52 rfl rfl rfl ?_
  refine ev_iconst (v := 3) pm187 i187_53 rfl (by decide) rfl ?_
  obtain ⟨x33, h34, e35, hS⟩ := bd_s hS
  refine ev_newI pm187 i187_54 rfl e35 rfl ?_
  obtain ⟨h36, e37, hS⟩ := bn_s hS
  refine ev_putR pm187 i187_56 rfl rfl rfl e37 rfl ?_
  refine ev_aload_n pm187 i187_59 rfl rfl rfl ?_
  refine ev_iconst (v := 3) pm187 i187_60 rfl (by decide) rfl ?_
  obtain ⟨x38, h39, e40, hS⟩ := bd_s hS
  refine ev_newI pm187 i187_61 rfl e40 rfl ?_
  obtain ⟨h41, e42, hS⟩ := bn_s hS
  refine ev_putR pm187 i187_63 rfl rfl rfl e42 rfl ?_
  refine ev_aload_n pm187 i187_66 rfl rfl rfl ?_
  refine ev_iconst (v := 3) pm187 i187_67 rfl (by decide) rfl ?_
  obtain ⟨x43, h44, e45, hS⟩ := bd_s hS
  refine ev_newI pm187 i187_68 rfl e45 rfl ?_
  obtain ⟨h46, e47, hS⟩ := bn_s hS
  refine ev_putR pm187 i187_70 rfl rfl rfl e47 rfl ?_
  refine ev_aload_n pm187 i187_73 rfl rfl rfl ?_
  refine ev_iconst (v := 3) pm187 i187_74 rfl (by decide) rfl ?_
  obtain ⟨x48, h49, e50, hS⟩ := bd_s hS
  refine ev_newI pm187 i187_75 rfl e50 rfl ?_
  obtain ⟨h51, e52, hS⟩ := bn_s hS
  refine ev_putR pm187 i187_77 rfl rfl rfl e52 rfl ?_
  refine ev_aload_n pm187 i187_80 rfl rfl rfl ?_
  refine ev_iconst (v := 4) pm187 i187_81 rfl (by decide) rfl ?_
  obtain ⟨x53, h54, e55, hS⟩ := bd_s hS
  refine ev_newI pm187 i187_82 rfl e55 rfl ?_
  obtain ⟨h56, e57, hS⟩ := bn_s hS
  refine ev_putR pm187 i187_84 rfl rfl rfl e57 rfl ?_
  refine ev_aload_n pm187 i187_87 rfl rfl rfl ?_
  refine ev_iconst (v := 4) pm187 i187_88 rfl (by decide) rfl ?_
  obtain ⟨x58, h59, e60, hS⟩ := bd_s hS
  refine ev_newI pm187 i187_89 rfl e60 rfl ?_
  obtain ⟨h61, e62, hS⟩ := bn_s hS
  refine ev_putR pm187 i187_91 rfl rfl rfl e62 rfl ?_
  refine ev_aload_n pm187 i187_94 rfl rfl rfl ?_
  refine ev_iconst (v := 4) pm187 i187_95 rfl (by decide) rfl ?_
  obtain ⟨x63, h64, e65, hS⟩ := bd_s hS
  refine ev_newI pm187 i187_96 rfl e65 rfl ?_
  obtain ⟨h66, e67, hS⟩ := bn_s hS
  refine ev_putR pm187 i187_98 rfl rfl rfl e67 rfl ?_
  refine ev_aload_n pm187 i187_101 rfl rfl rfl ?_
  refine ev_iconst (v := 4) pm187 i187_102 rfl (by decide) rfl ?_
  obtain ⟨x68, h69, e70, hS⟩ := bd_s hS
  refine ev_newI pm187 i187_103 rfl e70 rfl ?_
  obtain ⟨h71, e72, hS⟩ := bn_s hS
  refine ev_putR pm187 i187_105 rfl rfl rfl e72 rfl ?_
  refine ev_aload_n pm187 i187_108 rfl rfl rfl ?_
  refine ev_iconst (v := 4) pm187 i187_109 rfl (by decide) rfl ?_
  obtain ⟨x73, h74, e75, hS⟩ := bd_s hS
  refine ev_newI pm187 i187_110 rfl e75 rfl ?_
  obtain ⟨h76, e77, hS⟩ := bn_s hS
  refine ev_putR pm187 i187_112 rfl rfl rfl e77 rfl ?_
  refine ev_aload_n pm187 i187_115 rfl rfl rfl ?_
  refine ev_iconst (v := 4) pm187 i187_116 rfl (by decide) rfl ?_
  obtain ⟨x78, h79, e80, hS⟩ := bd_s hS
  refine ev_newI pm187 i187_117 rfl e80 rfl ?_
  obtain ⟨h81, e82, hS⟩ := bn_s hS
  refine ev_putR pm187 i187_119 rfl rfl rfl e82 rfl ?_
  refine ev_aload_n pm187 i187_122 rfl rfl rfl ?_
  refine ev_iconst (v := 5) pm187 i187_123 rfl (by decide) rfl ?_
  obtain ⟨x83, h84, e85, hS⟩ := bd_s hS
  refine ev_newI pm187 i187_124 rfl e85 rfl ?_
  obtain ⟨h86, e87, hS⟩ := bn_s hS
  refine ev_putR pm187 i187_126 rfl rfl rfl e87 rfl ?_
  refine ev_aload_n pm187 i187_129 rfl rfl rfl ?_
  refine ev_iconst (v := 5) pm187 i187_130 rfl (by decide) rfl ?_
  obtain ⟨x88, h89, e90, hS⟩ := bd_s hS
  refine ev_newI pm187 i187_131 rfl e90 rfl ?_
  obtain ⟨h91, e92, hS⟩ := bn_s hS
  refine ev_putR pm187 i187_133 rfl rfl rfl e92 rfl ?_
  refine ev_aload_n pm187 i187_136 rfl rfl rfl ?_
  refine ev_bipush (v := 11) pm187 i187_137 rfl (by decide) rfl ?_
  obtain ⟨x93, h94, e95, hS⟩ := bd_s hS
  refine ev_newJ pm187 i187_139 rfl e95 rfl ?_
  obtain ⟨h96, e97, hS⟩ := bn_s hS
  refine ev_putR pm187 i187_141 rfl rfl rfl e97 rfl ?_
  refine ev_aload_n pm187 i187_144 rfl rfl rfl ?_
  refine ev_bipush (v := 11) pm187 i187_145 rfl (by decide) rfl ?_
  obtain ⟨x98, h99, e100, hS⟩ := bd_s hS
  refine ev_newI pm187 i187_147 rfl e100 rfl ?_
  obtain ⟨h101, e102, hS⟩ := bn_s hS
  refine ev_putR pm187 i187_149 rfl rfl rfl e102 rfl ?_
  refine ev_aload_n pm187 i187_152 rfl rfl rfl ?_
  refine ev_bipush (v := 11) pm187 i187_153 rfl (by decide) rfl ?_
  obtain ⟨x103, h104, e105, hS⟩ := bd_s hS
  refine ev_newI pm187 i187_155 rfl e105 rfl ?_
  obtain ⟨h106, e107, hS⟩ := bn_s hS
  refine ev_putR pm187 i187_157 rfl rfl rfl e107 rfl ?_
  cases hS
  exact ev_return pm187 i187_160 rfl rfl rfl
def F_md_byteAt (a0 : Nat) (a1 : Int32) (h : Hp) : Option Int32 :=
  ck h a0 13 (bn (gI h a0 13 7) fun x1 =>
  if a1 < x1 then
    (bn (gR h a0 13 5) fun x3 =>
    bn (aI h 101 x3 a1) fun x5 =>
    some (x5 &&& (255 : Int32)))
  else
    (some (-1 : Int32)))
set_option maxRecDepth 20000 in
theorem K_md_byteAt {a0 : Nat} {a1 : Int32} {h : Hp} {v : Int32} (hS : F_md_byteAt a0 a1 h = some v) : kd h a0 = 13 := by
  unfold F_md_byteAt at hS
  exact (ck_s hS).1
set_option maxRecDepth 20000 in
theorem R_md_byteAt (d : Nat) (hd : 0 ≤ d) {a0 : Nat} {a1 : Int32} {h : Hp} {v : Int32} (hS : F_md_byteAt a0 a1 h = some v) : Ev P d 189 (0, [.ref a0, .int a1], [], h) (some (.int v), h) := by
  unfold F_md_byteAt at hS
  replace hS := (ck_s hS).2
  refine ev_iload_n pm189 i189_0 rfl rfl rfl ?_
  refine ev_aload_n pm189 i189_1 rfl rfl rfl ?_
  obtain ⟨x1, e2, hS⟩ := bn_s hS
  refine ev_getI pm189 i189_2 rfl rfl (by decide) e2 rfl ?_
  by_cases c434 : a1 < x1
  · rw [if_pos c434] at hS
    refine ev_icmp_ge_t (t := 21) pm189 i189_5 rfl c434 rfl rfl ?_
    refine ev_aload_n pm189 i189_8 rfl rfl rfl ?_
    obtain ⟨x3, e4, hS⟩ := bn_s hS
    refine ev_getR pm189 i189_9 rfl rfl rfl e4 rfl ?_
    refine ev_iload_n pm189 i189_12 rfl rfl rfl ?_
    obtain ⟨x5, e6, hS⟩ := bn_s hS
    refine ev_bald pm189 i189_13 rfl e6 rfl ?_
    refine ev_sipush (v := 255) pm189 i189_14 rfl (by decide) rfl ?_
    refine ev_b2 (f := fun x y => x &&& y) pm189 i189_17 rfl (fun _ _ _ _ => rfl) rfl ?_
    refine ev_goto (t := 22) pm189 i189_18 rfl rfl ?_
    refine ev_kls (ls' := [unk, unk]) pm189 i189_22 rfl rfl ?_
    cases hS
    exact ev_ireturn pm189 i189_22 rfl rfl rfl
  · rw [if_neg c434] at hS
    refine ev_icmp_ge_f (t := 21) pm189 i189_5 rfl c434 rfl rfl ?_
    refine ev_iconst (v := -1) pm189 i189_21 rfl (by decide) rfl ?_
    refine ev_kls (ls' := [unk, unk]) pm189 i189_22 rfl rfl ?_
    cases hS
    exact ev_ireturn pm189 i189_22 rfl rfl rfl
def F_md_isLetter (a0 : Int32) : Option Int32 :=
  if a0 < (97 : Int32) then
    (some (0 : Int32))
  else
    (if (122 : Int32) < a0 then
      (some (0 : Int32))
    else
      (some (1 : Int32)))
set_option maxRecDepth 20000 in
theorem R_md_isLetter (d : Nat) (hd : 0 ≤ d) {a0 : Int32} {h : Hp} {v : Int32} (hS : F_md_isLetter a0 = some v) : Ev P d 190 (0, [.int a0], [], h) (some (.int v), h) := by
  unfold F_md_isLetter at hS
  refine ev_iload_n pm190 i190_0 rfl rfl rfl ?_
  refine ev_bipush (v := 97) pm190 i190_1 rfl (by decide) rfl ?_
  by_cases c435 : a0 < (97 : Int32)
  · rw [if_pos c435] at hS
    refine ev_icmp_lt_t (t := 16) pm190 i190_3 rfl c435 rfl rfl ?_
    refine ev_kls (ls' := [unk]) pm190 i190_16 rfl rfl ?_
    refine ev_iconst (v := 0) pm190 i190_16 rfl (by decide) rfl ?_
    cases hS
    exact ev_ireturn pm190 i190_17 rfl (by decide) rfl
  · rw [if_neg c435] at hS
    refine ev_icmp_lt_f (t := 16) pm190 i190_3 rfl c435 rfl rfl ?_
    refine ev_iload_n pm190 i190_6 rfl rfl rfl ?_
    refine ev_bipush (v := 122) pm190 i190_7 rfl (by decide) rfl ?_
    by_cases c436 : (122 : Int32) < a0
    · rw [if_pos c436] at hS
      refine ev_icmp_gt_t (t := 16) pm190 i190_9 rfl c436 rfl rfl ?_
      refine ev_kls (ls' := [unk]) pm190 i190_16 rfl rfl ?_
      refine ev_iconst (v := 0) pm190 i190_16 rfl (by decide) rfl ?_
      cases hS
      exact ev_ireturn pm190 i190_17 rfl (by decide) rfl
    · rw [if_neg c436] at hS
      refine ev_icmp_gt_f (t := 16) pm190 i190_9 rfl c436 rfl rfl ?_
      refine ev_iconst (v := 1) pm190 i190_12 rfl (by decide) rfl ?_
      refine ev_goto (t := 17) pm190 i190_13 rfl rfl ?_
      refine ev_kls (ls' := [unk]) pm190 i190_17 rfl rfl ?_
      cases hS
      exact ev_ireturn pm190 i190_17 rfl (by decide) rfl
def F_md_isDigit (a0 : Int32) : Option Int32 :=
  if a0 < (48 : Int32) then
    (some (0 : Int32))
  else
    (if (57 : Int32) < a0 then
      (some (0 : Int32))
    else
      (some (1 : Int32)))
set_option maxRecDepth 20000 in
theorem R_md_isDigit (d : Nat) (hd : 0 ≤ d) {a0 : Int32} {h : Hp} {v : Int32} (hS : F_md_isDigit a0 = some v) : Ev P d 191 (0, [.int a0], [], h) (some (.int v), h) := by
  unfold F_md_isDigit at hS
  refine ev_iload_n pm191 i191_0 rfl rfl rfl ?_
  refine ev_bipush (v := 48) pm191 i191_1 rfl (by decide) rfl ?_
  by_cases c437 : a0 < (48 : Int32)
  · rw [if_pos c437] at hS
    refine ev_icmp_lt_t (t := 16) pm191 i191_3 rfl c437 rfl rfl ?_
    refine ev_kls (ls' := [unk]) pm191 i191_16 rfl rfl ?_
    refine ev_iconst (v := 0) pm191 i191_16 rfl (by decide) rfl ?_
    cases hS
    exact ev_ireturn pm191 i191_17 rfl (by decide) rfl
  · rw [if_neg c437] at hS
    refine ev_icmp_lt_f (t := 16) pm191 i191_3 rfl c437 rfl rfl ?_
    refine ev_iload_n pm191 i191_6 rfl rfl rfl ?_
    refine ev_bipush (v := 57) pm191 i191_7 rfl (by decide) rfl ?_
    by_cases c438 : (57 : Int32) < a0
    · rw [if_pos c438] at hS
      refine ev_icmp_gt_t (t := 16) pm191 i191_9 rfl c438 rfl rfl ?_
      refine ev_kls (ls' := [unk]) pm191 i191_16 rfl rfl ?_
      refine ev_iconst (v := 0) pm191 i191_16 rfl (by decide) rfl ?_
      cases hS
      exact ev_ireturn pm191 i191_17 rfl (by decide) rfl
    · rw [if_neg c438] at hS
      refine ev_icmp_gt_f (t := 16) pm191 i191_9 rfl c438 rfl rfl ?_
      refine ev_iconst (v := 1) pm191 i191_12 rfl (by decide) rfl ?_
      refine ev_goto (t := 17) pm191 i191_13 rfl rfl ?_
      refine ev_kls (ls' := [unk]) pm191 i191_17 rfl rfl ?_
      cases hS
      exact ev_ireturn pm191 i191_17 rfl (by decide) rfl
def B_md_goesOn_9 (l0 : Nat) (s : Unit) (h : Hp) : Option (((Unit) ⊕ (Unit)) × Hp) :=
  bn (gI h l0 13 8) fun x3 =>
  bn (F_md_byteAt l0 x3 h) fun x6 =>
  if x6 = (32 : Int32) then
    (bn (gI h l0 13 8) fun x7 =>
    bn (pI h l0 13 8 (x7 + (1 : Int32))) fun h9 =>
    some (.inl (), h9))
  else
    (some (.inr (), h))
set_option maxRecDepth 20000 in
theorem L_md_goesOn_9 (d : Nat) (hd : 1 ≤ d) {l0 : Nat} : ∀ (n : Nat) (s : Unit) (h : Hp) (x : Unit) (hx : Hp), lp (B_md_goesOn_9 l0) n s h = some (x, hx) → ∀ r, Ev P d 188 (35, [.ref l0, unk, unk], [], hx) r → Ev P d 188 (9, [.ref l0, unk, unk], [], h) r := by
  refine lp_ev (G0 := fun (s : Unit) h r => Ev P d 188 (9, [.ref l0, unk, unk], [], h) r) (X := fun (x : Unit) hx r => Ev P d 188 (35, [.ref l0, unk, unk], [], hx) r) ?_
  intro s h y h9 hS r hK
  unfold B_md_goesOn_9 at hS
  show Ev P d 188 (9, [.ref l0, unk, unk], [], h) r
  refine ev_aload_n pm188 i188_9 rfl rfl rfl ?_
  refine ev_aload_n pm188 i188_10 rfl rfl rfl ?_
  obtain ⟨x3, e4, hS⟩ := bn_s hS
  refine ev_getI pm188 i188_11 rfl rfl (by decide) e4 rfl ?_
  obtain ⟨x6, e5, hS⟩ := bn_s hS
  refine ev_callV (sa := [.int x3]) (rest := []) (st' := [.int x6]) (ls0 := [.ref l0, .int x3]) (rv := some (.int x6)) pm188 i188_14 rfl rfl pm189 (by decide) (K_md_byteAt e5) rfl rfl (Nat.le_of_ble_eq_true rfl) (by omega) rfl (R_md_byteAt (d - 1) (by omega) e5) (by simp) rfl rfl ?_
  refine ev_bipush (v := 32) pm188 i188_17 rfl (by decide) rfl ?_
  by_cases c439 : x6 = (32 : Int32)
  · rw [if_pos c439] at hS
    refine ev_icmp_ne_t (t := 35) pm188 i188_19 rfl c439 rfl rfl ?_
    refine ev_aload_n pm188 i188_22 rfl rfl rfl ?_
    refine ev_dup pm188 i188_23 rfl rfl rfl ?_
    obtain ⟨x7, e8, hS⟩ := bn_s hS
    refine ev_getI pm188 i188_24 rfl rfl (by decide) e8 rfl ?_
    refine ev_iconst (v := 1) pm188 i188_27 rfl (by decide) rfl ?_
    refine ev_b2 (f := fun x y => x + y) pm188 i188_28 rfl (fun _ _ _ _ => rfl) rfl ?_
    obtain ⟨h9, e10, hS⟩ := bn_s hS
    refine ev_putI pm188 i188_29 rfl rfl rfl e10 rfl ?_
    refine ev_goto (t := 9) pm188 i188_32 rfl rfl ?_
    cases hS
    exact hK
  · rw [if_neg c439] at hS
    refine ev_icmp_ne_f (t := 35) pm188 i188_19 rfl c439 rfl rfl ?_
    cases hS
    exact hK
def B_md_goesOn_173 (l0 : Nat) (s : Int32) (h : Hp) : Option (((Int32) ⊕ (Int32)) × Hp) :=
  bn (gI h l0 13 8) fun x38 =>
  bn (F_md_byteAt l0 x38 h) fun x41 =>
  bn (F_md_isDigit x41) fun x43 =>
  if x43 = (0 : Int32) then
    (some (.inr s, h))
  else
    (bn (if s < (3 : Int32) then
        (bn (gI h l0 13 11) fun x44 =>
        bn (gI h l0 13 8) fun x46 =>
        bn (F_md_byteAt l0 x46 h) fun x49 =>
        bn (pI h l0 13 11 ((((10 : Int32) * x44) + x49) - (48 : Int32))) fun h50 =>
        some h50)
      else
        (some h)) fun h53 =>
    bn (gI h53 l0 13 8) fun x54 =>
    bn (pI h53 l0 13 8 (x54 + (1 : Int32))) fun h56 =>
    some (.inl (s + (1 : Int32)), h56))
set_option maxRecDepth 20000 in
theorem L_md_goesOn_173 (d : Nat) (hd : 1 ≤ d) {l0 : Nat} : ∀ (n : Nat) (s : Int32) (h : Hp) (x : Int32) (hx : Hp), lp (B_md_goesOn_173 l0) n s h = some (x, hx) → ∀ r, Ev P d 188 (231, [.ref l0, unk, .int x], [], hx) r → Ev P d 188 (173, [.ref l0, unk, .int s], [], h) r := by
  refine lp_ev (G0 := fun (s : Int32) h r => Ev P d 188 (173, [.ref l0, unk, .int s], [], h) r) (X := fun (x : Int32) hx r => Ev P d 188 (231, [.ref l0, unk, .int x], [], hx) r) ?_
  intro s h y h9 hS r hK
  unfold B_md_goesOn_173 at hS
  show Ev P d 188 (173, [.ref l0, unk, .int s], [], h) r
  refine ev_aload_n pm188 i188_173 rfl rfl rfl ?_
  refine ev_aload_n pm188 i188_174 rfl rfl rfl ?_
  obtain ⟨x38, e39, hS⟩ := bn_s hS
  refine ev_getI pm188 i188_175 rfl rfl (by decide) e39 rfl ?_
  obtain ⟨x41, e40, hS⟩ := bn_s hS
  refine ev_callV (sa := [.int x38]) (rest := []) (st' := [.int x41]) (ls0 := [.ref l0, .int x38]) (rv := some (.int x41)) pm188 i188_178 rfl rfl pm189 (by decide) (K_md_byteAt e40) rfl rfl (Nat.le_of_ble_eq_true rfl) (by omega) rfl (R_md_byteAt (d - 1) (by omega) e40) (by simp) rfl rfl ?_
  obtain ⟨x43, e42, hS⟩ := bn_s hS
  refine ev_callS (sa := [.int x41]) (rest := []) (st' := [.int x43]) (ls0 := [.int x41]) (rv := some (.int x43)) pm188 i188_181 rfl rfl pm191 (by decide) rfl rfl (Nat.le_of_ble_eq_true rfl) (by omega) rfl (R_md_isDigit (d - 1) (by omega) e42) (by simp) rfl rfl ?_
  by_cases c440 : x43 = (0 : Int32)
  · rw [if_pos c440] at hS
    refine ev_if_eq_t (t := 231) pm188 i188_184 rfl c440 rfl rfl ?_
    cases hS
    exact hK
  · rw [if_neg c440] at hS
    refine ev_if_eq_f (t := 231) pm188 i188_184 rfl c440 rfl rfl ?_
    refine ev_iload_n pm188 i188_187 rfl rfl rfl ?_
    refine ev_iconst (v := 3) pm188 i188_188 rfl (by decide) rfl ?_
    obtain ⟨h53, I441, hS⟩ := bn_s hS
    have J1 : Ev P d 188 (215, [.ref l0, unk, .int s], [], h53) r := by
      refine ev_iinc (v := 1) (ls' := [.ref l0, unk, .int (s + (1 : Int32))]) pm188 i188_215 rfl rfl (by decide) rfl rfl ?_
      refine ev_aload_n pm188 i188_218 rfl rfl rfl ?_
      refine ev_dup pm188 i188_219 rfl rfl rfl ?_
      obtain ⟨x54, e55, hS⟩ := bn_s hS
      refine ev_getI pm188 i188_220 rfl rfl (by decide) e55 rfl ?_
      refine ev_iconst (v := 1) pm188 i188_223 rfl (by decide) rfl ?_
      refine ev_b2 (f := fun x y => x + y) pm188 i188_224 rfl (fun _ _ _ _ => rfl) rfl ?_
      obtain ⟨h56, e57, hS⟩ := bn_s hS
      refine ev_putI pm188 i188_225 rfl rfl rfl e57 rfl ?_
      refine ev_goto (t := 173) pm188 i188_228 rfl rfl ?_
      cases hS
      exact hK
    clear hS
    by_cases c441 : s < (3 : Int32)
    · rw [if_pos c441] at I441
      refine ev_icmp_ge_t (t := 215) pm188 i188_189 rfl c441 rfl rfl ?_
      refine ev_aload_n pm188 i188_192 rfl rfl rfl ?_
      refine ev_bipush (v := 10) pm188 i188_193 rfl (by decide) rfl ?_
      refine ev_aload_n pm188 i188_195 rfl rfl rfl ?_
      obtain ⟨x44, e45, I441⟩ := bn_s I441
      refine ev_getI pm188 i188_196 rfl rfl (by decide) e45 rfl ?_
      refine ev_b2 (f := fun x y => x * y) pm188 i188_199 rfl (fun _ _ _ _ => rfl) rfl ?_
      refine ev_aload_n pm188 i188_200 rfl rfl rfl ?_
      refine ev_aload_n pm188 i188_201 rfl rfl rfl ?_
      obtain ⟨x46, e47, I441⟩ := bn_s I441
      refine ev_getI pm188 i188_202 rfl rfl (by decide) e47 rfl ?_
      obtain ⟨x49, e48, I441⟩ := bn_s I441
      refine ev_callV (sa := [.int x46]) (rest := [.int ((10 : Int32) * x44), .ref l0]) (st' := [.int x49, .int ((10 : Int32) * x44), .ref l0]) (ls0 := [.ref l0, .int x46]) (rv := some (.int x49)) pm188 i188_205 rfl rfl pm189 (by decide) (K_md_byteAt e48) rfl rfl (Nat.le_of_ble_eq_true rfl) (by omega) rfl (R_md_byteAt (d - 1) (by omega) e48) (by simp) rfl rfl ?_
      refine ev_b2 (f := fun x y => x + y) pm188 i188_208 rfl (fun _ _ _ _ => rfl) rfl ?_
      refine ev_bipush (v := 48) pm188 i188_209 rfl (by decide) rfl ?_
      refine ev_b2 (f := fun x y => x - y) pm188 i188_211 rfl (fun _ _ _ _ => rfl) rfl ?_
      obtain ⟨h50, e51, I441⟩ := bn_s I441
      refine ev_putI pm188 i188_212 rfl rfl rfl e51 rfl ?_
      cases I441
      exact J1
    · rw [if_neg c441] at I441
      refine ev_icmp_ge_f (t := 215) pm188 i188_189 rfl c441 rfl rfl ?_
      cases I441
      exact J1
def B_md_goesOn_84 (l0 : Nat) (s : Int32) (h : Hp) : Option (((Int32) ⊕ (Int32)) × Hp) :=
  bn (gI h l0 13 8) fun x65 =>
  bn (F_md_byteAt l0 x65 h) fun x68 =>
  bn (F_md_isLetter x68) fun x70 =>
  if x70 = (0 : Int32) then
    (some (.inr s, h))
  else
    (bn (if s < (8 : Int32) then
        (bn (gL h l0 13 14) fun x71 =>
        bn (gI h l0 13 8) fun x73 =>
        bn (F_md_byteAt l0 x73 h) fun x76 =>
        bn (pL h l0 13 14 (((32 : Int64) * x71) + (((x76 - (97 : Int32)) + (1 : Int32)).toInt64))) fun h77 =>
        some h77)
      else
        (some h)) fun h80 =>
    bn (gI h80 l0 13 8) fun x81 =>
    bn (pI h80 l0 13 8 (x81 + (1 : Int32))) fun h83 =>
    some (.inl (s + (1 : Int32)), h83))
set_option maxRecDepth 20000 in
theorem L_md_goesOn_84 (d : Nat) (hd : 1 ≤ d) {l0 : Nat} : ∀ (n : Nat) (s : Int32) (h : Hp) (x : Int32) (hx : Hp), lp (B_md_goesOn_84 l0) n s h = some (x, hx) → ∀ r, Ev P d 188 (147, [.ref l0, unk, .int x], [], hx) r → Ev P d 188 (84, [.ref l0, unk, .int s], [], h) r := by
  refine lp_ev (G0 := fun (s : Int32) h r => Ev P d 188 (84, [.ref l0, unk, .int s], [], h) r) (X := fun (x : Int32) hx r => Ev P d 188 (147, [.ref l0, unk, .int x], [], hx) r) ?_
  intro s h y h9 hS r hK
  unfold B_md_goesOn_84 at hS
  show Ev P d 188 (84, [.ref l0, unk, .int s], [], h) r
  refine ev_aload_n pm188 i188_84 rfl rfl rfl ?_
  refine ev_aload_n pm188 i188_85 rfl rfl rfl ?_
  obtain ⟨x65, e66, hS⟩ := bn_s hS
  refine ev_getI pm188 i188_86 rfl rfl (by decide) e66 rfl ?_
  obtain ⟨x68, e67, hS⟩ := bn_s hS
  refine ev_callV (sa := [.int x65]) (rest := []) (st' := [.int x68]) (ls0 := [.ref l0, .int x65]) (rv := some (.int x68)) pm188 i188_89 rfl rfl pm189 (by decide) (K_md_byteAt e67) rfl rfl (Nat.le_of_ble_eq_true rfl) (by omega) rfl (R_md_byteAt (d - 1) (by omega) e67) (by simp) rfl rfl ?_
  obtain ⟨x70, e69, hS⟩ := bn_s hS
  refine ev_callS (sa := [.int x68]) (rest := []) (st' := [.int x70]) (ls0 := [.int x68]) (rv := some (.int x70)) pm188 i188_92 rfl rfl pm190 (by decide) rfl rfl (Nat.le_of_ble_eq_true rfl) (by omega) rfl (R_md_isLetter (d - 1) (by omega) e69) (by simp) rfl rfl ?_
  by_cases c442 : x70 = (0 : Int32)
  · rw [if_pos c442] at hS
    refine ev_if_eq_t (t := 147) pm188 i188_95 rfl c442 rfl rfl ?_
    cases hS
    exact hK
  · rw [if_neg c442] at hS
    refine ev_if_eq_f (t := 147) pm188 i188_95 rfl c442 rfl rfl ?_
    refine ev_iload_n pm188 i188_98 rfl rfl rfl ?_
    refine ev_bipush (v := 8) pm188 i188_99 rfl (by decide) rfl ?_
    obtain ⟨h80, I443, hS⟩ := bn_s hS
    have J2 : Ev P d 188 (131, [.ref l0, unk, .int s], [], h80) r := by
      refine ev_iinc (v := 1) (ls' := [.ref l0, unk, .int (s + (1 : Int32))]) pm188 i188_131 rfl rfl (by decide) rfl rfl ?_
      refine ev_aload_n pm188 i188_134 rfl rfl rfl ?_
      refine ev_dup pm188 i188_135 rfl rfl rfl ?_
      obtain ⟨x81, e82, hS⟩ := bn_s hS
      refine ev_getI pm188 i188_136 rfl rfl (by decide) e82 rfl ?_
      refine ev_iconst (v := 1) pm188 i188_139 rfl (by decide) rfl ?_
      refine ev_b2 (f := fun x y => x + y) pm188 i188_140 rfl (fun _ _ _ _ => rfl) rfl ?_
      obtain ⟨h83, e84, hS⟩ := bn_s hS
      refine ev_putI pm188 i188_141 rfl rfl rfl e84 rfl ?_
      refine ev_goto (t := 84) pm188 i188_144 rfl rfl ?_
      cases hS
      exact hK
    clear hS
    by_cases c443 : s < (8 : Int32)
    · rw [if_pos c443] at I443
      refine ev_icmp_ge_t (t := 131) pm188 i188_101 rfl c443 rfl rfl ?_
      refine ev_aload_n pm188 i188_104 rfl rfl rfl ?_
      refine ev_ldc2_w (v := .long (32 : Int64)) pm188 i188_105 rfl rfl rfl ?_
      refine ev_aload_n pm188 i188_108 rfl rfl rfl ?_
      obtain ⟨x71, e72, I443⟩ := bn_s I443
      refine ev_getL pm188 i188_109 rfl rfl rfl e72 rfl ?_
      refine ev_bl2 (f := fun x y => x * y) pm188 i188_112 rfl (fun _ _ _ _ => rfl) rfl ?_
      refine ev_aload_n pm188 i188_113 rfl rfl rfl ?_
      refine ev_aload_n pm188 i188_114 rfl rfl rfl ?_
      obtain ⟨x73, e74, I443⟩ := bn_s I443
      refine ev_getI pm188 i188_115 rfl rfl (by decide) e74 rfl ?_
      obtain ⟨x76, e75, I443⟩ := bn_s I443
      refine ev_callV (sa := [.int x73]) (rest := [.long ((32 : Int64) * x71), .ref l0]) (st' := [.int x76, .long ((32 : Int64) * x71), .ref l0]) (ls0 := [.ref l0, .int x73]) (rv := some (.int x76)) pm188 i188_118 rfl rfl pm189 (by decide) (K_md_byteAt e75) rfl rfl (Nat.le_of_ble_eq_true rfl) (by omega) rfl (R_md_byteAt (d - 1) (by omega) e75) (by simp) rfl rfl ?_
      refine ev_bipush (v := 97) pm188 i188_121 rfl (by decide) rfl ?_
      refine ev_b2 (f := fun x y => x - y) pm188 i188_123 rfl (fun _ _ _ _ => rfl) rfl ?_
      refine ev_iconst (v := 1) pm188 i188_124 rfl (by decide) rfl ?_
      refine ev_b2 (f := fun x y => x + y) pm188 i188_125 rfl (fun _ _ _ _ => rfl) rfl ?_
      refine ev_i2l pm188 i188_126 rfl rfl ?_
      refine ev_bl2 (f := fun x y => x + y) pm188 i188_127 rfl (fun _ _ _ _ => rfl) rfl ?_
      obtain ⟨h77, e78, I443⟩ := bn_s I443
      refine ev_putL pm188 i188_128 rfl rfl rfl e78 rfl ?_
      cases I443
      exact J2
    · rw [if_neg c443] at I443
      refine ev_icmp_ge_f (t := 131) pm188 i188_101 rfl c443 rfl rfl ?_
      cases I443
      exact J2
def F_md_goesOn (a0 : Nat) (h : Hp) : Option Hp :=
  ck h a0 13 (bn (gI h a0 13 9) fun x1 =>
  if x1 = (5 : Int32) then
    (some h)
  else
    (bd (lp (B_md_goesOn_9 a0) FU () h) fun x11 h13 =>
    bn (gI h13 a0 13 8) fun x14 =>
    bn (pI h13 a0 13 10 x14) fun h16 =>
    bn (pI h16 a0 13 9 (0 : Int32)) fun h18 =>
    bn (gI h18 a0 13 8) fun x20 =>
    bn (F_md_byteAt a0 x20 h18) fun x23 =>
    if x23 = (-1 : Int32) then
      (bn (pI h18 a0 13 9 (1 : Int32)) fun h24 =>
      some h24)
    else
      (bn (F_md_isLetter x23) fun x27 =>
      if x27 = (0 : Int32) then
        (bn (F_md_isDigit x23) fun x29 =>
        if x29 = (0 : Int32) then
          (if x23 = (59 : Int32) then
            (bn (pI h18 a0 13 9 (4 : Int32)) fun h30 =>
            bn (gI h30 a0 13 8) fun x32 =>
            bn (pI h30 a0 13 8 (x32 + (1 : Int32))) fun h34 =>
            some h34)
          else
            (some h18))
        else
          (bn (pI h18 a0 13 11 (0 : Int32)) fun h36 =>
          bd (lp (B_md_goesOn_173 a0) FU (0 : Int32) h36) fun x58 h60 =>
          if (3 : Int32) < x58 then
            (some h60)
          else
            (bn (pI h60 a0 13 9 (3 : Int32)) fun h61 =>
            some h61)))
      else
        (bn (pL h18 a0 13 14 (0 : Int64)) fun h63 =>
        bd (lp (B_md_goesOn_84 a0) FU (0 : Int32) h63) fun x85 h87 =>
        if (8 : Int32) < x85 then
          (some h87)
        else
          (bn (pI h87 a0 13 9 (2 : Int32)) fun h88 =>
          some h88)))))
set_option maxRecDepth 20000 in
theorem K_md_goesOn {a0 : Nat} {h : Hp} {h' : Hp} (hS : F_md_goesOn a0 h = some h') : kd h a0 = 13 := by
  unfold F_md_goesOn at hS
  exact (ck_s hS).1
set_option maxRecDepth 20000 in
theorem R_md_goesOn (d : Nat) (hd : 1 ≤ d) {a0 : Nat} {h : Hp} {h' : Hp} (hS : F_md_goesOn a0 h = some h') : Ev P d 188 (0, [.ref a0, unk, unk], [], h) (none, h') := by
  unfold F_md_goesOn at hS
  replace hS := (ck_s hS).2
  refine ev_aload_n pm188 i188_0 rfl rfl rfl ?_
  obtain ⟨x1, e2, hS⟩ := bn_s hS
  refine ev_getI pm188 i188_1 rfl rfl (by decide) e2 rfl ?_
  refine ev_iconst (v := 5) pm188 i188_4 rfl (by decide) rfl ?_
  by_cases c444 : x1 = (5 : Int32)
  · rw [if_pos c444] at hS
    refine ev_icmp_ne_t (t := 9) pm188 i188_5 rfl c444 rfl rfl ?_
    cases hS
    exact ev_return pm188 i188_8 rfl rfl rfl
  · rw [if_neg c444] at hS
    refine ev_icmp_ne_f (t := 9) pm188 i188_5 rfl c444 rfl rfl ?_
    obtain ⟨x11, h13, e12, hS⟩ := bd_s hS
    refine L_md_goesOn_9 d (by omega) _ _ _ _ _ e12 _ ?_
    show Ev P d 188 (35, [.ref a0, unk, unk], [], h13) _
    refine ev_aload_n pm188 i188_35 rfl rfl rfl ?_
    refine ev_aload_n pm188 i188_36 rfl rfl rfl ?_
    obtain ⟨x14, e15, hS⟩ := bn_s hS
    refine ev_getI pm188 i188_37 rfl rfl (by decide) e15 rfl ?_
    obtain ⟨h16, e17, hS⟩ := bn_s hS
    refine ev_putI pm188 i188_40 rfl rfl rfl e17 rfl ?_
    refine ev_aload_n pm188 i188_43 rfl rfl rfl ?_
    refine ev_iconst (v := 0) pm188 i188_44 rfl (by decide) rfl ?_
    obtain ⟨h18, e19, hS⟩ := bn_s hS
    refine ev_putI pm188 i188_45 rfl rfl rfl e19 rfl ?_
    refine ev_aload_n pm188 i188_48 rfl rfl rfl ?_
    refine ev_aload_n pm188 i188_49 rfl rfl rfl ?_
    obtain ⟨x20, e21, hS⟩ := bn_s hS
    refine ev_getI pm188 i188_50 rfl rfl (by decide) e21 rfl ?_
    obtain ⟨x23, e22, hS⟩ := bn_s hS
    refine ev_callV (sa := [.int x20]) (rest := []) (st' := [.int x23]) (ls0 := [.ref a0, .int x20]) (rv := some (.int x23)) pm188 i188_53 rfl rfl pm189 (by decide) (K_md_byteAt e22) rfl rfl (Nat.le_of_ble_eq_true rfl) (by omega) rfl (R_md_byteAt (d - 1) (by omega) e22) (by simp) rfl rfl ?_
    refine ev_istore_n (ls' := [.ref a0, .int x23, unk]) pm188 i188_56 rfl (Nat.le_of_ble_eq_true rfl) rfl rfl ?_
    refine ev_iconst (v := 0) pm188 i188_57 rfl (by decide) rfl ?_
    refine ev_istore_n (ls' := [.ref a0, .int x23, .int (0 : Int32)]) pm188 i188_58 rfl (Nat.le_of_ble_eq_true rfl) rfl rfl ?_
    refine ev_iload_n pm188 i188_59 rfl rfl rfl ?_
    refine ev_iconst (v := -1) pm188 i188_60 rfl (by decide) rfl ?_
    by_cases c445 : x23 = (-1 : Int32)
    · rw [if_pos c445] at hS
      refine ev_icmp_ne_t (t := 72) pm188 i188_61 rfl c445 rfl rfl ?_
      refine ev_aload_n pm188 i188_64 rfl rfl rfl ?_
      refine ev_iconst (v := 1) pm188 i188_65 rfl (by decide) rfl ?_
      obtain ⟨h24, e25, hS⟩ := bn_s hS
      refine ev_putI pm188 i188_66 rfl rfl rfl e25 rfl ?_
      refine ev_goto (t := 265) pm188 i188_69 rfl rfl ?_
      refine ev_kls (ls' := [unk, unk, unk]) pm188 i188_265 rfl rfl ?_
      cases hS
      exact ev_return pm188 i188_265 rfl rfl rfl
    · rw [if_neg c445] at hS
      refine ev_icmp_ne_f (t := 72) pm188 i188_61 rfl c445 rfl rfl ?_
      refine ev_iload_n pm188 i188_72 rfl rfl rfl ?_
      obtain ⟨x27, e26, hS⟩ := bn_s hS
      refine ev_callS (sa := [.int x23]) (rest := []) (st' := [.int x27]) (ls0 := [.int x23]) (rv := some (.int x27)) pm188 i188_73 rfl rfl pm190 (by decide) rfl rfl (Nat.le_of_ble_eq_true rfl) (by omega) rfl (R_md_isLetter (d - 1) (by omega) e26) (by simp) rfl rfl ?_
      by_cases c446 : x27 = (0 : Int32)
      · rw [if_pos c446] at hS
        refine ev_if_eq_t (t := 161) pm188 i188_76 rfl c446 rfl rfl ?_
        refine ev_iload_n pm188 i188_161 rfl rfl rfl ?_
        obtain ⟨x29, e28, hS⟩ := bn_s hS
        refine ev_callS (sa := [.int x23]) (rest := []) (st' := [.int x29]) (ls0 := [.int x23]) (rv := some (.int x29)) pm188 i188_162 rfl rfl pm191 (by decide) rfl rfl (Nat.le_of_ble_eq_true rfl) (by omega) rfl (R_md_isDigit (d - 1) (by omega) e28) (by simp) rfl rfl ?_
        by_cases c447 : x29 = (0 : Int32)
        · rw [if_pos c447] at hS
          refine ev_if_eq_t (t := 244) pm188 i188_165 rfl c447 rfl rfl ?_
          refine ev_iload_n pm188 i188_244 rfl rfl rfl ?_
          refine ev_bipush (v := 59) pm188 i188_245 rfl (by decide) rfl ?_
          by_cases c448 : x23 = (59 : Int32)
          · rw [if_pos c448] at hS
            refine ev_icmp_ne_t (t := 265) pm188 i188_247 rfl c448 rfl rfl ?_
            refine ev_aload_n pm188 i188_250 rfl rfl rfl ?_
            refine ev_iconst (v := 4) pm188 i188_251 rfl (by decide) rfl ?_
            obtain ⟨h30, e31, hS⟩ := bn_s hS
            refine ev_putI pm188 i188_252 rfl rfl rfl e31 rfl ?_
            refine ev_aload_n pm188 i188_255 rfl rfl rfl ?_
            refine ev_dup pm188 i188_256 rfl rfl rfl ?_
            obtain ⟨x32, e33, hS⟩ := bn_s hS
            refine ev_getI pm188 i188_257 rfl rfl (by decide) e33 rfl ?_
            refine ev_iconst (v := 1) pm188 i188_260 rfl (by decide) rfl ?_
            refine ev_b2 (f := fun x y => x + y) pm188 i188_261 rfl (fun _ _ _ _ => rfl) rfl ?_
            obtain ⟨h34, e35, hS⟩ := bn_s hS
            refine ev_putI pm188 i188_262 rfl rfl rfl e35 rfl ?_
            refine ev_kls (ls' := [unk, unk, unk]) pm188 i188_265 rfl rfl ?_
            cases hS
            exact ev_return pm188 i188_265 rfl rfl rfl
          · rw [if_neg c448] at hS
            refine ev_icmp_ne_f (t := 265) pm188 i188_247 rfl c448 rfl rfl ?_
            refine ev_kls (ls' := [unk, unk, unk]) pm188 i188_265 rfl rfl ?_
            cases hS
            exact ev_return pm188 i188_265 rfl rfl rfl
        · rw [if_neg c447] at hS
          refine ev_if_eq_f (t := 244) pm188 i188_165 rfl c447 rfl rfl ?_
          refine ev_aload_n pm188 i188_168 rfl rfl rfl ?_
          refine ev_iconst (v := 0) pm188 i188_169 rfl (by decide) rfl ?_
          obtain ⟨h36, e37, hS⟩ := bn_s hS
          refine ev_putI pm188 i188_170 rfl rfl rfl e37 rfl ?_
          refine ev_kls (ls' := [.ref a0, unk, .int (0 : Int32)]) pm188 i188_173 rfl rfl ?_
          obtain ⟨x58, h60, e59, hS⟩ := bd_s hS
          refine L_md_goesOn_173 d (by omega) _ _ _ _ _ e59 _ ?_
          show Ev P d 188 (231, [.ref a0, unk, .int x58], [], h60) _
          refine ev_iload_n pm188 i188_231 rfl rfl rfl ?_
          refine ev_iconst (v := 3) pm188 i188_232 rfl (by decide) rfl ?_
          by_cases c449 : (3 : Int32) < x58
          · rw [if_pos c449] at hS
            refine ev_icmp_gt_t (t := 265) pm188 i188_233 rfl c449 rfl rfl ?_
            refine ev_kls (ls' := [unk, unk, unk]) pm188 i188_265 rfl rfl ?_
            cases hS
            exact ev_return pm188 i188_265 rfl rfl rfl
          · rw [if_neg c449] at hS
            refine ev_icmp_gt_f (t := 265) pm188 i188_233 rfl c449 rfl rfl ?_
            refine ev_aload_n pm188 i188_236 rfl rfl rfl ?_
            refine ev_iconst (v := 3) pm188 i188_237 rfl (by decide) rfl ?_
            obtain ⟨h61, e62, hS⟩ := bn_s hS
            refine ev_putI pm188 i188_238 rfl rfl rfl e62 rfl ?_
            refine ev_goto (t := 265) pm188 i188_241 rfl rfl ?_
            refine ev_kls (ls' := [unk, unk, unk]) pm188 i188_265 rfl rfl ?_
            cases hS
            exact ev_return pm188 i188_265 rfl rfl rfl
      · rw [if_neg c446] at hS
        refine ev_if_eq_f (t := 161) pm188 i188_76 rfl c446 rfl rfl ?_
        refine ev_aload_n pm188 i188_79 rfl rfl rfl ?_
        refine ev_lconst (v := 0) pm188 i188_80 rfl (by decide) rfl ?_
        obtain ⟨h63, e64, hS⟩ := bn_s hS
        refine ev_putL pm188 i188_81 rfl rfl rfl e64 rfl ?_
        refine ev_kls (ls' := [.ref a0, unk, .int (0 : Int32)]) pm188 i188_84 rfl rfl ?_
        obtain ⟨x85, h87, e86, hS⟩ := bd_s hS
        refine L_md_goesOn_84 d (by omega) _ _ _ _ _ e86 _ ?_
        show Ev P d 188 (147, [.ref a0, unk, .int x85], [], h87) _
        refine ev_iload_n pm188 i188_147 rfl rfl rfl ?_
        refine ev_bipush (v := 8) pm188 i188_148 rfl (by decide) rfl ?_
        by_cases c450 : (8 : Int32) < x85
        · rw [if_pos c450] at hS
          refine ev_icmp_gt_t (t := 265) pm188 i188_150 rfl c450 rfl rfl ?_
          refine ev_kls (ls' := [unk, unk, unk]) pm188 i188_265 rfl rfl ?_
          cases hS
          exact ev_return pm188 i188_265 rfl rfl rfl
        · rw [if_neg c450] at hS
          refine ev_icmp_gt_f (t := 265) pm188 i188_150 rfl c450 rfl rfl ?_
          refine ev_aload_n pm188 i188_153 rfl rfl rfl ?_
          refine ev_iconst (v := 2) pm188 i188_154 rfl (by decide) rfl ?_
          obtain ⟨h88, e89, hS⟩ := bn_s hS
          refine ev_putI pm188 i188_155 rfl rfl rfl e89 rfl ?_
          refine ev_goto (t := 265) pm188 i188_158 rfl rfl ?_
          refine ev_kls (ls' := [unk, unk, unk]) pm188 i188_265 rfl rfl ?_
          cases hS
          exact ev_return pm188 i188_265 rfl rfl rfl
def B_md_packed_4 (l0 : Nat) (h : Hp) (s : Int64 × Int32) : Option ((Int64 × Int32) ⊕ (Int64)) :=
  bn (F_sg_length l0 h) fun x2 =>
  if s.2 < x2 then
    (bn (F_sg_charAt l0 s.2 h) fun x4 =>
    some (.inl (((32 : Int64) * s.1) + (((x4 - (97 : Int32)) + (1 : Int32)).toInt64), s.2 + (1 : Int32))))
  else
    (some (.inr s.1))
set_option maxRecDepth 20000 in
theorem L_md_packed_4 (d : Nat) (hd : 4 ≤ d) {l0 : Nat} {h : Hp} : ∀ (n : Nat) (s : Int64 × Int32) (x : Int64), lq (B_md_packed_4 l0 h) n s = some x → ∀ r, Ev P d 195 (36, [unk, .long x, unk, unk], [], h) r → Ev P d 195 (4, [.ref l0, .long s.1, unk, .int s.2], [], h) r := by
  refine lq_ev (G0 := fun (s : Int64 × Int32) r => Ev P d 195 (4, [.ref l0, .long s.1, unk, .int s.2], [], h) r) (X := fun (x : Int64) r => Ev P d 195 (36, [unk, .long x, unk, unk], [], h) r) ?_
  intro s y hS r hK
  unfold B_md_packed_4 at hS
  show Ev P d 195 (4, [.ref l0, .long s.1, unk, .int s.2], [], h) r
  refine ev_iload_n pm195 i195_4 rfl rfl rfl ?_
  refine ev_aload_n pm195 i195_5 rfl rfl rfl ?_
  obtain ⟨x2, e1, hS⟩ := bn_s hS
  refine ev_callV (sa := []) (rest := [.int s.2]) (st' := [.int x2, .int s.2]) (ls0 := [.ref l0]) (rv := some (.int x2)) pm195 i195_6 rfl rfl pm29 (by decide) (K_sg_length e1) rfl rfl (Nat.le_of_ble_eq_true rfl) (by omega) rfl (R_sg_length (d - 1) (by omega) e1) (by simp) rfl rfl ?_
  by_cases c451 : s.2 < x2
  · rw [if_pos c451] at hS
    refine ev_icmp_ge_t (t := 36) pm195 i195_9 rfl c451 rfl rfl ?_
    refine ev_ldc2_w (v := .long (32 : Int64)) pm195 i195_12 rfl rfl rfl ?_
    refine ev_lload_n pm195 i195_15 rfl rfl rfl ?_
    refine ev_bl2 (f := fun x y => x * y) pm195 i195_16 rfl (fun _ _ _ _ => rfl) rfl ?_
    refine ev_aload_n pm195 i195_17 rfl rfl rfl ?_
    refine ev_iload_n pm195 i195_18 rfl rfl rfl ?_
    obtain ⟨x4, e3, hS⟩ := bn_s hS
    refine ev_callV (sa := [.int s.2]) (rest := [.long ((32 : Int64) * s.1)]) (st' := [.int x4, .long ((32 : Int64) * s.1)]) (ls0 := [.ref l0, .int s.2]) (rv := some (.int x4)) pm195 i195_19 rfl rfl pm31 (by decide) (K_sg_charAt e3) rfl rfl (Nat.le_of_ble_eq_true rfl) (by omega) rfl (R_sg_charAt (d - 1) (by omega) e3) (by simp) rfl rfl ?_
    refine ev_bipush (v := 97) pm195 i195_22 rfl (by decide) rfl ?_
    refine ev_b2 (f := fun x y => x - y) pm195 i195_24 rfl (fun _ _ _ _ => rfl) rfl ?_
    refine ev_iconst (v := 1) pm195 i195_25 rfl (by decide) rfl ?_
    refine ev_b2 (f := fun x y => x + y) pm195 i195_26 rfl (fun _ _ _ _ => rfl) rfl ?_
    refine ev_i2l pm195 i195_27 rfl rfl ?_
    refine ev_bl2 (f := fun x y => x + y) pm195 i195_28 rfl (fun _ _ _ _ => rfl) rfl ?_
    refine ev_lstore_n (ls' := [.ref l0, .long (((32 : Int64) * s.1) + (((x4 - (97 : Int32)) + (1 : Int32)).toInt64)), unk, .int s.2]) pm195 i195_29 rfl (Nat.le_of_ble_eq_true rfl) rfl rfl ?_
    refine ev_iinc (v := 1) (ls' := [.ref l0, .long (((32 : Int64) * s.1) + (((x4 - (97 : Int32)) + (1 : Int32)).toInt64)), unk, .int (s.2 + (1 : Int32))]) pm195 i195_30 rfl rfl (by decide) rfl rfl ?_
    refine ev_goto (t := 4) pm195 i195_33 rfl rfl ?_
    cases hS
    exact hK
  · rw [if_neg c451] at hS
    refine ev_icmp_ge_f (t := 36) pm195 i195_9 rfl c451 rfl rfl ?_
    refine ev_kls (ls' := [unk, .long s.1, unk, unk]) pm195 i195_36 rfl rfl ?_
    cases hS
    exact hK
def F_md_packed (a0 : Nat) (h : Hp) : Option Int64 :=
  bn (lq (B_md_packed_4 a0 h) FU ((0 : Int64), (0 : Int32))) fun x5 =>
  some x5
set_option maxRecDepth 20000 in
theorem R_md_packed (d : Nat) (hd : 4 ≤ d) {a0 : Nat} {h : Hp} {v : Int64} (hS : F_md_packed a0 h = some v) : Ev P d 195 (0, [.ref a0, unk, unk, unk], [], h) (some (.long v), h) := by
  unfold F_md_packed at hS
  refine ev_lconst (v := 0) pm195 i195_0 rfl (by decide) rfl ?_
  refine ev_lstore_n (ls' := [.ref a0, .long (0 : Int64), unk, unk]) pm195 i195_1 rfl (Nat.le_of_ble_eq_true rfl) rfl rfl ?_
  refine ev_iconst (v := 0) pm195 i195_2 rfl (by decide) rfl ?_
  refine ev_istore_n (ls' := [.ref a0, .long (0 : Int64), unk, .int (0 : Int32)]) pm195 i195_3 rfl (Nat.le_of_ble_eq_true rfl) rfl rfl ?_
  obtain ⟨x5, e6, hS⟩ := bn_s hS
  refine L_md_packed_4 d (by omega) _ _ _ e6 _ ?_
  show Ev P d 195 (36, [unk, .long x5, unk, unk], [], h) _
  refine ev_lload_n pm195 i195_36 rfl rfl rfl ?_
  cases hS
  exact ev_lreturn pm195 i195_37 rfl rfl rfl
def F_md_isWord (a0 : Nat) (a1 : Nat) (h : Hp) : Option Int32 :=
  ck h a0 13 (bn (gI h a0 13 9) fun x1 =>
  if x1 = (2 : Int32) then
    (bn (gL h a0 13 14) fun x3 =>
    bn (F_md_packed a1 h) fun x6 =>
    if (lg_cmp x3 x6) = (0 : Int32) then
      (some (1 : Int32))
    else
      (some (0 : Int32)))
  else
    (some (0 : Int32)))
set_option maxRecDepth 20000 in
theorem K_md_isWord {a0 : Nat} {a1 : Nat} {h : Hp} {v : Int32} (hS : F_md_isWord a0 a1 h = some v) : kd h a0 = 13 := by
  unfold F_md_isWord at hS
  exact (ck_s hS).1
set_option maxRecDepth 20000 in
theorem R_md_isWord (d : Nat) (hd : 5 ≤ d) {a0 : Nat} {a1 : Nat} {h : Hp} {v : Int32} (hS : F_md_isWord a0 a1 h = some v) : Ev P d 194 (0, [.ref a0, .ref a1], [], h) (some (.int v), h) := by
  unfold F_md_isWord at hS
  replace hS := (ck_s hS).2
  refine ev_aload_n pm194 i194_0 rfl rfl rfl ?_
  obtain ⟨x1, e2, hS⟩ := bn_s hS
  refine ev_getI pm194 i194_1 rfl rfl (by decide) e2 rfl ?_
  refine ev_iconst (v := 2) pm194 i194_4 rfl (by decide) rfl ?_
  by_cases c452 : x1 = (2 : Int32)
  · rw [if_pos c452] at hS
    refine ev_icmp_ne_t (t := 24) pm194 i194_5 rfl c452 rfl rfl ?_
    refine ev_aload_n pm194 i194_8 rfl rfl rfl ?_
    obtain ⟨x3, e4, hS⟩ := bn_s hS
    refine ev_getL pm194 i194_9 rfl rfl rfl e4 rfl ?_
    refine ev_aload_n pm194 i194_12 rfl rfl rfl ?_
    obtain ⟨x6, e5, hS⟩ := bn_s hS
    refine ev_callS (sa := [.ref a1]) (rest := [.long x3]) (st' := [.long x6, .long x3]) (ls0 := [.ref a1, unk, unk, unk]) (rv := some (.long x6)) pm194 i194_13 rfl rfl pm195 (by decide) rfl rfl (Nat.le_of_ble_eq_true rfl) (by omega) rfl (R_md_packed (d - 1) (by omega) e5) (by simp) rfl rfl ?_
    refine ev_lcmp pm194 i194_16 rfl rfl ?_
    by_cases c453 : (lg_cmp x3 x6) = (0 : Int32)
    · rw [if_pos c453] at hS
      refine ev_if_ne_t (t := 24) pm194 i194_17 rfl c453 rfl rfl ?_
      refine ev_iconst (v := 1) pm194 i194_20 rfl (by decide) rfl ?_
      refine ev_goto (t := 25) pm194 i194_21 rfl rfl ?_
      refine ev_kls (ls' := [unk, unk]) pm194 i194_25 rfl rfl ?_
      cases hS
      exact ev_ireturn pm194 i194_25 rfl (by decide) rfl
    · rw [if_neg c453] at hS
      refine ev_if_ne_f (t := 24) pm194 i194_17 rfl c453 rfl rfl ?_
      refine ev_kls (ls' := [unk, unk]) pm194 i194_24 rfl rfl ?_
      refine ev_iconst (v := 0) pm194 i194_24 rfl (by decide) rfl ?_
      cases hS
      exact ev_ireturn pm194 i194_25 rfl (by decide) rfl
  · rw [if_neg c452] at hS
    refine ev_icmp_ne_f (t := 24) pm194 i194_5 rfl c452 rfl rfl ?_
    refine ev_kls (ls' := [unk, unk]) pm194 i194_24 rfl rfl ?_
    refine ev_iconst (v := 0) pm194 i194_24 rfl (by decide) rfl ?_
    cases hS
    exact ev_ireturn pm194 i194_25 rfl (by decide) rfl
def F_md_flaw (a0 : Nat) (a1 : Int32) (h : Hp) : Option Hp :=
  ck h a0 13 (bn (gI h a0 13 9) fun x1 =>
  if x1 = (5 : Int32) then
    (some h)
  else
    (bn (pI h a0 13 12 a1) fun h3 =>
    bn (gI h3 a0 13 10) fun x5 =>
    bn (pI h3 a0 13 13 x5) fun h7 =>
    bn (pI h7 a0 13 9 (5 : Int32)) fun h9 =>
    some h9))
set_option maxRecDepth 20000 in
theorem K_md_flaw {a0 : Nat} {a1 : Int32} {h : Hp} {h' : Hp} (hS : F_md_flaw a0 a1 h = some h') : kd h a0 = 13 := by
  unfold F_md_flaw at hS
  exact (ck_s hS).1
set_option maxRecDepth 20000 in
theorem R_md_flaw (d : Nat) (hd : 0 ≤ d) {a0 : Nat} {a1 : Int32} {h : Hp} {h' : Hp} (hS : F_md_flaw a0 a1 h = some h') : Ev P d 197 (0, [.ref a0, .int a1], [], h) (none, h') := by
  unfold F_md_flaw at hS
  replace hS := (ck_s hS).2
  refine ev_aload_n pm197 i197_0 rfl rfl rfl ?_
  obtain ⟨x1, e2, hS⟩ := bn_s hS
  refine ev_getI pm197 i197_1 rfl rfl (by decide) e2 rfl ?_
  refine ev_iconst (v := 5) pm197 i197_4 rfl (by decide) rfl ?_
  by_cases c454 : x1 = (5 : Int32)
  · rw [if_pos c454] at hS
    refine ev_icmp_ne_t (t := 9) pm197 i197_5 rfl c454 rfl rfl ?_
    cases hS
    exact ev_return pm197 i197_8 rfl rfl rfl
  · rw [if_neg c454] at hS
    refine ev_icmp_ne_f (t := 9) pm197 i197_5 rfl c454 rfl rfl ?_
    refine ev_aload_n pm197 i197_9 rfl rfl rfl ?_
    refine ev_iload_n pm197 i197_10 rfl rfl rfl ?_
    obtain ⟨h3, e4, hS⟩ := bn_s hS
    refine ev_putI pm197 i197_11 rfl rfl rfl e4 rfl ?_
    refine ev_aload_n pm197 i197_14 rfl rfl rfl ?_
    refine ev_aload_n pm197 i197_15 rfl rfl rfl ?_
    obtain ⟨x5, e6, hS⟩ := bn_s hS
    refine ev_getI pm197 i197_16 rfl rfl (by decide) e6 rfl ?_
    obtain ⟨h7, e8, hS⟩ := bn_s hS
    refine ev_putI pm197 i197_19 rfl rfl rfl e8 rfl ?_
    refine ev_aload_n pm197 i197_22 rfl rfl rfl ?_
    refine ev_iconst (v := 5) pm197 i197_23 rfl (by decide) rfl ?_
    obtain ⟨h9, e10, hS⟩ := bn_s hS
    refine ev_putI pm197 i197_24 rfl rfl rfl e10 rfl ?_
    cases hS
    exact ev_return pm197 i197_27 rfl rfl rfl
def F_md_needs (a0 : Nat) (a1 : Nat) (h : Hp) : Option Hp :=
  ck h a0 13 (bn (F_md_isWord a0 a1 h) fun x2 =>
  bn (if x2 = (0 : Int32) then
      (bn (F_md_flaw a0 (1 : Int32) h) fun h4 =>
      some h4)
    else
      (some h)) fun h6 =>
  bn (F_md_goesOn a0 h6) fun h8 =>
  some h8)
set_option maxRecDepth 20000 in
theorem K_md_needs {a0 : Nat} {a1 : Nat} {h : Hp} {h' : Hp} (hS : F_md_needs a0 a1 h = some h') : kd h a0 = 13 := by
  unfold F_md_needs at hS
  exact (ck_s hS).1
set_option maxRecDepth 20000 in
theorem R_md_needs (d : Nat) (hd : 6 ≤ d) {a0 : Nat} {a1 : Nat} {h : Hp} {h' : Hp} (hS : F_md_needs a0 a1 h = some h') : Ev P d 199 (0, [.ref a0, .ref a1], [], h) (none, h') := by
  unfold F_md_needs at hS
  replace hS := (ck_s hS).2
  refine ev_aload_n pm199 i199_0 rfl rfl rfl ?_
  refine ev_aload_n pm199 i199_1 rfl rfl rfl ?_
  obtain ⟨x2, e1, hS⟩ := bn_s hS
  refine ev_callV (sa := [.ref a1]) (rest := []) (st' := [.int x2]) (ls0 := [.ref a0, .ref a1]) (rv := some (.int x2)) pm199 i199_2 rfl rfl pm194 (by decide) (K_md_isWord e1) rfl rfl (Nat.le_of_ble_eq_true rfl) (by omega) rfl (R_md_isWord (d - 1) (by omega) e1) (by simp) rfl rfl ?_
  obtain ⟨h6, I455, hS⟩ := bn_s hS
  have J1 : Ev P d 199 (13, [.ref a0, unk], [], h6) (none, h') := by
    refine ev_aload_n pm199 i199_13 rfl rfl rfl ?_
    obtain ⟨h8, e7, hS⟩ := bn_s hS
    refine ev_callV (sa := []) (rest := []) (st' := []) (ls0 := [.ref a0, unk, unk]) (rv := none) pm199 i199_14 rfl rfl pm188 (by decide) (K_md_goesOn e7) rfl rfl (Nat.le_of_ble_eq_true rfl) (by omega) rfl (R_md_goesOn (d - 1) (by omega) e7) (by simp) rfl rfl ?_
    cases hS
    exact ev_return pm199 i199_17 rfl rfl rfl
  clear hS
  by_cases c455 : x2 = (0 : Int32)
  · rw [if_pos c455] at I455
    refine ev_if_ne_t (t := 13) pm199 i199_5 rfl c455 rfl rfl ?_
    refine ev_aload_n pm199 i199_8 rfl rfl rfl ?_
    refine ev_iconst (v := 1) pm199 i199_9 rfl (by decide) rfl ?_
    obtain ⟨h4, e3, I455⟩ := bn_s I455
    refine ev_callV (sa := [.int (1 : Int32)]) (rest := []) (st' := []) (ls0 := [.ref a0, .int (1 : Int32)]) (rv := none) pm199 i199_10 rfl rfl pm197 (by decide) (K_md_flaw e3) rfl rfl (Nat.le_of_ble_eq_true rfl) (by omega) rfl (R_md_flaw (d - 1) (by omega) e3) (by simp) rfl rfl ?_
    refine ev_kls (ls' := [.ref a0, unk]) pm199 i199_13 rfl rfl ?_
    cases I455
    exact J1
  · rw [if_neg c455] at I455
    refine ev_if_ne_f (t := 13) pm199 i199_5 rfl c455 rfl rfl ?_
    refine ev_kls (ls' := [.ref a0, unk]) pm199 i199_13 rfl rfl ?_
    cases I455
    exact J1
def F_md_in (a0 : Int32) (a1 : Int32) (a2 : Int32) : Option Int32 :=
  if a0 < a1 then
    (some (0 : Int32))
  else
    (if a2 < a0 then
      (some (0 : Int32))
    else
      (some (1 : Int32)))
set_option maxRecDepth 20000 in
theorem R_md_in (d : Nat) (hd : 0 ≤ d) {a0 : Int32} {a1 : Int32} {a2 : Int32} {h : Hp} {v : Int32} (hS : F_md_in a0 a1 a2 = some v) : Ev P d 201 (0, [.int a0, .int a1, .int a2], [], h) (some (.int v), h) := by
  unfold F_md_in at hS
  refine ev_iload_n pm201 i201_0 rfl rfl rfl ?_
  refine ev_iload_n pm201 i201_1 rfl rfl rfl ?_
  by_cases c456 : a0 < a1
  · rw [if_pos c456] at hS
    refine ev_icmp_lt_t (t := 14) pm201 i201_2 rfl c456 rfl rfl ?_
    refine ev_kls (ls' := [unk, unk, unk]) pm201 i201_14 rfl rfl ?_
    refine ev_iconst (v := 0) pm201 i201_14 rfl (by decide) rfl ?_
    cases hS
    exact ev_ireturn pm201 i201_15 rfl (by decide) rfl
  · rw [if_neg c456] at hS
    refine ev_icmp_lt_f (t := 14) pm201 i201_2 rfl c456 rfl rfl ?_
    refine ev_iload_n pm201 i201_5 rfl rfl rfl ?_
    refine ev_iload_n pm201 i201_6 rfl rfl rfl ?_
    by_cases c457 : a2 < a0
    · rw [if_pos c457] at hS
      refine ev_icmp_gt_t (t := 14) pm201 i201_7 rfl c457 rfl rfl ?_
      refine ev_kls (ls' := [unk, unk, unk]) pm201 i201_14 rfl rfl ?_
      refine ev_iconst (v := 0) pm201 i201_14 rfl (by decide) rfl ?_
      cases hS
      exact ev_ireturn pm201 i201_15 rfl (by decide) rfl
    · rw [if_neg c457] at hS
      refine ev_icmp_gt_f (t := 14) pm201 i201_7 rfl c457 rfl rfl ?_
      refine ev_iconst (v := 1) pm201 i201_10 rfl (by decide) rfl ?_
      refine ev_goto (t := 15) pm201 i201_11 rfl rfl ?_
      refine ev_kls (ls' := [unk, unk, unk]) pm201 i201_15 rfl rfl ?_
      cases hS
      exact ev_ireturn pm201 i201_15 rfl (by decide) rfl
def F_md_readWhole (a0 : Nat) (a1 : Int32) (a2 : Int32) (h : Hp) : Option (Int32 × Hp) :=
  ck h a0 13 (bn (gI h a0 13 9) fun x1 =>
  bn (if x1 = (3 : Int32) then
      (bn (gI h a0 13 11) fun x3 =>
      bn (F_md_in x3 a1 a2) fun x6 =>
      if x6 = (0 : Int32) then
        (bn (F_md_flaw a0 (4 : Int32) h) fun h8 =>
        some h8)
      else
        (some h))
    else
      (bn (F_md_flaw a0 (1 : Int32) h) fun h10 =>
      some h10)) fun h12 =>
  bn (gI h12 a0 13 9) fun x13 =>
  bn (if x13 = (5 : Int32) then
      (some a1)
    else
      (bn (gI h12 a0 13 11) fun x15 =>
      some x15)) fun q17 =>
  bn (F_md_goesOn a0 h12) fun h19 =>
  some (q17, h19))
set_option maxRecDepth 20000 in
theorem K_md_readWhole {a0 : Nat} {a1 : Int32} {a2 : Int32} {h : Hp} {v : Int32} {h' : Hp} (hS : F_md_readWhole a0 a1 a2 h = some (v, h')) : kd h a0 = 13 := by
  unfold F_md_readWhole at hS
  exact (ck_s hS).1
set_option maxRecDepth 20000 in
theorem R_md_readWhole (d : Nat) (hd : 2 ≤ d) {a0 : Nat} {a1 : Int32} {a2 : Int32} {h : Hp} {v : Int32} {h' : Hp} (hS : F_md_readWhole a0 a1 a2 h = some (v, h')) : Ev P d 200 (0, [.ref a0, .int a1, .int a2, unk], [], h) (some (.int v), h') := by
  unfold F_md_readWhole at hS
  replace hS := (ck_s hS).2
  refine ev_aload_n pm200 i200_0 rfl rfl rfl ?_
  obtain ⟨x1, e2, hS⟩ := bn_s hS
  refine ev_getI pm200 i200_1 rfl rfl (by decide) e2 rfl ?_
  refine ev_iconst (v := 3) pm200 i200_4 rfl (by decide) rfl ?_
  obtain ⟨h12, I458, hS⟩ := bn_s hS
  have J1 : Ev P d 200 (33, [.ref a0, .int a1, unk, unk], [], h12) (some (.int v), h') := by
    refine ev_aload_n pm200 i200_33 rfl rfl rfl ?_
    obtain ⟨x13, e14, hS⟩ := bn_s hS
    refine ev_getI pm200 i200_34 rfl rfl (by decide) e14 rfl ?_
    refine ev_iconst (v := 5) pm200 i200_37 rfl (by decide) rfl ?_
    obtain ⟨q17, I459, hS⟩ := bn_s hS
    have J2 : Ev P d 200 (49, [.ref a0, unk, unk, unk], [.int q17], h12) (some (.int v), h') := by
      refine ev_istore_n (ls' := [.ref a0, unk, unk, .int q17]) pm200 i200_49 rfl (Nat.le_of_ble_eq_true rfl) rfl rfl ?_
      refine ev_aload_n pm200 i200_50 rfl rfl rfl ?_
      obtain ⟨h19, e18, hS⟩ := bn_s hS
      refine ev_callV (sa := []) (rest := []) (st' := []) (ls0 := [.ref a0, unk, unk]) (rv := none) pm200 i200_51 rfl rfl pm188 (by decide) (K_md_goesOn e18) rfl rfl (Nat.le_of_ble_eq_true rfl) (by omega) rfl (R_md_goesOn (d - 1) (by omega) e18) (by simp) rfl rfl ?_
      refine ev_iload_n pm200 i200_54 rfl rfl rfl ?_
      cases hS
      exact ev_ireturn pm200 i200_55 rfl rfl rfl
    clear hS
    by_cases c459 : x13 = (5 : Int32)
    · rw [if_pos c459] at I459
      refine ev_icmp_ne_t (t := 45) pm200 i200_38 rfl c459 rfl rfl ?_
      refine ev_iload_n pm200 i200_41 rfl rfl rfl ?_
      refine ev_goto (t := 49) pm200 i200_42 rfl rfl ?_
      refine ev_kls (ls' := [.ref a0, unk, unk, unk]) pm200 i200_49 rfl rfl ?_
      cases I459
      exact J2
    · rw [if_neg c459] at I459
      refine ev_icmp_ne_f (t := 45) pm200 i200_38 rfl c459 rfl rfl ?_
      refine ev_aload_n pm200 i200_45 rfl rfl rfl ?_
      obtain ⟨x15, e16, I459⟩ := bn_s I459
      refine ev_getI pm200 i200_46 rfl rfl (by decide) e16 rfl ?_
      refine ev_kls (ls' := [.ref a0, unk, unk, unk]) pm200 i200_49 rfl rfl ?_
      cases I459
      exact J2
  clear hS
  by_cases c458 : x1 = (3 : Int32)
  · rw [if_pos c458] at I458
    refine ev_icmp_eq_t (t := 16) pm200 i200_5 rfl c458 rfl rfl ?_
    refine ev_aload_n pm200 i200_16 rfl rfl rfl ?_
    obtain ⟨x3, e4, I458⟩ := bn_s I458
    refine ev_getI pm200 i200_17 rfl rfl (by decide) e4 rfl ?_
    refine ev_iload_n pm200 i200_20 rfl rfl rfl ?_
    refine ev_iload_n pm200 i200_21 rfl rfl rfl ?_
    obtain ⟨x6, e5, I458⟩ := bn_s I458
    refine ev_callS (sa := [.int a2, .int a1, .int x3]) (rest := []) (st' := [.int x6]) (ls0 := [.int x3, .int a1, .int a2]) (rv := some (.int x6)) pm200 i200_22 rfl rfl pm201 (by decide) rfl rfl (Nat.le_of_ble_eq_true rfl) (by omega) rfl (R_md_in (d - 1) (by omega) e5) (by simp) rfl rfl ?_
    by_cases c460 : x6 = (0 : Int32)
    · rw [if_pos c460] at I458
      refine ev_if_ne_t (t := 33) pm200 i200_25 rfl c460 rfl rfl ?_
      refine ev_aload_n pm200 i200_28 rfl rfl rfl ?_
      refine ev_iconst (v := 4) pm200 i200_29 rfl (by decide) rfl ?_
      obtain ⟨h8, e7, I458⟩ := bn_s I458
      refine ev_callV (sa := [.int (4 : Int32)]) (rest := []) (st' := []) (ls0 := [.ref a0, .int (4 : Int32)]) (rv := none) pm200 i200_30 rfl rfl pm197 (by decide) (K_md_flaw e7) rfl rfl (Nat.le_of_ble_eq_true rfl) (by omega) rfl (R_md_flaw (d - 1) (by omega) e7) (by simp) rfl rfl ?_
      refine ev_kls (ls' := [.ref a0, .int a1, unk, unk]) pm200 i200_33 rfl rfl ?_
      cases I458
      exact J1
    · rw [if_neg c460] at I458
      refine ev_if_ne_f (t := 33) pm200 i200_25 rfl c460 rfl rfl ?_
      refine ev_kls (ls' := [.ref a0, .int a1, unk, unk]) pm200 i200_33 rfl rfl ?_
      cases I458
      exact J1
  · rw [if_neg c458] at I458
    refine ev_icmp_eq_f (t := 16) pm200 i200_5 rfl c458 rfl rfl ?_
    refine ev_aload_n pm200 i200_8 rfl rfl rfl ?_
    refine ev_iconst (v := 1) pm200 i200_9 rfl (by decide) rfl ?_
    obtain ⟨h10, e9, I458⟩ := bn_s I458
    refine ev_callV (sa := [.int (1 : Int32)]) (rest := []) (st' := []) (ls0 := [.ref a0, .int (1 : Int32)]) (rv := none) pm200 i200_10 rfl rfl pm197 (by decide) (K_md_flaw e9) rfl rfl (Nat.le_of_ble_eq_true rfl) (by omega) rfl (R_md_flaw (d - 1) (by omega) e9) (by simp) rfl rfl ?_
    refine ev_goto (t := 33) pm200 i200_13 rfl rfl ?_
    refine ev_kls (ls' := [.ref a0, .int a1, unk, unk]) pm200 i200_33 rfl rfl ?_
    cases I458
    exact J1
def F_md_readPart (a0 : Nat) (a1 : Nat) (a2 : Int32) (a3 : Int32) (h : Hp) : Option (Int32 × Hp) :=
  ck h a0 13 (bn (F_md_needs a0 a1 h) fun h2 =>
  bd (F_md_readWhole a0 a2 a3 h2) fun x4 h5 =>
  some (x4, h5))
set_option maxRecDepth 20000 in
theorem K_md_readPart {a0 : Nat} {a1 : Nat} {a2 : Int32} {a3 : Int32} {h : Hp} {v : Int32} {h' : Hp} (hS : F_md_readPart a0 a1 a2 a3 h = some (v, h')) : kd h a0 = 13 := by
  unfold F_md_readPart at hS
  exact (ck_s hS).1
set_option maxRecDepth 20000 in
theorem R_md_readPart (d : Nat) (hd : 7 ≤ d) {a0 : Nat} {a1 : Nat} {a2 : Int32} {a3 : Int32} {h : Hp} {v : Int32} {h' : Hp} (hS : F_md_readPart a0 a1 a2 a3 h = some (v, h')) : Ev P d 198 (0, [.ref a0, .ref a1, .int a2, .int a3], [], h) (some (.int v), h') := by
  unfold F_md_readPart at hS
  replace hS := (ck_s hS).2
  refine ev_aload_n pm198 i198_0 rfl rfl rfl ?_
  refine ev_aload_n pm198 i198_1 rfl rfl rfl ?_
  obtain ⟨h2, e1, hS⟩ := bn_s hS
  refine ev_callV (sa := [.ref a1]) (rest := []) (st' := []) (ls0 := [.ref a0, .ref a1]) (rv := none) pm198 i198_2 rfl rfl pm199 (by decide) (K_md_needs e1) rfl rfl (Nat.le_of_ble_eq_true rfl) (by omega) rfl (R_md_needs (d - 1) (by omega) e1) (by simp) rfl rfl ?_
  refine ev_aload_n pm198 i198_5 rfl rfl rfl ?_
  refine ev_iload_n pm198 i198_6 rfl rfl rfl ?_
  refine ev_iload_n pm198 i198_7 rfl rfl rfl ?_
  obtain ⟨x4, h5, e3, hS⟩ := bd_s hS
  refine ev_callV (sa := [.int a3, .int a2]) (rest := []) (st' := [.int x4]) (ls0 := [.ref a0, .int a2, .int a3, unk]) (rv := some (.int x4)) pm198 i198_8 rfl rfl pm200 (by decide) (K_md_readWhole e3) rfl rfl (Nat.le_of_ble_eq_true rfl) (by omega) rfl (R_md_readWhole (d - 1) (by omega) e3) (by simp) rfl rfl ?_
  cases hS
  exact ev_ireturn pm198 i198_11 rfl rfl rfl
def F_md_readLake (a0 : Nat) (h : Hp) : Option Hp :=
  ck h a0 13 (bn (gR h a0 13 4) fun x1 =>
  bn (gI h x1 12 0) fun x3 =>
  bn (if x3 = (-1 : Int32) then
      (some h)
    else
      (bn (F_md_flaw a0 (3 : Int32) h) fun h6 =>
      some h6)) fun h8 =>
  bn (F_md_goesOn a0 h8) fun h10 =>
  bd (F_md_readPart a0 1000012 (0 : Int32) (100 : Int32) h10) fun x12 h13 =>
  bn (gI h13 a0 13 9) fun x14 =>
  if x14 = (5 : Int32) then
    (some h13)
  else
    (bn (gR h13 a0 13 4) fun x16 =>
    bn (pI h13 x16 12 0 x12) fun h18 =>
    some h18))
set_option maxRecDepth 20000 in
theorem K_md_readLake {a0 : Nat} {h : Hp} {h' : Hp} (hS : F_md_readLake a0 h = some h') : kd h a0 = 13 := by
  unfold F_md_readLake at hS
  exact (ck_s hS).1
set_option maxRecDepth 20000 in
theorem R_md_readLake (d : Nat) (hd : 8 ≤ d) {a0 : Nat} {h : Hp} {h' : Hp} (hS : F_md_readLake a0 h = some h') : Ev P d 196 (0, [.ref a0, unk], [], h) (none, h') := by
  unfold F_md_readLake at hS
  replace hS := (ck_s hS).2
  refine ev_aload_n pm196 i196_0 rfl rfl rfl ?_
  obtain ⟨x1, e2, hS⟩ := bn_s hS
  refine ev_getR pm196 i196_1 rfl rfl rfl e2 rfl ?_
  obtain ⟨x3, e4, hS⟩ := bn_s hS
  refine ev_getI pm196 i196_4 rfl rfl (by decide) e4 rfl ?_
  refine ev_iconst (v := -1) pm196 i196_7 rfl (by decide) rfl ?_
  obtain ⟨h8, I461, hS⟩ := bn_s hS
  have J1 : Ev P d 196 (16, [.ref a0, unk], [], h8) (none, h') := by
    refine ev_aload_n pm196 i196_16 rfl rfl rfl ?_
    obtain ⟨h10, e9, hS⟩ := bn_s hS
    refine ev_callV (sa := []) (rest := []) (st' := []) (ls0 := [.ref a0, unk, unk]) (rv := none) pm196 i196_17 rfl rfl pm188 (by decide) (K_md_goesOn e9) rfl rfl (Nat.le_of_ble_eq_true rfl) (by omega) rfl (R_md_goesOn (d - 1) (by omega) e9) (by simp) rfl rfl ?_
    refine ev_aload_n pm196 i196_20 rfl rfl rfl ?_
    refine ev_ldc (v := .ref 1000012) pm196 i196_21 rfl rfl rfl ?_
    refine ev_iconst (v := 0) pm196 i196_23 rfl (by decide) rfl ?_
    refine ev_bipush (v := 100) pm196 i196_24 rfl (by decide) rfl ?_
    obtain ⟨x12, h13, e11, hS⟩ := bd_s hS
    refine ev_callV (sa := [.int (100 : Int32), .int (0 : Int32), .ref 1000012]) (rest := []) (st' := [.int x12]) (ls0 := [.ref a0, .ref 1000012, .int (0 : Int32), .int (100 : Int32)]) (rv := some (.int x12)) pm196 i196_26 rfl rfl pm198 (by decide) (K_md_readPart e11) rfl rfl (Nat.le_of_ble_eq_true rfl) (by omega) rfl (R_md_readPart (d - 1) (by omega) e11) (by simp) rfl rfl ?_
    refine ev_istore_n (ls' := [.ref a0, .int x12]) pm196 i196_29 rfl (Nat.le_of_ble_eq_true rfl) rfl rfl ?_
    refine ev_aload_n pm196 i196_30 rfl rfl rfl ?_
    obtain ⟨x14, e15, hS⟩ := bn_s hS
    refine ev_getI pm196 i196_31 rfl rfl (by decide) e15 rfl ?_
    refine ev_iconst (v := 5) pm196 i196_34 rfl (by decide) rfl ?_
    by_cases c462 : x14 = (5 : Int32)
    · rw [if_pos c462] at hS
      refine ev_icmp_eq_t (t := 46) pm196 i196_35 rfl c462 rfl rfl ?_
      refine ev_kls (ls' := [unk, unk]) pm196 i196_46 rfl rfl ?_
      cases hS
      exact ev_return pm196 i196_46 rfl rfl rfl
    · rw [if_neg c462] at hS
      refine ev_icmp_eq_f (t := 46) pm196 i196_35 rfl c462 rfl rfl ?_
      refine ev_aload_n pm196 i196_38 rfl rfl rfl ?_
      obtain ⟨x16, e17, hS⟩ := bn_s hS
      refine ev_getR pm196 i196_39 rfl rfl rfl e17 rfl ?_
      refine ev_iload_n pm196 i196_42 rfl rfl rfl ?_
      obtain ⟨h18, e19, hS⟩ := bn_s hS
      refine ev_putI pm196 i196_43 rfl rfl rfl e19 rfl ?_
      refine ev_kls (ls' := [unk, unk]) pm196 i196_46 rfl rfl ?_
      cases hS
      exact ev_return pm196 i196_46 rfl rfl rfl
  clear hS
  by_cases c461 : x3 = (-1 : Int32)
  · rw [if_pos c461] at I461
    refine ev_icmp_eq_t (t := 16) pm196 i196_8 rfl c461 rfl rfl ?_
    cases I461
    exact J1
  · rw [if_neg c461] at I461
    refine ev_icmp_eq_f (t := 16) pm196 i196_8 rfl c461 rfl rfl ?_
    refine ev_aload_n pm196 i196_11 rfl rfl rfl ?_
    refine ev_iconst (v := 3) pm196 i196_12 rfl (by decide) rfl ?_
    obtain ⟨h6, e5, I461⟩ := bn_s I461
    refine ev_callV (sa := [.int (3 : Int32)]) (rest := []) (st' := []) (ls0 := [.ref a0, .int (3 : Int32)]) (rv := none) pm196 i196_13 rfl rfl pm197 (by decide) (K_md_flaw e5) rfl rfl (Nat.le_of_ble_eq_true rfl) (by omega) rfl (R_md_flaw (d - 1) (by omega) e5) (by simp) rfl rfl ?_
    cases I461
    exact J1
def F_md_lineBegins (a0 : Nat) (a1 : Int32) (a2 : Int32) (h : Hp) : Option Hp :=
  ck h a0 13 (bn (if a1 = a2 then
      (bn (F_md_flaw a0 (5 : Int32) h) fun h2 =>
      some h2)
    else
      (some h)) fun h4 =>
  bn (gR h4 a0 13 4) fun x5 =>
  bn (gI h4 x5 12 0) fun x7 =>
  bn (if x7 = (-1 : Int32) then
      (bn (F_md_flaw a0 (6 : Int32) h4) fun h10 =>
      some h10)
    else
      (some h4)) fun h12 =>
  bn (F_md_goesOn a0 h12) fun h14 =>
  some h14)
set_option maxRecDepth 20000 in
theorem K_md_lineBegins {a0 : Nat} {a1 : Int32} {a2 : Int32} {h : Hp} {h' : Hp} (hS : F_md_lineBegins a0 a1 a2 h = some h') : kd h a0 = 13 := by
  unfold F_md_lineBegins at hS
  exact (ck_s hS).1
set_option maxRecDepth 20000 in
theorem R_md_lineBegins (d : Nat) (hd : 2 ≤ d) {a0 : Nat} {a1 : Int32} {a2 : Int32} {h : Hp} {h' : Hp} (hS : F_md_lineBegins a0 a1 a2 h = some h') : Ev P d 203 (0, [.ref a0, .int a1, .int a2], [], h) (none, h') := by
  unfold F_md_lineBegins at hS
  replace hS := (ck_s hS).2
  refine ev_iload_n pm203 i203_0 rfl rfl rfl ?_
  refine ev_iload_n pm203 i203_1 rfl rfl rfl ?_
  obtain ⟨h4, I463, hS⟩ := bn_s hS
  have J1 : Ev P d 203 (10, [.ref a0, unk, unk], [], h4) (none, h') := by
    refine ev_aload_n pm203 i203_10 rfl rfl rfl ?_
    obtain ⟨x5, e6, hS⟩ := bn_s hS
    refine ev_getR pm203 i203_11 rfl rfl rfl e6 rfl ?_
    obtain ⟨x7, e8, hS⟩ := bn_s hS
    refine ev_getI pm203 i203_14 rfl rfl (by decide) e8 rfl ?_
    refine ev_iconst (v := -1) pm203 i203_17 rfl (by decide) rfl ?_
    obtain ⟨h12, I464, hS⟩ := bn_s hS
    have J2 : Ev P d 203 (27, [.ref a0, unk, unk], [], h12) (none, h') := by
      refine ev_aload_n pm203 i203_27 rfl rfl rfl ?_
      obtain ⟨h14, e13, hS⟩ := bn_s hS
      refine ev_callV (sa := []) (rest := []) (st' := []) (ls0 := [.ref a0, unk, unk]) (rv := none) pm203 i203_28 rfl rfl pm188 (by decide) (K_md_goesOn e13) rfl rfl (Nat.le_of_ble_eq_true rfl) (by omega) rfl (R_md_goesOn (d - 1) (by omega) e13) (by simp) rfl rfl ?_
      cases hS
      exact ev_return pm203 i203_31 rfl rfl rfl
    clear hS
    by_cases c464 : x7 = (-1 : Int32)
    · rw [if_pos c464] at I464
      refine ev_icmp_ne_t (t := 27) pm203 i203_18 rfl c464 rfl rfl ?_
      refine ev_aload_n pm203 i203_21 rfl rfl rfl ?_
      refine ev_bipush (v := 6) pm203 i203_22 rfl (by decide) rfl ?_
      obtain ⟨h10, e9, I464⟩ := bn_s I464
      refine ev_callV (sa := [.int (6 : Int32)]) (rest := []) (st' := []) (ls0 := [.ref a0, .int (6 : Int32)]) (rv := none) pm203 i203_24 rfl rfl pm197 (by decide) (K_md_flaw e9) rfl rfl (Nat.le_of_ble_eq_true rfl) (by omega) rfl (R_md_flaw (d - 1) (by omega) e9) (by simp) rfl rfl ?_
      cases I464
      exact J2
    · rw [if_neg c464] at I464
      refine ev_icmp_ne_f (t := 27) pm203 i203_18 rfl c464 rfl rfl ?_
      cases I464
      exact J2
  clear hS
  by_cases c463 : a1 = a2
  · rw [if_pos c463] at I463
    refine ev_icmp_ne_t (t := 10) pm203 i203_2 rfl c463 rfl rfl ?_
    refine ev_aload_n pm203 i203_5 rfl rfl rfl ?_
    refine ev_iconst (v := 5) pm203 i203_6 rfl (by decide) rfl ?_
    obtain ⟨h2, e1, I463⟩ := bn_s I463
    refine ev_callV (sa := [.int (5 : Int32)]) (rest := []) (st' := []) (ls0 := [.ref a0, .int (5 : Int32)]) (rv := none) pm203 i203_7 rfl rfl pm197 (by decide) (K_md_flaw e1) rfl rfl (Nat.le_of_ble_eq_true rfl) (by omega) rfl (R_md_flaw (d - 1) (by omega) e1) (by simp) rfl rfl ?_
    refine ev_kls (ls' := [.ref a0, unk, unk]) pm203 i203_10 rfl rfl ?_
    cases I463
    exact J1
  · rw [if_neg c463] at I463
    refine ev_icmp_ne_f (t := 10) pm203 i203_2 rfl c463 rfl rfl ?_
    refine ev_kls (ls' := [.ref a0, unk, unk]) pm203 i203_10 rfl rfl ?_
    cases I463
    exact J1
def F_md_isName (a0 : Nat) (h : Hp) : Option Int32 :=
  ck h a0 13 (bn (gI h a0 13 9) fun x1 =>
  if x1 = (2 : Int32) then
    (bn (F_md_isWord a0 1000003 h) fun x4 =>
    if x4 = (0 : Int32) then
      (bn (F_md_isWord a0 1000004 h) fun x6 =>
      if x6 = (0 : Int32) then
        (bn (F_md_isWord a0 1000005 h) fun x8 =>
        if x8 = (0 : Int32) then
          (bn (F_md_isWord a0 1000006 h) fun x10 =>
          if x10 = (0 : Int32) then
            (bn (F_md_isWord a0 1000007 h) fun x12 =>
            if x12 = (0 : Int32) then
              (bn (F_md_isWord a0 1000008 h) fun x14 =>
              if x14 = (0 : Int32) then
                (bn (F_md_isWord a0 1000009 h) fun x16 =>
                if x16 = (0 : Int32) then
                  (bn (F_md_isWord a0 1000010 h) fun x18 =>
                  if x18 = (0 : Int32) then
                    (bn (F_md_isWord a0 1000011 h) fun x20 =>
                    if x20 = (0 : Int32) then
                      (some (1 : Int32))
                    else
                      (some (0 : Int32)))
                  else
                    (some (0 : Int32)))
                else
                  (some (0 : Int32)))
              else
                (some (0 : Int32)))
            else
              (some (0 : Int32)))
          else
            (some (0 : Int32)))
        else
          (some (0 : Int32)))
      else
        (some (0 : Int32)))
    else
      (some (0 : Int32)))
  else
    (some (0 : Int32)))
set_option maxRecDepth 20000 in
theorem K_md_isName {a0 : Nat} {h : Hp} {v : Int32} (hS : F_md_isName a0 h = some v) : kd h a0 = 13 := by
  unfold F_md_isName at hS
  exact (ck_s hS).1
set_option maxRecDepth 20000 in
theorem R_md_isName (d : Nat) (hd : 6 ≤ d) {a0 : Nat} {h : Hp} {v : Int32} (hS : F_md_isName a0 h = some v) : Ev P d 205 (0, [.ref a0], [], h) (some (.int v), h) := by
  unfold F_md_isName at hS
  replace hS := (ck_s hS).2
  refine ev_aload_n pm205 i205_0 rfl rfl rfl ?_
  obtain ⟨x1, e2, hS⟩ := bn_s hS
  refine ev_getI pm205 i205_1 rfl rfl (by decide) e2 rfl ?_
  refine ev_iconst (v := 2) pm205 i205_4 rfl (by decide) rfl ?_
  by_cases c465 : x1 = (2 : Int32)
  · rw [if_pos c465] at hS
    refine ev_icmp_ne_t (t := 53) pm205 i205_5 rfl c465 rfl rfl ?_
    refine ev_aload_n pm205 i205_8 rfl rfl rfl ?_
    refine ev_ldc (v := .ref 1000003) pm205 i205_9 rfl rfl rfl ?_
    obtain ⟨x4, e3, hS⟩ := bn_s hS
    refine ev_callV (sa := [.ref 1000003]) (rest := []) (st' := [.int x4]) (ls0 := [.ref a0, .ref 1000003]) (rv := some (.int x4)) pm205 i205_11 rfl rfl pm194 (by decide) (K_md_isWord e3) rfl rfl (Nat.le_of_ble_eq_true rfl) (by omega) rfl (R_md_isWord (d - 1) (by omega) e3) (by simp) rfl rfl ?_
    by_cases c466 : x4 = (0 : Int32)
    · rw [if_pos c466] at hS
      refine ev_if_ne_t (t := 53) pm205 i205_14 rfl c466 rfl rfl ?_
      refine ev_aload_n pm205 i205_17 rfl rfl rfl ?_
      refine ev_ldc (v := .ref 1000004) pm205 i205_18 rfl rfl rfl ?_
      obtain ⟨x6, e5, hS⟩ := bn_s hS
      refine ev_callV (sa := [.ref 1000004]) (rest := []) (st' := [.int x6]) (ls0 := [.ref a0, .ref 1000004]) (rv := some (.int x6)) pm205 i205_20 rfl rfl pm194 (by decide) (K_md_isWord e5) rfl rfl (Nat.le_of_ble_eq_true rfl) (by omega) rfl (R_md_isWord (d - 1) (by omega) e5) (by simp) rfl rfl ?_
      by_cases c467 : x6 = (0 : Int32)
      · rw [if_pos c467] at hS
        refine ev_if_ne_t (t := 53) pm205 i205_23 rfl c467 rfl rfl ?_
        refine ev_aload_n pm205 i205_26 rfl rfl rfl ?_
        refine ev_ldc (v := .ref 1000005) pm205 i205_27 rfl rfl rfl ?_
        obtain ⟨x8, e7, hS⟩ := bn_s hS
        refine ev_callV (sa := [.ref 1000005]) (rest := []) (st' := [.int x8]) (ls0 := [.ref a0, .ref 1000005]) (rv := some (.int x8)) pm205 i205_29 rfl rfl pm194 (by decide) (K_md_isWord e7) rfl rfl (Nat.le_of_ble_eq_true rfl) (by omega) rfl (R_md_isWord (d - 1) (by omega) e7) (by simp) rfl rfl ?_
        by_cases c468 : x8 = (0 : Int32)
        · rw [if_pos c468] at hS
          refine ev_if_ne_t (t := 53) pm205 i205_32 rfl c468 rfl rfl ?_
          refine ev_aload_n pm205 i205_35 rfl rfl rfl ?_
          refine ev_ldc (v := .ref 1000006) pm205 i205_36 rfl rfl rfl ?_
          obtain ⟨x10, e9, hS⟩ := bn_s hS
          refine ev_callV (sa := [.ref 1000006]) (rest := []) (st' := [.int x10]) (ls0 := [.ref a0, .ref 1000006]) (rv := some (.int x10)) pm205 i205_38 rfl rfl pm194 (by decide) (K_md_isWord e9) rfl rfl (Nat.le_of_ble_eq_true rfl) (by omega) rfl (R_md_isWord (d - 1) (by omega) e9) (by simp) rfl rfl ?_
          by_cases c469 : x10 = (0 : Int32)
          · rw [if_pos c469] at hS
            refine ev_if_ne_t (t := 53) pm205 i205_41 rfl c469 rfl rfl ?_
            refine ev_aload_n pm205 i205_44 rfl rfl rfl ?_
            refine ev_ldc (v := .ref 1000007) pm205 i205_45 rfl rfl rfl ?_
            obtain ⟨x12, e11, hS⟩ := bn_s hS
            refine ev_callV (sa := [.ref 1000007]) (rest := []) (st' := [.int x12]) (ls0 := [.ref a0, .ref 1000007]) (rv := some (.int x12)) pm205 i205_47 rfl rfl pm194 (by decide) (K_md_isWord e11) rfl rfl (Nat.le_of_ble_eq_true rfl) (by omega) rfl (R_md_isWord (d - 1) (by omega) e11) (by simp) rfl rfl ?_
            by_cases c470 : x12 = (0 : Int32)
            · rw [if_pos c470] at hS
              refine ev_if_eq_t (t := 55) pm205 i205_50 rfl c470 rfl rfl ?_
              refine ev_aload_n pm205 i205_55 rfl rfl rfl ?_
              refine ev_ldc (v := .ref 1000008) pm205 i205_56 rfl rfl rfl ?_
              obtain ⟨x14, e13, hS⟩ := bn_s hS
              refine ev_callV (sa := [.ref 1000008]) (rest := []) (st' := [.int x14]) (ls0 := [.ref a0, .ref 1000008]) (rv := some (.int x14)) pm205 i205_58 rfl rfl pm194 (by decide) (K_md_isWord e13) rfl rfl (Nat.le_of_ble_eq_true rfl) (by omega) rfl (R_md_isWord (d - 1) (by omega) e13) (by simp) rfl rfl ?_
              by_cases c471 : x14 = (0 : Int32)
              · rw [if_pos c471] at hS
                refine ev_if_ne_t (t := 95) pm205 i205_61 rfl c471 rfl rfl ?_
                refine ev_aload_n pm205 i205_64 rfl rfl rfl ?_
                refine ev_ldc (v := .ref 1000009) pm205 i205_65 rfl rfl rfl ?_
                obtain ⟨x16, e15, hS⟩ := bn_s hS
                refine ev_callV (sa := [.ref 1000009]) (rest := []) (st' := [.int x16]) (ls0 := [.ref a0, .ref 1000009]) (rv := some (.int x16)) pm205 i205_67 rfl rfl pm194 (by decide) (K_md_isWord e15) rfl rfl (Nat.le_of_ble_eq_true rfl) (by omega) rfl (R_md_isWord (d - 1) (by omega) e15) (by simp) rfl rfl ?_
                by_cases c472 : x16 = (0 : Int32)
                · rw [if_pos c472] at hS
                  refine ev_if_ne_t (t := 95) pm205 i205_70 rfl c472 rfl rfl ?_
                  refine ev_aload_n pm205 i205_73 rfl rfl rfl ?_
                  refine ev_ldc (v := .ref 1000010) pm205 i205_74 rfl rfl rfl ?_
                  obtain ⟨x18, e17, hS⟩ := bn_s hS
                  refine ev_callV (sa := [.ref 1000010]) (rest := []) (st' := [.int x18]) (ls0 := [.ref a0, .ref 1000010]) (rv := some (.int x18)) pm205 i205_76 rfl rfl pm194 (by decide) (K_md_isWord e17) rfl rfl (Nat.le_of_ble_eq_true rfl) (by omega) rfl (R_md_isWord (d - 1) (by omega) e17) (by simp) rfl rfl ?_
                  by_cases c473 : x18 = (0 : Int32)
                  · rw [if_pos c473] at hS
                    refine ev_if_ne_t (t := 95) pm205 i205_79 rfl c473 rfl rfl ?_
                    refine ev_aload_n pm205 i205_82 rfl rfl rfl ?_
                    refine ev_ldc (v := .ref 1000011) pm205 i205_83 rfl rfl rfl ?_
                    obtain ⟨x20, e19, hS⟩ := bn_s hS
                    refine ev_callV (sa := [.ref 1000011]) (rest := []) (st' := [.int x20]) (ls0 := [.ref a0, .ref 1000011]) (rv := some (.int x20)) pm205 i205_85 rfl rfl pm194 (by decide) (K_md_isWord e19) rfl rfl (Nat.le_of_ble_eq_true rfl) (by omega) rfl (R_md_isWord (d - 1) (by omega) e19) (by simp) rfl rfl ?_
                    by_cases c474 : x20 = (0 : Int32)
                    · rw [if_pos c474] at hS
                      refine ev_if_ne_t (t := 95) pm205 i205_88 rfl c474 rfl rfl ?_
                      refine ev_iconst (v := 1) pm205 i205_91 rfl (by decide) rfl ?_
                      refine ev_goto (t := 96) pm205 i205_92 rfl rfl ?_
                      refine ev_kls (ls' := [unk]) pm205 i205_96 rfl rfl ?_
                      cases hS
                      exact ev_ireturn pm205 i205_96 rfl (by decide) rfl
                    · rw [if_neg c474] at hS
                      refine ev_if_ne_f (t := 95) pm205 i205_88 rfl c474 rfl rfl ?_
                      refine ev_kls (ls' := [unk]) pm205 i205_95 rfl rfl ?_
                      refine ev_iconst (v := 0) pm205 i205_95 rfl (by decide) rfl ?_
                      cases hS
                      exact ev_ireturn pm205 i205_96 rfl (by decide) rfl
                  · rw [if_neg c473] at hS
                    refine ev_if_ne_f (t := 95) pm205 i205_79 rfl c473 rfl rfl ?_
                    refine ev_kls (ls' := [unk]) pm205 i205_95 rfl rfl ?_
                    refine ev_iconst (v := 0) pm205 i205_95 rfl (by decide) rfl ?_
                    cases hS
                    exact ev_ireturn pm205 i205_96 rfl (by decide) rfl
                · rw [if_neg c472] at hS
                  refine ev_if_ne_f (t := 95) pm205 i205_70 rfl c472 rfl rfl ?_
                  refine ev_kls (ls' := [unk]) pm205 i205_95 rfl rfl ?_
                  refine ev_iconst (v := 0) pm205 i205_95 rfl (by decide) rfl ?_
                  cases hS
                  exact ev_ireturn pm205 i205_96 rfl (by decide) rfl
              · rw [if_neg c471] at hS
                refine ev_if_ne_f (t := 95) pm205 i205_61 rfl c471 rfl rfl ?_
                refine ev_kls (ls' := [unk]) pm205 i205_95 rfl rfl ?_
                refine ev_iconst (v := 0) pm205 i205_95 rfl (by decide) rfl ?_
                cases hS
                exact ev_ireturn pm205 i205_96 rfl (by decide) rfl
            · rw [if_neg c470] at hS
              refine ev_if_eq_f (t := 55) pm205 i205_50 rfl c470 rfl rfl ?_
              refine ev_kls (ls' := [unk]) pm205 i205_53 rfl rfl ?_
              refine ev_iconst (v := 0) pm205 i205_53 rfl (by decide) rfl ?_
              cases hS
              exact ev_ireturn pm205 i205_54 rfl (by decide) rfl
          · rw [if_neg c469] at hS
            refine ev_if_ne_f (t := 53) pm205 i205_41 rfl c469 rfl rfl ?_
            refine ev_kls (ls' := [unk]) pm205 i205_53 rfl rfl ?_
            refine ev_iconst (v := 0) pm205 i205_53 rfl (by decide) rfl ?_
            cases hS
            exact ev_ireturn pm205 i205_54 rfl (by decide) rfl
        · rw [if_neg c468] at hS
          refine ev_if_ne_f (t := 53) pm205 i205_32 rfl c468 rfl rfl ?_
          refine ev_kls (ls' := [unk]) pm205 i205_53 rfl rfl ?_
          refine ev_iconst (v := 0) pm205 i205_53 rfl (by decide) rfl ?_
          cases hS
          exact ev_ireturn pm205 i205_54 rfl (by decide) rfl
      · rw [if_neg c467] at hS
        refine ev_if_ne_f (t := 53) pm205 i205_23 rfl c467 rfl rfl ?_
        refine ev_kls (ls' := [unk]) pm205 i205_53 rfl rfl ?_
        refine ev_iconst (v := 0) pm205 i205_53 rfl (by decide) rfl ?_
        cases hS
        exact ev_ireturn pm205 i205_54 rfl (by decide) rfl
    · rw [if_neg c466] at hS
      refine ev_if_ne_f (t := 53) pm205 i205_14 rfl c466 rfl rfl ?_
      refine ev_kls (ls' := [unk]) pm205 i205_53 rfl rfl ?_
      refine ev_iconst (v := 0) pm205 i205_53 rfl (by decide) rfl ?_
      cases hS
      exact ev_ireturn pm205 i205_54 rfl (by decide) rfl
  · rw [if_neg c465] at hS
    refine ev_icmp_ne_f (t := 53) pm205 i205_5 rfl c465 rfl rfl ?_
    refine ev_kls (ls' := [unk]) pm205 i205_53 rfl rfl ?_
    refine ev_iconst (v := 0) pm205 i205_53 rfl (by decide) rfl ?_
    cases hS
    exact ev_ireturn pm205 i205_54 rfl (by decide) rfl
def B_la_find_2 (l0 : Nat) (l1 : Int64) (h : Hp) (s : Int32) : Option ((Int32) ⊕ ((Unit) ⊕ Int32)) :=
  bn (gI h l0 12 8) fun x1 =>
  if s < x1 then
    (bn (gR h l0 12 27) fun x3 =>
    bn (aL h x3 s) fun x5 =>
    if (lg_cmp x5 l1) = (0 : Int32) then
      (some (.inr (.inr s)))
    else
      (some (.inl (s + (1 : Int32)))))
  else
    (some (.inr (.inl ())))
set_option maxRecDepth 20000 in
theorem L_la_find_2 (d : Nat) (hd : 0 ≤ d) {l0 : Nat} {l1 : Int64} {h : Hp} : ∀ (n : Nat) (s : Int32) (x : (Unit) ⊕ Int32), lq (B_la_find_2 l0 l1 h) n s = some x → ∀ r, ei x (fun q => Ev P d 206 (29, [unk, unk, unk, unk], [], h) r) (fun v => (some (.int v), h) = r) → Ev P d 206 (2, [.ref l0, .long l1, unk, .int s], [], h) r := by
  refine lq_ev (G0 := fun (s : Int32) r => Ev P d 206 (2, [.ref l0, .long l1, unk, .int s], [], h) r) (X := fun (x : (Unit) ⊕ Int32) r => ei x (fun q => Ev P d 206 (29, [unk, unk, unk, unk], [], h) r) (fun v => (some (.int v), h) = r)) ?_
  intro s y hS r hK
  unfold B_la_find_2 at hS
  show Ev P d 206 (2, [.ref l0, .long l1, unk, .int s], [], h) r
  refine ev_iload_n pm206 i206_2 rfl rfl rfl ?_
  refine ev_aload_n pm206 i206_3 rfl rfl rfl ?_
  obtain ⟨x1, e2, hS⟩ := bn_s hS
  refine ev_getI pm206 i206_4 rfl rfl (by decide) e2 rfl ?_
  by_cases c475 : s < x1
  · rw [if_pos c475] at hS
    refine ev_icmp_ge_t (t := 29) pm206 i206_7 rfl c475 rfl rfl ?_
    refine ev_aload_n pm206 i206_10 rfl rfl rfl ?_
    obtain ⟨x3, e4, hS⟩ := bn_s hS
    refine ev_getR pm206 i206_11 rfl rfl rfl e4 rfl ?_
    refine ev_iload_n pm206 i206_14 rfl rfl rfl ?_
    obtain ⟨x5, e6, hS⟩ := bn_s hS
    refine ev_lald pm206 i206_15 rfl e6 rfl ?_
    refine ev_lload_n pm206 i206_16 rfl rfl rfl ?_
    refine ev_lcmp pm206 i206_17 rfl rfl ?_
    by_cases c476 : (lg_cmp x5 l1) = (0 : Int32)
    · rw [if_pos c476] at hS
      refine ev_if_ne_t (t := 23) pm206 i206_18 rfl c476 rfl rfl ?_
      refine ev_iload_n pm206 i206_21 rfl rfl rfl ?_
      cases hS
      exact ev_ireturn pm206 i206_22 rfl rfl hK
    · rw [if_neg c476] at hS
      refine ev_if_ne_f (t := 23) pm206 i206_18 rfl c476 rfl rfl ?_
      refine ev_iinc (v := 1) (ls' := [.ref l0, .long l1, unk, .int (s + (1 : Int32))]) pm206 i206_23 rfl rfl (by decide) rfl rfl ?_
      refine ev_goto (t := 2) pm206 i206_26 rfl rfl ?_
      cases hS
      exact hK
  · rw [if_neg c475] at hS
    refine ev_icmp_ge_f (t := 29) pm206 i206_7 rfl c475 rfl rfl ?_
    refine ev_kls (ls' := [unk, unk, unk, unk]) pm206 i206_29 rfl rfl ?_
    cases hS
    exact hK
def F_la_find (a0 : Nat) (a1 : Int64) (h : Hp) : Option Int32 :=
  ck h a0 12 (bn (lq (B_la_find_2 a0 a1 h) FU (0 : Int32)) fun x7 =>
  ei x7 (fun q9 =>
  some (-1 : Int32))
  (fun x10 => some x10))
set_option maxRecDepth 20000 in
theorem K_la_find {a0 : Nat} {a1 : Int64} {h : Hp} {v : Int32} (hS : F_la_find a0 a1 h = some v) : kd h a0 = 12 := by
  unfold F_la_find at hS
  exact (ck_s hS).1
set_option maxRecDepth 20000 in
theorem R_la_find (d : Nat) (hd : 0 ≤ d) {a0 : Nat} {a1 : Int64} {h : Hp} {v : Int32} (hS : F_la_find a0 a1 h = some v) : Ev P d 206 (0, [.ref a0, .long a1, unk, unk], [], h) (some (.int v), h) := by
  unfold F_la_find at hS
  replace hS := (ck_s hS).2
  refine ev_iconst (v := 0) pm206 i206_0 rfl (by decide) rfl ?_
  refine ev_istore_n (ls' := [.ref a0, .long a1, unk, .int (0 : Int32)]) pm206 i206_1 rfl (Nat.le_of_ble_eq_true rfl) rfl rfl ?_
  obtain ⟨x7, e8, hS⟩ := bn_s hS
  refine L_la_find_2 d (by omega) _ _ _ e8 _ ?_
  cases x7 with
  | inl q9 =>
    replace hS := ei_l hS
    show Ev P d 206 (29, [unk, unk, unk, unk], [], h) _
    refine ev_iconst (v := -1) pm206 i206_29 rfl (by decide) rfl ?_
    cases hS
    exact ev_ireturn pm206 i206_30 rfl rfl rfl
  | inr x10 =>
    replace hS := ei_r hS
    cases hS
    rfl
def F_md_readFresh (a0 : Nat) (h : Hp) : Option (Int64 × Hp) :=
  ck h a0 13 (bn (F_md_isName a0 h) fun x2 =>
  bn (if x2 = (0 : Int32) then
      (bn (F_md_flaw a0 (1 : Int32) h) fun h4 =>
      some h4)
    else
      (some h)) fun h6 =>
  bn (gR h6 a0 13 4) fun x7 =>
  bn (gL h6 a0 13 14) fun x9 =>
  bn (F_la_find x7 x9 h6) fun x12 =>
  bn (if x12 = (-1 : Int32) then
      (some h6)
    else
      (bn (F_md_flaw a0 (3 : Int32) h6) fun h14 =>
      some h14)) fun h16 =>
  bn (gL h16 a0 13 14) fun x17 =>
  bn (F_md_goesOn a0 h16) fun h20 =>
  some (x17, h20))
set_option maxRecDepth 20000 in
theorem K_md_readFresh {a0 : Nat} {h : Hp} {v : Int64} {h' : Hp} (hS : F_md_readFresh a0 h = some (v, h')) : kd h a0 = 13 := by
  unfold F_md_readFresh at hS
  exact (ck_s hS).1
set_option maxRecDepth 20000 in
theorem R_md_readFresh (d : Nat) (hd : 7 ≤ d) {a0 : Nat} {h : Hp} {v : Int64} {h' : Hp} (hS : F_md_readFresh a0 h = some (v, h')) : Ev P d 204 (0, [.ref a0, unk, unk], [], h) (some (.long v), h') := by
  unfold F_md_readFresh at hS
  replace hS := (ck_s hS).2
  refine ev_aload_n pm204 i204_0 rfl rfl rfl ?_
  obtain ⟨x2, e1, hS⟩ := bn_s hS
  refine ev_callV (sa := []) (rest := []) (st' := [.int x2]) (ls0 := [.ref a0]) (rv := some (.int x2)) pm204 i204_1 rfl rfl pm205 (by decide) (K_md_isName e1) rfl rfl (Nat.le_of_ble_eq_true rfl) (by omega) rfl (R_md_isName (d - 1) (by omega) e1) (by simp) rfl rfl ?_
  obtain ⟨h6, I477, hS⟩ := bn_s hS
  have J1 : Ev P d 204 (12, [.ref a0, unk, unk], [], h6) (some (.long v), h') := by
    refine ev_aload_n pm204 i204_12 rfl rfl rfl ?_
    obtain ⟨x7, e8, hS⟩ := bn_s hS
    refine ev_getR pm204 i204_13 rfl rfl rfl e8 rfl ?_
    refine ev_aload_n pm204 i204_16 rfl rfl rfl ?_
    obtain ⟨x9, e10, hS⟩ := bn_s hS
    refine ev_getL pm204 i204_17 rfl rfl rfl e10 rfl ?_
    obtain ⟨x12, e11, hS⟩ := bn_s hS
    refine ev_callV (sa := [.long x9]) (rest := []) (st' := [.int x12]) (ls0 := [.ref x7, .long x9, unk, unk]) (rv := some (.int x12)) pm204 i204_20 rfl rfl pm206 (by decide) (K_la_find e11) rfl rfl (Nat.le_of_ble_eq_true rfl) (by omega) rfl (R_la_find (d - 1) (by omega) e11) (by simp) rfl rfl ?_
    refine ev_iconst (v := -1) pm204 i204_23 rfl (by decide) rfl ?_
    obtain ⟨h16, I478, hS⟩ := bn_s hS
    have J2 : Ev P d 204 (32, [.ref a0, unk, unk], [], h16) (some (.long v), h') := by
      refine ev_aload_n pm204 i204_32 rfl rfl rfl ?_
      obtain ⟨x17, e18, hS⟩ := bn_s hS
      refine ev_getL pm204 i204_33 rfl rfl rfl e18 rfl ?_
      refine ev_lstore_n (ls' := [.ref a0, .long x17, unk]) pm204 i204_36 rfl (Nat.le_of_ble_eq_true rfl) rfl rfl ?_
      refine ev_aload_n pm204 i204_37 rfl rfl rfl ?_
      obtain ⟨h20, e19, hS⟩ := bn_s hS
      refine ev_callV (sa := []) (rest := []) (st' := []) (ls0 := [.ref a0, unk, unk]) (rv := none) pm204 i204_38 rfl rfl pm188 (by decide) (K_md_goesOn e19) rfl rfl (Nat.le_of_ble_eq_true rfl) (by omega) rfl (R_md_goesOn (d - 1) (by omega) e19) (by simp) rfl rfl ?_
      refine ev_lload_n pm204 i204_41 rfl rfl rfl ?_
      cases hS
      exact ev_lreturn pm204 i204_42 rfl rfl rfl
    clear hS
    by_cases c478 : x12 = (-1 : Int32)
    · rw [if_pos c478] at I478
      refine ev_icmp_eq_t (t := 32) pm204 i204_24 rfl c478 rfl rfl ?_
      cases I478
      exact J2
    · rw [if_neg c478] at I478
      refine ev_icmp_eq_f (t := 32) pm204 i204_24 rfl c478 rfl rfl ?_
      refine ev_aload_n pm204 i204_27 rfl rfl rfl ?_
      refine ev_iconst (v := 3) pm204 i204_28 rfl (by decide) rfl ?_
      obtain ⟨h14, e13, I478⟩ := bn_s I478
      refine ev_callV (sa := [.int (3 : Int32)]) (rest := []) (st' := []) (ls0 := [.ref a0, .int (3 : Int32)]) (rv := none) pm204 i204_29 rfl rfl pm197 (by decide) (K_md_flaw e13) rfl rfl (Nat.le_of_ble_eq_true rfl) (by omega) rfl (R_md_flaw (d - 1) (by omega) e13) (by simp) rfl rfl ?_
      cases I478
      exact J2
  clear hS
  by_cases c477 : x2 = (0 : Int32)
  · rw [if_pos c477] at I477
    refine ev_if_ne_t (t := 12) pm204 i204_4 rfl c477 rfl rfl ?_
    refine ev_aload_n pm204 i204_7 rfl rfl rfl ?_
    refine ev_iconst (v := 1) pm204 i204_8 rfl (by decide) rfl ?_
    obtain ⟨h4, e3, I477⟩ := bn_s I477
    refine ev_callV (sa := [.int (1 : Int32)]) (rest := []) (st' := []) (ls0 := [.ref a0, .int (1 : Int32)]) (rv := none) pm204 i204_9 rfl rfl pm197 (by decide) (K_md_flaw e3) rfl rfl (Nat.le_of_ble_eq_true rfl) (by omega) rfl (R_md_flaw (d - 1) (by omega) e3) (by simp) rfl rfl ?_
    cases I477
    exact J1
  · rw [if_neg c477] at I477
    refine ev_if_ne_f (t := 12) pm204 i204_4 rfl c477 rfl rfl ?_
    cases I477
    exact J1
def F_md_names (a0 : Nat) (a1 : Int64) (a2 : Int32) (a3 : Int32) (h : Hp) : Option Hp :=
  ck h a0 13 (bn (gR h a0 13 4) fun x1 =>
  bn (gR h x1 12 27) fun x3 =>
  bn (gR h a0 13 4) fun x5 =>
  bn (gI h x5 12 8) fun x7 =>
  bn (sL h x3 x7 a1) fun h9 =>
  bn (gR h9 a0 13 4) fun x11 =>
  bn (gR h9 x11 12 28) fun x13 =>
  bn (gR h9 a0 13 4) fun x15 =>
  bn (gI h9 x15 12 8) fun x17 =>
  bn (sI h9 100 x13 x17 a2) fun h19 =>
  bn (gR h19 a0 13 4) fun x21 =>
  bn (gR h19 x21 12 29) fun x23 =>
  bn (gR h19 a0 13 4) fun x25 =>
  bn (gI h19 x25 12 8) fun x27 =>
  bn (sI h19 100 x23 x27 a3) fun h29 =>
  bn (gR h29 a0 13 4) fun x31 =>
  bn (gI h29 x31 12 8) fun x33 =>
  bn (pI h29 x31 12 8 (x33 + (1 : Int32))) fun h35 =>
  some h35)
set_option maxRecDepth 20000 in
theorem K_md_names {a0 : Nat} {a1 : Int64} {a2 : Int32} {a3 : Int32} {h : Hp} {h' : Hp} (hS : F_md_names a0 a1 a2 a3 h = some h') : kd h a0 = 13 := by
  unfold F_md_names at hS
  exact (ck_s hS).1
set_option maxRecDepth 20000 in
theorem R_md_names (d : Nat) (hd : 0 ≤ d) {a0 : Nat} {a1 : Int64} {a2 : Int32} {a3 : Int32} {h : Hp} {h' : Hp} (hS : F_md_names a0 a1 a2 a3 h = some h') : Ev P d 207 (0, [.ref a0, .long a1, unk, .int a2, .int a3], [], h) (none, h') := by
  unfold F_md_names at hS
  replace hS := (ck_s hS).2
  refine ev_aload_n pm207 i207_0 rfl rfl rfl ?_
  obtain ⟨x1, e2, hS⟩ := bn_s hS
  refine ev_getR pm207 i207_1 rfl rfl rfl e2 rfl ?_
  obtain ⟨x3, e4, hS⟩ := bn_s hS
  refine ev_getR pm207 i207_4 rfl rfl rfl e4 rfl ?_
  refine ev_aload_n pm207 i207_7 rfl rfl rfl ?_
  obtain ⟨x5, e6, hS⟩ := bn_s hS
  refine ev_getR pm207 i207_8 rfl rfl rfl e6 rfl ?_
  obtain ⟨x7, e8, hS⟩ := bn_s hS
  refine ev_getI pm207 i207_11 rfl rfl (by decide) e8 rfl ?_
  refine ev_lload_n pm207 i207_14 rfl rfl rfl ?_
  obtain ⟨h9, e10, hS⟩ := bn_s hS
  refine ev_last pm207 i207_15 rfl e10 rfl ?_
  refine ev_aload_n pm207 i207_16 rfl rfl rfl ?_
  obtain ⟨x11, e12, hS⟩ := bn_s hS
  refine ev_getR pm207 i207_17 rfl rfl rfl e12 rfl ?_
  obtain ⟨x13, e14, hS⟩ := bn_s hS
  refine ev_getR pm207 i207_20 rfl rfl rfl e14 rfl ?_
  refine ev_aload_n pm207 i207_23 rfl rfl rfl ?_
  obtain ⟨x15, e16, hS⟩ := bn_s hS
  refine ev_getR pm207 i207_24 rfl rfl rfl e16 rfl ?_
  obtain ⟨x17, e18, hS⟩ := bn_s hS
  refine ev_getI pm207 i207_27 rfl rfl (by decide) e18 rfl ?_
  refine ev_iload_n pm207 i207_30 rfl rfl rfl ?_
  obtain ⟨h19, e20, hS⟩ := bn_s hS
  refine ev_iast pm207 i207_31 rfl e20 rfl ?_
  refine ev_aload_n pm207 i207_32 rfl rfl rfl ?_
  obtain ⟨x21, e22, hS⟩ := bn_s hS
  refine ev_getR pm207 i207_33 rfl rfl rfl e22 rfl ?_
  obtain ⟨x23, e24, hS⟩ := bn_s hS
  refine ev_getR pm207 i207_36 rfl rfl rfl e24 rfl ?_
  refine ev_aload_n pm207 i207_39 rfl rfl rfl ?_
  obtain ⟨x25, e26, hS⟩ := bn_s hS
  refine ev_getR pm207 i207_40 rfl rfl rfl e26 rfl ?_
  obtain ⟨x27, e28, hS⟩ := bn_s hS
  refine ev_getI pm207 i207_43 rfl rfl (by decide) e28 rfl ?_
  refine ev_iload pm207 i207_46 rfl rfl rfl ?_
  obtain ⟨h29, e30, hS⟩ := bn_s hS
  refine ev_iast pm207 i207_48 rfl e30 rfl ?_
  refine ev_aload_n pm207 i207_49 rfl rfl rfl ?_
  obtain ⟨x31, e32, hS⟩ := bn_s hS
  refine ev_getR pm207 i207_50 rfl rfl rfl e32 rfl ?_
  refine ev_dup pm207 i207_53 rfl rfl rfl ?_
  obtain ⟨x33, e34, hS⟩ := bn_s hS
  refine ev_getI pm207 i207_54 rfl rfl (by decide) e34 rfl ?_
  refine ev_iconst (v := 1) pm207 i207_57 rfl (by decide) rfl ?_
  refine ev_b2 (f := fun x y => x + y) pm207 i207_58 rfl (fun _ _ _ _ => rfl) rfl ?_
  obtain ⟨h35, e36, hS⟩ := bn_s hS
  refine ev_putI pm207 i207_59 rfl rfl rfl e36 rfl ?_
  cases hS
  exact ev_return pm207 i207_62 rfl rfl rfl
def F_md_readHouse (a0 : Nat) (h : Hp) : Option Hp :=
  ck h a0 13 (bn (gR h a0 13 4) fun x1 =>
  bn (gI h x1 12 1) fun x3 =>
  bn (F_md_lineBegins a0 x3 (5 : Int32) h) fun h6 =>
  bd (F_md_readFresh a0 h6) fun x8 h9 =>
  bn (F_md_isWord a0 1000013 h9) fun x11 =>
  bn (if x11 = (0 : Int32) then
      (bn (F_md_isWord a0 1000014 h9) fun x13 =>
      if x13 = (0 : Int32) then
        (some (-1 : Int32))
      else
        (some (1 : Int32)))
    else
      (some (0 : Int32))) fun q14 =>
  bn (if q14 = (-1 : Int32) then
      (bn (F_md_flaw a0 (1 : Int32) h9) fun h16 =>
      some h16)
    else
      (some h9)) fun h18 =>
  bn (F_md_goesOn a0 h18) fun h20 =>
  bd (F_md_readPart a0 1000015 (0 : Int32) (99 : Int32) h20) fun x22 h23 =>
  bn (gI h23 a0 13 9) fun x24 =>
  if x24 = (5 : Int32) then
    (some h23)
  else
    (bn (gR h23 a0 13 4) fun x26 =>
    bn (gI h23 x26 12 1) fun x28 =>
    bn (F_md_names a0 x8 (0 : Int32) x28 h23) fun h31 =>
    bn (gR h31 a0 13 4) fun x32 =>
    bn (gR h31 x32 12 9) fun x34 =>
    bn (gR h31 a0 13 4) fun x36 =>
    bn (gI h31 x36 12 1) fun x38 =>
    bn (sI h31 100 x34 x38 q14) fun h40 =>
    bn (gR h40 a0 13 4) fun x42 =>
    bn (gR h40 x42 12 10) fun x44 =>
    bn (gR h40 a0 13 4) fun x46 =>
    bn (gI h40 x46 12 1) fun x48 =>
    bn (sI h40 100 x44 x48 x22) fun h50 =>
    bn (gR h50 a0 13 4) fun x52 =>
    bn (gI h50 x52 12 1) fun x54 =>
    bn (pI h50 x52 12 1 (x54 + (1 : Int32))) fun h56 =>
    some h56))
set_option maxRecDepth 20000 in
theorem K_md_readHouse {a0 : Nat} {h : Hp} {h' : Hp} (hS : F_md_readHouse a0 h = some h') : kd h a0 = 13 := by
  unfold F_md_readHouse at hS
  exact (ck_s hS).1
set_option maxRecDepth 20000 in
theorem R_md_readHouse (d : Nat) (hd : 8 ≤ d) {a0 : Nat} {h : Hp} {h' : Hp} (hS : F_md_readHouse a0 h = some h') : Ev P d 202 (0, [.ref a0, unk, unk, unk, unk], [], h) (none, h') := by
  unfold F_md_readHouse at hS
  replace hS := (ck_s hS).2
  refine ev_aload_n pm202 i202_0 rfl rfl rfl ?_
  refine ev_aload_n pm202 i202_1 rfl rfl rfl ?_
  obtain ⟨x1, e2, hS⟩ := bn_s hS
  refine ev_getR pm202 i202_2 rfl rfl rfl e2 rfl ?_
  obtain ⟨x3, e4, hS⟩ := bn_s hS
  refine ev_getI pm202 i202_5 rfl rfl (by decide) e4 rfl ?_
  refine ev_iconst (v := 5) pm202 i202_8 rfl (by decide) rfl ?_
  obtain ⟨h6, e5, hS⟩ := bn_s hS
  refine ev_callV (sa := [.int (5 : Int32), .int x3]) (rest := []) (st' := []) (ls0 := [.ref a0, .int x3, .int (5 : Int32)]) (rv := none) pm202 i202_9 rfl rfl pm203 (by decide) (K_md_lineBegins e5) rfl rfl (Nat.le_of_ble_eq_true rfl) (by omega) rfl (R_md_lineBegins (d - 1) (by omega) e5) (by simp) rfl rfl ?_
  refine ev_aload_n pm202 i202_12 rfl rfl rfl ?_
  obtain ⟨x8, h9, e7, hS⟩ := bd_s hS
  refine ev_callV (sa := []) (rest := []) (st' := [.long x8]) (ls0 := [.ref a0, unk, unk]) (rv := some (.long x8)) pm202 i202_13 rfl rfl pm204 (by decide) (K_md_readFresh e7) rfl rfl (Nat.le_of_ble_eq_true rfl) (by omega) rfl (R_md_readFresh (d - 1) (by omega) e7) (by simp) rfl rfl ?_
  refine ev_lstore_n (ls' := [.ref a0, .long x8, unk, unk, unk]) pm202 i202_16 rfl (Nat.le_of_ble_eq_true rfl) rfl rfl ?_
  refine ev_aload_n pm202 i202_17 rfl rfl rfl ?_
  refine ev_ldc (v := .ref 1000013) pm202 i202_18 rfl rfl rfl ?_
  obtain ⟨x11, e10, hS⟩ := bn_s hS
  refine ev_callV (sa := [.ref 1000013]) (rest := []) (st' := [.int x11]) (ls0 := [.ref a0, .ref 1000013]) (rv := some (.int x11)) pm202 i202_20 rfl rfl pm194 (by decide) (K_md_isWord e10) rfl rfl (Nat.le_of_ble_eq_true rfl) (by omega) rfl (R_md_isWord (d - 1) (by omega) e10) (by simp) rfl rfl ?_
  obtain ⟨q14, I479, hS⟩ := bn_s hS
  have J1 : Ev P d 202 (44, [.ref a0, .long x8, unk, unk, unk], [.int q14], h9) (none, h') := by
    refine ev_istore_n (ls' := [.ref a0, .long x8, unk, .int q14, unk]) pm202 i202_44 rfl (Nat.le_of_ble_eq_true rfl) rfl rfl ?_
    refine ev_iload_n pm202 i202_45 rfl rfl rfl ?_
    refine ev_iconst (v := -1) pm202 i202_46 rfl (by decide) rfl ?_
    obtain ⟨h18, I480, hS⟩ := bn_s hS
    have J2 : Ev P d 202 (55, [.ref a0, .long x8, unk, .int q14, unk], [], h18) (none, h') := by
      refine ev_aload_n pm202 i202_55 rfl rfl rfl ?_
      obtain ⟨h20, e19, hS⟩ := bn_s hS
      refine ev_callV (sa := []) (rest := []) (st' := []) (ls0 := [.ref a0, unk, unk]) (rv := none) pm202 i202_56 rfl rfl pm188 (by decide) (K_md_goesOn e19) rfl rfl (Nat.le_of_ble_eq_true rfl) (by omega) rfl (R_md_goesOn (d - 1) (by omega) e19) (by simp) rfl rfl ?_
      refine ev_aload_n pm202 i202_59 rfl rfl rfl ?_
      refine ev_ldc_w (v := .ref 1000015) pm202 i202_60 rfl rfl rfl ?_
      refine ev_iconst (v := 0) pm202 i202_63 rfl (by decide) rfl ?_
      refine ev_bipush (v := 99) pm202 i202_64 rfl (by decide) rfl ?_
      obtain ⟨x22, h23, e21, hS⟩ := bd_s hS
      refine ev_callV (sa := [.int (99 : Int32), .int (0 : Int32), .ref 1000015]) (rest := []) (st' := [.int x22]) (ls0 := [.ref a0, .ref 1000015, .int (0 : Int32), .int (99 : Int32)]) (rv := some (.int x22)) pm202 i202_66 rfl rfl pm198 (by decide) (K_md_readPart e21) rfl rfl (Nat.le_of_ble_eq_true rfl) (by omega) rfl (R_md_readPart (d - 1) (by omega) e21) (by simp) rfl rfl ?_
      refine ev_istore (ls' := [.ref a0, .long x8, unk, .int q14, .int x22]) pm202 i202_69 rfl (Nat.le_of_ble_eq_true rfl) rfl rfl ?_
      refine ev_aload_n pm202 i202_71 rfl rfl rfl ?_
      obtain ⟨x24, e25, hS⟩ := bn_s hS
      refine ev_getI pm202 i202_72 rfl rfl (by decide) e25 rfl ?_
      refine ev_iconst (v := 5) pm202 i202_75 rfl (by decide) rfl ?_
      by_cases c481 : x24 = (5 : Int32)
      · rw [if_pos c481] at hS
        refine ev_icmp_ne_t (t := 80) pm202 i202_76 rfl c481 rfl rfl ?_
        cases hS
        exact ev_return pm202 i202_79 rfl rfl rfl
      · rw [if_neg c481] at hS
        refine ev_icmp_ne_f (t := 80) pm202 i202_76 rfl c481 rfl rfl ?_
        refine ev_aload_n pm202 i202_80 rfl rfl rfl ?_
        refine ev_lload_n pm202 i202_81 rfl rfl rfl ?_
        refine ev_iconst (v := 0) pm202 i202_82 rfl (by decide) rfl ?_
        refine ev_aload_n pm202 i202_83 rfl rfl rfl ?_
        obtain ⟨x26, e27, hS⟩ := bn_s hS
        refine ev_getR pm202 i202_84 rfl rfl rfl e27 rfl ?_
        obtain ⟨x28, e29, hS⟩ := bn_s hS
        refine ev_getI pm202 i202_87 rfl rfl (by decide) e29 rfl ?_
        obtain ⟨h31, e30, hS⟩ := bn_s hS
        refine ev_callV (sa := [.int x28, .int (0 : Int32), .long x8]) (rest := []) (st' := []) (ls0 := [.ref a0, .long x8, unk, .int (0 : Int32), .int x28]) (rv := none) pm202 i202_90 rfl rfl pm207 (by decide) (K_md_names e30) rfl rfl (Nat.le_of_ble_eq_true rfl) (by omega) rfl (R_md_names (d - 1) (by omega) e30) (by simp) rfl rfl ?_
        refine ev_aload_n pm202 i202_93 rfl rfl rfl ?_
        obtain ⟨x32, e33, hS⟩ := bn_s hS
        refine ev_getR pm202 i202_94 rfl rfl rfl e33 rfl ?_
        obtain ⟨x34, e35, hS⟩ := bn_s hS
        refine ev_getR pm202 i202_97 rfl rfl rfl e35 rfl ?_
        refine ev_aload_n pm202 i202_100 rfl rfl rfl ?_
        obtain ⟨x36, e37, hS⟩ := bn_s hS
        refine ev_getR pm202 i202_101 rfl rfl rfl e37 rfl ?_
        obtain ⟨x38, e39, hS⟩ := bn_s hS
        refine ev_getI pm202 i202_104 rfl rfl (by decide) e39 rfl ?_
        refine ev_iload_n pm202 i202_107 rfl rfl rfl ?_
        obtain ⟨h40, e41, hS⟩ := bn_s hS
        refine ev_iast pm202 i202_108 rfl e41 rfl ?_
        refine ev_aload_n pm202 i202_109 rfl rfl rfl ?_
        obtain ⟨x42, e43, hS⟩ := bn_s hS
        refine ev_getR pm202 i202_110 rfl rfl rfl e43 rfl ?_
        obtain ⟨x44, e45, hS⟩ := bn_s hS
        refine ev_getR pm202 i202_113 rfl rfl rfl e45 rfl ?_
        refine ev_aload_n pm202 i202_116 rfl rfl rfl ?_
        obtain ⟨x46, e47, hS⟩ := bn_s hS
        refine ev_getR pm202 i202_117 rfl rfl rfl e47 rfl ?_
        obtain ⟨x48, e49, hS⟩ := bn_s hS
        refine ev_getI pm202 i202_120 rfl rfl (by decide) e49 rfl ?_
        refine ev_iload pm202 i202_123 rfl rfl rfl ?_
        obtain ⟨h50, e51, hS⟩ := bn_s hS
        refine ev_iast pm202 i202_125 rfl e51 rfl ?_
        refine ev_aload_n pm202 i202_126 rfl rfl rfl ?_
        obtain ⟨x52, e53, hS⟩ := bn_s hS
        refine ev_getR pm202 i202_127 rfl rfl rfl e53 rfl ?_
        refine ev_dup pm202 i202_130 rfl rfl rfl ?_
        obtain ⟨x54, e55, hS⟩ := bn_s hS
        refine ev_getI pm202 i202_131 rfl rfl (by decide) e55 rfl ?_
        refine ev_iconst (v := 1) pm202 i202_134 rfl (by decide) rfl ?_
        refine ev_b2 (f := fun x y => x + y) pm202 i202_135 rfl (fun _ _ _ _ => rfl) rfl ?_
        obtain ⟨h56, e57, hS⟩ := bn_s hS
        refine ev_putI pm202 i202_136 rfl rfl rfl e57 rfl ?_
        cases hS
        exact ev_return pm202 i202_139 rfl rfl rfl
    clear hS
    by_cases c480 : q14 = (-1 : Int32)
    · rw [if_pos c480] at I480
      refine ev_icmp_ne_t (t := 55) pm202 i202_47 rfl c480 rfl rfl ?_
      refine ev_aload_n pm202 i202_50 rfl rfl rfl ?_
      refine ev_iconst (v := 1) pm202 i202_51 rfl (by decide) rfl ?_
      obtain ⟨h16, e15, I480⟩ := bn_s I480
      refine ev_callV (sa := [.int (1 : Int32)]) (rest := []) (st' := []) (ls0 := [.ref a0, .int (1 : Int32)]) (rv := none) pm202 i202_52 rfl rfl pm197 (by decide) (K_md_flaw e15) rfl rfl (Nat.le_of_ble_eq_true rfl) (by omega) rfl (R_md_flaw (d - 1) (by omega) e15) (by simp) rfl rfl ?_
      cases I480
      exact J2
    · rw [if_neg c480] at I480
      refine ev_icmp_ne_f (t := 55) pm202 i202_47 rfl c480 rfl rfl ?_
      cases I480
      exact J2
  clear hS
  by_cases c479 : x11 = (0 : Int32)
  · rw [if_pos c479] at I479
    refine ev_if_eq_t (t := 30) pm202 i202_23 rfl c479 rfl rfl ?_
    refine ev_aload_n pm202 i202_30 rfl rfl rfl ?_
    refine ev_ldc (v := .ref 1000014) pm202 i202_31 rfl rfl rfl ?_
    obtain ⟨x13, e12, I479⟩ := bn_s I479
    refine ev_callV (sa := [.ref 1000014]) (rest := []) (st' := [.int x13]) (ls0 := [.ref a0, .ref 1000014]) (rv := some (.int x13)) pm202 i202_33 rfl rfl pm194 (by decide) (K_md_isWord e12) rfl rfl (Nat.le_of_ble_eq_true rfl) (by omega) rfl (R_md_isWord (d - 1) (by omega) e12) (by simp) rfl rfl ?_
    by_cases c482 : x13 = (0 : Int32)
    · rw [if_pos c482] at I479
      refine ev_if_eq_t (t := 43) pm202 i202_36 rfl c482 rfl rfl ?_
      refine ev_iconst (v := -1) pm202 i202_43 rfl (by decide) rfl ?_
      cases I479
      exact J1
    · rw [if_neg c482] at I479
      refine ev_if_eq_f (t := 43) pm202 i202_36 rfl c482 rfl rfl ?_
      refine ev_iconst (v := 1) pm202 i202_39 rfl (by decide) rfl ?_
      refine ev_goto (t := 44) pm202 i202_40 rfl rfl ?_
      cases I479
      exact J1
  · rw [if_neg c479] at I479
    refine ev_if_eq_f (t := 30) pm202 i202_23 rfl c479 rfl rfl ?_
    refine ev_iconst (v := 0) pm202 i202_26 rfl (by decide) rfl ?_
    refine ev_goto (t := 44) pm202 i202_27 rfl rfl ?_
    cases I479
    exact J1
def F_md_knownOne (a0 : Nat) (a1 : Int32) (h : Hp) : Option (Int32 × Hp) :=
  ck h a0 13 (bn (F_md_isName a0 h) fun x2 =>
  bn (if x2 = (0 : Int32) then
      (bn (F_md_flaw a0 (1 : Int32) h) fun h4 =>
      some h4)
    else
      (some h)) fun h6 =>
  bn (gR h6 a0 13 4) fun x7 =>
  bn (gL h6 a0 13 14) fun x9 =>
  bn (F_la_find x7 x9 h6) fun x12 =>
  bn (if x12 = (-1 : Int32) then
      (bn (F_md_flaw a0 (2 : Int32) h6) fun h14 =>
      some h14)
    else
      (bn (gR h6 a0 13 4) fun x15 =>
      bn (gR h6 x15 12 28) fun x17 =>
      bn (aI h6 100 x17 x12) fun x19 =>
      if x19 = a1 then
        (some h6)
      else
        (bn (F_md_flaw a0 (2 : Int32) h6) fun h22 =>
        some h22))) fun h24 =>
  bn (gI h24 a0 13 9) fun x25 =>
  if x25 = (5 : Int32) then
    (some ((0 : Int32), h24))
  else
    (bn (gR h24 a0 13 4) fun x27 =>
    bn (gR h24 x27 12 29) fun x29 =>
    bn (aI h24 100 x29 x12) fun x31 =>
    some (x31, h24)))
set_option maxRecDepth 20000 in
theorem K_md_knownOne {a0 : Nat} {a1 : Int32} {h : Hp} {v : Int32} {h' : Hp} (hS : F_md_knownOne a0 a1 h = some (v, h')) : kd h a0 = 13 := by
  unfold F_md_knownOne at hS
  exact (ck_s hS).1
set_option maxRecDepth 20000 in
theorem R_md_knownOne (d : Nat) (hd : 7 ≤ d) {a0 : Nat} {a1 : Int32} {h : Hp} {v : Int32} {h' : Hp} (hS : F_md_knownOne a0 a1 h = some (v, h')) : Ev P d 210 (0, [.ref a0, .int a1, unk], [], h) (some (.int v), h') := by
  unfold F_md_knownOne at hS
  replace hS := (ck_s hS).2
  refine ev_aload_n pm210 i210_0 rfl rfl rfl ?_
  obtain ⟨x2, e1, hS⟩ := bn_s hS
  refine ev_callV (sa := []) (rest := []) (st' := [.int x2]) (ls0 := [.ref a0]) (rv := some (.int x2)) pm210 i210_1 rfl rfl pm205 (by decide) (K_md_isName e1) rfl rfl (Nat.le_of_ble_eq_true rfl) (by omega) rfl (R_md_isName (d - 1) (by omega) e1) (by simp) rfl rfl ?_
  obtain ⟨h6, I483, hS⟩ := bn_s hS
  have J1 : Ev P d 210 (12, [.ref a0, .int a1, unk], [], h6) (some (.int v), h') := by
    refine ev_aload_n pm210 i210_12 rfl rfl rfl ?_
    obtain ⟨x7, e8, hS⟩ := bn_s hS
    refine ev_getR pm210 i210_13 rfl rfl rfl e8 rfl ?_
    refine ev_aload_n pm210 i210_16 rfl rfl rfl ?_
    obtain ⟨x9, e10, hS⟩ := bn_s hS
    refine ev_getL pm210 i210_17 rfl rfl rfl e10 rfl ?_
    obtain ⟨x12, e11, hS⟩ := bn_s hS
    refine ev_callV (sa := [.long x9]) (rest := []) (st' := [.int x12]) (ls0 := [.ref x7, .long x9, unk, unk]) (rv := some (.int x12)) pm210 i210_20 rfl rfl pm206 (by decide) (K_la_find e11) rfl rfl (Nat.le_of_ble_eq_true rfl) (by omega) rfl (R_la_find (d - 1) (by omega) e11) (by simp) rfl rfl ?_
    refine ev_istore_n (ls' := [.ref a0, .int a1, .int x12]) pm210 i210_23 rfl (Nat.le_of_ble_eq_true rfl) rfl rfl ?_
    refine ev_iload_n pm210 i210_24 rfl rfl rfl ?_
    refine ev_iconst (v := -1) pm210 i210_25 rfl (by decide) rfl ?_
    obtain ⟨h24, I484, hS⟩ := bn_s hS
    have J2 : Ev P d 210 (47, [.ref a0, unk, .int x12], [], h24) (some (.int v), h') := by
      refine ev_aload_n pm210 i210_47 rfl rfl rfl ?_
      obtain ⟨x25, e26, hS⟩ := bn_s hS
      refine ev_getI pm210 i210_48 rfl rfl (by decide) e26 rfl ?_
      refine ev_iconst (v := 5) pm210 i210_51 rfl (by decide) rfl ?_
      by_cases c485 : x25 = (5 : Int32)
      · rw [if_pos c485] at hS
        refine ev_icmp_ne_t (t := 59) pm210 i210_52 rfl c485 rfl rfl ?_
        refine ev_iconst (v := 0) pm210 i210_55 rfl (by decide) rfl ?_
        refine ev_goto (t := 68) pm210 i210_56 rfl rfl ?_
        refine ev_kls (ls' := [unk, unk, unk]) pm210 i210_68 rfl rfl ?_
        cases hS
        exact ev_ireturn pm210 i210_68 rfl rfl rfl
      · rw [if_neg c485] at hS
        refine ev_icmp_ne_f (t := 59) pm210 i210_52 rfl c485 rfl rfl ?_
        refine ev_aload_n pm210 i210_59 rfl rfl rfl ?_
        obtain ⟨x27, e28, hS⟩ := bn_s hS
        refine ev_getR pm210 i210_60 rfl rfl rfl e28 rfl ?_
        obtain ⟨x29, e30, hS⟩ := bn_s hS
        refine ev_getR pm210 i210_63 rfl rfl rfl e30 rfl ?_
        refine ev_iload_n pm210 i210_66 rfl rfl rfl ?_
        obtain ⟨x31, e32, hS⟩ := bn_s hS
        refine ev_iald pm210 i210_67 rfl e32 rfl ?_
        refine ev_kls (ls' := [unk, unk, unk]) pm210 i210_68 rfl rfl ?_
        cases hS
        exact ev_ireturn pm210 i210_68 rfl rfl rfl
    clear hS
    by_cases c484 : x12 = (-1 : Int32)
    · rw [if_pos c484] at I484
      refine ev_icmp_eq_t (t := 42) pm210 i210_26 rfl c484 rfl rfl ?_
      refine ev_kls (ls' := [.ref a0, unk, .int x12]) pm210 i210_42 rfl rfl ?_
      refine ev_aload_n pm210 i210_42 rfl rfl rfl ?_
      refine ev_iconst (v := 2) pm210 i210_43 rfl (by decide) rfl ?_
      obtain ⟨h14, e13, I484⟩ := bn_s I484
      refine ev_callV (sa := [.int (2 : Int32)]) (rest := []) (st' := []) (ls0 := [.ref a0, .int (2 : Int32)]) (rv := none) pm210 i210_44 rfl rfl pm197 (by decide) (K_md_flaw e13) rfl rfl (Nat.le_of_ble_eq_true rfl) (by omega) rfl (R_md_flaw (d - 1) (by omega) e13) (by simp) rfl rfl ?_
      cases I484
      exact J2
    · rw [if_neg c484] at I484
      refine ev_icmp_eq_f (t := 42) pm210 i210_26 rfl c484 rfl rfl ?_
      refine ev_aload_n pm210 i210_29 rfl rfl rfl ?_
      obtain ⟨x15, e16, I484⟩ := bn_s I484
      refine ev_getR pm210 i210_30 rfl rfl rfl e16 rfl ?_
      obtain ⟨x17, e18, I484⟩ := bn_s I484
      refine ev_getR pm210 i210_33 rfl rfl rfl e18 rfl ?_
      refine ev_iload_n pm210 i210_36 rfl rfl rfl ?_
      obtain ⟨x19, e20, I484⟩ := bn_s I484
      refine ev_iald pm210 i210_37 rfl e20 rfl ?_
      refine ev_iload_n pm210 i210_38 rfl rfl rfl ?_
      by_cases c486 : x19 = a1
      · rw [if_pos c486] at I484
        refine ev_icmp_eq_t (t := 47) pm210 i210_39 rfl c486 rfl rfl ?_
        refine ev_kls (ls' := [.ref a0, unk, .int x12]) pm210 i210_47 rfl rfl ?_
        cases I484
        exact J2
      · rw [if_neg c486] at I484
        refine ev_icmp_eq_f (t := 47) pm210 i210_39 rfl c486 rfl rfl ?_
        refine ev_kls (ls' := [.ref a0, unk, .int x12]) pm210 i210_42 rfl rfl ?_
        refine ev_aload_n pm210 i210_42 rfl rfl rfl ?_
        refine ev_iconst (v := 2) pm210 i210_43 rfl (by decide) rfl ?_
        obtain ⟨h22, e21, I484⟩ := bn_s I484
        refine ev_callV (sa := [.int (2 : Int32)]) (rest := []) (st' := []) (ls0 := [.ref a0, .int (2 : Int32)]) (rv := none) pm210 i210_44 rfl rfl pm197 (by decide) (K_md_flaw e21) rfl rfl (Nat.le_of_ble_eq_true rfl) (by omega) rfl (R_md_flaw (d - 1) (by omega) e21) (by simp) rfl rfl ?_
        cases I484
        exact J2
  clear hS
  by_cases c483 : x2 = (0 : Int32)
  · rw [if_pos c483] at I483
    refine ev_if_ne_t (t := 12) pm210 i210_4 rfl c483 rfl rfl ?_
    refine ev_aload_n pm210 i210_7 rfl rfl rfl ?_
    refine ev_iconst (v := 1) pm210 i210_8 rfl (by decide) rfl ?_
    obtain ⟨h4, e3, I483⟩ := bn_s I483
    refine ev_callV (sa := [.int (1 : Int32)]) (rest := []) (st' := []) (ls0 := [.ref a0, .int (1 : Int32)]) (rv := none) pm210 i210_9 rfl rfl pm197 (by decide) (K_md_flaw e3) rfl rfl (Nat.le_of_ble_eq_true rfl) (by omega) rfl (R_md_flaw (d - 1) (by omega) e3) (by simp) rfl rfl ?_
    cases I483
    exact J1
  · rw [if_neg c483] at I483
    refine ev_if_ne_f (t := 12) pm210 i210_4 rfl c483 rfl rfl ?_
    cases I483
    exact J1
def F_md_readKnown (a0 : Nat) (a1 : Int32) (h : Hp) : Option (Int32 × Hp) :=
  ck h a0 13 (bd (F_md_knownOne a0 a1 h) fun x2 h3 =>
  bn (F_md_goesOn a0 h3) fun h5 =>
  some (x2, h5))
set_option maxRecDepth 20000 in
theorem K_md_readKnown {a0 : Nat} {a1 : Int32} {h : Hp} {v : Int32} {h' : Hp} (hS : F_md_readKnown a0 a1 h = some (v, h')) : kd h a0 = 13 := by
  unfold F_md_readKnown at hS
  exact (ck_s hS).1
set_option maxRecDepth 20000 in
theorem R_md_readKnown (d : Nat) (hd : 8 ≤ d) {a0 : Nat} {a1 : Int32} {h : Hp} {v : Int32} {h' : Hp} (hS : F_md_readKnown a0 a1 h = some (v, h')) : Ev P d 209 (0, [.ref a0, .int a1, unk], [], h) (some (.int v), h') := by
  unfold F_md_readKnown at hS
  replace hS := (ck_s hS).2
  refine ev_aload_n pm209 i209_0 rfl rfl rfl ?_
  refine ev_iload_n pm209 i209_1 rfl rfl rfl ?_
  obtain ⟨x2, h3, e1, hS⟩ := bd_s hS
  refine ev_callV (sa := [.int a1]) (rest := []) (st' := [.int x2]) (ls0 := [.ref a0, .int a1, unk]) (rv := some (.int x2)) pm209 i209_2 rfl rfl pm210 (by decide) (K_md_knownOne e1) rfl rfl (Nat.le_of_ble_eq_true rfl) (by omega) rfl (R_md_knownOne (d - 1) (by omega) e1) (by simp) rfl rfl ?_
  refine ev_istore_n (ls' := [.ref a0, .int a1, .int x2]) pm209 i209_5 rfl (Nat.le_of_ble_eq_true rfl) rfl rfl ?_
  refine ev_aload_n pm209 i209_6 rfl rfl rfl ?_
  obtain ⟨h5, e4, hS⟩ := bn_s hS
  refine ev_callV (sa := []) (rest := []) (st' := []) (ls0 := [.ref a0, unk, unk]) (rv := none) pm209 i209_7 rfl rfl pm188 (by decide) (K_md_goesOn e4) rfl rfl (Nat.le_of_ble_eq_true rfl) (by omega) rfl (R_md_goesOn (d - 1) (by omega) e4) (by simp) rfl rfl ?_
  refine ev_iload_n pm209 i209_10 rfl rfl rfl ?_
  cases hS
  exact ev_ireturn pm209 i209_11 rfl rfl rfl
def B_la_isRope_2 (l0 : Nat) (l1 : Int32) (l2 : Int32) (h : Hp) (s : Int32) : Option ((Int32) ⊕ ((Unit) ⊕ Int32)) :=
  bn (gI h l0 12 2) fun x1 =>
  if s < x1 then
    (bn (gR h l0 12 13) fun x3 =>
    bn (aI h 100 x3 s) fun x5 =>
    if x5 = l1 then
      (bn (gR h l0 12 14) fun x7 =>
      bn (aI h 100 x7 s) fun x9 =>
      if x9 = l2 then
        (some (.inr (.inr (1 : Int32))))
      else
        (bn (gR h l0 12 13) fun x11 =>
        bn (aI h 100 x11 s) fun x13 =>
        if x13 = l2 then
          (bn (gR h l0 12 14) fun x15 =>
          bn (aI h 100 x15 s) fun x17 =>
          if x17 = l1 then
            (some (.inr (.inr (1 : Int32))))
          else
            (some (.inl (s + (1 : Int32)))))
        else
          (some (.inl (s + (1 : Int32))))))
    else
      (bn (gR h l0 12 13) fun x19 =>
      bn (aI h 100 x19 s) fun x21 =>
      if x21 = l2 then
        (bn (gR h l0 12 14) fun x23 =>
        bn (aI h 100 x23 s) fun x25 =>
        if x25 = l1 then
          (some (.inr (.inr (1 : Int32))))
        else
          (some (.inl (s + (1 : Int32)))))
      else
        (some (.inl (s + (1 : Int32))))))
  else
    (some (.inr (.inl ())))
set_option maxRecDepth 20000 in
theorem L_la_isRope_2 (d : Nat) (hd : 0 ≤ d) {l0 : Nat} {l1 : Int32} {l2 : Int32} {h : Hp} : ∀ (n : Nat) (s : Int32) (x : (Unit) ⊕ Int32), lq (B_la_isRope_2 l0 l1 l2 h) n s = some x → ∀ r, ei x (fun q => Ev P d 211 (58, [unk, unk, unk, unk], [], h) r) (fun v => (some (.int v), h) = r) → Ev P d 211 (2, [.ref l0, .int l1, .int l2, .int s], [], h) r := by
  refine lq_ev (G0 := fun (s : Int32) r => Ev P d 211 (2, [.ref l0, .int l1, .int l2, .int s], [], h) r) (X := fun (x : (Unit) ⊕ Int32) r => ei x (fun q => Ev P d 211 (58, [unk, unk, unk, unk], [], h) r) (fun v => (some (.int v), h) = r)) ?_
  intro s y hS r hK
  unfold B_la_isRope_2 at hS
  show Ev P d 211 (2, [.ref l0, .int l1, .int l2, .int s], [], h) r
  refine ev_iload_n pm211 i211_2 rfl rfl rfl ?_
  refine ev_aload_n pm211 i211_3 rfl rfl rfl ?_
  obtain ⟨x1, e2, hS⟩ := bn_s hS
  refine ev_getI pm211 i211_4 rfl rfl (by decide) e2 rfl ?_
  by_cases c487 : s < x1
  · rw [if_pos c487] at hS
    refine ev_icmp_ge_t (t := 58) pm211 i211_7 rfl c487 rfl rfl ?_
    refine ev_aload_n pm211 i211_10 rfl rfl rfl ?_
    obtain ⟨x3, e4, hS⟩ := bn_s hS
    refine ev_getR pm211 i211_11 rfl rfl rfl e4 rfl ?_
    refine ev_iload_n pm211 i211_14 rfl rfl rfl ?_
    obtain ⟨x5, e6, hS⟩ := bn_s hS
    refine ev_iald pm211 i211_15 rfl e6 rfl ?_
    refine ev_iload_n pm211 i211_16 rfl rfl rfl ?_
    by_cases c488 : x5 = l1
    · rw [if_pos c488] at hS
      refine ev_icmp_ne_t (t := 30) pm211 i211_17 rfl c488 rfl rfl ?_
      refine ev_aload_n pm211 i211_20 rfl rfl rfl ?_
      obtain ⟨x7, e8, hS⟩ := bn_s hS
      refine ev_getR pm211 i211_21 rfl rfl rfl e8 rfl ?_
      refine ev_iload_n pm211 i211_24 rfl rfl rfl ?_
      obtain ⟨x9, e10, hS⟩ := bn_s hS
      refine ev_iald pm211 i211_25 rfl e10 rfl ?_
      refine ev_iload_n pm211 i211_26 rfl rfl rfl ?_
      by_cases c489 : x9 = l2
      · rw [if_pos c489] at hS
        refine ev_icmp_eq_t (t := 50) pm211 i211_27 rfl c489 rfl rfl ?_
        refine ev_kls (ls' := [unk, unk, unk, unk]) pm211 i211_50 rfl rfl ?_
        refine ev_iconst (v := 1) pm211 i211_50 rfl (by decide) rfl ?_
        cases hS
        exact ev_ireturn pm211 i211_51 rfl (by decide) hK
      · rw [if_neg c489] at hS
        refine ev_icmp_eq_f (t := 50) pm211 i211_27 rfl c489 rfl rfl ?_
        refine ev_aload_n pm211 i211_30 rfl rfl rfl ?_
        obtain ⟨x11, e12, hS⟩ := bn_s hS
        refine ev_getR pm211 i211_31 rfl rfl rfl e12 rfl ?_
        refine ev_iload_n pm211 i211_34 rfl rfl rfl ?_
        obtain ⟨x13, e14, hS⟩ := bn_s hS
        refine ev_iald pm211 i211_35 rfl e14 rfl ?_
        refine ev_iload_n pm211 i211_36 rfl rfl rfl ?_
        by_cases c490 : x13 = l2
        · rw [if_pos c490] at hS
          refine ev_icmp_ne_t (t := 52) pm211 i211_37 rfl c490 rfl rfl ?_
          refine ev_aload_n pm211 i211_40 rfl rfl rfl ?_
          obtain ⟨x15, e16, hS⟩ := bn_s hS
          refine ev_getR pm211 i211_41 rfl rfl rfl e16 rfl ?_
          refine ev_iload_n pm211 i211_44 rfl rfl rfl ?_
          obtain ⟨x17, e18, hS⟩ := bn_s hS
          refine ev_iald pm211 i211_45 rfl e18 rfl ?_
          refine ev_iload_n pm211 i211_46 rfl rfl rfl ?_
          by_cases c491 : x17 = l1
          · rw [if_pos c491] at hS
            refine ev_icmp_ne_t (t := 52) pm211 i211_47 rfl c491 rfl rfl ?_
            refine ev_kls (ls' := [unk, unk, unk, unk]) pm211 i211_50 rfl rfl ?_
            refine ev_iconst (v := 1) pm211 i211_50 rfl (by decide) rfl ?_
            cases hS
            exact ev_ireturn pm211 i211_51 rfl (by decide) hK
          · rw [if_neg c491] at hS
            refine ev_icmp_ne_f (t := 52) pm211 i211_47 rfl c491 rfl rfl ?_
            refine ev_iinc (v := 1) (ls' := [.ref l0, .int l1, .int l2, .int (s + (1 : Int32))]) pm211 i211_52 rfl rfl (by decide) rfl rfl ?_
            refine ev_goto (t := 2) pm211 i211_55 rfl rfl ?_
            cases hS
            exact hK
        · rw [if_neg c490] at hS
          refine ev_icmp_ne_f (t := 52) pm211 i211_37 rfl c490 rfl rfl ?_
          refine ev_iinc (v := 1) (ls' := [.ref l0, .int l1, .int l2, .int (s + (1 : Int32))]) pm211 i211_52 rfl rfl (by decide) rfl rfl ?_
          refine ev_goto (t := 2) pm211 i211_55 rfl rfl ?_
          cases hS
          exact hK
    · rw [if_neg c488] at hS
      refine ev_icmp_ne_f (t := 30) pm211 i211_17 rfl c488 rfl rfl ?_
      refine ev_aload_n pm211 i211_30 rfl rfl rfl ?_
      obtain ⟨x19, e20, hS⟩ := bn_s hS
      refine ev_getR pm211 i211_31 rfl rfl rfl e20 rfl ?_
      refine ev_iload_n pm211 i211_34 rfl rfl rfl ?_
      obtain ⟨x21, e22, hS⟩ := bn_s hS
      refine ev_iald pm211 i211_35 rfl e22 rfl ?_
      refine ev_iload_n pm211 i211_36 rfl rfl rfl ?_
      by_cases c492 : x21 = l2
      · rw [if_pos c492] at hS
        refine ev_icmp_ne_t (t := 52) pm211 i211_37 rfl c492 rfl rfl ?_
        refine ev_aload_n pm211 i211_40 rfl rfl rfl ?_
        obtain ⟨x23, e24, hS⟩ := bn_s hS
        refine ev_getR pm211 i211_41 rfl rfl rfl e24 rfl ?_
        refine ev_iload_n pm211 i211_44 rfl rfl rfl ?_
        obtain ⟨x25, e26, hS⟩ := bn_s hS
        refine ev_iald pm211 i211_45 rfl e26 rfl ?_
        refine ev_iload_n pm211 i211_46 rfl rfl rfl ?_
        by_cases c493 : x25 = l1
        · rw [if_pos c493] at hS
          refine ev_icmp_ne_t (t := 52) pm211 i211_47 rfl c493 rfl rfl ?_
          refine ev_kls (ls' := [unk, unk, unk, unk]) pm211 i211_50 rfl rfl ?_
          refine ev_iconst (v := 1) pm211 i211_50 rfl (by decide) rfl ?_
          cases hS
          exact ev_ireturn pm211 i211_51 rfl (by decide) hK
        · rw [if_neg c493] at hS
          refine ev_icmp_ne_f (t := 52) pm211 i211_47 rfl c493 rfl rfl ?_
          refine ev_iinc (v := 1) (ls' := [.ref l0, .int l1, .int l2, .int (s + (1 : Int32))]) pm211 i211_52 rfl rfl (by decide) rfl rfl ?_
          refine ev_goto (t := 2) pm211 i211_55 rfl rfl ?_
          cases hS
          exact hK
      · rw [if_neg c492] at hS
        refine ev_icmp_ne_f (t := 52) pm211 i211_37 rfl c492 rfl rfl ?_
        refine ev_iinc (v := 1) (ls' := [.ref l0, .int l1, .int l2, .int (s + (1 : Int32))]) pm211 i211_52 rfl rfl (by decide) rfl rfl ?_
        refine ev_goto (t := 2) pm211 i211_55 rfl rfl ?_
        cases hS
        exact hK
  · rw [if_neg c487] at hS
    refine ev_icmp_ge_f (t := 58) pm211 i211_7 rfl c487 rfl rfl ?_
    refine ev_kls (ls' := [unk, unk, unk, unk]) pm211 i211_58 rfl rfl ?_
    cases hS
    exact hK
def F_la_isRope (a0 : Nat) (a1 : Int32) (a2 : Int32) (h : Hp) : Option Int32 :=
  ck h a0 12 (bn (lq (B_la_isRope_2 a0 a1 a2 h) FU (0 : Int32)) fun x27 =>
  ei x27 (fun q29 =>
  some (0 : Int32))
  (fun x30 => some x30))
set_option maxRecDepth 20000 in
theorem K_la_isRope {a0 : Nat} {a1 : Int32} {a2 : Int32} {h : Hp} {v : Int32} (hS : F_la_isRope a0 a1 a2 h = some v) : kd h a0 = 12 := by
  unfold F_la_isRope at hS
  exact (ck_s hS).1
set_option maxRecDepth 20000 in
theorem R_la_isRope (d : Nat) (hd : 0 ≤ d) {a0 : Nat} {a1 : Int32} {a2 : Int32} {h : Hp} {v : Int32} (hS : F_la_isRope a0 a1 a2 h = some v) : Ev P d 211 (0, [.ref a0, .int a1, .int a2, unk], [], h) (some (.int v), h) := by
  unfold F_la_isRope at hS
  replace hS := (ck_s hS).2
  refine ev_iconst (v := 0) pm211 i211_0 rfl (by decide) rfl ?_
  refine ev_istore_n (ls' := [.ref a0, .int a1, .int a2, .int (0 : Int32)]) pm211 i211_1 rfl (Nat.le_of_ble_eq_true rfl) rfl rfl ?_
  obtain ⟨x27, e28, hS⟩ := bn_s hS
  refine L_la_isRope_2 d (by omega) _ _ _ e28 _ ?_
  cases x27 with
  | inl q29 =>
    replace hS := ei_l hS
    show Ev P d 211 (58, [unk, unk, unk, unk], [], h) _
    refine ev_iconst (v := 0) pm211 i211_58 rfl (by decide) rfl ?_
    cases hS
    exact ev_ireturn pm211 i211_59 rfl (by decide) rfl
  | inr x30 =>
    replace hS := ei_r hS
    cases hS
    rfl
def F_md_readRope (a0 : Nat) (h : Hp) : Option Hp :=
  ck h a0 13 (bn (gR h a0 13 4) fun x1 =>
  bn (gI h x1 12 2) fun x3 =>
  bn (F_md_lineBegins a0 x3 (5 : Int32) h) fun h6 =>
  bd (F_md_readKnown a0 (0 : Int32) h6) fun x8 h9 =>
  bd (F_md_knownOne a0 (0 : Int32) h9) fun x11 h12 =>
  bn (gI h12 a0 13 9) fun x13 =>
  bn (if x13 = (5 : Int32) then
      (some h12)
    else
      (bn (if x8 = x11 then
          (some (Sum.inl ()))
        else
          (bn (gR h12 a0 13 4) fun x15 =>
          bn (F_la_isRope x15 x8 x11 h12) fun x18 =>
          if x18 = (0 : Int32) then
            (some (Sum.inr h12))
          else
            (some (Sum.inl ())))) fun x23 =>
      ei x23 (fun z20 =>
      bn (F_md_flaw a0 (3 : Int32) h12) fun h22 =>
      some h22)
      (fun z => some z))) fun h25 =>
  bn (F_md_goesOn a0 h25) fun h27 =>
  bn (gI h27 a0 13 9) fun x28 =>
  if x28 = (5 : Int32) then
    (some h27)
  else
    (bn (gR h27 a0 13 4) fun x30 =>
    bn (gR h27 x30 12 13) fun x32 =>
    bn (gR h27 a0 13 4) fun x34 =>
    bn (gI h27 x34 12 2) fun x36 =>
    bn (if x8 < x11 then
        (some x8)
      else
        (some x11)) fun q38 =>
    bn (sI h27 100 x32 x36 q38) fun h39 =>
    bn (gR h39 a0 13 4) fun x41 =>
    bn (gR h39 x41 12 14) fun x43 =>
    bn (gR h39 a0 13 4) fun x45 =>
    bn (gI h39 x45 12 2) fun x47 =>
    bn (if x8 < x11 then
        (some x11)
      else
        (some x8)) fun q49 =>
    bn (sI h39 100 x43 x47 q49) fun h50 =>
    bn (gR h50 a0 13 4) fun x52 =>
    bn (gI h50 x52 12 2) fun x54 =>
    bn (pI h50 x52 12 2 (x54 + (1 : Int32))) fun h56 =>
    some h56))
set_option maxRecDepth 20000 in
theorem K_md_readRope {a0 : Nat} {h : Hp} {h' : Hp} (hS : F_md_readRope a0 h = some h') : kd h a0 = 13 := by
  unfold F_md_readRope at hS
  exact (ck_s hS).1
set_option maxRecDepth 20000 in
theorem R_md_readRope (d : Nat) (hd : 9 ≤ d) {a0 : Nat} {h : Hp} {h' : Hp} (hS : F_md_readRope a0 h = some h') : Ev P d 208 (0, [.ref a0, unk, unk], [], h) (none, h') := by
  unfold F_md_readRope at hS
  replace hS := (ck_s hS).2
  refine ev_aload_n pm208 i208_0 rfl rfl rfl ?_
  refine ev_aload_n pm208 i208_1 rfl rfl rfl ?_
  obtain ⟨x1, e2, hS⟩ := bn_s hS
  refine ev_getR pm208 i208_2 rfl rfl rfl e2 rfl ?_
  obtain ⟨x3, e4, hS⟩ := bn_s hS
  refine ev_getI pm208 i208_5 rfl rfl (by decide) e4 rfl ?_
  refine ev_iconst (v := 5) pm208 i208_8 rfl (by decide) rfl ?_
  obtain ⟨h6, e5, hS⟩ := bn_s hS
  refine ev_callV (sa := [.int (5 : Int32), .int x3]) (rest := []) (st' := []) (ls0 := [.ref a0, .int x3, .int (5 : Int32)]) (rv := none) pm208 i208_9 rfl rfl pm203 (by decide) (K_md_lineBegins e5) rfl rfl (Nat.le_of_ble_eq_true rfl) (by omega) rfl (R_md_lineBegins (d - 1) (by omega) e5) (by simp) rfl rfl ?_
  refine ev_aload_n pm208 i208_12 rfl rfl rfl ?_
  refine ev_iconst (v := 0) pm208 i208_13 rfl (by decide) rfl ?_
  obtain ⟨x8, h9, e7, hS⟩ := bd_s hS
  refine ev_callV (sa := [.int (0 : Int32)]) (rest := []) (st' := [.int x8]) (ls0 := [.ref a0, .int (0 : Int32), unk]) (rv := some (.int x8)) pm208 i208_14 rfl rfl pm209 (by decide) (K_md_readKnown e7) rfl rfl (Nat.le_of_ble_eq_true rfl) (by omega) rfl (R_md_readKnown (d - 1) (by omega) e7) (by simp) rfl rfl ?_
  refine ev_istore_n (ls' := [.ref a0, .int x8, unk]) pm208 i208_17 rfl (Nat.le_of_ble_eq_true rfl) rfl rfl ?_
  refine ev_aload_n pm208 i208_18 rfl rfl rfl ?_
  refine ev_iconst (v := 0) pm208 i208_19 rfl (by decide) rfl ?_
  obtain ⟨x11, h12, e10, hS⟩ := bd_s hS
  refine ev_callV (sa := [.int (0 : Int32)]) (rest := []) (st' := [.int x11]) (ls0 := [.ref a0, .int (0 : Int32), unk]) (rv := some (.int x11)) pm208 i208_20 rfl rfl pm210 (by decide) (K_md_knownOne e10) rfl rfl (Nat.le_of_ble_eq_true rfl) (by omega) rfl (R_md_knownOne (d - 1) (by omega) e10) (by simp) rfl rfl ?_
  refine ev_istore_n (ls' := [.ref a0, .int x8, .int x11]) pm208 i208_23 rfl (Nat.le_of_ble_eq_true rfl) rfl rfl ?_
  refine ev_aload_n pm208 i208_24 rfl rfl rfl ?_
  obtain ⟨x13, e14, hS⟩ := bn_s hS
  refine ev_getI pm208 i208_25 rfl rfl (by decide) e14 rfl ?_
  refine ev_iconst (v := 5) pm208 i208_28 rfl (by decide) rfl ?_
  obtain ⟨h25, I494, hS⟩ := bn_s hS
  have J1 : Ev P d 208 (54, [.ref a0, .int x8, .int x11], [], h25) (none, h') := by
    refine ev_aload_n pm208 i208_54 rfl rfl rfl ?_
    obtain ⟨h27, e26, hS⟩ := bn_s hS
    refine ev_callV (sa := []) (rest := []) (st' := []) (ls0 := [.ref a0, unk, unk]) (rv := none) pm208 i208_55 rfl rfl pm188 (by decide) (K_md_goesOn e26) rfl rfl (Nat.le_of_ble_eq_true rfl) (by omega) rfl (R_md_goesOn (d - 1) (by omega) e26) (by simp) rfl rfl ?_
    refine ev_aload_n pm208 i208_58 rfl rfl rfl ?_
    obtain ⟨x28, e29, hS⟩ := bn_s hS
    refine ev_getI pm208 i208_59 rfl rfl (by decide) e29 rfl ?_
    refine ev_iconst (v := 5) pm208 i208_62 rfl (by decide) rfl ?_
    by_cases c495 : x28 = (5 : Int32)
    · rw [if_pos c495] at hS
      refine ev_icmp_ne_t (t := 67) pm208 i208_63 rfl c495 rfl rfl ?_
      cases hS
      exact ev_return pm208 i208_66 rfl rfl rfl
    · rw [if_neg c495] at hS
      refine ev_icmp_ne_f (t := 67) pm208 i208_63 rfl c495 rfl rfl ?_
      refine ev_aload_n pm208 i208_67 rfl rfl rfl ?_
      obtain ⟨x30, e31, hS⟩ := bn_s hS
      refine ev_getR pm208 i208_68 rfl rfl rfl e31 rfl ?_
      obtain ⟨x32, e33, hS⟩ := bn_s hS
      refine ev_getR pm208 i208_71 rfl rfl rfl e33 rfl ?_
      refine ev_aload_n pm208 i208_74 rfl rfl rfl ?_
      obtain ⟨x34, e35, hS⟩ := bn_s hS
      refine ev_getR pm208 i208_75 rfl rfl rfl e35 rfl ?_
      obtain ⟨x36, e37, hS⟩ := bn_s hS
      refine ev_getI pm208 i208_78 rfl rfl (by decide) e37 rfl ?_
      refine ev_iload_n pm208 i208_81 rfl rfl rfl ?_
      refine ev_iload_n pm208 i208_82 rfl rfl rfl ?_
      obtain ⟨q38, I496, hS⟩ := bn_s hS
      have J3 : Ev P d 208 (91, [.ref a0, .int x8, .int x11], [.int q38, .int x36, .ref x32], h27) (none, h') := by
        obtain ⟨h39, e40, hS⟩ := bn_s hS
        refine ev_iast pm208 i208_91 rfl e40 rfl ?_
        refine ev_aload_n pm208 i208_92 rfl rfl rfl ?_
        obtain ⟨x41, e42, hS⟩ := bn_s hS
        refine ev_getR pm208 i208_93 rfl rfl rfl e42 rfl ?_
        obtain ⟨x43, e44, hS⟩ := bn_s hS
        refine ev_getR pm208 i208_96 rfl rfl rfl e44 rfl ?_
        refine ev_aload_n pm208 i208_99 rfl rfl rfl ?_
        obtain ⟨x45, e46, hS⟩ := bn_s hS
        refine ev_getR pm208 i208_100 rfl rfl rfl e46 rfl ?_
        obtain ⟨x47, e48, hS⟩ := bn_s hS
        refine ev_getI pm208 i208_103 rfl rfl (by decide) e48 rfl ?_
        refine ev_iload_n pm208 i208_106 rfl rfl rfl ?_
        refine ev_iload_n pm208 i208_107 rfl rfl rfl ?_
        obtain ⟨q49, I497, hS⟩ := bn_s hS
        have J4 : Ev P d 208 (116, [.ref a0, unk, unk], [.int q49, .int x47, .ref x43], h39) (none, h') := by
          obtain ⟨h50, e51, hS⟩ := bn_s hS
          refine ev_iast pm208 i208_116 rfl e51 rfl ?_
          refine ev_aload_n pm208 i208_117 rfl rfl rfl ?_
          obtain ⟨x52, e53, hS⟩ := bn_s hS
          refine ev_getR pm208 i208_118 rfl rfl rfl e53 rfl ?_
          refine ev_dup pm208 i208_121 rfl rfl rfl ?_
          obtain ⟨x54, e55, hS⟩ := bn_s hS
          refine ev_getI pm208 i208_122 rfl rfl (by decide) e55 rfl ?_
          refine ev_iconst (v := 1) pm208 i208_125 rfl (by decide) rfl ?_
          refine ev_b2 (f := fun x y => x + y) pm208 i208_126 rfl (fun _ _ _ _ => rfl) rfl ?_
          obtain ⟨h56, e57, hS⟩ := bn_s hS
          refine ev_putI pm208 i208_127 rfl rfl rfl e57 rfl ?_
          cases hS
          exact ev_return pm208 i208_130 rfl rfl rfl
        clear hS
        by_cases c497 : x8 < x11
        · rw [if_pos c497] at I497
          refine ev_icmp_ge_t (t := 115) pm208 i208_108 rfl c497 rfl rfl ?_
          refine ev_iload_n pm208 i208_111 rfl rfl rfl ?_
          refine ev_goto (t := 116) pm208 i208_112 rfl rfl ?_
          refine ev_kls (ls' := [.ref a0, unk, unk]) pm208 i208_116 rfl rfl ?_
          cases I497
          exact J4
        · rw [if_neg c497] at I497
          refine ev_icmp_ge_f (t := 115) pm208 i208_108 rfl c497 rfl rfl ?_
          refine ev_iload_n pm208 i208_115 rfl rfl rfl ?_
          refine ev_kls (ls' := [.ref a0, unk, unk]) pm208 i208_116 rfl rfl ?_
          cases I497
          exact J4
      clear hS
      by_cases c496 : x8 < x11
      · rw [if_pos c496] at I496
        refine ev_icmp_ge_t (t := 90) pm208 i208_83 rfl c496 rfl rfl ?_
        refine ev_iload_n pm208 i208_86 rfl rfl rfl ?_
        refine ev_goto (t := 91) pm208 i208_87 rfl rfl ?_
        cases I496
        exact J3
      · rw [if_neg c496] at I496
        refine ev_icmp_ge_f (t := 90) pm208 i208_83 rfl c496 rfl rfl ?_
        refine ev_iload_n pm208 i208_90 rfl rfl rfl ?_
        cases I496
        exact J3
  clear hS
  by_cases c494 : x13 = (5 : Int32)
  · rw [if_pos c494] at I494
    refine ev_icmp_eq_t (t := 54) pm208 i208_29 rfl c494 rfl rfl ?_
    cases I494
    exact J1
  · rw [if_neg c494] at I494
    refine ev_icmp_eq_f (t := 54) pm208 i208_29 rfl c494 rfl rfl ?_
    refine ev_iload_n pm208 i208_32 rfl rfl rfl ?_
    refine ev_iload_n pm208 i208_33 rfl rfl rfl ?_
    obtain ⟨x23, I498, I494⟩ := bn_s I494
    have J2 : ∀ z20, x23 = Sum.inl z20 → Ev P d 208 (49, [.ref a0, .int x8, .int x11], [], h12) (none, h') := by
      intro z20 hx
      subst hx
      replace I494 := ei_l I494
      refine ev_aload_n pm208 i208_49 rfl rfl rfl ?_
      refine ev_iconst (v := 3) pm208 i208_50 rfl (by decide) rfl ?_
      obtain ⟨h22, e21, I494⟩ := bn_s I494
      refine ev_callV (sa := [.int (3 : Int32)]) (rest := []) (st' := []) (ls0 := [.ref a0, .int (3 : Int32)]) (rv := none) pm208 i208_51 rfl rfl pm197 (by decide) (K_md_flaw e21) rfl rfl (Nat.le_of_ble_eq_true rfl) (by omega) rfl (R_md_flaw (d - 1) (by omega) e21) (by simp) rfl rfl ?_
      cases I494
      exact J1
    have Z2 := ej_z I494
    clear I494
    by_cases c498 : x8 = x11
    · rw [if_pos c498] at I498
      refine ev_icmp_eq_t (t := 49) pm208 i208_34 rfl c498 rfl rfl ?_
      cases I498
      exact J2 _ rfl
    · rw [if_neg c498] at I498
      refine ev_icmp_eq_f (t := 49) pm208 i208_34 rfl c498 rfl rfl ?_
      refine ev_aload_n pm208 i208_37 rfl rfl rfl ?_
      obtain ⟨x15, e16, I498⟩ := bn_s I498
      refine ev_getR pm208 i208_38 rfl rfl rfl e16 rfl ?_
      refine ev_iload_n pm208 i208_41 rfl rfl rfl ?_
      refine ev_iload_n pm208 i208_42 rfl rfl rfl ?_
      obtain ⟨x18, e17, I498⟩ := bn_s I498
      refine ev_callV (sa := [.int x11, .int x8]) (rest := []) (st' := [.int x18]) (ls0 := [.ref x15, .int x8, .int x11, unk]) (rv := some (.int x18)) pm208 i208_43 rfl rfl pm211 (by decide) (K_la_isRope e17) rfl rfl (Nat.le_of_ble_eq_true rfl) (by omega) rfl (R_la_isRope (d - 1) (by omega) e17) (by simp) rfl rfl ?_
      by_cases c499 : x18 = (0 : Int32)
      · rw [if_pos c499] at I498
        refine ev_if_eq_t (t := 54) pm208 i208_46 rfl c499 rfl rfl ?_
        cases I498
        have hz2 := Z2 _ rfl
        cases hz2
        exact J1
      · rw [if_neg c499] at I498
        refine ev_if_eq_f (t := 54) pm208 i208_46 rfl c499 rfl rfl ?_
        cases I498
        exact J2 _ rfl
def F_md_kindAtHand (a0 : Nat) (h : Hp) : Option (Int32 × Hp) :=
  ck h a0 13 (bn (F_md_isWord a0 1000016 h) fun x2 =>
  bn (if x2 = (0 : Int32) then
      (bn (F_md_isWord a0 1000017 h) fun x4 =>
      if x4 = (0 : Int32) then
        (bn (F_md_isWord a0 1000018 h) fun x6 =>
        if x6 = (0 : Int32) then
          (bn (F_md_isWord a0 1000019 h) fun x8 =>
          if x8 = (0 : Int32) then
            (bn (F_md_isWord a0 1000020 h) fun x10 =>
            if x10 = (0 : Int32) then
              (some (-1 : Int32))
            else
              (some (4 : Int32)))
          else
            (some (3 : Int32)))
        else
          (some (2 : Int32)))
      else
        (some (1 : Int32)))
    else
      (some (0 : Int32))) fun q11 =>
  bn (if q11 = (-1 : Int32) then
      (bn (F_md_flaw a0 (1 : Int32) h) fun h13 =>
      some h13)
    else
      (some h)) fun h15 =>
  if q11 = (-1 : Int32) then
    (some ((0 : Int32), h15))
  else
    (some (q11, h15)))
set_option maxRecDepth 20000 in
theorem K_md_kindAtHand {a0 : Nat} {h : Hp} {v : Int32} {h' : Hp} (hS : F_md_kindAtHand a0 h = some (v, h')) : kd h a0 = 13 := by
  unfold F_md_kindAtHand at hS
  exact (ck_s hS).1
set_option maxRecDepth 20000 in
theorem R_md_kindAtHand (d : Nat) (hd : 6 ≤ d) {a0 : Nat} {h : Hp} {v : Int32} {h' : Hp} (hS : F_md_kindAtHand a0 h = some (v, h')) : Ev P d 213 (0, [.ref a0, unk], [], h) (some (.int v), h') := by
  unfold F_md_kindAtHand at hS
  replace hS := (ck_s hS).2
  refine ev_aload_n pm213 i213_0 rfl rfl rfl ?_
  refine ev_ldc (v := .ref 1000016) pm213 i213_1 rfl rfl rfl ?_
  obtain ⟨x2, e1, hS⟩ := bn_s hS
  refine ev_callV (sa := [.ref 1000016]) (rest := []) (st' := [.int x2]) (ls0 := [.ref a0, .ref 1000016]) (rv := some (.int x2)) pm213 i213_3 rfl rfl pm194 (by decide) (K_md_isWord e1) rfl rfl (Nat.le_of_ble_eq_true rfl) (by omega) rfl (R_md_isWord (d - 1) (by omega) e1) (by simp) rfl rfl ?_
  obtain ⟨q11, I500, hS⟩ := bn_s hS
  have J1 : Ev P d 213 (66, [.ref a0, unk], [.int q11], h) (some (.int v), h') := by
    refine ev_istore_n (ls' := [.ref a0, .int q11]) pm213 i213_66 rfl (Nat.le_of_ble_eq_true rfl) rfl rfl ?_
    refine ev_iload_n pm213 i213_67 rfl rfl rfl ?_
    refine ev_iconst (v := -1) pm213 i213_68 rfl (by decide) rfl ?_
    obtain ⟨h15, I501, hS⟩ := bn_s hS
    have J2 : Ev P d 213 (77, [unk, .int q11], [], h15) (some (.int v), h') := by
      refine ev_iload_n pm213 i213_77 rfl rfl rfl ?_
      refine ev_iconst (v := -1) pm213 i213_78 rfl (by decide) rfl ?_
      by_cases c502 : q11 = (-1 : Int32)
      · rw [if_pos c502] at hS
        refine ev_icmp_ne_t (t := 86) pm213 i213_79 rfl c502 rfl rfl ?_
        refine ev_iconst (v := 0) pm213 i213_82 rfl (by decide) rfl ?_
        refine ev_goto (t := 87) pm213 i213_83 rfl rfl ?_
        refine ev_kls (ls' := [unk, unk]) pm213 i213_87 rfl rfl ?_
        cases hS
        exact ev_ireturn pm213 i213_87 rfl rfl rfl
      · rw [if_neg c502] at hS
        refine ev_icmp_ne_f (t := 86) pm213 i213_79 rfl c502 rfl rfl ?_
        refine ev_iload_n pm213 i213_86 rfl rfl rfl ?_
        refine ev_kls (ls' := [unk, unk]) pm213 i213_87 rfl rfl ?_
        cases hS
        exact ev_ireturn pm213 i213_87 rfl rfl rfl
    clear hS
    by_cases c501 : q11 = (-1 : Int32)
    · rw [if_pos c501] at I501
      refine ev_icmp_ne_t (t := 77) pm213 i213_69 rfl c501 rfl rfl ?_
      refine ev_aload_n pm213 i213_72 rfl rfl rfl ?_
      refine ev_iconst (v := 1) pm213 i213_73 rfl (by decide) rfl ?_
      obtain ⟨h13, e12, I501⟩ := bn_s I501
      refine ev_callV (sa := [.int (1 : Int32)]) (rest := []) (st' := []) (ls0 := [.ref a0, .int (1 : Int32)]) (rv := none) pm213 i213_74 rfl rfl pm197 (by decide) (K_md_flaw e12) rfl rfl (Nat.le_of_ble_eq_true rfl) (by omega) rfl (R_md_flaw (d - 1) (by omega) e12) (by simp) rfl rfl ?_
      refine ev_kls (ls' := [unk, .int q11]) pm213 i213_77 rfl rfl ?_
      cases I501
      exact J2
    · rw [if_neg c501] at I501
      refine ev_icmp_ne_f (t := 77) pm213 i213_69 rfl c501 rfl rfl ?_
      refine ev_kls (ls' := [unk, .int q11]) pm213 i213_77 rfl rfl ?_
      cases I501
      exact J2
  clear hS
  by_cases c500 : x2 = (0 : Int32)
  · rw [if_pos c500] at I500
    refine ev_if_eq_t (t := 13) pm213 i213_6 rfl c500 rfl rfl ?_
    refine ev_aload_n pm213 i213_13 rfl rfl rfl ?_
    refine ev_ldc (v := .ref 1000017) pm213 i213_14 rfl rfl rfl ?_
    obtain ⟨x4, e3, I500⟩ := bn_s I500
    refine ev_callV (sa := [.ref 1000017]) (rest := []) (st' := [.int x4]) (ls0 := [.ref a0, .ref 1000017]) (rv := some (.int x4)) pm213 i213_16 rfl rfl pm194 (by decide) (K_md_isWord e3) rfl rfl (Nat.le_of_ble_eq_true rfl) (by omega) rfl (R_md_isWord (d - 1) (by omega) e3) (by simp) rfl rfl ?_
    by_cases c503 : x4 = (0 : Int32)
    · rw [if_pos c503] at I500
      refine ev_if_eq_t (t := 26) pm213 i213_19 rfl c503 rfl rfl ?_
      refine ev_aload_n pm213 i213_26 rfl rfl rfl ?_
      refine ev_ldc (v := .ref 1000018) pm213 i213_27 rfl rfl rfl ?_
      obtain ⟨x6, e5, I500⟩ := bn_s I500
      refine ev_callV (sa := [.ref 1000018]) (rest := []) (st' := [.int x6]) (ls0 := [.ref a0, .ref 1000018]) (rv := some (.int x6)) pm213 i213_29 rfl rfl pm194 (by decide) (K_md_isWord e5) rfl rfl (Nat.le_of_ble_eq_true rfl) (by omega) rfl (R_md_isWord (d - 1) (by omega) e5) (by simp) rfl rfl ?_
      by_cases c504 : x6 = (0 : Int32)
      · rw [if_pos c504] at I500
        refine ev_if_eq_t (t := 39) pm213 i213_32 rfl c504 rfl rfl ?_
        refine ev_aload_n pm213 i213_39 rfl rfl rfl ?_
        refine ev_ldc (v := .ref 1000019) pm213 i213_40 rfl rfl rfl ?_
        obtain ⟨x8, e7, I500⟩ := bn_s I500
        refine ev_callV (sa := [.ref 1000019]) (rest := []) (st' := [.int x8]) (ls0 := [.ref a0, .ref 1000019]) (rv := some (.int x8)) pm213 i213_42 rfl rfl pm194 (by decide) (K_md_isWord e7) rfl rfl (Nat.le_of_ble_eq_true rfl) (by omega) rfl (R_md_isWord (d - 1) (by omega) e7) (by simp) rfl rfl ?_
        by_cases c505 : x8 = (0 : Int32)
        · rw [if_pos c505] at I500
          refine ev_if_eq_t (t := 52) pm213 i213_45 rfl c505 rfl rfl ?_
          refine ev_aload_n pm213 i213_52 rfl rfl rfl ?_
          refine ev_ldc (v := .ref 1000020) pm213 i213_53 rfl rfl rfl ?_
          obtain ⟨x10, e9, I500⟩ := bn_s I500
          refine ev_callV (sa := [.ref 1000020]) (rest := []) (st' := [.int x10]) (ls0 := [.ref a0, .ref 1000020]) (rv := some (.int x10)) pm213 i213_55 rfl rfl pm194 (by decide) (K_md_isWord e9) rfl rfl (Nat.le_of_ble_eq_true rfl) (by omega) rfl (R_md_isWord (d - 1) (by omega) e9) (by simp) rfl rfl ?_
          by_cases c506 : x10 = (0 : Int32)
          · rw [if_pos c506] at I500
            refine ev_if_eq_t (t := 65) pm213 i213_58 rfl c506 rfl rfl ?_
            refine ev_iconst (v := -1) pm213 i213_65 rfl (by decide) rfl ?_
            cases I500
            exact J1
          · rw [if_neg c506] at I500
            refine ev_if_eq_f (t := 65) pm213 i213_58 rfl c506 rfl rfl ?_
            refine ev_iconst (v := 4) pm213 i213_61 rfl (by decide) rfl ?_
            refine ev_goto (t := 66) pm213 i213_62 rfl rfl ?_
            cases I500
            exact J1
        · rw [if_neg c505] at I500
          refine ev_if_eq_f (t := 52) pm213 i213_45 rfl c505 rfl rfl ?_
          refine ev_iconst (v := 3) pm213 i213_48 rfl (by decide) rfl ?_
          refine ev_goto (t := 66) pm213 i213_49 rfl rfl ?_
          cases I500
          exact J1
      · rw [if_neg c504] at I500
        refine ev_if_eq_f (t := 39) pm213 i213_32 rfl c504 rfl rfl ?_
        refine ev_iconst (v := 2) pm213 i213_35 rfl (by decide) rfl ?_
        refine ev_goto (t := 66) pm213 i213_36 rfl rfl ?_
        cases I500
        exact J1
    · rw [if_neg c503] at I500
      refine ev_if_eq_f (t := 26) pm213 i213_19 rfl c503 rfl rfl ?_
      refine ev_iconst (v := 1) pm213 i213_22 rfl (by decide) rfl ?_
      refine ev_goto (t := 66) pm213 i213_23 rfl rfl ?_
      cases I500
      exact J1
  · rw [if_neg c500] at I500
    refine ev_if_eq_f (t := 13) pm213 i213_6 rfl c500 rfl rfl ?_
    refine ev_iconst (v := 0) pm213 i213_9 rfl (by decide) rfl ?_
    refine ev_goto (t := 66) pm213 i213_10 rfl rfl ?_
    cases I500
    exact J1
