def F_md_sets (a0 : Nat) (h : Hp) : Option (Int32 × Hp) :=
  ck h a0 13 (bn (pI h a0 13 0 (0 : Int32)) fun h1 =>
  bn (gQ h1 a0 13 3) fun x3 =>
  if x3 = none then
    (bd (F_md_refused a0 (1 : Int32) h1) fun x6 h7 =>
    some (x6, h7))
  else
    (bd (F_md_fitting a0 (-1 : Int32) h1) fun x9 h10 =>
    bn (gI h10 a0 13 26) fun x11 =>
    bd (F_md_good a0 x11 h10) fun x14 h15 =>
    some (x14, h15)))
set_option maxRecDepth 20000 in
theorem K_md_sets {a0 : Nat} {h : Hp} {v : Int32} {h' : Hp} (hS : F_md_sets a0 h = some (v, h')) : kd h a0 = 13 := by
  unfold F_md_sets at hS
  exact (ck_s hS).1
set_option maxRecDepth 20000 in
theorem R_md_sets (d : Nat) (hd : 7 ≤ d) {a0 : Nat} {h : Hp} {v : Int32} {h' : Hp} (hS : F_md_sets a0 h = some (v, h')) : Ev P d 277 (0, [.ref a0], [], h) (some (.int v), h') := by
  unfold F_md_sets at hS
  replace hS := (ck_s hS).2
  refine ev_aload_n pm277 i277_0 rfl rfl rfl ?_
  refine ev_iconst (v := 0) pm277 i277_1 rfl (by decide) rfl ?_
  obtain ⟨h1, e2, hS⟩ := bn_s hS
  refine ev_putI pm277 i277_2 rfl rfl rfl e2 rfl ?_
  refine ev_aload_n pm277 i277_5 rfl rfl rfl ?_
  obtain ⟨x3, e4, hS⟩ := bn_s hS
  refine ev_getQ pm277 i277_6 rfl rfl rfl e4 rfl ?_
  by_cases c686 : x3 = none
  · rw [if_pos c686] at hS
    subst c686
    refine ev_nonnullF pm277 i277_9 rfl rfl ?_
    refine ev_aload_n pm277 i277_12 rfl rfl rfl ?_
    refine ev_iconst (v := 1) pm277 i277_13 rfl (by decide) rfl ?_
    obtain ⟨x6, h7, e5, hS⟩ := bd_s hS
    refine ev_callV (sa := [.int (1 : Int32)]) (rest := []) (st' := [.int x6]) (ls0 := [.ref a0, .int (1 : Int32)]) (rv := some (.int x6)) pm277 i277_14 rfl rfl pm186 (by decide) (K_md_refused e5) rfl rfl (Nat.le_of_ble_eq_true rfl) (by omega) rfl (R_md_refused (d - 1) (by omega) e5) (by simp) rfl rfl ?_
    cases hS
    exact ev_ireturn pm277 i277_17 rfl rfl rfl
  · rw [if_neg c686] at hS
    obtain ⟨_, rfl⟩ := Option.ne_none_iff_exists'.mp c686
    refine ev_nonnullT (t := 18) pm277 i277_9 rfl rfl ?_
    refine ev_aload_n pm277 i277_18 rfl rfl rfl ?_
    refine ev_iconst (v := -1) pm277 i277_19 rfl (by decide) rfl ?_
    obtain ⟨x9, h10, e8, hS⟩ := bd_s hS
    refine ev_callV (sa := [.int (-1 : Int32)]) (rest := []) (st' := [.int x9]) (ls0 := [.ref a0, .int (-1 : Int32), unk, unk, unk]) (rv := some (.int x9)) pm277 i277_20 rfl rfl pm278 (by decide) (K_md_fitting e8) rfl rfl (Nat.le_of_ble_eq_true rfl) (by omega) rfl (R_md_fitting (d - 1) (by omega) e8) (by simp) rfl rfl ?_
    refine ev_pop pm277 i277_23 rfl rfl rfl ?_
    refine ev_aload_n pm277 i277_24 rfl rfl rfl ?_
    refine ev_aload_n pm277 i277_25 rfl rfl rfl ?_
    obtain ⟨x11, e12, hS⟩ := bn_s hS
    refine ev_getI pm277 i277_26 rfl rfl (by decide) e12 rfl ?_
    obtain ⟨x14, h15, e13, hS⟩ := bd_s hS
    refine ev_callV (sa := [.int x11]) (rest := []) (st' := [.int x14]) (ls0 := [.ref a0, .int x11]) (rv := some (.int x14)) pm277 i277_29 rfl rfl pm224 (by decide) (K_md_good e13) rfl rfl (Nat.le_of_ble_eq_true rfl) (by omega) rfl (R_md_good (d - 1) (by omega) e13) (by simp) rfl rfl ?_
    cases hS
    exact ev_ireturn pm277 i277_32 rfl rfl rfl
def F_md_setAt (a0 : Nat) (a1 : Int32) (h : Hp) : Option (Int32 × Hp) :=
  ck h a0 13 (bn (pI h a0 13 0 (0 : Int32)) fun h1 =>
  bn (gQ h1 a0 13 3) fun x3 =>
  bn (if x3 = none then
      (some (Sum.inl ()))
    else
      (if a1 < (0 : Int32) then
        (some (Sum.inl ()))
      else
        (bd (F_md_fitting a0 a1 h1) fun x6 h7 =>
        if x6 = (-2 : Int32) then
          (bd (F_md_refused a0 (1 : Int32) h7) fun x9 h10 =>
          some (Sum.inr (x9, h10)))
        else
          (bd (F_md_good a0 x6 h7) fun x12 h13 =>
          some (Sum.inr (x12, h13)))))) fun x19 =>
  ei x19 (fun z15 =>
  bd (F_md_refused a0 (1 : Int32) h1) fun x17 h18 =>
  some (x17, h18))
  (fun z => some z))
set_option maxRecDepth 20000 in
theorem K_md_setAt {a0 : Nat} {a1 : Int32} {h : Hp} {v : Int32} {h' : Hp} (hS : F_md_setAt a0 a1 h = some (v, h')) : kd h a0 = 13 := by
  unfold F_md_setAt at hS
  exact (ck_s hS).1
set_option maxRecDepth 20000 in
theorem R_md_setAt (d : Nat) (hd : 7 ≤ d) {a0 : Nat} {a1 : Int32} {h : Hp} {v : Int32} {h' : Hp} (hS : F_md_setAt a0 a1 h = some (v, h')) : Ev P d 280 (0, [.ref a0, .int a1, unk], [], h) (some (.int v), h') := by
  unfold F_md_setAt at hS
  replace hS := (ck_s hS).2
  refine ev_aload_n pm280 i280_0 rfl rfl rfl ?_
  refine ev_iconst (v := 0) pm280 i280_1 rfl (by decide) rfl ?_
  obtain ⟨h1, e2, hS⟩ := bn_s hS
  refine ev_putI pm280 i280_2 rfl rfl rfl e2 rfl ?_
  refine ev_aload_n pm280 i280_5 rfl rfl rfl ?_
  obtain ⟨x3, e4, hS⟩ := bn_s hS
  refine ev_getQ pm280 i280_6 rfl rfl rfl e4 rfl ?_
  obtain ⟨x19, I687, hS⟩ := bn_s hS
  have J1 : ∀ z15, x19 = Sum.inl z15 → Ev P d 280 (16, [.ref a0, unk, unk], [], h1) (some (.int v), h') := by
    intro z15 hx
    subst hx
    replace hS := ei_l hS
    refine ev_aload_n pm280 i280_16 rfl rfl rfl ?_
    refine ev_iconst (v := 1) pm280 i280_17 rfl (by decide) rfl ?_
    obtain ⟨x17, h18, e16, hS⟩ := bd_s hS
    refine ev_callV (sa := [.int (1 : Int32)]) (rest := []) (st' := [.int x17]) (ls0 := [.ref a0, .int (1 : Int32)]) (rv := some (.int x17)) pm280 i280_18 rfl rfl pm186 (by decide) (K_md_refused e16) rfl rfl (Nat.le_of_ble_eq_true rfl) (by omega) rfl (R_md_refused (d - 1) (by omega) e16) (by simp) rfl rfl ?_
    cases hS
    exact ev_ireturn pm280 i280_21 rfl rfl rfl
  have Z1 := ej_z hS
  clear hS
  by_cases c687 : x3 = none
  · rw [if_pos c687] at I687
    subst c687
    refine ev_nullT (t := 16) pm280 i280_9 rfl rfl ?_
    refine ev_kls (ls' := [.ref a0, unk, unk]) pm280 i280_16 rfl rfl ?_
    cases I687
    exact J1 _ rfl
  · rw [if_neg c687] at I687
    obtain ⟨_, rfl⟩ := Option.ne_none_iff_exists'.mp c687
    refine ev_nullF pm280 i280_9 rfl rfl ?_
    refine ev_iload_n pm280 i280_12 rfl rfl rfl ?_
    by_cases c688 : a1 < (0 : Int32)
    · rw [if_pos c688] at I687
      refine ev_if_ge_t (t := 22) pm280 i280_13 rfl c688 rfl rfl ?_
      refine ev_kls (ls' := [.ref a0, unk, unk]) pm280 i280_16 rfl rfl ?_
      cases I687
      exact J1 _ rfl
    · rw [if_neg c688] at I687
      refine ev_if_ge_f (t := 22) pm280 i280_13 rfl c688 rfl rfl ?_
      refine ev_aload_n pm280 i280_22 rfl rfl rfl ?_
      refine ev_iload_n pm280 i280_23 rfl rfl rfl ?_
      obtain ⟨x6, h7, e5, I687⟩ := bd_s I687
      refine ev_callV (sa := [.int a1]) (rest := []) (st' := [.int x6]) (ls0 := [.ref a0, .int a1, unk, unk, unk]) (rv := some (.int x6)) pm280 i280_24 rfl rfl pm278 (by decide) (K_md_fitting e5) rfl rfl (Nat.le_of_ble_eq_true rfl) (by omega) rfl (R_md_fitting (d - 1) (by omega) e5) (by simp) rfl rfl ?_
      refine ev_istore_n (ls' := [.ref a0, .int a1, .int x6]) pm280 i280_27 rfl (Nat.le_of_ble_eq_true rfl) rfl rfl ?_
      refine ev_iload_n pm280 i280_28 rfl rfl rfl ?_
      refine ev_bipush (v := -2) pm280 i280_29 rfl (by decide) rfl ?_
      by_cases c689 : x6 = (-2 : Int32)
      · rw [if_pos c689] at I687
        refine ev_icmp_ne_t (t := 42) pm280 i280_31 rfl c689 rfl rfl ?_
        refine ev_aload_n pm280 i280_34 rfl rfl rfl ?_
        refine ev_iconst (v := 1) pm280 i280_35 rfl (by decide) rfl ?_
        obtain ⟨x9, h10, e8, I687⟩ := bd_s I687
        refine ev_callV (sa := [.int (1 : Int32)]) (rest := []) (st' := [.int x9]) (ls0 := [.ref a0, .int (1 : Int32)]) (rv := some (.int x9)) pm280 i280_36 rfl rfl pm186 (by decide) (K_md_refused e8) rfl rfl (Nat.le_of_ble_eq_true rfl) (by omega) rfl (R_md_refused (d - 1) (by omega) e8) (by simp) rfl rfl ?_
        refine ev_goto (t := 47) pm280 i280_39 rfl rfl ?_
        refine ev_kls (ls' := [unk, unk, unk]) pm280 i280_47 rfl rfl ?_
        cases I687
        have hz1 := Z1 _ rfl
        cases hz1
        exact ev_ireturn pm280 i280_47 rfl rfl rfl
      · rw [if_neg c689] at I687
        refine ev_icmp_ne_f (t := 42) pm280 i280_31 rfl c689 rfl rfl ?_
        refine ev_aload_n pm280 i280_42 rfl rfl rfl ?_
        refine ev_iload_n pm280 i280_43 rfl rfl rfl ?_
        obtain ⟨x12, h13, e11, I687⟩ := bd_s I687
        refine ev_callV (sa := [.int x6]) (rest := []) (st' := [.int x12]) (ls0 := [.ref a0, .int x6]) (rv := some (.int x12)) pm280 i280_44 rfl rfl pm224 (by decide) (K_md_good e11) rfl rfl (Nat.le_of_ble_eq_true rfl) (by omega) rfl (R_md_good (d - 1) (by omega) e11) (by simp) rfl rfl ?_
        refine ev_kls (ls' := [unk, unk, unk]) pm280 i280_47 rfl rfl ?_
        cases I687
        have hz1 := Z1 _ rfl
        cases hz1
        exact ev_ireturn pm280 i280_47 rfl rfl rfl
def F_md_could (a0 : Nat) (h : Hp) : Option (Int32 × Hp) :=
  ck h a0 13 (bn (pI h a0 13 0 (0 : Int32)) fun h1 =>
  bn (gQ h1 a0 13 3) fun x3 =>
  if x3 = none then
    (bd (F_md_refused a0 (1 : Int32) h1) fun x6 h7 =>
    some (x6, h7))
  else
    (bd (F_md_fitting a0 (-1 : Int32) h1) fun x9 h10 =>
    bn (gI h10 a0 13 27) fun x11 =>
    bd (F_md_good a0 x11 h10) fun x14 h15 =>
    some (x14, h15)))
set_option maxRecDepth 20000 in
theorem K_md_could {a0 : Nat} {h : Hp} {v : Int32} {h' : Hp} (hS : F_md_could a0 h = some (v, h')) : kd h a0 = 13 := by
  unfold F_md_could at hS
  exact (ck_s hS).1
set_option maxRecDepth 20000 in
theorem R_md_could (d : Nat) (hd : 7 ≤ d) {a0 : Nat} {h : Hp} {v : Int32} {h' : Hp} (hS : F_md_could a0 h = some (v, h')) : Ev P d 281 (0, [.ref a0], [], h) (some (.int v), h') := by
  unfold F_md_could at hS
  replace hS := (ck_s hS).2
  refine ev_aload_n pm281 i281_0 rfl rfl rfl ?_
  refine ev_iconst (v := 0) pm281 i281_1 rfl (by decide) rfl ?_
  obtain ⟨h1, e2, hS⟩ := bn_s hS
  refine ev_putI pm281 i281_2 rfl rfl rfl e2 rfl ?_
  refine ev_aload_n pm281 i281_5 rfl rfl rfl ?_
  obtain ⟨x3, e4, hS⟩ := bn_s hS
  refine ev_getQ pm281 i281_6 rfl rfl rfl e4 rfl ?_
  by_cases c690 : x3 = none
  · rw [if_pos c690] at hS
    subst c690
    refine ev_nonnullF pm281 i281_9 rfl rfl ?_
    refine ev_aload_n pm281 i281_12 rfl rfl rfl ?_
    refine ev_iconst (v := 1) pm281 i281_13 rfl (by decide) rfl ?_
    obtain ⟨x6, h7, e5, hS⟩ := bd_s hS
    refine ev_callV (sa := [.int (1 : Int32)]) (rest := []) (st' := [.int x6]) (ls0 := [.ref a0, .int (1 : Int32)]) (rv := some (.int x6)) pm281 i281_14 rfl rfl pm186 (by decide) (K_md_refused e5) rfl rfl (Nat.le_of_ble_eq_true rfl) (by omega) rfl (R_md_refused (d - 1) (by omega) e5) (by simp) rfl rfl ?_
    cases hS
    exact ev_ireturn pm281 i281_17 rfl rfl rfl
  · rw [if_neg c690] at hS
    obtain ⟨_, rfl⟩ := Option.ne_none_iff_exists'.mp c690
    refine ev_nonnullT (t := 18) pm281 i281_9 rfl rfl ?_
    refine ev_aload_n pm281 i281_18 rfl rfl rfl ?_
    refine ev_iconst (v := -1) pm281 i281_19 rfl (by decide) rfl ?_
    obtain ⟨x9, h10, e8, hS⟩ := bd_s hS
    refine ev_callV (sa := [.int (-1 : Int32)]) (rest := []) (st' := [.int x9]) (ls0 := [.ref a0, .int (-1 : Int32), unk, unk, unk]) (rv := some (.int x9)) pm281 i281_20 rfl rfl pm278 (by decide) (K_md_fitting e8) rfl rfl (Nat.le_of_ble_eq_true rfl) (by omega) rfl (R_md_fitting (d - 1) (by omega) e8) (by simp) rfl rfl ?_
    refine ev_pop pm281 i281_23 rfl rfl rfl ?_
    refine ev_aload_n pm281 i281_24 rfl rfl rfl ?_
    refine ev_aload_n pm281 i281_25 rfl rfl rfl ?_
    obtain ⟨x11, e12, hS⟩ := bn_s hS
    refine ev_getI pm281 i281_26 rfl rfl (by decide) e12 rfl ?_
    obtain ⟨x14, h15, e13, hS⟩ := bd_s hS
    refine ev_callV (sa := [.int x11]) (rest := []) (st' := [.int x14]) (ls0 := [.ref a0, .int x11]) (rv := some (.int x14)) pm281 i281_29 rfl rfl pm224 (by decide) (K_md_good e13) rfl rfl (Nat.le_of_ble_eq_true rfl) (by omega) rfl (R_md_good (d - 1) (by omega) e13) (by simp) rfl rfl ?_
    cases hS
    exact ev_ireturn pm281 i281_32 rfl rfl rfl
def F_md_surely (a0 : Nat) (h : Hp) : Option (Int32 × Hp) :=
  ck h a0 13 (bn (pI h a0 13 0 (0 : Int32)) fun h1 =>
  bn (gQ h1 a0 13 3) fun x3 =>
  if x3 = none then
    (bd (F_md_refused a0 (1 : Int32) h1) fun x6 h7 =>
    some (x6, h7))
  else
    (bd (F_md_fitting a0 (-1 : Int32) h1) fun x9 h10 =>
    bn (gI h10 a0 13 28) fun x11 =>
    bd (F_md_good a0 x11 h10) fun x14 h15 =>
    some (x14, h15)))
set_option maxRecDepth 20000 in
theorem K_md_surely {a0 : Nat} {h : Hp} {v : Int32} {h' : Hp} (hS : F_md_surely a0 h = some (v, h')) : kd h a0 = 13 := by
  unfold F_md_surely at hS
  exact (ck_s hS).1
set_option maxRecDepth 20000 in
theorem R_md_surely (d : Nat) (hd : 7 ≤ d) {a0 : Nat} {h : Hp} {v : Int32} {h' : Hp} (hS : F_md_surely a0 h = some (v, h')) : Ev P d 282 (0, [.ref a0], [], h) (some (.int v), h') := by
  unfold F_md_surely at hS
  replace hS := (ck_s hS).2
  refine ev_aload_n pm282 i282_0 rfl rfl rfl ?_
  refine ev_iconst (v := 0) pm282 i282_1 rfl (by decide) rfl ?_
  obtain ⟨h1, e2, hS⟩ := bn_s hS
  refine ev_putI pm282 i282_2 rfl rfl rfl e2 rfl ?_
  refine ev_aload_n pm282 i282_5 rfl rfl rfl ?_
  obtain ⟨x3, e4, hS⟩ := bn_s hS
  refine ev_getQ pm282 i282_6 rfl rfl rfl e4 rfl ?_
  by_cases c691 : x3 = none
  · rw [if_pos c691] at hS
    subst c691
    refine ev_nonnullF pm282 i282_9 rfl rfl ?_
    refine ev_aload_n pm282 i282_12 rfl rfl rfl ?_
    refine ev_iconst (v := 1) pm282 i282_13 rfl (by decide) rfl ?_
    obtain ⟨x6, h7, e5, hS⟩ := bd_s hS
    refine ev_callV (sa := [.int (1 : Int32)]) (rest := []) (st' := [.int x6]) (ls0 := [.ref a0, .int (1 : Int32)]) (rv := some (.int x6)) pm282 i282_14 rfl rfl pm186 (by decide) (K_md_refused e5) rfl rfl (Nat.le_of_ble_eq_true rfl) (by omega) rfl (R_md_refused (d - 1) (by omega) e5) (by simp) rfl rfl ?_
    cases hS
    exact ev_ireturn pm282 i282_17 rfl rfl rfl
  · rw [if_neg c691] at hS
    obtain ⟨_, rfl⟩ := Option.ne_none_iff_exists'.mp c691
    refine ev_nonnullT (t := 18) pm282 i282_9 rfl rfl ?_
    refine ev_aload_n pm282 i282_18 rfl rfl rfl ?_
    refine ev_iconst (v := -1) pm282 i282_19 rfl (by decide) rfl ?_
    obtain ⟨x9, h10, e8, hS⟩ := bd_s hS
    refine ev_callV (sa := [.int (-1 : Int32)]) (rest := []) (st' := [.int x9]) (ls0 := [.ref a0, .int (-1 : Int32), unk, unk, unk]) (rv := some (.int x9)) pm282 i282_20 rfl rfl pm278 (by decide) (K_md_fitting e8) rfl rfl (Nat.le_of_ble_eq_true rfl) (by omega) rfl (R_md_fitting (d - 1) (by omega) e8) (by simp) rfl rfl ?_
    refine ev_pop pm282 i282_23 rfl rfl rfl ?_
    refine ev_aload_n pm282 i282_24 rfl rfl rfl ?_
    refine ev_aload_n pm282 i282_25 rfl rfl rfl ?_
    obtain ⟨x11, e12, hS⟩ := bn_s hS
    refine ev_getI pm282 i282_26 rfl rfl (by decide) e12 rfl ?_
    obtain ⟨x14, h15, e13, hS⟩ := bd_s hS
    refine ev_callV (sa := [.int x11]) (rest := []) (st' := [.int x14]) (ls0 := [.ref a0, .int x11]) (rv := some (.int x14)) pm282 i282_29 rfl rfl pm224 (by decide) (K_md_good e13) rfl rfl (Nat.le_of_ble_eq_true rfl) (by omega) rfl (R_md_good (d - 1) (by omega) e13) (by simp) rfl rfl ?_
    cases hS
    exact ev_ireturn pm282 i282_32 rfl rfl rfl
def B_md_toAsk_17 (l0 : Nat) (s : Int32 × Int32) (h : Hp) : Option (((Int32 × Int32) ⊕ (Int32)) × Hp) :=
  bn (gR h l0 13 3) fun x6 =>
  bn (gI h x6 12 4) fun x8 =>
  if s.2 < x8 then
    (bn (gI h l0 13 26) fun x10 =>
    if (0 : Int32) < x10 then
      (bn (gR h l0 13 25) fun x12 =>
      bn (aI h 100 x12 s.2) fun x14 =>
      bn (gI h l0 13 26) fun x16 =>
      bn (gR h l0 13 25) fun x18 =>
      bn (aI h 100 x18 s.2) fun x20 =>
      bn (if (x16 - x20) < x14 then
          (bn (gR h l0 13 25) fun x22 =>
          bn (aI h 100 x22 s.2) fun x24 =>
          some x24)
        else
          (bn (gI h l0 13 26) fun x26 =>
          bn (gR h l0 13 25) fun x28 =>
          bn (aI h 100 x28 s.2) fun x30 =>
          some (x26 - x30))) fun q32 =>
      if s.1 = (-2 : Int32) then
        (bn (pI h l0 13 29 q32) fun h33 =>
        some (.inl (s.2, s.2 + (1 : Int32)), h33))
      else
        (bn (gI h l0 13 29) fun x35 =>
        if q32 < x35 then
          (bn (pI h l0 13 29 q32) fun h37 =>
          some (.inl (s.2, s.2 + (1 : Int32)), h37))
        else
          (some (.inl (s.1, s.2 + (1 : Int32)), h))))
    else
      (some (.inr s.1, h)))
  else
    (some (.inr s.1, h))
set_option maxRecDepth 20000 in
theorem L_md_toAsk_17 (d : Nat) (hd : 7 ≤ d) {l0 : Nat} : ∀ (n : Nat) (s : Int32 × Int32) (h : Hp) (x : Int32) (hx : Hp), lp (B_md_toAsk_17 l0) n s h = some (x, hx) → ∀ r, Ev P d 284 (106, [unk, .int x, unk, unk], [], hx) r → Ev P d 284 (17, [.ref l0, .int s.1, .int s.2, unk], [], h) r := by
  refine lp_ev (G0 := fun (s : Int32 × Int32) h r => Ev P d 284 (17, [.ref l0, .int s.1, .int s.2, unk], [], h) r) (X := fun (x : Int32) hx r => Ev P d 284 (106, [unk, .int x, unk, unk], [], hx) r) ?_
  intro s h y h9 hS r hK
  unfold B_md_toAsk_17 at hS
  show Ev P d 284 (17, [.ref l0, .int s.1, .int s.2, unk], [], h) r
  refine ev_iload_n pm284 i284_17 rfl rfl rfl ?_
  refine ev_aload_n pm284 i284_18 rfl rfl rfl ?_
  obtain ⟨x6, e7, hS⟩ := bn_s hS
  refine ev_getR pm284 i284_19 rfl rfl rfl e7 rfl ?_
  obtain ⟨x8, e9, hS⟩ := bn_s hS
  refine ev_getI pm284 i284_22 rfl rfl (by decide) e9 rfl ?_
  by_cases c692 : s.2 < x8
  · rw [if_pos c692] at hS
    refine ev_icmp_ge_t (t := 106) pm284 i284_25 rfl c692 rfl rfl ?_
    refine ev_aload_n pm284 i284_28 rfl rfl rfl ?_
    obtain ⟨x10, e11, hS⟩ := bn_s hS
    refine ev_getI pm284 i284_29 rfl rfl (by decide) e11 rfl ?_
    by_cases c693 : (0 : Int32) < x10
    · rw [if_pos c693] at hS
      refine ev_if_le_t (t := 106) pm284 i284_32 rfl c693 rfl rfl ?_
      refine ev_aload_n pm284 i284_35 rfl rfl rfl ?_
      obtain ⟨x12, e13, hS⟩ := bn_s hS
      refine ev_getR pm284 i284_36 rfl rfl rfl e13 rfl ?_
      refine ev_iload_n pm284 i284_39 rfl rfl rfl ?_
      obtain ⟨x14, e15, hS⟩ := bn_s hS
      refine ev_iald pm284 i284_40 rfl e15 rfl ?_
      refine ev_aload_n pm284 i284_41 rfl rfl rfl ?_
      obtain ⟨x16, e17, hS⟩ := bn_s hS
      refine ev_getI pm284 i284_42 rfl rfl (by decide) e17 rfl ?_
      refine ev_aload_n pm284 i284_45 rfl rfl rfl ?_
      obtain ⟨x18, e19, hS⟩ := bn_s hS
      refine ev_getR pm284 i284_46 rfl rfl rfl e19 rfl ?_
      refine ev_iload_n pm284 i284_49 rfl rfl rfl ?_
      obtain ⟨x20, e21, hS⟩ := bn_s hS
      refine ev_iald pm284 i284_50 rfl e21 rfl ?_
      refine ev_b2 (f := fun x y => x - y) pm284 i284_51 rfl (fun _ _ _ _ => rfl) rfl ?_
      obtain ⟨q32, I694, hS⟩ := bn_s hS
      have J1 : Ev P d 284 (75, [.ref l0, .int s.1, .int s.2, unk], [.int q32], h) r := by
        refine ev_istore_n (ls' := [.ref l0, .int s.1, .int s.2, .int q32]) pm284 i284_75 rfl (Nat.le_of_ble_eq_true rfl) rfl rfl ?_
        refine ev_iload_n pm284 i284_76 rfl rfl rfl ?_
        refine ev_bipush (v := -2) pm284 i284_77 rfl (by decide) rfl ?_
        by_cases c695 : s.1 = (-2 : Int32)
        · rw [if_pos c695] at hS
          refine ev_icmp_eq_t (t := 93) pm284 i284_79 rfl c695 rfl rfl ?_
          refine ev_kls (ls' := [.ref l0, unk, .int s.2, .int q32]) pm284 i284_93 rfl rfl ?_
          refine ev_iload_n pm284 i284_93 rfl rfl rfl ?_
          refine ev_istore_n (ls' := [.ref l0, .int s.2, .int s.2, .int q32]) pm284 i284_94 rfl (Nat.le_of_ble_eq_true rfl) rfl rfl ?_
          refine ev_aload_n pm284 i284_95 rfl rfl rfl ?_
          refine ev_iload_n pm284 i284_96 rfl rfl rfl ?_
          obtain ⟨h33, e34, hS⟩ := bn_s hS
          refine ev_putI pm284 i284_97 rfl rfl rfl e34 rfl ?_
          refine ev_kls (ls' := [.ref l0, .int s.2, .int s.2, unk]) pm284 i284_100 rfl rfl ?_
          refine ev_iinc (v := 1) (ls' := [.ref l0, .int s.2, .int (s.2 + (1 : Int32)), unk]) pm284 i284_100 rfl rfl (by decide) rfl rfl ?_
          refine ev_goto (t := 17) pm284 i284_103 rfl rfl ?_
          cases hS
          exact hK
        · rw [if_neg c695] at hS
          refine ev_icmp_eq_f (t := 93) pm284 i284_79 rfl c695 rfl rfl ?_
          refine ev_iload_n pm284 i284_82 rfl rfl rfl ?_
          refine ev_aload_n pm284 i284_83 rfl rfl rfl ?_
          obtain ⟨x35, e36, hS⟩ := bn_s hS
          refine ev_getI pm284 i284_84 rfl rfl (by decide) e36 rfl ?_
          by_cases c696 : q32 < x35
          · rw [if_pos c696] at hS
            refine ev_icmp_lt_t (t := 93) pm284 i284_87 rfl c696 rfl rfl ?_
            refine ev_kls (ls' := [.ref l0, unk, .int s.2, .int q32]) pm284 i284_93 rfl rfl ?_
            refine ev_iload_n pm284 i284_93 rfl rfl rfl ?_
            refine ev_istore_n (ls' := [.ref l0, .int s.2, .int s.2, .int q32]) pm284 i284_94 rfl (Nat.le_of_ble_eq_true rfl) rfl rfl ?_
            refine ev_aload_n pm284 i284_95 rfl rfl rfl ?_
            refine ev_iload_n pm284 i284_96 rfl rfl rfl ?_
            obtain ⟨h37, e38, hS⟩ := bn_s hS
            refine ev_putI pm284 i284_97 rfl rfl rfl e38 rfl ?_
            refine ev_kls (ls' := [.ref l0, .int s.2, .int s.2, unk]) pm284 i284_100 rfl rfl ?_
            refine ev_iinc (v := 1) (ls' := [.ref l0, .int s.2, .int (s.2 + (1 : Int32)), unk]) pm284 i284_100 rfl rfl (by decide) rfl rfl ?_
            refine ev_goto (t := 17) pm284 i284_103 rfl rfl ?_
            cases hS
            exact hK
          · rw [if_neg c696] at hS
            refine ev_icmp_lt_f (t := 93) pm284 i284_87 rfl c696 rfl rfl ?_
            refine ev_goto (t := 100) pm284 i284_90 rfl rfl ?_
            refine ev_kls (ls' := [.ref l0, .int s.1, .int s.2, unk]) pm284 i284_100 rfl rfl ?_
            refine ev_iinc (v := 1) (ls' := [.ref l0, .int s.1, .int (s.2 + (1 : Int32)), unk]) pm284 i284_100 rfl rfl (by decide) rfl rfl ?_
            refine ev_goto (t := 17) pm284 i284_103 rfl rfl ?_
            cases hS
            exact hK
      clear hS
      by_cases c694 : (x16 - x20) < x14
      · rw [if_pos c694] at I694
        refine ev_icmp_le_t (t := 64) pm284 i284_52 rfl c694 rfl rfl ?_
        refine ev_aload_n pm284 i284_55 rfl rfl rfl ?_
        obtain ⟨x22, e23, I694⟩ := bn_s I694
        refine ev_getR pm284 i284_56 rfl rfl rfl e23 rfl ?_
        refine ev_iload_n pm284 i284_59 rfl rfl rfl ?_
        obtain ⟨x24, e25, I694⟩ := bn_s I694
        refine ev_iald pm284 i284_60 rfl e25 rfl ?_
        refine ev_goto (t := 75) pm284 i284_61 rfl rfl ?_
        cases I694
        exact J1
      · rw [if_neg c694] at I694
        refine ev_icmp_le_f (t := 64) pm284 i284_52 rfl c694 rfl rfl ?_
        refine ev_aload_n pm284 i284_64 rfl rfl rfl ?_
        obtain ⟨x26, e27, I694⟩ := bn_s I694
        refine ev_getI pm284 i284_65 rfl rfl (by decide) e27 rfl ?_
        refine ev_aload_n pm284 i284_68 rfl rfl rfl ?_
        obtain ⟨x28, e29, I694⟩ := bn_s I694
        refine ev_getR pm284 i284_69 rfl rfl rfl e29 rfl ?_
        refine ev_iload_n pm284 i284_72 rfl rfl rfl ?_
        obtain ⟨x30, e31, I694⟩ := bn_s I694
        refine ev_iald pm284 i284_73 rfl e31 rfl ?_
        refine ev_b2 (f := fun x y => x - y) pm284 i284_74 rfl (fun _ _ _ _ => rfl) rfl ?_
        cases I694
        exact J1
    · rw [if_neg c693] at hS
      refine ev_if_le_f (t := 106) pm284 i284_32 rfl c693 rfl rfl ?_
      refine ev_kls (ls' := [unk, .int s.1, unk, unk]) pm284 i284_106 rfl rfl ?_
      cases hS
      exact hK
  · rw [if_neg c692] at hS
    refine ev_icmp_ge_f (t := 106) pm284 i284_25 rfl c692 rfl rfl ?_
    refine ev_kls (ls' := [unk, .int s.1, unk, unk]) pm284 i284_106 rfl rfl ?_
    cases hS
    exact hK
def F_md_toAsk (a0 : Nat) (h : Hp) : Option (Int32 × Hp) :=
  ck h a0 13 (bd (F_md_fitting a0 (-1 : Int32) h) fun x2 h3 =>
  bn (pI h3 a0 13 29 (-2 : Int32)) fun h4 =>
  bd (lp (B_md_toAsk_17 a0) FU ((-2 : Int32), (0 : Int32)) h4) fun x39 h41 =>
  some (x39, h41))
set_option maxRecDepth 20000 in
theorem K_md_toAsk {a0 : Nat} {h : Hp} {v : Int32} {h' : Hp} (hS : F_md_toAsk a0 h = some (v, h')) : kd h a0 = 13 := by
  unfold F_md_toAsk at hS
  exact (ck_s hS).1
set_option maxRecDepth 20000 in
theorem R_md_toAsk (d : Nat) (hd : 7 ≤ d) {a0 : Nat} {h : Hp} {v : Int32} {h' : Hp} (hS : F_md_toAsk a0 h = some (v, h')) : Ev P d 284 (0, [.ref a0, unk, unk, unk], [], h) (some (.int v), h') := by
  unfold F_md_toAsk at hS
  replace hS := (ck_s hS).2
  refine ev_aload_n pm284 i284_0 rfl rfl rfl ?_
  refine ev_iconst (v := -1) pm284 i284_1 rfl (by decide) rfl ?_
  obtain ⟨x2, h3, e1, hS⟩ := bd_s hS
  refine ev_callV (sa := [.int (-1 : Int32)]) (rest := []) (st' := [.int x2]) (ls0 := [.ref a0, .int (-1 : Int32), unk, unk, unk]) (rv := some (.int x2)) pm284 i284_2 rfl rfl pm278 (by decide) (K_md_fitting e1) rfl rfl (Nat.le_of_ble_eq_true rfl) (by omega) rfl (R_md_fitting (d - 1) (by omega) e1) (by simp) rfl rfl ?_
  refine ev_pop pm284 i284_5 rfl rfl rfl ?_
  refine ev_bipush (v := -2) pm284 i284_6 rfl (by decide) rfl ?_
  refine ev_istore_n (ls' := [.ref a0, .int (-2 : Int32), unk, unk]) pm284 i284_8 rfl (Nat.le_of_ble_eq_true rfl) rfl rfl ?_
  refine ev_aload_n pm284 i284_9 rfl rfl rfl ?_
  refine ev_bipush (v := -2) pm284 i284_10 rfl (by decide) rfl ?_
  obtain ⟨h4, e5, hS⟩ := bn_s hS
  refine ev_putI pm284 i284_12 rfl rfl rfl e5 rfl ?_
  refine ev_iconst (v := 0) pm284 i284_15 rfl (by decide) rfl ?_
  refine ev_istore_n (ls' := [.ref a0, .int (-2 : Int32), .int (0 : Int32), unk]) pm284 i284_16 rfl (Nat.le_of_ble_eq_true rfl) rfl rfl ?_
  obtain ⟨x39, h41, e40, hS⟩ := bd_s hS
  refine L_md_toAsk_17 d (by omega) _ _ _ _ _ e40 _ ?_
  show Ev P d 284 (106, [unk, .int x39, unk, unk], [], h41) _
  refine ev_iload_n pm284 i284_106 rfl rfl rfl ?_
  cases hS
  exact ev_ireturn pm284 i284_107 rfl rfl rfl
def F_md_ask (a0 : Nat) (h : Hp) : Option (Int32 × Hp) :=
  ck h a0 13 (bn (pI h a0 13 0 (0 : Int32)) fun h1 =>
  bn (gQ h1 a0 13 3) fun x3 =>
  if x3 = none then
    (bd (F_md_refused a0 (1 : Int32) h1) fun x6 h7 =>
    some (x6, h7))
  else
    (bd (F_md_toAsk a0 h1) fun x9 h10 =>
    bd (F_md_good a0 x9 h10) fun x12 h13 =>
    some (x12, h13)))
set_option maxRecDepth 20000 in
theorem K_md_ask {a0 : Nat} {h : Hp} {v : Int32} {h' : Hp} (hS : F_md_ask a0 h = some (v, h')) : kd h a0 = 13 := by
  unfold F_md_ask at hS
  exact (ck_s hS).1
set_option maxRecDepth 20000 in
theorem R_md_ask (d : Nat) (hd : 8 ≤ d) {a0 : Nat} {h : Hp} {v : Int32} {h' : Hp} (hS : F_md_ask a0 h = some (v, h')) : Ev P d 283 (0, [.ref a0], [], h) (some (.int v), h') := by
  unfold F_md_ask at hS
  replace hS := (ck_s hS).2
  refine ev_aload_n pm283 i283_0 rfl rfl rfl ?_
  refine ev_iconst (v := 0) pm283 i283_1 rfl (by decide) rfl ?_
  obtain ⟨h1, e2, hS⟩ := bn_s hS
  refine ev_putI pm283 i283_2 rfl rfl rfl e2 rfl ?_
  refine ev_aload_n pm283 i283_5 rfl rfl rfl ?_
  obtain ⟨x3, e4, hS⟩ := bn_s hS
  refine ev_getQ pm283 i283_6 rfl rfl rfl e4 rfl ?_
  by_cases c697 : x3 = none
  · rw [if_pos c697] at hS
    subst c697
    refine ev_nonnullF pm283 i283_9 rfl rfl ?_
    refine ev_aload_n pm283 i283_12 rfl rfl rfl ?_
    refine ev_iconst (v := 1) pm283 i283_13 rfl (by decide) rfl ?_
    obtain ⟨x6, h7, e5, hS⟩ := bd_s hS
    refine ev_callV (sa := [.int (1 : Int32)]) (rest := []) (st' := [.int x6]) (ls0 := [.ref a0, .int (1 : Int32)]) (rv := some (.int x6)) pm283 i283_14 rfl rfl pm186 (by decide) (K_md_refused e5) rfl rfl (Nat.le_of_ble_eq_true rfl) (by omega) rfl (R_md_refused (d - 1) (by omega) e5) (by simp) rfl rfl ?_
    refine ev_goto (t := 28) pm283 i283_17 rfl rfl ?_
    refine ev_kls (ls' := [unk]) pm283 i283_28 rfl rfl ?_
    cases hS
    exact ev_ireturn pm283 i283_28 rfl rfl rfl
  · rw [if_neg c697] at hS
    obtain ⟨_, rfl⟩ := Option.ne_none_iff_exists'.mp c697
    refine ev_nonnullT (t := 20) pm283 i283_9 rfl rfl ?_
    refine ev_aload_n pm283 i283_20 rfl rfl rfl ?_
    refine ev_aload_n pm283 i283_21 rfl rfl rfl ?_
    obtain ⟨x9, h10, e8, hS⟩ := bd_s hS
    refine ev_callV (sa := []) (rest := [.ref a0]) (st' := [.int x9, .ref a0]) (ls0 := [.ref a0, unk, unk, unk]) (rv := some (.int x9)) pm283 i283_22 rfl rfl pm284 (by decide) (K_md_toAsk e8) rfl rfl (Nat.le_of_ble_eq_true rfl) (by omega) rfl (R_md_toAsk (d - 1) (by omega) e8) (by simp) rfl rfl ?_
    obtain ⟨x12, h13, e11, hS⟩ := bd_s hS
    refine ev_callV (sa := [.int x9]) (rest := []) (st' := [.int x12]) (ls0 := [.ref a0, .int x9]) (rv := some (.int x12)) pm283 i283_25 rfl rfl pm224 (by decide) (K_md_good e11) rfl rfl (Nat.le_of_ble_eq_true rfl) (by omega) rfl (R_md_good (d - 1) (by omega) e11) (by simp) rfl rfl ?_
    refine ev_kls (ls' := [unk]) pm283 i283_28 rfl rfl ?_
    cases hS
    exact ev_ireturn pm283 i283_28 rfl rfl rfl
def F_md_askLeaves (a0 : Nat) (h : Hp) : Option (Int32 × Hp) :=
  ck h a0 13 (bn (pI h a0 13 0 (0 : Int32)) fun h1 =>
  bn (gQ h1 a0 13 3) fun x3 =>
  if x3 = none then
    (bd (F_md_refused a0 (1 : Int32) h1) fun x6 h7 =>
    some (x6, h7))
  else
    (bd (F_md_toAsk a0 h1) fun x9 h10 =>
    bn (gI h10 a0 13 29) fun x11 =>
    bd (F_md_good a0 x11 h10) fun x14 h15 =>
    some (x14, h15)))
set_option maxRecDepth 20000 in
theorem K_md_askLeaves {a0 : Nat} {h : Hp} {v : Int32} {h' : Hp} (hS : F_md_askLeaves a0 h = some (v, h')) : kd h a0 = 13 := by
  unfold F_md_askLeaves at hS
  exact (ck_s hS).1
set_option maxRecDepth 20000 in
theorem R_md_askLeaves (d : Nat) (hd : 8 ≤ d) {a0 : Nat} {h : Hp} {v : Int32} {h' : Hp} (hS : F_md_askLeaves a0 h = some (v, h')) : Ev P d 285 (0, [.ref a0], [], h) (some (.int v), h') := by
  unfold F_md_askLeaves at hS
  replace hS := (ck_s hS).2
  refine ev_aload_n pm285 i285_0 rfl rfl rfl ?_
  refine ev_iconst (v := 0) pm285 i285_1 rfl (by decide) rfl ?_
  obtain ⟨h1, e2, hS⟩ := bn_s hS
  refine ev_putI pm285 i285_2 rfl rfl rfl e2 rfl ?_
  refine ev_aload_n pm285 i285_5 rfl rfl rfl ?_
  obtain ⟨x3, e4, hS⟩ := bn_s hS
  refine ev_getQ pm285 i285_6 rfl rfl rfl e4 rfl ?_
  by_cases c698 : x3 = none
  · rw [if_pos c698] at hS
    subst c698
    refine ev_nonnullF pm285 i285_9 rfl rfl ?_
    refine ev_aload_n pm285 i285_12 rfl rfl rfl ?_
    refine ev_iconst (v := 1) pm285 i285_13 rfl (by decide) rfl ?_
    obtain ⟨x6, h7, e5, hS⟩ := bd_s hS
    refine ev_callV (sa := [.int (1 : Int32)]) (rest := []) (st' := [.int x6]) (ls0 := [.ref a0, .int (1 : Int32)]) (rv := some (.int x6)) pm285 i285_14 rfl rfl pm186 (by decide) (K_md_refused e5) rfl rfl (Nat.le_of_ble_eq_true rfl) (by omega) rfl (R_md_refused (d - 1) (by omega) e5) (by simp) rfl rfl ?_
    cases hS
    exact ev_ireturn pm285 i285_17 rfl rfl rfl
  · rw [if_neg c698] at hS
    obtain ⟨_, rfl⟩ := Option.ne_none_iff_exists'.mp c698
    refine ev_nonnullT (t := 18) pm285 i285_9 rfl rfl ?_
    refine ev_aload_n pm285 i285_18 rfl rfl rfl ?_
    obtain ⟨x9, h10, e8, hS⟩ := bd_s hS
    refine ev_callV (sa := []) (rest := []) (st' := [.int x9]) (ls0 := [.ref a0, unk, unk, unk]) (rv := some (.int x9)) pm285 i285_19 rfl rfl pm284 (by decide) (K_md_toAsk e8) rfl rfl (Nat.le_of_ble_eq_true rfl) (by omega) rfl (R_md_toAsk (d - 1) (by omega) e8) (by simp) rfl rfl ?_
    refine ev_pop pm285 i285_22 rfl rfl rfl ?_
    refine ev_aload_n pm285 i285_23 rfl rfl rfl ?_
    refine ev_aload_n pm285 i285_24 rfl rfl rfl ?_
    obtain ⟨x11, e12, hS⟩ := bn_s hS
    refine ev_getI pm285 i285_25 rfl rfl (by decide) e12 rfl ?_
    obtain ⟨x14, h15, e13, hS⟩ := bd_s hS
    refine ev_callV (sa := [.int x11]) (rest := []) (st' := [.int x14]) (ls0 := [.ref a0, .int x11]) (rv := some (.int x14)) pm285 i285_28 rfl rfl pm224 (by decide) (K_md_good e13) rfl rfl (Nat.le_of_ble_eq_true rfl) (by omega) rfl (R_md_good (d - 1) (by omega) e13) (by simp) rfl rfl ?_
    cases hS
    exact ev_ireturn pm285 i285_31 rfl rfl rfl
def F_md_judge (a0 : Nat) (h : Hp) : Option (Int32 × Hp) :=
  ck h a0 13 (bn (pI h a0 13 0 (0 : Int32)) fun h1 =>
  bn (gQ h1 a0 13 3) fun x3 =>
  if x3 = none then
    (bd (F_md_refused a0 (1 : Int32) h1) fun x6 h7 =>
    some (x6, h7))
  else
    (bd (F_md_wrong a0 (0 : Int32) h1) fun x9 h10 =>
    bd (F_md_good a0 x9 h10) fun x12 h13 =>
    some (x12, h13)))
set_option maxRecDepth 20000 in
theorem K_md_judge {a0 : Nat} {h : Hp} {v : Int32} {h' : Hp} (hS : F_md_judge a0 h = some (v, h')) : kd h a0 = 13 := by
  unfold F_md_judge at hS
  exact (ck_s hS).1
set_option maxRecDepth 20000 in
theorem R_md_judge (d : Nat) (hd : 6 ≤ d) {a0 : Nat} {h : Hp} {v : Int32} {h' : Hp} (hS : F_md_judge a0 h = some (v, h')) : Ev P d 286 (0, [.ref a0], [], h) (some (.int v), h') := by
  unfold F_md_judge at hS
  replace hS := (ck_s hS).2
  refine ev_aload_n pm286 i286_0 rfl rfl rfl ?_
  refine ev_iconst (v := 0) pm286 i286_1 rfl (by decide) rfl ?_
  obtain ⟨h1, e2, hS⟩ := bn_s hS
  refine ev_putI pm286 i286_2 rfl rfl rfl e2 rfl ?_
  refine ev_aload_n pm286 i286_5 rfl rfl rfl ?_
  obtain ⟨x3, e4, hS⟩ := bn_s hS
  refine ev_getQ pm286 i286_6 rfl rfl rfl e4 rfl ?_
  by_cases c699 : x3 = none
  · rw [if_pos c699] at hS
    subst c699
    refine ev_nonnullF pm286 i286_9 rfl rfl ?_
    refine ev_aload_n pm286 i286_12 rfl rfl rfl ?_
    refine ev_iconst (v := 1) pm286 i286_13 rfl (by decide) rfl ?_
    obtain ⟨x6, h7, e5, hS⟩ := bd_s hS
    refine ev_callV (sa := [.int (1 : Int32)]) (rest := []) (st' := [.int x6]) (ls0 := [.ref a0, .int (1 : Int32)]) (rv := some (.int x6)) pm286 i286_14 rfl rfl pm186 (by decide) (K_md_refused e5) rfl rfl (Nat.le_of_ble_eq_true rfl) (by omega) rfl (R_md_refused (d - 1) (by omega) e5) (by simp) rfl rfl ?_
    refine ev_goto (t := 29) pm286 i286_17 rfl rfl ?_
    refine ev_kls (ls' := [unk]) pm286 i286_29 rfl rfl ?_
    cases hS
    exact ev_ireturn pm286 i286_29 rfl rfl rfl
  · rw [if_neg c699] at hS
    obtain ⟨_, rfl⟩ := Option.ne_none_iff_exists'.mp c699
    refine ev_nonnullT (t := 20) pm286 i286_9 rfl rfl ?_
    refine ev_aload_n pm286 i286_20 rfl rfl rfl ?_
    refine ev_aload_n pm286 i286_21 rfl rfl rfl ?_
    refine ev_iconst (v := 0) pm286 i286_22 rfl (by decide) rfl ?_
    obtain ⟨x9, h10, e8, hS⟩ := bd_s hS
    refine ev_callV (sa := [.int (0 : Int32)]) (rest := [.ref a0]) (st' := [.int x9, .ref a0]) (ls0 := [.ref a0, .int (0 : Int32), unk]) (rv := some (.int x9)) pm286 i286_23 rfl rfl pm279 (by decide) (K_md_wrong e8) rfl rfl (Nat.le_of_ble_eq_true rfl) (by omega) rfl (R_md_wrong (d - 1) (by omega) e8) (by simp) rfl rfl ?_
    obtain ⟨x12, h13, e11, hS⟩ := bd_s hS
    refine ev_callV (sa := [.int x9]) (rest := []) (st' := [.int x12]) (ls0 := [.ref a0, .int x9]) (rv := some (.int x12)) pm286 i286_26 rfl rfl pm224 (by decide) (K_md_good e11) rfl rfl (Nat.le_of_ble_eq_true rfl) (by omega) rfl (R_md_good (d - 1) (by omega) e11) (by simp) rfl rfl ?_
    refine ev_kls (ls' := [unk]) pm286 i286_29 rfl rfl ?_
    cases hS
    exact ev_ireturn pm286 i286_29 rfl rfl rfl
def F_md_choices (a0 : Nat) (a1 : Int32) (h : Hp) : Option Int32 :=
  ck h a0 13 (bn (rm32 a1 (2 : Int32)) fun x1 =>
  if x1 = (0 : Int32) then
    (bn (gR h a0 13 3) fun x3 =>
    bn (gI h x3 12 2) fun x5 =>
    some (x5 + (1 : Int32)))
  else
    (bn (gR h a0 13 3) fun x7 =>
    bn (gI h x7 12 1) fun x9 =>
    some x9))
set_option maxRecDepth 20000 in
theorem K_md_choices {a0 : Nat} {a1 : Int32} {h : Hp} {v : Int32} (hS : F_md_choices a0 a1 h = some v) : kd h a0 = 13 := by
  unfold F_md_choices at hS
  exact (ck_s hS).1
set_option maxRecDepth 20000 in
theorem R_md_choices (d : Nat) (hd : 0 ≤ d) {a0 : Nat} {a1 : Int32} {h : Hp} {v : Int32} (hS : F_md_choices a0 a1 h = some v) : Ev P d 290 (0, [.ref a0, .int a1], [], h) (some (.int v), h) := by
  unfold F_md_choices at hS
  replace hS := (ck_s hS).2
  refine ev_iload_n pm290 i290_0 rfl rfl rfl ?_
  refine ev_iconst (v := 2) pm290 i290_1 rfl (by decide) rfl ?_
  obtain ⟨x1, e2, hS⟩ := bn_s hS
  refine ev_irem pm290 i290_2 rfl e2 rfl ?_
  by_cases c700 : x1 = (0 : Int32)
  · rw [if_pos c700] at hS
    refine ev_if_ne_t (t := 18) pm290 i290_3 rfl c700 rfl rfl ?_
    refine ev_aload_n pm290 i290_6 rfl rfl rfl ?_
    obtain ⟨x3, e4, hS⟩ := bn_s hS
    refine ev_getR pm290 i290_7 rfl rfl rfl e4 rfl ?_
    obtain ⟨x5, e6, hS⟩ := bn_s hS
    refine ev_getI pm290 i290_10 rfl rfl (by decide) e6 rfl ?_
    refine ev_iconst (v := 1) pm290 i290_13 rfl (by decide) rfl ?_
    refine ev_b2 (f := fun x y => x + y) pm290 i290_14 rfl (fun _ _ _ _ => rfl) rfl ?_
    refine ev_goto (t := 25) pm290 i290_15 rfl rfl ?_
    refine ev_kls (ls' := [unk, unk]) pm290 i290_25 rfl rfl ?_
    cases hS
    exact ev_ireturn pm290 i290_25 rfl rfl rfl
  · rw [if_neg c700] at hS
    refine ev_if_ne_f (t := 18) pm290 i290_3 rfl c700 rfl rfl ?_
    refine ev_aload_n pm290 i290_18 rfl rfl rfl ?_
    obtain ⟨x7, e8, hS⟩ := bn_s hS
    refine ev_getR pm290 i290_19 rfl rfl rfl e8 rfl ?_
    obtain ⟨x9, e10, hS⟩ := bn_s hS
    refine ev_getI pm290 i290_22 rfl rfl (by decide) e10 rfl ?_
    refine ev_kls (ls' := [unk, unk]) pm290 i290_25 rfl rfl ?_
    cases hS
    exact ev_ireturn pm290 i290_25 rfl rfl rfl
def B_md_afloat_6 (l0 : Nat) (l1 : Int32) (s : Int32) (h : Hp) : Option (((Int32) ⊕ (Unit)) × Hp) :=
  if s < l1 then
    (bn (rm32 s (2 : Int32)) fun x3 =>
    if x3 = (1 : Int32) then
      (bn (gR h l0 13 16) fun x5 =>
      bn (gR h l0 13 31) fun x7 =>
      bn (aI h 100 x7 s) fun x9 =>
      bn (F_md_cell x9 (3 : Int32)) fun x12 =>
      bn (aI h 100 x5 x12) fun x13 =>
      bn (sI h 100 x5 x12 (x13 + (1 : Int32))) fun h15 =>
      some (.inl (s + (1 : Int32)), h15))
    else
      (bn (gR h l0 13 31) fun x17 =>
      bn (aI h 100 x17 s) fun x19 =>
      if (0 : Int32) < x19 then
        (bn (gR h l0 13 16) fun x21 =>
        bn (aI h 100 x21 (28 : Int32)) fun x23 =>
        bn (gR h l0 13 31) fun x25 =>
        bn (aI h 100 x25 s) fun x27 =>
        bn (sI h 100 x21 (28 : Int32) (x23 ||| ((1 : Int32) <<< ((x27 - (1 : Int32)) &&& 31)))) fun h29 =>
        some (.inl (s + (1 : Int32)), h29))
      else
        (some (.inl (s + (1 : Int32)), h))))
  else
    (some (.inr (), h))
set_option maxRecDepth 20000 in
theorem L_md_afloat_6 (d : Nat) (hd : 6 ≤ d) {l0 : Nat} {l1 : Int32} : ∀ (n : Nat) (s : Int32) (h : Hp) (x : Unit) (hx : Hp), lp (B_md_afloat_6 l0 l1) n s h = some (x, hx) → ∀ r, Ev P d 291 (75, [.ref l0, unk, unk], [], hx) r → Ev P d 291 (6, [.ref l0, .int l1, .int s], [], h) r := by
  refine lp_ev (G0 := fun (s : Int32) h r => Ev P d 291 (6, [.ref l0, .int l1, .int s], [], h) r) (X := fun (x : Unit) hx r => Ev P d 291 (75, [.ref l0, unk, unk], [], hx) r) ?_
  intro s h y h9 hS r hK
  unfold B_md_afloat_6 at hS
  show Ev P d 291 (6, [.ref l0, .int l1, .int s], [], h) r
  refine ev_iload_n pm291 i291_6 rfl rfl rfl ?_
  refine ev_iload_n pm291 i291_7 rfl rfl rfl ?_
  by_cases c701 : s < l1
  · rw [if_pos c701] at hS
    refine ev_icmp_ge_t (t := 75) pm291 i291_8 rfl c701 rfl rfl ?_
    refine ev_iload_n pm291 i291_11 rfl rfl rfl ?_
    refine ev_iconst (v := 2) pm291 i291_12 rfl (by decide) rfl ?_
    obtain ⟨x3, e4, hS⟩ := bn_s hS
    refine ev_irem pm291 i291_13 rfl e4 rfl ?_
    refine ev_iconst (v := 1) pm291 i291_14 rfl (by decide) rfl ?_
    by_cases c702 : x3 = (1 : Int32)
    · rw [if_pos c702] at hS
      refine ev_icmp_ne_t (t := 40) pm291 i291_15 rfl c702 rfl rfl ?_
      refine ev_aload_n pm291 i291_18 rfl rfl rfl ?_
      obtain ⟨x5, e6, hS⟩ := bn_s hS
      refine ev_getR pm291 i291_19 rfl rfl rfl e6 rfl ?_
      refine ev_aload_n pm291 i291_22 rfl rfl rfl ?_
      obtain ⟨x7, e8, hS⟩ := bn_s hS
      refine ev_getR pm291 i291_23 rfl rfl rfl e8 rfl ?_
      refine ev_iload_n pm291 i291_26 rfl rfl rfl ?_
      obtain ⟨x9, e10, hS⟩ := bn_s hS
      refine ev_iald pm291 i291_27 rfl e10 rfl ?_
      refine ev_iconst (v := 3) pm291 i291_28 rfl (by decide) rfl ?_
      obtain ⟨x12, e11, hS⟩ := bn_s hS
      refine ev_callS (sa := [.int (3 : Int32), .int x9]) (rest := [.ref x5]) (st' := [.int x12, .ref x5]) (ls0 := [.int x9, .int (3 : Int32)]) (rv := some (.int x12)) pm291 i291_29 rfl rfl pm223 (by decide) rfl rfl (Nat.le_of_ble_eq_true rfl) (by omega) rfl (R_md_cell (d - 1) (by omega) e11) (by simp) rfl rfl ?_
      refine ev_dup2 pm291 i291_32 rfl ⟨rfl, rfl⟩ rfl ?_
      obtain ⟨x13, e14, hS⟩ := bn_s hS
      refine ev_iald pm291 i291_33 rfl e14 rfl ?_
      refine ev_iconst (v := 1) pm291 i291_34 rfl (by decide) rfl ?_
      refine ev_b2 (f := fun x y => x + y) pm291 i291_35 rfl (fun _ _ _ _ => rfl) rfl ?_
      obtain ⟨h15, e16, hS⟩ := bn_s hS
      refine ev_iast pm291 i291_36 rfl e16 rfl ?_
      refine ev_goto (t := 69) pm291 i291_37 rfl rfl ?_
      refine ev_iinc (v := 1) (ls' := [.ref l0, .int l1, .int (s + (1 : Int32))]) pm291 i291_69 rfl rfl (by decide) rfl rfl ?_
      refine ev_goto (t := 6) pm291 i291_72 rfl rfl ?_
      cases hS
      exact hK
    · rw [if_neg c702] at hS
      refine ev_icmp_ne_f (t := 40) pm291 i291_15 rfl c702 rfl rfl ?_
      refine ev_aload_n pm291 i291_40 rfl rfl rfl ?_
      obtain ⟨x17, e18, hS⟩ := bn_s hS
      refine ev_getR pm291 i291_41 rfl rfl rfl e18 rfl ?_
      refine ev_iload_n pm291 i291_44 rfl rfl rfl ?_
      obtain ⟨x19, e20, hS⟩ := bn_s hS
      refine ev_iald pm291 i291_45 rfl e20 rfl ?_
      by_cases c703 : (0 : Int32) < x19
      · rw [if_pos c703] at hS
        refine ev_if_le_t (t := 69) pm291 i291_46 rfl c703 rfl rfl ?_
        refine ev_aload_n pm291 i291_49 rfl rfl rfl ?_
        obtain ⟨x21, e22, hS⟩ := bn_s hS
        refine ev_getR pm291 i291_50 rfl rfl rfl e22 rfl ?_
        refine ev_bipush (v := 28) pm291 i291_53 rfl (by decide) rfl ?_
        refine ev_dup2 pm291 i291_55 rfl ⟨rfl, rfl⟩ rfl ?_
        obtain ⟨x23, e24, hS⟩ := bn_s hS
        refine ev_iald pm291 i291_56 rfl e24 rfl ?_
        refine ev_iconst (v := 1) pm291 i291_57 rfl (by decide) rfl ?_
        refine ev_aload_n pm291 i291_58 rfl rfl rfl ?_
        obtain ⟨x25, e26, hS⟩ := bn_s hS
        refine ev_getR pm291 i291_59 rfl rfl rfl e26 rfl ?_
        refine ev_iload_n pm291 i291_62 rfl rfl rfl ?_
        obtain ⟨x27, e28, hS⟩ := bn_s hS
        refine ev_iald pm291 i291_63 rfl e28 rfl ?_
        refine ev_iconst (v := 1) pm291 i291_64 rfl (by decide) rfl ?_
        refine ev_b2 (f := fun x y => x - y) pm291 i291_65 rfl (fun _ _ _ _ => rfl) rfl ?_
        refine ev_b2 (f := fun x y => x <<< (y &&& 31)) pm291 i291_66 rfl (fun _ _ _ _ => rfl) rfl ?_
        refine ev_b2 (f := fun x y => x ||| y) pm291 i291_67 rfl (fun _ _ _ _ => rfl) rfl ?_
        obtain ⟨h29, e30, hS⟩ := bn_s hS
        refine ev_iast pm291 i291_68 rfl e30 rfl ?_
        refine ev_iinc (v := 1) (ls' := [.ref l0, .int l1, .int (s + (1 : Int32))]) pm291 i291_69 rfl rfl (by decide) rfl rfl ?_
        refine ev_goto (t := 6) pm291 i291_72 rfl rfl ?_
        cases hS
        exact hK
      · rw [if_neg c703] at hS
        refine ev_if_le_f (t := 69) pm291 i291_46 rfl c703 rfl rfl ?_
        refine ev_iinc (v := 1) (ls' := [.ref l0, .int l1, .int (s + (1 : Int32))]) pm291 i291_69 rfl rfl (by decide) rfl rfl ?_
        refine ev_goto (t := 6) pm291 i291_72 rfl rfl ?_
        cases hS
        exact hK
  · rw [if_neg c701] at hS
    refine ev_icmp_ge_f (t := 75) pm291 i291_8 rfl c701 rfl rfl ?_
    refine ev_kls (ls' := [.ref l0, unk, unk]) pm291 i291_75 rfl rfl ?_
    cases hS
    exact hK
def F_md_afloat (a0 : Nat) (a1 : Int32) (h : Hp) : Option (Int32 × Hp) :=
  ck h a0 13 (bn (F_md_works a0 h) fun h2 =>
  bd (lp (B_md_afloat_6 a0 a1) FU (0 : Int32) h2) fun x31 h33 =>
  bn (gR h33 a0 13 3) fun x34 =>
  bn (gI h33 x34 12 1) fun x36 =>
  bn (F_md_underNow a0 h33) fun x39 =>
  bn (F_md_bits x39) fun x41 =>
  some (x36 - x41, h33))
set_option maxRecDepth 20000 in
theorem K_md_afloat {a0 : Nat} {a1 : Int32} {h : Hp} {v : Int32} {h' : Hp} (hS : F_md_afloat a0 a1 h = some (v, h')) : kd h a0 = 13 := by
  unfold F_md_afloat at hS
  exact (ck_s hS).1
set_option maxRecDepth 20000 in
theorem R_md_afloat (d : Nat) (hd : 6 ≤ d) {a0 : Nat} {a1 : Int32} {h : Hp} {v : Int32} {h' : Hp} (hS : F_md_afloat a0 a1 h = some (v, h')) : Ev P d 291 (0, [.ref a0, .int a1, unk], [], h) (some (.int v), h') := by
  unfold F_md_afloat at hS
  replace hS := (ck_s hS).2
  refine ev_aload_n pm291 i291_0 rfl rfl rfl ?_
  obtain ⟨h2, e1, hS⟩ := bn_s hS
  refine ev_callV (sa := []) (rest := []) (st' := []) (ls0 := [.ref a0, unk]) (rv := none) pm291 i291_1 rfl rfl pm229 (by decide) (K_md_works e1) rfl rfl (Nat.le_of_ble_eq_true rfl) (by omega) rfl (R_md_works (d - 1) (by omega) e1) (by simp) rfl rfl ?_
  refine ev_iconst (v := 0) pm291 i291_4 rfl (by decide) rfl ?_
  refine ev_istore_n (ls' := [.ref a0, .int a1, .int (0 : Int32)]) pm291 i291_5 rfl (Nat.le_of_ble_eq_true rfl) rfl rfl ?_
  obtain ⟨x31, h33, e32, hS⟩ := bd_s hS
  refine L_md_afloat_6 d (by omega) _ _ _ _ _ e32 _ ?_
  show Ev P d 291 (75, [.ref a0, unk, unk], [], h33) _
  refine ev_aload_n pm291 i291_75 rfl rfl rfl ?_
  obtain ⟨x34, e35, hS⟩ := bn_s hS
  refine ev_getR pm291 i291_76 rfl rfl rfl e35 rfl ?_
  obtain ⟨x36, e37, hS⟩ := bn_s hS
  refine ev_getI pm291 i291_79 rfl rfl (by decide) e37 rfl ?_
  refine ev_aload_n pm291 i291_82 rfl rfl rfl ?_
  obtain ⟨x39, e38, hS⟩ := bn_s hS
  refine ev_callV (sa := []) (rest := [.int x36]) (st' := [.int x39, .int x36]) (ls0 := [.ref a0, unk, unk]) (rv := some (.int x39)) pm291 i291_83 rfl rfl pm246 (by decide) (K_md_underNow e38) rfl rfl (Nat.le_of_ble_eq_true rfl) (by omega) rfl (R_md_underNow (d - 1) (by omega) e38) (by simp) rfl rfl ?_
  obtain ⟨x41, e40, hS⟩ := bn_s hS
  refine ev_callS (sa := [.int x39]) (rest := [.int x36]) (st' := [.int x41, .int x36]) (ls0 := [.int x39, unk, unk]) (rv := some (.int x41)) pm291 i291_86 rfl rfl pm237 (by decide) rfl rfl (Nat.le_of_ble_eq_true rfl) (by omega) rfl (R_md_bits (d - 1) (by omega) e40) (by simp) rfl rfl ?_
  refine ev_b2 (f := fun x y => x - y) pm291 i291_89 rfl (fun _ _ _ _ => rfl) rfl ?_
  cases hS
  exact ev_ireturn pm291 i291_90 rfl rfl rfl
def B_md_argues_4 (l0 : Nat) (l1 : Int32) (h : Hp) (s : Int32 × Int32) : Option ((Int32 × Int32) ⊕ (Int32)) :=
  if s.2 < l1 then
    (bn (F_md_choices l0 s.2 h) fun x2 =>
    some (.inl (s.1 * x2, s.2 + (1 : Int32))))
  else
    (some (.inr s.1))
set_option maxRecDepth 20000 in
theorem L_md_argues_4 (d : Nat) (hd : 7 ≤ d) {l0 : Nat} {l1 : Int32} {h : Hp} : ∀ (n : Nat) (s : Int32 × Int32) (x : Int32), lq (B_md_argues_4 l0 l1 h) n s = some x → ∀ r, Ev P d 289 (23, [.ref l0, .int l1, .int x, unk, unk, unk, unk, unk], [], h) r → Ev P d 289 (4, [.ref l0, .int l1, .int s.1, .int s.2, unk, unk, unk, unk], [], h) r := by
  refine lq_ev (G0 := fun (s : Int32 × Int32) r => Ev P d 289 (4, [.ref l0, .int l1, .int s.1, .int s.2, unk, unk, unk, unk], [], h) r) (X := fun (x : Int32) r => Ev P d 289 (23, [.ref l0, .int l1, .int x, unk, unk, unk, unk, unk], [], h) r) ?_
  intro s y hS r hK
  unfold B_md_argues_4 at hS
  show Ev P d 289 (4, [.ref l0, .int l1, .int s.1, .int s.2, unk, unk, unk, unk], [], h) r
  refine ev_iload_n pm289 i289_4 rfl rfl rfl ?_
  refine ev_iload_n pm289 i289_5 rfl rfl rfl ?_
  by_cases c704 : s.2 < l1
  · rw [if_pos c704] at hS
    refine ev_icmp_ge_t (t := 23) pm289 i289_6 rfl c704 rfl rfl ?_
    refine ev_iload_n pm289 i289_9 rfl rfl rfl ?_
    refine ev_aload_n pm289 i289_10 rfl rfl rfl ?_
    refine ev_iload_n pm289 i289_11 rfl rfl rfl ?_
    obtain ⟨x2, e1, hS⟩ := bn_s hS
    refine ev_callV (sa := [.int s.2]) (rest := [.int s.1]) (st' := [.int x2, .int s.1]) (ls0 := [.ref l0, .int s.2]) (rv := some (.int x2)) pm289 i289_12 rfl rfl pm290 (by decide) (K_md_choices e1) rfl rfl (Nat.le_of_ble_eq_true rfl) (by omega) rfl (R_md_choices (d - 1) (by omega) e1) (by simp) rfl rfl ?_
    refine ev_b2 (f := fun x y => x * y) pm289 i289_15 rfl (fun _ _ _ _ => rfl) rfl ?_
    refine ev_istore_n (ls' := [.ref l0, .int l1, .int (s.1 * x2), .int s.2, unk, unk, unk, unk]) pm289 i289_16 rfl (Nat.le_of_ble_eq_true rfl) rfl rfl ?_
    refine ev_iinc (v := 1) (ls' := [.ref l0, .int l1, .int (s.1 * x2), .int (s.2 + (1 : Int32)), unk, unk, unk, unk]) pm289 i289_17 rfl rfl (by decide) rfl rfl ?_
    refine ev_goto (t := 4) pm289 i289_20 rfl rfl ?_
    cases hS
    exact hK
  · rw [if_neg c704] at hS
    refine ev_icmp_ge_f (t := 23) pm289 i289_6 rfl c704 rfl rfl ?_
    refine ev_kls (ls' := [.ref l0, .int l1, .int s.1, unk, unk, unk, unk, unk]) pm289 i289_23 rfl rfl ?_
    cases hS
    exact hK
def B_md_argues_38 (l0 : Nat) (l1 : Int32) (l2 : Int32) (l3 : Int32) (s : Int32 × Int32) (h : Hp) : Option (((Int32 × Int32) ⊕ (Unit)) × Hp) :=
  if s.2 < (0 : Int32) then
    (some (.inr (), h))
  else
    (bn (gR h l0 13 31) fun x5 =>
    bn (F_md_choices l0 s.2 h) fun x8 =>
    bn (rm32 s.1 x8) fun x9 =>
    bn (sI h 100 x5 s.2 x9) fun h11 =>
    bn (F_md_choices l0 s.2 h11) fun x14 =>
    bn (dv s.1 x14) fun x15 =>
    some (.inl (x15, s.2 + (-1 : Int32)), h11))
set_option maxRecDepth 20000 in
theorem L_md_argues_38 (d : Nat) (hd : 7 ≤ d) {l0 : Nat} {l1 : Int32} {l2 : Int32} {l3 : Int32} : ∀ (n : Nat) (s : Int32 × Int32) (h : Hp) (x : Unit) (hx : Hp), lp (B_md_argues_38 l0 l1 l2 l3) n s h = some (x, hx) → ∀ r, Ev P d 289 (76, [.ref l0, .int l1, .int l2, .int l3, unk, unk, unk, unk], [], hx) r → Ev P d 289 (38, [.ref l0, .int l1, .int l2, .int l3, .int s.1, .int s.2, unk, unk], [], h) r := by
  refine lp_ev (G0 := fun (s : Int32 × Int32) h r => Ev P d 289 (38, [.ref l0, .int l1, .int l2, .int l3, .int s.1, .int s.2, unk, unk], [], h) r) (X := fun (x : Unit) hx r => Ev P d 289 (76, [.ref l0, .int l1, .int l2, .int l3, unk, unk, unk, unk], [], hx) r) ?_
  intro s h y h9 hS r hK
  unfold B_md_argues_38 at hS
  show Ev P d 289 (38, [.ref l0, .int l1, .int l2, .int l3, .int s.1, .int s.2, unk, unk], [], h) r
  refine ev_iload pm289 i289_38 rfl rfl rfl ?_
  by_cases c705 : s.2 < (0 : Int32)
  · rw [if_pos c705] at hS
    refine ev_if_lt_t (t := 76) pm289 i289_40 rfl c705 rfl rfl ?_
    refine ev_kls (ls' := [.ref l0, .int l1, .int l2, .int l3, unk, unk, unk, unk]) pm289 i289_76 rfl rfl ?_
    cases hS
    exact hK
  · rw [if_neg c705] at hS
    refine ev_if_lt_f (t := 76) pm289 i289_40 rfl c705 rfl rfl ?_
    refine ev_aload_n pm289 i289_43 rfl rfl rfl ?_
    obtain ⟨x5, e6, hS⟩ := bn_s hS
    refine ev_getR pm289 i289_44 rfl rfl rfl e6 rfl ?_
    refine ev_iload pm289 i289_47 rfl rfl rfl ?_
    refine ev_iload pm289 i289_49 rfl rfl rfl ?_
    refine ev_aload_n pm289 i289_51 rfl rfl rfl ?_
    refine ev_iload pm289 i289_52 rfl rfl rfl ?_
    obtain ⟨x8, e7, hS⟩ := bn_s hS
    refine ev_callV (sa := [.int s.2]) (rest := [.int s.1, .int s.2, .ref x5]) (st' := [.int x8, .int s.1, .int s.2, .ref x5]) (ls0 := [.ref l0, .int s.2]) (rv := some (.int x8)) pm289 i289_54 rfl rfl pm290 (by decide) (K_md_choices e7) rfl rfl (Nat.le_of_ble_eq_true rfl) (by omega) rfl (R_md_choices (d - 1) (by omega) e7) (by simp) rfl rfl ?_
    obtain ⟨x9, e10, hS⟩ := bn_s hS
    refine ev_irem pm289 i289_57 rfl e10 rfl ?_
    obtain ⟨h11, e12, hS⟩ := bn_s hS
    refine ev_iast pm289 i289_58 rfl e12 rfl ?_
    refine ev_iload pm289 i289_59 rfl rfl rfl ?_
    refine ev_aload_n pm289 i289_61 rfl rfl rfl ?_
    refine ev_iload pm289 i289_62 rfl rfl rfl ?_
    obtain ⟨x14, e13, hS⟩ := bn_s hS
    refine ev_callV (sa := [.int s.2]) (rest := [.int s.1]) (st' := [.int x14, .int s.1]) (ls0 := [.ref l0, .int s.2]) (rv := some (.int x14)) pm289 i289_64 rfl rfl pm290 (by decide) (K_md_choices e13) rfl rfl (Nat.le_of_ble_eq_true rfl) (by omega) rfl (R_md_choices (d - 1) (by omega) e13) (by simp) rfl rfl ?_
    obtain ⟨x15, e16, hS⟩ := bn_s hS
    refine ev_idiv pm289 i289_67 rfl e16 rfl ?_
    refine ev_istore (ls' := [.ref l0, .int l1, .int l2, .int l3, .int x15, .int s.2, unk, unk]) pm289 i289_68 rfl (Nat.le_of_ble_eq_true rfl) rfl rfl ?_
    refine ev_iinc (v := -1) (ls' := [.ref l0, .int l1, .int l2, .int l3, .int x15, .int (s.2 + (-1 : Int32)), unk, unk]) pm289 i289_70 rfl rfl (by decide) rfl rfl ?_
    refine ev_goto (t := 38) pm289 i289_73 rfl rfl ?_
    cases hS
    exact hK
def B_md_argues_25 (l0 : Nat) (l1 : Int32) (l2 : Int32) (s : Int32) (h : Hp) : Option (((Int32) ⊕ (Unit)) × Hp) :=
  if s < l2 then
    (bd (lp (B_md_argues_38 l0 l1 l2 s) FU (s, l1 - (1 : Int32)) h) fun x17 h19 =>
    bn (gR h19 l0 13 30) fun x20 =>
    bd (F_md_afloat l0 l1 h19) fun x23 h24 =>
    bn (sI h24 100 x20 s x23) fun h25 =>
    some (.inl (s + (1 : Int32)), h25))
  else
    (some (.inr (), h))
set_option maxRecDepth 20000 in
theorem L_md_argues_25 (d : Nat) (hd : 7 ≤ d) {l0 : Nat} {l1 : Int32} {l2 : Int32} : ∀ (n : Nat) (s : Int32) (h : Hp) (x : Unit) (hx : Hp), lp (B_md_argues_25 l0 l1 l2) n s h = some (x, hx) → ∀ r, Ev P d 289 (93, [.ref l0, .int l1, .int l2, unk, unk, unk, unk, unk], [], hx) r → Ev P d 289 (25, [.ref l0, .int l1, .int l2, .int s, unk, unk, unk, unk], [], h) r := by
  refine lp_ev (G0 := fun (s : Int32) h r => Ev P d 289 (25, [.ref l0, .int l1, .int l2, .int s, unk, unk, unk, unk], [], h) r) (X := fun (x : Unit) hx r => Ev P d 289 (93, [.ref l0, .int l1, .int l2, unk, unk, unk, unk, unk], [], hx) r) ?_
  intro s h y h9 hS r hK
  unfold B_md_argues_25 at hS
  show Ev P d 289 (25, [.ref l0, .int l1, .int l2, .int s, unk, unk, unk, unk], [], h) r
  refine ev_iload_n pm289 i289_25 rfl rfl rfl ?_
  refine ev_iload_n pm289 i289_26 rfl rfl rfl ?_
  by_cases c706 : s < l2
  · rw [if_pos c706] at hS
    refine ev_icmp_ge_t (t := 93) pm289 i289_27 rfl c706 rfl rfl ?_
    refine ev_iload_n pm289 i289_30 rfl rfl rfl ?_
    refine ev_istore (ls' := [.ref l0, .int l1, .int l2, .int s, .int s, unk, unk, unk]) pm289 i289_31 rfl (Nat.le_of_ble_eq_true rfl) rfl rfl ?_
    refine ev_iload_n pm289 i289_33 rfl rfl rfl ?_
    refine ev_iconst (v := 1) pm289 i289_34 rfl (by decide) rfl ?_
    refine ev_b2 (f := fun x y => x - y) pm289 i289_35 rfl (fun _ _ _ _ => rfl) rfl ?_
    refine ev_istore (ls' := [.ref l0, .int l1, .int l2, .int s, .int s, .int (l1 - (1 : Int32)), unk, unk]) pm289 i289_36 rfl (Nat.le_of_ble_eq_true rfl) rfl rfl ?_
    obtain ⟨x17, h19, e18, hS⟩ := bd_s hS
    refine L_md_argues_38 d (by omega) _ _ _ _ _ e18 _ ?_
    show Ev P d 289 (76, [.ref l0, .int l1, .int l2, .int s, unk, unk, unk, unk], [], h19) _
    refine ev_aload_n pm289 i289_76 rfl rfl rfl ?_
    obtain ⟨x20, e21, hS⟩ := bn_s hS
    refine ev_getR pm289 i289_77 rfl rfl rfl e21 rfl ?_
    refine ev_iload_n pm289 i289_80 rfl rfl rfl ?_
    refine ev_aload_n pm289 i289_81 rfl rfl rfl ?_
    refine ev_iload_n pm289 i289_82 rfl rfl rfl ?_
    obtain ⟨x23, h24, e22, hS⟩ := bd_s hS
    refine ev_callV (sa := [.int l1]) (rest := [.int s, .ref x20]) (st' := [.int x23, .int s, .ref x20]) (ls0 := [.ref l0, .int l1, unk]) (rv := some (.int x23)) pm289 i289_83 rfl rfl pm291 (by decide) (K_md_afloat e22) rfl rfl (Nat.le_of_ble_eq_true rfl) (by omega) rfl (R_md_afloat (d - 1) (by omega) e22) (by simp) rfl rfl ?_
    obtain ⟨h25, e26, hS⟩ := bn_s hS
    refine ev_iast pm289 i289_86 rfl e26 rfl ?_
    refine ev_iinc (v := 1) (ls' := [.ref l0, .int l1, .int l2, .int (s + (1 : Int32)), unk, unk, unk, unk]) pm289 i289_87 rfl rfl (by decide) rfl rfl ?_
    refine ev_goto (t := 25) pm289 i289_90 rfl rfl ?_
    cases hS
    exact hK
  · rw [if_neg c706] at hS
    refine ev_icmp_ge_f (t := 93) pm289 i289_27 rfl c706 rfl rfl ?_
    refine ev_kls (ls' := [.ref l0, .int l1, .int l2, unk, unk, unk, unk, unk]) pm289 i289_93 rfl rfl ?_
    cases hS
    exact hK
def B_md_argues_136 (l0 : Nat) (l2 : Int32) (l3 : Int32) (l4 : Int32) (h : Hp) (s : Int32 × Int32) : Option ((Int32 × Int32) ⊕ (Int32)) :=
  bn (F_md_choices l0 l3 h) fun x41 =>
  if s.2 < x41 then
    (bn (gR h l0 13 30) fun x42 =>
    bn (F_md_choices l0 l3 h) fun x45 =>
    bn (aI h 100 x42 ((l4 * x45) + s.2)) fun x46 =>
    bn (rm32 l3 (2 : Int32)) fun x48 =>
    if x48 = (0 : Int32) then
      (if x46 < s.1 then
        (some (.inl (x46, s.2 + (1 : Int32))))
      else
        (some (.inl (s.1, s.2 + (1 : Int32)))))
    else
      (if s.1 < x46 then
        (some (.inl (x46, s.2 + (1 : Int32))))
      else
        (some (.inl (s.1, s.2 + (1 : Int32))))))
  else
    (some (.inr s.1))
set_option maxRecDepth 20000 in
theorem L_md_argues_136 (d : Nat) (hd : 7 ≤ d) {l0 : Nat} {l2 : Int32} {l3 : Int32} {l4 : Int32} {h : Hp} : ∀ (n : Nat) (s : Int32 × Int32) (x : Int32), lq (B_md_argues_136 l0 l2 l3 l4 h) n s = some x → ∀ r, Ev P d 289 (197, [.ref l0, unk, .int l2, .int l3, .int l4, .int x, unk, unk], [], h) r → Ev P d 289 (136, [.ref l0, unk, .int l2, .int l3, .int l4, .int s.1, .int s.2, unk], [], h) r := by
  refine lq_ev (G0 := fun (s : Int32 × Int32) r => Ev P d 289 (136, [.ref l0, unk, .int l2, .int l3, .int l4, .int s.1, .int s.2, unk], [], h) r) (X := fun (x : Int32) r => Ev P d 289 (197, [.ref l0, unk, .int l2, .int l3, .int l4, .int x, unk, unk], [], h) r) ?_
  intro s y hS r hK
  unfold B_md_argues_136 at hS
  show Ev P d 289 (136, [.ref l0, unk, .int l2, .int l3, .int l4, .int s.1, .int s.2, unk], [], h) r
  refine ev_iload pm289 i289_136 rfl rfl rfl ?_
  refine ev_aload_n pm289 i289_138 rfl rfl rfl ?_
  refine ev_iload_n pm289 i289_139 rfl rfl rfl ?_
  obtain ⟨x41, e40, hS⟩ := bn_s hS
  refine ev_callV (sa := [.int l3]) (rest := [.int s.2]) (st' := [.int x41, .int s.2]) (ls0 := [.ref l0, .int l3]) (rv := some (.int x41)) pm289 i289_140 rfl rfl pm290 (by decide) (K_md_choices e40) rfl rfl (Nat.le_of_ble_eq_true rfl) (by omega) rfl (R_md_choices (d - 1) (by omega) e40) (by simp) rfl rfl ?_
  by_cases c707 : s.2 < x41
  · rw [if_pos c707] at hS
    refine ev_icmp_ge_t (t := 197) pm289 i289_143 rfl c707 rfl rfl ?_
    refine ev_aload_n pm289 i289_146 rfl rfl rfl ?_
    obtain ⟨x42, e43, hS⟩ := bn_s hS
    refine ev_getR pm289 i289_147 rfl rfl rfl e43 rfl ?_
    refine ev_iload pm289 i289_150 rfl rfl rfl ?_
    refine ev_aload_n pm289 i289_152 rfl rfl rfl ?_
    refine ev_iload_n pm289 i289_153 rfl rfl rfl ?_
    obtain ⟨x45, e44, hS⟩ := bn_s hS
    refine ev_callV (sa := [.int l3]) (rest := [.int l4, .ref x42]) (st' := [.int x45, .int l4, .ref x42]) (ls0 := [.ref l0, .int l3]) (rv := some (.int x45)) pm289 i289_154 rfl rfl pm290 (by decide) (K_md_choices e44) rfl rfl (Nat.le_of_ble_eq_true rfl) (by omega) rfl (R_md_choices (d - 1) (by omega) e44) (by simp) rfl rfl ?_
    refine ev_b2 (f := fun x y => x * y) pm289 i289_157 rfl (fun _ _ _ _ => rfl) rfl ?_
    refine ev_iload pm289 i289_158 rfl rfl rfl ?_
    refine ev_b2 (f := fun x y => x + y) pm289 i289_160 rfl (fun _ _ _ _ => rfl) rfl ?_
    obtain ⟨x46, e47, hS⟩ := bn_s hS
    refine ev_iald pm289 i289_161 rfl e47 rfl ?_
    refine ev_istore (ls' := [.ref l0, unk, .int l2, .int l3, .int l4, .int s.1, .int s.2, .int x46]) pm289 i289_162 rfl (Nat.le_of_ble_eq_true rfl) rfl rfl ?_
    refine ev_iload_n pm289 i289_164 rfl rfl rfl ?_
    refine ev_iconst (v := 2) pm289 i289_165 rfl (by decide) rfl ?_
    obtain ⟨x48, e49, hS⟩ := bn_s hS
    refine ev_irem pm289 i289_166 rfl e49 rfl ?_
    by_cases c708 : x48 = (0 : Int32)
    · rw [if_pos c708] at hS
      refine ev_if_ne_t (t := 180) pm289 i289_167 rfl c708 rfl rfl ?_
      refine ev_iload pm289 i289_170 rfl rfl rfl ?_
      refine ev_iload pm289 i289_172 rfl rfl rfl ?_
      by_cases c709 : x46 < s.1
      · rw [if_pos c709] at hS
        refine ev_icmp_ge_t (t := 191) pm289 i289_174 rfl c709 rfl rfl ?_
        refine ev_goto (t := 187) pm289 i289_177 rfl rfl ?_
        refine ev_kls (ls' := [.ref l0, unk, .int l2, .int l3, .int l4, unk, .int s.2, .int x46]) pm289 i289_187 rfl rfl ?_
        refine ev_iload pm289 i289_187 rfl rfl rfl ?_
        refine ev_istore (ls' := [.ref l0, unk, .int l2, .int l3, .int l4, .int x46, .int s.2, .int x46]) pm289 i289_189 rfl (Nat.le_of_ble_eq_true rfl) rfl rfl ?_
        refine ev_kls (ls' := [.ref l0, unk, .int l2, .int l3, .int l4, .int x46, .int s.2, unk]) pm289 i289_191 rfl rfl ?_
        refine ev_iinc (v := 1) (ls' := [.ref l0, unk, .int l2, .int l3, .int l4, .int x46, .int (s.2 + (1 : Int32)), unk]) pm289 i289_191 rfl rfl (by decide) rfl rfl ?_
        refine ev_goto (t := 136) pm289 i289_194 rfl rfl ?_
        cases hS
        exact hK
      · rw [if_neg c709] at hS
        refine ev_icmp_ge_f (t := 191) pm289 i289_174 rfl c709 rfl rfl ?_
        refine ev_kls (ls' := [.ref l0, unk, .int l2, .int l3, .int l4, .int s.1, .int s.2, unk]) pm289 i289_191 rfl rfl ?_
        refine ev_iinc (v := 1) (ls' := [.ref l0, unk, .int l2, .int l3, .int l4, .int s.1, .int (s.2 + (1 : Int32)), unk]) pm289 i289_191 rfl rfl (by decide) rfl rfl ?_
        refine ev_goto (t := 136) pm289 i289_194 rfl rfl ?_
        cases hS
        exact hK
    · rw [if_neg c708] at hS
      refine ev_if_ne_f (t := 180) pm289 i289_167 rfl c708 rfl rfl ?_
      refine ev_iload pm289 i289_180 rfl rfl rfl ?_
      refine ev_iload pm289 i289_182 rfl rfl rfl ?_
      by_cases c710 : s.1 < x46
      · rw [if_pos c710] at hS
        refine ev_icmp_le_t (t := 191) pm289 i289_184 rfl c710 rfl rfl ?_
        refine ev_kls (ls' := [.ref l0, unk, .int l2, .int l3, .int l4, unk, .int s.2, .int x46]) pm289 i289_187 rfl rfl ?_
        refine ev_iload pm289 i289_187 rfl rfl rfl ?_
        refine ev_istore (ls' := [.ref l0, unk, .int l2, .int l3, .int l4, .int x46, .int s.2, .int x46]) pm289 i289_189 rfl (Nat.le_of_ble_eq_true rfl) rfl rfl ?_
        refine ev_kls (ls' := [.ref l0, unk, .int l2, .int l3, .int l4, .int x46, .int s.2, unk]) pm289 i289_191 rfl rfl ?_
        refine ev_iinc (v := 1) (ls' := [.ref l0, unk, .int l2, .int l3, .int l4, .int x46, .int (s.2 + (1 : Int32)), unk]) pm289 i289_191 rfl rfl (by decide) rfl rfl ?_
        refine ev_goto (t := 136) pm289 i289_194 rfl rfl ?_
        cases hS
        exact hK
      · rw [if_neg c710] at hS
        refine ev_icmp_le_f (t := 191) pm289 i289_184 rfl c710 rfl rfl ?_
        refine ev_kls (ls' := [.ref l0, unk, .int l2, .int l3, .int l4, .int s.1, .int s.2, unk]) pm289 i289_191 rfl rfl ?_
        refine ev_iinc (v := 1) (ls' := [.ref l0, unk, .int l2, .int l3, .int l4, .int s.1, .int (s.2 + (1 : Int32)), unk]) pm289 i289_191 rfl rfl (by decide) rfl rfl ?_
        refine ev_goto (t := 136) pm289 i289_194 rfl rfl ?_
        cases hS
        exact hK
  · rw [if_neg c707] at hS
    refine ev_icmp_ge_f (t := 197) pm289 i289_143 rfl c707 rfl rfl ?_
    refine ev_kls (ls' := [.ref l0, unk, .int l2, .int l3, .int l4, .int s.1, unk, unk]) pm289 i289_197 rfl rfl ?_
    cases hS
    exact hK
def B_md_argues_112 (l0 : Nat) (l2 : Int32) (l3 : Int32) (s : Int32) (h : Hp) : Option (((Int32) ⊕ (Unit)) × Hp) :=
  if s < l2 then
    (bn (gR h l0 13 30) fun x34 =>
    bn (F_md_choices l0 l3 h) fun x37 =>
    bn (aI h 100 x34 (s * x37)) fun x38 =>
    bn (lq (B_md_argues_136 l0 l2 l3 s h) FU (x38, (1 : Int32))) fun x50 =>
    bn (gR h l0 13 30) fun x52 =>
    bn (sI h 100 x52 s x50) fun h54 =>
    some (.inl (s + (1 : Int32)), h54))
  else
    (some (.inr (), h))
set_option maxRecDepth 20000 in
theorem L_md_argues_112 (d : Nat) (hd : 7 ≤ d) {l0 : Nat} {l2 : Int32} {l3 : Int32} : ∀ (n : Nat) (s : Int32) (h : Hp) (x : Unit) (hx : Hp), lp (B_md_argues_112 l0 l2 l3) n s h = some (x, hx) → ∀ r, Ev P d 289 (212, [.ref l0, unk, .int l2, .int l3, unk, unk, unk, unk], [], hx) r → Ev P d 289 (112, [.ref l0, unk, .int l2, .int l3, .int s, unk, unk, unk], [], h) r := by
  refine lp_ev (G0 := fun (s : Int32) h r => Ev P d 289 (112, [.ref l0, unk, .int l2, .int l3, .int s, unk, unk, unk], [], h) r) (X := fun (x : Unit) hx r => Ev P d 289 (212, [.ref l0, unk, .int l2, .int l3, unk, unk, unk, unk], [], hx) r) ?_
  intro s h y h9 hS r hK
  unfold B_md_argues_112 at hS
  show Ev P d 289 (112, [.ref l0, unk, .int l2, .int l3, .int s, unk, unk, unk], [], h) r
  refine ev_iload pm289 i289_112 rfl rfl rfl ?_
  refine ev_iload_n pm289 i289_114 rfl rfl rfl ?_
  by_cases c711 : s < l2
  · rw [if_pos c711] at hS
    refine ev_icmp_ge_t (t := 212) pm289 i289_115 rfl c711 rfl rfl ?_
    refine ev_aload_n pm289 i289_118 rfl rfl rfl ?_
    obtain ⟨x34, e35, hS⟩ := bn_s hS
    refine ev_getR pm289 i289_119 rfl rfl rfl e35 rfl ?_
    refine ev_iload pm289 i289_122 rfl rfl rfl ?_
    refine ev_aload_n pm289 i289_124 rfl rfl rfl ?_
    refine ev_iload_n pm289 i289_125 rfl rfl rfl ?_
    obtain ⟨x37, e36, hS⟩ := bn_s hS
    refine ev_callV (sa := [.int l3]) (rest := [.int s, .ref x34]) (st' := [.int x37, .int s, .ref x34]) (ls0 := [.ref l0, .int l3]) (rv := some (.int x37)) pm289 i289_126 rfl rfl pm290 (by decide) (K_md_choices e36) rfl rfl (Nat.le_of_ble_eq_true rfl) (by omega) rfl (R_md_choices (d - 1) (by omega) e36) (by simp) rfl rfl ?_
    refine ev_b2 (f := fun x y => x * y) pm289 i289_129 rfl (fun _ _ _ _ => rfl) rfl ?_
    obtain ⟨x38, e39, hS⟩ := bn_s hS
    refine ev_iald pm289 i289_130 rfl e39 rfl ?_
    refine ev_istore (ls' := [.ref l0, unk, .int l2, .int l3, .int s, .int x38, unk, unk]) pm289 i289_131 rfl (Nat.le_of_ble_eq_true rfl) rfl rfl ?_
    refine ev_iconst (v := 1) pm289 i289_133 rfl (by decide) rfl ?_
    refine ev_istore (ls' := [.ref l0, unk, .int l2, .int l3, .int s, .int x38, .int (1 : Int32), unk]) pm289 i289_134 rfl (Nat.le_of_ble_eq_true rfl) rfl rfl ?_
    obtain ⟨x50, e51, hS⟩ := bn_s hS
    refine L_md_argues_136 d (by omega) _ _ _ e51 _ ?_
    show Ev P d 289 (197, [.ref l0, unk, .int l2, .int l3, .int s, .int x50, unk, unk], [], h) _
    refine ev_aload_n pm289 i289_197 rfl rfl rfl ?_
    obtain ⟨x52, e53, hS⟩ := bn_s hS
    refine ev_getR pm289 i289_198 rfl rfl rfl e53 rfl ?_
    refine ev_iload pm289 i289_201 rfl rfl rfl ?_
    refine ev_iload pm289 i289_203 rfl rfl rfl ?_
    obtain ⟨h54, e55, hS⟩ := bn_s hS
    refine ev_iast pm289 i289_205 rfl e55 rfl ?_
    refine ev_iinc (v := 1) (ls' := [.ref l0, unk, .int l2, .int l3, .int (s + (1 : Int32)), .int x50, unk, unk]) pm289 i289_206 rfl rfl (by decide) rfl rfl ?_
    refine ev_goto (t := 112) pm289 i289_209 rfl rfl ?_
    refine ev_kls (ls' := [.ref l0, unk, .int l2, .int l3, .int (s + (1 : Int32)), unk, unk, unk]) pm289 i289_112 rfl rfl ?_
    cases hS
    exact hK
  · rw [if_neg c711] at hS
    refine ev_icmp_ge_f (t := 212) pm289 i289_115 rfl c711 rfl rfl ?_
    refine ev_kls (ls' := [.ref l0, unk, .int l2, .int l3, unk, unk, unk, unk]) pm289 i289_212 rfl rfl ?_
    cases hS
    exact hK
def B_md_argues_97 (l0 : Nat) (s : Int32 × Int32) (h : Hp) : Option (((Int32 × Int32) ⊕ (Unit)) × Hp) :=
  if (0 : Int32) < s.2 then
    (bn (F_md_choices l0 s.2 h) fun x31 =>
    bn (dv s.1 x31) fun x32 =>
    bd (lp (B_md_argues_112 l0 x32 s.2) FU (0 : Int32) h) fun x56 h58 =>
    some (.inl (x32, s.2 + (-1 : Int32)), h58))
  else
    (some (.inr (), h))
set_option maxRecDepth 20000 in
theorem L_md_argues_97 (d : Nat) (hd : 7 ≤ d) {l0 : Nat} : ∀ (n : Nat) (s : Int32 × Int32) (h : Hp) (x : Unit) (hx : Hp), lp (B_md_argues_97 l0) n s h = some (x, hx) → ∀ r, Ev P d 289 (218, [unk, unk, unk, unk, unk, unk, unk, unk], [], hx) r → Ev P d 289 (97, [.ref l0, unk, .int s.1, .int s.2, unk, unk, unk, unk], [], h) r := by
  refine lp_ev (G0 := fun (s : Int32 × Int32) h r => Ev P d 289 (97, [.ref l0, unk, .int s.1, .int s.2, unk, unk, unk, unk], [], h) r) (X := fun (x : Unit) hx r => Ev P d 289 (218, [unk, unk, unk, unk, unk, unk, unk, unk], [], hx) r) ?_
  intro s h y h9 hS r hK
  unfold B_md_argues_97 at hS
  show Ev P d 289 (97, [.ref l0, unk, .int s.1, .int s.2, unk, unk, unk, unk], [], h) r
  refine ev_iload_n pm289 i289_97 rfl rfl rfl ?_
  by_cases c712 : (0 : Int32) < s.2
  · rw [if_pos c712] at hS
    refine ev_if_le_t (t := 218) pm289 i289_98 rfl c712 rfl rfl ?_
    refine ev_iload_n pm289 i289_101 rfl rfl rfl ?_
    refine ev_aload_n pm289 i289_102 rfl rfl rfl ?_
    refine ev_iload_n pm289 i289_103 rfl rfl rfl ?_
    obtain ⟨x31, e30, hS⟩ := bn_s hS
    refine ev_callV (sa := [.int s.2]) (rest := [.int s.1]) (st' := [.int x31, .int s.1]) (ls0 := [.ref l0, .int s.2]) (rv := some (.int x31)) pm289 i289_104 rfl rfl pm290 (by decide) (K_md_choices e30) rfl rfl (Nat.le_of_ble_eq_true rfl) (by omega) rfl (R_md_choices (d - 1) (by omega) e30) (by simp) rfl rfl ?_
    obtain ⟨x32, e33, hS⟩ := bn_s hS
    refine ev_idiv pm289 i289_107 rfl e33 rfl ?_
    refine ev_istore_n (ls' := [.ref l0, unk, .int x32, .int s.2, unk, unk, unk, unk]) pm289 i289_108 rfl (Nat.le_of_ble_eq_true rfl) rfl rfl ?_
    refine ev_iconst (v := 0) pm289 i289_109 rfl (by decide) rfl ?_
    refine ev_istore (ls' := [.ref l0, unk, .int x32, .int s.2, .int (0 : Int32), unk, unk, unk]) pm289 i289_110 rfl (Nat.le_of_ble_eq_true rfl) rfl rfl ?_
    obtain ⟨x56, h58, e57, hS⟩ := bd_s hS
    refine L_md_argues_112 d (by omega) _ _ _ _ _ e57 _ ?_
    show Ev P d 289 (212, [.ref l0, unk, .int x32, .int s.2, unk, unk, unk, unk], [], h58) _
    refine ev_iinc (v := -1) (ls' := [.ref l0, unk, .int x32, .int (s.2 + (-1 : Int32)), unk, unk, unk, unk]) pm289 i289_212 rfl rfl (by decide) rfl rfl ?_
    refine ev_goto (t := 97) pm289 i289_215 rfl rfl ?_
    cases hS
    exact hK
  · rw [if_neg c712] at hS
    refine ev_if_le_f (t := 218) pm289 i289_98 rfl c712 rfl rfl ?_
    refine ev_kls (ls' := [unk, unk, unk, unk, unk, unk, unk, unk]) pm289 i289_218 rfl rfl ?_
    cases hS
    exact hK
def F_md_argues (a0 : Nat) (a1 : Int32) (h : Hp) : Option Hp :=
  ck h a0 13 (bn (lq (B_md_argues_4 a0 a1 h) FU ((1 : Int32), (0 : Int32))) fun x3 =>
  bd (lp (B_md_argues_25 a0 a1 x3) FU (0 : Int32) h) fun x27 h29 =>
  bd (lp (B_md_argues_97 a0) FU (x3, a1 - (1 : Int32)) h29) fun x59 h61 =>
  some h61)
set_option maxRecDepth 20000 in
theorem K_md_argues {a0 : Nat} {a1 : Int32} {h : Hp} {h' : Hp} (hS : F_md_argues a0 a1 h = some h') : kd h a0 = 13 := by
  unfold F_md_argues at hS
  exact (ck_s hS).1
set_option maxRecDepth 20000 in
theorem R_md_argues (d : Nat) (hd : 7 ≤ d) {a0 : Nat} {a1 : Int32} {h : Hp} {h' : Hp} (hS : F_md_argues a0 a1 h = some h') : Ev P d 289 (0, [.ref a0, .int a1, unk, unk, unk, unk, unk, unk], [], h) (none, h') := by
  unfold F_md_argues at hS
  replace hS := (ck_s hS).2
  refine ev_iconst (v := 1) pm289 i289_0 rfl (by decide) rfl ?_
  refine ev_istore_n (ls' := [.ref a0, .int a1, .int (1 : Int32), unk, unk, unk, unk, unk]) pm289 i289_1 rfl (Nat.le_of_ble_eq_true rfl) rfl rfl ?_
  refine ev_iconst (v := 0) pm289 i289_2 rfl (by decide) rfl ?_
  refine ev_istore_n (ls' := [.ref a0, .int a1, .int (1 : Int32), .int (0 : Int32), unk, unk, unk, unk]) pm289 i289_3 rfl (Nat.le_of_ble_eq_true rfl) rfl rfl ?_
  obtain ⟨x3, e4, hS⟩ := bn_s hS
  refine L_md_argues_4 d (by omega) _ _ _ e4 _ ?_
  show Ev P d 289 (23, [.ref a0, .int a1, .int x3, unk, unk, unk, unk, unk], [], h) _
  refine ev_iconst (v := 0) pm289 i289_23 rfl (by decide) rfl ?_
  refine ev_istore_n (ls' := [.ref a0, .int a1, .int x3, .int (0 : Int32), unk, unk, unk, unk]) pm289 i289_24 rfl (Nat.le_of_ble_eq_true rfl) rfl rfl ?_
  obtain ⟨x27, h29, e28, hS⟩ := bd_s hS
  refine L_md_argues_25 d (by omega) _ _ _ _ _ e28 _ ?_
  show Ev P d 289 (93, [.ref a0, .int a1, .int x3, unk, unk, unk, unk, unk], [], h29) _
  refine ev_iload_n pm289 i289_93 rfl rfl rfl ?_
  refine ev_iconst (v := 1) pm289 i289_94 rfl (by decide) rfl ?_
  refine ev_b2 (f := fun x y => x - y) pm289 i289_95 rfl (fun _ _ _ _ => rfl) rfl ?_
  refine ev_istore_n (ls' := [.ref a0, .int a1, .int x3, .int (a1 - (1 : Int32)), unk, unk, unk, unk]) pm289 i289_96 rfl (Nat.le_of_ble_eq_true rfl) rfl rfl ?_
  refine ev_kls (ls' := [.ref a0, unk, .int x3, .int (a1 - (1 : Int32)), unk, unk, unk, unk]) pm289 i289_97 rfl rfl ?_
  obtain ⟨x59, h61, e60, hS⟩ := bd_s hS
  refine L_md_argues_97 d (by omega) _ _ _ _ _ e60 _ ?_
  show Ev P d 289 (218, [unk, unk, unk, unk, unk, unk, unk, unk], [], h61) _
  cases hS
  exact ev_return pm289 i289_218 rfl rfl rfl
def B_md_valueOf_14 (l0 : Nat) (l1 : Int32) (h : Hp) (s : Int32 × Int32) : Option ((Int32 × Int32) ⊕ (Int32)) :=
  if (0 : Int32) < l1 then
    (bn (F_md_choices l0 (0 : Int32) h) fun x8 =>
    if s.2 < x8 then
      (bn (gR h l0 13 30) fun x9 =>
      bn (aI h 100 x9 s.2) fun x11 =>
      if x11 < s.1 then
        (bn (gR h l0 13 30) fun x13 =>
        bn (aI h 100 x13 s.2) fun x15 =>
        some (.inl (x15, s.2 + (1 : Int32))))
      else
        (some (.inl (s.1, s.2 + (1 : Int32)))))
    else
      (some (.inr s.1)))
  else
    (some (.inr s.1))
set_option maxRecDepth 20000 in
theorem L_md_valueOf_14 (d : Nat) (hd : 8 ≤ d) {l0 : Nat} {l1 : Int32} {h : Hp} : ∀ (n : Nat) (s : Int32 × Int32) (x : Int32), lq (B_md_valueOf_14 l0 l1 h) n s = some x → ∀ r, Ev P d 288 (50, [unk, unk, .int x, unk], [], h) r → Ev P d 288 (14, [.ref l0, .int l1, .int s.1, .int s.2], [], h) r := by
  refine lq_ev (G0 := fun (s : Int32 × Int32) r => Ev P d 288 (14, [.ref l0, .int l1, .int s.1, .int s.2], [], h) r) (X := fun (x : Int32) r => Ev P d 288 (50, [unk, unk, .int x, unk], [], h) r) ?_
  intro s y hS r hK
  unfold B_md_valueOf_14 at hS
  show Ev P d 288 (14, [.ref l0, .int l1, .int s.1, .int s.2], [], h) r
  refine ev_iload_n pm288 i288_14 rfl rfl rfl ?_
  by_cases c713 : (0 : Int32) < l1
  · rw [if_pos c713] at hS
    refine ev_if_le_t (t := 50) pm288 i288_15 rfl c713 rfl rfl ?_
    refine ev_iload_n pm288 i288_18 rfl rfl rfl ?_
    refine ev_aload_n pm288 i288_19 rfl rfl rfl ?_
    refine ev_iconst (v := 0) pm288 i288_20 rfl (by decide) rfl ?_
    obtain ⟨x8, e7, hS⟩ := bn_s hS
    refine ev_callV (sa := [.int (0 : Int32)]) (rest := [.int s.2]) (st' := [.int x8, .int s.2]) (ls0 := [.ref l0, .int (0 : Int32)]) (rv := some (.int x8)) pm288 i288_21 rfl rfl pm290 (by decide) (K_md_choices e7) rfl rfl (Nat.le_of_ble_eq_true rfl) (by omega) rfl (R_md_choices (d - 1) (by omega) e7) (by simp) rfl rfl ?_
    by_cases c714 : s.2 < x8
    · rw [if_pos c714] at hS
      refine ev_icmp_ge_t (t := 50) pm288 i288_24 rfl c714 rfl rfl ?_
      refine ev_aload_n pm288 i288_27 rfl rfl rfl ?_
      obtain ⟨x9, e10, hS⟩ := bn_s hS
      refine ev_getR pm288 i288_28 rfl rfl rfl e10 rfl ?_
      refine ev_iload_n pm288 i288_31 rfl rfl rfl ?_
      obtain ⟨x11, e12, hS⟩ := bn_s hS
      refine ev_iald pm288 i288_32 rfl e12 rfl ?_
      refine ev_iload_n pm288 i288_33 rfl rfl rfl ?_
      by_cases c715 : x11 < s.1
      · rw [if_pos c715] at hS
        refine ev_icmp_ge_t (t := 44) pm288 i288_34 rfl c715 rfl rfl ?_
        refine ev_aload_n pm288 i288_37 rfl rfl rfl ?_
        obtain ⟨x13, e14, hS⟩ := bn_s hS
        refine ev_getR pm288 i288_38 rfl rfl rfl e14 rfl ?_
        refine ev_iload_n pm288 i288_41 rfl rfl rfl ?_
        obtain ⟨x15, e16, hS⟩ := bn_s hS
        refine ev_iald pm288 i288_42 rfl e16 rfl ?_
        refine ev_istore_n (ls' := [.ref l0, .int l1, .int x15, .int s.2]) pm288 i288_43 rfl (Nat.le_of_ble_eq_true rfl) rfl rfl ?_
        refine ev_iinc (v := 1) (ls' := [.ref l0, .int l1, .int x15, .int (s.2 + (1 : Int32))]) pm288 i288_44 rfl rfl (by decide) rfl rfl ?_
        refine ev_goto (t := 14) pm288 i288_47 rfl rfl ?_
        cases hS
        exact hK
      · rw [if_neg c715] at hS
        refine ev_icmp_ge_f (t := 44) pm288 i288_34 rfl c715 rfl rfl ?_
        refine ev_iinc (v := 1) (ls' := [.ref l0, .int l1, .int s.1, .int (s.2 + (1 : Int32))]) pm288 i288_44 rfl rfl (by decide) rfl rfl ?_
        refine ev_goto (t := 14) pm288 i288_47 rfl rfl ?_
        cases hS
        exact hK
    · rw [if_neg c714] at hS
      refine ev_icmp_ge_f (t := 50) pm288 i288_24 rfl c714 rfl rfl ?_
      refine ev_kls (ls' := [unk, unk, .int s.1, unk]) pm288 i288_50 rfl rfl ?_
      cases hS
      exact hK
  · rw [if_neg c713] at hS
    refine ev_if_le_f (t := 50) pm288 i288_15 rfl c713 rfl rfl ?_
    refine ev_kls (ls' := [unk, unk, .int s.1, unk]) pm288 i288_50 rfl rfl ?_
    cases hS
    exact hK
def F_md_valueOf (a0 : Nat) (a1 : Int32) (h : Hp) : Option (Int32 × Hp) :=
  ck h a0 13 (bn (F_md_argues a0 a1 h) fun h2 =>
  bn (gR h2 a0 13 30) fun x3 =>
  bn (aI h2 100 x3 (0 : Int32)) fun x5 =>
  bn (lq (B_md_valueOf_14 a0 a1 h2) FU (x5, (1 : Int32))) fun x17 =>
  some (x17, h2))
set_option maxRecDepth 20000 in
theorem K_md_valueOf {a0 : Nat} {a1 : Int32} {h : Hp} {v : Int32} {h' : Hp} (hS : F_md_valueOf a0 a1 h = some (v, h')) : kd h a0 = 13 := by
  unfold F_md_valueOf at hS
  exact (ck_s hS).1
set_option maxRecDepth 20000 in
theorem R_md_valueOf (d : Nat) (hd : 8 ≤ d) {a0 : Nat} {a1 : Int32} {h : Hp} {v : Int32} {h' : Hp} (hS : F_md_valueOf a0 a1 h = some (v, h')) : Ev P d 288 (0, [.ref a0, .int a1, unk, unk], [], h) (some (.int v), h') := by
  unfold F_md_valueOf at hS
  replace hS := (ck_s hS).2
  refine ev_aload_n pm288 i288_0 rfl rfl rfl ?_
  refine ev_iload_n pm288 i288_1 rfl rfl rfl ?_
  obtain ⟨h2, e1, hS⟩ := bn_s hS
  refine ev_callV (sa := [.int a1]) (rest := []) (st' := []) (ls0 := [.ref a0, .int a1, unk, unk, unk, unk, unk, unk]) (rv := none) pm288 i288_2 rfl rfl pm289 (by decide) (K_md_argues e1) rfl rfl (Nat.le_of_ble_eq_true rfl) (by omega) rfl (R_md_argues (d - 1) (by omega) e1) (by simp) rfl rfl ?_
  refine ev_aload_n pm288 i288_5 rfl rfl rfl ?_
  obtain ⟨x3, e4, hS⟩ := bn_s hS
  refine ev_getR pm288 i288_6 rfl rfl rfl e4 rfl ?_
  refine ev_iconst (v := 0) pm288 i288_9 rfl (by decide) rfl ?_
  obtain ⟨x5, e6, hS⟩ := bn_s hS
  refine ev_iald pm288 i288_10 rfl e6 rfl ?_
  refine ev_istore_n (ls' := [.ref a0, .int a1, .int x5, unk]) pm288 i288_11 rfl (Nat.le_of_ble_eq_true rfl) rfl rfl ?_
  refine ev_iconst (v := 1) pm288 i288_12 rfl (by decide) rfl ?_
  refine ev_istore_n (ls' := [.ref a0, .int a1, .int x5, .int (1 : Int32)]) pm288 i288_13 rfl (Nat.le_of_ble_eq_true rfl) rfl rfl ?_
  obtain ⟨x17, e18, hS⟩ := bn_s hS
  refine L_md_valueOf_14 d (by omega) _ _ _ e18 _ ?_
  show Ev P d 288 (50, [unk, unk, .int x17, unk], [], h2) _
  refine ev_iload_n pm288 i288_50 rfl rfl rfl ?_
  cases hS
  exact ev_ireturn pm288 i288_51 rfl rfl rfl
def F_md_value (a0 : Nat) (a1 : Int32) (h : Hp) : Option (Int32 × Hp) :=
  ck h a0 13 (bn (pI h a0 13 0 (0 : Int32)) fun h1 =>
  bn (gQ h1 a0 13 3) fun x3 =>
  if x3 = none then
    (bd (F_md_refused a0 (1 : Int32) h1) fun x6 h7 =>
    some (x6, h7))
  else
    (bn (F_md_in a1 (0 : Int32) (4 : Int32)) fun x9 =>
    if x9 = (0 : Int32) then
      (bd (F_md_refused a0 (2 : Int32) h1) fun x11 h12 =>
      some (x11, h12))
    else
      (bd (F_md_valueOf a0 a1 h1) fun x14 h15 =>
      bd (F_md_good a0 x14 h15) fun x17 h18 =>
      some (x17, h18))))
set_option maxRecDepth 20000 in
theorem K_md_value {a0 : Nat} {a1 : Int32} {h : Hp} {v : Int32} {h' : Hp} (hS : F_md_value a0 a1 h = some (v, h')) : kd h a0 = 13 := by
  unfold F_md_value at hS
  exact (ck_s hS).1
set_option maxRecDepth 20000 in
theorem R_md_value (d : Nat) (hd : 9 ≤ d) {a0 : Nat} {a1 : Int32} {h : Hp} {v : Int32} {h' : Hp} (hS : F_md_value a0 a1 h = some (v, h')) : Ev P d 287 (0, [.ref a0, .int a1], [], h) (some (.int v), h') := by
  unfold F_md_value at hS
  replace hS := (ck_s hS).2
  refine ev_aload_n pm287 i287_0 rfl rfl rfl ?_
  refine ev_iconst (v := 0) pm287 i287_1 rfl (by decide) rfl ?_
  obtain ⟨h1, e2, hS⟩ := bn_s hS
  refine ev_putI pm287 i287_2 rfl rfl rfl e2 rfl ?_
  refine ev_aload_n pm287 i287_5 rfl rfl rfl ?_
  obtain ⟨x3, e4, hS⟩ := bn_s hS
  refine ev_getQ pm287 i287_6 rfl rfl rfl e4 rfl ?_
  by_cases c716 : x3 = none
  · rw [if_pos c716] at hS
    subst c716
    refine ev_nonnullF pm287 i287_9 rfl rfl ?_
    refine ev_aload_n pm287 i287_12 rfl rfl rfl ?_
    refine ev_iconst (v := 1) pm287 i287_13 rfl (by decide) rfl ?_
    obtain ⟨x6, h7, e5, hS⟩ := bd_s hS
    refine ev_callV (sa := [.int (1 : Int32)]) (rest := []) (st' := [.int x6]) (ls0 := [.ref a0, .int (1 : Int32)]) (rv := some (.int x6)) pm287 i287_14 rfl rfl pm186 (by decide) (K_md_refused e5) rfl rfl (Nat.le_of_ble_eq_true rfl) (by omega) rfl (R_md_refused (d - 1) (by omega) e5) (by simp) rfl rfl ?_
    cases hS
    exact ev_ireturn pm287 i287_17 rfl rfl rfl
  · rw [if_neg c716] at hS
    obtain ⟨_, rfl⟩ := Option.ne_none_iff_exists'.mp c716
    refine ev_nonnullT (t := 18) pm287 i287_9 rfl rfl ?_
    refine ev_iload_n pm287 i287_18 rfl rfl rfl ?_
    refine ev_iconst (v := 0) pm287 i287_19 rfl (by decide) rfl ?_
    refine ev_iconst (v := 4) pm287 i287_20 rfl (by decide) rfl ?_
    obtain ⟨x9, e8, hS⟩ := bn_s hS
    refine ev_callS (sa := [.int (4 : Int32), .int (0 : Int32), .int a1]) (rest := []) (st' := [.int x9]) (ls0 := [.int a1, .int (0 : Int32), .int (4 : Int32)]) (rv := some (.int x9)) pm287 i287_21 rfl rfl pm201 (by decide) rfl rfl (Nat.le_of_ble_eq_true rfl) (by omega) rfl (R_md_in (d - 1) (by omega) e8) (by simp) rfl rfl ?_
    by_cases c717 : x9 = (0 : Int32)
    · rw [if_pos c717] at hS
      refine ev_if_eq_t (t := 39) pm287 i287_24 rfl c717 rfl rfl ?_
      refine ev_aload_n pm287 i287_39 rfl rfl rfl ?_
      refine ev_iconst (v := 2) pm287 i287_40 rfl (by decide) rfl ?_
      obtain ⟨x11, h12, e10, hS⟩ := bd_s hS
      refine ev_callV (sa := [.int (2 : Int32)]) (rest := []) (st' := [.int x11]) (ls0 := [.ref a0, .int (2 : Int32)]) (rv := some (.int x11)) pm287 i287_41 rfl rfl pm186 (by decide) (K_md_refused e10) rfl rfl (Nat.le_of_ble_eq_true rfl) (by omega) rfl (R_md_refused (d - 1) (by omega) e10) (by simp) rfl rfl ?_
      refine ev_kls (ls' := [unk, unk]) pm287 i287_44 rfl rfl ?_
      cases hS
      exact ev_ireturn pm287 i287_44 rfl rfl rfl
    · rw [if_neg c717] at hS
      refine ev_if_eq_f (t := 39) pm287 i287_24 rfl c717 rfl rfl ?_
      refine ev_aload_n pm287 i287_27 rfl rfl rfl ?_
      refine ev_aload_n pm287 i287_28 rfl rfl rfl ?_
      refine ev_iload_n pm287 i287_29 rfl rfl rfl ?_
      obtain ⟨x14, h15, e13, hS⟩ := bd_s hS
      refine ev_callV (sa := [.int a1]) (rest := [.ref a0]) (st' := [.int x14, .ref a0]) (ls0 := [.ref a0, .int a1, unk, unk]) (rv := some (.int x14)) pm287 i287_30 rfl rfl pm288 (by decide) (K_md_valueOf e13) rfl rfl (Nat.le_of_ble_eq_true rfl) (by omega) rfl (R_md_valueOf (d - 1) (by omega) e13) (by simp) rfl rfl ?_
      obtain ⟨x17, h18, e16, hS⟩ := bd_s hS
      refine ev_callV (sa := [.int x14]) (rest := []) (st' := [.int x17]) (ls0 := [.ref a0, .int x14]) (rv := some (.int x17)) pm287 i287_33 rfl rfl pm224 (by decide) (K_md_good e16) rfl rfl (Nat.le_of_ble_eq_true rfl) (by omega) rfl (R_md_good (d - 1) (by omega) e16) (by simp) rfl rfl ?_
      refine ev_goto (t := 44) pm287 i287_36 rfl rfl ?_
      refine ev_kls (ls' := [unk, unk]) pm287 i287_44 rfl rfl ?_
      cases hS
      exact ev_ireturn pm287 i287_44 rfl rfl rfl
def B_md_kingCuts_41 (l0 : Nat) (l2 : Int32) (h : Hp) (s : Int32) : Option ((Int32) ⊕ (Int32)) :=
  bn (gR h l0 13 30) fun x16 =>
  bn (aI h 100 x16 s) fun x18 =>
  if x18 = l2 then
    (some (.inr s))
  else
    (some (.inl (s + (1 : Int32))))
set_option maxRecDepth 20000 in
theorem L_md_kingCuts_41 (d : Nat) (hd : 9 ≤ d) {l0 : Nat} {l2 : Int32} {h : Hp} : ∀ (n : Nat) (s : Int32) (x : Int32), lq (B_md_kingCuts_41 l0 l2 h) n s = some x → ∀ r, Ev P d 292 (57, [.ref l0, unk, unk, .int x], [], h) r → Ev P d 292 (41, [.ref l0, unk, .int l2, .int s], [], h) r := by
  refine lq_ev (G0 := fun (s : Int32) r => Ev P d 292 (41, [.ref l0, unk, .int l2, .int s], [], h) r) (X := fun (x : Int32) r => Ev P d 292 (57, [.ref l0, unk, unk, .int x], [], h) r) ?_
  intro s y hS r hK
  unfold B_md_kingCuts_41 at hS
  show Ev P d 292 (41, [.ref l0, unk, .int l2, .int s], [], h) r
  refine ev_aload_n pm292 i292_41 rfl rfl rfl ?_
  obtain ⟨x16, e17, hS⟩ := bn_s hS
  refine ev_getR pm292 i292_42 rfl rfl rfl e17 rfl ?_
  refine ev_iload_n pm292 i292_45 rfl rfl rfl ?_
  obtain ⟨x18, e19, hS⟩ := bn_s hS
  refine ev_iald pm292 i292_46 rfl e19 rfl ?_
  refine ev_iload_n pm292 i292_47 rfl rfl rfl ?_
  by_cases c718 : x18 = l2
  · rw [if_pos c718] at hS
    refine ev_icmp_eq_t (t := 57) pm292 i292_48 rfl c718 rfl rfl ?_
    refine ev_kls (ls' := [.ref l0, unk, unk, .int s]) pm292 i292_57 rfl rfl ?_
    cases hS
    exact hK
  · rw [if_neg c718] at hS
    refine ev_icmp_eq_f (t := 57) pm292 i292_48 rfl c718 rfl rfl ?_
    refine ev_iinc (v := 1) (ls' := [.ref l0, unk, .int l2, .int (s + (1 : Int32))]) pm292 i292_51 rfl rfl (by decide) rfl rfl ?_
    refine ev_goto (t := 41) pm292 i292_54 rfl rfl ?_
    cases hS
    exact hK
def F_md_kingCuts (a0 : Nat) (a1 : Int32) (h : Hp) : Option (Int32 × Hp) :=
  ck h a0 13 (bn (pI h a0 13 0 (0 : Int32)) fun h1 =>
  bn (gQ h1 a0 13 3) fun x3 =>
  if x3 = none then
    (bd (F_md_refused a0 (1 : Int32) h1) fun x6 h7 =>
    some (x6, h7))
  else
    (bn (F_md_in a1 (1 : Int32) (4 : Int32)) fun x9 =>
    if x9 = (0 : Int32) then
      (bd (F_md_refused a0 (2 : Int32) h1) fun x11 h12 =>
      some (x11, h12))
    else
      (bd (F_md_valueOf a0 a1 h1) fun x14 h15 =>
      bn (lq (B_md_kingCuts_41 a0 x14 h15) FU (0 : Int32)) fun x20 =>
      bn (if x20 = (0 : Int32) then
          (some (-2 : Int32))
        else
          (some (x20 - (1 : Int32)))) fun q22 =>
      bd (F_md_good a0 q22 h15) fun x24 h25 =>
      some (x24, h25))))
set_option maxRecDepth 20000 in
theorem K_md_kingCuts {a0 : Nat} {a1 : Int32} {h : Hp} {v : Int32} {h' : Hp} (hS : F_md_kingCuts a0 a1 h = some (v, h')) : kd h a0 = 13 := by
  unfold F_md_kingCuts at hS
  exact (ck_s hS).1
set_option maxRecDepth 20000 in
theorem R_md_kingCuts (d : Nat) (hd : 9 ≤ d) {a0 : Nat} {a1 : Int32} {h : Hp} {v : Int32} {h' : Hp} (hS : F_md_kingCuts a0 a1 h = some (v, h')) : Ev P d 292 (0, [.ref a0, .int a1, unk, unk], [], h) (some (.int v), h') := by
  unfold F_md_kingCuts at hS
  replace hS := (ck_s hS).2
  refine ev_aload_n pm292 i292_0 rfl rfl rfl ?_
  refine ev_iconst (v := 0) pm292 i292_1 rfl (by decide) rfl ?_
  obtain ⟨h1, e2, hS⟩ := bn_s hS
  refine ev_putI pm292 i292_2 rfl rfl rfl e2 rfl ?_
  refine ev_aload_n pm292 i292_5 rfl rfl rfl ?_
  obtain ⟨x3, e4, hS⟩ := bn_s hS
  refine ev_getQ pm292 i292_6 rfl rfl rfl e4 rfl ?_
  by_cases c719 : x3 = none
  · rw [if_pos c719] at hS
    subst c719
    refine ev_nonnullF pm292 i292_9 rfl rfl ?_
    refine ev_aload_n pm292 i292_12 rfl rfl rfl ?_
    refine ev_iconst (v := 1) pm292 i292_13 rfl (by decide) rfl ?_
    obtain ⟨x6, h7, e5, hS⟩ := bd_s hS
    refine ev_callV (sa := [.int (1 : Int32)]) (rest := []) (st' := [.int x6]) (ls0 := [.ref a0, .int (1 : Int32)]) (rv := some (.int x6)) pm292 i292_14 rfl rfl pm186 (by decide) (K_md_refused e5) rfl rfl (Nat.le_of_ble_eq_true rfl) (by omega) rfl (R_md_refused (d - 1) (by omega) e5) (by simp) rfl rfl ?_
    cases hS
    exact ev_ireturn pm292 i292_17 rfl rfl rfl
  · rw [if_neg c719] at hS
    obtain ⟨_, rfl⟩ := Option.ne_none_iff_exists'.mp c719
    refine ev_nonnullT (t := 18) pm292 i292_9 rfl rfl ?_
    refine ev_iload_n pm292 i292_18 rfl rfl rfl ?_
    refine ev_iconst (v := 1) pm292 i292_19 rfl (by decide) rfl ?_
    refine ev_iconst (v := 4) pm292 i292_20 rfl (by decide) rfl ?_
    obtain ⟨x9, e8, hS⟩ := bn_s hS
    refine ev_callS (sa := [.int (4 : Int32), .int (1 : Int32), .int a1]) (rest := []) (st' := [.int x9]) (ls0 := [.int a1, .int (1 : Int32), .int (4 : Int32)]) (rv := some (.int x9)) pm292 i292_21 rfl rfl pm201 (by decide) rfl rfl (Nat.le_of_ble_eq_true rfl) (by omega) rfl (R_md_in (d - 1) (by omega) e8) (by simp) rfl rfl ?_
    by_cases c720 : x9 = (0 : Int32)
    · rw [if_pos c720] at hS
      refine ev_if_ne_t (t := 33) pm292 i292_24 rfl c720 rfl rfl ?_
      refine ev_aload_n pm292 i292_27 rfl rfl rfl ?_
      refine ev_iconst (v := 2) pm292 i292_28 rfl (by decide) rfl ?_
      obtain ⟨x11, h12, e10, hS⟩ := bd_s hS
      refine ev_callV (sa := [.int (2 : Int32)]) (rest := []) (st' := [.int x11]) (ls0 := [.ref a0, .int (2 : Int32)]) (rv := some (.int x11)) pm292 i292_29 rfl rfl pm186 (by decide) (K_md_refused e10) rfl rfl (Nat.le_of_ble_eq_true rfl) (by omega) rfl (R_md_refused (d - 1) (by omega) e10) (by simp) rfl rfl ?_
      cases hS
      exact ev_ireturn pm292 i292_32 rfl rfl rfl
    · rw [if_neg c720] at hS
      refine ev_if_ne_f (t := 33) pm292 i292_24 rfl c720 rfl rfl ?_
      refine ev_aload_n pm292 i292_33 rfl rfl rfl ?_
      refine ev_iload_n pm292 i292_34 rfl rfl rfl ?_
      obtain ⟨x14, h15, e13, hS⟩ := bd_s hS
      refine ev_callV (sa := [.int a1]) (rest := []) (st' := [.int x14]) (ls0 := [.ref a0, .int a1, unk, unk]) (rv := some (.int x14)) pm292 i292_35 rfl rfl pm288 (by decide) (K_md_valueOf e13) rfl rfl (Nat.le_of_ble_eq_true rfl) (by omega) rfl (R_md_valueOf (d - 1) (by omega) e13) (by simp) rfl rfl ?_
      refine ev_istore_n (ls' := [.ref a0, .int a1, .int x14, unk]) pm292 i292_38 rfl (Nat.le_of_ble_eq_true rfl) rfl rfl ?_
      refine ev_iconst (v := 0) pm292 i292_39 rfl (by decide) rfl ?_
      refine ev_istore_n (ls' := [.ref a0, .int a1, .int x14, .int (0 : Int32)]) pm292 i292_40 rfl (Nat.le_of_ble_eq_true rfl) rfl rfl ?_
      refine ev_kls (ls' := [.ref a0, unk, .int x14, .int (0 : Int32)]) pm292 i292_41 rfl rfl ?_
      obtain ⟨x20, e21, hS⟩ := bn_s hS
      refine L_md_kingCuts_41 d (by omega) _ _ _ e21 _ ?_
      show Ev P d 292 (57, [.ref a0, unk, unk, .int x20], [], h15) _
      refine ev_aload_n pm292 i292_57 rfl rfl rfl ?_
      refine ev_iload_n pm292 i292_58 rfl rfl rfl ?_
      obtain ⟨q22, I721, hS⟩ := bn_s hS
      have J1 : Ev P d 292 (70, [unk, unk, unk, unk], [.int q22, .ref a0], h15) (some (.int v), h') := by
        obtain ⟨x24, h25, e23, hS⟩ := bd_s hS
        refine ev_callV (sa := [.int q22]) (rest := []) (st' := [.int x24]) (ls0 := [.ref a0, .int q22]) (rv := some (.int x24)) pm292 i292_70 rfl rfl pm224 (by decide) (K_md_good e23) rfl rfl (Nat.le_of_ble_eq_true rfl) (by omega) rfl (R_md_good (d - 1) (by omega) e23) (by simp) rfl rfl ?_
        cases hS
        exact ev_ireturn pm292 i292_73 rfl rfl rfl
      clear hS
      by_cases c721 : x20 = (0 : Int32)
      · rw [if_pos c721] at I721
        refine ev_if_ne_t (t := 67) pm292 i292_59 rfl c721 rfl rfl ?_
        refine ev_bipush (v := -2) pm292 i292_62 rfl (by decide) rfl ?_
        refine ev_goto (t := 70) pm292 i292_64 rfl rfl ?_
        refine ev_kls (ls' := [unk, unk, unk, unk]) pm292 i292_70 rfl rfl ?_
        cases I721
        exact J1
      · rw [if_neg c721] at I721
        refine ev_if_ne_f (t := 67) pm292 i292_59 rfl c721 rfl rfl ?_
        refine ev_iload_n pm292 i292_67 rfl rfl rfl ?_
        refine ev_iconst (v := 1) pm292 i292_68 rfl (by decide) rfl ?_
        refine ev_b2 (f := fun x y => x - y) pm292 i292_69 rfl (fun _ _ _ _ => rfl) rfl ?_
        refine ev_kls (ls' := [unk, unk, unk, unk]) pm292 i292_70 rfl rfl ?_
        cases I721
        exact J1
def F_md_refusesMice (a0 : Nat) (a1 : Int32) (a2 : Int32) (h : Hp) : Option Int32 :=
  ck h a0 13 (bn (F_md_isHouse a0 a1 h) fun x2 =>
  if x2 = (0 : Int32) then
    (some (1 : Int32))
  else
    (bn (F_md_in a2 (0 : Int32) (4 : Int32)) fun x4 =>
    if x4 = (0 : Int32) then
      (some (2 : Int32))
    else
      (bn (gR h a0 13 3) fun x5 =>
      bn (gR h x5 12 9) fun x7 =>
      bn (aI h 100 x7 a1) fun x9 =>
      if x9 = (1 : Int32) then
        (some (5 : Int32))
      else
        (some (0 : Int32)))))
set_option maxRecDepth 20000 in
theorem K_md_refusesMice {a0 : Nat} {a1 : Int32} {a2 : Int32} {h : Hp} {v : Int32} (hS : F_md_refusesMice a0 a1 a2 h = some v) : kd h a0 = 13 := by
  unfold F_md_refusesMice at hS
  exact (ck_s hS).1
set_option maxRecDepth 20000 in
theorem R_md_refusesMice (d : Nat) (hd : 1 ≤ d) {a0 : Nat} {a1 : Int32} {a2 : Int32} {h : Hp} {v : Int32} (hS : F_md_refusesMice a0 a1 a2 h = some v) : Ev P d 294 (0, [.ref a0, .int a1, .int a2], [], h) (some (.int v), h) := by
  unfold F_md_refusesMice at hS
  replace hS := (ck_s hS).2
  refine ev_aload_n pm294 i294_0 rfl rfl rfl ?_
  refine ev_iload_n pm294 i294_1 rfl rfl rfl ?_
  obtain ⟨x2, e1, hS⟩ := bn_s hS
  refine ev_callV (sa := [.int a1]) (rest := []) (st' := [.int x2]) (ls0 := [.ref a0, .int a1]) (rv := some (.int x2)) pm294 i294_2 rfl rfl pm228 (by decide) (K_md_isHouse e1) rfl rfl (Nat.le_of_ble_eq_true rfl) (by omega) rfl (R_md_isHouse (d - 1) (by omega) e1) (by simp) rfl rfl ?_
  by_cases c722 : x2 = (0 : Int32)
  · rw [if_pos c722] at hS
    refine ev_if_ne_t (t := 12) pm294 i294_5 rfl c722 rfl rfl ?_
    refine ev_iconst (v := 1) pm294 i294_8 rfl (by decide) rfl ?_
    refine ev_goto (t := 43) pm294 i294_9 rfl rfl ?_
    refine ev_kls (ls' := [unk, unk, unk]) pm294 i294_43 rfl rfl ?_
    cases hS
    exact ev_ireturn pm294 i294_43 rfl rfl rfl
  · rw [if_neg c722] at hS
    refine ev_if_ne_f (t := 12) pm294 i294_5 rfl c722 rfl rfl ?_
    refine ev_iload_n pm294 i294_12 rfl rfl rfl ?_
    refine ev_iconst (v := 0) pm294 i294_13 rfl (by decide) rfl ?_
    refine ev_iconst (v := 4) pm294 i294_14 rfl (by decide) rfl ?_
    obtain ⟨x4, e3, hS⟩ := bn_s hS
    refine ev_callS (sa := [.int (4 : Int32), .int (0 : Int32), .int a2]) (rest := []) (st' := [.int x4]) (ls0 := [.int a2, .int (0 : Int32), .int (4 : Int32)]) (rv := some (.int x4)) pm294 i294_15 rfl rfl pm201 (by decide) rfl rfl (Nat.le_of_ble_eq_true rfl) (by omega) rfl (R_md_in (d - 1) (by omega) e3) (by simp) rfl rfl ?_
    by_cases c723 : x4 = (0 : Int32)
    · rw [if_pos c723] at hS
      refine ev_if_ne_t (t := 25) pm294 i294_18 rfl c723 rfl rfl ?_
      refine ev_iconst (v := 2) pm294 i294_21 rfl (by decide) rfl ?_
      refine ev_goto (t := 43) pm294 i294_22 rfl rfl ?_
      refine ev_kls (ls' := [unk, unk, unk]) pm294 i294_43 rfl rfl ?_
      cases hS
      exact ev_ireturn pm294 i294_43 rfl rfl rfl
    · rw [if_neg c723] at hS
      refine ev_if_ne_f (t := 25) pm294 i294_18 rfl c723 rfl rfl ?_
      refine ev_aload_n pm294 i294_25 rfl rfl rfl ?_
      obtain ⟨x5, e6, hS⟩ := bn_s hS
      refine ev_getR pm294 i294_26 rfl rfl rfl e6 rfl ?_
      obtain ⟨x7, e8, hS⟩ := bn_s hS
      refine ev_getR pm294 i294_29 rfl rfl rfl e8 rfl ?_
      refine ev_iload_n pm294 i294_32 rfl rfl rfl ?_
      obtain ⟨x9, e10, hS⟩ := bn_s hS
      refine ev_iald pm294 i294_33 rfl e10 rfl ?_
      refine ev_iconst (v := 1) pm294 i294_34 rfl (by decide) rfl ?_
      by_cases c724 : x9 = (1 : Int32)
      · rw [if_pos c724] at hS
        refine ev_icmp_ne_t (t := 42) pm294 i294_35 rfl c724 rfl rfl ?_
        refine ev_iconst (v := 5) pm294 i294_38 rfl (by decide) rfl ?_
        refine ev_goto (t := 43) pm294 i294_39 rfl rfl ?_
        refine ev_kls (ls' := [unk, unk, unk]) pm294 i294_43 rfl rfl ?_
        cases hS
        exact ev_ireturn pm294 i294_43 rfl rfl rfl
      · rw [if_neg c724] at hS
        refine ev_icmp_ne_f (t := 42) pm294 i294_35 rfl c724 rfl rfl ?_
        refine ev_iconst (v := 0) pm294 i294_42 rfl (by decide) rfl ?_
        refine ev_kls (ls' := [unk, unk, unk]) pm294 i294_43 rfl rfl ?_
        cases hS
        exact ev_ireturn pm294 i294_43 rfl rfl rfl
def B_md_loses_4 (l0 : Nat) (l1 : Int32) (h : Hp) (s : Int32 × Int32) : Option ((Int32 × Int32) ⊕ (Int32)) :=
  if s.2 < (5 : Int32) then
    (bn (gR h l0 13 16) fun x1 =>
    bn (F_md_cell l1 s.2) fun x4 =>
    bn (aI h 100 x1 x4) fun x5 =>
    if (0 : Int32) < x5 then
      (if s.1 = (-1 : Int32) then
        (some (.inl (s.2, s.2 + (1 : Int32))))
      else
        (bn (F_md_lifts s.2) fun x8 =>
        bn (F_md_lifts s.1) fun x10 =>
        if x8 < x10 then
          (some (.inl (s.2, s.2 + (1 : Int32))))
        else
          (some (.inl (s.1, s.2 + (1 : Int32))))))
    else
      (some (.inl (s.1, s.2 + (1 : Int32)))))
  else
    (some (.inr s.1))
set_option maxRecDepth 20000 in
theorem L_md_loses_4 (d : Nat) (hd : 1 ≤ d) {l0 : Nat} {l1 : Int32} {h : Hp} : ∀ (n : Nat) (s : Int32 × Int32) (x : Int32), lq (B_md_loses_4 l0 l1 h) n s = some x → ∀ r, Ev P d 296 (46, [.ref l0, .int l1, .int x, unk], [], h) r → Ev P d 296 (4, [.ref l0, .int l1, .int s.1, .int s.2], [], h) r := by
  refine lq_ev (G0 := fun (s : Int32 × Int32) r => Ev P d 296 (4, [.ref l0, .int l1, .int s.1, .int s.2], [], h) r) (X := fun (x : Int32) r => Ev P d 296 (46, [.ref l0, .int l1, .int x, unk], [], h) r) ?_
  intro s y hS r hK
  unfold B_md_loses_4 at hS
  show Ev P d 296 (4, [.ref l0, .int l1, .int s.1, .int s.2], [], h) r
  refine ev_iload_n pm296 i296_4 rfl rfl rfl ?_
  refine ev_iconst (v := 5) pm296 i296_5 rfl (by decide) rfl ?_
  by_cases c725 : s.2 < (5 : Int32)
  · rw [if_pos c725] at hS
    refine ev_icmp_ge_t (t := 46) pm296 i296_6 rfl c725 rfl rfl ?_
    refine ev_aload_n pm296 i296_9 rfl rfl rfl ?_
    obtain ⟨x1, e2, hS⟩ := bn_s hS
    refine ev_getR pm296 i296_10 rfl rfl rfl e2 rfl ?_
    refine ev_iload_n pm296 i296_13 rfl rfl rfl ?_
    refine ev_iload_n pm296 i296_14 rfl rfl rfl ?_
    obtain ⟨x4, e3, hS⟩ := bn_s hS
    refine ev_callS (sa := [.int s.2, .int l1]) (rest := [.ref x1]) (st' := [.int x4, .ref x1]) (ls0 := [.int l1, .int s.2]) (rv := some (.int x4)) pm296 i296_15 rfl rfl pm223 (by decide) rfl rfl (Nat.le_of_ble_eq_true rfl) (by omega) rfl (R_md_cell (d - 1) (by omega) e3) (by simp) rfl rfl ?_
    obtain ⟨x5, e6, hS⟩ := bn_s hS
    refine ev_iald pm296 i296_18 rfl e6 rfl ?_
    by_cases c726 : (0 : Int32) < x5
    · rw [if_pos c726] at hS
      refine ev_if_le_t (t := 40) pm296 i296_19 rfl c726 rfl rfl ?_
      refine ev_iload_n pm296 i296_22 rfl rfl rfl ?_
      refine ev_iconst (v := -1) pm296 i296_23 rfl (by decide) rfl ?_
      by_cases c727 : s.1 = (-1 : Int32)
      · rw [if_pos c727] at hS
        refine ev_icmp_eq_t (t := 38) pm296 i296_24 rfl c727 rfl rfl ?_
        refine ev_kls (ls' := [.ref l0, .int l1, unk, .int s.2]) pm296 i296_38 rfl rfl ?_
        refine ev_iload_n pm296 i296_38 rfl rfl rfl ?_
        refine ev_istore_n (ls' := [.ref l0, .int l1, .int s.2, .int s.2]) pm296 i296_39 rfl (Nat.le_of_ble_eq_true rfl) rfl rfl ?_
        refine ev_iinc (v := 1) (ls' := [.ref l0, .int l1, .int s.2, .int (s.2 + (1 : Int32))]) pm296 i296_40 rfl rfl (by decide) rfl rfl ?_
        refine ev_goto (t := 4) pm296 i296_43 rfl rfl ?_
        cases hS
        exact hK
      · rw [if_neg c727] at hS
        refine ev_icmp_eq_f (t := 38) pm296 i296_24 rfl c727 rfl rfl ?_
        refine ev_iload_n pm296 i296_27 rfl rfl rfl ?_
        obtain ⟨x8, e7, hS⟩ := bn_s hS
        refine ev_callS (sa := [.int s.2]) (rest := []) (st' := [.int x8]) (ls0 := [.int s.2]) (rv := some (.int x8)) pm296 i296_28 rfl rfl pm232 (by decide) rfl rfl (Nat.le_of_ble_eq_true rfl) (by omega) rfl (R_md_lifts (d - 1) (by omega) e7) (by simp) rfl rfl ?_
        refine ev_iload_n pm296 i296_31 rfl rfl rfl ?_
        obtain ⟨x10, e9, hS⟩ := bn_s hS
        refine ev_callS (sa := [.int s.1]) (rest := [.int x8]) (st' := [.int x10, .int x8]) (ls0 := [.int s.1]) (rv := some (.int x10)) pm296 i296_32 rfl rfl pm232 (by decide) rfl rfl (Nat.le_of_ble_eq_true rfl) (by omega) rfl (R_md_lifts (d - 1) (by omega) e9) (by simp) rfl rfl ?_
        by_cases c728 : x8 < x10
        · rw [if_pos c728] at hS
          refine ev_icmp_ge_t (t := 40) pm296 i296_35 rfl c728 rfl rfl ?_
          refine ev_kls (ls' := [.ref l0, .int l1, unk, .int s.2]) pm296 i296_38 rfl rfl ?_
          refine ev_iload_n pm296 i296_38 rfl rfl rfl ?_
          refine ev_istore_n (ls' := [.ref l0, .int l1, .int s.2, .int s.2]) pm296 i296_39 rfl (Nat.le_of_ble_eq_true rfl) rfl rfl ?_
          refine ev_iinc (v := 1) (ls' := [.ref l0, .int l1, .int s.2, .int (s.2 + (1 : Int32))]) pm296 i296_40 rfl rfl (by decide) rfl rfl ?_
          refine ev_goto (t := 4) pm296 i296_43 rfl rfl ?_
          cases hS
          exact hK
        · rw [if_neg c728] at hS
          refine ev_icmp_ge_f (t := 40) pm296 i296_35 rfl c728 rfl rfl ?_
          refine ev_iinc (v := 1) (ls' := [.ref l0, .int l1, .int s.1, .int (s.2 + (1 : Int32))]) pm296 i296_40 rfl rfl (by decide) rfl rfl ?_
          refine ev_goto (t := 4) pm296 i296_43 rfl rfl ?_
          cases hS
          exact hK
    · rw [if_neg c726] at hS
      refine ev_if_le_f (t := 40) pm296 i296_19 rfl c726 rfl rfl ?_
      refine ev_iinc (v := 1) (ls' := [.ref l0, .int l1, .int s.1, .int (s.2 + (1 : Int32))]) pm296 i296_40 rfl rfl (by decide) rfl rfl ?_
      refine ev_goto (t := 4) pm296 i296_43 rfl rfl ?_
      cases hS
      exact hK
  · rw [if_neg c725] at hS
    refine ev_icmp_ge_f (t := 46) pm296 i296_6 rfl c725 rfl rfl ?_
    refine ev_kls (ls' := [.ref l0, .int l1, .int s.1, unk]) pm296 i296_46 rfl rfl ?_
    cases hS
    exact hK
def F_md_loses (a0 : Nat) (a1 : Int32) (h : Hp) : Option (Int32 × Hp) :=
  ck h a0 13 (bn (lq (B_md_loses_4 a0 a1 h) FU ((-1 : Int32), (0 : Int32))) fun x11 =>
  if x11 = (-1 : Int32) then
    (some ((0 : Int32), h))
  else
    (bn (gR h a0 13 16) fun x13 =>
    bn (F_md_cell a1 x11) fun x16 =>
    bn (aI h 100 x13 x16) fun x17 =>
    bn (sI h 100 x13 x16 (x17 - (1 : Int32))) fun h19 =>
    some ((1 : Int32), h19)))
set_option maxRecDepth 20000 in
theorem K_md_loses {a0 : Nat} {a1 : Int32} {h : Hp} {v : Int32} {h' : Hp} (hS : F_md_loses a0 a1 h = some (v, h')) : kd h a0 = 13 := by
  unfold F_md_loses at hS
  exact (ck_s hS).1
set_option maxRecDepth 20000 in
theorem R_md_loses (d : Nat) (hd : 1 ≤ d) {a0 : Nat} {a1 : Int32} {h : Hp} {v : Int32} {h' : Hp} (hS : F_md_loses a0 a1 h = some (v, h')) : Ev P d 296 (0, [.ref a0, .int a1, unk, unk], [], h) (some (.int v), h') := by
  unfold F_md_loses at hS
  replace hS := (ck_s hS).2
  refine ev_iconst (v := -1) pm296 i296_0 rfl (by decide) rfl ?_
  refine ev_istore_n (ls' := [.ref a0, .int a1, .int (-1 : Int32), unk]) pm296 i296_1 rfl (Nat.le_of_ble_eq_true rfl) rfl rfl ?_
  refine ev_iconst (v := 0) pm296 i296_2 rfl (by decide) rfl ?_
  refine ev_istore_n (ls' := [.ref a0, .int a1, .int (-1 : Int32), .int (0 : Int32)]) pm296 i296_3 rfl (Nat.le_of_ble_eq_true rfl) rfl rfl ?_
  obtain ⟨x11, e12, hS⟩ := bn_s hS
  refine L_md_loses_4 d (by omega) _ _ _ e12 _ ?_
  show Ev P d 296 (46, [.ref a0, .int a1, .int x11, unk], [], h) _
  refine ev_iload_n pm296 i296_46 rfl rfl rfl ?_
  refine ev_iconst (v := -1) pm296 i296_47 rfl (by decide) rfl ?_
  by_cases c729 : x11 = (-1 : Int32)
  · rw [if_pos c729] at hS
    refine ev_icmp_ne_t (t := 53) pm296 i296_48 rfl c729 rfl rfl ?_
    refine ev_iconst (v := 0) pm296 i296_51 rfl (by decide) rfl ?_
    cases hS
    exact ev_ireturn pm296 i296_52 rfl (by decide) rfl
  · rw [if_neg c729] at hS
    refine ev_icmp_ne_f (t := 53) pm296 i296_48 rfl c729 rfl rfl ?_
    refine ev_aload_n pm296 i296_53 rfl rfl rfl ?_
    obtain ⟨x13, e14, hS⟩ := bn_s hS
    refine ev_getR pm296 i296_54 rfl rfl rfl e14 rfl ?_
    refine ev_iload_n pm296 i296_57 rfl rfl rfl ?_
    refine ev_iload_n pm296 i296_58 rfl rfl rfl ?_
    obtain ⟨x16, e15, hS⟩ := bn_s hS
    refine ev_callS (sa := [.int x11, .int a1]) (rest := [.ref x13]) (st' := [.int x16, .ref x13]) (ls0 := [.int a1, .int x11]) (rv := some (.int x16)) pm296 i296_59 rfl rfl pm223 (by decide) rfl rfl (Nat.le_of_ble_eq_true rfl) (by omega) rfl (R_md_cell (d - 1) (by omega) e15) (by simp) rfl rfl ?_
    refine ev_dup2 pm296 i296_62 rfl ⟨rfl, rfl⟩ rfl ?_
    obtain ⟨x17, e18, hS⟩ := bn_s hS
    refine ev_iald pm296 i296_63 rfl e18 rfl ?_
    refine ev_iconst (v := 1) pm296 i296_64 rfl (by decide) rfl ?_
    refine ev_b2 (f := fun x y => x - y) pm296 i296_65 rfl (fun _ _ _ _ => rfl) rfl ?_
    obtain ⟨h19, e20, hS⟩ := bn_s hS
    refine ev_iast pm296 i296_66 rfl e20 rfl ?_
    refine ev_iconst (v := 1) pm296 i296_67 rfl (by decide) rfl ?_
    cases hS
    exact ev_ireturn pm296 i296_68 rfl (by decide) rfl
def B_md_miceAll_22 (l0 : Nat) (l1 : Int32) (l2 : Int32) (s : Int32) (h : Hp) : Option (((Int32) ⊕ (Unit)) × Hp) :=
  if s < l2 then
    (bn (gL h l0 13 32) fun x9 =>
    bn (pL h l0 13 32 (x9 * (100 : Int64))) fun h11 =>
    some (.inl (s + (1 : Int32)), h11))
  else
    (some (.inr (), h))
set_option maxRecDepth 20000 in
theorem L_md_miceAll_22 (d : Nat) (hd : 3 ≤ d) {l0 : Nat} {l1 : Int32} {l2 : Int32} : ∀ (n : Nat) (s : Int32) (h : Hp) (x : Unit) (hx : Hp), lp (B_md_miceAll_22 l0 l1 l2) n s h = some (x, hx) → ∀ r, Ev P d 295 (45, [.ref l0, .int l1, .int l2, unk, unk, unk, unk, unk], [], hx) r → Ev P d 295 (22, [.ref l0, .int l1, .int l2, .int s, unk, unk, unk, unk], [], h) r := by
  refine lp_ev (G0 := fun (s : Int32) h r => Ev P d 295 (22, [.ref l0, .int l1, .int l2, .int s, unk, unk, unk, unk], [], h) r) (X := fun (x : Unit) hx r => Ev P d 295 (45, [.ref l0, .int l1, .int l2, unk, unk, unk, unk, unk], [], hx) r) ?_
  intro s h y h9 hS r hK
  unfold B_md_miceAll_22 at hS
  show Ev P d 295 (22, [.ref l0, .int l1, .int l2, .int s, unk, unk, unk, unk], [], h) r
  refine ev_iload_n pm295 i295_22 rfl rfl rfl ?_
  refine ev_iload_n pm295 i295_23 rfl rfl rfl ?_
  by_cases c730 : s < l2
  · rw [if_pos c730] at hS
    refine ev_icmp_ge_t (t := 45) pm295 i295_24 rfl c730 rfl rfl ?_
    refine ev_aload_n pm295 i295_27 rfl rfl rfl ?_
    refine ev_dup pm295 i295_28 rfl rfl rfl ?_
    obtain ⟨x9, e10, hS⟩ := bn_s hS
    refine ev_getL pm295 i295_29 rfl rfl rfl e10 rfl ?_
    refine ev_ldc2_w (v := .long (100 : Int64)) pm295 i295_32 rfl rfl rfl ?_
    refine ev_bl2 (f := fun x y => x * y) pm295 i295_35 rfl (fun _ _ _ _ => rfl) rfl ?_
    obtain ⟨h11, e12, hS⟩ := bn_s hS
    refine ev_putL pm295 i295_36 rfl rfl rfl e12 rfl ?_
    refine ev_iinc (v := 1) (ls' := [.ref l0, .int l1, .int l2, .int (s + (1 : Int32)), unk, unk, unk, unk]) pm295 i295_39 rfl rfl (by decide) rfl rfl ?_
    refine ev_goto (t := 22) pm295 i295_42 rfl rfl ?_
    cases hS
    exact hK
  · rw [if_neg c730] at hS
    refine ev_icmp_ge_f (t := 45) pm295 i295_24 rfl c730 rfl rfl ?_
    refine ev_kls (ls' := [.ref l0, .int l1, .int l2, unk, unk, unk, unk, unk]) pm295 i295_45 rfl rfl ?_
    cases hS
    exact hK
def B_md_miceAll_67 (l0 : Nat) (l1 : Int32) (l2 : Int32) (l3 : Int32) (s : Int64 × Int32 × Int32) (h : Hp) : Option (((Int64 × Int32 × Int32) ⊕ (Int64 × Int32)) × Hp) :=
  if s.2.2 < l2 then
    (bn (F_md_softens l0 h) fun h19 =>
    bn (F_md_bit l3 s.2.2) fun x21 =>
    bn (if x21 = (0 : Int32) then
        (bn (gR h19 l0 13 3) fun x22 =>
        bn (gI h19 x22 12 0) fun x24 =>
        some (((100 : Int32) - x24).toInt64))
      else
        (bn (gR h19 l0 13 3) fun x26 =>
        bn (gI h19 x26 12 0) fun x28 =>
        some x28.toInt64)) fun q30 =>
    bn (F_md_bit l3 s.2.2) fun x32 =>
    if x32 = (0 : Int32) then
      (some (.inl (s.1 * q30, s.2.1, s.2.2 + (1 : Int32)), h19))
    else
      (bd (F_md_loses l0 l1 h19) fun x34 h35 =>
      if x34 = (0 : Int32) then
        (some (.inl (s.1 * q30, s.2.1, s.2.2 + (1 : Int32)), h35))
      else
        (some (.inl (s.1 * q30, s.2.1 + (1 : Int32), s.2.2 + (1 : Int32)), h35))))
  else
    (some (.inr (s.1, s.2.1), h))
set_option maxRecDepth 20000 in
theorem L_md_miceAll_67 (d : Nat) (hd : 3 ≤ d) {l0 : Nat} {l1 : Int32} {l2 : Int32} {l3 : Int32} : ∀ (n : Nat) (s : Int64 × Int32 × Int32) (h : Hp) (x : Int64 × Int32) (hx : Hp), lp (B_md_miceAll_67 l0 l1 l2 l3) n s h = some (x, hx) → ∀ r, Ev P d 295 (139, [.ref l0, .int l1, .int l2, .int l3, .long x.1, unk, .int x.2, unk], [], hx) r → Ev P d 295 (67, [.ref l0, .int l1, .int l2, .int l3, .long s.1, unk, .int s.2.1, .int s.2.2], [], h) r := by
  refine lp_ev (G0 := fun (s : Int64 × Int32 × Int32) h r => Ev P d 295 (67, [.ref l0, .int l1, .int l2, .int l3, .long s.1, unk, .int s.2.1, .int s.2.2], [], h) r) (X := fun (x : Int64 × Int32) hx r => Ev P d 295 (139, [.ref l0, .int l1, .int l2, .int l3, .long x.1, unk, .int x.2, unk], [], hx) r) ?_
  intro s h y h9 hS r hK
  unfold B_md_miceAll_67 at hS
  show Ev P d 295 (67, [.ref l0, .int l1, .int l2, .int l3, .long s.1, unk, .int s.2.1, .int s.2.2], [], h) r
  refine ev_iload pm295 i295_67 rfl rfl rfl ?_
  refine ev_iload_n pm295 i295_69 rfl rfl rfl ?_
  by_cases c731 : s.2.2 < l2
  · rw [if_pos c731] at hS
    refine ev_icmp_ge_t (t := 139) pm295 i295_70 rfl c731 rfl rfl ?_
    refine ev_aload_n pm295 i295_73 rfl rfl rfl ?_
    obtain ⟨h19, e18, hS⟩ := bn_s hS
    refine ev_callV (sa := []) (rest := []) (st' := []) (ls0 := [.ref l0, unk]) (rv := none) pm295 i295_74 rfl rfl pm254 (by decide) (K_md_softens e18) rfl rfl (Nat.le_of_ble_eq_true rfl) (by omega) rfl (R_md_softens (d - 1) (by omega) e18) (by simp) rfl rfl ?_
    refine ev_lload pm295 i295_77 rfl rfl rfl ?_
    refine ev_iload_n pm295 i295_79 rfl rfl rfl ?_
    refine ev_iload pm295 i295_80 rfl rfl rfl ?_
    obtain ⟨x21, e20, hS⟩ := bn_s hS
    refine ev_callS (sa := [.int s.2.2, .int l3]) (rest := [.long s.1]) (st' := [.int x21, .long s.1]) (ls0 := [.int l3, .int s.2.2]) (rv := some (.int x21)) pm295 i295_82 rfl rfl pm214 (by decide) rfl rfl (Nat.le_of_ble_eq_true rfl) (by omega) rfl (R_md_bit (d - 1) (by omega) e20) (by simp) rfl rfl ?_
    obtain ⟨q30, I732, hS⟩ := bn_s hS
    have J1 : Ev P d 295 (110, [.ref l0, .int l1, .int l2, .int l3, unk, unk, .int s.2.1, .int s.2.2], [.long q30, .long s.1], h19) r := by
      refine ev_bl2 (f := fun x y => x * y) pm295 i295_110 rfl (fun _ _ _ _ => rfl) rfl ?_
      refine ev_lstore (ls' := [.ref l0, .int l1, .int l2, .int l3, .long (s.1 * q30), unk, .int s.2.1, .int s.2.2]) pm295 i295_111 rfl (Nat.le_of_ble_eq_true rfl) rfl rfl ?_
      refine ev_iload_n pm295 i295_113 rfl rfl rfl ?_
      refine ev_iload pm295 i295_114 rfl rfl rfl ?_
      obtain ⟨x32, e31, hS⟩ := bn_s hS
      refine ev_callS (sa := [.int s.2.2, .int l3]) (rest := []) (st' := [.int x32]) (ls0 := [.int l3, .int s.2.2]) (rv := some (.int x32)) pm295 i295_116 rfl rfl pm214 (by decide) rfl rfl (Nat.le_of_ble_eq_true rfl) (by omega) rfl (R_md_bit (d - 1) (by omega) e31) (by simp) rfl rfl ?_
      by_cases c733 : x32 = (0 : Int32)
      · rw [if_pos c733] at hS
        refine ev_if_eq_t (t := 133) pm295 i295_119 rfl c733 rfl rfl ?_
        refine ev_iinc (v := 1) (ls' := [.ref l0, .int l1, .int l2, .int l3, .long (s.1 * q30), unk, .int s.2.1, .int (s.2.2 + (1 : Int32))]) pm295 i295_133 rfl rfl (by decide) rfl rfl ?_
        refine ev_goto (t := 67) pm295 i295_136 rfl rfl ?_
        cases hS
        exact hK
      · rw [if_neg c733] at hS
        refine ev_if_eq_f (t := 133) pm295 i295_119 rfl c733 rfl rfl ?_
        refine ev_aload_n pm295 i295_122 rfl rfl rfl ?_
        refine ev_iload_n pm295 i295_123 rfl rfl rfl ?_
        obtain ⟨x34, h35, e33, hS⟩ := bd_s hS
        refine ev_callV (sa := [.int l1]) (rest := []) (st' := [.int x34]) (ls0 := [.ref l0, .int l1, unk, unk]) (rv := some (.int x34)) pm295 i295_124 rfl rfl pm296 (by decide) (K_md_loses e33) rfl rfl (Nat.le_of_ble_eq_true rfl) (by omega) rfl (R_md_loses (d - 1) (by omega) e33) (by simp) rfl rfl ?_
        by_cases c734 : x34 = (0 : Int32)
        · rw [if_pos c734] at hS
          refine ev_if_eq_t (t := 133) pm295 i295_127 rfl c734 rfl rfl ?_
          refine ev_iinc (v := 1) (ls' := [.ref l0, .int l1, .int l2, .int l3, .long (s.1 * q30), unk, .int s.2.1, .int (s.2.2 + (1 : Int32))]) pm295 i295_133 rfl rfl (by decide) rfl rfl ?_
          refine ev_goto (t := 67) pm295 i295_136 rfl rfl ?_
          cases hS
          exact hK
        · rw [if_neg c734] at hS
          refine ev_if_eq_f (t := 133) pm295 i295_127 rfl c734 rfl rfl ?_
          refine ev_iinc (v := 1) (ls' := [.ref l0, .int l1, .int l2, .int l3, .long (s.1 * q30), unk, .int (s.2.1 + (1 : Int32)), .int s.2.2]) pm295 i295_130 rfl rfl (by decide) rfl rfl ?_
          refine ev_iinc (v := 1) (ls' := [.ref l0, .int l1, .int l2, .int l3, .long (s.1 * q30), unk, .int (s.2.1 + (1 : Int32)), .int (s.2.2 + (1 : Int32))]) pm295 i295_133 rfl rfl (by decide) rfl rfl ?_
          refine ev_goto (t := 67) pm295 i295_136 rfl rfl ?_
          cases hS
          exact hK
    clear hS
    by_cases c732 : x21 = (0 : Int32)
    · rw [if_pos c732] at I732
      refine ev_if_eq_t (t := 99) pm295 i295_85 rfl c732 rfl rfl ?_
      refine ev_bipush (v := 100) pm295 i295_99 rfl (by decide) rfl ?_
      refine ev_aload_n pm295 i295_101 rfl rfl rfl ?_
      obtain ⟨x22, e23, I732⟩ := bn_s I732
      refine ev_getR pm295 i295_102 rfl rfl rfl e23 rfl ?_
      obtain ⟨x24, e25, I732⟩ := bn_s I732
      refine ev_getI pm295 i295_105 rfl rfl (by decide) e25 rfl ?_
      refine ev_b2 (f := fun x y => x - y) pm295 i295_108 rfl (fun _ _ _ _ => rfl) rfl ?_
      refine ev_i2l pm295 i295_109 rfl rfl ?_
      refine ev_kls (ls' := [.ref l0, .int l1, .int l2, .int l3, unk, unk, .int s.2.1, .int s.2.2]) pm295 i295_110 rfl rfl ?_
      cases I732
      exact J1
    · rw [if_neg c732] at I732
      refine ev_if_eq_f (t := 99) pm295 i295_85 rfl c732 rfl rfl ?_
      refine ev_aload_n pm295 i295_88 rfl rfl rfl ?_
      obtain ⟨x26, e27, I732⟩ := bn_s I732
      refine ev_getR pm295 i295_89 rfl rfl rfl e27 rfl ?_
      obtain ⟨x28, e29, I732⟩ := bn_s I732
      refine ev_getI pm295 i295_92 rfl rfl (by decide) e29 rfl ?_
      refine ev_i2l pm295 i295_95 rfl rfl ?_
      refine ev_goto (t := 110) pm295 i295_96 rfl rfl ?_
      refine ev_kls (ls' := [.ref l0, .int l1, .int l2, .int l3, unk, unk, .int s.2.1, .int s.2.2]) pm295 i295_110 rfl rfl ?_
      cases I732
      exact J1
  · rw [if_neg c731] at hS
    refine ev_icmp_ge_f (t := 139) pm295 i295_70 rfl c731 rfl rfl ?_
    refine ev_kls (ls' := [.ref l0, .int l1, .int l2, .int l3, .long s.1, unk, .int s.2.1, unk]) pm295 i295_139 rfl rfl ?_
    cases hS
    exact hK
def B_md_miceAll_47 (l0 : Nat) (l1 : Int32) (l2 : Int32) (s : Int32) (h : Hp) : Option (((Int32) ⊕ (Unit)) × Hp) :=
  if s < ((1 : Int32) <<< (l2 &&& 31)) then
    (bn (F_md_works l0 h) fun h17 =>
    bd (lp (B_md_miceAll_67 l0 l1 l2 s) FU ((1 : Int64), (0 : Int32), (0 : Int32)) h17) fun x36 h38 =>
    bn (gL h38 l0 13 33) fun x39 =>
    bn (F_md_netOf l0 l1 h38) fun x42 =>
    bn (if x42 < (0 : Int32) then
        (some (0 : Int64))
      else
        (some x36.1)) fun q43 =>
    bn (pL h38 l0 13 33 (x39 + q43)) fun h44 =>
    bn (gL h44 l0 13 34) fun x46 =>
    bn (F_md_netOf l0 l1 h44) fun x49 =>
    bn (pL h44 l0 13 34 (x46 + (x36.1 * (((1000 : Int32) + x49).toInt64)))) fun h50 =>
    bn (gL h50 l0 13 35) fun x52 =>
    bn (pL h50 l0 13 35 (x52 + (x36.1 * x36.2.toInt64))) fun h54 =>
    some (.inl (s + (1 : Int32)), h54))
  else
    (some (.inr (), h))
set_option maxRecDepth 20000 in
theorem L_md_miceAll_47 (d : Nat) (hd : 3 ≤ d) {l0 : Nat} {l1 : Int32} {l2 : Int32} : ∀ (n : Nat) (s : Int32) (h : Hp) (x : Unit) (hx : Hp), lp (B_md_miceAll_47 l0 l1 l2) n s h = some (x, hx) → ∀ r, Ev P d 295 (205, [unk, unk, unk, unk, unk, unk, unk, unk], [], hx) r → Ev P d 295 (47, [.ref l0, .int l1, .int l2, .int s, unk, unk, unk, unk], [], h) r := by
  refine lp_ev (G0 := fun (s : Int32) h r => Ev P d 295 (47, [.ref l0, .int l1, .int l2, .int s, unk, unk, unk, unk], [], h) r) (X := fun (x : Unit) hx r => Ev P d 295 (205, [unk, unk, unk, unk, unk, unk, unk, unk], [], hx) r) ?_
  intro s h y h9 hS r hK
  unfold B_md_miceAll_47 at hS
  show Ev P d 295 (47, [.ref l0, .int l1, .int l2, .int s, unk, unk, unk, unk], [], h) r
  refine ev_iload_n pm295 i295_47 rfl rfl rfl ?_
  refine ev_iconst (v := 1) pm295 i295_48 rfl (by decide) rfl ?_
  refine ev_iload_n pm295 i295_49 rfl rfl rfl ?_
  refine ev_b2 (f := fun x y => x <<< (y &&& 31)) pm295 i295_50 rfl (fun _ _ _ _ => rfl) rfl ?_
  by_cases c735 : s < ((1 : Int32) <<< (l2 &&& 31))
  · rw [if_pos c735] at hS
    refine ev_icmp_ge_t (t := 205) pm295 i295_51 rfl c735 rfl rfl ?_
    refine ev_lconst (v := 1) pm295 i295_54 rfl (by decide) rfl ?_
    refine ev_lstore (ls' := [.ref l0, .int l1, .int l2, .int s, .long (1 : Int64), unk, unk, unk]) pm295 i295_55 rfl (Nat.le_of_ble_eq_true rfl) rfl rfl ?_
    refine ev_iconst (v := 0) pm295 i295_57 rfl (by decide) rfl ?_
    refine ev_istore (ls' := [.ref l0, .int l1, .int l2, .int s, .long (1 : Int64), unk, .int (0 : Int32), unk]) pm295 i295_58 rfl (Nat.le_of_ble_eq_true rfl) rfl rfl ?_
    refine ev_aload_n pm295 i295_60 rfl rfl rfl ?_
    obtain ⟨h17, e16, hS⟩ := bn_s hS
    refine ev_callV (sa := []) (rest := []) (st' := []) (ls0 := [.ref l0, unk]) (rv := none) pm295 i295_61 rfl rfl pm229 (by decide) (K_md_works e16) rfl rfl (Nat.le_of_ble_eq_true rfl) (by omega) rfl (R_md_works (d - 1) (by omega) e16) (by simp) rfl rfl ?_
    refine ev_iconst (v := 0) pm295 i295_64 rfl (by decide) rfl ?_
    refine ev_istore (ls' := [.ref l0, .int l1, .int l2, .int s, .long (1 : Int64), unk, .int (0 : Int32), .int (0 : Int32)]) pm295 i295_65 rfl (Nat.le_of_ble_eq_true rfl) rfl rfl ?_
    obtain ⟨x36, h38, e37, hS⟩ := bd_s hS
    refine L_md_miceAll_67 d (by omega) _ _ _ _ _ e37 _ ?_
    show Ev P d 295 (139, [.ref l0, .int l1, .int l2, .int s, .long x36.1, unk, .int x36.2, unk], [], h38) _
    refine ev_aload_n pm295 i295_139 rfl rfl rfl ?_
    refine ev_dup pm295 i295_140 rfl rfl rfl ?_
    obtain ⟨x39, e40, hS⟩ := bn_s hS
    refine ev_getL pm295 i295_141 rfl rfl rfl e40 rfl ?_
    refine ev_aload_n pm295 i295_144 rfl rfl rfl ?_
    refine ev_iload_n pm295 i295_145 rfl rfl rfl ?_
    obtain ⟨x42, e41, hS⟩ := bn_s hS
    refine ev_callV (sa := [.int l1]) (rest := [.long x39, .ref l0]) (st' := [.int x42, .long x39, .ref l0]) (ls0 := [.ref l0, .int l1]) (rv := some (.int x42)) pm295 i295_146 rfl rfl pm236 (by decide) (K_md_netOf e41) rfl rfl (Nat.le_of_ble_eq_true rfl) (by omega) rfl (R_md_netOf (d - 1) (by omega) e41) (by simp) rfl rfl ?_
    obtain ⟨q43, I736, hS⟩ := bn_s hS
    have J2 : Ev P d 295 (158, [.ref l0, .int l1, .int l2, .int s, .long x36.1, unk, .int x36.2, unk], [.long q43, .long x39, .ref l0], h38) r := by
      refine ev_bl2 (f := fun x y => x + y) pm295 i295_158 rfl (fun _ _ _ _ => rfl) rfl ?_
      obtain ⟨h44, e45, hS⟩ := bn_s hS
      refine ev_putL pm295 i295_159 rfl rfl rfl e45 rfl ?_
      refine ev_aload_n pm295 i295_162 rfl rfl rfl ?_
      refine ev_dup pm295 i295_163 rfl rfl rfl ?_
      obtain ⟨x46, e47, hS⟩ := bn_s hS
      refine ev_getL pm295 i295_164 rfl rfl rfl e47 rfl ?_
      refine ev_lload pm295 i295_167 rfl rfl rfl ?_
      refine ev_sipush (v := 1000) pm295 i295_169 rfl (by decide) rfl ?_
      refine ev_aload_n pm295 i295_172 rfl rfl rfl ?_
      refine ev_iload_n pm295 i295_173 rfl rfl rfl ?_
      obtain ⟨x49, e48, hS⟩ := bn_s hS
      refine ev_callV (sa := [.int l1]) (rest := [.int (1000 : Int32), .long x36.1, .long x46, .ref l0]) (st' := [.int x49, .int (1000 : Int32), .long x36.1, .long x46, .ref l0]) (ls0 := [.ref l0, .int l1]) (rv := some (.int x49)) pm295 i295_174 rfl rfl pm236 (by decide) (K_md_netOf e48) rfl rfl (Nat.le_of_ble_eq_true rfl) (by omega) rfl (R_md_netOf (d - 1) (by omega) e48) (by simp) rfl rfl ?_
      refine ev_b2 (f := fun x y => x + y) pm295 i295_177 rfl (fun _ _ _ _ => rfl) rfl ?_
      refine ev_i2l pm295 i295_178 rfl rfl ?_
      refine ev_bl2 (f := fun x y => x * y) pm295 i295_179 rfl (fun _ _ _ _ => rfl) rfl ?_
      refine ev_bl2 (f := fun x y => x + y) pm295 i295_180 rfl (fun _ _ _ _ => rfl) rfl ?_
      obtain ⟨h50, e51, hS⟩ := bn_s hS
      refine ev_putL pm295 i295_181 rfl rfl rfl e51 rfl ?_
      refine ev_aload_n pm295 i295_184 rfl rfl rfl ?_
      refine ev_dup pm295 i295_185 rfl rfl rfl ?_
      obtain ⟨x52, e53, hS⟩ := bn_s hS
      refine ev_getL pm295 i295_186 rfl rfl rfl e53 rfl ?_
      refine ev_lload pm295 i295_189 rfl rfl rfl ?_
      refine ev_iload pm295 i295_191 rfl rfl rfl ?_
      refine ev_i2l pm295 i295_193 rfl rfl ?_
      refine ev_bl2 (f := fun x y => x * y) pm295 i295_194 rfl (fun _ _ _ _ => rfl) rfl ?_
      refine ev_bl2 (f := fun x y => x + y) pm295 i295_195 rfl (fun _ _ _ _ => rfl) rfl ?_
      obtain ⟨h54, e55, hS⟩ := bn_s hS
      refine ev_putL pm295 i295_196 rfl rfl rfl e55 rfl ?_
      refine ev_iinc (v := 1) (ls' := [.ref l0, .int l1, .int l2, .int (s + (1 : Int32)), .long x36.1, unk, .int x36.2, unk]) pm295 i295_199 rfl rfl (by decide) rfl rfl ?_
      refine ev_goto (t := 47) pm295 i295_202 rfl rfl ?_
      refine ev_kls (ls' := [.ref l0, .int l1, .int l2, .int (s + (1 : Int32)), unk, unk, unk, unk]) pm295 i295_47 rfl rfl ?_
      cases hS
      exact hK
    clear hS
    by_cases c736 : x42 < (0 : Int32)
    · rw [if_pos c736] at I736
      refine ev_if_lt_t (t := 157) pm295 i295_149 rfl c736 rfl rfl ?_
      refine ev_lconst (v := 0) pm295 i295_157 rfl (by decide) rfl ?_
      cases I736
      exact J2
    · rw [if_neg c736] at I736
      refine ev_if_lt_f (t := 157) pm295 i295_149 rfl c736 rfl rfl ?_
      refine ev_lload pm295 i295_152 rfl rfl rfl ?_
      refine ev_goto (t := 158) pm295 i295_154 rfl rfl ?_
      cases I736
      exact J2
  · rw [if_neg c735] at hS
    refine ev_icmp_ge_f (t := 205) pm295 i295_51 rfl c735 rfl rfl ?_
    refine ev_kls (ls' := [unk, unk, unk, unk, unk, unk, unk, unk]) pm295 i295_205 rfl rfl ?_
    cases hS
    exact hK
def F_md_miceAll (a0 : Nat) (a1 : Int32) (a2 : Int32) (h : Hp) : Option Hp :=
  ck h a0 13 (bn (pL h a0 13 32 (1 : Int64)) fun h1 =>
  bn (pL h1 a0 13 33 (0 : Int64)) fun h3 =>
  bn (pL h3 a0 13 34 (0 : Int64)) fun h5 =>
  bn (pL h5 a0 13 35 (0 : Int64)) fun h7 =>
  bd (lp (B_md_miceAll_22 a0 a1 a2) FU (0 : Int32) h7) fun x13 h15 =>
  bd (lp (B_md_miceAll_47 a0 a1 a2) FU (0 : Int32) h15) fun x56 h58 =>
  some h58)
set_option maxRecDepth 20000 in
theorem K_md_miceAll {a0 : Nat} {a1 : Int32} {a2 : Int32} {h : Hp} {h' : Hp} (hS : F_md_miceAll a0 a1 a2 h = some h') : kd h a0 = 13 := by
  unfold F_md_miceAll at hS
  exact (ck_s hS).1
set_option maxRecDepth 20000 in
theorem R_md_miceAll (d : Nat) (hd : 3 ≤ d) {a0 : Nat} {a1 : Int32} {a2 : Int32} {h : Hp} {h' : Hp} (hS : F_md_miceAll a0 a1 a2 h = some h') : Ev P d 295 (0, [.ref a0, .int a1, .int a2, unk, unk, unk, unk, unk], [], h) (none, h') := by
  unfold F_md_miceAll at hS
  replace hS := (ck_s hS).2
  refine ev_aload_n pm295 i295_0 rfl rfl rfl ?_
  refine ev_lconst (v := 1) pm295 i295_1 rfl (by decide) rfl ?_
  obtain ⟨h1, e2, hS⟩ := bn_s hS
  refine ev_putL pm295 i295_2 rfl rfl rfl e2 rfl ?_
  refine ev_aload_n pm295 i295_5 rfl rfl rfl ?_
  refine ev_lconst (v := 0) pm295 i295_6 rfl (by decide) rfl ?_
  obtain ⟨h3, e4, hS⟩ := bn_s hS
  refine ev_putL pm295 i295_7 rfl rfl rfl e4 rfl ?_
  refine ev_aload_n pm295 i295_10 rfl rfl rfl ?_
  refine ev_lconst (v := 0) pm295 i295_11 rfl (by decide) rfl ?_
  obtain ⟨h5, e6, hS⟩ := bn_s hS
  refine ev_putL pm295 i295_12 rfl rfl rfl e6 rfl ?_
  refine ev_aload_n pm295 i295_15 rfl rfl rfl ?_
  refine ev_lconst (v := 0) pm295 i295_16 rfl (by decide) rfl ?_
  obtain ⟨h7, e8, hS⟩ := bn_s hS
  refine ev_putL pm295 i295_17 rfl rfl rfl e8 rfl ?_
  refine ev_iconst (v := 0) pm295 i295_20 rfl (by decide) rfl ?_
  refine ev_istore_n (ls' := [.ref a0, .int a1, .int a2, .int (0 : Int32), unk, unk, unk, unk]) pm295 i295_21 rfl (Nat.le_of_ble_eq_true rfl) rfl rfl ?_
  obtain ⟨x13, h15, e14, hS⟩ := bd_s hS
  refine L_md_miceAll_22 d (by omega) _ _ _ _ _ e14 _ ?_
  show Ev P d 295 (45, [.ref a0, .int a1, .int a2, unk, unk, unk, unk, unk], [], h15) _
  refine ev_iconst (v := 0) pm295 i295_45 rfl (by decide) rfl ?_
  refine ev_istore_n (ls' := [.ref a0, .int a1, .int a2, .int (0 : Int32), unk, unk, unk, unk]) pm295 i295_46 rfl (Nat.le_of_ble_eq_true rfl) rfl rfl ?_
  obtain ⟨x56, h58, e57, hS⟩ := bd_s hS
  refine L_md_miceAll_47 d (by omega) _ _ _ _ _ e57 _ ?_
  show Ev P d 295 (205, [unk, unk, unk, unk, unk, unk, unk, unk], [], h58) _
  cases hS
  exact ev_return pm295 i295_205 rfl rfl rfl
def B_md_common_6 (s : Int64 × Int64) : Option ((Int64 × Int64) ⊕ (Int64)) :=
  if (lg_cmp s.2 (0 : Int64)) = (0 : Int32) then
    (some (.inr s.1))
  else
    (bn (rm64 s.1 s.2) fun x1 =>
    some (.inl (s.2, x1)))
set_option maxRecDepth 20000 in
theorem L_md_common_6 (d : Nat) (hd : 0 ≤ d) {h : Hp} : ∀ (n : Nat) (s : Int64 × Int64) (x : Int64), lq (B_md_common_6) n s = some x → ∀ r, Ev P d 298 (31, [unk, unk, unk, unk, .long x, unk, unk, unk, unk, unk], [], h) r → Ev P d 298 (6, [unk, unk, unk, unk, .long s.1, unk, .long s.2, unk, unk, unk], [], h) r := by
  refine lq_ev (G0 := fun (s : Int64 × Int64) r => Ev P d 298 (6, [unk, unk, unk, unk, .long s.1, unk, .long s.2, unk, unk, unk], [], h) r) (X := fun (x : Int64) r => Ev P d 298 (31, [unk, unk, unk, unk, .long x, unk, unk, unk, unk, unk], [], h) r) ?_
  intro s y hS r hK
  unfold B_md_common_6 at hS
  show Ev P d 298 (6, [unk, unk, unk, unk, .long s.1, unk, .long s.2, unk, unk, unk], [], h) r
  refine ev_lload pm298 i298_6 rfl rfl rfl ?_
  refine ev_lconst (v := 0) pm298 i298_8 rfl (by decide) rfl ?_
  refine ev_lcmp pm298 i298_9 rfl rfl ?_
  by_cases c737 : (lg_cmp s.2 (0 : Int64)) = (0 : Int32)
  · rw [if_pos c737] at hS
    refine ev_if_eq_t (t := 31) pm298 i298_10 rfl c737 rfl rfl ?_
    refine ev_kls (ls' := [unk, unk, unk, unk, .long s.1, unk, unk, unk, unk, unk]) pm298 i298_31 rfl rfl ?_
    cases hS
    exact hK
  · rw [if_neg c737] at hS
    refine ev_if_eq_f (t := 31) pm298 i298_10 rfl c737 rfl rfl ?_
    refine ev_lload pm298 i298_13 rfl rfl rfl ?_
    refine ev_lload pm298 i298_15 rfl rfl rfl ?_
    obtain ⟨x1, e2, hS⟩ := bn_s hS
    refine ev_lrem pm298 i298_17 rfl e2 rfl ?_
    refine ev_lstore (ls' := [unk, unk, unk, unk, .long s.1, unk, .long s.2, unk, .long x1, unk]) pm298 i298_18 rfl (Nat.le_of_ble_eq_true rfl) rfl rfl ?_
    refine ev_lload pm298 i298_20 rfl rfl rfl ?_
    refine ev_lstore (ls' := [unk, unk, unk, unk, .long s.2, unk, .long s.2, unk, .long x1, unk]) pm298 i298_22 rfl (Nat.le_of_ble_eq_true rfl) rfl rfl ?_
    refine ev_lload pm298 i298_24 rfl rfl rfl ?_
    refine ev_lstore (ls' := [unk, unk, unk, unk, .long s.2, unk, .long x1, unk, .long x1, unk]) pm298 i298_26 rfl (Nat.le_of_ble_eq_true rfl) rfl rfl ?_
    refine ev_goto (t := 6) pm298 i298_28 rfl rfl ?_
    refine ev_kls (ls' := [unk, unk, unk, unk, .long s.2, unk, .long x1, unk, unk, unk]) pm298 i298_6 rfl rfl ?_
    cases hS
    exact hK
def F_md_common (a0 : Int64) (a1 : Int64) : Option Int64 :=
  bn (lq (B_md_common_6) FU (a0, a1)) fun x3 =>
  some x3
set_option maxRecDepth 20000 in
theorem R_md_common (d : Nat) (hd : 0 ≤ d) {a0 : Int64} {a1 : Int64} {h : Hp} {v : Int64} (hS : F_md_common a0 a1 = some v) : Ev P d 298 (0, [.long a0, unk, .long a1, unk, unk, unk, unk, unk, unk, unk], [], h) (some (.long v), h) := by
  unfold F_md_common at hS
  refine ev_lload_n pm298 i298_0 rfl rfl rfl ?_
  refine ev_lstore (ls' := [.long a0, unk, .long a1, unk, .long a0, unk, unk, unk, unk, unk]) pm298 i298_1 rfl (Nat.le_of_ble_eq_true rfl) rfl rfl ?_
  refine ev_lload_n pm298 i298_3 rfl rfl rfl ?_
  refine ev_lstore (ls' := [.long a0, unk, .long a1, unk, .long a0, unk, .long a1, unk, unk, unk]) pm298 i298_4 rfl (Nat.le_of_ble_eq_true rfl) rfl rfl ?_
  refine ev_kls (ls' := [unk, unk, unk, unk, .long a0, unk, .long a1, unk, unk, unk]) pm298 i298_6 rfl rfl ?_
  obtain ⟨x3, e4, hS⟩ := bn_s hS
  refine L_md_common_6 d (by omega) _ _ _ e4 _ ?_
  show Ev P d 298 (31, [unk, unk, unk, unk, .long x3, unk, unk, unk, unk, unk], [], h) _
  refine ev_lload pm298 i298_31 rfl rfl rfl ?_
  cases hS
  exact ev_lreturn pm298 i298_33 rfl rfl rfl
def F_md_fraction (a0 : Nat) (a1 : Int64) (a2 : Int64) (a3 : Int32) (h : Hp) : Option (Int64 × Hp) :=
  ck h a0 13 (bd (F_md_good a0 (0 : Int32) h) fun x2 h3 =>
  bn (if a3 = (0 : Int32) then
      (some a1)
    else
      (some a2)) fun q4 =>
  bn (F_md_common a1 a2) fun x6 =>
  bn (dv64 q4 x6) fun x7 =>
  some (x7, h3))
set_option maxRecDepth 20000 in
theorem K_md_fraction {a0 : Nat} {a1 : Int64} {a2 : Int64} {a3 : Int32} {h : Hp} {v : Int64} {h' : Hp} (hS : F_md_fraction a0 a1 a2 a3 h = some (v, h')) : kd h a0 = 13 := by
  unfold F_md_fraction at hS
  exact (ck_s hS).1
set_option maxRecDepth 20000 in
theorem R_md_fraction (d : Nat) (hd : 1 ≤ d) {a0 : Nat} {a1 : Int64} {a2 : Int64} {a3 : Int32} {h : Hp} {v : Int64} {h' : Hp} (hS : F_md_fraction a0 a1 a2 a3 h = some (v, h')) : Ev P d 297 (0, [.ref a0, .long a1, unk, .long a2, unk, .int a3], [], h) (some (.long v), h') := by
  unfold F_md_fraction at hS
  replace hS := (ck_s hS).2
  refine ev_aload_n pm297 i297_0 rfl rfl rfl ?_
  refine ev_iconst (v := 0) pm297 i297_1 rfl (by decide) rfl ?_
  obtain ⟨x2, h3, e1, hS⟩ := bd_s hS
  refine ev_callV (sa := [.int (0 : Int32)]) (rest := []) (st' := [.int x2]) (ls0 := [.ref a0, .int (0 : Int32)]) (rv := some (.int x2)) pm297 i297_2 rfl rfl pm224 (by decide) (K_md_good e1) rfl rfl (Nat.le_of_ble_eq_true rfl) (by omega) rfl (R_md_good (d - 1) (by omega) e1) (by simp) rfl rfl ?_
  refine ev_pop pm297 i297_5 rfl rfl rfl ?_
  refine ev_iload pm297 i297_6 rfl rfl rfl ?_
  obtain ⟨q4, I738, hS⟩ := bn_s hS
  have J1 : Ev P d 297 (16, [unk, .long a1, unk, .long a2, unk, unk], [.long q4], h3) (some (.long v), h') := by
    refine ev_lload_n pm297 i297_16 rfl rfl rfl ?_
    refine ev_lload_n pm297 i297_17 rfl rfl rfl ?_
    obtain ⟨x6, e5, hS⟩ := bn_s hS
    refine ev_callS (sa := [.long a2, .long a1]) (rest := [.long q4]) (st' := [.long x6, .long q4]) (ls0 := [.long a1, unk, .long a2, unk, unk, unk, unk, unk, unk, unk]) (rv := some (.long x6)) pm297 i297_18 rfl rfl pm298 (by decide) rfl rfl (Nat.le_of_ble_eq_true rfl) (by omega) rfl (R_md_common (d - 1) (by omega) e5) (by simp) rfl rfl ?_
    obtain ⟨x7, e8, hS⟩ := bn_s hS
    refine ev_ldiv pm297 i297_21 rfl e8 rfl ?_
    cases hS
    exact ev_lreturn pm297 i297_22 rfl rfl rfl
  clear hS
  by_cases c738 : a3 = (0 : Int32)
  · rw [if_pos c738] at I738
    refine ev_if_eq_t (t := 15) pm297 i297_8 rfl c738 rfl rfl ?_
    refine ev_lload_n pm297 i297_15 rfl rfl rfl ?_
    refine ev_kls (ls' := [unk, .long a1, unk, .long a2, unk, unk]) pm297 i297_16 rfl rfl ?_
    cases I738
    exact J1
  · rw [if_neg c738] at I738
    refine ev_if_eq_f (t := 15) pm297 i297_8 rfl c738 rfl rfl ?_
    refine ev_lload_n pm297 i297_11 rfl rfl rfl ?_
    refine ev_goto (t := 16) pm297 i297_12 rfl rfl ?_
    refine ev_kls (ls' := [unk, .long a1, unk, .long a2, unk, unk]) pm297 i297_16 rfl rfl ?_
    cases I738
    exact J1
def F_md_dry (a0 : Nat) (a1 : Int32) (a2 : Int32) (a3 : Int32) (h : Hp) : Option (Int64 × Hp) :=
  ck h a0 13 (bn (pI h a0 13 0 (0 : Int32)) fun h1 =>
  bn (F_md_refusesMice a0 a1 a2 h1) fun x4 =>
  if (0 : Int32) < x4 then
    (bd (F_md_refused a0 x4 h1) fun x6 h7 =>
    some (x6.toInt64, h7))
  else
    (bn (F_md_miceAll a0 a1 a2 h1) fun h9 =>
    bn (gL h9 a0 13 33) fun x10 =>
    bn (gL h9 a0 13 32) fun x12 =>
    bd (F_md_fraction a0 x10 x12 a3 h9) fun x15 h16 =>
    some (x15, h16)))
set_option maxRecDepth 20000 in
theorem K_md_dry {a0 : Nat} {a1 : Int32} {a2 : Int32} {a3 : Int32} {h : Hp} {v : Int64} {h' : Hp} (hS : F_md_dry a0 a1 a2 a3 h = some (v, h')) : kd h a0 = 13 := by
  unfold F_md_dry at hS
  exact (ck_s hS).1
set_option maxRecDepth 20000 in
theorem R_md_dry (d : Nat) (hd : 4 ≤ d) {a0 : Nat} {a1 : Int32} {a2 : Int32} {a3 : Int32} {h : Hp} {v : Int64} {h' : Hp} (hS : F_md_dry a0 a1 a2 a3 h = some (v, h')) : Ev P d 293 (0, [.ref a0, .int a1, .int a2, .int a3, unk], [], h) (some (.long v), h') := by
  unfold F_md_dry at hS
  replace hS := (ck_s hS).2
  refine ev_aload_n pm293 i293_0 rfl rfl rfl ?_
  refine ev_iconst (v := 0) pm293 i293_1 rfl (by decide) rfl ?_
  obtain ⟨h1, e2, hS⟩ := bn_s hS
  refine ev_putI pm293 i293_2 rfl rfl rfl e2 rfl ?_
  refine ev_aload_n pm293 i293_5 rfl rfl rfl ?_
  refine ev_iload_n pm293 i293_6 rfl rfl rfl ?_
  refine ev_iload_n pm293 i293_7 rfl rfl rfl ?_
  obtain ⟨x4, e3, hS⟩ := bn_s hS
  refine ev_callV (sa := [.int a2, .int a1]) (rest := []) (st' := [.int x4]) (ls0 := [.ref a0, .int a1, .int a2]) (rv := some (.int x4)) pm293 i293_8 rfl rfl pm294 (by decide) (K_md_refusesMice e3) rfl rfl (Nat.le_of_ble_eq_true rfl) (by omega) rfl (R_md_refusesMice (d - 1) (by omega) e3) (by simp) rfl rfl ?_
  refine ev_istore (ls' := [.ref a0, .int a1, .int a2, .int a3, .int x4]) pm293 i293_11 rfl (Nat.le_of_ble_eq_true rfl) rfl rfl ?_
  refine ev_iload pm293 i293_13 rfl rfl rfl ?_
  by_cases c739 : (0 : Int32) < x4
  · rw [if_pos c739] at hS
    refine ev_if_le_t (t := 26) pm293 i293_15 rfl c739 rfl rfl ?_
    refine ev_aload_n pm293 i293_18 rfl rfl rfl ?_
    refine ev_iload pm293 i293_19 rfl rfl rfl ?_
    obtain ⟨x6, h7, e5, hS⟩ := bd_s hS
    refine ev_callV (sa := [.int x4]) (rest := []) (st' := [.int x6]) (ls0 := [.ref a0, .int x4]) (rv := some (.int x6)) pm293 i293_21 rfl rfl pm186 (by decide) (K_md_refused e5) rfl rfl (Nat.le_of_ble_eq_true rfl) (by omega) rfl (R_md_refused (d - 1) (by omega) e5) (by simp) rfl rfl ?_
    refine ev_i2l pm293 i293_24 rfl rfl ?_
    cases hS
    exact ev_lreturn pm293 i293_25 rfl rfl rfl
  · rw [if_neg c739] at hS
    refine ev_if_le_f (t := 26) pm293 i293_15 rfl c739 rfl rfl ?_
    refine ev_aload_n pm293 i293_26 rfl rfl rfl ?_
    refine ev_iload_n pm293 i293_27 rfl rfl rfl ?_
    refine ev_iload_n pm293 i293_28 rfl rfl rfl ?_
    obtain ⟨h9, e8, hS⟩ := bn_s hS
    refine ev_callV (sa := [.int a2, .int a1]) (rest := []) (st' := []) (ls0 := [.ref a0, .int a1, .int a2, unk, unk, unk, unk, unk]) (rv := none) pm293 i293_29 rfl rfl pm295 (by decide) (K_md_miceAll e8) rfl rfl (Nat.le_of_ble_eq_true rfl) (by omega) rfl (R_md_miceAll (d - 1) (by omega) e8) (by simp) rfl rfl ?_
    refine ev_aload_n pm293 i293_32 rfl rfl rfl ?_
    refine ev_aload_n pm293 i293_33 rfl rfl rfl ?_
    obtain ⟨x10, e11, hS⟩ := bn_s hS
    refine ev_getL pm293 i293_34 rfl rfl rfl e11 rfl ?_
    refine ev_aload_n pm293 i293_37 rfl rfl rfl ?_
    obtain ⟨x12, e13, hS⟩ := bn_s hS
    refine ev_getL pm293 i293_38 rfl rfl rfl e13 rfl ?_
    refine ev_iload_n pm293 i293_41 rfl rfl rfl ?_
    obtain ⟨x15, h16, e14, hS⟩ := bd_s hS
    refine ev_callV (sa := [.int a3, .long x12, .long x10]) (rest := []) (st' := [.long x15]) (ls0 := [.ref a0, .long x10, unk, .long x12, unk, .int a3]) (rv := some (.long x15)) pm293 i293_42 rfl rfl pm297 (by decide) (K_md_fraction e14) rfl rfl (Nat.le_of_ble_eq_true rfl) (by omega) rfl (R_md_fraction (d - 1) (by omega) e14) (by simp) rfl rfl ?_
    cases hS
    exact ev_lreturn pm293 i293_45 rfl rfl rfl
def F_md_mean (a0 : Nat) (a1 : Int32) (a2 : Int32) (a3 : Int32) (h : Hp) : Option (Int64 × Hp) :=
  ck h a0 13 (bn (pI h a0 13 0 (0 : Int32)) fun h1 =>
  bn (F_md_refusesMice a0 a1 a2 h1) fun x4 =>
  if (0 : Int32) < x4 then
    (bd (F_md_refused a0 x4 h1) fun x6 h7 =>
    some (x6.toInt64, h7))
  else
    (bn (F_md_miceAll a0 a1 a2 h1) fun h9 =>
    bn (gL h9 a0 13 34) fun x10 =>
    bn (gL h9 a0 13 32) fun x12 =>
    bd (F_md_fraction a0 x10 x12 a3 h9) fun x15 h16 =>
    some (x15, h16)))
set_option maxRecDepth 20000 in
theorem K_md_mean {a0 : Nat} {a1 : Int32} {a2 : Int32} {a3 : Int32} {h : Hp} {v : Int64} {h' : Hp} (hS : F_md_mean a0 a1 a2 a3 h = some (v, h')) : kd h a0 = 13 := by
  unfold F_md_mean at hS
  exact (ck_s hS).1
set_option maxRecDepth 20000 in
theorem R_md_mean (d : Nat) (hd : 4 ≤ d) {a0 : Nat} {a1 : Int32} {a2 : Int32} {a3 : Int32} {h : Hp} {v : Int64} {h' : Hp} (hS : F_md_mean a0 a1 a2 a3 h = some (v, h')) : Ev P d 299 (0, [.ref a0, .int a1, .int a2, .int a3, unk], [], h) (some (.long v), h') := by
  unfold F_md_mean at hS
  replace hS := (ck_s hS).2
  refine ev_aload_n pm299 i299_0 rfl rfl rfl ?_
  refine ev_iconst (v := 0) pm299 i299_1 rfl (by decide) rfl ?_
  obtain ⟨h1, e2, hS⟩ := bn_s hS
  refine ev_putI pm299 i299_2 rfl rfl rfl e2 rfl ?_
  refine ev_aload_n pm299 i299_5 rfl rfl rfl ?_
  refine ev_iload_n pm299 i299_6 rfl rfl rfl ?_
  refine ev_iload_n pm299 i299_7 rfl rfl rfl ?_
  obtain ⟨x4, e3, hS⟩ := bn_s hS
  refine ev_callV (sa := [.int a2, .int a1]) (rest := []) (st' := [.int x4]) (ls0 := [.ref a0, .int a1, .int a2]) (rv := some (.int x4)) pm299 i299_8 rfl rfl pm294 (by decide) (K_md_refusesMice e3) rfl rfl (Nat.le_of_ble_eq_true rfl) (by omega) rfl (R_md_refusesMice (d - 1) (by omega) e3) (by simp) rfl rfl ?_
  refine ev_istore (ls' := [.ref a0, .int a1, .int a2, .int a3, .int x4]) pm299 i299_11 rfl (Nat.le_of_ble_eq_true rfl) rfl rfl ?_
  refine ev_iload pm299 i299_13 rfl rfl rfl ?_
  by_cases c740 : (0 : Int32) < x4
  · rw [if_pos c740] at hS
    refine ev_if_le_t (t := 26) pm299 i299_15 rfl c740 rfl rfl ?_
    refine ev_aload_n pm299 i299_18 rfl rfl rfl ?_
    refine ev_iload pm299 i299_19 rfl rfl rfl ?_
    obtain ⟨x6, h7, e5, hS⟩ := bd_s hS
    refine ev_callV (sa := [.int x4]) (rest := []) (st' := [.int x6]) (ls0 := [.ref a0, .int x4]) (rv := some (.int x6)) pm299 i299_21 rfl rfl pm186 (by decide) (K_md_refused e5) rfl rfl (Nat.le_of_ble_eq_true rfl) (by omega) rfl (R_md_refused (d - 1) (by omega) e5) (by simp) rfl rfl ?_
    refine ev_i2l pm299 i299_24 rfl rfl ?_
    cases hS
    exact ev_lreturn pm299 i299_25 rfl rfl rfl
  · rw [if_neg c740] at hS
    refine ev_if_le_f (t := 26) pm299 i299_15 rfl c740 rfl rfl ?_
    refine ev_aload_n pm299 i299_26 rfl rfl rfl ?_
    refine ev_iload_n pm299 i299_27 rfl rfl rfl ?_
    refine ev_iload_n pm299 i299_28 rfl rfl rfl ?_
    obtain ⟨h9, e8, hS⟩ := bn_s hS
    refine ev_callV (sa := [.int a2, .int a1]) (rest := []) (st' := []) (ls0 := [.ref a0, .int a1, .int a2, unk, unk, unk, unk, unk]) (rv := none) pm299 i299_29 rfl rfl pm295 (by decide) (K_md_miceAll e8) rfl rfl (Nat.le_of_ble_eq_true rfl) (by omega) rfl (R_md_miceAll (d - 1) (by omega) e8) (by simp) rfl rfl ?_
    refine ev_aload_n pm299 i299_32 rfl rfl rfl ?_
    refine ev_aload_n pm299 i299_33 rfl rfl rfl ?_
    obtain ⟨x10, e11, hS⟩ := bn_s hS
    refine ev_getL pm299 i299_34 rfl rfl rfl e11 rfl ?_
    refine ev_aload_n pm299 i299_37 rfl rfl rfl ?_
    obtain ⟨x12, e13, hS⟩ := bn_s hS
    refine ev_getL pm299 i299_38 rfl rfl rfl e13 rfl ?_
    refine ev_iload_n pm299 i299_41 rfl rfl rfl ?_
    obtain ⟨x15, h16, e14, hS⟩ := bd_s hS
    refine ev_callV (sa := [.int a3, .long x12, .long x10]) (rest := []) (st' := [.long x15]) (ls0 := [.ref a0, .long x10, unk, .long x12, unk, .int a3]) (rv := some (.long x15)) pm299 i299_42 rfl rfl pm297 (by decide) (K_md_fraction e14) rfl rfl (Nat.le_of_ble_eq_true rfl) (by omega) rfl (R_md_fraction (d - 1) (by omega) e14) (by simp) rfl rfl ?_
    cases hS
    exact ev_lreturn pm299 i299_45 rfl rfl rfl
def B_md_safest_43 (l0 : Nat) (l1 : Int32) (s : Int32 × Int64 × Int32) (h : Hp) : Option (((Int32 × Int64 × Int32) ⊕ (Int32)) × Hp) :=
  bn (gR h l0 13 3) fun x13 =>
  bn (gI h x13 12 1) fun x15 =>
  if s.2.2 < x15 then
    (bn (gR h l0 13 3) fun x17 =>
    bn (gR h x17 12 9) fun x19 =>
    bn (aI h 100 x19 s.2.2) fun x21 =>
    if x21 = (1 : Int32) then
      (some (.inl (s.1, s.2.1, s.2.2 + (1 : Int32)), h))
    else
      (bn (F_md_miceAll l0 s.2.2 l1 h) fun h24 =>
      bn (gL h24 l0 13 33) fun x25 =>
      if (0 : Int32) < (lg_cmp x25 s.2.1) then
        (bn (gL h24 l0 13 33) fun x27 =>
        some (.inl (s.2.2, x27, s.2.2 + (1 : Int32)), h24))
      else
        (some (.inl (s.1, s.2.1, s.2.2 + (1 : Int32)), h24))))
  else
    (some (.inr s.1, h))
set_option maxRecDepth 20000 in
theorem L_md_safest_43 (d : Nat) (hd : 4 ≤ d) {l0 : Nat} {l1 : Int32} : ∀ (n : Nat) (s : Int32 × Int64 × Int32) (h : Hp) (x : Int32) (hx : Hp), lp (B_md_safest_43 l0 l1) n s h = some (x, hx) → ∀ r, Ev P d 300 (105, [.ref l0, unk, .int x, unk, unk, unk], [], hx) r → Ev P d 300 (43, [.ref l0, .int l1, .int s.1, .long s.2.1, unk, .int s.2.2], [], h) r := by
  refine lp_ev (G0 := fun (s : Int32 × Int64 × Int32) h r => Ev P d 300 (43, [.ref l0, .int l1, .int s.1, .long s.2.1, unk, .int s.2.2], [], h) r) (X := fun (x : Int32) hx r => Ev P d 300 (105, [.ref l0, unk, .int x, unk, unk, unk], [], hx) r) ?_
  intro s h y h9 hS r hK
  unfold B_md_safest_43 at hS
  show Ev P d 300 (43, [.ref l0, .int l1, .int s.1, .long s.2.1, unk, .int s.2.2], [], h) r
  refine ev_iload pm300 i300_43 rfl rfl rfl ?_
  refine ev_aload_n pm300 i300_45 rfl rfl rfl ?_
  obtain ⟨x13, e14, hS⟩ := bn_s hS
  refine ev_getR pm300 i300_46 rfl rfl rfl e14 rfl ?_
  obtain ⟨x15, e16, hS⟩ := bn_s hS
  refine ev_getI pm300 i300_49 rfl rfl (by decide) e16 rfl ?_
  by_cases c741 : s.2.2 < x15
  · rw [if_pos c741] at hS
    refine ev_icmp_ge_t (t := 105) pm300 i300_52 rfl c741 rfl rfl ?_
    refine ev_aload_n pm300 i300_55 rfl rfl rfl ?_
    obtain ⟨x17, e18, hS⟩ := bn_s hS
    refine ev_getR pm300 i300_56 rfl rfl rfl e18 rfl ?_
    obtain ⟨x19, e20, hS⟩ := bn_s hS
    refine ev_getR pm300 i300_59 rfl rfl rfl e20 rfl ?_
    refine ev_iload pm300 i300_62 rfl rfl rfl ?_
    obtain ⟨x21, e22, hS⟩ := bn_s hS
    refine ev_iald pm300 i300_64 rfl e22 rfl ?_
    refine ev_iconst (v := 1) pm300 i300_65 rfl (by decide) rfl ?_
    by_cases c742 : x21 = (1 : Int32)
    · rw [if_pos c742] at hS
      refine ev_icmp_ne_t (t := 72) pm300 i300_66 rfl c742 rfl rfl ?_
      refine ev_goto (t := 99) pm300 i300_69 rfl rfl ?_
      refine ev_iinc (v := 1) (ls' := [.ref l0, .int l1, .int s.1, .long s.2.1, unk, .int (s.2.2 + (1 : Int32))]) pm300 i300_99 rfl rfl (by decide) rfl rfl ?_
      refine ev_goto (t := 43) pm300 i300_102 rfl rfl ?_
      cases hS
      exact hK
    · rw [if_neg c742] at hS
      refine ev_icmp_ne_f (t := 72) pm300 i300_66 rfl c742 rfl rfl ?_
      refine ev_aload_n pm300 i300_72 rfl rfl rfl ?_
      refine ev_iload pm300 i300_73 rfl rfl rfl ?_
      refine ev_iload_n pm300 i300_75 rfl rfl rfl ?_
      obtain ⟨h24, e23, hS⟩ := bn_s hS
      refine ev_callV (sa := [.int l1, .int s.2.2]) (rest := []) (st' := []) (ls0 := [.ref l0, .int s.2.2, .int l1, unk, unk, unk, unk, unk]) (rv := none) pm300 i300_76 rfl rfl pm295 (by decide) (K_md_miceAll e23) rfl rfl (Nat.le_of_ble_eq_true rfl) (by omega) rfl (R_md_miceAll (d - 1) (by omega) e23) (by simp) rfl rfl ?_
      refine ev_aload_n pm300 i300_79 rfl rfl rfl ?_
      obtain ⟨x25, e26, hS⟩ := bn_s hS
      refine ev_getL pm300 i300_80 rfl rfl rfl e26 rfl ?_
      refine ev_lload_n pm300 i300_83 rfl rfl rfl ?_
      refine ev_lcmp pm300 i300_84 rfl rfl ?_
      by_cases c743 : (0 : Int32) < (lg_cmp x25 s.2.1)
      · rw [if_pos c743] at hS
        refine ev_if_gt_t (t := 91) pm300 i300_85 rfl c743 rfl rfl ?_
        refine ev_aload_n pm300 i300_91 rfl rfl rfl ?_
        obtain ⟨x27, e28, hS⟩ := bn_s hS
        refine ev_getL pm300 i300_92 rfl rfl rfl e28 rfl ?_
        refine ev_lstore_n (ls' := [.ref l0, .int l1, .int s.1, .long x27, unk, .int s.2.2]) pm300 i300_95 rfl (Nat.le_of_ble_eq_true rfl) rfl rfl ?_
        refine ev_iload pm300 i300_96 rfl rfl rfl ?_
        refine ev_istore_n (ls' := [.ref l0, .int l1, .int s.2.2, .long x27, unk, .int s.2.2]) pm300 i300_98 rfl (Nat.le_of_ble_eq_true rfl) rfl rfl ?_
        refine ev_iinc (v := 1) (ls' := [.ref l0, .int l1, .int s.2.2, .long x27, unk, .int (s.2.2 + (1 : Int32))]) pm300 i300_99 rfl rfl (by decide) rfl rfl ?_
        refine ev_goto (t := 43) pm300 i300_102 rfl rfl ?_
        cases hS
        exact hK
      · rw [if_neg c743] at hS
        refine ev_if_gt_f (t := 91) pm300 i300_85 rfl c743 rfl rfl ?_
        refine ev_goto (t := 99) pm300 i300_88 rfl rfl ?_
        refine ev_iinc (v := 1) (ls' := [.ref l0, .int l1, .int s.1, .long s.2.1, unk, .int (s.2.2 + (1 : Int32))]) pm300 i300_99 rfl rfl (by decide) rfl rfl ?_
        refine ev_goto (t := 43) pm300 i300_102 rfl rfl ?_
        cases hS
        exact hK
  · rw [if_neg c741] at hS
    refine ev_icmp_ge_f (t := 105) pm300 i300_52 rfl c741 rfl rfl ?_
    refine ev_kls (ls' := [.ref l0, unk, .int s.1, unk, unk, unk]) pm300 i300_105 rfl rfl ?_
    cases hS
    exact hK
def F_md_safest (a0 : Nat) (a1 : Int32) (h : Hp) : Option (Int32 × Hp) :=
  ck h a0 13 (bn (pI h a0 13 0 (0 : Int32)) fun h1 =>
  bn (gQ h1 a0 13 3) fun x3 =>
  if x3 = none then
    (bd (F_md_refused a0 (1 : Int32) h1) fun x6 h7 =>
    some (x6, h7))
  else
    (bn (F_md_in a1 (0 : Int32) (4 : Int32)) fun x9 =>
    if x9 = (0 : Int32) then
      (bd (F_md_refused a0 (2 : Int32) h1) fun x11 h12 =>
      some (x11, h12))
    else
      (bd (lp (B_md_safest_43 a0 a1) FU ((-2 : Int32), (-1 : Int64), (0 : Int32)) h1) fun x29 h31 =>
      bd (F_md_good a0 x29 h31) fun x33 h34 =>
      some (x33, h34))))
set_option maxRecDepth 20000 in
theorem K_md_safest {a0 : Nat} {a1 : Int32} {h : Hp} {v : Int32} {h' : Hp} (hS : F_md_safest a0 a1 h = some (v, h')) : kd h a0 = 13 := by
  unfold F_md_safest at hS
  exact (ck_s hS).1
set_option maxRecDepth 20000 in
theorem R_md_safest (d : Nat) (hd : 4 ≤ d) {a0 : Nat} {a1 : Int32} {h : Hp} {v : Int32} {h' : Hp} (hS : F_md_safest a0 a1 h = some (v, h')) : Ev P d 300 (0, [.ref a0, .int a1, unk, unk, unk, unk], [], h) (some (.int v), h') := by
  unfold F_md_safest at hS
  replace hS := (ck_s hS).2
  refine ev_aload_n pm300 i300_0 rfl rfl rfl ?_
  refine ev_iconst (v := 0) pm300 i300_1 rfl (by decide) rfl ?_
  obtain ⟨h1, e2, hS⟩ := bn_s hS
  refine ev_putI pm300 i300_2 rfl rfl rfl e2 rfl ?_
  refine ev_aload_n pm300 i300_5 rfl rfl rfl ?_
  obtain ⟨x3, e4, hS⟩ := bn_s hS
  refine ev_getQ pm300 i300_6 rfl rfl rfl e4 rfl ?_
  by_cases c744 : x3 = none
  · rw [if_pos c744] at hS
    subst c744
    refine ev_nonnullF pm300 i300_9 rfl rfl ?_
    refine ev_aload_n pm300 i300_12 rfl rfl rfl ?_
    refine ev_iconst (v := 1) pm300 i300_13 rfl (by decide) rfl ?_
    obtain ⟨x6, h7, e5, hS⟩ := bd_s hS
    refine ev_callV (sa := [.int (1 : Int32)]) (rest := []) (st' := [.int x6]) (ls0 := [.ref a0, .int (1 : Int32)]) (rv := some (.int x6)) pm300 i300_14 rfl rfl pm186 (by decide) (K_md_refused e5) rfl rfl (Nat.le_of_ble_eq_true rfl) (by omega) rfl (R_md_refused (d - 1) (by omega) e5) (by simp) rfl rfl ?_
    cases hS
    exact ev_ireturn pm300 i300_17 rfl rfl rfl
  · rw [if_neg c744] at hS
    obtain ⟨_, rfl⟩ := Option.ne_none_iff_exists'.mp c744
    refine ev_nonnullT (t := 18) pm300 i300_9 rfl rfl ?_
    refine ev_iload_n pm300 i300_18 rfl rfl rfl ?_
    refine ev_iconst (v := 0) pm300 i300_19 rfl (by decide) rfl ?_
    refine ev_iconst (v := 4) pm300 i300_20 rfl (by decide) rfl ?_
    obtain ⟨x9, e8, hS⟩ := bn_s hS
    refine ev_callS (sa := [.int (4 : Int32), .int (0 : Int32), .int a1]) (rest := []) (st' := [.int x9]) (ls0 := [.int a1, .int (0 : Int32), .int (4 : Int32)]) (rv := some (.int x9)) pm300 i300_21 rfl rfl pm201 (by decide) rfl rfl (Nat.le_of_ble_eq_true rfl) (by omega) rfl (R_md_in (d - 1) (by omega) e8) (by simp) rfl rfl ?_
    by_cases c745 : x9 = (0 : Int32)
    · rw [if_pos c745] at hS
      refine ev_if_ne_t (t := 33) pm300 i300_24 rfl c745 rfl rfl ?_
      refine ev_aload_n pm300 i300_27 rfl rfl rfl ?_
      refine ev_iconst (v := 2) pm300 i300_28 rfl (by decide) rfl ?_
      obtain ⟨x11, h12, e10, hS⟩ := bd_s hS
      refine ev_callV (sa := [.int (2 : Int32)]) (rest := []) (st' := [.int x11]) (ls0 := [.ref a0, .int (2 : Int32)]) (rv := some (.int x11)) pm300 i300_29 rfl rfl pm186 (by decide) (K_md_refused e10) rfl rfl (Nat.le_of_ble_eq_true rfl) (by omega) rfl (R_md_refused (d - 1) (by omega) e10) (by simp) rfl rfl ?_
      cases hS
      exact ev_ireturn pm300 i300_32 rfl rfl rfl
    · rw [if_neg c745] at hS
      refine ev_if_ne_f (t := 33) pm300 i300_24 rfl c745 rfl rfl ?_
      refine ev_bipush (v := -2) pm300 i300_33 rfl (by decide) rfl ?_
      refine ev_istore_n (ls' := [.ref a0, .int a1, .int (-2 : Int32), unk, unk, unk]) pm300 i300_35 rfl (Nat.le_of_ble_eq_true rfl) rfl rfl ?_
      refine ev_ldc2_w (v := .long (-1 : Int64)) pm300 i300_36 rfl rfl rfl ?_
      refine ev_lstore_n (ls' := [.ref a0, .int a1, .int (-2 : Int32), .long (-1 : Int64), unk, unk]) pm300 i300_39 rfl (Nat.le_of_ble_eq_true rfl) rfl rfl ?_
      refine ev_iconst (v := 0) pm300 i300_40 rfl (by decide) rfl ?_
      refine ev_istore (ls' := [.ref a0, .int a1, .int (-2 : Int32), .long (-1 : Int64), unk, .int (0 : Int32)]) pm300 i300_41 rfl (Nat.le_of_ble_eq_true rfl) rfl rfl ?_
      obtain ⟨x29, h31, e30, hS⟩ := bd_s hS
      refine L_md_safest_43 d (by omega) _ _ _ _ _ e30 _ ?_
      show Ev P d 300 (105, [.ref a0, unk, .int x29, unk, unk, unk], [], h31) _
      refine ev_aload_n pm300 i300_105 rfl rfl rfl ?_
      refine ev_iload_n pm300 i300_106 rfl rfl rfl ?_
      obtain ⟨x33, h34, e32, hS⟩ := bd_s hS
      refine ev_callV (sa := [.int x29]) (rest := []) (st' := [.int x33]) (ls0 := [.ref a0, .int x29]) (rv := some (.int x33)) pm300 i300_107 rfl rfl pm224 (by decide) (K_md_good e32) rfl rfl (Nat.le_of_ble_eq_true rfl) (by omega) rfl (R_md_good (d - 1) (by omega) e32) (by simp) rfl rfl ?_
      cases hS
      exact ev_ireturn pm300 i300_110 rfl rfl rfl
def F_md_losses (a0 : Nat) (a1 : Int32) (a2 : Int32) (a3 : Int32) (h : Hp) : Option (Int64 × Hp) :=
  ck h a0 13 (bn (pI h a0 13 0 (0 : Int32)) fun h1 =>
  bn (F_md_refusesMice a0 a1 a2 h1) fun x4 =>
  if (0 : Int32) < x4 then
    (bd (F_md_refused a0 x4 h1) fun x6 h7 =>
    some (x6.toInt64, h7))
  else
    (bn (F_md_miceAll a0 a1 a2 h1) fun h9 =>
    bn (gL h9 a0 13 35) fun x10 =>
    bn (gL h9 a0 13 32) fun x12 =>
    bd (F_md_fraction a0 x10 x12 a3 h9) fun x15 h16 =>
    some (x15, h16)))
set_option maxRecDepth 20000 in
theorem K_md_losses {a0 : Nat} {a1 : Int32} {a2 : Int32} {a3 : Int32} {h : Hp} {v : Int64} {h' : Hp} (hS : F_md_losses a0 a1 a2 a3 h = some (v, h')) : kd h a0 = 13 := by
  unfold F_md_losses at hS
  exact (ck_s hS).1
set_option maxRecDepth 20000 in
theorem R_md_losses (d : Nat) (hd : 4 ≤ d) {a0 : Nat} {a1 : Int32} {a2 : Int32} {a3 : Int32} {h : Hp} {v : Int64} {h' : Hp} (hS : F_md_losses a0 a1 a2 a3 h = some (v, h')) : Ev P d 301 (0, [.ref a0, .int a1, .int a2, .int a3, unk], [], h) (some (.long v), h') := by
  unfold F_md_losses at hS
  replace hS := (ck_s hS).2
  refine ev_aload_n pm301 i301_0 rfl rfl rfl ?_
  refine ev_iconst (v := 0) pm301 i301_1 rfl (by decide) rfl ?_
  obtain ⟨h1, e2, hS⟩ := bn_s hS
  refine ev_putI pm301 i301_2 rfl rfl rfl e2 rfl ?_
  refine ev_aload_n pm301 i301_5 rfl rfl rfl ?_
  refine ev_iload_n pm301 i301_6 rfl rfl rfl ?_
  refine ev_iload_n pm301 i301_7 rfl rfl rfl ?_
  obtain ⟨x4, e3, hS⟩ := bn_s hS
  refine ev_callV (sa := [.int a2, .int a1]) (rest := []) (st' := [.int x4]) (ls0 := [.ref a0, .int a1, .int a2]) (rv := some (.int x4)) pm301 i301_8 rfl rfl pm294 (by decide) (K_md_refusesMice e3) rfl rfl (Nat.le_of_ble_eq_true rfl) (by omega) rfl (R_md_refusesMice (d - 1) (by omega) e3) (by simp) rfl rfl ?_
  refine ev_istore (ls' := [.ref a0, .int a1, .int a2, .int a3, .int x4]) pm301 i301_11 rfl (Nat.le_of_ble_eq_true rfl) rfl rfl ?_
  refine ev_iload pm301 i301_13 rfl rfl rfl ?_
  by_cases c746 : (0 : Int32) < x4
  · rw [if_pos c746] at hS
    refine ev_if_le_t (t := 26) pm301 i301_15 rfl c746 rfl rfl ?_
    refine ev_aload_n pm301 i301_18 rfl rfl rfl ?_
    refine ev_iload pm301 i301_19 rfl rfl rfl ?_
    obtain ⟨x6, h7, e5, hS⟩ := bd_s hS
    refine ev_callV (sa := [.int x4]) (rest := []) (st' := [.int x6]) (ls0 := [.ref a0, .int x4]) (rv := some (.int x6)) pm301 i301_21 rfl rfl pm186 (by decide) (K_md_refused e5) rfl rfl (Nat.le_of_ble_eq_true rfl) (by omega) rfl (R_md_refused (d - 1) (by omega) e5) (by simp) rfl rfl ?_
    refine ev_i2l pm301 i301_24 rfl rfl ?_
    cases hS
    exact ev_lreturn pm301 i301_25 rfl rfl rfl
  · rw [if_neg c746] at hS
    refine ev_if_le_f (t := 26) pm301 i301_15 rfl c746 rfl rfl ?_
    refine ev_aload_n pm301 i301_26 rfl rfl rfl ?_
    refine ev_iload_n pm301 i301_27 rfl rfl rfl ?_
    refine ev_iload_n pm301 i301_28 rfl rfl rfl ?_
    obtain ⟨h9, e8, hS⟩ := bn_s hS
    refine ev_callV (sa := [.int a2, .int a1]) (rest := []) (st' := []) (ls0 := [.ref a0, .int a1, .int a2, unk, unk, unk, unk, unk]) (rv := none) pm301 i301_29 rfl rfl pm295 (by decide) (K_md_miceAll e8) rfl rfl (Nat.le_of_ble_eq_true rfl) (by omega) rfl (R_md_miceAll (d - 1) (by omega) e8) (by simp) rfl rfl ?_
    refine ev_aload_n pm301 i301_32 rfl rfl rfl ?_
    refine ev_aload_n pm301 i301_33 rfl rfl rfl ?_
    obtain ⟨x10, e11, hS⟩ := bn_s hS
    refine ev_getL pm301 i301_34 rfl rfl rfl e11 rfl ?_
    refine ev_aload_n pm301 i301_37 rfl rfl rfl ?_
    obtain ⟨x12, e13, hS⟩ := bn_s hS
    refine ev_getL pm301 i301_38 rfl rfl rfl e13 rfl ?_
    refine ev_iload_n pm301 i301_41 rfl rfl rfl ?_
    obtain ⟨x15, h16, e14, hS⟩ := bd_s hS
    refine ev_callV (sa := [.int a3, .long x12, .long x10]) (rest := []) (st' := [.long x15]) (ls0 := [.ref a0, .long x10, unk, .long x12, unk, .int a3]) (rv := some (.long x15)) pm301 i301_42 rfl rfl pm297 (by decide) (K_md_fraction e14) rfl rfl (Nat.le_of_ble_eq_true rfl) (by omega) rfl (R_md_fraction (d - 1) (by omega) e14) (by simp) rfl rfl ?_
    cases hS
    exact ev_lreturn pm301 i301_45 rfl rfl rfl
def F_md_refusesSeed (a0 : Nat) (a1 : Int32) (a2 : Int32) (a3 : Int32) (h : Hp) : Option Int32 :=
  ck h a0 13 (if a1 = (0 : Int32) then
    (some (1 : Int32))
  else
    (bn (F_md_in a2 (0 : Int32) (65536 : Int32)) fun x2 =>
    if x2 = (0 : Int32) then
      (some (2 : Int32))
    else
      (bn (F_md_in a3 (0 : Int32) (20 : Int32)) fun x4 =>
      if x4 = (0 : Int32) then
        (some (2 : Int32))
      else
        (some (0 : Int32)))))
set_option maxRecDepth 20000 in
theorem K_md_refusesSeed {a0 : Nat} {a1 : Int32} {a2 : Int32} {a3 : Int32} {h : Hp} {v : Int32} (hS : F_md_refusesSeed a0 a1 a2 a3 h = some v) : kd h a0 = 13 := by
  unfold F_md_refusesSeed at hS
  exact (ck_s hS).1
set_option maxRecDepth 20000 in
theorem R_md_refusesSeed (d : Nat) (hd : 1 ≤ d) {a0 : Nat} {a1 : Int32} {a2 : Int32} {a3 : Int32} {h : Hp} {v : Int32} (hS : F_md_refusesSeed a0 a1 a2 a3 h = some v) : Ev P d 303 (0, [.ref a0, .int a1, .int a2, .int a3], [], h) (some (.int v), h) := by
  unfold F_md_refusesSeed at hS
  replace hS := (ck_s hS).2
  refine ev_iload_n pm303 i303_0 rfl rfl rfl ?_
  by_cases c747 : a1 = (0 : Int32)
  · rw [if_pos c747] at hS
    refine ev_if_ne_t (t := 8) pm303 i303_1 rfl c747 rfl rfl ?_
    refine ev_iconst (v := 1) pm303 i303_4 rfl (by decide) rfl ?_
    refine ev_goto (t := 34) pm303 i303_5 rfl rfl ?_
    refine ev_kls (ls' := [unk, unk, unk, unk]) pm303 i303_34 rfl rfl ?_
    cases hS
    exact ev_ireturn pm303 i303_34 rfl rfl rfl
  · rw [if_neg c747] at hS
    refine ev_if_ne_f (t := 8) pm303 i303_1 rfl c747 rfl rfl ?_
    refine ev_iload_n pm303 i303_8 rfl rfl rfl ?_
    refine ev_iconst (v := 0) pm303 i303_9 rfl (by decide) rfl ?_
    refine ev_ldc_w (v := .int (65536 : Int32)) pm303 i303_10 rfl rfl rfl ?_
    obtain ⟨x2, e1, hS⟩ := bn_s hS
    refine ev_callS (sa := [.int (65536 : Int32), .int (0 : Int32), .int a2]) (rest := []) (st' := [.int x2]) (ls0 := [.int a2, .int (0 : Int32), .int (65536 : Int32)]) (rv := some (.int x2)) pm303 i303_13 rfl rfl pm201 (by decide) rfl rfl (Nat.le_of_ble_eq_true rfl) (by omega) rfl (R_md_in (d - 1) (by omega) e1) (by simp) rfl rfl ?_
    by_cases c748 : x2 = (0 : Int32)
    · rw [if_pos c748] at hS
      refine ev_if_eq_t (t := 33) pm303 i303_16 rfl c748 rfl rfl ?_
      refine ev_kls (ls' := [unk, unk, unk, unk]) pm303 i303_33 rfl rfl ?_
      refine ev_iconst (v := 2) pm303 i303_33 rfl (by decide) rfl ?_
      cases hS
      exact ev_ireturn pm303 i303_34 rfl rfl rfl
    · rw [if_neg c748] at hS
      refine ev_if_eq_f (t := 33) pm303 i303_16 rfl c748 rfl rfl ?_
      refine ev_iload_n pm303 i303_19 rfl rfl rfl ?_
      refine ev_iconst (v := 0) pm303 i303_20 rfl (by decide) rfl ?_
      refine ev_bipush (v := 20) pm303 i303_21 rfl (by decide) rfl ?_
      obtain ⟨x4, e3, hS⟩ := bn_s hS
      refine ev_callS (sa := [.int (20 : Int32), .int (0 : Int32), .int a3]) (rest := []) (st' := [.int x4]) (ls0 := [.int a3, .int (0 : Int32), .int (20 : Int32)]) (rv := some (.int x4)) pm303 i303_23 rfl rfl pm201 (by decide) rfl rfl (Nat.le_of_ble_eq_true rfl) (by omega) rfl (R_md_in (d - 1) (by omega) e3) (by simp) rfl rfl ?_
      by_cases c749 : x4 = (0 : Int32)
      · rw [if_pos c749] at hS
        refine ev_if_eq_t (t := 33) pm303 i303_26 rfl c749 rfl rfl ?_
        refine ev_kls (ls' := [unk, unk, unk, unk]) pm303 i303_33 rfl rfl ?_
        refine ev_iconst (v := 2) pm303 i303_33 rfl (by decide) rfl ?_
        cases hS
        exact ev_ireturn pm303 i303_34 rfl rfl rfl
      · rw [if_neg c749] at hS
        refine ev_if_eq_f (t := 33) pm303 i303_26 rfl c749 rfl rfl ?_
        refine ev_iconst (v := 0) pm303 i303_29 rfl (by decide) rfl ?_
        refine ev_goto (t := 34) pm303 i303_30 rfl rfl ?_
        refine ev_kls (ls' := [unk, unk, unk, unk]) pm303 i303_34 rfl rfl ?_
        cases hS
        exact ev_ireturn pm303 i303_34 rfl rfl rfl
def B_md_aWeek_6 (l0 : Nat) (s : Int32) (h : Hp) : Option (((Int32) ⊕ (Unit)) × Hp) :=
  bn (gR h l0 13 3) fun x3 =>
  bn (gI h x3 12 1) fun x5 =>
  if s < x5 then
    (bn (gR h l0 13 3) fun x7 =>
    bn (gR h x7 12 9) fun x9 =>
    bn (aI h 100 x9 s) fun x11 =>
    if x11 = (1 : Int32) then
      (some (.inl (s + (1 : Int32)), h))
    else
      (bn (gR h l0 13 16) fun x13 =>
      bn (gR h l0 13 16) fun x15 =>
      bn (aI h 100 x15 (30 : Int32)) fun x17 =>
      bn (rm64 (((75 : Int64) * x17.toInt64) + (74 : Int64)) (65537 : Int64)) fun x19 =>
      bn (sI h 100 x13 (30 : Int32) x19.toInt32) fun h21 =>
      bn (gR h21 l0 13 16) fun x23 =>
      bn (aI h21 100 x23 (30 : Int32)) fun x25 =>
      bn (rm32 x25 (100 : Int32)) fun x27 =>
      bn (gR h21 l0 13 3) fun x29 =>
      bn (gI h21 x29 12 0) fun x31 =>
      if x27 < x31 then
        (bd (F_md_loses l0 s h21) fun x34 h35 =>
        if x34 = (0 : Int32) then
          (some (.inl (s + (1 : Int32)), h35))
        else
          (bn (gI h35 l0 13 36) fun x36 =>
          bn (pI h35 l0 13 36 (x36 + (1 : Int32))) fun h38 =>
          some (.inl (s + (1 : Int32)), h38)))
      else
        (some (.inl (s + (1 : Int32)), h21))))
  else
    (some (.inr (), h))
set_option maxRecDepth 20000 in
theorem L_md_aWeek_6 (d : Nat) (hd : 2 ≤ d) {l0 : Nat} : ∀ (n : Nat) (s : Int32) (h : Hp) (x : Unit) (hx : Hp), lp (B_md_aWeek_6 l0) n s h = some (x, hx) → ∀ r, Ev P d 305 (105, [unk, unk], [], hx) r → Ev P d 305 (6, [.ref l0, .int s], [], h) r := by
  refine lp_ev (G0 := fun (s : Int32) h r => Ev P d 305 (6, [.ref l0, .int s], [], h) r) (X := fun (x : Unit) hx r => Ev P d 305 (105, [unk, unk], [], hx) r) ?_
  intro s h y h9 hS r hK
  unfold B_md_aWeek_6 at hS
  show Ev P d 305 (6, [.ref l0, .int s], [], h) r
  refine ev_iload_n pm305 i305_6 rfl rfl rfl ?_
  refine ev_aload_n pm305 i305_7 rfl rfl rfl ?_
  obtain ⟨x3, e4, hS⟩ := bn_s hS
  refine ev_getR pm305 i305_8 rfl rfl rfl e4 rfl ?_
  obtain ⟨x5, e6, hS⟩ := bn_s hS
  refine ev_getI pm305 i305_11 rfl rfl (by decide) e6 rfl ?_
  by_cases c750 : s < x5
  · rw [if_pos c750] at hS
    refine ev_icmp_ge_t (t := 105) pm305 i305_14 rfl c750 rfl rfl ?_
    refine ev_aload_n pm305 i305_17 rfl rfl rfl ?_
    obtain ⟨x7, e8, hS⟩ := bn_s hS
    refine ev_getR pm305 i305_18 rfl rfl rfl e8 rfl ?_
    obtain ⟨x9, e10, hS⟩ := bn_s hS
    refine ev_getR pm305 i305_21 rfl rfl rfl e10 rfl ?_
    refine ev_iload_n pm305 i305_24 rfl rfl rfl ?_
    obtain ⟨x11, e12, hS⟩ := bn_s hS
    refine ev_iald pm305 i305_25 rfl e12 rfl ?_
    refine ev_iconst (v := 1) pm305 i305_26 rfl (by decide) rfl ?_
    by_cases c751 : x11 = (1 : Int32)
    · rw [if_pos c751] at hS
      refine ev_icmp_ne_t (t := 33) pm305 i305_27 rfl c751 rfl rfl ?_
      refine ev_goto (t := 99) pm305 i305_30 rfl rfl ?_
      refine ev_iinc (v := 1) (ls' := [.ref l0, .int (s + (1 : Int32))]) pm305 i305_99 rfl rfl (by decide) rfl rfl ?_
      refine ev_goto (t := 6) pm305 i305_102 rfl rfl ?_
      cases hS
      exact hK
    · rw [if_neg c751] at hS
      refine ev_icmp_ne_f (t := 33) pm305 i305_27 rfl c751 rfl rfl ?_
      refine ev_aload_n pm305 i305_33 rfl rfl rfl ?_
      obtain ⟨x13, e14, hS⟩ := bn_s hS
      refine ev_getR pm305 i305_34 rfl rfl rfl e14 rfl ?_
      refine ev_bipush (v := 30) pm305 i305_37 rfl (by decide) rfl ?_
      refine ev_ldc2_w (v := .long (75 : Int64)) pm305 i305_39 rfl rfl rfl ?_
      refine ev_aload_n pm305 i305_42 rfl rfl rfl ?_
      obtain ⟨x15, e16, hS⟩ := bn_s hS
      refine ev_getR pm305 i305_43 rfl rfl rfl e16 rfl ?_
      refine ev_bipush (v := 30) pm305 i305_46 rfl (by decide) rfl ?_
      obtain ⟨x17, e18, hS⟩ := bn_s hS
      refine ev_iald pm305 i305_48 rfl e18 rfl ?_
      refine ev_i2l pm305 i305_49 rfl rfl ?_
      refine ev_bl2 (f := fun x y => x * y) pm305 i305_50 rfl (fun _ _ _ _ => rfl) rfl ?_
      refine ev_ldc2_w (v := .long (74 : Int64)) pm305 i305_51 rfl rfl rfl ?_
      refine ev_bl2 (f := fun x y => x + y) pm305 i305_54 rfl (fun _ _ _ _ => rfl) rfl ?_
      refine ev_ldc2_w (v := .long (65537 : Int64)) pm305 i305_55 rfl rfl rfl ?_
      obtain ⟨x19, e20, hS⟩ := bn_s hS
      refine ev_lrem pm305 i305_58 rfl e20 rfl ?_
      refine ev_l2i pm305 i305_59 rfl rfl ?_
      obtain ⟨h21, e22, hS⟩ := bn_s hS
      refine ev_iast pm305 i305_60 rfl e22 rfl ?_
      refine ev_aload_n pm305 i305_61 rfl rfl rfl ?_
      obtain ⟨x23, e24, hS⟩ := bn_s hS
      refine ev_getR pm305 i305_62 rfl rfl rfl e24 rfl ?_
      refine ev_bipush (v := 30) pm305 i305_65 rfl (by decide) rfl ?_
      obtain ⟨x25, e26, hS⟩ := bn_s hS
      refine ev_iald pm305 i305_67 rfl e26 rfl ?_
      refine ev_bipush (v := 100) pm305 i305_68 rfl (by decide) rfl ?_
      obtain ⟨x27, e28, hS⟩ := bn_s hS
      refine ev_irem pm305 i305_70 rfl e28 rfl ?_
      refine ev_aload_n pm305 i305_71 rfl rfl rfl ?_
      obtain ⟨x29, e30, hS⟩ := bn_s hS
      refine ev_getR pm305 i305_72 rfl rfl rfl e30 rfl ?_
      obtain ⟨x31, e32, hS⟩ := bn_s hS
      refine ev_getI pm305 i305_75 rfl rfl (by decide) e32 rfl ?_
      by_cases c752 : x27 < x31
      · rw [if_pos c752] at hS
        refine ev_icmp_ge_t (t := 99) pm305 i305_78 rfl c752 rfl rfl ?_
        refine ev_aload_n pm305 i305_81 rfl rfl rfl ?_
        refine ev_iload_n pm305 i305_82 rfl rfl rfl ?_
        obtain ⟨x34, h35, e33, hS⟩ := bd_s hS
        refine ev_callV (sa := [.int s]) (rest := []) (st' := [.int x34]) (ls0 := [.ref l0, .int s, unk, unk]) (rv := some (.int x34)) pm305 i305_83 rfl rfl pm296 (by decide) (K_md_loses e33) rfl rfl (Nat.le_of_ble_eq_true rfl) (by omega) rfl (R_md_loses (d - 1) (by omega) e33) (by simp) rfl rfl ?_
        by_cases c753 : x34 = (0 : Int32)
        · rw [if_pos c753] at hS
          refine ev_if_eq_t (t := 99) pm305 i305_86 rfl c753 rfl rfl ?_
          refine ev_iinc (v := 1) (ls' := [.ref l0, .int (s + (1 : Int32))]) pm305 i305_99 rfl rfl (by decide) rfl rfl ?_
          refine ev_goto (t := 6) pm305 i305_102 rfl rfl ?_
          cases hS
          exact hK
        · rw [if_neg c753] at hS
          refine ev_if_eq_f (t := 99) pm305 i305_86 rfl c753 rfl rfl ?_
          refine ev_aload_n pm305 i305_89 rfl rfl rfl ?_
          refine ev_dup pm305 i305_90 rfl rfl rfl ?_
          obtain ⟨x36, e37, hS⟩ := bn_s hS
          refine ev_getI pm305 i305_91 rfl rfl (by decide) e37 rfl ?_
          refine ev_iconst (v := 1) pm305 i305_94 rfl (by decide) rfl ?_
          refine ev_b2 (f := fun x y => x + y) pm305 i305_95 rfl (fun _ _ _ _ => rfl) rfl ?_
          obtain ⟨h38, e39, hS⟩ := bn_s hS
          refine ev_putI pm305 i305_96 rfl rfl rfl e39 rfl ?_
          refine ev_iinc (v := 1) (ls' := [.ref l0, .int (s + (1 : Int32))]) pm305 i305_99 rfl rfl (by decide) rfl rfl ?_
          refine ev_goto (t := 6) pm305 i305_102 rfl rfl ?_
          cases hS
          exact hK
      · rw [if_neg c752] at hS
        refine ev_icmp_ge_f (t := 99) pm305 i305_78 rfl c752 rfl rfl ?_
        refine ev_iinc (v := 1) (ls' := [.ref l0, .int (s + (1 : Int32))]) pm305 i305_99 rfl rfl (by decide) rfl rfl ?_
        refine ev_goto (t := 6) pm305 i305_102 rfl rfl ?_
        cases hS
        exact hK
  · rw [if_neg c750] at hS
    refine ev_icmp_ge_f (t := 105) pm305 i305_14 rfl c750 rfl rfl ?_
    refine ev_kls (ls' := [unk, unk]) pm305 i305_105 rfl rfl ?_
    cases hS
    exact hK
def F_md_aWeek (a0 : Nat) (h : Hp) : Option Hp :=
  ck h a0 13 (bn (F_md_softens a0 h) fun h2 =>
  bd (lp (B_md_aWeek_6 a0) FU (0 : Int32) h2) fun x40 h42 =>
  some h42)
set_option maxRecDepth 20000 in
theorem K_md_aWeek {a0 : Nat} {h : Hp} {h' : Hp} (hS : F_md_aWeek a0 h = some h') : kd h a0 = 13 := by
  unfold F_md_aWeek at hS
  exact (ck_s hS).1
set_option maxRecDepth 20000 in
theorem R_md_aWeek (d : Nat) (hd : 2 ≤ d) {a0 : Nat} {h : Hp} {h' : Hp} (hS : F_md_aWeek a0 h = some h') : Ev P d 305 (0, [.ref a0, unk], [], h) (none, h') := by
  unfold F_md_aWeek at hS
  replace hS := (ck_s hS).2
  refine ev_aload_n pm305 i305_0 rfl rfl rfl ?_
  obtain ⟨h2, e1, hS⟩ := bn_s hS
  refine ev_callV (sa := []) (rest := []) (st' := []) (ls0 := [.ref a0, unk]) (rv := none) pm305 i305_1 rfl rfl pm254 (by decide) (K_md_softens e1) rfl rfl (Nat.le_of_ble_eq_true rfl) (by omega) rfl (R_md_softens (d - 1) (by omega) e1) (by simp) rfl rfl ?_
  refine ev_iconst (v := 0) pm305 i305_4 rfl (by decide) rfl ?_
  refine ev_istore_n (ls' := [.ref a0, .int (0 : Int32)]) pm305 i305_5 rfl (Nat.le_of_ble_eq_true rfl) rfl rfl ?_
  obtain ⟨x40, h42, e41, hS⟩ := bd_s hS
  refine L_md_aWeek_6 d (by omega) _ _ _ _ _ e41 _ ?_
  show Ev P d 305 (105, [unk, unk], [], h42) _
  cases hS
  exact ev_return pm305 i305_105 rfl rfl rfl
def B_md_weeksAll_34 (l0 : Nat) (l2 : Int32) (s : Int32 × Int32) (h : Hp) : Option (((Int32 × Int32) ⊕ (Int32)) × Hp) :=
  if l2 < s.2 then
    (some (.inr s.1, h))
  else
    (bn (F_md_aWeek l0 h) fun h13 =>
    if s.1 = (-2 : Int32) then
      (bn (F_md_underNow l0 h13) fun x15 =>
      if x15 = (0 : Int32) then
        (some (.inl (s.1, s.2 + (1 : Int32)), h13))
      else
        (some (.inl (s.2, s.2 + (1 : Int32)), h13)))
    else
      (some (.inl (s.1, s.2 + (1 : Int32)), h13)))
set_option maxRecDepth 20000 in
theorem L_md_weeksAll_34 (d : Nat) (hd : 6 ≤ d) {l0 : Nat} {l2 : Int32} : ∀ (n : Nat) (s : Int32 × Int32) (h : Hp) (x : Int32) (hx : Hp), lp (B_md_weeksAll_34 l0 l2) n s h = some (x, hx) → ∀ r, Ev P d 304 (66, [unk, unk, unk, .int x, unk], [], hx) r → Ev P d 304 (34, [.ref l0, unk, .int l2, .int s.1, .int s.2], [], h) r := by
  refine lp_ev (G0 := fun (s : Int32 × Int32) h r => Ev P d 304 (34, [.ref l0, unk, .int l2, .int s.1, .int s.2], [], h) r) (X := fun (x : Int32) hx r => Ev P d 304 (66, [unk, unk, unk, .int x, unk], [], hx) r) ?_
  intro s h y h9 hS r hK
  unfold B_md_weeksAll_34 at hS
  show Ev P d 304 (34, [.ref l0, unk, .int l2, .int s.1, .int s.2], [], h) r
  refine ev_iload pm304 i304_34 rfl rfl rfl ?_
  refine ev_iload_n pm304 i304_36 rfl rfl rfl ?_
  by_cases c754 : l2 < s.2
  · rw [if_pos c754] at hS
    refine ev_icmp_gt_t (t := 66) pm304 i304_37 rfl c754 rfl rfl ?_
    refine ev_kls (ls' := [unk, unk, unk, .int s.1, unk]) pm304 i304_66 rfl rfl ?_
    cases hS
    exact hK
  · rw [if_neg c754] at hS
    refine ev_icmp_gt_f (t := 66) pm304 i304_37 rfl c754 rfl rfl ?_
    refine ev_aload_n pm304 i304_40 rfl rfl rfl ?_
    obtain ⟨h13, e12, hS⟩ := bn_s hS
    refine ev_callV (sa := []) (rest := []) (st' := []) (ls0 := [.ref l0, unk]) (rv := none) pm304 i304_41 rfl rfl pm305 (by decide) (K_md_aWeek e12) rfl rfl (Nat.le_of_ble_eq_true rfl) (by omega) rfl (R_md_aWeek (d - 1) (by omega) e12) (by simp) rfl rfl ?_
    refine ev_iload_n pm304 i304_44 rfl rfl rfl ?_
    refine ev_bipush (v := -2) pm304 i304_45 rfl (by decide) rfl ?_
    by_cases c755 : s.1 = (-2 : Int32)
    · rw [if_pos c755] at hS
      refine ev_icmp_ne_t (t := 60) pm304 i304_47 rfl c755 rfl rfl ?_
      refine ev_aload_n pm304 i304_50 rfl rfl rfl ?_
      obtain ⟨x15, e14, hS⟩ := bn_s hS
      refine ev_callV (sa := []) (rest := []) (st' := [.int x15]) (ls0 := [.ref l0, unk, unk]) (rv := some (.int x15)) pm304 i304_51 rfl rfl pm246 (by decide) (K_md_underNow e14) rfl rfl (Nat.le_of_ble_eq_true rfl) (by omega) rfl (R_md_underNow (d - 1) (by omega) e14) (by simp) rfl rfl ?_
      by_cases c756 : x15 = (0 : Int32)
      · rw [if_pos c756] at hS
        refine ev_if_eq_t (t := 60) pm304 i304_54 rfl c756 rfl rfl ?_
        refine ev_iinc (v := 1) (ls' := [.ref l0, unk, .int l2, .int s.1, .int (s.2 + (1 : Int32))]) pm304 i304_60 rfl rfl (by decide) rfl rfl ?_
        refine ev_goto (t := 34) pm304 i304_63 rfl rfl ?_
        cases hS
        exact hK
      · rw [if_neg c756] at hS
        refine ev_if_eq_f (t := 60) pm304 i304_54 rfl c756 rfl rfl ?_
        refine ev_iload pm304 i304_57 rfl rfl rfl ?_
        refine ev_istore_n (ls' := [.ref l0, unk, .int l2, .int s.2, .int s.2]) pm304 i304_59 rfl (Nat.le_of_ble_eq_true rfl) rfl rfl ?_
        refine ev_iinc (v := 1) (ls' := [.ref l0, unk, .int l2, .int s.2, .int (s.2 + (1 : Int32))]) pm304 i304_60 rfl rfl (by decide) rfl rfl ?_
        refine ev_goto (t := 34) pm304 i304_63 rfl rfl ?_
        cases hS
        exact hK
    · rw [if_neg c755] at hS
      refine ev_icmp_ne_f (t := 60) pm304 i304_47 rfl c755 rfl rfl ?_
      refine ev_iinc (v := 1) (ls' := [.ref l0, unk, .int l2, .int s.1, .int (s.2 + (1 : Int32))]) pm304 i304_60 rfl rfl (by decide) rfl rfl ?_
      refine ev_goto (t := 34) pm304 i304_63 rfl rfl ?_
      cases hS
      exact hK
def F_md_weeksAll (a0 : Nat) (a1 : Int32) (a2 : Int32) (h : Hp) : Option (Int32 × Hp) :=
  ck h a0 13 (bn (F_md_works a0 h) fun h2 =>
  bn (gR h2 a0 13 16) fun x3 =>
  bn (sI h2 100 x3 (30 : Int32) a1) fun h5 =>
  bn (pI h5 a0 13 36 (0 : Int32)) fun h7 =>
  bn (F_md_underNow a0 h7) fun x10 =>
  bn (if x10 = (0 : Int32) then
      (some (-2 : Int32))
    else
      (some (0 : Int32))) fun q11 =>
  bd (lp (B_md_weeksAll_34 a0 a2) FU (q11, (1 : Int32)) h7) fun x16 h18 =>
  some (x16, h18))
set_option maxRecDepth 20000 in
theorem K_md_weeksAll {a0 : Nat} {a1 : Int32} {a2 : Int32} {h : Hp} {v : Int32} {h' : Hp} (hS : F_md_weeksAll a0 a1 a2 h = some (v, h')) : kd h a0 = 13 := by
  unfold F_md_weeksAll at hS
  exact (ck_s hS).1
set_option maxRecDepth 20000 in
theorem R_md_weeksAll (d : Nat) (hd : 6 ≤ d) {a0 : Nat} {a1 : Int32} {a2 : Int32} {h : Hp} {v : Int32} {h' : Hp} (hS : F_md_weeksAll a0 a1 a2 h = some (v, h')) : Ev P d 304 (0, [.ref a0, .int a1, .int a2, unk, unk], [], h) (some (.int v), h') := by
  unfold F_md_weeksAll at hS
  replace hS := (ck_s hS).2
  refine ev_aload_n pm304 i304_0 rfl rfl rfl ?_
  obtain ⟨h2, e1, hS⟩ := bn_s hS
  refine ev_callV (sa := []) (rest := []) (st' := []) (ls0 := [.ref a0, unk]) (rv := none) pm304 i304_1 rfl rfl pm229 (by decide) (K_md_works e1) rfl rfl (Nat.le_of_ble_eq_true rfl) (by omega) rfl (R_md_works (d - 1) (by omega) e1) (by simp) rfl rfl ?_
  refine ev_aload_n pm304 i304_4 rfl rfl rfl ?_
  obtain ⟨x3, e4, hS⟩ := bn_s hS
  refine ev_getR pm304 i304_5 rfl rfl rfl e4 rfl ?_
  refine ev_bipush (v := 30) pm304 i304_8 rfl (by decide) rfl ?_
  refine ev_iload_n pm304 i304_10 rfl rfl rfl ?_
  obtain ⟨h5, e6, hS⟩ := bn_s hS
  refine ev_iast pm304 i304_11 rfl e6 rfl ?_
  refine ev_aload_n pm304 i304_12 rfl rfl rfl ?_
  refine ev_iconst (v := 0) pm304 i304_13 rfl (by decide) rfl ?_
  obtain ⟨h7, e8, hS⟩ := bn_s hS
  refine ev_putI pm304 i304_14 rfl rfl rfl e8 rfl ?_
  refine ev_aload_n pm304 i304_17 rfl rfl rfl ?_
  obtain ⟨x10, e9, hS⟩ := bn_s hS
  refine ev_callV (sa := []) (rest := []) (st' := [.int x10]) (ls0 := [.ref a0, unk, unk]) (rv := some (.int x10)) pm304 i304_18 rfl rfl pm246 (by decide) (K_md_underNow e9) rfl rfl (Nat.le_of_ble_eq_true rfl) (by omega) rfl (R_md_underNow (d - 1) (by omega) e9) (by simp) rfl rfl ?_
  obtain ⟨q11, I757, hS⟩ := bn_s hS
  have J1 : Ev P d 304 (30, [.ref a0, unk, .int a2, unk, unk], [.int q11], h7) (some (.int v), h') := by
    refine ev_istore_n (ls' := [.ref a0, unk, .int a2, .int q11, unk]) pm304 i304_30 rfl (Nat.le_of_ble_eq_true rfl) rfl rfl ?_
    refine ev_iconst (v := 1) pm304 i304_31 rfl (by decide) rfl ?_
    refine ev_istore (ls' := [.ref a0, unk, .int a2, .int q11, .int (1 : Int32)]) pm304 i304_32 rfl (Nat.le_of_ble_eq_true rfl) rfl rfl ?_
    obtain ⟨x16, h18, e17, hS⟩ := bd_s hS
    refine L_md_weeksAll_34 d (by omega) _ _ _ _ _ e17 _ ?_
    show Ev P d 304 (66, [unk, unk, unk, .int x16, unk], [], h18) _
    refine ev_iload_n pm304 i304_66 rfl rfl rfl ?_
    cases hS
    exact ev_ireturn pm304 i304_67 rfl rfl rfl
  clear hS
  by_cases c757 : x10 = (0 : Int32)
  · rw [if_pos c757] at I757
    refine ev_if_eq_t (t := 28) pm304 i304_21 rfl c757 rfl rfl ?_
    refine ev_bipush (v := -2) pm304 i304_28 rfl (by decide) rfl ?_
    refine ev_kls (ls' := [.ref a0, unk, .int a2, unk, unk]) pm304 i304_30 rfl rfl ?_
    cases I757
    exact J1
  · rw [if_neg c757] at I757
    refine ev_if_eq_f (t := 28) pm304 i304_21 rfl c757 rfl rfl ?_
    refine ev_iconst (v := 0) pm304 i304_24 rfl (by decide) rfl ?_
    refine ev_goto (t := 30) pm304 i304_25 rfl rfl ?_
    refine ev_kls (ls' := [.ref a0, unk, .int a2, unk, unk]) pm304 i304_30 rfl rfl ?_
    cases I757
    exact J1
def F_md_weeks (a0 : Nat) (a1 : Int32) (a2 : Int32) (a3 : Int32) (h : Hp) : Option (Int32 × Hp) :=
  ck h a0 13 (bn (pI h a0 13 0 (0 : Int32)) fun h1 =>
  bn (F_md_isHouse a0 a1 h1) fun x4 =>
  bn (F_md_refusesSeed a0 x4 a2 a3 h1) fun x6 =>
  if (0 : Int32) < x6 then
    (bd (F_md_refused a0 x6 h1) fun x8 h9 =>
    some (x8, h9))
  else
    (bd (F_md_weeksAll a0 a2 a3 h1) fun x11 h12 =>
    bn (F_md_heightOf a0 a1 h12) fun x14 =>
    bd (F_md_good a0 ((1000 : Int32) + x14) h12) fun x16 h17 =>
    some (x16, h17)))
set_option maxRecDepth 20000 in
theorem K_md_weeks {a0 : Nat} {a1 : Int32} {a2 : Int32} {a3 : Int32} {h : Hp} {v : Int32} {h' : Hp} (hS : F_md_weeks a0 a1 a2 a3 h = some (v, h')) : kd h a0 = 13 := by
  unfold F_md_weeks at hS
  exact (ck_s hS).1
set_option maxRecDepth 20000 in
theorem R_md_weeks (d : Nat) (hd : 7 ≤ d) {a0 : Nat} {a1 : Int32} {a2 : Int32} {a3 : Int32} {h : Hp} {v : Int32} {h' : Hp} (hS : F_md_weeks a0 a1 a2 a3 h = some (v, h')) : Ev P d 302 (0, [.ref a0, .int a1, .int a2, .int a3, unk], [], h) (some (.int v), h') := by
  unfold F_md_weeks at hS
  replace hS := (ck_s hS).2
  refine ev_aload_n pm302 i302_0 rfl rfl rfl ?_
  refine ev_iconst (v := 0) pm302 i302_1 rfl (by decide) rfl ?_
  obtain ⟨h1, e2, hS⟩ := bn_s hS
  refine ev_putI pm302 i302_2 rfl rfl rfl e2 rfl ?_
  refine ev_aload_n pm302 i302_5 rfl rfl rfl ?_
  refine ev_aload_n pm302 i302_6 rfl rfl rfl ?_
  refine ev_iload_n pm302 i302_7 rfl rfl rfl ?_
  obtain ⟨x4, e3, hS⟩ := bn_s hS
  refine ev_callV (sa := [.int a1]) (rest := [.ref a0]) (st' := [.int x4, .ref a0]) (ls0 := [.ref a0, .int a1]) (rv := some (.int x4)) pm302 i302_8 rfl rfl pm228 (by decide) (K_md_isHouse e3) rfl rfl (Nat.le_of_ble_eq_true rfl) (by omega) rfl (R_md_isHouse (d - 1) (by omega) e3) (by simp) rfl rfl ?_
  refine ev_iload_n pm302 i302_11 rfl rfl rfl ?_
  refine ev_iload_n pm302 i302_12 rfl rfl rfl ?_
  obtain ⟨x6, e5, hS⟩ := bn_s hS
  refine ev_callV (sa := [.int a3, .int a2, .int x4]) (rest := []) (st' := [.int x6]) (ls0 := [.ref a0, .int x4, .int a2, .int a3]) (rv := some (.int x6)) pm302 i302_13 rfl rfl pm303 (by decide) (K_md_refusesSeed e5) rfl rfl (Nat.le_of_ble_eq_true rfl) (by omega) rfl (R_md_refusesSeed (d - 1) (by omega) e5) (by simp) rfl rfl ?_
  refine ev_istore (ls' := [.ref a0, .int a1, .int a2, .int a3, .int x6]) pm302 i302_16 rfl (Nat.le_of_ble_eq_true rfl) rfl rfl ?_
  refine ev_iload pm302 i302_18 rfl rfl rfl ?_
  by_cases c758 : (0 : Int32) < x6
  · rw [if_pos c758] at hS
    refine ev_if_le_t (t := 30) pm302 i302_20 rfl c758 rfl rfl ?_
    refine ev_aload_n pm302 i302_23 rfl rfl rfl ?_
    refine ev_iload pm302 i302_24 rfl rfl rfl ?_
    obtain ⟨x8, h9, e7, hS⟩ := bd_s hS
    refine ev_callV (sa := [.int x6]) (rest := []) (st' := [.int x8]) (ls0 := [.ref a0, .int x6]) (rv := some (.int x8)) pm302 i302_26 rfl rfl pm186 (by decide) (K_md_refused e7) rfl rfl (Nat.le_of_ble_eq_true rfl) (by omega) rfl (R_md_refused (d - 1) (by omega) e7) (by simp) rfl rfl ?_
    cases hS
    exact ev_ireturn pm302 i302_29 rfl rfl rfl
  · rw [if_neg c758] at hS
    refine ev_if_le_f (t := 30) pm302 i302_20 rfl c758 rfl rfl ?_
    refine ev_aload_n pm302 i302_30 rfl rfl rfl ?_
    refine ev_iload_n pm302 i302_31 rfl rfl rfl ?_
    refine ev_iload_n pm302 i302_32 rfl rfl rfl ?_
    obtain ⟨x11, h12, e10, hS⟩ := bd_s hS
    refine ev_callV (sa := [.int a3, .int a2]) (rest := []) (st' := [.int x11]) (ls0 := [.ref a0, .int a2, .int a3, unk, unk]) (rv := some (.int x11)) pm302 i302_33 rfl rfl pm304 (by decide) (K_md_weeksAll e10) rfl rfl (Nat.le_of_ble_eq_true rfl) (by omega) rfl (R_md_weeksAll (d - 1) (by omega) e10) (by simp) rfl rfl ?_
    refine ev_pop pm302 i302_36 rfl rfl rfl ?_
    refine ev_aload_n pm302 i302_37 rfl rfl rfl ?_
    refine ev_sipush (v := 1000) pm302 i302_38 rfl (by decide) rfl ?_
    refine ev_aload_n pm302 i302_41 rfl rfl rfl ?_
    refine ev_iload_n pm302 i302_42 rfl rfl rfl ?_
    obtain ⟨x14, e13, hS⟩ := bn_s hS
    refine ev_callV (sa := [.int a1]) (rest := [.int (1000 : Int32), .ref a0]) (st' := [.int x14, .int (1000 : Int32), .ref a0]) (ls0 := [.ref a0, .int a1, unk]) (rv := some (.int x14)) pm302 i302_43 rfl rfl pm233 (by decide) (K_md_heightOf e13) rfl rfl (Nat.le_of_ble_eq_true rfl) (by omega) rfl (R_md_heightOf (d - 1) (by omega) e13) (by simp) rfl rfl ?_
    refine ev_b2 (f := fun x y => x + y) pm302 i302_46 rfl (fun _ _ _ _ => rfl) rfl ?_
    obtain ⟨x16, h17, e15, hS⟩ := bd_s hS
    refine ev_callV (sa := [.int ((1000 : Int32) + x14)]) (rest := []) (st' := [.int x16]) (ls0 := [.ref a0, .int ((1000 : Int32) + x14)]) (rv := some (.int x16)) pm302 i302_47 rfl rfl pm224 (by decide) (K_md_good e15) rfl rfl (Nat.le_of_ble_eq_true rfl) (by omega) rfl (R_md_good (d - 1) (by omega) e15) (by simp) rfl rfl ?_
    cases hS
    exact ev_ireturn pm302 i302_50 rfl rfl rfl
def F_md_eaten (a0 : Nat) (a1 : Int32) (a2 : Int32) (h : Hp) : Option (Int32 × Hp) :=
  ck h a0 13 (bn (pI h a0 13 0 (0 : Int32)) fun h1 =>
  bn (gQ h1 a0 13 3) fun x3 =>
  bn (if x3 = none then
      (some (0 : Int32))
    else
      (some (1 : Int32))) fun q5 =>
  bn (F_md_refusesSeed a0 q5 a1 a2 h1) fun x7 =>
  if (0 : Int32) < x7 then
    (bd (F_md_refused a0 x7 h1) fun x9 h10 =>
    some (x9, h10))
  else
    (bd (F_md_weeksAll a0 a1 a2 h1) fun x12 h13 =>
    bn (gI h13 a0 13 36) fun x14 =>
    bd (F_md_good a0 x14 h13) fun x17 h18 =>
    some (x17, h18)))
set_option maxRecDepth 20000 in
theorem K_md_eaten {a0 : Nat} {a1 : Int32} {a2 : Int32} {h : Hp} {v : Int32} {h' : Hp} (hS : F_md_eaten a0 a1 a2 h = some (v, h')) : kd h a0 = 13 := by
  unfold F_md_eaten at hS
  exact (ck_s hS).1
set_option maxRecDepth 20000 in
theorem R_md_eaten (d : Nat) (hd : 7 ≤ d) {a0 : Nat} {a1 : Int32} {a2 : Int32} {h : Hp} {v : Int32} {h' : Hp} (hS : F_md_eaten a0 a1 a2 h = some (v, h')) : Ev P d 306 (0, [.ref a0, .int a1, .int a2, unk], [], h) (some (.int v), h') := by
  unfold F_md_eaten at hS
  replace hS := (ck_s hS).2
  refine ev_aload_n pm306 i306_0 rfl rfl rfl ?_
  refine ev_iconst (v := 0) pm306 i306_1 rfl (by decide) rfl ?_
  obtain ⟨h1, e2, hS⟩ := bn_s hS
  refine ev_putI pm306 i306_2 rfl rfl rfl e2 rfl ?_
  refine ev_aload_n pm306 i306_5 rfl rfl rfl ?_
  refine ev_aload_n pm306 i306_6 rfl rfl rfl ?_
  obtain ⟨x3, e4, hS⟩ := bn_s hS
  refine ev_getQ pm306 i306_7 rfl rfl rfl e4 rfl ?_
  obtain ⟨q5, I759, hS⟩ := bn_s hS
  have J1 : Ev P d 306 (18, [.ref a0, .int a1, .int a2, unk], [.int q5, .ref a0], h1) (some (.int v), h') := by
    refine ev_iload_n pm306 i306_18 rfl rfl rfl ?_
    refine ev_iload_n pm306 i306_19 rfl rfl rfl ?_
    obtain ⟨x7, e6, hS⟩ := bn_s hS
    refine ev_callV (sa := [.int a2, .int a1, .int q5]) (rest := []) (st' := [.int x7]) (ls0 := [.ref a0, .int q5, .int a1, .int a2]) (rv := some (.int x7)) pm306 i306_20 rfl rfl pm303 (by decide) (K_md_refusesSeed e6) rfl rfl (Nat.le_of_ble_eq_true rfl) (by omega) rfl (R_md_refusesSeed (d - 1) (by omega) e6) (by simp) rfl rfl ?_
    refine ev_istore_n (ls' := [.ref a0, .int a1, .int a2, .int x7]) pm306 i306_23 rfl (Nat.le_of_ble_eq_true rfl) rfl rfl ?_
    refine ev_iload_n pm306 i306_24 rfl rfl rfl ?_
    by_cases c760 : (0 : Int32) < x7
    · rw [if_pos c760] at hS
      refine ev_if_le_t (t := 34) pm306 i306_25 rfl c760 rfl rfl ?_
      refine ev_aload_n pm306 i306_28 rfl rfl rfl ?_
      refine ev_iload_n pm306 i306_29 rfl rfl rfl ?_
      obtain ⟨x9, h10, e8, hS⟩ := bd_s hS
      refine ev_callV (sa := [.int x7]) (rest := []) (st' := [.int x9]) (ls0 := [.ref a0, .int x7]) (rv := some (.int x9)) pm306 i306_30 rfl rfl pm186 (by decide) (K_md_refused e8) rfl rfl (Nat.le_of_ble_eq_true rfl) (by omega) rfl (R_md_refused (d - 1) (by omega) e8) (by simp) rfl rfl ?_
      cases hS
      exact ev_ireturn pm306 i306_33 rfl rfl rfl
    · rw [if_neg c760] at hS
      refine ev_if_le_f (t := 34) pm306 i306_25 rfl c760 rfl rfl ?_
      refine ev_aload_n pm306 i306_34 rfl rfl rfl ?_
      refine ev_iload_n pm306 i306_35 rfl rfl rfl ?_
      refine ev_iload_n pm306 i306_36 rfl rfl rfl ?_
      obtain ⟨x12, h13, e11, hS⟩ := bd_s hS
      refine ev_callV (sa := [.int a2, .int a1]) (rest := []) (st' := [.int x12]) (ls0 := [.ref a0, .int a1, .int a2, unk, unk]) (rv := some (.int x12)) pm306 i306_37 rfl rfl pm304 (by decide) (K_md_weeksAll e11) rfl rfl (Nat.le_of_ble_eq_true rfl) (by omega) rfl (R_md_weeksAll (d - 1) (by omega) e11) (by simp) rfl rfl ?_
      refine ev_pop pm306 i306_40 rfl rfl rfl ?_
      refine ev_aload_n pm306 i306_41 rfl rfl rfl ?_
      refine ev_aload_n pm306 i306_42 rfl rfl rfl ?_
      obtain ⟨x14, e15, hS⟩ := bn_s hS
      refine ev_getI pm306 i306_43 rfl rfl (by decide) e15 rfl ?_
      obtain ⟨x17, h18, e16, hS⟩ := bd_s hS
      refine ev_callV (sa := [.int x14]) (rest := []) (st' := [.int x17]) (ls0 := [.ref a0, .int x14]) (rv := some (.int x17)) pm306 i306_46 rfl rfl pm224 (by decide) (K_md_good e16) rfl rfl (Nat.le_of_ble_eq_true rfl) (by omega) rfl (R_md_good (d - 1) (by omega) e16) (by simp) rfl rfl ?_
      cases hS
      exact ev_ireturn pm306 i306_49 rfl rfl rfl
  clear hS
  by_cases c759 : x3 = none
  · rw [if_pos c759] at I759
    subst c759
    refine ev_nullT (t := 17) pm306 i306_10 rfl rfl ?_
    refine ev_iconst (v := 0) pm306 i306_17 rfl (by decide) rfl ?_
    cases I759
    exact J1
  · rw [if_neg c759] at I759
    obtain ⟨_, rfl⟩ := Option.ne_none_iff_exists'.mp c759
    refine ev_nullF pm306 i306_10 rfl rfl ?_
    refine ev_iconst (v := 1) pm306 i306_13 rfl (by decide) rfl ?_
    refine ev_goto (t := 18) pm306 i306_14 rfl rfl ?_
    cases I759
    exact J1
def F_md_sunkAt (a0 : Nat) (a1 : Int32) (a2 : Int32) (h : Hp) : Option (Int32 × Hp) :=
  ck h a0 13 (bn (pI h a0 13 0 (0 : Int32)) fun h1 =>
  bn (gQ h1 a0 13 3) fun x3 =>
  bn (if x3 = none then
      (some (0 : Int32))
    else
      (some (1 : Int32))) fun q5 =>
  bn (F_md_refusesSeed a0 q5 a1 a2 h1) fun x7 =>
  if (0 : Int32) < x7 then
    (bd (F_md_refused a0 x7 h1) fun x9 h10 =>
    some (x9, h10))
  else
    (bd (F_md_weeksAll a0 a1 a2 h1) fun x12 h13 =>
    bd (F_md_good a0 x12 h13) fun x15 h16 =>
    some (x15, h16)))
set_option maxRecDepth 20000 in
theorem K_md_sunkAt {a0 : Nat} {a1 : Int32} {a2 : Int32} {h : Hp} {v : Int32} {h' : Hp} (hS : F_md_sunkAt a0 a1 a2 h = some (v, h')) : kd h a0 = 13 := by
  unfold F_md_sunkAt at hS
  exact (ck_s hS).1
set_option maxRecDepth 20000 in
theorem R_md_sunkAt (d : Nat) (hd : 7 ≤ d) {a0 : Nat} {a1 : Int32} {a2 : Int32} {h : Hp} {v : Int32} {h' : Hp} (hS : F_md_sunkAt a0 a1 a2 h = some (v, h')) : Ev P d 307 (0, [.ref a0, .int a1, .int a2, unk], [], h) (some (.int v), h') := by
  unfold F_md_sunkAt at hS
  replace hS := (ck_s hS).2
  refine ev_aload_n pm307 i307_0 rfl rfl rfl ?_
  refine ev_iconst (v := 0) pm307 i307_1 rfl (by decide) rfl ?_
  obtain ⟨h1, e2, hS⟩ := bn_s hS
  refine ev_putI pm307 i307_2 rfl rfl rfl e2 rfl ?_
  refine ev_aload_n pm307 i307_5 rfl rfl rfl ?_
  refine ev_aload_n pm307 i307_6 rfl rfl rfl ?_
  obtain ⟨x3, e4, hS⟩ := bn_s hS
  refine ev_getQ pm307 i307_7 rfl rfl rfl e4 rfl ?_
  obtain ⟨q5, I761, hS⟩ := bn_s hS
  have J1 : Ev P d 307 (18, [.ref a0, .int a1, .int a2, unk], [.int q5, .ref a0], h1) (some (.int v), h') := by
    refine ev_iload_n pm307 i307_18 rfl rfl rfl ?_
    refine ev_iload_n pm307 i307_19 rfl rfl rfl ?_
    obtain ⟨x7, e6, hS⟩ := bn_s hS
    refine ev_callV (sa := [.int a2, .int a1, .int q5]) (rest := []) (st' := [.int x7]) (ls0 := [.ref a0, .int q5, .int a1, .int a2]) (rv := some (.int x7)) pm307 i307_20 rfl rfl pm303 (by decide) (K_md_refusesSeed e6) rfl rfl (Nat.le_of_ble_eq_true rfl) (by omega) rfl (R_md_refusesSeed (d - 1) (by omega) e6) (by simp) rfl rfl ?_
    refine ev_istore_n (ls' := [.ref a0, .int a1, .int a2, .int x7]) pm307 i307_23 rfl (Nat.le_of_ble_eq_true rfl) rfl rfl ?_
    refine ev_iload_n pm307 i307_24 rfl rfl rfl ?_
    by_cases c762 : (0 : Int32) < x7
    · rw [if_pos c762] at hS
      refine ev_if_le_t (t := 36) pm307 i307_25 rfl c762 rfl rfl ?_
      refine ev_aload_n pm307 i307_28 rfl rfl rfl ?_
      refine ev_iload_n pm307 i307_29 rfl rfl rfl ?_
      obtain ⟨x9, h10, e8, hS⟩ := bd_s hS
      refine ev_callV (sa := [.int x7]) (rest := []) (st' := [.int x9]) (ls0 := [.ref a0, .int x7]) (rv := some (.int x9)) pm307 i307_30 rfl rfl pm186 (by decide) (K_md_refused e8) rfl rfl (Nat.le_of_ble_eq_true rfl) (by omega) rfl (R_md_refused (d - 1) (by omega) e8) (by simp) rfl rfl ?_
      refine ev_goto (t := 46) pm307 i307_33 rfl rfl ?_
      refine ev_kls (ls' := [unk, unk, unk, unk]) pm307 i307_46 rfl rfl ?_
      cases hS
      exact ev_ireturn pm307 i307_46 rfl rfl rfl
    · rw [if_neg c762] at hS
      refine ev_if_le_f (t := 36) pm307 i307_25 rfl c762 rfl rfl ?_
      refine ev_aload_n pm307 i307_36 rfl rfl rfl ?_
      refine ev_aload_n pm307 i307_37 rfl rfl rfl ?_
      refine ev_iload_n pm307 i307_38 rfl rfl rfl ?_
      refine ev_iload_n pm307 i307_39 rfl rfl rfl ?_
      obtain ⟨x12, h13, e11, hS⟩ := bd_s hS
      refine ev_callV (sa := [.int a2, .int a1]) (rest := [.ref a0]) (st' := [.int x12, .ref a0]) (ls0 := [.ref a0, .int a1, .int a2, unk, unk]) (rv := some (.int x12)) pm307 i307_40 rfl rfl pm304 (by decide) (K_md_weeksAll e11) rfl rfl (Nat.le_of_ble_eq_true rfl) (by omega) rfl (R_md_weeksAll (d - 1) (by omega) e11) (by simp) rfl rfl ?_
      obtain ⟨x15, h16, e14, hS⟩ := bd_s hS
      refine ev_callV (sa := [.int x12]) (rest := []) (st' := [.int x15]) (ls0 := [.ref a0, .int x12]) (rv := some (.int x15)) pm307 i307_43 rfl rfl pm224 (by decide) (K_md_good e14) rfl rfl (Nat.le_of_ble_eq_true rfl) (by omega) rfl (R_md_good (d - 1) (by omega) e14) (by simp) rfl rfl ?_
      refine ev_kls (ls' := [unk, unk, unk, unk]) pm307 i307_46 rfl rfl ?_
      cases hS
      exact ev_ireturn pm307 i307_46 rfl rfl rfl
  clear hS
  by_cases c761 : x3 = none
  · rw [if_pos c761] at I761
    subst c761
    refine ev_nullT (t := 17) pm307 i307_10 rfl rfl ?_
    refine ev_iconst (v := 0) pm307 i307_17 rfl (by decide) rfl ?_
    cases I761
    exact J1
  · rw [if_neg c761] at I761
    obtain ⟨_, rfl⟩ := Option.ne_none_iff_exists'.mp c761
    refine ev_nullF pm307 i307_10 rfl rfl ?_
    refine ev_iconst (v := 1) pm307 i307_13 rfl (by decide) rfl ?_
    refine ev_goto (t := 18) pm307 i307_14 rfl rfl ?_
    cases I761
    exact J1
def B_md_remembers_11 (l0 : Nat) (s : Int32) (h : Hp) : Option (((Int32) ⊕ (Unit)) × Hp) :=
  if s < (465 : Int32) then
    (bn (gR h l0 13 17) fun x3 =>
    bn (gR h l0 13 17) fun x5 =>
    bn (aI h 100 x5 (s + (31 : Int32))) fun x7 =>
    bn (sI h 100 x3 s x7) fun h9 =>
    some (.inl (s + (1 : Int32)), h9))
  else
    (some (.inr (), h))
set_option maxRecDepth 20000 in
theorem L_md_remembers_11 (d : Nat) (hd : 0 ≤ d) {l0 : Nat} : ∀ (n : Nat) (s : Int32) (h : Hp) (x : Unit) (hx : Hp), lp (B_md_remembers_11 l0) n s h = some (x, hx) → ∀ r, Ev P d 309 (39, [.ref l0, unk], [], hx) r → Ev P d 309 (11, [.ref l0, .int s], [], h) r := by
  refine lp_ev (G0 := fun (s : Int32) h r => Ev P d 309 (11, [.ref l0, .int s], [], h) r) (X := fun (x : Unit) hx r => Ev P d 309 (39, [.ref l0, unk], [], hx) r) ?_
  intro s h y h9 hS r hK
  unfold B_md_remembers_11 at hS
  show Ev P d 309 (11, [.ref l0, .int s], [], h) r
  refine ev_iload_n pm309 i309_11 rfl rfl rfl ?_
  refine ev_sipush (v := 465) pm309 i309_12 rfl (by decide) rfl ?_
  by_cases c763 : s < (465 : Int32)
  · rw [if_pos c763] at hS
    refine ev_icmp_ge_t (t := 39) pm309 i309_15 rfl c763 rfl rfl ?_
    refine ev_aload_n pm309 i309_18 rfl rfl rfl ?_
    obtain ⟨x3, e4, hS⟩ := bn_s hS
    refine ev_getR pm309 i309_19 rfl rfl rfl e4 rfl ?_
    refine ev_iload_n pm309 i309_22 rfl rfl rfl ?_
    refine ev_aload_n pm309 i309_23 rfl rfl rfl ?_
    obtain ⟨x5, e6, hS⟩ := bn_s hS
    refine ev_getR pm309 i309_24 rfl rfl rfl e6 rfl ?_
    refine ev_iload_n pm309 i309_27 rfl rfl rfl ?_
    refine ev_bipush (v := 31) pm309 i309_28 rfl (by decide) rfl ?_
    refine ev_b2 (f := fun x y => x + y) pm309 i309_30 rfl (fun _ _ _ _ => rfl) rfl ?_
    obtain ⟨x7, e8, hS⟩ := bn_s hS
    refine ev_iald pm309 i309_31 rfl e8 rfl ?_
    obtain ⟨h9, e10, hS⟩ := bn_s hS
    refine ev_iast pm309 i309_32 rfl e10 rfl ?_
    refine ev_iinc (v := 1) (ls' := [.ref l0, .int (s + (1 : Int32))]) pm309 i309_33 rfl rfl (by decide) rfl rfl ?_
    refine ev_goto (t := 11) pm309 i309_36 rfl rfl ?_
    cases hS
    exact hK
  · rw [if_neg c763] at hS
    refine ev_icmp_ge_f (t := 39) pm309 i309_15 rfl c763 rfl rfl ?_
    refine ev_kls (ls' := [.ref l0, unk]) pm309 i309_39 rfl rfl ?_
    cases hS
    exact hK
def B_md_remembers_51 (l0 : Nat) (s : Int32) (h : Hp) : Option (((Int32) ⊕ (Unit)) × Hp) :=
  if s < (31 : Int32) then
    (bn (gR h l0 13 17) fun x20 =>
    bn (gI h l0 13 19) fun x22 =>
    bn (gR h l0 13 15) fun x24 =>
    bn (aI h 100 x24 s) fun x26 =>
    bn (sI h 100 x20 (((31 : Int32) * x22) + s) x26) fun h28 =>
    some (.inl (s + (1 : Int32)), h28))
  else
    (some (.inr (), h))
set_option maxRecDepth 20000 in
theorem L_md_remembers_51 (d : Nat) (hd : 0 ≤ d) {l0 : Nat} : ∀ (n : Nat) (s : Int32) (h : Hp) (x : Unit) (hx : Hp), lp (B_md_remembers_51 l0) n s h = some (x, hx) → ∀ r, Ev P d 309 (83, [.ref l0, unk], [], hx) r → Ev P d 309 (51, [.ref l0, .int s], [], h) r := by
  refine lp_ev (G0 := fun (s : Int32) h r => Ev P d 309 (51, [.ref l0, .int s], [], h) r) (X := fun (x : Unit) hx r => Ev P d 309 (83, [.ref l0, unk], [], hx) r) ?_
  intro s h y h9 hS r hK
  unfold B_md_remembers_51 at hS
  show Ev P d 309 (51, [.ref l0, .int s], [], h) r
  refine ev_iload_n pm309 i309_51 rfl rfl rfl ?_
  refine ev_bipush (v := 31) pm309 i309_52 rfl (by decide) rfl ?_
  by_cases c764 : s < (31 : Int32)
  · rw [if_pos c764] at hS
    refine ev_icmp_ge_t (t := 83) pm309 i309_54 rfl c764 rfl rfl ?_
    refine ev_aload_n pm309 i309_57 rfl rfl rfl ?_
    obtain ⟨x20, e21, hS⟩ := bn_s hS
    refine ev_getR pm309 i309_58 rfl rfl rfl e21 rfl ?_
    refine ev_bipush (v := 31) pm309 i309_61 rfl (by decide) rfl ?_
    refine ev_aload_n pm309 i309_63 rfl rfl rfl ?_
    obtain ⟨x22, e23, hS⟩ := bn_s hS
    refine ev_getI pm309 i309_64 rfl rfl (by decide) e23 rfl ?_
    refine ev_b2 (f := fun x y => x * y) pm309 i309_67 rfl (fun _ _ _ _ => rfl) rfl ?_
    refine ev_iload_n pm309 i309_68 rfl rfl rfl ?_
    refine ev_b2 (f := fun x y => x + y) pm309 i309_69 rfl (fun _ _ _ _ => rfl) rfl ?_
    refine ev_aload_n pm309 i309_70 rfl rfl rfl ?_
    obtain ⟨x24, e25, hS⟩ := bn_s hS
    refine ev_getR pm309 i309_71 rfl rfl rfl e25 rfl ?_
    refine ev_iload_n pm309 i309_74 rfl rfl rfl ?_
    obtain ⟨x26, e27, hS⟩ := bn_s hS
    refine ev_iald pm309 i309_75 rfl e27 rfl ?_
    obtain ⟨h28, e29, hS⟩ := bn_s hS
    refine ev_iast pm309 i309_76 rfl e29 rfl ?_
    refine ev_iinc (v := 1) (ls' := [.ref l0, .int (s + (1 : Int32))]) pm309 i309_77 rfl rfl (by decide) rfl rfl ?_
    refine ev_goto (t := 51) pm309 i309_80 rfl rfl ?_
    cases hS
    exact hK
  · rw [if_neg c764] at hS
    refine ev_icmp_ge_f (t := 83) pm309 i309_54 rfl c764 rfl rfl ?_
    refine ev_kls (ls' := [.ref l0, unk]) pm309 i309_83 rfl rfl ?_
    cases hS
    exact hK
def F_md_remembers (a0 : Nat) (h : Hp) : Option Hp :=
  ck h a0 13 (bn (gI h a0 13 19) fun x1 =>
  bn (if x1 = (16 : Int32) then
      (bd (lp (B_md_remembers_11 a0) FU (0 : Int32) h) fun x11 h13 =>
      bn (gI h13 a0 13 19) fun x14 =>
      bn (pI h13 a0 13 19 (x14 - (1 : Int32))) fun h16 =>
      some h16)
    else
      (some h)) fun h19 =>
  bd (lp (B_md_remembers_51 a0) FU (0 : Int32) h19) fun x30 h32 =>
  bn (gI h32 a0 13 19) fun x33 =>
  bn (pI h32 a0 13 19 (x33 + (1 : Int32))) fun h35 =>
  some h35)
set_option maxRecDepth 20000 in
theorem K_md_remembers {a0 : Nat} {h : Hp} {h' : Hp} (hS : F_md_remembers a0 h = some h') : kd h a0 = 13 := by
  unfold F_md_remembers at hS
  exact (ck_s hS).1
set_option maxRecDepth 20000 in
theorem R_md_remembers (d : Nat) (hd : 0 ≤ d) {a0 : Nat} {h : Hp} {h' : Hp} (hS : F_md_remembers a0 h = some h') : Ev P d 309 (0, [.ref a0, unk], [], h) (none, h') := by
  unfold F_md_remembers at hS
  replace hS := (ck_s hS).2
  refine ev_aload_n pm309 i309_0 rfl rfl rfl ?_
  obtain ⟨x1, e2, hS⟩ := bn_s hS
  refine ev_getI pm309 i309_1 rfl rfl (by decide) e2 rfl ?_
  refine ev_bipush (v := 16) pm309 i309_4 rfl (by decide) rfl ?_
  obtain ⟨h19, I765, hS⟩ := bn_s hS
  have J1 : Ev P d 309 (49, [.ref a0, unk], [], h19) (none, h') := by
    refine ev_iconst (v := 0) pm309 i309_49 rfl (by decide) rfl ?_
    refine ev_istore_n (ls' := [.ref a0, .int (0 : Int32)]) pm309 i309_50 rfl (Nat.le_of_ble_eq_true rfl) rfl rfl ?_
    obtain ⟨x30, h32, e31, hS⟩ := bd_s hS
    refine L_md_remembers_51 d (by omega) _ _ _ _ _ e31 _ ?_
    show Ev P d 309 (83, [.ref a0, unk], [], h32) _
    refine ev_aload_n pm309 i309_83 rfl rfl rfl ?_
    refine ev_dup pm309 i309_84 rfl rfl rfl ?_
    obtain ⟨x33, e34, hS⟩ := bn_s hS
    refine ev_getI pm309 i309_85 rfl rfl (by decide) e34 rfl ?_
    refine ev_iconst (v := 1) pm309 i309_88 rfl (by decide) rfl ?_
    refine ev_b2 (f := fun x y => x + y) pm309 i309_89 rfl (fun _ _ _ _ => rfl) rfl ?_
    obtain ⟨h35, e36, hS⟩ := bn_s hS
    refine ev_putI pm309 i309_90 rfl rfl rfl e36 rfl ?_
    cases hS
    exact ev_return pm309 i309_93 rfl rfl rfl
  clear hS
  by_cases c765 : x1 = (16 : Int32)
  · rw [if_pos c765] at I765
    refine ev_icmp_ne_t (t := 49) pm309 i309_6 rfl c765 rfl rfl ?_
    refine ev_iconst (v := 0) pm309 i309_9 rfl (by decide) rfl ?_
    refine ev_istore_n (ls' := [.ref a0, .int (0 : Int32)]) pm309 i309_10 rfl (Nat.le_of_ble_eq_true rfl) rfl rfl ?_
    obtain ⟨x11, h13, e12, I765⟩ := bd_s I765
    refine L_md_remembers_11 d (by omega) _ _ _ _ _ e12 _ ?_
    show Ev P d 309 (39, [.ref a0, unk], [], h13) _
    refine ev_aload_n pm309 i309_39 rfl rfl rfl ?_
    refine ev_dup pm309 i309_40 rfl rfl rfl ?_
    obtain ⟨x14, e15, I765⟩ := bn_s I765
    refine ev_getI pm309 i309_41 rfl rfl (by decide) e15 rfl ?_
    refine ev_iconst (v := 1) pm309 i309_44 rfl (by decide) rfl ?_
    refine ev_b2 (f := fun x y => x - y) pm309 i309_45 rfl (fun _ _ _ _ => rfl) rfl ?_
    obtain ⟨h16, e17, I765⟩ := bn_s I765
    refine ev_putI pm309 i309_46 rfl rfl rfl e17 rfl ?_
    cases I765
    exact J1
  · rw [if_neg c765] at I765
    refine ev_icmp_ne_f (t := 49) pm309 i309_6 rfl c765 rfl rfl ?_
    cases I765
    exact J1
def F_md_drink (a0 : Nat) (a1 : Int32) (a2 : Int32) (h : Hp) : Option (Int32 × Hp) :=
  ck h a0 13 (bn (pI h a0 13 0 (0 : Int32)) fun h1 =>
  bn (F_md_isDrinker a0 a1 h1) fun x4 =>
  bn (if x4 = (0 : Int32) then
      (some (Sum.inl ()))
    else
      (bn (F_md_isHouse a0 a2 h1) fun x6 =>
      if x6 = (0 : Int32) then
        (some (Sum.inl ()))
      else
        (bn (gR h1 a0 13 3) fun x7 =>
        bn (gR h1 x7 12 17) fun x9 =>
        bn (aI h1 100 x9 a1) fun x11 =>
        bn (F_md_cell a2 x11) fun x14 =>
        bn (gR h1 a0 13 15) fun x15 =>
        bn (aI h1 100 x15 x14) fun x17 =>
        if x17 < (999 : Int32) then
          (bn (F_md_remembers a0 h1) fun h20 =>
          bn (gR h20 a0 13 15) fun x21 =>
          bn (aI h20 100 x21 x14) fun x23 =>
          bn (sI h20 100 x21 x14 (x23 + (1 : Int32))) fun h25 =>
          bn (gR h25 a0 13 15) fun x27 =>
          bn (aI h25 100 x27 x14) fun x29 =>
          bd (F_md_good a0 x29 h25) fun x32 h33 =>
          some (Sum.inr (x32, h33)))
        else
          (bd (F_md_refused a0 (3 : Int32) h1) fun x35 h36 =>
          some (Sum.inr (x35, h36)))))) fun x42 =>
  ei x42 (fun z38 =>
  bd (F_md_refused a0 (1 : Int32) h1) fun x40 h41 =>
  some (x40, h41))
  (fun z => some z))
set_option maxRecDepth 20000 in
theorem K_md_drink {a0 : Nat} {a1 : Int32} {a2 : Int32} {h : Hp} {v : Int32} {h' : Hp} (hS : F_md_drink a0 a1 a2 h = some (v, h')) : kd h a0 = 13 := by
  unfold F_md_drink at hS
  exact (ck_s hS).1
set_option maxRecDepth 20000 in
theorem R_md_drink (d : Nat) (hd : 1 ≤ d) {a0 : Nat} {a1 : Int32} {a2 : Int32} {h : Hp} {v : Int32} {h' : Hp} (hS : F_md_drink a0 a1 a2 h = some (v, h')) : Ev P d 308 (0, [.ref a0, .int a1, .int a2, unk], [], h) (some (.int v), h') := by
  unfold F_md_drink at hS
  replace hS := (ck_s hS).2
  refine ev_aload_n pm308 i308_0 rfl rfl rfl ?_
  refine ev_iconst (v := 0) pm308 i308_1 rfl (by decide) rfl ?_
  obtain ⟨h1, e2, hS⟩ := bn_s hS
  refine ev_putI pm308 i308_2 rfl rfl rfl e2 rfl ?_
  refine ev_aload_n pm308 i308_5 rfl rfl rfl ?_
  refine ev_iload_n pm308 i308_6 rfl rfl rfl ?_
  obtain ⟨x4, e3, hS⟩ := bn_s hS
  refine ev_callV (sa := [.int a1]) (rest := []) (st' := [.int x4]) (ls0 := [.ref a0, .int a1]) (rv := some (.int x4)) pm308 i308_7 rfl rfl pm273 (by decide) (K_md_isDrinker e3) rfl rfl (Nat.le_of_ble_eq_true rfl) (by omega) rfl (R_md_isDrinker (d - 1) (by omega) e3) (by simp) rfl rfl ?_
  obtain ⟨x42, I766, hS⟩ := bn_s hS
  have J1 : ∀ z38, x42 = Sum.inl z38 → Ev P d 308 (21, [.ref a0, unk, unk, unk], [], h1) (some (.int v), h') := by
    intro z38 hx
    subst hx
    replace hS := ei_l hS
    refine ev_aload_n pm308 i308_21 rfl rfl rfl ?_
    refine ev_iconst (v := 1) pm308 i308_22 rfl (by decide) rfl ?_
    obtain ⟨x40, h41, e39, hS⟩ := bd_s hS
    refine ev_callV (sa := [.int (1 : Int32)]) (rest := []) (st' := [.int x40]) (ls0 := [.ref a0, .int (1 : Int32)]) (rv := some (.int x40)) pm308 i308_23 rfl rfl pm186 (by decide) (K_md_refused e39) rfl rfl (Nat.le_of_ble_eq_true rfl) (by omega) rfl (R_md_refused (d - 1) (by omega) e39) (by simp) rfl rfl ?_
    cases hS
    exact ev_ireturn pm308 i308_26 rfl rfl rfl
  have Z1 := ej_z hS
  clear hS
  by_cases c766 : x4 = (0 : Int32)
  · rw [if_pos c766] at I766
    refine ev_if_eq_t (t := 21) pm308 i308_10 rfl c766 rfl rfl ?_
    refine ev_kls (ls' := [.ref a0, unk, unk, unk]) pm308 i308_21 rfl rfl ?_
    cases I766
    exact J1 _ rfl
  · rw [if_neg c766] at I766
    refine ev_if_eq_f (t := 21) pm308 i308_10 rfl c766 rfl rfl ?_
    refine ev_aload_n pm308 i308_13 rfl rfl rfl ?_
    refine ev_iload_n pm308 i308_14 rfl rfl rfl ?_
    obtain ⟨x6, e5, I766⟩ := bn_s I766
    refine ev_callV (sa := [.int a2]) (rest := []) (st' := [.int x6]) (ls0 := [.ref a0, .int a2]) (rv := some (.int x6)) pm308 i308_15 rfl rfl pm228 (by decide) (K_md_isHouse e5) rfl rfl (Nat.le_of_ble_eq_true rfl) (by omega) rfl (R_md_isHouse (d - 1) (by omega) e5) (by simp) rfl rfl ?_
    by_cases c767 : x6 = (0 : Int32)
    · rw [if_pos c767] at I766
      refine ev_if_ne_t (t := 27) pm308 i308_18 rfl c767 rfl rfl ?_
      refine ev_kls (ls' := [.ref a0, unk, unk, unk]) pm308 i308_21 rfl rfl ?_
      cases I766
      exact J1 _ rfl
    · rw [if_neg c767] at I766
      refine ev_if_ne_f (t := 27) pm308 i308_18 rfl c767 rfl rfl ?_
      refine ev_iload_n pm308 i308_27 rfl rfl rfl ?_
      refine ev_aload_n pm308 i308_28 rfl rfl rfl ?_
      obtain ⟨x7, e8, I766⟩ := bn_s I766
      refine ev_getR pm308 i308_29 rfl rfl rfl e8 rfl ?_
      obtain ⟨x9, e10, I766⟩ := bn_s I766
      refine ev_getR pm308 i308_32 rfl rfl rfl e10 rfl ?_
      refine ev_iload_n pm308 i308_35 rfl rfl rfl ?_
      obtain ⟨x11, e12, I766⟩ := bn_s I766
      refine ev_iald pm308 i308_36 rfl e12 rfl ?_
      obtain ⟨x14, e13, I766⟩ := bn_s I766
      refine ev_callS (sa := [.int x11, .int a2]) (rest := []) (st' := [.int x14]) (ls0 := [.int a2, .int x11]) (rv := some (.int x14)) pm308 i308_37 rfl rfl pm223 (by decide) rfl rfl (Nat.le_of_ble_eq_true rfl) (by omega) rfl (R_md_cell (d - 1) (by omega) e13) (by simp) rfl rfl ?_
      refine ev_istore_n (ls' := [.ref a0, .int a1, .int a2, .int x14]) pm308 i308_40 rfl (Nat.le_of_ble_eq_true rfl) rfl rfl ?_
      refine ev_aload_n pm308 i308_41 rfl rfl rfl ?_
      obtain ⟨x15, e16, I766⟩ := bn_s I766
      refine ev_getR pm308 i308_42 rfl rfl rfl e16 rfl ?_
      refine ev_iload_n pm308 i308_45 rfl rfl rfl ?_
      obtain ⟨x17, e18, I766⟩ := bn_s I766
      refine ev_iald pm308 i308_46 rfl e18 rfl ?_
      refine ev_sipush (v := 999) pm308 i308_47 rfl (by decide) rfl ?_
      by_cases c768 : x17 < (999 : Int32)
      · rw [if_pos c768] at I766
        refine ev_icmp_lt_t (t := 59) pm308 i308_50 rfl c768 rfl rfl ?_
        refine ev_aload_n pm308 i308_59 rfl rfl rfl ?_
        obtain ⟨h20, e19, I766⟩ := bn_s I766
        refine ev_callV (sa := []) (rest := []) (st' := []) (ls0 := [.ref a0, unk]) (rv := none) pm308 i308_60 rfl rfl pm309 (by decide) (K_md_remembers e19) rfl rfl (Nat.le_of_ble_eq_true rfl) (by omega) rfl (R_md_remembers (d - 1) (by omega) e19) (by simp) rfl rfl ?_
        refine ev_aload_n pm308 i308_63 rfl rfl rfl ?_
        obtain ⟨x21, e22, I766⟩ := bn_s I766
        refine ev_getR pm308 i308_64 rfl rfl rfl e22 rfl ?_
        refine ev_iload_n pm308 i308_67 rfl rfl rfl ?_
        refine ev_dup2 pm308 i308_68 rfl ⟨rfl, rfl⟩ rfl ?_
        obtain ⟨x23, e24, I766⟩ := bn_s I766
        refine ev_iald pm308 i308_69 rfl e24 rfl ?_
        refine ev_iconst (v := 1) pm308 i308_70 rfl (by decide) rfl ?_
        refine ev_b2 (f := fun x y => x + y) pm308 i308_71 rfl (fun _ _ _ _ => rfl) rfl ?_
        obtain ⟨h25, e26, I766⟩ := bn_s I766
        refine ev_iast pm308 i308_72 rfl e26 rfl ?_
        refine ev_aload_n pm308 i308_73 rfl rfl rfl ?_
        refine ev_aload_n pm308 i308_74 rfl rfl rfl ?_
        obtain ⟨x27, e28, I766⟩ := bn_s I766
        refine ev_getR pm308 i308_75 rfl rfl rfl e28 rfl ?_
        refine ev_iload_n pm308 i308_78 rfl rfl rfl ?_
        obtain ⟨x29, e30, I766⟩ := bn_s I766
        refine ev_iald pm308 i308_79 rfl e30 rfl ?_
        obtain ⟨x32, h33, e31, I766⟩ := bd_s I766
        refine ev_callV (sa := [.int x29]) (rest := []) (st' := [.int x32]) (ls0 := [.ref a0, .int x29]) (rv := some (.int x32)) pm308 i308_80 rfl rfl pm224 (by decide) (K_md_good e31) rfl rfl (Nat.le_of_ble_eq_true rfl) (by omega) rfl (R_md_good (d - 1) (by omega) e31) (by simp) rfl rfl ?_
        cases I766
        have hz1 := Z1 _ rfl
        cases hz1
        exact ev_ireturn pm308 i308_83 rfl rfl rfl
      · rw [if_neg c768] at I766
        refine ev_icmp_lt_f (t := 59) pm308 i308_50 rfl c768 rfl rfl ?_
        refine ev_aload_n pm308 i308_53 rfl rfl rfl ?_
        refine ev_iconst (v := 3) pm308 i308_54 rfl (by decide) rfl ?_
        obtain ⟨x35, h36, e34, I766⟩ := bd_s I766
        refine ev_callV (sa := [.int (3 : Int32)]) (rest := []) (st' := [.int x35]) (ls0 := [.ref a0, .int (3 : Int32)]) (rv := some (.int x35)) pm308 i308_55 rfl rfl pm186 (by decide) (K_md_refused e34) rfl rfl (Nat.le_of_ble_eq_true rfl) (by omega) rfl (R_md_refused (d - 1) (by omega) e34) (by simp) rfl rfl ?_
        cases I766
        have hz1 := Z1 _ rfl
        cases hz1
        exact ev_ireturn pm308 i308_58 rfl rfl rfl
def F_md_denied (a0 : Nat) (a1 : Int32) (h : Hp) : Option (Int32 × Hp) :=
  ck h a0 13 (bd (F_md_refused a0 a1 h) fun x2 h3 =>
  some ((0 : Int32), h3))
set_option maxRecDepth 20000 in
theorem K_md_denied {a0 : Nat} {a1 : Int32} {h : Hp} {v : Int32} {h' : Hp} (hS : F_md_denied a0 a1 h = some (v, h')) : kd h a0 = 13 := by
  unfold F_md_denied at hS
  exact (ck_s hS).1
set_option maxRecDepth 20000 in
theorem R_md_denied (d : Nat) (hd : 1 ≤ d) {a0 : Nat} {a1 : Int32} {h : Hp} {v : Int32} {h' : Hp} (hS : F_md_denied a0 a1 h = some (v, h')) : Ev P d 311 (0, [.ref a0, .int a1], [], h) (some (.int v), h') := by
  unfold F_md_denied at hS
  replace hS := (ck_s hS).2
  refine ev_aload_n pm311 i311_0 rfl rfl rfl ?_
  refine ev_iload_n pm311 i311_1 rfl rfl rfl ?_
  obtain ⟨x2, h3, e1, hS⟩ := bd_s hS
  refine ev_callV (sa := [.int a1]) (rest := []) (st' := [.int x2]) (ls0 := [.ref a0, .int a1]) (rv := some (.int x2)) pm311 i311_2 rfl rfl pm186 (by decide) (K_md_refused e1) rfl rfl (Nat.le_of_ble_eq_true rfl) (by omega) rfl (R_md_refused (d - 1) (by omega) e1) (by simp) rfl rfl ?_
  refine ev_pop pm311 i311_5 rfl rfl rfl ?_
  refine ev_iconst (v := 0) pm311 i311_6 rfl (by decide) rfl ?_
  cases hS
  exact ev_ireturn pm311 i311_7 rfl (by decide) rfl
def F_md_granted (a0 : Nat) (h : Hp) : Option (Int32 × Hp) :=
  ck h a0 13 (bd (F_md_good a0 (0 : Int32) h) fun x2 h3 =>
  some ((1 : Int32), h3))
set_option maxRecDepth 20000 in
theorem K_md_granted {a0 : Nat} {h : Hp} {v : Int32} {h' : Hp} (hS : F_md_granted a0 h = some (v, h')) : kd h a0 = 13 := by
  unfold F_md_granted at hS
  exact (ck_s hS).1
set_option maxRecDepth 20000 in
theorem R_md_granted (d : Nat) (hd : 1 ≤ d) {a0 : Nat} {h : Hp} {v : Int32} {h' : Hp} (hS : F_md_granted a0 h = some (v, h')) : Ev P d 312 (0, [.ref a0], [], h) (some (.int v), h') := by
  unfold F_md_granted at hS
  replace hS := (ck_s hS).2
  refine ev_aload_n pm312 i312_0 rfl rfl rfl ?_
  refine ev_iconst (v := 0) pm312 i312_1 rfl (by decide) rfl ?_
  obtain ⟨x2, h3, e1, hS⟩ := bd_s hS
  refine ev_callV (sa := [.int (0 : Int32)]) (rest := []) (st' := [.int x2]) (ls0 := [.ref a0, .int (0 : Int32)]) (rv := some (.int x2)) pm312 i312_2 rfl rfl pm224 (by decide) (K_md_good e1) rfl rfl (Nat.le_of_ble_eq_true rfl) (by omega) rfl (R_md_good (d - 1) (by omega) e1) (by simp) rfl rfl ?_
  refine ev_pop pm312 i312_5 rfl rfl rfl ?_
  refine ev_iconst (v := 1) pm312 i312_6 rfl (by decide) rfl ?_
  cases hS
  exact ev_ireturn pm312 i312_7 rfl (by decide) rfl
def F_md_move (a0 : Nat) (a1 : Int32) (a2 : Int32) (h : Hp) : Option (Int32 × Hp) :=
  ck h a0 13 (bn (pI h a0 13 0 (0 : Int32)) fun h1 =>
  bn (F_md_isGuest a0 a1 h1) fun x4 =>
  bn (if x4 = (0 : Int32) then
      (some (Sum.inl ()))
    else
      (bn (F_md_isHouse a0 a2 h1) fun x6 =>
      if x6 = (0 : Int32) then
        (some (Sum.inl ()))
      else
        (bn (gR h1 a0 13 15) fun x7 =>
        bn (aI h1 100 x7 ((25 : Int32) + a1)) fun x9 =>
        if x9 = a2 then
          (bd (F_md_denied a0 (5 : Int32) h1) fun x12 h13 =>
          if retV .boolean x12 = true then
            (some (Sum.inr (x12, h13)))
          else
            (none))
        else
          (bn (F_md_remembers a0 h1) fun h15 =>
          bn (gR h15 a0 13 15) fun x16 =>
          bn (sI h15 100 x16 ((25 : Int32) + a1) a2) fun h18 =>
          bd (F_md_granted a0 h18) fun x21 h22 =>
          if retV .boolean x21 = true then
            (some (Sum.inr (x21, h22)))
          else
            (none))))) fun x28 =>
  ei x28 (fun z24 =>
  bd (F_md_denied a0 (1 : Int32) h1) fun x26 h27 =>
  if retV .boolean x26 = true then
    (some (x26, h27))
  else
    (none))
  (fun z => some z))
set_option maxRecDepth 20000 in
theorem K_md_move {a0 : Nat} {a1 : Int32} {a2 : Int32} {h : Hp} {v : Int32} {h' : Hp} (hS : F_md_move a0 a1 a2 h = some (v, h')) : kd h a0 = 13 := by
  unfold F_md_move at hS
  exact (ck_s hS).1
set_option maxRecDepth 20000 in
theorem R_md_move (d : Nat) (hd : 2 ≤ d) {a0 : Nat} {a1 : Int32} {a2 : Int32} {h : Hp} {v : Int32} {h' : Hp} (hS : F_md_move a0 a1 a2 h = some (v, h')) : Ev P d 310 (0, [.ref a0, .int a1, .int a2], [], h) (some (.int v), h') := by
  unfold F_md_move at hS
  replace hS := (ck_s hS).2
  refine ev_aload_n pm310 i310_0 rfl rfl rfl ?_
  refine ev_iconst (v := 0) pm310 i310_1 rfl (by decide) rfl ?_
  obtain ⟨h1, e2, hS⟩ := bn_s hS
  refine ev_putI pm310 i310_2 rfl rfl rfl e2 rfl ?_
  refine ev_aload_n pm310 i310_5 rfl rfl rfl ?_
  refine ev_iload_n pm310 i310_6 rfl rfl rfl ?_
  obtain ⟨x4, e3, hS⟩ := bn_s hS
  refine ev_callV (sa := [.int a1]) (rest := []) (st' := [.int x4]) (ls0 := [.ref a0, .int a1]) (rv := some (.int x4)) pm310 i310_7 rfl rfl pm242 (by decide) (K_md_isGuest e3) rfl rfl (Nat.le_of_ble_eq_true rfl) (by omega) rfl (R_md_isGuest (d - 1) (by omega) e3) (by simp) rfl rfl ?_
  obtain ⟨x28, I769, hS⟩ := bn_s hS
  have J1 : ∀ z24, x28 = Sum.inl z24 → Ev P d 310 (21, [.ref a0, unk, unk], [], h1) (some (.int v), h') := by
    intro z24 hx
    subst hx
    replace hS := ei_l hS
    refine ev_aload_n pm310 i310_21 rfl rfl rfl ?_
    refine ev_iconst (v := 1) pm310 i310_22 rfl (by decide) rfl ?_
    obtain ⟨x26, h27, e25, hS⟩ := bd_s hS
    refine ev_callV (sa := [.int (1 : Int32)]) (rest := []) (st' := [.int x26]) (ls0 := [.ref a0, .int (1 : Int32)]) (rv := some (.int x26)) pm310 i310_23 rfl rfl pm311 (by decide) (K_md_denied e25) rfl rfl (Nat.le_of_ble_eq_true rfl) (by omega) rfl (R_md_denied (d - 1) (by omega) e25) (by simp) rfl rfl ?_
    by_cases c770 : retV .boolean x26 = true
    · rw [if_pos c770] at hS
      cases hS
      exact ev_ireturn pm310 i310_26 rfl c770 rfl
    · rw [if_neg c770] at hS
      cases hS
  have Z1 := ej_z hS
  clear hS
  by_cases c769 : x4 = (0 : Int32)
  · rw [if_pos c769] at I769
    refine ev_if_eq_t (t := 21) pm310 i310_10 rfl c769 rfl rfl ?_
    refine ev_kls (ls' := [.ref a0, unk, unk]) pm310 i310_21 rfl rfl ?_
    cases I769
    exact J1 _ rfl
  · rw [if_neg c769] at I769
    refine ev_if_eq_f (t := 21) pm310 i310_10 rfl c769 rfl rfl ?_
    refine ev_aload_n pm310 i310_13 rfl rfl rfl ?_
    refine ev_iload_n pm310 i310_14 rfl rfl rfl ?_
    obtain ⟨x6, e5, I769⟩ := bn_s I769
    refine ev_callV (sa := [.int a2]) (rest := []) (st' := [.int x6]) (ls0 := [.ref a0, .int a2]) (rv := some (.int x6)) pm310 i310_15 rfl rfl pm228 (by decide) (K_md_isHouse e5) rfl rfl (Nat.le_of_ble_eq_true rfl) (by omega) rfl (R_md_isHouse (d - 1) (by omega) e5) (by simp) rfl rfl ?_
    by_cases c771 : x6 = (0 : Int32)
    · rw [if_pos c771] at I769
      refine ev_if_ne_t (t := 27) pm310 i310_18 rfl c771 rfl rfl ?_
      refine ev_kls (ls' := [.ref a0, unk, unk]) pm310 i310_21 rfl rfl ?_
      cases I769
      exact J1 _ rfl
    · rw [if_neg c771] at I769
      refine ev_if_ne_f (t := 27) pm310 i310_18 rfl c771 rfl rfl ?_
      refine ev_aload_n pm310 i310_27 rfl rfl rfl ?_
      obtain ⟨x7, e8, I769⟩ := bn_s I769
      refine ev_getR pm310 i310_28 rfl rfl rfl e8 rfl ?_
      refine ev_bipush (v := 25) pm310 i310_31 rfl (by decide) rfl ?_
      refine ev_iload_n pm310 i310_33 rfl rfl rfl ?_
      refine ev_b2 (f := fun x y => x + y) pm310 i310_34 rfl (fun _ _ _ _ => rfl) rfl ?_
      obtain ⟨x9, e10, I769⟩ := bn_s I769
      refine ev_iald pm310 i310_35 rfl e10 rfl ?_
      refine ev_iload_n pm310 i310_36 rfl rfl rfl ?_
      by_cases c772 : x9 = a2
      · rw [if_pos c772] at I769
        refine ev_icmp_ne_t (t := 46) pm310 i310_37 rfl c772 rfl rfl ?_
        refine ev_aload_n pm310 i310_40 rfl rfl rfl ?_
        refine ev_iconst (v := 5) pm310 i310_41 rfl (by decide) rfl ?_
        obtain ⟨x12, h13, e11, I769⟩ := bd_s I769
        refine ev_callV (sa := [.int (5 : Int32)]) (rest := []) (st' := [.int x12]) (ls0 := [.ref a0, .int (5 : Int32)]) (rv := some (.int x12)) pm310 i310_42 rfl rfl pm311 (by decide) (K_md_denied e11) rfl rfl (Nat.le_of_ble_eq_true rfl) (by omega) rfl (R_md_denied (d - 1) (by omega) e11) (by simp) rfl rfl ?_
        by_cases c773 : retV .boolean x12 = true
        · rw [if_pos c773] at I769
          cases I769
          have hz1 := Z1 _ rfl
          cases hz1
          exact ev_ireturn pm310 i310_45 rfl c773 rfl
        · rw [if_neg c773] at I769
          cases I769
      · rw [if_neg c772] at I769
        refine ev_icmp_ne_f (t := 46) pm310 i310_37 rfl c772 rfl rfl ?_
        refine ev_aload_n pm310 i310_46 rfl rfl rfl ?_
        obtain ⟨h15, e14, I769⟩ := bn_s I769
        refine ev_callV (sa := []) (rest := []) (st' := []) (ls0 := [.ref a0, unk]) (rv := none) pm310 i310_47 rfl rfl pm309 (by decide) (K_md_remembers e14) rfl rfl (Nat.le_of_ble_eq_true rfl) (by omega) rfl (R_md_remembers (d - 1) (by omega) e14) (by simp) rfl rfl ?_
        refine ev_aload_n pm310 i310_50 rfl rfl rfl ?_
        obtain ⟨x16, e17, I769⟩ := bn_s I769
        refine ev_getR pm310 i310_51 rfl rfl rfl e17 rfl ?_
        refine ev_bipush (v := 25) pm310 i310_54 rfl (by decide) rfl ?_
        refine ev_iload_n pm310 i310_56 rfl rfl rfl ?_
        refine ev_b2 (f := fun x y => x + y) pm310 i310_57 rfl (fun _ _ _ _ => rfl) rfl ?_
        refine ev_iload_n pm310 i310_58 rfl rfl rfl ?_
        obtain ⟨h18, e19, I769⟩ := bn_s I769
        refine ev_iast pm310 i310_59 rfl e19 rfl ?_
        refine ev_aload_n pm310 i310_60 rfl rfl rfl ?_
        obtain ⟨x21, h22, e20, I769⟩ := bd_s I769
        refine ev_callV (sa := []) (rest := []) (st' := [.int x21]) (ls0 := [.ref a0]) (rv := some (.int x21)) pm310 i310_61 rfl rfl pm312 (by decide) (K_md_granted e20) rfl rfl (Nat.le_of_ble_eq_true rfl) (by omega) rfl (R_md_granted (d - 1) (by omega) e20) (by simp) rfl rfl ?_
        by_cases c774 : retV .boolean x21 = true
        · rw [if_pos c774] at I769
          cases I769
          have hz1 := Z1 _ rfl
          cases hz1
          exact ev_ireturn pm310 i310_64 rfl c774 rfl
        · rw [if_neg c774] at I769
          cases I769
