def F_md_changes (a0 : Nat) (a1 : Int32) (a2 : Int32) (h : Hp) : Option (Int32 × Hp) :=
  ck h a0 13 (bn (F_md_isRopeNumber a0 a1 h) fun x2 =>
  if x2 = (0 : Int32) then
    (bd (F_md_denied a0 (1 : Int32) h) fun x4 h5 =>
    if retV .boolean x4 = true then
      (some (x4, h5))
    else
      (none))
  else
    (bn (gR h a0 13 15) fun x6 =>
    bn (aI h 100 x6 (28 : Int32)) fun x8 =>
    bn (F_md_bit x8 a1) fun x11 =>
    if x11 = a2 then
      (bd (F_md_denied a0 (5 : Int32) h) fun x13 h14 =>
      if retV .boolean x13 = true then
        (some (x13, h14))
      else
        (none))
    else
      (bn (F_md_remembers a0 h) fun h16 =>
      bn (gR h16 a0 13 15) fun x17 =>
      bn (aI h16 100 x17 (28 : Int32)) fun x19 =>
      bn (sI h16 100 x17 (28 : Int32) (x19 ^^^ ((1 : Int32) <<< (a1 &&& 31)))) fun h21 =>
      bd (F_md_granted a0 h21) fun x24 h25 =>
      if retV .boolean x24 = true then
        (some (x24, h25))
      else
        (none))))
set_option maxRecDepth 20000 in
theorem K_md_changes {a0 : Nat} {a1 : Int32} {a2 : Int32} {h : Hp} {v : Int32} {h' : Hp} (hS : F_md_changes a0 a1 a2 h = some (v, h')) : kd h a0 = 13 := by
  unfold F_md_changes at hS
  exact (ck_s hS).1
set_option maxRecDepth 20000 in
theorem R_md_changes (d : Nat) (hd : 2 ≤ d) {a0 : Nat} {a1 : Int32} {a2 : Int32} {h : Hp} {v : Int32} {h' : Hp} (hS : F_md_changes a0 a1 a2 h = some (v, h')) : Ev P d 314 (0, [.ref a0, .int a1, .int a2], [], h) (some (.int v), h') := by
  unfold F_md_changes at hS
  replace hS := (ck_s hS).2
  refine ev_aload_n pm314 i314_0 rfl rfl rfl ?_
  refine ev_iload_n pm314 i314_1 rfl rfl rfl ?_
  obtain ⟨x2, e1, hS⟩ := bn_s hS
  refine ev_callV (sa := [.int a1]) (rest := []) (st' := [.int x2]) (ls0 := [.ref a0, .int a1]) (rv := some (.int x2)) pm314 i314_2 rfl rfl pm244 (by decide) (K_md_isRopeNumber e1) rfl rfl (Nat.le_of_ble_eq_true rfl) (by omega) rfl (R_md_isRopeNumber (d - 1) (by omega) e1) (by simp) rfl rfl ?_
  by_cases c775 : x2 = (0 : Int32)
  · rw [if_pos c775] at hS
    refine ev_if_ne_t (t := 14) pm314 i314_5 rfl c775 rfl rfl ?_
    refine ev_aload_n pm314 i314_8 rfl rfl rfl ?_
    refine ev_iconst (v := 1) pm314 i314_9 rfl (by decide) rfl ?_
    obtain ⟨x4, h5, e3, hS⟩ := bd_s hS
    refine ev_callV (sa := [.int (1 : Int32)]) (rest := []) (st' := [.int x4]) (ls0 := [.ref a0, .int (1 : Int32)]) (rv := some (.int x4)) pm314 i314_10 rfl rfl pm311 (by decide) (K_md_denied e3) rfl rfl (Nat.le_of_ble_eq_true rfl) (by omega) rfl (R_md_denied (d - 1) (by omega) e3) (by simp) rfl rfl ?_
    by_cases c776 : retV .boolean x4 = true
    · rw [if_pos c776] at hS
      cases hS
      exact ev_ireturn pm314 i314_13 rfl c776 rfl
    · rw [if_neg c776] at hS
      cases hS
  · rw [if_neg c775] at hS
    refine ev_if_ne_f (t := 14) pm314 i314_5 rfl c775 rfl rfl ?_
    refine ev_aload_n pm314 i314_14 rfl rfl rfl ?_
    obtain ⟨x6, e7, hS⟩ := bn_s hS
    refine ev_getR pm314 i314_15 rfl rfl rfl e7 rfl ?_
    refine ev_bipush (v := 28) pm314 i314_18 rfl (by decide) rfl ?_
    obtain ⟨x8, e9, hS⟩ := bn_s hS
    refine ev_iald pm314 i314_20 rfl e9 rfl ?_
    refine ev_iload_n pm314 i314_21 rfl rfl rfl ?_
    obtain ⟨x11, e10, hS⟩ := bn_s hS
    refine ev_callS (sa := [.int a1, .int x8]) (rest := []) (st' := [.int x11]) (ls0 := [.int x8, .int a1]) (rv := some (.int x11)) pm314 i314_22 rfl rfl pm214 (by decide) rfl rfl (Nat.le_of_ble_eq_true rfl) (by omega) rfl (R_md_bit (d - 1) (by omega) e10) (by simp) rfl rfl ?_
    refine ev_iload_n pm314 i314_25 rfl rfl rfl ?_
    by_cases c777 : x11 = a2
    · rw [if_pos c777] at hS
      refine ev_icmp_ne_t (t := 35) pm314 i314_26 rfl c777 rfl rfl ?_
      refine ev_aload_n pm314 i314_29 rfl rfl rfl ?_
      refine ev_iconst (v := 5) pm314 i314_30 rfl (by decide) rfl ?_
      obtain ⟨x13, h14, e12, hS⟩ := bd_s hS
      refine ev_callV (sa := [.int (5 : Int32)]) (rest := []) (st' := [.int x13]) (ls0 := [.ref a0, .int (5 : Int32)]) (rv := some (.int x13)) pm314 i314_31 rfl rfl pm311 (by decide) (K_md_denied e12) rfl rfl (Nat.le_of_ble_eq_true rfl) (by omega) rfl (R_md_denied (d - 1) (by omega) e12) (by simp) rfl rfl ?_
      by_cases c778 : retV .boolean x13 = true
      · rw [if_pos c778] at hS
        cases hS
        exact ev_ireturn pm314 i314_34 rfl c778 rfl
      · rw [if_neg c778] at hS
        cases hS
    · rw [if_neg c777] at hS
      refine ev_icmp_ne_f (t := 35) pm314 i314_26 rfl c777 rfl rfl ?_
      refine ev_aload_n pm314 i314_35 rfl rfl rfl ?_
      obtain ⟨h16, e15, hS⟩ := bn_s hS
      refine ev_callV (sa := []) (rest := []) (st' := []) (ls0 := [.ref a0, unk]) (rv := none) pm314 i314_36 rfl rfl pm309 (by decide) (K_md_remembers e15) rfl rfl (Nat.le_of_ble_eq_true rfl) (by omega) rfl (R_md_remembers (d - 1) (by omega) e15) (by simp) rfl rfl ?_
      refine ev_aload_n pm314 i314_39 rfl rfl rfl ?_
      obtain ⟨x17, e18, hS⟩ := bn_s hS
      refine ev_getR pm314 i314_40 rfl rfl rfl e18 rfl ?_
      refine ev_bipush (v := 28) pm314 i314_43 rfl (by decide) rfl ?_
      refine ev_dup2 pm314 i314_45 rfl ⟨rfl, rfl⟩ rfl ?_
      obtain ⟨x19, e20, hS⟩ := bn_s hS
      refine ev_iald pm314 i314_46 rfl e20 rfl ?_
      refine ev_iconst (v := 1) pm314 i314_47 rfl (by decide) rfl ?_
      refine ev_iload_n pm314 i314_48 rfl rfl rfl ?_
      refine ev_b2 (f := fun x y => x <<< (y &&& 31)) pm314 i314_49 rfl (fun _ _ _ _ => rfl) rfl ?_
      refine ev_b2 (f := fun x y => x ^^^ y) pm314 i314_50 rfl (fun _ _ _ _ => rfl) rfl ?_
      obtain ⟨h21, e22, hS⟩ := bn_s hS
      refine ev_iast pm314 i314_51 rfl e22 rfl ?_
      refine ev_aload_n pm314 i314_52 rfl rfl rfl ?_
      obtain ⟨x24, h25, e23, hS⟩ := bd_s hS
      refine ev_callV (sa := []) (rest := []) (st' := [.int x24]) (ls0 := [.ref a0]) (rv := some (.int x24)) pm314 i314_53 rfl rfl pm312 (by decide) (K_md_granted e23) rfl rfl (Nat.le_of_ble_eq_true rfl) (by omega) rfl (R_md_granted (d - 1) (by omega) e23) (by simp) rfl rfl ?_
      by_cases c779 : retV .boolean x24 = true
      · rw [if_pos c779] at hS
        cases hS
        exact ev_ireturn pm314 i314_56 rfl c779 rfl
      · rw [if_neg c779] at hS
        cases hS
def F_md_cut (a0 : Nat) (a1 : Int32) (h : Hp) : Option (Int32 × Hp) :=
  ck h a0 13 (bn (pI h a0 13 0 (0 : Int32)) fun h1 =>
  bd (F_md_changes a0 a1 (1 : Int32) h1) fun x4 h5 =>
  if retV .boolean x4 = true then
    (some (x4, h5))
  else
    (none))
set_option maxRecDepth 20000 in
theorem K_md_cut {a0 : Nat} {a1 : Int32} {h : Hp} {v : Int32} {h' : Hp} (hS : F_md_cut a0 a1 h = some (v, h')) : kd h a0 = 13 := by
  unfold F_md_cut at hS
  exact (ck_s hS).1
set_option maxRecDepth 20000 in
theorem R_md_cut (d : Nat) (hd : 3 ≤ d) {a0 : Nat} {a1 : Int32} {h : Hp} {v : Int32} {h' : Hp} (hS : F_md_cut a0 a1 h = some (v, h')) : Ev P d 313 (0, [.ref a0, .int a1], [], h) (some (.int v), h') := by
  unfold F_md_cut at hS
  replace hS := (ck_s hS).2
  refine ev_aload_n pm313 i313_0 rfl rfl rfl ?_
  refine ev_iconst (v := 0) pm313 i313_1 rfl (by decide) rfl ?_
  obtain ⟨h1, e2, hS⟩ := bn_s hS
  refine ev_putI pm313 i313_2 rfl rfl rfl e2 rfl ?_
  refine ev_aload_n pm313 i313_5 rfl rfl rfl ?_
  refine ev_iload_n pm313 i313_6 rfl rfl rfl ?_
  refine ev_iconst (v := 1) pm313 i313_7 rfl (by decide) rfl ?_
  obtain ⟨x4, h5, e3, hS⟩ := bd_s hS
  refine ev_callV (sa := [.int (1 : Int32), .int a1]) (rest := []) (st' := [.int x4]) (ls0 := [.ref a0, .int a1, .int (1 : Int32)]) (rv := some (.int x4)) pm313 i313_8 rfl rfl pm314 (by decide) (K_md_changes e3) rfl rfl (Nat.le_of_ble_eq_true rfl) (by omega) rfl (R_md_changes (d - 1) (by omega) e3) (by simp) rfl rfl ?_
  by_cases c780 : retV .boolean x4 = true
  · rw [if_pos c780] at hS
    cases hS
    exact ev_ireturn pm313 i313_11 rfl c780 rfl
  · rw [if_neg c780] at hS
    cases hS
def F_md_tie (a0 : Nat) (a1 : Int32) (h : Hp) : Option (Int32 × Hp) :=
  ck h a0 13 (bn (pI h a0 13 0 (0 : Int32)) fun h1 =>
  bd (F_md_changes a0 a1 (0 : Int32) h1) fun x4 h5 =>
  if retV .boolean x4 = true then
    (some (x4, h5))
  else
    (none))
set_option maxRecDepth 20000 in
theorem K_md_tie {a0 : Nat} {a1 : Int32} {h : Hp} {v : Int32} {h' : Hp} (hS : F_md_tie a0 a1 h = some (v, h')) : kd h a0 = 13 := by
  unfold F_md_tie at hS
  exact (ck_s hS).1
set_option maxRecDepth 20000 in
theorem R_md_tie (d : Nat) (hd : 3 ≤ d) {a0 : Nat} {a1 : Int32} {h : Hp} {v : Int32} {h' : Hp} (hS : F_md_tie a0 a1 h = some (v, h')) : Ev P d 315 (0, [.ref a0, .int a1], [], h) (some (.int v), h') := by
  unfold F_md_tie at hS
  replace hS := (ck_s hS).2
  refine ev_aload_n pm315 i315_0 rfl rfl rfl ?_
  refine ev_iconst (v := 0) pm315 i315_1 rfl (by decide) rfl ?_
  obtain ⟨h1, e2, hS⟩ := bn_s hS
  refine ev_putI pm315 i315_2 rfl rfl rfl e2 rfl ?_
  refine ev_aload_n pm315 i315_5 rfl rfl rfl ?_
  refine ev_iload_n pm315 i315_6 rfl rfl rfl ?_
  refine ev_iconst (v := 0) pm315 i315_7 rfl (by decide) rfl ?_
  obtain ⟨x4, h5, e3, hS⟩ := bd_s hS
  refine ev_callV (sa := [.int (0 : Int32), .int a1]) (rest := []) (st' := [.int x4]) (ls0 := [.ref a0, .int a1, .int (0 : Int32)]) (rv := some (.int x4)) pm315 i315_8 rfl rfl pm314 (by decide) (K_md_changes e3) rfl rfl (Nat.le_of_ble_eq_true rfl) (by omega) rfl (R_md_changes (d - 1) (by omega) e3) (by simp) rfl rfl ?_
  by_cases c781 : retV .boolean x4 = true
  · rw [if_pos c781] at hS
    cases hS
    exact ev_ireturn pm315 i315_11 rfl c781 rfl
  · rw [if_neg c781] at hS
    cases hS
def B_md_week_51 (l0 : Nat) (s : Int32) (h : Hp) : Option (((Int32) ⊕ (Unit)) × Hp) :=
  if s < (31 : Int32) then
    (bn (gR h l0 13 15) fun x21 =>
    bn (gR h l0 13 16) fun x23 =>
    bn (aI h 100 x23 s) fun x25 =>
    bn (sI h 100 x21 s x25) fun h27 =>
    some (.inl (s + (1 : Int32)), h27))
  else
    (some (.inr (), h))
set_option maxRecDepth 20000 in
theorem L_md_week_51 (d : Nat) (hd : 6 ≤ d) {l0 : Nat} : ∀ (n : Nat) (s : Int32) (h : Hp) (x : Unit) (hx : Hp), lp (B_md_week_51 l0) n s h = some (x, hx) → ∀ r, Ev P d 316 (75, [.ref l0, unk], [], hx) r → Ev P d 316 (51, [.ref l0, .int s], [], h) r := by
  refine lp_ev (G0 := fun (s : Int32) h r => Ev P d 316 (51, [.ref l0, .int s], [], h) r) (X := fun (x : Unit) hx r => Ev P d 316 (75, [.ref l0, unk], [], hx) r) ?_
  intro s h y h9 hS r hK
  unfold B_md_week_51 at hS
  show Ev P d 316 (51, [.ref l0, .int s], [], h) r
  refine ev_iload_n pm316 i316_51 rfl rfl rfl ?_
  refine ev_bipush (v := 31) pm316 i316_52 rfl (by decide) rfl ?_
  by_cases c782 : s < (31 : Int32)
  · rw [if_pos c782] at hS
    refine ev_icmp_ge_t (t := 75) pm316 i316_54 rfl c782 rfl rfl ?_
    refine ev_aload_n pm316 i316_57 rfl rfl rfl ?_
    obtain ⟨x21, e22, hS⟩ := bn_s hS
    refine ev_getR pm316 i316_58 rfl rfl rfl e22 rfl ?_
    refine ev_iload_n pm316 i316_61 rfl rfl rfl ?_
    refine ev_aload_n pm316 i316_62 rfl rfl rfl ?_
    obtain ⟨x23, e24, hS⟩ := bn_s hS
    refine ev_getR pm316 i316_63 rfl rfl rfl e24 rfl ?_
    refine ev_iload_n pm316 i316_66 rfl rfl rfl ?_
    obtain ⟨x25, e26, hS⟩ := bn_s hS
    refine ev_iald pm316 i316_67 rfl e26 rfl ?_
    obtain ⟨h27, e28, hS⟩ := bn_s hS
    refine ev_iast pm316 i316_68 rfl e28 rfl ?_
    refine ev_iinc (v := 1) (ls' := [.ref l0, .int (s + (1 : Int32))]) pm316 i316_69 rfl rfl (by decide) rfl rfl ?_
    refine ev_goto (t := 51) pm316 i316_72 rfl rfl ?_
    cases hS
    exact hK
  · rw [if_neg c782] at hS
    refine ev_icmp_ge_f (t := 75) pm316 i316_54 rfl c782 rfl rfl ?_
    refine ev_kls (ls' := [.ref l0, unk]) pm316 i316_75 rfl rfl ?_
    cases hS
    exact hK
def F_md_week (a0 : Nat) (h : Hp) : Option (Int32 × Hp) :=
  ck h a0 13 (bn (pI h a0 13 0 (0 : Int32)) fun h1 =>
  bn (gQ h1 a0 13 3) fun x3 =>
  if x3 = none then
    (bd (F_md_refused a0 (1 : Int32) h1) fun x6 h7 =>
    some (x6, h7))
  else
    (bn (gR h1 a0 13 15) fun x8 =>
    bn (aI h1 100 x8 (29 : Int32)) fun x10 =>
    if x10 = (999 : Int32) then
      (bd (F_md_refused a0 (3 : Int32) h1) fun x13 h14 =>
      some (x13, h14))
    else
      (bn (F_md_remembers a0 h1) fun h16 =>
      bn (F_md_works a0 h16) fun h18 =>
      bn (F_md_aWeek a0 h18) fun h20 =>
      bd (lp (B_md_week_51 a0) FU (0 : Int32) h20) fun x29 h31 =>
      bn (gR h31 a0 13 15) fun x32 =>
      bn (aI h31 100 x32 (29 : Int32)) fun x34 =>
      bn (sI h31 100 x32 (29 : Int32) (x34 + (1 : Int32))) fun h36 =>
      bn (F_md_underNow a0 h36) fun x39 =>
      bd (F_md_good a0 x39 h36) fun x41 h42 =>
      some (x41, h42))))
set_option maxRecDepth 20000 in
theorem K_md_week {a0 : Nat} {h : Hp} {v : Int32} {h' : Hp} (hS : F_md_week a0 h = some (v, h')) : kd h a0 = 13 := by
  unfold F_md_week at hS
  exact (ck_s hS).1
set_option maxRecDepth 20000 in
theorem R_md_week (d : Nat) (hd : 6 ≤ d) {a0 : Nat} {h : Hp} {v : Int32} {h' : Hp} (hS : F_md_week a0 h = some (v, h')) : Ev P d 316 (0, [.ref a0, unk], [], h) (some (.int v), h') := by
  unfold F_md_week at hS
  replace hS := (ck_s hS).2
  refine ev_aload_n pm316 i316_0 rfl rfl rfl ?_
  refine ev_iconst (v := 0) pm316 i316_1 rfl (by decide) rfl ?_
  obtain ⟨h1, e2, hS⟩ := bn_s hS
  refine ev_putI pm316 i316_2 rfl rfl rfl e2 rfl ?_
  refine ev_aload_n pm316 i316_5 rfl rfl rfl ?_
  obtain ⟨x3, e4, hS⟩ := bn_s hS
  refine ev_getQ pm316 i316_6 rfl rfl rfl e4 rfl ?_
  by_cases c783 : x3 = none
  · rw [if_pos c783] at hS
    subst c783
    refine ev_nonnullF pm316 i316_9 rfl rfl ?_
    refine ev_aload_n pm316 i316_12 rfl rfl rfl ?_
    refine ev_iconst (v := 1) pm316 i316_13 rfl (by decide) rfl ?_
    obtain ⟨x6, h7, e5, hS⟩ := bd_s hS
    refine ev_callV (sa := [.int (1 : Int32)]) (rest := []) (st' := [.int x6]) (ls0 := [.ref a0, .int (1 : Int32)]) (rv := some (.int x6)) pm316 i316_14 rfl rfl pm186 (by decide) (K_md_refused e5) rfl rfl (Nat.le_of_ble_eq_true rfl) (by omega) rfl (R_md_refused (d - 1) (by omega) e5) (by simp) rfl rfl ?_
    cases hS
    exact ev_ireturn pm316 i316_17 rfl rfl rfl
  · rw [if_neg c783] at hS
    obtain ⟨_, rfl⟩ := Option.ne_none_iff_exists'.mp c783
    refine ev_nonnullT (t := 18) pm316 i316_9 rfl rfl ?_
    refine ev_aload_n pm316 i316_18 rfl rfl rfl ?_
    obtain ⟨x8, e9, hS⟩ := bn_s hS
    refine ev_getR pm316 i316_19 rfl rfl rfl e9 rfl ?_
    refine ev_bipush (v := 29) pm316 i316_22 rfl (by decide) rfl ?_
    obtain ⟨x10, e11, hS⟩ := bn_s hS
    refine ev_iald pm316 i316_24 rfl e11 rfl ?_
    refine ev_sipush (v := 999) pm316 i316_25 rfl (by decide) rfl ?_
    by_cases c784 : x10 = (999 : Int32)
    · rw [if_pos c784] at hS
      refine ev_icmp_ne_t (t := 37) pm316 i316_28 rfl c784 rfl rfl ?_
      refine ev_aload_n pm316 i316_31 rfl rfl rfl ?_
      refine ev_iconst (v := 3) pm316 i316_32 rfl (by decide) rfl ?_
      obtain ⟨x13, h14, e12, hS⟩ := bd_s hS
      refine ev_callV (sa := [.int (3 : Int32)]) (rest := []) (st' := [.int x13]) (ls0 := [.ref a0, .int (3 : Int32)]) (rv := some (.int x13)) pm316 i316_33 rfl rfl pm186 (by decide) (K_md_refused e12) rfl rfl (Nat.le_of_ble_eq_true rfl) (by omega) rfl (R_md_refused (d - 1) (by omega) e12) (by simp) rfl rfl ?_
      cases hS
      exact ev_ireturn pm316 i316_36 rfl rfl rfl
    · rw [if_neg c784] at hS
      refine ev_icmp_ne_f (t := 37) pm316 i316_28 rfl c784 rfl rfl ?_
      refine ev_aload_n pm316 i316_37 rfl rfl rfl ?_
      obtain ⟨h16, e15, hS⟩ := bn_s hS
      refine ev_callV (sa := []) (rest := []) (st' := []) (ls0 := [.ref a0, unk]) (rv := none) pm316 i316_38 rfl rfl pm309 (by decide) (K_md_remembers e15) rfl rfl (Nat.le_of_ble_eq_true rfl) (by omega) rfl (R_md_remembers (d - 1) (by omega) e15) (by simp) rfl rfl ?_
      refine ev_aload_n pm316 i316_41 rfl rfl rfl ?_
      obtain ⟨h18, e17, hS⟩ := bn_s hS
      refine ev_callV (sa := []) (rest := []) (st' := []) (ls0 := [.ref a0, unk]) (rv := none) pm316 i316_42 rfl rfl pm229 (by decide) (K_md_works e17) rfl rfl (Nat.le_of_ble_eq_true rfl) (by omega) rfl (R_md_works (d - 1) (by omega) e17) (by simp) rfl rfl ?_
      refine ev_aload_n pm316 i316_45 rfl rfl rfl ?_
      obtain ⟨h20, e19, hS⟩ := bn_s hS
      refine ev_callV (sa := []) (rest := []) (st' := []) (ls0 := [.ref a0, unk]) (rv := none) pm316 i316_46 rfl rfl pm305 (by decide) (K_md_aWeek e19) rfl rfl (Nat.le_of_ble_eq_true rfl) (by omega) rfl (R_md_aWeek (d - 1) (by omega) e19) (by simp) rfl rfl ?_
      refine ev_iconst (v := 0) pm316 i316_49 rfl (by decide) rfl ?_
      refine ev_istore_n (ls' := [.ref a0, .int (0 : Int32)]) pm316 i316_50 rfl (Nat.le_of_ble_eq_true rfl) rfl rfl ?_
      obtain ⟨x29, h31, e30, hS⟩ := bd_s hS
      refine L_md_week_51 d (by omega) _ _ _ _ _ e30 _ ?_
      show Ev P d 316 (75, [.ref a0, unk], [], h31) _
      refine ev_aload_n pm316 i316_75 rfl rfl rfl ?_
      obtain ⟨x32, e33, hS⟩ := bn_s hS
      refine ev_getR pm316 i316_76 rfl rfl rfl e33 rfl ?_
      refine ev_bipush (v := 29) pm316 i316_79 rfl (by decide) rfl ?_
      refine ev_dup2 pm316 i316_81 rfl ⟨rfl, rfl⟩ rfl ?_
      obtain ⟨x34, e35, hS⟩ := bn_s hS
      refine ev_iald pm316 i316_82 rfl e35 rfl ?_
      refine ev_iconst (v := 1) pm316 i316_83 rfl (by decide) rfl ?_
      refine ev_b2 (f := fun x y => x + y) pm316 i316_84 rfl (fun _ _ _ _ => rfl) rfl ?_
      obtain ⟨h36, e37, hS⟩ := bn_s hS
      refine ev_iast pm316 i316_85 rfl e37 rfl ?_
      refine ev_aload_n pm316 i316_86 rfl rfl rfl ?_
      refine ev_aload_n pm316 i316_87 rfl rfl rfl ?_
      obtain ⟨x39, e38, hS⟩ := bn_s hS
      refine ev_callV (sa := []) (rest := [.ref a0]) (st' := [.int x39, .ref a0]) (ls0 := [.ref a0, unk, unk]) (rv := some (.int x39)) pm316 i316_88 rfl rfl pm246 (by decide) (K_md_underNow e38) rfl rfl (Nat.le_of_ble_eq_true rfl) (by omega) rfl (R_md_underNow (d - 1) (by omega) e38) (by simp) rfl rfl ?_
      obtain ⟨x41, h42, e40, hS⟩ := bd_s hS
      refine ev_callV (sa := [.int x39]) (rest := []) (st' := [.int x41]) (ls0 := [.ref a0, .int x39]) (rv := some (.int x41)) pm316 i316_91 rfl rfl pm224 (by decide) (K_md_good e40) rfl rfl (Nat.le_of_ble_eq_true rfl) (by omega) rfl (R_md_good (d - 1) (by omega) e40) (by simp) rfl rfl ?_
      cases hS
      exact ev_ireturn pm316 i316_94 rfl rfl rfl
def F_md_seed (a0 : Nat) (a1 : Int32) (h : Hp) : Option (Int32 × Hp) :=
  ck h a0 13 (bn (pI h a0 13 0 (0 : Int32)) fun h1 =>
  bn (gQ h1 a0 13 3) fun x3 =>
  if x3 = none then
    (bd (F_md_denied a0 (1 : Int32) h1) fun x6 h7 =>
    if retV .boolean x6 = true then
      (some (x6, h7))
    else
      (none))
  else
    (bn (F_md_in a1 (0 : Int32) (65536 : Int32)) fun x9 =>
    if x9 = (0 : Int32) then
      (bd (F_md_denied a0 (2 : Int32) h1) fun x11 h12 =>
      if retV .boolean x11 = true then
        (some (x11, h12))
      else
        (none))
    else
      (bn (gR h1 a0 13 15) fun x13 =>
      bn (sI h1 100 x13 (30 : Int32) a1) fun h15 =>
      bd (F_md_granted a0 h15) fun x18 h19 =>
      if retV .boolean x18 = true then
        (some (x18, h19))
      else
        (none))))
set_option maxRecDepth 20000 in
theorem K_md_seed {a0 : Nat} {a1 : Int32} {h : Hp} {v : Int32} {h' : Hp} (hS : F_md_seed a0 a1 h = some (v, h')) : kd h a0 = 13 := by
  unfold F_md_seed at hS
  exact (ck_s hS).1
set_option maxRecDepth 20000 in
theorem R_md_seed (d : Nat) (hd : 2 ≤ d) {a0 : Nat} {a1 : Int32} {h : Hp} {v : Int32} {h' : Hp} (hS : F_md_seed a0 a1 h = some (v, h')) : Ev P d 317 (0, [.ref a0, .int a1], [], h) (some (.int v), h') := by
  unfold F_md_seed at hS
  replace hS := (ck_s hS).2
  refine ev_aload_n pm317 i317_0 rfl rfl rfl ?_
  refine ev_iconst (v := 0) pm317 i317_1 rfl (by decide) rfl ?_
  obtain ⟨h1, e2, hS⟩ := bn_s hS
  refine ev_putI pm317 i317_2 rfl rfl rfl e2 rfl ?_
  refine ev_aload_n pm317 i317_5 rfl rfl rfl ?_
  obtain ⟨x3, e4, hS⟩ := bn_s hS
  refine ev_getQ pm317 i317_6 rfl rfl rfl e4 rfl ?_
  by_cases c785 : x3 = none
  · rw [if_pos c785] at hS
    subst c785
    refine ev_nonnullF pm317 i317_9 rfl rfl ?_
    refine ev_aload_n pm317 i317_12 rfl rfl rfl ?_
    refine ev_iconst (v := 1) pm317 i317_13 rfl (by decide) rfl ?_
    obtain ⟨x6, h7, e5, hS⟩ := bd_s hS
    refine ev_callV (sa := [.int (1 : Int32)]) (rest := []) (st' := [.int x6]) (ls0 := [.ref a0, .int (1 : Int32)]) (rv := some (.int x6)) pm317 i317_14 rfl rfl pm311 (by decide) (K_md_denied e5) rfl rfl (Nat.le_of_ble_eq_true rfl) (by omega) rfl (R_md_denied (d - 1) (by omega) e5) (by simp) rfl rfl ?_
    by_cases c786 : retV .boolean x6 = true
    · rw [if_pos c786] at hS
      cases hS
      exact ev_ireturn pm317 i317_17 rfl c786 rfl
    · rw [if_neg c786] at hS
      cases hS
  · rw [if_neg c785] at hS
    obtain ⟨_, rfl⟩ := Option.ne_none_iff_exists'.mp c785
    refine ev_nonnullT (t := 18) pm317 i317_9 rfl rfl ?_
    refine ev_iload_n pm317 i317_18 rfl rfl rfl ?_
    refine ev_iconst (v := 0) pm317 i317_19 rfl (by decide) rfl ?_
    refine ev_ldc_w (v := .int (65536 : Int32)) pm317 i317_20 rfl rfl rfl ?_
    obtain ⟨x9, e8, hS⟩ := bn_s hS
    refine ev_callS (sa := [.int (65536 : Int32), .int (0 : Int32), .int a1]) (rest := []) (st' := [.int x9]) (ls0 := [.int a1, .int (0 : Int32), .int (65536 : Int32)]) (rv := some (.int x9)) pm317 i317_23 rfl rfl pm201 (by decide) rfl rfl (Nat.le_of_ble_eq_true rfl) (by omega) rfl (R_md_in (d - 1) (by omega) e8) (by simp) rfl rfl ?_
    by_cases c787 : x9 = (0 : Int32)
    · rw [if_pos c787] at hS
      refine ev_if_ne_t (t := 35) pm317 i317_26 rfl c787 rfl rfl ?_
      refine ev_aload_n pm317 i317_29 rfl rfl rfl ?_
      refine ev_iconst (v := 2) pm317 i317_30 rfl (by decide) rfl ?_
      obtain ⟨x11, h12, e10, hS⟩ := bd_s hS
      refine ev_callV (sa := [.int (2 : Int32)]) (rest := []) (st' := [.int x11]) (ls0 := [.ref a0, .int (2 : Int32)]) (rv := some (.int x11)) pm317 i317_31 rfl rfl pm311 (by decide) (K_md_denied e10) rfl rfl (Nat.le_of_ble_eq_true rfl) (by omega) rfl (R_md_denied (d - 1) (by omega) e10) (by simp) rfl rfl ?_
      by_cases c788 : retV .boolean x11 = true
      · rw [if_pos c788] at hS
        cases hS
        exact ev_ireturn pm317 i317_34 rfl c788 rfl
      · rw [if_neg c788] at hS
        cases hS
    · rw [if_neg c787] at hS
      refine ev_if_ne_f (t := 35) pm317 i317_26 rfl c787 rfl rfl ?_
      refine ev_aload_n pm317 i317_35 rfl rfl rfl ?_
      obtain ⟨x13, e14, hS⟩ := bn_s hS
      refine ev_getR pm317 i317_36 rfl rfl rfl e14 rfl ?_
      refine ev_bipush (v := 30) pm317 i317_39 rfl (by decide) rfl ?_
      refine ev_iload_n pm317 i317_41 rfl rfl rfl ?_
      obtain ⟨h15, e16, hS⟩ := bn_s hS
      refine ev_iast pm317 i317_42 rfl e16 rfl ?_
      refine ev_aload_n pm317 i317_43 rfl rfl rfl ?_
      obtain ⟨x18, h19, e17, hS⟩ := bd_s hS
      refine ev_callV (sa := []) (rest := []) (st' := [.int x18]) (ls0 := [.ref a0]) (rv := some (.int x18)) pm317 i317_44 rfl rfl pm312 (by decide) (K_md_granted e17) rfl rfl (Nat.le_of_ble_eq_true rfl) (by omega) rfl (R_md_granted (d - 1) (by omega) e17) (by simp) rfl rfl ?_
      by_cases c789 : retV .boolean x18 = true
      · rw [if_pos c789] at hS
        cases hS
        exact ev_ireturn pm317 i317_47 rfl c789 rfl
      · rw [if_neg c789] at hS
        cases hS
def B_md_undo_38 (l0 : Nat) (s : Int32) (h : Hp) : Option (((Int32) ⊕ (Unit)) × Hp) :=
  if s < (31 : Int32) then
    (bn (gR h l0 13 15) fun x11 =>
    bn (gR h l0 13 17) fun x13 =>
    bn (gI h l0 13 19) fun x15 =>
    bn (aI h 100 x13 (((31 : Int32) * x15) + s)) fun x17 =>
    bn (sI h 100 x11 s x17) fun h19 =>
    some (.inl (s + (1 : Int32)), h19))
  else
    (some (.inr (), h))
set_option maxRecDepth 20000 in
theorem L_md_undo_38 (d : Nat) (hd : 2 ≤ d) {l0 : Nat} : ∀ (n : Nat) (s : Int32) (h : Hp) (x : Unit) (hx : Hp), lp (B_md_undo_38 l0) n s h = some (x, hx) → ∀ r, Ev P d 318 (70, [.ref l0, unk], [], hx) r → Ev P d 318 (38, [.ref l0, .int s], [], h) r := by
  refine lp_ev (G0 := fun (s : Int32) h r => Ev P d 318 (38, [.ref l0, .int s], [], h) r) (X := fun (x : Unit) hx r => Ev P d 318 (70, [.ref l0, unk], [], hx) r) ?_
  intro s h y h9 hS r hK
  unfold B_md_undo_38 at hS
  show Ev P d 318 (38, [.ref l0, .int s], [], h) r
  refine ev_iload_n pm318 i318_38 rfl rfl rfl ?_
  refine ev_bipush (v := 31) pm318 i318_39 rfl (by decide) rfl ?_
  by_cases c790 : s < (31 : Int32)
  · rw [if_pos c790] at hS
    refine ev_icmp_ge_t (t := 70) pm318 i318_41 rfl c790 rfl rfl ?_
    refine ev_aload_n pm318 i318_44 rfl rfl rfl ?_
    obtain ⟨x11, e12, hS⟩ := bn_s hS
    refine ev_getR pm318 i318_45 rfl rfl rfl e12 rfl ?_
    refine ev_iload_n pm318 i318_48 rfl rfl rfl ?_
    refine ev_aload_n pm318 i318_49 rfl rfl rfl ?_
    obtain ⟨x13, e14, hS⟩ := bn_s hS
    refine ev_getR pm318 i318_50 rfl rfl rfl e14 rfl ?_
    refine ev_bipush (v := 31) pm318 i318_53 rfl (by decide) rfl ?_
    refine ev_aload_n pm318 i318_55 rfl rfl rfl ?_
    obtain ⟨x15, e16, hS⟩ := bn_s hS
    refine ev_getI pm318 i318_56 rfl rfl (by decide) e16 rfl ?_
    refine ev_b2 (f := fun x y => x * y) pm318 i318_59 rfl (fun _ _ _ _ => rfl) rfl ?_
    refine ev_iload_n pm318 i318_60 rfl rfl rfl ?_
    refine ev_b2 (f := fun x y => x + y) pm318 i318_61 rfl (fun _ _ _ _ => rfl) rfl ?_
    obtain ⟨x17, e18, hS⟩ := bn_s hS
    refine ev_iald pm318 i318_62 rfl e18 rfl ?_
    obtain ⟨h19, e20, hS⟩ := bn_s hS
    refine ev_iast pm318 i318_63 rfl e20 rfl ?_
    refine ev_iinc (v := 1) (ls' := [.ref l0, .int (s + (1 : Int32))]) pm318 i318_64 rfl rfl (by decide) rfl rfl ?_
    refine ev_goto (t := 38) pm318 i318_67 rfl rfl ?_
    cases hS
    exact hK
  · rw [if_neg c790] at hS
    refine ev_icmp_ge_f (t := 70) pm318 i318_41 rfl c790 rfl rfl ?_
    refine ev_kls (ls' := [.ref l0, unk]) pm318 i318_70 rfl rfl ?_
    cases hS
    exact hK
def F_md_undo (a0 : Nat) (h : Hp) : Option (Int32 × Hp) :=
  ck h a0 13 (bn (pI h a0 13 0 (0 : Int32)) fun h1 =>
  bn (gQ h1 a0 13 3) fun x3 =>
  bn (if x3 = none then
      (some (Sum.inl ()))
    else
      (bn (gI h1 a0 13 19) fun x5 =>
      if x5 = (0 : Int32) then
        (some (Sum.inl ()))
      else
        (bn (gI h1 a0 13 19) fun x7 =>
        bn (pI h1 a0 13 19 (x7 - (1 : Int32))) fun h9 =>
        bd (lp (B_md_undo_38 a0) FU (0 : Int32) h9) fun x21 h23 =>
        bd (F_md_granted a0 h23) fun x25 h26 =>
        if retV .boolean x25 = true then
          (some (Sum.inr (x25, h26)))
        else
          (none)))) fun x32 =>
  ei x32 (fun z28 =>
  bd (F_md_denied a0 (6 : Int32) h1) fun x30 h31 =>
  if retV .boolean x30 = true then
    (some (x30, h31))
  else
    (none))
  (fun z => some z))
set_option maxRecDepth 20000 in
theorem K_md_undo {a0 : Nat} {h : Hp} {v : Int32} {h' : Hp} (hS : F_md_undo a0 h = some (v, h')) : kd h a0 = 13 := by
  unfold F_md_undo at hS
  exact (ck_s hS).1
set_option maxRecDepth 20000 in
theorem R_md_undo (d : Nat) (hd : 2 ≤ d) {a0 : Nat} {h : Hp} {v : Int32} {h' : Hp} (hS : F_md_undo a0 h = some (v, h')) : Ev P d 318 (0, [.ref a0, unk], [], h) (some (.int v), h') := by
  unfold F_md_undo at hS
  replace hS := (ck_s hS).2
  refine ev_aload_n pm318 i318_0 rfl rfl rfl ?_
  refine ev_iconst (v := 0) pm318 i318_1 rfl (by decide) rfl ?_
  obtain ⟨h1, e2, hS⟩ := bn_s hS
  refine ev_putI pm318 i318_2 rfl rfl rfl e2 rfl ?_
  refine ev_aload_n pm318 i318_5 rfl rfl rfl ?_
  obtain ⟨x3, e4, hS⟩ := bn_s hS
  refine ev_getQ pm318 i318_6 rfl rfl rfl e4 rfl ?_
  obtain ⟨x32, I791, hS⟩ := bn_s hS
  have J1 : ∀ z28, x32 = Sum.inl z28 → Ev P d 318 (19, [.ref a0, unk], [], h1) (some (.int v), h') := by
    intro z28 hx
    subst hx
    replace hS := ei_l hS
    refine ev_aload_n pm318 i318_19 rfl rfl rfl ?_
    refine ev_bipush (v := 6) pm318 i318_20 rfl (by decide) rfl ?_
    obtain ⟨x30, h31, e29, hS⟩ := bd_s hS
    refine ev_callV (sa := [.int (6 : Int32)]) (rest := []) (st' := [.int x30]) (ls0 := [.ref a0, .int (6 : Int32)]) (rv := some (.int x30)) pm318 i318_22 rfl rfl pm311 (by decide) (K_md_denied e29) rfl rfl (Nat.le_of_ble_eq_true rfl) (by omega) rfl (R_md_denied (d - 1) (by omega) e29) (by simp) rfl rfl ?_
    by_cases c792 : retV .boolean x30 = true
    · rw [if_pos c792] at hS
      cases hS
      exact ev_ireturn pm318 i318_25 rfl c792 rfl
    · rw [if_neg c792] at hS
      cases hS
  have Z1 := ej_z hS
  clear hS
  by_cases c791 : x3 = none
  · rw [if_pos c791] at I791
    subst c791
    refine ev_nullT (t := 19) pm318 i318_9 rfl rfl ?_
    cases I791
    exact J1 _ rfl
  · rw [if_neg c791] at I791
    obtain ⟨_, rfl⟩ := Option.ne_none_iff_exists'.mp c791
    refine ev_nullF pm318 i318_9 rfl rfl ?_
    refine ev_aload_n pm318 i318_12 rfl rfl rfl ?_
    obtain ⟨x5, e6, I791⟩ := bn_s I791
    refine ev_getI pm318 i318_13 rfl rfl (by decide) e6 rfl ?_
    by_cases c793 : x5 = (0 : Int32)
    · rw [if_pos c793] at I791
      refine ev_if_ne_t (t := 26) pm318 i318_16 rfl c793 rfl rfl ?_
      cases I791
      exact J1 _ rfl
    · rw [if_neg c793] at I791
      refine ev_if_ne_f (t := 26) pm318 i318_16 rfl c793 rfl rfl ?_
      refine ev_aload_n pm318 i318_26 rfl rfl rfl ?_
      refine ev_dup pm318 i318_27 rfl rfl rfl ?_
      obtain ⟨x7, e8, I791⟩ := bn_s I791
      refine ev_getI pm318 i318_28 rfl rfl (by decide) e8 rfl ?_
      refine ev_iconst (v := 1) pm318 i318_31 rfl (by decide) rfl ?_
      refine ev_b2 (f := fun x y => x - y) pm318 i318_32 rfl (fun _ _ _ _ => rfl) rfl ?_
      obtain ⟨h9, e10, I791⟩ := bn_s I791
      refine ev_putI pm318 i318_33 rfl rfl rfl e10 rfl ?_
      refine ev_iconst (v := 0) pm318 i318_36 rfl (by decide) rfl ?_
      refine ev_istore_n (ls' := [.ref a0, .int (0 : Int32)]) pm318 i318_37 rfl (Nat.le_of_ble_eq_true rfl) rfl rfl ?_
      obtain ⟨x21, h23, e22, I791⟩ := bd_s I791
      refine L_md_undo_38 d (by omega) _ _ _ _ _ e22 _ ?_
      show Ev P d 318 (70, [.ref a0, unk], [], h23) _
      refine ev_aload_n pm318 i318_70 rfl rfl rfl ?_
      obtain ⟨x25, h26, e24, I791⟩ := bd_s I791
      refine ev_callV (sa := []) (rest := []) (st' := [.int x25]) (ls0 := [.ref a0]) (rv := some (.int x25)) pm318 i318_71 rfl rfl pm312 (by decide) (K_md_granted e24) rfl rfl (Nat.le_of_ble_eq_true rfl) (by omega) rfl (R_md_granted (d - 1) (by omega) e24) (by simp) rfl rfl ?_
      by_cases c794 : retV .boolean x25 = true
      · rw [if_pos c794] at I791
        cases I791
        have hz1 := Z1 _ rfl
        cases hz1
        exact ev_ireturn pm318 i318_74 rfl c794 rfl
      · rw [if_neg c794] at I791
        cases I791
def B_md_image_34 (l0 : Nat) (s : Int32) (h : Hp) : Option (((Int32) ⊕ (Unit)) × Hp) :=
  if s < (31 : Int32) then
    (bn (gR h l0 13 18) fun x13 =>
    bn (gI h l0 13 20) fun x15 =>
    bn (gR h l0 13 15) fun x17 =>
    bn (aI h 100 x17 s) fun x19 =>
    bn (sI h 100 x13 (((31 : Int32) * x15) + s) x19) fun h21 =>
    some (.inl (s + (1 : Int32)), h21))
  else
    (some (.inr (), h))
set_option maxRecDepth 20000 in
theorem L_md_image_34 (d : Nat) (hd : 1 ≤ d) {l0 : Nat} : ∀ (n : Nat) (s : Int32) (h : Hp) (x : Unit) (hx : Hp), lp (B_md_image_34 l0) n s h = some (x, hx) → ∀ r, Ev P d 319 (66, [.ref l0, unk], [], hx) r → Ev P d 319 (34, [.ref l0, .int s], [], h) r := by
  refine lp_ev (G0 := fun (s : Int32) h r => Ev P d 319 (34, [.ref l0, .int s], [], h) r) (X := fun (x : Unit) hx r => Ev P d 319 (66, [.ref l0, unk], [], hx) r) ?_
  intro s h y h9 hS r hK
  unfold B_md_image_34 at hS
  show Ev P d 319 (34, [.ref l0, .int s], [], h) r
  refine ev_iload_n pm319 i319_34 rfl rfl rfl ?_
  refine ev_bipush (v := 31) pm319 i319_35 rfl (by decide) rfl ?_
  by_cases c795 : s < (31 : Int32)
  · rw [if_pos c795] at hS
    refine ev_icmp_ge_t (t := 66) pm319 i319_37 rfl c795 rfl rfl ?_
    refine ev_aload_n pm319 i319_40 rfl rfl rfl ?_
    obtain ⟨x13, e14, hS⟩ := bn_s hS
    refine ev_getR pm319 i319_41 rfl rfl rfl e14 rfl ?_
    refine ev_bipush (v := 31) pm319 i319_44 rfl (by decide) rfl ?_
    refine ev_aload_n pm319 i319_46 rfl rfl rfl ?_
    obtain ⟨x15, e16, hS⟩ := bn_s hS
    refine ev_getI pm319 i319_47 rfl rfl (by decide) e16 rfl ?_
    refine ev_b2 (f := fun x y => x * y) pm319 i319_50 rfl (fun _ _ _ _ => rfl) rfl ?_
    refine ev_iload_n pm319 i319_51 rfl rfl rfl ?_
    refine ev_b2 (f := fun x y => x + y) pm319 i319_52 rfl (fun _ _ _ _ => rfl) rfl ?_
    refine ev_aload_n pm319 i319_53 rfl rfl rfl ?_
    obtain ⟨x17, e18, hS⟩ := bn_s hS
    refine ev_getR pm319 i319_54 rfl rfl rfl e18 rfl ?_
    refine ev_iload_n pm319 i319_57 rfl rfl rfl ?_
    obtain ⟨x19, e20, hS⟩ := bn_s hS
    refine ev_iald pm319 i319_58 rfl e20 rfl ?_
    obtain ⟨h21, e22, hS⟩ := bn_s hS
    refine ev_iast pm319 i319_59 rfl e22 rfl ?_
    refine ev_iinc (v := 1) (ls' := [.ref l0, .int (s + (1 : Int32))]) pm319 i319_60 rfl rfl (by decide) rfl rfl ?_
    refine ev_goto (t := 34) pm319 i319_63 rfl rfl ?_
    cases hS
    exact hK
  · rw [if_neg c795] at hS
    refine ev_icmp_ge_f (t := 66) pm319 i319_37 rfl c795 rfl rfl ?_
    refine ev_kls (ls' := [.ref l0, unk]) pm319 i319_66 rfl rfl ?_
    cases hS
    exact hK
def F_md_image (a0 : Nat) (h : Hp) : Option (Int32 × Hp) :=
  ck h a0 13 (bn (pI h a0 13 0 (0 : Int32)) fun h1 =>
  bn (gQ h1 a0 13 3) fun x3 =>
  if x3 = none then
    (bd (F_md_refused a0 (1 : Int32) h1) fun x6 h7 =>
    some (x6, h7))
  else
    (bn (gI h1 a0 13 20) fun x8 =>
    if x8 = (3 : Int32) then
      (bd (F_md_refused a0 (3 : Int32) h1) fun x11 h12 =>
      some (x11, h12))
    else
      (bd (lp (B_md_image_34 a0) FU (0 : Int32) h1) fun x23 h25 =>
      bn (gI h25 a0 13 20) fun x26 =>
      bn (pI h25 a0 13 20 (x26 + (1 : Int32))) fun h28 =>
      bn (gI h28 a0 13 20) fun x30 =>
      bd (F_md_good a0 (x30 - (1 : Int32)) h28) fun x33 h34 =>
      some (x33, h34))))
set_option maxRecDepth 20000 in
theorem K_md_image {a0 : Nat} {h : Hp} {v : Int32} {h' : Hp} (hS : F_md_image a0 h = some (v, h')) : kd h a0 = 13 := by
  unfold F_md_image at hS
  exact (ck_s hS).1
set_option maxRecDepth 20000 in
theorem R_md_image (d : Nat) (hd : 1 ≤ d) {a0 : Nat} {h : Hp} {v : Int32} {h' : Hp} (hS : F_md_image a0 h = some (v, h')) : Ev P d 319 (0, [.ref a0, unk], [], h) (some (.int v), h') := by
  unfold F_md_image at hS
  replace hS := (ck_s hS).2
  refine ev_aload_n pm319 i319_0 rfl rfl rfl ?_
  refine ev_iconst (v := 0) pm319 i319_1 rfl (by decide) rfl ?_
  obtain ⟨h1, e2, hS⟩ := bn_s hS
  refine ev_putI pm319 i319_2 rfl rfl rfl e2 rfl ?_
  refine ev_aload_n pm319 i319_5 rfl rfl rfl ?_
  obtain ⟨x3, e4, hS⟩ := bn_s hS
  refine ev_getQ pm319 i319_6 rfl rfl rfl e4 rfl ?_
  by_cases c796 : x3 = none
  · rw [if_pos c796] at hS
    subst c796
    refine ev_nonnullF pm319 i319_9 rfl rfl ?_
    refine ev_aload_n pm319 i319_12 rfl rfl rfl ?_
    refine ev_iconst (v := 1) pm319 i319_13 rfl (by decide) rfl ?_
    obtain ⟨x6, h7, e5, hS⟩ := bd_s hS
    refine ev_callV (sa := [.int (1 : Int32)]) (rest := []) (st' := [.int x6]) (ls0 := [.ref a0, .int (1 : Int32)]) (rv := some (.int x6)) pm319 i319_14 rfl rfl pm186 (by decide) (K_md_refused e5) rfl rfl (Nat.le_of_ble_eq_true rfl) (by omega) rfl (R_md_refused (d - 1) (by omega) e5) (by simp) rfl rfl ?_
    cases hS
    exact ev_ireturn pm319 i319_17 rfl rfl rfl
  · rw [if_neg c796] at hS
    obtain ⟨_, rfl⟩ := Option.ne_none_iff_exists'.mp c796
    refine ev_nonnullT (t := 18) pm319 i319_9 rfl rfl ?_
    refine ev_aload_n pm319 i319_18 rfl rfl rfl ?_
    obtain ⟨x8, e9, hS⟩ := bn_s hS
    refine ev_getI pm319 i319_19 rfl rfl (by decide) e9 rfl ?_
    refine ev_iconst (v := 3) pm319 i319_22 rfl (by decide) rfl ?_
    by_cases c797 : x8 = (3 : Int32)
    · rw [if_pos c797] at hS
      refine ev_icmp_ne_t (t := 32) pm319 i319_23 rfl c797 rfl rfl ?_
      refine ev_aload_n pm319 i319_26 rfl rfl rfl ?_
      refine ev_iconst (v := 3) pm319 i319_27 rfl (by decide) rfl ?_
      obtain ⟨x11, h12, e10, hS⟩ := bd_s hS
      refine ev_callV (sa := [.int (3 : Int32)]) (rest := []) (st' := [.int x11]) (ls0 := [.ref a0, .int (3 : Int32)]) (rv := some (.int x11)) pm319 i319_28 rfl rfl pm186 (by decide) (K_md_refused e10) rfl rfl (Nat.le_of_ble_eq_true rfl) (by omega) rfl (R_md_refused (d - 1) (by omega) e10) (by simp) rfl rfl ?_
      cases hS
      exact ev_ireturn pm319 i319_31 rfl rfl rfl
    · rw [if_neg c797] at hS
      refine ev_icmp_ne_f (t := 32) pm319 i319_23 rfl c797 rfl rfl ?_
      refine ev_iconst (v := 0) pm319 i319_32 rfl (by decide) rfl ?_
      refine ev_istore_n (ls' := [.ref a0, .int (0 : Int32)]) pm319 i319_33 rfl (Nat.le_of_ble_eq_true rfl) rfl rfl ?_
      obtain ⟨x23, h25, e24, hS⟩ := bd_s hS
      refine L_md_image_34 d (by omega) _ _ _ _ _ e24 _ ?_
      show Ev P d 319 (66, [.ref a0, unk], [], h25) _
      refine ev_aload_n pm319 i319_66 rfl rfl rfl ?_
      refine ev_dup pm319 i319_67 rfl rfl rfl ?_
      obtain ⟨x26, e27, hS⟩ := bn_s hS
      refine ev_getI pm319 i319_68 rfl rfl (by decide) e27 rfl ?_
      refine ev_iconst (v := 1) pm319 i319_71 rfl (by decide) rfl ?_
      refine ev_b2 (f := fun x y => x + y) pm319 i319_72 rfl (fun _ _ _ _ => rfl) rfl ?_
      obtain ⟨h28, e29, hS⟩ := bn_s hS
      refine ev_putI pm319 i319_73 rfl rfl rfl e29 rfl ?_
      refine ev_aload_n pm319 i319_76 rfl rfl rfl ?_
      refine ev_aload_n pm319 i319_77 rfl rfl rfl ?_
      obtain ⟨x30, e31, hS⟩ := bn_s hS
      refine ev_getI pm319 i319_78 rfl rfl (by decide) e31 rfl ?_
      refine ev_iconst (v := 1) pm319 i319_81 rfl (by decide) rfl ?_
      refine ev_b2 (f := fun x y => x - y) pm319 i319_82 rfl (fun _ _ _ _ => rfl) rfl ?_
      obtain ⟨x33, h34, e32, hS⟩ := bd_s hS
      refine ev_callV (sa := [.int (x30 - (1 : Int32))]) (rest := []) (st' := [.int x33]) (ls0 := [.ref a0, .int (x30 - (1 : Int32))]) (rv := some (.int x33)) pm319 i319_83 rfl rfl pm224 (by decide) (K_md_good e32) rfl rfl (Nat.le_of_ble_eq_true rfl) (by omega) rfl (R_md_good (d - 1) (by omega) e32) (by simp) rfl rfl ?_
      cases hS
      exact ev_ireturn pm319 i319_86 rfl rfl rfl
def B_md_back_32 (l0 : Nat) (l1 : Int32) (s : Int32) (h : Hp) : Option (((Int32) ⊕ (Unit)) × Hp) :=
  if s < (31 : Int32) then
    (bn (gR h l0 13 15) fun x7 =>
    bn (gR h l0 13 18) fun x9 =>
    bn (aI h 100 x9 (((31 : Int32) * l1) + s)) fun x11 =>
    bn (sI h 100 x7 s x11) fun h13 =>
    some (.inl (s + (1 : Int32)), h13))
  else
    (some (.inr (), h))
set_option maxRecDepth 20000 in
theorem L_md_back_32 (d : Nat) (hd : 2 ≤ d) {l0 : Nat} {l1 : Int32} : ∀ (n : Nat) (s : Int32) (h : Hp) (x : Unit) (hx : Hp), lp (B_md_back_32 l0 l1) n s h = some (x, hx) → ∀ r, Ev P d 320 (61, [.ref l0, unk, unk], [], hx) r → Ev P d 320 (32, [.ref l0, .int l1, .int s], [], h) r := by
  refine lp_ev (G0 := fun (s : Int32) h r => Ev P d 320 (32, [.ref l0, .int l1, .int s], [], h) r) (X := fun (x : Unit) hx r => Ev P d 320 (61, [.ref l0, unk, unk], [], hx) r) ?_
  intro s h y h9 hS r hK
  unfold B_md_back_32 at hS
  show Ev P d 320 (32, [.ref l0, .int l1, .int s], [], h) r
  refine ev_iload_n pm320 i320_32 rfl rfl rfl ?_
  refine ev_bipush (v := 31) pm320 i320_33 rfl (by decide) rfl ?_
  by_cases c798 : s < (31 : Int32)
  · rw [if_pos c798] at hS
    refine ev_icmp_ge_t (t := 61) pm320 i320_35 rfl c798 rfl rfl ?_
    refine ev_aload_n pm320 i320_38 rfl rfl rfl ?_
    obtain ⟨x7, e8, hS⟩ := bn_s hS
    refine ev_getR pm320 i320_39 rfl rfl rfl e8 rfl ?_
    refine ev_iload_n pm320 i320_42 rfl rfl rfl ?_
    refine ev_aload_n pm320 i320_43 rfl rfl rfl ?_
    obtain ⟨x9, e10, hS⟩ := bn_s hS
    refine ev_getR pm320 i320_44 rfl rfl rfl e10 rfl ?_
    refine ev_bipush (v := 31) pm320 i320_47 rfl (by decide) rfl ?_
    refine ev_iload_n pm320 i320_49 rfl rfl rfl ?_
    refine ev_b2 (f := fun x y => x * y) pm320 i320_50 rfl (fun _ _ _ _ => rfl) rfl ?_
    refine ev_iload_n pm320 i320_51 rfl rfl rfl ?_
    refine ev_b2 (f := fun x y => x + y) pm320 i320_52 rfl (fun _ _ _ _ => rfl) rfl ?_
    obtain ⟨x11, e12, hS⟩ := bn_s hS
    refine ev_iald pm320 i320_53 rfl e12 rfl ?_
    obtain ⟨h13, e14, hS⟩ := bn_s hS
    refine ev_iast pm320 i320_54 rfl e14 rfl ?_
    refine ev_iinc (v := 1) (ls' := [.ref l0, .int l1, .int (s + (1 : Int32))]) pm320 i320_55 rfl rfl (by decide) rfl rfl ?_
    refine ev_goto (t := 32) pm320 i320_58 rfl rfl ?_
    cases hS
    exact hK
  · rw [if_neg c798] at hS
    refine ev_icmp_ge_f (t := 61) pm320 i320_35 rfl c798 rfl rfl ?_
    refine ev_kls (ls' := [.ref l0, unk, unk]) pm320 i320_61 rfl rfl ?_
    cases hS
    exact hK
def F_md_back (a0 : Nat) (a1 : Int32) (h : Hp) : Option (Int32 × Hp) :=
  ck h a0 13 (bn (pI h a0 13 0 (0 : Int32)) fun h1 =>
  bn (gQ h1 a0 13 3) fun x3 =>
  bn (if x3 = none then
      (some (Sum.inl ()))
    else
      (if a1 < (0 : Int32) then
        (some (Sum.inl ()))
      else
        (bn (gI h1 a0 13 20) fun x5 =>
        if a1 < x5 then
          (bd (lp (B_md_back_32 a0 a1) FU (0 : Int32) h1) fun x15 h17 =>
          bn (pI h17 a0 13 19 (0 : Int32)) fun h18 =>
          bd (F_md_granted a0 h18) fun x21 h22 =>
          if retV .boolean x21 = true then
            (some (Sum.inr (x21, h22)))
          else
            (none))
        else
          (some (Sum.inl ()))))) fun x28 =>
  ei x28 (fun z24 =>
  bd (F_md_denied a0 (1 : Int32) h1) fun x26 h27 =>
  if retV .boolean x26 = true then
    (some (x26, h27))
  else
    (none))
  (fun z => some z))
set_option maxRecDepth 20000 in
theorem K_md_back {a0 : Nat} {a1 : Int32} {h : Hp} {v : Int32} {h' : Hp} (hS : F_md_back a0 a1 h = some (v, h')) : kd h a0 = 13 := by
  unfold F_md_back at hS
  exact (ck_s hS).1
set_option maxRecDepth 20000 in
theorem R_md_back (d : Nat) (hd : 2 ≤ d) {a0 : Nat} {a1 : Int32} {h : Hp} {v : Int32} {h' : Hp} (hS : F_md_back a0 a1 h = some (v, h')) : Ev P d 320 (0, [.ref a0, .int a1, unk], [], h) (some (.int v), h') := by
  unfold F_md_back at hS
  replace hS := (ck_s hS).2
  refine ev_aload_n pm320 i320_0 rfl rfl rfl ?_
  refine ev_iconst (v := 0) pm320 i320_1 rfl (by decide) rfl ?_
  obtain ⟨h1, e2, hS⟩ := bn_s hS
  refine ev_putI pm320 i320_2 rfl rfl rfl e2 rfl ?_
  refine ev_aload_n pm320 i320_5 rfl rfl rfl ?_
  obtain ⟨x3, e4, hS⟩ := bn_s hS
  refine ev_getQ pm320 i320_6 rfl rfl rfl e4 rfl ?_
  obtain ⟨x28, I799, hS⟩ := bn_s hS
  have J1 : ∀ z24, x28 = Sum.inl z24 → Ev P d 320 (24, [.ref a0, unk, unk], [], h1) (some (.int v), h') := by
    intro z24 hx
    subst hx
    replace hS := ei_l hS
    refine ev_aload_n pm320 i320_24 rfl rfl rfl ?_
    refine ev_iconst (v := 1) pm320 i320_25 rfl (by decide) rfl ?_
    obtain ⟨x26, h27, e25, hS⟩ := bd_s hS
    refine ev_callV (sa := [.int (1 : Int32)]) (rest := []) (st' := [.int x26]) (ls0 := [.ref a0, .int (1 : Int32)]) (rv := some (.int x26)) pm320 i320_26 rfl rfl pm311 (by decide) (K_md_denied e25) rfl rfl (Nat.le_of_ble_eq_true rfl) (by omega) rfl (R_md_denied (d - 1) (by omega) e25) (by simp) rfl rfl ?_
    by_cases c800 : retV .boolean x26 = true
    · rw [if_pos c800] at hS
      cases hS
      exact ev_ireturn pm320 i320_29 rfl c800 rfl
    · rw [if_neg c800] at hS
      cases hS
  have Z1 := ej_z hS
  clear hS
  by_cases c799 : x3 = none
  · rw [if_pos c799] at I799
    subst c799
    refine ev_nullT (t := 24) pm320 i320_9 rfl rfl ?_
    refine ev_kls (ls' := [.ref a0, unk, unk]) pm320 i320_24 rfl rfl ?_
    cases I799
    exact J1 _ rfl
  · rw [if_neg c799] at I799
    obtain ⟨_, rfl⟩ := Option.ne_none_iff_exists'.mp c799
    refine ev_nullF pm320 i320_9 rfl rfl ?_
    refine ev_iload_n pm320 i320_12 rfl rfl rfl ?_
    by_cases c801 : a1 < (0 : Int32)
    · rw [if_pos c801] at I799
      refine ev_if_lt_t (t := 24) pm320 i320_13 rfl c801 rfl rfl ?_
      refine ev_kls (ls' := [.ref a0, unk, unk]) pm320 i320_24 rfl rfl ?_
      cases I799
      exact J1 _ rfl
    · rw [if_neg c801] at I799
      refine ev_if_lt_f (t := 24) pm320 i320_13 rfl c801 rfl rfl ?_
      refine ev_iload_n pm320 i320_16 rfl rfl rfl ?_
      refine ev_aload_n pm320 i320_17 rfl rfl rfl ?_
      obtain ⟨x5, e6, I799⟩ := bn_s I799
      refine ev_getI pm320 i320_18 rfl rfl (by decide) e6 rfl ?_
      by_cases c802 : a1 < x5
      · rw [if_pos c802] at I799
        refine ev_icmp_lt_t (t := 30) pm320 i320_21 rfl c802 rfl rfl ?_
        refine ev_iconst (v := 0) pm320 i320_30 rfl (by decide) rfl ?_
        refine ev_istore_n (ls' := [.ref a0, .int a1, .int (0 : Int32)]) pm320 i320_31 rfl (Nat.le_of_ble_eq_true rfl) rfl rfl ?_
        obtain ⟨x15, h17, e16, I799⟩ := bd_s I799
        refine L_md_back_32 d (by omega) _ _ _ _ _ e16 _ ?_
        show Ev P d 320 (61, [.ref a0, unk, unk], [], h17) _
        refine ev_aload_n pm320 i320_61 rfl rfl rfl ?_
        refine ev_iconst (v := 0) pm320 i320_62 rfl (by decide) rfl ?_
        obtain ⟨h18, e19, I799⟩ := bn_s I799
        refine ev_putI pm320 i320_63 rfl rfl rfl e19 rfl ?_
        refine ev_aload_n pm320 i320_66 rfl rfl rfl ?_
        obtain ⟨x21, h22, e20, I799⟩ := bd_s I799
        refine ev_callV (sa := []) (rest := []) (st' := [.int x21]) (ls0 := [.ref a0]) (rv := some (.int x21)) pm320 i320_67 rfl rfl pm312 (by decide) (K_md_granted e20) rfl rfl (Nat.le_of_ble_eq_true rfl) (by omega) rfl (R_md_granted (d - 1) (by omega) e20) (by simp) rfl rfl ?_
        by_cases c803 : retV .boolean x21 = true
        · rw [if_pos c803] at I799
          cases I799
          have hz1 := Z1 _ rfl
          cases hz1
          exact ev_ireturn pm320 i320_70 rfl c803 rfl
        · rw [if_neg c803] at I799
          cases I799
      · rw [if_neg c802] at I799
        refine ev_icmp_lt_f (t := 30) pm320 i320_21 rfl c802 rfl rfl ?_
        refine ev_kls (ls' := [.ref a0, unk, unk]) pm320 i320_24 rfl rfl ?_
        cases I799
        exact J1 _ rfl
def B_md_led_20 (l0 : Nat) (l1 : Int32) (h : Hp) (s : Int32 × Int32) : Option ((Int32 × Int32) ⊕ ((Unit) ⊕ Int32)) :=
  bn (gQ h l0 13 3) fun x9 =>
  if x9 = none then
    (some (.inr (.inl ())))
  else
    (bn (gR h l0 13 3) fun x11 =>
    bn (gI h x11 12 1) fun x13 =>
    if s.2 < x13 then
      (bn (F_md_heightOf l0 s.2 h) fun x16 =>
      if x16 < (0 : Int32) then
        (if s.1 = l1 then
          (some (.inr (.inr s.2)))
        else
          (some (.inl (s.1 + (1 : Int32), s.2 + (1 : Int32)))))
      else
        (some (.inl (s.1, s.2 + (1 : Int32)))))
    else
      (some (.inr (.inl ()))))
set_option maxRecDepth 20000 in
theorem L_md_led_20 (d : Nat) (hd : 5 ≤ d) {l0 : Nat} {l1 : Int32} {h : Hp} : ∀ (n : Nat) (s : Int32 × Int32) (x : (Unit) ⊕ Int32), lq (B_md_led_20 l0 l1 h) n s = some x → ∀ r, ei x (fun q => Ev P d 321 (65, [.ref l0, unk, unk, unk], [], h) r) (fun v => (some (.int v), h) = r) → Ev P d 321 (20, [.ref l0, .int l1, .int s.1, .int s.2], [], h) r := by
  refine lq_ev (G0 := fun (s : Int32 × Int32) r => Ev P d 321 (20, [.ref l0, .int l1, .int s.1, .int s.2], [], h) r) (X := fun (x : (Unit) ⊕ Int32) r => ei x (fun q => Ev P d 321 (65, [.ref l0, unk, unk, unk], [], h) r) (fun v => (some (.int v), h) = r)) ?_
  intro s y hS r hK
  unfold B_md_led_20 at hS
  show Ev P d 321 (20, [.ref l0, .int l1, .int s.1, .int s.2], [], h) r
  refine ev_aload_n pm321 i321_20 rfl rfl rfl ?_
  obtain ⟨x9, e10, hS⟩ := bn_s hS
  refine ev_getQ pm321 i321_21 rfl rfl rfl e10 rfl ?_
  by_cases c804 : x9 = none
  · rw [if_pos c804] at hS
    subst c804
    refine ev_nullT (t := 65) pm321 i321_24 rfl rfl ?_
    refine ev_kls (ls' := [.ref l0, unk, unk, unk]) pm321 i321_65 rfl rfl ?_
    cases hS
    exact hK
  · rw [if_neg c804] at hS
    obtain ⟨_, rfl⟩ := Option.ne_none_iff_exists'.mp c804
    refine ev_nullF pm321 i321_24 rfl rfl ?_
    refine ev_iload_n pm321 i321_27 rfl rfl rfl ?_
    refine ev_aload_n pm321 i321_28 rfl rfl rfl ?_
    obtain ⟨x11, e12, hS⟩ := bn_s hS
    refine ev_getR pm321 i321_29 rfl rfl rfl e12 rfl ?_
    obtain ⟨x13, e14, hS⟩ := bn_s hS
    refine ev_getI pm321 i321_32 rfl rfl (by decide) e14 rfl ?_
    by_cases c805 : s.2 < x13
    · rw [if_pos c805] at hS
      refine ev_icmp_ge_t (t := 65) pm321 i321_35 rfl c805 rfl rfl ?_
      refine ev_aload_n pm321 i321_38 rfl rfl rfl ?_
      refine ev_iload_n pm321 i321_39 rfl rfl rfl ?_
      obtain ⟨x16, e15, hS⟩ := bn_s hS
      refine ev_callV (sa := [.int s.2]) (rest := []) (st' := [.int x16]) (ls0 := [.ref l0, .int s.2, unk]) (rv := some (.int x16)) pm321 i321_40 rfl rfl pm233 (by decide) (K_md_heightOf e15) rfl rfl (Nat.le_of_ble_eq_true rfl) (by omega) rfl (R_md_heightOf (d - 1) (by omega) e15) (by simp) rfl rfl ?_
      by_cases c806 : x16 < (0 : Int32)
      · rw [if_pos c806] at hS
        refine ev_if_lt_t (t := 49) pm321 i321_43 rfl c806 rfl rfl ?_
        refine ev_iload_n pm321 i321_49 rfl rfl rfl ?_
        refine ev_iload_n pm321 i321_50 rfl rfl rfl ?_
        by_cases c807 : s.1 = l1
        · rw [if_pos c807] at hS
          refine ev_icmp_ne_t (t := 56) pm321 i321_51 rfl c807 rfl rfl ?_
          refine ev_iload_n pm321 i321_54 rfl rfl rfl ?_
          cases hS
          exact ev_ireturn pm321 i321_55 rfl rfl hK
        · rw [if_neg c807] at hS
          refine ev_icmp_ne_f (t := 56) pm321 i321_51 rfl c807 rfl rfl ?_
          refine ev_iinc (v := 1) (ls' := [.ref l0, .int l1, .int (s.1 + (1 : Int32)), .int s.2]) pm321 i321_56 rfl rfl (by decide) rfl rfl ?_
          refine ev_iinc (v := 1) (ls' := [.ref l0, .int l1, .int (s.1 + (1 : Int32)), .int (s.2 + (1 : Int32))]) pm321 i321_59 rfl rfl (by decide) rfl rfl ?_
          refine ev_goto (t := 20) pm321 i321_62 rfl rfl ?_
          cases hS
          exact hK
      · rw [if_neg c806] at hS
        refine ev_if_lt_f (t := 49) pm321 i321_43 rfl c806 rfl rfl ?_
        refine ev_goto (t := 59) pm321 i321_46 rfl rfl ?_
        refine ev_iinc (v := 1) (ls' := [.ref l0, .int l1, .int s.1, .int (s.2 + (1 : Int32))]) pm321 i321_59 rfl rfl (by decide) rfl rfl ?_
        refine ev_goto (t := 20) pm321 i321_62 rfl rfl ?_
        cases hS
        exact hK
    · rw [if_neg c805] at hS
      refine ev_icmp_ge_f (t := 65) pm321 i321_35 rfl c805 rfl rfl ?_
      refine ev_kls (ls' := [.ref l0, unk, unk, unk]) pm321 i321_65 rfl rfl ?_
      cases hS
      exact hK
def F_md_led (a0 : Nat) (a1 : Int32) (h : Hp) : Option (Int32 × Hp) :=
  ck h a0 13 (bn (pI h a0 13 0 (0 : Int32)) fun h1 =>
  bn (gQ h1 a0 13 3) fun x3 =>
  bn (if x3 = none then
      (some h1)
    else
      (bn (F_md_works a0 h1) fun h6 =>
      some h6)) fun h8 =>
  bn (lq (B_md_led_20 a0 a1 h8) FU ((0 : Int32), (0 : Int32))) fun x17 =>
  ei x17 (fun q19 =>
  bn (pI h8 a0 13 0 (1 : Int32)) fun h20 =>
  some ((0 : Int32), h20))
  (fun x22 => some (x22, h8)))
set_option maxRecDepth 20000 in
theorem K_md_led {a0 : Nat} {a1 : Int32} {h : Hp} {v : Int32} {h' : Hp} (hS : F_md_led a0 a1 h = some (v, h')) : kd h a0 = 13 := by
  unfold F_md_led at hS
  exact (ck_s hS).1
set_option maxRecDepth 20000 in
theorem R_md_led (d : Nat) (hd : 5 ≤ d) {a0 : Nat} {a1 : Int32} {h : Hp} {v : Int32} {h' : Hp} (hS : F_md_led a0 a1 h = some (v, h')) : Ev P d 321 (0, [.ref a0, .int a1, unk, unk], [], h) (some (.int v), h') := by
  unfold F_md_led at hS
  replace hS := (ck_s hS).2
  refine ev_aload_n pm321 i321_0 rfl rfl rfl ?_
  refine ev_iconst (v := 0) pm321 i321_1 rfl (by decide) rfl ?_
  obtain ⟨h1, e2, hS⟩ := bn_s hS
  refine ev_putI pm321 i321_2 rfl rfl rfl e2 rfl ?_
  refine ev_iconst (v := 0) pm321 i321_5 rfl (by decide) rfl ?_
  refine ev_istore_n (ls' := [.ref a0, .int a1, .int (0 : Int32), unk]) pm321 i321_6 rfl (Nat.le_of_ble_eq_true rfl) rfl rfl ?_
  refine ev_aload_n pm321 i321_7 rfl rfl rfl ?_
  obtain ⟨x3, e4, hS⟩ := bn_s hS
  refine ev_getQ pm321 i321_8 rfl rfl rfl e4 rfl ?_
  obtain ⟨h8, I808, hS⟩ := bn_s hS
  have J1 : Ev P d 321 (18, [.ref a0, .int a1, .int (0 : Int32), unk], [], h8) (some (.int v), h') := by
    refine ev_iconst (v := 0) pm321 i321_18 rfl (by decide) rfl ?_
    refine ev_istore_n (ls' := [.ref a0, .int a1, .int (0 : Int32), .int (0 : Int32)]) pm321 i321_19 rfl (Nat.le_of_ble_eq_true rfl) rfl rfl ?_
    obtain ⟨x17, e18, hS⟩ := bn_s hS
    refine L_md_led_20 d (by omega) _ _ _ e18 _ ?_
    cases x17 with
    | inl q19 =>
      replace hS := ei_l hS
      show Ev P d 321 (65, [.ref a0, unk, unk, unk], [], h8) _
      refine ev_aload_n pm321 i321_65 rfl rfl rfl ?_
      refine ev_iconst (v := 1) pm321 i321_66 rfl (by decide) rfl ?_
      obtain ⟨h20, e21, hS⟩ := bn_s hS
      refine ev_putI pm321 i321_67 rfl rfl rfl e21 rfl ?_
      refine ev_iconst (v := 0) pm321 i321_70 rfl (by decide) rfl ?_
      cases hS
      exact ev_ireturn pm321 i321_71 rfl rfl rfl
    | inr x22 =>
      replace hS := ei_r hS
      cases hS
      rfl
  clear hS
  by_cases c808 : x3 = none
  · rw [if_pos c808] at I808
    subst c808
    refine ev_nullT (t := 18) pm321 i321_11 rfl rfl ?_
    cases I808
    exact J1
  · rw [if_neg c808] at I808
    obtain ⟨_, rfl⟩ := Option.ne_none_iff_exists'.mp c808
    refine ev_nullF pm321 i321_11 rfl rfl ?_
    refine ev_aload_n pm321 i321_14 rfl rfl rfl ?_
    obtain ⟨h6, e5, I808⟩ := bn_s I808
    refine ev_callV (sa := []) (rest := []) (st' := []) (ls0 := [.ref a0, unk]) (rv := none) pm321 i321_15 rfl rfl pm229 (by decide) (K_md_works e5) rfl rfl (Nat.le_of_ble_eq_true rfl) (by omega) rfl (R_md_works (d - 1) (by omega) e5) (by simp) rfl rfl ?_
    cases I808
    exact J1
def F_md_size (a0 : Nat) (a1 : Int32) (h : Hp) : Option (Int32 × Hp) :=
  ck h a0 13 (bn (pI h a0 13 0 (0 : Int32)) fun h1 =>
  if a1 = (12 : Int32) then
    (bn (gI h1 a0 13 6) fun x3 =>
    some (x3, h1))
  else
    (bn (F_md_in a1 (0 : Int32) (11 : Int32)) fun x6 =>
    if x6 = (0 : Int32) then
      (some ((-1 : Int32), h1))
    else
      (bn (gQ h1 a0 13 3) fun x7 =>
      if x7 = none then
        (some ((0 : Int32), h1))
      else
        (if (a1).toInt < 0 ∨ 10 < (a1).toInt then
          (bn (gI h1 a0 13 20) fun x9 =>
          some (x9, h1))
        else if a1 = (0 : Int32) then
          (bn (gR h1 a0 13 3) fun x11 =>
          bn (gI h1 x11 12 0) fun x13 =>
          some (x13, h1))
        else if a1 = (1 : Int32) then
          (bn (gR h1 a0 13 3) fun x15 =>
          bn (gI h1 x15 12 1) fun x17 =>
          some (x17, h1))
        else if a1 = (2 : Int32) then
          (bn (gR h1 a0 13 3) fun x19 =>
          bn (gI h1 x19 12 2) fun x21 =>
          some (x21, h1))
        else if a1 = (3 : Int32) then
          (bn (gR h1 a0 13 3) fun x23 =>
          bn (gI h1 x23 12 3) fun x25 =>
          some (x25, h1))
        else if a1 = (4 : Int32) then
          (bn (gR h1 a0 13 3) fun x27 =>
          bn (gI h1 x27 12 4) fun x29 =>
          some (x29, h1))
        else if a1 = (5 : Int32) then
          (bn (gR h1 a0 13 3) fun x31 =>
          bn (gI h1 x31 12 5) fun x33 =>
          some (x33, h1))
        else if a1 = (6 : Int32) then
          (bn (gR h1 a0 13 3) fun x35 =>
          bn (gI h1 x35 12 6) fun x37 =>
          some (x37, h1))
        else if a1 = (7 : Int32) then
          (bn (gR h1 a0 13 3) fun x39 =>
          bn (gI h1 x39 12 7) fun x41 =>
          some (x41, h1))
        else if a1 = (8 : Int32) then
          (bn (gR h1 a0 13 15) fun x43 =>
          bn (aI h1 100 x43 (29 : Int32)) fun x45 =>
          some (x45, h1))
        else if a1 = (9 : Int32) then
          (bn (gR h1 a0 13 15) fun x47 =>
          bn (aI h1 100 x47 (30 : Int32)) fun x49 =>
          some (x49, h1))
        else if a1 = (10 : Int32) then
          (bn (gI h1 a0 13 19) fun x51 =>
          some (x51, h1))
        else none))))
set_option maxRecDepth 20000 in
theorem K_md_size {a0 : Nat} {a1 : Int32} {h : Hp} {v : Int32} {h' : Hp} (hS : F_md_size a0 a1 h = some (v, h')) : kd h a0 = 13 := by
  unfold F_md_size at hS
  exact (ck_s hS).1
set_option maxRecDepth 20000 in
theorem R_md_size (d : Nat) (hd : 1 ≤ d) {a0 : Nat} {a1 : Int32} {h : Hp} {v : Int32} {h' : Hp} (hS : F_md_size a0 a1 h = some (v, h')) : Ev P d 322 (0, [.ref a0, .int a1], [], h) (some (.int v), h') := by
  unfold F_md_size at hS
  replace hS := (ck_s hS).2
  refine ev_aload_n pm322 i322_0 rfl rfl rfl ?_
  refine ev_iconst (v := 0) pm322 i322_1 rfl (by decide) rfl ?_
  obtain ⟨h1, e2, hS⟩ := bn_s hS
  refine ev_putI pm322 i322_2 rfl rfl rfl e2 rfl ?_
  refine ev_iload_n pm322 i322_5 rfl rfl rfl ?_
  refine ev_bipush (v := 12) pm322 i322_6 rfl (by decide) rfl ?_
  by_cases c809 : a1 = (12 : Int32)
  · rw [if_pos c809] at hS
    refine ev_icmp_ne_t (t := 16) pm322 i322_8 rfl c809 rfl rfl ?_
    refine ev_aload_n pm322 i322_11 rfl rfl rfl ?_
    obtain ⟨x3, e4, hS⟩ := bn_s hS
    refine ev_getI pm322 i322_12 rfl rfl (by decide) e4 rfl ?_
    cases hS
    exact ev_ireturn pm322 i322_15 rfl rfl rfl
  · rw [if_neg c809] at hS
    refine ev_icmp_ne_f (t := 16) pm322 i322_8 rfl c809 rfl rfl ?_
    refine ev_iload_n pm322 i322_16 rfl rfl rfl ?_
    refine ev_iconst (v := 0) pm322 i322_17 rfl (by decide) rfl ?_
    refine ev_bipush (v := 11) pm322 i322_18 rfl (by decide) rfl ?_
    obtain ⟨x6, e5, hS⟩ := bn_s hS
    refine ev_callS (sa := [.int (11 : Int32), .int (0 : Int32), .int a1]) (rest := []) (st' := [.int x6]) (ls0 := [.int a1, .int (0 : Int32), .int (11 : Int32)]) (rv := some (.int x6)) pm322 i322_20 rfl rfl pm201 (by decide) rfl rfl (Nat.le_of_ble_eq_true rfl) (by omega) rfl (R_md_in (d - 1) (by omega) e5) (by simp) rfl rfl ?_
    by_cases c810 : x6 = (0 : Int32)
    · rw [if_pos c810] at hS
      refine ev_if_ne_t (t := 28) pm322 i322_23 rfl c810 rfl rfl ?_
      refine ev_iconst (v := -1) pm322 i322_26 rfl (by decide) rfl ?_
      cases hS
      exact ev_ireturn pm322 i322_27 rfl rfl rfl
    · rw [if_neg c810] at hS
      refine ev_if_ne_f (t := 28) pm322 i322_23 rfl c810 rfl rfl ?_
      refine ev_aload_n pm322 i322_28 rfl rfl rfl ?_
      obtain ⟨x7, e8, hS⟩ := bn_s hS
      refine ev_getQ pm322 i322_29 rfl rfl rfl e8 rfl ?_
      by_cases c811 : x7 = none
      · rw [if_pos c811] at hS
        subst c811
        refine ev_nonnullF pm322 i322_32 rfl rfl ?_
        refine ev_iconst (v := 0) pm322 i322_35 rfl (by decide) rfl ?_
        cases hS
        exact ev_ireturn pm322 i322_36 rfl rfl rfl
      · rw [if_neg c811] at hS
        obtain ⟨_, rfl⟩ := Option.ne_none_iff_exists'.mp c811
        refine ev_nonnullT (t := 37) pm322 i322_32 rfl rfl ?_
        refine ev_iload_n pm322 i322_37 rfl rfl rfl ?_
        by_cases c812 : (a1).toInt < 0 ∨ 10 < (a1).toInt
        · rw [if_pos c812] at hS
          refine ev_tabO (t := 181) pm322 i322_38 rfl c812 rfl ?_
          refine ev_aload_n pm322 i322_181 rfl rfl rfl ?_
          obtain ⟨x9, e10, hS⟩ := bn_s hS
          refine ev_getI pm322 i322_182 rfl rfl (by decide) e10 rfl ?_
          cases hS
          exact ev_ireturn pm322 i322_185 rfl rfl rfl
        rw [if_neg c812] at hS
        by_cases c813 : a1 = (0 : Int32)
        · rw [if_pos c813] at hS
          refine ev_tabI (t := 96) (off := 58) pm322 i322_38 rfl (0 : Int32) c813 (by decide) rfl rfl ?_
          refine ev_aload_n pm322 i322_96 rfl rfl rfl ?_
          obtain ⟨x11, e12, hS⟩ := bn_s hS
          refine ev_getR pm322 i322_97 rfl rfl rfl e12 rfl ?_
          obtain ⟨x13, e14, hS⟩ := bn_s hS
          refine ev_getI pm322 i322_100 rfl rfl (by decide) e14 rfl ?_
          cases hS
          exact ev_ireturn pm322 i322_103 rfl rfl rfl
        rw [if_neg c813] at hS
        by_cases c814 : a1 = (1 : Int32)
        · rw [if_pos c814] at hS
          refine ev_tabI (t := 104) (off := 66) pm322 i322_38 rfl (1 : Int32) c814 (by decide) rfl rfl ?_
          refine ev_aload_n pm322 i322_104 rfl rfl rfl ?_
          obtain ⟨x15, e16, hS⟩ := bn_s hS
          refine ev_getR pm322 i322_105 rfl rfl rfl e16 rfl ?_
          obtain ⟨x17, e18, hS⟩ := bn_s hS
          refine ev_getI pm322 i322_108 rfl rfl (by decide) e18 rfl ?_
          cases hS
          exact ev_ireturn pm322 i322_111 rfl rfl rfl
        rw [if_neg c814] at hS
        by_cases c815 : a1 = (2 : Int32)
        · rw [if_pos c815] at hS
          refine ev_tabI (t := 112) (off := 74) pm322 i322_38 rfl (2 : Int32) c815 (by decide) rfl rfl ?_
          refine ev_aload_n pm322 i322_112 rfl rfl rfl ?_
          obtain ⟨x19, e20, hS⟩ := bn_s hS
          refine ev_getR pm322 i322_113 rfl rfl rfl e20 rfl ?_
          obtain ⟨x21, e22, hS⟩ := bn_s hS
          refine ev_getI pm322 i322_116 rfl rfl (by decide) e22 rfl ?_
          cases hS
          exact ev_ireturn pm322 i322_119 rfl rfl rfl
        rw [if_neg c815] at hS
        by_cases c816 : a1 = (3 : Int32)
        · rw [if_pos c816] at hS
          refine ev_tabI (t := 120) (off := 82) pm322 i322_38 rfl (3 : Int32) c816 (by decide) rfl rfl ?_
          refine ev_aload_n pm322 i322_120 rfl rfl rfl ?_
          obtain ⟨x23, e24, hS⟩ := bn_s hS
          refine ev_getR pm322 i322_121 rfl rfl rfl e24 rfl ?_
          obtain ⟨x25, e26, hS⟩ := bn_s hS
          refine ev_getI pm322 i322_124 rfl rfl (by decide) e26 rfl ?_
          cases hS
          exact ev_ireturn pm322 i322_127 rfl rfl rfl
        rw [if_neg c816] at hS
        by_cases c817 : a1 = (4 : Int32)
        · rw [if_pos c817] at hS
          refine ev_tabI (t := 128) (off := 90) pm322 i322_38 rfl (4 : Int32) c817 (by decide) rfl rfl ?_
          refine ev_aload_n pm322 i322_128 rfl rfl rfl ?_
          obtain ⟨x27, e28, hS⟩ := bn_s hS
          refine ev_getR pm322 i322_129 rfl rfl rfl e28 rfl ?_
          obtain ⟨x29, e30, hS⟩ := bn_s hS
          refine ev_getI pm322 i322_132 rfl rfl (by decide) e30 rfl ?_
          cases hS
          exact ev_ireturn pm322 i322_135 rfl rfl rfl
        rw [if_neg c817] at hS
        by_cases c818 : a1 = (5 : Int32)
        · rw [if_pos c818] at hS
          refine ev_tabI (t := 136) (off := 98) pm322 i322_38 rfl (5 : Int32) c818 (by decide) rfl rfl ?_
          refine ev_aload_n pm322 i322_136 rfl rfl rfl ?_
          obtain ⟨x31, e32, hS⟩ := bn_s hS
          refine ev_getR pm322 i322_137 rfl rfl rfl e32 rfl ?_
          obtain ⟨x33, e34, hS⟩ := bn_s hS
          refine ev_getI pm322 i322_140 rfl rfl (by decide) e34 rfl ?_
          cases hS
          exact ev_ireturn pm322 i322_143 rfl rfl rfl
        rw [if_neg c818] at hS
        by_cases c819 : a1 = (6 : Int32)
        · rw [if_pos c819] at hS
          refine ev_tabI (t := 144) (off := 106) pm322 i322_38 rfl (6 : Int32) c819 (by decide) rfl rfl ?_
          refine ev_aload_n pm322 i322_144 rfl rfl rfl ?_
          obtain ⟨x35, e36, hS⟩ := bn_s hS
          refine ev_getR pm322 i322_145 rfl rfl rfl e36 rfl ?_
          obtain ⟨x37, e38, hS⟩ := bn_s hS
          refine ev_getI pm322 i322_148 rfl rfl (by decide) e38 rfl ?_
          cases hS
          exact ev_ireturn pm322 i322_151 rfl rfl rfl
        rw [if_neg c819] at hS
        by_cases c820 : a1 = (7 : Int32)
        · rw [if_pos c820] at hS
          refine ev_tabI (t := 152) (off := 114) pm322 i322_38 rfl (7 : Int32) c820 (by decide) rfl rfl ?_
          refine ev_aload_n pm322 i322_152 rfl rfl rfl ?_
          obtain ⟨x39, e40, hS⟩ := bn_s hS
          refine ev_getR pm322 i322_153 rfl rfl rfl e40 rfl ?_
          obtain ⟨x41, e42, hS⟩ := bn_s hS
          refine ev_getI pm322 i322_156 rfl rfl (by decide) e42 rfl ?_
          cases hS
          exact ev_ireturn pm322 i322_159 rfl rfl rfl
        rw [if_neg c820] at hS
        by_cases c821 : a1 = (8 : Int32)
        · rw [if_pos c821] at hS
          refine ev_tabI (t := 160) (off := 122) pm322 i322_38 rfl (8 : Int32) c821 (by decide) rfl rfl ?_
          refine ev_aload_n pm322 i322_160 rfl rfl rfl ?_
          obtain ⟨x43, e44, hS⟩ := bn_s hS
          refine ev_getR pm322 i322_161 rfl rfl rfl e44 rfl ?_
          refine ev_bipush (v := 29) pm322 i322_164 rfl (by decide) rfl ?_
          obtain ⟨x45, e46, hS⟩ := bn_s hS
          refine ev_iald pm322 i322_166 rfl e46 rfl ?_
          cases hS
          exact ev_ireturn pm322 i322_167 rfl rfl rfl
        rw [if_neg c821] at hS
        by_cases c822 : a1 = (9 : Int32)
        · rw [if_pos c822] at hS
          refine ev_tabI (t := 168) (off := 130) pm322 i322_38 rfl (9 : Int32) c822 (by decide) rfl rfl ?_
          refine ev_aload_n pm322 i322_168 rfl rfl rfl ?_
          obtain ⟨x47, e48, hS⟩ := bn_s hS
          refine ev_getR pm322 i322_169 rfl rfl rfl e48 rfl ?_
          refine ev_bipush (v := 30) pm322 i322_172 rfl (by decide) rfl ?_
          obtain ⟨x49, e50, hS⟩ := bn_s hS
          refine ev_iald pm322 i322_174 rfl e50 rfl ?_
          cases hS
          exact ev_ireturn pm322 i322_175 rfl rfl rfl
        rw [if_neg c822] at hS
        by_cases c823 : a1 = (10 : Int32)
        · rw [if_pos c823] at hS
          refine ev_tabI (t := 176) (off := 138) pm322 i322_38 rfl (10 : Int32) c823 (by decide) rfl rfl ?_
          refine ev_aload_n pm322 i322_176 rfl rfl rfl ?_
          obtain ⟨x51, e52, hS⟩ := bn_s hS
          refine ev_getI pm322 i322_177 rfl rfl (by decide) e52 rfl ?_
          cases hS
          exact ev_ireturn pm322 i322_180 rfl rfl rfl
        rw [if_neg c823] at hS
        cases hS
def F_md_trouble (a0 : Nat) (h : Hp) : Option (Int32 × Hp) :=
  ck h a0 13 (bn (pI h a0 13 0 (0 : Int32)) fun h1 =>
  bn (gI h1 a0 13 1) fun x3 =>
  some (x3, h1))
set_option maxRecDepth 20000 in
theorem K_md_trouble {a0 : Nat} {h : Hp} {v : Int32} {h' : Hp} (hS : F_md_trouble a0 h = some (v, h')) : kd h a0 = 13 := by
  unfold F_md_trouble at hS
  exact (ck_s hS).1
set_option maxRecDepth 20000 in
theorem R_md_trouble (d : Nat) (hd : 0 ≤ d) {a0 : Nat} {h : Hp} {v : Int32} {h' : Hp} (hS : F_md_trouble a0 h = some (v, h')) : Ev P d 323 (0, [.ref a0], [], h) (some (.int v), h') := by
  unfold F_md_trouble at hS
  replace hS := (ck_s hS).2
  refine ev_aload_n pm323 i323_0 rfl rfl rfl ?_
  refine ev_iconst (v := 0) pm323 i323_1 rfl (by decide) rfl ?_
  obtain ⟨h1, e2, hS⟩ := bn_s hS
  refine ev_putI pm323 i323_2 rfl rfl rfl e2 rfl ?_
  refine ev_aload_n pm323 i323_5 rfl rfl rfl ?_
  obtain ⟨x3, e4, hS⟩ := bn_s hS
  refine ev_getI pm323 i323_6 rfl rfl (by decide) e4 rfl ?_
  cases hS
  exact ev_ireturn pm323 i323_9 rfl rfl rfl
def B_lw_law_23 (l0 : Nat) (l1 : Nat) (l2 : Nat) (l3 : Nat) (s : Int32) (h : Hp) : Option (((Int32) ⊕ ((Unit) ⊕ Int32)) × Hp) :=
  bn (aN h l0) fun x14 =>
  if (x14 - (6 : Int32)) < s then
    (some (.inr (.inl ()), h))
  else
    (bn (aI h 100 l0 s) fun x16 =>
    if (x16 &&& (63 : Int32)).toInt < 0 ∨ 52 < (x16 &&& (63 : Int32)).toInt then
      (some (.inl (s + (6 : Int32)), h))
    else if (x16 &&& (63 : Int32)) = (0 : Int32) then
      (bn (aI h 100 l0 (s + (1 : Int32))) fun x18 =>
      bn (aI h 100 l0 (s + (2 : Int32))) fun x20 =>
      bn (aI h 100 l0 (s + (3 : Int32))) fun x22 =>
      bn (aI h 100 l0 (s + (4 : Int32))) fun x24 =>
      bn (aI h 100 l0 (s + (5 : Int32))) fun x26 =>
      bd (F_cs_feed l1 x18 x20 x22 x24 x26 h) fun x29 h30 =>
      bn (aI h30 100 l0 (s + (1 : Int32))) fun x31 =>
      bn (aI h30 100 l0 (s + (2 : Int32))) fun x33 =>
      bn (aI h30 100 l0 (s + (3 : Int32))) fun x35 =>
      bn (aI h30 100 l0 (s + (4 : Int32))) fun x37 =>
      bn (aI h30 100 l0 (s + (5 : Int32))) fun x39 =>
      bd (F_md_feed l2 x31 x33 x35 x37 x39 h30) fun x42 h43 =>
      if x29 = x42 then
        (some (.inl (s + (6 : Int32)), h43))
      else
        (some (.inr (.inr (0 : Int32)), h43)))
    else if (x16 &&& (63 : Int32)) = (1 : Int32) then
      (bn (aI h 100 l0 (s + (1 : Int32))) fun x44 =>
      bd (F_cs_lake l1 x44 h) fun x47 h48 =>
      bn (aI h48 100 l0 (s + (1 : Int32))) fun x49 =>
      bd (F_md_lake l2 x49 h48) fun x52 h53 =>
      if x47 = x52 then
        (some (.inl (s + (6 : Int32)), h53))
      else
        (some (.inr (.inr (0 : Int32)), h53)))
    else if (x16 &&& (63 : Int32)) = (2 : Int32) then
      (bn (F_cs_fault l1 h) fun x55 =>
      bd (F_md_fault l2 h) fun x57 h58 =>
      if x55 = x57 then
        (some (.inl (s + (6 : Int32)), h58))
      else
        (some (.inr (.inr (0 : Int32)), h58)))
    else if (x16 &&& (63 : Int32)) = (3 : Int32) then
      (bn (F_cs_where l1 h) fun x60 =>
      bd (F_md_where l2 h) fun x62 h63 =>
      if x60 = x62 then
        (some (.inl (s + (6 : Int32)), h63))
      else
        (some (.inr (.inr (0 : Int32)), h63)))
    else if (x16 &&& (63 : Int32)) = (4 : Int32) then
      (bn (aI h 100 l0 (s + (1 : Int32))) fun x64 =>
      bn (aI h 100 l0 (s + (2 : Int32))) fun x66 =>
      bd (F_cs_house l1 x64 x66 h) fun x69 h70 =>
      bn (aI h70 100 l0 (s + (1 : Int32))) fun x71 =>
      bn (aI h70 100 l0 (s + (2 : Int32))) fun x73 =>
      bd (F_md_house l2 x71 x73 h70) fun x76 h77 =>
      if x69 = x76 then
        (some (.inl (s + (6 : Int32)), h77))
      else
        (some (.inr (.inr (0 : Int32)), h77)))
    else if (x16 &&& (63 : Int32)) = (5 : Int32) then
      (bn (aI h 100 l0 (s + (1 : Int32))) fun x78 =>
      bn (aI h 100 l0 (s + (2 : Int32))) fun x80 =>
      bd (F_cs_corks l1 x78 x80 h) fun x83 h84 =>
      bn (aI h84 100 l0 (s + (1 : Int32))) fun x85 =>
      bn (aI h84 100 l0 (s + (2 : Int32))) fun x87 =>
      bd (F_md_corks l2 x85 x87 h84) fun x90 h91 =>
      if x83 = x90 then
        (some (.inl (s + (6 : Int32)), h91))
      else
        (some (.inr (.inr (0 : Int32)), h91)))
    else if (x16 &&& (63 : Int32)) = (6 : Int32) then
      (bn (aI h 100 l0 (s + (1 : Int32))) fun x92 =>
      bn (aI h 100 l0 (s + (2 : Int32))) fun x94 =>
      bd (F_cs_guest l1 x92 x94 h) fun x97 h98 =>
      bn (aI h98 100 l0 (s + (1 : Int32))) fun x99 =>
      bn (aI h98 100 l0 (s + (2 : Int32))) fun x101 =>
      bd (F_md_guest l2 x99 x101 h98) fun x104 h105 =>
      if x97 = x104 then
        (some (.inl (s + (6 : Int32)), h105))
      else
        (some (.inr (.inr (0 : Int32)), h105)))
    else if (x16 &&& (63 : Int32)) = (7 : Int32) then
      (bn (aI h 100 l0 (s + (1 : Int32))) fun x106 =>
      bn (aI h 100 l0 (s + (2 : Int32))) fun x108 =>
      bd (F_cs_rope l1 x106 x108 h) fun x111 h112 =>
      bn (aI h112 100 l0 (s + (1 : Int32))) fun x113 =>
      bn (aI h112 100 l0 (s + (2 : Int32))) fun x115 =>
      bd (F_md_rope l2 x113 x115 h112) fun x118 h119 =>
      if x111 = x118 then
        (some (.inl (s + (6 : Int32)), h119))
      else
        (some (.inr (.inr (0 : Int32)), h119)))
    else if (x16 &&& (63 : Int32)) = (8 : Int32) then
      (bd (F_cs_under l1 h) fun x121 h122 =>
      bd (F_md_under l2 h122) fun x124 h125 =>
      if x121 = x124 then
        (some (.inl (s + (6 : Int32)), h125))
      else
        (some (.inr (.inr (0 : Int32)), h125)))
    else if (x16 &&& (63 : Int32)) = (9 : Int32) then
      (bd (F_cs_lowest l1 h) fun x127 h128 =>
      bd (F_md_lowest l2 h128) fun x130 h131 =>
      if x127 = x130 then
        (some (.inl (s + (6 : Int32)), h131))
      else
        (some (.inr (.inr (0 : Int32)), h131)))
    else if (x16 &&& (63 : Int32)) = (10 : Int32) then
      (bd (F_cs_rafts l1 h) fun x133 h134 =>
      bd (F_md_rafts l2 h134) fun x136 h137 =>
      if x133 = x136 then
        (some (.inl (s + (6 : Int32)), h137))
      else
        (some (.inr (.inr (0 : Int32)), h137)))
    else if (x16 &&& (63 : Int32)) = (11 : Int32) then
      (bn (aI h 100 l0 (s + (1 : Int32))) fun x138 =>
      bd (F_cs_tilt l1 x138 h) fun x141 h142 =>
      bn (aI h142 100 l0 (s + (1 : Int32))) fun x143 =>
      bd (F_md_tilt l2 x143 h142) fun x146 h147 =>
      if x141 = x146 then
        (some (.inl (s + (6 : Int32)), h147))
      else
        (some (.inr (.inr (0 : Int32)), h147)))
    else if (x16 &&& (63 : Int32)) = (12 : Int32) then
      (bn (aI h 100 l0 (s + (1 : Int32))) fun x148 =>
      bn (aI h 100 l0 (s + (2 : Int32))) fun x150 =>
      bd (F_cs_heightIn l1 x148 x150 h) fun x153 h154 =>
      bn (aI h154 100 l0 (s + (1 : Int32))) fun x155 =>
      bn (aI h154 100 l0 (s + (2 : Int32))) fun x157 =>
      bd (F_md_heightIn l2 x155 x157 h154) fun x160 h161 =>
      if x153 = x160 then
        (some (.inl (s + (6 : Int32)), h161))
      else
        (some (.inr (.inr (0 : Int32)), h161)))
    else if (x16 &&& (63 : Int32)) = (13 : Int32) then
      (bn (aI h 100 l0 (s + (1 : Int32))) fun x162 =>
      bd (F_cs_underIn l1 x162 h) fun x165 h166 =>
      bn (aI h166 100 l0 (s + (1 : Int32))) fun x167 =>
      bd (F_md_underIn l2 x167 h166) fun x170 h171 =>
      if x165 = x170 then
        (some (.inl (s + (6 : Int32)), h171))
      else
        (some (.inr (.inr (0 : Int32)), h171)))
    else if (x16 &&& (63 : Int32)) = (14 : Int32) then
      (bn (aI h 100 l0 (s + (1 : Int32))) fun x172 =>
      bd (F_cs_sinks l1 x172 h) fun x175 h176 =>
      bn (aI h176 100 l0 (s + (1 : Int32))) fun x177 =>
      bd (F_md_sinks l2 x177 h176) fun x180 h181 =>
      if x175 = x180 then
        (some (.inl (s + (6 : Int32)), h181))
      else
        (some (.inr (.inr (0 : Int32)), h181)))
    else if (x16 &&& (63 : Int32)) = (15 : Int32) then
      (bd (F_cs_wetFeast l1 h) fun x183 h184 =>
      bd (F_md_wetFeast l2 h184) fun x186 h187 =>
      if x183 = x186 then
        (some (.inl (s + (6 : Int32)), h187))
      else
        (some (.inr (.inr (0 : Int32)), h187)))
    else if (x16 &&& (63 : Int32)) = (16 : Int32) then
      (bn (aI h 100 l0 (s + (1 : Int32))) fun x188 =>
      bn (aI h 100 l0 (s + (2 : Int32))) fun x190 =>
      bn (aI h 100 l0 (s + (3 : Int32))) fun x192 =>
      bd (F_cs_aunt l1 x188 x190 x192 h) fun x195 h196 =>
      bn (aI h196 100 l0 (s + (1 : Int32))) fun x197 =>
      bn (aI h196 100 l0 (s + (2 : Int32))) fun x199 =>
      bn (aI h196 100 l0 (s + (3 : Int32))) fun x201 =>
      bd (F_md_aunt l2 x197 x199 x201 h196) fun x204 h205 =>
      if x195 = x204 then
        (some (.inl (s + (6 : Int32)), h205))
      else
        (some (.inr (.inr (0 : Int32)), h205)))
    else if (x16 &&& (63 : Int32)) = (17 : Int32) then
      (bn (aI h 100 l0 (s + (1 : Int32))) fun x206 =>
      bd (F_cs_bestStay l1 x206 h) fun x209 h210 =>
      bn (aI h210 100 l0 (s + (1 : Int32))) fun x211 =>
      bd (F_md_bestStay l2 x211 h210) fun x214 h215 =>
      if x209 = x214 then
        (some (.inl (s + (6 : Int32)), h215))
      else
        (some (.inr (.inr (0 : Int32)), h215)))
    else if (x16 &&& (63 : Int32)) = (18 : Int32) then
      (bn (aI h 100 l0 (s + (1 : Int32))) fun x216 =>
      bd (F_cs_bestMove l1 x216 h) fun x219 h220 =>
      bn (aI h220 100 l0 (s + (1 : Int32))) fun x221 =>
      bd (F_md_bestMove l2 x221 h220) fun x224 h225 =>
      if x219 = x224 then
        (some (.inl (s + (6 : Int32)), h225))
      else
        (some (.inr (.inr (0 : Int32)), h225)))
    else if (x16 &&& (63 : Int32)) = (19 : Int32) then
      (bd (F_cs_bestCut l1 h) fun x227 h228 =>
      bd (F_md_bestCut l2 h228) fun x230 h231 =>
      if x227 = x230 then
        (some (.inl (s + (6 : Int32)), h231))
      else
        (some (.inr (.inr (0 : Int32)), h231)))
    else if (x16 &&& (63 : Int32)) = (20 : Int32) then
      (bn (aI h 100 l0 (s + (1 : Int32))) fun x232 =>
      bd (F_cs_plan l1 x232 h) fun x235 h236 =>
      bn (aI h236 100 l0 (s + (1 : Int32))) fun x237 =>
      bd (F_md_plan l2 x237 h236) fun x240 h241 =>
      if x235 = x240 then
        (some (.inl (s + (6 : Int32)), h241))
      else
        (some (.inr (.inr (0 : Int32)), h241)))
    else if (x16 &&& (63 : Int32)) = (21 : Int32) then
      (bn (aI h 100 l0 (s + (1 : Int32))) fun x242 =>
      bn (aI h 100 l0 (s + (2 : Int32))) fun x244 =>
      bd (F_cs_planDays l1 x242 x244 h) fun x247 h248 =>
      bn (aI h248 100 l0 (s + (1 : Int32))) fun x249 =>
      bn (aI h248 100 l0 (s + (2 : Int32))) fun x251 =>
      bd (F_md_planDays l2 x249 x251 h248) fun x254 h255 =>
      if x247 = x254 then
        (some (.inl (s + (6 : Int32)), h255))
      else
        (some (.inr (.inr (0 : Int32)), h255)))
    else if (x16 &&& (63 : Int32)) = (22 : Int32) then
      (bn (aI h 100 l0 (s + (1 : Int32))) fun x256 =>
      bn (aI h 100 l0 (s + (2 : Int32))) fun x258 =>
      bd (F_cs_planHouse l1 x256 x258 h) fun x261 h262 =>
      bn (aI h262 100 l0 (s + (1 : Int32))) fun x263 =>
      bn (aI h262 100 l0 (s + (2 : Int32))) fun x265 =>
      bd (F_md_planHouse l2 x263 x265 h262) fun x268 h269 =>
      if x261 = x268 then
        (some (.inl (s + (6 : Int32)), h269))
      else
        (some (.inr (.inr (0 : Int32)), h269)))
    else if (x16 &&& (63 : Int32)) = (23 : Int32) then
      (bn (aI h 100 l0 (s + (1 : Int32))) fun x270 =>
      bd (F_cs_feasts l1 x270 h) fun x273 h274 =>
      bn (aI h274 100 l0 (s + (1 : Int32))) fun x275 =>
      bd (F_md_feasts l2 x275 h274) fun x278 h279 =>
      if x273 = x278 then
        (some (.inl (s + (6 : Int32)), h279))
      else
        (some (.inr (.inr (0 : Int32)), h279)))
    else if (x16 &&& (63 : Int32)) = (24 : Int32) then
      (bn (aI h 100 l0 (s + (1 : Int32))) fun x280 =>
      bn (aI h 100 l0 (s + (2 : Int32))) fun x282 =>
      bd (F_cs_feastHouse l1 x280 x282 h) fun x285 h286 =>
      bn (aI h286 100 l0 (s + (1 : Int32))) fun x287 =>
      bn (aI h286 100 l0 (s + (2 : Int32))) fun x289 =>
      bd (F_md_feastHouse l2 x287 x289 h286) fun x292 h293 =>
      if x285 = x292 then
        (some (.inl (s + (6 : Int32)), h293))
      else
        (some (.inr (.inr (0 : Int32)), h293)))
    else if (x16 &&& (63 : Int32)) = (25 : Int32) then
      (bd (F_cs_sets l1 h) fun x295 h296 =>
      bd (F_md_sets l2 h296) fun x298 h299 =>
      if x295 = x298 then
        (some (.inl (s + (6 : Int32)), h299))
      else
        (some (.inr (.inr (0 : Int32)), h299)))
    else if (x16 &&& (63 : Int32)) = (26 : Int32) then
      (bn (aI h 100 l0 (s + (1 : Int32))) fun x300 =>
      bd (F_cs_setAt l1 x300 h) fun x303 h304 =>
      bn (aI h304 100 l0 (s + (1 : Int32))) fun x305 =>
      bd (F_md_setAt l2 x305 h304) fun x308 h309 =>
      if x303 = x308 then
        (some (.inl (s + (6 : Int32)), h309))
      else
        (some (.inr (.inr (0 : Int32)), h309)))
    else if (x16 &&& (63 : Int32)) = (27 : Int32) then
      (bd (F_cs_could l1 h) fun x311 h312 =>
      bd (F_md_could l2 h312) fun x314 h315 =>
      if x311 = x314 then
        (some (.inl (s + (6 : Int32)), h315))
      else
        (some (.inr (.inr (0 : Int32)), h315)))
    else if (x16 &&& (63 : Int32)) = (28 : Int32) then
      (bd (F_cs_surely l1 h) fun x317 h318 =>
      bd (F_md_surely l2 h318) fun x320 h321 =>
      if x317 = x320 then
        (some (.inl (s + (6 : Int32)), h321))
      else
        (some (.inr (.inr (0 : Int32)), h321)))
    else if (x16 &&& (63 : Int32)) = (29 : Int32) then
      (bd (F_cs_ask l1 h) fun x323 h324 =>
      bd (F_md_ask l2 h324) fun x326 h327 =>
      if x323 = x326 then
        (some (.inl (s + (6 : Int32)), h327))
      else
        (some (.inr (.inr (0 : Int32)), h327)))
    else if (x16 &&& (63 : Int32)) = (30 : Int32) then
      (bd (F_cs_askLeaves l1 h) fun x329 h330 =>
      bd (F_md_askLeaves l2 h330) fun x332 h333 =>
      if x329 = x332 then
        (some (.inl (s + (6 : Int32)), h333))
      else
        (some (.inr (.inr (0 : Int32)), h333)))
    else if (x16 &&& (63 : Int32)) = (31 : Int32) then
      (bd (F_cs_judge l1 h) fun x335 h336 =>
      bd (F_md_judge l2 h336) fun x338 h339 =>
      if x335 = x338 then
        (some (.inl (s + (6 : Int32)), h339))
      else
        (some (.inr (.inr (0 : Int32)), h339)))
    else if (x16 &&& (63 : Int32)) = (32 : Int32) then
      (bn (aI h 100 l0 (s + (1 : Int32))) fun x340 =>
      bd (F_cs_value l1 x340 h) fun x343 h344 =>
      bn (aI h344 100 l0 (s + (1 : Int32))) fun x345 =>
      bd (F_md_value l2 x345 h344) fun x348 h349 =>
      if x343 = x348 then
        (some (.inl (s + (6 : Int32)), h349))
      else
        (some (.inr (.inr (0 : Int32)), h349)))
    else if (x16 &&& (63 : Int32)) = (33 : Int32) then
      (bn (aI h 100 l0 (s + (1 : Int32))) fun x350 =>
      bd (F_cs_kingCuts l1 x350 h) fun x353 h354 =>
      bn (aI h354 100 l0 (s + (1 : Int32))) fun x355 =>
      bd (F_md_kingCuts l2 x355 h354) fun x358 h359 =>
      if x353 = x358 then
        (some (.inl (s + (6 : Int32)), h359))
      else
        (some (.inr (.inr (0 : Int32)), h359)))
    else if (x16 &&& (63 : Int32)) = (34 : Int32) then
      (bn (aI h 100 l0 (s + (1 : Int32))) fun x360 =>
      bn (aI h 100 l0 (s + (2 : Int32))) fun x362 =>
      bn (aI h 100 l0 (s + (3 : Int32))) fun x364 =>
      bn (if x364 = (0 : Int32) then
          (some (0 : Int32))
        else
          (some (1 : Int32))) fun q366 =>
      bd (F_cs_dry l1 x360 x362 q366 h) fun x368 h369 =>
      bn (aI h369 100 l0 (s + (1 : Int32))) fun x370 =>
      bn (aI h369 100 l0 (s + (2 : Int32))) fun x372 =>
      bn (aI h369 100 l0 (s + (3 : Int32))) fun x374 =>
      bn (if x374 = (0 : Int32) then
          (some (0 : Int32))
        else
          (some (1 : Int32))) fun q376 =>
      bd (F_md_dry l2 x370 x372 q376 h369) fun x378 h379 =>
      if (lg_cmp x368 x378) = (0 : Int32) then
        (some (.inl (s + (6 : Int32)), h379))
      else
        (some (.inr (.inr (0 : Int32)), h379)))
    else if (x16 &&& (63 : Int32)) = (35 : Int32) then
      (bn (aI h 100 l0 (s + (1 : Int32))) fun x380 =>
      bn (aI h 100 l0 (s + (2 : Int32))) fun x382 =>
      bn (aI h 100 l0 (s + (3 : Int32))) fun x384 =>
      bn (if x384 = (0 : Int32) then
          (some (0 : Int32))
        else
          (some (1 : Int32))) fun q386 =>
      bd (F_cs_mean l1 x380 x382 q386 h) fun x388 h389 =>
      bn (aI h389 100 l0 (s + (1 : Int32))) fun x390 =>
      bn (aI h389 100 l0 (s + (2 : Int32))) fun x392 =>
      bn (aI h389 100 l0 (s + (3 : Int32))) fun x394 =>
      bn (if x394 = (0 : Int32) then
          (some (0 : Int32))
        else
          (some (1 : Int32))) fun q396 =>
      bd (F_md_mean l2 x390 x392 q396 h389) fun x398 h399 =>
      if (lg_cmp x388 x398) = (0 : Int32) then
        (some (.inl (s + (6 : Int32)), h399))
      else
        (some (.inr (.inr (0 : Int32)), h399)))
    else if (x16 &&& (63 : Int32)) = (36 : Int32) then
      (bn (aI h 100 l0 (s + (1 : Int32))) fun x400 =>
      bd (F_cs_safest l1 x400 h) fun x403 h404 =>
      bn (aI h404 100 l0 (s + (1 : Int32))) fun x405 =>
      bd (F_md_safest l2 x405 h404) fun x408 h409 =>
      if x403 = x408 then
        (some (.inl (s + (6 : Int32)), h409))
      else
        (some (.inr (.inr (0 : Int32)), h409)))
    else if (x16 &&& (63 : Int32)) = (37 : Int32) then
      (bn (aI h 100 l0 (s + (1 : Int32))) fun x410 =>
      bn (aI h 100 l0 (s + (2 : Int32))) fun x412 =>
      bn (aI h 100 l0 (s + (3 : Int32))) fun x414 =>
      bn (if x414 = (0 : Int32) then
          (some (0 : Int32))
        else
          (some (1 : Int32))) fun q416 =>
      bd (F_cs_losses l1 x410 x412 q416 h) fun x418 h419 =>
      bn (aI h419 100 l0 (s + (1 : Int32))) fun x420 =>
      bn (aI h419 100 l0 (s + (2 : Int32))) fun x422 =>
      bn (aI h419 100 l0 (s + (3 : Int32))) fun x424 =>
      bn (if x424 = (0 : Int32) then
          (some (0 : Int32))
        else
          (some (1 : Int32))) fun q426 =>
      bd (F_md_losses l2 x420 x422 q426 h419) fun x428 h429 =>
      if (lg_cmp x418 x428) = (0 : Int32) then
        (some (.inl (s + (6 : Int32)), h429))
      else
        (some (.inr (.inr (0 : Int32)), h429)))
    else if (x16 &&& (63 : Int32)) = (38 : Int32) then
      (bn (aI h 100 l0 (s + (1 : Int32))) fun x430 =>
      bn (aI h 100 l0 (s + (2 : Int32))) fun x432 =>
      bn (aI h 100 l0 (s + (3 : Int32))) fun x434 =>
      bd (F_cs_weeks l1 x430 x432 x434 h) fun x437 h438 =>
      bn (aI h438 100 l0 (s + (1 : Int32))) fun x439 =>
      bn (aI h438 100 l0 (s + (2 : Int32))) fun x441 =>
      bn (aI h438 100 l0 (s + (3 : Int32))) fun x443 =>
      bd (F_md_weeks l2 x439 x441 x443 h438) fun x446 h447 =>
      if x437 = x446 then
        (some (.inl (s + (6 : Int32)), h447))
      else
        (some (.inr (.inr (0 : Int32)), h447)))
    else if (x16 &&& (63 : Int32)) = (39 : Int32) then
      (bn (aI h 100 l0 (s + (1 : Int32))) fun x448 =>
      bn (aI h 100 l0 (s + (2 : Int32))) fun x450 =>
      bd (F_cs_eaten l1 x448 x450 h) fun x453 h454 =>
      bn (aI h454 100 l0 (s + (1 : Int32))) fun x455 =>
      bn (aI h454 100 l0 (s + (2 : Int32))) fun x457 =>
      bd (F_md_eaten l2 x455 x457 h454) fun x460 h461 =>
      if x453 = x460 then
        (some (.inl (s + (6 : Int32)), h461))
      else
        (some (.inr (.inr (0 : Int32)), h461)))
    else if (x16 &&& (63 : Int32)) = (40 : Int32) then
      (bn (aI h 100 l0 (s + (1 : Int32))) fun x462 =>
      bn (aI h 100 l0 (s + (2 : Int32))) fun x464 =>
      bd (F_cs_sunkAt l1 x462 x464 h) fun x467 h468 =>
      bn (aI h468 100 l0 (s + (1 : Int32))) fun x469 =>
      bn (aI h468 100 l0 (s + (2 : Int32))) fun x471 =>
      bd (F_md_sunkAt l2 x469 x471 h468) fun x474 h475 =>
      if x467 = x474 then
        (some (.inl (s + (6 : Int32)), h475))
      else
        (some (.inr (.inr (0 : Int32)), h475)))
    else if (x16 &&& (63 : Int32)) = (41 : Int32) then
      (bn (aI h 100 l0 (s + (1 : Int32))) fun x476 =>
      bn (aI h 100 l0 (s + (2 : Int32))) fun x478 =>
      bd (F_cs_drink l1 x476 x478 h) fun x481 h482 =>
      bn (aI h482 100 l0 (s + (1 : Int32))) fun x483 =>
      bn (aI h482 100 l0 (s + (2 : Int32))) fun x485 =>
      bd (F_md_drink l2 x483 x485 h482) fun x488 h489 =>
      if x481 = x488 then
        (some (.inl (s + (6 : Int32)), h489))
      else
        (some (.inr (.inr (0 : Int32)), h489)))
    else if (x16 &&& (63 : Int32)) = (42 : Int32) then
      (bn (aI h 100 l0 (s + (1 : Int32))) fun x490 =>
      bn (aI h 100 l0 (s + (2 : Int32))) fun x492 =>
      bd (F_cs_move l1 x490 x492 h) fun x495 h496 =>
      bn (aI h496 100 l0 (s + (1 : Int32))) fun x497 =>
      bn (aI h496 100 l0 (s + (2 : Int32))) fun x499 =>
      bd (F_md_move l2 x497 x499 h496) fun x502 h503 =>
      if x495 = x502 then
        (some (.inl (s + (6 : Int32)), h503))
      else
        (some (.inr (.inr (0 : Int32)), h503)))
    else if (x16 &&& (63 : Int32)) = (43 : Int32) then
      (bn (aI h 100 l0 (s + (1 : Int32))) fun x504 =>
      bd (F_cs_cut l1 x504 h) fun x507 h508 =>
      bn (aI h508 100 l0 (s + (1 : Int32))) fun x509 =>
      bd (F_md_cut l2 x509 h508) fun x512 h513 =>
      if x507 = x512 then
        (some (.inl (s + (6 : Int32)), h513))
      else
        (some (.inr (.inr (0 : Int32)), h513)))
    else if (x16 &&& (63 : Int32)) = (44 : Int32) then
      (bn (aI h 100 l0 (s + (1 : Int32))) fun x514 =>
      bd (F_cs_tie l1 x514 h) fun x517 h518 =>
      bn (aI h518 100 l0 (s + (1 : Int32))) fun x519 =>
      bd (F_md_tie l2 x519 h518) fun x522 h523 =>
      if x517 = x522 then
        (some (.inl (s + (6 : Int32)), h523))
      else
        (some (.inr (.inr (0 : Int32)), h523)))
    else if (x16 &&& (63 : Int32)) = (45 : Int32) then
      (bd (F_cs_week l1 h) fun x525 h526 =>
      bd (F_md_week l2 h526) fun x528 h529 =>
      if x525 = x528 then
        (some (.inl (s + (6 : Int32)), h529))
      else
        (some (.inr (.inr (0 : Int32)), h529)))
    else if (x16 &&& (63 : Int32)) = (46 : Int32) then
      (bn (aI h 100 l0 (s + (1 : Int32))) fun x530 =>
      bd (F_cs_seed l1 x530 h) fun x533 h534 =>
      bn (aI h534 100 l0 (s + (1 : Int32))) fun x535 =>
      bd (F_md_seed l2 x535 h534) fun x538 h539 =>
      if x533 = x538 then
        (some (.inl (s + (6 : Int32)), h539))
      else
        (some (.inr (.inr (0 : Int32)), h539)))
    else if (x16 &&& (63 : Int32)) = (47 : Int32) then
      (bd (F_cs_undo l1 h) fun x541 h542 =>
      bd (F_md_undo l2 h542) fun x544 h545 =>
      if x541 = x544 then
        (some (.inl (s + (6 : Int32)), h545))
      else
        (some (.inr (.inr (0 : Int32)), h545)))
    else if (x16 &&& (63 : Int32)) = (48 : Int32) then
      (bd (F_cs_image l1 h) fun x547 h548 =>
      bd (F_md_image l2 h548) fun x550 h551 =>
      if x547 = x550 then
        (some (.inl (s + (6 : Int32)), h551))
      else
        (some (.inr (.inr (0 : Int32)), h551)))
    else if (x16 &&& (63 : Int32)) = (49 : Int32) then
      (bn (aI h 100 l0 (s + (1 : Int32))) fun x552 =>
      bd (F_cs_back l1 x552 h) fun x555 h556 =>
      bn (aI h556 100 l0 (s + (1 : Int32))) fun x557 =>
      bd (F_md_back l2 x557 h556) fun x560 h561 =>
      if x555 = x560 then
        (some (.inl (s + (6 : Int32)), h561))
      else
        (some (.inr (.inr (0 : Int32)), h561)))
    else if (x16 &&& (63 : Int32)) = (50 : Int32) then
      (bn (aI h 100 l0 (s + (1 : Int32))) fun x562 =>
      bd (F_lw_led l1 x562 l3 h) fun x565 h566 =>
      bn (aI h566 100 l0 (s + (1 : Int32))) fun x567 =>
      bd (F_md_led l2 x567 h566) fun x570 h571 =>
      bn (F_md_thrown l2 h571) fun x573 =>
      if x573 = x565 then
        (if x565 = (0 : Int32) then
          (bn (aL h571 l3 (0 : Int32)) fun x574 =>
          if (lg_cmp x574 x570.toInt64) = (0 : Int32) then
            (some (.inl (s + (6 : Int32)), h571))
          else
            (some (.inr (.inr (0 : Int32)), h571)))
        else
          (some (.inl (s + (6 : Int32)), h571)))
      else
        (some (.inr (.inr (0 : Int32)), h571)))
    else if (x16 &&& (63 : Int32)) = (51 : Int32) then
      (bn (aI h 100 l0 (s + (1 : Int32))) fun x576 =>
      bn (F_cs_size l1 x576 h) fun x579 =>
      bn (aI h 100 l0 (s + (1 : Int32))) fun x580 =>
      bd (F_md_size l2 x580 h) fun x583 h584 =>
      if x579 = x583 then
        (some (.inl (s + (6 : Int32)), h584))
      else
        (some (.inr (.inr (0 : Int32)), h584)))
    else if (x16 &&& (63 : Int32)) = (52 : Int32) then
      (bn (F_cs_trouble l1 h) fun x586 =>
      bd (F_md_trouble l2 h) fun x588 h589 =>
      if x586 = x588 then
        (some (.inl (s + (6 : Int32)), h589))
      else
        (some (.inr (.inr (0 : Int32)), h589)))
    else none)
set_option maxRecDepth 20000 in
theorem L_lw_law_23 (d : Nat) (hd : 24 ≤ d) {l0 : Nat} {l1 : Nat} {l2 : Nat} {l3 : Nat} : ∀ (n : Nat) (s : Int32) (h : Hp) (x : (Unit) ⊕ Int32) (hx : Hp), lp (B_lw_law_23 l0 l1 l2 l3) n s h = some (x, hx) → ∀ r, ei x (fun q => Ev P d 1 (1789, [unk, unk, unk, unk, unk, unk, unk], [], hx) r) (fun v => (some (.int v), hx) = r) → Ev P d 1 (23, [.ref l0, .ref l1, .ref l2, .ref l3, .int s, unk, unk], [], h) r := by
  refine lp_ev (G0 := fun (s : Int32) h r => Ev P d 1 (23, [.ref l0, .ref l1, .ref l2, .ref l3, .int s, unk, unk], [], h) r) (X := fun (x : (Unit) ⊕ Int32) hx r => ei x (fun q => Ev P d 1 (1789, [unk, unk, unk, unk, unk, unk, unk], [], hx) r) (fun v => (some (.int v), hx) = r)) ?_
  intro s h y h9 hS r hK
  unfold B_lw_law_23 at hS
  show Ev P d 1 (23, [.ref l0, .ref l1, .ref l2, .ref l3, .int s, unk, unk], [], h) r
  refine ev_iload pm1 i1_23 rfl rfl rfl ?_
  refine ev_aload_n pm1 i1_25 rfl rfl rfl ?_
  obtain ⟨x14, e15, hS⟩ := bn_s hS
  refine ev_alen pm1 i1_26 rfl e15 rfl ?_
  refine ev_bipush (v := 6) pm1 i1_27 rfl (by decide) rfl ?_
  refine ev_b2 (f := fun x y => x - y) pm1 i1_29 rfl (fun _ _ _ _ => rfl) rfl ?_
  by_cases c824 : (x14 - (6 : Int32)) < s
  · rw [if_pos c824] at hS
    refine ev_icmp_gt_t (t := 1789) pm1 i1_30 rfl c824 rfl rfl ?_
    refine ev_kls (ls' := [unk, unk, unk, unk, unk, unk, unk]) pm1 i1_1789 rfl rfl ?_
    cases hS
    exact hK
  · rw [if_neg c824] at hS
    refine ev_icmp_gt_f (t := 1789) pm1 i1_30 rfl c824 rfl rfl ?_
    refine ev_aload_n pm1 i1_33 rfl rfl rfl ?_
    refine ev_iload pm1 i1_34 rfl rfl rfl ?_
    obtain ⟨x16, e17, hS⟩ := bn_s hS
    refine ev_iald pm1 i1_36 rfl e17 rfl ?_
    refine ev_bipush (v := 63) pm1 i1_37 rfl (by decide) rfl ?_
    refine ev_b2 (f := fun x y => x &&& y) pm1 i1_39 rfl (fun _ _ _ _ => rfl) rfl ?_
    by_cases c825 : (x16 &&& (63 : Int32)).toInt < 0 ∨ 52 < (x16 &&& (63 : Int32)).toInt
    · rw [if_pos c825] at hS
      refine ev_tabO (t := 1783) pm1 i1_40 rfl c825 rfl ?_
      refine ev_iinc (v := 6) (ls' := [.ref l0, .ref l1, .ref l2, .ref l3, .int (s + (6 : Int32)), unk, unk]) pm1 i1_1783 rfl rfl (by decide) rfl rfl ?_
      refine ev_goto (t := 23) pm1 i1_1786 rfl rfl ?_
      cases hS
      exact hK
    rw [if_neg c825] at hS
    by_cases c826 : (x16 &&& (63 : Int32)) = (0 : Int32)
    · rw [if_pos c826] at hS
      refine ev_tabI (t := 268) (off := 228) pm1 i1_40 rfl (0 : Int32) c826 (by decide) rfl rfl ?_
      refine ev_aload_n pm1 i1_268 rfl rfl rfl ?_
      refine ev_aload_n pm1 i1_269 rfl rfl rfl ?_
      refine ev_iload pm1 i1_270 rfl rfl rfl ?_
      refine ev_iconst (v := 1) pm1 i1_272 rfl (by decide) rfl ?_
      refine ev_b2 (f := fun x y => x + y) pm1 i1_273 rfl (fun _ _ _ _ => rfl) rfl ?_
      obtain ⟨x18, e19, hS⟩ := bn_s hS
      refine ev_iald pm1 i1_274 rfl e19 rfl ?_
      refine ev_aload_n pm1 i1_275 rfl rfl rfl ?_
      refine ev_iload pm1 i1_276 rfl rfl rfl ?_
      refine ev_iconst (v := 2) pm1 i1_278 rfl (by decide) rfl ?_
      refine ev_b2 (f := fun x y => x + y) pm1 i1_279 rfl (fun _ _ _ _ => rfl) rfl ?_
      obtain ⟨x20, e21, hS⟩ := bn_s hS
      refine ev_iald pm1 i1_280 rfl e21 rfl ?_
      refine ev_aload_n pm1 i1_281 rfl rfl rfl ?_
      refine ev_iload pm1 i1_282 rfl rfl rfl ?_
      refine ev_iconst (v := 3) pm1 i1_284 rfl (by decide) rfl ?_
      refine ev_b2 (f := fun x y => x + y) pm1 i1_285 rfl (fun _ _ _ _ => rfl) rfl ?_
      obtain ⟨x22, e23, hS⟩ := bn_s hS
      refine ev_iald pm1 i1_286 rfl e23 rfl ?_
      refine ev_aload_n pm1 i1_287 rfl rfl rfl ?_
      refine ev_iload pm1 i1_288 rfl rfl rfl ?_
      refine ev_iconst (v := 4) pm1 i1_290 rfl (by decide) rfl ?_
      refine ev_b2 (f := fun x y => x + y) pm1 i1_291 rfl (fun _ _ _ _ => rfl) rfl ?_
      obtain ⟨x24, e25, hS⟩ := bn_s hS
      refine ev_iald pm1 i1_292 rfl e25 rfl ?_
      refine ev_aload_n pm1 i1_293 rfl rfl rfl ?_
      refine ev_iload pm1 i1_294 rfl rfl rfl ?_
      refine ev_iconst (v := 5) pm1 i1_296 rfl (by decide) rfl ?_
      refine ev_b2 (f := fun x y => x + y) pm1 i1_297 rfl (fun _ _ _ _ => rfl) rfl ?_
      obtain ⟨x26, e27, hS⟩ := bn_s hS
      refine ev_iald pm1 i1_298 rfl e27 rfl ?_
      obtain ⟨x29, h30, e28, hS⟩ := bd_s hS
      refine ev_callV (sa := [.int x26, .int x24, .int x22, .int x20, .int x18]) (rest := []) (st' := [.int x29]) (ls0 := [.ref l1, .int x18, .int x20, .int x22, .int x24, .int x26]) (rv := some (.int x29)) pm1 i1_299 rfl rfl pm14 (by decide) (K_cs_feed e28) rfl rfl (Nat.le_of_ble_eq_true rfl) (by omega) rfl (R_cs_feed (d - 1) (by omega) e28) (by simp) rfl rfl ?_
      refine ev_aload_n pm1 i1_302 rfl rfl rfl ?_
      refine ev_aload_n pm1 i1_303 rfl rfl rfl ?_
      refine ev_iload pm1 i1_304 rfl rfl rfl ?_
      refine ev_iconst (v := 1) pm1 i1_306 rfl (by decide) rfl ?_
      refine ev_b2 (f := fun x y => x + y) pm1 i1_307 rfl (fun _ _ _ _ => rfl) rfl ?_
      obtain ⟨x31, e32, hS⟩ := bn_s hS
      refine ev_iald pm1 i1_308 rfl e32 rfl ?_
      refine ev_aload_n pm1 i1_309 rfl rfl rfl ?_
      refine ev_iload pm1 i1_310 rfl rfl rfl ?_
      refine ev_iconst (v := 2) pm1 i1_312 rfl (by decide) rfl ?_
      refine ev_b2 (f := fun x y => x + y) pm1 i1_313 rfl (fun _ _ _ _ => rfl) rfl ?_
      obtain ⟨x33, e34, hS⟩ := bn_s hS
      refine ev_iald pm1 i1_314 rfl e34 rfl ?_
      refine ev_aload_n pm1 i1_315 rfl rfl rfl ?_
      refine ev_iload pm1 i1_316 rfl rfl rfl ?_
      refine ev_iconst (v := 3) pm1 i1_318 rfl (by decide) rfl ?_
      refine ev_b2 (f := fun x y => x + y) pm1 i1_319 rfl (fun _ _ _ _ => rfl) rfl ?_
      obtain ⟨x35, e36, hS⟩ := bn_s hS
      refine ev_iald pm1 i1_320 rfl e36 rfl ?_
      refine ev_aload_n pm1 i1_321 rfl rfl rfl ?_
      refine ev_iload pm1 i1_322 rfl rfl rfl ?_
      refine ev_iconst (v := 4) pm1 i1_324 rfl (by decide) rfl ?_
      refine ev_b2 (f := fun x y => x + y) pm1 i1_325 rfl (fun _ _ _ _ => rfl) rfl ?_
      obtain ⟨x37, e38, hS⟩ := bn_s hS
      refine ev_iald pm1 i1_326 rfl e38 rfl ?_
      refine ev_aload_n pm1 i1_327 rfl rfl rfl ?_
      refine ev_iload pm1 i1_328 rfl rfl rfl ?_
      refine ev_iconst (v := 5) pm1 i1_330 rfl (by decide) rfl ?_
      refine ev_b2 (f := fun x y => x + y) pm1 i1_331 rfl (fun _ _ _ _ => rfl) rfl ?_
      obtain ⟨x39, e40, hS⟩ := bn_s hS
      refine ev_iald pm1 i1_332 rfl e40 rfl ?_
      obtain ⟨x42, h43, e41, hS⟩ := bd_s hS
      refine ev_callV (sa := [.int x39, .int x37, .int x35, .int x33, .int x31]) (rest := [.int x29]) (st' := [.int x42, .int x29]) (ls0 := [.ref l2, .int x31, .int x33, .int x35, .int x37, .int x39, unk, unk]) (rv := some (.int x42)) pm1 i1_333 rfl rfl pm184 (by decide) (K_md_feed e41) rfl rfl (Nat.le_of_ble_eq_true rfl) (by omega) rfl (R_md_feed (d - 1) (by omega) e41) (by simp) rfl rfl ?_
      by_cases c827 : x29 = x42
      · rw [if_pos c827] at hS
        refine ev_icmp_eq_t (t := 1783) pm1 i1_336 rfl c827 rfl rfl ?_
        refine ev_iinc (v := 6) (ls' := [.ref l0, .ref l1, .ref l2, .ref l3, .int (s + (6 : Int32)), unk, unk]) pm1 i1_1783 rfl rfl (by decide) rfl rfl ?_
        refine ev_goto (t := 23) pm1 i1_1786 rfl rfl ?_
        cases hS
        exact hK
      · rw [if_neg c827] at hS
        refine ev_icmp_eq_f (t := 1783) pm1 i1_336 rfl c827 rfl rfl ?_
        refine ev_iconst (v := 0) pm1 i1_339 rfl (by decide) rfl ?_
        cases hS
        exact ev_ireturn pm1 i1_340 rfl (by decide) hK
    rw [if_neg c826] at hS
    by_cases c828 : (x16 &&& (63 : Int32)) = (1 : Int32)
    · rw [if_pos c828] at hS
      refine ev_tabI (t := 341) (off := 301) pm1 i1_40 rfl (1 : Int32) c828 (by decide) rfl rfl ?_
      refine ev_aload_n pm1 i1_341 rfl rfl rfl ?_
      refine ev_aload_n pm1 i1_342 rfl rfl rfl ?_
      refine ev_iload pm1 i1_343 rfl rfl rfl ?_
      refine ev_iconst (v := 1) pm1 i1_345 rfl (by decide) rfl ?_
      refine ev_b2 (f := fun x y => x + y) pm1 i1_346 rfl (fun _ _ _ _ => rfl) rfl ?_
      obtain ⟨x44, e45, hS⟩ := bn_s hS
      refine ev_iald pm1 i1_347 rfl e45 rfl ?_
      obtain ⟨x47, h48, e46, hS⟩ := bd_s hS
      refine ev_callV (sa := [.int x44]) (rest := []) (st' := [.int x47]) (ls0 := [.ref l1, .int x44]) (rv := some (.int x47)) pm1 i1_348 rfl rfl pm16 (by decide) (K_cs_lake e46) rfl rfl (Nat.le_of_ble_eq_true rfl) (by omega) rfl (R_cs_lake (d - 1) (by omega) e46) (by simp) rfl rfl ?_
      refine ev_aload_n pm1 i1_351 rfl rfl rfl ?_
      refine ev_aload_n pm1 i1_352 rfl rfl rfl ?_
      refine ev_iload pm1 i1_353 rfl rfl rfl ?_
      refine ev_iconst (v := 1) pm1 i1_355 rfl (by decide) rfl ?_
      refine ev_b2 (f := fun x y => x + y) pm1 i1_356 rfl (fun _ _ _ _ => rfl) rfl ?_
      obtain ⟨x49, e50, hS⟩ := bn_s hS
      refine ev_iald pm1 i1_357 rfl e50 rfl ?_
      obtain ⟨x52, h53, e51, hS⟩ := bd_s hS
      refine ev_callV (sa := [.int x49]) (rest := [.int x47]) (st' := [.int x52, .int x47]) (ls0 := [.ref l2, .int x49, unk]) (rv := some (.int x52)) pm1 i1_358 rfl rfl pm185 (by decide) (K_md_lake e51) rfl rfl (Nat.le_of_ble_eq_true rfl) (by omega) rfl (R_md_lake (d - 1) (by omega) e51) (by simp) rfl rfl ?_
      by_cases c829 : x47 = x52
      · rw [if_pos c829] at hS
        refine ev_icmp_eq_t (t := 1783) pm1 i1_361 rfl c829 rfl rfl ?_
        refine ev_iinc (v := 6) (ls' := [.ref l0, .ref l1, .ref l2, .ref l3, .int (s + (6 : Int32)), unk, unk]) pm1 i1_1783 rfl rfl (by decide) rfl rfl ?_
        refine ev_goto (t := 23) pm1 i1_1786 rfl rfl ?_
        cases hS
        exact hK
      · rw [if_neg c829] at hS
        refine ev_icmp_eq_f (t := 1783) pm1 i1_361 rfl c829 rfl rfl ?_
        refine ev_iconst (v := 0) pm1 i1_364 rfl (by decide) rfl ?_
        cases hS
        exact ev_ireturn pm1 i1_365 rfl (by decide) hK
    rw [if_neg c828] at hS
    by_cases c830 : (x16 &&& (63 : Int32)) = (2 : Int32)
    · rw [if_pos c830] at hS
      refine ev_tabI (t := 366) (off := 326) pm1 i1_40 rfl (2 : Int32) c830 (by decide) rfl rfl ?_
      refine ev_aload_n pm1 i1_366 rfl rfl rfl ?_
      obtain ⟨x55, e54, hS⟩ := bn_s hS
      refine ev_callV (sa := []) (rest := []) (st' := [.int x55]) (ls0 := [.ref l1]) (rv := some (.int x55)) pm1 i1_367 rfl rfl pm60 (by decide) (K_cs_fault e54) rfl rfl (Nat.le_of_ble_eq_true rfl) (by omega) rfl (R_cs_fault (d - 1) (by omega) e54) (by simp) rfl rfl ?_
      refine ev_aload_n pm1 i1_370 rfl rfl rfl ?_
      obtain ⟨x57, h58, e56, hS⟩ := bd_s hS
      refine ev_callV (sa := []) (rest := [.int x55]) (st' := [.int x57, .int x55]) (ls0 := [.ref l2]) (rv := some (.int x57)) pm1 i1_371 rfl rfl pm225 (by decide) (K_md_fault e56) rfl rfl (Nat.le_of_ble_eq_true rfl) (by omega) rfl (R_md_fault (d - 1) (by omega) e56) (by simp) rfl rfl ?_
      by_cases c831 : x55 = x57
      · rw [if_pos c831] at hS
        refine ev_icmp_eq_t (t := 1783) pm1 i1_374 rfl c831 rfl rfl ?_
        refine ev_iinc (v := 6) (ls' := [.ref l0, .ref l1, .ref l2, .ref l3, .int (s + (6 : Int32)), unk, unk]) pm1 i1_1783 rfl rfl (by decide) rfl rfl ?_
        refine ev_goto (t := 23) pm1 i1_1786 rfl rfl ?_
        cases hS
        exact hK
      · rw [if_neg c831] at hS
        refine ev_icmp_eq_f (t := 1783) pm1 i1_374 rfl c831 rfl rfl ?_
        refine ev_iconst (v := 0) pm1 i1_377 rfl (by decide) rfl ?_
        cases hS
        exact ev_ireturn pm1 i1_378 rfl (by decide) hK
    rw [if_neg c830] at hS
    by_cases c832 : (x16 &&& (63 : Int32)) = (3 : Int32)
    · rw [if_pos c832] at hS
      refine ev_tabI (t := 379) (off := 339) pm1 i1_40 rfl (3 : Int32) c832 (by decide) rfl rfl ?_
      refine ev_aload_n pm1 i1_379 rfl rfl rfl ?_
      obtain ⟨x60, e59, hS⟩ := bn_s hS
      refine ev_callV (sa := []) (rest := []) (st' := [.int x60]) (ls0 := [.ref l1]) (rv := some (.int x60)) pm1 i1_380 rfl rfl pm61 (by decide) (K_cs_where e59) rfl rfl (Nat.le_of_ble_eq_true rfl) (by omega) rfl (R_cs_where (d - 1) (by omega) e59) (by simp) rfl rfl ?_
      refine ev_aload_n pm1 i1_383 rfl rfl rfl ?_
      obtain ⟨x62, h63, e61, hS⟩ := bd_s hS
      refine ev_callV (sa := []) (rest := [.int x60]) (st' := [.int x62, .int x60]) (ls0 := [.ref l2]) (rv := some (.int x62)) pm1 i1_384 rfl rfl pm226 (by decide) (K_md_where e61) rfl rfl (Nat.le_of_ble_eq_true rfl) (by omega) rfl (R_md_where (d - 1) (by omega) e61) (by simp) rfl rfl ?_
      by_cases c833 : x60 = x62
      · rw [if_pos c833] at hS
        refine ev_icmp_eq_t (t := 1783) pm1 i1_387 rfl c833 rfl rfl ?_
        refine ev_iinc (v := 6) (ls' := [.ref l0, .ref l1, .ref l2, .ref l3, .int (s + (6 : Int32)), unk, unk]) pm1 i1_1783 rfl rfl (by decide) rfl rfl ?_
        refine ev_goto (t := 23) pm1 i1_1786 rfl rfl ?_
        cases hS
        exact hK
      · rw [if_neg c833] at hS
        refine ev_icmp_eq_f (t := 1783) pm1 i1_387 rfl c833 rfl rfl ?_
        refine ev_iconst (v := 0) pm1 i1_390 rfl (by decide) rfl ?_
        cases hS
        exact ev_ireturn pm1 i1_391 rfl (by decide) hK
    rw [if_neg c832] at hS
    by_cases c834 : (x16 &&& (63 : Int32)) = (4 : Int32)
    · rw [if_pos c834] at hS
      refine ev_tabI (t := 392) (off := 352) pm1 i1_40 rfl (4 : Int32) c834 (by decide) rfl rfl ?_
      refine ev_aload_n pm1 i1_392 rfl rfl rfl ?_
      refine ev_aload_n pm1 i1_393 rfl rfl rfl ?_
      refine ev_iload pm1 i1_394 rfl rfl rfl ?_
      refine ev_iconst (v := 1) pm1 i1_396 rfl (by decide) rfl ?_
      refine ev_b2 (f := fun x y => x + y) pm1 i1_397 rfl (fun _ _ _ _ => rfl) rfl ?_
      obtain ⟨x64, e65, hS⟩ := bn_s hS
      refine ev_iald pm1 i1_398 rfl e65 rfl ?_
      refine ev_aload_n pm1 i1_399 rfl rfl rfl ?_
      refine ev_iload pm1 i1_400 rfl rfl rfl ?_
      refine ev_iconst (v := 2) pm1 i1_402 rfl (by decide) rfl ?_
      refine ev_b2 (f := fun x y => x + y) pm1 i1_403 rfl (fun _ _ _ _ => rfl) rfl ?_
      obtain ⟨x66, e67, hS⟩ := bn_s hS
      refine ev_iald pm1 i1_404 rfl e67 rfl ?_
      obtain ⟨x69, h70, e68, hS⟩ := bd_s hS
      refine ev_callV (sa := [.int x66, .int x64]) (rest := []) (st' := [.int x69]) (ls0 := [.ref l1, .int x64, .int x66]) (rv := some (.int x69)) pm1 i1_405 rfl rfl pm62 (by decide) (K_cs_house e68) rfl rfl (Nat.le_of_ble_eq_true rfl) (by omega) rfl (R_cs_house (d - 1) (by omega) e68) (by simp) rfl rfl ?_
      refine ev_aload_n pm1 i1_408 rfl rfl rfl ?_
      refine ev_aload_n pm1 i1_409 rfl rfl rfl ?_
      refine ev_iload pm1 i1_410 rfl rfl rfl ?_
      refine ev_iconst (v := 1) pm1 i1_412 rfl (by decide) rfl ?_
      refine ev_b2 (f := fun x y => x + y) pm1 i1_413 rfl (fun _ _ _ _ => rfl) rfl ?_
      obtain ⟨x71, e72, hS⟩ := bn_s hS
      refine ev_iald pm1 i1_414 rfl e72 rfl ?_
      refine ev_aload_n pm1 i1_415 rfl rfl rfl ?_
      refine ev_iload pm1 i1_416 rfl rfl rfl ?_
      refine ev_iconst (v := 2) pm1 i1_418 rfl (by decide) rfl ?_
      refine ev_b2 (f := fun x y => x + y) pm1 i1_419 rfl (fun _ _ _ _ => rfl) rfl ?_
      obtain ⟨x73, e74, hS⟩ := bn_s hS
      refine ev_iald pm1 i1_420 rfl e74 rfl ?_
      obtain ⟨x76, h77, e75, hS⟩ := bd_s hS
      refine ev_callV (sa := [.int x73, .int x71]) (rest := [.int x69]) (st' := [.int x76, .int x69]) (ls0 := [.ref l2, .int x71, .int x73]) (rv := some (.int x76)) pm1 i1_421 rfl rfl pm227 (by decide) (K_md_house e75) rfl rfl (Nat.le_of_ble_eq_true rfl) (by omega) rfl (R_md_house (d - 1) (by omega) e75) (by simp) rfl rfl ?_
      by_cases c835 : x69 = x76
      · rw [if_pos c835] at hS
        refine ev_icmp_eq_t (t := 1783) pm1 i1_424 rfl c835 rfl rfl ?_
        refine ev_iinc (v := 6) (ls' := [.ref l0, .ref l1, .ref l2, .ref l3, .int (s + (6 : Int32)), unk, unk]) pm1 i1_1783 rfl rfl (by decide) rfl rfl ?_
        refine ev_goto (t := 23) pm1 i1_1786 rfl rfl ?_
        cases hS
        exact hK
      · rw [if_neg c835] at hS
        refine ev_icmp_eq_f (t := 1783) pm1 i1_424 rfl c835 rfl rfl ?_
        refine ev_iconst (v := 0) pm1 i1_427 rfl (by decide) rfl ?_
        cases hS
        exact ev_ireturn pm1 i1_428 rfl (by decide) hK
    rw [if_neg c834] at hS
    by_cases c836 : (x16 &&& (63 : Int32)) = (5 : Int32)
    · rw [if_pos c836] at hS
      refine ev_tabI (t := 429) (off := 389) pm1 i1_40 rfl (5 : Int32) c836 (by decide) rfl rfl ?_
      refine ev_aload_n pm1 i1_429 rfl rfl rfl ?_
      refine ev_aload_n pm1 i1_430 rfl rfl rfl ?_
      refine ev_iload pm1 i1_431 rfl rfl rfl ?_
      refine ev_iconst (v := 1) pm1 i1_433 rfl (by decide) rfl ?_
      refine ev_b2 (f := fun x y => x + y) pm1 i1_434 rfl (fun _ _ _ _ => rfl) rfl ?_
      obtain ⟨x78, e79, hS⟩ := bn_s hS
      refine ev_iald pm1 i1_435 rfl e79 rfl ?_
      refine ev_aload_n pm1 i1_436 rfl rfl rfl ?_
      refine ev_iload pm1 i1_437 rfl rfl rfl ?_
      refine ev_iconst (v := 2) pm1 i1_439 rfl (by decide) rfl ?_
      refine ev_b2 (f := fun x y => x + y) pm1 i1_440 rfl (fun _ _ _ _ => rfl) rfl ?_
      obtain ⟨x80, e81, hS⟩ := bn_s hS
      refine ev_iald pm1 i1_441 rfl e81 rfl ?_
      obtain ⟨x83, h84, e82, hS⟩ := bd_s hS
      refine ev_callV (sa := [.int x80, .int x78]) (rest := []) (st' := [.int x83]) (ls0 := [.ref l1, .int x78, .int x80]) (rv := some (.int x83)) pm1 i1_442 rfl rfl pm78 (by decide) (K_cs_corks e82) rfl rfl (Nat.le_of_ble_eq_true rfl) (by omega) rfl (R_cs_corks (d - 1) (by omega) e82) (by simp) rfl rfl ?_
      refine ev_aload_n pm1 i1_445 rfl rfl rfl ?_
      refine ev_aload_n pm1 i1_446 rfl rfl rfl ?_
      refine ev_iload pm1 i1_447 rfl rfl rfl ?_
      refine ev_iconst (v := 1) pm1 i1_449 rfl (by decide) rfl ?_
      refine ev_b2 (f := fun x y => x + y) pm1 i1_450 rfl (fun _ _ _ _ => rfl) rfl ?_
      obtain ⟨x85, e86, hS⟩ := bn_s hS
      refine ev_iald pm1 i1_451 rfl e86 rfl ?_
      refine ev_aload_n pm1 i1_452 rfl rfl rfl ?_
      refine ev_iload pm1 i1_453 rfl rfl rfl ?_
      refine ev_iconst (v := 2) pm1 i1_455 rfl (by decide) rfl ?_
      refine ev_b2 (f := fun x y => x + y) pm1 i1_456 rfl (fun _ _ _ _ => rfl) rfl ?_
      obtain ⟨x87, e88, hS⟩ := bn_s hS
      refine ev_iald pm1 i1_457 rfl e88 rfl ?_
      obtain ⟨x90, h91, e89, hS⟩ := bd_s hS
      refine ev_callV (sa := [.int x87, .int x85]) (rest := [.int x83]) (st' := [.int x90, .int x83]) (ls0 := [.ref l2, .int x85, .int x87]) (rv := some (.int x90)) pm1 i1_458 rfl rfl pm240 (by decide) (K_md_corks e89) rfl rfl (Nat.le_of_ble_eq_true rfl) (by omega) rfl (R_md_corks (d - 1) (by omega) e89) (by simp) rfl rfl ?_
      by_cases c837 : x83 = x90
      · rw [if_pos c837] at hS
        refine ev_icmp_eq_t (t := 1783) pm1 i1_461 rfl c837 rfl rfl ?_
        refine ev_iinc (v := 6) (ls' := [.ref l0, .ref l1, .ref l2, .ref l3, .int (s + (6 : Int32)), unk, unk]) pm1 i1_1783 rfl rfl (by decide) rfl rfl ?_
        refine ev_goto (t := 23) pm1 i1_1786 rfl rfl ?_
        cases hS
        exact hK
      · rw [if_neg c837] at hS
        refine ev_icmp_eq_f (t := 1783) pm1 i1_461 rfl c837 rfl rfl ?_
        refine ev_iconst (v := 0) pm1 i1_464 rfl (by decide) rfl ?_
        cases hS
        exact ev_ireturn pm1 i1_465 rfl (by decide) hK
    rw [if_neg c836] at hS
    by_cases c838 : (x16 &&& (63 : Int32)) = (6 : Int32)
    · rw [if_pos c838] at hS
      refine ev_tabI (t := 466) (off := 426) pm1 i1_40 rfl (6 : Int32) c838 (by decide) rfl rfl ?_
      refine ev_aload_n pm1 i1_466 rfl rfl rfl ?_
      refine ev_aload_n pm1 i1_467 rfl rfl rfl ?_
      refine ev_iload pm1 i1_468 rfl rfl rfl ?_
      refine ev_iconst (v := 1) pm1 i1_470 rfl (by decide) rfl ?_
      refine ev_b2 (f := fun x y => x + y) pm1 i1_471 rfl (fun _ _ _ _ => rfl) rfl ?_
      obtain ⟨x92, e93, hS⟩ := bn_s hS
      refine ev_iald pm1 i1_472 rfl e93 rfl ?_
      refine ev_aload_n pm1 i1_473 rfl rfl rfl ?_
      refine ev_iload pm1 i1_474 rfl rfl rfl ?_
      refine ev_iconst (v := 2) pm1 i1_476 rfl (by decide) rfl ?_
      refine ev_b2 (f := fun x y => x + y) pm1 i1_477 rfl (fun _ _ _ _ => rfl) rfl ?_
      obtain ⟨x94, e95, hS⟩ := bn_s hS
      refine ev_iald pm1 i1_478 rfl e95 rfl ?_
      obtain ⟨x97, h98, e96, hS⟩ := bd_s hS
      refine ev_callV (sa := [.int x94, .int x92]) (rest := []) (st' := [.int x97]) (ls0 := [.ref l1, .int x92, .int x94]) (rv := some (.int x97)) pm1 i1_479 rfl rfl pm80 (by decide) (K_cs_guest e96) rfl rfl (Nat.le_of_ble_eq_true rfl) (by omega) rfl (R_cs_guest (d - 1) (by omega) e96) (by simp) rfl rfl ?_
      refine ev_aload_n pm1 i1_482 rfl rfl rfl ?_
      refine ev_aload_n pm1 i1_483 rfl rfl rfl ?_
      refine ev_iload pm1 i1_484 rfl rfl rfl ?_
      refine ev_iconst (v := 1) pm1 i1_486 rfl (by decide) rfl ?_
      refine ev_b2 (f := fun x y => x + y) pm1 i1_487 rfl (fun _ _ _ _ => rfl) rfl ?_
      obtain ⟨x99, e100, hS⟩ := bn_s hS
      refine ev_iald pm1 i1_488 rfl e100 rfl ?_
      refine ev_aload_n pm1 i1_489 rfl rfl rfl ?_
      refine ev_iload pm1 i1_490 rfl rfl rfl ?_
      refine ev_iconst (v := 2) pm1 i1_492 rfl (by decide) rfl ?_
      refine ev_b2 (f := fun x y => x + y) pm1 i1_493 rfl (fun _ _ _ _ => rfl) rfl ?_
      obtain ⟨x101, e102, hS⟩ := bn_s hS
      refine ev_iald pm1 i1_494 rfl e102 rfl ?_
      obtain ⟨x104, h105, e103, hS⟩ := bd_s hS
      refine ev_callV (sa := [.int x101, .int x99]) (rest := [.int x97]) (st' := [.int x104, .int x97]) (ls0 := [.ref l2, .int x99, .int x101]) (rv := some (.int x104)) pm1 i1_495 rfl rfl pm241 (by decide) (K_md_guest e103) rfl rfl (Nat.le_of_ble_eq_true rfl) (by omega) rfl (R_md_guest (d - 1) (by omega) e103) (by simp) rfl rfl ?_
      by_cases c839 : x97 = x104
      · rw [if_pos c839] at hS
        refine ev_icmp_eq_t (t := 1783) pm1 i1_498 rfl c839 rfl rfl ?_
        refine ev_iinc (v := 6) (ls' := [.ref l0, .ref l1, .ref l2, .ref l3, .int (s + (6 : Int32)), unk, unk]) pm1 i1_1783 rfl rfl (by decide) rfl rfl ?_
        refine ev_goto (t := 23) pm1 i1_1786 rfl rfl ?_
        cases hS
        exact hK
      · rw [if_neg c839] at hS
        refine ev_icmp_eq_f (t := 1783) pm1 i1_498 rfl c839 rfl rfl ?_
        refine ev_iconst (v := 0) pm1 i1_501 rfl (by decide) rfl ?_
        cases hS
        exact ev_ireturn pm1 i1_502 rfl (by decide) hK
    rw [if_neg c838] at hS
    by_cases c840 : (x16 &&& (63 : Int32)) = (7 : Int32)
    · rw [if_pos c840] at hS
      refine ev_tabI (t := 503) (off := 463) pm1 i1_40 rfl (7 : Int32) c840 (by decide) rfl rfl ?_
      refine ev_aload_n pm1 i1_503 rfl rfl rfl ?_
      refine ev_aload_n pm1 i1_504 rfl rfl rfl ?_
      refine ev_iload pm1 i1_505 rfl rfl rfl ?_
      refine ev_iconst (v := 1) pm1 i1_507 rfl (by decide) rfl ?_
      refine ev_b2 (f := fun x y => x + y) pm1 i1_508 rfl (fun _ _ _ _ => rfl) rfl ?_
      obtain ⟨x106, e107, hS⟩ := bn_s hS
      refine ev_iald pm1 i1_509 rfl e107 rfl ?_
      refine ev_aload_n pm1 i1_510 rfl rfl rfl ?_
      refine ev_iload pm1 i1_511 rfl rfl rfl ?_
      refine ev_iconst (v := 2) pm1 i1_513 rfl (by decide) rfl ?_
      refine ev_b2 (f := fun x y => x + y) pm1 i1_514 rfl (fun _ _ _ _ => rfl) rfl ?_
      obtain ⟨x108, e109, hS⟩ := bn_s hS
      refine ev_iald pm1 i1_515 rfl e109 rfl ?_
      obtain ⟨x111, h112, e110, hS⟩ := bd_s hS
      refine ev_callV (sa := [.int x108, .int x106]) (rest := []) (st' := [.int x111]) (ls0 := [.ref l1, .int x106, .int x108]) (rv := some (.int x111)) pm1 i1_516 rfl rfl pm82 (by decide) (K_cs_rope e110) rfl rfl (Nat.le_of_ble_eq_true rfl) (by omega) rfl (R_cs_rope (d - 1) (by omega) e110) (by simp) rfl rfl ?_
      refine ev_aload_n pm1 i1_519 rfl rfl rfl ?_
      refine ev_aload_n pm1 i1_520 rfl rfl rfl ?_
      refine ev_iload pm1 i1_521 rfl rfl rfl ?_
      refine ev_iconst (v := 1) pm1 i1_523 rfl (by decide) rfl ?_
      refine ev_b2 (f := fun x y => x + y) pm1 i1_524 rfl (fun _ _ _ _ => rfl) rfl ?_
      obtain ⟨x113, e114, hS⟩ := bn_s hS
      refine ev_iald pm1 i1_525 rfl e114 rfl ?_
      refine ev_aload_n pm1 i1_526 rfl rfl rfl ?_
      refine ev_iload pm1 i1_527 rfl rfl rfl ?_
      refine ev_iconst (v := 2) pm1 i1_529 rfl (by decide) rfl ?_
      refine ev_b2 (f := fun x y => x + y) pm1 i1_530 rfl (fun _ _ _ _ => rfl) rfl ?_
      obtain ⟨x115, e116, hS⟩ := bn_s hS
      refine ev_iald pm1 i1_531 rfl e116 rfl ?_
      obtain ⟨x118, h119, e117, hS⟩ := bd_s hS
      refine ev_callV (sa := [.int x115, .int x113]) (rest := [.int x111]) (st' := [.int x118, .int x111]) (ls0 := [.ref l2, .int x113, .int x115]) (rv := some (.int x118)) pm1 i1_532 rfl rfl pm243 (by decide) (K_md_rope e117) rfl rfl (Nat.le_of_ble_eq_true rfl) (by omega) rfl (R_md_rope (d - 1) (by omega) e117) (by simp) rfl rfl ?_
      by_cases c841 : x111 = x118
      · rw [if_pos c841] at hS
        refine ev_icmp_eq_t (t := 1783) pm1 i1_535 rfl c841 rfl rfl ?_
        refine ev_iinc (v := 6) (ls' := [.ref l0, .ref l1, .ref l2, .ref l3, .int (s + (6 : Int32)), unk, unk]) pm1 i1_1783 rfl rfl (by decide) rfl rfl ?_
        refine ev_goto (t := 23) pm1 i1_1786 rfl rfl ?_
        cases hS
        exact hK
      · rw [if_neg c841] at hS
        refine ev_icmp_eq_f (t := 1783) pm1 i1_535 rfl c841 rfl rfl ?_
        refine ev_iconst (v := 0) pm1 i1_538 rfl (by decide) rfl ?_
        cases hS
        exact ev_ireturn pm1 i1_539 rfl (by decide) hK
    rw [if_neg c840] at hS
    by_cases c842 : (x16 &&& (63 : Int32)) = (8 : Int32)
    · rw [if_pos c842] at hS
      refine ev_tabI (t := 540) (off := 500) pm1 i1_40 rfl (8 : Int32) c842 (by decide) rfl rfl ?_
      refine ev_aload_n pm1 i1_540 rfl rfl rfl ?_
      obtain ⟨x121, h122, e120, hS⟩ := bd_s hS
      refine ev_callV (sa := []) (rest := []) (st' := [.int x121]) (ls0 := [.ref l1]) (rv := some (.int x121)) pm1 i1_541 rfl rfl pm85 (by decide) (K_cs_under e120) rfl rfl (Nat.le_of_ble_eq_true rfl) (by omega) rfl (R_cs_under (d - 1) (by omega) e120) (by simp) rfl rfl ?_
      refine ev_aload_n pm1 i1_544 rfl rfl rfl ?_
      obtain ⟨x124, h125, e123, hS⟩ := bd_s hS
      refine ev_callV (sa := []) (rest := [.int x121]) (st' := [.int x124, .int x121]) (ls0 := [.ref l2]) (rv := some (.int x124)) pm1 i1_545 rfl rfl pm245 (by decide) (K_md_under e123) rfl rfl (Nat.le_of_ble_eq_true rfl) (by omega) rfl (R_md_under (d - 1) (by omega) e123) (by simp) rfl rfl ?_
      by_cases c843 : x121 = x124
      · rw [if_pos c843] at hS
        refine ev_icmp_eq_t (t := 1783) pm1 i1_548 rfl c843 rfl rfl ?_
        refine ev_iinc (v := 6) (ls' := [.ref l0, .ref l1, .ref l2, .ref l3, .int (s + (6 : Int32)), unk, unk]) pm1 i1_1783 rfl rfl (by decide) rfl rfl ?_
        refine ev_goto (t := 23) pm1 i1_1786 rfl rfl ?_
        cases hS
        exact hK
      · rw [if_neg c843] at hS
        refine ev_icmp_eq_f (t := 1783) pm1 i1_548 rfl c843 rfl rfl ?_
        refine ev_iconst (v := 0) pm1 i1_551 rfl (by decide) rfl ?_
        cases hS
        exact ev_ireturn pm1 i1_552 rfl (by decide) hK
    rw [if_neg c842] at hS
    by_cases c844 : (x16 &&& (63 : Int32)) = (9 : Int32)
    · rw [if_pos c844] at hS
      refine ev_tabI (t := 553) (off := 513) pm1 i1_40 rfl (9 : Int32) c844 (by decide) rfl rfl ?_
      refine ev_aload_n pm1 i1_553 rfl rfl rfl ?_
      obtain ⟨x127, h128, e126, hS⟩ := bd_s hS
      refine ev_callV (sa := []) (rest := []) (st' := [.int x127]) (ls0 := [.ref l1]) (rv := some (.int x127)) pm1 i1_554 rfl rfl pm88 (by decide) (K_cs_lowest e126) rfl rfl (Nat.le_of_ble_eq_true rfl) (by omega) rfl (R_cs_lowest (d - 1) (by omega) e126) (by simp) rfl rfl ?_
      refine ev_aload_n pm1 i1_557 rfl rfl rfl ?_
      obtain ⟨x130, h131, e129, hS⟩ := bd_s hS
      refine ev_callV (sa := []) (rest := [.int x127]) (st' := [.int x130, .int x127]) (ls0 := [.ref l2]) (rv := some (.int x130)) pm1 i1_558 rfl rfl pm247 (by decide) (K_md_lowest e129) rfl rfl (Nat.le_of_ble_eq_true rfl) (by omega) rfl (R_md_lowest (d - 1) (by omega) e129) (by simp) rfl rfl ?_
      by_cases c845 : x127 = x130
      · rw [if_pos c845] at hS
        refine ev_icmp_eq_t (t := 1783) pm1 i1_561 rfl c845 rfl rfl ?_
        refine ev_iinc (v := 6) (ls' := [.ref l0, .ref l1, .ref l2, .ref l3, .int (s + (6 : Int32)), unk, unk]) pm1 i1_1783 rfl rfl (by decide) rfl rfl ?_
        refine ev_goto (t := 23) pm1 i1_1786 rfl rfl ?_
        cases hS
        exact hK
      · rw [if_neg c845] at hS
        refine ev_icmp_eq_f (t := 1783) pm1 i1_561 rfl c845 rfl rfl ?_
        refine ev_iconst (v := 0) pm1 i1_564 rfl (by decide) rfl ?_
        cases hS
        exact ev_ireturn pm1 i1_565 rfl (by decide) hK
    rw [if_neg c844] at hS
    by_cases c846 : (x16 &&& (63 : Int32)) = (10 : Int32)
    · rw [if_pos c846] at hS
      refine ev_tabI (t := 566) (off := 526) pm1 i1_40 rfl (10 : Int32) c846 (by decide) rfl rfl ?_
      refine ev_aload_n pm1 i1_566 rfl rfl rfl ?_
      obtain ⟨x133, h134, e132, hS⟩ := bd_s hS
      refine ev_callV (sa := []) (rest := []) (st' := [.int x133]) (ls0 := [.ref l1]) (rv := some (.int x133)) pm1 i1_567 rfl rfl pm90 (by decide) (K_cs_rafts e132) rfl rfl (Nat.le_of_ble_eq_true rfl) (by omega) rfl (R_cs_rafts (d - 1) (by omega) e132) (by simp) rfl rfl ?_
      refine ev_aload_n pm1 i1_570 rfl rfl rfl ?_
      obtain ⟨x136, h137, e135, hS⟩ := bd_s hS
      refine ev_callV (sa := []) (rest := [.int x133]) (st' := [.int x136, .int x133]) (ls0 := [.ref l2, unk, unk]) (rv := some (.int x136)) pm1 i1_571 rfl rfl pm249 (by decide) (K_md_rafts e135) rfl rfl (Nat.le_of_ble_eq_true rfl) (by omega) rfl (R_md_rafts (d - 1) (by omega) e135) (by simp) rfl rfl ?_
      by_cases c847 : x133 = x136
      · rw [if_pos c847] at hS
        refine ev_icmp_eq_t (t := 1783) pm1 i1_574 rfl c847 rfl rfl ?_
        refine ev_iinc (v := 6) (ls' := [.ref l0, .ref l1, .ref l2, .ref l3, .int (s + (6 : Int32)), unk, unk]) pm1 i1_1783 rfl rfl (by decide) rfl rfl ?_
        refine ev_goto (t := 23) pm1 i1_1786 rfl rfl ?_
        cases hS
        exact hK
      · rw [if_neg c847] at hS
        refine ev_icmp_eq_f (t := 1783) pm1 i1_574 rfl c847 rfl rfl ?_
        refine ev_iconst (v := 0) pm1 i1_577 rfl (by decide) rfl ?_
        cases hS
        exact ev_ireturn pm1 i1_578 rfl (by decide) hK
    rw [if_neg c846] at hS
    by_cases c848 : (x16 &&& (63 : Int32)) = (11 : Int32)
    · rw [if_pos c848] at hS
      refine ev_tabI (t := 579) (off := 539) pm1 i1_40 rfl (11 : Int32) c848 (by decide) rfl rfl ?_
      refine ev_aload_n pm1 i1_579 rfl rfl rfl ?_
      refine ev_aload_n pm1 i1_580 rfl rfl rfl ?_
      refine ev_iload pm1 i1_581 rfl rfl rfl ?_
      refine ev_iconst (v := 1) pm1 i1_583 rfl (by decide) rfl ?_
      refine ev_b2 (f := fun x y => x + y) pm1 i1_584 rfl (fun _ _ _ _ => rfl) rfl ?_
      obtain ⟨x138, e139, hS⟩ := bn_s hS
      refine ev_iald pm1 i1_585 rfl e139 rfl ?_
      obtain ⟨x141, h142, e140, hS⟩ := bd_s hS
      refine ev_callV (sa := [.int x138]) (rest := []) (st' := [.int x141]) (ls0 := [.ref l1, .int x138]) (rv := some (.int x141)) pm1 i1_586 rfl rfl pm92 (by decide) (K_cs_tilt e140) rfl rfl (Nat.le_of_ble_eq_true rfl) (by omega) rfl (R_cs_tilt (d - 1) (by omega) e140) (by simp) rfl rfl ?_
      refine ev_aload_n pm1 i1_589 rfl rfl rfl ?_
      refine ev_aload_n pm1 i1_590 rfl rfl rfl ?_
      refine ev_iload pm1 i1_591 rfl rfl rfl ?_
      refine ev_iconst (v := 1) pm1 i1_593 rfl (by decide) rfl ?_
      refine ev_b2 (f := fun x y => x + y) pm1 i1_594 rfl (fun _ _ _ _ => rfl) rfl ?_
      obtain ⟨x143, e144, hS⟩ := bn_s hS
      refine ev_iald pm1 i1_595 rfl e144 rfl ?_
      obtain ⟨x146, h147, e145, hS⟩ := bd_s hS
      refine ev_callV (sa := [.int x143]) (rest := [.int x141]) (st' := [.int x146, .int x141]) (ls0 := [.ref l2, .int x143, unk, unk, unk, unk]) (rv := some (.int x146)) pm1 i1_596 rfl rfl pm250 (by decide) (K_md_tilt e145) rfl rfl (Nat.le_of_ble_eq_true rfl) (by omega) rfl (R_md_tilt (d - 1) (by omega) e145) (by simp) rfl rfl ?_
      by_cases c849 : x141 = x146
      · rw [if_pos c849] at hS
        refine ev_icmp_eq_t (t := 1783) pm1 i1_599 rfl c849 rfl rfl ?_
        refine ev_iinc (v := 6) (ls' := [.ref l0, .ref l1, .ref l2, .ref l3, .int (s + (6 : Int32)), unk, unk]) pm1 i1_1783 rfl rfl (by decide) rfl rfl ?_
        refine ev_goto (t := 23) pm1 i1_1786 rfl rfl ?_
        cases hS
        exact hK
      · rw [if_neg c849] at hS
        refine ev_icmp_eq_f (t := 1783) pm1 i1_599 rfl c849 rfl rfl ?_
        refine ev_iconst (v := 0) pm1 i1_602 rfl (by decide) rfl ?_
        cases hS
        exact ev_ireturn pm1 i1_603 rfl (by decide) hK
    rw [if_neg c848] at hS
    by_cases c850 : (x16 &&& (63 : Int32)) = (12 : Int32)
    · rw [if_pos c850] at hS
      refine ev_tabI (t := 604) (off := 564) pm1 i1_40 rfl (12 : Int32) c850 (by decide) rfl rfl ?_
      refine ev_aload_n pm1 i1_604 rfl rfl rfl ?_
      refine ev_aload_n pm1 i1_605 rfl rfl rfl ?_
      refine ev_iload pm1 i1_606 rfl rfl rfl ?_
      refine ev_iconst (v := 1) pm1 i1_608 rfl (by decide) rfl ?_
      refine ev_b2 (f := fun x y => x + y) pm1 i1_609 rfl (fun _ _ _ _ => rfl) rfl ?_
      obtain ⟨x148, e149, hS⟩ := bn_s hS
      refine ev_iald pm1 i1_610 rfl e149 rfl ?_
      refine ev_aload_n pm1 i1_611 rfl rfl rfl ?_
      refine ev_iload pm1 i1_612 rfl rfl rfl ?_
      refine ev_iconst (v := 2) pm1 i1_614 rfl (by decide) rfl ?_
      refine ev_b2 (f := fun x y => x + y) pm1 i1_615 rfl (fun _ _ _ _ => rfl) rfl ?_
      obtain ⟨x150, e151, hS⟩ := bn_s hS
      refine ev_iald pm1 i1_616 rfl e151 rfl ?_
      obtain ⟨x153, h154, e152, hS⟩ := bd_s hS
      refine ev_callV (sa := [.int x150, .int x148]) (rest := []) (st' := [.int x153]) (ls0 := [.ref l1, .int x148, .int x150]) (rv := some (.int x153)) pm1 i1_617 rfl rfl pm94 (by decide) (K_cs_heightIn e152) rfl rfl (Nat.le_of_ble_eq_true rfl) (by omega) rfl (R_cs_heightIn (d - 1) (by omega) e152) (by simp) rfl rfl ?_
      refine ev_aload_n pm1 i1_620 rfl rfl rfl ?_
      refine ev_aload_n pm1 i1_621 rfl rfl rfl ?_
      refine ev_iload pm1 i1_622 rfl rfl rfl ?_
      refine ev_iconst (v := 1) pm1 i1_624 rfl (by decide) rfl ?_
      refine ev_b2 (f := fun x y => x + y) pm1 i1_625 rfl (fun _ _ _ _ => rfl) rfl ?_
      obtain ⟨x155, e156, hS⟩ := bn_s hS
      refine ev_iald pm1 i1_626 rfl e156 rfl ?_
      refine ev_aload_n pm1 i1_627 rfl rfl rfl ?_
      refine ev_iload pm1 i1_628 rfl rfl rfl ?_
      refine ev_iconst (v := 2) pm1 i1_630 rfl (by decide) rfl ?_
      refine ev_b2 (f := fun x y => x + y) pm1 i1_631 rfl (fun _ _ _ _ => rfl) rfl ?_
      obtain ⟨x157, e158, hS⟩ := bn_s hS
      refine ev_iald pm1 i1_632 rfl e158 rfl ?_
      obtain ⟨x160, h161, e159, hS⟩ := bd_s hS
      refine ev_callV (sa := [.int x157, .int x155]) (rest := [.int x153]) (st' := [.int x160, .int x153]) (ls0 := [.ref l2, .int x155, .int x157, unk]) (rv := some (.int x160)) pm1 i1_633 rfl rfl pm251 (by decide) (K_md_heightIn e159) rfl rfl (Nat.le_of_ble_eq_true rfl) (by omega) rfl (R_md_heightIn (d - 1) (by omega) e159) (by simp) rfl rfl ?_
      by_cases c851 : x153 = x160
      · rw [if_pos c851] at hS
        refine ev_icmp_eq_t (t := 1783) pm1 i1_636 rfl c851 rfl rfl ?_
        refine ev_iinc (v := 6) (ls' := [.ref l0, .ref l1, .ref l2, .ref l3, .int (s + (6 : Int32)), unk, unk]) pm1 i1_1783 rfl rfl (by decide) rfl rfl ?_
        refine ev_goto (t := 23) pm1 i1_1786 rfl rfl ?_
        cases hS
        exact hK
      · rw [if_neg c851] at hS
        refine ev_icmp_eq_f (t := 1783) pm1 i1_636 rfl c851 rfl rfl ?_
        refine ev_iconst (v := 0) pm1 i1_639 rfl (by decide) rfl ?_
        cases hS
        exact ev_ireturn pm1 i1_640 rfl (by decide) hK
    rw [if_neg c850] at hS
    by_cases c852 : (x16 &&& (63 : Int32)) = (13 : Int32)
    · rw [if_pos c852] at hS
      refine ev_tabI (t := 641) (off := 601) pm1 i1_40 rfl (13 : Int32) c852 (by decide) rfl rfl ?_
      refine ev_aload_n pm1 i1_641 rfl rfl rfl ?_
      refine ev_aload_n pm1 i1_642 rfl rfl rfl ?_
      refine ev_iload pm1 i1_643 rfl rfl rfl ?_
      refine ev_iconst (v := 1) pm1 i1_645 rfl (by decide) rfl ?_
      refine ev_b2 (f := fun x y => x + y) pm1 i1_646 rfl (fun _ _ _ _ => rfl) rfl ?_
      obtain ⟨x162, e163, hS⟩ := bn_s hS
      refine ev_iald pm1 i1_647 rfl e163 rfl ?_
      obtain ⟨x165, h166, e164, hS⟩ := bd_s hS
      refine ev_callV (sa := [.int x162]) (rest := []) (st' := [.int x165]) (ls0 := [.ref l1, .int x162]) (rv := some (.int x165)) pm1 i1_648 rfl rfl pm99 (by decide) (K_cs_underIn e164) rfl rfl (Nat.le_of_ble_eq_true rfl) (by omega) rfl (R_cs_underIn (d - 1) (by omega) e164) (by simp) rfl rfl ?_
      refine ev_aload_n pm1 i1_651 rfl rfl rfl ?_
      refine ev_aload_n pm1 i1_652 rfl rfl rfl ?_
      refine ev_iload pm1 i1_653 rfl rfl rfl ?_
      refine ev_iconst (v := 1) pm1 i1_655 rfl (by decide) rfl ?_
      refine ev_b2 (f := fun x y => x + y) pm1 i1_656 rfl (fun _ _ _ _ => rfl) rfl ?_
      obtain ⟨x167, e168, hS⟩ := bn_s hS
      refine ev_iald pm1 i1_657 rfl e168 rfl ?_
      obtain ⟨x170, h171, e169, hS⟩ := bd_s hS
      refine ev_callV (sa := [.int x167]) (rest := [.int x165]) (st' := [.int x170, .int x165]) (ls0 := [.ref l2, .int x167, unk]) (rv := some (.int x170)) pm1 i1_658 rfl rfl pm255 (by decide) (K_md_underIn e169) rfl rfl (Nat.le_of_ble_eq_true rfl) (by omega) rfl (R_md_underIn (d - 1) (by omega) e169) (by simp) rfl rfl ?_
      by_cases c853 : x165 = x170
      · rw [if_pos c853] at hS
        refine ev_icmp_eq_t (t := 1783) pm1 i1_661 rfl c853 rfl rfl ?_
        refine ev_iinc (v := 6) (ls' := [.ref l0, .ref l1, .ref l2, .ref l3, .int (s + (6 : Int32)), unk, unk]) pm1 i1_1783 rfl rfl (by decide) rfl rfl ?_
        refine ev_goto (t := 23) pm1 i1_1786 rfl rfl ?_
        cases hS
        exact hK
      · rw [if_neg c853] at hS
        refine ev_icmp_eq_f (t := 1783) pm1 i1_661 rfl c853 rfl rfl ?_
        refine ev_iconst (v := 0) pm1 i1_664 rfl (by decide) rfl ?_
        cases hS
        exact ev_ireturn pm1 i1_665 rfl (by decide) hK
    rw [if_neg c852] at hS
    by_cases c854 : (x16 &&& (63 : Int32)) = (14 : Int32)
    · rw [if_pos c854] at hS
      refine ev_tabI (t := 666) (off := 626) pm1 i1_40 rfl (14 : Int32) c854 (by decide) rfl rfl ?_
      refine ev_aload_n pm1 i1_666 rfl rfl rfl ?_
      refine ev_aload_n pm1 i1_667 rfl rfl rfl ?_
      refine ev_iload pm1 i1_668 rfl rfl rfl ?_
      refine ev_iconst (v := 1) pm1 i1_670 rfl (by decide) rfl ?_
      refine ev_b2 (f := fun x y => x + y) pm1 i1_671 rfl (fun _ _ _ _ => rfl) rfl ?_
      obtain ⟨x172, e173, hS⟩ := bn_s hS
      refine ev_iald pm1 i1_672 rfl e173 rfl ?_
      obtain ⟨x175, h176, e174, hS⟩ := bd_s hS
      refine ev_callV (sa := [.int x172]) (rest := []) (st' := [.int x175]) (ls0 := [.ref l1, .int x172, unk]) (rv := some (.int x175)) pm1 i1_673 rfl rfl pm100 (by decide) (K_cs_sinks e174) rfl rfl (Nat.le_of_ble_eq_true rfl) (by omega) rfl (R_cs_sinks (d - 1) (by omega) e174) (by simp) rfl rfl ?_
      refine ev_aload_n pm1 i1_676 rfl rfl rfl ?_
      refine ev_aload_n pm1 i1_677 rfl rfl rfl ?_
      refine ev_iload pm1 i1_678 rfl rfl rfl ?_
      refine ev_iconst (v := 1) pm1 i1_680 rfl (by decide) rfl ?_
      refine ev_b2 (f := fun x y => x + y) pm1 i1_681 rfl (fun _ _ _ _ => rfl) rfl ?_
      obtain ⟨x177, e178, hS⟩ := bn_s hS
      refine ev_iald pm1 i1_682 rfl e178 rfl ?_
      obtain ⟨x180, h181, e179, hS⟩ := bd_s hS
      refine ev_callV (sa := [.int x177]) (rest := [.int x175]) (st' := [.int x180, .int x175]) (ls0 := [.ref l2, .int x177, unk]) (rv := some (.int x180)) pm1 i1_683 rfl rfl pm256 (by decide) (K_md_sinks e179) rfl rfl (Nat.le_of_ble_eq_true rfl) (by omega) rfl (R_md_sinks (d - 1) (by omega) e179) (by simp) rfl rfl ?_
      by_cases c855 : x175 = x180
      · rw [if_pos c855] at hS
        refine ev_icmp_eq_t (t := 1783) pm1 i1_686 rfl c855 rfl rfl ?_
        refine ev_iinc (v := 6) (ls' := [.ref l0, .ref l1, .ref l2, .ref l3, .int (s + (6 : Int32)), unk, unk]) pm1 i1_1783 rfl rfl (by decide) rfl rfl ?_
        refine ev_goto (t := 23) pm1 i1_1786 rfl rfl ?_
        cases hS
        exact hK
      · rw [if_neg c855] at hS
        refine ev_icmp_eq_f (t := 1783) pm1 i1_686 rfl c855 rfl rfl ?_
        refine ev_iconst (v := 0) pm1 i1_689 rfl (by decide) rfl ?_
        cases hS
        exact ev_ireturn pm1 i1_690 rfl (by decide) hK
    rw [if_neg c854] at hS
    by_cases c856 : (x16 &&& (63 : Int32)) = (15 : Int32)
    · rw [if_pos c856] at hS
      refine ev_tabI (t := 691) (off := 651) pm1 i1_40 rfl (15 : Int32) c856 (by decide) rfl rfl ?_
      refine ev_aload_n pm1 i1_691 rfl rfl rfl ?_
      obtain ⟨x183, h184, e182, hS⟩ := bd_s hS
      refine ev_callV (sa := []) (rest := []) (st' := [.int x183]) (ls0 := [.ref l1, unk]) (rv := some (.int x183)) pm1 i1_692 rfl rfl pm101 (by decide) (K_cs_wetFeast e182) rfl rfl (Nat.le_of_ble_eq_true rfl) (by omega) rfl (R_cs_wetFeast (d - 1) (by omega) e182) (by simp) rfl rfl ?_
      refine ev_aload_n pm1 i1_695 rfl rfl rfl ?_
      obtain ⟨x186, h187, e185, hS⟩ := bd_s hS
      refine ev_callV (sa := []) (rest := [.int x183]) (st' := [.int x186, .int x183]) (ls0 := [.ref l2, unk]) (rv := some (.int x186)) pm1 i1_696 rfl rfl pm257 (by decide) (K_md_wetFeast e185) rfl rfl (Nat.le_of_ble_eq_true rfl) (by omega) rfl (R_md_wetFeast (d - 1) (by omega) e185) (by simp) rfl rfl ?_
      by_cases c857 : x183 = x186
      · rw [if_pos c857] at hS
        refine ev_icmp_eq_t (t := 1783) pm1 i1_699 rfl c857 rfl rfl ?_
        refine ev_iinc (v := 6) (ls' := [.ref l0, .ref l1, .ref l2, .ref l3, .int (s + (6 : Int32)), unk, unk]) pm1 i1_1783 rfl rfl (by decide) rfl rfl ?_
        refine ev_goto (t := 23) pm1 i1_1786 rfl rfl ?_
        cases hS
        exact hK
      · rw [if_neg c857] at hS
        refine ev_icmp_eq_f (t := 1783) pm1 i1_699 rfl c857 rfl rfl ?_
        refine ev_iconst (v := 0) pm1 i1_702 rfl (by decide) rfl ?_
        cases hS
        exact ev_ireturn pm1 i1_703 rfl (by decide) hK
    rw [if_neg c856] at hS
    by_cases c858 : (x16 &&& (63 : Int32)) = (16 : Int32)
    · rw [if_pos c858] at hS
      refine ev_tabI (t := 704) (off := 664) pm1 i1_40 rfl (16 : Int32) c858 (by decide) rfl rfl ?_
      refine ev_aload_n pm1 i1_704 rfl rfl rfl ?_
      refine ev_aload_n pm1 i1_705 rfl rfl rfl ?_
      refine ev_iload pm1 i1_706 rfl rfl rfl ?_
      refine ev_iconst (v := 1) pm1 i1_708 rfl (by decide) rfl ?_
      refine ev_b2 (f := fun x y => x + y) pm1 i1_709 rfl (fun _ _ _ _ => rfl) rfl ?_
      obtain ⟨x188, e189, hS⟩ := bn_s hS
      refine ev_iald pm1 i1_710 rfl e189 rfl ?_
      refine ev_aload_n pm1 i1_711 rfl rfl rfl ?_
      refine ev_iload pm1 i1_712 rfl rfl rfl ?_
      refine ev_iconst (v := 2) pm1 i1_714 rfl (by decide) rfl ?_
      refine ev_b2 (f := fun x y => x + y) pm1 i1_715 rfl (fun _ _ _ _ => rfl) rfl ?_
      obtain ⟨x190, e191, hS⟩ := bn_s hS
      refine ev_iald pm1 i1_716 rfl e191 rfl ?_
      refine ev_aload_n pm1 i1_717 rfl rfl rfl ?_
      refine ev_iload pm1 i1_718 rfl rfl rfl ?_
      refine ev_iconst (v := 3) pm1 i1_720 rfl (by decide) rfl ?_
      refine ev_b2 (f := fun x y => x + y) pm1 i1_721 rfl (fun _ _ _ _ => rfl) rfl ?_
      obtain ⟨x192, e193, hS⟩ := bn_s hS
      refine ev_iald pm1 i1_722 rfl e193 rfl ?_
      obtain ⟨x195, h196, e194, hS⟩ := bd_s hS
      refine ev_callV (sa := [.int x192, .int x190, .int x188]) (rest := []) (st' := [.int x195]) (ls0 := [.ref l1, .int x188, .int x190, .int x192, unk, unk, unk]) (rv := some (.int x195)) pm1 i1_723 rfl rfl pm102 (by decide) (K_cs_aunt e194) rfl rfl (Nat.le_of_ble_eq_true rfl) (by omega) rfl (R_cs_aunt (d - 1) (by omega) e194) (by simp) rfl rfl ?_
      refine ev_aload_n pm1 i1_726 rfl rfl rfl ?_
      refine ev_aload_n pm1 i1_727 rfl rfl rfl ?_
      refine ev_iload pm1 i1_728 rfl rfl rfl ?_
      refine ev_iconst (v := 1) pm1 i1_730 rfl (by decide) rfl ?_
      refine ev_b2 (f := fun x y => x + y) pm1 i1_731 rfl (fun _ _ _ _ => rfl) rfl ?_
      obtain ⟨x197, e198, hS⟩ := bn_s hS
      refine ev_iald pm1 i1_732 rfl e198 rfl ?_
      refine ev_aload_n pm1 i1_733 rfl rfl rfl ?_
      refine ev_iload pm1 i1_734 rfl rfl rfl ?_
      refine ev_iconst (v := 2) pm1 i1_736 rfl (by decide) rfl ?_
      refine ev_b2 (f := fun x y => x + y) pm1 i1_737 rfl (fun _ _ _ _ => rfl) rfl ?_
      obtain ⟨x199, e200, hS⟩ := bn_s hS
      refine ev_iald pm1 i1_738 rfl e200 rfl ?_
      refine ev_aload_n pm1 i1_739 rfl rfl rfl ?_
      refine ev_iload pm1 i1_740 rfl rfl rfl ?_
      refine ev_iconst (v := 3) pm1 i1_742 rfl (by decide) rfl ?_
      refine ev_b2 (f := fun x y => x + y) pm1 i1_743 rfl (fun _ _ _ _ => rfl) rfl ?_
      obtain ⟨x201, e202, hS⟩ := bn_s hS
      refine ev_iald pm1 i1_744 rfl e202 rfl ?_
      obtain ⟨x204, h205, e203, hS⟩ := bd_s hS
      refine ev_callV (sa := [.int x201, .int x199, .int x197]) (rest := [.int x195]) (st' := [.int x204, .int x195]) (ls0 := [.ref l2, .int x197, .int x199, .int x201, unk, unk]) (rv := some (.int x204)) pm1 i1_745 rfl rfl pm259 (by decide) (K_md_aunt e203) rfl rfl (Nat.le_of_ble_eq_true rfl) (by omega) rfl (R_md_aunt (d - 1) (by omega) e203) (by simp) rfl rfl ?_
      by_cases c859 : x195 = x204
      · rw [if_pos c859] at hS
        refine ev_icmp_eq_t (t := 1783) pm1 i1_748 rfl c859 rfl rfl ?_
        refine ev_iinc (v := 6) (ls' := [.ref l0, .ref l1, .ref l2, .ref l3, .int (s + (6 : Int32)), unk, unk]) pm1 i1_1783 rfl rfl (by decide) rfl rfl ?_
        refine ev_goto (t := 23) pm1 i1_1786 rfl rfl ?_
        cases hS
        exact hK
      · rw [if_neg c859] at hS
        refine ev_icmp_eq_f (t := 1783) pm1 i1_748 rfl c859 rfl rfl ?_
        refine ev_iconst (v := 0) pm1 i1_751 rfl (by decide) rfl ?_
        cases hS
        exact ev_ireturn pm1 i1_752 rfl (by decide) hK
    rw [if_neg c858] at hS
    by_cases c860 : (x16 &&& (63 : Int32)) = (17 : Int32)
    · rw [if_pos c860] at hS
      refine ev_tabI (t := 753) (off := 713) pm1 i1_40 rfl (17 : Int32) c860 (by decide) rfl rfl ?_
      refine ev_aload_n pm1 i1_753 rfl rfl rfl ?_
      refine ev_aload_n pm1 i1_754 rfl rfl rfl ?_
      refine ev_iload pm1 i1_755 rfl rfl rfl ?_
      refine ev_iconst (v := 1) pm1 i1_757 rfl (by decide) rfl ?_
      refine ev_b2 (f := fun x y => x + y) pm1 i1_758 rfl (fun _ _ _ _ => rfl) rfl ?_
      obtain ⟨x206, e207, hS⟩ := bn_s hS
      refine ev_iald pm1 i1_759 rfl e207 rfl ?_
      obtain ⟨x209, h210, e208, hS⟩ := bd_s hS
      refine ev_callV (sa := [.int x206]) (rest := []) (st' := [.int x209]) (ls0 := [.ref l1, .int x206]) (rv := some (.int x209)) pm1 i1_760 rfl rfl pm104 (by decide) (K_cs_bestStay e208) rfl rfl (Nat.le_of_ble_eq_true rfl) (by omega) rfl (R_cs_bestStay (d - 1) (by omega) e208) (by simp) rfl rfl ?_
      refine ev_aload_n pm1 i1_763 rfl rfl rfl ?_
      refine ev_aload_n pm1 i1_764 rfl rfl rfl ?_
      refine ev_iload pm1 i1_765 rfl rfl rfl ?_
      refine ev_iconst (v := 1) pm1 i1_767 rfl (by decide) rfl ?_
      refine ev_b2 (f := fun x y => x + y) pm1 i1_768 rfl (fun _ _ _ _ => rfl) rfl ?_
      obtain ⟨x211, e212, hS⟩ := bn_s hS
      refine ev_iald pm1 i1_769 rfl e212 rfl ?_
      obtain ⟨x214, h215, e213, hS⟩ := bd_s hS
      refine ev_callV (sa := [.int x211]) (rest := [.int x209]) (st' := [.int x214, .int x209]) (ls0 := [.ref l2, .int x211]) (rv := some (.int x214)) pm1 i1_770 rfl rfl pm260 (by decide) (K_md_bestStay e213) rfl rfl (Nat.le_of_ble_eq_true rfl) (by omega) rfl (R_md_bestStay (d - 1) (by omega) e213) (by simp) rfl rfl ?_
      by_cases c861 : x209 = x214
      · rw [if_pos c861] at hS
        refine ev_icmp_eq_t (t := 1783) pm1 i1_773 rfl c861 rfl rfl ?_
        refine ev_iinc (v := 6) (ls' := [.ref l0, .ref l1, .ref l2, .ref l3, .int (s + (6 : Int32)), unk, unk]) pm1 i1_1783 rfl rfl (by decide) rfl rfl ?_
        refine ev_goto (t := 23) pm1 i1_1786 rfl rfl ?_
        cases hS
        exact hK
      · rw [if_neg c861] at hS
        refine ev_icmp_eq_f (t := 1783) pm1 i1_773 rfl c861 rfl rfl ?_
        refine ev_iconst (v := 0) pm1 i1_776 rfl (by decide) rfl ?_
        cases hS
        exact ev_ireturn pm1 i1_777 rfl (by decide) hK
    rw [if_neg c860] at hS
    by_cases c862 : (x16 &&& (63 : Int32)) = (18 : Int32)
    · rw [if_pos c862] at hS
      refine ev_tabI (t := 778) (off := 738) pm1 i1_40 rfl (18 : Int32) c862 (by decide) rfl rfl ?_
      refine ev_aload_n pm1 i1_778 rfl rfl rfl ?_
      refine ev_aload_n pm1 i1_779 rfl rfl rfl ?_
      refine ev_iload pm1 i1_780 rfl rfl rfl ?_
      refine ev_iconst (v := 1) pm1 i1_782 rfl (by decide) rfl ?_
      refine ev_b2 (f := fun x y => x + y) pm1 i1_783 rfl (fun _ _ _ _ => rfl) rfl ?_
      obtain ⟨x216, e217, hS⟩ := bn_s hS
      refine ev_iald pm1 i1_784 rfl e217 rfl ?_
      obtain ⟨x219, h220, e218, hS⟩ := bd_s hS
      refine ev_callV (sa := [.int x216]) (rest := []) (st' := [.int x219]) (ls0 := [.ref l1, .int x216]) (rv := some (.int x219)) pm1 i1_785 rfl rfl pm106 (by decide) (K_cs_bestMove e218) rfl rfl (Nat.le_of_ble_eq_true rfl) (by omega) rfl (R_cs_bestMove (d - 1) (by omega) e218) (by simp) rfl rfl ?_
      refine ev_aload_n pm1 i1_788 rfl rfl rfl ?_
      refine ev_aload_n pm1 i1_789 rfl rfl rfl ?_
      refine ev_iload pm1 i1_790 rfl rfl rfl ?_
      refine ev_iconst (v := 1) pm1 i1_792 rfl (by decide) rfl ?_
      refine ev_b2 (f := fun x y => x + y) pm1 i1_793 rfl (fun _ _ _ _ => rfl) rfl ?_
      obtain ⟨x221, e222, hS⟩ := bn_s hS
      refine ev_iald pm1 i1_794 rfl e222 rfl ?_
      obtain ⟨x224, h225, e223, hS⟩ := bd_s hS
      refine ev_callV (sa := [.int x221]) (rest := [.int x219]) (st' := [.int x224, .int x219]) (ls0 := [.ref l2, .int x221]) (rv := some (.int x224)) pm1 i1_795 rfl rfl pm262 (by decide) (K_md_bestMove e223) rfl rfl (Nat.le_of_ble_eq_true rfl) (by omega) rfl (R_md_bestMove (d - 1) (by omega) e223) (by simp) rfl rfl ?_
      by_cases c863 : x219 = x224
      · rw [if_pos c863] at hS
        refine ev_icmp_eq_t (t := 1783) pm1 i1_798 rfl c863 rfl rfl ?_
        refine ev_iinc (v := 6) (ls' := [.ref l0, .ref l1, .ref l2, .ref l3, .int (s + (6 : Int32)), unk, unk]) pm1 i1_1783 rfl rfl (by decide) rfl rfl ?_
        refine ev_goto (t := 23) pm1 i1_1786 rfl rfl ?_
        cases hS
        exact hK
      · rw [if_neg c863] at hS
        refine ev_icmp_eq_f (t := 1783) pm1 i1_798 rfl c863 rfl rfl ?_
        refine ev_iconst (v := 0) pm1 i1_801 rfl (by decide) rfl ?_
        cases hS
        exact ev_ireturn pm1 i1_802 rfl (by decide) hK
    rw [if_neg c862] at hS
    by_cases c864 : (x16 &&& (63 : Int32)) = (19 : Int32)
    · rw [if_pos c864] at hS
      refine ev_tabI (t := 803) (off := 763) pm1 i1_40 rfl (19 : Int32) c864 (by decide) rfl rfl ?_
      refine ev_aload_n pm1 i1_803 rfl rfl rfl ?_
      obtain ⟨x227, h228, e226, hS⟩ := bd_s hS
      refine ev_callV (sa := []) (rest := []) (st' := [.int x227]) (ls0 := [.ref l1, unk, unk, unk, unk]) (rv := some (.int x227)) pm1 i1_804 rfl rfl pm107 (by decide) (K_cs_bestCut e226) rfl rfl (Nat.le_of_ble_eq_true rfl) (by omega) rfl (R_cs_bestCut (d - 1) (by omega) e226) (by simp) rfl rfl ?_
      refine ev_aload_n pm1 i1_807 rfl rfl rfl ?_
      obtain ⟨x230, h231, e229, hS⟩ := bd_s hS
      refine ev_callV (sa := []) (rest := [.int x227]) (st' := [.int x230, .int x227]) (ls0 := [.ref l2, unk, unk, unk]) (rv := some (.int x230)) pm1 i1_808 rfl rfl pm263 (by decide) (K_md_bestCut e229) rfl rfl (Nat.le_of_ble_eq_true rfl) (by omega) rfl (R_md_bestCut (d - 1) (by omega) e229) (by simp) rfl rfl ?_
      by_cases c865 : x227 = x230
      · rw [if_pos c865] at hS
        refine ev_icmp_eq_t (t := 1783) pm1 i1_811 rfl c865 rfl rfl ?_
        refine ev_iinc (v := 6) (ls' := [.ref l0, .ref l1, .ref l2, .ref l3, .int (s + (6 : Int32)), unk, unk]) pm1 i1_1783 rfl rfl (by decide) rfl rfl ?_
        refine ev_goto (t := 23) pm1 i1_1786 rfl rfl ?_
        cases hS
        exact hK
      · rw [if_neg c865] at hS
        refine ev_icmp_eq_f (t := 1783) pm1 i1_811 rfl c865 rfl rfl ?_
        refine ev_iconst (v := 0) pm1 i1_814 rfl (by decide) rfl ?_
        cases hS
        exact ev_ireturn pm1 i1_815 rfl (by decide) hK
    rw [if_neg c864] at hS
    by_cases c866 : (x16 &&& (63 : Int32)) = (20 : Int32)
    · rw [if_pos c866] at hS
      refine ev_tabI (t := 816) (off := 776) pm1 i1_40 rfl (20 : Int32) c866 (by decide) rfl rfl ?_
      refine ev_aload_n pm1 i1_816 rfl rfl rfl ?_
      refine ev_aload_n pm1 i1_817 rfl rfl rfl ?_
      refine ev_iload pm1 i1_818 rfl rfl rfl ?_
      refine ev_iconst (v := 1) pm1 i1_820 rfl (by decide) rfl ?_
      refine ev_b2 (f := fun x y => x + y) pm1 i1_821 rfl (fun _ _ _ _ => rfl) rfl ?_
      obtain ⟨x232, e233, hS⟩ := bn_s hS
      refine ev_iald pm1 i1_822 rfl e233 rfl ?_
      obtain ⟨x235, h236, e234, hS⟩ := bd_s hS
      refine ev_callV (sa := [.int x232]) (rest := []) (st' := [.int x235]) (ls0 := [.ref l1, .int x232]) (rv := some (.int x235)) pm1 i1_823 rfl rfl pm109 (by decide) (K_cs_plan e234) rfl rfl (Nat.le_of_ble_eq_true rfl) (by omega) rfl (R_cs_plan (d - 1) (by omega) e234) (by simp) rfl rfl ?_
      refine ev_aload_n pm1 i1_826 rfl rfl rfl ?_
      refine ev_aload_n pm1 i1_827 rfl rfl rfl ?_
      refine ev_iload pm1 i1_828 rfl rfl rfl ?_
      refine ev_iconst (v := 1) pm1 i1_830 rfl (by decide) rfl ?_
      refine ev_b2 (f := fun x y => x + y) pm1 i1_831 rfl (fun _ _ _ _ => rfl) rfl ?_
      obtain ⟨x237, e238, hS⟩ := bn_s hS
      refine ev_iald pm1 i1_832 rfl e238 rfl ?_
      obtain ⟨x240, h241, e239, hS⟩ := bd_s hS
      refine ev_callV (sa := [.int x237]) (rest := [.int x235]) (st' := [.int x240, .int x235]) (ls0 := [.ref l2, .int x237, unk]) (rv := some (.int x240)) pm1 i1_833 rfl rfl pm264 (by decide) (K_md_plan e239) rfl rfl (Nat.le_of_ble_eq_true rfl) (by omega) rfl (R_md_plan (d - 1) (by omega) e239) (by simp) rfl rfl ?_
      by_cases c867 : x235 = x240
      · rw [if_pos c867] at hS
        refine ev_icmp_eq_t (t := 1783) pm1 i1_836 rfl c867 rfl rfl ?_
        refine ev_iinc (v := 6) (ls' := [.ref l0, .ref l1, .ref l2, .ref l3, .int (s + (6 : Int32)), unk, unk]) pm1 i1_1783 rfl rfl (by decide) rfl rfl ?_
        refine ev_goto (t := 23) pm1 i1_1786 rfl rfl ?_
        cases hS
        exact hK
      · rw [if_neg c867] at hS
        refine ev_icmp_eq_f (t := 1783) pm1 i1_836 rfl c867 rfl rfl ?_
        refine ev_iconst (v := 0) pm1 i1_839 rfl (by decide) rfl ?_
        cases hS
        exact ev_ireturn pm1 i1_840 rfl (by decide) hK
    rw [if_neg c866] at hS
    by_cases c868 : (x16 &&& (63 : Int32)) = (21 : Int32)
    · rw [if_pos c868] at hS
      refine ev_tabI (t := 841) (off := 801) pm1 i1_40 rfl (21 : Int32) c868 (by decide) rfl rfl ?_
      refine ev_aload_n pm1 i1_841 rfl rfl rfl ?_
      refine ev_aload_n pm1 i1_842 rfl rfl rfl ?_
      refine ev_iload pm1 i1_843 rfl rfl rfl ?_
      refine ev_iconst (v := 1) pm1 i1_845 rfl (by decide) rfl ?_
      refine ev_b2 (f := fun x y => x + y) pm1 i1_846 rfl (fun _ _ _ _ => rfl) rfl ?_
      obtain ⟨x242, e243, hS⟩ := bn_s hS
      refine ev_iald pm1 i1_847 rfl e243 rfl ?_
      refine ev_aload_n pm1 i1_848 rfl rfl rfl ?_
      refine ev_iload pm1 i1_849 rfl rfl rfl ?_
      refine ev_iconst (v := 2) pm1 i1_851 rfl (by decide) rfl ?_
      refine ev_b2 (f := fun x y => x + y) pm1 i1_852 rfl (fun _ _ _ _ => rfl) rfl ?_
      obtain ⟨x244, e245, hS⟩ := bn_s hS
      refine ev_iald pm1 i1_853 rfl e245 rfl ?_
      obtain ⟨x247, h248, e246, hS⟩ := bd_s hS
      refine ev_callV (sa := [.int x244, .int x242]) (rest := []) (st' := [.int x247]) (ls0 := [.ref l1, .int x242, .int x244]) (rv := some (.int x247)) pm1 i1_854 rfl rfl pm119 (by decide) (K_cs_planDays e246) rfl rfl (Nat.le_of_ble_eq_true rfl) (by omega) rfl (R_cs_planDays (d - 1) (by omega) e246) (by simp) rfl rfl ?_
      refine ev_aload_n pm1 i1_857 rfl rfl rfl ?_
      refine ev_aload_n pm1 i1_858 rfl rfl rfl ?_
      refine ev_iload pm1 i1_859 rfl rfl rfl ?_
      refine ev_iconst (v := 1) pm1 i1_861 rfl (by decide) rfl ?_
      refine ev_b2 (f := fun x y => x + y) pm1 i1_862 rfl (fun _ _ _ _ => rfl) rfl ?_
      obtain ⟨x249, e250, hS⟩ := bn_s hS
      refine ev_iald pm1 i1_863 rfl e250 rfl ?_
      refine ev_aload_n pm1 i1_864 rfl rfl rfl ?_
      refine ev_iload pm1 i1_865 rfl rfl rfl ?_
      refine ev_iconst (v := 2) pm1 i1_867 rfl (by decide) rfl ?_
      refine ev_b2 (f := fun x y => x + y) pm1 i1_868 rfl (fun _ _ _ _ => rfl) rfl ?_
      obtain ⟨x251, e252, hS⟩ := bn_s hS
      refine ev_iald pm1 i1_869 rfl e252 rfl ?_
      obtain ⟨x254, h255, e253, hS⟩ := bd_s hS
      refine ev_callV (sa := [.int x251, .int x249]) (rest := [.int x247]) (st' := [.int x254, .int x247]) (ls0 := [.ref l2, .int x249, .int x251, unk]) (rv := some (.int x254)) pm1 i1_870 rfl rfl pm272 (by decide) (K_md_planDays e253) rfl rfl (Nat.le_of_ble_eq_true rfl) (by omega) rfl (R_md_planDays (d - 1) (by omega) e253) (by simp) rfl rfl ?_
      by_cases c869 : x247 = x254
      · rw [if_pos c869] at hS
        refine ev_icmp_eq_t (t := 1783) pm1 i1_873 rfl c869 rfl rfl ?_
        refine ev_iinc (v := 6) (ls' := [.ref l0, .ref l1, .ref l2, .ref l3, .int (s + (6 : Int32)), unk, unk]) pm1 i1_1783 rfl rfl (by decide) rfl rfl ?_
        refine ev_goto (t := 23) pm1 i1_1786 rfl rfl ?_
        cases hS
        exact hK
      · rw [if_neg c869] at hS
        refine ev_icmp_eq_f (t := 1783) pm1 i1_873 rfl c869 rfl rfl ?_
        refine ev_iconst (v := 0) pm1 i1_876 rfl (by decide) rfl ?_
        cases hS
        exact ev_ireturn pm1 i1_877 rfl (by decide) hK
    rw [if_neg c868] at hS
    by_cases c870 : (x16 &&& (63 : Int32)) = (22 : Int32)
    · rw [if_pos c870] at hS
      refine ev_tabI (t := 878) (off := 838) pm1 i1_40 rfl (22 : Int32) c870 (by decide) rfl rfl ?_
      refine ev_aload_n pm1 i1_878 rfl rfl rfl ?_
      refine ev_aload_n pm1 i1_879 rfl rfl rfl ?_
      refine ev_iload pm1 i1_880 rfl rfl rfl ?_
      refine ev_iconst (v := 1) pm1 i1_882 rfl (by decide) rfl ?_
      refine ev_b2 (f := fun x y => x + y) pm1 i1_883 rfl (fun _ _ _ _ => rfl) rfl ?_
      obtain ⟨x256, e257, hS⟩ := bn_s hS
      refine ev_iald pm1 i1_884 rfl e257 rfl ?_
      refine ev_aload_n pm1 i1_885 rfl rfl rfl ?_
      refine ev_iload pm1 i1_886 rfl rfl rfl ?_
      refine ev_iconst (v := 2) pm1 i1_888 rfl (by decide) rfl ?_
      refine ev_b2 (f := fun x y => x + y) pm1 i1_889 rfl (fun _ _ _ _ => rfl) rfl ?_
      obtain ⟨x258, e259, hS⟩ := bn_s hS
      refine ev_iald pm1 i1_890 rfl e259 rfl ?_
      obtain ⟨x261, h262, e260, hS⟩ := bd_s hS
      refine ev_callV (sa := [.int x258, .int x256]) (rest := []) (st' := [.int x261]) (ls0 := [.ref l1, .int x256, .int x258]) (rv := some (.int x261)) pm1 i1_891 rfl rfl pm122 (by decide) (K_cs_planHouse e260) rfl rfl (Nat.le_of_ble_eq_true rfl) (by omega) rfl (R_cs_planHouse (d - 1) (by omega) e260) (by simp) rfl rfl ?_
      refine ev_aload_n pm1 i1_894 rfl rfl rfl ?_
      refine ev_aload_n pm1 i1_895 rfl rfl rfl ?_
      refine ev_iload pm1 i1_896 rfl rfl rfl ?_
      refine ev_iconst (v := 1) pm1 i1_898 rfl (by decide) rfl ?_
      refine ev_b2 (f := fun x y => x + y) pm1 i1_899 rfl (fun _ _ _ _ => rfl) rfl ?_
      obtain ⟨x263, e264, hS⟩ := bn_s hS
      refine ev_iald pm1 i1_900 rfl e264 rfl ?_
      refine ev_aload_n pm1 i1_901 rfl rfl rfl ?_
      refine ev_iload pm1 i1_902 rfl rfl rfl ?_
      refine ev_iconst (v := 2) pm1 i1_904 rfl (by decide) rfl ?_
      refine ev_b2 (f := fun x y => x + y) pm1 i1_905 rfl (fun _ _ _ _ => rfl) rfl ?_
      obtain ⟨x265, e266, hS⟩ := bn_s hS
      refine ev_iald pm1 i1_906 rfl e266 rfl ?_
      obtain ⟨x268, h269, e267, hS⟩ := bd_s hS
      refine ev_callV (sa := [.int x265, .int x263]) (rest := [.int x261]) (st' := [.int x268, .int x261]) (ls0 := [.ref l2, .int x263, .int x265, unk]) (rv := some (.int x268)) pm1 i1_907 rfl rfl pm274 (by decide) (K_md_planHouse e267) rfl rfl (Nat.le_of_ble_eq_true rfl) (by omega) rfl (R_md_planHouse (d - 1) (by omega) e267) (by simp) rfl rfl ?_
      by_cases c871 : x261 = x268
      · rw [if_pos c871] at hS
        refine ev_icmp_eq_t (t := 1783) pm1 i1_910 rfl c871 rfl rfl ?_
        refine ev_iinc (v := 6) (ls' := [.ref l0, .ref l1, .ref l2, .ref l3, .int (s + (6 : Int32)), unk, unk]) pm1 i1_1783 rfl rfl (by decide) rfl rfl ?_
        refine ev_goto (t := 23) pm1 i1_1786 rfl rfl ?_
        cases hS
        exact hK
      · rw [if_neg c871] at hS
        refine ev_icmp_eq_f (t := 1783) pm1 i1_910 rfl c871 rfl rfl ?_
        refine ev_iconst (v := 0) pm1 i1_913 rfl (by decide) rfl ?_
        cases hS
        exact ev_ireturn pm1 i1_914 rfl (by decide) hK
    rw [if_neg c870] at hS
    by_cases c872 : (x16 &&& (63 : Int32)) = (23 : Int32)
    · rw [if_pos c872] at hS
      refine ev_tabI (t := 915) (off := 875) pm1 i1_40 rfl (23 : Int32) c872 (by decide) rfl rfl ?_
      refine ev_aload_n pm1 i1_915 rfl rfl rfl ?_
      refine ev_aload_n pm1 i1_916 rfl rfl rfl ?_
      refine ev_iload pm1 i1_917 rfl rfl rfl ?_
      refine ev_iconst (v := 1) pm1 i1_919 rfl (by decide) rfl ?_
      refine ev_b2 (f := fun x y => x + y) pm1 i1_920 rfl (fun _ _ _ _ => rfl) rfl ?_
      obtain ⟨x270, e271, hS⟩ := bn_s hS
      refine ev_iald pm1 i1_921 rfl e271 rfl ?_
      obtain ⟨x273, h274, e272, hS⟩ := bd_s hS
      refine ev_callV (sa := [.int x270]) (rest := []) (st' := [.int x273]) (ls0 := [.ref l1, .int x270]) (rv := some (.int x273)) pm1 i1_922 rfl rfl pm124 (by decide) (K_cs_feasts e272) rfl rfl (Nat.le_of_ble_eq_true rfl) (by omega) rfl (R_cs_feasts (d - 1) (by omega) e272) (by simp) rfl rfl ?_
      refine ev_aload_n pm1 i1_925 rfl rfl rfl ?_
      refine ev_aload_n pm1 i1_926 rfl rfl rfl ?_
      refine ev_iload pm1 i1_927 rfl rfl rfl ?_
      refine ev_iconst (v := 1) pm1 i1_929 rfl (by decide) rfl ?_
      refine ev_b2 (f := fun x y => x + y) pm1 i1_930 rfl (fun _ _ _ _ => rfl) rfl ?_
      obtain ⟨x275, e276, hS⟩ := bn_s hS
      refine ev_iald pm1 i1_931 rfl e276 rfl ?_
      obtain ⟨x278, h279, e277, hS⟩ := bd_s hS
      refine ev_callV (sa := [.int x275]) (rest := [.int x273]) (st' := [.int x278, .int x273]) (ls0 := [.ref l2, .int x275, unk]) (rv := some (.int x278)) pm1 i1_932 rfl rfl pm275 (by decide) (K_md_feasts e277) rfl rfl (Nat.le_of_ble_eq_true rfl) (by omega) rfl (R_md_feasts (d - 1) (by omega) e277) (by simp) rfl rfl ?_
      by_cases c873 : x273 = x278
      · rw [if_pos c873] at hS
        refine ev_icmp_eq_t (t := 1783) pm1 i1_935 rfl c873 rfl rfl ?_
        refine ev_iinc (v := 6) (ls' := [.ref l0, .ref l1, .ref l2, .ref l3, .int (s + (6 : Int32)), unk, unk]) pm1 i1_1783 rfl rfl (by decide) rfl rfl ?_
        refine ev_goto (t := 23) pm1 i1_1786 rfl rfl ?_
        cases hS
        exact hK
      · rw [if_neg c873] at hS
        refine ev_icmp_eq_f (t := 1783) pm1 i1_935 rfl c873 rfl rfl ?_
        refine ev_iconst (v := 0) pm1 i1_938 rfl (by decide) rfl ?_
        cases hS
        exact ev_ireturn pm1 i1_939 rfl (by decide) hK
    rw [if_neg c872] at hS
    by_cases c874 : (x16 &&& (63 : Int32)) = (24 : Int32)
    · rw [if_pos c874] at hS
      refine ev_tabI (t := 940) (off := 900) pm1 i1_40 rfl (24 : Int32) c874 (by decide) rfl rfl ?_
      refine ev_aload_n pm1 i1_940 rfl rfl rfl ?_
      refine ev_aload_n pm1 i1_941 rfl rfl rfl ?_
      refine ev_iload pm1 i1_942 rfl rfl rfl ?_
      refine ev_iconst (v := 1) pm1 i1_944 rfl (by decide) rfl ?_
      refine ev_b2 (f := fun x y => x + y) pm1 i1_945 rfl (fun _ _ _ _ => rfl) rfl ?_
      obtain ⟨x280, e281, hS⟩ := bn_s hS
      refine ev_iald pm1 i1_946 rfl e281 rfl ?_
      refine ev_aload_n pm1 i1_947 rfl rfl rfl ?_
      refine ev_iload pm1 i1_948 rfl rfl rfl ?_
      refine ev_iconst (v := 2) pm1 i1_950 rfl (by decide) rfl ?_
      refine ev_b2 (f := fun x y => x + y) pm1 i1_951 rfl (fun _ _ _ _ => rfl) rfl ?_
      obtain ⟨x282, e283, hS⟩ := bn_s hS
      refine ev_iald pm1 i1_952 rfl e283 rfl ?_
      obtain ⟨x285, h286, e284, hS⟩ := bd_s hS
      refine ev_callV (sa := [.int x282, .int x280]) (rest := []) (st' := [.int x285]) (ls0 := [.ref l1, .int x280, .int x282]) (rv := some (.int x285)) pm1 i1_953 rfl rfl pm125 (by decide) (K_cs_feastHouse e284) rfl rfl (Nat.le_of_ble_eq_true rfl) (by omega) rfl (R_cs_feastHouse (d - 1) (by omega) e284) (by simp) rfl rfl ?_
      refine ev_aload_n pm1 i1_956 rfl rfl rfl ?_
      refine ev_aload_n pm1 i1_957 rfl rfl rfl ?_
      refine ev_iload pm1 i1_958 rfl rfl rfl ?_
      refine ev_iconst (v := 1) pm1 i1_960 rfl (by decide) rfl ?_
      refine ev_b2 (f := fun x y => x + y) pm1 i1_961 rfl (fun _ _ _ _ => rfl) rfl ?_
      obtain ⟨x287, e288, hS⟩ := bn_s hS
      refine ev_iald pm1 i1_962 rfl e288 rfl ?_
      refine ev_aload_n pm1 i1_963 rfl rfl rfl ?_
      refine ev_iload pm1 i1_964 rfl rfl rfl ?_
      refine ev_iconst (v := 2) pm1 i1_966 rfl (by decide) rfl ?_
      refine ev_b2 (f := fun x y => x + y) pm1 i1_967 rfl (fun _ _ _ _ => rfl) rfl ?_
      obtain ⟨x289, e290, hS⟩ := bn_s hS
      refine ev_iald pm1 i1_968 rfl e290 rfl ?_
      obtain ⟨x292, h293, e291, hS⟩ := bd_s hS
      refine ev_callV (sa := [.int x289, .int x287]) (rest := [.int x285]) (st' := [.int x292, .int x285]) (ls0 := [.ref l2, .int x287, .int x289, unk]) (rv := some (.int x292)) pm1 i1_969 rfl rfl pm276 (by decide) (K_md_feastHouse e291) rfl rfl (Nat.le_of_ble_eq_true rfl) (by omega) rfl (R_md_feastHouse (d - 1) (by omega) e291) (by simp) rfl rfl ?_
      by_cases c875 : x285 = x292
      · rw [if_pos c875] at hS
        refine ev_icmp_eq_t (t := 1783) pm1 i1_972 rfl c875 rfl rfl ?_
        refine ev_iinc (v := 6) (ls' := [.ref l0, .ref l1, .ref l2, .ref l3, .int (s + (6 : Int32)), unk, unk]) pm1 i1_1783 rfl rfl (by decide) rfl rfl ?_
        refine ev_goto (t := 23) pm1 i1_1786 rfl rfl ?_
        cases hS
        exact hK
      · rw [if_neg c875] at hS
        refine ev_icmp_eq_f (t := 1783) pm1 i1_972 rfl c875 rfl rfl ?_
        refine ev_iconst (v := 0) pm1 i1_975 rfl (by decide) rfl ?_
        cases hS
        exact ev_ireturn pm1 i1_976 rfl (by decide) hK
    rw [if_neg c874] at hS
    by_cases c876 : (x16 &&& (63 : Int32)) = (25 : Int32)
    · rw [if_pos c876] at hS
      refine ev_tabI (t := 977) (off := 937) pm1 i1_40 rfl (25 : Int32) c876 (by decide) rfl rfl ?_
      refine ev_aload_n pm1 i1_977 rfl rfl rfl ?_
      obtain ⟨x295, h296, e294, hS⟩ := bd_s hS
      refine ev_callV (sa := []) (rest := []) (st' := [.int x295]) (ls0 := [.ref l1]) (rv := some (.int x295)) pm1 i1_978 rfl rfl pm126 (by decide) (K_cs_sets e294) rfl rfl (Nat.le_of_ble_eq_true rfl) (by omega) rfl (R_cs_sets (d - 1) (by omega) e294) (by simp) rfl rfl ?_
      refine ev_aload_n pm1 i1_981 rfl rfl rfl ?_
      obtain ⟨x298, h299, e297, hS⟩ := bd_s hS
      refine ev_callV (sa := []) (rest := [.int x295]) (st' := [.int x298, .int x295]) (ls0 := [.ref l2]) (rv := some (.int x298)) pm1 i1_982 rfl rfl pm277 (by decide) (K_md_sets e297) rfl rfl (Nat.le_of_ble_eq_true rfl) (by omega) rfl (R_md_sets (d - 1) (by omega) e297) (by simp) rfl rfl ?_
      by_cases c877 : x295 = x298
      · rw [if_pos c877] at hS
        refine ev_icmp_eq_t (t := 1783) pm1 i1_985 rfl c877 rfl rfl ?_
        refine ev_iinc (v := 6) (ls' := [.ref l0, .ref l1, .ref l2, .ref l3, .int (s + (6 : Int32)), unk, unk]) pm1 i1_1783 rfl rfl (by decide) rfl rfl ?_
        refine ev_goto (t := 23) pm1 i1_1786 rfl rfl ?_
        cases hS
        exact hK
      · rw [if_neg c877] at hS
        refine ev_icmp_eq_f (t := 1783) pm1 i1_985 rfl c877 rfl rfl ?_
        refine ev_iconst (v := 0) pm1 i1_988 rfl (by decide) rfl ?_
        cases hS
        exact ev_ireturn pm1 i1_989 rfl (by decide) hK
    rw [if_neg c876] at hS
    by_cases c878 : (x16 &&& (63 : Int32)) = (26 : Int32)
    · rw [if_pos c878] at hS
      refine ev_tabI (t := 990) (off := 950) pm1 i1_40 rfl (26 : Int32) c878 (by decide) rfl rfl ?_
      refine ev_aload_n pm1 i1_990 rfl rfl rfl ?_
      refine ev_aload_n pm1 i1_991 rfl rfl rfl ?_
      refine ev_iload pm1 i1_992 rfl rfl rfl ?_
      refine ev_iconst (v := 1) pm1 i1_994 rfl (by decide) rfl ?_
      refine ev_b2 (f := fun x y => x + y) pm1 i1_995 rfl (fun _ _ _ _ => rfl) rfl ?_
      obtain ⟨x300, e301, hS⟩ := bn_s hS
      refine ev_iald pm1 i1_996 rfl e301 rfl ?_
      obtain ⟨x303, h304, e302, hS⟩ := bd_s hS
      refine ev_callV (sa := [.int x300]) (rest := []) (st' := [.int x303]) (ls0 := [.ref l1, .int x300]) (rv := some (.int x303)) pm1 i1_997 rfl rfl pm129 (by decide) (K_cs_setAt e302) rfl rfl (Nat.le_of_ble_eq_true rfl) (by omega) rfl (R_cs_setAt (d - 1) (by omega) e302) (by simp) rfl rfl ?_
      refine ev_aload_n pm1 i1_1000 rfl rfl rfl ?_
      refine ev_aload_n pm1 i1_1001 rfl rfl rfl ?_
      refine ev_iload pm1 i1_1002 rfl rfl rfl ?_
      refine ev_iconst (v := 1) pm1 i1_1004 rfl (by decide) rfl ?_
      refine ev_b2 (f := fun x y => x + y) pm1 i1_1005 rfl (fun _ _ _ _ => rfl) rfl ?_
      obtain ⟨x305, e306, hS⟩ := bn_s hS
      refine ev_iald pm1 i1_1006 rfl e306 rfl ?_
      obtain ⟨x308, h309, e307, hS⟩ := bd_s hS
      refine ev_callV (sa := [.int x305]) (rest := [.int x303]) (st' := [.int x308, .int x303]) (ls0 := [.ref l2, .int x305, unk]) (rv := some (.int x308)) pm1 i1_1007 rfl rfl pm280 (by decide) (K_md_setAt e307) rfl rfl (Nat.le_of_ble_eq_true rfl) (by omega) rfl (R_md_setAt (d - 1) (by omega) e307) (by simp) rfl rfl ?_
      by_cases c879 : x303 = x308
      · rw [if_pos c879] at hS
        refine ev_icmp_eq_t (t := 1783) pm1 i1_1010 rfl c879 rfl rfl ?_
        refine ev_iinc (v := 6) (ls' := [.ref l0, .ref l1, .ref l2, .ref l3, .int (s + (6 : Int32)), unk, unk]) pm1 i1_1783 rfl rfl (by decide) rfl rfl ?_
        refine ev_goto (t := 23) pm1 i1_1786 rfl rfl ?_
        cases hS
        exact hK
      · rw [if_neg c879] at hS
        refine ev_icmp_eq_f (t := 1783) pm1 i1_1010 rfl c879 rfl rfl ?_
        refine ev_iconst (v := 0) pm1 i1_1013 rfl (by decide) rfl ?_
        cases hS
        exact ev_ireturn pm1 i1_1014 rfl (by decide) hK
    rw [if_neg c878] at hS
    by_cases c880 : (x16 &&& (63 : Int32)) = (27 : Int32)
    · rw [if_pos c880] at hS
      refine ev_tabI (t := 1015) (off := 975) pm1 i1_40 rfl (27 : Int32) c880 (by decide) rfl rfl ?_
      refine ev_aload_n pm1 i1_1015 rfl rfl rfl ?_
      obtain ⟨x311, h312, e310, hS⟩ := bd_s hS
      refine ev_callV (sa := []) (rest := []) (st' := [.int x311]) (ls0 := [.ref l1]) (rv := some (.int x311)) pm1 i1_1016 rfl rfl pm130 (by decide) (K_cs_could e310) rfl rfl (Nat.le_of_ble_eq_true rfl) (by omega) rfl (R_cs_could (d - 1) (by omega) e310) (by simp) rfl rfl ?_
      refine ev_aload_n pm1 i1_1019 rfl rfl rfl ?_
      obtain ⟨x314, h315, e313, hS⟩ := bd_s hS
      refine ev_callV (sa := []) (rest := [.int x311]) (st' := [.int x314, .int x311]) (ls0 := [.ref l2]) (rv := some (.int x314)) pm1 i1_1020 rfl rfl pm281 (by decide) (K_md_could e313) rfl rfl (Nat.le_of_ble_eq_true rfl) (by omega) rfl (R_md_could (d - 1) (by omega) e313) (by simp) rfl rfl ?_
      by_cases c881 : x311 = x314
      · rw [if_pos c881] at hS
        refine ev_icmp_eq_t (t := 1783) pm1 i1_1023 rfl c881 rfl rfl ?_
        refine ev_iinc (v := 6) (ls' := [.ref l0, .ref l1, .ref l2, .ref l3, .int (s + (6 : Int32)), unk, unk]) pm1 i1_1783 rfl rfl (by decide) rfl rfl ?_
        refine ev_goto (t := 23) pm1 i1_1786 rfl rfl ?_
        cases hS
        exact hK
      · rw [if_neg c881] at hS
        refine ev_icmp_eq_f (t := 1783) pm1 i1_1023 rfl c881 rfl rfl ?_
        refine ev_iconst (v := 0) pm1 i1_1026 rfl (by decide) rfl ?_
        cases hS
        exact ev_ireturn pm1 i1_1027 rfl (by decide) hK
    rw [if_neg c880] at hS
    by_cases c882 : (x16 &&& (63 : Int32)) = (28 : Int32)
    · rw [if_pos c882] at hS
      refine ev_tabI (t := 1028) (off := 988) pm1 i1_40 rfl (28 : Int32) c882 (by decide) rfl rfl ?_
      refine ev_aload_n pm1 i1_1028 rfl rfl rfl ?_
      obtain ⟨x317, h318, e316, hS⟩ := bd_s hS
      refine ev_callV (sa := []) (rest := []) (st' := [.int x317]) (ls0 := [.ref l1]) (rv := some (.int x317)) pm1 i1_1029 rfl rfl pm132 (by decide) (K_cs_surely e316) rfl rfl (Nat.le_of_ble_eq_true rfl) (by omega) rfl (R_cs_surely (d - 1) (by omega) e316) (by simp) rfl rfl ?_
      refine ev_aload_n pm1 i1_1032 rfl rfl rfl ?_
      obtain ⟨x320, h321, e319, hS⟩ := bd_s hS
      refine ev_callV (sa := []) (rest := [.int x317]) (st' := [.int x320, .int x317]) (ls0 := [.ref l2]) (rv := some (.int x320)) pm1 i1_1033 rfl rfl pm282 (by decide) (K_md_surely e319) rfl rfl (Nat.le_of_ble_eq_true rfl) (by omega) rfl (R_md_surely (d - 1) (by omega) e319) (by simp) rfl rfl ?_
      by_cases c883 : x317 = x320
      · rw [if_pos c883] at hS
        refine ev_icmp_eq_t (t := 1783) pm1 i1_1036 rfl c883 rfl rfl ?_
        refine ev_iinc (v := 6) (ls' := [.ref l0, .ref l1, .ref l2, .ref l3, .int (s + (6 : Int32)), unk, unk]) pm1 i1_1783 rfl rfl (by decide) rfl rfl ?_
        refine ev_goto (t := 23) pm1 i1_1786 rfl rfl ?_
        cases hS
        exact hK
      · rw [if_neg c883] at hS
        refine ev_icmp_eq_f (t := 1783) pm1 i1_1036 rfl c883 rfl rfl ?_
        refine ev_iconst (v := 0) pm1 i1_1039 rfl (by decide) rfl ?_
        cases hS
        exact ev_ireturn pm1 i1_1040 rfl (by decide) hK
    rw [if_neg c882] at hS
    by_cases c884 : (x16 &&& (63 : Int32)) = (29 : Int32)
    · rw [if_pos c884] at hS
      refine ev_tabI (t := 1041) (off := 1001) pm1 i1_40 rfl (29 : Int32) c884 (by decide) rfl rfl ?_
      refine ev_aload_n pm1 i1_1041 rfl rfl rfl ?_
      obtain ⟨x323, h324, e322, hS⟩ := bd_s hS
      refine ev_callV (sa := []) (rest := []) (st' := [.int x323]) (ls0 := [.ref l1]) (rv := some (.int x323)) pm1 i1_1042 rfl rfl pm134 (by decide) (K_cs_ask e322) rfl rfl (Nat.le_of_ble_eq_true rfl) (by omega) rfl (R_cs_ask (d - 1) (by omega) e322) (by simp) rfl rfl ?_
      refine ev_aload_n pm1 i1_1045 rfl rfl rfl ?_
      obtain ⟨x326, h327, e325, hS⟩ := bd_s hS
      refine ev_callV (sa := []) (rest := [.int x323]) (st' := [.int x326, .int x323]) (ls0 := [.ref l2]) (rv := some (.int x326)) pm1 i1_1046 rfl rfl pm283 (by decide) (K_md_ask e325) rfl rfl (Nat.le_of_ble_eq_true rfl) (by omega) rfl (R_md_ask (d - 1) (by omega) e325) (by simp) rfl rfl ?_
      by_cases c885 : x323 = x326
      · rw [if_pos c885] at hS
        refine ev_icmp_eq_t (t := 1783) pm1 i1_1049 rfl c885 rfl rfl ?_
        refine ev_iinc (v := 6) (ls' := [.ref l0, .ref l1, .ref l2, .ref l3, .int (s + (6 : Int32)), unk, unk]) pm1 i1_1783 rfl rfl (by decide) rfl rfl ?_
        refine ev_goto (t := 23) pm1 i1_1786 rfl rfl ?_
        cases hS
        exact hK
      · rw [if_neg c885] at hS
        refine ev_icmp_eq_f (t := 1783) pm1 i1_1049 rfl c885 rfl rfl ?_
        refine ev_iconst (v := 0) pm1 i1_1052 rfl (by decide) rfl ?_
        cases hS
        exact ev_ireturn pm1 i1_1053 rfl (by decide) hK
    rw [if_neg c884] at hS
    by_cases c886 : (x16 &&& (63 : Int32)) = (30 : Int32)
    · rw [if_pos c886] at hS
      refine ev_tabI (t := 1054) (off := 1014) pm1 i1_40 rfl (30 : Int32) c886 (by decide) rfl rfl ?_
      refine ev_aload_n pm1 i1_1054 rfl rfl rfl ?_
      obtain ⟨x329, h330, e328, hS⟩ := bd_s hS
      refine ev_callV (sa := []) (rest := []) (st' := [.int x329]) (ls0 := [.ref l1, unk]) (rv := some (.int x329)) pm1 i1_1055 rfl rfl pm137 (by decide) (K_cs_askLeaves e328) rfl rfl (Nat.le_of_ble_eq_true rfl) (by omega) rfl (R_cs_askLeaves (d - 1) (by omega) e328) (by simp) rfl rfl ?_
      refine ev_aload_n pm1 i1_1058 rfl rfl rfl ?_
      obtain ⟨x332, h333, e331, hS⟩ := bd_s hS
      refine ev_callV (sa := []) (rest := [.int x329]) (st' := [.int x332, .int x329]) (ls0 := [.ref l2]) (rv := some (.int x332)) pm1 i1_1059 rfl rfl pm285 (by decide) (K_md_askLeaves e331) rfl rfl (Nat.le_of_ble_eq_true rfl) (by omega) rfl (R_md_askLeaves (d - 1) (by omega) e331) (by simp) rfl rfl ?_
      by_cases c887 : x329 = x332
      · rw [if_pos c887] at hS
        refine ev_icmp_eq_t (t := 1783) pm1 i1_1062 rfl c887 rfl rfl ?_
        refine ev_iinc (v := 6) (ls' := [.ref l0, .ref l1, .ref l2, .ref l3, .int (s + (6 : Int32)), unk, unk]) pm1 i1_1783 rfl rfl (by decide) rfl rfl ?_
        refine ev_goto (t := 23) pm1 i1_1786 rfl rfl ?_
        cases hS
        exact hK
      · rw [if_neg c887] at hS
        refine ev_icmp_eq_f (t := 1783) pm1 i1_1062 rfl c887 rfl rfl ?_
        refine ev_iconst (v := 0) pm1 i1_1065 rfl (by decide) rfl ?_
        cases hS
        exact ev_ireturn pm1 i1_1066 rfl (by decide) hK
    rw [if_neg c886] at hS
    by_cases c888 : (x16 &&& (63 : Int32)) = (31 : Int32)
    · rw [if_pos c888] at hS
      refine ev_tabI (t := 1067) (off := 1027) pm1 i1_40 rfl (31 : Int32) c888 (by decide) rfl rfl ?_
      refine ev_aload_n pm1 i1_1067 rfl rfl rfl ?_
      obtain ⟨x335, h336, e334, hS⟩ := bd_s hS
      refine ev_callV (sa := []) (rest := []) (st' := [.int x335]) (ls0 := [.ref l1]) (rv := some (.int x335)) pm1 i1_1068 rfl rfl pm138 (by decide) (K_cs_judge e334) rfl rfl (Nat.le_of_ble_eq_true rfl) (by omega) rfl (R_cs_judge (d - 1) (by omega) e334) (by simp) rfl rfl ?_
      refine ev_aload_n pm1 i1_1071 rfl rfl rfl ?_
      obtain ⟨x338, h339, e337, hS⟩ := bd_s hS
      refine ev_callV (sa := []) (rest := [.int x335]) (st' := [.int x338, .int x335]) (ls0 := [.ref l2]) (rv := some (.int x338)) pm1 i1_1072 rfl rfl pm286 (by decide) (K_md_judge e337) rfl rfl (Nat.le_of_ble_eq_true rfl) (by omega) rfl (R_md_judge (d - 1) (by omega) e337) (by simp) rfl rfl ?_
      by_cases c889 : x335 = x338
      · rw [if_pos c889] at hS
        refine ev_icmp_eq_t (t := 1783) pm1 i1_1075 rfl c889 rfl rfl ?_
        refine ev_iinc (v := 6) (ls' := [.ref l0, .ref l1, .ref l2, .ref l3, .int (s + (6 : Int32)), unk, unk]) pm1 i1_1783 rfl rfl (by decide) rfl rfl ?_
        refine ev_goto (t := 23) pm1 i1_1786 rfl rfl ?_
        cases hS
        exact hK
      · rw [if_neg c889] at hS
        refine ev_icmp_eq_f (t := 1783) pm1 i1_1075 rfl c889 rfl rfl ?_
        refine ev_iconst (v := 0) pm1 i1_1078 rfl (by decide) rfl ?_
        cases hS
        exact ev_ireturn pm1 i1_1079 rfl (by decide) hK
    rw [if_neg c888] at hS
    by_cases c890 : (x16 &&& (63 : Int32)) = (32 : Int32)
    · rw [if_pos c890] at hS
      refine ev_tabI (t := 1080) (off := 1040) pm1 i1_40 rfl (32 : Int32) c890 (by decide) rfl rfl ?_
      refine ev_aload_n pm1 i1_1080 rfl rfl rfl ?_
      refine ev_aload_n pm1 i1_1081 rfl rfl rfl ?_
      refine ev_iload pm1 i1_1082 rfl rfl rfl ?_
      refine ev_iconst (v := 1) pm1 i1_1084 rfl (by decide) rfl ?_
      refine ev_b2 (f := fun x y => x + y) pm1 i1_1085 rfl (fun _ _ _ _ => rfl) rfl ?_
      obtain ⟨x340, e341, hS⟩ := bn_s hS
      refine ev_iald pm1 i1_1086 rfl e341 rfl ?_
      obtain ⟨x343, h344, e342, hS⟩ := bd_s hS
      refine ev_callV (sa := [.int x340]) (rest := []) (st' := [.int x343]) (ls0 := [.ref l1, .int x340]) (rv := some (.int x343)) pm1 i1_1087 rfl rfl pm139 (by decide) (K_cs_value e342) rfl rfl (Nat.le_of_ble_eq_true rfl) (by omega) rfl (R_cs_value (d - 1) (by omega) e342) (by simp) rfl rfl ?_
      refine ev_aload_n pm1 i1_1090 rfl rfl rfl ?_
      refine ev_aload_n pm1 i1_1091 rfl rfl rfl ?_
      refine ev_iload pm1 i1_1092 rfl rfl rfl ?_
      refine ev_iconst (v := 1) pm1 i1_1094 rfl (by decide) rfl ?_
      refine ev_b2 (f := fun x y => x + y) pm1 i1_1095 rfl (fun _ _ _ _ => rfl) rfl ?_
      obtain ⟨x345, e346, hS⟩ := bn_s hS
      refine ev_iald pm1 i1_1096 rfl e346 rfl ?_
      obtain ⟨x348, h349, e347, hS⟩ := bd_s hS
      refine ev_callV (sa := [.int x345]) (rest := [.int x343]) (st' := [.int x348, .int x343]) (ls0 := [.ref l2, .int x345]) (rv := some (.int x348)) pm1 i1_1097 rfl rfl pm287 (by decide) (K_md_value e347) rfl rfl (Nat.le_of_ble_eq_true rfl) (by omega) rfl (R_md_value (d - 1) (by omega) e347) (by simp) rfl rfl ?_
      by_cases c891 : x343 = x348
      · rw [if_pos c891] at hS
        refine ev_icmp_eq_t (t := 1783) pm1 i1_1100 rfl c891 rfl rfl ?_
        refine ev_iinc (v := 6) (ls' := [.ref l0, .ref l1, .ref l2, .ref l3, .int (s + (6 : Int32)), unk, unk]) pm1 i1_1783 rfl rfl (by decide) rfl rfl ?_
        refine ev_goto (t := 23) pm1 i1_1786 rfl rfl ?_
        cases hS
        exact hK
      · rw [if_neg c891] at hS
        refine ev_icmp_eq_f (t := 1783) pm1 i1_1100 rfl c891 rfl rfl ?_
        refine ev_iconst (v := 0) pm1 i1_1103 rfl (by decide) rfl ?_
        cases hS
        exact ev_ireturn pm1 i1_1104 rfl (by decide) hK
    rw [if_neg c890] at hS
    by_cases c892 : (x16 &&& (63 : Int32)) = (33 : Int32)
    · rw [if_pos c892] at hS
      refine ev_tabI (t := 1105) (off := 1065) pm1 i1_40 rfl (33 : Int32) c892 (by decide) rfl rfl ?_
      refine ev_aload_n pm1 i1_1105 rfl rfl rfl ?_
      refine ev_aload_n pm1 i1_1106 rfl rfl rfl ?_
      refine ev_iload pm1 i1_1107 rfl rfl rfl ?_
      refine ev_iconst (v := 1) pm1 i1_1109 rfl (by decide) rfl ?_
      refine ev_b2 (f := fun x y => x + y) pm1 i1_1110 rfl (fun _ _ _ _ => rfl) rfl ?_
      obtain ⟨x350, e351, hS⟩ := bn_s hS
      refine ev_iald pm1 i1_1111 rfl e351 rfl ?_
      obtain ⟨x353, h354, e352, hS⟩ := bd_s hS
      refine ev_callV (sa := [.int x350]) (rest := []) (st' := [.int x353]) (ls0 := [.ref l1, .int x350]) (rv := some (.int x353)) pm1 i1_1112 rfl rfl pm145 (by decide) (K_cs_kingCuts e352) rfl rfl (Nat.le_of_ble_eq_true rfl) (by omega) rfl (R_cs_kingCuts (d - 1) (by omega) e352) (by simp) rfl rfl ?_
      refine ev_aload_n pm1 i1_1115 rfl rfl rfl ?_
      refine ev_aload_n pm1 i1_1116 rfl rfl rfl ?_
      refine ev_iload pm1 i1_1117 rfl rfl rfl ?_
      refine ev_iconst (v := 1) pm1 i1_1119 rfl (by decide) rfl ?_
      refine ev_b2 (f := fun x y => x + y) pm1 i1_1120 rfl (fun _ _ _ _ => rfl) rfl ?_
      obtain ⟨x355, e356, hS⟩ := bn_s hS
      refine ev_iald pm1 i1_1121 rfl e356 rfl ?_
      obtain ⟨x358, h359, e357, hS⟩ := bd_s hS
      refine ev_callV (sa := [.int x355]) (rest := [.int x353]) (st' := [.int x358, .int x353]) (ls0 := [.ref l2, .int x355, unk, unk]) (rv := some (.int x358)) pm1 i1_1122 rfl rfl pm292 (by decide) (K_md_kingCuts e357) rfl rfl (Nat.le_of_ble_eq_true rfl) (by omega) rfl (R_md_kingCuts (d - 1) (by omega) e357) (by simp) rfl rfl ?_
      by_cases c893 : x353 = x358
      · rw [if_pos c893] at hS
        refine ev_icmp_eq_t (t := 1783) pm1 i1_1125 rfl c893 rfl rfl ?_
        refine ev_iinc (v := 6) (ls' := [.ref l0, .ref l1, .ref l2, .ref l3, .int (s + (6 : Int32)), unk, unk]) pm1 i1_1783 rfl rfl (by decide) rfl rfl ?_
        refine ev_goto (t := 23) pm1 i1_1786 rfl rfl ?_
        cases hS
        exact hK
      · rw [if_neg c893] at hS
        refine ev_icmp_eq_f (t := 1783) pm1 i1_1125 rfl c893 rfl rfl ?_
        refine ev_iconst (v := 0) pm1 i1_1128 rfl (by decide) rfl ?_
        cases hS
        exact ev_ireturn pm1 i1_1129 rfl (by decide) hK
    rw [if_neg c892] at hS
    by_cases c894 : (x16 &&& (63 : Int32)) = (34 : Int32)
    · rw [if_pos c894] at hS
      refine ev_tabI (t := 1130) (off := 1090) pm1 i1_40 rfl (34 : Int32) c894 (by decide) rfl rfl ?_
      refine ev_aload_n pm1 i1_1130 rfl rfl rfl ?_
      refine ev_aload_n pm1 i1_1131 rfl rfl rfl ?_
      refine ev_iload pm1 i1_1132 rfl rfl rfl ?_
      refine ev_iconst (v := 1) pm1 i1_1134 rfl (by decide) rfl ?_
      refine ev_b2 (f := fun x y => x + y) pm1 i1_1135 rfl (fun _ _ _ _ => rfl) rfl ?_
      obtain ⟨x360, e361, hS⟩ := bn_s hS
      refine ev_iald pm1 i1_1136 rfl e361 rfl ?_
      refine ev_aload_n pm1 i1_1137 rfl rfl rfl ?_
      refine ev_iload pm1 i1_1138 rfl rfl rfl ?_
      refine ev_iconst (v := 2) pm1 i1_1140 rfl (by decide) rfl ?_
      refine ev_b2 (f := fun x y => x + y) pm1 i1_1141 rfl (fun _ _ _ _ => rfl) rfl ?_
      obtain ⟨x362, e363, hS⟩ := bn_s hS
      refine ev_iald pm1 i1_1142 rfl e363 rfl ?_
      refine ev_aload_n pm1 i1_1143 rfl rfl rfl ?_
      refine ev_iload pm1 i1_1144 rfl rfl rfl ?_
      refine ev_iconst (v := 3) pm1 i1_1146 rfl (by decide) rfl ?_
      refine ev_b2 (f := fun x y => x + y) pm1 i1_1147 rfl (fun _ _ _ _ => rfl) rfl ?_
      obtain ⟨x364, e365, hS⟩ := bn_s hS
      refine ev_iald pm1 i1_1148 rfl e365 rfl ?_
      obtain ⟨q366, I895, hS⟩ := bn_s hS
      have J1 : Ev P d 1 (1157, [.ref l0, .ref l1, .ref l2, .ref l3, .int s, unk, unk], [.int q366, .int x362, .int x360, .ref l1], h) r := by
        obtain ⟨x368, h369, e367, hS⟩ := bd_s hS
        refine ev_callV (sa := [.int q366, .int x362, .int x360]) (rest := []) (st' := [.long x368]) (ls0 := [.ref l1, .int x360, .int x362, .int q366]) (rv := some (.long x368)) pm1 i1_1157 rfl rfl pm147 (by decide) (K_cs_dry e367) rfl rfl (Nat.le_of_ble_eq_true rfl) (by omega) rfl (R_cs_dry (d - 1) (by omega) e367) (by simp) rfl rfl ?_
        refine ev_aload_n pm1 i1_1160 rfl rfl rfl ?_
        refine ev_aload_n pm1 i1_1161 rfl rfl rfl ?_
        refine ev_iload pm1 i1_1162 rfl rfl rfl ?_
        refine ev_iconst (v := 1) pm1 i1_1164 rfl (by decide) rfl ?_
        refine ev_b2 (f := fun x y => x + y) pm1 i1_1165 rfl (fun _ _ _ _ => rfl) rfl ?_
        obtain ⟨x370, e371, hS⟩ := bn_s hS
        refine ev_iald pm1 i1_1166 rfl e371 rfl ?_
        refine ev_aload_n pm1 i1_1167 rfl rfl rfl ?_
        refine ev_iload pm1 i1_1168 rfl rfl rfl ?_
        refine ev_iconst (v := 2) pm1 i1_1170 rfl (by decide) rfl ?_
        refine ev_b2 (f := fun x y => x + y) pm1 i1_1171 rfl (fun _ _ _ _ => rfl) rfl ?_
        obtain ⟨x372, e373, hS⟩ := bn_s hS
        refine ev_iald pm1 i1_1172 rfl e373 rfl ?_
        refine ev_aload_n pm1 i1_1173 rfl rfl rfl ?_
        refine ev_iload pm1 i1_1174 rfl rfl rfl ?_
        refine ev_iconst (v := 3) pm1 i1_1176 rfl (by decide) rfl ?_
        refine ev_b2 (f := fun x y => x + y) pm1 i1_1177 rfl (fun _ _ _ _ => rfl) rfl ?_
        obtain ⟨x374, e375, hS⟩ := bn_s hS
        refine ev_iald pm1 i1_1178 rfl e375 rfl ?_
        obtain ⟨q376, I896, hS⟩ := bn_s hS
        have J2 : Ev P d 1 (1187, [.ref l0, .ref l1, .ref l2, .ref l3, .int s, unk, unk], [.int q376, .int x372, .int x370, .ref l2, .long x368], h369) r := by
          obtain ⟨x378, h379, e377, hS⟩ := bd_s hS
          refine ev_callV (sa := [.int q376, .int x372, .int x370]) (rest := [.long x368]) (st' := [.long x378, .long x368]) (ls0 := [.ref l2, .int x370, .int x372, .int q376, unk]) (rv := some (.long x378)) pm1 i1_1187 rfl rfl pm293 (by decide) (K_md_dry e377) rfl rfl (Nat.le_of_ble_eq_true rfl) (by omega) rfl (R_md_dry (d - 1) (by omega) e377) (by simp) rfl rfl ?_
          refine ev_lcmp pm1 i1_1190 rfl rfl ?_
          by_cases c897 : (lg_cmp x368 x378) = (0 : Int32)
          · rw [if_pos c897] at hS
            refine ev_if_eq_t (t := 1783) pm1 i1_1191 rfl c897 rfl rfl ?_
            refine ev_iinc (v := 6) (ls' := [.ref l0, .ref l1, .ref l2, .ref l3, .int (s + (6 : Int32)), unk, unk]) pm1 i1_1783 rfl rfl (by decide) rfl rfl ?_
            refine ev_goto (t := 23) pm1 i1_1786 rfl rfl ?_
            cases hS
            exact hK
          · rw [if_neg c897] at hS
            refine ev_if_eq_f (t := 1783) pm1 i1_1191 rfl c897 rfl rfl ?_
            refine ev_iconst (v := 0) pm1 i1_1194 rfl (by decide) rfl ?_
            cases hS
            exact ev_ireturn pm1 i1_1195 rfl (by decide) hK
        clear hS
        by_cases c896 : x374 = (0 : Int32)
        · rw [if_pos c896] at I896
          refine ev_if_eq_t (t := 1186) pm1 i1_1179 rfl c896 rfl rfl ?_
          refine ev_iconst (v := 0) pm1 i1_1186 rfl (by decide) rfl ?_
          cases I896
          exact J2
        · rw [if_neg c896] at I896
          refine ev_if_eq_f (t := 1186) pm1 i1_1179 rfl c896 rfl rfl ?_
          refine ev_iconst (v := 1) pm1 i1_1182 rfl (by decide) rfl ?_
          refine ev_goto (t := 1187) pm1 i1_1183 rfl rfl ?_
          cases I896
          exact J2
      clear hS
      by_cases c895 : x364 = (0 : Int32)
      · rw [if_pos c895] at I895
        refine ev_if_eq_t (t := 1156) pm1 i1_1149 rfl c895 rfl rfl ?_
        refine ev_iconst (v := 0) pm1 i1_1156 rfl (by decide) rfl ?_
        cases I895
        exact J1
      · rw [if_neg c895] at I895
        refine ev_if_eq_f (t := 1156) pm1 i1_1149 rfl c895 rfl rfl ?_
        refine ev_iconst (v := 1) pm1 i1_1152 rfl (by decide) rfl ?_
        refine ev_goto (t := 1157) pm1 i1_1153 rfl rfl ?_
        cases I895
        exact J1
    rw [if_neg c894] at hS
    by_cases c898 : (x16 &&& (63 : Int32)) = (35 : Int32)
    · rw [if_pos c898] at hS
      refine ev_tabI (t := 1196) (off := 1156) pm1 i1_40 rfl (35 : Int32) c898 (by decide) rfl rfl ?_
      refine ev_aload_n pm1 i1_1196 rfl rfl rfl ?_
      refine ev_aload_n pm1 i1_1197 rfl rfl rfl ?_
      refine ev_iload pm1 i1_1198 rfl rfl rfl ?_
      refine ev_iconst (v := 1) pm1 i1_1200 rfl (by decide) rfl ?_
      refine ev_b2 (f := fun x y => x + y) pm1 i1_1201 rfl (fun _ _ _ _ => rfl) rfl ?_
      obtain ⟨x380, e381, hS⟩ := bn_s hS
      refine ev_iald pm1 i1_1202 rfl e381 rfl ?_
      refine ev_aload_n pm1 i1_1203 rfl rfl rfl ?_
      refine ev_iload pm1 i1_1204 rfl rfl rfl ?_
      refine ev_iconst (v := 2) pm1 i1_1206 rfl (by decide) rfl ?_
      refine ev_b2 (f := fun x y => x + y) pm1 i1_1207 rfl (fun _ _ _ _ => rfl) rfl ?_
      obtain ⟨x382, e383, hS⟩ := bn_s hS
      refine ev_iald pm1 i1_1208 rfl e383 rfl ?_
      refine ev_aload_n pm1 i1_1209 rfl rfl rfl ?_
      refine ev_iload pm1 i1_1210 rfl rfl rfl ?_
      refine ev_iconst (v := 3) pm1 i1_1212 rfl (by decide) rfl ?_
      refine ev_b2 (f := fun x y => x + y) pm1 i1_1213 rfl (fun _ _ _ _ => rfl) rfl ?_
      obtain ⟨x384, e385, hS⟩ := bn_s hS
      refine ev_iald pm1 i1_1214 rfl e385 rfl ?_
      obtain ⟨q386, I899, hS⟩ := bn_s hS
      have J3 : Ev P d 1 (1223, [.ref l0, .ref l1, .ref l2, .ref l3, .int s, unk, unk], [.int q386, .int x382, .int x380, .ref l1], h) r := by
        obtain ⟨x388, h389, e387, hS⟩ := bd_s hS
        refine ev_callV (sa := [.int q386, .int x382, .int x380]) (rest := []) (st' := [.long x388]) (ls0 := [.ref l1, .int x380, .int x382, .int q386]) (rv := some (.long x388)) pm1 i1_1223 rfl rfl pm155 (by decide) (K_cs_mean e387) rfl rfl (Nat.le_of_ble_eq_true rfl) (by omega) rfl (R_cs_mean (d - 1) (by omega) e387) (by simp) rfl rfl ?_
        refine ev_aload_n pm1 i1_1226 rfl rfl rfl ?_
        refine ev_aload_n pm1 i1_1227 rfl rfl rfl ?_
        refine ev_iload pm1 i1_1228 rfl rfl rfl ?_
        refine ev_iconst (v := 1) pm1 i1_1230 rfl (by decide) rfl ?_
        refine ev_b2 (f := fun x y => x + y) pm1 i1_1231 rfl (fun _ _ _ _ => rfl) rfl ?_
        obtain ⟨x390, e391, hS⟩ := bn_s hS
        refine ev_iald pm1 i1_1232 rfl e391 rfl ?_
        refine ev_aload_n pm1 i1_1233 rfl rfl rfl ?_
        refine ev_iload pm1 i1_1234 rfl rfl rfl ?_
        refine ev_iconst (v := 2) pm1 i1_1236 rfl (by decide) rfl ?_
        refine ev_b2 (f := fun x y => x + y) pm1 i1_1237 rfl (fun _ _ _ _ => rfl) rfl ?_
        obtain ⟨x392, e393, hS⟩ := bn_s hS
        refine ev_iald pm1 i1_1238 rfl e393 rfl ?_
        refine ev_aload_n pm1 i1_1239 rfl rfl rfl ?_
        refine ev_iload pm1 i1_1240 rfl rfl rfl ?_
        refine ev_iconst (v := 3) pm1 i1_1242 rfl (by decide) rfl ?_
        refine ev_b2 (f := fun x y => x + y) pm1 i1_1243 rfl (fun _ _ _ _ => rfl) rfl ?_
        obtain ⟨x394, e395, hS⟩ := bn_s hS
        refine ev_iald pm1 i1_1244 rfl e395 rfl ?_
        obtain ⟨q396, I900, hS⟩ := bn_s hS
        have J4 : Ev P d 1 (1253, [.ref l0, .ref l1, .ref l2, .ref l3, .int s, unk, unk], [.int q396, .int x392, .int x390, .ref l2, .long x388], h389) r := by
          obtain ⟨x398, h399, e397, hS⟩ := bd_s hS
          refine ev_callV (sa := [.int q396, .int x392, .int x390]) (rest := [.long x388]) (st' := [.long x398, .long x388]) (ls0 := [.ref l2, .int x390, .int x392, .int q396, unk]) (rv := some (.long x398)) pm1 i1_1253 rfl rfl pm299 (by decide) (K_md_mean e397) rfl rfl (Nat.le_of_ble_eq_true rfl) (by omega) rfl (R_md_mean (d - 1) (by omega) e397) (by simp) rfl rfl ?_
          refine ev_lcmp pm1 i1_1256 rfl rfl ?_
          by_cases c901 : (lg_cmp x388 x398) = (0 : Int32)
          · rw [if_pos c901] at hS
            refine ev_if_eq_t (t := 1783) pm1 i1_1257 rfl c901 rfl rfl ?_
            refine ev_iinc (v := 6) (ls' := [.ref l0, .ref l1, .ref l2, .ref l3, .int (s + (6 : Int32)), unk, unk]) pm1 i1_1783 rfl rfl (by decide) rfl rfl ?_
            refine ev_goto (t := 23) pm1 i1_1786 rfl rfl ?_
            cases hS
            exact hK
          · rw [if_neg c901] at hS
            refine ev_if_eq_f (t := 1783) pm1 i1_1257 rfl c901 rfl rfl ?_
            refine ev_iconst (v := 0) pm1 i1_1260 rfl (by decide) rfl ?_
            cases hS
            exact ev_ireturn pm1 i1_1261 rfl (by decide) hK
        clear hS
        by_cases c900 : x394 = (0 : Int32)
        · rw [if_pos c900] at I900
          refine ev_if_eq_t (t := 1252) pm1 i1_1245 rfl c900 rfl rfl ?_
          refine ev_iconst (v := 0) pm1 i1_1252 rfl (by decide) rfl ?_
          cases I900
          exact J4
        · rw [if_neg c900] at I900
          refine ev_if_eq_f (t := 1252) pm1 i1_1245 rfl c900 rfl rfl ?_
          refine ev_iconst (v := 1) pm1 i1_1248 rfl (by decide) rfl ?_
          refine ev_goto (t := 1253) pm1 i1_1249 rfl rfl ?_
          cases I900
          exact J4
      clear hS
      by_cases c899 : x384 = (0 : Int32)
      · rw [if_pos c899] at I899
        refine ev_if_eq_t (t := 1222) pm1 i1_1215 rfl c899 rfl rfl ?_
        refine ev_iconst (v := 0) pm1 i1_1222 rfl (by decide) rfl ?_
        cases I899
        exact J3
      · rw [if_neg c899] at I899
        refine ev_if_eq_f (t := 1222) pm1 i1_1215 rfl c899 rfl rfl ?_
        refine ev_iconst (v := 1) pm1 i1_1218 rfl (by decide) rfl ?_
        refine ev_goto (t := 1223) pm1 i1_1219 rfl rfl ?_
        cases I899
        exact J3
    rw [if_neg c898] at hS
    by_cases c902 : (x16 &&& (63 : Int32)) = (36 : Int32)
    · rw [if_pos c902] at hS
      refine ev_tabI (t := 1262) (off := 1222) pm1 i1_40 rfl (36 : Int32) c902 (by decide) rfl rfl ?_
      refine ev_aload_n pm1 i1_1262 rfl rfl rfl ?_
      refine ev_aload_n pm1 i1_1263 rfl rfl rfl ?_
      refine ev_iload pm1 i1_1264 rfl rfl rfl ?_
      refine ev_iconst (v := 1) pm1 i1_1266 rfl (by decide) rfl ?_
      refine ev_b2 (f := fun x y => x + y) pm1 i1_1267 rfl (fun _ _ _ _ => rfl) rfl ?_
      obtain ⟨x400, e401, hS⟩ := bn_s hS
      refine ev_iald pm1 i1_1268 rfl e401 rfl ?_
      obtain ⟨x403, h404, e402, hS⟩ := bd_s hS
      refine ev_callV (sa := [.int x400]) (rest := []) (st' := [.int x403]) (ls0 := [.ref l1, .int x400, unk, unk, unk, unk]) (rv := some (.int x403)) pm1 i1_1269 rfl rfl pm156 (by decide) (K_cs_safest e402) rfl rfl (Nat.le_of_ble_eq_true rfl) (by omega) rfl (R_cs_safest (d - 1) (by omega) e402) (by simp) rfl rfl ?_
      refine ev_aload_n pm1 i1_1272 rfl rfl rfl ?_
      refine ev_aload_n pm1 i1_1273 rfl rfl rfl ?_
      refine ev_iload pm1 i1_1274 rfl rfl rfl ?_
      refine ev_iconst (v := 1) pm1 i1_1276 rfl (by decide) rfl ?_
      refine ev_b2 (f := fun x y => x + y) pm1 i1_1277 rfl (fun _ _ _ _ => rfl) rfl ?_
      obtain ⟨x405, e406, hS⟩ := bn_s hS
      refine ev_iald pm1 i1_1278 rfl e406 rfl ?_
      obtain ⟨x408, h409, e407, hS⟩ := bd_s hS
      refine ev_callV (sa := [.int x405]) (rest := [.int x403]) (st' := [.int x408, .int x403]) (ls0 := [.ref l2, .int x405, unk, unk, unk, unk]) (rv := some (.int x408)) pm1 i1_1279 rfl rfl pm300 (by decide) (K_md_safest e407) rfl rfl (Nat.le_of_ble_eq_true rfl) (by omega) rfl (R_md_safest (d - 1) (by omega) e407) (by simp) rfl rfl ?_
      by_cases c903 : x403 = x408
      · rw [if_pos c903] at hS
        refine ev_icmp_eq_t (t := 1783) pm1 i1_1282 rfl c903 rfl rfl ?_
        refine ev_iinc (v := 6) (ls' := [.ref l0, .ref l1, .ref l2, .ref l3, .int (s + (6 : Int32)), unk, unk]) pm1 i1_1783 rfl rfl (by decide) rfl rfl ?_
        refine ev_goto (t := 23) pm1 i1_1786 rfl rfl ?_
        cases hS
        exact hK
      · rw [if_neg c903] at hS
        refine ev_icmp_eq_f (t := 1783) pm1 i1_1282 rfl c903 rfl rfl ?_
        refine ev_iconst (v := 0) pm1 i1_1285 rfl (by decide) rfl ?_
        cases hS
        exact ev_ireturn pm1 i1_1286 rfl (by decide) hK
    rw [if_neg c902] at hS
    by_cases c904 : (x16 &&& (63 : Int32)) = (37 : Int32)
    · rw [if_pos c904] at hS
      refine ev_tabI (t := 1287) (off := 1247) pm1 i1_40 rfl (37 : Int32) c904 (by decide) rfl rfl ?_
      refine ev_aload_n pm1 i1_1287 rfl rfl rfl ?_
      refine ev_aload_n pm1 i1_1288 rfl rfl rfl ?_
      refine ev_iload pm1 i1_1289 rfl rfl rfl ?_
      refine ev_iconst (v := 1) pm1 i1_1291 rfl (by decide) rfl ?_
      refine ev_b2 (f := fun x y => x + y) pm1 i1_1292 rfl (fun _ _ _ _ => rfl) rfl ?_
      obtain ⟨x410, e411, hS⟩ := bn_s hS
      refine ev_iald pm1 i1_1293 rfl e411 rfl ?_
      refine ev_aload_n pm1 i1_1294 rfl rfl rfl ?_
      refine ev_iload pm1 i1_1295 rfl rfl rfl ?_
      refine ev_iconst (v := 2) pm1 i1_1297 rfl (by decide) rfl ?_
      refine ev_b2 (f := fun x y => x + y) pm1 i1_1298 rfl (fun _ _ _ _ => rfl) rfl ?_
      obtain ⟨x412, e413, hS⟩ := bn_s hS
      refine ev_iald pm1 i1_1299 rfl e413 rfl ?_
      refine ev_aload_n pm1 i1_1300 rfl rfl rfl ?_
      refine ev_iload pm1 i1_1301 rfl rfl rfl ?_
      refine ev_iconst (v := 3) pm1 i1_1303 rfl (by decide) rfl ?_
      refine ev_b2 (f := fun x y => x + y) pm1 i1_1304 rfl (fun _ _ _ _ => rfl) rfl ?_
      obtain ⟨x414, e415, hS⟩ := bn_s hS
      refine ev_iald pm1 i1_1305 rfl e415 rfl ?_
      obtain ⟨q416, I905, hS⟩ := bn_s hS
      have J5 : Ev P d 1 (1314, [.ref l0, .ref l1, .ref l2, .ref l3, .int s, unk, unk], [.int q416, .int x412, .int x410, .ref l1], h) r := by
        obtain ⟨x418, h419, e417, hS⟩ := bd_s hS
        refine ev_callV (sa := [.int q416, .int x412, .int x410]) (rest := []) (st' := [.long x418]) (ls0 := [.ref l1, .int x410, .int x412, .int q416]) (rv := some (.long x418)) pm1 i1_1314 rfl rfl pm157 (by decide) (K_cs_losses e417) rfl rfl (Nat.le_of_ble_eq_true rfl) (by omega) rfl (R_cs_losses (d - 1) (by omega) e417) (by simp) rfl rfl ?_
        refine ev_aload_n pm1 i1_1317 rfl rfl rfl ?_
        refine ev_aload_n pm1 i1_1318 rfl rfl rfl ?_
        refine ev_iload pm1 i1_1319 rfl rfl rfl ?_
        refine ev_iconst (v := 1) pm1 i1_1321 rfl (by decide) rfl ?_
        refine ev_b2 (f := fun x y => x + y) pm1 i1_1322 rfl (fun _ _ _ _ => rfl) rfl ?_
        obtain ⟨x420, e421, hS⟩ := bn_s hS
        refine ev_iald pm1 i1_1323 rfl e421 rfl ?_
        refine ev_aload_n pm1 i1_1324 rfl rfl rfl ?_
        refine ev_iload pm1 i1_1325 rfl rfl rfl ?_
        refine ev_iconst (v := 2) pm1 i1_1327 rfl (by decide) rfl ?_
        refine ev_b2 (f := fun x y => x + y) pm1 i1_1328 rfl (fun _ _ _ _ => rfl) rfl ?_
        obtain ⟨x422, e423, hS⟩ := bn_s hS
        refine ev_iald pm1 i1_1329 rfl e423 rfl ?_
        refine ev_aload_n pm1 i1_1330 rfl rfl rfl ?_
        refine ev_iload pm1 i1_1331 rfl rfl rfl ?_
        refine ev_iconst (v := 3) pm1 i1_1333 rfl (by decide) rfl ?_
        refine ev_b2 (f := fun x y => x + y) pm1 i1_1334 rfl (fun _ _ _ _ => rfl) rfl ?_
        obtain ⟨x424, e425, hS⟩ := bn_s hS
        refine ev_iald pm1 i1_1335 rfl e425 rfl ?_
        obtain ⟨q426, I906, hS⟩ := bn_s hS
        have J6 : Ev P d 1 (1344, [.ref l0, .ref l1, .ref l2, .ref l3, .int s, unk, unk], [.int q426, .int x422, .int x420, .ref l2, .long x418], h419) r := by
          obtain ⟨x428, h429, e427, hS⟩ := bd_s hS
          refine ev_callV (sa := [.int q426, .int x422, .int x420]) (rest := [.long x418]) (st' := [.long x428, .long x418]) (ls0 := [.ref l2, .int x420, .int x422, .int q426, unk]) (rv := some (.long x428)) pm1 i1_1344 rfl rfl pm301 (by decide) (K_md_losses e427) rfl rfl (Nat.le_of_ble_eq_true rfl) (by omega) rfl (R_md_losses (d - 1) (by omega) e427) (by simp) rfl rfl ?_
          refine ev_lcmp pm1 i1_1347 rfl rfl ?_
          by_cases c907 : (lg_cmp x418 x428) = (0 : Int32)
          · rw [if_pos c907] at hS
            refine ev_if_eq_t (t := 1783) pm1 i1_1348 rfl c907 rfl rfl ?_
            refine ev_iinc (v := 6) (ls' := [.ref l0, .ref l1, .ref l2, .ref l3, .int (s + (6 : Int32)), unk, unk]) pm1 i1_1783 rfl rfl (by decide) rfl rfl ?_
            refine ev_goto (t := 23) pm1 i1_1786 rfl rfl ?_
            cases hS
            exact hK
          · rw [if_neg c907] at hS
            refine ev_if_eq_f (t := 1783) pm1 i1_1348 rfl c907 rfl rfl ?_
            refine ev_iconst (v := 0) pm1 i1_1351 rfl (by decide) rfl ?_
            cases hS
            exact ev_ireturn pm1 i1_1352 rfl (by decide) hK
        clear hS
        by_cases c906 : x424 = (0 : Int32)
        · rw [if_pos c906] at I906
          refine ev_if_eq_t (t := 1343) pm1 i1_1336 rfl c906 rfl rfl ?_
          refine ev_iconst (v := 0) pm1 i1_1343 rfl (by decide) rfl ?_
          cases I906
          exact J6
        · rw [if_neg c906] at I906
          refine ev_if_eq_f (t := 1343) pm1 i1_1336 rfl c906 rfl rfl ?_
          refine ev_iconst (v := 1) pm1 i1_1339 rfl (by decide) rfl ?_
          refine ev_goto (t := 1344) pm1 i1_1340 rfl rfl ?_
          cases I906
          exact J6
      clear hS
      by_cases c905 : x414 = (0 : Int32)
      · rw [if_pos c905] at I905
        refine ev_if_eq_t (t := 1313) pm1 i1_1306 rfl c905 rfl rfl ?_
        refine ev_iconst (v := 0) pm1 i1_1313 rfl (by decide) rfl ?_
        cases I905
        exact J5
      · rw [if_neg c905] at I905
        refine ev_if_eq_f (t := 1313) pm1 i1_1306 rfl c905 rfl rfl ?_
        refine ev_iconst (v := 1) pm1 i1_1309 rfl (by decide) rfl ?_
        refine ev_goto (t := 1314) pm1 i1_1310 rfl rfl ?_
        cases I905
        exact J5
    rw [if_neg c904] at hS
    by_cases c908 : (x16 &&& (63 : Int32)) = (38 : Int32)
    · rw [if_pos c908] at hS
      refine ev_tabI (t := 1353) (off := 1313) pm1 i1_40 rfl (38 : Int32) c908 (by decide) rfl rfl ?_
      refine ev_aload_n pm1 i1_1353 rfl rfl rfl ?_
      refine ev_aload_n pm1 i1_1354 rfl rfl rfl ?_
      refine ev_iload pm1 i1_1355 rfl rfl rfl ?_
      refine ev_iconst (v := 1) pm1 i1_1357 rfl (by decide) rfl ?_
      refine ev_b2 (f := fun x y => x + y) pm1 i1_1358 rfl (fun _ _ _ _ => rfl) rfl ?_
      obtain ⟨x430, e431, hS⟩ := bn_s hS
      refine ev_iald pm1 i1_1359 rfl e431 rfl ?_
      refine ev_aload_n pm1 i1_1360 rfl rfl rfl ?_
      refine ev_iload pm1 i1_1361 rfl rfl rfl ?_
      refine ev_iconst (v := 2) pm1 i1_1363 rfl (by decide) rfl ?_
      refine ev_b2 (f := fun x y => x + y) pm1 i1_1364 rfl (fun _ _ _ _ => rfl) rfl ?_
      obtain ⟨x432, e433, hS⟩ := bn_s hS
      refine ev_iald pm1 i1_1365 rfl e433 rfl ?_
      refine ev_aload_n pm1 i1_1366 rfl rfl rfl ?_
      refine ev_iload pm1 i1_1367 rfl rfl rfl ?_
      refine ev_iconst (v := 3) pm1 i1_1369 rfl (by decide) rfl ?_
      refine ev_b2 (f := fun x y => x + y) pm1 i1_1370 rfl (fun _ _ _ _ => rfl) rfl ?_
      obtain ⟨x434, e435, hS⟩ := bn_s hS
      refine ev_iald pm1 i1_1371 rfl e435 rfl ?_
      obtain ⟨x437, h438, e436, hS⟩ := bd_s hS
      refine ev_callV (sa := [.int x434, .int x432, .int x430]) (rest := []) (st' := [.int x437]) (ls0 := [.ref l1, .int x430, .int x432, .int x434]) (rv := some (.int x437)) pm1 i1_1372 rfl rfl pm158 (by decide) (K_cs_weeks e436) rfl rfl (Nat.le_of_ble_eq_true rfl) (by omega) rfl (R_cs_weeks (d - 1) (by omega) e436) (by simp) rfl rfl ?_
      refine ev_aload_n pm1 i1_1375 rfl rfl rfl ?_
      refine ev_aload_n pm1 i1_1376 rfl rfl rfl ?_
      refine ev_iload pm1 i1_1377 rfl rfl rfl ?_
      refine ev_iconst (v := 1) pm1 i1_1379 rfl (by decide) rfl ?_
      refine ev_b2 (f := fun x y => x + y) pm1 i1_1380 rfl (fun _ _ _ _ => rfl) rfl ?_
      obtain ⟨x439, e440, hS⟩ := bn_s hS
      refine ev_iald pm1 i1_1381 rfl e440 rfl ?_
      refine ev_aload_n pm1 i1_1382 rfl rfl rfl ?_
      refine ev_iload pm1 i1_1383 rfl rfl rfl ?_
      refine ev_iconst (v := 2) pm1 i1_1385 rfl (by decide) rfl ?_
      refine ev_b2 (f := fun x y => x + y) pm1 i1_1386 rfl (fun _ _ _ _ => rfl) rfl ?_
      obtain ⟨x441, e442, hS⟩ := bn_s hS
      refine ev_iald pm1 i1_1387 rfl e442 rfl ?_
      refine ev_aload_n pm1 i1_1388 rfl rfl rfl ?_
      refine ev_iload pm1 i1_1389 rfl rfl rfl ?_
      refine ev_iconst (v := 3) pm1 i1_1391 rfl (by decide) rfl ?_
      refine ev_b2 (f := fun x y => x + y) pm1 i1_1392 rfl (fun _ _ _ _ => rfl) rfl ?_
      obtain ⟨x443, e444, hS⟩ := bn_s hS
      refine ev_iald pm1 i1_1393 rfl e444 rfl ?_
      obtain ⟨x446, h447, e445, hS⟩ := bd_s hS
      refine ev_callV (sa := [.int x443, .int x441, .int x439]) (rest := [.int x437]) (st' := [.int x446, .int x437]) (ls0 := [.ref l2, .int x439, .int x441, .int x443, unk]) (rv := some (.int x446)) pm1 i1_1394 rfl rfl pm302 (by decide) (K_md_weeks e445) rfl rfl (Nat.le_of_ble_eq_true rfl) (by omega) rfl (R_md_weeks (d - 1) (by omega) e445) (by simp) rfl rfl ?_
      by_cases c909 : x437 = x446
      · rw [if_pos c909] at hS
        refine ev_icmp_eq_t (t := 1783) pm1 i1_1397 rfl c909 rfl rfl ?_
        refine ev_iinc (v := 6) (ls' := [.ref l0, .ref l1, .ref l2, .ref l3, .int (s + (6 : Int32)), unk, unk]) pm1 i1_1783 rfl rfl (by decide) rfl rfl ?_
        refine ev_goto (t := 23) pm1 i1_1786 rfl rfl ?_
        cases hS
        exact hK
      · rw [if_neg c909] at hS
        refine ev_icmp_eq_f (t := 1783) pm1 i1_1397 rfl c909 rfl rfl ?_
        refine ev_iconst (v := 0) pm1 i1_1400 rfl (by decide) rfl ?_
        cases hS
        exact ev_ireturn pm1 i1_1401 rfl (by decide) hK
    rw [if_neg c908] at hS
    by_cases c910 : (x16 &&& (63 : Int32)) = (39 : Int32)
    · rw [if_pos c910] at hS
      refine ev_tabI (t := 1402) (off := 1362) pm1 i1_40 rfl (39 : Int32) c910 (by decide) rfl rfl ?_
      refine ev_aload_n pm1 i1_1402 rfl rfl rfl ?_
      refine ev_aload_n pm1 i1_1403 rfl rfl rfl ?_
      refine ev_iload pm1 i1_1404 rfl rfl rfl ?_
      refine ev_iconst (v := 1) pm1 i1_1406 rfl (by decide) rfl ?_
      refine ev_b2 (f := fun x y => x + y) pm1 i1_1407 rfl (fun _ _ _ _ => rfl) rfl ?_
      obtain ⟨x448, e449, hS⟩ := bn_s hS
      refine ev_iald pm1 i1_1408 rfl e449 rfl ?_
      refine ev_aload_n pm1 i1_1409 rfl rfl rfl ?_
      refine ev_iload pm1 i1_1410 rfl rfl rfl ?_
      refine ev_iconst (v := 2) pm1 i1_1412 rfl (by decide) rfl ?_
      refine ev_b2 (f := fun x y => x + y) pm1 i1_1413 rfl (fun _ _ _ _ => rfl) rfl ?_
      obtain ⟨x450, e451, hS⟩ := bn_s hS
      refine ev_iald pm1 i1_1414 rfl e451 rfl ?_
      obtain ⟨x453, h454, e452, hS⟩ := bd_s hS
      refine ev_callV (sa := [.int x450, .int x448]) (rest := []) (st' := [.int x453]) (ls0 := [.ref l1, .int x448, .int x450]) (rv := some (.int x453)) pm1 i1_1415 rfl rfl pm162 (by decide) (K_cs_eaten e452) rfl rfl (Nat.le_of_ble_eq_true rfl) (by omega) rfl (R_cs_eaten (d - 1) (by omega) e452) (by simp) rfl rfl ?_
      refine ev_aload_n pm1 i1_1418 rfl rfl rfl ?_
      refine ev_aload_n pm1 i1_1419 rfl rfl rfl ?_
      refine ev_iload pm1 i1_1420 rfl rfl rfl ?_
      refine ev_iconst (v := 1) pm1 i1_1422 rfl (by decide) rfl ?_
      refine ev_b2 (f := fun x y => x + y) pm1 i1_1423 rfl (fun _ _ _ _ => rfl) rfl ?_
      obtain ⟨x455, e456, hS⟩ := bn_s hS
      refine ev_iald pm1 i1_1424 rfl e456 rfl ?_
      refine ev_aload_n pm1 i1_1425 rfl rfl rfl ?_
      refine ev_iload pm1 i1_1426 rfl rfl rfl ?_
      refine ev_iconst (v := 2) pm1 i1_1428 rfl (by decide) rfl ?_
      refine ev_b2 (f := fun x y => x + y) pm1 i1_1429 rfl (fun _ _ _ _ => rfl) rfl ?_
      obtain ⟨x457, e458, hS⟩ := bn_s hS
      refine ev_iald pm1 i1_1430 rfl e458 rfl ?_
      obtain ⟨x460, h461, e459, hS⟩ := bd_s hS
      refine ev_callV (sa := [.int x457, .int x455]) (rest := [.int x453]) (st' := [.int x460, .int x453]) (ls0 := [.ref l2, .int x455, .int x457, unk]) (rv := some (.int x460)) pm1 i1_1431 rfl rfl pm306 (by decide) (K_md_eaten e459) rfl rfl (Nat.le_of_ble_eq_true rfl) (by omega) rfl (R_md_eaten (d - 1) (by omega) e459) (by simp) rfl rfl ?_
      by_cases c911 : x453 = x460
      · rw [if_pos c911] at hS
        refine ev_icmp_eq_t (t := 1783) pm1 i1_1434 rfl c911 rfl rfl ?_
        refine ev_iinc (v := 6) (ls' := [.ref l0, .ref l1, .ref l2, .ref l3, .int (s + (6 : Int32)), unk, unk]) pm1 i1_1783 rfl rfl (by decide) rfl rfl ?_
        refine ev_goto (t := 23) pm1 i1_1786 rfl rfl ?_
        cases hS
        exact hK
      · rw [if_neg c911] at hS
        refine ev_icmp_eq_f (t := 1783) pm1 i1_1434 rfl c911 rfl rfl ?_
        refine ev_iconst (v := 0) pm1 i1_1437 rfl (by decide) rfl ?_
        cases hS
        exact ev_ireturn pm1 i1_1438 rfl (by decide) hK
    rw [if_neg c910] at hS
    by_cases c912 : (x16 &&& (63 : Int32)) = (40 : Int32)
    · rw [if_pos c912] at hS
      refine ev_tabI (t := 1439) (off := 1399) pm1 i1_40 rfl (40 : Int32) c912 (by decide) rfl rfl ?_
      refine ev_aload_n pm1 i1_1439 rfl rfl rfl ?_
      refine ev_aload_n pm1 i1_1440 rfl rfl rfl ?_
      refine ev_iload pm1 i1_1441 rfl rfl rfl ?_
      refine ev_iconst (v := 1) pm1 i1_1443 rfl (by decide) rfl ?_
      refine ev_b2 (f := fun x y => x + y) pm1 i1_1444 rfl (fun _ _ _ _ => rfl) rfl ?_
      obtain ⟨x462, e463, hS⟩ := bn_s hS
      refine ev_iald pm1 i1_1445 rfl e463 rfl ?_
      refine ev_aload_n pm1 i1_1446 rfl rfl rfl ?_
      refine ev_iload pm1 i1_1447 rfl rfl rfl ?_
      refine ev_iconst (v := 2) pm1 i1_1449 rfl (by decide) rfl ?_
      refine ev_b2 (f := fun x y => x + y) pm1 i1_1450 rfl (fun _ _ _ _ => rfl) rfl ?_
      obtain ⟨x464, e465, hS⟩ := bn_s hS
      refine ev_iald pm1 i1_1451 rfl e465 rfl ?_
      obtain ⟨x467, h468, e466, hS⟩ := bd_s hS
      refine ev_callV (sa := [.int x464, .int x462]) (rest := []) (st' := [.int x467]) (ls0 := [.ref l1, .int x462, .int x464, unk]) (rv := some (.int x467)) pm1 i1_1452 rfl rfl pm163 (by decide) (K_cs_sunkAt e466) rfl rfl (Nat.le_of_ble_eq_true rfl) (by omega) rfl (R_cs_sunkAt (d - 1) (by omega) e466) (by simp) rfl rfl ?_
      refine ev_aload_n pm1 i1_1455 rfl rfl rfl ?_
      refine ev_aload_n pm1 i1_1456 rfl rfl rfl ?_
      refine ev_iload pm1 i1_1457 rfl rfl rfl ?_
      refine ev_iconst (v := 1) pm1 i1_1459 rfl (by decide) rfl ?_
      refine ev_b2 (f := fun x y => x + y) pm1 i1_1460 rfl (fun _ _ _ _ => rfl) rfl ?_
      obtain ⟨x469, e470, hS⟩ := bn_s hS
      refine ev_iald pm1 i1_1461 rfl e470 rfl ?_
      refine ev_aload_n pm1 i1_1462 rfl rfl rfl ?_
      refine ev_iload pm1 i1_1463 rfl rfl rfl ?_
      refine ev_iconst (v := 2) pm1 i1_1465 rfl (by decide) rfl ?_
      refine ev_b2 (f := fun x y => x + y) pm1 i1_1466 rfl (fun _ _ _ _ => rfl) rfl ?_
      obtain ⟨x471, e472, hS⟩ := bn_s hS
      refine ev_iald pm1 i1_1467 rfl e472 rfl ?_
      obtain ⟨x474, h475, e473, hS⟩ := bd_s hS
      refine ev_callV (sa := [.int x471, .int x469]) (rest := [.int x467]) (st' := [.int x474, .int x467]) (ls0 := [.ref l2, .int x469, .int x471, unk]) (rv := some (.int x474)) pm1 i1_1468 rfl rfl pm307 (by decide) (K_md_sunkAt e473) rfl rfl (Nat.le_of_ble_eq_true rfl) (by omega) rfl (R_md_sunkAt (d - 1) (by omega) e473) (by simp) rfl rfl ?_
      by_cases c913 : x467 = x474
      · rw [if_pos c913] at hS
        refine ev_icmp_eq_t (t := 1783) pm1 i1_1471 rfl c913 rfl rfl ?_
        refine ev_iinc (v := 6) (ls' := [.ref l0, .ref l1, .ref l2, .ref l3, .int (s + (6 : Int32)), unk, unk]) pm1 i1_1783 rfl rfl (by decide) rfl rfl ?_
        refine ev_goto (t := 23) pm1 i1_1786 rfl rfl ?_
        cases hS
        exact hK
      · rw [if_neg c913] at hS
        refine ev_icmp_eq_f (t := 1783) pm1 i1_1471 rfl c913 rfl rfl ?_
        refine ev_iconst (v := 0) pm1 i1_1474 rfl (by decide) rfl ?_
        cases hS
        exact ev_ireturn pm1 i1_1475 rfl (by decide) hK
    rw [if_neg c912] at hS
    by_cases c914 : (x16 &&& (63 : Int32)) = (41 : Int32)
    · rw [if_pos c914] at hS
      refine ev_tabI (t := 1476) (off := 1436) pm1 i1_40 rfl (41 : Int32) c914 (by decide) rfl rfl ?_
      refine ev_aload_n pm1 i1_1476 rfl rfl rfl ?_
      refine ev_aload_n pm1 i1_1477 rfl rfl rfl ?_
      refine ev_iload pm1 i1_1478 rfl rfl rfl ?_
      refine ev_iconst (v := 1) pm1 i1_1480 rfl (by decide) rfl ?_
      refine ev_b2 (f := fun x y => x + y) pm1 i1_1481 rfl (fun _ _ _ _ => rfl) rfl ?_
      obtain ⟨x476, e477, hS⟩ := bn_s hS
      refine ev_iald pm1 i1_1482 rfl e477 rfl ?_
      refine ev_aload_n pm1 i1_1483 rfl rfl rfl ?_
      refine ev_iload pm1 i1_1484 rfl rfl rfl ?_
      refine ev_iconst (v := 2) pm1 i1_1486 rfl (by decide) rfl ?_
      refine ev_b2 (f := fun x y => x + y) pm1 i1_1487 rfl (fun _ _ _ _ => rfl) rfl ?_
      obtain ⟨x478, e479, hS⟩ := bn_s hS
      refine ev_iald pm1 i1_1488 rfl e479 rfl ?_
      obtain ⟨x481, h482, e480, hS⟩ := bd_s hS
      refine ev_callV (sa := [.int x478, .int x476]) (rest := []) (st' := [.int x481]) (ls0 := [.ref l1, .int x476, .int x478, unk]) (rv := some (.int x481)) pm1 i1_1489 rfl rfl pm164 (by decide) (K_cs_drink e480) rfl rfl (Nat.le_of_ble_eq_true rfl) (by omega) rfl (R_cs_drink (d - 1) (by omega) e480) (by simp) rfl rfl ?_
      refine ev_aload_n pm1 i1_1492 rfl rfl rfl ?_
      refine ev_aload_n pm1 i1_1493 rfl rfl rfl ?_
      refine ev_iload pm1 i1_1494 rfl rfl rfl ?_
      refine ev_iconst (v := 1) pm1 i1_1496 rfl (by decide) rfl ?_
      refine ev_b2 (f := fun x y => x + y) pm1 i1_1497 rfl (fun _ _ _ _ => rfl) rfl ?_
      obtain ⟨x483, e484, hS⟩ := bn_s hS
      refine ev_iald pm1 i1_1498 rfl e484 rfl ?_
      refine ev_aload_n pm1 i1_1499 rfl rfl rfl ?_
      refine ev_iload pm1 i1_1500 rfl rfl rfl ?_
      refine ev_iconst (v := 2) pm1 i1_1502 rfl (by decide) rfl ?_
      refine ev_b2 (f := fun x y => x + y) pm1 i1_1503 rfl (fun _ _ _ _ => rfl) rfl ?_
      obtain ⟨x485, e486, hS⟩ := bn_s hS
      refine ev_iald pm1 i1_1504 rfl e486 rfl ?_
      obtain ⟨x488, h489, e487, hS⟩ := bd_s hS
      refine ev_callV (sa := [.int x485, .int x483]) (rest := [.int x481]) (st' := [.int x488, .int x481]) (ls0 := [.ref l2, .int x483, .int x485, unk]) (rv := some (.int x488)) pm1 i1_1505 rfl rfl pm308 (by decide) (K_md_drink e487) rfl rfl (Nat.le_of_ble_eq_true rfl) (by omega) rfl (R_md_drink (d - 1) (by omega) e487) (by simp) rfl rfl ?_
      by_cases c915 : x481 = x488
      · rw [if_pos c915] at hS
        refine ev_icmp_eq_t (t := 1783) pm1 i1_1508 rfl c915 rfl rfl ?_
        refine ev_iinc (v := 6) (ls' := [.ref l0, .ref l1, .ref l2, .ref l3, .int (s + (6 : Int32)), unk, unk]) pm1 i1_1783 rfl rfl (by decide) rfl rfl ?_
        refine ev_goto (t := 23) pm1 i1_1786 rfl rfl ?_
        cases hS
        exact hK
      · rw [if_neg c915] at hS
        refine ev_icmp_eq_f (t := 1783) pm1 i1_1508 rfl c915 rfl rfl ?_
        refine ev_iconst (v := 0) pm1 i1_1511 rfl (by decide) rfl ?_
        cases hS
        exact ev_ireturn pm1 i1_1512 rfl (by decide) hK
    rw [if_neg c914] at hS
    by_cases c916 : (x16 &&& (63 : Int32)) = (42 : Int32)
    · rw [if_pos c916] at hS
      refine ev_tabI (t := 1513) (off := 1473) pm1 i1_40 rfl (42 : Int32) c916 (by decide) rfl rfl ?_
      refine ev_aload_n pm1 i1_1513 rfl rfl rfl ?_
      refine ev_aload_n pm1 i1_1514 rfl rfl rfl ?_
      refine ev_iload pm1 i1_1515 rfl rfl rfl ?_
      refine ev_iconst (v := 1) pm1 i1_1517 rfl (by decide) rfl ?_
      refine ev_b2 (f := fun x y => x + y) pm1 i1_1518 rfl (fun _ _ _ _ => rfl) rfl ?_
      obtain ⟨x490, e491, hS⟩ := bn_s hS
      refine ev_iald pm1 i1_1519 rfl e491 rfl ?_
      refine ev_aload_n pm1 i1_1520 rfl rfl rfl ?_
      refine ev_iload pm1 i1_1521 rfl rfl rfl ?_
      refine ev_iconst (v := 2) pm1 i1_1523 rfl (by decide) rfl ?_
      refine ev_b2 (f := fun x y => x + y) pm1 i1_1524 rfl (fun _ _ _ _ => rfl) rfl ?_
      obtain ⟨x492, e493, hS⟩ := bn_s hS
      refine ev_iald pm1 i1_1525 rfl e493 rfl ?_
      obtain ⟨x495, h496, e494, hS⟩ := bd_s hS
      refine ev_callV (sa := [.int x492, .int x490]) (rest := []) (st' := [.int x495]) (ls0 := [.ref l1, .int x490, .int x492]) (rv := some (.int x495)) pm1 i1_1526 rfl rfl pm167 (by decide) (K_cs_move e494) rfl rfl (Nat.le_of_ble_eq_true rfl) (by omega) rfl (R_cs_move (d - 1) (by omega) e494) (by simp) rfl rfl ?_
      refine ev_aload_n pm1 i1_1529 rfl rfl rfl ?_
      refine ev_aload_n pm1 i1_1530 rfl rfl rfl ?_
      refine ev_iload pm1 i1_1531 rfl rfl rfl ?_
      refine ev_iconst (v := 1) pm1 i1_1533 rfl (by decide) rfl ?_
      refine ev_b2 (f := fun x y => x + y) pm1 i1_1534 rfl (fun _ _ _ _ => rfl) rfl ?_
      obtain ⟨x497, e498, hS⟩ := bn_s hS
      refine ev_iald pm1 i1_1535 rfl e498 rfl ?_
      refine ev_aload_n pm1 i1_1536 rfl rfl rfl ?_
      refine ev_iload pm1 i1_1537 rfl rfl rfl ?_
      refine ev_iconst (v := 2) pm1 i1_1539 rfl (by decide) rfl ?_
      refine ev_b2 (f := fun x y => x + y) pm1 i1_1540 rfl (fun _ _ _ _ => rfl) rfl ?_
      obtain ⟨x499, e500, hS⟩ := bn_s hS
      refine ev_iald pm1 i1_1541 rfl e500 rfl ?_
      obtain ⟨x502, h503, e501, hS⟩ := bd_s hS
      refine ev_callV (sa := [.int x499, .int x497]) (rest := [.int x495]) (st' := [.int x502, .int x495]) (ls0 := [.ref l2, .int x497, .int x499]) (rv := some (.int x502)) pm1 i1_1542 rfl rfl pm310 (by decide) (K_md_move e501) rfl rfl (Nat.le_of_ble_eq_true rfl) (by omega) rfl (R_md_move (d - 1) (by omega) e501) (by simp) rfl rfl ?_
      by_cases c917 : x495 = x502
      · rw [if_pos c917] at hS
        refine ev_icmp_eq_t (t := 1783) pm1 i1_1545 rfl c917 rfl rfl ?_
        refine ev_iinc (v := 6) (ls' := [.ref l0, .ref l1, .ref l2, .ref l3, .int (s + (6 : Int32)), unk, unk]) pm1 i1_1783 rfl rfl (by decide) rfl rfl ?_
        refine ev_goto (t := 23) pm1 i1_1786 rfl rfl ?_
        cases hS
        exact hK
      · rw [if_neg c917] at hS
        refine ev_icmp_eq_f (t := 1783) pm1 i1_1545 rfl c917 rfl rfl ?_
        refine ev_iconst (v := 0) pm1 i1_1548 rfl (by decide) rfl ?_
        cases hS
        exact ev_ireturn pm1 i1_1549 rfl (by decide) hK
    rw [if_neg c916] at hS
    by_cases c918 : (x16 &&& (63 : Int32)) = (43 : Int32)
    · rw [if_pos c918] at hS
      refine ev_tabI (t := 1550) (off := 1510) pm1 i1_40 rfl (43 : Int32) c918 (by decide) rfl rfl ?_
      refine ev_aload_n pm1 i1_1550 rfl rfl rfl ?_
      refine ev_aload_n pm1 i1_1551 rfl rfl rfl ?_
      refine ev_iload pm1 i1_1552 rfl rfl rfl ?_
      refine ev_iconst (v := 1) pm1 i1_1554 rfl (by decide) rfl ?_
      refine ev_b2 (f := fun x y => x + y) pm1 i1_1555 rfl (fun _ _ _ _ => rfl) rfl ?_
      obtain ⟨x504, e505, hS⟩ := bn_s hS
      refine ev_iald pm1 i1_1556 rfl e505 rfl ?_
      obtain ⟨x507, h508, e506, hS⟩ := bd_s hS
      refine ev_callV (sa := [.int x504]) (rest := []) (st' := [.int x507]) (ls0 := [.ref l1, .int x504]) (rv := some (.int x507)) pm1 i1_1557 rfl rfl pm168 (by decide) (K_cs_cut e506) rfl rfl (Nat.le_of_ble_eq_true rfl) (by omega) rfl (R_cs_cut (d - 1) (by omega) e506) (by simp) rfl rfl ?_
      refine ev_aload_n pm1 i1_1560 rfl rfl rfl ?_
      refine ev_aload_n pm1 i1_1561 rfl rfl rfl ?_
      refine ev_iload pm1 i1_1562 rfl rfl rfl ?_
      refine ev_iconst (v := 1) pm1 i1_1564 rfl (by decide) rfl ?_
      refine ev_b2 (f := fun x y => x + y) pm1 i1_1565 rfl (fun _ _ _ _ => rfl) rfl ?_
      obtain ⟨x509, e510, hS⟩ := bn_s hS
      refine ev_iald pm1 i1_1566 rfl e510 rfl ?_
      obtain ⟨x512, h513, e511, hS⟩ := bd_s hS
      refine ev_callV (sa := [.int x509]) (rest := [.int x507]) (st' := [.int x512, .int x507]) (ls0 := [.ref l2, .int x509]) (rv := some (.int x512)) pm1 i1_1567 rfl rfl pm313 (by decide) (K_md_cut e511) rfl rfl (Nat.le_of_ble_eq_true rfl) (by omega) rfl (R_md_cut (d - 1) (by omega) e511) (by simp) rfl rfl ?_
      by_cases c919 : x507 = x512
      · rw [if_pos c919] at hS
        refine ev_icmp_eq_t (t := 1783) pm1 i1_1570 rfl c919 rfl rfl ?_
        refine ev_iinc (v := 6) (ls' := [.ref l0, .ref l1, .ref l2, .ref l3, .int (s + (6 : Int32)), unk, unk]) pm1 i1_1783 rfl rfl (by decide) rfl rfl ?_
        refine ev_goto (t := 23) pm1 i1_1786 rfl rfl ?_
        cases hS
        exact hK
      · rw [if_neg c919] at hS
        refine ev_icmp_eq_f (t := 1783) pm1 i1_1570 rfl c919 rfl rfl ?_
        refine ev_iconst (v := 0) pm1 i1_1573 rfl (by decide) rfl ?_
        cases hS
        exact ev_ireturn pm1 i1_1574 rfl (by decide) hK
    rw [if_neg c918] at hS
    by_cases c920 : (x16 &&& (63 : Int32)) = (44 : Int32)
    · rw [if_pos c920] at hS
      refine ev_tabI (t := 1575) (off := 1535) pm1 i1_40 rfl (44 : Int32) c920 (by decide) rfl rfl ?_
      refine ev_aload_n pm1 i1_1575 rfl rfl rfl ?_
      refine ev_aload_n pm1 i1_1576 rfl rfl rfl ?_
      refine ev_iload pm1 i1_1577 rfl rfl rfl ?_
      refine ev_iconst (v := 1) pm1 i1_1579 rfl (by decide) rfl ?_
      refine ev_b2 (f := fun x y => x + y) pm1 i1_1580 rfl (fun _ _ _ _ => rfl) rfl ?_
      obtain ⟨x514, e515, hS⟩ := bn_s hS
      refine ev_iald pm1 i1_1581 rfl e515 rfl ?_
      obtain ⟨x517, h518, e516, hS⟩ := bd_s hS
      refine ev_callV (sa := [.int x514]) (rest := []) (st' := [.int x517]) (ls0 := [.ref l1, .int x514]) (rv := some (.int x517)) pm1 i1_1582 rfl rfl pm169 (by decide) (K_cs_tie e516) rfl rfl (Nat.le_of_ble_eq_true rfl) (by omega) rfl (R_cs_tie (d - 1) (by omega) e516) (by simp) rfl rfl ?_
      refine ev_aload_n pm1 i1_1585 rfl rfl rfl ?_
      refine ev_aload_n pm1 i1_1586 rfl rfl rfl ?_
      refine ev_iload pm1 i1_1587 rfl rfl rfl ?_
      refine ev_iconst (v := 1) pm1 i1_1589 rfl (by decide) rfl ?_
      refine ev_b2 (f := fun x y => x + y) pm1 i1_1590 rfl (fun _ _ _ _ => rfl) rfl ?_
      obtain ⟨x519, e520, hS⟩ := bn_s hS
      refine ev_iald pm1 i1_1591 rfl e520 rfl ?_
      obtain ⟨x522, h523, e521, hS⟩ := bd_s hS
      refine ev_callV (sa := [.int x519]) (rest := [.int x517]) (st' := [.int x522, .int x517]) (ls0 := [.ref l2, .int x519]) (rv := some (.int x522)) pm1 i1_1592 rfl rfl pm315 (by decide) (K_md_tie e521) rfl rfl (Nat.le_of_ble_eq_true rfl) (by omega) rfl (R_md_tie (d - 1) (by omega) e521) (by simp) rfl rfl ?_
      by_cases c921 : x517 = x522
      · rw [if_pos c921] at hS
        refine ev_icmp_eq_t (t := 1783) pm1 i1_1595 rfl c921 rfl rfl ?_
        refine ev_iinc (v := 6) (ls' := [.ref l0, .ref l1, .ref l2, .ref l3, .int (s + (6 : Int32)), unk, unk]) pm1 i1_1783 rfl rfl (by decide) rfl rfl ?_
        refine ev_goto (t := 23) pm1 i1_1786 rfl rfl ?_
        cases hS
        exact hK
      · rw [if_neg c921] at hS
        refine ev_icmp_eq_f (t := 1783) pm1 i1_1595 rfl c921 rfl rfl ?_
        refine ev_iconst (v := 0) pm1 i1_1598 rfl (by decide) rfl ?_
        cases hS
        exact ev_ireturn pm1 i1_1599 rfl (by decide) hK
    rw [if_neg c920] at hS
    by_cases c922 : (x16 &&& (63 : Int32)) = (45 : Int32)
    · rw [if_pos c922] at hS
      refine ev_tabI (t := 1600) (off := 1560) pm1 i1_40 rfl (45 : Int32) c922 (by decide) rfl rfl ?_
      refine ev_aload_n pm1 i1_1600 rfl rfl rfl ?_
      obtain ⟨x525, h526, e524, hS⟩ := bd_s hS
      refine ev_callV (sa := []) (rest := []) (st' := [.int x525]) (ls0 := [.ref l1]) (rv := some (.int x525)) pm1 i1_1601 rfl rfl pm170 (by decide) (K_cs_week e524) rfl rfl (Nat.le_of_ble_eq_true rfl) (by omega) rfl (R_cs_week (d - 1) (by omega) e524) (by simp) rfl rfl ?_
      refine ev_aload_n pm1 i1_1604 rfl rfl rfl ?_
      obtain ⟨x528, h529, e527, hS⟩ := bd_s hS
      refine ev_callV (sa := []) (rest := [.int x525]) (st' := [.int x528, .int x525]) (ls0 := [.ref l2, unk]) (rv := some (.int x528)) pm1 i1_1605 rfl rfl pm316 (by decide) (K_md_week e527) rfl rfl (Nat.le_of_ble_eq_true rfl) (by omega) rfl (R_md_week (d - 1) (by omega) e527) (by simp) rfl rfl ?_
      by_cases c923 : x525 = x528
      · rw [if_pos c923] at hS
        refine ev_icmp_eq_t (t := 1783) pm1 i1_1608 rfl c923 rfl rfl ?_
        refine ev_iinc (v := 6) (ls' := [.ref l0, .ref l1, .ref l2, .ref l3, .int (s + (6 : Int32)), unk, unk]) pm1 i1_1783 rfl rfl (by decide) rfl rfl ?_
        refine ev_goto (t := 23) pm1 i1_1786 rfl rfl ?_
        cases hS
        exact hK
      · rw [if_neg c923] at hS
        refine ev_icmp_eq_f (t := 1783) pm1 i1_1608 rfl c923 rfl rfl ?_
        refine ev_iconst (v := 0) pm1 i1_1611 rfl (by decide) rfl ?_
        cases hS
        exact ev_ireturn pm1 i1_1612 rfl (by decide) hK
    rw [if_neg c922] at hS
    by_cases c924 : (x16 &&& (63 : Int32)) = (46 : Int32)
    · rw [if_pos c924] at hS
      refine ev_tabI (t := 1613) (off := 1573) pm1 i1_40 rfl (46 : Int32) c924 (by decide) rfl rfl ?_
      refine ev_aload_n pm1 i1_1613 rfl rfl rfl ?_
      refine ev_aload_n pm1 i1_1614 rfl rfl rfl ?_
      refine ev_iload pm1 i1_1615 rfl rfl rfl ?_
      refine ev_iconst (v := 1) pm1 i1_1617 rfl (by decide) rfl ?_
      refine ev_b2 (f := fun x y => x + y) pm1 i1_1618 rfl (fun _ _ _ _ => rfl) rfl ?_
      obtain ⟨x530, e531, hS⟩ := bn_s hS
      refine ev_iald pm1 i1_1619 rfl e531 rfl ?_
      obtain ⟨x533, h534, e532, hS⟩ := bd_s hS
      refine ev_callV (sa := [.int x530]) (rest := []) (st' := [.int x533]) (ls0 := [.ref l1, .int x530]) (rv := some (.int x533)) pm1 i1_1620 rfl rfl pm171 (by decide) (K_cs_seed e532) rfl rfl (Nat.le_of_ble_eq_true rfl) (by omega) rfl (R_cs_seed (d - 1) (by omega) e532) (by simp) rfl rfl ?_
      refine ev_aload_n pm1 i1_1623 rfl rfl rfl ?_
      refine ev_aload_n pm1 i1_1624 rfl rfl rfl ?_
      refine ev_iload pm1 i1_1625 rfl rfl rfl ?_
      refine ev_iconst (v := 1) pm1 i1_1627 rfl (by decide) rfl ?_
      refine ev_b2 (f := fun x y => x + y) pm1 i1_1628 rfl (fun _ _ _ _ => rfl) rfl ?_
      obtain ⟨x535, e536, hS⟩ := bn_s hS
      refine ev_iald pm1 i1_1629 rfl e536 rfl ?_
      obtain ⟨x538, h539, e537, hS⟩ := bd_s hS
      refine ev_callV (sa := [.int x535]) (rest := [.int x533]) (st' := [.int x538, .int x533]) (ls0 := [.ref l2, .int x535]) (rv := some (.int x538)) pm1 i1_1630 rfl rfl pm317 (by decide) (K_md_seed e537) rfl rfl (Nat.le_of_ble_eq_true rfl) (by omega) rfl (R_md_seed (d - 1) (by omega) e537) (by simp) rfl rfl ?_
      by_cases c925 : x533 = x538
      · rw [if_pos c925] at hS
        refine ev_icmp_eq_t (t := 1783) pm1 i1_1633 rfl c925 rfl rfl ?_
        refine ev_iinc (v := 6) (ls' := [.ref l0, .ref l1, .ref l2, .ref l3, .int (s + (6 : Int32)), unk, unk]) pm1 i1_1783 rfl rfl (by decide) rfl rfl ?_
        refine ev_goto (t := 23) pm1 i1_1786 rfl rfl ?_
        cases hS
        exact hK
      · rw [if_neg c925] at hS
        refine ev_icmp_eq_f (t := 1783) pm1 i1_1633 rfl c925 rfl rfl ?_
        refine ev_iconst (v := 0) pm1 i1_1636 rfl (by decide) rfl ?_
        cases hS
        exact ev_ireturn pm1 i1_1637 rfl (by decide) hK
    rw [if_neg c924] at hS
    by_cases c926 : (x16 &&& (63 : Int32)) = (47 : Int32)
    · rw [if_pos c926] at hS
      refine ev_tabI (t := 1638) (off := 1598) pm1 i1_40 rfl (47 : Int32) c926 (by decide) rfl rfl ?_
      refine ev_aload_n pm1 i1_1638 rfl rfl rfl ?_
      obtain ⟨x541, h542, e540, hS⟩ := bd_s hS
      refine ev_callV (sa := []) (rest := []) (st' := [.int x541]) (ls0 := [.ref l1]) (rv := some (.int x541)) pm1 i1_1639 rfl rfl pm172 (by decide) (K_cs_undo e540) rfl rfl (Nat.le_of_ble_eq_true rfl) (by omega) rfl (R_cs_undo (d - 1) (by omega) e540) (by simp) rfl rfl ?_
      refine ev_aload_n pm1 i1_1642 rfl rfl rfl ?_
      obtain ⟨x544, h545, e543, hS⟩ := bd_s hS
      refine ev_callV (sa := []) (rest := [.int x541]) (st' := [.int x544, .int x541]) (ls0 := [.ref l2, unk]) (rv := some (.int x544)) pm1 i1_1643 rfl rfl pm318 (by decide) (K_md_undo e543) rfl rfl (Nat.le_of_ble_eq_true rfl) (by omega) rfl (R_md_undo (d - 1) (by omega) e543) (by simp) rfl rfl ?_
      by_cases c927 : x541 = x544
      · rw [if_pos c927] at hS
        refine ev_icmp_eq_t (t := 1783) pm1 i1_1646 rfl c927 rfl rfl ?_
        refine ev_iinc (v := 6) (ls' := [.ref l0, .ref l1, .ref l2, .ref l3, .int (s + (6 : Int32)), unk, unk]) pm1 i1_1783 rfl rfl (by decide) rfl rfl ?_
        refine ev_goto (t := 23) pm1 i1_1786 rfl rfl ?_
        cases hS
        exact hK
      · rw [if_neg c927] at hS
        refine ev_icmp_eq_f (t := 1783) pm1 i1_1646 rfl c927 rfl rfl ?_
        refine ev_iconst (v := 0) pm1 i1_1649 rfl (by decide) rfl ?_
        cases hS
        exact ev_ireturn pm1 i1_1650 rfl (by decide) hK
    rw [if_neg c926] at hS
    by_cases c928 : (x16 &&& (63 : Int32)) = (48 : Int32)
    · rw [if_pos c928] at hS
      refine ev_tabI (t := 1651) (off := 1611) pm1 i1_40 rfl (48 : Int32) c928 (by decide) rfl rfl ?_
      refine ev_aload_n pm1 i1_1651 rfl rfl rfl ?_
      obtain ⟨x547, h548, e546, hS⟩ := bd_s hS
      refine ev_callV (sa := []) (rest := []) (st' := [.int x547]) (ls0 := [.ref l1]) (rv := some (.int x547)) pm1 i1_1652 rfl rfl pm175 (by decide) (K_cs_image e546) rfl rfl (Nat.le_of_ble_eq_true rfl) (by omega) rfl (R_cs_image (d - 1) (by omega) e546) (by simp) rfl rfl ?_
      refine ev_aload_n pm1 i1_1655 rfl rfl rfl ?_
      obtain ⟨x550, h551, e549, hS⟩ := bd_s hS
      refine ev_callV (sa := []) (rest := [.int x547]) (st' := [.int x550, .int x547]) (ls0 := [.ref l2, unk]) (rv := some (.int x550)) pm1 i1_1656 rfl rfl pm319 (by decide) (K_md_image e549) rfl rfl (Nat.le_of_ble_eq_true rfl) (by omega) rfl (R_md_image (d - 1) (by omega) e549) (by simp) rfl rfl ?_
      by_cases c929 : x547 = x550
      · rw [if_pos c929] at hS
        refine ev_icmp_eq_t (t := 1783) pm1 i1_1659 rfl c929 rfl rfl ?_
        refine ev_iinc (v := 6) (ls' := [.ref l0, .ref l1, .ref l2, .ref l3, .int (s + (6 : Int32)), unk, unk]) pm1 i1_1783 rfl rfl (by decide) rfl rfl ?_
        refine ev_goto (t := 23) pm1 i1_1786 rfl rfl ?_
        cases hS
        exact hK
      · rw [if_neg c929] at hS
        refine ev_icmp_eq_f (t := 1783) pm1 i1_1659 rfl c929 rfl rfl ?_
        refine ev_iconst (v := 0) pm1 i1_1662 rfl (by decide) rfl ?_
        cases hS
        exact ev_ireturn pm1 i1_1663 rfl (by decide) hK
    rw [if_neg c928] at hS
    by_cases c930 : (x16 &&& (63 : Int32)) = (49 : Int32)
    · rw [if_pos c930] at hS
      refine ev_tabI (t := 1664) (off := 1624) pm1 i1_40 rfl (49 : Int32) c930 (by decide) rfl rfl ?_
      refine ev_aload_n pm1 i1_1664 rfl rfl rfl ?_
      refine ev_aload_n pm1 i1_1665 rfl rfl rfl ?_
      refine ev_iload pm1 i1_1666 rfl rfl rfl ?_
      refine ev_iconst (v := 1) pm1 i1_1668 rfl (by decide) rfl ?_
      refine ev_b2 (f := fun x y => x + y) pm1 i1_1669 rfl (fun _ _ _ _ => rfl) rfl ?_
      obtain ⟨x552, e553, hS⟩ := bn_s hS
      refine ev_iald pm1 i1_1670 rfl e553 rfl ?_
      obtain ⟨x555, h556, e554, hS⟩ := bd_s hS
      refine ev_callV (sa := [.int x552]) (rest := []) (st' := [.int x555]) (ls0 := [.ref l1, .int x552]) (rv := some (.int x555)) pm1 i1_1671 rfl rfl pm177 (by decide) (K_cs_back e554) rfl rfl (Nat.le_of_ble_eq_true rfl) (by omega) rfl (R_cs_back (d - 1) (by omega) e554) (by simp) rfl rfl ?_
      refine ev_aload_n pm1 i1_1674 rfl rfl rfl ?_
      refine ev_aload_n pm1 i1_1675 rfl rfl rfl ?_
      refine ev_iload pm1 i1_1676 rfl rfl rfl ?_
      refine ev_iconst (v := 1) pm1 i1_1678 rfl (by decide) rfl ?_
      refine ev_b2 (f := fun x y => x + y) pm1 i1_1679 rfl (fun _ _ _ _ => rfl) rfl ?_
      obtain ⟨x557, e558, hS⟩ := bn_s hS
      refine ev_iald pm1 i1_1680 rfl e558 rfl ?_
      obtain ⟨x560, h561, e559, hS⟩ := bd_s hS
      refine ev_callV (sa := [.int x557]) (rest := [.int x555]) (st' := [.int x560, .int x555]) (ls0 := [.ref l2, .int x557, unk]) (rv := some (.int x560)) pm1 i1_1681 rfl rfl pm320 (by decide) (K_md_back e559) rfl rfl (Nat.le_of_ble_eq_true rfl) (by omega) rfl (R_md_back (d - 1) (by omega) e559) (by simp) rfl rfl ?_
      by_cases c931 : x555 = x560
      · rw [if_pos c931] at hS
        refine ev_icmp_eq_t (t := 1783) pm1 i1_1684 rfl c931 rfl rfl ?_
        refine ev_iinc (v := 6) (ls' := [.ref l0, .ref l1, .ref l2, .ref l3, .int (s + (6 : Int32)), unk, unk]) pm1 i1_1783 rfl rfl (by decide) rfl rfl ?_
        refine ev_goto (t := 23) pm1 i1_1786 rfl rfl ?_
        cases hS
        exact hK
      · rw [if_neg c931] at hS
        refine ev_icmp_eq_f (t := 1783) pm1 i1_1684 rfl c931 rfl rfl ?_
        refine ev_iconst (v := 0) pm1 i1_1687 rfl (by decide) rfl ?_
        cases hS
        exact ev_ireturn pm1 i1_1688 rfl (by decide) hK
    rw [if_neg c930] at hS
    by_cases c932 : (x16 &&& (63 : Int32)) = (50 : Int32)
    · rw [if_pos c932] at hS
      refine ev_tabI (t := 1689) (off := 1649) pm1 i1_40 rfl (50 : Int32) c932 (by decide) rfl rfl ?_
      refine ev_aload_n pm1 i1_1689 rfl rfl rfl ?_
      refine ev_aload_n pm1 i1_1690 rfl rfl rfl ?_
      refine ev_iload pm1 i1_1691 rfl rfl rfl ?_
      refine ev_iconst (v := 1) pm1 i1_1693 rfl (by decide) rfl ?_
      refine ev_b2 (f := fun x y => x + y) pm1 i1_1694 rfl (fun _ _ _ _ => rfl) rfl ?_
      obtain ⟨x562, e563, hS⟩ := bn_s hS
      refine ev_iald pm1 i1_1695 rfl e563 rfl ?_
      refine ev_aload_n pm1 i1_1696 rfl rfl rfl ?_
      obtain ⟨x565, h566, e564, hS⟩ := bd_s hS
      refine ev_callS (sa := [.ref l3, .int x562, .ref l1]) (rest := []) (st' := [.int x565]) (ls0 := [.ref l1, .int x562, .ref l3, unk]) (rv := some (.int x565)) pm1 i1_1697 rfl rfl pm0 (by decide) rfl rfl (Nat.le_of_ble_eq_true rfl) (by omega) rfl (R_lw_led (d - 1) (by omega) e564) (by simp) rfl rfl ?_
      refine ev_istore (ls' := [.ref l0, .ref l1, .ref l2, .ref l3, .int s, .int x565, unk]) pm1 i1_1700 rfl (Nat.le_of_ble_eq_true rfl) rfl rfl ?_
      refine ev_aload_n pm1 i1_1702 rfl rfl rfl ?_
      refine ev_aload_n pm1 i1_1703 rfl rfl rfl ?_
      refine ev_iload pm1 i1_1704 rfl rfl rfl ?_
      refine ev_iconst (v := 1) pm1 i1_1706 rfl (by decide) rfl ?_
      refine ev_b2 (f := fun x y => x + y) pm1 i1_1707 rfl (fun _ _ _ _ => rfl) rfl ?_
      obtain ⟨x567, e568, hS⟩ := bn_s hS
      refine ev_iald pm1 i1_1708 rfl e568 rfl ?_
      obtain ⟨x570, h571, e569, hS⟩ := bd_s hS
      refine ev_callV (sa := [.int x567]) (rest := []) (st' := [.int x570]) (ls0 := [.ref l2, .int x567, unk, unk]) (rv := some (.int x570)) pm1 i1_1709 rfl rfl pm321 (by decide) (K_md_led e569) rfl rfl (Nat.le_of_ble_eq_true rfl) (by omega) rfl (R_md_led (d - 1) (by omega) e569) (by simp) rfl rfl ?_
      refine ev_istore (ls' := [.ref l0, .ref l1, .ref l2, .ref l3, .int s, .int x565, .int x570]) pm1 i1_1712 rfl (Nat.le_of_ble_eq_true rfl) rfl rfl ?_
      refine ev_aload_n pm1 i1_1714 rfl rfl rfl ?_
      obtain ⟨x573, e572, hS⟩ := bn_s hS
      refine ev_callV (sa := []) (rest := []) (st' := [.int x573]) (ls0 := [.ref l2]) (rv := some (.int x573)) pm1 i1_1715 rfl rfl pm183 (by decide) (K_md_thrown e572) rfl rfl (Nat.le_of_ble_eq_true rfl) (by omega) rfl (R_md_thrown (d - 1) (by omega) e572) (by simp) rfl rfl ?_
      refine ev_iload pm1 i1_1718 rfl rfl rfl ?_
      by_cases c933 : x573 = x565
      · rw [if_pos c933] at hS
        refine ev_icmp_eq_t (t := 1725) pm1 i1_1720 rfl c933 rfl rfl ?_
        refine ev_iload pm1 i1_1725 rfl rfl rfl ?_
        by_cases c934 : x565 = (0 : Int32)
        · rw [if_pos c934] at hS
          refine ev_if_ne_t (t := 1742) pm1 i1_1727 rfl c934 rfl rfl ?_
          refine ev_aload_n pm1 i1_1730 rfl rfl rfl ?_
          refine ev_iconst (v := 0) pm1 i1_1731 rfl (by decide) rfl ?_
          obtain ⟨x574, e575, hS⟩ := bn_s hS
          refine ev_lald pm1 i1_1732 rfl e575 rfl ?_
          refine ev_iload pm1 i1_1733 rfl rfl rfl ?_
          refine ev_i2l pm1 i1_1735 rfl rfl ?_
          refine ev_lcmp pm1 i1_1736 rfl rfl ?_
          by_cases c935 : (lg_cmp x574 x570.toInt64) = (0 : Int32)
          · rw [if_pos c935] at hS
            refine ev_if_eq_t (t := 1742) pm1 i1_1737 rfl c935 rfl rfl ?_
            refine ev_kls (ls' := [.ref l0, .ref l1, .ref l2, .ref l3, .int s, unk, unk]) pm1 i1_1742 rfl rfl ?_
            refine ev_goto (t := 1783) pm1 i1_1742 rfl rfl ?_
            refine ev_iinc (v := 6) (ls' := [.ref l0, .ref l1, .ref l2, .ref l3, .int (s + (6 : Int32)), unk, unk]) pm1 i1_1783 rfl rfl (by decide) rfl rfl ?_
            refine ev_goto (t := 23) pm1 i1_1786 rfl rfl ?_
            cases hS
            exact hK
          · rw [if_neg c935] at hS
            refine ev_if_eq_f (t := 1742) pm1 i1_1737 rfl c935 rfl rfl ?_
            refine ev_iconst (v := 0) pm1 i1_1740 rfl (by decide) rfl ?_
            cases hS
            exact ev_ireturn pm1 i1_1741 rfl (by decide) hK
        · rw [if_neg c934] at hS
          refine ev_if_ne_f (t := 1742) pm1 i1_1727 rfl c934 rfl rfl ?_
          refine ev_kls (ls' := [.ref l0, .ref l1, .ref l2, .ref l3, .int s, unk, unk]) pm1 i1_1742 rfl rfl ?_
          refine ev_goto (t := 1783) pm1 i1_1742 rfl rfl ?_
          refine ev_iinc (v := 6) (ls' := [.ref l0, .ref l1, .ref l2, .ref l3, .int (s + (6 : Int32)), unk, unk]) pm1 i1_1783 rfl rfl (by decide) rfl rfl ?_
          refine ev_goto (t := 23) pm1 i1_1786 rfl rfl ?_
          cases hS
          exact hK
      · rw [if_neg c933] at hS
        refine ev_icmp_eq_f (t := 1725) pm1 i1_1720 rfl c933 rfl rfl ?_
        refine ev_iconst (v := 0) pm1 i1_1723 rfl (by decide) rfl ?_
        cases hS
        exact ev_ireturn pm1 i1_1724 rfl (by decide) hK
    rw [if_neg c932] at hS
    by_cases c936 : (x16 &&& (63 : Int32)) = (51 : Int32)
    · rw [if_pos c936] at hS
      refine ev_tabI (t := 1745) (off := 1705) pm1 i1_40 rfl (51 : Int32) c936 (by decide) rfl rfl ?_
      refine ev_aload_n pm1 i1_1745 rfl rfl rfl ?_
      refine ev_aload_n pm1 i1_1746 rfl rfl rfl ?_
      refine ev_iload pm1 i1_1747 rfl rfl rfl ?_
      refine ev_iconst (v := 1) pm1 i1_1749 rfl (by decide) rfl ?_
      refine ev_b2 (f := fun x y => x + y) pm1 i1_1750 rfl (fun _ _ _ _ => rfl) rfl ?_
      obtain ⟨x576, e577, hS⟩ := bn_s hS
      refine ev_iald pm1 i1_1751 rfl e577 rfl ?_
      obtain ⟨x579, e578, hS⟩ := bn_s hS
      refine ev_callV (sa := [.int x576]) (rest := []) (st' := [.int x579]) (ls0 := [.ref l1, .int x576]) (rv := some (.int x579)) pm1 i1_1752 rfl rfl pm179 (by decide) (K_cs_size e578) rfl rfl (Nat.le_of_ble_eq_true rfl) (by omega) rfl (R_cs_size (d - 1) (by omega) e578) (by simp) rfl rfl ?_
      refine ev_aload_n pm1 i1_1755 rfl rfl rfl ?_
      refine ev_aload_n pm1 i1_1756 rfl rfl rfl ?_
      refine ev_iload pm1 i1_1757 rfl rfl rfl ?_
      refine ev_iconst (v := 1) pm1 i1_1759 rfl (by decide) rfl ?_
      refine ev_b2 (f := fun x y => x + y) pm1 i1_1760 rfl (fun _ _ _ _ => rfl) rfl ?_
      obtain ⟨x580, e581, hS⟩ := bn_s hS
      refine ev_iald pm1 i1_1761 rfl e581 rfl ?_
      obtain ⟨x583, h584, e582, hS⟩ := bd_s hS
      refine ev_callV (sa := [.int x580]) (rest := [.int x579]) (st' := [.int x583, .int x579]) (ls0 := [.ref l2, .int x580]) (rv := some (.int x583)) pm1 i1_1762 rfl rfl pm322 (by decide) (K_md_size e582) rfl rfl (Nat.le_of_ble_eq_true rfl) (by omega) rfl (R_md_size (d - 1) (by omega) e582) (by simp) rfl rfl ?_
      by_cases c937 : x579 = x583
      · rw [if_pos c937] at hS
        refine ev_icmp_eq_t (t := 1783) pm1 i1_1765 rfl c937 rfl rfl ?_
        refine ev_iinc (v := 6) (ls' := [.ref l0, .ref l1, .ref l2, .ref l3, .int (s + (6 : Int32)), unk, unk]) pm1 i1_1783 rfl rfl (by decide) rfl rfl ?_
        refine ev_goto (t := 23) pm1 i1_1786 rfl rfl ?_
        cases hS
        exact hK
      · rw [if_neg c937] at hS
        refine ev_icmp_eq_f (t := 1783) pm1 i1_1765 rfl c937 rfl rfl ?_
        refine ev_iconst (v := 0) pm1 i1_1768 rfl (by decide) rfl ?_
        cases hS
        exact ev_ireturn pm1 i1_1769 rfl (by decide) hK
    rw [if_neg c936] at hS
    by_cases c938 : (x16 &&& (63 : Int32)) = (52 : Int32)
    · rw [if_pos c938] at hS
      refine ev_tabI (t := 1770) (off := 1730) pm1 i1_40 rfl (52 : Int32) c938 (by decide) rfl rfl ?_
      refine ev_aload_n pm1 i1_1770 rfl rfl rfl ?_
      obtain ⟨x586, e585, hS⟩ := bn_s hS
      refine ev_callV (sa := []) (rest := []) (st' := [.int x586]) (ls0 := [.ref l1]) (rv := some (.int x586)) pm1 i1_1771 rfl rfl pm180 (by decide) (K_cs_trouble e585) rfl rfl (Nat.le_of_ble_eq_true rfl) (by omega) rfl (R_cs_trouble (d - 1) (by omega) e585) (by simp) rfl rfl ?_
      refine ev_aload_n pm1 i1_1774 rfl rfl rfl ?_
      obtain ⟨x588, h589, e587, hS⟩ := bd_s hS
      refine ev_callV (sa := []) (rest := [.int x586]) (st' := [.int x588, .int x586]) (ls0 := [.ref l2]) (rv := some (.int x588)) pm1 i1_1775 rfl rfl pm323 (by decide) (K_md_trouble e587) rfl rfl (Nat.le_of_ble_eq_true rfl) (by omega) rfl (R_md_trouble (d - 1) (by omega) e587) (by simp) rfl rfl ?_
      by_cases c939 : x586 = x588
      · rw [if_pos c939] at hS
        refine ev_icmp_eq_t (t := 1783) pm1 i1_1778 rfl c939 rfl rfl ?_
        refine ev_iinc (v := 6) (ls' := [.ref l0, .ref l1, .ref l2, .ref l3, .int (s + (6 : Int32)), unk, unk]) pm1 i1_1783 rfl rfl (by decide) rfl rfl ?_
        refine ev_goto (t := 23) pm1 i1_1786 rfl rfl ?_
        cases hS
        exact hK
      · rw [if_neg c939] at hS
        refine ev_icmp_eq_f (t := 1783) pm1 i1_1778 rfl c939 rfl rfl ?_
        refine ev_iconst (v := 0) pm1 i1_1781 rfl (by decide) rfl ?_
        cases hS
        exact ev_ireturn pm1 i1_1782 rfl (by decide) hK
    rw [if_neg c938] at hS
    cases hS
def F_lw_law (a0 : Nat) (h : Hp) : Option (Int32 × Hp) :=
  bd (nO h 11) fun x1 h2 =>
  bn (F_cs_init x1 h2) fun h5 =>
  bd (nO h5 13) fun x6 h7 =>
  bn (F_md_init x6 h7) fun h10 =>
  bd (nA h10 102 (1 : Int32)) fun x11 h12 =>
  bd (lp (B_lw_law_23 a0 x1 x6 x11) FU (0 : Int32) h12) fun x590 h592 =>
  ei x590 (fun q593 =>
  some ((1 : Int32), h592))
  (fun x594 => some (x594, h592))
set_option maxRecDepth 20000 in
theorem R_lw_law (d : Nat) (hd : 24 ≤ d) {a0 : Nat} {h : Hp} {v : Int32} {h' : Hp} (hS : F_lw_law a0 h = some (v, h')) : Ev P d 1 (0, [.ref a0, unk, unk, unk, unk, unk, unk], [], h) (some (.int v), h') := by
  unfold F_lw_law at hS
  obtain ⟨x1, h2, e3, hS⟩ := bd_s hS
  refine ev_new pm1 i1_0 rfl rfl (by decide) e3 rfl ?_
  refine ev_dup pm1 i1_3 rfl rfl rfl ?_
  obtain ⟨h5, e4, hS⟩ := bn_s hS
  refine ev_callI (sa := []) (rest := [.ref x1]) (st' := [.ref x1]) (ls0 := [.ref x1]) (rv := none) pm1 i1_4 rfl rfl (by decide) pm2 (by decide) rfl rfl (Nat.le_of_ble_eq_true rfl) (by omega) rfl (R_cs_init (d - 1) (by omega) e4) (by simp) rfl rfl ?_
  refine ev_astore_n (ls' := [.ref a0, .ref x1, unk, unk, unk, unk, unk]) pm1 i1_7 rfl (Nat.le_of_ble_eq_true rfl) rfl rfl ?_
  obtain ⟨x6, h7, e8, hS⟩ := bd_s hS
  refine ev_new pm1 i1_8 rfl rfl (by decide) e8 rfl ?_
  refine ev_dup pm1 i1_11 rfl rfl rfl ?_
  obtain ⟨h10, e9, hS⟩ := bn_s hS
  refine ev_callI (sa := []) (rest := [.ref x6]) (st' := [.ref x6]) (ls0 := [.ref x6]) (rv := none) pm1 i1_12 rfl rfl (by decide) pm182 (by decide) rfl rfl (Nat.le_of_ble_eq_true rfl) (by omega) rfl (R_md_init (d - 1) (by omega) e9) (by simp) rfl rfl ?_
  refine ev_astore_n (ls' := [.ref a0, .ref x1, .ref x6, unk, unk, unk, unk]) pm1 i1_15 rfl (Nat.le_of_ble_eq_true rfl) rfl rfl ?_
  refine ev_iconst (v := 1) pm1 i1_16 rfl (by decide) rfl ?_
  obtain ⟨x11, h12, e13, hS⟩ := bd_s hS
  refine ev_newJ pm1 i1_17 rfl e13 rfl ?_
  refine ev_astore_n (ls' := [.ref a0, .ref x1, .ref x6, .ref x11, unk, unk, unk]) pm1 i1_19 rfl (Nat.le_of_ble_eq_true rfl) rfl rfl ?_
  refine ev_iconst (v := 0) pm1 i1_20 rfl (by decide) rfl ?_
  refine ev_istore (ls' := [.ref a0, .ref x1, .ref x6, .ref x11, .int (0 : Int32), unk, unk]) pm1 i1_21 rfl (Nat.le_of_ble_eq_true rfl) rfl rfl ?_
  obtain ⟨x590, h592, e591, hS⟩ := bd_s hS
  refine L_lw_law_23 d (by omega) _ _ _ _ _ e591 _ ?_
  cases x590 with
  | inl q593 =>
    replace hS := ei_l hS
    show Ev P d 1 (1789, [unk, unk, unk, unk, unk, unk, unk], [], h592) _
    refine ev_iconst (v := 1) pm1 i1_1789 rfl (by decide) rfl ?_
    cases hS
    exact ev_ireturn pm1 i1_1790 rfl (by decide) rfl
  | inr x594 =>
    replace hS := ei_r hS
    cases hS
    rfl
