def B_ra_lowestHouse_4 (l0 : Nat) (h : Hp) (s : Int32 × Int32) : Option ((Int32 × Int32) ⊕ (Int32)) :=
  bn (gI h l0 6 0) fun x1 =>
  if s.2 < x1 then
    (bn (gR h l0 6 3) fun x3 =>
    bn (aI h 100 x3 s.2) fun x5 =>
    bn (gR h l0 6 3) fun x7 =>
    bn (aI h 100 x7 s.1) fun x9 =>
    if x5 < x9 then
      (some (.inl (s.2, s.2 + (1 : Int32))))
    else
      (some (.inl (s.1, s.2 + (1 : Int32)))))
  else
    (some (.inr s.1))
set_option maxRecDepth 20000 in
theorem L_ra_lowestHouse_4 (d : Nat) (hd : 0 ≤ d) {l0 : Nat} {h : Hp} : ∀ (n : Nat) (s : Int32 × Int32) (x : Int32), lq (B_ra_lowestHouse_4 l0 h) n s = some x → ∀ r, Ev P d 89 (35, [unk, .int x, unk], [], h) r → Ev P d 89 (4, [.ref l0, .int s.1, .int s.2], [], h) r := by
  refine lq_ev (G0 := fun (s : Int32 × Int32) r => Ev P d 89 (4, [.ref l0, .int s.1, .int s.2], [], h) r) (X := fun (x : Int32) r => Ev P d 89 (35, [unk, .int x, unk], [], h) r) ?_
  intro s y hS r hK
  unfold B_ra_lowestHouse_4 at hS
  show Ev P d 89 (4, [.ref l0, .int s.1, .int s.2], [], h) r
  refine ev_iload_n pm89 i89_4 rfl rfl rfl ?_
  refine ev_aload_n pm89 i89_5 rfl rfl rfl ?_
  obtain ⟨x1, e2, hS⟩ := bn_s hS
  refine ev_getI pm89 i89_6 rfl rfl (by decide) e2 rfl ?_
  by_cases c242 : s.2 < x1
  · rw [if_pos c242] at hS
    refine ev_icmp_ge_t (t := 35) pm89 i89_9 rfl c242 rfl rfl ?_
    refine ev_aload_n pm89 i89_12 rfl rfl rfl ?_
    obtain ⟨x3, e4, hS⟩ := bn_s hS
    refine ev_getR pm89 i89_13 rfl rfl rfl e4 rfl ?_
    refine ev_iload_n pm89 i89_16 rfl rfl rfl ?_
    obtain ⟨x5, e6, hS⟩ := bn_s hS
    refine ev_iald pm89 i89_17 rfl e6 rfl ?_
    refine ev_aload_n pm89 i89_18 rfl rfl rfl ?_
    obtain ⟨x7, e8, hS⟩ := bn_s hS
    refine ev_getR pm89 i89_19 rfl rfl rfl e8 rfl ?_
    refine ev_iload_n pm89 i89_22 rfl rfl rfl ?_
    obtain ⟨x9, e10, hS⟩ := bn_s hS
    refine ev_iald pm89 i89_23 rfl e10 rfl ?_
    by_cases c243 : x5 < x9
    · rw [if_pos c243] at hS
      refine ev_icmp_ge_t (t := 29) pm89 i89_24 rfl c243 rfl rfl ?_
      refine ev_iload_n pm89 i89_27 rfl rfl rfl ?_
      refine ev_istore_n (ls' := [.ref l0, .int s.2, .int s.2]) pm89 i89_28 rfl (Nat.le_of_ble_eq_true rfl) rfl rfl ?_
      refine ev_iinc (v := 1) (ls' := [.ref l0, .int s.2, .int (s.2 + (1 : Int32))]) pm89 i89_29 rfl rfl (by decide) rfl rfl ?_
      refine ev_goto (t := 4) pm89 i89_32 rfl rfl ?_
      cases hS
      exact hK
    · rw [if_neg c243] at hS
      refine ev_icmp_ge_f (t := 29) pm89 i89_24 rfl c243 rfl rfl ?_
      refine ev_iinc (v := 1) (ls' := [.ref l0, .int s.1, .int (s.2 + (1 : Int32))]) pm89 i89_29 rfl rfl (by decide) rfl rfl ?_
      refine ev_goto (t := 4) pm89 i89_32 rfl rfl ?_
      cases hS
      exact hK
  · rw [if_neg c242] at hS
    refine ev_icmp_ge_f (t := 35) pm89 i89_9 rfl c242 rfl rfl ?_
    refine ev_kls (ls' := [unk, .int s.1, unk]) pm89 i89_35 rfl rfl ?_
    cases hS
    exact hK
def F_ra_lowestHouse (a0 : Nat) (h : Hp) : Option Int32 :=
  ck h a0 6 (bn (lq (B_ra_lowestHouse_4 a0 h) FU ((0 : Int32), (1 : Int32))) fun x11 =>
  some x11)
set_option maxRecDepth 20000 in
theorem K_ra_lowestHouse {a0 : Nat} {h : Hp} {v : Int32} (hS : F_ra_lowestHouse a0 h = some v) : kd h a0 = 6 := by
  unfold F_ra_lowestHouse at hS
  exact (ck_s hS).1
set_option maxRecDepth 20000 in
theorem R_ra_lowestHouse (d : Nat) (hd : 0 ≤ d) {a0 : Nat} {h : Hp} {v : Int32} (hS : F_ra_lowestHouse a0 h = some v) : Ev P d 89 (0, [.ref a0, unk, unk], [], h) (some (.int v), h) := by
  unfold F_ra_lowestHouse at hS
  replace hS := (ck_s hS).2
  refine ev_iconst (v := 0) pm89 i89_0 rfl (by decide) rfl ?_
  refine ev_istore_n (ls' := [.ref a0, .int (0 : Int32), unk]) pm89 i89_1 rfl (Nat.le_of_ble_eq_true rfl) rfl rfl ?_
  refine ev_iconst (v := 1) pm89 i89_2 rfl (by decide) rfl ?_
  refine ev_istore_n (ls' := [.ref a0, .int (0 : Int32), .int (1 : Int32)]) pm89 i89_3 rfl (Nat.le_of_ble_eq_true rfl) rfl rfl ?_
  obtain ⟨x11, e12, hS⟩ := bn_s hS
  refine L_ra_lowestHouse_4 d (by omega) _ _ _ e12 _ ?_
  show Ev P d 89 (35, [unk, .int x11, unk], [], h) _
  refine ev_iload_n pm89 i89_35 rfl rfl rfl ?_
  cases hS
  exact ev_ireturn pm89 i89_36 rfl rfl rfl
def F_cs_lowest (a0 : Nat) (h : Hp) : Option (Int32 × Hp) :=
  ck h a0 11 (bn (F_cs_noLake a0 h) fun x2 =>
  bd (F_cs_refused a0 x2 (0 : Int32) h) fun x4 h5 =>
  if x4 = (0 : Int32) then
    (bn (gR h5 a0 11 6) fun x6 =>
    bn (gR h5 a0 11 3) fun x8 =>
    bn (gR h5 a0 11 4) fun x10 =>
    bn (F_ra_measure x6 x8 x10 h5) fun h13 =>
    bn (gR h13 a0 11 6) fun x14 =>
    bn (F_ra_lowestHouse x14 h13) fun x17 =>
    some (x17, h13))
  else
    (some ((-1 : Int32), h5)))
set_option maxRecDepth 20000 in
theorem K_cs_lowest {a0 : Nat} {h : Hp} {v : Int32} {h' : Hp} (hS : F_cs_lowest a0 h = some (v, h')) : kd h a0 = 11 := by
  unfold F_cs_lowest at hS
  exact (ck_s hS).1
set_option maxRecDepth 20000 in
theorem R_cs_lowest (d : Nat) (hd : 4 ≤ d) {a0 : Nat} {h : Hp} {v : Int32} {h' : Hp} (hS : F_cs_lowest a0 h = some (v, h')) : Ev P d 88 (0, [.ref a0], [], h) (some (.int v), h') := by
  unfold F_cs_lowest at hS
  replace hS := (ck_s hS).2
  refine ev_aload_n pm88 i88_0 rfl rfl rfl ?_
  refine ev_aload_n pm88 i88_1 rfl rfl rfl ?_
  obtain ⟨x2, e1, hS⟩ := bn_s hS
  refine ev_callV (sa := []) (rest := [.ref a0]) (st' := [.int x2, .ref a0]) (ls0 := [.ref a0]) (rv := some (.int x2)) pm88 i88_2 rfl rfl pm86 (by decide) (K_cs_noLake e1) rfl rfl (Nat.le_of_ble_eq_true rfl) (by omega) rfl (R_cs_noLake (d - 1) (by omega) e1) (by simp) rfl rfl ?_
  refine ev_iconst (v := 0) pm88 i88_5 rfl (by decide) rfl ?_
  obtain ⟨x4, h5, e3, hS⟩ := bd_s hS
  refine ev_callV (sa := [.int (0 : Int32), .int x2]) (rest := []) (st' := [.int x4]) (ls0 := [.ref a0, .int x2, .int (0 : Int32)]) (rv := some (.int x4)) pm88 i88_6 rfl rfl pm18 (by decide) (K_cs_refused e3) rfl rfl (Nat.le_of_ble_eq_true rfl) (by omega) rfl (R_cs_refused (d - 1) (by omega) e3) (by simp) rfl rfl ?_
  by_cases c244 : x4 = (0 : Int32)
  · rw [if_pos c244] at hS
    refine ev_if_eq_t (t := 14) pm88 i88_9 rfl c244 rfl rfl ?_
    refine ev_aload_n pm88 i88_14 rfl rfl rfl ?_
    obtain ⟨x6, e7, hS⟩ := bn_s hS
    refine ev_getR pm88 i88_15 rfl rfl rfl e7 rfl ?_
    refine ev_aload_n pm88 i88_18 rfl rfl rfl ?_
    obtain ⟨x8, e9, hS⟩ := bn_s hS
    refine ev_getR pm88 i88_19 rfl rfl rfl e9 rfl ?_
    refine ev_aload_n pm88 i88_22 rfl rfl rfl ?_
    obtain ⟨x10, e11, hS⟩ := bn_s hS
    refine ev_getR pm88 i88_23 rfl rfl rfl e11 rfl ?_
    obtain ⟨h13, e12, hS⟩ := bn_s hS
    refine ev_callV (sa := [.ref x10, .ref x8]) (rest := []) (st' := []) (ls0 := [.ref x6, .ref x8, .ref x10]) (rv := none) pm88 i88_26 rfl rfl pm64 (by decide) (K_ra_measure e12) rfl rfl (Nat.le_of_ble_eq_true rfl) (by omega) rfl (R_ra_measure (d - 1) (by omega) e12) (by simp) rfl rfl ?_
    refine ev_aload_n pm88 i88_29 rfl rfl rfl ?_
    obtain ⟨x14, e15, hS⟩ := bn_s hS
    refine ev_getR pm88 i88_30 rfl rfl rfl e15 rfl ?_
    obtain ⟨x17, e16, hS⟩ := bn_s hS
    refine ev_callV (sa := []) (rest := []) (st' := [.int x17]) (ls0 := [.ref x14, unk, unk]) (rv := some (.int x17)) pm88 i88_33 rfl rfl pm89 (by decide) (K_ra_lowestHouse e16) rfl rfl (Nat.le_of_ble_eq_true rfl) (by omega) rfl (R_ra_lowestHouse (d - 1) (by omega) e16) (by simp) rfl rfl ?_
    cases hS
    exact ev_ireturn pm88 i88_36 rfl rfl rfl
  · rw [if_neg c244] at hS
    refine ev_if_eq_f (t := 14) pm88 i88_9 rfl c244 rfl rfl ?_
    refine ev_iconst (v := -1) pm88 i88_12 rfl (by decide) rfl ?_
    cases hS
    exact ev_ireturn pm88 i88_13 rfl rfl rfl
def B_ra_howMany_4 (l0 : Nat) (h : Hp) (s : Int32 × Int32) : Option ((Int32 × Int32) ⊕ (Int32)) :=
  bn (gI h l0 6 0) fun x1 =>
  if s.2 < x1 then
    (bn (F_ra_firstOf l0 s.2 h) fun x4 =>
    if x4 = s.2 then
      (some (.inl (s.1 + (1 : Int32), s.2 + (1 : Int32))))
    else
      (some (.inl (s.1, s.2 + (1 : Int32)))))
  else
    (some (.inr s.1))
set_option maxRecDepth 20000 in
theorem L_ra_howMany_4 (d : Nat) (hd : 1 ≤ d) {l0 : Nat} {h : Hp} : ∀ (n : Nat) (s : Int32 × Int32) (x : Int32), lq (B_ra_howMany_4 l0 h) n s = some x → ∀ r, Ev P d 91 (30, [unk, .int x, unk], [], h) r → Ev P d 91 (4, [.ref l0, .int s.1, .int s.2], [], h) r := by
  refine lq_ev (G0 := fun (s : Int32 × Int32) r => Ev P d 91 (4, [.ref l0, .int s.1, .int s.2], [], h) r) (X := fun (x : Int32) r => Ev P d 91 (30, [unk, .int x, unk], [], h) r) ?_
  intro s y hS r hK
  unfold B_ra_howMany_4 at hS
  show Ev P d 91 (4, [.ref l0, .int s.1, .int s.2], [], h) r
  refine ev_iload_n pm91 i91_4 rfl rfl rfl ?_
  refine ev_aload_n pm91 i91_5 rfl rfl rfl ?_
  obtain ⟨x1, e2, hS⟩ := bn_s hS
  refine ev_getI pm91 i91_6 rfl rfl (by decide) e2 rfl ?_
  by_cases c245 : s.2 < x1
  · rw [if_pos c245] at hS
    refine ev_icmp_ge_t (t := 30) pm91 i91_9 rfl c245 rfl rfl ?_
    refine ev_aload_n pm91 i91_12 rfl rfl rfl ?_
    refine ev_iload_n pm91 i91_13 rfl rfl rfl ?_
    obtain ⟨x4, e3, hS⟩ := bn_s hS
    refine ev_callV (sa := [.int s.2]) (rest := []) (st' := [.int x4]) (ls0 := [.ref l0, .int s.2, unk]) (rv := some (.int x4)) pm91 i91_14 rfl rfl pm71 (by decide) (K_ra_firstOf e3) rfl rfl (Nat.le_of_ble_eq_true rfl) (by omega) rfl (R_ra_firstOf (d - 1) (by omega) e3) (by simp) rfl rfl ?_
    refine ev_iload_n pm91 i91_17 rfl rfl rfl ?_
    by_cases c246 : x4 = s.2
    · rw [if_pos c246] at hS
      refine ev_icmp_ne_t (t := 24) pm91 i91_18 rfl c246 rfl rfl ?_
      refine ev_iinc (v := 1) (ls' := [.ref l0, .int (s.1 + (1 : Int32)), .int s.2]) pm91 i91_21 rfl rfl (by decide) rfl rfl ?_
      refine ev_iinc (v := 1) (ls' := [.ref l0, .int (s.1 + (1 : Int32)), .int (s.2 + (1 : Int32))]) pm91 i91_24 rfl rfl (by decide) rfl rfl ?_
      refine ev_goto (t := 4) pm91 i91_27 rfl rfl ?_
      cases hS
      exact hK
    · rw [if_neg c246] at hS
      refine ev_icmp_ne_f (t := 24) pm91 i91_18 rfl c246 rfl rfl ?_
      refine ev_iinc (v := 1) (ls' := [.ref l0, .int s.1, .int (s.2 + (1 : Int32))]) pm91 i91_24 rfl rfl (by decide) rfl rfl ?_
      refine ev_goto (t := 4) pm91 i91_27 rfl rfl ?_
      cases hS
      exact hK
  · rw [if_neg c245] at hS
    refine ev_icmp_ge_f (t := 30) pm91 i91_9 rfl c245 rfl rfl ?_
    refine ev_kls (ls' := [unk, .int s.1, unk]) pm91 i91_30 rfl rfl ?_
    cases hS
    exact hK
def F_ra_howMany (a0 : Nat) (h : Hp) : Option Int32 :=
  ck h a0 6 (bn (lq (B_ra_howMany_4 a0 h) FU ((0 : Int32), (0 : Int32))) fun x5 =>
  some x5)
set_option maxRecDepth 20000 in
theorem K_ra_howMany {a0 : Nat} {h : Hp} {v : Int32} (hS : F_ra_howMany a0 h = some v) : kd h a0 = 6 := by
  unfold F_ra_howMany at hS
  exact (ck_s hS).1
set_option maxRecDepth 20000 in
theorem R_ra_howMany (d : Nat) (hd : 1 ≤ d) {a0 : Nat} {h : Hp} {v : Int32} (hS : F_ra_howMany a0 h = some v) : Ev P d 91 (0, [.ref a0, unk, unk], [], h) (some (.int v), h) := by
  unfold F_ra_howMany at hS
  replace hS := (ck_s hS).2
  refine ev_iconst (v := 0) pm91 i91_0 rfl (by decide) rfl ?_
  refine ev_istore_n (ls' := [.ref a0, .int (0 : Int32), unk]) pm91 i91_1 rfl (Nat.le_of_ble_eq_true rfl) rfl rfl ?_
  refine ev_iconst (v := 0) pm91 i91_2 rfl (by decide) rfl ?_
  refine ev_istore_n (ls' := [.ref a0, .int (0 : Int32), .int (0 : Int32)]) pm91 i91_3 rfl (Nat.le_of_ble_eq_true rfl) rfl rfl ?_
  obtain ⟨x5, e6, hS⟩ := bn_s hS
  refine L_ra_howMany_4 d (by omega) _ _ _ e6 _ ?_
  show Ev P d 91 (30, [unk, .int x5, unk], [], h) _
  refine ev_iload_n pm91 i91_30 rfl rfl rfl ?_
  cases hS
  exact ev_ireturn pm91 i91_31 rfl rfl rfl
def F_cs_rafts (a0 : Nat) (h : Hp) : Option (Int32 × Hp) :=
  ck h a0 11 (bn (F_cs_noLake a0 h) fun x2 =>
  bd (F_cs_refused a0 x2 (0 : Int32) h) fun x4 h5 =>
  if x4 = (0 : Int32) then
    (bn (gR h5 a0 11 6) fun x6 =>
    bn (gR h5 a0 11 3) fun x8 =>
    bn (gR h5 a0 11 4) fun x10 =>
    bn (F_ra_measure x6 x8 x10 h5) fun h13 =>
    bn (gR h13 a0 11 6) fun x14 =>
    bn (F_ra_howMany x14 h13) fun x17 =>
    some (x17, h13))
  else
    (some ((-1 : Int32), h5)))
set_option maxRecDepth 20000 in
theorem K_cs_rafts {a0 : Nat} {h : Hp} {v : Int32} {h' : Hp} (hS : F_cs_rafts a0 h = some (v, h')) : kd h a0 = 11 := by
  unfold F_cs_rafts at hS
  exact (ck_s hS).1
set_option maxRecDepth 20000 in
theorem R_cs_rafts (d : Nat) (hd : 4 ≤ d) {a0 : Nat} {h : Hp} {v : Int32} {h' : Hp} (hS : F_cs_rafts a0 h = some (v, h')) : Ev P d 90 (0, [.ref a0], [], h) (some (.int v), h') := by
  unfold F_cs_rafts at hS
  replace hS := (ck_s hS).2
  refine ev_aload_n pm90 i90_0 rfl rfl rfl ?_
  refine ev_aload_n pm90 i90_1 rfl rfl rfl ?_
  obtain ⟨x2, e1, hS⟩ := bn_s hS
  refine ev_callV (sa := []) (rest := [.ref a0]) (st' := [.int x2, .ref a0]) (ls0 := [.ref a0]) (rv := some (.int x2)) pm90 i90_2 rfl rfl pm86 (by decide) (K_cs_noLake e1) rfl rfl (Nat.le_of_ble_eq_true rfl) (by omega) rfl (R_cs_noLake (d - 1) (by omega) e1) (by simp) rfl rfl ?_
  refine ev_iconst (v := 0) pm90 i90_5 rfl (by decide) rfl ?_
  obtain ⟨x4, h5, e3, hS⟩ := bd_s hS
  refine ev_callV (sa := [.int (0 : Int32), .int x2]) (rest := []) (st' := [.int x4]) (ls0 := [.ref a0, .int x2, .int (0 : Int32)]) (rv := some (.int x4)) pm90 i90_6 rfl rfl pm18 (by decide) (K_cs_refused e3) rfl rfl (Nat.le_of_ble_eq_true rfl) (by omega) rfl (R_cs_refused (d - 1) (by omega) e3) (by simp) rfl rfl ?_
  by_cases c247 : x4 = (0 : Int32)
  · rw [if_pos c247] at hS
    refine ev_if_eq_t (t := 14) pm90 i90_9 rfl c247 rfl rfl ?_
    refine ev_aload_n pm90 i90_14 rfl rfl rfl ?_
    obtain ⟨x6, e7, hS⟩ := bn_s hS
    refine ev_getR pm90 i90_15 rfl rfl rfl e7 rfl ?_
    refine ev_aload_n pm90 i90_18 rfl rfl rfl ?_
    obtain ⟨x8, e9, hS⟩ := bn_s hS
    refine ev_getR pm90 i90_19 rfl rfl rfl e9 rfl ?_
    refine ev_aload_n pm90 i90_22 rfl rfl rfl ?_
    obtain ⟨x10, e11, hS⟩ := bn_s hS
    refine ev_getR pm90 i90_23 rfl rfl rfl e11 rfl ?_
    obtain ⟨h13, e12, hS⟩ := bn_s hS
    refine ev_callV (sa := [.ref x10, .ref x8]) (rest := []) (st' := []) (ls0 := [.ref x6, .ref x8, .ref x10]) (rv := none) pm90 i90_26 rfl rfl pm64 (by decide) (K_ra_measure e12) rfl rfl (Nat.le_of_ble_eq_true rfl) (by omega) rfl (R_ra_measure (d - 1) (by omega) e12) (by simp) rfl rfl ?_
    refine ev_aload_n pm90 i90_29 rfl rfl rfl ?_
    obtain ⟨x14, e15, hS⟩ := bn_s hS
    refine ev_getR pm90 i90_30 rfl rfl rfl e15 rfl ?_
    obtain ⟨x17, e16, hS⟩ := bn_s hS
    refine ev_callV (sa := []) (rest := []) (st' := [.int x17]) (ls0 := [.ref x14, unk, unk]) (rv := some (.int x17)) pm90 i90_33 rfl rfl pm91 (by decide) (K_ra_howMany e16) rfl rfl (Nat.le_of_ble_eq_true rfl) (by omega) rfl (R_ra_howMany (d - 1) (by omega) e16) (by simp) rfl rfl ?_
    cases hS
    exact ev_ireturn pm90 i90_36 rfl rfl rfl
  · rw [if_neg c247] at hS
    refine ev_if_eq_f (t := 14) pm90 i90_9 rfl c247 rfl rfl ?_
    refine ev_iconst (v := -1) pm90 i90_12 rfl (by decide) rfl ?_
    cases hS
    exact ev_ireturn pm90 i90_13 rfl rfl rfl
def B_ra_tiltOf_17 (l0 : Nat) (l1 : Int32) (h : Hp) (s : Int32 × Int32 × Int32) : Option ((Int32 × Int32 × Int32) ⊕ (Int32 × Int32)) :=
  bn (gI h l0 6 0) fun x9 =>
  if s.2.2 < x9 then
    (bn (gR h l0 6 2) fun x11 =>
    bn (aI h 100 x11 l1) fun x13 =>
    if ((x13 >>> (s.2.2 &&& 31)) &&& (1 : Int32)) = (0 : Int32) then
      (some (.inl (s.1, s.2.1, s.2.2 + (1 : Int32))))
    else
      (bn (gR h l0 6 1) fun x15 =>
      bn (aI h 100 x15 s.2.2) fun x17 =>
      bn (F_ma_max s.1 x17) fun x20 =>
      bn (gR h l0 6 1) fun x21 =>
      bn (aI h 100 x21 s.2.2) fun x23 =>
      bn (F_ma_min s.2.1 x23) fun x26 =>
      some (.inl (x20, x26, s.2.2 + (1 : Int32)))))
  else
    (some (.inr (s.1, s.2.1)))
set_option maxRecDepth 20000 in
theorem L_ra_tiltOf_17 (d : Nat) (hd : 1 ≤ d) {l0 : Nat} {l1 : Int32} {h : Hp} : ∀ (n : Nat) (s : Int32 × Int32 × Int32) (x : Int32 × Int32), lq (B_ra_tiltOf_17 l0 l1 h) n s = some x → ∀ r, Ev P d 93 (70, [unk, unk, .int x.1, .int x.2, unk], [], h) r → Ev P d 93 (17, [.ref l0, .int l1, .int s.1, .int s.2.1, .int s.2.2], [], h) r := by
  refine lq_ev (G0 := fun (s : Int32 × Int32 × Int32) r => Ev P d 93 (17, [.ref l0, .int l1, .int s.1, .int s.2.1, .int s.2.2], [], h) r) (X := fun (x : Int32 × Int32) r => Ev P d 93 (70, [unk, unk, .int x.1, .int x.2, unk], [], h) r) ?_
  intro s y hS r hK
  unfold B_ra_tiltOf_17 at hS
  show Ev P d 93 (17, [.ref l0, .int l1, .int s.1, .int s.2.1, .int s.2.2], [], h) r
  refine ev_iload pm93 i93_17 rfl rfl rfl ?_
  refine ev_aload_n pm93 i93_19 rfl rfl rfl ?_
  obtain ⟨x9, e10, hS⟩ := bn_s hS
  refine ev_getI pm93 i93_20 rfl rfl (by decide) e10 rfl ?_
  by_cases c248 : s.2.2 < x9
  · rw [if_pos c248] at hS
    refine ev_icmp_ge_t (t := 70) pm93 i93_23 rfl c248 rfl rfl ?_
    refine ev_aload_n pm93 i93_26 rfl rfl rfl ?_
    obtain ⟨x11, e12, hS⟩ := bn_s hS
    refine ev_getR pm93 i93_27 rfl rfl rfl e12 rfl ?_
    refine ev_iload_n pm93 i93_30 rfl rfl rfl ?_
    obtain ⟨x13, e14, hS⟩ := bn_s hS
    refine ev_iald pm93 i93_31 rfl e14 rfl ?_
    refine ev_iload pm93 i93_32 rfl rfl rfl ?_
    refine ev_b2 (f := fun x y => x >>> (y &&& 31)) pm93 i93_34 rfl (fun _ _ _ _ => rfl) rfl ?_
    refine ev_iconst (v := 1) pm93 i93_35 rfl (by decide) rfl ?_
    refine ev_b2 (f := fun x y => x &&& y) pm93 i93_36 rfl (fun _ _ _ _ => rfl) rfl ?_
    by_cases c249 : ((x13 >>> (s.2.2 &&& 31)) &&& (1 : Int32)) = (0 : Int32)
    · rw [if_pos c249] at hS
      refine ev_if_eq_t (t := 64) pm93 i93_37 rfl c249 rfl rfl ?_
      refine ev_iinc (v := 1) (ls' := [.ref l0, .int l1, .int s.1, .int s.2.1, .int (s.2.2 + (1 : Int32))]) pm93 i93_64 rfl rfl (by decide) rfl rfl ?_
      refine ev_goto (t := 17) pm93 i93_67 rfl rfl ?_
      cases hS
      exact hK
    · rw [if_neg c249] at hS
      refine ev_if_eq_f (t := 64) pm93 i93_37 rfl c249 rfl rfl ?_
      refine ev_iload_n pm93 i93_40 rfl rfl rfl ?_
      refine ev_aload_n pm93 i93_41 rfl rfl rfl ?_
      obtain ⟨x15, e16, hS⟩ := bn_s hS
      refine ev_getR pm93 i93_42 rfl rfl rfl e16 rfl ?_
      refine ev_iload pm93 i93_45 rfl rfl rfl ?_
      obtain ⟨x17, e18, hS⟩ := bn_s hS
      refine ev_iald pm93 i93_47 rfl e18 rfl ?_
      obtain ⟨x20, e19, hS⟩ := bn_s hS
      refine ev_callS (sa := [.int x17, .int s.1]) (rest := []) (st' := [.int x20]) (ls0 := [.int s.1, .int x17]) (rv := some (.int x20)) pm93 i93_48 rfl rfl pm47 (by decide) rfl rfl (Nat.le_of_ble_eq_true rfl) (by omega) rfl (R_ma_max (d - 1) (by omega) e19) (by simp) rfl rfl ?_
      refine ev_istore_n (ls' := [.ref l0, .int l1, .int x20, .int s.2.1, .int s.2.2]) pm93 i93_51 rfl (Nat.le_of_ble_eq_true rfl) rfl rfl ?_
      refine ev_iload_n pm93 i93_52 rfl rfl rfl ?_
      refine ev_aload_n pm93 i93_53 rfl rfl rfl ?_
      obtain ⟨x21, e22, hS⟩ := bn_s hS
      refine ev_getR pm93 i93_54 rfl rfl rfl e22 rfl ?_
      refine ev_iload pm93 i93_57 rfl rfl rfl ?_
      obtain ⟨x23, e24, hS⟩ := bn_s hS
      refine ev_iald pm93 i93_59 rfl e24 rfl ?_
      obtain ⟨x26, e25, hS⟩ := bn_s hS
      refine ev_callS (sa := [.int x23, .int s.2.1]) (rest := []) (st' := [.int x26]) (ls0 := [.int s.2.1, .int x23]) (rv := some (.int x26)) pm93 i93_60 rfl rfl pm22 (by decide) rfl rfl (Nat.le_of_ble_eq_true rfl) (by omega) rfl (R_ma_min (d - 1) (by omega) e25) (by simp) rfl rfl ?_
      refine ev_istore_n (ls' := [.ref l0, .int l1, .int x20, .int x26, .int s.2.2]) pm93 i93_63 rfl (Nat.le_of_ble_eq_true rfl) rfl rfl ?_
      refine ev_iinc (v := 1) (ls' := [.ref l0, .int l1, .int x20, .int x26, .int (s.2.2 + (1 : Int32))]) pm93 i93_64 rfl rfl (by decide) rfl rfl ?_
      refine ev_goto (t := 17) pm93 i93_67 rfl rfl ?_
      cases hS
      exact hK
  · rw [if_neg c248] at hS
    refine ev_icmp_ge_f (t := 70) pm93 i93_23 rfl c248 rfl rfl ?_
    refine ev_kls (ls' := [unk, unk, .int s.1, .int s.2.1, unk]) pm93 i93_70 rfl rfl ?_
    cases hS
    exact hK
def F_ra_tiltOf (a0 : Nat) (a1 : Int32) (h : Hp) : Option Int32 :=
  ck h a0 6 (bn (gR h a0 6 1) fun x1 =>
  bn (aI h 100 x1 a1) fun x3 =>
  bn (gR h a0 6 1) fun x5 =>
  bn (aI h 100 x5 a1) fun x7 =>
  bn (lq (B_ra_tiltOf_17 a0 a1 h) FU (x3, x7, (0 : Int32))) fun x27 =>
  some (x27.1 - x27.2))
set_option maxRecDepth 20000 in
theorem K_ra_tiltOf {a0 : Nat} {a1 : Int32} {h : Hp} {v : Int32} (hS : F_ra_tiltOf a0 a1 h = some v) : kd h a0 = 6 := by
  unfold F_ra_tiltOf at hS
  exact (ck_s hS).1
set_option maxRecDepth 20000 in
theorem R_ra_tiltOf (d : Nat) (hd : 1 ≤ d) {a0 : Nat} {a1 : Int32} {h : Hp} {v : Int32} (hS : F_ra_tiltOf a0 a1 h = some v) : Ev P d 93 (0, [.ref a0, .int a1, unk, unk, unk], [], h) (some (.int v), h) := by
  unfold F_ra_tiltOf at hS
  replace hS := (ck_s hS).2
  refine ev_aload_n pm93 i93_0 rfl rfl rfl ?_
  obtain ⟨x1, e2, hS⟩ := bn_s hS
  refine ev_getR pm93 i93_1 rfl rfl rfl e2 rfl ?_
  refine ev_iload_n pm93 i93_4 rfl rfl rfl ?_
  obtain ⟨x3, e4, hS⟩ := bn_s hS
  refine ev_iald pm93 i93_5 rfl e4 rfl ?_
  refine ev_istore_n (ls' := [.ref a0, .int a1, .int x3, unk, unk]) pm93 i93_6 rfl (Nat.le_of_ble_eq_true rfl) rfl rfl ?_
  refine ev_aload_n pm93 i93_7 rfl rfl rfl ?_
  obtain ⟨x5, e6, hS⟩ := bn_s hS
  refine ev_getR pm93 i93_8 rfl rfl rfl e6 rfl ?_
  refine ev_iload_n pm93 i93_11 rfl rfl rfl ?_
  obtain ⟨x7, e8, hS⟩ := bn_s hS
  refine ev_iald pm93 i93_12 rfl e8 rfl ?_
  refine ev_istore_n (ls' := [.ref a0, .int a1, .int x3, .int x7, unk]) pm93 i93_13 rfl (Nat.le_of_ble_eq_true rfl) rfl rfl ?_
  refine ev_iconst (v := 0) pm93 i93_14 rfl (by decide) rfl ?_
  refine ev_istore (ls' := [.ref a0, .int a1, .int x3, .int x7, .int (0 : Int32)]) pm93 i93_15 rfl (Nat.le_of_ble_eq_true rfl) rfl rfl ?_
  obtain ⟨x27, e28, hS⟩ := bn_s hS
  refine L_ra_tiltOf_17 d (by omega) _ _ _ e28 _ ?_
  show Ev P d 93 (70, [unk, unk, .int x27.1, .int x27.2, unk], [], h) _
  refine ev_iload_n pm93 i93_70 rfl rfl rfl ?_
  refine ev_iload_n pm93 i93_71 rfl rfl rfl ?_
  refine ev_b2 (f := fun x y => x - y) pm93 i93_72 rfl (fun _ _ _ _ => rfl) rfl ?_
  cases hS
  exact ev_ireturn pm93 i93_73 rfl rfl rfl
def F_cs_tilt (a0 : Nat) (a1 : Int32) (h : Hp) : Option (Int32 × Hp) :=
  ck h a0 11 (bn (F_cs_noHouse a0 a1 h) fun x2 =>
  bd (F_cs_refused a0 x2 (0 : Int32) h) fun x4 h5 =>
  if x4 = (0 : Int32) then
    (bn (gR h5 a0 11 6) fun x6 =>
    bn (gR h5 a0 11 3) fun x8 =>
    bn (gR h5 a0 11 4) fun x10 =>
    bn (F_ra_measure x6 x8 x10 h5) fun h13 =>
    bn (gR h13 a0 11 6) fun x14 =>
    bn (F_ra_tiltOf x14 a1 h13) fun x17 =>
    some (x17, h13))
  else
    (some ((-1 : Int32), h5)))
set_option maxRecDepth 20000 in
theorem K_cs_tilt {a0 : Nat} {a1 : Int32} {h : Hp} {v : Int32} {h' : Hp} (hS : F_cs_tilt a0 a1 h = some (v, h')) : kd h a0 = 11 := by
  unfold F_cs_tilt at hS
  exact (ck_s hS).1
set_option maxRecDepth 20000 in
theorem R_cs_tilt (d : Nat) (hd : 4 ≤ d) {a0 : Nat} {a1 : Int32} {h : Hp} {v : Int32} {h' : Hp} (hS : F_cs_tilt a0 a1 h = some (v, h')) : Ev P d 92 (0, [.ref a0, .int a1], [], h) (some (.int v), h') := by
  unfold F_cs_tilt at hS
  replace hS := (ck_s hS).2
  refine ev_aload_n pm92 i92_0 rfl rfl rfl ?_
  refine ev_aload_n pm92 i92_1 rfl rfl rfl ?_
  refine ev_iload_n pm92 i92_2 rfl rfl rfl ?_
  obtain ⟨x2, e1, hS⟩ := bn_s hS
  refine ev_callV (sa := [.int a1]) (rest := [.ref a0]) (st' := [.int x2, .ref a0]) (ls0 := [.ref a0, .int a1]) (rv := some (.int x2)) pm92 i92_3 rfl rfl pm63 (by decide) (K_cs_noHouse e1) rfl rfl (Nat.le_of_ble_eq_true rfl) (by omega) rfl (R_cs_noHouse (d - 1) (by omega) e1) (by simp) rfl rfl ?_
  refine ev_iconst (v := 0) pm92 i92_6 rfl (by decide) rfl ?_
  obtain ⟨x4, h5, e3, hS⟩ := bd_s hS
  refine ev_callV (sa := [.int (0 : Int32), .int x2]) (rest := []) (st' := [.int x4]) (ls0 := [.ref a0, .int x2, .int (0 : Int32)]) (rv := some (.int x4)) pm92 i92_7 rfl rfl pm18 (by decide) (K_cs_refused e3) rfl rfl (Nat.le_of_ble_eq_true rfl) (by omega) rfl (R_cs_refused (d - 1) (by omega) e3) (by simp) rfl rfl ?_
  by_cases c250 : x4 = (0 : Int32)
  · rw [if_pos c250] at hS
    refine ev_if_eq_t (t := 15) pm92 i92_10 rfl c250 rfl rfl ?_
    refine ev_aload_n pm92 i92_15 rfl rfl rfl ?_
    obtain ⟨x6, e7, hS⟩ := bn_s hS
    refine ev_getR pm92 i92_16 rfl rfl rfl e7 rfl ?_
    refine ev_aload_n pm92 i92_19 rfl rfl rfl ?_
    obtain ⟨x8, e9, hS⟩ := bn_s hS
    refine ev_getR pm92 i92_20 rfl rfl rfl e9 rfl ?_
    refine ev_aload_n pm92 i92_23 rfl rfl rfl ?_
    obtain ⟨x10, e11, hS⟩ := bn_s hS
    refine ev_getR pm92 i92_24 rfl rfl rfl e11 rfl ?_
    obtain ⟨h13, e12, hS⟩ := bn_s hS
    refine ev_callV (sa := [.ref x10, .ref x8]) (rest := []) (st' := []) (ls0 := [.ref x6, .ref x8, .ref x10]) (rv := none) pm92 i92_27 rfl rfl pm64 (by decide) (K_ra_measure e12) rfl rfl (Nat.le_of_ble_eq_true rfl) (by omega) rfl (R_ra_measure (d - 1) (by omega) e12) (by simp) rfl rfl ?_
    refine ev_aload_n pm92 i92_30 rfl rfl rfl ?_
    obtain ⟨x14, e15, hS⟩ := bn_s hS
    refine ev_getR pm92 i92_31 rfl rfl rfl e15 rfl ?_
    refine ev_iload_n pm92 i92_34 rfl rfl rfl ?_
    obtain ⟨x17, e16, hS⟩ := bn_s hS
    refine ev_callV (sa := [.int a1]) (rest := []) (st' := [.int x17]) (ls0 := [.ref x14, .int a1, unk, unk, unk]) (rv := some (.int x17)) pm92 i92_35 rfl rfl pm93 (by decide) (K_ra_tiltOf e16) rfl rfl (Nat.le_of_ble_eq_true rfl) (by omega) rfl (R_ra_tiltOf (d - 1) (by omega) e16) (by simp) rfl rfl ?_
    cases hS
    exact ev_ireturn pm92 i92_38 rfl rfl rfl
  · rw [if_neg c250] at hS
    refine ev_if_eq_f (t := 15) pm92 i92_10 rfl c250 rfl rfl ?_
    refine ev_iconst (v := -1) pm92 i92_13 rfl (by decide) rfl ?_
    cases hS
    exact ev_ireturn pm92 i92_14 rfl rfl rfl
def F_st_copyFrom (a0 : Nat) (a1 : Nat) (h : Hp) : Option Hp :=
  ck h a0 8 (bn (gR h a1 8 0) fun x1 =>
  bn (gR h a0 8 0) fun x3 =>
  bn (cpI h x1 (0 : Int32) x3 (0 : Int32) (25 : Int32)) fun h5 =>
  bn (gR h5 a1 8 1) fun x7 =>
  bn (gR h5 a0 8 1) fun x9 =>
  bn (cpI h5 x7 (0 : Int32) x9 (0 : Int32) (3 : Int32)) fun h11 =>
  bn (gI h11 a1 8 2) fun x13 =>
  bn (pI h11 a0 8 2 x13) fun h15 =>
  bn (gI h15 a1 8 3) fun x17 =>
  bn (pI h15 a0 8 3 x17) fun h19 =>
  bn (gI h19 a1 8 4) fun x21 =>
  bn (pI h19 a0 8 4 x21) fun h23 =>
  some h23)
set_option maxRecDepth 20000 in
theorem K_st_copyFrom {a0 : Nat} {a1 : Nat} {h : Hp} {h' : Hp} (hS : F_st_copyFrom a0 a1 h = some h') : kd h a0 = 8 := by
  unfold F_st_copyFrom at hS
  exact (ck_s hS).1
set_option maxRecDepth 20000 in
theorem R_st_copyFrom (d : Nat) (hd : 0 ≤ d) {a0 : Nat} {a1 : Nat} {h : Hp} {h' : Hp} (hS : F_st_copyFrom a0 a1 h = some h') : Ev P d 96 (0, [.ref a0, .ref a1], [], h) (none, h') := by
  unfold F_st_copyFrom at hS
  replace hS := (ck_s hS).2
  refine ev_aload_n pm96 i96_0 rfl rfl rfl ?_
  obtain ⟨x1, e2, hS⟩ := bn_s hS
  refine ev_getR pm96 i96_1 rfl rfl rfl e2 rfl ?_
  refine ev_iconst (v := 0) pm96 i96_4 rfl (by decide) rfl ?_
  refine ev_aload_n pm96 i96_5 rfl rfl rfl ?_
  obtain ⟨x3, e4, hS⟩ := bn_s hS
  refine ev_getR pm96 i96_6 rfl rfl rfl e4 rfl ?_
  refine ev_iconst (v := 0) pm96 i96_9 rfl (by decide) rfl ?_
  refine ev_bipush (v := 25) pm96 i96_10 rfl (by decide) rfl ?_
  obtain ⟨h5, e6, hS⟩ := bn_s hS
  refine ev_copy pm96 i96_12 rfl rfl (Nat.le_of_ble_eq_true rfl) e6 rfl ?_
  refine ev_aload_n pm96 i96_15 rfl rfl rfl ?_
  obtain ⟨x7, e8, hS⟩ := bn_s hS
  refine ev_getR pm96 i96_16 rfl rfl rfl e8 rfl ?_
  refine ev_iconst (v := 0) pm96 i96_19 rfl (by decide) rfl ?_
  refine ev_aload_n pm96 i96_20 rfl rfl rfl ?_
  obtain ⟨x9, e10, hS⟩ := bn_s hS
  refine ev_getR pm96 i96_21 rfl rfl rfl e10 rfl ?_
  refine ev_iconst (v := 0) pm96 i96_24 rfl (by decide) rfl ?_
  refine ev_iconst (v := 3) pm96 i96_25 rfl (by decide) rfl ?_
  obtain ⟨h11, e12, hS⟩ := bn_s hS
  refine ev_copy pm96 i96_26 rfl rfl (Nat.le_of_ble_eq_true rfl) e12 rfl ?_
  refine ev_aload_n pm96 i96_29 rfl rfl rfl ?_
  refine ev_aload_n pm96 i96_30 rfl rfl rfl ?_
  obtain ⟨x13, e14, hS⟩ := bn_s hS
  refine ev_getI pm96 i96_31 rfl rfl (by decide) e14 rfl ?_
  obtain ⟨h15, e16, hS⟩ := bn_s hS
  refine ev_putI pm96 i96_34 rfl rfl rfl e16 rfl ?_
  refine ev_aload_n pm96 i96_37 rfl rfl rfl ?_
  refine ev_aload_n pm96 i96_38 rfl rfl rfl ?_
  obtain ⟨x17, e18, hS⟩ := bn_s hS
  refine ev_getI pm96 i96_39 rfl rfl (by decide) e18 rfl ?_
  obtain ⟨h19, e20, hS⟩ := bn_s hS
  refine ev_putI pm96 i96_42 rfl rfl rfl e20 rfl ?_
  refine ev_aload_n pm96 i96_45 rfl rfl rfl ?_
  refine ev_aload_n pm96 i96_46 rfl rfl rfl ?_
  obtain ⟨x21, e22, hS⟩ := bn_s hS
  refine ev_getI pm96 i96_47 rfl rfl (by decide) e22 rfl ?_
  obtain ⟨h23, e24, hS⟩ := bn_s hS
  refine ev_putI pm96 i96_50 rfl rfl rfl e24 rfl ?_
  cases hS
  exact ev_return pm96 i96_53 rfl rfl rfl
def F_st_softenUnder (a0 : Nat) (a1 : Int32) (h : Hp) : Option Hp :=
  ck h a0 8 (bn (gR h a0 8 0) fun x1 =>
  bn (gR h a0 8 0) fun x3 =>
  bn (aI h 100 x3 ((a1 * (5 : Int32)) + (1 : Int32))) fun x5 =>
  bn (sI h 100 x1 ((a1 * (5 : Int32)) + (2 : Int32)) x5) fun h7 =>
  bn (gR h7 a0 8 0) fun x9 =>
  bn (gR h7 a0 8 0) fun x11 =>
  bn (aI h7 100 x11 ((a1 * (5 : Int32)) + (0 : Int32))) fun x13 =>
  bn (sI h7 100 x9 ((a1 * (5 : Int32)) + (1 : Int32)) x13) fun h15 =>
  bn (gR h15 a0 8 0) fun x17 =>
  bn (sI h15 100 x17 ((a1 * (5 : Int32)) + (0 : Int32)) (0 : Int32)) fun h19 =>
  some h19)
set_option maxRecDepth 20000 in
theorem K_st_softenUnder {a0 : Nat} {a1 : Int32} {h : Hp} {h' : Hp} (hS : F_st_softenUnder a0 a1 h = some h') : kd h a0 = 8 := by
  unfold F_st_softenUnder at hS
  exact (ck_s hS).1
set_option maxRecDepth 20000 in
theorem R_st_softenUnder (d : Nat) (hd : 0 ≤ d) {a0 : Nat} {a1 : Int32} {h : Hp} {h' : Hp} (hS : F_st_softenUnder a0 a1 h = some h') : Ev P d 98 (0, [.ref a0, .int a1, unk], [], h) (none, h') := by
  unfold F_st_softenUnder at hS
  replace hS := (ck_s hS).2
  refine ev_iload_n pm98 i98_0 rfl rfl rfl ?_
  refine ev_iconst (v := 5) pm98 i98_1 rfl (by decide) rfl ?_
  refine ev_b2 (f := fun x y => x * y) pm98 i98_2 rfl (fun _ _ _ _ => rfl) rfl ?_
  refine ev_istore_n (ls' := [.ref a0, .int a1, .int (a1 * (5 : Int32))]) pm98 i98_3 rfl (Nat.le_of_ble_eq_true rfl) rfl rfl ?_
  refine ev_aload_n pm98 i98_4 rfl rfl rfl ?_
  obtain ⟨x1, e2, hS⟩ := bn_s hS
  refine ev_getR pm98 i98_5 rfl rfl rfl e2 rfl ?_
  refine ev_iload_n pm98 i98_8 rfl rfl rfl ?_
  refine ev_iconst (v := 2) pm98 i98_9 rfl (by decide) rfl ?_
  refine ev_b2 (f := fun x y => x + y) pm98 i98_10 rfl (fun _ _ _ _ => rfl) rfl ?_
  refine ev_aload_n pm98 i98_11 rfl rfl rfl ?_
  obtain ⟨x3, e4, hS⟩ := bn_s hS
  refine ev_getR pm98 i98_12 rfl rfl rfl e4 rfl ?_
  refine ev_iload_n pm98 i98_15 rfl rfl rfl ?_
  refine ev_iconst (v := 1) pm98 i98_16 rfl (by decide) rfl ?_
  refine ev_b2 (f := fun x y => x + y) pm98 i98_17 rfl (fun _ _ _ _ => rfl) rfl ?_
  obtain ⟨x5, e6, hS⟩ := bn_s hS
  refine ev_iald pm98 i98_18 rfl e6 rfl ?_
  obtain ⟨h7, e8, hS⟩ := bn_s hS
  refine ev_iast pm98 i98_19 rfl e8 rfl ?_
  refine ev_aload_n pm98 i98_20 rfl rfl rfl ?_
  obtain ⟨x9, e10, hS⟩ := bn_s hS
  refine ev_getR pm98 i98_21 rfl rfl rfl e10 rfl ?_
  refine ev_iload_n pm98 i98_24 rfl rfl rfl ?_
  refine ev_iconst (v := 1) pm98 i98_25 rfl (by decide) rfl ?_
  refine ev_b2 (f := fun x y => x + y) pm98 i98_26 rfl (fun _ _ _ _ => rfl) rfl ?_
  refine ev_aload_n pm98 i98_27 rfl rfl rfl ?_
  obtain ⟨x11, e12, hS⟩ := bn_s hS
  refine ev_getR pm98 i98_28 rfl rfl rfl e12 rfl ?_
  refine ev_iload_n pm98 i98_31 rfl rfl rfl ?_
  refine ev_iconst (v := 0) pm98 i98_32 rfl (by decide) rfl ?_
  refine ev_b2 (f := fun x y => x + y) pm98 i98_33 rfl (fun _ _ _ _ => rfl) rfl ?_
  obtain ⟨x13, e14, hS⟩ := bn_s hS
  refine ev_iald pm98 i98_34 rfl e14 rfl ?_
  obtain ⟨h15, e16, hS⟩ := bn_s hS
  refine ev_iast pm98 i98_35 rfl e16 rfl ?_
  refine ev_aload_n pm98 i98_36 rfl rfl rfl ?_
  obtain ⟨x17, e18, hS⟩ := bn_s hS
  refine ev_getR pm98 i98_37 rfl rfl rfl e18 rfl ?_
  refine ev_iload_n pm98 i98_40 rfl rfl rfl ?_
  refine ev_iconst (v := 0) pm98 i98_41 rfl (by decide) rfl ?_
  refine ev_b2 (f := fun x y => x + y) pm98 i98_42 rfl (fun _ _ _ _ => rfl) rfl ?_
  refine ev_iconst (v := 0) pm98 i98_43 rfl (by decide) rfl ?_
  obtain ⟨h19, e20, hS⟩ := bn_s hS
  refine ev_iast pm98 i98_44 rfl e20 rfl ?_
  cases hS
  exact ev_return pm98 i98_45 rfl rfl rfl
def B_st_soften_2 (l0 : Nat) (s : Int32) (h : Hp) : Option (((Int32) ⊕ (Unit)) × Hp) :=
  if s < (5 : Int32) then
    (bn (F_st_softenUnder l0 s h) fun h2 =>
    some (.inl (s + (1 : Int32)), h2))
  else
    (some (.inr (), h))
set_option maxRecDepth 20000 in
theorem L_st_soften_2 (d : Nat) (hd : 1 ≤ d) {l0 : Nat} : ∀ (n : Nat) (s : Int32) (h : Hp) (x : Unit) (hx : Hp), lp (B_st_soften_2 l0) n s h = some (x, hx) → ∀ r, Ev P d 97 (18, [unk, unk], [], hx) r → Ev P d 97 (2, [.ref l0, .int s], [], h) r := by
  refine lp_ev (G0 := fun (s : Int32) h r => Ev P d 97 (2, [.ref l0, .int s], [], h) r) (X := fun (x : Unit) hx r => Ev P d 97 (18, [unk, unk], [], hx) r) ?_
  intro s h y h9 hS r hK
  unfold B_st_soften_2 at hS
  show Ev P d 97 (2, [.ref l0, .int s], [], h) r
  refine ev_iload_n pm97 i97_2 rfl rfl rfl ?_
  refine ev_iconst (v := 5) pm97 i97_3 rfl (by decide) rfl ?_
  by_cases c251 : s < (5 : Int32)
  · rw [if_pos c251] at hS
    refine ev_icmp_ge_t (t := 18) pm97 i97_4 rfl c251 rfl rfl ?_
    refine ev_aload_n pm97 i97_7 rfl rfl rfl ?_
    refine ev_iload_n pm97 i97_8 rfl rfl rfl ?_
    obtain ⟨h2, e1, hS⟩ := bn_s hS
    refine ev_callV (sa := [.int s]) (rest := []) (st' := []) (ls0 := [.ref l0, .int s, unk]) (rv := none) pm97 i97_9 rfl rfl pm98 (by decide) (K_st_softenUnder e1) rfl rfl (Nat.le_of_ble_eq_true rfl) (by omega) rfl (R_st_softenUnder (d - 1) (by omega) e1) (by simp) rfl rfl ?_
    refine ev_iinc (v := 1) (ls' := [.ref l0, .int (s + (1 : Int32))]) pm97 i97_12 rfl rfl (by decide) rfl rfl ?_
    refine ev_goto (t := 2) pm97 i97_15 rfl rfl ?_
    cases hS
    exact hK
  · rw [if_neg c251] at hS
    refine ev_icmp_ge_f (t := 18) pm97 i97_4 rfl c251 rfl rfl ?_
    refine ev_kls (ls' := [unk, unk]) pm97 i97_18 rfl rfl ?_
    cases hS
    exact hK
def F_st_soften (a0 : Nat) (h : Hp) : Option Hp :=
  ck h a0 8 (bd (lp (B_st_soften_2 a0) FU (0 : Int32) h) fun x3 h5 =>
  some h5)
set_option maxRecDepth 20000 in
theorem K_st_soften {a0 : Nat} {h : Hp} {h' : Hp} (hS : F_st_soften a0 h = some h') : kd h a0 = 8 := by
  unfold F_st_soften at hS
  exact (ck_s hS).1
set_option maxRecDepth 20000 in
theorem R_st_soften (d : Nat) (hd : 1 ≤ d) {a0 : Nat} {h : Hp} {h' : Hp} (hS : F_st_soften a0 h = some h') : Ev P d 97 (0, [.ref a0, unk], [], h) (none, h') := by
  unfold F_st_soften at hS
  replace hS := (ck_s hS).2
  refine ev_iconst (v := 0) pm97 i97_0 rfl (by decide) rfl ?_
  refine ev_istore_n (ls' := [.ref a0, .int (0 : Int32)]) pm97 i97_1 rfl (Nat.le_of_ble_eq_true rfl) rfl rfl ?_
  obtain ⟨x3, h5, e4, hS⟩ := bd_s hS
  refine L_st_soften_2 d (by omega) _ _ _ _ _ e4 _ ?_
  show Ev P d 97 (18, [unk, unk], [], h5) _
  cases hS
  exact ev_return pm97 i97_18 rfl rfl rfl
def B_cs_measureIn_13 (l0 : Nat) (l1 : Int32) (s : Int32) (h : Hp) : Option (((Int32) ⊕ (Unit)) × Hp) :=
  if s < l1 then
    (bn (gR h l0 11 5) fun x7 =>
    bn (F_st_soften x7 h) fun h10 =>
    some (.inl (s + (1 : Int32)), h10))
  else
    (some (.inr (), h))
set_option maxRecDepth 20000 in
theorem L_cs_measureIn_13 (d : Nat) (hd : 4 ≤ d) {l0 : Nat} {l1 : Int32} : ∀ (n : Nat) (s : Int32) (h : Hp) (x : Unit) (hx : Hp), lp (B_cs_measureIn_13 l0 l1) n s h = some (x, hx) → ∀ r, Ev P d 95 (31, [.ref l0, unk, unk], [], hx) r → Ev P d 95 (13, [.ref l0, .int l1, .int s], [], h) r := by
  refine lp_ev (G0 := fun (s : Int32) h r => Ev P d 95 (13, [.ref l0, .int l1, .int s], [], h) r) (X := fun (x : Unit) hx r => Ev P d 95 (31, [.ref l0, unk, unk], [], hx) r) ?_
  intro s h y h9 hS r hK
  unfold B_cs_measureIn_13 at hS
  show Ev P d 95 (13, [.ref l0, .int l1, .int s], [], h) r
  refine ev_iload_n pm95 i95_13 rfl rfl rfl ?_
  refine ev_iload_n pm95 i95_14 rfl rfl rfl ?_
  by_cases c252 : s < l1
  · rw [if_pos c252] at hS
    refine ev_icmp_ge_t (t := 31) pm95 i95_15 rfl c252 rfl rfl ?_
    refine ev_aload_n pm95 i95_18 rfl rfl rfl ?_
    obtain ⟨x7, e8, hS⟩ := bn_s hS
    refine ev_getR pm95 i95_19 rfl rfl rfl e8 rfl ?_
    obtain ⟨h10, e9, hS⟩ := bn_s hS
    refine ev_callV (sa := []) (rest := []) (st' := []) (ls0 := [.ref x7, unk]) (rv := none) pm95 i95_22 rfl rfl pm97 (by decide) (K_st_soften e9) rfl rfl (Nat.le_of_ble_eq_true rfl) (by omega) rfl (R_st_soften (d - 1) (by omega) e9) (by simp) rfl rfl ?_
    refine ev_iinc (v := 1) (ls' := [.ref l0, .int l1, .int (s + (1 : Int32))]) pm95 i95_25 rfl rfl (by decide) rfl rfl ?_
    refine ev_goto (t := 13) pm95 i95_28 rfl rfl ?_
    cases hS
    exact hK
  · rw [if_neg c252] at hS
    refine ev_icmp_ge_f (t := 31) pm95 i95_15 rfl c252 rfl rfl ?_
    refine ev_kls (ls' := [.ref l0, unk, unk]) pm95 i95_31 rfl rfl ?_
    cases hS
    exact hK
def F_cs_measureIn (a0 : Nat) (a1 : Int32) (h : Hp) : Option Hp :=
  ck h a0 11 (bn (gR h a0 11 5) fun x1 =>
  bn (gR h a0 11 4) fun x3 =>
  bn (F_st_copyFrom x1 x3 h) fun h6 =>
  bd (lp (B_cs_measureIn_13 a0 a1) FU (0 : Int32) h6) fun x11 h13 =>
  bn (gR h13 a0 11 6) fun x14 =>
  bn (gR h13 a0 11 3) fun x16 =>
  bn (gR h13 a0 11 5) fun x18 =>
  bn (F_ra_measure x14 x16 x18 h13) fun h21 =>
  some h21)
set_option maxRecDepth 20000 in
theorem K_cs_measureIn {a0 : Nat} {a1 : Int32} {h : Hp} {h' : Hp} (hS : F_cs_measureIn a0 a1 h = some h') : kd h a0 = 11 := by
  unfold F_cs_measureIn at hS
  exact (ck_s hS).1
set_option maxRecDepth 20000 in
theorem R_cs_measureIn (d : Nat) (hd : 4 ≤ d) {a0 : Nat} {a1 : Int32} {h : Hp} {h' : Hp} (hS : F_cs_measureIn a0 a1 h = some h') : Ev P d 95 (0, [.ref a0, .int a1, unk], [], h) (none, h') := by
  unfold F_cs_measureIn at hS
  replace hS := (ck_s hS).2
  refine ev_aload_n pm95 i95_0 rfl rfl rfl ?_
  obtain ⟨x1, e2, hS⟩ := bn_s hS
  refine ev_getR pm95 i95_1 rfl rfl rfl e2 rfl ?_
  refine ev_aload_n pm95 i95_4 rfl rfl rfl ?_
  obtain ⟨x3, e4, hS⟩ := bn_s hS
  refine ev_getR pm95 i95_5 rfl rfl rfl e4 rfl ?_
  obtain ⟨h6, e5, hS⟩ := bn_s hS
  refine ev_callV (sa := [.ref x3]) (rest := []) (st' := []) (ls0 := [.ref x1, .ref x3]) (rv := none) pm95 i95_8 rfl rfl pm96 (by decide) (K_st_copyFrom e5) rfl rfl (Nat.le_of_ble_eq_true rfl) (by omega) rfl (R_st_copyFrom (d - 1) (by omega) e5) (by simp) rfl rfl ?_
  refine ev_iconst (v := 0) pm95 i95_11 rfl (by decide) rfl ?_
  refine ev_istore_n (ls' := [.ref a0, .int a1, .int (0 : Int32)]) pm95 i95_12 rfl (Nat.le_of_ble_eq_true rfl) rfl rfl ?_
  obtain ⟨x11, h13, e12, hS⟩ := bd_s hS
  refine L_cs_measureIn_13 d (by omega) _ _ _ _ _ e12 _ ?_
  show Ev P d 95 (31, [.ref a0, unk, unk], [], h13) _
  refine ev_aload_n pm95 i95_31 rfl rfl rfl ?_
  obtain ⟨x14, e15, hS⟩ := bn_s hS
  refine ev_getR pm95 i95_32 rfl rfl rfl e15 rfl ?_
  refine ev_aload_n pm95 i95_35 rfl rfl rfl ?_
  obtain ⟨x16, e17, hS⟩ := bn_s hS
  refine ev_getR pm95 i95_36 rfl rfl rfl e17 rfl ?_
  refine ev_aload_n pm95 i95_39 rfl rfl rfl ?_
  obtain ⟨x18, e19, hS⟩ := bn_s hS
  refine ev_getR pm95 i95_40 rfl rfl rfl e19 rfl ?_
  obtain ⟨h21, e20, hS⟩ := bn_s hS
  refine ev_callV (sa := [.ref x18, .ref x16]) (rest := []) (st' := []) (ls0 := [.ref x14, .ref x16, .ref x18]) (rv := none) pm95 i95_43 rfl rfl pm64 (by decide) (K_ra_measure e20) rfl rfl (Nat.le_of_ble_eq_true rfl) (by omega) rfl (R_ra_measure (d - 1) (by omega) e20) (by simp) rfl rfl ?_
  cases hS
  exact ev_return pm95 i95_46 rfl rfl rfl
def F_cs_heightIn (a0 : Nat) (a1 : Int32) (a2 : Int32) (h : Hp) : Option (Int32 × Hp) :=
  ck h a0 11 (bn (F_cs_noHouse a0 a1 h) fun x2 =>
  bn (F_cs_outside a2 (0 : Int32) (20 : Int32)) fun x4 =>
  bd (F_cs_refused a0 x2 x4 h) fun x6 h7 =>
  if x6 = (0 : Int32) then
    (bn (F_cs_measureIn a0 a2 h7) fun h9 =>
    bn (gR h9 a0 11 6) fun x10 =>
    bn (gR h9 x10 6 3) fun x12 =>
    bn (aI h9 100 x12 a1) fun x14 =>
    some (x14 + (1000 : Int32), h9))
  else
    (some ((-1 : Int32), h7)))
set_option maxRecDepth 20000 in
theorem K_cs_heightIn {a0 : Nat} {a1 : Int32} {a2 : Int32} {h : Hp} {v : Int32} {h' : Hp} (hS : F_cs_heightIn a0 a1 a2 h = some (v, h')) : kd h a0 = 11 := by
  unfold F_cs_heightIn at hS
  exact (ck_s hS).1
set_option maxRecDepth 20000 in
theorem R_cs_heightIn (d : Nat) (hd : 5 ≤ d) {a0 : Nat} {a1 : Int32} {a2 : Int32} {h : Hp} {v : Int32} {h' : Hp} (hS : F_cs_heightIn a0 a1 a2 h = some (v, h')) : Ev P d 94 (0, [.ref a0, .int a1, .int a2], [], h) (some (.int v), h') := by
  unfold F_cs_heightIn at hS
  replace hS := (ck_s hS).2
  refine ev_aload_n pm94 i94_0 rfl rfl rfl ?_
  refine ev_aload_n pm94 i94_1 rfl rfl rfl ?_
  refine ev_iload_n pm94 i94_2 rfl rfl rfl ?_
  obtain ⟨x2, e1, hS⟩ := bn_s hS
  refine ev_callV (sa := [.int a1]) (rest := [.ref a0]) (st' := [.int x2, .ref a0]) (ls0 := [.ref a0, .int a1]) (rv := some (.int x2)) pm94 i94_3 rfl rfl pm63 (by decide) (K_cs_noHouse e1) rfl rfl (Nat.le_of_ble_eq_true rfl) (by omega) rfl (R_cs_noHouse (d - 1) (by omega) e1) (by simp) rfl rfl ?_
  refine ev_iload_n pm94 i94_6 rfl rfl rfl ?_
  refine ev_iconst (v := 0) pm94 i94_7 rfl (by decide) rfl ?_
  refine ev_bipush (v := 20) pm94 i94_8 rfl (by decide) rfl ?_
  obtain ⟨x4, e3, hS⟩ := bn_s hS
  refine ev_callS (sa := [.int (20 : Int32), .int (0 : Int32), .int a2]) (rest := [.int x2, .ref a0]) (st' := [.int x4, .int x2, .ref a0]) (ls0 := [.int a2, .int (0 : Int32), .int (20 : Int32)]) (rv := some (.int x4)) pm94 i94_10 rfl rfl pm17 (by decide) rfl rfl (Nat.le_of_ble_eq_true rfl) (by omega) rfl (R_cs_outside (d - 1) (by omega) e3) (by simp) rfl rfl ?_
  obtain ⟨x6, h7, e5, hS⟩ := bd_s hS
  refine ev_callV (sa := [.int x4, .int x2]) (rest := []) (st' := [.int x6]) (ls0 := [.ref a0, .int x2, .int x4]) (rv := some (.int x6)) pm94 i94_13 rfl rfl pm18 (by decide) (K_cs_refused e5) rfl rfl (Nat.le_of_ble_eq_true rfl) (by omega) rfl (R_cs_refused (d - 1) (by omega) e5) (by simp) rfl rfl ?_
  by_cases c253 : x6 = (0 : Int32)
  · rw [if_pos c253] at hS
    refine ev_if_eq_t (t := 21) pm94 i94_16 rfl c253 rfl rfl ?_
    refine ev_aload_n pm94 i94_21 rfl rfl rfl ?_
    refine ev_iload_n pm94 i94_22 rfl rfl rfl ?_
    obtain ⟨h9, e8, hS⟩ := bn_s hS
    refine ev_callV (sa := [.int a2]) (rest := []) (st' := []) (ls0 := [.ref a0, .int a2, unk]) (rv := none) pm94 i94_23 rfl rfl pm95 (by decide) (K_cs_measureIn e8) rfl rfl (Nat.le_of_ble_eq_true rfl) (by omega) rfl (R_cs_measureIn (d - 1) (by omega) e8) (by simp) rfl rfl ?_
    refine ev_aload_n pm94 i94_26 rfl rfl rfl ?_
    obtain ⟨x10, e11, hS⟩ := bn_s hS
    refine ev_getR pm94 i94_27 rfl rfl rfl e11 rfl ?_
    obtain ⟨x12, e13, hS⟩ := bn_s hS
    refine ev_getR pm94 i94_30 rfl rfl rfl e13 rfl ?_
    refine ev_iload_n pm94 i94_33 rfl rfl rfl ?_
    obtain ⟨x14, e15, hS⟩ := bn_s hS
    refine ev_iald pm94 i94_34 rfl e15 rfl ?_
    refine ev_sipush (v := 1000) pm94 i94_35 rfl (by decide) rfl ?_
    refine ev_b2 (f := fun x y => x + y) pm94 i94_38 rfl (fun _ _ _ _ => rfl) rfl ?_
    cases hS
    exact ev_ireturn pm94 i94_39 rfl rfl rfl
  · rw [if_neg c253] at hS
    refine ev_if_eq_f (t := 21) pm94 i94_16 rfl c253 rfl rfl ?_
    refine ev_iconst (v := -1) pm94 i94_19 rfl (by decide) rfl ?_
    cases hS
    exact ev_ireturn pm94 i94_20 rfl rfl rfl
def F_cs_underIn (a0 : Nat) (a1 : Int32) (h : Hp) : Option (Int32 × Hp) :=
  ck h a0 11 (bn (F_cs_noLake a0 h) fun x2 =>
  bn (F_cs_outside a1 (0 : Int32) (20 : Int32)) fun x4 =>
  bd (F_cs_refused a0 x2 x4 h) fun x6 h7 =>
  if x6 = (0 : Int32) then
    (bn (F_cs_measureIn a0 a1 h7) fun h9 =>
    bn (gR h9 a0 11 6) fun x10 =>
    bn (F_ra_underBits x10 h9) fun x13 =>
    some (x13, h9))
  else
    (some ((-1 : Int32), h7)))
set_option maxRecDepth 20000 in
theorem K_cs_underIn {a0 : Nat} {a1 : Int32} {h : Hp} {v : Int32} {h' : Hp} (hS : F_cs_underIn a0 a1 h = some (v, h')) : kd h a0 = 11 := by
  unfold F_cs_underIn at hS
  exact (ck_s hS).1
set_option maxRecDepth 20000 in
theorem R_cs_underIn (d : Nat) (hd : 5 ≤ d) {a0 : Nat} {a1 : Int32} {h : Hp} {v : Int32} {h' : Hp} (hS : F_cs_underIn a0 a1 h = some (v, h')) : Ev P d 99 (0, [.ref a0, .int a1], [], h) (some (.int v), h') := by
  unfold F_cs_underIn at hS
  replace hS := (ck_s hS).2
  refine ev_aload_n pm99 i99_0 rfl rfl rfl ?_
  refine ev_aload_n pm99 i99_1 rfl rfl rfl ?_
  obtain ⟨x2, e1, hS⟩ := bn_s hS
  refine ev_callV (sa := []) (rest := [.ref a0]) (st' := [.int x2, .ref a0]) (ls0 := [.ref a0]) (rv := some (.int x2)) pm99 i99_2 rfl rfl pm86 (by decide) (K_cs_noLake e1) rfl rfl (Nat.le_of_ble_eq_true rfl) (by omega) rfl (R_cs_noLake (d - 1) (by omega) e1) (by simp) rfl rfl ?_
  refine ev_iload_n pm99 i99_5 rfl rfl rfl ?_
  refine ev_iconst (v := 0) pm99 i99_6 rfl (by decide) rfl ?_
  refine ev_bipush (v := 20) pm99 i99_7 rfl (by decide) rfl ?_
  obtain ⟨x4, e3, hS⟩ := bn_s hS
  refine ev_callS (sa := [.int (20 : Int32), .int (0 : Int32), .int a1]) (rest := [.int x2, .ref a0]) (st' := [.int x4, .int x2, .ref a0]) (ls0 := [.int a1, .int (0 : Int32), .int (20 : Int32)]) (rv := some (.int x4)) pm99 i99_9 rfl rfl pm17 (by decide) rfl rfl (Nat.le_of_ble_eq_true rfl) (by omega) rfl (R_cs_outside (d - 1) (by omega) e3) (by simp) rfl rfl ?_
  obtain ⟨x6, h7, e5, hS⟩ := bd_s hS
  refine ev_callV (sa := [.int x4, .int x2]) (rest := []) (st' := [.int x6]) (ls0 := [.ref a0, .int x2, .int x4]) (rv := some (.int x6)) pm99 i99_12 rfl rfl pm18 (by decide) (K_cs_refused e5) rfl rfl (Nat.le_of_ble_eq_true rfl) (by omega) rfl (R_cs_refused (d - 1) (by omega) e5) (by simp) rfl rfl ?_
  by_cases c254 : x6 = (0 : Int32)
  · rw [if_pos c254] at hS
    refine ev_if_eq_t (t := 20) pm99 i99_15 rfl c254 rfl rfl ?_
    refine ev_aload_n pm99 i99_20 rfl rfl rfl ?_
    refine ev_iload_n pm99 i99_21 rfl rfl rfl ?_
    obtain ⟨h9, e8, hS⟩ := bn_s hS
    refine ev_callV (sa := [.int a1]) (rest := []) (st' := []) (ls0 := [.ref a0, .int a1, unk]) (rv := none) pm99 i99_22 rfl rfl pm95 (by decide) (K_cs_measureIn e8) rfl rfl (Nat.le_of_ble_eq_true rfl) (by omega) rfl (R_cs_measureIn (d - 1) (by omega) e8) (by simp) rfl rfl ?_
    refine ev_aload_n pm99 i99_25 rfl rfl rfl ?_
    obtain ⟨x10, e11, hS⟩ := bn_s hS
    refine ev_getR pm99 i99_26 rfl rfl rfl e11 rfl ?_
    obtain ⟨x13, e12, hS⟩ := bn_s hS
    refine ev_callV (sa := []) (rest := []) (st' := [.int x13]) (ls0 := [.ref x10, unk, unk]) (rv := some (.int x13)) pm99 i99_29 rfl rfl pm87 (by decide) (K_ra_underBits e12) rfl rfl (Nat.le_of_ble_eq_true rfl) (by omega) rfl (R_ra_underBits (d - 1) (by omega) e12) (by simp) rfl rfl ?_
    cases hS
    exact ev_ireturn pm99 i99_32 rfl rfl rfl
  · rw [if_neg c254] at hS
    refine ev_if_eq_f (t := 20) pm99 i99_15 rfl c254 rfl rfl ?_
    refine ev_iconst (v := -1) pm99 i99_18 rfl (by decide) rfl ?_
    cases hS
    exact ev_ireturn pm99 i99_19 rfl rfl rfl
def B_cs_sinks_28 (l0 : Nat) (l1 : Int32) (s : Int32) (h : Hp) : Option (((Int32) ⊕ ((Unit) ⊕ Int32)) × Hp) :=
  if (20 : Int32) < s then
    (some (.inr (.inl ()), h))
  else
    (bn (gR h l0 11 6) fun x12 =>
    bn (gR h l0 11 3) fun x14 =>
    bn (gR h l0 11 5) fun x16 =>
    bn (F_ra_measure x12 x14 x16 h) fun h19 =>
    bn (gR h19 l0 11 6) fun x20 =>
    bn (gR h19 x20 6 3) fun x22 =>
    bn (aI h19 100 x22 l1) fun x24 =>
    if x24 < (0 : Int32) then
      (some (.inr (.inr s), h19))
    else
      (bn (gR h19 l0 11 5) fun x26 =>
      bn (F_st_soften x26 h19) fun h29 =>
      some (.inl (s + (1 : Int32)), h29)))
set_option maxRecDepth 20000 in
theorem L_cs_sinks_28 (d : Nat) (hd : 4 ≤ d) {l0 : Nat} {l1 : Int32} : ∀ (n : Nat) (s : Int32) (h : Hp) (x : (Unit) ⊕ Int32) (hx : Hp), lp (B_cs_sinks_28 l0 l1) n s h = some (x, hx) → ∀ r, ei x (fun q => Ev P d 100 (76, [unk, unk, unk], [], hx) r) (fun v => (some (.int v), hx) = r) → Ev P d 100 (28, [.ref l0, .int l1, .int s], [], h) r := by
  refine lp_ev (G0 := fun (s : Int32) h r => Ev P d 100 (28, [.ref l0, .int l1, .int s], [], h) r) (X := fun (x : (Unit) ⊕ Int32) hx r => ei x (fun q => Ev P d 100 (76, [unk, unk, unk], [], hx) r) (fun v => (some (.int v), hx) = r)) ?_
  intro s h y h9 hS r hK
  unfold B_cs_sinks_28 at hS
  show Ev P d 100 (28, [.ref l0, .int l1, .int s], [], h) r
  refine ev_iload_n pm100 i100_28 rfl rfl rfl ?_
  refine ev_bipush (v := 20) pm100 i100_29 rfl (by decide) rfl ?_
  by_cases c255 : (20 : Int32) < s
  · rw [if_pos c255] at hS
    refine ev_icmp_gt_t (t := 76) pm100 i100_31 rfl c255 rfl rfl ?_
    refine ev_kls (ls' := [unk, unk, unk]) pm100 i100_76 rfl rfl ?_
    cases hS
    exact hK
  · rw [if_neg c255] at hS
    refine ev_icmp_gt_f (t := 76) pm100 i100_31 rfl c255 rfl rfl ?_
    refine ev_aload_n pm100 i100_34 rfl rfl rfl ?_
    obtain ⟨x12, e13, hS⟩ := bn_s hS
    refine ev_getR pm100 i100_35 rfl rfl rfl e13 rfl ?_
    refine ev_aload_n pm100 i100_38 rfl rfl rfl ?_
    obtain ⟨x14, e15, hS⟩ := bn_s hS
    refine ev_getR pm100 i100_39 rfl rfl rfl e15 rfl ?_
    refine ev_aload_n pm100 i100_42 rfl rfl rfl ?_
    obtain ⟨x16, e17, hS⟩ := bn_s hS
    refine ev_getR pm100 i100_43 rfl rfl rfl e17 rfl ?_
    obtain ⟨h19, e18, hS⟩ := bn_s hS
    refine ev_callV (sa := [.ref x16, .ref x14]) (rest := []) (st' := []) (ls0 := [.ref x12, .ref x14, .ref x16]) (rv := none) pm100 i100_46 rfl rfl pm64 (by decide) (K_ra_measure e18) rfl rfl (Nat.le_of_ble_eq_true rfl) (by omega) rfl (R_ra_measure (d - 1) (by omega) e18) (by simp) rfl rfl ?_
    refine ev_aload_n pm100 i100_49 rfl rfl rfl ?_
    obtain ⟨x20, e21, hS⟩ := bn_s hS
    refine ev_getR pm100 i100_50 rfl rfl rfl e21 rfl ?_
    obtain ⟨x22, e23, hS⟩ := bn_s hS
    refine ev_getR pm100 i100_53 rfl rfl rfl e23 rfl ?_
    refine ev_iload_n pm100 i100_56 rfl rfl rfl ?_
    obtain ⟨x24, e25, hS⟩ := bn_s hS
    refine ev_iald pm100 i100_57 rfl e25 rfl ?_
    by_cases c256 : x24 < (0 : Int32)
    · rw [if_pos c256] at hS
      refine ev_if_ge_t (t := 63) pm100 i100_58 rfl c256 rfl rfl ?_
      refine ev_iload_n pm100 i100_61 rfl rfl rfl ?_
      cases hS
      exact ev_ireturn pm100 i100_62 rfl rfl hK
    · rw [if_neg c256] at hS
      refine ev_if_ge_f (t := 63) pm100 i100_58 rfl c256 rfl rfl ?_
      refine ev_aload_n pm100 i100_63 rfl rfl rfl ?_
      obtain ⟨x26, e27, hS⟩ := bn_s hS
      refine ev_getR pm100 i100_64 rfl rfl rfl e27 rfl ?_
      obtain ⟨h29, e28, hS⟩ := bn_s hS
      refine ev_callV (sa := []) (rest := []) (st' := []) (ls0 := [.ref x26, unk]) (rv := none) pm100 i100_67 rfl rfl pm97 (by decide) (K_st_soften e28) rfl rfl (Nat.le_of_ble_eq_true rfl) (by omega) rfl (R_st_soften (d - 1) (by omega) e28) (by simp) rfl rfl ?_
      refine ev_iinc (v := 1) (ls' := [.ref l0, .int l1, .int (s + (1 : Int32))]) pm100 i100_70 rfl rfl (by decide) rfl rfl ?_
      refine ev_goto (t := 28) pm100 i100_73 rfl rfl ?_
      cases hS
      exact hK
def F_cs_sinks (a0 : Nat) (a1 : Int32) (h : Hp) : Option (Int32 × Hp) :=
  ck h a0 11 (bn (F_cs_noHouse a0 a1 h) fun x2 =>
  bd (F_cs_refused a0 x2 (0 : Int32) h) fun x4 h5 =>
  if x4 = (0 : Int32) then
    (bn (gR h5 a0 11 5) fun x6 =>
    bn (gR h5 a0 11 4) fun x8 =>
    bn (F_st_copyFrom x6 x8 h5) fun h11 =>
    bd (lp (B_cs_sinks_28 a0 a1) FU (0 : Int32) h11) fun x30 h32 =>
    ei x30 (fun q33 =>
    some ((-2 : Int32), h32))
    (fun x34 => some (x34, h32)))
  else
    (some ((-1 : Int32), h5)))
set_option maxRecDepth 20000 in
theorem K_cs_sinks {a0 : Nat} {a1 : Int32} {h : Hp} {v : Int32} {h' : Hp} (hS : F_cs_sinks a0 a1 h = some (v, h')) : kd h a0 = 11 := by
  unfold F_cs_sinks at hS
  exact (ck_s hS).1
set_option maxRecDepth 20000 in
theorem R_cs_sinks (d : Nat) (hd : 4 ≤ d) {a0 : Nat} {a1 : Int32} {h : Hp} {v : Int32} {h' : Hp} (hS : F_cs_sinks a0 a1 h = some (v, h')) : Ev P d 100 (0, [.ref a0, .int a1, unk], [], h) (some (.int v), h') := by
  unfold F_cs_sinks at hS
  replace hS := (ck_s hS).2
  refine ev_aload_n pm100 i100_0 rfl rfl rfl ?_
  refine ev_aload_n pm100 i100_1 rfl rfl rfl ?_
  refine ev_iload_n pm100 i100_2 rfl rfl rfl ?_
  obtain ⟨x2, e1, hS⟩ := bn_s hS
  refine ev_callV (sa := [.int a1]) (rest := [.ref a0]) (st' := [.int x2, .ref a0]) (ls0 := [.ref a0, .int a1]) (rv := some (.int x2)) pm100 i100_3 rfl rfl pm63 (by decide) (K_cs_noHouse e1) rfl rfl (Nat.le_of_ble_eq_true rfl) (by omega) rfl (R_cs_noHouse (d - 1) (by omega) e1) (by simp) rfl rfl ?_
  refine ev_iconst (v := 0) pm100 i100_6 rfl (by decide) rfl ?_
  obtain ⟨x4, h5, e3, hS⟩ := bd_s hS
  refine ev_callV (sa := [.int (0 : Int32), .int x2]) (rest := []) (st' := [.int x4]) (ls0 := [.ref a0, .int x2, .int (0 : Int32)]) (rv := some (.int x4)) pm100 i100_7 rfl rfl pm18 (by decide) (K_cs_refused e3) rfl rfl (Nat.le_of_ble_eq_true rfl) (by omega) rfl (R_cs_refused (d - 1) (by omega) e3) (by simp) rfl rfl ?_
  by_cases c257 : x4 = (0 : Int32)
  · rw [if_pos c257] at hS
    refine ev_if_eq_t (t := 15) pm100 i100_10 rfl c257 rfl rfl ?_
    refine ev_aload_n pm100 i100_15 rfl rfl rfl ?_
    obtain ⟨x6, e7, hS⟩ := bn_s hS
    refine ev_getR pm100 i100_16 rfl rfl rfl e7 rfl ?_
    refine ev_aload_n pm100 i100_19 rfl rfl rfl ?_
    obtain ⟨x8, e9, hS⟩ := bn_s hS
    refine ev_getR pm100 i100_20 rfl rfl rfl e9 rfl ?_
    obtain ⟨h11, e10, hS⟩ := bn_s hS
    refine ev_callV (sa := [.ref x8]) (rest := []) (st' := []) (ls0 := [.ref x6, .ref x8]) (rv := none) pm100 i100_23 rfl rfl pm96 (by decide) (K_st_copyFrom e10) rfl rfl (Nat.le_of_ble_eq_true rfl) (by omega) rfl (R_st_copyFrom (d - 1) (by omega) e10) (by simp) rfl rfl ?_
    refine ev_iconst (v := 0) pm100 i100_26 rfl (by decide) rfl ?_
    refine ev_istore_n (ls' := [.ref a0, .int a1, .int (0 : Int32)]) pm100 i100_27 rfl (Nat.le_of_ble_eq_true rfl) rfl rfl ?_
    obtain ⟨x30, h32, e31, hS⟩ := bd_s hS
    refine L_cs_sinks_28 d (by omega) _ _ _ _ _ e31 _ ?_
    cases x30 with
    | inl q33 =>
      replace hS := ei_l hS
      show Ev P d 100 (76, [unk, unk, unk], [], h32) _
      refine ev_bipush (v := -2) pm100 i100_76 rfl (by decide) rfl ?_
      cases hS
      exact ev_ireturn pm100 i100_78 rfl rfl rfl
    | inr x34 =>
      replace hS := ei_r hS
      cases hS
      rfl
  · rw [if_neg c257] at hS
    refine ev_if_eq_f (t := 15) pm100 i100_10 rfl c257 rfl rfl ?_
    refine ev_iconst (v := -1) pm100 i100_13 rfl (by decide) rfl ?_
    cases hS
    exact ev_ireturn pm100 i100_14 rfl rfl rfl
def B_cs_wetFeast_16 (l0 : Nat) (s : Int32) (h : Hp) : Option (((Int32) ⊕ ((Unit) ⊕ Int32)) × Hp) :=
  bn (gR h l0 11 3) fun x6 =>
  bn (gI h x6 10 14) fun x8 =>
  if s < x8 then
    (bn (gR h l0 11 3) fun x10 =>
    bn (gR h x10 10 16) fun x12 =>
    bn (aI h 100 x12 s) fun x14 =>
    bn (F_cs_measureIn l0 x14 h) fun h17 =>
    bn (gR h17 l0 11 6) fun x18 =>
    bn (gR h17 x18 6 3) fun x20 =>
    bn (gR h17 l0 11 3) fun x22 =>
    bn (gR h17 x22 10 15) fun x24 =>
    bn (aI h17 100 x24 s) fun x26 =>
    bn (aI h17 100 x20 x26) fun x28 =>
    bn (gR h17 l0 11 3) fun x30 =>
    bn (gR h17 x30 10 17) fun x32 =>
    bn (aI h17 100 x32 s) fun x34 =>
    if x28 < x34 then
      (some (.inr (.inr s), h17))
    else
      (some (.inl (s + (1 : Int32)), h17)))
  else
    (some (.inr (.inl ()), h))
set_option maxRecDepth 20000 in
theorem L_cs_wetFeast_16 (d : Nat) (hd : 5 ≤ d) {l0 : Nat} : ∀ (n : Nat) (s : Int32) (h : Hp) (x : (Unit) ⊕ Int32) (hx : Hp), lp (B_cs_wetFeast_16 l0) n s h = some (x, hx) → ∀ r, ei x (fun q => Ev P d 101 (77, [unk, unk], [], hx) r) (fun v => (some (.int v), hx) = r) → Ev P d 101 (16, [.ref l0, .int s], [], h) r := by
  refine lp_ev (G0 := fun (s : Int32) h r => Ev P d 101 (16, [.ref l0, .int s], [], h) r) (X := fun (x : (Unit) ⊕ Int32) hx r => ei x (fun q => Ev P d 101 (77, [unk, unk], [], hx) r) (fun v => (some (.int v), hx) = r)) ?_
  intro s h y h9 hS r hK
  unfold B_cs_wetFeast_16 at hS
  show Ev P d 101 (16, [.ref l0, .int s], [], h) r
  refine ev_iload_n pm101 i101_16 rfl rfl rfl ?_
  refine ev_aload_n pm101 i101_17 rfl rfl rfl ?_
  obtain ⟨x6, e7, hS⟩ := bn_s hS
  refine ev_getR pm101 i101_18 rfl rfl rfl e7 rfl ?_
  obtain ⟨x8, e9, hS⟩ := bn_s hS
  refine ev_getI pm101 i101_21 rfl rfl (by decide) e9 rfl ?_
  by_cases c258 : s < x8
  · rw [if_pos c258] at hS
    refine ev_icmp_ge_t (t := 77) pm101 i101_24 rfl c258 rfl rfl ?_
    refine ev_aload_n pm101 i101_27 rfl rfl rfl ?_
    refine ev_aload_n pm101 i101_28 rfl rfl rfl ?_
    obtain ⟨x10, e11, hS⟩ := bn_s hS
    refine ev_getR pm101 i101_29 rfl rfl rfl e11 rfl ?_
    obtain ⟨x12, e13, hS⟩ := bn_s hS
    refine ev_getR pm101 i101_32 rfl rfl rfl e13 rfl ?_
    refine ev_iload_n pm101 i101_35 rfl rfl rfl ?_
    obtain ⟨x14, e15, hS⟩ := bn_s hS
    refine ev_iald pm101 i101_36 rfl e15 rfl ?_
    obtain ⟨h17, e16, hS⟩ := bn_s hS
    refine ev_callV (sa := [.int x14]) (rest := []) (st' := []) (ls0 := [.ref l0, .int x14, unk]) (rv := none) pm101 i101_37 rfl rfl pm95 (by decide) (K_cs_measureIn e16) rfl rfl (Nat.le_of_ble_eq_true rfl) (by omega) rfl (R_cs_measureIn (d - 1) (by omega) e16) (by simp) rfl rfl ?_
    refine ev_aload_n pm101 i101_40 rfl rfl rfl ?_
    obtain ⟨x18, e19, hS⟩ := bn_s hS
    refine ev_getR pm101 i101_41 rfl rfl rfl e19 rfl ?_
    obtain ⟨x20, e21, hS⟩ := bn_s hS
    refine ev_getR pm101 i101_44 rfl rfl rfl e21 rfl ?_
    refine ev_aload_n pm101 i101_47 rfl rfl rfl ?_
    obtain ⟨x22, e23, hS⟩ := bn_s hS
    refine ev_getR pm101 i101_48 rfl rfl rfl e23 rfl ?_
    obtain ⟨x24, e25, hS⟩ := bn_s hS
    refine ev_getR pm101 i101_51 rfl rfl rfl e25 rfl ?_
    refine ev_iload_n pm101 i101_54 rfl rfl rfl ?_
    obtain ⟨x26, e27, hS⟩ := bn_s hS
    refine ev_iald pm101 i101_55 rfl e27 rfl ?_
    obtain ⟨x28, e29, hS⟩ := bn_s hS
    refine ev_iald pm101 i101_56 rfl e29 rfl ?_
    refine ev_aload_n pm101 i101_57 rfl rfl rfl ?_
    obtain ⟨x30, e31, hS⟩ := bn_s hS
    refine ev_getR pm101 i101_58 rfl rfl rfl e31 rfl ?_
    obtain ⟨x32, e33, hS⟩ := bn_s hS
    refine ev_getR pm101 i101_61 rfl rfl rfl e33 rfl ?_
    refine ev_iload_n pm101 i101_64 rfl rfl rfl ?_
    obtain ⟨x34, e35, hS⟩ := bn_s hS
    refine ev_iald pm101 i101_65 rfl e35 rfl ?_
    by_cases c259 : x28 < x34
    · rw [if_pos c259] at hS
      refine ev_icmp_ge_t (t := 71) pm101 i101_66 rfl c259 rfl rfl ?_
      refine ev_iload_n pm101 i101_69 rfl rfl rfl ?_
      cases hS
      exact ev_ireturn pm101 i101_70 rfl rfl hK
    · rw [if_neg c259] at hS
      refine ev_icmp_ge_f (t := 71) pm101 i101_66 rfl c259 rfl rfl ?_
      refine ev_iinc (v := 1) (ls' := [.ref l0, .int (s + (1 : Int32))]) pm101 i101_71 rfl rfl (by decide) rfl rfl ?_
      refine ev_goto (t := 16) pm101 i101_74 rfl rfl ?_
      cases hS
      exact hK
  · rw [if_neg c258] at hS
    refine ev_icmp_ge_f (t := 77) pm101 i101_24 rfl c258 rfl rfl ?_
    refine ev_kls (ls' := [unk, unk]) pm101 i101_77 rfl rfl ?_
    cases hS
    exact hK
def F_cs_wetFeast (a0 : Nat) (h : Hp) : Option (Int32 × Hp) :=
  ck h a0 11 (bn (F_cs_noLake a0 h) fun x2 =>
  bd (F_cs_refused a0 x2 (0 : Int32) h) fun x4 h5 =>
  if x4 = (0 : Int32) then
    (bd (lp (B_cs_wetFeast_16 a0) FU (0 : Int32) h5) fun x36 h38 =>
    ei x36 (fun q39 =>
    some ((-2 : Int32), h38))
    (fun x40 => some (x40, h38)))
  else
    (some ((-1 : Int32), h5)))
set_option maxRecDepth 20000 in
theorem K_cs_wetFeast {a0 : Nat} {h : Hp} {v : Int32} {h' : Hp} (hS : F_cs_wetFeast a0 h = some (v, h')) : kd h a0 = 11 := by
  unfold F_cs_wetFeast at hS
  exact (ck_s hS).1
set_option maxRecDepth 20000 in
theorem R_cs_wetFeast (d : Nat) (hd : 5 ≤ d) {a0 : Nat} {h : Hp} {v : Int32} {h' : Hp} (hS : F_cs_wetFeast a0 h = some (v, h')) : Ev P d 101 (0, [.ref a0, unk], [], h) (some (.int v), h') := by
  unfold F_cs_wetFeast at hS
  replace hS := (ck_s hS).2
  refine ev_aload_n pm101 i101_0 rfl rfl rfl ?_
  refine ev_aload_n pm101 i101_1 rfl rfl rfl ?_
  obtain ⟨x2, e1, hS⟩ := bn_s hS
  refine ev_callV (sa := []) (rest := [.ref a0]) (st' := [.int x2, .ref a0]) (ls0 := [.ref a0]) (rv := some (.int x2)) pm101 i101_2 rfl rfl pm86 (by decide) (K_cs_noLake e1) rfl rfl (Nat.le_of_ble_eq_true rfl) (by omega) rfl (R_cs_noLake (d - 1) (by omega) e1) (by simp) rfl rfl ?_
  refine ev_iconst (v := 0) pm101 i101_5 rfl (by decide) rfl ?_
  obtain ⟨x4, h5, e3, hS⟩ := bd_s hS
  refine ev_callV (sa := [.int (0 : Int32), .int x2]) (rest := []) (st' := [.int x4]) (ls0 := [.ref a0, .int x2, .int (0 : Int32)]) (rv := some (.int x4)) pm101 i101_6 rfl rfl pm18 (by decide) (K_cs_refused e3) rfl rfl (Nat.le_of_ble_eq_true rfl) (by omega) rfl (R_cs_refused (d - 1) (by omega) e3) (by simp) rfl rfl ?_
  by_cases c260 : x4 = (0 : Int32)
  · rw [if_pos c260] at hS
    refine ev_if_eq_t (t := 14) pm101 i101_9 rfl c260 rfl rfl ?_
    refine ev_iconst (v := 0) pm101 i101_14 rfl (by decide) rfl ?_
    refine ev_istore_n (ls' := [.ref a0, .int (0 : Int32)]) pm101 i101_15 rfl (Nat.le_of_ble_eq_true rfl) rfl rfl ?_
    obtain ⟨x36, h38, e37, hS⟩ := bd_s hS
    refine L_cs_wetFeast_16 d (by omega) _ _ _ _ _ e37 _ ?_
    cases x36 with
    | inl q39 =>
      replace hS := ei_l hS
      show Ev P d 101 (77, [unk, unk], [], h38) _
      refine ev_bipush (v := -2) pm101 i101_77 rfl (by decide) rfl ?_
      cases hS
      exact ev_ireturn pm101 i101_79 rfl rfl rfl
    | inr x40 =>
      replace hS := ei_r hS
      cases hS
      rfl
  · rw [if_neg c260] at hS
    refine ev_if_eq_f (t := 14) pm101 i101_9 rfl c260 rfl rfl ?_
    refine ev_iconst (v := -1) pm101 i101_12 rfl (by decide) rfl ?_
    cases hS
    exact ev_ireturn pm101 i101_13 rfl rfl rfl
def F_st_liftOfKind (a0 : Int32) (h : Hp) : Option Int32 :=
  if a0 < (0 : Int32) then
    (some (0 : Int32))
  else
    (bn (aN h 1000001) fun x1 =>
    if a0 < x1 then
      (bn (aI h 100 1000001 a0) fun x3 =>
      some x3)
    else
      (some (0 : Int32)))
set_option maxRecDepth 20000 in
theorem R_st_liftOfKind (d : Nat) (hd : 0 ≤ d) {a0 : Int32} {h : Hp} {v : Int32} (hS : F_st_liftOfKind a0 h = some v) : Ev P d 103 (0, [.int a0], [], h) (some (.int v), h) := by
  unfold F_st_liftOfKind at hS
  refine ev_iload_n pm103 i103_0 rfl rfl rfl ?_
  by_cases c261 : a0 < (0 : Int32)
  · rw [if_pos c261] at hS
    refine ev_if_lt_t (t := 12) pm103 i103_1 rfl c261 rfl rfl ?_
    refine ev_kls (ls' := [unk]) pm103 i103_12 rfl rfl ?_
    refine ev_iconst (v := 0) pm103 i103_12 rfl (by decide) rfl ?_
    refine ev_goto (t := 21) pm103 i103_13 rfl rfl ?_
    cases hS
    exact ev_ireturn pm103 i103_21 rfl rfl rfl
  · rw [if_neg c261] at hS
    refine ev_if_lt_f (t := 12) pm103 i103_1 rfl c261 rfl rfl ?_
    refine ev_iload_n pm103 i103_4 rfl rfl rfl ?_
    refine ev_getstatic (v := .ref 1000001) pm103 i103_5 rfl rfl rfl ?_
    obtain ⟨x1, e2, hS⟩ := bn_s hS
    refine ev_alen pm103 i103_8 rfl e2 rfl ?_
    by_cases c262 : a0 < x1
    · rw [if_pos c262] at hS
      refine ev_icmp_lt_t (t := 16) pm103 i103_9 rfl c262 rfl rfl ?_
      refine ev_getstatic (v := .ref 1000001) pm103 i103_16 rfl rfl rfl ?_
      refine ev_iload_n pm103 i103_19 rfl rfl rfl ?_
      obtain ⟨x3, e4, hS⟩ := bn_s hS
      refine ev_iald pm103 i103_20 rfl e4 rfl ?_
      refine ev_kls (ls' := [unk]) pm103 i103_21 rfl rfl ?_
      cases hS
      exact ev_ireturn pm103 i103_21 rfl rfl rfl
    · rw [if_neg c262] at hS
      refine ev_icmp_lt_f (t := 16) pm103 i103_9 rfl c262 rfl rfl ?_
      refine ev_kls (ls' := [unk]) pm103 i103_12 rfl rfl ?_
      refine ev_iconst (v := 0) pm103 i103_12 rfl (by decide) rfl ?_
      refine ev_goto (t := 21) pm103 i103_13 rfl rfl ?_
      cases hS
      exact ev_ireturn pm103 i103_21 rfl rfl rfl
def B_cs_aunt_72 (l4 : Int32) (l5 : Int32) (s : Int32) : Option ((Int32) ⊕ ((Unit) ⊕ Int32)) :=
  if (300 : Int32) < s then
    (some (.inr (.inl ())))
  else
    (if (s * l5) < l4 then
      (some (.inl (s + (1 : Int32))))
    else
      (some (.inr (.inr s))))
set_option maxRecDepth 20000 in
theorem L_cs_aunt_72 (d : Nat) (hd : 4 ≤ d) {l4 : Int32} {l5 : Int32} {h : Hp} : ∀ (n : Nat) (s : Int32) (x : (Unit) ⊕ Int32), lq (B_cs_aunt_72 l4 l5) n s = some x → ∀ r, ei x (fun q => Ev P d 102 (99, [unk, unk, unk, unk, unk, unk, unk], [], h) r) (fun v => (some (.int v), h) = r) → Ev P d 102 (72, [unk, unk, unk, unk, .int l4, .int l5, .int s], [], h) r := by
  refine lq_ev (G0 := fun (s : Int32) r => Ev P d 102 (72, [unk, unk, unk, unk, .int l4, .int l5, .int s], [], h) r) (X := fun (x : (Unit) ⊕ Int32) r => ei x (fun q => Ev P d 102 (99, [unk, unk, unk, unk, unk, unk, unk], [], h) r) (fun v => (some (.int v), h) = r)) ?_
  intro s y hS r hK
  unfold B_cs_aunt_72 at hS
  show Ev P d 102 (72, [unk, unk, unk, unk, .int l4, .int l5, .int s], [], h) r
  refine ev_iload pm102 i102_72 rfl rfl rfl ?_
  refine ev_sipush (v := 300) pm102 i102_74 rfl (by decide) rfl ?_
  by_cases c263 : (300 : Int32) < s
  · rw [if_pos c263] at hS
    refine ev_icmp_gt_t (t := 99) pm102 i102_77 rfl c263 rfl rfl ?_
    refine ev_kls (ls' := [unk, unk, unk, unk, unk, unk, unk]) pm102 i102_99 rfl rfl ?_
    cases hS
    exact hK
  · rw [if_neg c263] at hS
    refine ev_icmp_gt_f (t := 99) pm102 i102_77 rfl c263 rfl rfl ?_
    refine ev_iload pm102 i102_80 rfl rfl rfl ?_
    refine ev_iload pm102 i102_82 rfl rfl rfl ?_
    refine ev_b2 (f := fun x y => x * y) pm102 i102_84 rfl (fun _ _ _ _ => rfl) rfl ?_
    refine ev_iload pm102 i102_85 rfl rfl rfl ?_
    by_cases c264 : (s * l5) < l4
    · rw [if_pos c264] at hS
      refine ev_icmp_lt_t (t := 93) pm102 i102_87 rfl c264 rfl rfl ?_
      refine ev_iinc (v := 1) (ls' := [unk, unk, unk, unk, .int l4, .int l5, .int (s + (1 : Int32))]) pm102 i102_93 rfl rfl (by decide) rfl rfl ?_
      refine ev_goto (t := 72) pm102 i102_96 rfl rfl ?_
      cases hS
      exact hK
    · rw [if_neg c264] at hS
      refine ev_icmp_lt_f (t := 93) pm102 i102_87 rfl c264 rfl rfl ?_
      refine ev_iload pm102 i102_90 rfl rfl rfl ?_
      cases hS
      exact ev_ireturn pm102 i102_92 rfl rfl hK
def F_cs_aunt (a0 : Nat) (a1 : Int32) (a2 : Int32) (a3 : Int32) (h : Hp) : Option (Int32 × Hp) :=
  ck h a0 11 (bn (F_cs_noHouse a0 a1 h) fun x2 =>
  bn (F_cs_outside a2 (0 : Int32) (99 : Int32)) fun x4 =>
  bn (if x4 = (0 : Int32) then
      (bn (F_cs_noKind a3) fun x6 =>
      if x6 = (0 : Int32) then
        (some (0 : Int32))
      else
        (some (1 : Int32)))
    else
      (some (1 : Int32))) fun q7 =>
  bd (F_cs_refused a0 x2 q7 h) fun x9 h10 =>
  if x9 = (0 : Int32) then
    (bn (gR h10 a0 11 6) fun x11 =>
    bn (gR h10 a0 11 3) fun x13 =>
    bn (gR h10 a0 11 4) fun x15 =>
    bn (F_ra_measure x11 x13 x15 h10) fun h18 =>
    bn (gR h18 a0 11 6) fun x19 =>
    bn (F_ra_totalOf x19 a1 h18) fun x22 =>
    bn (F_st_liftOfKind a3 h18) fun x24 =>
    bn (lq (B_cs_aunt_72 (a2 - x22) x24) FU (0 : Int32)) fun x25 =>
    ei x25 (fun q27 =>
    some ((-2 : Int32), h18))
    (fun x28 => some (x28, h18)))
  else
    (some ((-1 : Int32), h10)))
set_option maxRecDepth 20000 in
theorem K_cs_aunt {a0 : Nat} {a1 : Int32} {a2 : Int32} {a3 : Int32} {h : Hp} {v : Int32} {h' : Hp} (hS : F_cs_aunt a0 a1 a2 a3 h = some (v, h')) : kd h a0 = 11 := by
  unfold F_cs_aunt at hS
  exact (ck_s hS).1
set_option maxRecDepth 20000 in
theorem R_cs_aunt (d : Nat) (hd : 4 ≤ d) {a0 : Nat} {a1 : Int32} {a2 : Int32} {a3 : Int32} {h : Hp} {v : Int32} {h' : Hp} (hS : F_cs_aunt a0 a1 a2 a3 h = some (v, h')) : Ev P d 102 (0, [.ref a0, .int a1, .int a2, .int a3, unk, unk, unk], [], h) (some (.int v), h') := by
  unfold F_cs_aunt at hS
  replace hS := (ck_s hS).2
  refine ev_aload_n pm102 i102_0 rfl rfl rfl ?_
  refine ev_aload_n pm102 i102_1 rfl rfl rfl ?_
  refine ev_iload_n pm102 i102_2 rfl rfl rfl ?_
  obtain ⟨x2, e1, hS⟩ := bn_s hS
  refine ev_callV (sa := [.int a1]) (rest := [.ref a0]) (st' := [.int x2, .ref a0]) (ls0 := [.ref a0, .int a1]) (rv := some (.int x2)) pm102 i102_3 rfl rfl pm63 (by decide) (K_cs_noHouse e1) rfl rfl (Nat.le_of_ble_eq_true rfl) (by omega) rfl (R_cs_noHouse (d - 1) (by omega) e1) (by simp) rfl rfl ?_
  refine ev_iload_n pm102 i102_6 rfl rfl rfl ?_
  refine ev_iconst (v := 0) pm102 i102_7 rfl (by decide) rfl ?_
  refine ev_bipush (v := 99) pm102 i102_8 rfl (by decide) rfl ?_
  obtain ⟨x4, e3, hS⟩ := bn_s hS
  refine ev_callS (sa := [.int (99 : Int32), .int (0 : Int32), .int a2]) (rest := [.int x2, .ref a0]) (st' := [.int x4, .int x2, .ref a0]) (ls0 := [.int a2, .int (0 : Int32), .int (99 : Int32)]) (rv := some (.int x4)) pm102 i102_10 rfl rfl pm17 (by decide) rfl rfl (Nat.le_of_ble_eq_true rfl) (by omega) rfl (R_cs_outside (d - 1) (by omega) e3) (by simp) rfl rfl ?_
  obtain ⟨q7, I265, hS⟩ := bn_s hS
  have J1 : Ev P d 102 (28, [.ref a0, .int a1, .int a2, .int a3, unk, unk, unk], [.int q7, .int x2, .ref a0], h) (some (.int v), h') := by
    obtain ⟨x9, h10, e8, hS⟩ := bd_s hS
    refine ev_callV (sa := [.int q7, .int x2]) (rest := []) (st' := [.int x9]) (ls0 := [.ref a0, .int x2, .int q7]) (rv := some (.int x9)) pm102 i102_28 rfl rfl pm18 (by decide) (K_cs_refused e8) rfl rfl (Nat.le_of_ble_eq_true rfl) (by omega) rfl (R_cs_refused (d - 1) (by omega) e8) (by simp) rfl rfl ?_
    by_cases c266 : x9 = (0 : Int32)
    · rw [if_pos c266] at hS
      refine ev_if_eq_t (t := 36) pm102 i102_31 rfl c266 rfl rfl ?_
      refine ev_aload_n pm102 i102_36 rfl rfl rfl ?_
      obtain ⟨x11, e12, hS⟩ := bn_s hS
      refine ev_getR pm102 i102_37 rfl rfl rfl e12 rfl ?_
      refine ev_aload_n pm102 i102_40 rfl rfl rfl ?_
      obtain ⟨x13, e14, hS⟩ := bn_s hS
      refine ev_getR pm102 i102_41 rfl rfl rfl e14 rfl ?_
      refine ev_aload_n pm102 i102_44 rfl rfl rfl ?_
      obtain ⟨x15, e16, hS⟩ := bn_s hS
      refine ev_getR pm102 i102_45 rfl rfl rfl e16 rfl ?_
      obtain ⟨h18, e17, hS⟩ := bn_s hS
      refine ev_callV (sa := [.ref x15, .ref x13]) (rest := []) (st' := []) (ls0 := [.ref x11, .ref x13, .ref x15]) (rv := none) pm102 i102_48 rfl rfl pm64 (by decide) (K_ra_measure e17) rfl rfl (Nat.le_of_ble_eq_true rfl) (by omega) rfl (R_ra_measure (d - 1) (by omega) e17) (by simp) rfl rfl ?_
      refine ev_iload_n pm102 i102_51 rfl rfl rfl ?_
      refine ev_aload_n pm102 i102_52 rfl rfl rfl ?_
      obtain ⟨x19, e20, hS⟩ := bn_s hS
      refine ev_getR pm102 i102_53 rfl rfl rfl e20 rfl ?_
      refine ev_iload_n pm102 i102_56 rfl rfl rfl ?_
      obtain ⟨x22, e21, hS⟩ := bn_s hS
      refine ev_callV (sa := [.int a1]) (rest := [.int a2]) (st' := [.int x22, .int a2]) (ls0 := [.ref x19, .int a1, unk, unk]) (rv := some (.int x22)) pm102 i102_57 rfl rfl pm74 (by decide) (K_ra_totalOf e21) rfl rfl (Nat.le_of_ble_eq_true rfl) (by omega) rfl (R_ra_totalOf (d - 1) (by omega) e21) (by simp) rfl rfl ?_
      refine ev_b2 (f := fun x y => x - y) pm102 i102_60 rfl (fun _ _ _ _ => rfl) rfl ?_
      refine ev_istore (ls' := [.ref a0, .int a1, .int a2, .int a3, .int (a2 - x22), unk, unk]) pm102 i102_61 rfl (Nat.le_of_ble_eq_true rfl) rfl rfl ?_
      refine ev_iload_n pm102 i102_63 rfl rfl rfl ?_
      obtain ⟨x24, e23, hS⟩ := bn_s hS
      refine ev_callS (sa := [.int a3]) (rest := []) (st' := [.int x24]) (ls0 := [.int a3]) (rv := some (.int x24)) pm102 i102_64 rfl rfl pm103 (by decide) rfl rfl (Nat.le_of_ble_eq_true rfl) (by omega) rfl (R_st_liftOfKind (d - 1) (by omega) e23) (by simp) rfl rfl ?_
      refine ev_istore (ls' := [.ref a0, .int a1, .int a2, .int a3, .int (a2 - x22), .int x24, unk]) pm102 i102_67 rfl (Nat.le_of_ble_eq_true rfl) rfl rfl ?_
      refine ev_iconst (v := 0) pm102 i102_69 rfl (by decide) rfl ?_
      refine ev_istore (ls' := [.ref a0, .int a1, .int a2, .int a3, .int (a2 - x22), .int x24, .int (0 : Int32)]) pm102 i102_70 rfl (Nat.le_of_ble_eq_true rfl) rfl rfl ?_
      refine ev_kls (ls' := [unk, unk, unk, unk, .int (a2 - x22), .int x24, .int (0 : Int32)]) pm102 i102_72 rfl rfl ?_
      obtain ⟨x25, e26, hS⟩ := bn_s hS
      refine L_cs_aunt_72 d (by omega) _ _ _ e26 _ ?_
      cases x25 with
      | inl q27 =>
        replace hS := ei_l hS
        show Ev P d 102 (99, [unk, unk, unk, unk, unk, unk, unk], [], h18) _
        refine ev_bipush (v := -2) pm102 i102_99 rfl (by decide) rfl ?_
        cases hS
        exact ev_ireturn pm102 i102_101 rfl rfl rfl
      | inr x28 =>
        replace hS := ei_r hS
        cases hS
        rfl
    · rw [if_neg c266] at hS
      refine ev_if_eq_f (t := 36) pm102 i102_31 rfl c266 rfl rfl ?_
      refine ev_iconst (v := -1) pm102 i102_34 rfl (by decide) rfl ?_
      cases hS
      exact ev_ireturn pm102 i102_35 rfl rfl rfl
  clear hS
  by_cases c265 : x4 = (0 : Int32)
  · rw [if_pos c265] at I265
    refine ev_if_ne_t (t := 23) pm102 i102_13 rfl c265 rfl rfl ?_
    refine ev_iload_n pm102 i102_16 rfl rfl rfl ?_
    obtain ⟨x6, e5, I265⟩ := bn_s I265
    refine ev_callS (sa := [.int a3]) (rest := [.int x2, .ref a0]) (st' := [.int x6, .int x2, .ref a0]) (ls0 := [.int a3]) (rv := some (.int x6)) pm102 i102_17 rfl rfl pm79 (by decide) rfl rfl (Nat.le_of_ble_eq_true rfl) (by omega) rfl (R_cs_noKind (d - 1) (by omega) e5) (by simp) rfl rfl ?_
    by_cases c267 : x6 = (0 : Int32)
    · rw [if_pos c267] at I265
      refine ev_if_eq_t (t := 27) pm102 i102_20 rfl c267 rfl rfl ?_
      refine ev_iconst (v := 0) pm102 i102_27 rfl (by decide) rfl ?_
      cases I265
      exact J1
    · rw [if_neg c267] at I265
      refine ev_if_eq_f (t := 27) pm102 i102_20 rfl c267 rfl rfl ?_
      refine ev_iconst (v := 1) pm102 i102_23 rfl (by decide) rfl ?_
      refine ev_goto (t := 28) pm102 i102_24 rfl rfl ?_
      cases I265
      exact J1
  · rw [if_neg c265] at I265
    refine ev_if_ne_f (t := 23) pm102 i102_13 rfl c265 rfl rfl ?_
    refine ev_iconst (v := 1) pm102 i102_23 rfl (by decide) rfl ?_
    refine ev_goto (t := 28) pm102 i102_24 rfl rfl ?_
    cases I265
    exact J1
def B_ra_bestHouseFor_7 (l0 : Nat) (l1 : Int32) (s : Int32 × Int32 × Int32) (h : Hp) : Option (((Int32 × Int32 × Int32) ⊕ (Int32)) × Hp) :=
  bn (gI h l0 6 0) fun x1 =>
  if s.2.2 < x1 then
    (bn (gR h l0 6 1) fun x3 =>
    bn (aI h 100 x3 s.2.2) fun x5 =>
    bn (sI h 100 x3 s.2.2 (x5 - l1)) fun h7 =>
    bn (F_ra_level l0 h7) fun h10 =>
    bn (gR h10 l0 6 1) fun x11 =>
    bn (aI h10 100 x11 s.2.2) fun x13 =>
    bn (sI h10 100 x11 s.2.2 (x13 + l1)) fun h15 =>
    bn (gR h15 l0 6 3) fun x17 =>
    bn (F_ra_lowestHouse l0 h15) fun x20 =>
    bn (aI h15 100 x17 x20) fun x21 =>
    if s.2.2 = (0 : Int32) then
      (some (.inl (s.2.2, x21, s.2.2 + (1 : Int32)), h15))
    else
      (if s.2.1 < x21 then
        (some (.inl (s.2.2, x21, s.2.2 + (1 : Int32)), h15))
      else
        (some (.inl (s.1, s.2.1, s.2.2 + (1 : Int32)), h15))))
  else
    (some (.inr s.1, h))
set_option maxRecDepth 20000 in
theorem L_ra_bestHouseFor_7 (d : Nat) (hd : 3 ≤ d) {l0 : Nat} {l1 : Int32} : ∀ (n : Nat) (s : Int32 × Int32 × Int32) (h : Hp) (x : Int32) (hx : Hp), lp (B_ra_bestHouseFor_7 l0 l1) n s h = some (x, hx) → ∀ r, Ev P d 105 (76, [unk, unk, .int x, unk, unk, unk], [], hx) r → Ev P d 105 (7, [.ref l0, .int l1, .int s.1, .int s.2.1, .int s.2.2, unk], [], h) r := by
  refine lp_ev (G0 := fun (s : Int32 × Int32 × Int32) h r => Ev P d 105 (7, [.ref l0, .int l1, .int s.1, .int s.2.1, .int s.2.2, unk], [], h) r) (X := fun (x : Int32) hx r => Ev P d 105 (76, [unk, unk, .int x, unk, unk, unk], [], hx) r) ?_
  intro s h y h9 hS r hK
  unfold B_ra_bestHouseFor_7 at hS
  show Ev P d 105 (7, [.ref l0, .int l1, .int s.1, .int s.2.1, .int s.2.2, unk], [], h) r
  refine ev_iload pm105 i105_7 rfl rfl rfl ?_
  refine ev_aload_n pm105 i105_9 rfl rfl rfl ?_
  obtain ⟨x1, e2, hS⟩ := bn_s hS
  refine ev_getI pm105 i105_10 rfl rfl (by decide) e2 rfl ?_
  by_cases c268 : s.2.2 < x1
  · rw [if_pos c268] at hS
    refine ev_icmp_ge_t (t := 76) pm105 i105_13 rfl c268 rfl rfl ?_
    refine ev_aload_n pm105 i105_16 rfl rfl rfl ?_
    obtain ⟨x3, e4, hS⟩ := bn_s hS
    refine ev_getR pm105 i105_17 rfl rfl rfl e4 rfl ?_
    refine ev_iload pm105 i105_20 rfl rfl rfl ?_
    refine ev_dup2 pm105 i105_22 rfl ⟨rfl, rfl⟩ rfl ?_
    obtain ⟨x5, e6, hS⟩ := bn_s hS
    refine ev_iald pm105 i105_23 rfl e6 rfl ?_
    refine ev_iload_n pm105 i105_24 rfl rfl rfl ?_
    refine ev_b2 (f := fun x y => x - y) pm105 i105_25 rfl (fun _ _ _ _ => rfl) rfl ?_
    obtain ⟨h7, e8, hS⟩ := bn_s hS
    refine ev_iast pm105 i105_26 rfl e8 rfl ?_
    refine ev_aload_n pm105 i105_27 rfl rfl rfl ?_
    obtain ⟨h10, e9, hS⟩ := bn_s hS
    refine ev_callV (sa := []) (rest := []) (st' := []) (ls0 := [.ref l0, unk, unk, unk]) (rv := none) pm105 i105_28 rfl rfl pm70 (by decide) (K_ra_level e9) rfl rfl (Nat.le_of_ble_eq_true rfl) (by omega) rfl (R_ra_level (d - 1) (by omega) e9) (by simp) rfl rfl ?_
    refine ev_aload_n pm105 i105_31 rfl rfl rfl ?_
    obtain ⟨x11, e12, hS⟩ := bn_s hS
    refine ev_getR pm105 i105_32 rfl rfl rfl e12 rfl ?_
    refine ev_iload pm105 i105_35 rfl rfl rfl ?_
    refine ev_dup2 pm105 i105_37 rfl ⟨rfl, rfl⟩ rfl ?_
    obtain ⟨x13, e14, hS⟩ := bn_s hS
    refine ev_iald pm105 i105_38 rfl e14 rfl ?_
    refine ev_iload_n pm105 i105_39 rfl rfl rfl ?_
    refine ev_b2 (f := fun x y => x + y) pm105 i105_40 rfl (fun _ _ _ _ => rfl) rfl ?_
    obtain ⟨h15, e16, hS⟩ := bn_s hS
    refine ev_iast pm105 i105_41 rfl e16 rfl ?_
    refine ev_aload_n pm105 i105_42 rfl rfl rfl ?_
    obtain ⟨x17, e18, hS⟩ := bn_s hS
    refine ev_getR pm105 i105_43 rfl rfl rfl e18 rfl ?_
    refine ev_aload_n pm105 i105_46 rfl rfl rfl ?_
    obtain ⟨x20, e19, hS⟩ := bn_s hS
    refine ev_callV (sa := []) (rest := [.ref x17]) (st' := [.int x20, .ref x17]) (ls0 := [.ref l0, unk, unk]) (rv := some (.int x20)) pm105 i105_47 rfl rfl pm89 (by decide) (K_ra_lowestHouse e19) rfl rfl (Nat.le_of_ble_eq_true rfl) (by omega) rfl (R_ra_lowestHouse (d - 1) (by omega) e19) (by simp) rfl rfl ?_
    obtain ⟨x21, e22, hS⟩ := bn_s hS
    refine ev_iald pm105 i105_50 rfl e22 rfl ?_
    refine ev_istore (ls' := [.ref l0, .int l1, .int s.1, .int s.2.1, .int s.2.2, .int x21]) pm105 i105_51 rfl (Nat.le_of_ble_eq_true rfl) rfl rfl ?_
    refine ev_iload pm105 i105_53 rfl rfl rfl ?_
    by_cases c269 : s.2.2 = (0 : Int32)
    · rw [if_pos c269] at hS
      refine ev_if_eq_t (t := 64) pm105 i105_55 rfl c269 rfl rfl ?_
      refine ev_kls (ls' := [.ref l0, .int l1, unk, unk, .int s.2.2, .int x21]) pm105 i105_64 rfl rfl ?_
      refine ev_iload pm105 i105_64 rfl rfl rfl ?_
      refine ev_istore_n (ls' := [.ref l0, .int l1, unk, .int x21, .int s.2.2, .int x21]) pm105 i105_66 rfl (Nat.le_of_ble_eq_true rfl) rfl rfl ?_
      refine ev_iload pm105 i105_67 rfl rfl rfl ?_
      refine ev_istore_n (ls' := [.ref l0, .int l1, .int s.2.2, .int x21, .int s.2.2, .int x21]) pm105 i105_69 rfl (Nat.le_of_ble_eq_true rfl) rfl rfl ?_
      refine ev_kls (ls' := [.ref l0, .int l1, .int s.2.2, .int x21, .int s.2.2, unk]) pm105 i105_70 rfl rfl ?_
      refine ev_iinc (v := 1) (ls' := [.ref l0, .int l1, .int s.2.2, .int x21, .int (s.2.2 + (1 : Int32)), unk]) pm105 i105_70 rfl rfl (by decide) rfl rfl ?_
      refine ev_goto (t := 7) pm105 i105_73 rfl rfl ?_
      cases hS
      exact hK
    · rw [if_neg c269] at hS
      refine ev_if_eq_f (t := 64) pm105 i105_55 rfl c269 rfl rfl ?_
      refine ev_iload pm105 i105_58 rfl rfl rfl ?_
      refine ev_iload_n pm105 i105_60 rfl rfl rfl ?_
      by_cases c270 : s.2.1 < x21
      · rw [if_pos c270] at hS
        refine ev_icmp_le_t (t := 70) pm105 i105_61 rfl c270 rfl rfl ?_
        refine ev_kls (ls' := [.ref l0, .int l1, unk, unk, .int s.2.2, .int x21]) pm105 i105_64 rfl rfl ?_
        refine ev_iload pm105 i105_64 rfl rfl rfl ?_
        refine ev_istore_n (ls' := [.ref l0, .int l1, unk, .int x21, .int s.2.2, .int x21]) pm105 i105_66 rfl (Nat.le_of_ble_eq_true rfl) rfl rfl ?_
        refine ev_iload pm105 i105_67 rfl rfl rfl ?_
        refine ev_istore_n (ls' := [.ref l0, .int l1, .int s.2.2, .int x21, .int s.2.2, .int x21]) pm105 i105_69 rfl (Nat.le_of_ble_eq_true rfl) rfl rfl ?_
        refine ev_kls (ls' := [.ref l0, .int l1, .int s.2.2, .int x21, .int s.2.2, unk]) pm105 i105_70 rfl rfl ?_
        refine ev_iinc (v := 1) (ls' := [.ref l0, .int l1, .int s.2.2, .int x21, .int (s.2.2 + (1 : Int32)), unk]) pm105 i105_70 rfl rfl (by decide) rfl rfl ?_
        refine ev_goto (t := 7) pm105 i105_73 rfl rfl ?_
        cases hS
        exact hK
      · rw [if_neg c270] at hS
        refine ev_icmp_le_f (t := 70) pm105 i105_61 rfl c270 rfl rfl ?_
        refine ev_kls (ls' := [.ref l0, .int l1, .int s.1, .int s.2.1, .int s.2.2, unk]) pm105 i105_70 rfl rfl ?_
        refine ev_iinc (v := 1) (ls' := [.ref l0, .int l1, .int s.1, .int s.2.1, .int (s.2.2 + (1 : Int32)), unk]) pm105 i105_70 rfl rfl (by decide) rfl rfl ?_
        refine ev_goto (t := 7) pm105 i105_73 rfl rfl ?_
        cases hS
        exact hK
  · rw [if_neg c268] at hS
    refine ev_icmp_ge_f (t := 76) pm105 i105_13 rfl c268 rfl rfl ?_
    refine ev_kls (ls' := [unk, unk, .int s.1, unk, unk, unk]) pm105 i105_76 rfl rfl ?_
    cases hS
    exact hK
def F_ra_bestHouseFor (a0 : Nat) (a1 : Int32) (h : Hp) : Option (Int32 × Hp) :=
  ck h a0 6 (bd (lp (B_ra_bestHouseFor_7 a0 a1) FU ((0 : Int32), (0 : Int32), (0 : Int32)) h) fun x23 h25 =>
  some (x23, h25))
set_option maxRecDepth 20000 in
theorem K_ra_bestHouseFor {a0 : Nat} {a1 : Int32} {h : Hp} {v : Int32} {h' : Hp} (hS : F_ra_bestHouseFor a0 a1 h = some (v, h')) : kd h a0 = 6 := by
  unfold F_ra_bestHouseFor at hS
  exact (ck_s hS).1
set_option maxRecDepth 20000 in
theorem R_ra_bestHouseFor (d : Nat) (hd : 3 ≤ d) {a0 : Nat} {a1 : Int32} {h : Hp} {v : Int32} {h' : Hp} (hS : F_ra_bestHouseFor a0 a1 h = some (v, h')) : Ev P d 105 (0, [.ref a0, .int a1, unk, unk, unk, unk], [], h) (some (.int v), h') := by
  unfold F_ra_bestHouseFor at hS
  replace hS := (ck_s hS).2
  refine ev_iconst (v := 0) pm105 i105_0 rfl (by decide) rfl ?_
  refine ev_istore_n (ls' := [.ref a0, .int a1, .int (0 : Int32), unk, unk, unk]) pm105 i105_1 rfl (Nat.le_of_ble_eq_true rfl) rfl rfl ?_
  refine ev_iconst (v := 0) pm105 i105_2 rfl (by decide) rfl ?_
  refine ev_istore_n (ls' := [.ref a0, .int a1, .int (0 : Int32), .int (0 : Int32), unk, unk]) pm105 i105_3 rfl (Nat.le_of_ble_eq_true rfl) rfl rfl ?_
  refine ev_iconst (v := 0) pm105 i105_4 rfl (by decide) rfl ?_
  refine ev_istore (ls' := [.ref a0, .int a1, .int (0 : Int32), .int (0 : Int32), .int (0 : Int32), unk]) pm105 i105_5 rfl (Nat.le_of_ble_eq_true rfl) rfl rfl ?_
  obtain ⟨x23, h25, e24, hS⟩ := bd_s hS
  refine L_ra_bestHouseFor_7 d (by omega) _ _ _ _ _ e24 _ ?_
  show Ev P d 105 (76, [unk, unk, .int x23, unk, unk, unk], [], h25) _
  refine ev_iload_n pm105 i105_76 rfl rfl rfl ?_
  cases hS
  exact ev_ireturn pm105 i105_77 rfl rfl rfl
def F_cs_bestStay (a0 : Nat) (a1 : Int32) (h : Hp) : Option (Int32 × Hp) :=
  ck h a0 11 (bn (F_cs_noLake a0 h) fun x2 =>
  bn (F_cs_outside a1 (0 : Int32) (99 : Int32)) fun x4 =>
  bd (F_cs_refused a0 x2 x4 h) fun x6 h7 =>
  if x6 = (0 : Int32) then
    (bn (gR h7 a0 11 6) fun x8 =>
    bn (gR h7 a0 11 3) fun x10 =>
    bn (gR h7 a0 11 4) fun x12 =>
    bn (F_ra_measure x8 x10 x12 h7) fun h15 =>
    bn (gR h15 a0 11 6) fun x16 =>
    bd (F_ra_bestHouseFor x16 a1 h15) fun x19 h20 =>
    some (x19, h20))
  else
    (some ((-1 : Int32), h7)))
set_option maxRecDepth 20000 in
theorem K_cs_bestStay {a0 : Nat} {a1 : Int32} {h : Hp} {v : Int32} {h' : Hp} (hS : F_cs_bestStay a0 a1 h = some (v, h')) : kd h a0 = 11 := by
  unfold F_cs_bestStay at hS
  exact (ck_s hS).1
set_option maxRecDepth 20000 in
theorem R_cs_bestStay (d : Nat) (hd : 4 ≤ d) {a0 : Nat} {a1 : Int32} {h : Hp} {v : Int32} {h' : Hp} (hS : F_cs_bestStay a0 a1 h = some (v, h')) : Ev P d 104 (0, [.ref a0, .int a1], [], h) (some (.int v), h') := by
  unfold F_cs_bestStay at hS
  replace hS := (ck_s hS).2
  refine ev_aload_n pm104 i104_0 rfl rfl rfl ?_
  refine ev_aload_n pm104 i104_1 rfl rfl rfl ?_
  obtain ⟨x2, e1, hS⟩ := bn_s hS
  refine ev_callV (sa := []) (rest := [.ref a0]) (st' := [.int x2, .ref a0]) (ls0 := [.ref a0]) (rv := some (.int x2)) pm104 i104_2 rfl rfl pm86 (by decide) (K_cs_noLake e1) rfl rfl (Nat.le_of_ble_eq_true rfl) (by omega) rfl (R_cs_noLake (d - 1) (by omega) e1) (by simp) rfl rfl ?_
  refine ev_iload_n pm104 i104_5 rfl rfl rfl ?_
  refine ev_iconst (v := 0) pm104 i104_6 rfl (by decide) rfl ?_
  refine ev_bipush (v := 99) pm104 i104_7 rfl (by decide) rfl ?_
  obtain ⟨x4, e3, hS⟩ := bn_s hS
  refine ev_callS (sa := [.int (99 : Int32), .int (0 : Int32), .int a1]) (rest := [.int x2, .ref a0]) (st' := [.int x4, .int x2, .ref a0]) (ls0 := [.int a1, .int (0 : Int32), .int (99 : Int32)]) (rv := some (.int x4)) pm104 i104_9 rfl rfl pm17 (by decide) rfl rfl (Nat.le_of_ble_eq_true rfl) (by omega) rfl (R_cs_outside (d - 1) (by omega) e3) (by simp) rfl rfl ?_
  obtain ⟨x6, h7, e5, hS⟩ := bd_s hS
  refine ev_callV (sa := [.int x4, .int x2]) (rest := []) (st' := [.int x6]) (ls0 := [.ref a0, .int x2, .int x4]) (rv := some (.int x6)) pm104 i104_12 rfl rfl pm18 (by decide) (K_cs_refused e5) rfl rfl (Nat.le_of_ble_eq_true rfl) (by omega) rfl (R_cs_refused (d - 1) (by omega) e5) (by simp) rfl rfl ?_
  by_cases c271 : x6 = (0 : Int32)
  · rw [if_pos c271] at hS
    refine ev_if_eq_t (t := 20) pm104 i104_15 rfl c271 rfl rfl ?_
    refine ev_aload_n pm104 i104_20 rfl rfl rfl ?_
    obtain ⟨x8, e9, hS⟩ := bn_s hS
    refine ev_getR pm104 i104_21 rfl rfl rfl e9 rfl ?_
    refine ev_aload_n pm104 i104_24 rfl rfl rfl ?_
    obtain ⟨x10, e11, hS⟩ := bn_s hS
    refine ev_getR pm104 i104_25 rfl rfl rfl e11 rfl ?_
    refine ev_aload_n pm104 i104_28 rfl rfl rfl ?_
    obtain ⟨x12, e13, hS⟩ := bn_s hS
    refine ev_getR pm104 i104_29 rfl rfl rfl e13 rfl ?_
    obtain ⟨h15, e14, hS⟩ := bn_s hS
    refine ev_callV (sa := [.ref x12, .ref x10]) (rest := []) (st' := []) (ls0 := [.ref x8, .ref x10, .ref x12]) (rv := none) pm104 i104_32 rfl rfl pm64 (by decide) (K_ra_measure e14) rfl rfl (Nat.le_of_ble_eq_true rfl) (by omega) rfl (R_ra_measure (d - 1) (by omega) e14) (by simp) rfl rfl ?_
    refine ev_aload_n pm104 i104_35 rfl rfl rfl ?_
    obtain ⟨x16, e17, hS⟩ := bn_s hS
    refine ev_getR pm104 i104_36 rfl rfl rfl e17 rfl ?_
    refine ev_iload_n pm104 i104_39 rfl rfl rfl ?_
    obtain ⟨x19, h20, e18, hS⟩ := bd_s hS
    refine ev_callV (sa := [.int a1]) (rest := []) (st' := [.int x19]) (ls0 := [.ref x16, .int a1, unk, unk, unk, unk]) (rv := some (.int x19)) pm104 i104_40 rfl rfl pm105 (by decide) (K_ra_bestHouseFor e18) rfl rfl (Nat.le_of_ble_eq_true rfl) (by omega) rfl (R_ra_bestHouseFor (d - 1) (by omega) e18) (by simp) rfl rfl ?_
    cases hS
    exact ev_ireturn pm104 i104_43 rfl rfl rfl
  · rw [if_neg c271] at hS
    refine ev_if_eq_f (t := 20) pm104 i104_15 rfl c271 rfl rfl ?_
    refine ev_iconst (v := -1) pm104 i104_18 rfl (by decide) rfl ?_
    cases hS
    exact ev_ireturn pm104 i104_19 rfl rfl rfl
def F_cs_bestMove (a0 : Nat) (a1 : Int32) (h : Hp) : Option (Int32 × Hp) :=
  ck h a0 11 (bn (F_cs_noGuest a0 a1 h) fun x2 =>
  bd (F_cs_refused a0 x2 (0 : Int32) h) fun x4 h5 =>
  if x4 = (0 : Int32) then
    (bn (gR h5 a0 11 6) fun x6 =>
    bn (gR h5 a0 11 3) fun x8 =>
    bn (gR h5 a0 11 4) fun x10 =>
    bn (F_ra_measure x6 x8 x10 h5) fun h13 =>
    bn (gR h13 a0 11 6) fun x14 =>
    bn (gR h13 x14 6 1) fun x16 =>
    bn (gR h13 a0 11 4) fun x18 =>
    bn (gR h13 x18 8 1) fun x20 =>
    bn (aI h13 100 x20 a1) fun x22 =>
    bn (aI h13 100 x16 x22) fun x24 =>
    bn (gR h13 a0 11 3) fun x26 =>
    bn (gR h13 x26 10 9) fun x28 =>
    bn (aI h13 100 x28 a1) fun x30 =>
    bn (sI h13 100 x16 x22 (x24 + x30)) fun h32 =>
    bn (gR h32 a0 11 6) fun x34 =>
    bn (gR h32 a0 11 3) fun x36 =>
    bn (gR h32 x36 10 9) fun x38 =>
    bn (aI h32 100 x38 a1) fun x40 =>
    bd (F_ra_bestHouseFor x34 x40 h32) fun x43 h44 =>
    some (x43, h44))
  else
    (some ((-1 : Int32), h5)))
set_option maxRecDepth 20000 in
theorem K_cs_bestMove {a0 : Nat} {a1 : Int32} {h : Hp} {v : Int32} {h' : Hp} (hS : F_cs_bestMove a0 a1 h = some (v, h')) : kd h a0 = 11 := by
  unfold F_cs_bestMove at hS
  exact (ck_s hS).1
set_option maxRecDepth 20000 in
theorem R_cs_bestMove (d : Nat) (hd : 4 ≤ d) {a0 : Nat} {a1 : Int32} {h : Hp} {v : Int32} {h' : Hp} (hS : F_cs_bestMove a0 a1 h = some (v, h')) : Ev P d 106 (0, [.ref a0, .int a1], [], h) (some (.int v), h') := by
  unfold F_cs_bestMove at hS
  replace hS := (ck_s hS).2
  refine ev_aload_n pm106 i106_0 rfl rfl rfl ?_
  refine ev_aload_n pm106 i106_1 rfl rfl rfl ?_
  refine ev_iload_n pm106 i106_2 rfl rfl rfl ?_
  obtain ⟨x2, e1, hS⟩ := bn_s hS
  refine ev_callV (sa := [.int a1]) (rest := [.ref a0]) (st' := [.int x2, .ref a0]) (ls0 := [.ref a0, .int a1]) (rv := some (.int x2)) pm106 i106_3 rfl rfl pm81 (by decide) (K_cs_noGuest e1) rfl rfl (Nat.le_of_ble_eq_true rfl) (by omega) rfl (R_cs_noGuest (d - 1) (by omega) e1) (by simp) rfl rfl ?_
  refine ev_iconst (v := 0) pm106 i106_6 rfl (by decide) rfl ?_
  obtain ⟨x4, h5, e3, hS⟩ := bd_s hS
  refine ev_callV (sa := [.int (0 : Int32), .int x2]) (rest := []) (st' := [.int x4]) (ls0 := [.ref a0, .int x2, .int (0 : Int32)]) (rv := some (.int x4)) pm106 i106_7 rfl rfl pm18 (by decide) (K_cs_refused e3) rfl rfl (Nat.le_of_ble_eq_true rfl) (by omega) rfl (R_cs_refused (d - 1) (by omega) e3) (by simp) rfl rfl ?_
  by_cases c272 : x4 = (0 : Int32)
  · rw [if_pos c272] at hS
    refine ev_if_eq_t (t := 15) pm106 i106_10 rfl c272 rfl rfl ?_
    refine ev_aload_n pm106 i106_15 rfl rfl rfl ?_
    obtain ⟨x6, e7, hS⟩ := bn_s hS
    refine ev_getR pm106 i106_16 rfl rfl rfl e7 rfl ?_
    refine ev_aload_n pm106 i106_19 rfl rfl rfl ?_
    obtain ⟨x8, e9, hS⟩ := bn_s hS
    refine ev_getR pm106 i106_20 rfl rfl rfl e9 rfl ?_
    refine ev_aload_n pm106 i106_23 rfl rfl rfl ?_
    obtain ⟨x10, e11, hS⟩ := bn_s hS
    refine ev_getR pm106 i106_24 rfl rfl rfl e11 rfl ?_
    obtain ⟨h13, e12, hS⟩ := bn_s hS
    refine ev_callV (sa := [.ref x10, .ref x8]) (rest := []) (st' := []) (ls0 := [.ref x6, .ref x8, .ref x10]) (rv := none) pm106 i106_27 rfl rfl pm64 (by decide) (K_ra_measure e12) rfl rfl (Nat.le_of_ble_eq_true rfl) (by omega) rfl (R_ra_measure (d - 1) (by omega) e12) (by simp) rfl rfl ?_
    refine ev_aload_n pm106 i106_30 rfl rfl rfl ?_
    obtain ⟨x14, e15, hS⟩ := bn_s hS
    refine ev_getR pm106 i106_31 rfl rfl rfl e15 rfl ?_
    obtain ⟨x16, e17, hS⟩ := bn_s hS
    refine ev_getR pm106 i106_34 rfl rfl rfl e17 rfl ?_
    refine ev_aload_n pm106 i106_37 rfl rfl rfl ?_
    obtain ⟨x18, e19, hS⟩ := bn_s hS
    refine ev_getR pm106 i106_38 rfl rfl rfl e19 rfl ?_
    obtain ⟨x20, e21, hS⟩ := bn_s hS
    refine ev_getR pm106 i106_41 rfl rfl rfl e21 rfl ?_
    refine ev_iload_n pm106 i106_44 rfl rfl rfl ?_
    obtain ⟨x22, e23, hS⟩ := bn_s hS
    refine ev_iald pm106 i106_45 rfl e23 rfl ?_
    refine ev_dup2 pm106 i106_46 rfl ⟨rfl, rfl⟩ rfl ?_
    obtain ⟨x24, e25, hS⟩ := bn_s hS
    refine ev_iald pm106 i106_47 rfl e25 rfl ?_
    refine ev_aload_n pm106 i106_48 rfl rfl rfl ?_
    obtain ⟨x26, e27, hS⟩ := bn_s hS
    refine ev_getR pm106 i106_49 rfl rfl rfl e27 rfl ?_
    obtain ⟨x28, e29, hS⟩ := bn_s hS
    refine ev_getR pm106 i106_52 rfl rfl rfl e29 rfl ?_
    refine ev_iload_n pm106 i106_55 rfl rfl rfl ?_
    obtain ⟨x30, e31, hS⟩ := bn_s hS
    refine ev_iald pm106 i106_56 rfl e31 rfl ?_
    refine ev_b2 (f := fun x y => x + y) pm106 i106_57 rfl (fun _ _ _ _ => rfl) rfl ?_
    obtain ⟨h32, e33, hS⟩ := bn_s hS
    refine ev_iast pm106 i106_58 rfl e33 rfl ?_
    refine ev_aload_n pm106 i106_59 rfl rfl rfl ?_
    obtain ⟨x34, e35, hS⟩ := bn_s hS
    refine ev_getR pm106 i106_60 rfl rfl rfl e35 rfl ?_
    refine ev_aload_n pm106 i106_63 rfl rfl rfl ?_
    obtain ⟨x36, e37, hS⟩ := bn_s hS
    refine ev_getR pm106 i106_64 rfl rfl rfl e37 rfl ?_
    obtain ⟨x38, e39, hS⟩ := bn_s hS
    refine ev_getR pm106 i106_67 rfl rfl rfl e39 rfl ?_
    refine ev_iload_n pm106 i106_70 rfl rfl rfl ?_
    obtain ⟨x40, e41, hS⟩ := bn_s hS
    refine ev_iald pm106 i106_71 rfl e41 rfl ?_
    obtain ⟨x43, h44, e42, hS⟩ := bd_s hS
    refine ev_callV (sa := [.int x40]) (rest := []) (st' := [.int x43]) (ls0 := [.ref x34, .int x40, unk, unk, unk, unk]) (rv := some (.int x43)) pm106 i106_72 rfl rfl pm105 (by decide) (K_ra_bestHouseFor e42) rfl rfl (Nat.le_of_ble_eq_true rfl) (by omega) rfl (R_ra_bestHouseFor (d - 1) (by omega) e42) (by simp) rfl rfl ?_
    cases hS
    exact ev_ireturn pm106 i106_75 rfl rfl rfl
  · rw [if_neg c272] at hS
    refine ev_if_eq_f (t := 15) pm106 i106_10 rfl c272 rfl rfl ?_
    refine ev_iconst (v := -1) pm106 i106_13 rfl (by decide) rfl ?_
    cases hS
    exact ev_ireturn pm106 i106_14 rfl rfl rfl
def F_ra_dryHouses (a0 : Nat) (h : Hp) : Option Int32 :=
  ck h a0 6 (bn (gI h a0 6 0) fun x1 =>
  bn (F_ra_underBits a0 h) fun x4 =>
  bn (F_in_bitCount x4) fun x6 =>
  some (x1 - x6))
set_option maxRecDepth 20000 in
theorem K_ra_dryHouses {a0 : Nat} {h : Hp} {v : Int32} (hS : F_ra_dryHouses a0 h = some v) : kd h a0 = 6 := by
  unfold F_ra_dryHouses at hS
  exact (ck_s hS).1
set_option maxRecDepth 20000 in
theorem R_ra_dryHouses (d : Nat) (hd : 1 ≤ d) {a0 : Nat} {h : Hp} {v : Int32} (hS : F_ra_dryHouses a0 h = some v) : Ev P d 108 (0, [.ref a0], [], h) (some (.int v), h) := by
  unfold F_ra_dryHouses at hS
  replace hS := (ck_s hS).2
  refine ev_aload_n pm108 i108_0 rfl rfl rfl ?_
  obtain ⟨x1, e2, hS⟩ := bn_s hS
  refine ev_getI pm108 i108_1 rfl rfl (by decide) e2 rfl ?_
  refine ev_aload_n pm108 i108_4 rfl rfl rfl ?_
  obtain ⟨x4, e3, hS⟩ := bn_s hS
  refine ev_callV (sa := []) (rest := [.int x1]) (st' := [.int x4, .int x1]) (ls0 := [.ref a0, unk, unk]) (rv := some (.int x4)) pm108 i108_5 rfl rfl pm87 (by decide) (K_ra_underBits e3) rfl rfl (Nat.le_of_ble_eq_true rfl) (by omega) rfl (R_ra_underBits (d - 1) (by omega) e3) (by simp) rfl rfl ?_
  obtain ⟨x6, e5, hS⟩ := bn_s hS
  refine ev_callS (sa := [.int x4]) (rest := [.int x1]) (st' := [.int x6, .int x1]) (ls0 := [.int x4]) (rv := some (.int x6)) pm108 i108_8 rfl rfl pm73 (by decide) rfl rfl (Nat.le_of_ble_eq_true rfl) (by omega) rfl (R_in_bitCount (d - 1) (by omega) e5) (by simp) rfl rfl ?_
  refine ev_b2 (f := fun x y => x - y) pm108 i108_11 rfl (fun _ _ _ _ => rfl) rfl ?_
  cases hS
  exact ev_ireturn pm108 i108_12 rfl rfl rfl
def B_cs_bestCut_42 (l0 : Nat) (s : Int32 × Int32 × Int32) (h : Hp) : Option (((Int32 × Int32 × Int32) ⊕ (Int32)) × Hp) :=
  bn (gR h l0 11 3) fun x18 =>
  bn (gI h x18 10 5) fun x20 =>
  if s.2.2 < x20 then
    (bn (gR h l0 11 4) fun x22 =>
    bn (F_st_isTied x22 s.2.2 h) fun x25 =>
    if x25 = (0 : Int32) then
      (some (.inl (s.1, s.2.1, s.2.2 + (1 : Int32)), h))
    else
      (bn (gR h l0 11 6) fun x26 =>
      bn (gR h l0 11 3) fun x28 =>
      bn (gR h l0 11 4) fun x30 =>
      bn (gI h x30 8 2) fun x32 =>
      bn (F_ra_join x26 x28 (x32 &&& (((1 : Int32) <<< (s.2.2 &&& 31)) ^^^ (-1 : Int32))) h) fun h35 =>
      bn (gR h35 l0 11 6) fun x36 =>
      bn (F_ra_level x36 h35) fun h39 =>
      bn (gR h39 l0 11 6) fun x40 =>
      bn (F_ra_dryHouses x40 h39) fun x43 =>
      if s.1 < x43 then
        (some (.inl (x43, s.2.2, s.2.2 + (1 : Int32)), h39))
      else
        (some (.inl (s.1, s.2.1, s.2.2 + (1 : Int32)), h39))))
  else
    (some (.inr s.2.1, h))
set_option maxRecDepth 20000 in
theorem L_cs_bestCut_42 (d : Nat) (hd : 4 ≤ d) {l0 : Nat} : ∀ (n : Nat) (s : Int32 × Int32 × Int32) (h : Hp) (x : Int32) (hx : Hp), lp (B_cs_bestCut_42 l0) n s h = some (x, hx) → ∀ r, Ev P d 107 (121, [unk, unk, .int x, unk, unk], [], hx) r → Ev P d 107 (42, [.ref l0, .int s.1, .int s.2.1, .int s.2.2, unk], [], h) r := by
  refine lp_ev (G0 := fun (s : Int32 × Int32 × Int32) h r => Ev P d 107 (42, [.ref l0, .int s.1, .int s.2.1, .int s.2.2, unk], [], h) r) (X := fun (x : Int32) hx r => Ev P d 107 (121, [unk, unk, .int x, unk, unk], [], hx) r) ?_
  intro s h y h9 hS r hK
  unfold B_cs_bestCut_42 at hS
  show Ev P d 107 (42, [.ref l0, .int s.1, .int s.2.1, .int s.2.2, unk], [], h) r
  refine ev_iload_n pm107 i107_42 rfl rfl rfl ?_
  refine ev_aload_n pm107 i107_43 rfl rfl rfl ?_
  obtain ⟨x18, e19, hS⟩ := bn_s hS
  refine ev_getR pm107 i107_44 rfl rfl rfl e19 rfl ?_
  obtain ⟨x20, e21, hS⟩ := bn_s hS
  refine ev_getI pm107 i107_47 rfl rfl (by decide) e21 rfl ?_
  by_cases c273 : s.2.2 < x20
  · rw [if_pos c273] at hS
    refine ev_icmp_ge_t (t := 121) pm107 i107_50 rfl c273 rfl rfl ?_
    refine ev_aload_n pm107 i107_53 rfl rfl rfl ?_
    obtain ⟨x22, e23, hS⟩ := bn_s hS
    refine ev_getR pm107 i107_54 rfl rfl rfl e23 rfl ?_
    refine ev_iload_n pm107 i107_57 rfl rfl rfl ?_
    obtain ⟨x25, e24, hS⟩ := bn_s hS
    refine ev_callV (sa := [.int s.2.2]) (rest := []) (st' := [.int x25]) (ls0 := [.ref x22, .int s.2.2]) (rv := some (.int x25)) pm107 i107_58 rfl rfl pm84 (by decide) (K_st_isTied e24) rfl rfl (Nat.le_of_ble_eq_true rfl) (by omega) rfl (R_st_isTied (d - 1) (by omega) e24) (by simp) rfl rfl ?_
    by_cases c274 : x25 = (0 : Int32)
    · rw [if_pos c274] at hS
      refine ev_if_eq_t (t := 115) pm107 i107_61 rfl c274 rfl rfl ?_
      refine ev_iinc (v := 1) (ls' := [.ref l0, .int s.1, .int s.2.1, .int (s.2.2 + (1 : Int32)), unk]) pm107 i107_115 rfl rfl (by decide) rfl rfl ?_
      refine ev_goto (t := 42) pm107 i107_118 rfl rfl ?_
      cases hS
      exact hK
    · rw [if_neg c274] at hS
      refine ev_if_eq_f (t := 115) pm107 i107_61 rfl c274 rfl rfl ?_
      refine ev_aload_n pm107 i107_64 rfl rfl rfl ?_
      obtain ⟨x26, e27, hS⟩ := bn_s hS
      refine ev_getR pm107 i107_65 rfl rfl rfl e27 rfl ?_
      refine ev_aload_n pm107 i107_68 rfl rfl rfl ?_
      obtain ⟨x28, e29, hS⟩ := bn_s hS
      refine ev_getR pm107 i107_69 rfl rfl rfl e29 rfl ?_
      refine ev_aload_n pm107 i107_72 rfl rfl rfl ?_
      obtain ⟨x30, e31, hS⟩ := bn_s hS
      refine ev_getR pm107 i107_73 rfl rfl rfl e31 rfl ?_
      obtain ⟨x32, e33, hS⟩ := bn_s hS
      refine ev_getI pm107 i107_76 rfl rfl (by decide) e33 rfl ?_
      refine ev_iconst (v := 1) pm107 i107_79 rfl (by decide) rfl ?_
      refine ev_iload_n pm107 i107_80 rfl rfl rfl ?_
      refine ev_b2 (f := fun x y => x <<< (y &&& 31)) pm107 i107_81 rfl (fun _ _ _ _ => rfl) rfl ?_
      refine ev_iconst (v := -1) pm107 i107_82 rfl (by decide) rfl ?_
      refine ev_b2 (f := fun x y => x ^^^ y) pm107 i107_83 rfl (fun _ _ _ _ => rfl) rfl ?_
      refine ev_b2 (f := fun x y => x &&& y) pm107 i107_84 rfl (fun _ _ _ _ => rfl) rfl ?_
      obtain ⟨h35, e34, hS⟩ := bn_s hS
      refine ev_callV (sa := [.int (x32 &&& (((1 : Int32) <<< (s.2.2 &&& 31)) ^^^ (-1 : Int32))), .ref x28]) (rest := []) (st' := []) (ls0 := [.ref x26, .ref x28, .int (x32 &&& (((1 : Int32) <<< (s.2.2 &&& 31)) ^^^ (-1 : Int32))), unk]) (rv := none) pm107 i107_85 rfl rfl pm68 (by decide) (K_ra_join e34) rfl rfl (Nat.le_of_ble_eq_true rfl) (by omega) rfl (R_ra_join (d - 1) (by omega) e34) (by simp) rfl rfl ?_
      refine ev_aload_n pm107 i107_88 rfl rfl rfl ?_
      obtain ⟨x36, e37, hS⟩ := bn_s hS
      refine ev_getR pm107 i107_89 rfl rfl rfl e37 rfl ?_
      obtain ⟨h39, e38, hS⟩ := bn_s hS
      refine ev_callV (sa := []) (rest := []) (st' := []) (ls0 := [.ref x36, unk, unk, unk]) (rv := none) pm107 i107_92 rfl rfl pm70 (by decide) (K_ra_level e38) rfl rfl (Nat.le_of_ble_eq_true rfl) (by omega) rfl (R_ra_level (d - 1) (by omega) e38) (by simp) rfl rfl ?_
      refine ev_aload_n pm107 i107_95 rfl rfl rfl ?_
      obtain ⟨x40, e41, hS⟩ := bn_s hS
      refine ev_getR pm107 i107_96 rfl rfl rfl e41 rfl ?_
      obtain ⟨x43, e42, hS⟩ := bn_s hS
      refine ev_callV (sa := []) (rest := []) (st' := [.int x43]) (ls0 := [.ref x40]) (rv := some (.int x43)) pm107 i107_99 rfl rfl pm108 (by decide) (K_ra_dryHouses e42) rfl rfl (Nat.le_of_ble_eq_true rfl) (by omega) rfl (R_ra_dryHouses (d - 1) (by omega) e42) (by simp) rfl rfl ?_
      refine ev_istore (ls' := [.ref l0, .int s.1, .int s.2.1, .int s.2.2, .int x43]) pm107 i107_102 rfl (Nat.le_of_ble_eq_true rfl) rfl rfl ?_
      refine ev_iload pm107 i107_104 rfl rfl rfl ?_
      refine ev_iload_n pm107 i107_106 rfl rfl rfl ?_
      by_cases c275 : s.1 < x43
      · rw [if_pos c275] at hS
        refine ev_icmp_le_t (t := 115) pm107 i107_107 rfl c275 rfl rfl ?_
        refine ev_iload pm107 i107_110 rfl rfl rfl ?_
        refine ev_istore_n (ls' := [.ref l0, .int x43, .int s.2.1, .int s.2.2, .int x43]) pm107 i107_112 rfl (Nat.le_of_ble_eq_true rfl) rfl rfl ?_
        refine ev_iload_n pm107 i107_113 rfl rfl rfl ?_
        refine ev_istore_n (ls' := [.ref l0, .int x43, .int s.2.2, .int s.2.2, .int x43]) pm107 i107_114 rfl (Nat.le_of_ble_eq_true rfl) rfl rfl ?_
        refine ev_kls (ls' := [.ref l0, .int x43, .int s.2.2, .int s.2.2, unk]) pm107 i107_115 rfl rfl ?_
        refine ev_iinc (v := 1) (ls' := [.ref l0, .int x43, .int s.2.2, .int (s.2.2 + (1 : Int32)), unk]) pm107 i107_115 rfl rfl (by decide) rfl rfl ?_
        refine ev_goto (t := 42) pm107 i107_118 rfl rfl ?_
        cases hS
        exact hK
      · rw [if_neg c275] at hS
        refine ev_icmp_le_f (t := 115) pm107 i107_107 rfl c275 rfl rfl ?_
        refine ev_kls (ls' := [.ref l0, .int s.1, .int s.2.1, .int s.2.2, unk]) pm107 i107_115 rfl rfl ?_
        refine ev_iinc (v := 1) (ls' := [.ref l0, .int s.1, .int s.2.1, .int (s.2.2 + (1 : Int32)), unk]) pm107 i107_115 rfl rfl (by decide) rfl rfl ?_
        refine ev_goto (t := 42) pm107 i107_118 rfl rfl ?_
        cases hS
        exact hK
  · rw [if_neg c273] at hS
    refine ev_icmp_ge_f (t := 121) pm107 i107_50 rfl c273 rfl rfl ?_
    refine ev_kls (ls' := [unk, unk, .int s.2.1, unk, unk]) pm107 i107_121 rfl rfl ?_
    cases hS
    exact hK
def F_cs_bestCut (a0 : Nat) (h : Hp) : Option (Int32 × Hp) :=
  ck h a0 11 (bn (F_cs_noLake a0 h) fun x2 =>
  bd (F_cs_refused a0 x2 (0 : Int32) h) fun x4 h5 =>
  if x4 = (0 : Int32) then
    (bn (gR h5 a0 11 6) fun x6 =>
    bn (gR h5 a0 11 3) fun x8 =>
    bn (gR h5 a0 11 4) fun x10 =>
    bn (F_ra_measure x6 x8 x10 h5) fun h13 =>
    bn (gR h13 a0 11 6) fun x14 =>
    bn (F_ra_dryHouses x14 h13) fun x17 =>
    bd (lp (B_cs_bestCut_42 a0) FU (x17, (-2 : Int32), (0 : Int32)) h13) fun x44 h46 =>
    some (x44, h46))
  else
    (some ((-1 : Int32), h5)))
set_option maxRecDepth 20000 in
theorem K_cs_bestCut {a0 : Nat} {h : Hp} {v : Int32} {h' : Hp} (hS : F_cs_bestCut a0 h = some (v, h')) : kd h a0 = 11 := by
  unfold F_cs_bestCut at hS
  exact (ck_s hS).1
set_option maxRecDepth 20000 in
theorem R_cs_bestCut (d : Nat) (hd : 4 ≤ d) {a0 : Nat} {h : Hp} {v : Int32} {h' : Hp} (hS : F_cs_bestCut a0 h = some (v, h')) : Ev P d 107 (0, [.ref a0, unk, unk, unk, unk], [], h) (some (.int v), h') := by
  unfold F_cs_bestCut at hS
  replace hS := (ck_s hS).2
  refine ev_aload_n pm107 i107_0 rfl rfl rfl ?_
  refine ev_aload_n pm107 i107_1 rfl rfl rfl ?_
  obtain ⟨x2, e1, hS⟩ := bn_s hS
  refine ev_callV (sa := []) (rest := [.ref a0]) (st' := [.int x2, .ref a0]) (ls0 := [.ref a0]) (rv := some (.int x2)) pm107 i107_2 rfl rfl pm86 (by decide) (K_cs_noLake e1) rfl rfl (Nat.le_of_ble_eq_true rfl) (by omega) rfl (R_cs_noLake (d - 1) (by omega) e1) (by simp) rfl rfl ?_
  refine ev_iconst (v := 0) pm107 i107_5 rfl (by decide) rfl ?_
  obtain ⟨x4, h5, e3, hS⟩ := bd_s hS
  refine ev_callV (sa := [.int (0 : Int32), .int x2]) (rest := []) (st' := [.int x4]) (ls0 := [.ref a0, .int x2, .int (0 : Int32)]) (rv := some (.int x4)) pm107 i107_6 rfl rfl pm18 (by decide) (K_cs_refused e3) rfl rfl (Nat.le_of_ble_eq_true rfl) (by omega) rfl (R_cs_refused (d - 1) (by omega) e3) (by simp) rfl rfl ?_
  by_cases c276 : x4 = (0 : Int32)
  · rw [if_pos c276] at hS
    refine ev_if_eq_t (t := 14) pm107 i107_9 rfl c276 rfl rfl ?_
    refine ev_aload_n pm107 i107_14 rfl rfl rfl ?_
    obtain ⟨x6, e7, hS⟩ := bn_s hS
    refine ev_getR pm107 i107_15 rfl rfl rfl e7 rfl ?_
    refine ev_aload_n pm107 i107_18 rfl rfl rfl ?_
    obtain ⟨x8, e9, hS⟩ := bn_s hS
    refine ev_getR pm107 i107_19 rfl rfl rfl e9 rfl ?_
    refine ev_aload_n pm107 i107_22 rfl rfl rfl ?_
    obtain ⟨x10, e11, hS⟩ := bn_s hS
    refine ev_getR pm107 i107_23 rfl rfl rfl e11 rfl ?_
    obtain ⟨h13, e12, hS⟩ := bn_s hS
    refine ev_callV (sa := [.ref x10, .ref x8]) (rest := []) (st' := []) (ls0 := [.ref x6, .ref x8, .ref x10]) (rv := none) pm107 i107_26 rfl rfl pm64 (by decide) (K_ra_measure e12) rfl rfl (Nat.le_of_ble_eq_true rfl) (by omega) rfl (R_ra_measure (d - 1) (by omega) e12) (by simp) rfl rfl ?_
    refine ev_aload_n pm107 i107_29 rfl rfl rfl ?_
    obtain ⟨x14, e15, hS⟩ := bn_s hS
    refine ev_getR pm107 i107_30 rfl rfl rfl e15 rfl ?_
    obtain ⟨x17, e16, hS⟩ := bn_s hS
    refine ev_callV (sa := []) (rest := []) (st' := [.int x17]) (ls0 := [.ref x14]) (rv := some (.int x17)) pm107 i107_33 rfl rfl pm108 (by decide) (K_ra_dryHouses e16) rfl rfl (Nat.le_of_ble_eq_true rfl) (by omega) rfl (R_ra_dryHouses (d - 1) (by omega) e16) (by simp) rfl rfl ?_
    refine ev_istore_n (ls' := [.ref a0, .int x17, unk, unk, unk]) pm107 i107_36 rfl (Nat.le_of_ble_eq_true rfl) rfl rfl ?_
    refine ev_bipush (v := -2) pm107 i107_37 rfl (by decide) rfl ?_
    refine ev_istore_n (ls' := [.ref a0, .int x17, .int (-2 : Int32), unk, unk]) pm107 i107_39 rfl (Nat.le_of_ble_eq_true rfl) rfl rfl ?_
    refine ev_iconst (v := 0) pm107 i107_40 rfl (by decide) rfl ?_
    refine ev_istore_n (ls' := [.ref a0, .int x17, .int (-2 : Int32), .int (0 : Int32), unk]) pm107 i107_41 rfl (Nat.le_of_ble_eq_true rfl) rfl rfl ?_
    obtain ⟨x44, h46, e45, hS⟩ := bd_s hS
    refine L_cs_bestCut_42 d (by omega) _ _ _ _ _ e45 _ ?_
    show Ev P d 107 (121, [unk, unk, .int x44, unk, unk], [], h46) _
    refine ev_iload_n pm107 i107_121 rfl rfl rfl ?_
    cases hS
    exact ev_ireturn pm107 i107_122 rfl rfl rfl
  · rw [if_neg c276] at hS
    refine ev_if_eq_f (t := 14) pm107 i107_9 rfl c276 rfl rfl ?_
    refine ev_iconst (v := -1) pm107 i107_12 rfl (by decide) rfl ?_
    cases hS
    exact ev_ireturn pm107 i107_13 rfl rfl rfl
def F_pl_note (a0 : Nat) (a1 : Int32) (a2 : Int32) (a3 : Int32) (h : Hp) : Option Hp :=
  ck h a0 5 (bn (gR h a0 5 1) fun x1 =>
  bn (F_ra_firstOf x1 a1 h) fun x4 =>
  bn (gR h a0 5 4) fun x5 =>
  bn (gR h a0 5 4) fun x7 =>
  bn (aI h 100 x7 ((x4 * (4 : Int32)) + a2)) fun x9 =>
  bn (gR h a0 5 1) fun x11 =>
  bn (F_ra_sizeOf x11 a1 h) fun x14 =>
  bn (gR h a0 5 1) fun x15 =>
  bn (F_ra_totalOf x15 a1 h) fun x18 =>
  bn (F_ma_max x9 ((a3 * x14) - x18)) fun x20 =>
  bn (sI h 100 x5 ((x4 * (4 : Int32)) + a2) x20) fun h21 =>
  some h21)
set_option maxRecDepth 20000 in
theorem K_pl_note {a0 : Nat} {a1 : Int32} {a2 : Int32} {a3 : Int32} {h : Hp} {h' : Hp} (hS : F_pl_note a0 a1 a2 a3 h = some h') : kd h a0 = 5 := by
  unfold F_pl_note at hS
  exact (ck_s hS).1
set_option maxRecDepth 20000 in
theorem R_pl_note (d : Nat) (hd : 2 ≤ d) {a0 : Nat} {a1 : Int32} {a2 : Int32} {a3 : Int32} {h : Hp} {h' : Hp} (hS : F_pl_note a0 a1 a2 a3 h = some h') : Ev P d 112 (0, [.ref a0, .int a1, .int a2, .int a3, unk], [], h) (none, h') := by
  unfold F_pl_note at hS
  replace hS := (ck_s hS).2
  refine ev_aload_n pm112 i112_0 rfl rfl rfl ?_
  obtain ⟨x1, e2, hS⟩ := bn_s hS
  refine ev_getR pm112 i112_1 rfl rfl rfl e2 rfl ?_
  refine ev_iload_n pm112 i112_4 rfl rfl rfl ?_
  obtain ⟨x4, e3, hS⟩ := bn_s hS
  refine ev_callV (sa := [.int a1]) (rest := []) (st' := [.int x4]) (ls0 := [.ref x1, .int a1, unk]) (rv := some (.int x4)) pm112 i112_5 rfl rfl pm71 (by decide) (K_ra_firstOf e3) rfl rfl (Nat.le_of_ble_eq_true rfl) (by omega) rfl (R_ra_firstOf (d - 1) (by omega) e3) (by simp) rfl rfl ?_
  refine ev_iconst (v := 4) pm112 i112_8 rfl (by decide) rfl ?_
  refine ev_b2 (f := fun x y => x * y) pm112 i112_9 rfl (fun _ _ _ _ => rfl) rfl ?_
  refine ev_iload_n pm112 i112_10 rfl rfl rfl ?_
  refine ev_b2 (f := fun x y => x + y) pm112 i112_11 rfl (fun _ _ _ _ => rfl) rfl ?_
  refine ev_istore (ls' := [.ref a0, .int a1, .int a2, .int a3, .int ((x4 * (4 : Int32)) + a2)]) pm112 i112_12 rfl (Nat.le_of_ble_eq_true rfl) rfl rfl ?_
  refine ev_aload_n pm112 i112_14 rfl rfl rfl ?_
  obtain ⟨x5, e6, hS⟩ := bn_s hS
  refine ev_getR pm112 i112_15 rfl rfl rfl e6 rfl ?_
  refine ev_iload pm112 i112_18 rfl rfl rfl ?_
  refine ev_aload_n pm112 i112_20 rfl rfl rfl ?_
  obtain ⟨x7, e8, hS⟩ := bn_s hS
  refine ev_getR pm112 i112_21 rfl rfl rfl e8 rfl ?_
  refine ev_iload pm112 i112_24 rfl rfl rfl ?_
  obtain ⟨x9, e10, hS⟩ := bn_s hS
  refine ev_iald pm112 i112_26 rfl e10 rfl ?_
  refine ev_iload_n pm112 i112_27 rfl rfl rfl ?_
  refine ev_aload_n pm112 i112_28 rfl rfl rfl ?_
  obtain ⟨x11, e12, hS⟩ := bn_s hS
  refine ev_getR pm112 i112_29 rfl rfl rfl e12 rfl ?_
  refine ev_iload_n pm112 i112_32 rfl rfl rfl ?_
  obtain ⟨x14, e13, hS⟩ := bn_s hS
  refine ev_callV (sa := [.int a1]) (rest := [.int a3, .int x9, .int ((x4 * (4 : Int32)) + a2), .ref x5]) (st' := [.int x14, .int a3, .int x9, .int ((x4 * (4 : Int32)) + a2), .ref x5]) (ls0 := [.ref x11, .int a1]) (rv := some (.int x14)) pm112 i112_33 rfl rfl pm72 (by decide) (K_ra_sizeOf e13) rfl rfl (Nat.le_of_ble_eq_true rfl) (by omega) rfl (R_ra_sizeOf (d - 1) (by omega) e13) (by simp) rfl rfl ?_
  refine ev_b2 (f := fun x y => x * y) pm112 i112_36 rfl (fun _ _ _ _ => rfl) rfl ?_
  refine ev_aload_n pm112 i112_37 rfl rfl rfl ?_
  obtain ⟨x15, e16, hS⟩ := bn_s hS
  refine ev_getR pm112 i112_38 rfl rfl rfl e16 rfl ?_
  refine ev_iload_n pm112 i112_41 rfl rfl rfl ?_
  obtain ⟨x18, e17, hS⟩ := bn_s hS
  refine ev_callV (sa := [.int a1]) (rest := [.int (a3 * x14), .int x9, .int ((x4 * (4 : Int32)) + a2), .ref x5]) (st' := [.int x18, .int (a3 * x14), .int x9, .int ((x4 * (4 : Int32)) + a2), .ref x5]) (ls0 := [.ref x15, .int a1, unk, unk]) (rv := some (.int x18)) pm112 i112_42 rfl rfl pm74 (by decide) (K_ra_totalOf e17) rfl rfl (Nat.le_of_ble_eq_true rfl) (by omega) rfl (R_ra_totalOf (d - 1) (by omega) e17) (by simp) rfl rfl ?_
  refine ev_b2 (f := fun x y => x - y) pm112 i112_45 rfl (fun _ _ _ _ => rfl) rfl ?_
  obtain ⟨x20, e19, hS⟩ := bn_s hS
  refine ev_callS (sa := [.int ((a3 * x14) - x18), .int x9]) (rest := [.int ((x4 * (4 : Int32)) + a2), .ref x5]) (st' := [.int x20, .int ((x4 * (4 : Int32)) + a2), .ref x5]) (ls0 := [.int x9, .int ((a3 * x14) - x18)]) (rv := some (.int x20)) pm112 i112_46 rfl rfl pm47 (by decide) rfl rfl (Nat.le_of_ble_eq_true rfl) (by omega) rfl (R_ma_max (d - 1) (by omega) e19) (by simp) rfl rfl ?_
  obtain ⟨h21, e22, hS⟩ := bn_s hS
  refine ev_iast pm112 i112_49 rfl e22 rfl ?_
  cases hS
  exact ev_return pm112 i112_50 rfl rfl rfl
def B_pl_noteHouses_2 (l0 : Nat) (l1 : Nat) (s : Int32) (h : Hp) : Option (((Int32) ⊕ (Unit)) × Hp) :=
  bn (gI h l1 10 1) fun x1 =>
  if s < x1 then
    (bn (F_pl_note l0 s (0 : Int32) (0 : Int32) h) fun h4 =>
    some (.inl (s + (1 : Int32)), h4))
  else
    (some (.inr (), h))
set_option maxRecDepth 20000 in
theorem L_pl_noteHouses_2 (d : Nat) (hd : 3 ≤ d) {l0 : Nat} {l1 : Nat} : ∀ (n : Nat) (s : Int32) (h : Hp) (x : Unit) (hx : Hp), lp (B_pl_noteHouses_2 l0 l1) n s h = some (x, hx) → ∀ r, Ev P d 111 (23, [unk, unk, unk], [], hx) r → Ev P d 111 (2, [.ref l0, .ref l1, .int s], [], h) r := by
  refine lp_ev (G0 := fun (s : Int32) h r => Ev P d 111 (2, [.ref l0, .ref l1, .int s], [], h) r) (X := fun (x : Unit) hx r => Ev P d 111 (23, [unk, unk, unk], [], hx) r) ?_
  intro s h y h9 hS r hK
  unfold B_pl_noteHouses_2 at hS
  show Ev P d 111 (2, [.ref l0, .ref l1, .int s], [], h) r
  refine ev_iload_n pm111 i111_2 rfl rfl rfl ?_
  refine ev_aload_n pm111 i111_3 rfl rfl rfl ?_
  obtain ⟨x1, e2, hS⟩ := bn_s hS
  refine ev_getI pm111 i111_4 rfl rfl (by decide) e2 rfl ?_
  by_cases c277 : s < x1
  · rw [if_pos c277] at hS
    refine ev_icmp_ge_t (t := 23) pm111 i111_7 rfl c277 rfl rfl ?_
    refine ev_aload_n pm111 i111_10 rfl rfl rfl ?_
    refine ev_iload_n pm111 i111_11 rfl rfl rfl ?_
    refine ev_iconst (v := 0) pm111 i111_12 rfl (by decide) rfl ?_
    refine ev_iconst (v := 0) pm111 i111_13 rfl (by decide) rfl ?_
    obtain ⟨h4, e3, hS⟩ := bn_s hS
    refine ev_callV (sa := [.int (0 : Int32), .int (0 : Int32), .int s]) (rest := []) (st' := []) (ls0 := [.ref l0, .int s, .int (0 : Int32), .int (0 : Int32), unk]) (rv := none) pm111 i111_14 rfl rfl pm112 (by decide) (K_pl_note e3) rfl rfl (Nat.le_of_ble_eq_true rfl) (by omega) rfl (R_pl_note (d - 1) (by omega) e3) (by simp) rfl rfl ?_
    refine ev_iinc (v := 1) (ls' := [.ref l0, .ref l1, .int (s + (1 : Int32))]) pm111 i111_17 rfl rfl (by decide) rfl rfl ?_
    refine ev_goto (t := 2) pm111 i111_20 rfl rfl ?_
    cases hS
    exact hK
  · rw [if_neg c277] at hS
    refine ev_icmp_ge_f (t := 23) pm111 i111_7 rfl c277 rfl rfl ?_
    refine ev_kls (ls' := [unk, unk, unk]) pm111 i111_23 rfl rfl ?_
    cases hS
    exact hK
def F_pl_noteHouses (a0 : Nat) (a1 : Nat) (h : Hp) : Option Hp :=
  ck h a0 5 (bd (lp (B_pl_noteHouses_2 a0 a1) FU (0 : Int32) h) fun x5 h7 =>
  some h7)
set_option maxRecDepth 20000 in
theorem K_pl_noteHouses {a0 : Nat} {a1 : Nat} {h : Hp} {h' : Hp} (hS : F_pl_noteHouses a0 a1 h = some h') : kd h a0 = 5 := by
  unfold F_pl_noteHouses at hS
  exact (ck_s hS).1
set_option maxRecDepth 20000 in
theorem R_pl_noteHouses (d : Nat) (hd : 3 ≤ d) {a0 : Nat} {a1 : Nat} {h : Hp} {h' : Hp} (hS : F_pl_noteHouses a0 a1 h = some h') : Ev P d 111 (0, [.ref a0, .ref a1, unk], [], h) (none, h') := by
  unfold F_pl_noteHouses at hS
  replace hS := (ck_s hS).2
  refine ev_iconst (v := 0) pm111 i111_0 rfl (by decide) rfl ?_
  refine ev_istore_n (ls' := [.ref a0, .ref a1, .int (0 : Int32)]) pm111 i111_1 rfl (Nat.le_of_ble_eq_true rfl) rfl rfl ?_
  obtain ⟨x5, h7, e6, hS⟩ := bd_s hS
  refine L_pl_noteHouses_2 d (by omega) _ _ _ _ _ e6 _ ?_
  show Ev P d 111 (23, [unk, unk, unk], [], h7) _
  cases hS
  exact ev_return pm111 i111_23 rfl rfl rfl
def B_pl_noteFeasts_2 (l0 : Nat) (l1 : Nat) (l2 : Int32) (s : Int32) (h : Hp) : Option (((Int32) ⊕ (Unit)) × Hp) :=
  bn (gI h l1 10 14) fun x1 =>
  if s < x1 then
    (bn (gR h l1 10 16) fun x3 =>
    bn (aI h 100 x3 s) fun x5 =>
    bn (F_ma_min x5 (3 : Int32)) fun x8 =>
    if x8 = l2 then
      (bn (gR h l1 10 15) fun x9 =>
      bn (aI h 100 x9 s) fun x11 =>
      bn (gR h l1 10 17) fun x13 =>
      bn (aI h 100 x13 s) fun x15 =>
      bn (F_pl_note l0 x11 l2 x15 h) fun h18 =>
      some (.inl (s + (1 : Int32)), h18))
    else
      (some (.inl (s + (1 : Int32)), h)))
  else
    (some (.inr (), h))
set_option maxRecDepth 20000 in
theorem L_pl_noteFeasts_2 (d : Nat) (hd : 3 ≤ d) {l0 : Nat} {l1 : Nat} {l2 : Int32} : ∀ (n : Nat) (s : Int32) (h : Hp) (x : Unit) (hx : Hp), lp (B_pl_noteFeasts_2 l0 l1 l2) n s h = some (x, hx) → ∀ r, Ev P d 113 (47, [unk, unk, unk, unk], [], hx) r → Ev P d 113 (2, [.ref l0, .ref l1, .int l2, .int s], [], h) r := by
  refine lp_ev (G0 := fun (s : Int32) h r => Ev P d 113 (2, [.ref l0, .ref l1, .int l2, .int s], [], h) r) (X := fun (x : Unit) hx r => Ev P d 113 (47, [unk, unk, unk, unk], [], hx) r) ?_
  intro s h y h9 hS r hK
  unfold B_pl_noteFeasts_2 at hS
  show Ev P d 113 (2, [.ref l0, .ref l1, .int l2, .int s], [], h) r
  refine ev_iload_n pm113 i113_2 rfl rfl rfl ?_
  refine ev_aload_n pm113 i113_3 rfl rfl rfl ?_
  obtain ⟨x1, e2, hS⟩ := bn_s hS
  refine ev_getI pm113 i113_4 rfl rfl (by decide) e2 rfl ?_
  by_cases c278 : s < x1
  · rw [if_pos c278] at hS
    refine ev_icmp_ge_t (t := 47) pm113 i113_7 rfl c278 rfl rfl ?_
    refine ev_aload_n pm113 i113_10 rfl rfl rfl ?_
    obtain ⟨x3, e4, hS⟩ := bn_s hS
    refine ev_getR pm113 i113_11 rfl rfl rfl e4 rfl ?_
    refine ev_iload_n pm113 i113_14 rfl rfl rfl ?_
    obtain ⟨x5, e6, hS⟩ := bn_s hS
    refine ev_iald pm113 i113_15 rfl e6 rfl ?_
    refine ev_iconst (v := 3) pm113 i113_16 rfl (by decide) rfl ?_
    obtain ⟨x8, e7, hS⟩ := bn_s hS
    refine ev_callS (sa := [.int (3 : Int32), .int x5]) (rest := []) (st' := [.int x8]) (ls0 := [.int x5, .int (3 : Int32)]) (rv := some (.int x8)) pm113 i113_17 rfl rfl pm22 (by decide) rfl rfl (Nat.le_of_ble_eq_true rfl) (by omega) rfl (R_ma_min (d - 1) (by omega) e7) (by simp) rfl rfl ?_
    refine ev_iload_n pm113 i113_20 rfl rfl rfl ?_
    by_cases c279 : x8 = l2
    · rw [if_pos c279] at hS
      refine ev_icmp_ne_t (t := 41) pm113 i113_21 rfl c279 rfl rfl ?_
      refine ev_aload_n pm113 i113_24 rfl rfl rfl ?_
      refine ev_aload_n pm113 i113_25 rfl rfl rfl ?_
      obtain ⟨x9, e10, hS⟩ := bn_s hS
      refine ev_getR pm113 i113_26 rfl rfl rfl e10 rfl ?_
      refine ev_iload_n pm113 i113_29 rfl rfl rfl ?_
      obtain ⟨x11, e12, hS⟩ := bn_s hS
      refine ev_iald pm113 i113_30 rfl e12 rfl ?_
      refine ev_iload_n pm113 i113_31 rfl rfl rfl ?_
      refine ev_aload_n pm113 i113_32 rfl rfl rfl ?_
      obtain ⟨x13, e14, hS⟩ := bn_s hS
      refine ev_getR pm113 i113_33 rfl rfl rfl e14 rfl ?_
      refine ev_iload_n pm113 i113_36 rfl rfl rfl ?_
      obtain ⟨x15, e16, hS⟩ := bn_s hS
      refine ev_iald pm113 i113_37 rfl e16 rfl ?_
      obtain ⟨h18, e17, hS⟩ := bn_s hS
      refine ev_callV (sa := [.int x15, .int l2, .int x11]) (rest := []) (st' := []) (ls0 := [.ref l0, .int x11, .int l2, .int x15, unk]) (rv := none) pm113 i113_38 rfl rfl pm112 (by decide) (K_pl_note e17) rfl rfl (Nat.le_of_ble_eq_true rfl) (by omega) rfl (R_pl_note (d - 1) (by omega) e17) (by simp) rfl rfl ?_
      refine ev_iinc (v := 1) (ls' := [.ref l0, .ref l1, .int l2, .int (s + (1 : Int32))]) pm113 i113_41 rfl rfl (by decide) rfl rfl ?_
      refine ev_goto (t := 2) pm113 i113_44 rfl rfl ?_
      cases hS
      exact hK
    · rw [if_neg c279] at hS
      refine ev_icmp_ne_f (t := 41) pm113 i113_21 rfl c279 rfl rfl ?_
      refine ev_iinc (v := 1) (ls' := [.ref l0, .ref l1, .int l2, .int (s + (1 : Int32))]) pm113 i113_41 rfl rfl (by decide) rfl rfl ?_
      refine ev_goto (t := 2) pm113 i113_44 rfl rfl ?_
      cases hS
      exact hK
  · rw [if_neg c278] at hS
    refine ev_icmp_ge_f (t := 47) pm113 i113_7 rfl c278 rfl rfl ?_
    refine ev_kls (ls' := [unk, unk, unk, unk]) pm113 i113_47 rfl rfl ?_
    cases hS
    exact hK
def F_pl_noteFeasts (a0 : Nat) (a1 : Nat) (a2 : Int32) (h : Hp) : Option Hp :=
  ck h a0 5 (bd (lp (B_pl_noteFeasts_2 a0 a1 a2) FU (0 : Int32) h) fun x19 h21 =>
  some h21)
set_option maxRecDepth 20000 in
theorem K_pl_noteFeasts {a0 : Nat} {a1 : Nat} {a2 : Int32} {h : Hp} {h' : Hp} (hS : F_pl_noteFeasts a0 a1 a2 h = some h') : kd h a0 = 5 := by
  unfold F_pl_noteFeasts at hS
  exact (ck_s hS).1
set_option maxRecDepth 20000 in
theorem R_pl_noteFeasts (d : Nat) (hd : 3 ≤ d) {a0 : Nat} {a1 : Nat} {a2 : Int32} {h : Hp} {h' : Hp} (hS : F_pl_noteFeasts a0 a1 a2 h = some h') : Ev P d 113 (0, [.ref a0, .ref a1, .int a2, unk], [], h) (none, h') := by
  unfold F_pl_noteFeasts at hS
  replace hS := (ck_s hS).2
  refine ev_iconst (v := 0) pm113 i113_0 rfl (by decide) rfl ?_
  refine ev_istore_n (ls' := [.ref a0, .ref a1, .int a2, .int (0 : Int32)]) pm113 i113_1 rfl (Nat.le_of_ble_eq_true rfl) rfl rfl ?_
  obtain ⟨x19, h21, e20, hS⟩ := bd_s hS
  refine L_pl_noteFeasts_2 d (by omega) _ _ _ _ _ e20 _ ?_
  show Ev P d 113 (47, [unk, unk, unk, unk], [], h21) _
  cases hS
  exact ev_return pm113 i113_47 rfl rfl rfl
def B_pl_isLacking_2 (l0 : Nat) (l1 : Int32) (h : Hp) (s : Int32) : Option ((Int32) ⊕ ((Unit) ⊕ Int32)) :=
  if s < (4 : Int32) then
    (bn (gR h l0 5 4) fun x1 =>
    bn (aI h 100 x1 ((l1 * (4 : Int32)) + s)) fun x3 =>
    if (0 : Int32) < x3 then
      (some (.inr (.inr (1 : Int32))))
    else
      (some (.inl (s + (1 : Int32)))))
  else
    (some (.inr (.inl ())))
set_option maxRecDepth 20000 in
theorem L_pl_isLacking_2 (d : Nat) (hd : 0 ≤ d) {l0 : Nat} {l1 : Int32} {h : Hp} : ∀ (n : Nat) (s : Int32) (x : (Unit) ⊕ Int32), lq (B_pl_isLacking_2 l0 l1 h) n s = some x → ∀ r, ei x (fun q => Ev P d 116 (28, [unk, unk, unk], [], h) r) (fun v => (some (.int v), h) = r) → Ev P d 116 (2, [.ref l0, .int l1, .int s], [], h) r := by
  refine lq_ev (G0 := fun (s : Int32) r => Ev P d 116 (2, [.ref l0, .int l1, .int s], [], h) r) (X := fun (x : (Unit) ⊕ Int32) r => ei x (fun q => Ev P d 116 (28, [unk, unk, unk], [], h) r) (fun v => (some (.int v), h) = r)) ?_
  intro s y hS r hK
  unfold B_pl_isLacking_2 at hS
  show Ev P d 116 (2, [.ref l0, .int l1, .int s], [], h) r
  refine ev_iload_n pm116 i116_2 rfl rfl rfl ?_
  refine ev_iconst (v := 4) pm116 i116_3 rfl (by decide) rfl ?_
  by_cases c280 : s < (4 : Int32)
  · rw [if_pos c280] at hS
    refine ev_icmp_ge_t (t := 28) pm116 i116_4 rfl c280 rfl rfl ?_
    refine ev_aload_n pm116 i116_7 rfl rfl rfl ?_
    obtain ⟨x1, e2, hS⟩ := bn_s hS
    refine ev_getR pm116 i116_8 rfl rfl rfl e2 rfl ?_
    refine ev_iload_n pm116 i116_11 rfl rfl rfl ?_
    refine ev_iconst (v := 4) pm116 i116_12 rfl (by decide) rfl ?_
    refine ev_b2 (f := fun x y => x * y) pm116 i116_13 rfl (fun _ _ _ _ => rfl) rfl ?_
    refine ev_iload_n pm116 i116_14 rfl rfl rfl ?_
    refine ev_b2 (f := fun x y => x + y) pm116 i116_15 rfl (fun _ _ _ _ => rfl) rfl ?_
    obtain ⟨x3, e4, hS⟩ := bn_s hS
    refine ev_iald pm116 i116_16 rfl e4 rfl ?_
    by_cases c281 : (0 : Int32) < x3
    · rw [if_pos c281] at hS
      refine ev_if_le_t (t := 22) pm116 i116_17 rfl c281 rfl rfl ?_
      refine ev_iconst (v := 1) pm116 i116_20 rfl (by decide) rfl ?_
      cases hS
      exact ev_ireturn pm116 i116_21 rfl (by decide) hK
    · rw [if_neg c281] at hS
      refine ev_if_le_f (t := 22) pm116 i116_17 rfl c281 rfl rfl ?_
      refine ev_iinc (v := 1) (ls' := [.ref l0, .int l1, .int (s + (1 : Int32))]) pm116 i116_22 rfl rfl (by decide) rfl rfl ?_
      refine ev_goto (t := 2) pm116 i116_25 rfl rfl ?_
      cases hS
      exact hK
  · rw [if_neg c280] at hS
    refine ev_icmp_ge_f (t := 28) pm116 i116_4 rfl c280 rfl rfl ?_
    refine ev_kls (ls' := [unk, unk, unk]) pm116 i116_28 rfl rfl ?_
    cases hS
    exact hK
def F_pl_isLacking (a0 : Nat) (a1 : Int32) (h : Hp) : Option Int32 :=
  ck h a0 5 (bn (lq (B_pl_isLacking_2 a0 a1 h) FU (0 : Int32)) fun x5 =>
  ei x5 (fun q7 =>
  some (0 : Int32))
  (fun x8 => some x8))
set_option maxRecDepth 20000 in
theorem K_pl_isLacking {a0 : Nat} {a1 : Int32} {h : Hp} {v : Int32} (hS : F_pl_isLacking a0 a1 h = some v) : kd h a0 = 5 := by
  unfold F_pl_isLacking at hS
  exact (ck_s hS).1
set_option maxRecDepth 20000 in
theorem R_pl_isLacking (d : Nat) (hd : 0 ≤ d) {a0 : Nat} {a1 : Int32} {h : Hp} {v : Int32} (hS : F_pl_isLacking a0 a1 h = some v) : Ev P d 116 (0, [.ref a0, .int a1, unk], [], h) (some (.int v), h) := by
  unfold F_pl_isLacking at hS
  replace hS := (ck_s hS).2
  refine ev_iconst (v := 0) pm116 i116_0 rfl (by decide) rfl ?_
  refine ev_istore_n (ls' := [.ref a0, .int a1, .int (0 : Int32)]) pm116 i116_1 rfl (Nat.le_of_ble_eq_true rfl) rfl rfl ?_
  obtain ⟨x5, e6, hS⟩ := bn_s hS
  refine L_pl_isLacking_2 d (by omega) _ _ _ e6 _ ?_
  cases x5 with
  | inl q7 =>
    replace hS := ei_l hS
    show Ev P d 116 (28, [unk, unk, unk], [], h) _
    refine ev_iconst (v := 0) pm116 i116_28 rfl (by decide) rfl ?_
    cases hS
    exact ev_ireturn pm116 i116_29 rfl (by decide) rfl
  | inr x8 =>
    replace hS := ei_r hS
    cases hS
    rfl
def B_pl_lackingRafts_4 (l0 : Nat) (l1 : Int32) (h : Hp) (s : Int32 × Int32) : Option ((Int32 × Int32) ⊕ (Int32)) :=
  if s.2 < l1 then
    (bn (F_pl_isLacking l0 s.2 h) fun x2 =>
    if x2 = (0 : Int32) then
      (some (.inl (s.1, s.2 + (1 : Int32))))
    else
      (some (.inl (s.1 + (1 : Int32), s.2 + (1 : Int32)))))
  else
    (some (.inr s.1))
set_option maxRecDepth 20000 in
theorem L_pl_lackingRafts_4 (d : Nat) (hd : 1 ≤ d) {l0 : Nat} {l1 : Int32} {h : Hp} : ∀ (n : Nat) (s : Int32 × Int32) (x : Int32), lq (B_pl_lackingRafts_4 l0 l1 h) n s = some x → ∀ r, Ev P d 115 (26, [unk, unk, .int x, unk], [], h) r → Ev P d 115 (4, [.ref l0, .int l1, .int s.1, .int s.2], [], h) r := by
  refine lq_ev (G0 := fun (s : Int32 × Int32) r => Ev P d 115 (4, [.ref l0, .int l1, .int s.1, .int s.2], [], h) r) (X := fun (x : Int32) r => Ev P d 115 (26, [unk, unk, .int x, unk], [], h) r) ?_
  intro s y hS r hK
  unfold B_pl_lackingRafts_4 at hS
  show Ev P d 115 (4, [.ref l0, .int l1, .int s.1, .int s.2], [], h) r
  refine ev_iload_n pm115 i115_4 rfl rfl rfl ?_
  refine ev_iload_n pm115 i115_5 rfl rfl rfl ?_
  by_cases c282 : s.2 < l1
  · rw [if_pos c282] at hS
    refine ev_icmp_ge_t (t := 26) pm115 i115_6 rfl c282 rfl rfl ?_
    refine ev_aload_n pm115 i115_9 rfl rfl rfl ?_
    refine ev_iload_n pm115 i115_10 rfl rfl rfl ?_
    obtain ⟨x2, e1, hS⟩ := bn_s hS
    refine ev_callV (sa := [.int s.2]) (rest := []) (st' := [.int x2]) (ls0 := [.ref l0, .int s.2, unk]) (rv := some (.int x2)) pm115 i115_11 rfl rfl pm116 (by decide) (K_pl_isLacking e1) rfl rfl (Nat.le_of_ble_eq_true rfl) (by omega) rfl (R_pl_isLacking (d - 1) (by omega) e1) (by simp) rfl rfl ?_
    by_cases c283 : x2 = (0 : Int32)
    · rw [if_pos c283] at hS
      refine ev_if_eq_t (t := 20) pm115 i115_14 rfl c283 rfl rfl ?_
      refine ev_iinc (v := 1) (ls' := [.ref l0, .int l1, .int s.1, .int (s.2 + (1 : Int32))]) pm115 i115_20 rfl rfl (by decide) rfl rfl ?_
      refine ev_goto (t := 4) pm115 i115_23 rfl rfl ?_
      cases hS
      exact hK
    · rw [if_neg c283] at hS
      refine ev_if_eq_f (t := 20) pm115 i115_14 rfl c283 rfl rfl ?_
      refine ev_iinc (v := 1) (ls' := [.ref l0, .int l1, .int (s.1 + (1 : Int32)), .int s.2]) pm115 i115_17 rfl rfl (by decide) rfl rfl ?_
      refine ev_iinc (v := 1) (ls' := [.ref l0, .int l1, .int (s.1 + (1 : Int32)), .int (s.2 + (1 : Int32))]) pm115 i115_20 rfl rfl (by decide) rfl rfl ?_
      refine ev_goto (t := 4) pm115 i115_23 rfl rfl ?_
      cases hS
      exact hK
  · rw [if_neg c282] at hS
    refine ev_icmp_ge_f (t := 26) pm115 i115_6 rfl c282 rfl rfl ?_
    refine ev_kls (ls' := [unk, unk, .int s.1, unk]) pm115 i115_26 rfl rfl ?_
    cases hS
    exact hK
def F_pl_lackingRafts (a0 : Nat) (a1 : Int32) (h : Hp) : Option Int32 :=
  ck h a0 5 (bn (lq (B_pl_lackingRafts_4 a0 a1 h) FU ((0 : Int32), (0 : Int32))) fun x3 =>
  some x3)
set_option maxRecDepth 20000 in
theorem K_pl_lackingRafts {a0 : Nat} {a1 : Int32} {h : Hp} {v : Int32} (hS : F_pl_lackingRafts a0 a1 h = some v) : kd h a0 = 5 := by
  unfold F_pl_lackingRafts at hS
  exact (ck_s hS).1
set_option maxRecDepth 20000 in
theorem R_pl_lackingRafts (d : Nat) (hd : 1 ≤ d) {a0 : Nat} {a1 : Int32} {h : Hp} {v : Int32} (hS : F_pl_lackingRafts a0 a1 h = some v) : Ev P d 115 (0, [.ref a0, .int a1, unk, unk], [], h) (some (.int v), h) := by
  unfold F_pl_lackingRafts at hS
  replace hS := (ck_s hS).2
  refine ev_iconst (v := 0) pm115 i115_0 rfl (by decide) rfl ?_
  refine ev_istore_n (ls' := [.ref a0, .int a1, .int (0 : Int32), unk]) pm115 i115_1 rfl (Nat.le_of_ble_eq_true rfl) rfl rfl ?_
  refine ev_iconst (v := 0) pm115 i115_2 rfl (by decide) rfl ?_
  refine ev_istore_n (ls' := [.ref a0, .int a1, .int (0 : Int32), .int (0 : Int32)]) pm115 i115_3 rfl (Nat.le_of_ble_eq_true rfl) rfl rfl ?_
  obtain ⟨x3, e4, hS⟩ := bn_s hS
  refine L_pl_lackingRafts_4 d (by omega) _ _ _ e4 _ ?_
  show Ev P d 115 (26, [unk, unk, .int x3, unk], [], h) _
  refine ev_iload_n pm115 i115_26 rfl rfl rfl ?_
  cases hS
  exact ev_ireturn pm115 i115_27 rfl rfl rfl
def F_st_liftOfOld (a0 : Int32) (a1 : Int32) (h : Hp) : Option Int32 :=
  if a0 = (0 : Int32) then
    (bn (aI h 100 1000001 (0 : Int32)) fun x1 =>
    bn (F_ma_max (0 : Int32) (x1 - a1)) fun x4 =>
    some x4)
  else
    (bn (F_st_liftOfKind a0 h) fun x6 =>
    some x6)
set_option maxRecDepth 20000 in
theorem R_st_liftOfOld (d : Nat) (hd : 1 ≤ d) {a0 : Int32} {a1 : Int32} {h : Hp} {v : Int32} (hS : F_st_liftOfOld a0 a1 h = some v) : Ev P d 118 (0, [.int a0, .int a1], [], h) (some (.int v), h) := by
  unfold F_st_liftOfOld at hS
  refine ev_iload_n pm118 i118_0 rfl rfl rfl ?_
  by_cases c284 : a0 = (0 : Int32)
  · rw [if_pos c284] at hS
    refine ev_if_ne_t (t := 18) pm118 i118_1 rfl c284 rfl rfl ?_
    refine ev_iconst (v := 0) pm118 i118_4 rfl (by decide) rfl ?_
    refine ev_getstatic (v := .ref 1000001) pm118 i118_5 rfl rfl rfl ?_
    refine ev_iconst (v := 0) pm118 i118_8 rfl (by decide) rfl ?_
    obtain ⟨x1, e2, hS⟩ := bn_s hS
    refine ev_iald pm118 i118_9 rfl e2 rfl ?_
    refine ev_iload_n pm118 i118_10 rfl rfl rfl ?_
    refine ev_b2 (f := fun x y => x - y) pm118 i118_11 rfl (fun _ _ _ _ => rfl) rfl ?_
    obtain ⟨x4, e3, hS⟩ := bn_s hS
    refine ev_callS (sa := [.int (x1 - a1), .int (0 : Int32)]) (rest := []) (st' := [.int x4]) (ls0 := [.int (0 : Int32), .int (x1 - a1)]) (rv := some (.int x4)) pm118 i118_12 rfl rfl pm47 (by decide) rfl rfl (Nat.le_of_ble_eq_true rfl) (by omega) rfl (R_ma_max (d - 1) (by omega) e3) (by simp) rfl rfl ?_
    refine ev_goto (t := 22) pm118 i118_15 rfl rfl ?_
    refine ev_kls (ls' := [unk, unk]) pm118 i118_22 rfl rfl ?_
    cases hS
    exact ev_ireturn pm118 i118_22 rfl rfl rfl
  · rw [if_neg c284] at hS
    refine ev_if_ne_f (t := 18) pm118 i118_1 rfl c284 rfl rfl ?_
    refine ev_iload_n pm118 i118_18 rfl rfl rfl ?_
    obtain ⟨x6, e5, hS⟩ := bn_s hS
    refine ev_callS (sa := [.int a0]) (rest := []) (st' := [.int x6]) (ls0 := [.int a0]) (rv := some (.int x6)) pm118 i118_19 rfl rfl pm103 (by decide) rfl rfl (Nat.le_of_ble_eq_true rfl) (by omega) rfl (R_st_liftOfKind (d - 1) (by omega) e5) (by simp) rfl rfl ?_
    refine ev_kls (ls' := [unk, unk]) pm118 i118_22 rfl rfl ?_
    cases hS
    exact ev_ireturn pm118 i118_22 rfl rfl rfl
def B_pl_put_3 (l0 : Nat) (l1 : Int32) (l2 : Int32) (l3 : Int32) (s : Int32) (h : Hp) : Option (((Int32) ⊕ (Unit)) × Hp) :=
  if s < (4 : Int32) then
    (bn (gR h l0 5 4) fun x1 =>
    bn (aI h 100 x1 ((l1 * (4 : Int32)) + s)) fun x3 =>
    bn (F_st_liftOfOld l2 s h) fun x6 =>
    bn (sI h 100 x1 ((l1 * (4 : Int32)) + s) (x3 - (l3 * x6))) fun h7 =>
    some (.inl (s + (1 : Int32)), h7))
  else
    (some (.inr (), h))
set_option maxRecDepth 20000 in
theorem L_pl_put_3 (d : Nat) (hd : 2 ≤ d) {l0 : Nat} {l1 : Int32} {l2 : Int32} {l3 : Int32} : ∀ (n : Nat) (s : Int32) (h : Hp) (x : Unit) (hx : Hp), lp (B_pl_put_3 l0 l1 l2 l3) n s h = some (x, hx) → ∀ r, Ev P d 117 (37, [unk, unk, unk, unk, unk], [], hx) r → Ev P d 117 (3, [.ref l0, .int l1, .int l2, .int l3, .int s], [], h) r := by
  refine lp_ev (G0 := fun (s : Int32) h r => Ev P d 117 (3, [.ref l0, .int l1, .int l2, .int l3, .int s], [], h) r) (X := fun (x : Unit) hx r => Ev P d 117 (37, [unk, unk, unk, unk, unk], [], hx) r) ?_
  intro s h y h9 hS r hK
  unfold B_pl_put_3 at hS
  show Ev P d 117 (3, [.ref l0, .int l1, .int l2, .int l3, .int s], [], h) r
  refine ev_iload pm117 i117_3 rfl rfl rfl ?_
  refine ev_iconst (v := 4) pm117 i117_5 rfl (by decide) rfl ?_
  by_cases c285 : s < (4 : Int32)
  · rw [if_pos c285] at hS
    refine ev_icmp_ge_t (t := 37) pm117 i117_6 rfl c285 rfl rfl ?_
    refine ev_aload_n pm117 i117_9 rfl rfl rfl ?_
    obtain ⟨x1, e2, hS⟩ := bn_s hS
    refine ev_getR pm117 i117_10 rfl rfl rfl e2 rfl ?_
    refine ev_iload_n pm117 i117_13 rfl rfl rfl ?_
    refine ev_iconst (v := 4) pm117 i117_14 rfl (by decide) rfl ?_
    refine ev_b2 (f := fun x y => x * y) pm117 i117_15 rfl (fun _ _ _ _ => rfl) rfl ?_
    refine ev_iload pm117 i117_16 rfl rfl rfl ?_
    refine ev_b2 (f := fun x y => x + y) pm117 i117_18 rfl (fun _ _ _ _ => rfl) rfl ?_
    refine ev_dup2 pm117 i117_19 rfl ⟨rfl, rfl⟩ rfl ?_
    obtain ⟨x3, e4, hS⟩ := bn_s hS
    refine ev_iald pm117 i117_20 rfl e4 rfl ?_
    refine ev_iload_n pm117 i117_21 rfl rfl rfl ?_
    refine ev_iload_n pm117 i117_22 rfl rfl rfl ?_
    refine ev_iload pm117 i117_23 rfl rfl rfl ?_
    obtain ⟨x6, e5, hS⟩ := bn_s hS
    refine ev_callS (sa := [.int s, .int l2]) (rest := [.int l3, .int x3, .int ((l1 * (4 : Int32)) + s), .ref x1]) (st' := [.int x6, .int l3, .int x3, .int ((l1 * (4 : Int32)) + s), .ref x1]) (ls0 := [.int l2, .int s]) (rv := some (.int x6)) pm117 i117_25 rfl rfl pm118 (by decide) rfl rfl (Nat.le_of_ble_eq_true rfl) (by omega) rfl (R_st_liftOfOld (d - 1) (by omega) e5) (by simp) rfl rfl ?_
    refine ev_b2 (f := fun x y => x * y) pm117 i117_28 rfl (fun _ _ _ _ => rfl) rfl ?_
    refine ev_b2 (f := fun x y => x - y) pm117 i117_29 rfl (fun _ _ _ _ => rfl) rfl ?_
    obtain ⟨h7, e8, hS⟩ := bn_s hS
    refine ev_iast pm117 i117_30 rfl e8 rfl ?_
    refine ev_iinc (v := 1) (ls' := [.ref l0, .int l1, .int l2, .int l3, .int (s + (1 : Int32))]) pm117 i117_31 rfl rfl (by decide) rfl rfl ?_
    refine ev_goto (t := 3) pm117 i117_34 rfl rfl ?_
    cases hS
    exact hK
  · rw [if_neg c285] at hS
    refine ev_icmp_ge_f (t := 37) pm117 i117_6 rfl c285 rfl rfl ?_
    refine ev_kls (ls' := [unk, unk, unk, unk, unk]) pm117 i117_37 rfl rfl ?_
    cases hS
    exact hK
def F_pl_put (a0 : Nat) (a1 : Int32) (a2 : Int32) (a3 : Int32) (h : Hp) : Option Hp :=
  ck h a0 5 (bd (lp (B_pl_put_3 a0 a1 a2 a3) FU (0 : Int32) h) fun x9 h11 =>
  some h11)
set_option maxRecDepth 20000 in
theorem K_pl_put {a0 : Nat} {a1 : Int32} {a2 : Int32} {a3 : Int32} {h : Hp} {h' : Hp} (hS : F_pl_put a0 a1 a2 a3 h = some h') : kd h a0 = 5 := by
  unfold F_pl_put at hS
  exact (ck_s hS).1
set_option maxRecDepth 20000 in
theorem R_pl_put (d : Nat) (hd : 2 ≤ d) {a0 : Nat} {a1 : Int32} {a2 : Int32} {a3 : Int32} {h : Hp} {h' : Hp} (hS : F_pl_put a0 a1 a2 a3 h = some h') : Ev P d 117 (0, [.ref a0, .int a1, .int a2, .int a3, unk], [], h) (none, h') := by
  unfold F_pl_put at hS
  replace hS := (ck_s hS).2
  refine ev_iconst (v := 0) pm117 i117_0 rfl (by decide) rfl ?_
  refine ev_istore (ls' := [.ref a0, .int a1, .int a2, .int a3, .int (0 : Int32)]) pm117 i117_1 rfl (Nat.le_of_ble_eq_true rfl) rfl rfl ?_
  obtain ⟨x9, h11, e10, hS⟩ := bd_s hS
  refine L_pl_put_3 d (by omega) _ _ _ _ _ e10 _ ?_
  show Ev P d 117 (37, [unk, unk, unk, unk, unk], [], h11) _
  cases hS
  exact ev_return pm117 i117_37 rfl rfl rfl
def B_pl_search_125 (rc : Nat → Nat → Int32 → Int32 → Hp → Option Hp) (l0 : Nat) (l1 : Nat) (l2 : Int32) (l3 : Int32) (l4 : Int32) (l5 : Int32) (s : Int32) (h : Hp) : Option (((Int32) ⊕ (Unit)) × Hp) :=
  bn (gI h l1 10 1) fun x23 =>
  if s < x23 then
    (bn (F_pl_isLacking l0 s h) fun x26 =>
    if x26 = (0 : Int32) then
      (some (.inl (s + (1 : Int32)), h))
    else
      (bn (gR h l0 5 5) fun x27 =>
      bn (sI h 100 x27 l2 l4) fun h29 =>
      bn (gR h29 l0 5 6) fun x31 =>
      bn (sI h29 100 x31 l2 s) fun h33 =>
      bn (gR h33 l1 10 12) fun x35 =>
      bn (aI h33 100 x35 l2) fun x37 =>
      bn (F_pl_put l0 s x37 l5 h33) fun h40 =>
      bn (rc l0 l1 (l2 + (1 : Int32)) (l3 + l5) h40) fun h42 =>
      bn (gR h42 l1 10 12) fun x43 =>
      bn (aI h42 100 x43 l2) fun x45 =>
      bn (F_pl_put l0 s x45 (-l5) h42) fun h48 =>
      some (.inl (s + (1 : Int32)), h48)))
  else
    (some (.inr (), h))
set_option maxRecDepth 20000 in
theorem L_pl_search_125 (d : Nat) (hd : 4 ≤ d) {rc : Nat → Nat → Int32 → Int32 → Hp → Option Hp} (hrc : ∀ {a0 a1 : Nat} {a2 a3 : Int32} {h h' : Hp}, rc a0 a1 a2 a3 h = some h' → kd h a0 = 5 ∧ Ev P (d - 1) 114 (0, [.ref a0, .ref a1, .int a2, .int a3, unk, unk, unk], [], h) (none, h')) {l0 : Nat} {l1 : Nat} {l2 : Int32} {l3 : Int32} {l4 : Int32} {l5 : Int32} : ∀ (n : Nat) (s : Int32) (h : Hp) (x : Unit) (hx : Hp), lp (B_pl_search_125 rc l0 l1 l2 l3 l4 l5) n s h = some (x, hx) → ∀ r, Ev P d 114 (206, [.ref l0, .ref l1, .int l2, .int l3, .int l4, unk, unk], [], hx) r → Ev P d 114 (125, [.ref l0, .ref l1, .int l2, .int l3, .int l4, .int l5, .int s], [], h) r := by
  refine lp_ev (G0 := fun (s : Int32) h r => Ev P d 114 (125, [.ref l0, .ref l1, .int l2, .int l3, .int l4, .int l5, .int s], [], h) r) (X := fun (x : Unit) hx r => Ev P d 114 (206, [.ref l0, .ref l1, .int l2, .int l3, .int l4, unk, unk], [], hx) r) ?_
  intro s h y h9 hS r hK
  unfold B_pl_search_125 at hS
  show Ev P d 114 (125, [.ref l0, .ref l1, .int l2, .int l3, .int l4, .int l5, .int s], [], h) r
  refine ev_iload pm114 i114_125 rfl rfl rfl ?_
  refine ev_aload_n pm114 i114_127 rfl rfl rfl ?_
  obtain ⟨x23, e24, hS⟩ := bn_s hS
  refine ev_getI pm114 i114_128 rfl rfl (by decide) e24 rfl ?_
  by_cases c286 : s < x23
  · rw [if_pos c286] at hS
    refine ev_icmp_ge_t (t := 206) pm114 i114_131 rfl c286 rfl rfl ?_
    refine ev_aload_n pm114 i114_134 rfl rfl rfl ?_
    refine ev_iload pm114 i114_135 rfl rfl rfl ?_
    obtain ⟨x26, e25, hS⟩ := bn_s hS
    refine ev_callV (sa := [.int s]) (rest := []) (st' := [.int x26]) (ls0 := [.ref l0, .int s, unk]) (rv := some (.int x26)) pm114 i114_137 rfl rfl pm116 (by decide) (K_pl_isLacking e25) rfl rfl (Nat.le_of_ble_eq_true rfl) (by omega) rfl (R_pl_isLacking (d - 1) (by omega) e25) (by simp) rfl rfl ?_
    by_cases c287 : x26 = (0 : Int32)
    · rw [if_pos c287] at hS
      refine ev_if_eq_t (t := 200) pm114 i114_140 rfl c287 rfl rfl ?_
      refine ev_iinc (v := 1) (ls' := [.ref l0, .ref l1, .int l2, .int l3, .int l4, .int l5, .int (s + (1 : Int32))]) pm114 i114_200 rfl rfl (by decide) rfl rfl ?_
      refine ev_goto (t := 125) pm114 i114_203 rfl rfl ?_
      cases hS
      exact hK
    · rw [if_neg c287] at hS
      refine ev_if_eq_f (t := 200) pm114 i114_140 rfl c287 rfl rfl ?_
      refine ev_aload_n pm114 i114_143 rfl rfl rfl ?_
      obtain ⟨x27, e28, hS⟩ := bn_s hS
      refine ev_getR pm114 i114_144 rfl rfl rfl e28 rfl ?_
      refine ev_iload_n pm114 i114_147 rfl rfl rfl ?_
      refine ev_iload pm114 i114_148 rfl rfl rfl ?_
      obtain ⟨h29, e30, hS⟩ := bn_s hS
      refine ev_iast pm114 i114_150 rfl e30 rfl ?_
      refine ev_aload_n pm114 i114_151 rfl rfl rfl ?_
      obtain ⟨x31, e32, hS⟩ := bn_s hS
      refine ev_getR pm114 i114_152 rfl rfl rfl e32 rfl ?_
      refine ev_iload_n pm114 i114_155 rfl rfl rfl ?_
      refine ev_iload pm114 i114_156 rfl rfl rfl ?_
      obtain ⟨h33, e34, hS⟩ := bn_s hS
      refine ev_iast pm114 i114_158 rfl e34 rfl ?_
      refine ev_aload_n pm114 i114_159 rfl rfl rfl ?_
      refine ev_iload pm114 i114_160 rfl rfl rfl ?_
      refine ev_aload_n pm114 i114_162 rfl rfl rfl ?_
      obtain ⟨x35, e36, hS⟩ := bn_s hS
      refine ev_getR pm114 i114_163 rfl rfl rfl e36 rfl ?_
      refine ev_iload_n pm114 i114_166 rfl rfl rfl ?_
      obtain ⟨x37, e38, hS⟩ := bn_s hS
      refine ev_iald pm114 i114_167 rfl e38 rfl ?_
      refine ev_iload pm114 i114_168 rfl rfl rfl ?_
      obtain ⟨h40, e39, hS⟩ := bn_s hS
      refine ev_callV (sa := [.int l5, .int x37, .int s]) (rest := []) (st' := []) (ls0 := [.ref l0, .int s, .int x37, .int l5, unk]) (rv := none) pm114 i114_170 rfl rfl pm117 (by decide) (K_pl_put e39) rfl rfl (Nat.le_of_ble_eq_true rfl) (by omega) rfl (R_pl_put (d - 1) (by omega) e39) (by simp) rfl rfl ?_
      refine ev_aload_n pm114 i114_173 rfl rfl rfl ?_
      refine ev_aload_n pm114 i114_174 rfl rfl rfl ?_
      refine ev_iload_n pm114 i114_175 rfl rfl rfl ?_
      refine ev_iconst (v := 1) pm114 i114_176 rfl (by decide) rfl ?_
      refine ev_b2 (f := fun x y => x + y) pm114 i114_177 rfl (fun _ _ _ _ => rfl) rfl ?_
      refine ev_iload_n pm114 i114_178 rfl rfl rfl ?_
      refine ev_iload pm114 i114_179 rfl rfl rfl ?_
      refine ev_b2 (f := fun x y => x + y) pm114 i114_181 rfl (fun _ _ _ _ => rfl) rfl ?_
      obtain ⟨h42, e41, hS⟩ := bn_s hS
      refine ev_callV (sa := [.int (l3 + l5), .int (l2 + (1 : Int32)), .ref l1]) (rest := []) (st' := []) (ls0 := [.ref l0, .ref l1, .int (l2 + (1 : Int32)), .int (l3 + l5), unk, unk, unk]) (rv := none) pm114 i114_182 rfl rfl pm114 (by decide) ((hrc e41).1) rfl rfl (Nat.le_of_ble_eq_true rfl) (by omega) rfl ((hrc e41).2) (by simp) rfl rfl ?_
      refine ev_aload_n pm114 i114_185 rfl rfl rfl ?_
      refine ev_iload pm114 i114_186 rfl rfl rfl ?_
      refine ev_aload_n pm114 i114_188 rfl rfl rfl ?_
      obtain ⟨x43, e44, hS⟩ := bn_s hS
      refine ev_getR pm114 i114_189 rfl rfl rfl e44 rfl ?_
      refine ev_iload_n pm114 i114_192 rfl rfl rfl ?_
      obtain ⟨x45, e46, hS⟩ := bn_s hS
      refine ev_iald pm114 i114_193 rfl e46 rfl ?_
      refine ev_iload pm114 i114_194 rfl rfl rfl ?_
      refine ev_ineg pm114 i114_196 rfl rfl ?_
      obtain ⟨h48, e47, hS⟩ := bn_s hS
      refine ev_callV (sa := [.int (-l5), .int x45, .int s]) (rest := []) (st' := []) (ls0 := [.ref l0, .int s, .int x45, .int (-l5), unk]) (rv := none) pm114 i114_197 rfl rfl pm117 (by decide) (K_pl_put e47) rfl rfl (Nat.le_of_ble_eq_true rfl) (by omega) rfl (R_pl_put (d - 1) (by omega) e47) (by simp) rfl rfl ?_
      refine ev_iinc (v := 1) (ls' := [.ref l0, .ref l1, .int l2, .int l3, .int l4, .int l5, .int (s + (1 : Int32))]) pm114 i114_200 rfl rfl (by decide) rfl rfl ?_
      refine ev_goto (t := 125) pm114 i114_203 rfl rfl ?_
      cases hS
      exact hK
  · rw [if_neg c286] at hS
    refine ev_icmp_ge_f (t := 206) pm114 i114_131 rfl c286 rfl rfl ?_
    refine ev_kls (ls' := [.ref l0, .ref l1, .int l2, .int l3, .int l4, unk, unk]) pm114 i114_206 rfl rfl ?_
    cases hS
    exact hK
def B_pl_search_102 (rc : Nat → Nat → Int32 → Int32 → Hp → Option Hp) (l0 : Nat) (l1 : Nat) (l2 : Int32) (l3 : Int32) (s : Int32) (h : Hp) : Option (((Int32) ⊕ (Unit)) × Hp) :=
  bn (gI h l0 5 3) fun x17 =>
  if x17 < s then
    (some (.inr (), h))
  else
    (bn (gR h l1 10 13) fun x19 =>
    bn (aI h 100 x19 l2) fun x21 =>
    bd (lp (B_pl_search_125 rc l0 l1 l2 l3 s (s * x21)) FU (0 : Int32) h) fun x49 h51 =>
    some (.inl (s + (1 : Int32)), h51))
set_option maxRecDepth 20000 in
theorem L_pl_search_102 (d : Nat) (hd : 4 ≤ d) {rc : Nat → Nat → Int32 → Int32 → Hp → Option Hp} (hrc : ∀ {a0 a1 : Nat} {a2 a3 : Int32} {h h' : Hp}, rc a0 a1 a2 a3 h = some h' → kd h a0 = 5 ∧ Ev P (d - 1) 114 (0, [.ref a0, .ref a1, .int a2, .int a3, unk, unk, unk], [], h) (none, h')) {l0 : Nat} {l1 : Nat} {l2 : Int32} {l3 : Int32} : ∀ (n : Nat) (s : Int32) (h : Hp) (x : Unit) (hx : Hp), lp (B_pl_search_102 rc l0 l1 l2 l3) n s h = some (x, hx) → ∀ r, Ev P d 114 (212, [unk, unk, unk, unk, unk, unk, unk], [], hx) r → Ev P d 114 (102, [.ref l0, .ref l1, .int l2, .int l3, .int s, unk, unk], [], h) r := by
  refine lp_ev (G0 := fun (s : Int32) h r => Ev P d 114 (102, [.ref l0, .ref l1, .int l2, .int l3, .int s, unk, unk], [], h) r) (X := fun (x : Unit) hx r => Ev P d 114 (212, [unk, unk, unk, unk, unk, unk, unk], [], hx) r) ?_
  intro s h y h9 hS r hK
  unfold B_pl_search_102 at hS
  show Ev P d 114 (102, [.ref l0, .ref l1, .int l2, .int l3, .int s, unk, unk], [], h) r
  refine ev_iload pm114 i114_102 rfl rfl rfl ?_
  refine ev_aload_n pm114 i114_104 rfl rfl rfl ?_
  obtain ⟨x17, e18, hS⟩ := bn_s hS
  refine ev_getI pm114 i114_105 rfl rfl (by decide) e18 rfl ?_
  by_cases c288 : x17 < s
  · rw [if_pos c288] at hS
    refine ev_icmp_gt_t (t := 212) pm114 i114_108 rfl c288 rfl rfl ?_
    refine ev_kls (ls' := [unk, unk, unk, unk, unk, unk, unk]) pm114 i114_212 rfl rfl ?_
    cases hS
    exact hK
  · rw [if_neg c288] at hS
    refine ev_icmp_gt_f (t := 212) pm114 i114_108 rfl c288 rfl rfl ?_
    refine ev_iload pm114 i114_111 rfl rfl rfl ?_
    refine ev_aload_n pm114 i114_113 rfl rfl rfl ?_
    obtain ⟨x19, e20, hS⟩ := bn_s hS
    refine ev_getR pm114 i114_114 rfl rfl rfl e20 rfl ?_
    refine ev_iload_n pm114 i114_117 rfl rfl rfl ?_
    obtain ⟨x21, e22, hS⟩ := bn_s hS
    refine ev_iald pm114 i114_118 rfl e22 rfl ?_
    refine ev_b2 (f := fun x y => x * y) pm114 i114_119 rfl (fun _ _ _ _ => rfl) rfl ?_
    refine ev_istore (ls' := [.ref l0, .ref l1, .int l2, .int l3, .int s, .int (s * x21), unk]) pm114 i114_120 rfl (Nat.le_of_ble_eq_true rfl) rfl rfl ?_
    refine ev_iconst (v := 0) pm114 i114_122 rfl (by decide) rfl ?_
    refine ev_istore (ls' := [.ref l0, .ref l1, .int l2, .int l3, .int s, .int (s * x21), .int (0 : Int32)]) pm114 i114_123 rfl (Nat.le_of_ble_eq_true rfl) rfl rfl ?_
    obtain ⟨x49, h51, e50, hS⟩ := bd_s hS
    refine L_pl_search_125 d (by omega) (fun hq => hrc hq) _ _ _ _ _ e50 _ ?_
    show Ev P d 114 (206, [.ref l0, .ref l1, .int l2, .int l3, .int s, unk, unk], [], h51) _
    refine ev_iinc (v := 1) (ls' := [.ref l0, .ref l1, .int l2, .int l3, .int (s + (1 : Int32)), unk, unk]) pm114 i114_206 rfl rfl (by decide) rfl rfl ?_
    refine ev_goto (t := 102) pm114 i114_209 rfl rfl ?_
    cases hS
    exact hK
def G_pl_search (rc : Nat → Nat → Int32 → Int32 → Hp → Option Hp) (a0 : Nat) (a1 : Nat) (a2 : Int32) (a3 : Int32) (h : Hp) : Option Hp :=
  ck h a0 5 (bn (gI h a0 5 0) fun x1 =>
  if x1 < (0 : Int32) then
    (bn (gI h a1 10 1) fun x3 =>
    bn (F_pl_lackingRafts a0 x3 h) fun x6 =>
    bn (gI h a1 10 11) fun x7 =>
    if (x7 - a2) < x6 then
      (some h)
    else
      (bn (gI h a1 10 11) fun x9 =>
      if a2 < x9 then
        (bn (gR h a0 5 5) fun x11 =>
        bn (sI h 100 x11 a2 (0 : Int32)) fun h13 =>
        bn (rc a0 a1 (a2 + (1 : Int32)) a3 h13) fun h16 =>
        bd (lp (B_pl_search_102 rc a0 a1 a2 a3) FU (1 : Int32) h16) fun x52 h54 =>
        some h54)
      else
        (bn (pI h a0 5 0 a3) fun h55 =>
        bn (gR h55 a0 5 5) fun x57 =>
        bn (gR h55 a0 5 7) fun x59 =>
        bn (gR h55 a0 5 7) fun x61 =>
        bn (aN h55 x61) fun x63 =>
        bn (cpI h55 x57 (0 : Int32) x59 (0 : Int32) x63) fun h65 =>
        bn (gR h65 a0 5 6) fun x67 =>
        bn (gR h65 a0 5 8) fun x69 =>
        bn (gR h65 a0 5 8) fun x71 =>
        bn (aN h65 x71) fun x73 =>
        bn (cpI h65 x67 (0 : Int32) x69 (0 : Int32) x73) fun h75 =>
        some h75)))
  else
    (bn (gI h a0 5 0) fun x77 =>
    if a3 < x77 then
      (bn (gI h a1 10 1) fun x79 =>
      bn (F_pl_lackingRafts a0 x79 h) fun x82 =>
      bn (gI h a1 10 11) fun x83 =>
      if (x83 - a2) < x82 then
        (some h)
      else
        (bn (gI h a1 10 11) fun x85 =>
        if a2 < x85 then
          (bn (gR h a0 5 5) fun x87 =>
          bn (sI h 100 x87 a2 (0 : Int32)) fun h89 =>
          bn (rc a0 a1 (a2 + (1 : Int32)) a3 h89) fun h92 =>
          bd (lp (B_pl_search_102 rc a0 a1 a2 a3) FU (1 : Int32) h92) fun x128 h130 =>
          some h130)
        else
          (bn (pI h a0 5 0 a3) fun h131 =>
          bn (gR h131 a0 5 5) fun x133 =>
          bn (gR h131 a0 5 7) fun x135 =>
          bn (gR h131 a0 5 7) fun x137 =>
          bn (aN h131 x137) fun x139 =>
          bn (cpI h131 x133 (0 : Int32) x135 (0 : Int32) x139) fun h141 =>
          bn (gR h141 a0 5 6) fun x143 =>
          bn (gR h141 a0 5 8) fun x145 =>
          bn (gR h141 a0 5 8) fun x147 =>
          bn (aN h141 x147) fun x149 =>
          bn (cpI h141 x143 (0 : Int32) x145 (0 : Int32) x149) fun h151 =>
          some h151)))
    else
      (some h)))
set_option maxRecDepth 20000 in
theorem KG_pl_search {rc : Nat → Nat → Int32 → Int32 → Hp → Option Hp} {a0 : Nat} {a1 : Nat} {a2 : Int32} {a3 : Int32} {h : Hp} {h' : Hp} (hS : G_pl_search rc a0 a1 a2 a3 h = some h') : kd h a0 = 5 := by
  unfold G_pl_search at hS
  exact (ck_s hS).1
set_option maxRecDepth 20000 in
theorem RG_pl_search (d : Nat) (hd : 4 ≤ d) {rc : Nat → Nat → Int32 → Int32 → Hp → Option Hp} (hrc : ∀ {a0 a1 : Nat} {a2 a3 : Int32} {h h' : Hp}, rc a0 a1 a2 a3 h = some h' → kd h a0 = 5 ∧ Ev P (d - 1) 114 (0, [.ref a0, .ref a1, .int a2, .int a3, unk, unk, unk], [], h) (none, h')) {a0 : Nat} {a1 : Nat} {a2 : Int32} {a3 : Int32} {h : Hp} {h' : Hp} (hS : G_pl_search rc a0 a1 a2 a3 h = some h') : Ev P d 114 (0, [.ref a0, .ref a1, .int a2, .int a3, unk, unk, unk], [], h) (none, h') := by
  unfold G_pl_search at hS
  replace hS := (ck_s hS).2
  refine ev_aload_n pm114 i114_0 rfl rfl rfl ?_
  obtain ⟨x1, e2, hS⟩ := bn_s hS
  refine ev_getI pm114 i114_1 rfl rfl (by decide) e2 rfl ?_
  by_cases c292 : x1 < (0 : Int32)
  · rw [if_pos c292] at hS
    refine ev_if_lt_t (t := 15) pm114 i114_4 rfl c292 rfl rfl ?_
    refine ev_aload_n pm114 i114_15 rfl rfl rfl ?_
    refine ev_aload_n pm114 i114_16 rfl rfl rfl ?_
    obtain ⟨x3, e4, hS⟩ := bn_s hS
    refine ev_getI pm114 i114_17 rfl rfl (by decide) e4 rfl ?_
    obtain ⟨x6, e5, hS⟩ := bn_s hS
    refine ev_callV (sa := [.int x3]) (rest := []) (st' := [.int x6]) (ls0 := [.ref a0, .int x3, unk, unk]) (rv := some (.int x6)) pm114 i114_20 rfl rfl pm115 (by decide) (K_pl_lackingRafts e5) rfl rfl (Nat.le_of_ble_eq_true rfl) (by omega) rfl (R_pl_lackingRafts (d - 1) (by omega) e5) (by simp) rfl rfl ?_
    refine ev_aload_n pm114 i114_23 rfl rfl rfl ?_
    obtain ⟨x7, e8, hS⟩ := bn_s hS
    refine ev_getI pm114 i114_24 rfl rfl (by decide) e8 rfl ?_
    refine ev_iload_n pm114 i114_27 rfl rfl rfl ?_
    refine ev_b2 (f := fun x y => x - y) pm114 i114_28 rfl (fun _ _ _ _ => rfl) rfl ?_
    by_cases c293 : (x7 - a2) < x6
    · rw [if_pos c293] at hS
      refine ev_icmp_le_t (t := 33) pm114 i114_29 rfl c293 rfl rfl ?_
      refine ev_kls (ls' := [unk, unk, unk, unk, unk, unk, unk]) pm114 i114_32 rfl rfl ?_
      cases hS
      exact ev_return pm114 i114_32 rfl rfl rfl
    · rw [if_neg c293] at hS
      refine ev_icmp_le_f (t := 33) pm114 i114_29 rfl c293 rfl rfl ?_
      refine ev_iload_n pm114 i114_33 rfl rfl rfl ?_
      refine ev_aload_n pm114 i114_34 rfl rfl rfl ?_
      obtain ⟨x9, e10, hS⟩ := bn_s hS
      refine ev_getI pm114 i114_35 rfl rfl (by decide) e10 rfl ?_
      by_cases c294 : a2 < x9
      · rw [if_pos c294] at hS
        refine ev_icmp_lt_t (t := 83) pm114 i114_38 rfl c294 rfl rfl ?_
        refine ev_aload_n pm114 i114_83 rfl rfl rfl ?_
        obtain ⟨x11, e12, hS⟩ := bn_s hS
        refine ev_getR pm114 i114_84 rfl rfl rfl e12 rfl ?_
        refine ev_iload_n pm114 i114_87 rfl rfl rfl ?_
        refine ev_iconst (v := 0) pm114 i114_88 rfl (by decide) rfl ?_
        obtain ⟨h13, e14, hS⟩ := bn_s hS
        refine ev_iast pm114 i114_89 rfl e14 rfl ?_
        refine ev_aload_n pm114 i114_90 rfl rfl rfl ?_
        refine ev_aload_n pm114 i114_91 rfl rfl rfl ?_
        refine ev_iload_n pm114 i114_92 rfl rfl rfl ?_
        refine ev_iconst (v := 1) pm114 i114_93 rfl (by decide) rfl ?_
        refine ev_b2 (f := fun x y => x + y) pm114 i114_94 rfl (fun _ _ _ _ => rfl) rfl ?_
        refine ev_iload_n pm114 i114_95 rfl rfl rfl ?_
        obtain ⟨h16, e15, hS⟩ := bn_s hS
        refine ev_callV (sa := [.int a3, .int (a2 + (1 : Int32)), .ref a1]) (rest := []) (st' := []) (ls0 := [.ref a0, .ref a1, .int (a2 + (1 : Int32)), .int a3, unk, unk, unk]) (rv := none) pm114 i114_96 rfl rfl pm114 (by decide) ((hrc e15).1) rfl rfl (Nat.le_of_ble_eq_true rfl) (by omega) rfl ((hrc e15).2) (by simp) rfl rfl ?_
        refine ev_iconst (v := 1) pm114 i114_99 rfl (by decide) rfl ?_
        refine ev_istore (ls' := [.ref a0, .ref a1, .int a2, .int a3, .int (1 : Int32), unk, unk]) pm114 i114_100 rfl (Nat.le_of_ble_eq_true rfl) rfl rfl ?_
        obtain ⟨x52, h54, e53, hS⟩ := bd_s hS
        refine L_pl_search_102 d (by omega) (fun hq => hrc hq) _ _ _ _ _ e53 _ ?_
        show Ev P d 114 (212, [unk, unk, unk, unk, unk, unk, unk], [], h54) _
        cases hS
        exact ev_return pm114 i114_212 rfl rfl rfl
      · rw [if_neg c294] at hS
        refine ev_icmp_lt_f (t := 83) pm114 i114_38 rfl c294 rfl rfl ?_
        refine ev_aload_n pm114 i114_41 rfl rfl rfl ?_
        refine ev_iload_n pm114 i114_42 rfl rfl rfl ?_
        obtain ⟨h55, e56, hS⟩ := bn_s hS
        refine ev_putI pm114 i114_43 rfl rfl rfl e56 rfl ?_
        refine ev_aload_n pm114 i114_46 rfl rfl rfl ?_
        obtain ⟨x57, e58, hS⟩ := bn_s hS
        refine ev_getR pm114 i114_47 rfl rfl rfl e58 rfl ?_
        refine ev_iconst (v := 0) pm114 i114_50 rfl (by decide) rfl ?_
        refine ev_aload_n pm114 i114_51 rfl rfl rfl ?_
        obtain ⟨x59, e60, hS⟩ := bn_s hS
        refine ev_getR pm114 i114_52 rfl rfl rfl e60 rfl ?_
        refine ev_iconst (v := 0) pm114 i114_55 rfl (by decide) rfl ?_
        refine ev_aload_n pm114 i114_56 rfl rfl rfl ?_
        obtain ⟨x61, e62, hS⟩ := bn_s hS
        refine ev_getR pm114 i114_57 rfl rfl rfl e62 rfl ?_
        obtain ⟨x63, e64, hS⟩ := bn_s hS
        refine ev_alen pm114 i114_60 rfl e64 rfl ?_
        obtain ⟨h65, e66, hS⟩ := bn_s hS
        refine ev_copy pm114 i114_61 rfl rfl (Nat.le_of_ble_eq_true rfl) e66 rfl ?_
        refine ev_aload_n pm114 i114_64 rfl rfl rfl ?_
        obtain ⟨x67, e68, hS⟩ := bn_s hS
        refine ev_getR pm114 i114_65 rfl rfl rfl e68 rfl ?_
        refine ev_iconst (v := 0) pm114 i114_68 rfl (by decide) rfl ?_
        refine ev_aload_n pm114 i114_69 rfl rfl rfl ?_
        obtain ⟨x69, e70, hS⟩ := bn_s hS
        refine ev_getR pm114 i114_70 rfl rfl rfl e70 rfl ?_
        refine ev_iconst (v := 0) pm114 i114_73 rfl (by decide) rfl ?_
        refine ev_aload_n pm114 i114_74 rfl rfl rfl ?_
        obtain ⟨x71, e72, hS⟩ := bn_s hS
        refine ev_getR pm114 i114_75 rfl rfl rfl e72 rfl ?_
        obtain ⟨x73, e74, hS⟩ := bn_s hS
        refine ev_alen pm114 i114_78 rfl e74 rfl ?_
        obtain ⟨h75, e76, hS⟩ := bn_s hS
        refine ev_copy pm114 i114_79 rfl rfl (Nat.le_of_ble_eq_true rfl) e76 rfl ?_
        cases hS
        exact ev_return pm114 i114_82 rfl rfl rfl
  · rw [if_neg c292] at hS
    refine ev_if_lt_f (t := 15) pm114 i114_4 rfl c292 rfl rfl ?_
    refine ev_iload_n pm114 i114_7 rfl rfl rfl ?_
    refine ev_aload_n pm114 i114_8 rfl rfl rfl ?_
    obtain ⟨x77, e78, hS⟩ := bn_s hS
    refine ev_getI pm114 i114_9 rfl rfl (by decide) e78 rfl ?_
    by_cases c295 : a3 < x77
    · rw [if_pos c295] at hS
      refine ev_icmp_ge_t (t := 32) pm114 i114_12 rfl c295 rfl rfl ?_
      refine ev_aload_n pm114 i114_15 rfl rfl rfl ?_
      refine ev_aload_n pm114 i114_16 rfl rfl rfl ?_
      obtain ⟨x79, e80, hS⟩ := bn_s hS
      refine ev_getI pm114 i114_17 rfl rfl (by decide) e80 rfl ?_
      obtain ⟨x82, e81, hS⟩ := bn_s hS
      refine ev_callV (sa := [.int x79]) (rest := []) (st' := [.int x82]) (ls0 := [.ref a0, .int x79, unk, unk]) (rv := some (.int x82)) pm114 i114_20 rfl rfl pm115 (by decide) (K_pl_lackingRafts e81) rfl rfl (Nat.le_of_ble_eq_true rfl) (by omega) rfl (R_pl_lackingRafts (d - 1) (by omega) e81) (by simp) rfl rfl ?_
      refine ev_aload_n pm114 i114_23 rfl rfl rfl ?_
      obtain ⟨x83, e84, hS⟩ := bn_s hS
      refine ev_getI pm114 i114_24 rfl rfl (by decide) e84 rfl ?_
      refine ev_iload_n pm114 i114_27 rfl rfl rfl ?_
      refine ev_b2 (f := fun x y => x - y) pm114 i114_28 rfl (fun _ _ _ _ => rfl) rfl ?_
      by_cases c296 : (x83 - a2) < x82
      · rw [if_pos c296] at hS
        refine ev_icmp_le_t (t := 33) pm114 i114_29 rfl c296 rfl rfl ?_
        refine ev_kls (ls' := [unk, unk, unk, unk, unk, unk, unk]) pm114 i114_32 rfl rfl ?_
        cases hS
        exact ev_return pm114 i114_32 rfl rfl rfl
      · rw [if_neg c296] at hS
        refine ev_icmp_le_f (t := 33) pm114 i114_29 rfl c296 rfl rfl ?_
        refine ev_iload_n pm114 i114_33 rfl rfl rfl ?_
        refine ev_aload_n pm114 i114_34 rfl rfl rfl ?_
        obtain ⟨x85, e86, hS⟩ := bn_s hS
        refine ev_getI pm114 i114_35 rfl rfl (by decide) e86 rfl ?_
        by_cases c297 : a2 < x85
        · rw [if_pos c297] at hS
          refine ev_icmp_lt_t (t := 83) pm114 i114_38 rfl c297 rfl rfl ?_
          refine ev_aload_n pm114 i114_83 rfl rfl rfl ?_
          obtain ⟨x87, e88, hS⟩ := bn_s hS
          refine ev_getR pm114 i114_84 rfl rfl rfl e88 rfl ?_
          refine ev_iload_n pm114 i114_87 rfl rfl rfl ?_
          refine ev_iconst (v := 0) pm114 i114_88 rfl (by decide) rfl ?_
          obtain ⟨h89, e90, hS⟩ := bn_s hS
          refine ev_iast pm114 i114_89 rfl e90 rfl ?_
          refine ev_aload_n pm114 i114_90 rfl rfl rfl ?_
          refine ev_aload_n pm114 i114_91 rfl rfl rfl ?_
          refine ev_iload_n pm114 i114_92 rfl rfl rfl ?_
          refine ev_iconst (v := 1) pm114 i114_93 rfl (by decide) rfl ?_
          refine ev_b2 (f := fun x y => x + y) pm114 i114_94 rfl (fun _ _ _ _ => rfl) rfl ?_
          refine ev_iload_n pm114 i114_95 rfl rfl rfl ?_
          obtain ⟨h92, e91, hS⟩ := bn_s hS
          refine ev_callV (sa := [.int a3, .int (a2 + (1 : Int32)), .ref a1]) (rest := []) (st' := []) (ls0 := [.ref a0, .ref a1, .int (a2 + (1 : Int32)), .int a3, unk, unk, unk]) (rv := none) pm114 i114_96 rfl rfl pm114 (by decide) ((hrc e91).1) rfl rfl (Nat.le_of_ble_eq_true rfl) (by omega) rfl ((hrc e91).2) (by simp) rfl rfl ?_
          refine ev_iconst (v := 1) pm114 i114_99 rfl (by decide) rfl ?_
          refine ev_istore (ls' := [.ref a0, .ref a1, .int a2, .int a3, .int (1 : Int32), unk, unk]) pm114 i114_100 rfl (Nat.le_of_ble_eq_true rfl) rfl rfl ?_
          obtain ⟨x128, h130, e129, hS⟩ := bd_s hS
          refine L_pl_search_102 d (by omega) (fun hq => hrc hq) _ _ _ _ _ e129 _ ?_
          show Ev P d 114 (212, [unk, unk, unk, unk, unk, unk, unk], [], h130) _
          cases hS
          exact ev_return pm114 i114_212 rfl rfl rfl
        · rw [if_neg c297] at hS
          refine ev_icmp_lt_f (t := 83) pm114 i114_38 rfl c297 rfl rfl ?_
          refine ev_aload_n pm114 i114_41 rfl rfl rfl ?_
          refine ev_iload_n pm114 i114_42 rfl rfl rfl ?_
          obtain ⟨h131, e132, hS⟩ := bn_s hS
          refine ev_putI pm114 i114_43 rfl rfl rfl e132 rfl ?_
          refine ev_aload_n pm114 i114_46 rfl rfl rfl ?_
          obtain ⟨x133, e134, hS⟩ := bn_s hS
          refine ev_getR pm114 i114_47 rfl rfl rfl e134 rfl ?_
          refine ev_iconst (v := 0) pm114 i114_50 rfl (by decide) rfl ?_
          refine ev_aload_n pm114 i114_51 rfl rfl rfl ?_
          obtain ⟨x135, e136, hS⟩ := bn_s hS
          refine ev_getR pm114 i114_52 rfl rfl rfl e136 rfl ?_
          refine ev_iconst (v := 0) pm114 i114_55 rfl (by decide) rfl ?_
          refine ev_aload_n pm114 i114_56 rfl rfl rfl ?_
          obtain ⟨x137, e138, hS⟩ := bn_s hS
          refine ev_getR pm114 i114_57 rfl rfl rfl e138 rfl ?_
          obtain ⟨x139, e140, hS⟩ := bn_s hS
          refine ev_alen pm114 i114_60 rfl e140 rfl ?_
          obtain ⟨h141, e142, hS⟩ := bn_s hS
          refine ev_copy pm114 i114_61 rfl rfl (Nat.le_of_ble_eq_true rfl) e142 rfl ?_
          refine ev_aload_n pm114 i114_64 rfl rfl rfl ?_
          obtain ⟨x143, e144, hS⟩ := bn_s hS
          refine ev_getR pm114 i114_65 rfl rfl rfl e144 rfl ?_
          refine ev_iconst (v := 0) pm114 i114_68 rfl (by decide) rfl ?_
          refine ev_aload_n pm114 i114_69 rfl rfl rfl ?_
          obtain ⟨x145, e146, hS⟩ := bn_s hS
          refine ev_getR pm114 i114_70 rfl rfl rfl e146 rfl ?_
          refine ev_iconst (v := 0) pm114 i114_73 rfl (by decide) rfl ?_
          refine ev_aload_n pm114 i114_74 rfl rfl rfl ?_
          obtain ⟨x147, e148, hS⟩ := bn_s hS
          refine ev_getR pm114 i114_75 rfl rfl rfl e148 rfl ?_
          obtain ⟨x149, e150, hS⟩ := bn_s hS
          refine ev_alen pm114 i114_78 rfl e150 rfl ?_
          obtain ⟨h151, e152, hS⟩ := bn_s hS
          refine ev_copy pm114 i114_79 rfl rfl (Nat.le_of_ble_eq_true rfl) e152 rfl ?_
          cases hS
          exact ev_return pm114 i114_82 rfl rfl rfl
    · rw [if_neg c295] at hS
      refine ev_icmp_ge_f (t := 32) pm114 i114_12 rfl c295 rfl rfl ?_
      refine ev_kls (ls' := [unk, unk, unk, unk, unk, unk, unk]) pm114 i114_32 rfl rfl ?_
      cases hS
      exact ev_return pm114 i114_32 rfl rfl rfl
def F_pl_search : Nat → Nat → Nat → Int32 → Int32 → Hp → Option Hp
  | 0 => fun _ _ _ _ _ => none
  | n + 1 => G_pl_search (F_pl_search n)
theorem K_pl_search' (n : Nat) {a0 a1 : Nat} {a2 a3 : Int32} {h h' : Hp} (hS : F_pl_search n a0 a1 a2 a3 h = some h') : kd h a0 = 5 := by
  cases n with
  | zero => cases hS
  | succ n => exact KG_pl_search hS
theorem R_pl_search' (n : Nat) : ∀ (d : Nat) (hd : n + 4 ≤ d) {a0 a1 : Nat} {a2 a3 : Int32} {h h' : Hp} (hS : F_pl_search n a0 a1 a2 a3 h = some h'), Ev P d 114 (0, [.ref a0, .ref a1, .int a2, .int a3, unk, unk, unk], [], h) (none, h') := by
  induction n with
  | zero => intro d hd a0 a1 a2 a3 h h' hS; cases hS
  | succ n ih => exact fun d hd {a0 a1 a2 a3 h h'} hS => RG_pl_search d (by omega) (fun hq => ⟨K_pl_search' n hq, ih (d - 1) (by omega) hq⟩) hS
theorem K_pl_search {a0 a1 : Nat} {a2 a3 : Int32} {h h' : Hp} (hS : F_pl_search 6 a0 a1 a2 a3 h = some h') : kd h a0 = 5 := K_pl_search' 6 hS
theorem R_pl_search (d : Nat) (hd : 6 + 4 ≤ d) {a0 a1 : Nat} {a2 a3 : Int32} {h h' : Hp} (hS : F_pl_search 6 a0 a1 a2 a3 h = some h') : Ev P d 114 (0, [.ref a0, .ref a1, .int a2, .int a3, unk, unk, unk], [], h) (none, h') := R_pl_search' 6 d hd hS
def B_pl_find_14 (l0 : Nat) (l1 : Nat) (l2 : Nat) (l4 : Int32) (s : Int32) (h : Hp) : Option (((Int32) ⊕ (Unit)) × Hp) :=
  bn (gR h l0 5 4) fun x5 =>
  bn (aN h x5) fun x7 =>
  if s < x7 then
    (bn (gR h l0 5 4) fun x9 =>
    bn (sI h 100 x9 s (0 : Int32)) fun h11 =>
    some (.inl (s + (1 : Int32)), h11))
  else
    (some (.inr (), h))
set_option maxRecDepth 20000 in
theorem L_pl_find_14 (d : Nat) (hd : 11 ≤ d) {l0 : Nat} {l1 : Nat} {l2 : Nat} {l4 : Int32} : ∀ (n : Nat) (s : Int32) (h : Hp) (x : Unit) (hx : Hp), lp (B_pl_find_14 l0 l1 l2 l4) n s h = some (x, hx) → ∀ r, Ev P d 110 (38, [.ref l0, .ref l1, .ref l2, unk, .int l4, unk], [], hx) r → Ev P d 110 (14, [.ref l0, .ref l1, .ref l2, unk, .int l4, .int s], [], h) r := by
  refine lp_ev (G0 := fun (s : Int32) h r => Ev P d 110 (14, [.ref l0, .ref l1, .ref l2, unk, .int l4, .int s], [], h) r) (X := fun (x : Unit) hx r => Ev P d 110 (38, [.ref l0, .ref l1, .ref l2, unk, .int l4, unk], [], hx) r) ?_
  intro s h y h9 hS r hK
  unfold B_pl_find_14 at hS
  show Ev P d 110 (14, [.ref l0, .ref l1, .ref l2, unk, .int l4, .int s], [], h) r
  refine ev_iload pm110 i110_14 rfl rfl rfl ?_
  refine ev_aload_n pm110 i110_16 rfl rfl rfl ?_
  obtain ⟨x5, e6, hS⟩ := bn_s hS
  refine ev_getR pm110 i110_17 rfl rfl rfl e6 rfl ?_
  obtain ⟨x7, e8, hS⟩ := bn_s hS
  refine ev_alen pm110 i110_20 rfl e8 rfl ?_
  by_cases c298 : s < x7
  · rw [if_pos c298] at hS
    refine ev_icmp_ge_t (t := 38) pm110 i110_21 rfl c298 rfl rfl ?_
    refine ev_aload_n pm110 i110_24 rfl rfl rfl ?_
    obtain ⟨x9, e10, hS⟩ := bn_s hS
    refine ev_getR pm110 i110_25 rfl rfl rfl e10 rfl ?_
    refine ev_iload pm110 i110_28 rfl rfl rfl ?_
    refine ev_iconst (v := 0) pm110 i110_30 rfl (by decide) rfl ?_
    obtain ⟨h11, e12, hS⟩ := bn_s hS
    refine ev_iast pm110 i110_31 rfl e12 rfl ?_
    refine ev_iinc (v := 1) (ls' := [.ref l0, .ref l1, .ref l2, unk, .int l4, .int (s + (1 : Int32))]) pm110 i110_32 rfl rfl (by decide) rfl rfl ?_
    refine ev_goto (t := 14) pm110 i110_35 rfl rfl ?_
    cases hS
    exact hK
  · rw [if_neg c298] at hS
    refine ev_icmp_ge_f (t := 38) pm110 i110_21 rfl c298 rfl rfl ?_
    refine ev_kls (ls' := [.ref l0, .ref l1, .ref l2, unk, .int l4, unk]) pm110 i110_38 rfl rfl ?_
    cases hS
    exact hK
def B_pl_find_49 (l0 : Nat) (l1 : Nat) (l4 : Int32) (s : Int32) (h : Hp) : Option (((Int32) ⊕ (Unit)) × Hp) :=
  if s < (4 : Int32) then
    (bn (gR h l0 5 1) fun x20 =>
    bn (gR h l0 5 2) fun x22 =>
    bn (F_ra_measure x20 l1 x22 h) fun h25 =>
    bn (if s = (0 : Int32) then
        (bn (F_pl_noteHouses l0 l1 h25) fun h27 =>
        some h27)
      else
        (some h25)) fun h29 =>
    bn (if l4 = (0 : Int32) then
        (some h29)
      else
        (bn (F_pl_noteFeasts l0 l1 s h29) fun h31 =>
        some h31)) fun h33 =>
    bn (gR h33 l0 5 2) fun x34 =>
    bn (F_st_soften x34 h33) fun h37 =>
    some (.inl (s + (1 : Int32)), h37))
  else
    (some (.inr (), h))
set_option maxRecDepth 20000 in
theorem L_pl_find_49 (d : Nat) (hd : 11 ≤ d) {l0 : Nat} {l1 : Nat} {l4 : Int32} : ∀ (n : Nat) (s : Int32) (h : Hp) (x : Unit) (hx : Hp), lp (B_pl_find_49 l0 l1 l4) n s h = some (x, hx) → ∀ r, Ev P d 110 (102, [.ref l0, .ref l1, unk, unk, unk, unk], [], hx) r → Ev P d 110 (49, [.ref l0, .ref l1, unk, unk, .int l4, .int s], [], h) r := by
  refine lp_ev (G0 := fun (s : Int32) h r => Ev P d 110 (49, [.ref l0, .ref l1, unk, unk, .int l4, .int s], [], h) r) (X := fun (x : Unit) hx r => Ev P d 110 (102, [.ref l0, .ref l1, unk, unk, unk, unk], [], hx) r) ?_
  intro s h y h9 hS r hK
  unfold B_pl_find_49 at hS
  show Ev P d 110 (49, [.ref l0, .ref l1, unk, unk, .int l4, .int s], [], h) r
  refine ev_iload pm110 i110_49 rfl rfl rfl ?_
  refine ev_iconst (v := 4) pm110 i110_51 rfl (by decide) rfl ?_
  by_cases c299 : s < (4 : Int32)
  · rw [if_pos c299] at hS
    refine ev_icmp_ge_t (t := 102) pm110 i110_52 rfl c299 rfl rfl ?_
    refine ev_aload_n pm110 i110_55 rfl rfl rfl ?_
    obtain ⟨x20, e21, hS⟩ := bn_s hS
    refine ev_getR pm110 i110_56 rfl rfl rfl e21 rfl ?_
    refine ev_aload_n pm110 i110_59 rfl rfl rfl ?_
    refine ev_aload_n pm110 i110_60 rfl rfl rfl ?_
    obtain ⟨x22, e23, hS⟩ := bn_s hS
    refine ev_getR pm110 i110_61 rfl rfl rfl e23 rfl ?_
    obtain ⟨h25, e24, hS⟩ := bn_s hS
    refine ev_callV (sa := [.ref x22, .ref l1]) (rest := []) (st' := []) (ls0 := [.ref x20, .ref l1, .ref x22]) (rv := none) pm110 i110_64 rfl rfl pm64 (by decide) (K_ra_measure e24) rfl rfl (Nat.le_of_ble_eq_true rfl) (by omega) rfl (R_ra_measure (d - 1) (by omega) e24) (by simp) rfl rfl ?_
    refine ev_iload pm110 i110_67 rfl rfl rfl ?_
    obtain ⟨h29, I300, hS⟩ := bn_s hS
    have J1 : Ev P d 110 (77, [.ref l0, .ref l1, unk, unk, .int l4, .int s], [], h29) r := by
      refine ev_iload pm110 i110_77 rfl rfl rfl ?_
      obtain ⟨h33, I301, hS⟩ := bn_s hS
      have J2 : Ev P d 110 (89, [.ref l0, .ref l1, unk, unk, .int l4, .int s], [], h33) r := by
        refine ev_aload_n pm110 i110_89 rfl rfl rfl ?_
        obtain ⟨x34, e35, hS⟩ := bn_s hS
        refine ev_getR pm110 i110_90 rfl rfl rfl e35 rfl ?_
        obtain ⟨h37, e36, hS⟩ := bn_s hS
        refine ev_callV (sa := []) (rest := []) (st' := []) (ls0 := [.ref x34, unk]) (rv := none) pm110 i110_93 rfl rfl pm97 (by decide) (K_st_soften e36) rfl rfl (Nat.le_of_ble_eq_true rfl) (by omega) rfl (R_st_soften (d - 1) (by omega) e36) (by simp) rfl rfl ?_
        refine ev_iinc (v := 1) (ls' := [.ref l0, .ref l1, unk, unk, .int l4, .int (s + (1 : Int32))]) pm110 i110_96 rfl rfl (by decide) rfl rfl ?_
        refine ev_goto (t := 49) pm110 i110_99 rfl rfl ?_
        cases hS
        exact hK
      clear hS
      by_cases c301 : l4 = (0 : Int32)
      · rw [if_pos c301] at I301
        refine ev_if_eq_t (t := 89) pm110 i110_79 rfl c301 rfl rfl ?_
        cases I301
        exact J2
      · rw [if_neg c301] at I301
        refine ev_if_eq_f (t := 89) pm110 i110_79 rfl c301 rfl rfl ?_
        refine ev_aload_n pm110 i110_82 rfl rfl rfl ?_
        refine ev_aload_n pm110 i110_83 rfl rfl rfl ?_
        refine ev_iload pm110 i110_84 rfl rfl rfl ?_
        obtain ⟨h31, e30, I301⟩ := bn_s I301
        refine ev_callV (sa := [.int s, .ref l1]) (rest := []) (st' := []) (ls0 := [.ref l0, .ref l1, .int s, unk]) (rv := none) pm110 i110_86 rfl rfl pm113 (by decide) (K_pl_noteFeasts e30) rfl rfl (Nat.le_of_ble_eq_true rfl) (by omega) rfl (R_pl_noteFeasts (d - 1) (by omega) e30) (by simp) rfl rfl ?_
        cases I301
        exact J2
    clear hS
    by_cases c300 : s = (0 : Int32)
    · rw [if_pos c300] at I300
      refine ev_if_ne_t (t := 77) pm110 i110_69 rfl c300 rfl rfl ?_
      refine ev_aload_n pm110 i110_72 rfl rfl rfl ?_
      refine ev_aload_n pm110 i110_73 rfl rfl rfl ?_
      obtain ⟨h27, e26, I300⟩ := bn_s I300
      refine ev_callV (sa := [.ref l1]) (rest := []) (st' := []) (ls0 := [.ref l0, .ref l1, unk]) (rv := none) pm110 i110_74 rfl rfl pm111 (by decide) (K_pl_noteHouses e26) rfl rfl (Nat.le_of_ble_eq_true rfl) (by omega) rfl (R_pl_noteHouses (d - 1) (by omega) e26) (by simp) rfl rfl ?_
      cases I300
      exact J1
    · rw [if_neg c300] at I300
      refine ev_if_ne_f (t := 77) pm110 i110_69 rfl c300 rfl rfl ?_
      cases I300
      exact J1
  · rw [if_neg c299] at hS
    refine ev_icmp_ge_f (t := 102) pm110 i110_52 rfl c299 rfl rfl ?_
    refine ev_kls (ls' := [.ref l0, .ref l1, unk, unk, unk, unk]) pm110 i110_102 rfl rfl ?_
    cases hS
    exact hK
def F_pl_find (a0 : Nat) (a1 : Nat) (a2 : Nat) (a3 : Int32) (a4 : Int32) (h : Hp) : Option Hp :=
  ck h a0 5 (bn (pI h a0 5 3 a3) fun h1 =>
  bn (pI h1 a0 5 0 (-2 : Int32)) fun h3 =>
  bd (lp (B_pl_find_14 a0 a1 a2 a4) FU (0 : Int32) h3) fun x13 h15 =>
  bn (gR h15 a0 5 2) fun x16 =>
  bn (F_st_copyFrom x16 a2 h15) fun h19 =>
  bd (lp (B_pl_find_49 a0 a1 a4) FU (0 : Int32) h19) fun x38 h40 =>
  bn (F_pl_search 6 a0 a1 (0 : Int32) (0 : Int32) h40) fun h42 =>
  some h42)
set_option maxRecDepth 20000 in
theorem K_pl_find {a0 : Nat} {a1 : Nat} {a2 : Nat} {a3 : Int32} {a4 : Int32} {h : Hp} {h' : Hp} (hS : F_pl_find a0 a1 a2 a3 a4 h = some h') : kd h a0 = 5 := by
  unfold F_pl_find at hS
  exact (ck_s hS).1
set_option maxRecDepth 20000 in
theorem R_pl_find (d : Nat) (hd : 11 ≤ d) {a0 : Nat} {a1 : Nat} {a2 : Nat} {a3 : Int32} {a4 : Int32} {h : Hp} {h' : Hp} (hS : F_pl_find a0 a1 a2 a3 a4 h = some h') : Ev P d 110 (0, [.ref a0, .ref a1, .ref a2, .int a3, .int a4, unk], [], h) (none, h') := by
  unfold F_pl_find at hS
  replace hS := (ck_s hS).2
  refine ev_aload_n pm110 i110_0 rfl rfl rfl ?_
  refine ev_iload_n pm110 i110_1 rfl rfl rfl ?_
  obtain ⟨h1, e2, hS⟩ := bn_s hS
  refine ev_putI pm110 i110_2 rfl rfl rfl e2 rfl ?_
  refine ev_aload_n pm110 i110_5 rfl rfl rfl ?_
  refine ev_bipush (v := -2) pm110 i110_6 rfl (by decide) rfl ?_
  obtain ⟨h3, e4, hS⟩ := bn_s hS
  refine ev_putI pm110 i110_8 rfl rfl rfl e4 rfl ?_
  refine ev_iconst (v := 0) pm110 i110_11 rfl (by decide) rfl ?_
  refine ev_istore (ls' := [.ref a0, .ref a1, .ref a2, .int a3, .int a4, .int (0 : Int32)]) pm110 i110_12 rfl (Nat.le_of_ble_eq_true rfl) rfl rfl ?_
  refine ev_kls (ls' := [.ref a0, .ref a1, .ref a2, unk, .int a4, .int (0 : Int32)]) pm110 i110_14 rfl rfl ?_
  obtain ⟨x13, h15, e14, hS⟩ := bd_s hS
  refine L_pl_find_14 d (by omega) _ _ _ _ _ e14 _ ?_
  show Ev P d 110 (38, [.ref a0, .ref a1, .ref a2, unk, .int a4, unk], [], h15) _
  refine ev_aload_n pm110 i110_38 rfl rfl rfl ?_
  obtain ⟨x16, e17, hS⟩ := bn_s hS
  refine ev_getR pm110 i110_39 rfl rfl rfl e17 rfl ?_
  refine ev_aload_n pm110 i110_42 rfl rfl rfl ?_
  obtain ⟨h19, e18, hS⟩ := bn_s hS
  refine ev_callV (sa := [.ref a2]) (rest := []) (st' := []) (ls0 := [.ref x16, .ref a2]) (rv := none) pm110 i110_43 rfl rfl pm96 (by decide) (K_st_copyFrom e18) rfl rfl (Nat.le_of_ble_eq_true rfl) (by omega) rfl (R_st_copyFrom (d - 1) (by omega) e18) (by simp) rfl rfl ?_
  refine ev_iconst (v := 0) pm110 i110_46 rfl (by decide) rfl ?_
  refine ev_istore (ls' := [.ref a0, .ref a1, .ref a2, unk, .int a4, .int (0 : Int32)]) pm110 i110_47 rfl (Nat.le_of_ble_eq_true rfl) rfl rfl ?_
  refine ev_kls (ls' := [.ref a0, .ref a1, unk, unk, .int a4, .int (0 : Int32)]) pm110 i110_49 rfl rfl ?_
  obtain ⟨x38, h40, e39, hS⟩ := bd_s hS
  refine L_pl_find_49 d (by omega) _ _ _ _ _ e39 _ ?_
  show Ev P d 110 (102, [.ref a0, .ref a1, unk, unk, unk, unk], [], h40) _
  refine ev_aload_n pm110 i110_102 rfl rfl rfl ?_
  refine ev_aload_n pm110 i110_103 rfl rfl rfl ?_
  refine ev_iconst (v := 0) pm110 i110_104 rfl (by decide) rfl ?_
  refine ev_iconst (v := 0) pm110 i110_105 rfl (by decide) rfl ?_
  obtain ⟨h42, e41, hS⟩ := bn_s hS
  refine ev_callV (sa := [.int (0 : Int32), .int (0 : Int32), .ref a1]) (rest := []) (st' := []) (ls0 := [.ref a0, .ref a1, .int (0 : Int32), .int (0 : Int32), unk, unk, unk]) (rv := none) pm110 i110_106 rfl rfl pm114 (by decide) (K_pl_search e41) rfl rfl (Nat.le_of_ble_eq_true rfl) (by omega) rfl (R_pl_search (d - 1) (by omega) e41) (by simp) rfl rfl ?_
  cases hS
  exact ev_return pm110 i110_109 rfl rfl rfl
def F_cs_plan (a0 : Nat) (a1 : Int32) (h : Hp) : Option (Int32 × Hp) :=
  ck h a0 11 (bn (F_cs_noLake a0 h) fun x2 =>
  bn (F_cs_outside a1 (1 : Int32) (4 : Int32)) fun x4 =>
  bd (F_cs_refused a0 x2 x4 h) fun x6 h7 =>
  if x6 = (0 : Int32) then
    (bn (gR h7 a0 11 8) fun x8 =>
    bn (gR h7 a0 11 3) fun x10 =>
    bn (gR h7 a0 11 4) fun x12 =>
    bn (F_pl_find x8 x10 x12 a1 (0 : Int32) h7) fun h15 =>
    bn (gR h15 a0 11 8) fun x16 =>
    bn (gI h15 x16 5 0) fun x18 =>
    some (x18, h15))
  else
    (some ((-1 : Int32), h7)))
set_option maxRecDepth 20000 in
theorem K_cs_plan {a0 : Nat} {a1 : Int32} {h : Hp} {v : Int32} {h' : Hp} (hS : F_cs_plan a0 a1 h = some (v, h')) : kd h a0 = 11 := by
  unfold F_cs_plan at hS
  exact (ck_s hS).1
set_option maxRecDepth 20000 in
theorem R_cs_plan (d : Nat) (hd : 12 ≤ d) {a0 : Nat} {a1 : Int32} {h : Hp} {v : Int32} {h' : Hp} (hS : F_cs_plan a0 a1 h = some (v, h')) : Ev P d 109 (0, [.ref a0, .int a1], [], h) (some (.int v), h') := by
  unfold F_cs_plan at hS
  replace hS := (ck_s hS).2
  refine ev_aload_n pm109 i109_0 rfl rfl rfl ?_
  refine ev_aload_n pm109 i109_1 rfl rfl rfl ?_
  obtain ⟨x2, e1, hS⟩ := bn_s hS
  refine ev_callV (sa := []) (rest := [.ref a0]) (st' := [.int x2, .ref a0]) (ls0 := [.ref a0]) (rv := some (.int x2)) pm109 i109_2 rfl rfl pm86 (by decide) (K_cs_noLake e1) rfl rfl (Nat.le_of_ble_eq_true rfl) (by omega) rfl (R_cs_noLake (d - 1) (by omega) e1) (by simp) rfl rfl ?_
  refine ev_iload_n pm109 i109_5 rfl rfl rfl ?_
  refine ev_iconst (v := 1) pm109 i109_6 rfl (by decide) rfl ?_
  refine ev_iconst (v := 4) pm109 i109_7 rfl (by decide) rfl ?_
  obtain ⟨x4, e3, hS⟩ := bn_s hS
  refine ev_callS (sa := [.int (4 : Int32), .int (1 : Int32), .int a1]) (rest := [.int x2, .ref a0]) (st' := [.int x4, .int x2, .ref a0]) (ls0 := [.int a1, .int (1 : Int32), .int (4 : Int32)]) (rv := some (.int x4)) pm109 i109_8 rfl rfl pm17 (by decide) rfl rfl (Nat.le_of_ble_eq_true rfl) (by omega) rfl (R_cs_outside (d - 1) (by omega) e3) (by simp) rfl rfl ?_
  obtain ⟨x6, h7, e5, hS⟩ := bd_s hS
  refine ev_callV (sa := [.int x4, .int x2]) (rest := []) (st' := [.int x6]) (ls0 := [.ref a0, .int x2, .int x4]) (rv := some (.int x6)) pm109 i109_11 rfl rfl pm18 (by decide) (K_cs_refused e5) rfl rfl (Nat.le_of_ble_eq_true rfl) (by omega) rfl (R_cs_refused (d - 1) (by omega) e5) (by simp) rfl rfl ?_
  by_cases c302 : x6 = (0 : Int32)
  · rw [if_pos c302] at hS
    refine ev_if_eq_t (t := 19) pm109 i109_14 rfl c302 rfl rfl ?_
    refine ev_aload_n pm109 i109_19 rfl rfl rfl ?_
    obtain ⟨x8, e9, hS⟩ := bn_s hS
    refine ev_getR pm109 i109_20 rfl rfl rfl e9 rfl ?_
    refine ev_aload_n pm109 i109_23 rfl rfl rfl ?_
    obtain ⟨x10, e11, hS⟩ := bn_s hS
    refine ev_getR pm109 i109_24 rfl rfl rfl e11 rfl ?_
    refine ev_aload_n pm109 i109_27 rfl rfl rfl ?_
    obtain ⟨x12, e13, hS⟩ := bn_s hS
    refine ev_getR pm109 i109_28 rfl rfl rfl e13 rfl ?_
    refine ev_iload_n pm109 i109_31 rfl rfl rfl ?_
    refine ev_iconst (v := 0) pm109 i109_32 rfl (by decide) rfl ?_
    obtain ⟨h15, e14, hS⟩ := bn_s hS
    refine ev_callV (sa := [.int (0 : Int32), .int a1, .ref x12, .ref x10]) (rest := []) (st' := []) (ls0 := [.ref x8, .ref x10, .ref x12, .int a1, .int (0 : Int32), unk]) (rv := none) pm109 i109_33 rfl rfl pm110 (by decide) (K_pl_find e14) rfl rfl (Nat.le_of_ble_eq_true rfl) (by omega) rfl (R_pl_find (d - 1) (by omega) e14) (by simp) rfl rfl ?_
    refine ev_aload_n pm109 i109_36 rfl rfl rfl ?_
    obtain ⟨x16, e17, hS⟩ := bn_s hS
    refine ev_getR pm109 i109_37 rfl rfl rfl e17 rfl ?_
    obtain ⟨x18, e19, hS⟩ := bn_s hS
    refine ev_getI pm109 i109_40 rfl rfl (by decide) e19 rfl ?_
    cases hS
    exact ev_ireturn pm109 i109_43 rfl rfl rfl
  · rw [if_neg c302] at hS
    refine ev_if_eq_f (t := 19) pm109 i109_14 rfl c302 rfl rfl ?_
    refine ev_iconst (v := -1) pm109 i109_17 rfl (by decide) rfl ?_
    cases hS
    exact ev_ireturn pm109 i109_18 rfl rfl rfl
def F_cs_noDrinker (a0 : Nat) (a1 : Int32) (h : Hp) : Option Int32 :=
  ck h a0 11 (bn (gR h a0 11 3) fun x1 =>
  bn (gI h x1 10 11) fun x3 =>
  bn (F_cs_outside a1 (0 : Int32) (x3 - (1 : Int32))) fun x6 =>
  if retV .boolean x6 = true then
    (some x6)
  else
    (none))
set_option maxRecDepth 20000 in
theorem K_cs_noDrinker {a0 : Nat} {a1 : Int32} {h : Hp} {v : Int32} (hS : F_cs_noDrinker a0 a1 h = some v) : kd h a0 = 11 := by
  unfold F_cs_noDrinker at hS
  exact (ck_s hS).1
set_option maxRecDepth 20000 in
theorem R_cs_noDrinker (d : Nat) (hd : 1 ≤ d) {a0 : Nat} {a1 : Int32} {h : Hp} {v : Int32} (hS : F_cs_noDrinker a0 a1 h = some v) : Ev P d 120 (0, [.ref a0, .int a1], [], h) (some (.int v), h) := by
  unfold F_cs_noDrinker at hS
  replace hS := (ck_s hS).2
  refine ev_iload_n pm120 i120_0 rfl rfl rfl ?_
  refine ev_iconst (v := 0) pm120 i120_1 rfl (by decide) rfl ?_
  refine ev_aload_n pm120 i120_2 rfl rfl rfl ?_
  obtain ⟨x1, e2, hS⟩ := bn_s hS
  refine ev_getR pm120 i120_3 rfl rfl rfl e2 rfl ?_
  obtain ⟨x3, e4, hS⟩ := bn_s hS
  refine ev_getI pm120 i120_6 rfl rfl (by decide) e4 rfl ?_
  refine ev_iconst (v := 1) pm120 i120_9 rfl (by decide) rfl ?_
  refine ev_b2 (f := fun x y => x - y) pm120 i120_10 rfl (fun _ _ _ _ => rfl) rfl ?_
  obtain ⟨x6, e5, hS⟩ := bn_s hS
  refine ev_callS (sa := [.int (x3 - (1 : Int32)), .int (0 : Int32), .int a1]) (rest := []) (st' := [.int x6]) (ls0 := [.int a1, .int (0 : Int32), .int (x3 - (1 : Int32))]) (rv := some (.int x6)) pm120 i120_11 rfl rfl pm17 (by decide) rfl rfl (Nat.le_of_ble_eq_true rfl) (by omega) rfl (R_cs_outside (d - 1) (by omega) e5) (by simp) rfl rfl ?_
  by_cases c303 : retV .boolean x6 = true
  · rw [if_pos c303] at hS
    cases hS
    exact ev_ireturn pm120 i120_14 rfl c303 rfl
  · rw [if_neg c303] at hS
    cases hS
def F_pl_daysOf (a0 : Nat) (a1 : Int32) (h : Hp) : Option Int32 :=
  ck h a0 5 (bn (gI h a0 5 0) fun x1 =>
  if x1 < (0 : Int32) then
    (some (-2 : Int32))
  else
    (bn (gR h a0 5 7) fun x3 =>
    bn (aI h 100 x3 a1) fun x5 =>
    some x5))
set_option maxRecDepth 20000 in
theorem K_pl_daysOf {a0 : Nat} {a1 : Int32} {h : Hp} {v : Int32} (hS : F_pl_daysOf a0 a1 h = some v) : kd h a0 = 5 := by
  unfold F_pl_daysOf at hS
  exact (ck_s hS).1
set_option maxRecDepth 20000 in
theorem R_pl_daysOf (d : Nat) (hd : 0 ≤ d) {a0 : Nat} {a1 : Int32} {h : Hp} {v : Int32} (hS : F_pl_daysOf a0 a1 h = some v) : Ev P d 121 (0, [.ref a0, .int a1], [], h) (some (.int v), h) := by
  unfold F_pl_daysOf at hS
  replace hS := (ck_s hS).2
  refine ev_aload_n pm121 i121_0 rfl rfl rfl ?_
  obtain ⟨x1, e2, hS⟩ := bn_s hS
  refine ev_getI pm121 i121_1 rfl rfl (by decide) e2 rfl ?_
  by_cases c304 : x1 < (0 : Int32)
  · rw [if_pos c304] at hS
    refine ev_if_ge_t (t := 12) pm121 i121_4 rfl c304 rfl rfl ?_
    refine ev_bipush (v := -2) pm121 i121_7 rfl (by decide) rfl ?_
    refine ev_goto (t := 18) pm121 i121_9 rfl rfl ?_
    refine ev_kls (ls' := [unk, unk]) pm121 i121_18 rfl rfl ?_
    cases hS
    exact ev_ireturn pm121 i121_18 rfl rfl rfl
  · rw [if_neg c304] at hS
    refine ev_if_ge_f (t := 12) pm121 i121_4 rfl c304 rfl rfl ?_
    refine ev_aload_n pm121 i121_12 rfl rfl rfl ?_
    obtain ⟨x3, e4, hS⟩ := bn_s hS
    refine ev_getR pm121 i121_13 rfl rfl rfl e4 rfl ?_
    refine ev_iload_n pm121 i121_16 rfl rfl rfl ?_
    obtain ⟨x5, e6, hS⟩ := bn_s hS
    refine ev_iald pm121 i121_17 rfl e6 rfl ?_
    refine ev_kls (ls' := [unk, unk]) pm121 i121_18 rfl rfl ?_
    cases hS
    exact ev_ireturn pm121 i121_18 rfl rfl rfl
def F_cs_planDays (a0 : Nat) (a1 : Int32) (a2 : Int32) (h : Hp) : Option (Int32 × Hp) :=
  ck h a0 11 (bn (F_cs_noDrinker a0 a1 h) fun x2 =>
  bn (F_cs_outside a2 (1 : Int32) (4 : Int32)) fun x4 =>
  bd (F_cs_refused a0 x2 x4 h) fun x6 h7 =>
  if x6 = (0 : Int32) then
    (bn (gR h7 a0 11 8) fun x8 =>
    bn (gR h7 a0 11 3) fun x10 =>
    bn (gR h7 a0 11 4) fun x12 =>
    bn (F_pl_find x8 x10 x12 a2 (0 : Int32) h7) fun h15 =>
    bn (gR h15 a0 11 8) fun x16 =>
    bn (F_pl_daysOf x16 a1 h15) fun x19 =>
    some (x19, h15))
  else
    (some ((-1 : Int32), h7)))
set_option maxRecDepth 20000 in
theorem K_cs_planDays {a0 : Nat} {a1 : Int32} {a2 : Int32} {h : Hp} {v : Int32} {h' : Hp} (hS : F_cs_planDays a0 a1 a2 h = some (v, h')) : kd h a0 = 11 := by
  unfold F_cs_planDays at hS
  exact (ck_s hS).1
set_option maxRecDepth 20000 in
theorem R_cs_planDays (d : Nat) (hd : 12 ≤ d) {a0 : Nat} {a1 : Int32} {a2 : Int32} {h : Hp} {v : Int32} {h' : Hp} (hS : F_cs_planDays a0 a1 a2 h = some (v, h')) : Ev P d 119 (0, [.ref a0, .int a1, .int a2], [], h) (some (.int v), h') := by
  unfold F_cs_planDays at hS
  replace hS := (ck_s hS).2
  refine ev_aload_n pm119 i119_0 rfl rfl rfl ?_
  refine ev_aload_n pm119 i119_1 rfl rfl rfl ?_
  refine ev_iload_n pm119 i119_2 rfl rfl rfl ?_
  obtain ⟨x2, e1, hS⟩ := bn_s hS
  refine ev_callV (sa := [.int a1]) (rest := [.ref a0]) (st' := [.int x2, .ref a0]) (ls0 := [.ref a0, .int a1]) (rv := some (.int x2)) pm119 i119_3 rfl rfl pm120 (by decide) (K_cs_noDrinker e1) rfl rfl (Nat.le_of_ble_eq_true rfl) (by omega) rfl (R_cs_noDrinker (d - 1) (by omega) e1) (by simp) rfl rfl ?_
  refine ev_iload_n pm119 i119_6 rfl rfl rfl ?_
  refine ev_iconst (v := 1) pm119 i119_7 rfl (by decide) rfl ?_
  refine ev_iconst (v := 4) pm119 i119_8 rfl (by decide) rfl ?_
  obtain ⟨x4, e3, hS⟩ := bn_s hS
  refine ev_callS (sa := [.int (4 : Int32), .int (1 : Int32), .int a2]) (rest := [.int x2, .ref a0]) (st' := [.int x4, .int x2, .ref a0]) (ls0 := [.int a2, .int (1 : Int32), .int (4 : Int32)]) (rv := some (.int x4)) pm119 i119_9 rfl rfl pm17 (by decide) rfl rfl (Nat.le_of_ble_eq_true rfl) (by omega) rfl (R_cs_outside (d - 1) (by omega) e3) (by simp) rfl rfl ?_
  obtain ⟨x6, h7, e5, hS⟩ := bd_s hS
  refine ev_callV (sa := [.int x4, .int x2]) (rest := []) (st' := [.int x6]) (ls0 := [.ref a0, .int x2, .int x4]) (rv := some (.int x6)) pm119 i119_12 rfl rfl pm18 (by decide) (K_cs_refused e5) rfl rfl (Nat.le_of_ble_eq_true rfl) (by omega) rfl (R_cs_refused (d - 1) (by omega) e5) (by simp) rfl rfl ?_
  by_cases c305 : x6 = (0 : Int32)
  · rw [if_pos c305] at hS
    refine ev_if_eq_t (t := 20) pm119 i119_15 rfl c305 rfl rfl ?_
    refine ev_aload_n pm119 i119_20 rfl rfl rfl ?_
    obtain ⟨x8, e9, hS⟩ := bn_s hS
    refine ev_getR pm119 i119_21 rfl rfl rfl e9 rfl ?_
    refine ev_aload_n pm119 i119_24 rfl rfl rfl ?_
    obtain ⟨x10, e11, hS⟩ := bn_s hS
    refine ev_getR pm119 i119_25 rfl rfl rfl e11 rfl ?_
    refine ev_aload_n pm119 i119_28 rfl rfl rfl ?_
    obtain ⟨x12, e13, hS⟩ := bn_s hS
    refine ev_getR pm119 i119_29 rfl rfl rfl e13 rfl ?_
    refine ev_iload_n pm119 i119_32 rfl rfl rfl ?_
    refine ev_iconst (v := 0) pm119 i119_33 rfl (by decide) rfl ?_
    obtain ⟨h15, e14, hS⟩ := bn_s hS
    refine ev_callV (sa := [.int (0 : Int32), .int a2, .ref x12, .ref x10]) (rest := []) (st' := []) (ls0 := [.ref x8, .ref x10, .ref x12, .int a2, .int (0 : Int32), unk]) (rv := none) pm119 i119_34 rfl rfl pm110 (by decide) (K_pl_find e14) rfl rfl (Nat.le_of_ble_eq_true rfl) (by omega) rfl (R_pl_find (d - 1) (by omega) e14) (by simp) rfl rfl ?_
    refine ev_aload_n pm119 i119_37 rfl rfl rfl ?_
    obtain ⟨x16, e17, hS⟩ := bn_s hS
    refine ev_getR pm119 i119_38 rfl rfl rfl e17 rfl ?_
    refine ev_iload_n pm119 i119_41 rfl rfl rfl ?_
    obtain ⟨x19, e18, hS⟩ := bn_s hS
    refine ev_callV (sa := [.int a1]) (rest := []) (st' := [.int x19]) (ls0 := [.ref x16, .int a1]) (rv := some (.int x19)) pm119 i119_42 rfl rfl pm121 (by decide) (K_pl_daysOf e18) rfl rfl (Nat.le_of_ble_eq_true rfl) (by omega) rfl (R_pl_daysOf (d - 1) (by omega) e18) (by simp) rfl rfl ?_
    cases hS
    exact ev_ireturn pm119 i119_45 rfl rfl rfl
  · rw [if_neg c305] at hS
    refine ev_if_eq_f (t := 20) pm119 i119_15 rfl c305 rfl rfl ?_
    refine ev_iconst (v := -1) pm119 i119_18 rfl (by decide) rfl ?_
    cases hS
    exact ev_ireturn pm119 i119_19 rfl rfl rfl
def F_pl_houseOf (a0 : Nat) (a1 : Int32) (h : Hp) : Option Int32 :=
  ck h a0 5 (bn (gI h a0 5 0) fun x1 =>
  if x1 < (0 : Int32) then
    (some (-2 : Int32))
  else
    (bn (gR h a0 5 7) fun x3 =>
    bn (aI h 100 x3 a1) fun x5 =>
    if x5 = (0 : Int32) then
      (some (-2 : Int32))
    else
      (bn (gR h a0 5 8) fun x7 =>
      bn (aI h 100 x7 a1) fun x9 =>
      some x9)))
set_option maxRecDepth 20000 in
theorem K_pl_houseOf {a0 : Nat} {a1 : Int32} {h : Hp} {v : Int32} (hS : F_pl_houseOf a0 a1 h = some v) : kd h a0 = 5 := by
  unfold F_pl_houseOf at hS
  exact (ck_s hS).1
set_option maxRecDepth 20000 in
theorem R_pl_houseOf (d : Nat) (hd : 0 ≤ d) {a0 : Nat} {a1 : Int32} {h : Hp} {v : Int32} (hS : F_pl_houseOf a0 a1 h = some v) : Ev P d 123 (0, [.ref a0, .int a1], [], h) (some (.int v), h) := by
  unfold F_pl_houseOf at hS
  replace hS := (ck_s hS).2
  refine ev_aload_n pm123 i123_0 rfl rfl rfl ?_
  obtain ⟨x1, e2, hS⟩ := bn_s hS
  refine ev_getI pm123 i123_1 rfl rfl (by decide) e2 rfl ?_
  by_cases c306 : x1 < (0 : Int32)
  · rw [if_pos c306] at hS
    refine ev_if_lt_t (t := 16) pm123 i123_4 rfl c306 rfl rfl ?_
    refine ev_kls (ls' := [unk, unk]) pm123 i123_16 rfl rfl ?_
    refine ev_bipush (v := -2) pm123 i123_16 rfl (by decide) rfl ?_
    refine ev_goto (t := 27) pm123 i123_18 rfl rfl ?_
    cases hS
    exact ev_ireturn pm123 i123_27 rfl rfl rfl
  · rw [if_neg c306] at hS
    refine ev_if_lt_f (t := 16) pm123 i123_4 rfl c306 rfl rfl ?_
    refine ev_aload_n pm123 i123_7 rfl rfl rfl ?_
    obtain ⟨x3, e4, hS⟩ := bn_s hS
    refine ev_getR pm123 i123_8 rfl rfl rfl e4 rfl ?_
    refine ev_iload_n pm123 i123_11 rfl rfl rfl ?_
    obtain ⟨x5, e6, hS⟩ := bn_s hS
    refine ev_iald pm123 i123_12 rfl e6 rfl ?_
    by_cases c307 : x5 = (0 : Int32)
    · rw [if_pos c307] at hS
      refine ev_if_ne_t (t := 21) pm123 i123_13 rfl c307 rfl rfl ?_
      refine ev_kls (ls' := [unk, unk]) pm123 i123_16 rfl rfl ?_
      refine ev_bipush (v := -2) pm123 i123_16 rfl (by decide) rfl ?_
      refine ev_goto (t := 27) pm123 i123_18 rfl rfl ?_
      cases hS
      exact ev_ireturn pm123 i123_27 rfl rfl rfl
    · rw [if_neg c307] at hS
      refine ev_if_ne_f (t := 21) pm123 i123_13 rfl c307 rfl rfl ?_
      refine ev_aload_n pm123 i123_21 rfl rfl rfl ?_
      obtain ⟨x7, e8, hS⟩ := bn_s hS
      refine ev_getR pm123 i123_22 rfl rfl rfl e8 rfl ?_
      refine ev_iload_n pm123 i123_25 rfl rfl rfl ?_
      obtain ⟨x9, e10, hS⟩ := bn_s hS
      refine ev_iald pm123 i123_26 rfl e10 rfl ?_
      refine ev_kls (ls' := [unk, unk]) pm123 i123_27 rfl rfl ?_
      cases hS
      exact ev_ireturn pm123 i123_27 rfl rfl rfl
def F_cs_planHouse (a0 : Nat) (a1 : Int32) (a2 : Int32) (h : Hp) : Option (Int32 × Hp) :=
  ck h a0 11 (bn (F_cs_noDrinker a0 a1 h) fun x2 =>
  bn (F_cs_outside a2 (1 : Int32) (4 : Int32)) fun x4 =>
  bd (F_cs_refused a0 x2 x4 h) fun x6 h7 =>
  if x6 = (0 : Int32) then
    (bn (gR h7 a0 11 8) fun x8 =>
    bn (gR h7 a0 11 3) fun x10 =>
    bn (gR h7 a0 11 4) fun x12 =>
    bn (F_pl_find x8 x10 x12 a2 (0 : Int32) h7) fun h15 =>
    bn (gR h15 a0 11 8) fun x16 =>
    bn (F_pl_houseOf x16 a1 h15) fun x19 =>
    some (x19, h15))
  else
    (some ((-1 : Int32), h7)))
set_option maxRecDepth 20000 in
theorem K_cs_planHouse {a0 : Nat} {a1 : Int32} {a2 : Int32} {h : Hp} {v : Int32} {h' : Hp} (hS : F_cs_planHouse a0 a1 a2 h = some (v, h')) : kd h a0 = 11 := by
  unfold F_cs_planHouse at hS
  exact (ck_s hS).1
set_option maxRecDepth 20000 in
theorem R_cs_planHouse (d : Nat) (hd : 12 ≤ d) {a0 : Nat} {a1 : Int32} {a2 : Int32} {h : Hp} {v : Int32} {h' : Hp} (hS : F_cs_planHouse a0 a1 a2 h = some (v, h')) : Ev P d 122 (0, [.ref a0, .int a1, .int a2], [], h) (some (.int v), h') := by
  unfold F_cs_planHouse at hS
  replace hS := (ck_s hS).2
  refine ev_aload_n pm122 i122_0 rfl rfl rfl ?_
  refine ev_aload_n pm122 i122_1 rfl rfl rfl ?_
  refine ev_iload_n pm122 i122_2 rfl rfl rfl ?_
  obtain ⟨x2, e1, hS⟩ := bn_s hS
  refine ev_callV (sa := [.int a1]) (rest := [.ref a0]) (st' := [.int x2, .ref a0]) (ls0 := [.ref a0, .int a1]) (rv := some (.int x2)) pm122 i122_3 rfl rfl pm120 (by decide) (K_cs_noDrinker e1) rfl rfl (Nat.le_of_ble_eq_true rfl) (by omega) rfl (R_cs_noDrinker (d - 1) (by omega) e1) (by simp) rfl rfl ?_
  refine ev_iload_n pm122 i122_6 rfl rfl rfl ?_
  refine ev_iconst (v := 1) pm122 i122_7 rfl (by decide) rfl ?_
  refine ev_iconst (v := 4) pm122 i122_8 rfl (by decide) rfl ?_
  obtain ⟨x4, e3, hS⟩ := bn_s hS
  refine ev_callS (sa := [.int (4 : Int32), .int (1 : Int32), .int a2]) (rest := [.int x2, .ref a0]) (st' := [.int x4, .int x2, .ref a0]) (ls0 := [.int a2, .int (1 : Int32), .int (4 : Int32)]) (rv := some (.int x4)) pm122 i122_9 rfl rfl pm17 (by decide) rfl rfl (Nat.le_of_ble_eq_true rfl) (by omega) rfl (R_cs_outside (d - 1) (by omega) e3) (by simp) rfl rfl ?_
  obtain ⟨x6, h7, e5, hS⟩ := bd_s hS
  refine ev_callV (sa := [.int x4, .int x2]) (rest := []) (st' := [.int x6]) (ls0 := [.ref a0, .int x2, .int x4]) (rv := some (.int x6)) pm122 i122_12 rfl rfl pm18 (by decide) (K_cs_refused e5) rfl rfl (Nat.le_of_ble_eq_true rfl) (by omega) rfl (R_cs_refused (d - 1) (by omega) e5) (by simp) rfl rfl ?_
  by_cases c308 : x6 = (0 : Int32)
  · rw [if_pos c308] at hS
    refine ev_if_eq_t (t := 20) pm122 i122_15 rfl c308 rfl rfl ?_
    refine ev_aload_n pm122 i122_20 rfl rfl rfl ?_
    obtain ⟨x8, e9, hS⟩ := bn_s hS
    refine ev_getR pm122 i122_21 rfl rfl rfl e9 rfl ?_
    refine ev_aload_n pm122 i122_24 rfl rfl rfl ?_
    obtain ⟨x10, e11, hS⟩ := bn_s hS
    refine ev_getR pm122 i122_25 rfl rfl rfl e11 rfl ?_
    refine ev_aload_n pm122 i122_28 rfl rfl rfl ?_
    obtain ⟨x12, e13, hS⟩ := bn_s hS
    refine ev_getR pm122 i122_29 rfl rfl rfl e13 rfl ?_
    refine ev_iload_n pm122 i122_32 rfl rfl rfl ?_
    refine ev_iconst (v := 0) pm122 i122_33 rfl (by decide) rfl ?_
    obtain ⟨h15, e14, hS⟩ := bn_s hS
    refine ev_callV (sa := [.int (0 : Int32), .int a2, .ref x12, .ref x10]) (rest := []) (st' := []) (ls0 := [.ref x8, .ref x10, .ref x12, .int a2, .int (0 : Int32), unk]) (rv := none) pm122 i122_34 rfl rfl pm110 (by decide) (K_pl_find e14) rfl rfl (Nat.le_of_ble_eq_true rfl) (by omega) rfl (R_pl_find (d - 1) (by omega) e14) (by simp) rfl rfl ?_
    refine ev_aload_n pm122 i122_37 rfl rfl rfl ?_
    obtain ⟨x16, e17, hS⟩ := bn_s hS
    refine ev_getR pm122 i122_38 rfl rfl rfl e17 rfl ?_
    refine ev_iload_n pm122 i122_41 rfl rfl rfl ?_
    obtain ⟨x19, e18, hS⟩ := bn_s hS
    refine ev_callV (sa := [.int a1]) (rest := []) (st' := [.int x19]) (ls0 := [.ref x16, .int a1]) (rv := some (.int x19)) pm122 i122_42 rfl rfl pm123 (by decide) (K_pl_houseOf e18) rfl rfl (Nat.le_of_ble_eq_true rfl) (by omega) rfl (R_pl_houseOf (d - 1) (by omega) e18) (by simp) rfl rfl ?_
    cases hS
    exact ev_ireturn pm122 i122_45 rfl rfl rfl
  · rw [if_neg c308] at hS
    refine ev_if_eq_f (t := 20) pm122 i122_15 rfl c308 rfl rfl ?_
    refine ev_iconst (v := -1) pm122 i122_18 rfl (by decide) rfl ?_
    cases hS
    exact ev_ireturn pm122 i122_19 rfl rfl rfl
def F_cs_feasts (a0 : Nat) (a1 : Int32) (h : Hp) : Option (Int32 × Hp) :=
  ck h a0 11 (bn (F_cs_noLake a0 h) fun x2 =>
  bn (F_cs_outside a1 (1 : Int32) (4 : Int32)) fun x4 =>
  bd (F_cs_refused a0 x2 x4 h) fun x6 h7 =>
  if x6 = (0 : Int32) then
    (bn (gR h7 a0 11 8) fun x8 =>
    bn (gR h7 a0 11 3) fun x10 =>
    bn (gR h7 a0 11 4) fun x12 =>
    bn (F_pl_find x8 x10 x12 a1 (1 : Int32) h7) fun h15 =>
    bn (gR h15 a0 11 8) fun x16 =>
    bn (gI h15 x16 5 0) fun x18 =>
    some (x18, h15))
  else
    (some ((-1 : Int32), h7)))
set_option maxRecDepth 20000 in
theorem K_cs_feasts {a0 : Nat} {a1 : Int32} {h : Hp} {v : Int32} {h' : Hp} (hS : F_cs_feasts a0 a1 h = some (v, h')) : kd h a0 = 11 := by
  unfold F_cs_feasts at hS
  exact (ck_s hS).1
set_option maxRecDepth 20000 in
theorem R_cs_feasts (d : Nat) (hd : 12 ≤ d) {a0 : Nat} {a1 : Int32} {h : Hp} {v : Int32} {h' : Hp} (hS : F_cs_feasts a0 a1 h = some (v, h')) : Ev P d 124 (0, [.ref a0, .int a1], [], h) (some (.int v), h') := by
  unfold F_cs_feasts at hS
  replace hS := (ck_s hS).2
  refine ev_aload_n pm124 i124_0 rfl rfl rfl ?_
  refine ev_aload_n pm124 i124_1 rfl rfl rfl ?_
  obtain ⟨x2, e1, hS⟩ := bn_s hS
  refine ev_callV (sa := []) (rest := [.ref a0]) (st' := [.int x2, .ref a0]) (ls0 := [.ref a0]) (rv := some (.int x2)) pm124 i124_2 rfl rfl pm86 (by decide) (K_cs_noLake e1) rfl rfl (Nat.le_of_ble_eq_true rfl) (by omega) rfl (R_cs_noLake (d - 1) (by omega) e1) (by simp) rfl rfl ?_
  refine ev_iload_n pm124 i124_5 rfl rfl rfl ?_
  refine ev_iconst (v := 1) pm124 i124_6 rfl (by decide) rfl ?_
  refine ev_iconst (v := 4) pm124 i124_7 rfl (by decide) rfl ?_
  obtain ⟨x4, e3, hS⟩ := bn_s hS
  refine ev_callS (sa := [.int (4 : Int32), .int (1 : Int32), .int a1]) (rest := [.int x2, .ref a0]) (st' := [.int x4, .int x2, .ref a0]) (ls0 := [.int a1, .int (1 : Int32), .int (4 : Int32)]) (rv := some (.int x4)) pm124 i124_8 rfl rfl pm17 (by decide) rfl rfl (Nat.le_of_ble_eq_true rfl) (by omega) rfl (R_cs_outside (d - 1) (by omega) e3) (by simp) rfl rfl ?_
  obtain ⟨x6, h7, e5, hS⟩ := bd_s hS
  refine ev_callV (sa := [.int x4, .int x2]) (rest := []) (st' := [.int x6]) (ls0 := [.ref a0, .int x2, .int x4]) (rv := some (.int x6)) pm124 i124_11 rfl rfl pm18 (by decide) (K_cs_refused e5) rfl rfl (Nat.le_of_ble_eq_true rfl) (by omega) rfl (R_cs_refused (d - 1) (by omega) e5) (by simp) rfl rfl ?_
  by_cases c309 : x6 = (0 : Int32)
  · rw [if_pos c309] at hS
    refine ev_if_eq_t (t := 19) pm124 i124_14 rfl c309 rfl rfl ?_
    refine ev_aload_n pm124 i124_19 rfl rfl rfl ?_
    obtain ⟨x8, e9, hS⟩ := bn_s hS
    refine ev_getR pm124 i124_20 rfl rfl rfl e9 rfl ?_
    refine ev_aload_n pm124 i124_23 rfl rfl rfl ?_
    obtain ⟨x10, e11, hS⟩ := bn_s hS
    refine ev_getR pm124 i124_24 rfl rfl rfl e11 rfl ?_
    refine ev_aload_n pm124 i124_27 rfl rfl rfl ?_
    obtain ⟨x12, e13, hS⟩ := bn_s hS
    refine ev_getR pm124 i124_28 rfl rfl rfl e13 rfl ?_
    refine ev_iload_n pm124 i124_31 rfl rfl rfl ?_
    refine ev_iconst (v := 1) pm124 i124_32 rfl (by decide) rfl ?_
    obtain ⟨h15, e14, hS⟩ := bn_s hS
    refine ev_callV (sa := [.int (1 : Int32), .int a1, .ref x12, .ref x10]) (rest := []) (st' := []) (ls0 := [.ref x8, .ref x10, .ref x12, .int a1, .int (1 : Int32), unk]) (rv := none) pm124 i124_33 rfl rfl pm110 (by decide) (K_pl_find e14) rfl rfl (Nat.le_of_ble_eq_true rfl) (by omega) rfl (R_pl_find (d - 1) (by omega) e14) (by simp) rfl rfl ?_
    refine ev_aload_n pm124 i124_36 rfl rfl rfl ?_
    obtain ⟨x16, e17, hS⟩ := bn_s hS
    refine ev_getR pm124 i124_37 rfl rfl rfl e17 rfl ?_
    obtain ⟨x18, e19, hS⟩ := bn_s hS
    refine ev_getI pm124 i124_40 rfl rfl (by decide) e19 rfl ?_
    cases hS
    exact ev_ireturn pm124 i124_43 rfl rfl rfl
  · rw [if_neg c309] at hS
    refine ev_if_eq_f (t := 19) pm124 i124_14 rfl c309 rfl rfl ?_
    refine ev_iconst (v := -1) pm124 i124_17 rfl (by decide) rfl ?_
    cases hS
    exact ev_ireturn pm124 i124_18 rfl rfl rfl
def F_cs_feastHouse (a0 : Nat) (a1 : Int32) (a2 : Int32) (h : Hp) : Option (Int32 × Hp) :=
  ck h a0 11 (bn (F_cs_noDrinker a0 a1 h) fun x2 =>
  bn (F_cs_outside a2 (1 : Int32) (4 : Int32)) fun x4 =>
  bd (F_cs_refused a0 x2 x4 h) fun x6 h7 =>
  if x6 = (0 : Int32) then
    (bn (gR h7 a0 11 8) fun x8 =>
    bn (gR h7 a0 11 3) fun x10 =>
    bn (gR h7 a0 11 4) fun x12 =>
    bn (F_pl_find x8 x10 x12 a2 (1 : Int32) h7) fun h15 =>
    bn (gR h15 a0 11 8) fun x16 =>
    bn (F_pl_houseOf x16 a1 h15) fun x19 =>
    some (x19, h15))
  else
    (some ((-1 : Int32), h7)))
set_option maxRecDepth 20000 in
theorem K_cs_feastHouse {a0 : Nat} {a1 : Int32} {a2 : Int32} {h : Hp} {v : Int32} {h' : Hp} (hS : F_cs_feastHouse a0 a1 a2 h = some (v, h')) : kd h a0 = 11 := by
  unfold F_cs_feastHouse at hS
  exact (ck_s hS).1
set_option maxRecDepth 20000 in
theorem R_cs_feastHouse (d : Nat) (hd : 12 ≤ d) {a0 : Nat} {a1 : Int32} {a2 : Int32} {h : Hp} {v : Int32} {h' : Hp} (hS : F_cs_feastHouse a0 a1 a2 h = some (v, h')) : Ev P d 125 (0, [.ref a0, .int a1, .int a2], [], h) (some (.int v), h') := by
  unfold F_cs_feastHouse at hS
  replace hS := (ck_s hS).2
  refine ev_aload_n pm125 i125_0 rfl rfl rfl ?_
  refine ev_aload_n pm125 i125_1 rfl rfl rfl ?_
  refine ev_iload_n pm125 i125_2 rfl rfl rfl ?_
  obtain ⟨x2, e1, hS⟩ := bn_s hS
  refine ev_callV (sa := [.int a1]) (rest := [.ref a0]) (st' := [.int x2, .ref a0]) (ls0 := [.ref a0, .int a1]) (rv := some (.int x2)) pm125 i125_3 rfl rfl pm120 (by decide) (K_cs_noDrinker e1) rfl rfl (Nat.le_of_ble_eq_true rfl) (by omega) rfl (R_cs_noDrinker (d - 1) (by omega) e1) (by simp) rfl rfl ?_
  refine ev_iload_n pm125 i125_6 rfl rfl rfl ?_
  refine ev_iconst (v := 1) pm125 i125_7 rfl (by decide) rfl ?_
  refine ev_iconst (v := 4) pm125 i125_8 rfl (by decide) rfl ?_
  obtain ⟨x4, e3, hS⟩ := bn_s hS
  refine ev_callS (sa := [.int (4 : Int32), .int (1 : Int32), .int a2]) (rest := [.int x2, .ref a0]) (st' := [.int x4, .int x2, .ref a0]) (ls0 := [.int a2, .int (1 : Int32), .int (4 : Int32)]) (rv := some (.int x4)) pm125 i125_9 rfl rfl pm17 (by decide) rfl rfl (Nat.le_of_ble_eq_true rfl) (by omega) rfl (R_cs_outside (d - 1) (by omega) e3) (by simp) rfl rfl ?_
  obtain ⟨x6, h7, e5, hS⟩ := bd_s hS
  refine ev_callV (sa := [.int x4, .int x2]) (rest := []) (st' := [.int x6]) (ls0 := [.ref a0, .int x2, .int x4]) (rv := some (.int x6)) pm125 i125_12 rfl rfl pm18 (by decide) (K_cs_refused e5) rfl rfl (Nat.le_of_ble_eq_true rfl) (by omega) rfl (R_cs_refused (d - 1) (by omega) e5) (by simp) rfl rfl ?_
  by_cases c310 : x6 = (0 : Int32)
  · rw [if_pos c310] at hS
    refine ev_if_eq_t (t := 20) pm125 i125_15 rfl c310 rfl rfl ?_
    refine ev_aload_n pm125 i125_20 rfl rfl rfl ?_
    obtain ⟨x8, e9, hS⟩ := bn_s hS
    refine ev_getR pm125 i125_21 rfl rfl rfl e9 rfl ?_
    refine ev_aload_n pm125 i125_24 rfl rfl rfl ?_
    obtain ⟨x10, e11, hS⟩ := bn_s hS
    refine ev_getR pm125 i125_25 rfl rfl rfl e11 rfl ?_
    refine ev_aload_n pm125 i125_28 rfl rfl rfl ?_
    obtain ⟨x12, e13, hS⟩ := bn_s hS
    refine ev_getR pm125 i125_29 rfl rfl rfl e13 rfl ?_
    refine ev_iload_n pm125 i125_32 rfl rfl rfl ?_
    refine ev_iconst (v := 1) pm125 i125_33 rfl (by decide) rfl ?_
    obtain ⟨h15, e14, hS⟩ := bn_s hS
    refine ev_callV (sa := [.int (1 : Int32), .int a2, .ref x12, .ref x10]) (rest := []) (st' := []) (ls0 := [.ref x8, .ref x10, .ref x12, .int a2, .int (1 : Int32), unk]) (rv := none) pm125 i125_34 rfl rfl pm110 (by decide) (K_pl_find e14) rfl rfl (Nat.le_of_ble_eq_true rfl) (by omega) rfl (R_pl_find (d - 1) (by omega) e14) (by simp) rfl rfl ?_
    refine ev_aload_n pm125 i125_37 rfl rfl rfl ?_
    obtain ⟨x16, e17, hS⟩ := bn_s hS
    refine ev_getR pm125 i125_38 rfl rfl rfl e17 rfl ?_
    refine ev_iload_n pm125 i125_41 rfl rfl rfl ?_
    obtain ⟨x19, e18, hS⟩ := bn_s hS
    refine ev_callV (sa := [.int a1]) (rest := []) (st' := [.int x19]) (ls0 := [.ref x16, .int a1]) (rv := some (.int x19)) pm125 i125_42 rfl rfl pm123 (by decide) (K_pl_houseOf e18) rfl rfl (Nat.le_of_ble_eq_true rfl) (by omega) rfl (R_pl_houseOf (d - 1) (by omega) e18) (by simp) rfl rfl ?_
    cases hS
    exact ev_ireturn pm125 i125_45 rfl rfl rfl
  · rw [if_neg c310] at hS
    refine ev_if_eq_f (t := 20) pm125 i125_15 rfl c310 rfl rfl ?_
    refine ev_iconst (v := -1) pm125 i125_18 rfl (by decide) rfl ?_
    cases hS
    exact ev_ireturn pm125 i125_19 rfl rfl rfl
def B_ho_firstUnlike_29 (l0 : Nat) (l3 : Nat) (h : Hp) (s : Int32) : Option ((Int32) ⊕ ((Unit) ⊕ Int32)) :=
  bn (gI h l3 1 4) fun x13 =>
  if s < x13 then
    (bn (gR h l0 2 2) fun x15 =>
    bn (gR h x15 6 3) fun x17 =>
    bn (gR h l3 1 5) fun x19 =>
    bn (aI h 100 x19 s) fun x21 =>
    bn (aI h 100 x17 x21) fun x23 =>
    bn (gR h l3 1 6) fun x25 =>
    bn (aI h 100 x25 s) fun x27 =>
    if x23 = x27 then
      (some (.inl (s + (1 : Int32))))
    else
      (some (.inr (.inr s))))
  else
    (some (.inr (.inl ())))
set_option maxRecDepth 20000 in
theorem L_ho_firstUnlike_29 (d : Nat) (hd : 4 ≤ d) {l0 : Nat} {l3 : Nat} {h : Hp} : ∀ (n : Nat) (s : Int32) (x : (Unit) ⊕ Int32), lq (B_ho_firstUnlike_29 l0 l3 h) n s = some x → ∀ r, ei x (fun q => Ev P d 128 (72, [unk, unk, unk, unk, unk], [], h) r) (fun v => (some (.int v), h) = r) → Ev P d 128 (29, [.ref l0, unk, unk, .ref l3, .int s], [], h) r := by
  refine lq_ev (G0 := fun (s : Int32) r => Ev P d 128 (29, [.ref l0, unk, unk, .ref l3, .int s], [], h) r) (X := fun (x : (Unit) ⊕ Int32) r => ei x (fun q => Ev P d 128 (72, [unk, unk, unk, unk, unk], [], h) r) (fun v => (some (.int v), h) = r)) ?_
  intro s y hS r hK
  unfold B_ho_firstUnlike_29 at hS
  show Ev P d 128 (29, [.ref l0, unk, unk, .ref l3, .int s], [], h) r
  refine ev_iload pm128 i128_29 rfl rfl rfl ?_
  refine ev_aload_n pm128 i128_31 rfl rfl rfl ?_
  obtain ⟨x13, e14, hS⟩ := bn_s hS
  refine ev_getI pm128 i128_32 rfl rfl (by decide) e14 rfl ?_
  by_cases c311 : s < x13
  · rw [if_pos c311] at hS
    refine ev_icmp_ge_t (t := 72) pm128 i128_35 rfl c311 rfl rfl ?_
    refine ev_aload_n pm128 i128_38 rfl rfl rfl ?_
    obtain ⟨x15, e16, hS⟩ := bn_s hS
    refine ev_getR pm128 i128_39 rfl rfl rfl e16 rfl ?_
    obtain ⟨x17, e18, hS⟩ := bn_s hS
    refine ev_getR pm128 i128_42 rfl rfl rfl e18 rfl ?_
    refine ev_aload_n pm128 i128_45 rfl rfl rfl ?_
    obtain ⟨x19, e20, hS⟩ := bn_s hS
    refine ev_getR pm128 i128_46 rfl rfl rfl e20 rfl ?_
    refine ev_iload pm128 i128_49 rfl rfl rfl ?_
    obtain ⟨x21, e22, hS⟩ := bn_s hS
    refine ev_iald pm128 i128_51 rfl e22 rfl ?_
    obtain ⟨x23, e24, hS⟩ := bn_s hS
    refine ev_iald pm128 i128_52 rfl e24 rfl ?_
    refine ev_aload_n pm128 i128_53 rfl rfl rfl ?_
    obtain ⟨x25, e26, hS⟩ := bn_s hS
    refine ev_getR pm128 i128_54 rfl rfl rfl e26 rfl ?_
    refine ev_iload pm128 i128_57 rfl rfl rfl ?_
    obtain ⟨x27, e28, hS⟩ := bn_s hS
    refine ev_iald pm128 i128_59 rfl e28 rfl ?_
    by_cases c312 : x23 = x27
    · rw [if_pos c312] at hS
      refine ev_icmp_eq_t (t := 66) pm128 i128_60 rfl c312 rfl rfl ?_
      refine ev_iinc (v := 1) (ls' := [.ref l0, unk, unk, .ref l3, .int (s + (1 : Int32))]) pm128 i128_66 rfl rfl (by decide) rfl rfl ?_
      refine ev_goto (t := 29) pm128 i128_69 rfl rfl ?_
      cases hS
      exact hK
    · rw [if_neg c312] at hS
      refine ev_icmp_eq_f (t := 66) pm128 i128_60 rfl c312 rfl rfl ?_
      refine ev_iload pm128 i128_63 rfl rfl rfl ?_
      cases hS
      exact ev_ireturn pm128 i128_65 rfl rfl hK
  · rw [if_neg c311] at hS
    refine ev_icmp_ge_f (t := 72) pm128 i128_35 rfl c311 rfl rfl ?_
    refine ev_kls (ls' := [unk, unk, unk, unk, unk]) pm128 i128_72 rfl rfl ?_
    cases hS
    exact hK
def F_ho_firstUnlike (a0 : Nat) (a1 : Nat) (a2 : Int32) (h : Hp) : Option (Int32 × Hp) :=
  ck h a0 2 (bn (gR h a0 2 3) fun x1 =>
  bn (F_to_begin a1 x1 a2 h) fun h4 =>
  bn (gR h4 a0 2 2) fun x5 =>
  bn (gR h4 a0 2 3) fun x7 =>
  bn (F_ra_measure x5 a1 x7 h4) fun h10 =>
  bn (gR h10 a1 10 18) fun x11 =>
  bn (lq (B_ho_firstUnlike_29 a0 x11 h10) FU (0 : Int32)) fun x29 =>
  ei x29 (fun q31 =>
  some ((-2 : Int32), h10))
  (fun x32 => some (x32, h10)))
set_option maxRecDepth 20000 in
theorem K_ho_firstUnlike {a0 : Nat} {a1 : Nat} {a2 : Int32} {h : Hp} {v : Int32} {h' : Hp} (hS : F_ho_firstUnlike a0 a1 a2 h = some (v, h')) : kd h a0 = 2 := by
  unfold F_ho_firstUnlike at hS
  exact (ck_s hS).1
set_option maxRecDepth 20000 in
theorem R_ho_firstUnlike (d : Nat) (hd : 4 ≤ d) {a0 : Nat} {a1 : Nat} {a2 : Int32} {h : Hp} {v : Int32} {h' : Hp} (hS : F_ho_firstUnlike a0 a1 a2 h = some (v, h')) : Ev P d 128 (0, [.ref a0, .ref a1, .int a2, unk, unk], [], h) (some (.int v), h') := by
  unfold F_ho_firstUnlike at hS
  replace hS := (ck_s hS).2
  refine ev_aload_n pm128 i128_0 rfl rfl rfl ?_
  refine ev_aload_n pm128 i128_1 rfl rfl rfl ?_
  obtain ⟨x1, e2, hS⟩ := bn_s hS
  refine ev_getR pm128 i128_2 rfl rfl rfl e2 rfl ?_
  refine ev_iload_n pm128 i128_5 rfl rfl rfl ?_
  obtain ⟨h4, e3, hS⟩ := bn_s hS
  refine ev_callV (sa := [.int a2, .ref x1]) (rest := []) (st' := []) (ls0 := [.ref a1, .ref x1, .int a2, unk, unk]) (rv := none) pm128 i128_6 rfl rfl pm58 (by decide) (K_to_begin e3) rfl rfl (Nat.le_of_ble_eq_true rfl) (by omega) rfl (R_to_begin (d - 1) (by omega) e3) (by simp) rfl rfl ?_
  refine ev_aload_n pm128 i128_9 rfl rfl rfl ?_
  obtain ⟨x5, e6, hS⟩ := bn_s hS
  refine ev_getR pm128 i128_10 rfl rfl rfl e6 rfl ?_
  refine ev_aload_n pm128 i128_13 rfl rfl rfl ?_
  refine ev_aload_n pm128 i128_14 rfl rfl rfl ?_
  obtain ⟨x7, e8, hS⟩ := bn_s hS
  refine ev_getR pm128 i128_15 rfl rfl rfl e8 rfl ?_
  obtain ⟨h10, e9, hS⟩ := bn_s hS
  refine ev_callV (sa := [.ref x7, .ref a1]) (rest := []) (st' := []) (ls0 := [.ref x5, .ref a1, .ref x7]) (rv := none) pm128 i128_18 rfl rfl pm64 (by decide) (K_ra_measure e9) rfl rfl (Nat.le_of_ble_eq_true rfl) (by omega) rfl (R_ra_measure (d - 1) (by omega) e9) (by simp) rfl rfl ?_
  refine ev_aload_n pm128 i128_21 rfl rfl rfl ?_
  obtain ⟨x11, e12, hS⟩ := bn_s hS
  refine ev_getR pm128 i128_22 rfl rfl rfl e12 rfl ?_
  refine ev_astore_n (ls' := [.ref a0, .ref a1, .int a2, .ref x11, unk]) pm128 i128_25 rfl (Nat.le_of_ble_eq_true rfl) rfl rfl ?_
  refine ev_iconst (v := 0) pm128 i128_26 rfl (by decide) rfl ?_
  refine ev_istore (ls' := [.ref a0, .ref a1, .int a2, .ref x11, .int (0 : Int32)]) pm128 i128_27 rfl (Nat.le_of_ble_eq_true rfl) rfl rfl ?_
  refine ev_kls (ls' := [.ref a0, unk, unk, .ref x11, .int (0 : Int32)]) pm128 i128_29 rfl rfl ?_
  obtain ⟨x29, e30, hS⟩ := bn_s hS
  refine L_ho_firstUnlike_29 d (by omega) _ _ _ e30 _ ?_
  cases x29 with
  | inl q31 =>
    replace hS := ei_l hS
    show Ev P d 128 (72, [unk, unk, unk, unk, unk], [], h10) _
    refine ev_bipush (v := -2) pm128 i128_72 rfl (by decide) rfl ?_
    cases hS
    exact ev_ireturn pm128 i128_74 rfl rfl rfl
  | inr x32 =>
    replace hS := ei_r hS
    cases hS
    rfl
def B_ho_find_7 (l0 : Nat) (l1 : Nat) (s : Int32) (h : Hp) : Option (((Int32) ⊕ (Unit)) × Hp) :=
  bn (gI h l1 10 11) fun x3 =>
  if s < ((1 : Int32) <<< (x3 &&& 31)) then
    (bn (gI h l0 2 0) fun x5 =>
    bn (gR h l0 2 1) fun x7 =>
    bn (aN h x7) fun x9 =>
    if x5 < x9 then
      (bd (F_ho_firstUnlike l0 l1 s h) fun x12 h13 =>
      if x12 = (-2 : Int32) then
        (bn (gR h13 l0 2 1) fun x14 =>
        bn (gI h13 l0 2 0) fun x16 =>
        bn (sI h13 100 x14 x16 s) fun h18 =>
        bn (gI h18 l0 2 0) fun x20 =>
        bn (pI h18 l0 2 0 (x20 + (1 : Int32))) fun h22 =>
        some (.inl (s + (1 : Int32)), h22))
      else
        (some (.inl (s + (1 : Int32)), h13)))
    else
      (some (.inr (), h)))
  else
    (some (.inr (), h))
set_option maxRecDepth 20000 in
theorem L_ho_find_7 (d : Nat) (hd : 5 ≤ d) {l0 : Nat} {l1 : Nat} : ∀ (n : Nat) (s : Int32) (h : Hp) (x : Unit) (hx : Hp), lp (B_ho_find_7 l0 l1) n s h = some (x, hx) → ∀ r, Ev P d 127 (66, [unk, unk, unk], [], hx) r → Ev P d 127 (7, [.ref l0, .ref l1, .int s], [], h) r := by
  refine lp_ev (G0 := fun (s : Int32) h r => Ev P d 127 (7, [.ref l0, .ref l1, .int s], [], h) r) (X := fun (x : Unit) hx r => Ev P d 127 (66, [unk, unk, unk], [], hx) r) ?_
  intro s h y h9 hS r hK
  unfold B_ho_find_7 at hS
  show Ev P d 127 (7, [.ref l0, .ref l1, .int s], [], h) r
  refine ev_iload_n pm127 i127_7 rfl rfl rfl ?_
  refine ev_iconst (v := 1) pm127 i127_8 rfl (by decide) rfl ?_
  refine ev_aload_n pm127 i127_9 rfl rfl rfl ?_
  obtain ⟨x3, e4, hS⟩ := bn_s hS
  refine ev_getI pm127 i127_10 rfl rfl (by decide) e4 rfl ?_
  refine ev_b2 (f := fun x y => x <<< (y &&& 31)) pm127 i127_13 rfl (fun _ _ _ _ => rfl) rfl ?_
  by_cases c313 : s < ((1 : Int32) <<< (x3 &&& 31))
  · rw [if_pos c313] at hS
    refine ev_icmp_ge_t (t := 66) pm127 i127_14 rfl c313 rfl rfl ?_
    refine ev_aload_n pm127 i127_17 rfl rfl rfl ?_
    obtain ⟨x5, e6, hS⟩ := bn_s hS
    refine ev_getI pm127 i127_18 rfl rfl (by decide) e6 rfl ?_
    refine ev_aload_n pm127 i127_21 rfl rfl rfl ?_
    obtain ⟨x7, e8, hS⟩ := bn_s hS
    refine ev_getR pm127 i127_22 rfl rfl rfl e8 rfl ?_
    obtain ⟨x9, e10, hS⟩ := bn_s hS
    refine ev_alen pm127 i127_25 rfl e10 rfl ?_
    by_cases c314 : x5 < x9
    · rw [if_pos c314] at hS
      refine ev_icmp_ge_t (t := 66) pm127 i127_26 rfl c314 rfl rfl ?_
      refine ev_aload_n pm127 i127_29 rfl rfl rfl ?_
      refine ev_aload_n pm127 i127_30 rfl rfl rfl ?_
      refine ev_iload_n pm127 i127_31 rfl rfl rfl ?_
      obtain ⟨x12, h13, e11, hS⟩ := bd_s hS
      refine ev_callV (sa := [.int s, .ref l1]) (rest := []) (st' := [.int x12]) (ls0 := [.ref l0, .ref l1, .int s, unk, unk]) (rv := some (.int x12)) pm127 i127_32 rfl rfl pm128 (by decide) (K_ho_firstUnlike e11) rfl rfl (Nat.le_of_ble_eq_true rfl) (by omega) rfl (R_ho_firstUnlike (d - 1) (by omega) e11) (by simp) rfl rfl ?_
      refine ev_bipush (v := -2) pm127 i127_35 rfl (by decide) rfl ?_
      by_cases c315 : x12 = (-2 : Int32)
      · rw [if_pos c315] at hS
        refine ev_icmp_ne_t (t := 60) pm127 i127_37 rfl c315 rfl rfl ?_
        refine ev_aload_n pm127 i127_40 rfl rfl rfl ?_
        obtain ⟨x14, e15, hS⟩ := bn_s hS
        refine ev_getR pm127 i127_41 rfl rfl rfl e15 rfl ?_
        refine ev_aload_n pm127 i127_44 rfl rfl rfl ?_
        obtain ⟨x16, e17, hS⟩ := bn_s hS
        refine ev_getI pm127 i127_45 rfl rfl (by decide) e17 rfl ?_
        refine ev_iload_n pm127 i127_48 rfl rfl rfl ?_
        obtain ⟨h18, e19, hS⟩ := bn_s hS
        refine ev_iast pm127 i127_49 rfl e19 rfl ?_
        refine ev_aload_n pm127 i127_50 rfl rfl rfl ?_
        refine ev_dup pm127 i127_51 rfl rfl rfl ?_
        obtain ⟨x20, e21, hS⟩ := bn_s hS
        refine ev_getI pm127 i127_52 rfl rfl (by decide) e21 rfl ?_
        refine ev_iconst (v := 1) pm127 i127_55 rfl (by decide) rfl ?_
        refine ev_b2 (f := fun x y => x + y) pm127 i127_56 rfl (fun _ _ _ _ => rfl) rfl ?_
        obtain ⟨h22, e23, hS⟩ := bn_s hS
        refine ev_putI pm127 i127_57 rfl rfl rfl e23 rfl ?_
        refine ev_iinc (v := 1) (ls' := [.ref l0, .ref l1, .int (s + (1 : Int32))]) pm127 i127_60 rfl rfl (by decide) rfl rfl ?_
        refine ev_goto (t := 7) pm127 i127_63 rfl rfl ?_
        cases hS
        exact hK
      · rw [if_neg c315] at hS
        refine ev_icmp_ne_f (t := 60) pm127 i127_37 rfl c315 rfl rfl ?_
        refine ev_iinc (v := 1) (ls' := [.ref l0, .ref l1, .int (s + (1 : Int32))]) pm127 i127_60 rfl rfl (by decide) rfl rfl ?_
        refine ev_goto (t := 7) pm127 i127_63 rfl rfl ?_
        cases hS
        exact hK
    · rw [if_neg c314] at hS
      refine ev_icmp_ge_f (t := 66) pm127 i127_26 rfl c314 rfl rfl ?_
      refine ev_kls (ls' := [unk, unk, unk]) pm127 i127_66 rfl rfl ?_
      cases hS
      exact hK
  · rw [if_neg c313] at hS
    refine ev_icmp_ge_f (t := 66) pm127 i127_14 rfl c313 rfl rfl ?_
    refine ev_kls (ls' := [unk, unk, unk]) pm127 i127_66 rfl rfl ?_
    cases hS
    exact hK
def F_ho_find (a0 : Nat) (a1 : Nat) (h : Hp) : Option Hp :=
  ck h a0 2 (bn (pI h a0 2 0 (0 : Int32)) fun h1 =>
  bd (lp (B_ho_find_7 a0 a1) FU (0 : Int32) h1) fun x24 h26 =>
  some h26)
set_option maxRecDepth 20000 in
theorem K_ho_find {a0 : Nat} {a1 : Nat} {h : Hp} {h' : Hp} (hS : F_ho_find a0 a1 h = some h') : kd h a0 = 2 := by
  unfold F_ho_find at hS
  exact (ck_s hS).1
set_option maxRecDepth 20000 in
theorem R_ho_find (d : Nat) (hd : 5 ≤ d) {a0 : Nat} {a1 : Nat} {h : Hp} {h' : Hp} (hS : F_ho_find a0 a1 h = some h') : Ev P d 127 (0, [.ref a0, .ref a1, unk], [], h) (none, h') := by
  unfold F_ho_find at hS
  replace hS := (ck_s hS).2
  refine ev_aload_n pm127 i127_0 rfl rfl rfl ?_
  refine ev_iconst (v := 0) pm127 i127_1 rfl (by decide) rfl ?_
  obtain ⟨h1, e2, hS⟩ := bn_s hS
  refine ev_putI pm127 i127_2 rfl rfl rfl e2 rfl ?_
  refine ev_iconst (v := 0) pm127 i127_5 rfl (by decide) rfl ?_
  refine ev_istore_n (ls' := [.ref a0, .ref a1, .int (0 : Int32)]) pm127 i127_6 rfl (Nat.le_of_ble_eq_true rfl) rfl rfl ?_
  obtain ⟨x24, h26, e25, hS⟩ := bd_s hS
  refine L_ho_find_7 d (by omega) _ _ _ _ _ e25 _ ?_
  show Ev P d 127 (66, [unk, unk, unk], [], h26) _
  cases hS
  exact ev_return pm127 i127_66 rfl rfl rfl
def F_cs_sets (a0 : Nat) (h : Hp) : Option (Int32 × Hp) :=
  ck h a0 11 (bn (F_cs_noLake a0 h) fun x2 =>
  bd (F_cs_refused a0 x2 (0 : Int32) h) fun x4 h5 =>
  if x4 = (0 : Int32) then
    (bn (gR h5 a0 11 9) fun x6 =>
    bn (gR h5 a0 11 3) fun x8 =>
    bn (F_ho_find x6 x8 h5) fun h11 =>
    bn (gR h11 a0 11 9) fun x12 =>
    bn (gI h11 x12 2 0) fun x14 =>
    some (x14, h11))
  else
    (some ((-1 : Int32), h5)))
set_option maxRecDepth 20000 in
theorem K_cs_sets {a0 : Nat} {h : Hp} {v : Int32} {h' : Hp} (hS : F_cs_sets a0 h = some (v, h')) : kd h a0 = 11 := by
  unfold F_cs_sets at hS
  exact (ck_s hS).1
set_option maxRecDepth 20000 in
theorem R_cs_sets (d : Nat) (hd : 6 ≤ d) {a0 : Nat} {h : Hp} {v : Int32} {h' : Hp} (hS : F_cs_sets a0 h = some (v, h')) : Ev P d 126 (0, [.ref a0], [], h) (some (.int v), h') := by
  unfold F_cs_sets at hS
  replace hS := (ck_s hS).2
  refine ev_aload_n pm126 i126_0 rfl rfl rfl ?_
  refine ev_aload_n pm126 i126_1 rfl rfl rfl ?_
  obtain ⟨x2, e1, hS⟩ := bn_s hS
  refine ev_callV (sa := []) (rest := [.ref a0]) (st' := [.int x2, .ref a0]) (ls0 := [.ref a0]) (rv := some (.int x2)) pm126 i126_2 rfl rfl pm86 (by decide) (K_cs_noLake e1) rfl rfl (Nat.le_of_ble_eq_true rfl) (by omega) rfl (R_cs_noLake (d - 1) (by omega) e1) (by simp) rfl rfl ?_
  refine ev_iconst (v := 0) pm126 i126_5 rfl (by decide) rfl ?_
  obtain ⟨x4, h5, e3, hS⟩ := bd_s hS
  refine ev_callV (sa := [.int (0 : Int32), .int x2]) (rest := []) (st' := [.int x4]) (ls0 := [.ref a0, .int x2, .int (0 : Int32)]) (rv := some (.int x4)) pm126 i126_6 rfl rfl pm18 (by decide) (K_cs_refused e3) rfl rfl (Nat.le_of_ble_eq_true rfl) (by omega) rfl (R_cs_refused (d - 1) (by omega) e3) (by simp) rfl rfl ?_
  by_cases c316 : x4 = (0 : Int32)
  · rw [if_pos c316] at hS
    refine ev_if_eq_t (t := 14) pm126 i126_9 rfl c316 rfl rfl ?_
    refine ev_aload_n pm126 i126_14 rfl rfl rfl ?_
    obtain ⟨x6, e7, hS⟩ := bn_s hS
    refine ev_getR pm126 i126_15 rfl rfl rfl e7 rfl ?_
    refine ev_aload_n pm126 i126_18 rfl rfl rfl ?_
    obtain ⟨x8, e9, hS⟩ := bn_s hS
    refine ev_getR pm126 i126_19 rfl rfl rfl e9 rfl ?_
    obtain ⟨h11, e10, hS⟩ := bn_s hS
    refine ev_callV (sa := [.ref x8]) (rest := []) (st' := []) (ls0 := [.ref x6, .ref x8, unk]) (rv := none) pm126 i126_22 rfl rfl pm127 (by decide) (K_ho_find e10) rfl rfl (Nat.le_of_ble_eq_true rfl) (by omega) rfl (R_ho_find (d - 1) (by omega) e10) (by simp) rfl rfl ?_
    refine ev_aload_n pm126 i126_25 rfl rfl rfl ?_
    obtain ⟨x12, e13, hS⟩ := bn_s hS
    refine ev_getR pm126 i126_26 rfl rfl rfl e13 rfl ?_
    obtain ⟨x14, e15, hS⟩ := bn_s hS
    refine ev_getI pm126 i126_29 rfl rfl (by decide) e15 rfl ?_
    cases hS
    exact ev_ireturn pm126 i126_32 rfl rfl rfl
  · rw [if_neg c316] at hS
    refine ev_if_eq_f (t := 14) pm126 i126_9 rfl c316 rfl rfl ?_
    refine ev_iconst (v := -1) pm126 i126_12 rfl (by decide) rfl ?_
    cases hS
    exact ev_ireturn pm126 i126_13 rfl rfl rfl
