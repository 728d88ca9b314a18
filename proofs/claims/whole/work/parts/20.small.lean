def B_st_liftUnder_4 (l0 : Nat) (l1 : Int32) (h : Hp) (s : Int32 × Int32) : Option ((Int32 × Int32) ⊕ (Int32)) :=
  if s.2 < (5 : Int32) then
    (bn (gR h l0 8 0) fun x1 =>
    bn (aI h 100 x1 ((l1 * (5 : Int32)) + s.2)) fun x3 =>
    bn (aI h 100 1000001 s.2) fun x5 =>
    some (.inl (s.1 + (x3 * x5), s.2 + (1 : Int32))))
  else
    (some (.inr s.1))
set_option maxRecDepth 20000 in
theorem L_st_liftUnder_4 (d : Nat) (hd : 0 ≤ d) {l0 : Nat} {l1 : Int32} {h : Hp} : ∀ (n : Nat) (s : Int32 × Int32) (x : Int32), lq (B_st_liftUnder_4 l0 l1 h) n s = some x → ∀ r, Ev P d 66 (34, [unk, unk, .int x, unk], [], h) r → Ev P d 66 (4, [.ref l0, .int l1, .int s.1, .int s.2], [], h) r := by
  refine lq_ev (G0 := fun (s : Int32 × Int32) r => Ev P d 66 (4, [.ref l0, .int l1, .int s.1, .int s.2], [], h) r) (X := fun (x : Int32) r => Ev P d 66 (34, [unk, unk, .int x, unk], [], h) r) ?_
  intro s y hS r hK
  unfold B_st_liftUnder_4 at hS
  show Ev P d 66 (4, [.ref l0, .int l1, .int s.1, .int s.2], [], h) r
  refine ev_iload_n pm66 i66_4 rfl rfl rfl ?_
  refine ev_iconst (v := 5) pm66 i66_5 rfl (by decide) rfl ?_
  by_cases c1 : s.2 < (5 : Int32)
  · rw [if_pos c1] at hS
    refine ev_icmp_ge_t (t := 34) pm66 i66_6 rfl c1 rfl rfl ?_
    refine ev_iload_n pm66 i66_9 rfl rfl rfl ?_
    refine ev_aload_n pm66 i66_10 rfl rfl rfl ?_
    obtain ⟨x1, e2, hS⟩ := bn_s hS
    refine ev_getR pm66 i66_11 rfl rfl rfl e2 rfl ?_
    refine ev_iload_n pm66 i66_14 rfl rfl rfl ?_
    refine ev_iconst (v := 5) pm66 i66_15 rfl (by decide) rfl ?_
    refine ev_b2 (f := fun x y => x * y) pm66 i66_16 rfl (fun _ _ _ _ => rfl) rfl ?_
    refine ev_iload_n pm66 i66_17 rfl rfl rfl ?_
    refine ev_b2 (f := fun x y => x + y) pm66 i66_18 rfl (fun _ _ _ _ => rfl) rfl ?_
    obtain ⟨x3, e4, hS⟩ := bn_s hS
    refine ev_iald pm66 i66_19 rfl e4 rfl ?_
    refine ev_getstatic (v := .ref 1000001) pm66 i66_20 rfl rfl rfl ?_
    refine ev_iload_n pm66 i66_23 rfl rfl rfl ?_
    obtain ⟨x5, e6, hS⟩ := bn_s hS
    refine ev_iald pm66 i66_24 rfl e6 rfl ?_
    refine ev_b2 (f := fun x y => x * y) pm66 i66_25 rfl (fun _ _ _ _ => rfl) rfl ?_
    refine ev_b2 (f := fun x y => x + y) pm66 i66_26 rfl (fun _ _ _ _ => rfl) rfl ?_
    refine ev_istore_n (ls' := [.ref l0, .int l1, .int (s.1 + (x3 * x5)), .int s.2]) pm66 i66_27 rfl (Nat.le_of_ble_eq_true rfl) rfl rfl ?_
    refine ev_iinc (v := 1) (ls' := [.ref l0, .int l1, .int (s.1 + (x3 * x5)), .int (s.2 + (1 : Int32))]) pm66 i66_28 rfl rfl (by decide) rfl rfl ?_
    refine ev_goto (t := 4) pm66 i66_31 rfl rfl ?_
    cases hS
    exact hK
  · rw [if_neg c1] at hS
    refine ev_icmp_ge_f (t := 34) pm66 i66_6 rfl c1 rfl rfl ?_
    refine ev_kls (ls' := [unk, unk, .int s.1, unk]) pm66 i66_34 rfl rfl ?_
    cases hS
    exact hK
def F_st_liftUnder (a0 : Nat) (a1 : Int32) (h : Hp) : Option Int32 :=
  ck h a0 8 (bn (lq (B_st_liftUnder_4 a0 a1 h) FU ((0 : Int32), (0 : Int32))) fun x7 =>
  some x7)
set_option maxRecDepth 20000 in
theorem K_st_liftUnder {a0 : Nat} {a1 : Int32} {h : Hp} {v : Int32} (hS : F_st_liftUnder a0 a1 h = some v) : kd h a0 = 8 := by
  unfold F_st_liftUnder at hS
  exact (ck_s hS).1
set_option maxRecDepth 20000 in
theorem R_st_liftUnder (d : Nat) (hd : 0 ≤ d) {a0 : Nat} {a1 : Int32} {h : Hp} {v : Int32} (hS : F_st_liftUnder a0 a1 h = some v) : Ev P d 66 (0, [.ref a0, .int a1, unk, unk], [], h) (some (.int v), h) := by
  unfold F_st_liftUnder at hS
  replace hS := (ck_s hS).2
  refine ev_iconst (v := 0) pm66 i66_0 rfl (by decide) rfl ?_
  refine ev_istore_n (ls' := [.ref a0, .int a1, .int (0 : Int32), unk]) pm66 i66_1 rfl (Nat.le_of_ble_eq_true rfl) rfl rfl ?_
  refine ev_iconst (v := 0) pm66 i66_2 rfl (by decide) rfl ?_
  refine ev_istore_n (ls' := [.ref a0, .int a1, .int (0 : Int32), .int (0 : Int32)]) pm66 i66_3 rfl (Nat.le_of_ble_eq_true rfl) rfl rfl ?_
  obtain ⟨x7, e8, hS⟩ := bn_s hS
  refine L_st_liftUnder_4 d (by omega) _ _ _ e8 _ ?_
  show Ev P d 66 (34, [unk, unk, .int x7, unk], [], h) _
  refine ev_iload_n pm66 i66_34 rfl rfl rfl ?_
  cases hS
  exact ev_ireturn pm66 i66_35 rfl rfl rfl
def B_to_weightAt_10 (l0 : Nat) (l1 : Int32) (l2 : Nat) (h : Hp) (s : Int32 × Int32) : Option ((Int32 × Int32) ⊕ (Int32)) :=
  bn (gI h l0 10 8) fun x5 =>
  if s.2 < x5 then
    (bn (gR h l2 8 1) fun x7 =>
    bn (aI h 100 x7 s.2) fun x9 =>
    if x9 = l1 then
      (bn (gR h l0 10 9) fun x11 =>
      bn (aI h 100 x11 s.2) fun x13 =>
      some (.inl (s.1 + x13, s.2 + (1 : Int32))))
    else
      (some (.inl (s.1, s.2 + (1 : Int32)))))
  else
    (some (.inr s.1))
set_option maxRecDepth 20000 in
theorem L_to_weightAt_10 (d : Nat) (hd : 0 ≤ d) {l0 : Nat} {l1 : Int32} {l2 : Nat} {h : Hp} : ∀ (n : Nat) (s : Int32 × Int32) (x : Int32), lq (B_to_weightAt_10 l0 l1 l2 h) n s = some x → ∀ r, Ev P d 67 (46, [unk, unk, unk, .int x, unk], [], h) r → Ev P d 67 (10, [.ref l0, .int l1, .ref l2, .int s.1, .int s.2], [], h) r := by
  refine lq_ev (G0 := fun (s : Int32 × Int32) r => Ev P d 67 (10, [.ref l0, .int l1, .ref l2, .int s.1, .int s.2], [], h) r) (X := fun (x : Int32) r => Ev P d 67 (46, [unk, unk, unk, .int x, unk], [], h) r) ?_
  intro s y hS r hK
  unfold B_to_weightAt_10 at hS
  show Ev P d 67 (10, [.ref l0, .int l1, .ref l2, .int s.1, .int s.2], [], h) r
  refine ev_iload pm67 i67_10 rfl rfl rfl ?_
  refine ev_aload_n pm67 i67_12 rfl rfl rfl ?_
  obtain ⟨x5, e6, hS⟩ := bn_s hS
  refine ev_getI pm67 i67_13 rfl rfl (by decide) e6 rfl ?_
  by_cases c2 : s.2 < x5
  · rw [if_pos c2] at hS
    refine ev_icmp_ge_t (t := 46) pm67 i67_16 rfl c2 rfl rfl ?_
    refine ev_aload_n pm67 i67_19 rfl rfl rfl ?_
    obtain ⟨x7, e8, hS⟩ := bn_s hS
    refine ev_getR pm67 i67_20 rfl rfl rfl e8 rfl ?_
    refine ev_iload pm67 i67_23 rfl rfl rfl ?_
    obtain ⟨x9, e10, hS⟩ := bn_s hS
    refine ev_iald pm67 i67_25 rfl e10 rfl ?_
    refine ev_iload_n pm67 i67_26 rfl rfl rfl ?_
    by_cases c3 : x9 = l1
    · rw [if_pos c3] at hS
      refine ev_icmp_ne_t (t := 40) pm67 i67_27 rfl c3 rfl rfl ?_
      refine ev_iload_n pm67 i67_30 rfl rfl rfl ?_
      refine ev_aload_n pm67 i67_31 rfl rfl rfl ?_
      obtain ⟨x11, e12, hS⟩ := bn_s hS
      refine ev_getR pm67 i67_32 rfl rfl rfl e12 rfl ?_
      refine ev_iload pm67 i67_35 rfl rfl rfl ?_
      obtain ⟨x13, e14, hS⟩ := bn_s hS
      refine ev_iald pm67 i67_37 rfl e14 rfl ?_
      refine ev_b2 (f := fun x y => x + y) pm67 i67_38 rfl (fun _ _ _ _ => rfl) rfl ?_
      refine ev_istore_n (ls' := [.ref l0, .int l1, .ref l2, .int (s.1 + x13), .int s.2]) pm67 i67_39 rfl (Nat.le_of_ble_eq_true rfl) rfl rfl ?_
      refine ev_iinc (v := 1) (ls' := [.ref l0, .int l1, .ref l2, .int (s.1 + x13), .int (s.2 + (1 : Int32))]) pm67 i67_40 rfl rfl (by decide) rfl rfl ?_
      refine ev_goto (t := 10) pm67 i67_43 rfl rfl ?_
      cases hS
      exact hK
    · rw [if_neg c3] at hS
      refine ev_icmp_ne_f (t := 40) pm67 i67_27 rfl c3 rfl rfl ?_
      refine ev_iinc (v := 1) (ls' := [.ref l0, .int l1, .ref l2, .int s.1, .int (s.2 + (1 : Int32))]) pm67 i67_40 rfl rfl (by decide) rfl rfl ?_
      refine ev_goto (t := 10) pm67 i67_43 rfl rfl ?_
      cases hS
      exact hK
  · rw [if_neg c2] at hS
    refine ev_icmp_ge_f (t := 46) pm67 i67_16 rfl c2 rfl rfl ?_
    refine ev_kls (ls' := [unk, unk, unk, .int s.1, unk]) pm67 i67_46 rfl rfl ?_
    cases hS
    exact hK
def F_to_weightAt (a0 : Nat) (a1 : Int32) (a2 : Nat) (h : Hp) : Option Int32 :=
  ck h a0 10 (bn (gR h a0 10 3) fun x1 =>
  bn (aI h 100 x1 a1) fun x3 =>
  bn (lq (B_to_weightAt_10 a0 a1 a2 h) FU (x3, (0 : Int32))) fun x15 =>
  some x15)
set_option maxRecDepth 20000 in
theorem K_to_weightAt {a0 : Nat} {a1 : Int32} {a2 : Nat} {h : Hp} {v : Int32} (hS : F_to_weightAt a0 a1 a2 h = some v) : kd h a0 = 10 := by
  unfold F_to_weightAt at hS
  exact (ck_s hS).1
set_option maxRecDepth 20000 in
theorem R_to_weightAt (d : Nat) (hd : 0 ≤ d) {a0 : Nat} {a1 : Int32} {a2 : Nat} {h : Hp} {v : Int32} (hS : F_to_weightAt a0 a1 a2 h = some v) : Ev P d 67 (0, [.ref a0, .int a1, .ref a2, unk, unk], [], h) (some (.int v), h) := by
  unfold F_to_weightAt at hS
  replace hS := (ck_s hS).2
  refine ev_aload_n pm67 i67_0 rfl rfl rfl ?_
  obtain ⟨x1, e2, hS⟩ := bn_s hS
  refine ev_getR pm67 i67_1 rfl rfl rfl e2 rfl ?_
  refine ev_iload_n pm67 i67_4 rfl rfl rfl ?_
  obtain ⟨x3, e4, hS⟩ := bn_s hS
  refine ev_iald pm67 i67_5 rfl e4 rfl ?_
  refine ev_istore_n (ls' := [.ref a0, .int a1, .ref a2, .int x3, unk]) pm67 i67_6 rfl (Nat.le_of_ble_eq_true rfl) rfl rfl ?_
  refine ev_iconst (v := 0) pm67 i67_7 rfl (by decide) rfl ?_
  refine ev_istore (ls' := [.ref a0, .int a1, .ref a2, .int x3, .int (0 : Int32)]) pm67 i67_8 rfl (Nat.le_of_ble_eq_true rfl) rfl rfl ?_
  obtain ⟨x15, e16, hS⟩ := bn_s hS
  refine L_to_weightAt_10 d (by omega) _ _ _ e16 _ ?_
  show Ev P d 67 (46, [unk, unk, unk, .int x15, unk], [], h) _
  refine ev_iload_n pm67 i67_46 rfl rfl rfl ?_
  cases hS
  exact ev_ireturn pm67 i67_47 rfl rfl rfl
def B_ra_weigh_10 (l0 : Nat) (l1 : Nat) (l2 : Nat) (s : Int32) (h : Hp) : Option (((Int32) ⊕ (Unit)) × Hp) :=
  bn (gI h l0 6 0) fun x5 =>
  if s < x5 then
    (bn (gR h l0 6 1) fun x7 =>
    bn (F_st_liftUnder l2 s h) fun x10 =>
    bn (F_to_weightAt l1 s l2 h) fun x12 =>
    bn (sI h 100 x7 s (x10 - x12)) fun h13 =>
    some (.inl (s + (1 : Int32)), h13))
  else
    (some (.inr (), h))
set_option maxRecDepth 20000 in
theorem L_ra_weigh_10 (d : Nat) (hd : 1 ≤ d) {l0 : Nat} {l1 : Nat} {l2 : Nat} : ∀ (n : Nat) (s : Int32) (h : Hp) (x : Unit) (hx : Hp), lp (B_ra_weigh_10 l0 l1 l2) n s h = some (x, hx) → ∀ r, Ev P d 65 (42, [unk, unk, unk, unk], [], hx) r → Ev P d 65 (10, [.ref l0, .ref l1, .ref l2, .int s], [], h) r := by
  refine lp_ev (G0 := fun (s : Int32) h r => Ev P d 65 (10, [.ref l0, .ref l1, .ref l2, .int s], [], h) r) (X := fun (x : Unit) hx r => Ev P d 65 (42, [unk, unk, unk, unk], [], hx) r) ?_
  intro s h y h9 hS r hK
  unfold B_ra_weigh_10 at hS
  show Ev P d 65 (10, [.ref l0, .ref l1, .ref l2, .int s], [], h) r
  refine ev_iload_n pm65 i65_10 rfl rfl rfl ?_
  refine ev_aload_n pm65 i65_11 rfl rfl rfl ?_
  obtain ⟨x5, e6, hS⟩ := bn_s hS
  refine ev_getI pm65 i65_12 rfl rfl (by decide) e6 rfl ?_
  by_cases c4 : s < x5
  · rw [if_pos c4] at hS
    refine ev_icmp_ge_t (t := 42) pm65 i65_15 rfl c4 rfl rfl ?_
    refine ev_aload_n pm65 i65_18 rfl rfl rfl ?_
    obtain ⟨x7, e8, hS⟩ := bn_s hS
    refine ev_getR pm65 i65_19 rfl rfl rfl e8 rfl ?_
    refine ev_iload_n pm65 i65_22 rfl rfl rfl ?_
    refine ev_aload_n pm65 i65_23 rfl rfl rfl ?_
    refine ev_iload_n pm65 i65_24 rfl rfl rfl ?_
    obtain ⟨x10, e9, hS⟩ := bn_s hS
    refine ev_callV (sa := [.int s]) (rest := [.int s, .ref x7]) (st' := [.int x10, .int s, .ref x7]) (ls0 := [.ref l2, .int s, unk, unk]) (rv := some (.int x10)) pm65 i65_25 rfl rfl pm66 (by decide) (K_st_liftUnder e9) rfl rfl (Nat.le_of_ble_eq_true rfl) (by omega) rfl (R_st_liftUnder (d - 1) (by omega) e9) (by simp) rfl rfl ?_
    refine ev_aload_n pm65 i65_28 rfl rfl rfl ?_
    refine ev_iload_n pm65 i65_29 rfl rfl rfl ?_
    refine ev_aload_n pm65 i65_30 rfl rfl rfl ?_
    obtain ⟨x12, e11, hS⟩ := bn_s hS
    refine ev_callV (sa := [.ref l2, .int s]) (rest := [.int x10, .int s, .ref x7]) (st' := [.int x12, .int x10, .int s, .ref x7]) (ls0 := [.ref l1, .int s, .ref l2, unk, unk]) (rv := some (.int x12)) pm65 i65_31 rfl rfl pm67 (by decide) (K_to_weightAt e11) rfl rfl (Nat.le_of_ble_eq_true rfl) (by omega) rfl (R_to_weightAt (d - 1) (by omega) e11) (by simp) rfl rfl ?_
    refine ev_b2 (f := fun x y => x - y) pm65 i65_34 rfl (fun _ _ _ _ => rfl) rfl ?_
    obtain ⟨h13, e14, hS⟩ := bn_s hS
    refine ev_iast pm65 i65_35 rfl e14 rfl ?_
    refine ev_iinc (v := 1) (ls' := [.ref l0, .ref l1, .ref l2, .int (s + (1 : Int32))]) pm65 i65_36 rfl rfl (by decide) rfl rfl ?_
    refine ev_goto (t := 10) pm65 i65_39 rfl rfl ?_
    cases hS
    exact hK
  · rw [if_neg c4] at hS
    refine ev_icmp_ge_f (t := 42) pm65 i65_15 rfl c4 rfl rfl ?_
    refine ev_kls (ls' := [unk, unk, unk, unk]) pm65 i65_42 rfl rfl ?_
    cases hS
    exact hK
def F_ra_weigh (a0 : Nat) (a1 : Nat) (a2 : Nat) (h : Hp) : Option Hp :=
  ck h a0 6 (bn (gI h a1 10 1) fun x1 =>
  bn (pI h a0 6 0 x1) fun h3 =>
  bd (lp (B_ra_weigh_10 a0 a1 a2) FU (0 : Int32) h3) fun x15 h17 =>
  some h17)
set_option maxRecDepth 20000 in
theorem K_ra_weigh {a0 : Nat} {a1 : Nat} {a2 : Nat} {h : Hp} {h' : Hp} (hS : F_ra_weigh a0 a1 a2 h = some h') : kd h a0 = 6 := by
  unfold F_ra_weigh at hS
  exact (ck_s hS).1
set_option maxRecDepth 20000 in
theorem R_ra_weigh (d : Nat) (hd : 1 ≤ d) {a0 : Nat} {a1 : Nat} {a2 : Nat} {h : Hp} {h' : Hp} (hS : F_ra_weigh a0 a1 a2 h = some h') : Ev P d 65 (0, [.ref a0, .ref a1, .ref a2, unk], [], h) (none, h') := by
  unfold F_ra_weigh at hS
  replace hS := (ck_s hS).2
  refine ev_aload_n pm65 i65_0 rfl rfl rfl ?_
  refine ev_aload_n pm65 i65_1 rfl rfl rfl ?_
  obtain ⟨x1, e2, hS⟩ := bn_s hS
  refine ev_getI pm65 i65_2 rfl rfl (by decide) e2 rfl ?_
  obtain ⟨h3, e4, hS⟩ := bn_s hS
  refine ev_putI pm65 i65_5 rfl rfl rfl e4 rfl ?_
  refine ev_iconst (v := 0) pm65 i65_8 rfl (by decide) rfl ?_
  refine ev_istore_n (ls' := [.ref a0, .ref a1, .ref a2, .int (0 : Int32)]) pm65 i65_9 rfl (Nat.le_of_ble_eq_true rfl) rfl rfl ?_
  obtain ⟨x15, h17, e16, hS⟩ := bd_s hS
  refine L_ra_weigh_10 d (by omega) _ _ _ _ _ e16 _ ?_
  show Ev P d 65 (42, [unk, unk, unk, unk], [], h17) _
  cases hS
  exact ev_return pm65 i65_42 rfl rfl rfl
def B_ra_merge_2 (l0 : Nat) (l1 : Int32) (s : Int32) (h : Hp) : Option (((Int32) ⊕ (Unit)) × Hp) :=
  bn (gI h l0 6 0) fun x1 =>
  if s < x1 then
    (if ((l1 >>> (s &&& 31)) &&& (1 : Int32)) = (0 : Int32) then
      (some (.inl (s + (1 : Int32)), h))
    else
      (bn (gR h l0 6 2) fun x3 =>
      bn (sI h 100 x3 s l1) fun h5 =>
      some (.inl (s + (1 : Int32)), h5)))
  else
    (some (.inr (), h))
set_option maxRecDepth 20000 in
theorem L_ra_merge_2 (d : Nat) (hd : 0 ≤ d) {l0 : Nat} {l1 : Int32} : ∀ (n : Nat) (s : Int32) (h : Hp) (x : Unit) (hx : Hp), lp (B_ra_merge_2 l0 l1) n s h = some (x, hx) → ∀ r, Ev P d 69 (31, [unk, unk, unk], [], hx) r → Ev P d 69 (2, [.ref l0, .int l1, .int s], [], h) r := by
  refine lp_ev (G0 := fun (s : Int32) h r => Ev P d 69 (2, [.ref l0, .int l1, .int s], [], h) r) (X := fun (x : Unit) hx r => Ev P d 69 (31, [unk, unk, unk], [], hx) r) ?_
  intro s h y h9 hS r hK
  unfold B_ra_merge_2 at hS
  show Ev P d 69 (2, [.ref l0, .int l1, .int s], [], h) r
  refine ev_iload_n pm69 i69_2 rfl rfl rfl ?_
  refine ev_aload_n pm69 i69_3 rfl rfl rfl ?_
  obtain ⟨x1, e2, hS⟩ := bn_s hS
  refine ev_getI pm69 i69_4 rfl rfl (by decide) e2 rfl ?_
  by_cases c5 : s < x1
  · rw [if_pos c5] at hS
    refine ev_icmp_ge_t (t := 31) pm69 i69_7 rfl c5 rfl rfl ?_
    refine ev_iload_n pm69 i69_10 rfl rfl rfl ?_
    refine ev_iload_n pm69 i69_11 rfl rfl rfl ?_
    refine ev_b2 (f := fun x y => x >>> (y &&& 31)) pm69 i69_12 rfl (fun _ _ _ _ => rfl) rfl ?_
    refine ev_iconst (v := 1) pm69 i69_13 rfl (by decide) rfl ?_
    refine ev_b2 (f := fun x y => x &&& y) pm69 i69_14 rfl (fun _ _ _ _ => rfl) rfl ?_
    by_cases c6 : ((l1 >>> (s &&& 31)) &&& (1 : Int32)) = (0 : Int32)
    · rw [if_pos c6] at hS
      refine ev_if_eq_t (t := 25) pm69 i69_15 rfl c6 rfl rfl ?_
      refine ev_iinc (v := 1) (ls' := [.ref l0, .int l1, .int (s + (1 : Int32))]) pm69 i69_25 rfl rfl (by decide) rfl rfl ?_
      refine ev_goto (t := 2) pm69 i69_28 rfl rfl ?_
      cases hS
      exact hK
    · rw [if_neg c6] at hS
      refine ev_if_eq_f (t := 25) pm69 i69_15 rfl c6 rfl rfl ?_
      refine ev_aload_n pm69 i69_18 rfl rfl rfl ?_
      obtain ⟨x3, e4, hS⟩ := bn_s hS
      refine ev_getR pm69 i69_19 rfl rfl rfl e4 rfl ?_
      refine ev_iload_n pm69 i69_22 rfl rfl rfl ?_
      refine ev_iload_n pm69 i69_23 rfl rfl rfl ?_
      obtain ⟨h5, e6, hS⟩ := bn_s hS
      refine ev_iast pm69 i69_24 rfl e6 rfl ?_
      refine ev_iinc (v := 1) (ls' := [.ref l0, .int l1, .int (s + (1 : Int32))]) pm69 i69_25 rfl rfl (by decide) rfl rfl ?_
      refine ev_goto (t := 2) pm69 i69_28 rfl rfl ?_
      cases hS
      exact hK
  · rw [if_neg c5] at hS
    refine ev_icmp_ge_f (t := 31) pm69 i69_7 rfl c5 rfl rfl ?_
    refine ev_kls (ls' := [unk, unk, unk]) pm69 i69_31 rfl rfl ?_
    cases hS
    exact hK
def F_ra_merge (a0 : Nat) (a1 : Int32) (h : Hp) : Option Hp :=
  ck h a0 6 (bd (lp (B_ra_merge_2 a0 a1) FU (0 : Int32) h) fun x7 h9 =>
  some h9)
set_option maxRecDepth 20000 in
theorem K_ra_merge {a0 : Nat} {a1 : Int32} {h : Hp} {h' : Hp} (hS : F_ra_merge a0 a1 h = some h') : kd h a0 = 6 := by
  unfold F_ra_merge at hS
  exact (ck_s hS).1
set_option maxRecDepth 20000 in
theorem R_ra_merge (d : Nat) (hd : 0 ≤ d) {a0 : Nat} {a1 : Int32} {h : Hp} {h' : Hp} (hS : F_ra_merge a0 a1 h = some h') : Ev P d 69 (0, [.ref a0, .int a1, unk], [], h) (none, h') := by
  unfold F_ra_merge at hS
  replace hS := (ck_s hS).2
  refine ev_iconst (v := 0) pm69 i69_0 rfl (by decide) rfl ?_
  refine ev_istore_n (ls' := [.ref a0, .int a1, .int (0 : Int32)]) pm69 i69_1 rfl (Nat.le_of_ble_eq_true rfl) rfl rfl ?_
  obtain ⟨x7, h9, e8, hS⟩ := bd_s hS
  refine L_ra_merge_2 d (by omega) _ _ _ _ _ e8 _ ?_
  show Ev P d 69 (31, [unk, unk, unk], [], h9) _
  cases hS
  exact ev_return pm69 i69_31 rfl rfl rfl
def B_ra_join_2 (l0 : Nat) (l1 : Nat) (l2 : Int32) (s : Int32) (h : Hp) : Option (((Int32) ⊕ (Unit)) × Hp) :=
  bn (gI h l0 6 0) fun x1 =>
  if s < x1 then
    (bn (gR h l0 6 2) fun x3 =>
    bn (sI h 100 x3 s ((1 : Int32) <<< (s &&& 31))) fun h5 =>
    some (.inl (s + (1 : Int32)), h5))
  else
    (some (.inr (), h))
set_option maxRecDepth 20000 in
theorem L_ra_join_2 (d : Nat) (hd : 1 ≤ d) {l0 : Nat} {l1 : Nat} {l2 : Int32} : ∀ (n : Nat) (s : Int32) (h : Hp) (x : Unit) (hx : Hp), lp (B_ra_join_2 l0 l1 l2) n s h = some (x, hx) → ∀ r, Ev P d 68 (25, [.ref l0, .ref l1, .int l2, unk], [], hx) r → Ev P d 68 (2, [.ref l0, .ref l1, .int l2, .int s], [], h) r := by
  refine lp_ev (G0 := fun (s : Int32) h r => Ev P d 68 (2, [.ref l0, .ref l1, .int l2, .int s], [], h) r) (X := fun (x : Unit) hx r => Ev P d 68 (25, [.ref l0, .ref l1, .int l2, unk], [], hx) r) ?_
  intro s h y h9 hS r hK
  unfold B_ra_join_2 at hS
  show Ev P d 68 (2, [.ref l0, .ref l1, .int l2, .int s], [], h) r
  refine ev_iload_n pm68 i68_2 rfl rfl rfl ?_
  refine ev_aload_n pm68 i68_3 rfl rfl rfl ?_
  obtain ⟨x1, e2, hS⟩ := bn_s hS
  refine ev_getI pm68 i68_4 rfl rfl (by decide) e2 rfl ?_
  by_cases c7 : s < x1
  · rw [if_pos c7] at hS
    refine ev_icmp_ge_t (t := 25) pm68 i68_7 rfl c7 rfl rfl ?_
    refine ev_aload_n pm68 i68_10 rfl rfl rfl ?_
    obtain ⟨x3, e4, hS⟩ := bn_s hS
    refine ev_getR pm68 i68_11 rfl rfl rfl e4 rfl ?_
    refine ev_iload_n pm68 i68_14 rfl rfl rfl ?_
    refine ev_iconst (v := 1) pm68 i68_15 rfl (by decide) rfl ?_
    refine ev_iload_n pm68 i68_16 rfl rfl rfl ?_
    refine ev_b2 (f := fun x y => x <<< (y &&& 31)) pm68 i68_17 rfl (fun _ _ _ _ => rfl) rfl ?_
    obtain ⟨h5, e6, hS⟩ := bn_s hS
    refine ev_iast pm68 i68_18 rfl e6 rfl ?_
    refine ev_iinc (v := 1) (ls' := [.ref l0, .ref l1, .int l2, .int (s + (1 : Int32))]) pm68 i68_19 rfl rfl (by decide) rfl rfl ?_
    refine ev_goto (t := 2) pm68 i68_22 rfl rfl ?_
    cases hS
    exact hK
  · rw [if_neg c7] at hS
    refine ev_icmp_ge_f (t := 25) pm68 i68_7 rfl c7 rfl rfl ?_
    refine ev_kls (ls' := [.ref l0, .ref l1, .int l2, unk]) pm68 i68_25 rfl rfl ?_
    cases hS
    exact hK
def B_ra_join_27 (l0 : Nat) (l1 : Nat) (l2 : Int32) (s : Int32) (h : Hp) : Option (((Int32) ⊕ (Unit)) × Hp) :=
  bn (gI h l1 10 5) fun x10 =>
  if s < x10 then
    (if ((l2 >>> (s &&& 31)) &&& (1 : Int32)) = (0 : Int32) then
      (some (.inl (s + (1 : Int32)), h))
    else
      (bn (gR h l0 6 2) fun x12 =>
      bn (gR h l1 10 6) fun x14 =>
      bn (aI h 100 x14 s) fun x16 =>
      bn (aI h 100 x12 x16) fun x18 =>
      bn (gR h l0 6 2) fun x20 =>
      bn (gR h l1 10 7) fun x22 =>
      bn (aI h 100 x22 s) fun x24 =>
      bn (aI h 100 x20 x24) fun x26 =>
      bn (F_ra_merge l0 (x18 ||| x26) h) fun h29 =>
      some (.inl (s + (1 : Int32)), h29)))
  else
    (some (.inr (), h))
set_option maxRecDepth 20000 in
theorem L_ra_join_27 (d : Nat) (hd : 1 ≤ d) {l0 : Nat} {l1 : Nat} {l2 : Int32} : ∀ (n : Nat) (s : Int32) (h : Hp) (x : Unit) (hx : Hp), lp (B_ra_join_27 l0 l1 l2) n s h = some (x, hx) → ∀ r, Ev P d 68 (76, [unk, unk, unk, unk], [], hx) r → Ev P d 68 (27, [.ref l0, .ref l1, .int l2, .int s], [], h) r := by
  refine lp_ev (G0 := fun (s : Int32) h r => Ev P d 68 (27, [.ref l0, .ref l1, .int l2, .int s], [], h) r) (X := fun (x : Unit) hx r => Ev P d 68 (76, [unk, unk, unk, unk], [], hx) r) ?_
  intro s h y h9 hS r hK
  unfold B_ra_join_27 at hS
  show Ev P d 68 (27, [.ref l0, .ref l1, .int l2, .int s], [], h) r
  refine ev_iload_n pm68 i68_27 rfl rfl rfl ?_
  refine ev_aload_n pm68 i68_28 rfl rfl rfl ?_
  obtain ⟨x10, e11, hS⟩ := bn_s hS
  refine ev_getI pm68 i68_29 rfl rfl (by decide) e11 rfl ?_
  by_cases c8 : s < x10
  · rw [if_pos c8] at hS
    refine ev_icmp_ge_t (t := 76) pm68 i68_32 rfl c8 rfl rfl ?_
    refine ev_iload_n pm68 i68_35 rfl rfl rfl ?_
    refine ev_iload_n pm68 i68_36 rfl rfl rfl ?_
    refine ev_b2 (f := fun x y => x >>> (y &&& 31)) pm68 i68_37 rfl (fun _ _ _ _ => rfl) rfl ?_
    refine ev_iconst (v := 1) pm68 i68_38 rfl (by decide) rfl ?_
    refine ev_b2 (f := fun x y => x &&& y) pm68 i68_39 rfl (fun _ _ _ _ => rfl) rfl ?_
    by_cases c9 : ((l2 >>> (s &&& 31)) &&& (1 : Int32)) = (0 : Int32)
    · rw [if_pos c9] at hS
      refine ev_if_eq_t (t := 70) pm68 i68_40 rfl c9 rfl rfl ?_
      refine ev_iinc (v := 1) (ls' := [.ref l0, .ref l1, .int l2, .int (s + (1 : Int32))]) pm68 i68_70 rfl rfl (by decide) rfl rfl ?_
      refine ev_goto (t := 27) pm68 i68_73 rfl rfl ?_
      cases hS
      exact hK
    · rw [if_neg c9] at hS
      refine ev_if_eq_f (t := 70) pm68 i68_40 rfl c9 rfl rfl ?_
      refine ev_aload_n pm68 i68_43 rfl rfl rfl ?_
      refine ev_aload_n pm68 i68_44 rfl rfl rfl ?_
      obtain ⟨x12, e13, hS⟩ := bn_s hS
      refine ev_getR pm68 i68_45 rfl rfl rfl e13 rfl ?_
      refine ev_aload_n pm68 i68_48 rfl rfl rfl ?_
      obtain ⟨x14, e15, hS⟩ := bn_s hS
      refine ev_getR pm68 i68_49 rfl rfl rfl e15 rfl ?_
      refine ev_iload_n pm68 i68_52 rfl rfl rfl ?_
      obtain ⟨x16, e17, hS⟩ := bn_s hS
      refine ev_iald pm68 i68_53 rfl e17 rfl ?_
      obtain ⟨x18, e19, hS⟩ := bn_s hS
      refine ev_iald pm68 i68_54 rfl e19 rfl ?_
      refine ev_aload_n pm68 i68_55 rfl rfl rfl ?_
      obtain ⟨x20, e21, hS⟩ := bn_s hS
      refine ev_getR pm68 i68_56 rfl rfl rfl e21 rfl ?_
      refine ev_aload_n pm68 i68_59 rfl rfl rfl ?_
      obtain ⟨x22, e23, hS⟩ := bn_s hS
      refine ev_getR pm68 i68_60 rfl rfl rfl e23 rfl ?_
      refine ev_iload_n pm68 i68_63 rfl rfl rfl ?_
      obtain ⟨x24, e25, hS⟩ := bn_s hS
      refine ev_iald pm68 i68_64 rfl e25 rfl ?_
      obtain ⟨x26, e27, hS⟩ := bn_s hS
      refine ev_iald pm68 i68_65 rfl e27 rfl ?_
      refine ev_b2 (f := fun x y => x ||| y) pm68 i68_66 rfl (fun _ _ _ _ => rfl) rfl ?_
      obtain ⟨h29, e28, hS⟩ := bn_s hS
      refine ev_callV (sa := [.int (x18 ||| x26)]) (rest := []) (st' := []) (ls0 := [.ref l0, .int (x18 ||| x26), unk]) (rv := none) pm68 i68_67 rfl rfl pm69 (by decide) (K_ra_merge e28) rfl rfl (Nat.le_of_ble_eq_true rfl) (by omega) rfl (R_ra_merge (d - 1) (by omega) e28) (by simp) rfl rfl ?_
      refine ev_iinc (v := 1) (ls' := [.ref l0, .ref l1, .int l2, .int (s + (1 : Int32))]) pm68 i68_70 rfl rfl (by decide) rfl rfl ?_
      refine ev_goto (t := 27) pm68 i68_73 rfl rfl ?_
      cases hS
      exact hK
  · rw [if_neg c8] at hS
    refine ev_icmp_ge_f (t := 76) pm68 i68_32 rfl c8 rfl rfl ?_
    refine ev_kls (ls' := [unk, unk, unk, unk]) pm68 i68_76 rfl rfl ?_
    cases hS
    exact hK
def F_ra_join (a0 : Nat) (a1 : Nat) (a2 : Int32) (h : Hp) : Option Hp :=
  ck h a0 6 (bd (lp (B_ra_join_2 a0 a1 a2) FU (0 : Int32) h) fun x7 h9 =>
  bd (lp (B_ra_join_27 a0 a1 a2) FU (0 : Int32) h9) fun x30 h32 =>
  some h32)
set_option maxRecDepth 20000 in
theorem K_ra_join {a0 : Nat} {a1 : Nat} {a2 : Int32} {h : Hp} {h' : Hp} (hS : F_ra_join a0 a1 a2 h = some h') : kd h a0 = 6 := by
  unfold F_ra_join at hS
  exact (ck_s hS).1
set_option maxRecDepth 20000 in
theorem R_ra_join (d : Nat) (hd : 1 ≤ d) {a0 : Nat} {a1 : Nat} {a2 : Int32} {h : Hp} {h' : Hp} (hS : F_ra_join a0 a1 a2 h = some h') : Ev P d 68 (0, [.ref a0, .ref a1, .int a2, unk], [], h) (none, h') := by
  unfold F_ra_join at hS
  replace hS := (ck_s hS).2
  refine ev_iconst (v := 0) pm68 i68_0 rfl (by decide) rfl ?_
  refine ev_istore_n (ls' := [.ref a0, .ref a1, .int a2, .int (0 : Int32)]) pm68 i68_1 rfl (Nat.le_of_ble_eq_true rfl) rfl rfl ?_
  obtain ⟨x7, h9, e8, hS⟩ := bd_s hS
  refine L_ra_join_2 d (by omega) _ _ _ _ _ e8 _ ?_
  show Ev P d 68 (25, [.ref a0, .ref a1, .int a2, unk], [], h9) _
  refine ev_iconst (v := 0) pm68 i68_25 rfl (by decide) rfl ?_
  refine ev_istore_n (ls' := [.ref a0, .ref a1, .int a2, .int (0 : Int32)]) pm68 i68_26 rfl (Nat.le_of_ble_eq_true rfl) rfl rfl ?_
  obtain ⟨x30, h32, e31, hS⟩ := bd_s hS
  refine L_ra_join_27 d (by omega) _ _ _ _ _ e31 _ ?_
  show Ev P d 68 (76, [unk, unk, unk, unk], [], h32) _
  cases hS
  exact ev_return pm68 i68_76 rfl rfl rfl
def B_ra_firstOf_2 (l0 : Nat) (l1 : Int32) (h : Hp) (s : Int32) : Option ((Int32) ⊕ ((Unit) ⊕ Int32)) :=
  if s < l1 then
    (bn (gR h l0 6 2) fun x1 =>
    bn (aI h 100 x1 l1) fun x3 =>
    if ((x3 >>> (s &&& 31)) &&& (1 : Int32)) = (0 : Int32) then
      (some (.inl (s + (1 : Int32))))
    else
      (some (.inr (.inr s))))
  else
    (some (.inr (.inl ())))
set_option maxRecDepth 20000 in
theorem L_ra_firstOf_2 (d : Nat) (hd : 0 ≤ d) {l0 : Nat} {l1 : Int32} {h : Hp} : ∀ (n : Nat) (s : Int32) (x : (Unit) ⊕ Int32), lq (B_ra_firstOf_2 l0 l1 h) n s = some x → ∀ r, ei x (fun q => Ev P d 71 (28, [unk, .int l1, unk], [], h) r) (fun v => (some (.int v), h) = r) → Ev P d 71 (2, [.ref l0, .int l1, .int s], [], h) r := by
  refine lq_ev (G0 := fun (s : Int32) r => Ev P d 71 (2, [.ref l0, .int l1, .int s], [], h) r) (X := fun (x : (Unit) ⊕ Int32) r => ei x (fun q => Ev P d 71 (28, [unk, .int l1, unk], [], h) r) (fun v => (some (.int v), h) = r)) ?_
  intro s y hS r hK
  unfold B_ra_firstOf_2 at hS
  show Ev P d 71 (2, [.ref l0, .int l1, .int s], [], h) r
  refine ev_iload_n pm71 i71_2 rfl rfl rfl ?_
  refine ev_iload_n pm71 i71_3 rfl rfl rfl ?_
  by_cases c10 : s < l1
  · rw [if_pos c10] at hS
    refine ev_icmp_ge_t (t := 28) pm71 i71_4 rfl c10 rfl rfl ?_
    refine ev_aload_n pm71 i71_7 rfl rfl rfl ?_
    obtain ⟨x1, e2, hS⟩ := bn_s hS
    refine ev_getR pm71 i71_8 rfl rfl rfl e2 rfl ?_
    refine ev_iload_n pm71 i71_11 rfl rfl rfl ?_
    obtain ⟨x3, e4, hS⟩ := bn_s hS
    refine ev_iald pm71 i71_12 rfl e4 rfl ?_
    refine ev_iload_n pm71 i71_13 rfl rfl rfl ?_
    refine ev_b2 (f := fun x y => x >>> (y &&& 31)) pm71 i71_14 rfl (fun _ _ _ _ => rfl) rfl ?_
    refine ev_iconst (v := 1) pm71 i71_15 rfl (by decide) rfl ?_
    refine ev_b2 (f := fun x y => x &&& y) pm71 i71_16 rfl (fun _ _ _ _ => rfl) rfl ?_
    by_cases c11 : ((x3 >>> (s &&& 31)) &&& (1 : Int32)) = (0 : Int32)
    · rw [if_pos c11] at hS
      refine ev_if_eq_t (t := 22) pm71 i71_17 rfl c11 rfl rfl ?_
      refine ev_iinc (v := 1) (ls' := [.ref l0, .int l1, .int (s + (1 : Int32))]) pm71 i71_22 rfl rfl (by decide) rfl rfl ?_
      refine ev_goto (t := 2) pm71 i71_25 rfl rfl ?_
      cases hS
      exact hK
    · rw [if_neg c11] at hS
      refine ev_if_eq_f (t := 22) pm71 i71_17 rfl c11 rfl rfl ?_
      refine ev_iload_n pm71 i71_20 rfl rfl rfl ?_
      cases hS
      exact ev_ireturn pm71 i71_21 rfl rfl hK
  · rw [if_neg c10] at hS
    refine ev_icmp_ge_f (t := 28) pm71 i71_4 rfl c10 rfl rfl ?_
    refine ev_kls (ls' := [unk, .int l1, unk]) pm71 i71_28 rfl rfl ?_
    cases hS
    exact hK
def F_ra_firstOf (a0 : Nat) (a1 : Int32) (h : Hp) : Option Int32 :=
  ck h a0 6 (bn (lq (B_ra_firstOf_2 a0 a1 h) FU (0 : Int32)) fun x5 =>
  ei x5 (fun q7 =>
  some a1)
  (fun x8 => some x8))
set_option maxRecDepth 20000 in
theorem K_ra_firstOf {a0 : Nat} {a1 : Int32} {h : Hp} {v : Int32} (hS : F_ra_firstOf a0 a1 h = some v) : kd h a0 = 6 := by
  unfold F_ra_firstOf at hS
  exact (ck_s hS).1
set_option maxRecDepth 20000 in
theorem R_ra_firstOf (d : Nat) (hd : 0 ≤ d) {a0 : Nat} {a1 : Int32} {h : Hp} {v : Int32} (hS : F_ra_firstOf a0 a1 h = some v) : Ev P d 71 (0, [.ref a0, .int a1, unk], [], h) (some (.int v), h) := by
  unfold F_ra_firstOf at hS
  replace hS := (ck_s hS).2
  refine ev_iconst (v := 0) pm71 i71_0 rfl (by decide) rfl ?_
  refine ev_istore_n (ls' := [.ref a0, .int a1, .int (0 : Int32)]) pm71 i71_1 rfl (Nat.le_of_ble_eq_true rfl) rfl rfl ?_
  obtain ⟨x5, e6, hS⟩ := bn_s hS
  refine L_ra_firstOf_2 d (by omega) _ _ _ e6 _ ?_
  cases x5 with
  | inl q7 =>
    replace hS := ei_l hS
    show Ev P d 71 (28, [unk, .int a1, unk], [], h) _
    refine ev_iload_n pm71 i71_28 rfl rfl rfl ?_
    cases hS
    exact ev_ireturn pm71 i71_29 rfl rfl rfl
  | inr x8 =>
    replace hS := ei_r hS
    cases hS
    rfl
def F_in_bitCount (a0 : Int32) : Option Int32 :=
  some ((((((((a0 - (((a0.toUInt32 >>> ((1 : Int32).toUInt32 &&& Int32.toUInt32 31)).toInt32) &&& (1431655765 : Int32))) &&& (858993459 : Int32)) + ((((a0 - (((a0.toUInt32 >>> ((1 : Int32).toUInt32 &&& Int32.toUInt32 31)).toInt32) &&& (1431655765 : Int32))).toUInt32 >>> ((2 : Int32).toUInt32 &&& Int32.toUInt32 31)).toInt32) &&& (858993459 : Int32))) + (((((a0 - (((a0.toUInt32 >>> ((1 : Int32).toUInt32 &&& Int32.toUInt32 31)).toInt32) &&& (1431655765 : Int32))) &&& (858993459 : Int32)) + ((((a0 - (((a0.toUInt32 >>> ((1 : Int32).toUInt32 &&& Int32.toUInt32 31)).toInt32) &&& (1431655765 : Int32))).toUInt32 >>> ((2 : Int32).toUInt32 &&& Int32.toUInt32 31)).toInt32) &&& (858993459 : Int32))).toUInt32 >>> ((4 : Int32).toUInt32 &&& Int32.toUInt32 31)).toInt32)) &&& (252645135 : Int32)) + (((((((a0 - (((a0.toUInt32 >>> ((1 : Int32).toUInt32 &&& Int32.toUInt32 31)).toInt32) &&& (1431655765 : Int32))) &&& (858993459 : Int32)) + ((((a0 - (((a0.toUInt32 >>> ((1 : Int32).toUInt32 &&& Int32.toUInt32 31)).toInt32) &&& (1431655765 : Int32))).toUInt32 >>> ((2 : Int32).toUInt32 &&& Int32.toUInt32 31)).toInt32) &&& (858993459 : Int32))) + (((((a0 - (((a0.toUInt32 >>> ((1 : Int32).toUInt32 &&& Int32.toUInt32 31)).toInt32) &&& (1431655765 : Int32))) &&& (858993459 : Int32)) + ((((a0 - (((a0.toUInt32 >>> ((1 : Int32).toUInt32 &&& Int32.toUInt32 31)).toInt32) &&& (1431655765 : Int32))).toUInt32 >>> ((2 : Int32).toUInt32 &&& Int32.toUInt32 31)).toInt32) &&& (858993459 : Int32))).toUInt32 >>> ((4 : Int32).toUInt32 &&& Int32.toUInt32 31)).toInt32)) &&& (252645135 : Int32)).toUInt32 >>> ((8 : Int32).toUInt32 &&& Int32.toUInt32 31)).toInt32)) + ((((((((a0 - (((a0.toUInt32 >>> ((1 : Int32).toUInt32 &&& Int32.toUInt32 31)).toInt32) &&& (1431655765 : Int32))) &&& (858993459 : Int32)) + ((((a0 - (((a0.toUInt32 >>> ((1 : Int32).toUInt32 &&& Int32.toUInt32 31)).toInt32) &&& (1431655765 : Int32))).toUInt32 >>> ((2 : Int32).toUInt32 &&& Int32.toUInt32 31)).toInt32) &&& (858993459 : Int32))) + (((((a0 - (((a0.toUInt32 >>> ((1 : Int32).toUInt32 &&& Int32.toUInt32 31)).toInt32) &&& (1431655765 : Int32))) &&& (858993459 : Int32)) + ((((a0 - (((a0.toUInt32 >>> ((1 : Int32).toUInt32 &&& Int32.toUInt32 31)).toInt32) &&& (1431655765 : Int32))).toUInt32 >>> ((2 : Int32).toUInt32 &&& Int32.toUInt32 31)).toInt32) &&& (858993459 : Int32))).toUInt32 >>> ((4 : Int32).toUInt32 &&& Int32.toUInt32 31)).toInt32)) &&& (252645135 : Int32)) + (((((((a0 - (((a0.toUInt32 >>> ((1 : Int32).toUInt32 &&& Int32.toUInt32 31)).toInt32) &&& (1431655765 : Int32))) &&& (858993459 : Int32)) + ((((a0 - (((a0.toUInt32 >>> ((1 : Int32).toUInt32 &&& Int32.toUInt32 31)).toInt32) &&& (1431655765 : Int32))).toUInt32 >>> ((2 : Int32).toUInt32 &&& Int32.toUInt32 31)).toInt32) &&& (858993459 : Int32))) + (((((a0 - (((a0.toUInt32 >>> ((1 : Int32).toUInt32 &&& Int32.toUInt32 31)).toInt32) &&& (1431655765 : Int32))) &&& (858993459 : Int32)) + ((((a0 - (((a0.toUInt32 >>> ((1 : Int32).toUInt32 &&& Int32.toUInt32 31)).toInt32) &&& (1431655765 : Int32))).toUInt32 >>> ((2 : Int32).toUInt32 &&& Int32.toUInt32 31)).toInt32) &&& (858993459 : Int32))).toUInt32 >>> ((4 : Int32).toUInt32 &&& Int32.toUInt32 31)).toInt32)) &&& (252645135 : Int32)).toUInt32 >>> ((8 : Int32).toUInt32 &&& Int32.toUInt32 31)).toInt32)).toUInt32 >>> ((16 : Int32).toUInt32 &&& Int32.toUInt32 31)).toInt32)) &&& (63 : Int32))
set_option maxRecDepth 20000 in
theorem R_in_bitCount (d : Nat) (hd : 0 ≤ d) {a0 : Int32} {h : Hp} {v : Int32} (hS : F_in_bitCount a0 = some v) : Ev P d 73 (0, [.int a0], [], h) (some (.int v), h) := by
  unfold F_in_bitCount at hS
  refine ev_iload_n pm73 i73_0 rfl rfl rfl ?_
  refine ev_iload_n pm73 i73_1 rfl rfl rfl ?_
  refine ev_iconst (v := 1) pm73 i73_2 rfl (by decide) rfl ?_
  refine ev_b2 (f := fun x y => (x.toUInt32 >>> (y.toUInt32 &&& Int32.toUInt32 31)).toInt32) pm73 i73_3 rfl (fun _ _ _ _ => rfl) rfl ?_
  refine ev_ldc_w (v := .int (1431655765 : Int32)) pm73 i73_4 rfl rfl rfl ?_
  refine ev_b2 (f := fun x y => x &&& y) pm73 i73_7 rfl (fun _ _ _ _ => rfl) rfl ?_
  refine ev_b2 (f := fun x y => x - y) pm73 i73_8 rfl (fun _ _ _ _ => rfl) rfl ?_
  refine ev_istore_n (ls' := [.int (a0 - (((a0.toUInt32 >>> ((1 : Int32).toUInt32 &&& Int32.toUInt32 31)).toInt32) &&& (1431655765 : Int32)))]) pm73 i73_9 rfl (Nat.le_of_ble_eq_true rfl) rfl rfl ?_
  refine ev_iload_n pm73 i73_10 rfl rfl rfl ?_
  refine ev_ldc_w (v := .int (858993459 : Int32)) pm73 i73_11 rfl rfl rfl ?_
  refine ev_b2 (f := fun x y => x &&& y) pm73 i73_14 rfl (fun _ _ _ _ => rfl) rfl ?_
  refine ev_iload_n pm73 i73_15 rfl rfl rfl ?_
  refine ev_iconst (v := 2) pm73 i73_16 rfl (by decide) rfl ?_
  refine ev_b2 (f := fun x y => (x.toUInt32 >>> (y.toUInt32 &&& Int32.toUInt32 31)).toInt32) pm73 i73_17 rfl (fun _ _ _ _ => rfl) rfl ?_
  refine ev_ldc_w (v := .int (858993459 : Int32)) pm73 i73_18 rfl rfl rfl ?_
  refine ev_b2 (f := fun x y => x &&& y) pm73 i73_21 rfl (fun _ _ _ _ => rfl) rfl ?_
  refine ev_b2 (f := fun x y => x + y) pm73 i73_22 rfl (fun _ _ _ _ => rfl) rfl ?_
  refine ev_istore_n (ls' := [.int (((a0 - (((a0.toUInt32 >>> ((1 : Int32).toUInt32 &&& Int32.toUInt32 31)).toInt32) &&& (1431655765 : Int32))) &&& (858993459 : Int32)) + ((((a0 - (((a0.toUInt32 >>> ((1 : Int32).toUInt32 &&& Int32.toUInt32 31)).toInt32) &&& (1431655765 : Int32))).toUInt32 >>> ((2 : Int32).toUInt32 &&& Int32.toUInt32 31)).toInt32) &&& (858993459 : Int32)))]) pm73 i73_23 rfl (Nat.le_of_ble_eq_true rfl) rfl rfl ?_
  refine ev_iload_n pm73 i73_24 rfl rfl rfl ?_
  refine ev_iload_n pm73 i73_25 rfl rfl rfl ?_
  refine ev_iconst (v := 4) pm73 i73_26 rfl (by decide) rfl ?_
  refine ev_b2 (f := fun x y => (x.toUInt32 >>> (y.toUInt32 &&& Int32.toUInt32 31)).toInt32) pm73 i73_27 rfl (fun _ _ _ _ => rfl) rfl ?_
  refine ev_b2 (f := fun x y => x + y) pm73 i73_28 rfl (fun _ _ _ _ => rfl) rfl ?_
  refine ev_ldc_w (v := .int (252645135 : Int32)) pm73 i73_29 rfl rfl rfl ?_
  refine ev_b2 (f := fun x y => x &&& y) pm73 i73_32 rfl (fun _ _ _ _ => rfl) rfl ?_
  refine ev_istore_n (ls' := [.int (((((a0 - (((a0.toUInt32 >>> ((1 : Int32).toUInt32 &&& Int32.toUInt32 31)).toInt32) &&& (1431655765 : Int32))) &&& (858993459 : Int32)) + ((((a0 - (((a0.toUInt32 >>> ((1 : Int32).toUInt32 &&& Int32.toUInt32 31)).toInt32) &&& (1431655765 : Int32))).toUInt32 >>> ((2 : Int32).toUInt32 &&& Int32.toUInt32 31)).toInt32) &&& (858993459 : Int32))) + (((((a0 - (((a0.toUInt32 >>> ((1 : Int32).toUInt32 &&& Int32.toUInt32 31)).toInt32) &&& (1431655765 : Int32))) &&& (858993459 : Int32)) + ((((a0 - (((a0.toUInt32 >>> ((1 : Int32).toUInt32 &&& Int32.toUInt32 31)).toInt32) &&& (1431655765 : Int32))).toUInt32 >>> ((2 : Int32).toUInt32 &&& Int32.toUInt32 31)).toInt32) &&& (858993459 : Int32))).toUInt32 >>> ((4 : Int32).toUInt32 &&& Int32.toUInt32 31)).toInt32)) &&& (252645135 : Int32))]) pm73 i73_33 rfl (Nat.le_of_ble_eq_true rfl) rfl rfl ?_
  refine ev_iload_n pm73 i73_34 rfl rfl rfl ?_
  refine ev_iload_n pm73 i73_35 rfl rfl rfl ?_
  refine ev_bipush (v := 8) pm73 i73_36 rfl (by decide) rfl ?_
  refine ev_b2 (f := fun x y => (x.toUInt32 >>> (y.toUInt32 &&& Int32.toUInt32 31)).toInt32) pm73 i73_38 rfl (fun _ _ _ _ => rfl) rfl ?_
  refine ev_b2 (f := fun x y => x + y) pm73 i73_39 rfl (fun _ _ _ _ => rfl) rfl ?_
  refine ev_istore_n (ls' := [.int ((((((a0 - (((a0.toUInt32 >>> ((1 : Int32).toUInt32 &&& Int32.toUInt32 31)).toInt32) &&& (1431655765 : Int32))) &&& (858993459 : Int32)) + ((((a0 - (((a0.toUInt32 >>> ((1 : Int32).toUInt32 &&& Int32.toUInt32 31)).toInt32) &&& (1431655765 : Int32))).toUInt32 >>> ((2 : Int32).toUInt32 &&& Int32.toUInt32 31)).toInt32) &&& (858993459 : Int32))) + (((((a0 - (((a0.toUInt32 >>> ((1 : Int32).toUInt32 &&& Int32.toUInt32 31)).toInt32) &&& (1431655765 : Int32))) &&& (858993459 : Int32)) + ((((a0 - (((a0.toUInt32 >>> ((1 : Int32).toUInt32 &&& Int32.toUInt32 31)).toInt32) &&& (1431655765 : Int32))).toUInt32 >>> ((2 : Int32).toUInt32 &&& Int32.toUInt32 31)).toInt32) &&& (858993459 : Int32))).toUInt32 >>> ((4 : Int32).toUInt32 &&& Int32.toUInt32 31)).toInt32)) &&& (252645135 : Int32)) + (((((((a0 - (((a0.toUInt32 >>> ((1 : Int32).toUInt32 &&& Int32.toUInt32 31)).toInt32) &&& (1431655765 : Int32))) &&& (858993459 : Int32)) + ((((a0 - (((a0.toUInt32 >>> ((1 : Int32).toUInt32 &&& Int32.toUInt32 31)).toInt32) &&& (1431655765 : Int32))).toUInt32 >>> ((2 : Int32).toUInt32 &&& Int32.toUInt32 31)).toInt32) &&& (858993459 : Int32))) + (((((a0 - (((a0.toUInt32 >>> ((1 : Int32).toUInt32 &&& Int32.toUInt32 31)).toInt32) &&& (1431655765 : Int32))) &&& (858993459 : Int32)) + ((((a0 - (((a0.toUInt32 >>> ((1 : Int32).toUInt32 &&& Int32.toUInt32 31)).toInt32) &&& (1431655765 : Int32))).toUInt32 >>> ((2 : Int32).toUInt32 &&& Int32.toUInt32 31)).toInt32) &&& (858993459 : Int32))).toUInt32 >>> ((4 : Int32).toUInt32 &&& Int32.toUInt32 31)).toInt32)) &&& (252645135 : Int32)).toUInt32 >>> ((8 : Int32).toUInt32 &&& Int32.toUInt32 31)).toInt32))]) pm73 i73_40 rfl (Nat.le_of_ble_eq_true rfl) rfl rfl ?_
  refine ev_iload_n pm73 i73_41 rfl rfl rfl ?_
  refine ev_iload_n pm73 i73_42 rfl rfl rfl ?_
  refine ev_bipush (v := 16) pm73 i73_43 rfl (by decide) rfl ?_
  refine ev_b2 (f := fun x y => (x.toUInt32 >>> (y.toUInt32 &&& Int32.toUInt32 31)).toInt32) pm73 i73_45 rfl (fun _ _ _ _ => rfl) rfl ?_
  refine ev_b2 (f := fun x y => x + y) pm73 i73_46 rfl (fun _ _ _ _ => rfl) rfl ?_
  refine ev_istore_n (ls' := [.int (((((((a0 - (((a0.toUInt32 >>> ((1 : Int32).toUInt32 &&& Int32.toUInt32 31)).toInt32) &&& (1431655765 : Int32))) &&& (858993459 : Int32)) + ((((a0 - (((a0.toUInt32 >>> ((1 : Int32).toUInt32 &&& Int32.toUInt32 31)).toInt32) &&& (1431655765 : Int32))).toUInt32 >>> ((2 : Int32).toUInt32 &&& Int32.toUInt32 31)).toInt32) &&& (858993459 : Int32))) + (((((a0 - (((a0.toUInt32 >>> ((1 : Int32).toUInt32 &&& Int32.toUInt32 31)).toInt32) &&& (1431655765 : Int32))) &&& (858993459 : Int32)) + ((((a0 - (((a0.toUInt32 >>> ((1 : Int32).toUInt32 &&& Int32.toUInt32 31)).toInt32) &&& (1431655765 : Int32))).toUInt32 >>> ((2 : Int32).toUInt32 &&& Int32.toUInt32 31)).toInt32) &&& (858993459 : Int32))).toUInt32 >>> ((4 : Int32).toUInt32 &&& Int32.toUInt32 31)).toInt32)) &&& (252645135 : Int32)) + (((((((a0 - (((a0.toUInt32 >>> ((1 : Int32).toUInt32 &&& Int32.toUInt32 31)).toInt32) &&& (1431655765 : Int32))) &&& (858993459 : Int32)) + ((((a0 - (((a0.toUInt32 >>> ((1 : Int32).toUInt32 &&& Int32.toUInt32 31)).toInt32) &&& (1431655765 : Int32))).toUInt32 >>> ((2 : Int32).toUInt32 &&& Int32.toUInt32 31)).toInt32) &&& (858993459 : Int32))) + (((((a0 - (((a0.toUInt32 >>> ((1 : Int32).toUInt32 &&& Int32.toUInt32 31)).toInt32) &&& (1431655765 : Int32))) &&& (858993459 : Int32)) + ((((a0 - (((a0.toUInt32 >>> ((1 : Int32).toUInt32 &&& Int32.toUInt32 31)).toInt32) &&& (1431655765 : Int32))).toUInt32 >>> ((2 : Int32).toUInt32 &&& Int32.toUInt32 31)).toInt32) &&& (858993459 : Int32))).toUInt32 >>> ((4 : Int32).toUInt32 &&& Int32.toUInt32 31)).toInt32)) &&& (252645135 : Int32)).toUInt32 >>> ((8 : Int32).toUInt32 &&& Int32.toUInt32 31)).toInt32)) + ((((((((a0 - (((a0.toUInt32 >>> ((1 : Int32).toUInt32 &&& Int32.toUInt32 31)).toInt32) &&& (1431655765 : Int32))) &&& (858993459 : Int32)) + ((((a0 - (((a0.toUInt32 >>> ((1 : Int32).toUInt32 &&& Int32.toUInt32 31)).toInt32) &&& (1431655765 : Int32))).toUInt32 >>> ((2 : Int32).toUInt32 &&& Int32.toUInt32 31)).toInt32) &&& (858993459 : Int32))) + (((((a0 - (((a0.toUInt32 >>> ((1 : Int32).toUInt32 &&& Int32.toUInt32 31)).toInt32) &&& (1431655765 : Int32))) &&& (858993459 : Int32)) + ((((a0 - (((a0.toUInt32 >>> ((1 : Int32).toUInt32 &&& Int32.toUInt32 31)).toInt32) &&& (1431655765 : Int32))).toUInt32 >>> ((2 : Int32).toUInt32 &&& Int32.toUInt32 31)).toInt32) &&& (858993459 : Int32))).toUInt32 >>> ((4 : Int32).toUInt32 &&& Int32.toUInt32 31)).toInt32)) &&& (252645135 : Int32)) + (((((((a0 - (((a0.toUInt32 >>> ((1 : Int32).toUInt32 &&& Int32.toUInt32 31)).toInt32) &&& (1431655765 : Int32))) &&& (858993459 : Int32)) + ((((a0 - (((a0.toUInt32 >>> ((1 : Int32).toUInt32 &&& Int32.toUInt32 31)).toInt32) &&& (1431655765 : Int32))).toUInt32 >>> ((2 : Int32).toUInt32 &&& Int32.toUInt32 31)).toInt32) &&& (858993459 : Int32))) + (((((a0 - (((a0.toUInt32 >>> ((1 : Int32).toUInt32 &&& Int32.toUInt32 31)).toInt32) &&& (1431655765 : Int32))) &&& (858993459 : Int32)) + ((((a0 - (((a0.toUInt32 >>> ((1 : Int32).toUInt32 &&& Int32.toUInt32 31)).toInt32) &&& (1431655765 : Int32))).toUInt32 >>> ((2 : Int32).toUInt32 &&& Int32.toUInt32 31)).toInt32) &&& (858993459 : Int32))).toUInt32 >>> ((4 : Int32).toUInt32 &&& Int32.toUInt32 31)).toInt32)) &&& (252645135 : Int32)).toUInt32 >>> ((8 : Int32).toUInt32 &&& Int32.toUInt32 31)).toInt32)).toUInt32 >>> ((16 : Int32).toUInt32 &&& Int32.toUInt32 31)).toInt32))]) pm73 i73_47 rfl (Nat.le_of_ble_eq_true rfl) rfl rfl ?_
  refine ev_iload_n pm73 i73_48 rfl rfl rfl ?_
  refine ev_bipush (v := 63) pm73 i73_49 rfl (by decide) rfl ?_
  refine ev_b2 (f := fun x y => x &&& y) pm73 i73_51 rfl (fun _ _ _ _ => rfl) rfl ?_
  cases hS
  exact ev_ireturn pm73 i73_52 rfl rfl rfl
def F_ra_sizeOf (a0 : Nat) (a1 : Int32) (h : Hp) : Option Int32 :=
  ck h a0 6 (bn (gR h a0 6 2) fun x1 =>
  bn (aI h 100 x1 a1) fun x3 =>
  bn (F_in_bitCount x3) fun x6 =>
  some x6)
set_option maxRecDepth 20000 in
theorem K_ra_sizeOf {a0 : Nat} {a1 : Int32} {h : Hp} {v : Int32} (hS : F_ra_sizeOf a0 a1 h = some v) : kd h a0 = 6 := by
  unfold F_ra_sizeOf at hS
  exact (ck_s hS).1
set_option maxRecDepth 20000 in
theorem R_ra_sizeOf (d : Nat) (hd : 1 ≤ d) {a0 : Nat} {a1 : Int32} {h : Hp} {v : Int32} (hS : F_ra_sizeOf a0 a1 h = some v) : Ev P d 72 (0, [.ref a0, .int a1], [], h) (some (.int v), h) := by
  unfold F_ra_sizeOf at hS
  replace hS := (ck_s hS).2
  refine ev_aload_n pm72 i72_0 rfl rfl rfl ?_
  obtain ⟨x1, e2, hS⟩ := bn_s hS
  refine ev_getR pm72 i72_1 rfl rfl rfl e2 rfl ?_
  refine ev_iload_n pm72 i72_4 rfl rfl rfl ?_
  obtain ⟨x3, e4, hS⟩ := bn_s hS
  refine ev_iald pm72 i72_5 rfl e4 rfl ?_
  obtain ⟨x6, e5, hS⟩ := bn_s hS
  refine ev_callS (sa := [.int x3]) (rest := []) (st' := [.int x6]) (ls0 := [.int x3]) (rv := some (.int x6)) pm72 i72_6 rfl rfl pm73 (by decide) rfl rfl (Nat.le_of_ble_eq_true rfl) (by omega) rfl (R_in_bitCount (d - 1) (by omega) e5) (by simp) rfl rfl ?_
  cases hS
  exact ev_ireturn pm72 i72_9 rfl rfl rfl
def B_ra_totalOf_4 (l0 : Nat) (l1 : Int32) (h : Hp) (s : Int32 × Int32) : Option ((Int32 × Int32) ⊕ (Int32)) :=
  bn (gI h l0 6 0) fun x1 =>
  if s.2 < x1 then
    (bn (gR h l0 6 2) fun x3 =>
    bn (aI h 100 x3 l1) fun x5 =>
    if ((x5 >>> (s.2 &&& 31)) &&& (1 : Int32)) = (0 : Int32) then
      (some (.inl (s.1, s.2 + (1 : Int32))))
    else
      (bn (gR h l0 6 1) fun x7 =>
      bn (aI h 100 x7 s.2) fun x9 =>
      some (.inl (s.1 + x9, s.2 + (1 : Int32)))))
  else
    (some (.inr s.1))
set_option maxRecDepth 20000 in
theorem L_ra_totalOf_4 (d : Nat) (hd : 0 ≤ d) {l0 : Nat} {l1 : Int32} {h : Hp} : ∀ (n : Nat) (s : Int32 × Int32) (x : Int32), lq (B_ra_totalOf_4 l0 l1 h) n s = some x → ∀ r, Ev P d 74 (40, [unk, unk, .int x, unk], [], h) r → Ev P d 74 (4, [.ref l0, .int l1, .int s.1, .int s.2], [], h) r := by
  refine lq_ev (G0 := fun (s : Int32 × Int32) r => Ev P d 74 (4, [.ref l0, .int l1, .int s.1, .int s.2], [], h) r) (X := fun (x : Int32) r => Ev P d 74 (40, [unk, unk, .int x, unk], [], h) r) ?_
  intro s y hS r hK
  unfold B_ra_totalOf_4 at hS
  show Ev P d 74 (4, [.ref l0, .int l1, .int s.1, .int s.2], [], h) r
  refine ev_iload_n pm74 i74_4 rfl rfl rfl ?_
  refine ev_aload_n pm74 i74_5 rfl rfl rfl ?_
  obtain ⟨x1, e2, hS⟩ := bn_s hS
  refine ev_getI pm74 i74_6 rfl rfl (by decide) e2 rfl ?_
  by_cases c12 : s.2 < x1
  · rw [if_pos c12] at hS
    refine ev_icmp_ge_t (t := 40) pm74 i74_9 rfl c12 rfl rfl ?_
    refine ev_aload_n pm74 i74_12 rfl rfl rfl ?_
    obtain ⟨x3, e4, hS⟩ := bn_s hS
    refine ev_getR pm74 i74_13 rfl rfl rfl e4 rfl ?_
    refine ev_iload_n pm74 i74_16 rfl rfl rfl ?_
    obtain ⟨x5, e6, hS⟩ := bn_s hS
    refine ev_iald pm74 i74_17 rfl e6 rfl ?_
    refine ev_iload_n pm74 i74_18 rfl rfl rfl ?_
    refine ev_b2 (f := fun x y => x >>> (y &&& 31)) pm74 i74_19 rfl (fun _ _ _ _ => rfl) rfl ?_
    refine ev_iconst (v := 1) pm74 i74_20 rfl (by decide) rfl ?_
    refine ev_b2 (f := fun x y => x &&& y) pm74 i74_21 rfl (fun _ _ _ _ => rfl) rfl ?_
    by_cases c13 : ((x5 >>> (s.2 &&& 31)) &&& (1 : Int32)) = (0 : Int32)
    · rw [if_pos c13] at hS
      refine ev_if_eq_t (t := 34) pm74 i74_22 rfl c13 rfl rfl ?_
      refine ev_iinc (v := 1) (ls' := [.ref l0, .int l1, .int s.1, .int (s.2 + (1 : Int32))]) pm74 i74_34 rfl rfl (by decide) rfl rfl ?_
      refine ev_goto (t := 4) pm74 i74_37 rfl rfl ?_
      cases hS
      exact hK
    · rw [if_neg c13] at hS
      refine ev_if_eq_f (t := 34) pm74 i74_22 rfl c13 rfl rfl ?_
      refine ev_iload_n pm74 i74_25 rfl rfl rfl ?_
      refine ev_aload_n pm74 i74_26 rfl rfl rfl ?_
      obtain ⟨x7, e8, hS⟩ := bn_s hS
      refine ev_getR pm74 i74_27 rfl rfl rfl e8 rfl ?_
      refine ev_iload_n pm74 i74_30 rfl rfl rfl ?_
      obtain ⟨x9, e10, hS⟩ := bn_s hS
      refine ev_iald pm74 i74_31 rfl e10 rfl ?_
      refine ev_b2 (f := fun x y => x + y) pm74 i74_32 rfl (fun _ _ _ _ => rfl) rfl ?_
      refine ev_istore_n (ls' := [.ref l0, .int l1, .int (s.1 + x9), .int s.2]) pm74 i74_33 rfl (Nat.le_of_ble_eq_true rfl) rfl rfl ?_
      refine ev_iinc (v := 1) (ls' := [.ref l0, .int l1, .int (s.1 + x9), .int (s.2 + (1 : Int32))]) pm74 i74_34 rfl rfl (by decide) rfl rfl ?_
      refine ev_goto (t := 4) pm74 i74_37 rfl rfl ?_
      cases hS
      exact hK
  · rw [if_neg c12] at hS
    refine ev_icmp_ge_f (t := 40) pm74 i74_9 rfl c12 rfl rfl ?_
    refine ev_kls (ls' := [unk, unk, .int s.1, unk]) pm74 i74_40 rfl rfl ?_
    cases hS
    exact hK
def F_ra_totalOf (a0 : Nat) (a1 : Int32) (h : Hp) : Option Int32 :=
  ck h a0 6 (bn (lq (B_ra_totalOf_4 a0 a1 h) FU ((0 : Int32), (0 : Int32))) fun x11 =>
  some x11)
set_option maxRecDepth 20000 in
theorem K_ra_totalOf {a0 : Nat} {a1 : Int32} {h : Hp} {v : Int32} (hS : F_ra_totalOf a0 a1 h = some v) : kd h a0 = 6 := by
  unfold F_ra_totalOf at hS
  exact (ck_s hS).1
set_option maxRecDepth 20000 in
theorem R_ra_totalOf (d : Nat) (hd : 0 ≤ d) {a0 : Nat} {a1 : Int32} {h : Hp} {v : Int32} (hS : F_ra_totalOf a0 a1 h = some v) : Ev P d 74 (0, [.ref a0, .int a1, unk, unk], [], h) (some (.int v), h) := by
  unfold F_ra_totalOf at hS
  replace hS := (ck_s hS).2
  refine ev_iconst (v := 0) pm74 i74_0 rfl (by decide) rfl ?_
  refine ev_istore_n (ls' := [.ref a0, .int a1, .int (0 : Int32), unk]) pm74 i74_1 rfl (Nat.le_of_ble_eq_true rfl) rfl rfl ?_
  refine ev_iconst (v := 0) pm74 i74_2 rfl (by decide) rfl ?_
  refine ev_istore_n (ls' := [.ref a0, .int a1, .int (0 : Int32), .int (0 : Int32)]) pm74 i74_3 rfl (Nat.le_of_ble_eq_true rfl) rfl rfl ?_
  obtain ⟨x11, e12, hS⟩ := bn_s hS
  refine L_ra_totalOf_4 d (by omega) _ _ _ e12 _ ?_
  show Ev P d 74 (40, [unk, unk, .int x11, unk], [], h) _
  refine ev_iload_n pm74 i74_40 rfl rfl rfl ?_
  cases hS
  exact ev_ireturn pm74 i74_41 rfl rfl rfl
def F_ma_floorDiv (a0 : Int32) (a1 : Int32) : Option Int32 :=
  bn (dv a0 a1) fun x1 =>
  if (a0 ^^^ a1) < (0 : Int32) then
    (if (x1 * a1) = a0 then
      (some x1)
    else
      (some (x1 - (1 : Int32))))
  else
    (some x1)
set_option maxRecDepth 20000 in
theorem R_ma_floorDiv (d : Nat) (hd : 0 ≤ d) {a0 : Int32} {a1 : Int32} {h : Hp} {v : Int32} (hS : F_ma_floorDiv a0 a1 = some v) : Ev P d 75 (0, [.int a0, .int a1, unk], [], h) (some (.int v), h) := by
  unfold F_ma_floorDiv at hS
  refine ev_iload_n pm75 i75_0 rfl rfl rfl ?_
  refine ev_iload_n pm75 i75_1 rfl rfl rfl ?_
  obtain ⟨x1, e2, hS⟩ := bn_s hS
  refine ev_idiv pm75 i75_2 rfl e2 rfl ?_
  refine ev_istore_n (ls' := [.int a0, .int a1, .int x1]) pm75 i75_3 rfl (Nat.le_of_ble_eq_true rfl) rfl rfl ?_
  refine ev_iload_n pm75 i75_4 rfl rfl rfl ?_
  refine ev_iload_n pm75 i75_5 rfl rfl rfl ?_
  refine ev_b2 (f := fun x y => x ^^^ y) pm75 i75_6 rfl (fun _ _ _ _ => rfl) rfl ?_
  by_cases c14 : (a0 ^^^ a1) < (0 : Int32)
  · rw [if_pos c14] at hS
    refine ev_if_ge_t (t := 21) pm75 i75_7 rfl c14 rfl rfl ?_
    refine ev_iload_n pm75 i75_10 rfl rfl rfl ?_
    refine ev_iload_n pm75 i75_11 rfl rfl rfl ?_
    refine ev_b2 (f := fun x y => x * y) pm75 i75_12 rfl (fun _ _ _ _ => rfl) rfl ?_
    refine ev_iload_n pm75 i75_13 rfl rfl rfl ?_
    by_cases c15 : (x1 * a1) = a0
    · rw [if_pos c15] at hS
      refine ev_icmp_eq_t (t := 21) pm75 i75_14 rfl c15 rfl rfl ?_
      refine ev_kls (ls' := [unk, unk, .int x1]) pm75 i75_21 rfl rfl ?_
      refine ev_iload_n pm75 i75_21 rfl rfl rfl ?_
      cases hS
      exact ev_ireturn pm75 i75_22 rfl rfl rfl
    · rw [if_neg c15] at hS
      refine ev_icmp_eq_f (t := 21) pm75 i75_14 rfl c15 rfl rfl ?_
      refine ev_iload_n pm75 i75_17 rfl rfl rfl ?_
      refine ev_iconst (v := 1) pm75 i75_18 rfl (by decide) rfl ?_
      refine ev_b2 (f := fun x y => x - y) pm75 i75_19 rfl (fun _ _ _ _ => rfl) rfl ?_
      cases hS
      exact ev_ireturn pm75 i75_20 rfl rfl rfl
  · rw [if_neg c14] at hS
    refine ev_if_ge_f (t := 21) pm75 i75_7 rfl c14 rfl rfl ?_
    refine ev_kls (ls' := [unk, unk, .int x1]) pm75 i75_21 rfl rfl ?_
    refine ev_iload_n pm75 i75_21 rfl rfl rfl ?_
    cases hS
    exact ev_ireturn pm75 i75_22 rfl rfl rfl
def B_ra_level_2 (l0 : Nat) (s : Int32) (h : Hp) : Option (((Int32) ⊕ (Unit)) × Hp) :=
  bn (gI h l0 6 0) fun x1 =>
  if s < x1 then
    (bn (F_ra_firstOf l0 s h) fun x4 =>
    if x4 < s then
      (bn (gR h l0 6 3) fun x5 =>
      bn (gR h l0 6 3) fun x7 =>
      bn (aI h 100 x7 x4) fun x9 =>
      bn (sI h 100 x5 s x9) fun h11 =>
      some (.inl (s + (1 : Int32)), h11))
    else
      (bn (F_ra_sizeOf l0 s h) fun x14 =>
      bn (gR h l0 6 3) fun x15 =>
      if (0 : Int32) < x14 then
        (bn (F_ra_totalOf l0 s h) fun x18 =>
        bn (F_ma_floorDiv x18 x14) fun x20 =>
        bn (sI h 100 x15 s x20) fun h21 =>
        some (.inl (s + (1 : Int32)), h21))
      else
        (bn (sI h 100 x15 s (0 : Int32)) fun h23 =>
        some (.inl (s + (1 : Int32)), h23))))
  else
    (some (.inr (), h))
set_option maxRecDepth 20000 in
theorem L_ra_level_2 (d : Nat) (hd : 2 ≤ d) {l0 : Nat} : ∀ (n : Nat) (s : Int32) (h : Hp) (x : Unit) (hx : Hp), lp (B_ra_level_2 l0) n s h = some (x, hx) → ∀ r, Ev P d 70 (71, [unk, unk, unk, unk], [], hx) r → Ev P d 70 (2, [.ref l0, .int s, unk, unk], [], h) r := by
  refine lp_ev (G0 := fun (s : Int32) h r => Ev P d 70 (2, [.ref l0, .int s, unk, unk], [], h) r) (X := fun (x : Unit) hx r => Ev P d 70 (71, [unk, unk, unk, unk], [], hx) r) ?_
  intro s h y h9 hS r hK
  unfold B_ra_level_2 at hS
  show Ev P d 70 (2, [.ref l0, .int s, unk, unk], [], h) r
  refine ev_iload_n pm70 i70_2 rfl rfl rfl ?_
  refine ev_aload_n pm70 i70_3 rfl rfl rfl ?_
  obtain ⟨x1, e2, hS⟩ := bn_s hS
  refine ev_getI pm70 i70_4 rfl rfl (by decide) e2 rfl ?_
  by_cases c16 : s < x1
  · rw [if_pos c16] at hS
    refine ev_icmp_ge_t (t := 71) pm70 i70_7 rfl c16 rfl rfl ?_
    refine ev_aload_n pm70 i70_10 rfl rfl rfl ?_
    refine ev_iload_n pm70 i70_11 rfl rfl rfl ?_
    obtain ⟨x4, e3, hS⟩ := bn_s hS
    refine ev_callV (sa := [.int s]) (rest := []) (st' := [.int x4]) (ls0 := [.ref l0, .int s, unk]) (rv := some (.int x4)) pm70 i70_12 rfl rfl pm71 (by decide) (K_ra_firstOf e3) rfl rfl (Nat.le_of_ble_eq_true rfl) (by omega) rfl (R_ra_firstOf (d - 1) (by omega) e3) (by simp) rfl rfl ?_
    refine ev_istore_n (ls' := [.ref l0, .int s, .int x4, unk]) pm70 i70_15 rfl (Nat.le_of_ble_eq_true rfl) rfl rfl ?_
    refine ev_iload_n pm70 i70_16 rfl rfl rfl ?_
    refine ev_iload_n pm70 i70_17 rfl rfl rfl ?_
    by_cases c17 : x4 < s
    · rw [if_pos c17] at hS
      refine ev_icmp_ge_t (t := 36) pm70 i70_18 rfl c17 rfl rfl ?_
      refine ev_aload_n pm70 i70_21 rfl rfl rfl ?_
      obtain ⟨x5, e6, hS⟩ := bn_s hS
      refine ev_getR pm70 i70_22 rfl rfl rfl e6 rfl ?_
      refine ev_iload_n pm70 i70_25 rfl rfl rfl ?_
      refine ev_aload_n pm70 i70_26 rfl rfl rfl ?_
      obtain ⟨x7, e8, hS⟩ := bn_s hS
      refine ev_getR pm70 i70_27 rfl rfl rfl e8 rfl ?_
      refine ev_iload_n pm70 i70_30 rfl rfl rfl ?_
      obtain ⟨x9, e10, hS⟩ := bn_s hS
      refine ev_iald pm70 i70_31 rfl e10 rfl ?_
      obtain ⟨h11, e12, hS⟩ := bn_s hS
      refine ev_iast pm70 i70_32 rfl e12 rfl ?_
      refine ev_goto (t := 65) pm70 i70_33 rfl rfl ?_
      refine ev_kls (ls' := [.ref l0, .int s, unk, unk]) pm70 i70_65 rfl rfl ?_
      refine ev_iinc (v := 1) (ls' := [.ref l0, .int (s + (1 : Int32)), unk, unk]) pm70 i70_65 rfl rfl (by decide) rfl rfl ?_
      refine ev_goto (t := 2) pm70 i70_68 rfl rfl ?_
      cases hS
      exact hK
    · rw [if_neg c17] at hS
      refine ev_icmp_ge_f (t := 36) pm70 i70_18 rfl c17 rfl rfl ?_
      refine ev_aload_n pm70 i70_36 rfl rfl rfl ?_
      refine ev_iload_n pm70 i70_37 rfl rfl rfl ?_
      obtain ⟨x14, e13, hS⟩ := bn_s hS
      refine ev_callV (sa := [.int s]) (rest := []) (st' := [.int x14]) (ls0 := [.ref l0, .int s]) (rv := some (.int x14)) pm70 i70_38 rfl rfl pm72 (by decide) (K_ra_sizeOf e13) rfl rfl (Nat.le_of_ble_eq_true rfl) (by omega) rfl (R_ra_sizeOf (d - 1) (by omega) e13) (by simp) rfl rfl ?_
      refine ev_istore_n (ls' := [.ref l0, .int s, .int x4, .int x14]) pm70 i70_41 rfl (Nat.le_of_ble_eq_true rfl) rfl rfl ?_
      refine ev_aload_n pm70 i70_42 rfl rfl rfl ?_
      obtain ⟨x15, e16, hS⟩ := bn_s hS
      refine ev_getR pm70 i70_43 rfl rfl rfl e16 rfl ?_
      refine ev_iload_n pm70 i70_46 rfl rfl rfl ?_
      refine ev_iload_n pm70 i70_47 rfl rfl rfl ?_
      by_cases c18 : (0 : Int32) < x14
      · rw [if_pos c18] at hS
        refine ev_if_le_t (t := 63) pm70 i70_48 rfl c18 rfl rfl ?_
        refine ev_aload_n pm70 i70_51 rfl rfl rfl ?_
        refine ev_iload_n pm70 i70_52 rfl rfl rfl ?_
        obtain ⟨x18, e17, hS⟩ := bn_s hS
        refine ev_callV (sa := [.int s]) (rest := [.int s, .ref x15]) (st' := [.int x18, .int s, .ref x15]) (ls0 := [.ref l0, .int s, unk, unk]) (rv := some (.int x18)) pm70 i70_53 rfl rfl pm74 (by decide) (K_ra_totalOf e17) rfl rfl (Nat.le_of_ble_eq_true rfl) (by omega) rfl (R_ra_totalOf (d - 1) (by omega) e17) (by simp) rfl rfl ?_
        refine ev_iload_n pm70 i70_56 rfl rfl rfl ?_
        obtain ⟨x20, e19, hS⟩ := bn_s hS
        refine ev_callS (sa := [.int x14, .int x18]) (rest := [.int s, .ref x15]) (st' := [.int x20, .int s, .ref x15]) (ls0 := [.int x18, .int x14, unk]) (rv := some (.int x20)) pm70 i70_57 rfl rfl pm75 (by decide) rfl rfl (Nat.le_of_ble_eq_true rfl) (by omega) rfl (R_ma_floorDiv (d - 1) (by omega) e19) (by simp) rfl rfl ?_
        refine ev_goto (t := 64) pm70 i70_60 rfl rfl ?_
        refine ev_kls (ls' := [.ref l0, .int s, unk, unk]) pm70 i70_64 rfl rfl ?_
        obtain ⟨h21, e22, hS⟩ := bn_s hS
        refine ev_iast pm70 i70_64 rfl e22 rfl ?_
        refine ev_iinc (v := 1) (ls' := [.ref l0, .int (s + (1 : Int32)), unk, unk]) pm70 i70_65 rfl rfl (by decide) rfl rfl ?_
        refine ev_goto (t := 2) pm70 i70_68 rfl rfl ?_
        cases hS
        exact hK
      · rw [if_neg c18] at hS
        refine ev_if_le_f (t := 63) pm70 i70_48 rfl c18 rfl rfl ?_
        refine ev_iconst (v := 0) pm70 i70_63 rfl (by decide) rfl ?_
        refine ev_kls (ls' := [.ref l0, .int s, unk, unk]) pm70 i70_64 rfl rfl ?_
        obtain ⟨h23, e24, hS⟩ := bn_s hS
        refine ev_iast pm70 i70_64 rfl e24 rfl ?_
        refine ev_iinc (v := 1) (ls' := [.ref l0, .int (s + (1 : Int32)), unk, unk]) pm70 i70_65 rfl rfl (by decide) rfl rfl ?_
        refine ev_goto (t := 2) pm70 i70_68 rfl rfl ?_
        cases hS
        exact hK
  · rw [if_neg c16] at hS
    refine ev_icmp_ge_f (t := 71) pm70 i70_7 rfl c16 rfl rfl ?_
    refine ev_kls (ls' := [unk, unk, unk, unk]) pm70 i70_71 rfl rfl ?_
    cases hS
    exact hK
def F_ra_level (a0 : Nat) (h : Hp) : Option Hp :=
  ck h a0 6 (bd (lp (B_ra_level_2 a0) FU (0 : Int32) h) fun x25 h27 =>
  some h27)
set_option maxRecDepth 20000 in
theorem K_ra_level {a0 : Nat} {h : Hp} {h' : Hp} (hS : F_ra_level a0 h = some h') : kd h a0 = 6 := by
  unfold F_ra_level at hS
  exact (ck_s hS).1
set_option maxRecDepth 20000 in
theorem R_ra_level (d : Nat) (hd : 2 ≤ d) {a0 : Nat} {h : Hp} {h' : Hp} (hS : F_ra_level a0 h = some h') : Ev P d 70 (0, [.ref a0, unk, unk, unk], [], h) (none, h') := by
  unfold F_ra_level at hS
  replace hS := (ck_s hS).2
  refine ev_iconst (v := 0) pm70 i70_0 rfl (by decide) rfl ?_
  refine ev_istore_n (ls' := [.ref a0, .int (0 : Int32), unk, unk]) pm70 i70_1 rfl (Nat.le_of_ble_eq_true rfl) rfl rfl ?_
  obtain ⟨x25, h27, e26, hS⟩ := bd_s hS
  refine L_ra_level_2 d (by omega) _ _ _ _ _ e26 _ ?_
  show Ev P d 70 (71, [unk, unk, unk, unk], [], h27) _
  cases hS
  exact ev_return pm70 i70_71 rfl rfl rfl
def F_ra_measure (a0 : Nat) (a1 : Nat) (a2 : Nat) (h : Hp) : Option Hp :=
  ck h a0 6 (bn (F_ra_weigh a0 a1 a2 h) fun h2 =>
  bn (gI h2 a2 8 2) fun x3 =>
  bn (F_ra_join a0 a1 x3 h2) fun h6 =>
  bn (F_ra_level a0 h6) fun h8 =>
  some h8)
set_option maxRecDepth 20000 in
theorem K_ra_measure {a0 : Nat} {a1 : Nat} {a2 : Nat} {h : Hp} {h' : Hp} (hS : F_ra_measure a0 a1 a2 h = some h') : kd h a0 = 6 := by
  unfold F_ra_measure at hS
  exact (ck_s hS).1
set_option maxRecDepth 20000 in
theorem R_ra_measure (d : Nat) (hd : 3 ≤ d) {a0 : Nat} {a1 : Nat} {a2 : Nat} {h : Hp} {h' : Hp} (hS : F_ra_measure a0 a1 a2 h = some h') : Ev P d 64 (0, [.ref a0, .ref a1, .ref a2], [], h) (none, h') := by
  unfold F_ra_measure at hS
  replace hS := (ck_s hS).2
  refine ev_aload_n pm64 i64_0 rfl rfl rfl ?_
  refine ev_aload_n pm64 i64_1 rfl rfl rfl ?_
  refine ev_aload_n pm64 i64_2 rfl rfl rfl ?_
  obtain ⟨h2, e1, hS⟩ := bn_s hS
  refine ev_callV (sa := [.ref a2, .ref a1]) (rest := []) (st' := []) (ls0 := [.ref a0, .ref a1, .ref a2, unk]) (rv := none) pm64 i64_3 rfl rfl pm65 (by decide) (K_ra_weigh e1) rfl rfl (Nat.le_of_ble_eq_true rfl) (by omega) rfl (R_ra_weigh (d - 1) (by omega) e1) (by simp) rfl rfl ?_
  refine ev_aload_n pm64 i64_6 rfl rfl rfl ?_
  refine ev_aload_n pm64 i64_7 rfl rfl rfl ?_
  refine ev_aload_n pm64 i64_8 rfl rfl rfl ?_
  obtain ⟨x3, e4, hS⟩ := bn_s hS
  refine ev_getI pm64 i64_9 rfl rfl (by decide) e4 rfl ?_
  obtain ⟨h6, e5, hS⟩ := bn_s hS
  refine ev_callV (sa := [.int x3, .ref a1]) (rest := []) (st' := []) (ls0 := [.ref a0, .ref a1, .int x3, unk]) (rv := none) pm64 i64_12 rfl rfl pm68 (by decide) (K_ra_join e5) rfl rfl (Nat.le_of_ble_eq_true rfl) (by omega) rfl (R_ra_join (d - 1) (by omega) e5) (by simp) rfl rfl ?_
  refine ev_aload_n pm64 i64_15 rfl rfl rfl ?_
  obtain ⟨h8, e7, hS⟩ := bn_s hS
  refine ev_callV (sa := []) (rest := []) (st' := []) (ls0 := [.ref a0, unk, unk, unk]) (rv := none) pm64 i64_16 rfl rfl pm70 (by decide) (K_ra_level e7) rfl rfl (Nat.le_of_ble_eq_true rfl) (by omega) rfl (R_ra_level (d - 1) (by omega) e7) (by simp) rfl rfl ?_
  cases hS
  exact ev_return pm64 i64_19 rfl rfl rfl
def B_cs_led_19 (l0 : Nat) (h : Hp) (s : Int32 × Int32) : Option ((Int32 × Int32) ⊕ ((Unit) ⊕ Int32)) :=
  bn (gR h l0 11 3) fun x9 =>
  bn (gI h x9 10 1) fun x11 =>
  if s.2 < x11 then
    (if s.1 < (0 : Int32) then
      (some (.inr (.inl ())))
    else
      (bn (gR h l0 11 6) fun x13 =>
      bn (gR h x13 6 3) fun x15 =>
      bn (aI h 100 x15 s.2) fun x17 =>
      if x17 < (0 : Int32) then
        (if s.1 = (0 : Int32) then
          (some (.inr (.inr s.2)))
        else
          (some (.inl (s.1 + (-1 : Int32), s.2 + (1 : Int32)))))
      else
        (some (.inl (s.1, s.2 + (1 : Int32))))))
  else
    (some (.inr (.inl ())))
set_option maxRecDepth 20000 in
theorem L_cs_led_19 (d : Nat) (hd : 4 ≤ d) {l0 : Nat} {h : Hp} : ∀ (n : Nat) (s : Int32 × Int32) (x : (Unit) ⊕ Int32), lq (B_cs_led_19 l0 h) n s = some x → ∀ r, ei x (fun q => Ev P d 181 (61, [unk, unk, unk, unk], [], h) r) (fun v => (some (.int v), h) = r) → Ev P d 181 (19, [.ref l0, unk, .int s.1, .int s.2], [], h) r := by
  refine lq_ev (G0 := fun (s : Int32 × Int32) r => Ev P d 181 (19, [.ref l0, unk, .int s.1, .int s.2], [], h) r) (X := fun (x : (Unit) ⊕ Int32) r => ei x (fun q => Ev P d 181 (61, [unk, unk, unk, unk], [], h) r) (fun v => (some (.int v), h) = r)) ?_
  intro s y hS r hK
  unfold B_cs_led_19 at hS
  show Ev P d 181 (19, [.ref l0, unk, .int s.1, .int s.2], [], h) r
  refine ev_iload_n pm181 i181_19 rfl rfl rfl ?_
  refine ev_aload_n pm181 i181_20 rfl rfl rfl ?_
  obtain ⟨x9, e10, hS⟩ := bn_s hS
  refine ev_getR pm181 i181_21 rfl rfl rfl e10 rfl ?_
  obtain ⟨x11, e12, hS⟩ := bn_s hS
  refine ev_getI pm181 i181_24 rfl rfl (by decide) e12 rfl ?_
  by_cases c19 : s.2 < x11
  · rw [if_pos c19] at hS
    refine ev_icmp_ge_t (t := 61) pm181 i181_27 rfl c19 rfl rfl ?_
    refine ev_iload_n pm181 i181_30 rfl rfl rfl ?_
    by_cases c20 : s.1 < (0 : Int32)
    · rw [if_pos c20] at hS
      refine ev_if_lt_t (t := 61) pm181 i181_31 rfl c20 rfl rfl ?_
      refine ev_kls (ls' := [unk, unk, unk, unk]) pm181 i181_61 rfl rfl ?_
      cases hS
      exact hK
    · rw [if_neg c20] at hS
      refine ev_if_lt_f (t := 61) pm181 i181_31 rfl c20 rfl rfl ?_
      refine ev_aload_n pm181 i181_34 rfl rfl rfl ?_
      obtain ⟨x13, e14, hS⟩ := bn_s hS
      refine ev_getR pm181 i181_35 rfl rfl rfl e14 rfl ?_
      obtain ⟨x15, e16, hS⟩ := bn_s hS
      refine ev_getR pm181 i181_38 rfl rfl rfl e16 rfl ?_
      refine ev_iload_n pm181 i181_41 rfl rfl rfl ?_
      obtain ⟨x17, e18, hS⟩ := bn_s hS
      refine ev_iald pm181 i181_42 rfl e18 rfl ?_
      by_cases c21 : x17 < (0 : Int32)
      · rw [if_pos c21] at hS
        refine ev_if_ge_t (t := 55) pm181 i181_43 rfl c21 rfl rfl ?_
        refine ev_iload_n pm181 i181_46 rfl rfl rfl ?_
        by_cases c22 : s.1 = (0 : Int32)
        · rw [if_pos c22] at hS
          refine ev_if_ne_t (t := 52) pm181 i181_47 rfl c22 rfl rfl ?_
          refine ev_iload_n pm181 i181_50 rfl rfl rfl ?_
          cases hS
          exact ev_ireturn pm181 i181_51 rfl rfl hK
        · rw [if_neg c22] at hS
          refine ev_if_ne_f (t := 52) pm181 i181_47 rfl c22 rfl rfl ?_
          refine ev_iinc (v := -1) (ls' := [.ref l0, unk, .int (s.1 + (-1 : Int32)), .int s.2]) pm181 i181_52 rfl rfl (by decide) rfl rfl ?_
          refine ev_iinc (v := 1) (ls' := [.ref l0, unk, .int (s.1 + (-1 : Int32)), .int (s.2 + (1 : Int32))]) pm181 i181_55 rfl rfl (by decide) rfl rfl ?_
          refine ev_goto (t := 19) pm181 i181_58 rfl rfl ?_
          cases hS
          exact hK
      · rw [if_neg c21] at hS
        refine ev_if_ge_f (t := 55) pm181 i181_43 rfl c21 rfl rfl ?_
        refine ev_iinc (v := 1) (ls' := [.ref l0, unk, .int s.1, .int (s.2 + (1 : Int32))]) pm181 i181_55 rfl rfl (by decide) rfl rfl ?_
        refine ev_goto (t := 19) pm181 i181_58 rfl rfl ?_
        cases hS
        exact hK
  · rw [if_neg c19] at hS
    refine ev_icmp_ge_f (t := 61) pm181 i181_27 rfl c19 rfl rfl ?_
    refine ev_kls (ls' := [unk, unk, unk, unk]) pm181 i181_61 rfl rfl ?_
    cases hS
    exact hK
def F_cs_led (a0 : Nat) (a1 : Int32) (h : Hp) : Option (Option Int32 × Hp) :=
  ck h a0 11 (bn (gR h a0 11 6) fun x1 =>
  bn (gR h a0 11 3) fun x3 =>
  bn (gR h a0 11 4) fun x5 =>
  bn (F_ra_measure x1 x3 x5 h) fun h8 =>
  bn (lq (B_cs_led_19 a0 h8) FU (a1, (0 : Int32))) fun x19 =>
  ei x19 (fun q21 =>
  if cn h8 < 900000 then
    (some (none, mkX h8 6))
  else
    (none))
  (fun x22 => some (some x22, h8)))
set_option maxRecDepth 20000 in
theorem K_cs_led {a0 : Nat} {a1 : Int32} {h : Hp} {v : Option Int32} {h' : Hp} (hS : F_cs_led a0 a1 h = some (v, h')) : kd h a0 = 11 := by
  unfold F_cs_led at hS
  exact (ck_s hS).1
set_option maxRecDepth 20000 in
theorem R_cs_led (d : Nat) (hd : 4 ≤ d) {a0 : Nat} {a1 : Int32} {h : Hp} {v : Option Int32} {h' : Hp} (hS : F_cs_led a0 a1 h = some (v, h')) : Ev P d 181 (0, [.ref a0, .int a1, unk, unk], [], h) ((match v with | some x => some (.int x) | none => some (.retAddr 1)), h') := by
  unfold F_cs_led at hS
  replace hS := (ck_s hS).2
  refine ev_aload_n pm181 i181_0 rfl rfl rfl ?_
  obtain ⟨x1, e2, hS⟩ := bn_s hS
  refine ev_getR pm181 i181_1 rfl rfl rfl e2 rfl ?_
  refine ev_aload_n pm181 i181_4 rfl rfl rfl ?_
  obtain ⟨x3, e4, hS⟩ := bn_s hS
  refine ev_getR pm181 i181_5 rfl rfl rfl e4 rfl ?_
  refine ev_aload_n pm181 i181_8 rfl rfl rfl ?_
  obtain ⟨x5, e6, hS⟩ := bn_s hS
  refine ev_getR pm181 i181_9 rfl rfl rfl e6 rfl ?_
  obtain ⟨h8, e7, hS⟩ := bn_s hS
  refine ev_callV (sa := [.ref x5, .ref x3]) (rest := []) (st' := []) (ls0 := [.ref x1, .ref x3, .ref x5]) (rv := none) pm181 i181_12 rfl rfl pm64 (by decide) (K_ra_measure e7) rfl rfl (Nat.le_of_ble_eq_true rfl) (by omega) rfl (R_ra_measure (d - 1) (by omega) e7) (by simp) rfl rfl ?_
  refine ev_iload_n pm181 i181_15 rfl rfl rfl ?_
  refine ev_istore_n (ls' := [.ref a0, .int a1, .int a1, unk]) pm181 i181_16 rfl (Nat.le_of_ble_eq_true rfl) rfl rfl ?_
  refine ev_iconst (v := 0) pm181 i181_17 rfl (by decide) rfl ?_
  refine ev_istore_n (ls' := [.ref a0, .int a1, .int a1, .int (0 : Int32)]) pm181 i181_18 rfl (Nat.le_of_ble_eq_true rfl) rfl rfl ?_
  refine ev_kls (ls' := [.ref a0, unk, .int a1, .int (0 : Int32)]) pm181 i181_19 rfl rfl ?_
  obtain ⟨x19, e20, hS⟩ := bn_s hS
  refine L_cs_led_19 d (by omega) _ _ _ e20 _ ?_
  cases x19 with
  | inl q21 =>
    replace hS := ei_l hS
    show Ev P d 181 (61, [unk, unk, unk, unk], [], h8) _
    by_cases c23 : cn h8 < 900000
    · rw [if_pos c23] at hS
      cases hS
      exact ev_throw pm181 i181_61 rfl rfl rfl c23 rfl
    · rw [if_neg c23] at hS
      cases hS
  | inr x22 =>
    replace hS := ei_r hS
    cases hS
    rfl
def F_lw_led (a0 : Nat) (a1 : Int32) (a2 : Nat) (h : Hp) : Option (Int32 × Hp) :=
  bd (F_cs_led a0 a1 h) fun o h1 =>
  eo o (fun v => bn (sL h1 a2 (0 : Int32) v.toInt64) fun h2 => some ((0 : Int32), h2))
  (some ((1 : Int32), h1))
theorem R_lw_led (d : Nat) (hd : 5 ≤ d) {a0 : Nat} {a1 : Int32} {a2 : Nat} {h : Hp} {v : Int32} {h' : Hp} (hS : F_lw_led a0 a1 a2 h = some (v, h')) : Ev P d 0 (0, [.ref a0, .int a1, .ref a2, unk], [], h) (some (.int v), h') := by
  unfold F_lw_led at hS
  refine ev_aload_n pm0 i0_0 rfl rfl rfl ?_
  refine ev_iconst (v := 0) pm0 i0_1 rfl (by decide) rfl ?_
  refine ev_aload_n pm0 i0_2 rfl rfl rfl ?_
  refine ev_iload_n pm0 i0_3 rfl rfl rfl ?_
  obtain ⟨o, h1, e1, hS⟩ := bd_s hS
  cases o with
  | some x =>
    replace hS : (bn (sL h1 a2 (0 : Int32) x.toInt64) fun h2 => some ((0 : Int32), h2)) = _ := hS
    refine ev_callV (sa := [.int a1]) (rest := [.int (0 : Int32), .ref a2]) (st' := [.int x, .int (0 : Int32), .ref a2]) (ls0 := [.ref a0, .int a1, unk, unk]) (rv := some (.int x)) pm0 i0_4 rfl rfl pm181 (by decide) (K_cs_led e1) rfl rfl (Nat.le_of_ble_eq_true rfl) (by omega) rfl (R_cs_led (d - 1) (by omega) e1) (by simp) rfl rfl ?_
    refine ev_i2l pm0 i0_7 rfl rfl ?_
    obtain ⟨h2, e2, hS⟩ := bn_s hS
    refine ev_last pm0 i0_8 rfl e2 rfl ?_
    refine ev_goto (t := 15) pm0 i0_9 rfl rfl ?_
    refine ev_iconst (v := 0) pm0 i0_15 rfl (by decide) rfl ?_
    cases hS
    exact ev_ireturn pm0 i0_16 rfl rfl rfl
  | none =>
    replace hS : some ((1 : Int32), h1) = _ := hS
    refine ev_callX (sa := [.int a1]) (rest := [.int (0 : Int32), .ref a2]) (ls0 := [.ref a0, .int a1, unk, unk]) rfl pm0 i0_4 rfl rfl pm181 (by decide) (K_cs_led e1) rfl rfl (Nat.le_of_ble_eq_true rfl) (by omega) rfl (R_cs_led (d - 1) (by omega) e1) ?_
    refine ev_iconst (v := 1) pm0 i0_13 rfl (by decide) rfl ?_
    cases hS
    exact ev_ireturn pm0 i0_14 rfl rfl rfl
def F_tk_init (a0 : Nat) (h : Hp) : Option Hp :=
  bd (nA h 101 (0 : Int32)) fun x1 h2 =>
  bn (pR h2 a0 9 0 (some x1)) fun h4 =>
  some h4
set_option maxRecDepth 20000 in
theorem R_tk_init (d : Nat) (hd : 0 ≤ d) {a0 : Nat} {h : Hp} {h' : Hp} (hS : F_tk_init a0 h = some h') : Ev P d 4 (0, [.ref a0], [], h) (none, h') := by
  unfold F_tk_init at hS
  refine ev_aload_n pm4 i4_0 rfl rfl rfl ?_
  refine ev_objinit pm4 i4_1 rfl rfl (Nat.le_of_ble_eq_true rfl) rfl ?_
  refine ev_aload_n pm4 i4_4 rfl rfl rfl ?_
  refine ev_iconst (v := 0) pm4 i4_5 rfl (by decide) rfl ?_
  obtain ⟨x1, h2, e3, hS⟩ := bd_s hS
  refine ev_newB pm4 i4_6 rfl e3 rfl ?_
  obtain ⟨h4, e5, hS⟩ := bn_s hS
  refine ev_putR pm4 i4_8 rfl rfl rfl e5 rfl ?_
  cases hS
  exact ev_return pm4 i4_11 rfl rfl rfl
def F_hs_init (a0 : Nat) (h : Hp) : Option Hp :=
  bd (nA h 100 (4 : Int32)) fun x1 h2 =>
  bn (pR h2 a0 1 1 (some x1)) fun h4 =>
  bd (nA h4 100 (4 : Int32)) fun x6 h7 =>
  bn (pR h7 a0 1 2 (some x6)) fun h9 =>
  bd (nA h9 100 (4 : Int32)) fun x11 h12 =>
  bn (pR h12 a0 1 3 (some x11)) fun h14 =>
  bd (nA h14 100 (5 : Int32)) fun x16 h17 =>
  bn (pR h17 a0 1 5 (some x16)) fun h19 =>
  bd (nA h19 100 (5 : Int32)) fun x21 h22 =>
  bn (pR h22 a0 1 6 (some x21)) fun h24 =>
  some h24
set_option maxRecDepth 20000 in
theorem R_hs_init (d : Nat) (hd : 0 ≤ d) {a0 : Nat} {h : Hp} {h' : Hp} (hS : F_hs_init a0 h = some h') : Ev P d 6 (0, [.ref a0], [], h) (none, h') := by
  unfold F_hs_init at hS
  refine ev_aload_n pm6 i6_0 rfl rfl rfl ?_
  refine ev_objinit pm6 i6_1 rfl rfl (Nat.le_of_ble_eq_true rfl) rfl ?_
  refine ev_aload_n pm6 i6_4 rfl rfl rfl ?_
  refine ev_iconst (v := 4) pm6 i6_5 rfl (by decide) rfl ?_
  obtain ⟨x1, h2, e3, hS⟩ := bd_s hS
  refine ev_newI pm6 i6_6 rfl e3 rfl ?_
  obtain ⟨h4, e5, hS⟩ := bn_s hS
  refine ev_putR pm6 i6_8 rfl rfl rfl e5 rfl ?_
  refine ev_aload_n pm6 i6_11 rfl rfl rfl ?_
  refine ev_iconst (v := 4) pm6 i6_12 rfl (by decide) rfl ?_
  obtain ⟨x6, h7, e8, hS⟩ := bd_s hS
  refine ev_newI pm6 i6_13 rfl e8 rfl ?_
  obtain ⟨h9, e10, hS⟩ := bn_s hS
  refine ev_putR pm6 i6_15 rfl rfl rfl e10 rfl ?_
  refine ev_aload_n pm6 i6_18 rfl rfl rfl ?_
  refine ev_iconst (v := 4) pm6 i6_19 rfl (by decide) rfl ?_
  obtain ⟨x11, h12, e13, hS⟩ := bd_s hS
  refine ev_newI pm6 i6_20 rfl e13 rfl ?_
  obtain ⟨h14, e15, hS⟩ := bn_s hS
  refine ev_putR pm6 i6_22 rfl rfl rfl e15 rfl ?_
  refine ev_aload_n pm6 i6_25 rfl rfl rfl ?_
  refine ev_iconst (v := 5) pm6 i6_26 rfl (by decide) rfl ?_
  obtain ⟨x16, h17, e18, hS⟩ := bd_s hS
  refine ev_newI pm6 i6_27 rfl e18 rfl ?_
  obtain ⟨h19, e20, hS⟩ := bn_s hS
  refine ev_putR pm6 i6_29 rfl rfl rfl e20 rfl ?_
  refine ev_aload_n pm6 i6_32 rfl rfl rfl ?_
  refine ev_iconst (v := 5) pm6 i6_33 rfl (by decide) rfl ?_
  obtain ⟨x21, h22, e23, hS⟩ := bd_s hS
  refine ev_newI pm6 i6_34 rfl e23 rfl ?_
  obtain ⟨h24, e25, hS⟩ := bn_s hS
  refine ev_putR pm6 i6_36 rfl rfl rfl e25 rfl ?_
  cases hS
  exact ev_return pm6 i6_39 rfl rfl rfl
def F_to_init (a0 : Nat) (h : Hp) : Option Hp :=
  bd (nA h 100 (5 : Int32)) fun x1 h2 =>
  bn (pR h2 a0 10 3 (some x1)) fun h4 =>
  bd (nA h4 100 (25 : Int32)) fun x6 h7 =>
  bn (pR h7 a0 10 4 (some x6)) fun h9 =>
  bd (nA h9 100 (5 : Int32)) fun x11 h12 =>
  bn (pR h12 a0 10 6 (some x11)) fun h14 =>
  bd (nA h14 100 (5 : Int32)) fun x16 h17 =>
  bn (pR h17 a0 10 7 (some x16)) fun h19 =>
  bd (nA h19 100 (3 : Int32)) fun x21 h22 =>
  bn (pR h22 a0 10 9 (some x21)) fun h24 =>
  bd (nA h24 100 (3 : Int32)) fun x26 h27 =>
  bn (pR h27 a0 10 10 (some x26)) fun h29 =>
  bd (nA h29 100 (3 : Int32)) fun x31 h32 =>
  bn (pR h32 a0 10 12 (some x31)) fun h34 =>
  bd (nA h34 100 (3 : Int32)) fun x36 h37 =>
  bn (pR h37 a0 10 13 (some x36)) fun h39 =>
  bd (nA h39 100 (4 : Int32)) fun x41 h42 =>
  bn (pR h42 a0 10 15 (some x41)) fun h44 =>
  bd (nA h44 100 (4 : Int32)) fun x46 h47 =>
  bn (pR h47 a0 10 16 (some x46)) fun h49 =>
  bd (nA h49 100 (4 : Int32)) fun x51 h52 =>
  bn (pR h52 a0 10 17 (some x51)) fun h54 =>
  bd (nO h54 1) fun x56 h57 =>
  bn (F_hs_init x56 h57) fun h60 =>
  bn (pR h60 a0 10 18 (some x56)) fun h61 =>
  some h61
set_option maxRecDepth 20000 in
theorem R_to_init (d : Nat) (hd : 1 ≤ d) {a0 : Nat} {h : Hp} {h' : Hp} (hS : F_to_init a0 h = some h') : Ev P d 5 (0, [.ref a0], [], h) (none, h') := by
  unfold F_to_init at hS
  refine ev_aload_n pm5 i5_0 rfl rfl rfl ?_
  refine ev_objinit pm5 i5_1 rfl rfl (Nat.le_of_ble_eq_true rfl) rfl ?_
  refine ev_aload_n pm5 i5_4 rfl rfl rfl ?_
  refine ev_iconst (v := 5) pm5 i5_5 rfl (by decide) rfl ?_
  obtain ⟨x1, h2, e3, hS⟩ := bd_s hS
  refine ev_newI pm5 i5_6 rfl e3 rfl ?_
  obtain ⟨h4, e5, hS⟩ := bn_s hS
  refine ev_putR pm5 i5_8 rfl rfl rfl e5 rfl ?_
  refine ev_aload_n pm5 i5_11 rfl rfl rfl ?_
  refine ev_bipush (v := 25) pm5 i5_12 rfl (by decide) rfl ?_
  obtain ⟨x6, h7, e8, hS⟩ := bd_s hS
  refine ev_newI pm5 i5_14 rfl e8 rfl ?_
  obtain ⟨h9, e10, hS⟩ := bn_s hS
  refine ev_putR pm5 i5_16 rfl rfl rfl e10 rfl ?_
  refine ev_aload_n pm5 i5_19 rfl rfl rfl ?_
  refine ev_iconst (v := 5) pm5 i5_20 rfl (by decide) rfl ?_
  obtain ⟨x11, h12, e13, hS⟩ := bd_s hS
  refine ev_newI pm5 i5_21 rfl e13 rfl ?_
  obtain ⟨h14, e15, hS⟩ := bn_s hS
  refine ev_putR pm5 i5_23 rfl rfl rfl e15 rfl ?_
  refine ev_aload_n pm5 i5_26 rfl rfl rfl ?_
  refine ev_iconst (v := 5) pm5 i5_27 rfl (by decide) rfl ?_
  obtain ⟨x16, h17, e18, hS⟩ := bd_s hS
  refine ev_newI pm5 i5_28 rfl e18 rfl ?_
  obtain ⟨h19, e20, hS⟩ := bn_s hS
  refine ev_putR pm5 i5_30 rfl rfl rfl e20 rfl ?_
  refine ev_aload_n pm5 i5_33 rfl rfl rfl ?_
  refine ev_iconst (v := 3) pm5 i5_34 rfl (by decide) rfl ?_
  obtain ⟨x21, h22, e23, hS⟩ := bd_s hS
  refine ev_newI pm5 i5_35 rfl e23 rfl ?_
  obtain ⟨h24, e25, hS⟩ := bn_s hS
  refine ev_putR pm5 i5_37 rfl rfl rfl e25 rfl ?_
  refine ev_aload_n pm5 i5_40 rfl rfl rfl ?_
  refine ev_iconst (v := 3) pm5 i5_41 rfl (by decide) rfl ?_
  obtain ⟨x26, h27, e28, hS⟩ := bd_s hS
  refine ev_newI pm5 i5_42 rfl e28 rfl ?_
  obtain ⟨h29, e30, hS⟩ := bn_s hS
  refine ev_putR pm5 i5_44 rfl rfl rfl e30 rfl ?_
  refine ev_aload_n pm5 i5_47 rfl rfl rfl ?_
  refine ev_iconst (v := 3) pm5 i5_48 rfl (by decide) rfl ?_
  obtain ⟨x31, h32, e33, hS⟩ := bd_s hS
  refine ev_newI pm5 i5_49 rfl e33 rfl ?_
  obtain ⟨h34, e35, hS⟩ := bn_s hS
  refine ev_putR pm5 i5_51 rfl rfl rfl e35 rfl ?_
  refine ev_aload_n pm5 i5_54 rfl rfl rfl ?_
  refine ev_iconst (v := 3) pm5 i5_55 rfl (by decide) rfl ?_
  obtain ⟨x36, h37, e38, hS⟩ := bd_s hS
  refine ev_newI pm5 i5_56 rfl e38 rfl ?_
  obtain ⟨h39, e40, hS⟩ := bn_s hS
  refine ev_putR pm5 i5_58 rfl rfl rfl e40 rfl ?_
  refine ev_aload_n pm5 i5_61 rfl rfl rfl ?_
  refine ev_iconst (v := 4) pm5 i5_62 rfl (by decide) rfl ?_
  obtain ⟨x41, h42, e43, hS⟩ := bd_s hS
  refine ev_newI pm5 i5_63 rfl e43 rfl ?_
  obtain ⟨h44, e45, hS⟩ := bn_s hS
  refine ev_putR pm5 i5_65 rfl rfl rfl e45 rfl ?_
  refine ev_aload_n pm5 i5_68 rfl rfl rfl ?_
  refine ev_iconst (v := 4) pm5 i5_69 rfl (by decide) rfl ?_
  obtain ⟨x46, h47, e48, hS⟩ := bd_s hS
  refine ev_newI pm5 i5_70 rfl e48 rfl ?_
  obtain ⟨h49, e50, hS⟩ := bn_s hS
  refine ev_putR pm5 i5_72 rfl rfl rfl e50 rfl ?_
  refine ev_aload_n pm5 i5_75 rfl rfl rfl ?_
  refine ev_iconst (v := 4) pm5 i5_76 rfl (by decide) rfl ?_
  obtain ⟨x51, h52, e53, hS⟩ := bd_s hS
  refine ev_newI pm5 i5_77 rfl e53 rfl ?_
  obtain ⟨h54, e55, hS⟩ := bn_s hS
  refine ev_putR pm5 i5_79 rfl rfl rfl e55 rfl ?_
  refine ev_aload_n pm5 i5_82 rfl rfl rfl ?_
  obtain ⟨x56, h57, e58, hS⟩ := bd_s hS
  refine ev_new pm5 i5_83 rfl rfl (by decide) e58 rfl ?_
  refine ev_dup pm5 i5_86 rfl rfl rfl ?_
  obtain ⟨h60, e59, hS⟩ := bn_s hS
  refine ev_callI (sa := []) (rest := [.ref x56, .ref a0]) (st' := [.ref x56, .ref a0]) (ls0 := [.ref x56]) (rv := none) pm5 i5_87 rfl rfl (by decide) pm6 (by decide) rfl rfl (Nat.le_of_ble_eq_true rfl) (by omega) rfl (R_hs_init (d - 1) (by omega) e59) (by simp) rfl rfl ?_
  obtain ⟨h61, e62, hS⟩ := bn_s hS
  refine ev_putR pm5 i5_90 rfl rfl rfl e62 rfl ?_
  cases hS
  exact ev_return pm5 i5_93 rfl rfl rfl
def F_rd_init (a0 : Nat) (h : Hp) : Option Hp :=
  bd (nO h 9) fun x1 h2 =>
  bn (F_tk_init x1 h2) fun h5 =>
  bn (pR h5 a0 7 2 (some x1)) fun h6 =>
  bd (nO h6 10) fun x8 h9 =>
  bn (F_to_init x8 h9) fun h12 =>
  bn (pR h12 a0 7 3 (some x8)) fun h13 =>
  bd (nA h13 102 (11 : Int32)) fun x15 h16 =>
  bn (pR h16 a0 7 6 (some x15)) fun h18 =>
  bd (nA h18 100 (11 : Int32)) fun x20 h21 =>
  bn (pR h21 a0 7 7 (some x20)) fun h23 =>
  bd (nA h23 100 (11 : Int32)) fun x25 h26 =>
  bn (pR h26 a0 7 8 (some x25)) fun h28 =>
  some h28
set_option maxRecDepth 20000 in
theorem R_rd_init (d : Nat) (hd : 2 ≤ d) {a0 : Nat} {h : Hp} {h' : Hp} (hS : F_rd_init a0 h = some h') : Ev P d 3 (0, [.ref a0], [], h) (none, h') := by
  unfold F_rd_init at hS
  refine ev_aload_n pm3 i3_0 rfl rfl rfl ?_
  refine ev_objinit pm3 i3_1 rfl rfl (Nat.le_of_ble_eq_true rfl) rfl ?_
  refine ev_aload_n pm3 i3_4 rfl rfl rfl ?_
  obtain ⟨x1, h2, e3, hS⟩ := bd_s hS
  refine ev_new pm3 i3_5 rfl rfl (by decide) e3 rfl ?_
  refine ev_dup pm3 i3_8 rfl rfl rfl ?_
  obtain ⟨h5, e4, hS⟩ := bn_s hS
  refine ev_callI (sa := []) (rest := [.ref x1, .ref a0]) (st' := [.ref x1, .ref a0]) (ls0 := [.ref x1]) (rv := none) pm3 i3_9 rfl rfl (by decide) pm4 (by decide) rfl rfl (Nat.le_of_ble_eq_true rfl) (by omega) rfl (R_tk_init (d - 1) (by omega) e4) (by simp) rfl rfl ?_
  obtain ⟨h6, e7, hS⟩ := bn_s hS
  refine ev_putR pm3 i3_12 rfl rfl rfl e7 rfl ?_
  refine ev_aload_n pm3 i3_15 rfl rfl rfl ?_
  obtain ⟨x8, h9, e10, hS⟩ := bd_s hS
  refine ev_new pm3 i3_16 rfl rfl (by decide) e10 rfl ?_
  refine ev_dup pm3 i3_19 rfl rfl rfl ?_
  obtain ⟨h12, e11, hS⟩ := bn_s hS
  refine ev_callI (sa := []) (rest := [.ref x8, .ref a0]) (st' := [.ref x8, .ref a0]) (ls0 := [.ref x8]) (rv := none) pm3 i3_20 rfl rfl (by decide) pm5 (by decide) rfl rfl (Nat.le_of_ble_eq_true rfl) (by omega) rfl (R_to_init (d - 1) (by omega) e11) (by simp) rfl rfl ?_
  obtain ⟨h13, e14, hS⟩ := bn_s hS
  refine ev_putR pm3 i3_23 rfl rfl rfl e14 rfl ?_
  refine ev_aload_n pm3 i3_26 rfl rfl rfl ?_
  refine ev_bipush (v := 11) pm3 i3_27 rfl (by decide) rfl ?_
  obtain ⟨x15, h16, e17, hS⟩ := bd_s hS
  refine ev_newJ pm3 i3_29 rfl e17 rfl ?_
  obtain ⟨h18, e19, hS⟩ := bn_s hS
  refine ev_putR pm3 i3_31 rfl rfl rfl e19 rfl ?_
  refine ev_aload_n pm3 i3_34 rfl rfl rfl ?_
  refine ev_bipush (v := 11) pm3 i3_35 rfl (by decide) rfl ?_
  obtain ⟨x20, h21, e22, hS⟩ := bd_s hS
  refine ev_newI pm3 i3_37 rfl e22 rfl ?_
  obtain ⟨h23, e24, hS⟩ := bn_s hS
  refine ev_putR pm3 i3_39 rfl rfl rfl e24 rfl ?_
  refine ev_aload_n pm3 i3_42 rfl rfl rfl ?_
  refine ev_bipush (v := 11) pm3 i3_43 rfl (by decide) rfl ?_
  obtain ⟨x25, h26, e27, hS⟩ := bd_s hS
  refine ev_newI pm3 i3_45 rfl e27 rfl ?_
  obtain ⟨h28, e29, hS⟩ := bn_s hS
  refine ev_putR pm3 i3_47 rfl rfl rfl e29 rfl ?_
  cases hS
  exact ev_return pm3 i3_50 rfl rfl rfl
def F_st_init (a0 : Nat) (h : Hp) : Option Hp :=
  bd (nA h 100 (25 : Int32)) fun x1 h2 =>
  bn (pR h2 a0 8 0 (some x1)) fun h4 =>
  bd (nA h4 100 (3 : Int32)) fun x6 h7 =>
  bn (pR h7 a0 8 1 (some x6)) fun h9 =>
  some h9
set_option maxRecDepth 20000 in
theorem R_st_init (d : Nat) (hd : 0 ≤ d) {a0 : Nat} {h : Hp} {h' : Hp} (hS : F_st_init a0 h = some h') : Ev P d 7 (0, [.ref a0], [], h) (none, h') := by
  unfold F_st_init at hS
  refine ev_aload_n pm7 i7_0 rfl rfl rfl ?_
  refine ev_objinit pm7 i7_1 rfl rfl (Nat.le_of_ble_eq_true rfl) rfl ?_
  refine ev_aload_n pm7 i7_4 rfl rfl rfl ?_
  refine ev_bipush (v := 25) pm7 i7_5 rfl (by decide) rfl ?_
  obtain ⟨x1, h2, e3, hS⟩ := bd_s hS
  refine ev_newI pm7 i7_7 rfl e3 rfl ?_
  obtain ⟨h4, e5, hS⟩ := bn_s hS
  refine ev_putR pm7 i7_9 rfl rfl rfl e5 rfl ?_
  refine ev_aload_n pm7 i7_12 rfl rfl rfl ?_
  refine ev_iconst (v := 3) pm7 i7_13 rfl (by decide) rfl ?_
  obtain ⟨x6, h7, e8, hS⟩ := bd_s hS
  refine ev_newI pm7 i7_14 rfl e8 rfl ?_
  obtain ⟨h9, e10, hS⟩ := bn_s hS
  refine ev_putR pm7 i7_16 rfl rfl rfl e10 rfl ?_
  cases hS
  exact ev_return pm7 i7_19 rfl rfl rfl
def F_ra_init (a0 : Nat) (h : Hp) : Option Hp :=
  bd (nA h 100 (5 : Int32)) fun x1 h2 =>
  bn (pR h2 a0 6 1 (some x1)) fun h4 =>
  bd (nA h4 100 (5 : Int32)) fun x6 h7 =>
  bn (pR h7 a0 6 2 (some x6)) fun h9 =>
  bd (nA h9 100 (5 : Int32)) fun x11 h12 =>
  bn (pR h12 a0 6 3 (some x11)) fun h14 =>
  some h14
set_option maxRecDepth 20000 in
theorem R_ra_init (d : Nat) (hd : 0 ≤ d) {a0 : Nat} {h : Hp} {h' : Hp} (hS : F_ra_init a0 h = some h') : Ev P d 8 (0, [.ref a0], [], h) (none, h') := by
  unfold F_ra_init at hS
  refine ev_aload_n pm8 i8_0 rfl rfl rfl ?_
  refine ev_objinit pm8 i8_1 rfl rfl (Nat.le_of_ble_eq_true rfl) rfl ?_
  refine ev_aload_n pm8 i8_4 rfl rfl rfl ?_
  refine ev_iconst (v := 5) pm8 i8_5 rfl (by decide) rfl ?_
  obtain ⟨x1, h2, e3, hS⟩ := bd_s hS
  refine ev_newI pm8 i8_6 rfl e3 rfl ?_
  obtain ⟨h4, e5, hS⟩ := bn_s hS
  refine ev_putR pm8 i8_8 rfl rfl rfl e5 rfl ?_
  refine ev_aload_n pm8 i8_11 rfl rfl rfl ?_
  refine ev_iconst (v := 5) pm8 i8_12 rfl (by decide) rfl ?_
  obtain ⟨x6, h7, e8, hS⟩ := bd_s hS
  refine ev_newI pm8 i8_13 rfl e8 rfl ?_
  obtain ⟨h9, e10, hS⟩ := bn_s hS
  refine ev_putR pm8 i8_15 rfl rfl rfl e10 rfl ?_
  refine ev_aload_n pm8 i8_18 rfl rfl rfl ?_
  refine ev_iconst (v := 5) pm8 i8_19 rfl (by decide) rfl ?_
  obtain ⟨x11, h12, e13, hS⟩ := bd_s hS
  refine ev_newI pm8 i8_20 rfl e13 rfl ?_
  obtain ⟨h14, e15, hS⟩ := bn_s hS
  refine ev_putR pm8 i8_22 rfl rfl rfl e15 rfl ?_
  cases hS
  exact ev_return pm8 i8_25 rfl rfl rfl
def F_me_init (a0 : Nat) (h : Hp) : Option Hp :=
  bd (nA h 100 (496 : Int32)) fun x1 h2 =>
  bn (pR h2 a0 3 0 (some x1)) fun h4 =>
  bd (nA h4 100 (93 : Int32)) fun x6 h7 =>
  bn (pR h7 a0 3 1 (some x6)) fun h9 =>
  some h9
set_option maxRecDepth 20000 in
theorem R_me_init (d : Nat) (hd : 0 ≤ d) {a0 : Nat} {h : Hp} {h' : Hp} (hS : F_me_init a0 h = some h') : Ev P d 9 (0, [.ref a0], [], h) (none, h') := by
  unfold F_me_init at hS
  refine ev_aload_n pm9 i9_0 rfl rfl rfl ?_
  refine ev_objinit pm9 i9_1 rfl rfl (Nat.le_of_ble_eq_true rfl) rfl ?_
  refine ev_aload_n pm9 i9_4 rfl rfl rfl ?_
  refine ev_sipush (v := 496) pm9 i9_5 rfl (by decide) rfl ?_
  obtain ⟨x1, h2, e3, hS⟩ := bd_s hS
  refine ev_newI pm9 i9_8 rfl e3 rfl ?_
  obtain ⟨h4, e5, hS⟩ := bn_s hS
  refine ev_putR pm9 i9_10 rfl rfl rfl e5 rfl ?_
  refine ev_aload_n pm9 i9_13 rfl rfl rfl ?_
  refine ev_bipush (v := 93) pm9 i9_14 rfl (by decide) rfl ?_
  obtain ⟨x6, h7, e8, hS⟩ := bd_s hS
  refine ev_newI pm9 i9_16 rfl e8 rfl ?_
  obtain ⟨h9, e10, hS⟩ := bn_s hS
  refine ev_putR pm9 i9_18 rfl rfl rfl e10 rfl ?_
  cases hS
  exact ev_return pm9 i9_21 rfl rfl rfl
def F_pl_init (a0 : Nat) (h : Hp) : Option Hp :=
  bd (nO h 6) fun x1 h2 =>
  bn (F_ra_init x1 h2) fun h5 =>
  bn (pR h5 a0 5 1 (some x1)) fun h6 =>
  bd (nO h6 8) fun x8 h9 =>
  bn (F_st_init x8 h9) fun h12 =>
  bn (pR h12 a0 5 2 (some x8)) fun h13 =>
  bd (nA h13 100 (20 : Int32)) fun x15 h16 =>
  bn (pR h16 a0 5 4 (some x15)) fun h18 =>
  bd (nA h18 100 (3 : Int32)) fun x20 h21 =>
  bn (pR h21 a0 5 5 (some x20)) fun h23 =>
  bd (nA h23 100 (3 : Int32)) fun x25 h26 =>
  bn (pR h26 a0 5 6 (some x25)) fun h28 =>
  bd (nA h28 100 (3 : Int32)) fun x30 h31 =>
  bn (pR h31 a0 5 7 (some x30)) fun h33 =>
  bd (nA h33 100 (3 : Int32)) fun x35 h36 =>
  bn (pR h36 a0 5 8 (some x35)) fun h38 =>
  some h38
set_option maxRecDepth 20000 in
theorem R_pl_init (d : Nat) (hd : 1 ≤ d) {a0 : Nat} {h : Hp} {h' : Hp} (hS : F_pl_init a0 h = some h') : Ev P d 10 (0, [.ref a0], [], h) (none, h') := by
  unfold F_pl_init at hS
  refine ev_aload_n pm10 i10_0 rfl rfl rfl ?_
  refine ev_objinit pm10 i10_1 rfl rfl (Nat.le_of_ble_eq_true rfl) rfl ?_
  refine ev_aload_n pm10 i10_4 rfl rfl rfl ?_
  obtain ⟨x1, h2, e3, hS⟩ := bd_s hS
  refine ev_new pm10 i10_5 rfl rfl (by decide) e3 rfl ?_
  refine ev_dup pm10 i10_8 rfl rfl rfl ?_
  obtain ⟨h5, e4, hS⟩ := bn_s hS
  refine ev_callI (sa := []) (rest := [.ref x1, .ref a0]) (st' := [.ref x1, .ref a0]) (ls0 := [.ref x1]) (rv := none) pm10 i10_9 rfl rfl (by decide) pm8 (by decide) rfl rfl (Nat.le_of_ble_eq_true rfl) (by omega) rfl (R_ra_init (d - 1) (by omega) e4) (by simp) rfl rfl ?_
  obtain ⟨h6, e7, hS⟩ := bn_s hS
  refine ev_putR pm10 i10_12 rfl rfl rfl e7 rfl ?_
  refine ev_aload_n pm10 i10_15 rfl rfl rfl ?_
  obtain ⟨x8, h9, e10, hS⟩ := bd_s hS
  refine ev_new pm10 i10_16 rfl rfl (by decide) e10 rfl ?_
  refine ev_dup pm10 i10_19 rfl rfl rfl ?_
  obtain ⟨h12, e11, hS⟩ := bn_s hS
  refine ev_callI (sa := []) (rest := [.ref x8, .ref a0]) (st' := [.ref x8, .ref a0]) (ls0 := [.ref x8]) (rv := none) pm10 i10_20 rfl rfl (by decide) pm7 (by decide) rfl rfl (Nat.le_of_ble_eq_true rfl) (by omega) rfl (R_st_init (d - 1) (by omega) e11) (by simp) rfl rfl ?_
  obtain ⟨h13, e14, hS⟩ := bn_s hS
  refine ev_putR pm10 i10_23 rfl rfl rfl e14 rfl ?_
  refine ev_aload_n pm10 i10_26 rfl rfl rfl ?_
  refine ev_bipush (v := 20) pm10 i10_27 rfl (by decide) rfl ?_
  obtain ⟨x15, h16, e17, hS⟩ := bd_s hS
  refine ev_newI pm10 i10_29 rfl e17 rfl ?_
  obtain ⟨h18, e19, hS⟩ := bn_s hS
  refine ev_putR pm10 i10_31 rfl rfl rfl e19 rfl ?_
  refine ev_aload_n pm10 i10_34 rfl rfl rfl ?_
  refine ev_iconst (v := 3) pm10 i10_35 rfl (by decide) rfl ?_
  obtain ⟨x20, h21, e22, hS⟩ := bd_s hS
  refine ev_newI pm10 i10_36 rfl e22 rfl ?_
  obtain ⟨h23, e24, hS⟩ := bn_s hS
  refine ev_putR pm10 i10_38 rfl rfl rfl e24 rfl ?_
  refine ev_aload_n pm10 i10_41 rfl rfl rfl ?_
  refine ev_iconst (v := 3) pm10 i10_42 rfl (by decide) rfl ?_
  obtain ⟨x25, h26, e27, hS⟩ := bd_s hS
  refine ev_newI pm10 i10_43 rfl e27 rfl ?_
  obtain ⟨h28, e29, hS⟩ := bn_s hS
  refine ev_putR pm10 i10_45 rfl rfl rfl e29 rfl ?_
  refine ev_aload_n pm10 i10_48 rfl rfl rfl ?_
  refine ev_iconst (v := 3) pm10 i10_49 rfl (by decide) rfl ?_
  obtain ⟨x30, h31, e32, hS⟩ := bd_s hS
  refine ev_newI pm10 i10_50 rfl e32 rfl ?_
  obtain ⟨h33, e34, hS⟩ := bn_s hS
  refine ev_putR pm10 i10_52 rfl rfl rfl e34 rfl ?_
  refine ev_aload_n pm10 i10_55 rfl rfl rfl ?_
  refine ev_iconst (v := 3) pm10 i10_56 rfl (by decide) rfl ?_
  obtain ⟨x35, h36, e37, hS⟩ := bd_s hS
  refine ev_newI pm10 i10_57 rfl e37 rfl ?_
  obtain ⟨h38, e39, hS⟩ := bn_s hS
  refine ev_putR pm10 i10_59 rfl rfl rfl e39 rfl ?_
  cases hS
  exact ev_return pm10 i10_62 rfl rfl rfl
def F_ho_init (a0 : Nat) (h : Hp) : Option Hp :=
  bd (nA h 100 (8 : Int32)) fun x1 h2 =>
  bn (pR h2 a0 2 1 (some x1)) fun h4 =>
  bd (nO h4 6) fun x6 h7 =>
  bn (F_ra_init x6 h7) fun h10 =>
  bn (pR h10 a0 2 2 (some x6)) fun h11 =>
  bd (nO h11 8) fun x13 h14 =>
  bn (F_st_init x13 h14) fun h17 =>
  bn (pR h17 a0 2 3 (some x13)) fun h18 =>
  some h18
set_option maxRecDepth 20000 in
theorem R_ho_init (d : Nat) (hd : 1 ≤ d) {a0 : Nat} {h : Hp} {h' : Hp} (hS : F_ho_init a0 h = some h') : Ev P d 11 (0, [.ref a0], [], h) (none, h') := by
  unfold F_ho_init at hS
  refine ev_aload_n pm11 i11_0 rfl rfl rfl ?_
  refine ev_objinit pm11 i11_1 rfl rfl (Nat.le_of_ble_eq_true rfl) rfl ?_
  refine ev_aload_n pm11 i11_4 rfl rfl rfl ?_
  refine ev_bipush (v := 8) pm11 i11_5 rfl (by decide) rfl ?_
  obtain ⟨x1, h2, e3, hS⟩ := bd_s hS
  refine ev_newI pm11 i11_7 rfl e3 rfl ?_
  obtain ⟨h4, e5, hS⟩ := bn_s hS
  refine ev_putR pm11 i11_9 rfl rfl rfl e5 rfl ?_
  refine ev_aload_n pm11 i11_12 rfl rfl rfl ?_
  obtain ⟨x6, h7, e8, hS⟩ := bd_s hS
  refine ev_new pm11 i11_13 rfl rfl (by decide) e8 rfl ?_
  refine ev_dup pm11 i11_16 rfl rfl rfl ?_
  obtain ⟨h10, e9, hS⟩ := bn_s hS
  refine ev_callI (sa := []) (rest := [.ref x6, .ref a0]) (st' := [.ref x6, .ref a0]) (ls0 := [.ref x6]) (rv := none) pm11 i11_17 rfl rfl (by decide) pm8 (by decide) rfl rfl (Nat.le_of_ble_eq_true rfl) (by omega) rfl (R_ra_init (d - 1) (by omega) e9) (by simp) rfl rfl ?_
  obtain ⟨h11, e12, hS⟩ := bn_s hS
  refine ev_putR pm11 i11_20 rfl rfl rfl e12 rfl ?_
  refine ev_aload_n pm11 i11_23 rfl rfl rfl ?_
  obtain ⟨x13, h14, e15, hS⟩ := bd_s hS
  refine ev_new pm11 i11_24 rfl rfl (by decide) e15 rfl ?_
  refine ev_dup pm11 i11_27 rfl rfl rfl ?_
  obtain ⟨h17, e16, hS⟩ := bn_s hS
  refine ev_callI (sa := []) (rest := [.ref x13, .ref a0]) (st' := [.ref x13, .ref a0]) (ls0 := [.ref x13]) (rv := none) pm11 i11_28 rfl rfl (by decide) pm7 (by decide) rfl rfl (Nat.le_of_ble_eq_true rfl) (by omega) rfl (R_st_init (d - 1) (by omega) e16) (by simp) rfl rfl ?_
  obtain ⟨h18, e19, hS⟩ := bn_s hS
  refine ev_putR pm11 i11_31 rfl rfl rfl e19 rfl ?_
  cases hS
  exact ev_return pm11 i11_34 rfl rfl rfl
def F_gm_init (a0 : Nat) (h : Hp) : Option Hp :=
  bd (nO h 6) fun x1 h2 =>
  bn (F_ra_init x1 h2) fun h5 =>
  bn (pR h5 a0 0 0 (some x1)) fun h6 =>
  some h6
set_option maxRecDepth 20000 in
theorem R_gm_init (d : Nat) (hd : 1 ≤ d) {a0 : Nat} {h : Hp} {h' : Hp} (hS : F_gm_init a0 h = some h') : Ev P d 12 (0, [.ref a0], [], h) (none, h') := by
  unfold F_gm_init at hS
  refine ev_aload_n pm12 i12_0 rfl rfl rfl ?_
  refine ev_objinit pm12 i12_1 rfl rfl (Nat.le_of_ble_eq_true rfl) rfl ?_
  refine ev_aload_n pm12 i12_4 rfl rfl rfl ?_
  obtain ⟨x1, h2, e3, hS⟩ := bd_s hS
  refine ev_new pm12 i12_5 rfl rfl (by decide) e3 rfl ?_
  refine ev_dup pm12 i12_8 rfl rfl rfl ?_
  obtain ⟨h5, e4, hS⟩ := bn_s hS
  refine ev_callI (sa := []) (rest := [.ref x1, .ref a0]) (st' := [.ref x1, .ref a0]) (ls0 := [.ref x1]) (rv := none) pm12 i12_9 rfl rfl (by decide) pm8 (by decide) rfl rfl (Nat.le_of_ble_eq_true rfl) (by omega) rfl (R_ra_init (d - 1) (by omega) e4) (by simp) rfl rfl ?_
  obtain ⟨h6, e7, hS⟩ := bn_s hS
  refine ev_putR pm12 i12_12 rfl rfl rfl e7 rfl ?_
  cases hS
  exact ev_return pm12 i12_15 rfl rfl rfl
def F_mo_init (a0 : Nat) (h : Hp) : Option Hp :=
  bd (nO h 8) fun x1 h2 =>
  bn (F_st_init x1 h2) fun h5 =>
  bn (pR h5 a0 4 4 (some x1)) fun h6 =>
  some h6
set_option maxRecDepth 20000 in
theorem R_mo_init (d : Nat) (hd : 1 ≤ d) {a0 : Nat} {h : Hp} {h' : Hp} (hS : F_mo_init a0 h = some h') : Ev P d 13 (0, [.ref a0], [], h) (none, h') := by
  unfold F_mo_init at hS
  refine ev_aload_n pm13 i13_0 rfl rfl rfl ?_
  refine ev_objinit pm13 i13_1 rfl rfl (Nat.le_of_ble_eq_true rfl) rfl ?_
  refine ev_aload_n pm13 i13_4 rfl rfl rfl ?_
  obtain ⟨x1, h2, e3, hS⟩ := bd_s hS
  refine ev_new pm13 i13_5 rfl rfl (by decide) e3 rfl ?_
  refine ev_dup pm13 i13_8 rfl rfl rfl ?_
  obtain ⟨h5, e4, hS⟩ := bn_s hS
  refine ev_callI (sa := []) (rest := [.ref x1, .ref a0]) (st' := [.ref x1, .ref a0]) (ls0 := [.ref x1]) (rv := none) pm13 i13_9 rfl rfl (by decide) pm7 (by decide) rfl rfl (Nat.le_of_ble_eq_true rfl) (by omega) rfl (R_st_init (d - 1) (by omega) e4) (by simp) rfl rfl ?_
  obtain ⟨h6, e7, hS⟩ := bn_s hS
  refine ev_putR pm13 i13_12 rfl rfl rfl e7 rfl ?_
  cases hS
  exact ev_return pm13 i13_15 rfl rfl rfl
def F_cs_init (a0 : Nat) (h : Hp) : Option Hp :=
  bd (nA h 101 (1000 : Int32)) fun x1 h2 =>
  bn (pR h2 a0 11 0 (some x1)) fun h4 =>
  bd (nO h4 7) fun x6 h7 =>
  bn (F_rd_init x6 h7) fun h10 =>
  bn (pR h10 a0 11 2 (some x6)) fun h11 =>
  bd (nO h11 10) fun x13 h14 =>
  bn (F_to_init x13 h14) fun h17 =>
  bn (pR h17 a0 11 3 (some x13)) fun h18 =>
  bd (nO h18 8) fun x20 h21 =>
  bn (F_st_init x20 h21) fun h24 =>
  bn (pR h24 a0 11 4 (some x20)) fun h25 =>
  bd (nO h25 8) fun x27 h28 =>
  bn (F_st_init x27 h28) fun h31 =>
  bn (pR h31 a0 11 5 (some x27)) fun h32 =>
  bd (nO h32 6) fun x34 h35 =>
  bn (F_ra_init x34 h35) fun h38 =>
  bn (pR h38 a0 11 6 (some x34)) fun h39 =>
  bd (nO h39 3) fun x41 h42 =>
  bn (F_me_init x41 h42) fun h45 =>
  bn (pR h45 a0 11 7 (some x41)) fun h46 =>
  bd (nO h46 5) fun x48 h49 =>
  bn (F_pl_init x48 h49) fun h52 =>
  bn (pR h52 a0 11 8 (some x48)) fun h53 =>
  bd (nO h53 2) fun x55 h56 =>
  bn (F_ho_init x55 h56) fun h59 =>
  bn (pR h59 a0 11 9 (some x55)) fun h60 =>
  bd (nO h60 0) fun x62 h63 =>
  bn (F_gm_init x62 h63) fun h66 =>
  bn (pR h66 a0 11 10 (some x62)) fun h67 =>
  bd (nO h67 4) fun x69 h70 =>
  bn (F_mo_init x69 h70) fun h73 =>
  bn (pR h73 a0 11 11 (some x69)) fun h74 =>
  some h74
set_option maxRecDepth 20000 in
theorem R_cs_init (d : Nat) (hd : 3 ≤ d) {a0 : Nat} {h : Hp} {h' : Hp} (hS : F_cs_init a0 h = some h') : Ev P d 2 (0, [.ref a0], [], h) (none, h') := by
  unfold F_cs_init at hS
  refine ev_aload_n pm2 i2_0 rfl rfl rfl ?_
  refine ev_objinit pm2 i2_1 rfl rfl (Nat.le_of_ble_eq_true rfl) rfl ?_
  refine ev_aload_n pm2 i2_4 rfl rfl rfl ?_
  refine ev_sipush (v := 1000) pm2 i2_5 rfl (by decide) rfl ?_
  obtain ⟨x1, h2, e3, hS⟩ := bd_s hS
  refine ev_newB pm2 i2_8 rfl e3 rfl ?_
  obtain ⟨h4, e5, hS⟩ := bn_s hS
  refine ev_putR pm2 i2_10 rfl rfl rfl e5 rfl ?_
  refine ev_aload_n pm2 i2_13 rfl rfl rfl ?_
  obtain ⟨x6, h7, e8, hS⟩ := bd_s hS
  refine ev_new pm2 i2_14 rfl rfl (by decide) e8 rfl ?_
  refine ev_dup pm2 i2_17 rfl rfl rfl ?_
  obtain ⟨h10, e9, hS⟩ := bn_s hS
  refine ev_callI (sa := []) (rest := [.ref x6, .ref a0]) (st' := [.ref x6, .ref a0]) (ls0 := [.ref x6]) (rv := none) pm2 i2_18 rfl rfl (by decide) pm3 (by decide) rfl rfl (Nat.le_of_ble_eq_true rfl) (by omega) rfl (R_rd_init (d - 1) (by omega) e9) (by simp) rfl rfl ?_
  obtain ⟨h11, e12, hS⟩ := bn_s hS
  refine ev_putR pm2 i2_21 rfl rfl rfl e12 rfl ?_
  refine ev_aload_n pm2 i2_24 rfl rfl rfl ?_
  obtain ⟨x13, h14, e15, hS⟩ := bd_s hS
  refine ev_new pm2 i2_25 rfl rfl (by decide) e15 rfl ?_
  refine ev_dup pm2 i2_28 rfl rfl rfl ?_
  obtain ⟨h17, e16, hS⟩ := bn_s hS
  refine ev_callI (sa := []) (rest := [.ref x13, .ref a0]) (st' := [.ref x13, .ref a0]) (ls0 := [.ref x13]) (rv := none) pm2 i2_29 rfl rfl (by decide) pm5 (by decide) rfl rfl (Nat.le_of_ble_eq_true rfl) (by omega) rfl (R_to_init (d - 1) (by omega) e16) (by simp) rfl rfl ?_
  obtain ⟨h18, e19, hS⟩ := bn_s hS
  refine ev_putR pm2 i2_32 rfl rfl rfl e19 rfl ?_
  refine ev_aload_n pm2 i2_35 rfl rfl rfl ?_
  obtain ⟨x20, h21, e22, hS⟩ := bd_s hS
  refine ev_new pm2 i2_36 rfl rfl (by decide) e22 rfl ?_
  refine ev_dup pm2 i2_39 rfl rfl rfl ?_
  obtain ⟨h24, e23, hS⟩ := bn_s hS
  refine ev_callI (sa := []) (rest := [.ref x20, .ref a0]) (st' := [.ref x20, .ref a0]) (ls0 := [.ref x20]) (rv := none) pm2 i2_40 rfl rfl (by decide) pm7 (by decide) rfl rfl (Nat.le_of_ble_eq_true rfl) (by omega) rfl (R_st_init (d - 1) (by omega) e23) (by simp) rfl rfl ?_
  obtain ⟨h25, e26, hS⟩ := bn_s hS
  refine ev_putR pm2 i2_43 rfl rfl rfl e26 rfl ?_
  refine ev_aload_n pm2 i2_46 rfl rfl rfl ?_
  obtain ⟨x27, h28, e29, hS⟩ := bd_s hS
  refine ev_new pm2 i2_47 rfl rfl (by decide) e29 rfl ?_
  refine ev_dup pm2 i2_50 rfl rfl rfl ?_
  obtain ⟨h31, e30, hS⟩ := bn_s hS
  refine ev_callI (sa := []) (rest := [.ref x27, .ref a0]) (st' := [.ref x27, .ref a0]) (ls0 := [.ref x27]) (rv := none) pm2 i2_51 rfl rfl (by decide) pm7 (by decide) rfl rfl (Nat.le_of_ble_eq_true rfl) (by omega) rfl (R_st_init (d - 1) (by omega) e30) (by simp) rfl rfl ?_
  obtain ⟨h32, e33, hS⟩ := bn_s hS
  refine ev_putR pm2 i2_54 rfl rfl rfl e33 rfl ?_
  refine ev_aload_n pm2 i2_57 rfl rfl rfl ?_
  obtain ⟨x34, h35, e36, hS⟩ := bd_s hS
  refine ev_new pm2 i2_58 rfl rfl (by decide) e36 rfl ?_
  refine ev_dup pm2 i2_61 rfl rfl rfl ?_
  obtain ⟨h38, e37, hS⟩ := bn_s hS
  refine ev_callI (sa := []) (rest := [.ref x34, .ref a0]) (st' := [.ref x34, .ref a0]) (ls0 := [.ref x34]) (rv := none) pm2 i2_62 rfl rfl (by decide) pm8 (by decide) rfl rfl (Nat.le_of_ble_eq_true rfl) (by omega) rfl (R_ra_init (d - 1) (by omega) e37) (by simp) rfl rfl ?_
  obtain ⟨h39, e40, hS⟩ := bn_s hS
  refine ev_putR pm2 i2_65 rfl rfl rfl e40 rfl ?_
  refine ev_aload_n pm2 i2_68 rfl rfl rfl ?_
  obtain ⟨x41, h42, e43, hS⟩ := bd_s hS
  refine ev_new pm2 i2_69 rfl rfl (by decide) e43 rfl ?_
  refine ev_dup pm2 i2_72 rfl rfl rfl ?_
  obtain ⟨h45, e44, hS⟩ := bn_s hS
  refine ev_callI (sa := []) (rest := [.ref x41, .ref a0]) (st' := [.ref x41, .ref a0]) (ls0 := [.ref x41]) (rv := none) pm2 i2_73 rfl rfl (by decide) pm9 (by decide) rfl rfl (Nat.le_of_ble_eq_true rfl) (by omega) rfl (R_me_init (d - 1) (by omega) e44) (by simp) rfl rfl ?_
  obtain ⟨h46, e47, hS⟩ := bn_s hS
  refine ev_putR pm2 i2_76 rfl rfl rfl e47 rfl ?_
  refine ev_aload_n pm2 i2_79 rfl rfl rfl ?_
  obtain ⟨x48, h49, e50, hS⟩ := bd_s hS
  refine ev_new pm2 i2_80 rfl rfl (by decide) e50 rfl ?_
  refine ev_dup pm2 i2_83 rfl rfl rfl ?_
  obtain ⟨h52, e51, hS⟩ := bn_s hS
  refine ev_callI (sa := []) (rest := [.ref x48, .ref a0]) (st' := [.ref x48, .ref a0]) (ls0 := [.ref x48]) (rv := none) pm2 i2_84 rfl rfl (by decide) pm10 (by decide) rfl rfl (Nat.le_of_ble_eq_true rfl) (by omega) rfl (R_pl_init (d - 1) (by omega) e51) (by simp) rfl rfl ?_
  obtain ⟨h53, e54, hS⟩ := bn_s hS
  refine ev_putR pm2 i2_87 rfl rfl rfl e54 rfl ?_
  refine ev_aload_n pm2 i2_90 rfl rfl rfl ?_
  obtain ⟨x55, h56, e57, hS⟩ := bd_s hS
  refine ev_new pm2 i2_91 rfl rfl (by decide) e57 rfl ?_
  refine ev_dup pm2 i2_94 rfl rfl rfl ?_
  obtain ⟨h59, e58, hS⟩ := bn_s hS
  refine ev_callI (sa := []) (rest := [.ref x55, .ref a0]) (st' := [.ref x55, .ref a0]) (ls0 := [.ref x55]) (rv := none) pm2 i2_95 rfl rfl (by decide) pm11 (by decide) rfl rfl (Nat.le_of_ble_eq_true rfl) (by omega) rfl (R_ho_init (d - 1) (by omega) e58) (by simp) rfl rfl ?_
  obtain ⟨h60, e61, hS⟩ := bn_s hS
  refine ev_putR pm2 i2_98 rfl rfl rfl e61 rfl ?_
  refine ev_aload_n pm2 i2_101 rfl rfl rfl ?_
  obtain ⟨x62, h63, e64, hS⟩ := bd_s hS
  refine ev_new pm2 i2_102 rfl rfl (by decide) e64 rfl ?_
  refine ev_dup pm2 i2_105 rfl rfl rfl ?_
  obtain ⟨h66, e65, hS⟩ := bn_s hS
  refine ev_callI (sa := []) (rest := [.ref x62, .ref a0]) (st' := [.ref x62, .ref a0]) (ls0 := [.ref x62]) (rv := none) pm2 i2_106 rfl rfl (by decide) pm12 (by decide) rfl rfl (Nat.le_of_ble_eq_true rfl) (by omega) rfl (R_gm_init (d - 1) (by omega) e65) (by simp) rfl rfl ?_
  obtain ⟨h67, e68, hS⟩ := bn_s hS
  refine ev_putR pm2 i2_109 rfl rfl rfl e68 rfl ?_
  refine ev_aload_n pm2 i2_112 rfl rfl rfl ?_
  obtain ⟨x69, h70, e71, hS⟩ := bd_s hS
  refine ev_new pm2 i2_113 rfl rfl (by decide) e71 rfl ?_
  refine ev_dup pm2 i2_116 rfl rfl rfl ?_
  obtain ⟨h73, e72, hS⟩ := bn_s hS
  refine ev_callI (sa := []) (rest := [.ref x69, .ref a0]) (st' := [.ref x69, .ref a0]) (ls0 := [.ref x69]) (rv := none) pm2 i2_117 rfl rfl (by decide) pm13 (by decide) rfl rfl (Nat.le_of_ble_eq_true rfl) (by omega) rfl (R_mo_init (d - 1) (by omega) e72) (by simp) rfl rfl ?_
  obtain ⟨h74, e75, hS⟩ := bn_s hS
  refine ev_putR pm2 i2_120 rfl rfl rfl e75 rfl ?_
  cases hS
  exact ev_return pm2 i2_123 rfl rfl rfl
def B_cs_putOnTape_3 (l0 : Nat) (l1 : Int32) (s : Int32) (h : Hp) : Option (((Int32) ⊕ (Unit)) × Hp) :=
  if s < (0 : Int32) then
    (some (.inr (), h))
  else
    (bn (gI h l0 11 1) fun x1 =>
    if x1 < (1000 : Int32) then
      (bn (gR h l0 11 0) fun x3 =>
      bn (gI h l0 11 1) fun x5 =>
      bn (sI h 101 x3 x5 ((l1 >>> (s &&& 31)).toInt8.toInt32).toInt8.toInt32) fun h7 =>
      bn (gI h7 l0 11 1) fun x9 =>
      bn (pI h7 l0 11 1 (x9 + (1 : Int32))) fun h11 =>
      some (.inl (s + (-8 : Int32)), h11))
    else
      (some (.inr (), h)))
set_option maxRecDepth 20000 in
theorem L_cs_putOnTape_3 (d : Nat) (hd : 0 ≤ d) {l0 : Nat} {l1 : Int32} : ∀ (n : Nat) (s : Int32) (h : Hp) (x : Unit) (hx : Hp), lp (B_cs_putOnTape_3 l0 l1) n s h = some (x, hx) → ∀ r, Ev P d 15 (46, [unk, unk, unk], [], hx) r → Ev P d 15 (3, [.ref l0, .int l1, .int s], [], h) r := by
  refine lp_ev (G0 := fun (s : Int32) h r => Ev P d 15 (3, [.ref l0, .int l1, .int s], [], h) r) (X := fun (x : Unit) hx r => Ev P d 15 (46, [unk, unk, unk], [], hx) r) ?_
  intro s h y h9 hS r hK
  unfold B_cs_putOnTape_3 at hS
  show Ev P d 15 (3, [.ref l0, .int l1, .int s], [], h) r
  refine ev_iload_n pm15 i15_3 rfl rfl rfl ?_
  by_cases c24 : s < (0 : Int32)
  · rw [if_pos c24] at hS
    refine ev_if_lt_t (t := 46) pm15 i15_4 rfl c24 rfl rfl ?_
    refine ev_kls (ls' := [unk, unk, unk]) pm15 i15_46 rfl rfl ?_
    cases hS
    exact hK
  · rw [if_neg c24] at hS
    refine ev_if_lt_f (t := 46) pm15 i15_4 rfl c24 rfl rfl ?_
    refine ev_aload_n pm15 i15_7 rfl rfl rfl ?_
    obtain ⟨x1, e2, hS⟩ := bn_s hS
    refine ev_getI pm15 i15_8 rfl rfl (by decide) e2 rfl ?_
    refine ev_sipush (v := 1000) pm15 i15_11 rfl (by decide) rfl ?_
    by_cases c25 : x1 < (1000 : Int32)
    · rw [if_pos c25] at hS
      refine ev_icmp_ge_t (t := 46) pm15 i15_14 rfl c25 rfl rfl ?_
      refine ev_aload_n pm15 i15_17 rfl rfl rfl ?_
      obtain ⟨x3, e4, hS⟩ := bn_s hS
      refine ev_getR pm15 i15_18 rfl rfl rfl e4 rfl ?_
      refine ev_aload_n pm15 i15_21 rfl rfl rfl ?_
      obtain ⟨x5, e6, hS⟩ := bn_s hS
      refine ev_getI pm15 i15_22 rfl rfl (by decide) e6 rfl ?_
      refine ev_iload_n pm15 i15_25 rfl rfl rfl ?_
      refine ev_iload_n pm15 i15_26 rfl rfl rfl ?_
      refine ev_b2 (f := fun x y => x >>> (y &&& 31)) pm15 i15_27 rfl (fun _ _ _ _ => rfl) rfl ?_
      refine ev_i2b pm15 i15_28 rfl rfl ?_
      obtain ⟨h7, e8, hS⟩ := bn_s hS
      refine ev_bast pm15 i15_29 rfl e8 rfl ?_
      refine ev_aload_n pm15 i15_30 rfl rfl rfl ?_
      refine ev_dup pm15 i15_31 rfl rfl rfl ?_
      obtain ⟨x9, e10, hS⟩ := bn_s hS
      refine ev_getI pm15 i15_32 rfl rfl (by decide) e10 rfl ?_
      refine ev_iconst (v := 1) pm15 i15_35 rfl (by decide) rfl ?_
      refine ev_b2 (f := fun x y => x + y) pm15 i15_36 rfl (fun _ _ _ _ => rfl) rfl ?_
      obtain ⟨h11, e12, hS⟩ := bn_s hS
      refine ev_putI pm15 i15_37 rfl rfl rfl e12 rfl ?_
      refine ev_iinc (v := -8) (ls' := [.ref l0, .int l1, .int (s + (-8 : Int32))]) pm15 i15_40 rfl rfl (by decide) rfl rfl ?_
      refine ev_goto (t := 3) pm15 i15_43 rfl rfl ?_
      cases hS
      exact hK
    · rw [if_neg c25] at hS
      refine ev_icmp_ge_f (t := 46) pm15 i15_14 rfl c25 rfl rfl ?_
      refine ev_kls (ls' := [unk, unk, unk]) pm15 i15_46 rfl rfl ?_
      cases hS
      exact hK
def F_cs_putOnTape (a0 : Nat) (a1 : Int32) (h : Hp) : Option Hp :=
  ck h a0 11 (bd (lp (B_cs_putOnTape_3 a0 a1) FU (24 : Int32) h) fun x13 h15 =>
  some h15)
set_option maxRecDepth 20000 in
theorem K_cs_putOnTape {a0 : Nat} {a1 : Int32} {h : Hp} {h' : Hp} (hS : F_cs_putOnTape a0 a1 h = some h') : kd h a0 = 11 := by
  unfold F_cs_putOnTape at hS
  exact (ck_s hS).1
set_option maxRecDepth 20000 in
theorem R_cs_putOnTape (d : Nat) (hd : 0 ≤ d) {a0 : Nat} {a1 : Int32} {h : Hp} {h' : Hp} (hS : F_cs_putOnTape a0 a1 h = some h') : Ev P d 15 (0, [.ref a0, .int a1, unk], [], h) (none, h') := by
  unfold F_cs_putOnTape at hS
  replace hS := (ck_s hS).2
  refine ev_bipush (v := 24) pm15 i15_0 rfl (by decide) rfl ?_
  refine ev_istore_n (ls' := [.ref a0, .int a1, .int (24 : Int32)]) pm15 i15_2 rfl (Nat.le_of_ble_eq_true rfl) rfl rfl ?_
  obtain ⟨x13, h15, e14, hS⟩ := bd_s hS
  refine L_cs_putOnTape_3 d (by omega) _ _ _ _ _ e14 _ ?_
  show Ev P d 15 (46, [unk, unk, unk], [], h15) _
  cases hS
  exact ev_return pm15 i15_46 rfl rfl rfl
def F_cs_feed (a0 : Nat) (a1 : Int32) (a2 : Int32) (a3 : Int32) (a4 : Int32) (a5 : Int32) (h : Hp) : Option (Int32 × Hp) :=
  ck h a0 11 (bn (gI h a0 11 1) fun x1 =>
  if (1000 : Int32) < (x1 + (20 : Int32)) then
    (some ((-1 : Int32), h))
  else
    (bn (F_cs_putOnTape a0 a1 h) fun h4 =>
    bn (F_cs_putOnTape a0 a2 h4) fun h6 =>
    bn (F_cs_putOnTape a0 a3 h6) fun h8 =>
    bn (F_cs_putOnTape a0 a4 h8) fun h10 =>
    bn (F_cs_putOnTape a0 a5 h10) fun h12 =>
    bn (gI h12 a0 11 1) fun x13 =>
    some (x13, h12)))
set_option maxRecDepth 20000 in
theorem K_cs_feed {a0 : Nat} {a1 : Int32} {a2 : Int32} {a3 : Int32} {a4 : Int32} {a5 : Int32} {h : Hp} {v : Int32} {h' : Hp} (hS : F_cs_feed a0 a1 a2 a3 a4 a5 h = some (v, h')) : kd h a0 = 11 := by
  unfold F_cs_feed at hS
  exact (ck_s hS).1
set_option maxRecDepth 20000 in
theorem R_cs_feed (d : Nat) (hd : 1 ≤ d) {a0 : Nat} {a1 : Int32} {a2 : Int32} {a3 : Int32} {a4 : Int32} {a5 : Int32} {h : Hp} {v : Int32} {h' : Hp} (hS : F_cs_feed a0 a1 a2 a3 a4 a5 h = some (v, h')) : Ev P d 14 (0, [.ref a0, .int a1, .int a2, .int a3, .int a4, .int a5], [], h) (some (.int v), h') := by
  unfold F_cs_feed at hS
  replace hS := (ck_s hS).2
  refine ev_aload_n pm14 i14_0 rfl rfl rfl ?_
  obtain ⟨x1, e2, hS⟩ := bn_s hS
  refine ev_getI pm14 i14_1 rfl rfl (by decide) e2 rfl ?_
  refine ev_bipush (v := 20) pm14 i14_4 rfl (by decide) rfl ?_
  refine ev_b2 (f := fun x y => x + y) pm14 i14_6 rfl (fun _ _ _ _ => rfl) rfl ?_
  refine ev_sipush (v := 1000) pm14 i14_7 rfl (by decide) rfl ?_
  by_cases c26 : (1000 : Int32) < (x1 + (20 : Int32))
  · rw [if_pos c26] at hS
    refine ev_icmp_le_t (t := 15) pm14 i14_10 rfl c26 rfl rfl ?_
    refine ev_iconst (v := -1) pm14 i14_13 rfl (by decide) rfl ?_
    cases hS
    exact ev_ireturn pm14 i14_14 rfl rfl rfl
  · rw [if_neg c26] at hS
    refine ev_icmp_le_f (t := 15) pm14 i14_10 rfl c26 rfl rfl ?_
    refine ev_aload_n pm14 i14_15 rfl rfl rfl ?_
    refine ev_iload_n pm14 i14_16 rfl rfl rfl ?_
    obtain ⟨h4, e3, hS⟩ := bn_s hS
    refine ev_callV (sa := [.int a1]) (rest := []) (st' := []) (ls0 := [.ref a0, .int a1, unk]) (rv := none) pm14 i14_17 rfl rfl pm15 (by decide) (K_cs_putOnTape e3) rfl rfl (Nat.le_of_ble_eq_true rfl) (by omega) rfl (R_cs_putOnTape (d - 1) (by omega) e3) (by simp) rfl rfl ?_
    refine ev_aload_n pm14 i14_20 rfl rfl rfl ?_
    refine ev_iload_n pm14 i14_21 rfl rfl rfl ?_
    obtain ⟨h6, e5, hS⟩ := bn_s hS
    refine ev_callV (sa := [.int a2]) (rest := []) (st' := []) (ls0 := [.ref a0, .int a2, unk]) (rv := none) pm14 i14_22 rfl rfl pm15 (by decide) (K_cs_putOnTape e5) rfl rfl (Nat.le_of_ble_eq_true rfl) (by omega) rfl (R_cs_putOnTape (d - 1) (by omega) e5) (by simp) rfl rfl ?_
    refine ev_aload_n pm14 i14_25 rfl rfl rfl ?_
    refine ev_iload_n pm14 i14_26 rfl rfl rfl ?_
    obtain ⟨h8, e7, hS⟩ := bn_s hS
    refine ev_callV (sa := [.int a3]) (rest := []) (st' := []) (ls0 := [.ref a0, .int a3, unk]) (rv := none) pm14 i14_27 rfl rfl pm15 (by decide) (K_cs_putOnTape e7) rfl rfl (Nat.le_of_ble_eq_true rfl) (by omega) rfl (R_cs_putOnTape (d - 1) (by omega) e7) (by simp) rfl rfl ?_
    refine ev_aload_n pm14 i14_30 rfl rfl rfl ?_
    refine ev_iload pm14 i14_31 rfl rfl rfl ?_
    obtain ⟨h10, e9, hS⟩ := bn_s hS
    refine ev_callV (sa := [.int a4]) (rest := []) (st' := []) (ls0 := [.ref a0, .int a4, unk]) (rv := none) pm14 i14_33 rfl rfl pm15 (by decide) (K_cs_putOnTape e9) rfl rfl (Nat.le_of_ble_eq_true rfl) (by omega) rfl (R_cs_putOnTape (d - 1) (by omega) e9) (by simp) rfl rfl ?_
    refine ev_aload_n pm14 i14_36 rfl rfl rfl ?_
    refine ev_iload pm14 i14_37 rfl rfl rfl ?_
    obtain ⟨h12, e11, hS⟩ := bn_s hS
    refine ev_callV (sa := [.int a5]) (rest := []) (st' := []) (ls0 := [.ref a0, .int a5, unk]) (rv := none) pm14 i14_39 rfl rfl pm15 (by decide) (K_cs_putOnTape e11) rfl rfl (Nat.le_of_ble_eq_true rfl) (by omega) rfl (R_cs_putOnTape (d - 1) (by omega) e11) (by simp) rfl rfl ?_
    refine ev_aload_n pm14 i14_42 rfl rfl rfl ?_
    obtain ⟨x13, e14, hS⟩ := bn_s hS
    refine ev_getI pm14 i14_43 rfl rfl (by decide) e14 rfl ?_
    cases hS
    exact ev_ireturn pm14 i14_46 rfl rfl rfl
def F_cs_outside (a0 : Int32) (a1 : Int32) (a2 : Int32) : Option Int32 :=
  if a0 < a1 then
    (some (1 : Int32))
  else
    (if a2 < a0 then
      (some (1 : Int32))
    else
      (some (0 : Int32)))
set_option maxRecDepth 20000 in
theorem R_cs_outside (d : Nat) (hd : 0 ≤ d) {a0 : Int32} {a1 : Int32} {a2 : Int32} {h : Hp} {v : Int32} (hS : F_cs_outside a0 a1 a2 = some v) : Ev P d 17 (0, [.int a0, .int a1, .int a2], [], h) (some (.int v), h) := by
  unfold F_cs_outside at hS
  refine ev_iload_n pm17 i17_0 rfl rfl rfl ?_
  refine ev_iload_n pm17 i17_1 rfl rfl rfl ?_
  by_cases c27 : a0 < a1
  · rw [if_pos c27] at hS
    refine ev_icmp_lt_t (t := 10) pm17 i17_2 rfl c27 rfl rfl ?_
    refine ev_kls (ls' := [unk, unk, unk]) pm17 i17_10 rfl rfl ?_
    refine ev_iconst (v := 1) pm17 i17_10 rfl (by decide) rfl ?_
    refine ev_goto (t := 15) pm17 i17_11 rfl rfl ?_
    cases hS
    exact ev_ireturn pm17 i17_15 rfl (by decide) rfl
  · rw [if_neg c27] at hS
    refine ev_icmp_lt_f (t := 10) pm17 i17_2 rfl c27 rfl rfl ?_
    refine ev_iload_n pm17 i17_5 rfl rfl rfl ?_
    refine ev_iload_n pm17 i17_6 rfl rfl rfl ?_
    by_cases c28 : a2 < a0
    · rw [if_pos c28] at hS
      refine ev_icmp_le_t (t := 14) pm17 i17_7 rfl c28 rfl rfl ?_
      refine ev_kls (ls' := [unk, unk, unk]) pm17 i17_10 rfl rfl ?_
      refine ev_iconst (v := 1) pm17 i17_10 rfl (by decide) rfl ?_
      refine ev_goto (t := 15) pm17 i17_11 rfl rfl ?_
      cases hS
      exact ev_ireturn pm17 i17_15 rfl (by decide) rfl
    · rw [if_neg c28] at hS
      refine ev_icmp_le_f (t := 14) pm17 i17_7 rfl c28 rfl rfl ?_
      refine ev_iconst (v := 0) pm17 i17_14 rfl (by decide) rfl ?_
      refine ev_kls (ls' := [unk, unk, unk]) pm17 i17_15 rfl rfl ?_
      cases hS
      exact ev_ireturn pm17 i17_15 rfl (by decide) rfl
def F_cs_refused (a0 : Nat) (a1 : Int32) (a2 : Int32) (h : Hp) : Option (Int32 × Hp) :=
  ck h a0 11 (bn (if a1 = (0 : Int32) then
      (if a2 = (0 : Int32) then
        (some (0 : Int32))
      else
        (some (2 : Int32)))
    else
      (some (1 : Int32))) fun q1 =>
  bn (pI h a0 11 12 q1) fun h2 =>
  bn (gI h2 a0 11 12) fun x4 =>
  if x4 = (0 : Int32) then
    (some ((0 : Int32), h2))
  else
    (some ((1 : Int32), h2)))
set_option maxRecDepth 20000 in
theorem K_cs_refused {a0 : Nat} {a1 : Int32} {a2 : Int32} {h : Hp} {v : Int32} {h' : Hp} (hS : F_cs_refused a0 a1 a2 h = some (v, h')) : kd h a0 = 11 := by
  unfold F_cs_refused at hS
  exact (ck_s hS).1
set_option maxRecDepth 20000 in
theorem R_cs_refused (d : Nat) (hd : 0 ≤ d) {a0 : Nat} {a1 : Int32} {a2 : Int32} {h : Hp} {v : Int32} {h' : Hp} (hS : F_cs_refused a0 a1 a2 h = some (v, h')) : Ev P d 18 (0, [.ref a0, .int a1, .int a2], [], h) (some (.int v), h') := by
  unfold F_cs_refused at hS
  replace hS := (ck_s hS).2
  refine ev_aload_n pm18 i18_0 rfl rfl rfl ?_
  refine ev_iload_n pm18 i18_1 rfl rfl rfl ?_
  obtain ⟨q1, I29, hS⟩ := bn_s hS
  have J1 : Ev P d 18 (18, [.ref a0, unk, unk], [.int q1, .ref a0], h) (some (.int v), h') := by
    obtain ⟨h2, e3, hS⟩ := bn_s hS
    refine ev_putI pm18 i18_18 rfl rfl rfl e3 rfl ?_
    refine ev_aload_n pm18 i18_21 rfl rfl rfl ?_
    obtain ⟨x4, e5, hS⟩ := bn_s hS
    refine ev_getI pm18 i18_22 rfl rfl (by decide) e5 rfl ?_
    by_cases c30 : x4 = (0 : Int32)
    · rw [if_pos c30] at hS
      refine ev_if_eq_t (t := 32) pm18 i18_25 rfl c30 rfl rfl ?_
      refine ev_iconst (v := 0) pm18 i18_32 rfl (by decide) rfl ?_
      refine ev_kls (ls' := [unk, unk, unk]) pm18 i18_33 rfl rfl ?_
      cases hS
      exact ev_ireturn pm18 i18_33 rfl (by decide) rfl
    · rw [if_neg c30] at hS
      refine ev_if_eq_f (t := 32) pm18 i18_25 rfl c30 rfl rfl ?_
      refine ev_iconst (v := 1) pm18 i18_28 rfl (by decide) rfl ?_
      refine ev_goto (t := 33) pm18 i18_29 rfl rfl ?_
      refine ev_kls (ls' := [unk, unk, unk]) pm18 i18_33 rfl rfl ?_
      cases hS
      exact ev_ireturn pm18 i18_33 rfl (by decide) rfl
  clear hS
  by_cases c29 : a1 = (0 : Int32)
  · rw [if_pos c29] at I29
    refine ev_if_eq_t (t := 9) pm18 i18_2 rfl c29 rfl rfl ?_
    refine ev_iload_n pm18 i18_9 rfl rfl rfl ?_
    by_cases c31 : a2 = (0 : Int32)
    · rw [if_pos c31] at I29
      refine ev_if_eq_t (t := 17) pm18 i18_10 rfl c31 rfl rfl ?_
      refine ev_iconst (v := 0) pm18 i18_17 rfl (by decide) rfl ?_
      refine ev_kls (ls' := [.ref a0, unk, unk]) pm18 i18_18 rfl rfl ?_
      cases I29
      exact J1
    · rw [if_neg c31] at I29
      refine ev_if_eq_f (t := 17) pm18 i18_10 rfl c31 rfl rfl ?_
      refine ev_iconst (v := 2) pm18 i18_13 rfl (by decide) rfl ?_
      refine ev_goto (t := 18) pm18 i18_14 rfl rfl ?_
      refine ev_kls (ls' := [.ref a0, unk, unk]) pm18 i18_18 rfl rfl ?_
      cases I29
      exact J1
  · rw [if_neg c29] at I29
    refine ev_if_eq_f (t := 9) pm18 i18_2 rfl c29 rfl rfl ?_
    refine ev_iconst (v := 1) pm18 i18_5 rfl (by decide) rfl ?_
    refine ev_goto (t := 18) pm18 i18_6 rfl rfl ?_
    refine ev_kls (ls' := [.ref a0, unk, unk]) pm18 i18_18 rfl rfl ?_
    cases I29
    exact J1
def B_to_clear_37 (l0 : Nat) (s : Int32) (h : Hp) : Option (((Int32) ⊕ (Unit)) × Hp) :=
  bn (gR h l0 10 4) fun x15 =>
  bn (aN h x15) fun x17 =>
  if s < x17 then
    (bn (gR h l0 10 4) fun x19 =>
    bn (sI h 100 x19 s (0 : Int32)) fun h21 =>
    some (.inl (s + (1 : Int32)), h21))
  else
    (some (.inr (), h))
set_option maxRecDepth 20000 in
theorem L_to_clear_37 (d : Nat) (hd : 0 ≤ d) {l0 : Nat} : ∀ (n : Nat) (s : Int32) (h : Hp) (x : Unit) (hx : Hp), lp (B_to_clear_37 l0) n s h = some (x, hx) → ∀ r, Ev P d 20 (59, [.ref l0, unk], [], hx) r → Ev P d 20 (37, [.ref l0, .int s], [], h) r := by
  refine lp_ev (G0 := fun (s : Int32) h r => Ev P d 20 (37, [.ref l0, .int s], [], h) r) (X := fun (x : Unit) hx r => Ev P d 20 (59, [.ref l0, unk], [], hx) r) ?_
  intro s h y h9 hS r hK
  unfold B_to_clear_37 at hS
  show Ev P d 20 (37, [.ref l0, .int s], [], h) r
  refine ev_iload_n pm20 i20_37 rfl rfl rfl ?_
  refine ev_aload_n pm20 i20_38 rfl rfl rfl ?_
  obtain ⟨x15, e16, hS⟩ := bn_s hS
  refine ev_getR pm20 i20_39 rfl rfl rfl e16 rfl ?_
  obtain ⟨x17, e18, hS⟩ := bn_s hS
  refine ev_alen pm20 i20_42 rfl e18 rfl ?_
  by_cases c32 : s < x17
  · rw [if_pos c32] at hS
    refine ev_icmp_ge_t (t := 59) pm20 i20_43 rfl c32 rfl rfl ?_
    refine ev_aload_n pm20 i20_46 rfl rfl rfl ?_
    obtain ⟨x19, e20, hS⟩ := bn_s hS
    refine ev_getR pm20 i20_47 rfl rfl rfl e20 rfl ?_
    refine ev_iload_n pm20 i20_50 rfl rfl rfl ?_
    refine ev_iconst (v := 0) pm20 i20_51 rfl (by decide) rfl ?_
    obtain ⟨h21, e22, hS⟩ := bn_s hS
    refine ev_iast pm20 i20_52 rfl e22 rfl ?_
    refine ev_iinc (v := 1) (ls' := [.ref l0, .int (s + (1 : Int32))]) pm20 i20_53 rfl rfl (by decide) rfl rfl ?_
    refine ev_goto (t := 37) pm20 i20_56 rfl rfl ?_
    cases hS
    exact hK
  · rw [if_neg c32] at hS
    refine ev_icmp_ge_f (t := 59) pm20 i20_43 rfl c32 rfl rfl ?_
    refine ev_kls (ls' := [.ref l0, unk]) pm20 i20_59 rfl rfl ?_
    cases hS
    exact hK
def F_to_clear (a0 : Nat) (h : Hp) : Option Hp :=
  ck h a0 10 (bn (pI h a0 10 0 (0 : Int32)) fun h1 =>
  bn (pI h1 a0 10 1 (0 : Int32)) fun h3 =>
  bn (pI h3 a0 10 2 (0 : Int32)) fun h5 =>
  bn (pI h5 a0 10 5 (0 : Int32)) fun h7 =>
  bn (pI h7 a0 10 8 (0 : Int32)) fun h9 =>
  bn (pI h9 a0 10 11 (0 : Int32)) fun h11 =>
  bn (pI h11 a0 10 14 (0 : Int32)) fun h13 =>
  bd (lp (B_to_clear_37 a0) FU (0 : Int32) h13) fun x23 h25 =>
  bn (gR h25 a0 10 18) fun x26 =>
  bn (pI h25 x26 1 0 (0 : Int32)) fun h28 =>
  bn (gR h28 a0 10 18) fun x30 =>
  bn (pI h28 x30 1 4 (0 : Int32)) fun h32 =>
  some h32)
set_option maxRecDepth 20000 in
theorem K_to_clear {a0 : Nat} {h : Hp} {h' : Hp} (hS : F_to_clear a0 h = some h') : kd h a0 = 10 := by
  unfold F_to_clear at hS
  exact (ck_s hS).1
set_option maxRecDepth 20000 in
theorem R_to_clear (d : Nat) (hd : 0 ≤ d) {a0 : Nat} {h : Hp} {h' : Hp} (hS : F_to_clear a0 h = some h') : Ev P d 20 (0, [.ref a0, unk], [], h) (none, h') := by
  unfold F_to_clear at hS
  replace hS := (ck_s hS).2
  refine ev_aload_n pm20 i20_0 rfl rfl rfl ?_
  refine ev_iconst (v := 0) pm20 i20_1 rfl (by decide) rfl ?_
  obtain ⟨h1, e2, hS⟩ := bn_s hS
  refine ev_putI pm20 i20_2 rfl rfl rfl e2 rfl ?_
  refine ev_aload_n pm20 i20_5 rfl rfl rfl ?_
  refine ev_iconst (v := 0) pm20 i20_6 rfl (by decide) rfl ?_
  obtain ⟨h3, e4, hS⟩ := bn_s hS
  refine ev_putI pm20 i20_7 rfl rfl rfl e4 rfl ?_
  refine ev_aload_n pm20 i20_10 rfl rfl rfl ?_
  refine ev_iconst (v := 0) pm20 i20_11 rfl (by decide) rfl ?_
  obtain ⟨h5, e6, hS⟩ := bn_s hS
  refine ev_putI pm20 i20_12 rfl rfl rfl e6 rfl ?_
  refine ev_aload_n pm20 i20_15 rfl rfl rfl ?_
  refine ev_iconst (v := 0) pm20 i20_16 rfl (by decide) rfl ?_
  obtain ⟨h7, e8, hS⟩ := bn_s hS
  refine ev_putI pm20 i20_17 rfl rfl rfl e8 rfl ?_
  refine ev_aload_n pm20 i20_20 rfl rfl rfl ?_
  refine ev_iconst (v := 0) pm20 i20_21 rfl (by decide) rfl ?_
  obtain ⟨h9, e10, hS⟩ := bn_s hS
  refine ev_putI pm20 i20_22 rfl rfl rfl e10 rfl ?_
  refine ev_aload_n pm20 i20_25 rfl rfl rfl ?_
  refine ev_iconst (v := 0) pm20 i20_26 rfl (by decide) rfl ?_
  obtain ⟨h11, e12, hS⟩ := bn_s hS
  refine ev_putI pm20 i20_27 rfl rfl rfl e12 rfl ?_
  refine ev_aload_n pm20 i20_30 rfl rfl rfl ?_
  refine ev_iconst (v := 0) pm20 i20_31 rfl (by decide) rfl ?_
  obtain ⟨h13, e14, hS⟩ := bn_s hS
  refine ev_putI pm20 i20_32 rfl rfl rfl e14 rfl ?_
  refine ev_iconst (v := 0) pm20 i20_35 rfl (by decide) rfl ?_
  refine ev_istore_n (ls' := [.ref a0, .int (0 : Int32)]) pm20 i20_36 rfl (Nat.le_of_ble_eq_true rfl) rfl rfl ?_
  obtain ⟨x23, h25, e24, hS⟩ := bd_s hS
  refine L_to_clear_37 d (by omega) _ _ _ _ _ e24 _ ?_
  show Ev P d 20 (59, [.ref a0, unk], [], h25) _
  refine ev_aload_n pm20 i20_59 rfl rfl rfl ?_
  obtain ⟨x26, e27, hS⟩ := bn_s hS
  refine ev_getR pm20 i20_60 rfl rfl rfl e27 rfl ?_
  refine ev_iconst (v := 0) pm20 i20_63 rfl (by decide) rfl ?_
  obtain ⟨h28, e29, hS⟩ := bn_s hS
  refine ev_putI pm20 i20_64 rfl rfl rfl e29 rfl ?_
  refine ev_aload_n pm20 i20_67 rfl rfl rfl ?_
  obtain ⟨x30, e31, hS⟩ := bn_s hS
  refine ev_getR pm20 i20_68 rfl rfl rfl e31 rfl ?_
  refine ev_iconst (v := 0) pm20 i20_71 rfl (by decide) rfl ?_
  obtain ⟨h32, e33, hS⟩ := bn_s hS
  refine ev_putI pm20 i20_72 rfl rfl rfl e33 rfl ?_
  cases hS
  exact ev_return pm20 i20_75 rfl rfl rfl
def F_ma_min (a0 : Int32) (a1 : Int32) : Option Int32 :=
  if a1 < a0 then
    (some a1)
  else
    (some a0)
set_option maxRecDepth 20000 in
theorem R_ma_min (d : Nat) (hd : 0 ≤ d) {a0 : Int32} {a1 : Int32} {h : Hp} {v : Int32} (hS : F_ma_min a0 a1 = some v) : Ev P d 22 (0, [.int a0, .int a1], [], h) (some (.int v), h) := by
  unfold F_ma_min at hS
  refine ev_iload_n pm22 i22_0 rfl rfl rfl ?_
  refine ev_iload_n pm22 i22_1 rfl rfl rfl ?_
  by_cases c33 : a1 < a0
  · rw [if_pos c33] at hS
    refine ev_icmp_gt_t (t := 9) pm22 i22_2 rfl c33 rfl rfl ?_
    refine ev_iload_n pm22 i22_9 rfl rfl rfl ?_
    refine ev_kls (ls' := [unk, unk]) pm22 i22_10 rfl rfl ?_
    cases hS
    exact ev_ireturn pm22 i22_10 rfl rfl rfl
  · rw [if_neg c33] at hS
    refine ev_icmp_gt_f (t := 9) pm22 i22_2 rfl c33 rfl rfl ?_
    refine ev_iload_n pm22 i22_5 rfl rfl rfl ?_
    refine ev_goto (t := 10) pm22 i22_6 rfl rfl ?_
    refine ev_kls (ls' := [unk, unk]) pm22 i22_10 rfl rfl ?_
    cases hS
    exact ev_ireturn pm22 i22_10 rfl rfl rfl
def F_tk_isLetter (a0 : Int32) : Option Int32 :=
  if a0 < (97 : Int32) then
    (some (0 : Int32))
  else
    (if (122 : Int32) < a0 then
      (some (0 : Int32))
    else
      (some (1 : Int32)))
set_option maxRecDepth 20000 in
theorem R_tk_isLetter (d : Nat) (hd : 0 ≤ d) {a0 : Int32} {h : Hp} {v : Int32} (hS : F_tk_isLetter a0 = some v) : Ev P d 24 (0, [.int a0], [], h) (some (.int v), h) := by
  unfold F_tk_isLetter at hS
  refine ev_iload_n pm24 i24_0 rfl rfl rfl ?_
  refine ev_bipush (v := 97) pm24 i24_1 rfl (by decide) rfl ?_
  by_cases c34 : a0 < (97 : Int32)
  · rw [if_pos c34] at hS
    refine ev_icmp_lt_t (t := 16) pm24 i24_3 rfl c34 rfl rfl ?_
    refine ev_kls (ls' := [unk]) pm24 i24_16 rfl rfl ?_
    refine ev_iconst (v := 0) pm24 i24_16 rfl (by decide) rfl ?_
    cases hS
    exact ev_ireturn pm24 i24_17 rfl (by decide) rfl
  · rw [if_neg c34] at hS
    refine ev_icmp_lt_f (t := 16) pm24 i24_3 rfl c34 rfl rfl ?_
    refine ev_iload_n pm24 i24_6 rfl rfl rfl ?_
    refine ev_bipush (v := 122) pm24 i24_7 rfl (by decide) rfl ?_
    by_cases c35 : (122 : Int32) < a0
    · rw [if_pos c35] at hS
      refine ev_icmp_gt_t (t := 16) pm24 i24_9 rfl c35 rfl rfl ?_
      refine ev_kls (ls' := [unk]) pm24 i24_16 rfl rfl ?_
      refine ev_iconst (v := 0) pm24 i24_16 rfl (by decide) rfl ?_
      cases hS
      exact ev_ireturn pm24 i24_17 rfl (by decide) rfl
    · rw [if_neg c35] at hS
      refine ev_icmp_gt_f (t := 16) pm24 i24_9 rfl c35 rfl rfl ?_
      refine ev_iconst (v := 1) pm24 i24_12 rfl (by decide) rfl ?_
      refine ev_goto (t := 17) pm24 i24_13 rfl rfl ?_
      refine ev_kls (ls' := [unk]) pm24 i24_17 rfl rfl ?_
      cases hS
      exact ev_ireturn pm24 i24_17 rfl (by decide) rfl
def F_tk_isDigit (a0 : Int32) : Option Int32 :=
  if a0 < (48 : Int32) then
    (some (0 : Int32))
  else
    (if (57 : Int32) < a0 then
      (some (0 : Int32))
    else
      (some (1 : Int32)))
set_option maxRecDepth 20000 in
theorem R_tk_isDigit (d : Nat) (hd : 0 ≤ d) {a0 : Int32} {h : Hp} {v : Int32} (hS : F_tk_isDigit a0 = some v) : Ev P d 25 (0, [.int a0], [], h) (some (.int v), h) := by
  unfold F_tk_isDigit at hS
  refine ev_iload_n pm25 i25_0 rfl rfl rfl ?_
  refine ev_bipush (v := 48) pm25 i25_1 rfl (by decide) rfl ?_
  by_cases c36 : a0 < (48 : Int32)
  · rw [if_pos c36] at hS
    refine ev_icmp_lt_t (t := 16) pm25 i25_3 rfl c36 rfl rfl ?_
    refine ev_kls (ls' := [unk]) pm25 i25_16 rfl rfl ?_
    refine ev_iconst (v := 0) pm25 i25_16 rfl (by decide) rfl ?_
    cases hS
    exact ev_ireturn pm25 i25_17 rfl (by decide) rfl
  · rw [if_neg c36] at hS
    refine ev_icmp_lt_f (t := 16) pm25 i25_3 rfl c36 rfl rfl ?_
    refine ev_iload_n pm25 i25_6 rfl rfl rfl ?_
    refine ev_bipush (v := 57) pm25 i25_7 rfl (by decide) rfl ?_
    by_cases c37 : (57 : Int32) < a0
    · rw [if_pos c37] at hS
      refine ev_icmp_gt_t (t := 16) pm25 i25_9 rfl c37 rfl rfl ?_
      refine ev_kls (ls' := [unk]) pm25 i25_16 rfl rfl ?_
      refine ev_iconst (v := 0) pm25 i25_16 rfl (by decide) rfl ?_
      cases hS
      exact ev_ireturn pm25 i25_17 rfl (by decide) rfl
    · rw [if_neg c37] at hS
      refine ev_icmp_gt_f (t := 16) pm25 i25_9 rfl c37 rfl rfl ?_
      refine ev_iconst (v := 1) pm25 i25_12 rfl (by decide) rfl ?_
      refine ev_goto (t := 17) pm25 i25_13 rfl rfl ?_
      refine ev_kls (ls' := [unk]) pm25 i25_17 rfl rfl ?_
      cases hS
      exact ev_ireturn pm25 i25_17 rfl (by decide) rfl
def B_tk_advance_8 (l0 : Nat) (s : Unit) (h : Hp) : Option (((Unit) ⊕ (Unit)) × Hp) :=
  bn (gI h l0 9 3) fun x5 =>
  bn (gI h l0 9 1) fun x7 =>
  if x5 < x7 then
    (bn (gR h l0 9 0) fun x9 =>
    bn (gI h l0 9 3) fun x11 =>
    bn (aI h 101 x9 x11) fun x13 =>
    if x13 = (32 : Int32) then
      (bn (gI h l0 9 3) fun x15 =>
      bn (pI h l0 9 3 (x15 + (1 : Int32))) fun h17 =>
      some (.inl (), h17))
    else
      (some (.inr (), h)))
  else
    (some (.inr (), h))
set_option maxRecDepth 20000 in
theorem L_tk_advance_8 (d : Nat) (hd : 1 ≤ d) {l0 : Nat} : ∀ (n : Nat) (s : Unit) (h : Hp) (x : Unit) (hx : Hp), lp (B_tk_advance_8 l0) n s h = some (x, hx) → ∀ r, Ev P d 23 (46, [.ref l0], [], hx) r → Ev P d 23 (8, [.ref l0], [], h) r := by
  refine lp_ev (G0 := fun (s : Unit) h r => Ev P d 23 (8, [.ref l0], [], h) r) (X := fun (x : Unit) hx r => Ev P d 23 (46, [.ref l0], [], hx) r) ?_
  intro s h y h9 hS r hK
  unfold B_tk_advance_8 at hS
  show Ev P d 23 (8, [.ref l0], [], h) r
  refine ev_aload_n pm23 i23_8 rfl rfl rfl ?_
  obtain ⟨x5, e6, hS⟩ := bn_s hS
  refine ev_getI pm23 i23_9 rfl rfl (by decide) e6 rfl ?_
  refine ev_aload_n pm23 i23_12 rfl rfl rfl ?_
  obtain ⟨x7, e8, hS⟩ := bn_s hS
  refine ev_getI pm23 i23_13 rfl rfl (by decide) e8 rfl ?_
  by_cases c38 : x5 < x7
  · rw [if_pos c38] at hS
    refine ev_icmp_ge_t (t := 46) pm23 i23_16 rfl c38 rfl rfl ?_
    refine ev_aload_n pm23 i23_19 rfl rfl rfl ?_
    obtain ⟨x9, e10, hS⟩ := bn_s hS
    refine ev_getR pm23 i23_20 rfl rfl rfl e10 rfl ?_
    refine ev_aload_n pm23 i23_23 rfl rfl rfl ?_
    obtain ⟨x11, e12, hS⟩ := bn_s hS
    refine ev_getI pm23 i23_24 rfl rfl (by decide) e12 rfl ?_
    obtain ⟨x13, e14, hS⟩ := bn_s hS
    refine ev_bald pm23 i23_27 rfl e14 rfl ?_
    refine ev_bipush (v := 32) pm23 i23_28 rfl (by decide) rfl ?_
    by_cases c39 : x13 = (32 : Int32)
    · rw [if_pos c39] at hS
      refine ev_icmp_ne_t (t := 46) pm23 i23_30 rfl c39 rfl rfl ?_
      refine ev_aload_n pm23 i23_33 rfl rfl rfl ?_
      refine ev_dup pm23 i23_34 rfl rfl rfl ?_
      obtain ⟨x15, e16, hS⟩ := bn_s hS
      refine ev_getI pm23 i23_35 rfl rfl (by decide) e16 rfl ?_
      refine ev_iconst (v := 1) pm23 i23_38 rfl (by decide) rfl ?_
      refine ev_b2 (f := fun x y => x + y) pm23 i23_39 rfl (fun _ _ _ _ => rfl) rfl ?_
      obtain ⟨h17, e18, hS⟩ := bn_s hS
      refine ev_putI pm23 i23_40 rfl rfl rfl e18 rfl ?_
      refine ev_goto (t := 8) pm23 i23_43 rfl rfl ?_
      cases hS
      exact hK
    · rw [if_neg c39] at hS
      refine ev_icmp_ne_f (t := 46) pm23 i23_30 rfl c39 rfl rfl ?_
      cases hS
      exact hK
  · rw [if_neg c38] at hS
    refine ev_icmp_ge_f (t := 46) pm23 i23_16 rfl c38 rfl rfl ?_
    cases hS
    exact hK
def B_tk_advance_59 (l0 : Nat) (s : Unit) (h : Hp) : Option (((Unit) ⊕ (Unit)) × Hp) :=
  bn (gI h l0 9 2) fun x28 =>
  bn (gI h l0 9 1) fun x30 =>
  if x28 < x30 then
    (bn (gR h l0 9 0) fun x32 =>
    bn (gI h l0 9 2) fun x34 =>
    bn (aI h 101 x32 x34) fun x36 =>
    bn (F_tk_isLetter x36) fun x39 =>
    if x39 = (0 : Int32) then
      (some (.inr (), h))
    else
      (bn (gL h l0 9 6) fun x40 =>
      bn (gR h l0 9 0) fun x42 =>
      bn (gI h l0 9 2) fun x44 =>
      bn (aI h 101 x42 x44) fun x46 =>
      bn (pL h l0 9 6 ((x40 * (27 : Int64)) + (((x46 - (97 : Int32)) + (1 : Int32)).toInt64))) fun h48 =>
      bn (gI h48 l0 9 2) fun x50 =>
      bn (pI h48 l0 9 2 (x50 + (1 : Int32))) fun h52 =>
      some (.inl (), h52)))
  else
    (some (.inr (), h))
set_option maxRecDepth 20000 in
theorem L_tk_advance_59 (d : Nat) (hd : 1 ≤ d) {l0 : Nat} : ∀ (n : Nat) (s : Unit) (h : Hp) (x : Unit) (hx : Hp), lp (B_tk_advance_59 l0) n s h = some (x, hx) → ∀ r, Ev P d 23 (126, [.ref l0], [], hx) r → Ev P d 23 (59, [.ref l0], [], h) r := by
  refine lp_ev (G0 := fun (s : Unit) h r => Ev P d 23 (59, [.ref l0], [], h) r) (X := fun (x : Unit) hx r => Ev P d 23 (126, [.ref l0], [], hx) r) ?_
  intro s h y h9 hS r hK
  unfold B_tk_advance_59 at hS
  show Ev P d 23 (59, [.ref l0], [], h) r
  refine ev_aload_n pm23 i23_59 rfl rfl rfl ?_
  obtain ⟨x28, e29, hS⟩ := bn_s hS
  refine ev_getI pm23 i23_60 rfl rfl (by decide) e29 rfl ?_
  refine ev_aload_n pm23 i23_63 rfl rfl rfl ?_
  obtain ⟨x30, e31, hS⟩ := bn_s hS
  refine ev_getI pm23 i23_64 rfl rfl (by decide) e31 rfl ?_
  by_cases c40 : x28 < x30
  · rw [if_pos c40] at hS
    refine ev_icmp_ge_t (t := 126) pm23 i23_67 rfl c40 rfl rfl ?_
    refine ev_aload_n pm23 i23_70 rfl rfl rfl ?_
    obtain ⟨x32, e33, hS⟩ := bn_s hS
    refine ev_getR pm23 i23_71 rfl rfl rfl e33 rfl ?_
    refine ev_aload_n pm23 i23_74 rfl rfl rfl ?_
    obtain ⟨x34, e35, hS⟩ := bn_s hS
    refine ev_getI pm23 i23_75 rfl rfl (by decide) e35 rfl ?_
    obtain ⟨x36, e37, hS⟩ := bn_s hS
    refine ev_bald pm23 i23_78 rfl e37 rfl ?_
    obtain ⟨x39, e38, hS⟩ := bn_s hS
    refine ev_callS (sa := [.int x36]) (rest := []) (st' := [.int x39]) (ls0 := [.int x36]) (rv := some (.int x39)) pm23 i23_79 rfl rfl pm24 (by decide) rfl rfl (Nat.le_of_ble_eq_true rfl) (by omega) rfl (R_tk_isLetter (d - 1) (by omega) e38) (by simp) rfl rfl ?_
    by_cases c41 : x39 = (0 : Int32)
    · rw [if_pos c41] at hS
      refine ev_if_eq_t (t := 126) pm23 i23_82 rfl c41 rfl rfl ?_
      cases hS
      exact hK
    · rw [if_neg c41] at hS
      refine ev_if_eq_f (t := 126) pm23 i23_82 rfl c41 rfl rfl ?_
      refine ev_aload_n pm23 i23_85 rfl rfl rfl ?_
      refine ev_aload_n pm23 i23_86 rfl rfl rfl ?_
      obtain ⟨x40, e41, hS⟩ := bn_s hS
      refine ev_getL pm23 i23_87 rfl rfl rfl e41 rfl ?_
      refine ev_ldc2_w (v := .long (27 : Int64)) pm23 i23_90 rfl rfl rfl ?_
      refine ev_bl2 (f := fun x y => x * y) pm23 i23_93 rfl (fun _ _ _ _ => rfl) rfl ?_
      refine ev_aload_n pm23 i23_94 rfl rfl rfl ?_
      obtain ⟨x42, e43, hS⟩ := bn_s hS
      refine ev_getR pm23 i23_95 rfl rfl rfl e43 rfl ?_
      refine ev_aload_n pm23 i23_98 rfl rfl rfl ?_
      obtain ⟨x44, e45, hS⟩ := bn_s hS
      refine ev_getI pm23 i23_99 rfl rfl (by decide) e45 rfl ?_
      obtain ⟨x46, e47, hS⟩ := bn_s hS
      refine ev_bald pm23 i23_102 rfl e47 rfl ?_
      refine ev_bipush (v := 97) pm23 i23_103 rfl (by decide) rfl ?_
      refine ev_b2 (f := fun x y => x - y) pm23 i23_105 rfl (fun _ _ _ _ => rfl) rfl ?_
      refine ev_iconst (v := 1) pm23 i23_106 rfl (by decide) rfl ?_
      refine ev_b2 (f := fun x y => x + y) pm23 i23_107 rfl (fun _ _ _ _ => rfl) rfl ?_
      refine ev_i2l pm23 i23_108 rfl rfl ?_
      refine ev_bl2 (f := fun x y => x + y) pm23 i23_109 rfl (fun _ _ _ _ => rfl) rfl ?_
      obtain ⟨h48, e49, hS⟩ := bn_s hS
      refine ev_putL pm23 i23_110 rfl rfl rfl e49 rfl ?_
      refine ev_aload_n pm23 i23_113 rfl rfl rfl ?_
      refine ev_dup pm23 i23_114 rfl rfl rfl ?_
      obtain ⟨x50, e51, hS⟩ := bn_s hS
      refine ev_getI pm23 i23_115 rfl rfl (by decide) e51 rfl ?_
      refine ev_iconst (v := 1) pm23 i23_118 rfl (by decide) rfl ?_
      refine ev_b2 (f := fun x y => x + y) pm23 i23_119 rfl (fun _ _ _ _ => rfl) rfl ?_
      obtain ⟨h52, e53, hS⟩ := bn_s hS
      refine ev_putI pm23 i23_120 rfl rfl rfl e53 rfl ?_
      refine ev_goto (t := 59) pm23 i23_123 rfl rfl ?_
      cases hS
      exact hK
  · rw [if_neg c40] at hS
    refine ev_icmp_ge_f (t := 126) pm23 i23_67 rfl c40 rfl rfl ?_
    cases hS
    exact hK
def B_tk_advance_166 (l0 : Nat) (s : Unit) (h : Hp) : Option (((Unit) ⊕ (Unit)) × Hp) :=
  bn (gI h l0 9 2) fun x71 =>
  bn (gI h l0 9 1) fun x73 =>
  if x71 < x73 then
    (bn (gR h l0 9 0) fun x75 =>
    bn (gI h l0 9 2) fun x77 =>
    bn (aI h 101 x75 x77) fun x79 =>
    bn (F_tk_isDigit x79) fun x82 =>
    if x82 = (0 : Int32) then
      (some (.inr (), h))
    else
      (bn (gI h l0 9 5) fun x83 =>
      bn (gR h l0 9 0) fun x85 =>
      bn (gI h l0 9 2) fun x87 =>
      bn (aI h 101 x85 x87) fun x89 =>
      bn (pI h l0 9 5 ((x83 * (10 : Int32)) + (x89 - (48 : Int32)))) fun h91 =>
      bn (gI h91 l0 9 2) fun x93 =>
      bn (pI h91 l0 9 2 (x93 + (1 : Int32))) fun h95 =>
      some (.inl (), h95)))
  else
    (some (.inr (), h))
set_option maxRecDepth 20000 in
theorem L_tk_advance_166 (d : Nat) (hd : 1 ≤ d) {l0 : Nat} : ∀ (n : Nat) (s : Unit) (h : Hp) (x : Unit) (hx : Hp), lp (B_tk_advance_166 l0) n s h = some (x, hx) → ∀ r, Ev P d 23 (229, [.ref l0], [], hx) r → Ev P d 23 (166, [.ref l0], [], h) r := by
  refine lp_ev (G0 := fun (s : Unit) h r => Ev P d 23 (166, [.ref l0], [], h) r) (X := fun (x : Unit) hx r => Ev P d 23 (229, [.ref l0], [], hx) r) ?_
  intro s h y h9 hS r hK
  unfold B_tk_advance_166 at hS
  show Ev P d 23 (166, [.ref l0], [], h) r
  refine ev_aload_n pm23 i23_166 rfl rfl rfl ?_
  obtain ⟨x71, e72, hS⟩ := bn_s hS
  refine ev_getI pm23 i23_167 rfl rfl (by decide) e72 rfl ?_
  refine ev_aload_n pm23 i23_170 rfl rfl rfl ?_
  obtain ⟨x73, e74, hS⟩ := bn_s hS
  refine ev_getI pm23 i23_171 rfl rfl (by decide) e74 rfl ?_
  by_cases c42 : x71 < x73
  · rw [if_pos c42] at hS
    refine ev_icmp_ge_t (t := 229) pm23 i23_174 rfl c42 rfl rfl ?_
    refine ev_aload_n pm23 i23_177 rfl rfl rfl ?_
    obtain ⟨x75, e76, hS⟩ := bn_s hS
    refine ev_getR pm23 i23_178 rfl rfl rfl e76 rfl ?_
    refine ev_aload_n pm23 i23_181 rfl rfl rfl ?_
    obtain ⟨x77, e78, hS⟩ := bn_s hS
    refine ev_getI pm23 i23_182 rfl rfl (by decide) e78 rfl ?_
    obtain ⟨x79, e80, hS⟩ := bn_s hS
    refine ev_bald pm23 i23_185 rfl e80 rfl ?_
    obtain ⟨x82, e81, hS⟩ := bn_s hS
    refine ev_callS (sa := [.int x79]) (rest := []) (st' := [.int x82]) (ls0 := [.int x79]) (rv := some (.int x82)) pm23 i23_186 rfl rfl pm25 (by decide) rfl rfl (Nat.le_of_ble_eq_true rfl) (by omega) rfl (R_tk_isDigit (d - 1) (by omega) e81) (by simp) rfl rfl ?_
    by_cases c43 : x82 = (0 : Int32)
    · rw [if_pos c43] at hS
      refine ev_if_eq_t (t := 229) pm23 i23_189 rfl c43 rfl rfl ?_
      cases hS
      exact hK
    · rw [if_neg c43] at hS
      refine ev_if_eq_f (t := 229) pm23 i23_189 rfl c43 rfl rfl ?_
      refine ev_aload_n pm23 i23_192 rfl rfl rfl ?_
      refine ev_aload_n pm23 i23_193 rfl rfl rfl ?_
      obtain ⟨x83, e84, hS⟩ := bn_s hS
      refine ev_getI pm23 i23_194 rfl rfl (by decide) e84 rfl ?_
      refine ev_bipush (v := 10) pm23 i23_197 rfl (by decide) rfl ?_
      refine ev_b2 (f := fun x y => x * y) pm23 i23_199 rfl (fun _ _ _ _ => rfl) rfl ?_
      refine ev_aload_n pm23 i23_200 rfl rfl rfl ?_
      obtain ⟨x85, e86, hS⟩ := bn_s hS
      refine ev_getR pm23 i23_201 rfl rfl rfl e86 rfl ?_
      refine ev_aload_n pm23 i23_204 rfl rfl rfl ?_
      obtain ⟨x87, e88, hS⟩ := bn_s hS
      refine ev_getI pm23 i23_205 rfl rfl (by decide) e88 rfl ?_
      obtain ⟨x89, e90, hS⟩ := bn_s hS
      refine ev_bald pm23 i23_208 rfl e90 rfl ?_
      refine ev_bipush (v := 48) pm23 i23_209 rfl (by decide) rfl ?_
      refine ev_b2 (f := fun x y => x - y) pm23 i23_211 rfl (fun _ _ _ _ => rfl) rfl ?_
      refine ev_b2 (f := fun x y => x + y) pm23 i23_212 rfl (fun _ _ _ _ => rfl) rfl ?_
      obtain ⟨h91, e92, hS⟩ := bn_s hS
      refine ev_putI pm23 i23_213 rfl rfl rfl e92 rfl ?_
      refine ev_aload_n pm23 i23_216 rfl rfl rfl ?_
      refine ev_dup pm23 i23_217 rfl rfl rfl ?_
      obtain ⟨x93, e94, hS⟩ := bn_s hS
      refine ev_getI pm23 i23_218 rfl rfl (by decide) e94 rfl ?_
      refine ev_iconst (v := 1) pm23 i23_221 rfl (by decide) rfl ?_
      refine ev_b2 (f := fun x y => x + y) pm23 i23_222 rfl (fun _ _ _ _ => rfl) rfl ?_
      obtain ⟨h95, e96, hS⟩ := bn_s hS
      refine ev_putI pm23 i23_223 rfl rfl rfl e96 rfl ?_
      refine ev_goto (t := 166) pm23 i23_226 rfl rfl ?_
      cases hS
      exact hK
  · rw [if_neg c42] at hS
    refine ev_icmp_ge_f (t := 229) pm23 i23_174 rfl c42 rfl rfl ?_
    cases hS
    exact hK
def F_tk_advance (a0 : Nat) (h : Hp) : Option Hp :=
  ck h a0 9 (bn (gI h a0 9 2) fun x1 =>
  bn (pI h a0 9 3 x1) fun h3 =>
  bd (lp (B_tk_advance_8 a0) FU () h3) fun x19 h21 =>
  bn (gI h21 a0 9 3) fun x22 =>
  bn (pI h21 a0 9 2 x22) fun h24 =>
  bn (pL h24 a0 9 6 (0 : Int64)) fun h26 =>
  bd (lp (B_tk_advance_59 a0) FU () h26) fun x54 h56 =>
  bn (gI h56 a0 9 2) fun x57 =>
  bn (gI h56 a0 9 3) fun x59 =>
  if x59 < x57 then
    (bn (gI h56 a0 9 2) fun x61 =>
    bn (gI h56 a0 9 3) fun x63 =>
    if (8 : Int32) < (x61 - x63) then
      (bn (pI h56 a0 9 4 (4 : Int32)) fun h65 =>
      some h65)
    else
      (bn (pI h56 a0 9 4 (0 : Int32)) fun h67 =>
      some h67))
  else
    (bn (pI h56 a0 9 5 (0 : Int32)) fun h69 =>
    bd (lp (B_tk_advance_166 a0) FU () h69) fun x97 h99 =>
    bn (gI h99 a0 9 2) fun x100 =>
    bn (gI h99 a0 9 3) fun x102 =>
    if x102 < x100 then
      (bn (gI h99 a0 9 2) fun x104 =>
      bn (gI h99 a0 9 3) fun x106 =>
      if (3 : Int32) < (x104 - x106) then
        (bn (pI h99 a0 9 4 (4 : Int32)) fun h108 =>
        some h108)
      else
        (bn (pI h99 a0 9 4 (1 : Int32)) fun h110 =>
        some h110))
    else
      (bn (gI h99 a0 9 3) fun x112 =>
      bn (gI h99 a0 9 1) fun x114 =>
      if x112 < x114 then
        (bn (gR h99 a0 9 0) fun x116 =>
        bn (gI h99 a0 9 3) fun x118 =>
        bn (aI h99 101 x116 x118) fun x120 =>
        bn (if x120 = (59 : Int32) then
            (some (2 : Int32))
          else
            (some (4 : Int32))) fun q122 =>
        bn (pI h99 a0 9 4 q122) fun h123 =>
        bn (gI h123 a0 9 2) fun x125 =>
        bn (pI h123 a0 9 2 (x125 + (1 : Int32))) fun h127 =>
        some h127)
      else
        (bn (pI h99 a0 9 4 (3 : Int32)) fun h129 =>
        some h129))))
set_option maxRecDepth 20000 in
theorem K_tk_advance {a0 : Nat} {h : Hp} {h' : Hp} (hS : F_tk_advance a0 h = some h') : kd h a0 = 9 := by
  unfold F_tk_advance at hS
  exact (ck_s hS).1
set_option maxRecDepth 20000 in
theorem R_tk_advance (d : Nat) (hd : 1 ≤ d) {a0 : Nat} {h : Hp} {h' : Hp} (hS : F_tk_advance a0 h = some h') : Ev P d 23 (0, [.ref a0], [], h) (none, h') := by
  unfold F_tk_advance at hS
  replace hS := (ck_s hS).2
  refine ev_aload_n pm23 i23_0 rfl rfl rfl ?_
  refine ev_aload_n pm23 i23_1 rfl rfl rfl ?_
  obtain ⟨x1, e2, hS⟩ := bn_s hS
  refine ev_getI pm23 i23_2 rfl rfl (by decide) e2 rfl ?_
  obtain ⟨h3, e4, hS⟩ := bn_s hS
  refine ev_putI pm23 i23_5 rfl rfl rfl e4 rfl ?_
  obtain ⟨x19, h21, e20, hS⟩ := bd_s hS
  refine L_tk_advance_8 d (by omega) _ _ _ _ _ e20 _ ?_
  show Ev P d 23 (46, [.ref a0], [], h21) _
  refine ev_aload_n pm23 i23_46 rfl rfl rfl ?_
  refine ev_aload_n pm23 i23_47 rfl rfl rfl ?_
  obtain ⟨x22, e23, hS⟩ := bn_s hS
  refine ev_getI pm23 i23_48 rfl rfl (by decide) e23 rfl ?_
  obtain ⟨h24, e25, hS⟩ := bn_s hS
  refine ev_putI pm23 i23_51 rfl rfl rfl e25 rfl ?_
  refine ev_aload_n pm23 i23_54 rfl rfl rfl ?_
  refine ev_lconst (v := 0) pm23 i23_55 rfl (by decide) rfl ?_
  obtain ⟨h26, e27, hS⟩ := bn_s hS
  refine ev_putL pm23 i23_56 rfl rfl rfl e27 rfl ?_
  obtain ⟨x54, h56, e55, hS⟩ := bd_s hS
  refine L_tk_advance_59 d (by omega) _ _ _ _ _ e55 _ ?_
  show Ev P d 23 (126, [.ref a0], [], h56) _
  refine ev_aload_n pm23 i23_126 rfl rfl rfl ?_
  obtain ⟨x57, e58, hS⟩ := bn_s hS
  refine ev_getI pm23 i23_127 rfl rfl (by decide) e58 rfl ?_
  refine ev_aload_n pm23 i23_130 rfl rfl rfl ?_
  obtain ⟨x59, e60, hS⟩ := bn_s hS
  refine ev_getI pm23 i23_131 rfl rfl (by decide) e60 rfl ?_
  by_cases c44 : x59 < x57
  · rw [if_pos c44] at hS
    refine ev_icmp_le_t (t := 161) pm23 i23_134 rfl c44 rfl rfl ?_
    refine ev_aload_n pm23 i23_137 rfl rfl rfl ?_
    refine ev_aload_n pm23 i23_138 rfl rfl rfl ?_
    obtain ⟨x61, e62, hS⟩ := bn_s hS
    refine ev_getI pm23 i23_139 rfl rfl (by decide) e62 rfl ?_
    refine ev_aload_n pm23 i23_142 rfl rfl rfl ?_
    obtain ⟨x63, e64, hS⟩ := bn_s hS
    refine ev_getI pm23 i23_143 rfl rfl (by decide) e64 rfl ?_
    refine ev_b2 (f := fun x y => x - y) pm23 i23_146 rfl (fun _ _ _ _ => rfl) rfl ?_
    refine ev_bipush (v := 8) pm23 i23_147 rfl (by decide) rfl ?_
    by_cases c45 : (8 : Int32) < (x61 - x63)
    · rw [if_pos c45] at hS
      refine ev_icmp_gt_t (t := 156) pm23 i23_149 rfl c45 rfl rfl ?_
      refine ev_iconst (v := 4) pm23 i23_156 rfl (by decide) rfl ?_
      refine ev_kls (ls' := [unk]) pm23 i23_157 rfl rfl ?_
      obtain ⟨h65, e66, hS⟩ := bn_s hS
      refine ev_putI pm23 i23_157 rfl rfl rfl e66 rfl ?_
      cases hS
      exact ev_return pm23 i23_160 rfl rfl rfl
    · rw [if_neg c45] at hS
      refine ev_icmp_gt_f (t := 156) pm23 i23_149 rfl c45 rfl rfl ?_
      refine ev_iconst (v := 0) pm23 i23_152 rfl (by decide) rfl ?_
      refine ev_goto (t := 157) pm23 i23_153 rfl rfl ?_
      refine ev_kls (ls' := [unk]) pm23 i23_157 rfl rfl ?_
      obtain ⟨h67, e68, hS⟩ := bn_s hS
      refine ev_putI pm23 i23_157 rfl rfl rfl e68 rfl ?_
      cases hS
      exact ev_return pm23 i23_160 rfl rfl rfl
  · rw [if_neg c44] at hS
    refine ev_icmp_le_f (t := 161) pm23 i23_134 rfl c44 rfl rfl ?_
    refine ev_aload_n pm23 i23_161 rfl rfl rfl ?_
    refine ev_iconst (v := 0) pm23 i23_162 rfl (by decide) rfl ?_
    obtain ⟨h69, e70, hS⟩ := bn_s hS
    refine ev_putI pm23 i23_163 rfl rfl rfl e70 rfl ?_
    obtain ⟨x97, h99, e98, hS⟩ := bd_s hS
    refine L_tk_advance_166 d (by omega) _ _ _ _ _ e98 _ ?_
    show Ev P d 23 (229, [.ref a0], [], h99) _
    refine ev_aload_n pm23 i23_229 rfl rfl rfl ?_
    obtain ⟨x100, e101, hS⟩ := bn_s hS
    refine ev_getI pm23 i23_230 rfl rfl (by decide) e101 rfl ?_
    refine ev_aload_n pm23 i23_233 rfl rfl rfl ?_
    obtain ⟨x102, e103, hS⟩ := bn_s hS
    refine ev_getI pm23 i23_234 rfl rfl (by decide) e103 rfl ?_
    by_cases c46 : x102 < x100
    · rw [if_pos c46] at hS
      refine ev_icmp_le_t (t := 265) pm23 i23_237 rfl c46 rfl rfl ?_
      refine ev_aload_n pm23 i23_240 rfl rfl rfl ?_
      refine ev_aload_n pm23 i23_241 rfl rfl rfl ?_
      obtain ⟨x104, e105, hS⟩ := bn_s hS
      refine ev_getI pm23 i23_242 rfl rfl (by decide) e105 rfl ?_
      refine ev_aload_n pm23 i23_245 rfl rfl rfl ?_
      obtain ⟨x106, e107, hS⟩ := bn_s hS
      refine ev_getI pm23 i23_246 rfl rfl (by decide) e107 rfl ?_
      refine ev_b2 (f := fun x y => x - y) pm23 i23_249 rfl (fun _ _ _ _ => rfl) rfl ?_
      refine ev_iconst (v := 3) pm23 i23_250 rfl (by decide) rfl ?_
      by_cases c47 : (3 : Int32) < (x104 - x106)
      · rw [if_pos c47] at hS
        refine ev_icmp_gt_t (t := 258) pm23 i23_251 rfl c47 rfl rfl ?_
        refine ev_iconst (v := 4) pm23 i23_258 rfl (by decide) rfl ?_
        refine ev_kls (ls' := [unk]) pm23 i23_259 rfl rfl ?_
        obtain ⟨h108, e109, hS⟩ := bn_s hS
        refine ev_putI pm23 i23_259 rfl rfl rfl e109 rfl ?_
        refine ev_goto (t := 317) pm23 i23_262 rfl rfl ?_
        cases hS
        exact ev_return pm23 i23_317 rfl rfl rfl
      · rw [if_neg c47] at hS
        refine ev_icmp_gt_f (t := 258) pm23 i23_251 rfl c47 rfl rfl ?_
        refine ev_iconst (v := 1) pm23 i23_254 rfl (by decide) rfl ?_
        refine ev_goto (t := 259) pm23 i23_255 rfl rfl ?_
        refine ev_kls (ls' := [unk]) pm23 i23_259 rfl rfl ?_
        obtain ⟨h110, e111, hS⟩ := bn_s hS
        refine ev_putI pm23 i23_259 rfl rfl rfl e111 rfl ?_
        refine ev_goto (t := 317) pm23 i23_262 rfl rfl ?_
        cases hS
        exact ev_return pm23 i23_317 rfl rfl rfl
    · rw [if_neg c46] at hS
      refine ev_icmp_le_f (t := 265) pm23 i23_237 rfl c46 rfl rfl ?_
      refine ev_aload_n pm23 i23_265 rfl rfl rfl ?_
      obtain ⟨x112, e113, hS⟩ := bn_s hS
      refine ev_getI pm23 i23_266 rfl rfl (by decide) e113 rfl ?_
      refine ev_aload_n pm23 i23_269 rfl rfl rfl ?_
      obtain ⟨x114, e115, hS⟩ := bn_s hS
      refine ev_getI pm23 i23_270 rfl rfl (by decide) e115 rfl ?_
      by_cases c48 : x112 < x114
      · rw [if_pos c48] at hS
        refine ev_icmp_lt_t (t := 284) pm23 i23_273 rfl c48 rfl rfl ?_
        refine ev_aload_n pm23 i23_284 rfl rfl rfl ?_
        refine ev_aload_n pm23 i23_285 rfl rfl rfl ?_
        obtain ⟨x116, e117, hS⟩ := bn_s hS
        refine ev_getR pm23 i23_286 rfl rfl rfl e117 rfl ?_
        refine ev_aload_n pm23 i23_289 rfl rfl rfl ?_
        obtain ⟨x118, e119, hS⟩ := bn_s hS
        refine ev_getI pm23 i23_290 rfl rfl (by decide) e119 rfl ?_
        obtain ⟨x120, e121, hS⟩ := bn_s hS
        refine ev_bald pm23 i23_293 rfl e121 rfl ?_
        refine ev_bipush (v := 59) pm23 i23_294 rfl (by decide) rfl ?_
        obtain ⟨q122, I49, hS⟩ := bn_s hS
        have J1 : Ev P d 23 (304, [.ref a0], [.int q122, .ref a0], h99) (none, h') := by
          obtain ⟨h123, e124, hS⟩ := bn_s hS
          refine ev_putI pm23 i23_304 rfl rfl rfl e124 rfl ?_
          refine ev_aload_n pm23 i23_307 rfl rfl rfl ?_
          refine ev_dup pm23 i23_308 rfl rfl rfl ?_
          obtain ⟨x125, e126, hS⟩ := bn_s hS
          refine ev_getI pm23 i23_309 rfl rfl (by decide) e126 rfl ?_
          refine ev_iconst (v := 1) pm23 i23_312 rfl (by decide) rfl ?_
          refine ev_b2 (f := fun x y => x + y) pm23 i23_313 rfl (fun _ _ _ _ => rfl) rfl ?_
          obtain ⟨h127, e128, hS⟩ := bn_s hS
          refine ev_putI pm23 i23_314 rfl rfl rfl e128 rfl ?_
          refine ev_kls (ls' := [unk]) pm23 i23_317 rfl rfl ?_
          cases hS
          exact ev_return pm23 i23_317 rfl rfl rfl
        clear hS
        by_cases c49 : x120 = (59 : Int32)
        · rw [if_pos c49] at I49
          refine ev_icmp_ne_t (t := 303) pm23 i23_296 rfl c49 rfl rfl ?_
          refine ev_iconst (v := 2) pm23 i23_299 rfl (by decide) rfl ?_
          refine ev_goto (t := 304) pm23 i23_300 rfl rfl ?_
          cases I49
          exact J1
        · rw [if_neg c49] at I49
          refine ev_icmp_ne_f (t := 303) pm23 i23_296 rfl c49 rfl rfl ?_
          refine ev_iconst (v := 4) pm23 i23_303 rfl (by decide) rfl ?_
          cases I49
          exact J1
      · rw [if_neg c48] at hS
        refine ev_icmp_lt_f (t := 284) pm23 i23_273 rfl c48 rfl rfl ?_
        refine ev_aload_n pm23 i23_276 rfl rfl rfl ?_
        refine ev_iconst (v := 3) pm23 i23_277 rfl (by decide) rfl ?_
        obtain ⟨h129, e130, hS⟩ := bn_s hS
        refine ev_putI pm23 i23_278 rfl rfl rfl e130 rfl ?_
        refine ev_goto (t := 317) pm23 i23_281 rfl rfl ?_
        refine ev_kls (ls' := [unk]) pm23 i23_317 rfl rfl ?_
        cases hS
        exact ev_return pm23 i23_317 rfl rfl rfl
def F_tk_start (a0 : Nat) (a1 : Nat) (a2 : Int32) (h : Hp) : Option Hp :=
  ck h a0 9 (bn (pR h a0 9 0 (some a1)) fun h1 =>
  bn (gR h1 a0 9 0) fun x3 =>
  bn (aN h1 x3) fun x5 =>
  bn (F_ma_min a2 x5) fun x8 =>
  bn (pI h1 a0 9 1 x8) fun h9 =>
  bn (pI h9 a0 9 2 (0 : Int32)) fun h11 =>
  bn (F_tk_advance a0 h11) fun h14 =>
  some h14)
set_option maxRecDepth 20000 in
theorem K_tk_start {a0 : Nat} {a1 : Nat} {a2 : Int32} {h : Hp} {h' : Hp} (hS : F_tk_start a0 a1 a2 h = some h') : kd h a0 = 9 := by
  unfold F_tk_start at hS
  exact (ck_s hS).1
set_option maxRecDepth 20000 in
theorem R_tk_start (d : Nat) (hd : 2 ≤ d) {a0 : Nat} {a1 : Nat} {a2 : Int32} {h : Hp} {h' : Hp} (hS : F_tk_start a0 a1 a2 h = some h') : Ev P d 21 (0, [.ref a0, .ref a1, .int a2], [], h) (none, h') := by
  unfold F_tk_start at hS
  replace hS := (ck_s hS).2
  refine ev_aload_n pm21 i21_0 rfl rfl rfl ?_
  refine ev_aload_n pm21 i21_1 rfl rfl rfl ?_
  obtain ⟨h1, e2, hS⟩ := bn_s hS
  refine ev_putR pm21 i21_2 rfl rfl rfl e2 rfl ?_
  refine ev_aload_n pm21 i21_5 rfl rfl rfl ?_
  refine ev_iload_n pm21 i21_6 rfl rfl rfl ?_
  refine ev_aload_n pm21 i21_7 rfl rfl rfl ?_
  obtain ⟨x3, e4, hS⟩ := bn_s hS
  refine ev_getR pm21 i21_8 rfl rfl rfl e4 rfl ?_
  obtain ⟨x5, e6, hS⟩ := bn_s hS
  refine ev_alen pm21 i21_11 rfl e6 rfl ?_
  obtain ⟨x8, e7, hS⟩ := bn_s hS
  refine ev_callS (sa := [.int x5, .int a2]) (rest := [.ref a0]) (st' := [.int x8, .ref a0]) (ls0 := [.int a2, .int x5]) (rv := some (.int x8)) pm21 i21_12 rfl rfl pm22 (by decide) rfl rfl (Nat.le_of_ble_eq_true rfl) (by omega) rfl (R_ma_min (d - 1) (by omega) e7) (by simp) rfl rfl ?_
  obtain ⟨h9, e10, hS⟩ := bn_s hS
  refine ev_putI pm21 i21_15 rfl rfl rfl e10 rfl ?_
  refine ev_aload_n pm21 i21_18 rfl rfl rfl ?_
  refine ev_iconst (v := 0) pm21 i21_19 rfl (by decide) rfl ?_
  obtain ⟨h11, e12, hS⟩ := bn_s hS
  refine ev_putI pm21 i21_20 rfl rfl rfl e12 rfl ?_
  refine ev_aload_n pm21 i21_23 rfl rfl rfl ?_
  obtain ⟨h14, e13, hS⟩ := bn_s hS
  refine ev_callV (sa := []) (rest := []) (st' := []) (ls0 := [.ref a0]) (rv := none) pm21 i21_24 rfl rfl pm23 (by decide) (K_tk_advance e13) rfl rfl (Nat.le_of_ble_eq_true rfl) (by omega) rfl (R_tk_advance (d - 1) (by omega) e13) (by simp) rfl rfl ?_
  cases hS
  exact ev_return pm21 i21_27 rfl rfl rfl
def F_sg_coder (a0 : Nat) (h : Hp) : Option Int32 :=
  ck h a0 50 (if (1 : Int32) = (0 : Int32) then
    (some (1 : Int32))
  else
    (bn (gI h a0 50 1) fun x1 =>
    if retV .byte x1 = true then
      (some x1)
    else
      (none)))
set_option maxRecDepth 20000 in
theorem K_sg_coder {a0 : Nat} {h : Hp} {v : Int32} (hS : F_sg_coder a0 h = some v) : kd h a0 = 50 := by
  unfold F_sg_coder at hS
  exact (ck_s hS).1
set_option maxRecDepth 20000 in
theorem R_sg_coder (d : Nat) (hd : 0 ≤ d) {a0 : Nat} {h : Hp} {v : Int32} (hS : F_sg_coder a0 h = some v) : Ev P d 30 (0, [.ref a0], [], h) (some (.int v), h) := by
  unfold F_sg_coder at hS
  replace hS := (ck_s hS).2
  refine ev_getstatic (v := .int (1 : Int32)) pm30 i30_0 rfl rfl rfl ?_
  by_cases c50 : (1 : Int32) = (0 : Int32)
  · rw [if_pos c50] at hS
    refine ev_if_eq_t (t := 13) pm30 i30_3 rfl c50 rfl rfl ?_
    refine ev_iconst (v := 1) pm30 i30_13 rfl (by decide) rfl ?_
    refine ev_kls (ls' := [unk]) pm30 i30_14 rfl rfl ?_
    cases hS
    exact ev_ireturn pm30 i30_14 rfl (by decide) rfl
  · rw [if_neg c50] at hS
    refine ev_if_eq_f (t := 13) pm30 i30_3 rfl c50 rfl rfl ?_
    refine ev_aload_n pm30 i30_6 rfl rfl rfl ?_
    obtain ⟨x1, e2, hS⟩ := bn_s hS
    refine ev_getI pm30 i30_7 rfl rfl (by decide) e2 rfl ?_
    refine ev_goto (t := 14) pm30 i30_10 rfl rfl ?_
    refine ev_kls (ls' := [unk]) pm30 i30_14 rfl rfl ?_
    by_cases c51 : retV .byte x1 = true
    · rw [if_pos c51] at hS
      cases hS
      exact ev_ireturn pm30 i30_14 rfl c51 rfl
    · rw [if_neg c51] at hS
      cases hS
def F_sg_length (a0 : Nat) (h : Hp) : Option Int32 :=
  ck h a0 50 (bn (gR h a0 50 0) fun x1 =>
  bn (aN h x1) fun x3 =>
  bn (F_sg_coder a0 h) fun x6 =>
  some (x3 >>> (x6 &&& 31)))
set_option maxRecDepth 20000 in
theorem K_sg_length {a0 : Nat} {h : Hp} {v : Int32} (hS : F_sg_length a0 h = some v) : kd h a0 = 50 := by
  unfold F_sg_length at hS
  exact (ck_s hS).1
set_option maxRecDepth 20000 in
theorem R_sg_length (d : Nat) (hd : 1 ≤ d) {a0 : Nat} {h : Hp} {v : Int32} (hS : F_sg_length a0 h = some v) : Ev P d 29 (0, [.ref a0], [], h) (some (.int v), h) := by
  unfold F_sg_length at hS
  replace hS := (ck_s hS).2
  refine ev_aload_n pm29 i29_0 rfl rfl rfl ?_
  obtain ⟨x1, e2, hS⟩ := bn_s hS
  refine ev_getR pm29 i29_1 rfl rfl rfl e2 rfl ?_
  obtain ⟨x3, e4, hS⟩ := bn_s hS
  refine ev_alen pm29 i29_4 rfl e4 rfl ?_
  refine ev_aload_n pm29 i29_5 rfl rfl rfl ?_
  obtain ⟨x6, e5, hS⟩ := bn_s hS
  refine ev_callV (sa := []) (rest := [.int x3]) (st' := [.int x6, .int x3]) (ls0 := [.ref a0]) (rv := some (.int x6)) pm29 i29_6 rfl rfl pm30 (by decide) (K_sg_coder e5) rfl rfl (Nat.le_of_ble_eq_true rfl) (by omega) rfl (R_sg_coder (d - 1) (by omega) e5) (by simp) rfl rfl ?_
  refine ev_b2 (f := fun x y => x >>> (y &&& 31)) pm29 i29_9 rfl (fun _ _ _ _ => rfl) rfl ?_
  cases hS
  exact ev_ireturn pm29 i29_10 rfl rfl rfl
def F_sg_isLatin1 (a0 : Nat) (h : Hp) : Option Int32 :=
  ck h a0 50 (if (1 : Int32) = (0 : Int32) then
    (some (0 : Int32))
  else
    (bn (gI h a0 50 1) fun x1 =>
    if x1 = (0 : Int32) then
      (some (1 : Int32))
    else
      (some (0 : Int32))))
set_option maxRecDepth 20000 in
theorem K_sg_isLatin1 {a0 : Nat} {h : Hp} {v : Int32} (hS : F_sg_isLatin1 a0 h = some v) : kd h a0 = 50 := by
  unfold F_sg_isLatin1 at hS
  exact (ck_s hS).1
set_option maxRecDepth 20000 in
theorem R_sg_isLatin1 (d : Nat) (hd : 0 ≤ d) {a0 : Nat} {h : Hp} {v : Int32} (hS : F_sg_isLatin1 a0 h = some v) : Ev P d 32 (0, [.ref a0], [], h) (some (.int v), h) := by
  unfold F_sg_isLatin1 at hS
  replace hS := (ck_s hS).2
  refine ev_getstatic (v := .int (1 : Int32)) pm32 i32_0 rfl rfl rfl ?_
  by_cases c52 : (1 : Int32) = (0 : Int32)
  · rw [if_pos c52] at hS
    refine ev_if_eq_t (t := 17) pm32 i32_3 rfl c52 rfl rfl ?_
    refine ev_kls (ls' := [unk]) pm32 i32_17 rfl rfl ?_
    refine ev_iconst (v := 0) pm32 i32_17 rfl (by decide) rfl ?_
    cases hS
    exact ev_ireturn pm32 i32_18 rfl (by decide) rfl
  · rw [if_neg c52] at hS
    refine ev_if_eq_f (t := 17) pm32 i32_3 rfl c52 rfl rfl ?_
    refine ev_aload_n pm32 i32_6 rfl rfl rfl ?_
    obtain ⟨x1, e2, hS⟩ := bn_s hS
    refine ev_getI pm32 i32_7 rfl rfl (by decide) e2 rfl ?_
    by_cases c53 : x1 = (0 : Int32)
    · rw [if_pos c53] at hS
      refine ev_if_ne_t (t := 17) pm32 i32_10 rfl c53 rfl rfl ?_
      refine ev_iconst (v := 1) pm32 i32_13 rfl (by decide) rfl ?_
      refine ev_goto (t := 18) pm32 i32_14 rfl rfl ?_
      refine ev_kls (ls' := [unk]) pm32 i32_18 rfl rfl ?_
      cases hS
      exact ev_ireturn pm32 i32_18 rfl (by decide) rfl
    · rw [if_neg c53] at hS
      refine ev_if_ne_f (t := 17) pm32 i32_10 rfl c53 rfl rfl ?_
      refine ev_kls (ls' := [unk]) pm32 i32_17 rfl rfl ?_
      refine ev_iconst (v := 0) pm32 i32_17 rfl (by decide) rfl ?_
      cases hS
      exact ev_ireturn pm32 i32_18 rfl (by decide) rfl
def F_pq_checkIndex (a0 : Int32) (a1 : Int32) : Option Int32 :=
  bn (if a0 < (0 : Int32) then
      (some (Sum.inl ()))
    else
      (if a0 < a1 then
        (some (Sum.inr a0))
      else
        (some (Sum.inl ())))) fun x3 =>
  ei x3 (fun z2 =>
  none)
  (fun z => some z)
set_option maxRecDepth 20000 in
theorem R_pq_checkIndex (d : Nat) (hd : 0 ≤ d) {a0 : Int32} {a1 : Int32} {h : Hp} {v : Int32} (hS : F_pq_checkIndex a0 a1 = some v) : Ev P d 35 (0, [.int a0, .int a1, .retAddr 7], [], h) (some (.int v), h) := by
  unfold F_pq_checkIndex at hS
  refine ev_iload_n pm35 i35_0 rfl rfl rfl ?_
  obtain ⟨x3, I54, hS⟩ := bn_s hS
  have J1 : ∀ z2, x3 = Sum.inl z2 → Ev P d 35 (9, [.int a0, .int a1, .retAddr 7], [], h) (some (.int v), h) := by
    intro z2 hx
    subst hx
    replace hS := ei_l hS
    cases hS
  have Z1 := ej_z hS
  clear hS
  by_cases c54 : a0 < (0 : Int32)
  · rw [if_pos c54] at I54
    refine ev_if_lt_t (t := 9) pm35 i35_1 rfl c54 rfl rfl ?_
    cases I54
    exact J1 _ rfl
  · rw [if_neg c54] at I54
    refine ev_if_lt_f (t := 9) pm35 i35_1 rfl c54 rfl rfl ?_
    refine ev_iload_n pm35 i35_4 rfl rfl rfl ?_
    refine ev_iload_n pm35 i35_5 rfl rfl rfl ?_
    by_cases c55 : a0 < a1
    · rw [if_pos c55] at I54
      refine ev_icmp_lt_t (t := 16) pm35 i35_6 rfl c55 rfl rfl ?_
      refine ev_iload_n pm35 i35_16 rfl rfl rfl ?_
      cases I54
      have hz1 := Z1 _ rfl
      cases hz1
      exact ev_ireturn pm35 i35_17 rfl rfl rfl
    · rw [if_neg c55] at I54
      refine ev_icmp_lt_f (t := 16) pm35 i35_6 rfl c55 rfl rfl ?_
      cases I54
      exact J1 _ rfl
def F_sg_checkIndex (a0 : Int32) (a1 : Int32) : Option Unit :=
  bn (F_pq_checkIndex a0 a1) fun x2 =>
  some ()
set_option maxRecDepth 20000 in
theorem R_sg_checkIndex (d : Nat) (hd : 1 ≤ d) {a0 : Int32} {a1 : Int32} {h : Hp} {v : Unit} (hS : F_sg_checkIndex a0 a1 = some v) : Ev P d 34 (0, [.int a0, .int a1], [], h) (none, h) := by
  unfold F_sg_checkIndex at hS
  refine ev_iload_n pm34 i34_0 rfl rfl rfl ?_
  refine ev_iload_n pm34 i34_1 rfl rfl rfl ?_
  refine ev_getstatic (v := .retAddr 7) pm34 i34_2 rfl rfl rfl ?_
  obtain ⟨x2, e1, hS⟩ := bn_s hS
  refine ev_callS (sa := [.retAddr 7, .int a1, .int a0]) (rest := []) (st' := [.int x2]) (ls0 := [.int a0, .int a1, .retAddr 7]) (rv := some (.int x2)) pm34 i34_5 rfl rfl pm35 (by decide) rfl rfl (Nat.le_of_ble_eq_true rfl) (by omega) rfl (R_pq_checkIndex (d - 1) (by omega) e1) (by simp) rfl rfl ?_
  refine ev_pop pm34 i34_8 rfl rfl rfl ?_
  cases hS
  exact ev_return pm34 i34_9 rfl rfl rfl
def F_sl_charAt (a0 : Nat) (a1 : Int32) (h : Hp) : Option Int32 :=
  bn (aN h a0) fun x1 =>
  bn (F_sg_checkIndex a1 x1) fun _ =>
  bn (aI h 101 a0 a1) fun x4 =>
  if retV .char (((x4 &&& (255 : Int32)).toUInt32 % 65536).toInt32) = true then
    (some (((x4 &&& (255 : Int32)).toUInt32 % 65536).toInt32))
  else
    (none)
set_option maxRecDepth 20000 in
theorem R_sl_charAt (d : Nat) (hd : 2 ≤ d) {a0 : Nat} {a1 : Int32} {h : Hp} {v : Int32} (hS : F_sl_charAt a0 a1 h = some v) : Ev P d 33 (0, [.ref a0, .int a1], [], h) (some (.int v), h) := by
  unfold F_sl_charAt at hS
  refine ev_iload_n pm33 i33_0 rfl rfl rfl ?_
  refine ev_aload_n pm33 i33_1 rfl rfl rfl ?_
  obtain ⟨x1, e2, hS⟩ := bn_s hS
  refine ev_alen pm33 i33_2 rfl e2 rfl ?_
  obtain ⟨_, e3, hS⟩ := bn_s hS
  refine ev_callS (sa := [.int x1, .int a1]) (rest := []) (st' := []) (ls0 := [.int a1, .int x1]) (rv := none) pm33 i33_3 rfl rfl pm34 (by decide) rfl rfl (Nat.le_of_ble_eq_true rfl) (by omega) rfl (R_sg_checkIndex (d - 1) (by omega) e3) (by simp) rfl rfl ?_
  refine ev_aload_n pm33 i33_6 rfl rfl rfl ?_
  refine ev_iload_n pm33 i33_7 rfl rfl rfl ?_
  obtain ⟨x4, e5, hS⟩ := bn_s hS
  refine ev_bald pm33 i33_8 rfl e5 rfl ?_
  refine ev_sipush (v := 255) pm33 i33_9 rfl (by decide) rfl ?_
  refine ev_b2 (f := fun x y => x &&& y) pm33 i33_12 rfl (fun _ _ _ _ => rfl) rfl ?_
  refine ev_i2c pm33 i33_13 rfl rfl ?_
  by_cases c56 : retV .char (((x4 &&& (255 : Int32)).toUInt32 % 65536).toInt32) = true
  · rw [if_pos c56] at hS
    cases hS
    exact ev_ireturn pm33 i33_14 rfl c56 rfl
  · rw [if_neg c56] at hS
    cases hS
def F_sg_charAt (a0 : Nat) (a1 : Int32) (h : Hp) : Option Int32 :=
  ck h a0 50 (bn (F_sg_isLatin1 a0 h) fun x2 =>
  if x2 = (0 : Int32) then
    (bn (gR h a0 50 0) fun x3 =>
    none)
  else
    (bn (gR h a0 50 0) fun x5 =>
    bn (F_sl_charAt x5 a1 h) fun x8 =>
    if retV .char x8 = true then
      (some x8)
    else
      (none)))
set_option maxRecDepth 20000 in
theorem K_sg_charAt {a0 : Nat} {a1 : Int32} {h : Hp} {v : Int32} (hS : F_sg_charAt a0 a1 h = some v) : kd h a0 = 50 := by
  unfold F_sg_charAt at hS
  exact (ck_s hS).1
set_option maxRecDepth 20000 in
theorem R_sg_charAt (d : Nat) (hd : 3 ≤ d) {a0 : Nat} {a1 : Int32} {h : Hp} {v : Int32} (hS : F_sg_charAt a0 a1 h = some v) : Ev P d 31 (0, [.ref a0, .int a1], [], h) (some (.int v), h) := by
  unfold F_sg_charAt at hS
  replace hS := (ck_s hS).2
  refine ev_aload_n pm31 i31_0 rfl rfl rfl ?_
  obtain ⟨x2, e1, hS⟩ := bn_s hS
  refine ev_callV (sa := []) (rest := []) (st' := [.int x2]) (ls0 := [.ref a0]) (rv := some (.int x2)) pm31 i31_1 rfl rfl pm32 (by decide) (K_sg_isLatin1 e1) rfl rfl (Nat.le_of_ble_eq_true rfl) (by omega) rfl (R_sg_isLatin1 (d - 1) (by omega) e1) (by simp) rfl rfl ?_
  by_cases c57 : x2 = (0 : Int32)
  · rw [if_pos c57] at hS
    refine ev_if_eq_t (t := 16) pm31 i31_4 rfl c57 rfl rfl ?_
    refine ev_aload_n pm31 i31_16 rfl rfl rfl ?_
    obtain ⟨x3, e4, hS⟩ := bn_s hS
    refine ev_getR pm31 i31_17 rfl rfl rfl e4 rfl ?_
    refine ev_iload_n pm31 i31_20 rfl rfl rfl ?_
    cases hS
  · rw [if_neg c57] at hS
    refine ev_if_eq_f (t := 16) pm31 i31_4 rfl c57 rfl rfl ?_
    refine ev_aload_n pm31 i31_7 rfl rfl rfl ?_
    obtain ⟨x5, e6, hS⟩ := bn_s hS
    refine ev_getR pm31 i31_8 rfl rfl rfl e6 rfl ?_
    refine ev_iload_n pm31 i31_11 rfl rfl rfl ?_
    obtain ⟨x8, e7, hS⟩ := bn_s hS
    refine ev_callS (sa := [.int a1, .ref x5]) (rest := []) (st' := [.int x8]) (ls0 := [.ref x5, .int a1]) (rv := some (.int x8)) pm31 i31_12 rfl rfl pm33 (by decide) rfl rfl (Nat.le_of_ble_eq_true rfl) (by omega) rfl (R_sl_charAt (d - 1) (by omega) e7) (by simp) rfl rfl ?_
    by_cases c58 : retV .char x8 = true
    · rw [if_pos c58] at hS
      cases hS
      exact ev_ireturn pm31 i31_15 rfl c58 rfl
    · rw [if_neg c58] at hS
      cases hS
def B_tk_isWord_27 (l0 : Nat) (l1 : Nat) (h : Hp) (s : Int32) : Option ((Int32) ⊕ ((Unit) ⊕ Int32)) :=
  bn (F_sg_length l1 h) fun x10 =>
  if s < x10 then
    (bn (F_sg_charAt l1 s h) fun x12 =>
    bn (gR h l0 9 0) fun x13 =>
    bn (gI h l0 9 3) fun x15 =>
    bn (aI h 101 x13 (x15 + s)) fun x17 =>
    if x12 = x17 then
      (some (.inl (s + (1 : Int32))))
    else
      (some (.inr (.inr (0 : Int32)))))
  else
    (some (.inr (.inl ())))
set_option maxRecDepth 20000 in
theorem L_tk_isWord_27 (d : Nat) (hd : 4 ≤ d) {l0 : Nat} {l1 : Nat} {h : Hp} : ∀ (n : Nat) (s : Int32) (x : (Unit) ⊕ Int32), lq (B_tk_isWord_27 l0 l1 h) n s = some x → ∀ r, ei x (fun q => Ev P d 28 (62, [unk, unk, unk], [], h) r) (fun v => (some (.int v), h) = r) → Ev P d 28 (27, [.ref l0, .ref l1, .int s], [], h) r := by
  refine lq_ev (G0 := fun (s : Int32) r => Ev P d 28 (27, [.ref l0, .ref l1, .int s], [], h) r) (X := fun (x : (Unit) ⊕ Int32) r => ei x (fun q => Ev P d 28 (62, [unk, unk, unk], [], h) r) (fun v => (some (.int v), h) = r)) ?_
  intro s y hS r hK
  unfold B_tk_isWord_27 at hS
  show Ev P d 28 (27, [.ref l0, .ref l1, .int s], [], h) r
  refine ev_iload_n pm28 i28_27 rfl rfl rfl ?_
  refine ev_aload_n pm28 i28_28 rfl rfl rfl ?_
  obtain ⟨x10, e9, hS⟩ := bn_s hS
  refine ev_callV (sa := []) (rest := [.int s]) (st' := [.int x10, .int s]) (ls0 := [.ref l1]) (rv := some (.int x10)) pm28 i28_29 rfl rfl pm29 (by decide) (K_sg_length e9) rfl rfl (Nat.le_of_ble_eq_true rfl) (by omega) rfl (R_sg_length (d - 1) (by omega) e9) (by simp) rfl rfl ?_
  by_cases c59 : s < x10
  · rw [if_pos c59] at hS
    refine ev_icmp_ge_t (t := 62) pm28 i28_32 rfl c59 rfl rfl ?_
    refine ev_aload_n pm28 i28_35 rfl rfl rfl ?_
    refine ev_iload_n pm28 i28_36 rfl rfl rfl ?_
    obtain ⟨x12, e11, hS⟩ := bn_s hS
    refine ev_callV (sa := [.int s]) (rest := []) (st' := [.int x12]) (ls0 := [.ref l1, .int s]) (rv := some (.int x12)) pm28 i28_37 rfl rfl pm31 (by decide) (K_sg_charAt e11) rfl rfl (Nat.le_of_ble_eq_true rfl) (by omega) rfl (R_sg_charAt (d - 1) (by omega) e11) (by simp) rfl rfl ?_
    refine ev_aload_n pm28 i28_40 rfl rfl rfl ?_
    obtain ⟨x13, e14, hS⟩ := bn_s hS
    refine ev_getR pm28 i28_41 rfl rfl rfl e14 rfl ?_
    refine ev_aload_n pm28 i28_44 rfl rfl rfl ?_
    obtain ⟨x15, e16, hS⟩ := bn_s hS
    refine ev_getI pm28 i28_45 rfl rfl (by decide) e16 rfl ?_
    refine ev_iload_n pm28 i28_48 rfl rfl rfl ?_
    refine ev_b2 (f := fun x y => x + y) pm28 i28_49 rfl (fun _ _ _ _ => rfl) rfl ?_
    obtain ⟨x17, e18, hS⟩ := bn_s hS
    refine ev_bald pm28 i28_50 rfl e18 rfl ?_
    by_cases c60 : x12 = x17
    · rw [if_pos c60] at hS
      refine ev_icmp_eq_t (t := 56) pm28 i28_51 rfl c60 rfl rfl ?_
      refine ev_iinc (v := 1) (ls' := [.ref l0, .ref l1, .int (s + (1 : Int32))]) pm28 i28_56 rfl rfl (by decide) rfl rfl ?_
      refine ev_goto (t := 27) pm28 i28_59 rfl rfl ?_
      cases hS
      exact hK
    · rw [if_neg c60] at hS
      refine ev_icmp_eq_f (t := 56) pm28 i28_51 rfl c60 rfl rfl ?_
      refine ev_iconst (v := 0) pm28 i28_54 rfl (by decide) rfl ?_
      cases hS
      exact ev_ireturn pm28 i28_55 rfl (by decide) hK
  · rw [if_neg c59] at hS
    refine ev_icmp_ge_f (t := 62) pm28 i28_32 rfl c59 rfl rfl ?_
    refine ev_kls (ls' := [unk, unk, unk]) pm28 i28_62 rfl rfl ?_
    cases hS
    exact hK
def F_tk_isWord (a0 : Nat) (a1 : Nat) (h : Hp) : Option Int32 :=
  ck h a0 9 (bn (gI h a0 9 4) fun x1 =>
  if x1 = (0 : Int32) then
    (bn (F_sg_length a1 h) fun x4 =>
    bn (gI h a0 9 2) fun x5 =>
    bn (gI h a0 9 3) fun x7 =>
    if x4 = (x5 - x7) then
      (bn (lq (B_tk_isWord_27 a0 a1 h) FU (0 : Int32)) fun x19 =>
      ei x19 (fun q21 =>
      some (1 : Int32))
      (fun x22 => some x22))
    else
      (some (0 : Int32)))
  else
    (some (0 : Int32)))
set_option maxRecDepth 20000 in
theorem K_tk_isWord {a0 : Nat} {a1 : Nat} {h : Hp} {v : Int32} (hS : F_tk_isWord a0 a1 h = some v) : kd h a0 = 9 := by
  unfold F_tk_isWord at hS
  exact (ck_s hS).1
set_option maxRecDepth 20000 in
theorem R_tk_isWord (d : Nat) (hd : 4 ≤ d) {a0 : Nat} {a1 : Nat} {h : Hp} {v : Int32} (hS : F_tk_isWord a0 a1 h = some v) : Ev P d 28 (0, [.ref a0, .ref a1, unk], [], h) (some (.int v), h) := by
  unfold F_tk_isWord at hS
  replace hS := (ck_s hS).2
  refine ev_aload_n pm28 i28_0 rfl rfl rfl ?_
  obtain ⟨x1, e2, hS⟩ := bn_s hS
  refine ev_getI pm28 i28_1 rfl rfl (by decide) e2 rfl ?_
  by_cases c61 : x1 = (0 : Int32)
  · rw [if_pos c61] at hS
    refine ev_if_ne_t (t := 23) pm28 i28_4 rfl c61 rfl rfl ?_
    refine ev_aload_n pm28 i28_7 rfl rfl rfl ?_
    obtain ⟨x4, e3, hS⟩ := bn_s hS
    refine ev_callV (sa := []) (rest := []) (st' := [.int x4]) (ls0 := [.ref a1]) (rv := some (.int x4)) pm28 i28_8 rfl rfl pm29 (by decide) (K_sg_length e3) rfl rfl (Nat.le_of_ble_eq_true rfl) (by omega) rfl (R_sg_length (d - 1) (by omega) e3) (by simp) rfl rfl ?_
    refine ev_aload_n pm28 i28_11 rfl rfl rfl ?_
    obtain ⟨x5, e6, hS⟩ := bn_s hS
    refine ev_getI pm28 i28_12 rfl rfl (by decide) e6 rfl ?_
    refine ev_aload_n pm28 i28_15 rfl rfl rfl ?_
    obtain ⟨x7, e8, hS⟩ := bn_s hS
    refine ev_getI pm28 i28_16 rfl rfl (by decide) e8 rfl ?_
    refine ev_b2 (f := fun x y => x - y) pm28 i28_19 rfl (fun _ _ _ _ => rfl) rfl ?_
    by_cases c62 : x4 = (x5 - x7)
    · rw [if_pos c62] at hS
      refine ev_icmp_eq_t (t := 25) pm28 i28_20 rfl c62 rfl rfl ?_
      refine ev_iconst (v := 0) pm28 i28_25 rfl (by decide) rfl ?_
      refine ev_istore_n (ls' := [.ref a0, .ref a1, .int (0 : Int32)]) pm28 i28_26 rfl (Nat.le_of_ble_eq_true rfl) rfl rfl ?_
      obtain ⟨x19, e20, hS⟩ := bn_s hS
      refine L_tk_isWord_27 d (by omega) _ _ _ e20 _ ?_
      cases x19 with
      | inl q21 =>
        replace hS := ei_l hS
        show Ev P d 28 (62, [unk, unk, unk], [], h) _
        refine ev_iconst (v := 1) pm28 i28_62 rfl (by decide) rfl ?_
        cases hS
        exact ev_ireturn pm28 i28_63 rfl (by decide) rfl
      | inr x22 =>
        replace hS := ei_r hS
        cases hS
        rfl
    · rw [if_neg c62] at hS
      refine ev_icmp_eq_f (t := 25) pm28 i28_20 rfl c62 rfl rfl ?_
      refine ev_kls (ls' := [unk, unk, unk]) pm28 i28_23 rfl rfl ?_
      refine ev_iconst (v := 0) pm28 i28_23 rfl (by decide) rfl ?_
      cases hS
      exact ev_ireturn pm28 i28_24 rfl (by decide) rfl
  · rw [if_neg c61] at hS
    refine ev_if_ne_f (t := 23) pm28 i28_4 rfl c61 rfl rfl ?_
    refine ev_kls (ls' := [unk, unk, unk]) pm28 i28_23 rfl rfl ?_
    refine ev_iconst (v := 0) pm28 i28_23 rfl (by decide) rfl ?_
    cases hS
    exact ev_ireturn pm28 i28_24 rfl (by decide) rfl
def F_rd_lineSort (a0 : Nat) (h : Hp) : Option Int32 :=
  ck h a0 7 (bn (gR h a0 7 2) fun x1 =>
  bn (F_tk_isWord x1 1000003 h) fun x4 =>
  if x4 = (0 : Int32) then
    (bn (gR h a0 7 2) fun x5 =>
    bn (F_tk_isWord x5 1000004 h) fun x8 =>
    if x8 = (0 : Int32) then
      (bn (gR h a0 7 2) fun x9 =>
      bn (F_tk_isWord x9 1000005 h) fun x12 =>
      if x12 = (0 : Int32) then
        (bn (gR h a0 7 2) fun x13 =>
        bn (F_tk_isWord x13 1000006 h) fun x16 =>
        if x16 = (0 : Int32) then
          (bn (gR h a0 7 2) fun x17 =>
          bn (F_tk_isWord x17 1000007 h) fun x20 =>
          if x20 = (0 : Int32) then
            (bn (gR h a0 7 2) fun x21 =>
            bn (F_tk_isWord x21 1000008 h) fun x24 =>
            if x24 = (0 : Int32) then
              (bn (gR h a0 7 2) fun x25 =>
              bn (F_tk_isWord x25 1000009 h) fun x28 =>
              if x28 = (0 : Int32) then
                (bn (gR h a0 7 2) fun x29 =>
                bn (F_tk_isWord x29 1000010 h) fun x32 =>
                if x32 = (0 : Int32) then
                  (bn (gR h a0 7 2) fun x33 =>
                  bn (F_tk_isWord x33 1000011 h) fun x36 =>
                  if x36 = (0 : Int32) then
                    (some (-1 : Int32))
                  else
                    (some (8 : Int32)))
                else
                  (some (7 : Int32)))
              else
                (some (6 : Int32)))
            else
              (some (5 : Int32)))
          else
            (some (4 : Int32)))
        else
          (some (3 : Int32)))
      else
        (some (2 : Int32)))
    else
      (some (1 : Int32)))
  else
    (some (0 : Int32)))
set_option maxRecDepth 20000 in
theorem K_rd_lineSort {a0 : Nat} {h : Hp} {v : Int32} (hS : F_rd_lineSort a0 h = some v) : kd h a0 = 7 := by
  unfold F_rd_lineSort at hS
  exact (ck_s hS).1
set_option maxRecDepth 20000 in
theorem R_rd_lineSort (d : Nat) (hd : 5 ≤ d) {a0 : Nat} {h : Hp} {v : Int32} (hS : F_rd_lineSort a0 h = some v) : Ev P d 27 (0, [.ref a0], [], h) (some (.int v), h) := by
  unfold F_rd_lineSort at hS
  replace hS := (ck_s hS).2
  refine ev_aload_n pm27 i27_0 rfl rfl rfl ?_
  obtain ⟨x1, e2, hS⟩ := bn_s hS
  refine ev_getR pm27 i27_1 rfl rfl rfl e2 rfl ?_
  refine ev_ldc (v := .ref 1000003) pm27 i27_4 rfl rfl rfl ?_
  obtain ⟨x4, e3, hS⟩ := bn_s hS
  refine ev_callV (sa := [.ref 1000003]) (rest := []) (st' := [.int x4]) (ls0 := [.ref x1, .ref 1000003, unk]) (rv := some (.int x4)) pm27 i27_6 rfl rfl pm28 (by decide) (K_tk_isWord e3) rfl rfl (Nat.le_of_ble_eq_true rfl) (by omega) rfl (R_tk_isWord (d - 1) (by omega) e3) (by simp) rfl rfl ?_
  by_cases c63 : x4 = (0 : Int32)
  · rw [if_pos c63] at hS
    refine ev_if_eq_t (t := 14) pm27 i27_9 rfl c63 rfl rfl ?_
    refine ev_aload_n pm27 i27_14 rfl rfl rfl ?_
    obtain ⟨x5, e6, hS⟩ := bn_s hS
    refine ev_getR pm27 i27_15 rfl rfl rfl e6 rfl ?_
    refine ev_ldc (v := .ref 1000004) pm27 i27_18 rfl rfl rfl ?_
    obtain ⟨x8, e7, hS⟩ := bn_s hS
    refine ev_callV (sa := [.ref 1000004]) (rest := []) (st' := [.int x8]) (ls0 := [.ref x5, .ref 1000004, unk]) (rv := some (.int x8)) pm27 i27_20 rfl rfl pm28 (by decide) (K_tk_isWord e7) rfl rfl (Nat.le_of_ble_eq_true rfl) (by omega) rfl (R_tk_isWord (d - 1) (by omega) e7) (by simp) rfl rfl ?_
    by_cases c64 : x8 = (0 : Int32)
    · rw [if_pos c64] at hS
      refine ev_if_eq_t (t := 28) pm27 i27_23 rfl c64 rfl rfl ?_
      refine ev_aload_n pm27 i27_28 rfl rfl rfl ?_
      obtain ⟨x9, e10, hS⟩ := bn_s hS
      refine ev_getR pm27 i27_29 rfl rfl rfl e10 rfl ?_
      refine ev_ldc (v := .ref 1000005) pm27 i27_32 rfl rfl rfl ?_
      obtain ⟨x12, e11, hS⟩ := bn_s hS
      refine ev_callV (sa := [.ref 1000005]) (rest := []) (st' := [.int x12]) (ls0 := [.ref x9, .ref 1000005, unk]) (rv := some (.int x12)) pm27 i27_34 rfl rfl pm28 (by decide) (K_tk_isWord e11) rfl rfl (Nat.le_of_ble_eq_true rfl) (by omega) rfl (R_tk_isWord (d - 1) (by omega) e11) (by simp) rfl rfl ?_
      by_cases c65 : x12 = (0 : Int32)
      · rw [if_pos c65] at hS
        refine ev_if_eq_t (t := 42) pm27 i27_37 rfl c65 rfl rfl ?_
        refine ev_aload_n pm27 i27_42 rfl rfl rfl ?_
        obtain ⟨x13, e14, hS⟩ := bn_s hS
        refine ev_getR pm27 i27_43 rfl rfl rfl e14 rfl ?_
        refine ev_ldc (v := .ref 1000006) pm27 i27_46 rfl rfl rfl ?_
        obtain ⟨x16, e15, hS⟩ := bn_s hS
        refine ev_callV (sa := [.ref 1000006]) (rest := []) (st' := [.int x16]) (ls0 := [.ref x13, .ref 1000006, unk]) (rv := some (.int x16)) pm27 i27_48 rfl rfl pm28 (by decide) (K_tk_isWord e15) rfl rfl (Nat.le_of_ble_eq_true rfl) (by omega) rfl (R_tk_isWord (d - 1) (by omega) e15) (by simp) rfl rfl ?_
        by_cases c66 : x16 = (0 : Int32)
        · rw [if_pos c66] at hS
          refine ev_if_eq_t (t := 56) pm27 i27_51 rfl c66 rfl rfl ?_
          refine ev_aload_n pm27 i27_56 rfl rfl rfl ?_
          obtain ⟨x17, e18, hS⟩ := bn_s hS
          refine ev_getR pm27 i27_57 rfl rfl rfl e18 rfl ?_
          refine ev_ldc (v := .ref 1000007) pm27 i27_60 rfl rfl rfl ?_
          obtain ⟨x20, e19, hS⟩ := bn_s hS
          refine ev_callV (sa := [.ref 1000007]) (rest := []) (st' := [.int x20]) (ls0 := [.ref x17, .ref 1000007, unk]) (rv := some (.int x20)) pm27 i27_62 rfl rfl pm28 (by decide) (K_tk_isWord e19) rfl rfl (Nat.le_of_ble_eq_true rfl) (by omega) rfl (R_tk_isWord (d - 1) (by omega) e19) (by simp) rfl rfl ?_
          by_cases c67 : x20 = (0 : Int32)
          · rw [if_pos c67] at hS
            refine ev_if_eq_t (t := 70) pm27 i27_65 rfl c67 rfl rfl ?_
            refine ev_aload_n pm27 i27_70 rfl rfl rfl ?_
            obtain ⟨x21, e22, hS⟩ := bn_s hS
            refine ev_getR pm27 i27_71 rfl rfl rfl e22 rfl ?_
            refine ev_ldc (v := .ref 1000008) pm27 i27_74 rfl rfl rfl ?_
            obtain ⟨x24, e23, hS⟩ := bn_s hS
            refine ev_callV (sa := [.ref 1000008]) (rest := []) (st' := [.int x24]) (ls0 := [.ref x21, .ref 1000008, unk]) (rv := some (.int x24)) pm27 i27_76 rfl rfl pm28 (by decide) (K_tk_isWord e23) rfl rfl (Nat.le_of_ble_eq_true rfl) (by omega) rfl (R_tk_isWord (d - 1) (by omega) e23) (by simp) rfl rfl ?_
            by_cases c68 : x24 = (0 : Int32)
            · rw [if_pos c68] at hS
              refine ev_if_eq_t (t := 84) pm27 i27_79 rfl c68 rfl rfl ?_
              refine ev_aload_n pm27 i27_84 rfl rfl rfl ?_
              obtain ⟨x25, e26, hS⟩ := bn_s hS
              refine ev_getR pm27 i27_85 rfl rfl rfl e26 rfl ?_
              refine ev_ldc (v := .ref 1000009) pm27 i27_88 rfl rfl rfl ?_
              obtain ⟨x28, e27, hS⟩ := bn_s hS
              refine ev_callV (sa := [.ref 1000009]) (rest := []) (st' := [.int x28]) (ls0 := [.ref x25, .ref 1000009, unk]) (rv := some (.int x28)) pm27 i27_90 rfl rfl pm28 (by decide) (K_tk_isWord e27) rfl rfl (Nat.le_of_ble_eq_true rfl) (by omega) rfl (R_tk_isWord (d - 1) (by omega) e27) (by simp) rfl rfl ?_
              by_cases c69 : x28 = (0 : Int32)
              · rw [if_pos c69] at hS
                refine ev_if_eq_t (t := 99) pm27 i27_93 rfl c69 rfl rfl ?_
                refine ev_aload_n pm27 i27_99 rfl rfl rfl ?_
                obtain ⟨x29, e30, hS⟩ := bn_s hS
                refine ev_getR pm27 i27_100 rfl rfl rfl e30 rfl ?_
                refine ev_ldc (v := .ref 1000010) pm27 i27_103 rfl rfl rfl ?_
                obtain ⟨x32, e31, hS⟩ := bn_s hS
                refine ev_callV (sa := [.ref 1000010]) (rest := []) (st' := [.int x32]) (ls0 := [.ref x29, .ref 1000010, unk]) (rv := some (.int x32)) pm27 i27_105 rfl rfl pm28 (by decide) (K_tk_isWord e31) rfl rfl (Nat.le_of_ble_eq_true rfl) (by omega) rfl (R_tk_isWord (d - 1) (by omega) e31) (by simp) rfl rfl ?_
                by_cases c70 : x32 = (0 : Int32)
                · rw [if_pos c70] at hS
                  refine ev_if_eq_t (t := 114) pm27 i27_108 rfl c70 rfl rfl ?_
                  refine ev_aload_n pm27 i27_114 rfl rfl rfl ?_
                  obtain ⟨x33, e34, hS⟩ := bn_s hS
                  refine ev_getR pm27 i27_115 rfl rfl rfl e34 rfl ?_
                  refine ev_ldc (v := .ref 1000011) pm27 i27_118 rfl rfl rfl ?_
                  obtain ⟨x36, e35, hS⟩ := bn_s hS
                  refine ev_callV (sa := [.ref 1000011]) (rest := []) (st' := [.int x36]) (ls0 := [.ref x33, .ref 1000011, unk]) (rv := some (.int x36)) pm27 i27_120 rfl rfl pm28 (by decide) (K_tk_isWord e35) rfl rfl (Nat.le_of_ble_eq_true rfl) (by omega) rfl (R_tk_isWord (d - 1) (by omega) e35) (by simp) rfl rfl ?_
                  by_cases c71 : x36 = (0 : Int32)
                  · rw [if_pos c71] at hS
                    refine ev_if_eq_t (t := 131) pm27 i27_123 rfl c71 rfl rfl ?_
                    refine ev_iconst (v := -1) pm27 i27_131 rfl (by decide) rfl ?_
                    refine ev_kls (ls' := [unk]) pm27 i27_132 rfl rfl ?_
                    cases hS
                    exact ev_ireturn pm27 i27_132 rfl rfl rfl
                  · rw [if_neg c71] at hS
                    refine ev_if_eq_f (t := 131) pm27 i27_123 rfl c71 rfl rfl ?_
                    refine ev_bipush (v := 8) pm27 i27_126 rfl (by decide) rfl ?_
                    refine ev_goto (t := 132) pm27 i27_128 rfl rfl ?_
                    refine ev_kls (ls' := [unk]) pm27 i27_132 rfl rfl ?_
                    cases hS
                    exact ev_ireturn pm27 i27_132 rfl rfl rfl
                · rw [if_neg c70] at hS
                  refine ev_if_eq_f (t := 114) pm27 i27_108 rfl c70 rfl rfl ?_
                  refine ev_bipush (v := 7) pm27 i27_111 rfl (by decide) rfl ?_
                  cases hS
                  exact ev_ireturn pm27 i27_113 rfl rfl rfl
              · rw [if_neg c69] at hS
                refine ev_if_eq_f (t := 99) pm27 i27_93 rfl c69 rfl rfl ?_
                refine ev_bipush (v := 6) pm27 i27_96 rfl (by decide) rfl ?_
                cases hS
                exact ev_ireturn pm27 i27_98 rfl rfl rfl
            · rw [if_neg c68] at hS
              refine ev_if_eq_f (t := 84) pm27 i27_79 rfl c68 rfl rfl ?_
              refine ev_iconst (v := 5) pm27 i27_82 rfl (by decide) rfl ?_
              cases hS
              exact ev_ireturn pm27 i27_83 rfl rfl rfl
          · rw [if_neg c67] at hS
            refine ev_if_eq_f (t := 70) pm27 i27_65 rfl c67 rfl rfl ?_
            refine ev_iconst (v := 4) pm27 i27_68 rfl (by decide) rfl ?_
            cases hS
            exact ev_ireturn pm27 i27_69 rfl rfl rfl
        · rw [if_neg c66] at hS
          refine ev_if_eq_f (t := 56) pm27 i27_51 rfl c66 rfl rfl ?_
          refine ev_iconst (v := 3) pm27 i27_54 rfl (by decide) rfl ?_
          cases hS
          exact ev_ireturn pm27 i27_55 rfl rfl rfl
      · rw [if_neg c65] at hS
        refine ev_if_eq_f (t := 42) pm27 i27_37 rfl c65 rfl rfl ?_
        refine ev_iconst (v := 2) pm27 i27_40 rfl (by decide) rfl ?_
        cases hS
        exact ev_ireturn pm27 i27_41 rfl rfl rfl
    · rw [if_neg c64] at hS
      refine ev_if_eq_f (t := 28) pm27 i27_23 rfl c64 rfl rfl ?_
      refine ev_iconst (v := 1) pm27 i27_26 rfl (by decide) rfl ?_
      cases hS
      exact ev_ireturn pm27 i27_27 rfl rfl rfl
  · rw [if_neg c63] at hS
    refine ev_if_eq_f (t := 14) pm27 i27_9 rfl c63 rfl rfl ?_
    refine ev_iconst (v := 0) pm27 i27_12 rfl (by decide) rfl ?_
    cases hS
    exact ev_ireturn pm27 i27_13 rfl rfl rfl
def F_rd_fail (a0 : Nat) (a1 : Int32) (h : Hp) : Option (Int32 × Hp) :=
  ck h a0 7 (bn (pI h a0 7 0 a1) fun h1 =>
  bn (gR h1 a0 7 2) fun x3 =>
  bn (gI h1 x3 9 3) fun x5 =>
  bn (pI h1 a0 7 1 x5) fun h7 =>
  some ((0 : Int32), h7))
set_option maxRecDepth 20000 in
theorem K_rd_fail {a0 : Nat} {a1 : Int32} {h : Hp} {v : Int32} {h' : Hp} (hS : F_rd_fail a0 a1 h = some (v, h')) : kd h a0 = 7 := by
  unfold F_rd_fail at hS
  exact (ck_s hS).1
set_option maxRecDepth 20000 in
theorem R_rd_fail (d : Nat) (hd : 0 ≤ d) {a0 : Nat} {a1 : Int32} {h : Hp} {v : Int32} {h' : Hp} (hS : F_rd_fail a0 a1 h = some (v, h')) : Ev P d 36 (0, [.ref a0, .int a1], [], h) (some (.int v), h') := by
  unfold F_rd_fail at hS
  replace hS := (ck_s hS).2
  refine ev_aload_n pm36 i36_0 rfl rfl rfl ?_
  refine ev_iload_n pm36 i36_1 rfl rfl rfl ?_
  obtain ⟨h1, e2, hS⟩ := bn_s hS
  refine ev_putI pm36 i36_2 rfl rfl rfl e2 rfl ?_
  refine ev_aload_n pm36 i36_5 rfl rfl rfl ?_
  refine ev_aload_n pm36 i36_6 rfl rfl rfl ?_
  obtain ⟨x3, e4, hS⟩ := bn_s hS
  refine ev_getR pm36 i36_7 rfl rfl rfl e4 rfl ?_
  obtain ⟨x5, e6, hS⟩ := bn_s hS
  refine ev_getI pm36 i36_10 rfl rfl (by decide) e6 rfl ?_
  obtain ⟨h7, e8, hS⟩ := bn_s hS
  refine ev_putI pm36 i36_13 rfl rfl rfl e8 rfl ?_
  refine ev_iconst (v := 0) pm36 i36_16 rfl (by decide) rfl ?_
  cases hS
  exact ev_ireturn pm36 i36_17 rfl (by decide) rfl
def F_rd_hasRoomFor (a0 : Nat) (a1 : Int32) (h : Hp) : Option Int32 :=
  ck h a0 7 (if (a1).toInt < 1 ∨ 7 < (a1).toInt then
    (some (1 : Int32))
  else if a1 = (1 : Int32) then
    (bn (gR h a0 7 3) fun x1 =>
    bn (gI h x1 10 1) fun x3 =>
    if x3 < (5 : Int32) then
      (some (1 : Int32))
    else
      (some (0 : Int32)))
  else if a1 = (2 : Int32) then
    (bn (gR h a0 7 3) fun x5 =>
    bn (gI h x5 10 5) fun x7 =>
    if x7 < (5 : Int32) then
      (some (1 : Int32))
    else
      (some (0 : Int32)))
  else if a1 = (3 : Int32) then
    (some (1 : Int32))
  else if a1 = (4 : Int32) then
    (bn (gR h a0 7 3) fun x9 =>
    bn (gI h x9 10 8) fun x11 =>
    if x11 < (3 : Int32) then
      (some (1 : Int32))
    else
      (some (0 : Int32)))
  else if a1 = (5 : Int32) then
    (bn (gR h a0 7 3) fun x13 =>
    bn (gI h x13 10 11) fun x15 =>
    if x15 < (3 : Int32) then
      (some (1 : Int32))
    else
      (some (0 : Int32)))
  else if a1 = (6 : Int32) then
    (bn (gR h a0 7 3) fun x17 =>
    bn (gI h x17 10 14) fun x19 =>
    if x19 < (4 : Int32) then
      (some (1 : Int32))
    else
      (some (0 : Int32)))
  else if a1 = (7 : Int32) then
    (bn (gR h a0 7 3) fun x21 =>
    bn (gR h x21 10 18) fun x23 =>
    bn (gI h x23 1 0) fun x25 =>
    if x25 < (4 : Int32) then
      (some (1 : Int32))
    else
      (some (0 : Int32)))
  else none)
set_option maxRecDepth 20000 in
theorem K_rd_hasRoomFor {a0 : Nat} {a1 : Int32} {h : Hp} {v : Int32} (hS : F_rd_hasRoomFor a0 a1 h = some v) : kd h a0 = 7 := by
  unfold F_rd_hasRoomFor at hS
  exact (ck_s hS).1
set_option maxRecDepth 20000 in
theorem R_rd_hasRoomFor (d : Nat) (hd : 0 ≤ d) {a0 : Nat} {a1 : Int32} {h : Hp} {v : Int32} (hS : F_rd_hasRoomFor a0 a1 h = some v) : Ev P d 37 (0, [.ref a0, .int a1], [], h) (some (.int v), h) := by
  unfold F_rd_hasRoomFor at hS
  replace hS := (ck_s hS).2
  refine ev_iload_n pm37 i37_0 rfl rfl rfl ?_
  by_cases c72 : (a1).toInt < 1 ∨ 7 < (a1).toInt
  · rw [if_pos c72] at hS
    refine ev_tabO (t := 149) pm37 i37_1 rfl c72 rfl ?_
    refine ev_kls (ls' := [unk, unk]) pm37 i37_149 rfl rfl ?_
    refine ev_iconst (v := 1) pm37 i37_149 rfl (by decide) rfl ?_
    cases hS
    exact ev_ireturn pm37 i37_150 rfl (by decide) rfl
  rw [if_neg c72] at hS
  by_cases c73 : a1 = (1 : Int32)
  · rw [if_pos c73] at hS
    refine ev_tabI (t := 44) (off := 43) pm37 i37_1 rfl (1 : Int32) c73 (by decide) rfl rfl ?_
    refine ev_aload_n pm37 i37_44 rfl rfl rfl ?_
    obtain ⟨x1, e2, hS⟩ := bn_s hS
    refine ev_getR pm37 i37_45 rfl rfl rfl e2 rfl ?_
    obtain ⟨x3, e4, hS⟩ := bn_s hS
    refine ev_getI pm37 i37_48 rfl rfl (by decide) e4 rfl ?_
    refine ev_iconst (v := 5) pm37 i37_51 rfl (by decide) rfl ?_
    by_cases c74 : x3 < (5 : Int32)
    · rw [if_pos c74] at hS
      refine ev_icmp_ge_t (t := 59) pm37 i37_52 rfl c74 rfl rfl ?_
      refine ev_iconst (v := 1) pm37 i37_55 rfl (by decide) rfl ?_
      refine ev_goto (t := 60) pm37 i37_56 rfl rfl ?_
      refine ev_kls (ls' := [unk, unk]) pm37 i37_60 rfl rfl ?_
      cases hS
      exact ev_ireturn pm37 i37_60 rfl (by decide) rfl
    · rw [if_neg c74] at hS
      refine ev_icmp_ge_f (t := 59) pm37 i37_52 rfl c74 rfl rfl ?_
      refine ev_iconst (v := 0) pm37 i37_59 rfl (by decide) rfl ?_
      refine ev_kls (ls' := [unk, unk]) pm37 i37_60 rfl rfl ?_
      cases hS
      exact ev_ireturn pm37 i37_60 rfl (by decide) rfl
  rw [if_neg c73] at hS
  by_cases c75 : a1 = (2 : Int32)
  · rw [if_pos c75] at hS
    refine ev_tabI (t := 61) (off := 60) pm37 i37_1 rfl (2 : Int32) c75 (by decide) rfl rfl ?_
    refine ev_aload_n pm37 i37_61 rfl rfl rfl ?_
    obtain ⟨x5, e6, hS⟩ := bn_s hS
    refine ev_getR pm37 i37_62 rfl rfl rfl e6 rfl ?_
    obtain ⟨x7, e8, hS⟩ := bn_s hS
    refine ev_getI pm37 i37_65 rfl rfl (by decide) e8 rfl ?_
    refine ev_iconst (v := 5) pm37 i37_68 rfl (by decide) rfl ?_
    by_cases c76 : x7 < (5 : Int32)
    · rw [if_pos c76] at hS
      refine ev_icmp_ge_t (t := 76) pm37 i37_69 rfl c76 rfl rfl ?_
      refine ev_iconst (v := 1) pm37 i37_72 rfl (by decide) rfl ?_
      refine ev_goto (t := 77) pm37 i37_73 rfl rfl ?_
      refine ev_kls (ls' := [unk, unk]) pm37 i37_77 rfl rfl ?_
      cases hS
      exact ev_ireturn pm37 i37_77 rfl (by decide) rfl
    · rw [if_neg c76] at hS
      refine ev_icmp_ge_f (t := 76) pm37 i37_69 rfl c76 rfl rfl ?_
      refine ev_iconst (v := 0) pm37 i37_76 rfl (by decide) rfl ?_
      refine ev_kls (ls' := [unk, unk]) pm37 i37_77 rfl rfl ?_
      cases hS
      exact ev_ireturn pm37 i37_77 rfl (by decide) rfl
  rw [if_neg c75] at hS
  by_cases c77 : a1 = (3 : Int32)
  · rw [if_pos c77] at hS
    refine ev_tabI (t := 149) (off := 148) pm37 i37_1 rfl (3 : Int32) c77 (by decide) rfl rfl ?_
    refine ev_kls (ls' := [unk, unk]) pm37 i37_149 rfl rfl ?_
    refine ev_iconst (v := 1) pm37 i37_149 rfl (by decide) rfl ?_
    cases hS
    exact ev_ireturn pm37 i37_150 rfl (by decide) rfl
  rw [if_neg c77] at hS
  by_cases c78 : a1 = (4 : Int32)
  · rw [if_pos c78] at hS
    refine ev_tabI (t := 78) (off := 77) pm37 i37_1 rfl (4 : Int32) c78 (by decide) rfl rfl ?_
    refine ev_aload_n pm37 i37_78 rfl rfl rfl ?_
    obtain ⟨x9, e10, hS⟩ := bn_s hS
    refine ev_getR pm37 i37_79 rfl rfl rfl e10 rfl ?_
    obtain ⟨x11, e12, hS⟩ := bn_s hS
    refine ev_getI pm37 i37_82 rfl rfl (by decide) e12 rfl ?_
    refine ev_iconst (v := 3) pm37 i37_85 rfl (by decide) rfl ?_
    by_cases c79 : x11 < (3 : Int32)
    · rw [if_pos c79] at hS
      refine ev_icmp_ge_t (t := 93) pm37 i37_86 rfl c79 rfl rfl ?_
      refine ev_iconst (v := 1) pm37 i37_89 rfl (by decide) rfl ?_
      refine ev_goto (t := 94) pm37 i37_90 rfl rfl ?_
      refine ev_kls (ls' := [unk, unk]) pm37 i37_94 rfl rfl ?_
      cases hS
      exact ev_ireturn pm37 i37_94 rfl (by decide) rfl
    · rw [if_neg c79] at hS
      refine ev_icmp_ge_f (t := 93) pm37 i37_86 rfl c79 rfl rfl ?_
      refine ev_iconst (v := 0) pm37 i37_93 rfl (by decide) rfl ?_
      refine ev_kls (ls' := [unk, unk]) pm37 i37_94 rfl rfl ?_
      cases hS
      exact ev_ireturn pm37 i37_94 rfl (by decide) rfl
  rw [if_neg c78] at hS
  by_cases c80 : a1 = (5 : Int32)
  · rw [if_pos c80] at hS
    refine ev_tabI (t := 95) (off := 94) pm37 i37_1 rfl (5 : Int32) c80 (by decide) rfl rfl ?_
    refine ev_aload_n pm37 i37_95 rfl rfl rfl ?_
    obtain ⟨x13, e14, hS⟩ := bn_s hS
    refine ev_getR pm37 i37_96 rfl rfl rfl e14 rfl ?_
    obtain ⟨x15, e16, hS⟩ := bn_s hS
    refine ev_getI pm37 i37_99 rfl rfl (by decide) e16 rfl ?_
    refine ev_iconst (v := 3) pm37 i37_102 rfl (by decide) rfl ?_
    by_cases c81 : x15 < (3 : Int32)
    · rw [if_pos c81] at hS
      refine ev_icmp_ge_t (t := 110) pm37 i37_103 rfl c81 rfl rfl ?_
      refine ev_iconst (v := 1) pm37 i37_106 rfl (by decide) rfl ?_
      refine ev_goto (t := 111) pm37 i37_107 rfl rfl ?_
      refine ev_kls (ls' := [unk, unk]) pm37 i37_111 rfl rfl ?_
      cases hS
      exact ev_ireturn pm37 i37_111 rfl (by decide) rfl
    · rw [if_neg c81] at hS
      refine ev_icmp_ge_f (t := 110) pm37 i37_103 rfl c81 rfl rfl ?_
      refine ev_iconst (v := 0) pm37 i37_110 rfl (by decide) rfl ?_
      refine ev_kls (ls' := [unk, unk]) pm37 i37_111 rfl rfl ?_
      cases hS
      exact ev_ireturn pm37 i37_111 rfl (by decide) rfl
  rw [if_neg c80] at hS
  by_cases c82 : a1 = (6 : Int32)
  · rw [if_pos c82] at hS
    refine ev_tabI (t := 112) (off := 111) pm37 i37_1 rfl (6 : Int32) c82 (by decide) rfl rfl ?_
    refine ev_aload_n pm37 i37_112 rfl rfl rfl ?_
    obtain ⟨x17, e18, hS⟩ := bn_s hS
    refine ev_getR pm37 i37_113 rfl rfl rfl e18 rfl ?_
    obtain ⟨x19, e20, hS⟩ := bn_s hS
    refine ev_getI pm37 i37_116 rfl rfl (by decide) e20 rfl ?_
    refine ev_iconst (v := 4) pm37 i37_119 rfl (by decide) rfl ?_
    by_cases c83 : x19 < (4 : Int32)
    · rw [if_pos c83] at hS
      refine ev_icmp_ge_t (t := 127) pm37 i37_120 rfl c83 rfl rfl ?_
      refine ev_iconst (v := 1) pm37 i37_123 rfl (by decide) rfl ?_
      refine ev_goto (t := 128) pm37 i37_124 rfl rfl ?_
      refine ev_kls (ls' := [unk, unk]) pm37 i37_128 rfl rfl ?_
      cases hS
      exact ev_ireturn pm37 i37_128 rfl (by decide) rfl
    · rw [if_neg c83] at hS
      refine ev_icmp_ge_f (t := 127) pm37 i37_120 rfl c83 rfl rfl ?_
      refine ev_iconst (v := 0) pm37 i37_127 rfl (by decide) rfl ?_
      refine ev_kls (ls' := [unk, unk]) pm37 i37_128 rfl rfl ?_
      cases hS
      exact ev_ireturn pm37 i37_128 rfl (by decide) rfl
  rw [if_neg c82] at hS
  by_cases c84 : a1 = (7 : Int32)
  · rw [if_pos c84] at hS
    refine ev_tabI (t := 129) (off := 128) pm37 i37_1 rfl (7 : Int32) c84 (by decide) rfl rfl ?_
    refine ev_aload_n pm37 i37_129 rfl rfl rfl ?_
    obtain ⟨x21, e22, hS⟩ := bn_s hS
    refine ev_getR pm37 i37_130 rfl rfl rfl e22 rfl ?_
    obtain ⟨x23, e24, hS⟩ := bn_s hS
    refine ev_getR pm37 i37_133 rfl rfl rfl e24 rfl ?_
    obtain ⟨x25, e26, hS⟩ := bn_s hS
    refine ev_getI pm37 i37_136 rfl rfl (by decide) e26 rfl ?_
    refine ev_iconst (v := 4) pm37 i37_139 rfl (by decide) rfl ?_
    by_cases c85 : x25 < (4 : Int32)
    · rw [if_pos c85] at hS
      refine ev_icmp_ge_t (t := 147) pm37 i37_140 rfl c85 rfl rfl ?_
      refine ev_iconst (v := 1) pm37 i37_143 rfl (by decide) rfl ?_
      refine ev_goto (t := 148) pm37 i37_144 rfl rfl ?_
      refine ev_kls (ls' := [unk, unk]) pm37 i37_148 rfl rfl ?_
      cases hS
      exact ev_ireturn pm37 i37_148 rfl (by decide) rfl
    · rw [if_neg c85] at hS
      refine ev_icmp_ge_f (t := 147) pm37 i37_140 rfl c85 rfl rfl ?_
      refine ev_iconst (v := 0) pm37 i37_147 rfl (by decide) rfl ?_
      refine ev_kls (ls' := [unk, unk]) pm37 i37_148 rfl rfl ?_
      cases hS
      exact ev_ireturn pm37 i37_148 rfl (by decide) rfl
  rw [if_neg c84] at hS
  cases hS
def F_rd_takeWord (a0 : Nat) (a1 : Nat) (h : Hp) : Option (Int32 × Hp) :=
  ck h a0 7 (bn (gR h a0 7 2) fun x1 =>
  bn (F_tk_isWord x1 a1 h) fun x4 =>
  if x4 = (0 : Int32) then
    (bd (F_rd_fail a0 (1 : Int32) h) fun x6 h7 =>
    if retV .boolean x6 = true then
      (some (x6, h7))
    else
      (none))
  else
    (bn (gR h a0 7 2) fun x8 =>
    bn (F_tk_advance x8 h) fun h11 =>
    some ((1 : Int32), h11)))
set_option maxRecDepth 20000 in
theorem K_rd_takeWord {a0 : Nat} {a1 : Nat} {h : Hp} {v : Int32} {h' : Hp} (hS : F_rd_takeWord a0 a1 h = some (v, h')) : kd h a0 = 7 := by
  unfold F_rd_takeWord at hS
  exact (ck_s hS).1
set_option maxRecDepth 20000 in
theorem R_rd_takeWord (d : Nat) (hd : 5 ≤ d) {a0 : Nat} {a1 : Nat} {h : Hp} {v : Int32} {h' : Hp} (hS : F_rd_takeWord a0 a1 h = some (v, h')) : Ev P d 39 (0, [.ref a0, .ref a1], [], h) (some (.int v), h') := by
  unfold F_rd_takeWord at hS
  replace hS := (ck_s hS).2
  refine ev_aload_n pm39 i39_0 rfl rfl rfl ?_
  obtain ⟨x1, e2, hS⟩ := bn_s hS
  refine ev_getR pm39 i39_1 rfl rfl rfl e2 rfl ?_
  refine ev_aload_n pm39 i39_4 rfl rfl rfl ?_
  obtain ⟨x4, e3, hS⟩ := bn_s hS
  refine ev_callV (sa := [.ref a1]) (rest := []) (st' := [.int x4]) (ls0 := [.ref x1, .ref a1, unk]) (rv := some (.int x4)) pm39 i39_5 rfl rfl pm28 (by decide) (K_tk_isWord e3) rfl rfl (Nat.le_of_ble_eq_true rfl) (by omega) rfl (R_tk_isWord (d - 1) (by omega) e3) (by simp) rfl rfl ?_
  by_cases c86 : x4 = (0 : Int32)
  · rw [if_pos c86] at hS
    refine ev_if_ne_t (t := 17) pm39 i39_8 rfl c86 rfl rfl ?_
    refine ev_aload_n pm39 i39_11 rfl rfl rfl ?_
    refine ev_iconst (v := 1) pm39 i39_12 rfl (by decide) rfl ?_
    obtain ⟨x6, h7, e5, hS⟩ := bd_s hS
    refine ev_callV (sa := [.int (1 : Int32)]) (rest := []) (st' := [.int x6]) (ls0 := [.ref a0, .int (1 : Int32)]) (rv := some (.int x6)) pm39 i39_13 rfl rfl pm36 (by decide) (K_rd_fail e5) rfl rfl (Nat.le_of_ble_eq_true rfl) (by omega) rfl (R_rd_fail (d - 1) (by omega) e5) (by simp) rfl rfl ?_
    by_cases c87 : retV .boolean x6 = true
    · rw [if_pos c87] at hS
      cases hS
      exact ev_ireturn pm39 i39_16 rfl c87 rfl
    · rw [if_neg c87] at hS
      cases hS
  · rw [if_neg c86] at hS
    refine ev_if_ne_f (t := 17) pm39 i39_8 rfl c86 rfl rfl ?_
    refine ev_aload_n pm39 i39_17 rfl rfl rfl ?_
    obtain ⟨x8, e9, hS⟩ := bn_s hS
    refine ev_getR pm39 i39_18 rfl rfl rfl e9 rfl ?_
    obtain ⟨h11, e10, hS⟩ := bn_s hS
    refine ev_callV (sa := []) (rest := []) (st' := []) (ls0 := [.ref x8]) (rv := none) pm39 i39_21 rfl rfl pm23 (by decide) (K_tk_advance e10) rfl rfl (Nat.le_of_ble_eq_true rfl) (by omega) rfl (R_tk_advance (d - 1) (by omega) e10) (by simp) rfl rfl ?_
    refine ev_iconst (v := 1) pm39 i39_24 rfl (by decide) rfl ?_
    cases hS
    exact ev_ireturn pm39 i39_25 rfl (by decide) rfl
def F_rd_takeWhole (a0 : Nat) (a1 : Int32) (a2 : Int32) (h : Hp) : Option (Int32 × Hp) :=
  ck h a0 7 (bn (gR h a0 7 2) fun x1 =>
  bn (gI h x1 9 4) fun x3 =>
  if x3 = (1 : Int32) then
    (bn (gR h a0 7 2) fun x5 =>
    bn (gI h x5 9 5) fun x7 =>
    bn (if x7 < a1 then
        (some (Sum.inl ()))
      else
        (bn (gR h a0 7 2) fun x9 =>
        bn (gI h x9 9 5) fun x11 =>
        if a2 < x11 then
          (some (Sum.inl ()))
        else
          (bn (gR h a0 7 2) fun x13 =>
          bn (gI h x13 9 5) fun x15 =>
          bn (pI h a0 7 9 x15) fun h17 =>
          bn (gR h17 a0 7 2) fun x19 =>
          bn (F_tk_advance x19 h17) fun h22 =>
          some (Sum.inr ((1 : Int32), h22))))) fun x28 =>
    ei x28 (fun z24 =>
    bd (F_rd_fail a0 (4 : Int32) h) fun x26 h27 =>
    if retV .boolean x26 = true then
      (some (x26, h27))
    else
      (none))
    (fun z => some z))
  else
    (bd (F_rd_fail a0 (1 : Int32) h) fun x30 h31 =>
    if retV .boolean x30 = true then
      (some (x30, h31))
    else
      (none)))
set_option maxRecDepth 20000 in
theorem K_rd_takeWhole {a0 : Nat} {a1 : Int32} {a2 : Int32} {h : Hp} {v : Int32} {h' : Hp} (hS : F_rd_takeWhole a0 a1 a2 h = some (v, h')) : kd h a0 = 7 := by
  unfold F_rd_takeWhole at hS
  exact (ck_s hS).1
set_option maxRecDepth 20000 in
theorem R_rd_takeWhole (d : Nat) (hd : 2 ≤ d) {a0 : Nat} {a1 : Int32} {a2 : Int32} {h : Hp} {v : Int32} {h' : Hp} (hS : F_rd_takeWhole a0 a1 a2 h = some (v, h')) : Ev P d 40 (0, [.ref a0, .int a1, .int a2], [], h) (some (.int v), h') := by
  unfold F_rd_takeWhole at hS
  replace hS := (ck_s hS).2
  refine ev_aload_n pm40 i40_0 rfl rfl rfl ?_
  obtain ⟨x1, e2, hS⟩ := bn_s hS
  refine ev_getR pm40 i40_1 rfl rfl rfl e2 rfl ?_
  obtain ⟨x3, e4, hS⟩ := bn_s hS
  refine ev_getI pm40 i40_4 rfl rfl (by decide) e4 rfl ?_
  refine ev_iconst (v := 1) pm40 i40_7 rfl (by decide) rfl ?_
  by_cases c88 : x3 = (1 : Int32)
  · rw [if_pos c88] at hS
    refine ev_icmp_eq_t (t := 17) pm40 i40_8 rfl c88 rfl rfl ?_
    refine ev_aload_n pm40 i40_17 rfl rfl rfl ?_
    obtain ⟨x5, e6, hS⟩ := bn_s hS
    refine ev_getR pm40 i40_18 rfl rfl rfl e6 rfl ?_
    obtain ⟨x7, e8, hS⟩ := bn_s hS
    refine ev_getI pm40 i40_21 rfl rfl (by decide) e8 rfl ?_
    refine ev_iload_n pm40 i40_24 rfl rfl rfl ?_
    obtain ⟨x28, I89, hS⟩ := bn_s hS
    have J1 : ∀ z24, x28 = Sum.inl z24 → Ev P d 40 (39, [.ref a0, unk, unk], [], h) (some (.int v), h') := by
      intro z24 hx
      subst hx
      replace hS := ei_l hS
      refine ev_aload_n pm40 i40_39 rfl rfl rfl ?_
      refine ev_iconst (v := 4) pm40 i40_40 rfl (by decide) rfl ?_
      obtain ⟨x26, h27, e25, hS⟩ := bd_s hS
      refine ev_callV (sa := [.int (4 : Int32)]) (rest := []) (st' := [.int x26]) (ls0 := [.ref a0, .int (4 : Int32)]) (rv := some (.int x26)) pm40 i40_41 rfl rfl pm36 (by decide) (K_rd_fail e25) rfl rfl (Nat.le_of_ble_eq_true rfl) (by omega) rfl (R_rd_fail (d - 1) (by omega) e25) (by simp) rfl rfl ?_
      by_cases c90 : retV .boolean x26 = true
      · rw [if_pos c90] at hS
        cases hS
        exact ev_ireturn pm40 i40_44 rfl c90 rfl
      · rw [if_neg c90] at hS
        cases hS
    have Z1 := ej_z hS
    clear hS
    by_cases c89 : x7 < a1
    · rw [if_pos c89] at I89
      refine ev_icmp_lt_t (t := 39) pm40 i40_25 rfl c89 rfl rfl ?_
      refine ev_kls (ls' := [.ref a0, unk, unk]) pm40 i40_39 rfl rfl ?_
      cases I89
      exact J1 _ rfl
    · rw [if_neg c89] at I89
      refine ev_icmp_lt_f (t := 39) pm40 i40_25 rfl c89 rfl rfl ?_
      refine ev_aload_n pm40 i40_28 rfl rfl rfl ?_
      obtain ⟨x9, e10, I89⟩ := bn_s I89
      refine ev_getR pm40 i40_29 rfl rfl rfl e10 rfl ?_
      obtain ⟨x11, e12, I89⟩ := bn_s I89
      refine ev_getI pm40 i40_32 rfl rfl (by decide) e12 rfl ?_
      refine ev_iload_n pm40 i40_35 rfl rfl rfl ?_
      by_cases c91 : a2 < x11
      · rw [if_pos c91] at I89
        refine ev_icmp_le_t (t := 45) pm40 i40_36 rfl c91 rfl rfl ?_
        refine ev_kls (ls' := [.ref a0, unk, unk]) pm40 i40_39 rfl rfl ?_
        cases I89
        exact J1 _ rfl
      · rw [if_neg c91] at I89
        refine ev_icmp_le_f (t := 45) pm40 i40_36 rfl c91 rfl rfl ?_
        refine ev_aload_n pm40 i40_45 rfl rfl rfl ?_
        refine ev_aload_n pm40 i40_46 rfl rfl rfl ?_
        obtain ⟨x13, e14, I89⟩ := bn_s I89
        refine ev_getR pm40 i40_47 rfl rfl rfl e14 rfl ?_
        obtain ⟨x15, e16, I89⟩ := bn_s I89
        refine ev_getI pm40 i40_50 rfl rfl (by decide) e16 rfl ?_
        obtain ⟨h17, e18, I89⟩ := bn_s I89
        refine ev_putI pm40 i40_53 rfl rfl rfl e18 rfl ?_
        refine ev_aload_n pm40 i40_56 rfl rfl rfl ?_
        obtain ⟨x19, e20, I89⟩ := bn_s I89
        refine ev_getR pm40 i40_57 rfl rfl rfl e20 rfl ?_
        obtain ⟨h22, e21, I89⟩ := bn_s I89
        refine ev_callV (sa := []) (rest := []) (st' := []) (ls0 := [.ref x19]) (rv := none) pm40 i40_60 rfl rfl pm23 (by decide) (K_tk_advance e21) rfl rfl (Nat.le_of_ble_eq_true rfl) (by omega) rfl (R_tk_advance (d - 1) (by omega) e21) (by simp) rfl rfl ?_
        refine ev_iconst (v := 1) pm40 i40_63 rfl (by decide) rfl ?_
        cases I89
        have hz1 := Z1 _ rfl
        cases hz1
        exact ev_ireturn pm40 i40_64 rfl (by decide) rfl
  · rw [if_neg c88] at hS
    refine ev_icmp_eq_f (t := 17) pm40 i40_8 rfl c88 rfl rfl ?_
    refine ev_aload_n pm40 i40_11 rfl rfl rfl ?_
    refine ev_iconst (v := 1) pm40 i40_12 rfl (by decide) rfl ?_
    obtain ⟨x30, h31, e29, hS⟩ := bd_s hS
    refine ev_callV (sa := [.int (1 : Int32)]) (rest := []) (st' := [.int x30]) (ls0 := [.ref a0, .int (1 : Int32)]) (rv := some (.int x30)) pm40 i40_13 rfl rfl pm36 (by decide) (K_rd_fail e29) rfl rfl (Nat.le_of_ble_eq_true rfl) (by omega) rfl (R_rd_fail (d - 1) (by omega) e29) (by simp) rfl rfl ?_
    by_cases c92 : retV .boolean x30 = true
    · rw [if_pos c92] at hS
      cases hS
      exact ev_ireturn pm40 i40_16 rfl c92 rfl
    · rw [if_neg c92] at hS
      cases hS
def F_rd_readMice (a0 : Nat) (h : Hp) : Option (Int32 × Hp) :=
  ck h a0 7 (bd (F_rd_takeWord a0 1000012 h) fun x2 h3 =>
  if x2 = (0 : Int32) then
    (some ((0 : Int32), h3))
  else
    (bd (F_rd_takeWhole a0 (0 : Int32) (100 : Int32) h3) fun x5 h6 =>
    if x5 = (0 : Int32) then
      (some ((0 : Int32), h6))
    else
      (bn (gR h6 a0 7 3) fun x7 =>
      bn (gI h6 a0 7 9) fun x9 =>
      bn (pI h6 x7 10 0 x9) fun h11 =>
      bn (pZ h11 a0 7 4 (1 : Int32)) fun h13 =>
      some ((1 : Int32), h13))))
set_option maxRecDepth 20000 in
theorem K_rd_readMice {a0 : Nat} {h : Hp} {v : Int32} {h' : Hp} (hS : F_rd_readMice a0 h = some (v, h')) : kd h a0 = 7 := by
  unfold F_rd_readMice at hS
  exact (ck_s hS).1
set_option maxRecDepth 20000 in
theorem R_rd_readMice (d : Nat) (hd : 6 ≤ d) {a0 : Nat} {h : Hp} {v : Int32} {h' : Hp} (hS : F_rd_readMice a0 h = some (v, h')) : Ev P d 38 (0, [.ref a0], [], h) (some (.int v), h') := by
  unfold F_rd_readMice at hS
  replace hS := (ck_s hS).2
  refine ev_aload_n pm38 i38_0 rfl rfl rfl ?_
  refine ev_ldc (v := .ref 1000012) pm38 i38_1 rfl rfl rfl ?_
  obtain ⟨x2, h3, e1, hS⟩ := bd_s hS
  refine ev_callV (sa := [.ref 1000012]) (rest := []) (st' := [.int x2]) (ls0 := [.ref a0, .ref 1000012]) (rv := some (.int x2)) pm38 i38_3 rfl rfl pm39 (by decide) (K_rd_takeWord e1) rfl rfl (Nat.le_of_ble_eq_true rfl) (by omega) rfl (R_rd_takeWord (d - 1) (by omega) e1) (by simp) rfl rfl ?_
  by_cases c93 : x2 = (0 : Int32)
  · rw [if_pos c93] at hS
    refine ev_if_eq_t (t := 19) pm38 i38_6 rfl c93 rfl rfl ?_
    refine ev_kls (ls' := [unk]) pm38 i38_19 rfl rfl ?_
    refine ev_iconst (v := 0) pm38 i38_19 rfl (by decide) rfl ?_
    cases hS
    exact ev_ireturn pm38 i38_20 rfl (by decide) rfl
  · rw [if_neg c93] at hS
    refine ev_if_eq_f (t := 19) pm38 i38_6 rfl c93 rfl rfl ?_
    refine ev_aload_n pm38 i38_9 rfl rfl rfl ?_
    refine ev_iconst (v := 0) pm38 i38_10 rfl (by decide) rfl ?_
    refine ev_bipush (v := 100) pm38 i38_11 rfl (by decide) rfl ?_
    obtain ⟨x5, h6, e4, hS⟩ := bd_s hS
    refine ev_callV (sa := [.int (100 : Int32), .int (0 : Int32)]) (rest := []) (st' := [.int x5]) (ls0 := [.ref a0, .int (0 : Int32), .int (100 : Int32)]) (rv := some (.int x5)) pm38 i38_13 rfl rfl pm40 (by decide) (K_rd_takeWhole e4) rfl rfl (Nat.le_of_ble_eq_true rfl) (by omega) rfl (R_rd_takeWhole (d - 1) (by omega) e4) (by simp) rfl rfl ?_
    by_cases c94 : x5 = (0 : Int32)
    · rw [if_pos c94] at hS
      refine ev_if_ne_t (t := 21) pm38 i38_16 rfl c94 rfl rfl ?_
      refine ev_kls (ls' := [unk]) pm38 i38_19 rfl rfl ?_
      refine ev_iconst (v := 0) pm38 i38_19 rfl (by decide) rfl ?_
      cases hS
      exact ev_ireturn pm38 i38_20 rfl (by decide) rfl
    · rw [if_neg c94] at hS
      refine ev_if_ne_f (t := 21) pm38 i38_16 rfl c94 rfl rfl ?_
      refine ev_aload_n pm38 i38_21 rfl rfl rfl ?_
      obtain ⟨x7, e8, hS⟩ := bn_s hS
      refine ev_getR pm38 i38_22 rfl rfl rfl e8 rfl ?_
      refine ev_aload_n pm38 i38_25 rfl rfl rfl ?_
      obtain ⟨x9, e10, hS⟩ := bn_s hS
      refine ev_getI pm38 i38_26 rfl rfl (by decide) e10 rfl ?_
      obtain ⟨h11, e12, hS⟩ := bn_s hS
      refine ev_putI pm38 i38_29 rfl rfl rfl e12 rfl ?_
      refine ev_aload_n pm38 i38_32 rfl rfl rfl ?_
      refine ev_iconst (v := 1) pm38 i38_33 rfl (by decide) rfl ?_
      obtain ⟨h13, e14, hS⟩ := bn_s hS
      refine ev_putZ pm38 i38_34 rfl rfl rfl e14 rfl ?_
      refine ev_iconst (v := 1) pm38 i38_37 rfl (by decide) rfl ?_
      cases hS
      exact ev_ireturn pm38 i38_38 rfl (by decide) rfl
def B_rd_findName_2 (l0 : Nat) (h : Hp) (s : Int32) : Option ((Int32) ⊕ ((Unit) ⊕ Int32)) :=
  bn (gI h l0 7 5) fun x1 =>
  if s < x1 then
    (bn (gR h l0 7 6) fun x3 =>
    bn (aL h x3 s) fun x5 =>
    bn (gR h l0 7 2) fun x7 =>
    bn (gL h x7 9 6) fun x9 =>
    if (lg_cmp x5 x9) = (0 : Int32) then
      (some (.inr (.inr s)))
    else
      (some (.inl (s + (1 : Int32)))))
  else
    (some (.inr (.inl ())))
set_option maxRecDepth 20000 in
theorem L_rd_findName_2 (d : Nat) (hd : 0 ≤ d) {l0 : Nat} {h : Hp} : ∀ (n : Nat) (s : Int32) (x : (Unit) ⊕ Int32), lq (B_rd_findName_2 l0 h) n s = some x → ∀ r, ei x (fun q => Ev P d 43 (35, [unk, unk], [], h) r) (fun v => (some (.int v), h) = r) → Ev P d 43 (2, [.ref l0, .int s], [], h) r := by
  refine lq_ev (G0 := fun (s : Int32) r => Ev P d 43 (2, [.ref l0, .int s], [], h) r) (X := fun (x : (Unit) ⊕ Int32) r => ei x (fun q => Ev P d 43 (35, [unk, unk], [], h) r) (fun v => (some (.int v), h) = r)) ?_
  intro s y hS r hK
  unfold B_rd_findName_2 at hS
  show Ev P d 43 (2, [.ref l0, .int s], [], h) r
  refine ev_iload_n pm43 i43_2 rfl rfl rfl ?_
  refine ev_aload_n pm43 i43_3 rfl rfl rfl ?_
  obtain ⟨x1, e2, hS⟩ := bn_s hS
  refine ev_getI pm43 i43_4 rfl rfl (by decide) e2 rfl ?_
  by_cases c95 : s < x1
  · rw [if_pos c95] at hS
    refine ev_icmp_ge_t (t := 35) pm43 i43_7 rfl c95 rfl rfl ?_
    refine ev_aload_n pm43 i43_10 rfl rfl rfl ?_
    obtain ⟨x3, e4, hS⟩ := bn_s hS
    refine ev_getR pm43 i43_11 rfl rfl rfl e4 rfl ?_
    refine ev_iload_n pm43 i43_14 rfl rfl rfl ?_
    obtain ⟨x5, e6, hS⟩ := bn_s hS
    refine ev_lald pm43 i43_15 rfl e6 rfl ?_
    refine ev_aload_n pm43 i43_16 rfl rfl rfl ?_
    obtain ⟨x7, e8, hS⟩ := bn_s hS
    refine ev_getR pm43 i43_17 rfl rfl rfl e8 rfl ?_
    obtain ⟨x9, e10, hS⟩ := bn_s hS
    refine ev_getL pm43 i43_20 rfl rfl rfl e10 rfl ?_
    refine ev_lcmp pm43 i43_23 rfl rfl ?_
    by_cases c96 : (lg_cmp x5 x9) = (0 : Int32)
    · rw [if_pos c96] at hS
      refine ev_if_ne_t (t := 29) pm43 i43_24 rfl c96 rfl rfl ?_
      refine ev_iload_n pm43 i43_27 rfl rfl rfl ?_
      cases hS
      exact ev_ireturn pm43 i43_28 rfl rfl hK
    · rw [if_neg c96] at hS
      refine ev_if_ne_f (t := 29) pm43 i43_24 rfl c96 rfl rfl ?_
      refine ev_iinc (v := 1) (ls' := [.ref l0, .int (s + (1 : Int32))]) pm43 i43_29 rfl rfl (by decide) rfl rfl ?_
      refine ev_goto (t := 2) pm43 i43_32 rfl rfl ?_
      cases hS
      exact hK
  · rw [if_neg c95] at hS
    refine ev_icmp_ge_f (t := 35) pm43 i43_7 rfl c95 rfl rfl ?_
    refine ev_kls (ls' := [unk, unk]) pm43 i43_35 rfl rfl ?_
    cases hS
    exact hK
def F_rd_findName (a0 : Nat) (h : Hp) : Option Int32 :=
  ck h a0 7 (bn (lq (B_rd_findName_2 a0 h) FU (0 : Int32)) fun x11 =>
  ei x11 (fun q13 =>
  some (-1 : Int32))
  (fun x14 => some x14))
set_option maxRecDepth 20000 in
theorem K_rd_findName {a0 : Nat} {h : Hp} {v : Int32} (hS : F_rd_findName a0 h = some v) : kd h a0 = 7 := by
  unfold F_rd_findName at hS
  exact (ck_s hS).1
set_option maxRecDepth 20000 in
theorem R_rd_findName (d : Nat) (hd : 0 ≤ d) {a0 : Nat} {h : Hp} {v : Int32} (hS : F_rd_findName a0 h = some v) : Ev P d 43 (0, [.ref a0, unk], [], h) (some (.int v), h) := by
  unfold F_rd_findName at hS
  replace hS := (ck_s hS).2
  refine ev_iconst (v := 0) pm43 i43_0 rfl (by decide) rfl ?_
  refine ev_istore_n (ls' := [.ref a0, .int (0 : Int32)]) pm43 i43_1 rfl (Nat.le_of_ble_eq_true rfl) rfl rfl ?_
  obtain ⟨x11, e12, hS⟩ := bn_s hS
  refine L_rd_findName_2 d (by omega) _ _ _ e12 _ ?_
  cases x11 with
  | inl q13 =>
    replace hS := ei_l hS
    show Ev P d 43 (35, [unk, unk], [], h) _
    refine ev_iconst (v := -1) pm43 i43_35 rfl (by decide) rfl ?_
    cases hS
    exact ev_ireturn pm43 i43_36 rfl rfl rfl
  | inr x14 =>
    replace hS := ei_r hS
    cases hS
    rfl
def F_rd_takeNewName (a0 : Nat) (a1 : Int32) (a2 : Int32) (h : Hp) : Option (Int32 × Hp) :=
  ck h a0 7 (bn (gR h a0 7 2) fun x1 =>
  bn (gI h x1 9 4) fun x3 =>
  bn (if x3 = (0 : Int32) then
      (bn (F_rd_lineSort a0 h) fun x6 =>
      if x6 = (-1 : Int32) then
        (bn (F_rd_findName a0 h) fun x8 =>
        if x8 < (0 : Int32) then
          (bn (gI h a0 7 5) fun x9 =>
          if x9 < (11 : Int32) then
            (bn (gR h a0 7 6) fun x11 =>
            bn (gI h a0 7 5) fun x13 =>
            bn (gR h a0 7 2) fun x15 =>
            bn (gL h x15 9 6) fun x17 =>
            bn (sL h x11 x13 x17) fun h19 =>
            bn (gR h19 a0 7 7) fun x21 =>
            bn (gI h19 a0 7 5) fun x23 =>
            bn (sI h19 100 x21 x23 a1) fun h25 =>
            bn (gR h25 a0 7 8) fun x27 =>
            bn (gI h25 a0 7 5) fun x29 =>
            bn (sI h25 100 x27 x29 a2) fun h31 =>
            bn (gI h31 a0 7 5) fun x33 =>
            bn (pI h31 a0 7 5 (x33 + (1 : Int32))) fun h35 =>
            bn (gR h35 a0 7 2) fun x37 =>
            bn (F_tk_advance x37 h35) fun h40 =>
            some (Sum.inr ((1 : Int32), h40)))
          else
            (bd (F_rd_fail a0 (5 : Int32) h) fun x42 h43 =>
            if retV .boolean x42 = true then
              (some (Sum.inr (x42, h43)))
            else
              (none)))
        else
          (bd (F_rd_fail a0 (3 : Int32) h) fun x45 h46 =>
          if retV .boolean x45 = true then
            (some (Sum.inr (x45, h46)))
          else
            (none)))
      else
        (some (Sum.inl ())))
    else
      (some (Sum.inl ()))) fun x52 =>
  ei x52 (fun z48 =>
  bd (F_rd_fail a0 (1 : Int32) h) fun x50 h51 =>
  if retV .boolean x50 = true then
    (some (x50, h51))
  else
    (none))
  (fun z => some z))
set_option maxRecDepth 20000 in
theorem K_rd_takeNewName {a0 : Nat} {a1 : Int32} {a2 : Int32} {h : Hp} {v : Int32} {h' : Hp} (hS : F_rd_takeNewName a0 a1 a2 h = some (v, h')) : kd h a0 = 7 := by
  unfold F_rd_takeNewName at hS
  exact (ck_s hS).1
set_option maxRecDepth 20000 in
theorem R_rd_takeNewName (d : Nat) (hd : 6 ≤ d) {a0 : Nat} {a1 : Int32} {a2 : Int32} {h : Hp} {v : Int32} {h' : Hp} (hS : F_rd_takeNewName a0 a1 a2 h = some (v, h')) : Ev P d 42 (0, [.ref a0, .int a1, .int a2], [], h) (some (.int v), h') := by
  unfold F_rd_takeNewName at hS
  replace hS := (ck_s hS).2
  refine ev_aload_n pm42 i42_0 rfl rfl rfl ?_
  obtain ⟨x1, e2, hS⟩ := bn_s hS
  refine ev_getR pm42 i42_1 rfl rfl rfl e2 rfl ?_
  obtain ⟨x3, e4, hS⟩ := bn_s hS
  refine ev_getI pm42 i42_4 rfl rfl (by decide) e4 rfl ?_
  obtain ⟨x52, I97, hS⟩ := bn_s hS
  have J1 : ∀ z48, x52 = Sum.inl z48 → Ev P d 42 (18, [.ref a0, unk, unk], [], h) (some (.int v), h') := by
    intro z48 hx
    subst hx
    replace hS := ei_l hS
    refine ev_aload_n pm42 i42_18 rfl rfl rfl ?_
    refine ev_iconst (v := 1) pm42 i42_19 rfl (by decide) rfl ?_
    obtain ⟨x50, h51, e49, hS⟩ := bd_s hS
    refine ev_callV (sa := [.int (1 : Int32)]) (rest := []) (st' := [.int x50]) (ls0 := [.ref a0, .int (1 : Int32)]) (rv := some (.int x50)) pm42 i42_20 rfl rfl pm36 (by decide) (K_rd_fail e49) rfl rfl (Nat.le_of_ble_eq_true rfl) (by omega) rfl (R_rd_fail (d - 1) (by omega) e49) (by simp) rfl rfl ?_
    by_cases c98 : retV .boolean x50 = true
    · rw [if_pos c98] at hS
      cases hS
      exact ev_ireturn pm42 i42_23 rfl c98 rfl
    · rw [if_neg c98] at hS
      cases hS
  have Z1 := ej_z hS
  clear hS
  by_cases c97 : x3 = (0 : Int32)
  · rw [if_pos c97] at I97
    refine ev_if_ne_t (t := 18) pm42 i42_7 rfl c97 rfl rfl ?_
    refine ev_aload_n pm42 i42_10 rfl rfl rfl ?_
    obtain ⟨x6, e5, I97⟩ := bn_s I97
    refine ev_callV (sa := []) (rest := []) (st' := [.int x6]) (ls0 := [.ref a0]) (rv := some (.int x6)) pm42 i42_11 rfl rfl pm27 (by decide) (K_rd_lineSort e5) rfl rfl (Nat.le_of_ble_eq_true rfl) (by omega) rfl (R_rd_lineSort (d - 1) (by omega) e5) (by simp) rfl rfl ?_
    refine ev_iconst (v := -1) pm42 i42_14 rfl (by decide) rfl ?_
    by_cases c99 : x6 = (-1 : Int32)
    · rw [if_pos c99] at I97
      refine ev_icmp_eq_t (t := 24) pm42 i42_15 rfl c99 rfl rfl ?_
      refine ev_aload_n pm42 i42_24 rfl rfl rfl ?_
      obtain ⟨x8, e7, I97⟩ := bn_s I97
      refine ev_callV (sa := []) (rest := []) (st' := [.int x8]) (ls0 := [.ref a0, unk]) (rv := some (.int x8)) pm42 i42_25 rfl rfl pm43 (by decide) (K_rd_findName e7) rfl rfl (Nat.le_of_ble_eq_true rfl) (by omega) rfl (R_rd_findName (d - 1) (by omega) e7) (by simp) rfl rfl ?_
      by_cases c100 : x8 < (0 : Int32)
      · rw [if_pos c100] at I97
        refine ev_if_lt_t (t := 37) pm42 i42_28 rfl c100 rfl rfl ?_
        refine ev_aload_n pm42 i42_37 rfl rfl rfl ?_
        obtain ⟨x9, e10, I97⟩ := bn_s I97
        refine ev_getI pm42 i42_38 rfl rfl (by decide) e10 rfl ?_
        refine ev_bipush (v := 11) pm42 i42_41 rfl (by decide) rfl ?_
        by_cases c101 : x9 < (11 : Int32)
        · rw [if_pos c101] at I97
          refine ev_icmp_lt_t (t := 52) pm42 i42_43 rfl c101 rfl rfl ?_
          refine ev_aload_n pm42 i42_52 rfl rfl rfl ?_
          obtain ⟨x11, e12, I97⟩ := bn_s I97
          refine ev_getR pm42 i42_53 rfl rfl rfl e12 rfl ?_
          refine ev_aload_n pm42 i42_56 rfl rfl rfl ?_
          obtain ⟨x13, e14, I97⟩ := bn_s I97
          refine ev_getI pm42 i42_57 rfl rfl (by decide) e14 rfl ?_
          refine ev_aload_n pm42 i42_60 rfl rfl rfl ?_
          obtain ⟨x15, e16, I97⟩ := bn_s I97
          refine ev_getR pm42 i42_61 rfl rfl rfl e16 rfl ?_
          obtain ⟨x17, e18, I97⟩ := bn_s I97
          refine ev_getL pm42 i42_64 rfl rfl rfl e18 rfl ?_
          obtain ⟨h19, e20, I97⟩ := bn_s I97
          refine ev_last pm42 i42_67 rfl e20 rfl ?_
          refine ev_aload_n pm42 i42_68 rfl rfl rfl ?_
          obtain ⟨x21, e22, I97⟩ := bn_s I97
          refine ev_getR pm42 i42_69 rfl rfl rfl e22 rfl ?_
          refine ev_aload_n pm42 i42_72 rfl rfl rfl ?_
          obtain ⟨x23, e24, I97⟩ := bn_s I97
          refine ev_getI pm42 i42_73 rfl rfl (by decide) e24 rfl ?_
          refine ev_iload_n pm42 i42_76 rfl rfl rfl ?_
          obtain ⟨h25, e26, I97⟩ := bn_s I97
          refine ev_iast pm42 i42_77 rfl e26 rfl ?_
          refine ev_aload_n pm42 i42_78 rfl rfl rfl ?_
          obtain ⟨x27, e28, I97⟩ := bn_s I97
          refine ev_getR pm42 i42_79 rfl rfl rfl e28 rfl ?_
          refine ev_aload_n pm42 i42_82 rfl rfl rfl ?_
          obtain ⟨x29, e30, I97⟩ := bn_s I97
          refine ev_getI pm42 i42_83 rfl rfl (by decide) e30 rfl ?_
          refine ev_iload_n pm42 i42_86 rfl rfl rfl ?_
          obtain ⟨h31, e32, I97⟩ := bn_s I97
          refine ev_iast pm42 i42_87 rfl e32 rfl ?_
          refine ev_aload_n pm42 i42_88 rfl rfl rfl ?_
          refine ev_dup pm42 i42_89 rfl rfl rfl ?_
          obtain ⟨x33, e34, I97⟩ := bn_s I97
          refine ev_getI pm42 i42_90 rfl rfl (by decide) e34 rfl ?_
          refine ev_iconst (v := 1) pm42 i42_93 rfl (by decide) rfl ?_
          refine ev_b2 (f := fun x y => x + y) pm42 i42_94 rfl (fun _ _ _ _ => rfl) rfl ?_
          obtain ⟨h35, e36, I97⟩ := bn_s I97
          refine ev_putI pm42 i42_95 rfl rfl rfl e36 rfl ?_
          refine ev_aload_n pm42 i42_98 rfl rfl rfl ?_
          obtain ⟨x37, e38, I97⟩ := bn_s I97
          refine ev_getR pm42 i42_99 rfl rfl rfl e38 rfl ?_
          obtain ⟨h40, e39, I97⟩ := bn_s I97
          refine ev_callV (sa := []) (rest := []) (st' := []) (ls0 := [.ref x37]) (rv := none) pm42 i42_102 rfl rfl pm23 (by decide) (K_tk_advance e39) rfl rfl (Nat.le_of_ble_eq_true rfl) (by omega) rfl (R_tk_advance (d - 1) (by omega) e39) (by simp) rfl rfl ?_
          refine ev_iconst (v := 1) pm42 i42_105 rfl (by decide) rfl ?_
          cases I97
          have hz1 := Z1 _ rfl
          cases hz1
          exact ev_ireturn pm42 i42_106 rfl (by decide) rfl
        · rw [if_neg c101] at I97
          refine ev_icmp_lt_f (t := 52) pm42 i42_43 rfl c101 rfl rfl ?_
          refine ev_aload_n pm42 i42_46 rfl rfl rfl ?_
          refine ev_iconst (v := 5) pm42 i42_47 rfl (by decide) rfl ?_
          obtain ⟨x42, h43, e41, I97⟩ := bd_s I97
          refine ev_callV (sa := [.int (5 : Int32)]) (rest := []) (st' := [.int x42]) (ls0 := [.ref a0, .int (5 : Int32)]) (rv := some (.int x42)) pm42 i42_48 rfl rfl pm36 (by decide) (K_rd_fail e41) rfl rfl (Nat.le_of_ble_eq_true rfl) (by omega) rfl (R_rd_fail (d - 1) (by omega) e41) (by simp) rfl rfl ?_
          by_cases c102 : retV .boolean x42 = true
          · rw [if_pos c102] at I97
            cases I97
            have hz1 := Z1 _ rfl
            cases hz1
            exact ev_ireturn pm42 i42_51 rfl c102 rfl
          · rw [if_neg c102] at I97
            cases I97
      · rw [if_neg c100] at I97
        refine ev_if_lt_f (t := 37) pm42 i42_28 rfl c100 rfl rfl ?_
        refine ev_aload_n pm42 i42_31 rfl rfl rfl ?_
        refine ev_iconst (v := 3) pm42 i42_32 rfl (by decide) rfl ?_
        obtain ⟨x45, h46, e44, I97⟩ := bd_s I97
        refine ev_callV (sa := [.int (3 : Int32)]) (rest := []) (st' := [.int x45]) (ls0 := [.ref a0, .int (3 : Int32)]) (rv := some (.int x45)) pm42 i42_33 rfl rfl pm36 (by decide) (K_rd_fail e44) rfl rfl (Nat.le_of_ble_eq_true rfl) (by omega) rfl (R_rd_fail (d - 1) (by omega) e44) (by simp) rfl rfl ?_
        by_cases c103 : retV .boolean x45 = true
        · rw [if_pos c103] at I97
          cases I97
          have hz1 := Z1 _ rfl
          cases hz1
          exact ev_ireturn pm42 i42_36 rfl c103 rfl
        · rw [if_neg c103] at I97
          cases I97
    · rw [if_neg c99] at I97
      refine ev_icmp_eq_f (t := 24) pm42 i42_15 rfl c99 rfl rfl ?_
      refine ev_kls (ls' := [.ref a0, unk, unk]) pm42 i42_18 rfl rfl ?_
      cases I97
      exact J1 _ rfl
  · rw [if_neg c97] at I97
    refine ev_if_ne_f (t := 18) pm42 i42_7 rfl c97 rfl rfl ?_
    refine ev_kls (ls' := [.ref a0, unk, unk]) pm42 i42_18 rfl rfl ?_
    cases I97
    exact J1 _ rfl
