def F_cs_setAt (a0 : Nat) (a1 : Int32) (h : Hp) : Option (Int32 × Hp) :=
  ck h a0 11 (bn (F_cs_noLake a0 h) fun x2 =>
  bd (F_cs_refused a0 x2 (0 : Int32) h) fun x4 h5 =>
  if x4 = (0 : Int32) then
    (bn (gR h5 a0 11 9) fun x6 =>
    bn (gR h5 a0 11 3) fun x8 =>
    bn (F_ho_find x6 x8 h5) fun h11 =>
    bn (gR h11 a0 11 9) fun x12 =>
    bn (gI h11 x12 2 0) fun x14 =>
    bn (F_cs_outside a1 (0 : Int32) (x14 - (1 : Int32))) fun x17 =>
    bd (F_cs_refusedBy a0 (1 : Int32) x17 h11) fun x19 h20 =>
    if x19 = (0 : Int32) then
      (bn (gR h20 a0 11 9) fun x21 =>
      bn (gR h20 x21 2 1) fun x23 =>
      bn (aI h20 100 x23 a1) fun x25 =>
      some (x25, h20))
    else
      (some ((-1 : Int32), h20)))
  else
    (some ((-1 : Int32), h5)))
set_option maxRecDepth 20000 in
theorem K_cs_setAt {a0 : Nat} {a1 : Int32} {h : Hp} {v : Int32} {h' : Hp} (hS : F_cs_setAt a0 a1 h = some (v, h')) : kd h a0 = 11 := by
  unfold F_cs_setAt at hS
  exact (ck_s hS).1
set_option maxRecDepth 20000 in
theorem R_cs_setAt (d : Nat) (hd : 6 ≤ d) {a0 : Nat} {a1 : Int32} {h : Hp} {v : Int32} {h' : Hp} (hS : F_cs_setAt a0 a1 h = some (v, h')) : Ev P d 129 (0, [.ref a0, .int a1], [], h) (some (.int v), h') := by
  unfold F_cs_setAt at hS
  replace hS := (ck_s hS).2
  refine ev_aload_n pm129 i129_0 rfl rfl rfl ?_
  refine ev_aload_n pm129 i129_1 rfl rfl rfl ?_
  obtain ⟨x2, e1, hS⟩ := bn_s hS
  refine ev_callV (sa := []) (rest := [.ref a0]) (st' := [.int x2, .ref a0]) (ls0 := [.ref a0]) (rv := some (.int x2)) pm129 i129_2 rfl rfl pm86 (by decide) (K_cs_noLake e1) rfl rfl (Nat.le_of_ble_eq_true rfl) (by omega) rfl (R_cs_noLake (d - 1) (by omega) e1) (by simp) rfl rfl ?_
  refine ev_iconst (v := 0) pm129 i129_5 rfl (by decide) rfl ?_
  obtain ⟨x4, h5, e3, hS⟩ := bd_s hS
  refine ev_callV (sa := [.int (0 : Int32), .int x2]) (rest := []) (st' := [.int x4]) (ls0 := [.ref a0, .int x2, .int (0 : Int32)]) (rv := some (.int x4)) pm129 i129_6 rfl rfl pm18 (by decide) (K_cs_refused e3) rfl rfl (Nat.le_of_ble_eq_true rfl) (by omega) rfl (R_cs_refused (d - 1) (by omega) e3) (by simp) rfl rfl ?_
  by_cases c317 : x4 = (0 : Int32)
  · rw [if_pos c317] at hS
    refine ev_if_eq_t (t := 14) pm129 i129_9 rfl c317 rfl rfl ?_
    refine ev_aload_n pm129 i129_14 rfl rfl rfl ?_
    obtain ⟨x6, e7, hS⟩ := bn_s hS
    refine ev_getR pm129 i129_15 rfl rfl rfl e7 rfl ?_
    refine ev_aload_n pm129 i129_18 rfl rfl rfl ?_
    obtain ⟨x8, e9, hS⟩ := bn_s hS
    refine ev_getR pm129 i129_19 rfl rfl rfl e9 rfl ?_
    obtain ⟨h11, e10, hS⟩ := bn_s hS
    refine ev_callV (sa := [.ref x8]) (rest := []) (st' := []) (ls0 := [.ref x6, .ref x8, unk]) (rv := none) pm129 i129_22 rfl rfl pm127 (by decide) (K_ho_find e10) rfl rfl (Nat.le_of_ble_eq_true rfl) (by omega) rfl (R_ho_find (d - 1) (by omega) e10) (by simp) rfl rfl ?_
    refine ev_aload_n pm129 i129_25 rfl rfl rfl ?_
    refine ev_iconst (v := 1) pm129 i129_26 rfl (by decide) rfl ?_
    refine ev_iload_n pm129 i129_27 rfl rfl rfl ?_
    refine ev_iconst (v := 0) pm129 i129_28 rfl (by decide) rfl ?_
    refine ev_aload_n pm129 i129_29 rfl rfl rfl ?_
    obtain ⟨x12, e13, hS⟩ := bn_s hS
    refine ev_getR pm129 i129_30 rfl rfl rfl e13 rfl ?_
    obtain ⟨x14, e15, hS⟩ := bn_s hS
    refine ev_getI pm129 i129_33 rfl rfl (by decide) e15 rfl ?_
    refine ev_iconst (v := 1) pm129 i129_36 rfl (by decide) rfl ?_
    refine ev_b2 (f := fun x y => x - y) pm129 i129_37 rfl (fun _ _ _ _ => rfl) rfl ?_
    obtain ⟨x17, e16, hS⟩ := bn_s hS
    refine ev_callS (sa := [.int (x14 - (1 : Int32)), .int (0 : Int32), .int a1]) (rest := [.int (1 : Int32), .ref a0]) (st' := [.int x17, .int (1 : Int32), .ref a0]) (ls0 := [.int a1, .int (0 : Int32), .int (x14 - (1 : Int32))]) (rv := some (.int x17)) pm129 i129_38 rfl rfl pm17 (by decide) rfl rfl (Nat.le_of_ble_eq_true rfl) (by omega) rfl (R_cs_outside (d - 1) (by omega) e16) (by simp) rfl rfl ?_
    obtain ⟨x19, h20, e18, hS⟩ := bd_s hS
    refine ev_callV (sa := [.int x17, .int (1 : Int32)]) (rest := []) (st' := [.int x19]) (ls0 := [.ref a0, .int (1 : Int32), .int x17]) (rv := some (.int x19)) pm129 i129_41 rfl rfl pm56 (by decide) (K_cs_refusedBy e18) rfl rfl (Nat.le_of_ble_eq_true rfl) (by omega) rfl (R_cs_refusedBy (d - 1) (by omega) e18) (by simp) rfl rfl ?_
    by_cases c318 : x19 = (0 : Int32)
    · rw [if_pos c318] at hS
      refine ev_if_eq_t (t := 49) pm129 i129_44 rfl c318 rfl rfl ?_
      refine ev_aload_n pm129 i129_49 rfl rfl rfl ?_
      obtain ⟨x21, e22, hS⟩ := bn_s hS
      refine ev_getR pm129 i129_50 rfl rfl rfl e22 rfl ?_
      obtain ⟨x23, e24, hS⟩ := bn_s hS
      refine ev_getR pm129 i129_53 rfl rfl rfl e24 rfl ?_
      refine ev_iload_n pm129 i129_56 rfl rfl rfl ?_
      obtain ⟨x25, e26, hS⟩ := bn_s hS
      refine ev_iald pm129 i129_57 rfl e26 rfl ?_
      cases hS
      exact ev_ireturn pm129 i129_58 rfl rfl rfl
    · rw [if_neg c318] at hS
      refine ev_if_eq_f (t := 49) pm129 i129_44 rfl c318 rfl rfl ?_
      refine ev_iconst (v := -1) pm129 i129_47 rfl (by decide) rfl ?_
      cases hS
      exact ev_ireturn pm129 i129_48 rfl rfl rfl
  · rw [if_neg c317] at hS
    refine ev_if_eq_f (t := 14) pm129 i129_9 rfl c317 rfl rfl ?_
    refine ev_iconst (v := -1) pm129 i129_12 rfl (by decide) rfl ?_
    cases hS
    exact ev_ireturn pm129 i129_13 rfl rfl rfl
def B_ho_inSome_4 (l0 : Nat) (h : Hp) (s : Int32 × Int32) : Option ((Int32 × Int32) ⊕ (Int32)) :=
  bn (gI h l0 2 0) fun x1 =>
  if s.2 < x1 then
    (bn (gR h l0 2 1) fun x3 =>
    bn (aI h 100 x3 s.2) fun x5 =>
    some (.inl (s.1 ||| x5, s.2 + (1 : Int32))))
  else
    (some (.inr s.1))
set_option maxRecDepth 20000 in
theorem L_ho_inSome_4 (d : Nat) (hd : 0 ≤ d) {l0 : Nat} {h : Hp} : ∀ (n : Nat) (s : Int32 × Int32) (x : Int32), lq (B_ho_inSome_4 l0 h) n s = some x → ∀ r, Ev P d 131 (27, [unk, .int x, unk], [], h) r → Ev P d 131 (4, [.ref l0, .int s.1, .int s.2], [], h) r := by
  refine lq_ev (G0 := fun (s : Int32 × Int32) r => Ev P d 131 (4, [.ref l0, .int s.1, .int s.2], [], h) r) (X := fun (x : Int32) r => Ev P d 131 (27, [unk, .int x, unk], [], h) r) ?_
  intro s y hS r hK
  unfold B_ho_inSome_4 at hS
  show Ev P d 131 (4, [.ref l0, .int s.1, .int s.2], [], h) r
  refine ev_iload_n pm131 i131_4 rfl rfl rfl ?_
  refine ev_aload_n pm131 i131_5 rfl rfl rfl ?_
  obtain ⟨x1, e2, hS⟩ := bn_s hS
  refine ev_getI pm131 i131_6 rfl rfl (by decide) e2 rfl ?_
  by_cases c319 : s.2 < x1
  · rw [if_pos c319] at hS
    refine ev_icmp_ge_t (t := 27) pm131 i131_9 rfl c319 rfl rfl ?_
    refine ev_iload_n pm131 i131_12 rfl rfl rfl ?_
    refine ev_aload_n pm131 i131_13 rfl rfl rfl ?_
    obtain ⟨x3, e4, hS⟩ := bn_s hS
    refine ev_getR pm131 i131_14 rfl rfl rfl e4 rfl ?_
    refine ev_iload_n pm131 i131_17 rfl rfl rfl ?_
    obtain ⟨x5, e6, hS⟩ := bn_s hS
    refine ev_iald pm131 i131_18 rfl e6 rfl ?_
    refine ev_b2 (f := fun x y => x ||| y) pm131 i131_19 rfl (fun _ _ _ _ => rfl) rfl ?_
    refine ev_istore_n (ls' := [.ref l0, .int (s.1 ||| x5), .int s.2]) pm131 i131_20 rfl (Nat.le_of_ble_eq_true rfl) rfl rfl ?_
    refine ev_iinc (v := 1) (ls' := [.ref l0, .int (s.1 ||| x5), .int (s.2 + (1 : Int32))]) pm131 i131_21 rfl rfl (by decide) rfl rfl ?_
    refine ev_goto (t := 4) pm131 i131_24 rfl rfl ?_
    cases hS
    exact hK
  · rw [if_neg c319] at hS
    refine ev_icmp_ge_f (t := 27) pm131 i131_9 rfl c319 rfl rfl ?_
    refine ev_kls (ls' := [unk, .int s.1, unk]) pm131 i131_27 rfl rfl ?_
    cases hS
    exact hK
def F_ho_inSome (a0 : Nat) (h : Hp) : Option Int32 :=
  ck h a0 2 (bn (lq (B_ho_inSome_4 a0 h) FU ((0 : Int32), (0 : Int32))) fun x7 =>
  some x7)
set_option maxRecDepth 20000 in
theorem K_ho_inSome {a0 : Nat} {h : Hp} {v : Int32} (hS : F_ho_inSome a0 h = some v) : kd h a0 = 2 := by
  unfold F_ho_inSome at hS
  exact (ck_s hS).1
set_option maxRecDepth 20000 in
theorem R_ho_inSome (d : Nat) (hd : 0 ≤ d) {a0 : Nat} {h : Hp} {v : Int32} (hS : F_ho_inSome a0 h = some v) : Ev P d 131 (0, [.ref a0, unk, unk], [], h) (some (.int v), h) := by
  unfold F_ho_inSome at hS
  replace hS := (ck_s hS).2
  refine ev_iconst (v := 0) pm131 i131_0 rfl (by decide) rfl ?_
  refine ev_istore_n (ls' := [.ref a0, .int (0 : Int32), unk]) pm131 i131_1 rfl (Nat.le_of_ble_eq_true rfl) rfl rfl ?_
  refine ev_iconst (v := 0) pm131 i131_2 rfl (by decide) rfl ?_
  refine ev_istore_n (ls' := [.ref a0, .int (0 : Int32), .int (0 : Int32)]) pm131 i131_3 rfl (Nat.le_of_ble_eq_true rfl) rfl rfl ?_
  obtain ⟨x7, e8, hS⟩ := bn_s hS
  refine L_ho_inSome_4 d (by omega) _ _ _ e8 _ ?_
  show Ev P d 131 (27, [unk, .int x7, unk], [], h) _
  refine ev_iload_n pm131 i131_27 rfl rfl rfl ?_
  cases hS
  exact ev_ireturn pm131 i131_28 rfl rfl rfl
def F_cs_could (a0 : Nat) (h : Hp) : Option (Int32 × Hp) :=
  ck h a0 11 (bn (F_cs_noLake a0 h) fun x2 =>
  bd (F_cs_refused a0 x2 (0 : Int32) h) fun x4 h5 =>
  if x4 = (0 : Int32) then
    (bn (gR h5 a0 11 9) fun x6 =>
    bn (gR h5 a0 11 3) fun x8 =>
    bn (F_ho_find x6 x8 h5) fun h11 =>
    bn (gR h11 a0 11 9) fun x12 =>
    bn (F_ho_inSome x12 h11) fun x15 =>
    some (x15, h11))
  else
    (some ((-1 : Int32), h5)))
set_option maxRecDepth 20000 in
theorem K_cs_could {a0 : Nat} {h : Hp} {v : Int32} {h' : Hp} (hS : F_cs_could a0 h = some (v, h')) : kd h a0 = 11 := by
  unfold F_cs_could at hS
  exact (ck_s hS).1
set_option maxRecDepth 20000 in
theorem R_cs_could (d : Nat) (hd : 6 ≤ d) {a0 : Nat} {h : Hp} {v : Int32} {h' : Hp} (hS : F_cs_could a0 h = some (v, h')) : Ev P d 130 (0, [.ref a0], [], h) (some (.int v), h') := by
  unfold F_cs_could at hS
  replace hS := (ck_s hS).2
  refine ev_aload_n pm130 i130_0 rfl rfl rfl ?_
  refine ev_aload_n pm130 i130_1 rfl rfl rfl ?_
  obtain ⟨x2, e1, hS⟩ := bn_s hS
  refine ev_callV (sa := []) (rest := [.ref a0]) (st' := [.int x2, .ref a0]) (ls0 := [.ref a0]) (rv := some (.int x2)) pm130 i130_2 rfl rfl pm86 (by decide) (K_cs_noLake e1) rfl rfl (Nat.le_of_ble_eq_true rfl) (by omega) rfl (R_cs_noLake (d - 1) (by omega) e1) (by simp) rfl rfl ?_
  refine ev_iconst (v := 0) pm130 i130_5 rfl (by decide) rfl ?_
  obtain ⟨x4, h5, e3, hS⟩ := bd_s hS
  refine ev_callV (sa := [.int (0 : Int32), .int x2]) (rest := []) (st' := [.int x4]) (ls0 := [.ref a0, .int x2, .int (0 : Int32)]) (rv := some (.int x4)) pm130 i130_6 rfl rfl pm18 (by decide) (K_cs_refused e3) rfl rfl (Nat.le_of_ble_eq_true rfl) (by omega) rfl (R_cs_refused (d - 1) (by omega) e3) (by simp) rfl rfl ?_
  by_cases c320 : x4 = (0 : Int32)
  · rw [if_pos c320] at hS
    refine ev_if_eq_t (t := 14) pm130 i130_9 rfl c320 rfl rfl ?_
    refine ev_aload_n pm130 i130_14 rfl rfl rfl ?_
    obtain ⟨x6, e7, hS⟩ := bn_s hS
    refine ev_getR pm130 i130_15 rfl rfl rfl e7 rfl ?_
    refine ev_aload_n pm130 i130_18 rfl rfl rfl ?_
    obtain ⟨x8, e9, hS⟩ := bn_s hS
    refine ev_getR pm130 i130_19 rfl rfl rfl e9 rfl ?_
    obtain ⟨h11, e10, hS⟩ := bn_s hS
    refine ev_callV (sa := [.ref x8]) (rest := []) (st' := []) (ls0 := [.ref x6, .ref x8, unk]) (rv := none) pm130 i130_22 rfl rfl pm127 (by decide) (K_ho_find e10) rfl rfl (Nat.le_of_ble_eq_true rfl) (by omega) rfl (R_ho_find (d - 1) (by omega) e10) (by simp) rfl rfl ?_
    refine ev_aload_n pm130 i130_25 rfl rfl rfl ?_
    obtain ⟨x12, e13, hS⟩ := bn_s hS
    refine ev_getR pm130 i130_26 rfl rfl rfl e13 rfl ?_
    obtain ⟨x15, e14, hS⟩ := bn_s hS
    refine ev_callV (sa := []) (rest := []) (st' := [.int x15]) (ls0 := [.ref x12, unk, unk]) (rv := some (.int x15)) pm130 i130_29 rfl rfl pm131 (by decide) (K_ho_inSome e14) rfl rfl (Nat.le_of_ble_eq_true rfl) (by omega) rfl (R_ho_inSome (d - 1) (by omega) e14) (by simp) rfl rfl ?_
    cases hS
    exact ev_ireturn pm130 i130_32 rfl rfl rfl
  · rw [if_neg c320] at hS
    refine ev_if_eq_f (t := 14) pm130 i130_9 rfl c320 rfl rfl ?_
    refine ev_iconst (v := -1) pm130 i130_12 rfl (by decide) rfl ?_
    cases hS
    exact ev_ireturn pm130 i130_13 rfl rfl rfl
def B_ho_inAll_20 (l0 : Nat) (h : Hp) (s : Int32 × Int32) : Option ((Int32 × Int32) ⊕ (Int32)) :=
  bn (gI h l0 2 0) fun x8 =>
  if s.2 < x8 then
    (bn (gR h l0 2 1) fun x10 =>
    bn (aI h 100 x10 s.2) fun x12 =>
    some (.inl (s.1 &&& x12, s.2 + (1 : Int32))))
  else
    (some (.inr s.1))
set_option maxRecDepth 20000 in
theorem L_ho_inAll_20 (d : Nat) (hd : 0 ≤ d) {l0 : Nat} {h : Hp} : ∀ (n : Nat) (s : Int32 × Int32) (x : Int32), lq (B_ho_inAll_20 l0 h) n s = some x → ∀ r, Ev P d 133 (43, [unk, .int x, unk], [], h) r → Ev P d 133 (20, [.ref l0, .int s.1, .int s.2], [], h) r := by
  refine lq_ev (G0 := fun (s : Int32 × Int32) r => Ev P d 133 (20, [.ref l0, .int s.1, .int s.2], [], h) r) (X := fun (x : Int32) r => Ev P d 133 (43, [unk, .int x, unk], [], h) r) ?_
  intro s y hS r hK
  unfold B_ho_inAll_20 at hS
  show Ev P d 133 (20, [.ref l0, .int s.1, .int s.2], [], h) r
  refine ev_iload_n pm133 i133_20 rfl rfl rfl ?_
  refine ev_aload_n pm133 i133_21 rfl rfl rfl ?_
  obtain ⟨x8, e9, hS⟩ := bn_s hS
  refine ev_getI pm133 i133_22 rfl rfl (by decide) e9 rfl ?_
  by_cases c321 : s.2 < x8
  · rw [if_pos c321] at hS
    refine ev_icmp_ge_t (t := 43) pm133 i133_25 rfl c321 rfl rfl ?_
    refine ev_iload_n pm133 i133_28 rfl rfl rfl ?_
    refine ev_aload_n pm133 i133_29 rfl rfl rfl ?_
    obtain ⟨x10, e11, hS⟩ := bn_s hS
    refine ev_getR pm133 i133_30 rfl rfl rfl e11 rfl ?_
    refine ev_iload_n pm133 i133_33 rfl rfl rfl ?_
    obtain ⟨x12, e13, hS⟩ := bn_s hS
    refine ev_iald pm133 i133_34 rfl e13 rfl ?_
    refine ev_b2 (f := fun x y => x &&& y) pm133 i133_35 rfl (fun _ _ _ _ => rfl) rfl ?_
    refine ev_istore_n (ls' := [.ref l0, .int (s.1 &&& x12), .int s.2]) pm133 i133_36 rfl (Nat.le_of_ble_eq_true rfl) rfl rfl ?_
    refine ev_iinc (v := 1) (ls' := [.ref l0, .int (s.1 &&& x12), .int (s.2 + (1 : Int32))]) pm133 i133_37 rfl rfl (by decide) rfl rfl ?_
    refine ev_goto (t := 20) pm133 i133_40 rfl rfl ?_
    cases hS
    exact hK
  · rw [if_neg c321] at hS
    refine ev_icmp_ge_f (t := 43) pm133 i133_25 rfl c321 rfl rfl ?_
    refine ev_kls (ls' := [unk, .int s.1, unk]) pm133 i133_43 rfl rfl ?_
    cases hS
    exact hK
def F_ho_inAll (a0 : Nat) (h : Hp) : Option Int32 :=
  ck h a0 2 (bn (gI h a0 2 0) fun x1 =>
  bn (if (0 : Int32) < x1 then
      (bn (gR h a0 2 1) fun x3 =>
      bn (aI h 100 x3 (0 : Int32)) fun x5 =>
      some x5)
    else
      (some (0 : Int32))) fun q7 =>
  bn (lq (B_ho_inAll_20 a0 h) FU (q7, (1 : Int32))) fun x14 =>
  some x14)
set_option maxRecDepth 20000 in
theorem K_ho_inAll {a0 : Nat} {h : Hp} {v : Int32} (hS : F_ho_inAll a0 h = some v) : kd h a0 = 2 := by
  unfold F_ho_inAll at hS
  exact (ck_s hS).1
set_option maxRecDepth 20000 in
theorem R_ho_inAll (d : Nat) (hd : 0 ≤ d) {a0 : Nat} {h : Hp} {v : Int32} (hS : F_ho_inAll a0 h = some v) : Ev P d 133 (0, [.ref a0, unk, unk], [], h) (some (.int v), h) := by
  unfold F_ho_inAll at hS
  replace hS := (ck_s hS).2
  refine ev_aload_n pm133 i133_0 rfl rfl rfl ?_
  obtain ⟨x1, e2, hS⟩ := bn_s hS
  refine ev_getI pm133 i133_1 rfl rfl (by decide) e2 rfl ?_
  obtain ⟨q7, I322, hS⟩ := bn_s hS
  have J1 : Ev P d 133 (17, [.ref a0, unk, unk], [.int q7], h) (some (.int v), h) := by
    refine ev_istore_n (ls' := [.ref a0, .int q7, unk]) pm133 i133_17 rfl (Nat.le_of_ble_eq_true rfl) rfl rfl ?_
    refine ev_iconst (v := 1) pm133 i133_18 rfl (by decide) rfl ?_
    refine ev_istore_n (ls' := [.ref a0, .int q7, .int (1 : Int32)]) pm133 i133_19 rfl (Nat.le_of_ble_eq_true rfl) rfl rfl ?_
    obtain ⟨x14, e15, hS⟩ := bn_s hS
    refine L_ho_inAll_20 d (by omega) _ _ _ e15 _ ?_
    show Ev P d 133 (43, [unk, .int x14, unk], [], h) _
    refine ev_iload_n pm133 i133_43 rfl rfl rfl ?_
    cases hS
    exact ev_ireturn pm133 i133_44 rfl rfl rfl
  clear hS
  by_cases c322 : (0 : Int32) < x1
  · rw [if_pos c322] at I322
    refine ev_if_le_t (t := 16) pm133 i133_4 rfl c322 rfl rfl ?_
    refine ev_aload_n pm133 i133_7 rfl rfl rfl ?_
    obtain ⟨x3, e4, I322⟩ := bn_s I322
    refine ev_getR pm133 i133_8 rfl rfl rfl e4 rfl ?_
    refine ev_iconst (v := 0) pm133 i133_11 rfl (by decide) rfl ?_
    obtain ⟨x5, e6, I322⟩ := bn_s I322
    refine ev_iald pm133 i133_12 rfl e6 rfl ?_
    refine ev_goto (t := 17) pm133 i133_13 rfl rfl ?_
    cases I322
    exact J1
  · rw [if_neg c322] at I322
    refine ev_if_le_f (t := 16) pm133 i133_4 rfl c322 rfl rfl ?_
    refine ev_iconst (v := 0) pm133 i133_16 rfl (by decide) rfl ?_
    cases I322
    exact J1
def F_cs_surely (a0 : Nat) (h : Hp) : Option (Int32 × Hp) :=
  ck h a0 11 (bn (F_cs_noLake a0 h) fun x2 =>
  bd (F_cs_refused a0 x2 (0 : Int32) h) fun x4 h5 =>
  if x4 = (0 : Int32) then
    (bn (gR h5 a0 11 9) fun x6 =>
    bn (gR h5 a0 11 3) fun x8 =>
    bn (F_ho_find x6 x8 h5) fun h11 =>
    bn (gR h11 a0 11 9) fun x12 =>
    bn (F_ho_inAll x12 h11) fun x15 =>
    some (x15, h11))
  else
    (some ((-1 : Int32), h5)))
set_option maxRecDepth 20000 in
theorem K_cs_surely {a0 : Nat} {h : Hp} {v : Int32} {h' : Hp} (hS : F_cs_surely a0 h = some (v, h')) : kd h a0 = 11 := by
  unfold F_cs_surely at hS
  exact (ck_s hS).1
set_option maxRecDepth 20000 in
theorem R_cs_surely (d : Nat) (hd : 6 ≤ d) {a0 : Nat} {h : Hp} {v : Int32} {h' : Hp} (hS : F_cs_surely a0 h = some (v, h')) : Ev P d 132 (0, [.ref a0], [], h) (some (.int v), h') := by
  unfold F_cs_surely at hS
  replace hS := (ck_s hS).2
  refine ev_aload_n pm132 i132_0 rfl rfl rfl ?_
  refine ev_aload_n pm132 i132_1 rfl rfl rfl ?_
  obtain ⟨x2, e1, hS⟩ := bn_s hS
  refine ev_callV (sa := []) (rest := [.ref a0]) (st' := [.int x2, .ref a0]) (ls0 := [.ref a0]) (rv := some (.int x2)) pm132 i132_2 rfl rfl pm86 (by decide) (K_cs_noLake e1) rfl rfl (Nat.le_of_ble_eq_true rfl) (by omega) rfl (R_cs_noLake (d - 1) (by omega) e1) (by simp) rfl rfl ?_
  refine ev_iconst (v := 0) pm132 i132_5 rfl (by decide) rfl ?_
  obtain ⟨x4, h5, e3, hS⟩ := bd_s hS
  refine ev_callV (sa := [.int (0 : Int32), .int x2]) (rest := []) (st' := [.int x4]) (ls0 := [.ref a0, .int x2, .int (0 : Int32)]) (rv := some (.int x4)) pm132 i132_6 rfl rfl pm18 (by decide) (K_cs_refused e3) rfl rfl (Nat.le_of_ble_eq_true rfl) (by omega) rfl (R_cs_refused (d - 1) (by omega) e3) (by simp) rfl rfl ?_
  by_cases c323 : x4 = (0 : Int32)
  · rw [if_pos c323] at hS
    refine ev_if_eq_t (t := 14) pm132 i132_9 rfl c323 rfl rfl ?_
    refine ev_aload_n pm132 i132_14 rfl rfl rfl ?_
    obtain ⟨x6, e7, hS⟩ := bn_s hS
    refine ev_getR pm132 i132_15 rfl rfl rfl e7 rfl ?_
    refine ev_aload_n pm132 i132_18 rfl rfl rfl ?_
    obtain ⟨x8, e9, hS⟩ := bn_s hS
    refine ev_getR pm132 i132_19 rfl rfl rfl e9 rfl ?_
    obtain ⟨h11, e10, hS⟩ := bn_s hS
    refine ev_callV (sa := [.ref x8]) (rest := []) (st' := []) (ls0 := [.ref x6, .ref x8, unk]) (rv := none) pm132 i132_22 rfl rfl pm127 (by decide) (K_ho_find e10) rfl rfl (Nat.le_of_ble_eq_true rfl) (by omega) rfl (R_ho_find (d - 1) (by omega) e10) (by simp) rfl rfl ?_
    refine ev_aload_n pm132 i132_25 rfl rfl rfl ?_
    obtain ⟨x12, e13, hS⟩ := bn_s hS
    refine ev_getR pm132 i132_26 rfl rfl rfl e13 rfl ?_
    obtain ⟨x15, e14, hS⟩ := bn_s hS
    refine ev_callV (sa := []) (rest := []) (st' := [.int x15]) (ls0 := [.ref x12, unk, unk]) (rv := some (.int x15)) pm132 i132_29 rfl rfl pm133 (by decide) (K_ho_inAll e14) rfl rfl (Nat.le_of_ble_eq_true rfl) (by omega) rfl (R_ho_inAll (d - 1) (by omega) e14) (by simp) rfl rfl ?_
    cases hS
    exact ev_ireturn pm132 i132_32 rfl rfl rfl
  · rw [if_neg c323] at hS
    refine ev_if_eq_f (t := 14) pm132 i132_9 rfl c323 rfl rfl ?_
    refine ev_iconst (v := -1) pm132 i132_12 rfl (by decide) rfl ?_
    cases hS
    exact ev_ireturn pm132 i132_13 rfl rfl rfl
def B_ho_leftBy_4 (l0 : Nat) (l1 : Int32) (h : Hp) (s : Int32 × Int32) : Option ((Int32 × Int32) ⊕ (Int32)) :=
  bn (gI h l0 2 0) fun x1 =>
  if s.2 < x1 then
    (bn (gR h l0 2 1) fun x3 =>
    bn (aI h 100 x3 s.2) fun x5 =>
    some (.inl (s.1 + ((x5 >>> (l1 &&& 31)) &&& (1 : Int32)), s.2 + (1 : Int32))))
  else
    (some (.inr s.1))
set_option maxRecDepth 20000 in
theorem L_ho_leftBy_4 (d : Nat) (hd : 1 ≤ d) {l0 : Nat} {l1 : Int32} {h : Hp} : ∀ (n : Nat) (s : Int32 × Int32) (x : Int32), lq (B_ho_leftBy_4 l0 l1 h) n s = some x → ∀ r, Ev P d 136 (31, [.ref l0, unk, .int x, unk], [], h) r → Ev P d 136 (4, [.ref l0, .int l1, .int s.1, .int s.2], [], h) r := by
  refine lq_ev (G0 := fun (s : Int32 × Int32) r => Ev P d 136 (4, [.ref l0, .int l1, .int s.1, .int s.2], [], h) r) (X := fun (x : Int32) r => Ev P d 136 (31, [.ref l0, unk, .int x, unk], [], h) r) ?_
  intro s y hS r hK
  unfold B_ho_leftBy_4 at hS
  show Ev P d 136 (4, [.ref l0, .int l1, .int s.1, .int s.2], [], h) r
  refine ev_iload_n pm136 i136_4 rfl rfl rfl ?_
  refine ev_aload_n pm136 i136_5 rfl rfl rfl ?_
  obtain ⟨x1, e2, hS⟩ := bn_s hS
  refine ev_getI pm136 i136_6 rfl rfl (by decide) e2 rfl ?_
  by_cases c324 : s.2 < x1
  · rw [if_pos c324] at hS
    refine ev_icmp_ge_t (t := 31) pm136 i136_9 rfl c324 rfl rfl ?_
    refine ev_iload_n pm136 i136_12 rfl rfl rfl ?_
    refine ev_aload_n pm136 i136_13 rfl rfl rfl ?_
    obtain ⟨x3, e4, hS⟩ := bn_s hS
    refine ev_getR pm136 i136_14 rfl rfl rfl e4 rfl ?_
    refine ev_iload_n pm136 i136_17 rfl rfl rfl ?_
    obtain ⟨x5, e6, hS⟩ := bn_s hS
    refine ev_iald pm136 i136_18 rfl e6 rfl ?_
    refine ev_iload_n pm136 i136_19 rfl rfl rfl ?_
    refine ev_b2 (f := fun x y => x >>> (y &&& 31)) pm136 i136_20 rfl (fun _ _ _ _ => rfl) rfl ?_
    refine ev_iconst (v := 1) pm136 i136_21 rfl (by decide) rfl ?_
    refine ev_b2 (f := fun x y => x &&& y) pm136 i136_22 rfl (fun _ _ _ _ => rfl) rfl ?_
    refine ev_b2 (f := fun x y => x + y) pm136 i136_23 rfl (fun _ _ _ _ => rfl) rfl ?_
    refine ev_istore_n (ls' := [.ref l0, .int l1, .int (s.1 + ((x5 >>> (l1 &&& 31)) &&& (1 : Int32))), .int s.2]) pm136 i136_24 rfl (Nat.le_of_ble_eq_true rfl) rfl rfl ?_
    refine ev_iinc (v := 1) (ls' := [.ref l0, .int l1, .int (s.1 + ((x5 >>> (l1 &&& 31)) &&& (1 : Int32))), .int (s.2 + (1 : Int32))]) pm136 i136_25 rfl rfl (by decide) rfl rfl ?_
    refine ev_goto (t := 4) pm136 i136_28 rfl rfl ?_
    cases hS
    exact hK
  · rw [if_neg c324] at hS
    refine ev_icmp_ge_f (t := 31) pm136 i136_9 rfl c324 rfl rfl ?_
    refine ev_kls (ls' := [.ref l0, unk, .int s.1, unk]) pm136 i136_31 rfl rfl ?_
    cases hS
    exact hK
def F_ho_leftBy (a0 : Nat) (a1 : Int32) (h : Hp) : Option Int32 :=
  ck h a0 2 (bn (lq (B_ho_leftBy_4 a0 a1 h) FU ((0 : Int32), (0 : Int32))) fun x7 =>
  bn (gI h a0 2 0) fun x9 =>
  bn (F_ma_max x7 (x9 - x7)) fun x12 =>
  some x12)
set_option maxRecDepth 20000 in
theorem K_ho_leftBy {a0 : Nat} {a1 : Int32} {h : Hp} {v : Int32} (hS : F_ho_leftBy a0 a1 h = some v) : kd h a0 = 2 := by
  unfold F_ho_leftBy at hS
  exact (ck_s hS).1
set_option maxRecDepth 20000 in
theorem R_ho_leftBy (d : Nat) (hd : 1 ≤ d) {a0 : Nat} {a1 : Int32} {h : Hp} {v : Int32} (hS : F_ho_leftBy a0 a1 h = some v) : Ev P d 136 (0, [.ref a0, .int a1, unk, unk], [], h) (some (.int v), h) := by
  unfold F_ho_leftBy at hS
  replace hS := (ck_s hS).2
  refine ev_iconst (v := 0) pm136 i136_0 rfl (by decide) rfl ?_
  refine ev_istore_n (ls' := [.ref a0, .int a1, .int (0 : Int32), unk]) pm136 i136_1 rfl (Nat.le_of_ble_eq_true rfl) rfl rfl ?_
  refine ev_iconst (v := 0) pm136 i136_2 rfl (by decide) rfl ?_
  refine ev_istore_n (ls' := [.ref a0, .int a1, .int (0 : Int32), .int (0 : Int32)]) pm136 i136_3 rfl (Nat.le_of_ble_eq_true rfl) rfl rfl ?_
  obtain ⟨x7, e8, hS⟩ := bn_s hS
  refine L_ho_leftBy_4 d (by omega) _ _ _ e8 _ ?_
  show Ev P d 136 (31, [.ref a0, unk, .int x7, unk], [], h) _
  refine ev_iload_n pm136 i136_31 rfl rfl rfl ?_
  refine ev_aload_n pm136 i136_32 rfl rfl rfl ?_
  obtain ⟨x9, e10, hS⟩ := bn_s hS
  refine ev_getI pm136 i136_33 rfl rfl (by decide) e10 rfl ?_
  refine ev_iload_n pm136 i136_36 rfl rfl rfl ?_
  refine ev_b2 (f := fun x y => x - y) pm136 i136_37 rfl (fun _ _ _ _ => rfl) rfl ?_
  obtain ⟨x12, e11, hS⟩ := bn_s hS
  refine ev_callS (sa := [.int (x9 - x7), .int x7]) (rest := []) (st' := [.int x12]) (ls0 := [.int x7, .int (x9 - x7)]) (rv := some (.int x12)) pm136 i136_38 rfl rfl pm47 (by decide) rfl rfl (Nat.le_of_ble_eq_true rfl) (by omega) rfl (R_ma_max (d - 1) (by omega) e11) (by simp) rfl rfl ?_
  cases hS
  exact ev_ireturn pm136 i136_41 rfl rfl rfl
def B_ho_whomToAsk_18 (l0 : Nat) (l1 : Int32) (h : Hp) (s : Int32 × Int32) : Option ((Int32 × Int32) ⊕ (Int32)) :=
  if s.2 < l1 then
    (bn (F_ho_leftBy l0 s.2 h) fun x4 =>
    bn (F_ho_leftBy l0 s.1 h) fun x6 =>
    if x4 < x6 then
      (some (.inl (s.2, s.2 + (1 : Int32))))
    else
      (some (.inl (s.1, s.2 + (1 : Int32)))))
  else
    (some (.inr s.1))
set_option maxRecDepth 20000 in
theorem L_ho_whomToAsk_18 (d : Nat) (hd : 2 ≤ d) {l0 : Nat} {l1 : Int32} {h : Hp} : ∀ (n : Nat) (s : Int32 × Int32) (x : Int32), lq (B_ho_whomToAsk_18 l0 l1 h) n s = some x → ∀ r, Ev P d 135 (44, [unk, unk, .int x, unk], [], h) r → Ev P d 135 (18, [.ref l0, .int l1, .int s.1, .int s.2], [], h) r := by
  refine lq_ev (G0 := fun (s : Int32 × Int32) r => Ev P d 135 (18, [.ref l0, .int l1, .int s.1, .int s.2], [], h) r) (X := fun (x : Int32) r => Ev P d 135 (44, [unk, unk, .int x, unk], [], h) r) ?_
  intro s y hS r hK
  unfold B_ho_whomToAsk_18 at hS
  show Ev P d 135 (18, [.ref l0, .int l1, .int s.1, .int s.2], [], h) r
  refine ev_iload_n pm135 i135_18 rfl rfl rfl ?_
  refine ev_iload_n pm135 i135_19 rfl rfl rfl ?_
  by_cases c325 : s.2 < l1
  · rw [if_pos c325] at hS
    refine ev_icmp_ge_t (t := 44) pm135 i135_20 rfl c325 rfl rfl ?_
    refine ev_aload_n pm135 i135_23 rfl rfl rfl ?_
    refine ev_iload_n pm135 i135_24 rfl rfl rfl ?_
    obtain ⟨x4, e3, hS⟩ := bn_s hS
    refine ev_callV (sa := [.int s.2]) (rest := []) (st' := [.int x4]) (ls0 := [.ref l0, .int s.2, unk, unk]) (rv := some (.int x4)) pm135 i135_25 rfl rfl pm136 (by decide) (K_ho_leftBy e3) rfl rfl (Nat.le_of_ble_eq_true rfl) (by omega) rfl (R_ho_leftBy (d - 1) (by omega) e3) (by simp) rfl rfl ?_
    refine ev_aload_n pm135 i135_28 rfl rfl rfl ?_
    refine ev_iload_n pm135 i135_29 rfl rfl rfl ?_
    obtain ⟨x6, e5, hS⟩ := bn_s hS
    refine ev_callV (sa := [.int s.1]) (rest := [.int x4]) (st' := [.int x6, .int x4]) (ls0 := [.ref l0, .int s.1, unk, unk]) (rv := some (.int x6)) pm135 i135_30 rfl rfl pm136 (by decide) (K_ho_leftBy e5) rfl rfl (Nat.le_of_ble_eq_true rfl) (by omega) rfl (R_ho_leftBy (d - 1) (by omega) e5) (by simp) rfl rfl ?_
    by_cases c326 : x4 < x6
    · rw [if_pos c326] at hS
      refine ev_icmp_ge_t (t := 38) pm135 i135_33 rfl c326 rfl rfl ?_
      refine ev_iload_n pm135 i135_36 rfl rfl rfl ?_
      refine ev_istore_n (ls' := [.ref l0, .int l1, .int s.2, .int s.2]) pm135 i135_37 rfl (Nat.le_of_ble_eq_true rfl) rfl rfl ?_
      refine ev_iinc (v := 1) (ls' := [.ref l0, .int l1, .int s.2, .int (s.2 + (1 : Int32))]) pm135 i135_38 rfl rfl (by decide) rfl rfl ?_
      refine ev_goto (t := 18) pm135 i135_41 rfl rfl ?_
      cases hS
      exact hK
    · rw [if_neg c326] at hS
      refine ev_icmp_ge_f (t := 38) pm135 i135_33 rfl c326 rfl rfl ?_
      refine ev_iinc (v := 1) (ls' := [.ref l0, .int l1, .int s.1, .int (s.2 + (1 : Int32))]) pm135 i135_38 rfl rfl (by decide) rfl rfl ?_
      refine ev_goto (t := 18) pm135 i135_41 rfl rfl ?_
      cases hS
      exact hK
  · rw [if_neg c325] at hS
    refine ev_icmp_ge_f (t := 44) pm135 i135_20 rfl c325 rfl rfl ?_
    refine ev_kls (ls' := [unk, unk, .int s.1, unk]) pm135 i135_44 rfl rfl ?_
    cases hS
    exact hK
def F_ho_whomToAsk (a0 : Nat) (a1 : Int32) (h : Hp) : Option Int32 :=
  ck h a0 2 (bn (gI h a0 2 0) fun x1 =>
  if x1 = (0 : Int32) then
    (some (-2 : Int32))
  else
    (if a1 = (0 : Int32) then
      (some (-2 : Int32))
    else
      (bn (lq (B_ho_whomToAsk_18 a0 a1 h) FU ((0 : Int32), (1 : Int32))) fun x7 =>
      some x7)))
set_option maxRecDepth 20000 in
theorem K_ho_whomToAsk {a0 : Nat} {a1 : Int32} {h : Hp} {v : Int32} (hS : F_ho_whomToAsk a0 a1 h = some v) : kd h a0 = 2 := by
  unfold F_ho_whomToAsk at hS
  exact (ck_s hS).1
set_option maxRecDepth 20000 in
theorem R_ho_whomToAsk (d : Nat) (hd : 2 ≤ d) {a0 : Nat} {a1 : Int32} {h : Hp} {v : Int32} (hS : F_ho_whomToAsk a0 a1 h = some v) : Ev P d 135 (0, [.ref a0, .int a1, unk, unk], [], h) (some (.int v), h) := by
  unfold F_ho_whomToAsk at hS
  replace hS := (ck_s hS).2
  refine ev_aload_n pm135 i135_0 rfl rfl rfl ?_
  obtain ⟨x1, e2, hS⟩ := bn_s hS
  refine ev_getI pm135 i135_1 rfl rfl (by decide) e2 rfl ?_
  by_cases c327 : x1 = (0 : Int32)
  · rw [if_pos c327] at hS
    refine ev_if_eq_t (t := 11) pm135 i135_4 rfl c327 rfl rfl ?_
    refine ev_kls (ls' := [unk, unk, unk, unk]) pm135 i135_11 rfl rfl ?_
    refine ev_bipush (v := -2) pm135 i135_11 rfl (by decide) rfl ?_
    cases hS
    exact ev_ireturn pm135 i135_13 rfl rfl rfl
  · rw [if_neg c327] at hS
    refine ev_if_eq_f (t := 11) pm135 i135_4 rfl c327 rfl rfl ?_
    refine ev_iload_n pm135 i135_7 rfl rfl rfl ?_
    by_cases c328 : a1 = (0 : Int32)
    · rw [if_pos c328] at hS
      refine ev_if_ne_t (t := 14) pm135 i135_8 rfl c328 rfl rfl ?_
      refine ev_kls (ls' := [unk, unk, unk, unk]) pm135 i135_11 rfl rfl ?_
      refine ev_bipush (v := -2) pm135 i135_11 rfl (by decide) rfl ?_
      cases hS
      exact ev_ireturn pm135 i135_13 rfl rfl rfl
    · rw [if_neg c328] at hS
      refine ev_if_ne_f (t := 14) pm135 i135_8 rfl c328 rfl rfl ?_
      refine ev_iconst (v := 0) pm135 i135_14 rfl (by decide) rfl ?_
      refine ev_istore_n (ls' := [.ref a0, .int a1, .int (0 : Int32), unk]) pm135 i135_15 rfl (Nat.le_of_ble_eq_true rfl) rfl rfl ?_
      refine ev_iconst (v := 1) pm135 i135_16 rfl (by decide) rfl ?_
      refine ev_istore_n (ls' := [.ref a0, .int a1, .int (0 : Int32), .int (1 : Int32)]) pm135 i135_17 rfl (Nat.le_of_ble_eq_true rfl) rfl rfl ?_
      obtain ⟨x7, e8, hS⟩ := bn_s hS
      refine L_ho_whomToAsk_18 d (by omega) _ _ _ e8 _ ?_
      show Ev P d 135 (44, [unk, unk, .int x7, unk], [], h) _
      refine ev_iload_n pm135 i135_44 rfl rfl rfl ?_
      cases hS
      exact ev_ireturn pm135 i135_45 rfl rfl rfl
def F_cs_ask (a0 : Nat) (h : Hp) : Option (Int32 × Hp) :=
  ck h a0 11 (bn (F_cs_noLake a0 h) fun x2 =>
  bd (F_cs_refused a0 x2 (0 : Int32) h) fun x4 h5 =>
  if x4 = (0 : Int32) then
    (bn (gR h5 a0 11 9) fun x6 =>
    bn (gR h5 a0 11 3) fun x8 =>
    bn (F_ho_find x6 x8 h5) fun h11 =>
    bn (gR h11 a0 11 9) fun x12 =>
    bn (gR h11 a0 11 3) fun x14 =>
    bn (gI h11 x14 10 11) fun x16 =>
    bn (F_ho_whomToAsk x12 x16 h11) fun x19 =>
    some (x19, h11))
  else
    (some ((-1 : Int32), h5)))
set_option maxRecDepth 20000 in
theorem K_cs_ask {a0 : Nat} {h : Hp} {v : Int32} {h' : Hp} (hS : F_cs_ask a0 h = some (v, h')) : kd h a0 = 11 := by
  unfold F_cs_ask at hS
  exact (ck_s hS).1
set_option maxRecDepth 20000 in
theorem R_cs_ask (d : Nat) (hd : 6 ≤ d) {a0 : Nat} {h : Hp} {v : Int32} {h' : Hp} (hS : F_cs_ask a0 h = some (v, h')) : Ev P d 134 (0, [.ref a0], [], h) (some (.int v), h') := by
  unfold F_cs_ask at hS
  replace hS := (ck_s hS).2
  refine ev_aload_n pm134 i134_0 rfl rfl rfl ?_
  refine ev_aload_n pm134 i134_1 rfl rfl rfl ?_
  obtain ⟨x2, e1, hS⟩ := bn_s hS
  refine ev_callV (sa := []) (rest := [.ref a0]) (st' := [.int x2, .ref a0]) (ls0 := [.ref a0]) (rv := some (.int x2)) pm134 i134_2 rfl rfl pm86 (by decide) (K_cs_noLake e1) rfl rfl (Nat.le_of_ble_eq_true rfl) (by omega) rfl (R_cs_noLake (d - 1) (by omega) e1) (by simp) rfl rfl ?_
  refine ev_iconst (v := 0) pm134 i134_5 rfl (by decide) rfl ?_
  obtain ⟨x4, h5, e3, hS⟩ := bd_s hS
  refine ev_callV (sa := [.int (0 : Int32), .int x2]) (rest := []) (st' := [.int x4]) (ls0 := [.ref a0, .int x2, .int (0 : Int32)]) (rv := some (.int x4)) pm134 i134_6 rfl rfl pm18 (by decide) (K_cs_refused e3) rfl rfl (Nat.le_of_ble_eq_true rfl) (by omega) rfl (R_cs_refused (d - 1) (by omega) e3) (by simp) rfl rfl ?_
  by_cases c329 : x4 = (0 : Int32)
  · rw [if_pos c329] at hS
    refine ev_if_eq_t (t := 14) pm134 i134_9 rfl c329 rfl rfl ?_
    refine ev_aload_n pm134 i134_14 rfl rfl rfl ?_
    obtain ⟨x6, e7, hS⟩ := bn_s hS
    refine ev_getR pm134 i134_15 rfl rfl rfl e7 rfl ?_
    refine ev_aload_n pm134 i134_18 rfl rfl rfl ?_
    obtain ⟨x8, e9, hS⟩ := bn_s hS
    refine ev_getR pm134 i134_19 rfl rfl rfl e9 rfl ?_
    obtain ⟨h11, e10, hS⟩ := bn_s hS
    refine ev_callV (sa := [.ref x8]) (rest := []) (st' := []) (ls0 := [.ref x6, .ref x8, unk]) (rv := none) pm134 i134_22 rfl rfl pm127 (by decide) (K_ho_find e10) rfl rfl (Nat.le_of_ble_eq_true rfl) (by omega) rfl (R_ho_find (d - 1) (by omega) e10) (by simp) rfl rfl ?_
    refine ev_aload_n pm134 i134_25 rfl rfl rfl ?_
    obtain ⟨x12, e13, hS⟩ := bn_s hS
    refine ev_getR pm134 i134_26 rfl rfl rfl e13 rfl ?_
    refine ev_aload_n pm134 i134_29 rfl rfl rfl ?_
    obtain ⟨x14, e15, hS⟩ := bn_s hS
    refine ev_getR pm134 i134_30 rfl rfl rfl e15 rfl ?_
    obtain ⟨x16, e17, hS⟩ := bn_s hS
    refine ev_getI pm134 i134_33 rfl rfl (by decide) e17 rfl ?_
    obtain ⟨x19, e18, hS⟩ := bn_s hS
    refine ev_callV (sa := [.int x16]) (rest := []) (st' := [.int x19]) (ls0 := [.ref x12, .int x16, unk, unk]) (rv := some (.int x19)) pm134 i134_36 rfl rfl pm135 (by decide) (K_ho_whomToAsk e18) rfl rfl (Nat.le_of_ble_eq_true rfl) (by omega) rfl (R_ho_whomToAsk (d - 1) (by omega) e18) (by simp) rfl rfl ?_
    cases hS
    exact ev_ireturn pm134 i134_39 rfl rfl rfl
  · rw [if_neg c329] at hS
    refine ev_if_eq_f (t := 14) pm134 i134_9 rfl c329 rfl rfl ?_
    refine ev_iconst (v := -1) pm134 i134_12 rfl (by decide) rfl ?_
    cases hS
    exact ev_ireturn pm134 i134_13 rfl rfl rfl
def F_cs_askLeaves (a0 : Nat) (h : Hp) : Option (Int32 × Hp) :=
  ck h a0 11 (bn (F_cs_noLake a0 h) fun x2 =>
  bd (F_cs_refused a0 x2 (0 : Int32) h) fun x4 h5 =>
  if x4 = (0 : Int32) then
    (bn (gR h5 a0 11 9) fun x6 =>
    bn (gR h5 a0 11 3) fun x8 =>
    bn (F_ho_find x6 x8 h5) fun h11 =>
    bn (gR h11 a0 11 9) fun x12 =>
    bn (gR h11 a0 11 3) fun x14 =>
    bn (gI h11 x14 10 11) fun x16 =>
    bn (F_ho_whomToAsk x12 x16 h11) fun x19 =>
    if x19 < (0 : Int32) then
      (some ((-2 : Int32), h11))
    else
      (bn (gR h11 a0 11 9) fun x20 =>
      bn (F_ho_leftBy x20 x19 h11) fun x23 =>
      some (x23, h11)))
  else
    (some ((-1 : Int32), h5)))
set_option maxRecDepth 20000 in
theorem K_cs_askLeaves {a0 : Nat} {h : Hp} {v : Int32} {h' : Hp} (hS : F_cs_askLeaves a0 h = some (v, h')) : kd h a0 = 11 := by
  unfold F_cs_askLeaves at hS
  exact (ck_s hS).1
set_option maxRecDepth 20000 in
theorem R_cs_askLeaves (d : Nat) (hd : 6 ≤ d) {a0 : Nat} {h : Hp} {v : Int32} {h' : Hp} (hS : F_cs_askLeaves a0 h = some (v, h')) : Ev P d 137 (0, [.ref a0, unk], [], h) (some (.int v), h') := by
  unfold F_cs_askLeaves at hS
  replace hS := (ck_s hS).2
  refine ev_aload_n pm137 i137_0 rfl rfl rfl ?_
  refine ev_aload_n pm137 i137_1 rfl rfl rfl ?_
  obtain ⟨x2, e1, hS⟩ := bn_s hS
  refine ev_callV (sa := []) (rest := [.ref a0]) (st' := [.int x2, .ref a0]) (ls0 := [.ref a0]) (rv := some (.int x2)) pm137 i137_2 rfl rfl pm86 (by decide) (K_cs_noLake e1) rfl rfl (Nat.le_of_ble_eq_true rfl) (by omega) rfl (R_cs_noLake (d - 1) (by omega) e1) (by simp) rfl rfl ?_
  refine ev_iconst (v := 0) pm137 i137_5 rfl (by decide) rfl ?_
  obtain ⟨x4, h5, e3, hS⟩ := bd_s hS
  refine ev_callV (sa := [.int (0 : Int32), .int x2]) (rest := []) (st' := [.int x4]) (ls0 := [.ref a0, .int x2, .int (0 : Int32)]) (rv := some (.int x4)) pm137 i137_6 rfl rfl pm18 (by decide) (K_cs_refused e3) rfl rfl (Nat.le_of_ble_eq_true rfl) (by omega) rfl (R_cs_refused (d - 1) (by omega) e3) (by simp) rfl rfl ?_
  by_cases c330 : x4 = (0 : Int32)
  · rw [if_pos c330] at hS
    refine ev_if_eq_t (t := 14) pm137 i137_9 rfl c330 rfl rfl ?_
    refine ev_aload_n pm137 i137_14 rfl rfl rfl ?_
    obtain ⟨x6, e7, hS⟩ := bn_s hS
    refine ev_getR pm137 i137_15 rfl rfl rfl e7 rfl ?_
    refine ev_aload_n pm137 i137_18 rfl rfl rfl ?_
    obtain ⟨x8, e9, hS⟩ := bn_s hS
    refine ev_getR pm137 i137_19 rfl rfl rfl e9 rfl ?_
    obtain ⟨h11, e10, hS⟩ := bn_s hS
    refine ev_callV (sa := [.ref x8]) (rest := []) (st' := []) (ls0 := [.ref x6, .ref x8, unk]) (rv := none) pm137 i137_22 rfl rfl pm127 (by decide) (K_ho_find e10) rfl rfl (Nat.le_of_ble_eq_true rfl) (by omega) rfl (R_ho_find (d - 1) (by omega) e10) (by simp) rfl rfl ?_
    refine ev_aload_n pm137 i137_25 rfl rfl rfl ?_
    obtain ⟨x12, e13, hS⟩ := bn_s hS
    refine ev_getR pm137 i137_26 rfl rfl rfl e13 rfl ?_
    refine ev_aload_n pm137 i137_29 rfl rfl rfl ?_
    obtain ⟨x14, e15, hS⟩ := bn_s hS
    refine ev_getR pm137 i137_30 rfl rfl rfl e15 rfl ?_
    obtain ⟨x16, e17, hS⟩ := bn_s hS
    refine ev_getI pm137 i137_33 rfl rfl (by decide) e17 rfl ?_
    obtain ⟨x19, e18, hS⟩ := bn_s hS
    refine ev_callV (sa := [.int x16]) (rest := []) (st' := [.int x19]) (ls0 := [.ref x12, .int x16, unk, unk]) (rv := some (.int x19)) pm137 i137_36 rfl rfl pm135 (by decide) (K_ho_whomToAsk e18) rfl rfl (Nat.le_of_ble_eq_true rfl) (by omega) rfl (R_ho_whomToAsk (d - 1) (by omega) e18) (by simp) rfl rfl ?_
    refine ev_istore_n (ls' := [.ref a0, .int x19]) pm137 i137_39 rfl (Nat.le_of_ble_eq_true rfl) rfl rfl ?_
    refine ev_iload_n pm137 i137_40 rfl rfl rfl ?_
    by_cases c331 : x19 < (0 : Int32)
    · rw [if_pos c331] at hS
      refine ev_if_ge_t (t := 49) pm137 i137_41 rfl c331 rfl rfl ?_
      refine ev_bipush (v := -2) pm137 i137_44 rfl (by decide) rfl ?_
      refine ev_goto (t := 57) pm137 i137_46 rfl rfl ?_
      refine ev_kls (ls' := [unk, unk]) pm137 i137_57 rfl rfl ?_
      cases hS
      exact ev_ireturn pm137 i137_57 rfl rfl rfl
    · rw [if_neg c331] at hS
      refine ev_if_ge_f (t := 49) pm137 i137_41 rfl c331 rfl rfl ?_
      refine ev_aload_n pm137 i137_49 rfl rfl rfl ?_
      obtain ⟨x20, e21, hS⟩ := bn_s hS
      refine ev_getR pm137 i137_50 rfl rfl rfl e21 rfl ?_
      refine ev_iload_n pm137 i137_53 rfl rfl rfl ?_
      obtain ⟨x23, e22, hS⟩ := bn_s hS
      refine ev_callV (sa := [.int x19]) (rest := []) (st' := [.int x23]) (ls0 := [.ref x20, .int x19, unk, unk]) (rv := some (.int x23)) pm137 i137_54 rfl rfl pm136 (by decide) (K_ho_leftBy e22) rfl rfl (Nat.le_of_ble_eq_true rfl) (by omega) rfl (R_ho_leftBy (d - 1) (by omega) e22) (by simp) rfl rfl ?_
      refine ev_kls (ls' := [unk, unk]) pm137 i137_57 rfl rfl ?_
      cases hS
      exact ev_ireturn pm137 i137_57 rfl rfl rfl
  · rw [if_neg c330] at hS
    refine ev_if_eq_f (t := 14) pm137 i137_9 rfl c330 rfl rfl ?_
    refine ev_iconst (v := -1) pm137 i137_12 rfl (by decide) rfl ?_
    cases hS
    exact ev_ireturn pm137 i137_13 rfl rfl rfl
def F_cs_judge (a0 : Nat) (h : Hp) : Option (Int32 × Hp) :=
  ck h a0 11 (bn (F_cs_noLake a0 h) fun x2 =>
  bd (F_cs_refused a0 x2 (0 : Int32) h) fun x4 h5 =>
  if x4 = (0 : Int32) then
    (bn (gR h5 a0 11 9) fun x6 =>
    bn (gR h5 a0 11 3) fun x8 =>
    bd (F_ho_firstUnlike x6 x8 (0 : Int32) h5) fun x11 h12 =>
    some (x11, h12))
  else
    (some ((-1 : Int32), h5)))
set_option maxRecDepth 20000 in
theorem K_cs_judge {a0 : Nat} {h : Hp} {v : Int32} {h' : Hp} (hS : F_cs_judge a0 h = some (v, h')) : kd h a0 = 11 := by
  unfold F_cs_judge at hS
  exact (ck_s hS).1
set_option maxRecDepth 20000 in
theorem R_cs_judge (d : Nat) (hd : 5 ≤ d) {a0 : Nat} {h : Hp} {v : Int32} {h' : Hp} (hS : F_cs_judge a0 h = some (v, h')) : Ev P d 138 (0, [.ref a0], [], h) (some (.int v), h') := by
  unfold F_cs_judge at hS
  replace hS := (ck_s hS).2
  refine ev_aload_n pm138 i138_0 rfl rfl rfl ?_
  refine ev_aload_n pm138 i138_1 rfl rfl rfl ?_
  obtain ⟨x2, e1, hS⟩ := bn_s hS
  refine ev_callV (sa := []) (rest := [.ref a0]) (st' := [.int x2, .ref a0]) (ls0 := [.ref a0]) (rv := some (.int x2)) pm138 i138_2 rfl rfl pm86 (by decide) (K_cs_noLake e1) rfl rfl (Nat.le_of_ble_eq_true rfl) (by omega) rfl (R_cs_noLake (d - 1) (by omega) e1) (by simp) rfl rfl ?_
  refine ev_iconst (v := 0) pm138 i138_5 rfl (by decide) rfl ?_
  obtain ⟨x4, h5, e3, hS⟩ := bd_s hS
  refine ev_callV (sa := [.int (0 : Int32), .int x2]) (rest := []) (st' := [.int x4]) (ls0 := [.ref a0, .int x2, .int (0 : Int32)]) (rv := some (.int x4)) pm138 i138_6 rfl rfl pm18 (by decide) (K_cs_refused e3) rfl rfl (Nat.le_of_ble_eq_true rfl) (by omega) rfl (R_cs_refused (d - 1) (by omega) e3) (by simp) rfl rfl ?_
  by_cases c332 : x4 = (0 : Int32)
  · rw [if_pos c332] at hS
    refine ev_if_eq_t (t := 14) pm138 i138_9 rfl c332 rfl rfl ?_
    refine ev_aload_n pm138 i138_14 rfl rfl rfl ?_
    obtain ⟨x6, e7, hS⟩ := bn_s hS
    refine ev_getR pm138 i138_15 rfl rfl rfl e7 rfl ?_
    refine ev_aload_n pm138 i138_18 rfl rfl rfl ?_
    obtain ⟨x8, e9, hS⟩ := bn_s hS
    refine ev_getR pm138 i138_19 rfl rfl rfl e9 rfl ?_
    refine ev_iconst (v := 0) pm138 i138_22 rfl (by decide) rfl ?_
    obtain ⟨x11, h12, e10, hS⟩ := bd_s hS
    refine ev_callV (sa := [.int (0 : Int32), .ref x8]) (rest := []) (st' := [.int x11]) (ls0 := [.ref x6, .ref x8, .int (0 : Int32), unk, unk]) (rv := some (.int x11)) pm138 i138_23 rfl rfl pm128 (by decide) (K_ho_firstUnlike e10) rfl rfl (Nat.le_of_ble_eq_true rfl) (by omega) rfl (R_ho_firstUnlike (d - 1) (by omega) e10) (by simp) rfl rfl ?_
    cases hS
    exact ev_ireturn pm138 i138_26 rfl rfl rfl
  · rw [if_neg c332] at hS
    refine ev_if_eq_f (t := 14) pm138 i138_9 rfl c332 rfl rfl ?_
    refine ev_iconst (v := -1) pm138 i138_12 rfl (by decide) rfl ?_
    cases hS
    exact ev_ireturn pm138 i138_13 rfl rfl rfl
def F_gm_dryBy (a0 : Nat) (a1 : Nat) (a2 : Int32) (h : Hp) : Option (Int32 × Hp) :=
  ck h a0 0 (bn (gR h a0 0 0) fun x1 =>
  bn (F_ra_join x1 a1 a2 h) fun h4 =>
  bn (gR h4 a0 0 0) fun x5 =>
  bn (F_ra_level x5 h4) fun h8 =>
  bn (gR h8 a0 0 0) fun x9 =>
  bn (F_ra_dryHouses x9 h8) fun x12 =>
  some (x12, h8))
set_option maxRecDepth 20000 in
theorem K_gm_dryBy {a0 : Nat} {a1 : Nat} {a2 : Int32} {h : Hp} {v : Int32} {h' : Hp} (hS : F_gm_dryBy a0 a1 a2 h = some (v, h')) : kd h a0 = 0 := by
  unfold F_gm_dryBy at hS
  exact (ck_s hS).1
set_option maxRecDepth 20000 in
theorem R_gm_dryBy (d : Nat) (hd : 3 ≤ d) {a0 : Nat} {a1 : Nat} {a2 : Int32} {h : Hp} {v : Int32} {h' : Hp} (hS : F_gm_dryBy a0 a1 a2 h = some (v, h')) : Ev P d 142 (0, [.ref a0, .ref a1, .int a2], [], h) (some (.int v), h') := by
  unfold F_gm_dryBy at hS
  replace hS := (ck_s hS).2
  refine ev_aload_n pm142 i142_0 rfl rfl rfl ?_
  obtain ⟨x1, e2, hS⟩ := bn_s hS
  refine ev_getR pm142 i142_1 rfl rfl rfl e2 rfl ?_
  refine ev_aload_n pm142 i142_4 rfl rfl rfl ?_
  refine ev_iload_n pm142 i142_5 rfl rfl rfl ?_
  obtain ⟨h4, e3, hS⟩ := bn_s hS
  refine ev_callV (sa := [.int a2, .ref a1]) (rest := []) (st' := []) (ls0 := [.ref x1, .ref a1, .int a2, unk]) (rv := none) pm142 i142_6 rfl rfl pm68 (by decide) (K_ra_join e3) rfl rfl (Nat.le_of_ble_eq_true rfl) (by omega) rfl (R_ra_join (d - 1) (by omega) e3) (by simp) rfl rfl ?_
  refine ev_aload_n pm142 i142_9 rfl rfl rfl ?_
  obtain ⟨x5, e6, hS⟩ := bn_s hS
  refine ev_getR pm142 i142_10 rfl rfl rfl e6 rfl ?_
  obtain ⟨h8, e7, hS⟩ := bn_s hS
  refine ev_callV (sa := []) (rest := []) (st' := []) (ls0 := [.ref x5, unk, unk, unk]) (rv := none) pm142 i142_13 rfl rfl pm70 (by decide) (K_ra_level e7) rfl rfl (Nat.le_of_ble_eq_true rfl) (by omega) rfl (R_ra_level (d - 1) (by omega) e7) (by simp) rfl rfl ?_
  refine ev_aload_n pm142 i142_16 rfl rfl rfl ?_
  obtain ⟨x9, e10, hS⟩ := bn_s hS
  refine ev_getR pm142 i142_17 rfl rfl rfl e10 rfl ?_
  obtain ⟨x12, e11, hS⟩ := bn_s hS
  refine ev_callV (sa := []) (rest := []) (st' := [.int x12]) (ls0 := [.ref x9]) (rv := some (.int x12)) pm142 i142_20 rfl rfl pm108 (by decide) (K_ra_dryHouses e11) rfl rfl (Nat.le_of_ble_eq_true rfl) (by omega) rfl (R_ra_dryHouses (d - 1) (by omega) e11) (by simp) rfl rfl ?_
  cases hS
  exact ev_ireturn pm142 i142_23 rfl rfl rfl
def B_gm_mostRaised_4 (l0 : Nat) (h : Hp) (s : Int32 × Int32) : Option ((Int32 × Int32) ⊕ (Int32)) :=
  bn (gR h l0 0 0) fun x1 =>
  bn (gI h x1 6 0) fun x3 =>
  if s.2 < x3 then
    (bn (gR h l0 0 0) fun x5 =>
    bn (gR h x5 6 3) fun x7 =>
    bn (aI h 100 x7 s.2) fun x9 =>
    if x9 < (0 : Int32) then
      (bn (gR h l0 0 0) fun x11 =>
      bn (F_ra_totalOf x11 s.2 h) fun x14 =>
      if (x14 + (2 : Int32)) < (0 : Int32) then
        (some (.inl (s.1, s.2 + (1 : Int32))))
      else
        (bn (gR h l0 0 0) fun x15 =>
        bn (F_ra_sizeOf x15 s.2 h) fun x18 =>
        bn (F_ma_max s.1 x18) fun x20 =>
        some (.inl (x20, s.2 + (1 : Int32)))))
    else
      (some (.inl (s.1, s.2 + (1 : Int32)))))
  else
    (some (.inr s.1))
set_option maxRecDepth 20000 in
theorem L_gm_mostRaised_4 (d : Nat) (hd : 2 ≤ d) {l0 : Nat} {h : Hp} : ∀ (n : Nat) (s : Int32 × Int32) (x : Int32), lq (B_gm_mostRaised_4 l0 h) n s = some x → ∀ r, Ev P d 144 (59, [unk, .int x, unk], [], h) r → Ev P d 144 (4, [.ref l0, .int s.1, .int s.2], [], h) r := by
  refine lq_ev (G0 := fun (s : Int32 × Int32) r => Ev P d 144 (4, [.ref l0, .int s.1, .int s.2], [], h) r) (X := fun (x : Int32) r => Ev P d 144 (59, [unk, .int x, unk], [], h) r) ?_
  intro s y hS r hK
  unfold B_gm_mostRaised_4 at hS
  show Ev P d 144 (4, [.ref l0, .int s.1, .int s.2], [], h) r
  refine ev_iload_n pm144 i144_4 rfl rfl rfl ?_
  refine ev_aload_n pm144 i144_5 rfl rfl rfl ?_
  obtain ⟨x1, e2, hS⟩ := bn_s hS
  refine ev_getR pm144 i144_6 rfl rfl rfl e2 rfl ?_
  obtain ⟨x3, e4, hS⟩ := bn_s hS
  refine ev_getI pm144 i144_9 rfl rfl (by decide) e4 rfl ?_
  by_cases c333 : s.2 < x3
  · rw [if_pos c333] at hS
    refine ev_icmp_ge_t (t := 59) pm144 i144_12 rfl c333 rfl rfl ?_
    refine ev_aload_n pm144 i144_15 rfl rfl rfl ?_
    obtain ⟨x5, e6, hS⟩ := bn_s hS
    refine ev_getR pm144 i144_16 rfl rfl rfl e6 rfl ?_
    obtain ⟨x7, e8, hS⟩ := bn_s hS
    refine ev_getR pm144 i144_19 rfl rfl rfl e8 rfl ?_
    refine ev_iload_n pm144 i144_22 rfl rfl rfl ?_
    obtain ⟨x9, e10, hS⟩ := bn_s hS
    refine ev_iald pm144 i144_23 rfl e10 rfl ?_
    by_cases c334 : x9 < (0 : Int32)
    · rw [if_pos c334] at hS
      refine ev_if_ge_t (t := 53) pm144 i144_24 rfl c334 rfl rfl ?_
      refine ev_aload_n pm144 i144_27 rfl rfl rfl ?_
      obtain ⟨x11, e12, hS⟩ := bn_s hS
      refine ev_getR pm144 i144_28 rfl rfl rfl e12 rfl ?_
      refine ev_iload_n pm144 i144_31 rfl rfl rfl ?_
      obtain ⟨x14, e13, hS⟩ := bn_s hS
      refine ev_callV (sa := [.int s.2]) (rest := []) (st' := [.int x14]) (ls0 := [.ref x11, .int s.2, unk, unk]) (rv := some (.int x14)) pm144 i144_32 rfl rfl pm74 (by decide) (K_ra_totalOf e13) rfl rfl (Nat.le_of_ble_eq_true rfl) (by omega) rfl (R_ra_totalOf (d - 1) (by omega) e13) (by simp) rfl rfl ?_
      refine ev_iconst (v := 2) pm144 i144_35 rfl (by decide) rfl ?_
      refine ev_b2 (f := fun x y => x + y) pm144 i144_36 rfl (fun _ _ _ _ => rfl) rfl ?_
      by_cases c335 : (x14 + (2 : Int32)) < (0 : Int32)
      · rw [if_pos c335] at hS
        refine ev_if_lt_t (t := 53) pm144 i144_37 rfl c335 rfl rfl ?_
        refine ev_iinc (v := 1) (ls' := [.ref l0, .int s.1, .int (s.2 + (1 : Int32))]) pm144 i144_53 rfl rfl (by decide) rfl rfl ?_
        refine ev_goto (t := 4) pm144 i144_56 rfl rfl ?_
        cases hS
        exact hK
      · rw [if_neg c335] at hS
        refine ev_if_lt_f (t := 53) pm144 i144_37 rfl c335 rfl rfl ?_
        refine ev_iload_n pm144 i144_40 rfl rfl rfl ?_
        refine ev_aload_n pm144 i144_41 rfl rfl rfl ?_
        obtain ⟨x15, e16, hS⟩ := bn_s hS
        refine ev_getR pm144 i144_42 rfl rfl rfl e16 rfl ?_
        refine ev_iload_n pm144 i144_45 rfl rfl rfl ?_
        obtain ⟨x18, e17, hS⟩ := bn_s hS
        refine ev_callV (sa := [.int s.2]) (rest := [.int s.1]) (st' := [.int x18, .int s.1]) (ls0 := [.ref x15, .int s.2]) (rv := some (.int x18)) pm144 i144_46 rfl rfl pm72 (by decide) (K_ra_sizeOf e17) rfl rfl (Nat.le_of_ble_eq_true rfl) (by omega) rfl (R_ra_sizeOf (d - 1) (by omega) e17) (by simp) rfl rfl ?_
        obtain ⟨x20, e19, hS⟩ := bn_s hS
        refine ev_callS (sa := [.int x18, .int s.1]) (rest := []) (st' := [.int x20]) (ls0 := [.int s.1, .int x18]) (rv := some (.int x20)) pm144 i144_49 rfl rfl pm47 (by decide) rfl rfl (Nat.le_of_ble_eq_true rfl) (by omega) rfl (R_ma_max (d - 1) (by omega) e19) (by simp) rfl rfl ?_
        refine ev_istore_n (ls' := [.ref l0, .int x20, .int s.2]) pm144 i144_52 rfl (Nat.le_of_ble_eq_true rfl) rfl rfl ?_
        refine ev_iinc (v := 1) (ls' := [.ref l0, .int x20, .int (s.2 + (1 : Int32))]) pm144 i144_53 rfl rfl (by decide) rfl rfl ?_
        refine ev_goto (t := 4) pm144 i144_56 rfl rfl ?_
        cases hS
        exact hK
    · rw [if_neg c334] at hS
      refine ev_if_ge_f (t := 53) pm144 i144_24 rfl c334 rfl rfl ?_
      refine ev_iinc (v := 1) (ls' := [.ref l0, .int s.1, .int (s.2 + (1 : Int32))]) pm144 i144_53 rfl rfl (by decide) rfl rfl ?_
      refine ev_goto (t := 4) pm144 i144_56 rfl rfl ?_
      cases hS
      exact hK
  · rw [if_neg c333] at hS
    refine ev_icmp_ge_f (t := 59) pm144 i144_12 rfl c333 rfl rfl ?_
    refine ev_kls (ls' := [unk, .int s.1, unk]) pm144 i144_59 rfl rfl ?_
    cases hS
    exact hK
def F_gm_mostRaised (a0 : Nat) (h : Hp) : Option Int32 :=
  ck h a0 0 (bn (lq (B_gm_mostRaised_4 a0 h) FU ((0 : Int32), (0 : Int32))) fun x21 =>
  some x21)
set_option maxRecDepth 20000 in
theorem K_gm_mostRaised {a0 : Nat} {h : Hp} {v : Int32} (hS : F_gm_mostRaised a0 h = some v) : kd h a0 = 0 := by
  unfold F_gm_mostRaised at hS
  exact (ck_s hS).1
set_option maxRecDepth 20000 in
theorem R_gm_mostRaised (d : Nat) (hd : 2 ≤ d) {a0 : Nat} {h : Hp} {v : Int32} (hS : F_gm_mostRaised a0 h = some v) : Ev P d 144 (0, [.ref a0, unk, unk], [], h) (some (.int v), h) := by
  unfold F_gm_mostRaised at hS
  replace hS := (ck_s hS).2
  refine ev_iconst (v := 0) pm144 i144_0 rfl (by decide) rfl ?_
  refine ev_istore_n (ls' := [.ref a0, .int (0 : Int32), unk]) pm144 i144_1 rfl (Nat.le_of_ble_eq_true rfl) rfl rfl ?_
  refine ev_iconst (v := 0) pm144 i144_2 rfl (by decide) rfl ?_
  refine ev_istore_n (ls' := [.ref a0, .int (0 : Int32), .int (0 : Int32)]) pm144 i144_3 rfl (Nat.le_of_ble_eq_true rfl) rfl rfl ?_
  obtain ⟨x21, e22, hS⟩ := bn_s hS
  refine L_gm_mostRaised_4 d (by omega) _ _ _ e22 _ ?_
  show Ev P d 144 (59, [unk, .int x21, unk], [], h) _
  refine ev_iload_n pm144 i144_59 rfl rfl rfl ?_
  cases hS
  exact ev_ireturn pm144 i144_60 rfl rfl rfl
def B_gm_villageMoves_34 (rc : Nat → Nat → Int32 → Int32 → Hp → Option (Int32 × Hp)) (l0 : Nat) (l1 : Nat) (l2 : Int32) (l3 : Int32) (s : Int32 × Int32) (h : Hp) : Option (((Int32 × Int32) ⊕ (Int32)) × Hp) :=
  bn (gI h l1 10 1) fun x6 =>
  if s.2 < x6 then
    (bn (gR h l0 0 0) fun x8 =>
    bn (gR h x8 6 1) fun x10 =>
    bn (aI h 100 x10 s.2) fun x12 =>
    bn (sI h 100 x10 s.2 (x12 + (2 : Int32))) fun h14 =>
    bd (rc l0 l1 l2 (l3 - (1 : Int32)) h14) fun x17 h18 =>
    bn (F_ma_max s.1 x17) fun x20 =>
    bn (gR h18 l0 0 0) fun x21 =>
    bn (gR h18 x21 6 1) fun x23 =>
    bn (aI h18 100 x23 s.2) fun x25 =>
    bn (sI h18 100 x23 s.2 (x25 - (2 : Int32))) fun h27 =>
    some (.inl (x20, s.2 + (1 : Int32)), h27))
  else
    (some (.inr s.1, h))
set_option maxRecDepth 20000 in
theorem L_gm_villageMoves_34 (d : Nat) (hd : 5 ≤ d) {rc : Nat → Nat → Int32 → Int32 → Hp → Option (Int32 × Hp)} (hrc : ∀ {a0 a1 : Nat} {a2 a3 : Int32} {h h' : Hp} {v : Int32}, rc a0 a1 a2 a3 h = some (v, h') → kd h a0 = 0 ∧ Ev P (d - 1) 141 (0, [.ref a0, .ref a1, .int a2, .int a3, unk, unk], [], h) (some (.int v), h')) {l0 : Nat} {l1 : Nat} {l2 : Int32} {l3 : Int32} : ∀ (n : Nat) (s : Int32 × Int32) (h : Hp) (x : Int32) (hx : Hp), lp (B_gm_villageMoves_34 rc l0 l1 l2 l3) n s h = some (x, hx) → ∀ r, Ev P d 143 (93, [unk, unk, unk, unk, .int x, unk], [], hx) r → Ev P d 143 (34, [.ref l0, .ref l1, .int l2, .int l3, .int s.1, .int s.2], [], h) r := by
  refine lp_ev (G0 := fun (s : Int32 × Int32) h r => Ev P d 143 (34, [.ref l0, .ref l1, .int l2, .int l3, .int s.1, .int s.2], [], h) r) (X := fun (x : Int32) hx r => Ev P d 143 (93, [unk, unk, unk, unk, .int x, unk], [], hx) r) ?_
  intro s h y h9 hS r hK
  unfold B_gm_villageMoves_34 at hS
  show Ev P d 143 (34, [.ref l0, .ref l1, .int l2, .int l3, .int s.1, .int s.2], [], h) r
  refine ev_iload pm143 i143_34 rfl rfl rfl ?_
  refine ev_aload_n pm143 i143_36 rfl rfl rfl ?_
  obtain ⟨x6, e7, hS⟩ := bn_s hS
  refine ev_getI pm143 i143_37 rfl rfl (by decide) e7 rfl ?_
  by_cases c336 : s.2 < x6
  · rw [if_pos c336] at hS
    refine ev_icmp_ge_t (t := 93) pm143 i143_40 rfl c336 rfl rfl ?_
    refine ev_aload_n pm143 i143_43 rfl rfl rfl ?_
    obtain ⟨x8, e9, hS⟩ := bn_s hS
    refine ev_getR pm143 i143_44 rfl rfl rfl e9 rfl ?_
    obtain ⟨x10, e11, hS⟩ := bn_s hS
    refine ev_getR pm143 i143_47 rfl rfl rfl e11 rfl ?_
    refine ev_iload pm143 i143_50 rfl rfl rfl ?_
    refine ev_dup2 pm143 i143_52 rfl ⟨rfl, rfl⟩ rfl ?_
    obtain ⟨x12, e13, hS⟩ := bn_s hS
    refine ev_iald pm143 i143_53 rfl e13 rfl ?_
    refine ev_iconst (v := 2) pm143 i143_54 rfl (by decide) rfl ?_
    refine ev_b2 (f := fun x y => x + y) pm143 i143_55 rfl (fun _ _ _ _ => rfl) rfl ?_
    obtain ⟨h14, e15, hS⟩ := bn_s hS
    refine ev_iast pm143 i143_56 rfl e15 rfl ?_
    refine ev_iload pm143 i143_57 rfl rfl rfl ?_
    refine ev_aload_n pm143 i143_59 rfl rfl rfl ?_
    refine ev_aload_n pm143 i143_60 rfl rfl rfl ?_
    refine ev_iload_n pm143 i143_61 rfl rfl rfl ?_
    refine ev_iload_n pm143 i143_62 rfl rfl rfl ?_
    refine ev_iconst (v := 1) pm143 i143_63 rfl (by decide) rfl ?_
    refine ev_b2 (f := fun x y => x - y) pm143 i143_64 rfl (fun _ _ _ _ => rfl) rfl ?_
    obtain ⟨x17, h18, e16, hS⟩ := bd_s hS
    refine ev_callV (sa := [.int (l3 - (1 : Int32)), .int l2, .ref l1]) (rest := [.int s.1]) (st' := [.int x17, .int s.1]) (ls0 := [.ref l0, .ref l1, .int l2, .int (l3 - (1 : Int32)), unk, unk]) (rv := some (.int x17)) pm143 i143_65 rfl rfl pm141 (by decide) ((hrc e16).1) rfl rfl (Nat.le_of_ble_eq_true rfl) (by omega) rfl ((hrc e16).2) (by simp) rfl rfl ?_
    obtain ⟨x20, e19, hS⟩ := bn_s hS
    refine ev_callS (sa := [.int x17, .int s.1]) (rest := []) (st' := [.int x20]) (ls0 := [.int s.1, .int x17]) (rv := some (.int x20)) pm143 i143_68 rfl rfl pm47 (by decide) rfl rfl (Nat.le_of_ble_eq_true rfl) (by omega) rfl (R_ma_max (d - 1) (by omega) e19) (by simp) rfl rfl ?_
    refine ev_istore (ls' := [.ref l0, .ref l1, .int l2, .int l3, .int x20, .int s.2]) pm143 i143_71 rfl (Nat.le_of_ble_eq_true rfl) rfl rfl ?_
    refine ev_aload_n pm143 i143_73 rfl rfl rfl ?_
    obtain ⟨x21, e22, hS⟩ := bn_s hS
    refine ev_getR pm143 i143_74 rfl rfl rfl e22 rfl ?_
    obtain ⟨x23, e24, hS⟩ := bn_s hS
    refine ev_getR pm143 i143_77 rfl rfl rfl e24 rfl ?_
    refine ev_iload pm143 i143_80 rfl rfl rfl ?_
    refine ev_dup2 pm143 i143_82 rfl ⟨rfl, rfl⟩ rfl ?_
    obtain ⟨x25, e26, hS⟩ := bn_s hS
    refine ev_iald pm143 i143_83 rfl e26 rfl ?_
    refine ev_iconst (v := 2) pm143 i143_84 rfl (by decide) rfl ?_
    refine ev_b2 (f := fun x y => x - y) pm143 i143_85 rfl (fun _ _ _ _ => rfl) rfl ?_
    obtain ⟨h27, e28, hS⟩ := bn_s hS
    refine ev_iast pm143 i143_86 rfl e28 rfl ?_
    refine ev_iinc (v := 1) (ls' := [.ref l0, .ref l1, .int l2, .int l3, .int x20, .int (s.2 + (1 : Int32))]) pm143 i143_87 rfl rfl (by decide) rfl rfl ?_
    refine ev_goto (t := 34) pm143 i143_90 rfl rfl ?_
    cases hS
    exact hK
  · rw [if_neg c336] at hS
    refine ev_icmp_ge_f (t := 93) pm143 i143_40 rfl c336 rfl rfl ?_
    refine ev_kls (ls' := [unk, unk, unk, unk, .int s.1, unk]) pm143 i143_93 rfl rfl ?_
    cases hS
    exact hK
def G_gm_villageMoves (rc : Nat → Nat → Int32 → Int32 → Hp → Option (Int32 × Hp)) (a0 : Nat) (a1 : Nat) (a2 : Int32) (a3 : Int32) (h : Hp) : Option (Int32 × Hp) :=
  ck h a0 0 (if (0 : Int32) < a3 then
    (if a3 = (1 : Int32) then
      (bd (F_gm_dryBy a0 a1 a2 h) fun x2 h3 =>
      bn (F_gm_mostRaised a0 h3) fun x5 =>
      some (x2 + x5, h3))
    else
      (bd (lp (B_gm_villageMoves_34 rc a0 a1 a2 a3) FU ((0 : Int32), (0 : Int32)) h) fun x29 h31 =>
      some (x29, h31)))
  else
    (bd (F_gm_dryBy a0 a1 a2 h) fun x33 h34 =>
    some (x33, h34)))
set_option maxRecDepth 20000 in
theorem KG_gm_villageMoves {rc : Nat → Nat → Int32 → Int32 → Hp → Option (Int32 × Hp)} {a0 : Nat} {a1 : Nat} {a2 : Int32} {a3 : Int32} {h : Hp} {v : Int32} {h' : Hp} (hS : G_gm_villageMoves rc a0 a1 a2 a3 h = some (v, h')) : kd h a0 = 0 := by
  unfold G_gm_villageMoves at hS
  exact (ck_s hS).1
set_option maxRecDepth 20000 in
theorem RG_gm_villageMoves (d : Nat) (hd : 5 ≤ d) {rc : Nat → Nat → Int32 → Int32 → Hp → Option (Int32 × Hp)} (hrc : ∀ {a0 a1 : Nat} {a2 a3 : Int32} {h h' : Hp} {v : Int32}, rc a0 a1 a2 a3 h = some (v, h') → kd h a0 = 0 ∧ Ev P (d - 1) 141 (0, [.ref a0, .ref a1, .int a2, .int a3, unk, unk], [], h) (some (.int v), h')) {a0 : Nat} {a1 : Nat} {a2 : Int32} {a3 : Int32} {h : Hp} {v : Int32} {h' : Hp} (hS : G_gm_villageMoves rc a0 a1 a2 a3 h = some (v, h')) : Ev P d 143 (0, [.ref a0, .ref a1, .int a2, .int a3, unk, unk], [], h) (some (.int v), h') := by
  unfold G_gm_villageMoves at hS
  replace hS := (ck_s hS).2
  refine ev_iload_n pm143 i143_0 rfl rfl rfl ?_
  by_cases c337 : (0 : Int32) < a3
  · rw [if_pos c337] at hS
    refine ev_if_gt_t (t := 11) pm143 i143_1 rfl c337 rfl rfl ?_
    refine ev_iload_n pm143 i143_11 rfl rfl rfl ?_
    refine ev_iconst (v := 1) pm143 i143_12 rfl (by decide) rfl ?_
    by_cases c338 : a3 = (1 : Int32)
    · rw [if_pos c338] at hS
      refine ev_icmp_ne_t (t := 28) pm143 i143_13 rfl c338 rfl rfl ?_
      refine ev_aload_n pm143 i143_16 rfl rfl rfl ?_
      refine ev_aload_n pm143 i143_17 rfl rfl rfl ?_
      refine ev_iload_n pm143 i143_18 rfl rfl rfl ?_
      obtain ⟨x2, h3, e1, hS⟩ := bd_s hS
      refine ev_callV (sa := [.int a2, .ref a1]) (rest := []) (st' := [.int x2]) (ls0 := [.ref a0, .ref a1, .int a2]) (rv := some (.int x2)) pm143 i143_19 rfl rfl pm142 (by decide) (K_gm_dryBy e1) rfl rfl (Nat.le_of_ble_eq_true rfl) (by omega) rfl (R_gm_dryBy (d - 1) (by omega) e1) (by simp) rfl rfl ?_
      refine ev_aload_n pm143 i143_22 rfl rfl rfl ?_
      obtain ⟨x5, e4, hS⟩ := bn_s hS
      refine ev_callV (sa := []) (rest := [.int x2]) (st' := [.int x5, .int x2]) (ls0 := [.ref a0, unk, unk]) (rv := some (.int x5)) pm143 i143_23 rfl rfl pm144 (by decide) (K_gm_mostRaised e4) rfl rfl (Nat.le_of_ble_eq_true rfl) (by omega) rfl (R_gm_mostRaised (d - 1) (by omega) e4) (by simp) rfl rfl ?_
      refine ev_b2 (f := fun x y => x + y) pm143 i143_26 rfl (fun _ _ _ _ => rfl) rfl ?_
      cases hS
      exact ev_ireturn pm143 i143_27 rfl rfl rfl
    · rw [if_neg c338] at hS
      refine ev_icmp_ne_f (t := 28) pm143 i143_13 rfl c338 rfl rfl ?_
      refine ev_iconst (v := 0) pm143 i143_28 rfl (by decide) rfl ?_
      refine ev_istore (ls' := [.ref a0, .ref a1, .int a2, .int a3, .int (0 : Int32), unk]) pm143 i143_29 rfl (Nat.le_of_ble_eq_true rfl) rfl rfl ?_
      refine ev_iconst (v := 0) pm143 i143_31 rfl (by decide) rfl ?_
      refine ev_istore (ls' := [.ref a0, .ref a1, .int a2, .int a3, .int (0 : Int32), .int (0 : Int32)]) pm143 i143_32 rfl (Nat.le_of_ble_eq_true rfl) rfl rfl ?_
      obtain ⟨x29, h31, e30, hS⟩ := bd_s hS
      refine L_gm_villageMoves_34 d (by omega) (fun hq => hrc hq) _ _ _ _ _ e30 _ ?_
      show Ev P d 143 (93, [unk, unk, unk, unk, .int x29, unk], [], h31) _
      refine ev_iload pm143 i143_93 rfl rfl rfl ?_
      cases hS
      exact ev_ireturn pm143 i143_95 rfl rfl rfl
  · rw [if_neg c337] at hS
    refine ev_if_gt_f (t := 11) pm143 i143_1 rfl c337 rfl rfl ?_
    refine ev_aload_n pm143 i143_4 rfl rfl rfl ?_
    refine ev_aload_n pm143 i143_5 rfl rfl rfl ?_
    refine ev_iload_n pm143 i143_6 rfl rfl rfl ?_
    obtain ⟨x33, h34, e32, hS⟩ := bd_s hS
    refine ev_callV (sa := [.int a2, .ref a1]) (rest := []) (st' := [.int x33]) (ls0 := [.ref a0, .ref a1, .int a2]) (rv := some (.int x33)) pm143 i143_7 rfl rfl pm142 (by decide) (K_gm_dryBy e32) rfl rfl (Nat.le_of_ble_eq_true rfl) (by omega) rfl (R_gm_dryBy (d - 1) (by omega) e32) (by simp) rfl rfl ?_
    cases hS
    exact ev_ireturn pm143 i143_10 rfl rfl rfl
def B_gm_kingMoves_25 (rc : Nat → Nat → Int32 → Int32 → Hp → Option (Int32 × Hp)) (l0 : Nat) (l1 : Nat) (l2 : Int32) (l3 : Int32) (s : Int32 × Int32) (h : Hp) : Option (((Int32 × Int32) ⊕ (Int32)) × Hp) :=
  bn (gI h l1 10 5) fun x4 =>
  if s.2 < x4 then
    (if ((l2 >>> (s.2 &&& 31)) &&& (1 : Int32)) = (0 : Int32) then
      (some (.inl (s.1, s.2 + (1 : Int32)), h))
    else
      (bd (G_gm_villageMoves rc l0 l1 (l2 &&& (((1 : Int32) <<< (s.2 &&& 31)) ^^^ (-1 : Int32))) (l3 - (1 : Int32)) h) fun x7 h8 =>
      bn (F_ma_min s.1 x7) fun x10 =>
      some (.inl (x10, s.2 + (1 : Int32)), h8)))
  else
    (some (.inr s.1, h))
set_option maxRecDepth 20000 in
theorem L_gm_kingMoves_25 (d : Nat) (hd : 6 ≤ d) {rc : Nat → Nat → Int32 → Int32 → Hp → Option (Int32 × Hp)} (hrc2 : ∀ {a0 a1 : Nat} {a2 a3 : Int32} {h h' : Hp} {v : Int32}, rc a0 a1 a2 a3 h = some (v, h') → kd h a0 = 0 ∧ Ev P (d - 1 - 1) 141 (0, [.ref a0, .ref a1, .int a2, .int a3, unk, unk], [], h) (some (.int v), h')) {l0 : Nat} {l1 : Nat} {l2 : Int32} {l3 : Int32} : ∀ (n : Nat) (s : Int32 × Int32) (h : Hp) (x : Int32) (hx : Hp), lp (B_gm_kingMoves_25 rc l0 l1 l2 l3) n s h = some (x, hx) → ∀ r, Ev P d 141 (72, [unk, unk, unk, unk, .int x, unk], [], hx) r → Ev P d 141 (25, [.ref l0, .ref l1, .int l2, .int l3, .int s.1, .int s.2], [], h) r := by
  refine lp_ev (G0 := fun (s : Int32 × Int32) h r => Ev P d 141 (25, [.ref l0, .ref l1, .int l2, .int l3, .int s.1, .int s.2], [], h) r) (X := fun (x : Int32) hx r => Ev P d 141 (72, [unk, unk, unk, unk, .int x, unk], [], hx) r) ?_
  intro s h y h9 hS r hK
  unfold B_gm_kingMoves_25 at hS
  show Ev P d 141 (25, [.ref l0, .ref l1, .int l2, .int l3, .int s.1, .int s.2], [], h) r
  refine ev_iload pm141 i141_25 rfl rfl rfl ?_
  refine ev_aload_n pm141 i141_27 rfl rfl rfl ?_
  obtain ⟨x4, e5, hS⟩ := bn_s hS
  refine ev_getI pm141 i141_28 rfl rfl (by decide) e5 rfl ?_
  by_cases c339 : s.2 < x4
  · rw [if_pos c339] at hS
    refine ev_icmp_ge_t (t := 72) pm141 i141_31 rfl c339 rfl rfl ?_
    refine ev_iload_n pm141 i141_34 rfl rfl rfl ?_
    refine ev_iload pm141 i141_35 rfl rfl rfl ?_
    refine ev_b2 (f := fun x y => x >>> (y &&& 31)) pm141 i141_37 rfl (fun _ _ _ _ => rfl) rfl ?_
    refine ev_iconst (v := 1) pm141 i141_38 rfl (by decide) rfl ?_
    refine ev_b2 (f := fun x y => x &&& y) pm141 i141_39 rfl (fun _ _ _ _ => rfl) rfl ?_
    by_cases c340 : ((l2 >>> (s.2 &&& 31)) &&& (1 : Int32)) = (0 : Int32)
    · rw [if_pos c340] at hS
      refine ev_if_eq_t (t := 66) pm141 i141_40 rfl c340 rfl rfl ?_
      refine ev_iinc (v := 1) (ls' := [.ref l0, .ref l1, .int l2, .int l3, .int s.1, .int (s.2 + (1 : Int32))]) pm141 i141_66 rfl rfl (by decide) rfl rfl ?_
      refine ev_goto (t := 25) pm141 i141_69 rfl rfl ?_
      cases hS
      exact hK
    · rw [if_neg c340] at hS
      refine ev_if_eq_f (t := 66) pm141 i141_40 rfl c340 rfl rfl ?_
      refine ev_iload pm141 i141_43 rfl rfl rfl ?_
      refine ev_aload_n pm141 i141_45 rfl rfl rfl ?_
      refine ev_aload_n pm141 i141_46 rfl rfl rfl ?_
      refine ev_iload_n pm141 i141_47 rfl rfl rfl ?_
      refine ev_iconst (v := 1) pm141 i141_48 rfl (by decide) rfl ?_
      refine ev_iload pm141 i141_49 rfl rfl rfl ?_
      refine ev_b2 (f := fun x y => x <<< (y &&& 31)) pm141 i141_51 rfl (fun _ _ _ _ => rfl) rfl ?_
      refine ev_iconst (v := -1) pm141 i141_52 rfl (by decide) rfl ?_
      refine ev_b2 (f := fun x y => x ^^^ y) pm141 i141_53 rfl (fun _ _ _ _ => rfl) rfl ?_
      refine ev_b2 (f := fun x y => x &&& y) pm141 i141_54 rfl (fun _ _ _ _ => rfl) rfl ?_
      refine ev_iload_n pm141 i141_55 rfl rfl rfl ?_
      refine ev_iconst (v := 1) pm141 i141_56 rfl (by decide) rfl ?_
      refine ev_b2 (f := fun x y => x - y) pm141 i141_57 rfl (fun _ _ _ _ => rfl) rfl ?_
      obtain ⟨x7, h8, e6, hS⟩ := bd_s hS
      refine ev_callV (sa := [.int (l3 - (1 : Int32)), .int (l2 &&& (((1 : Int32) <<< (s.2 &&& 31)) ^^^ (-1 : Int32))), .ref l1]) (rest := [.int s.1]) (st' := [.int x7, .int s.1]) (ls0 := [.ref l0, .ref l1, .int (l2 &&& (((1 : Int32) <<< (s.2 &&& 31)) ^^^ (-1 : Int32))), .int (l3 - (1 : Int32)), unk, unk]) (rv := some (.int x7)) pm141 i141_58 rfl rfl pm143 (by decide) (KG_gm_villageMoves e6) rfl rfl (Nat.le_of_ble_eq_true rfl) (by omega) rfl (RG_gm_villageMoves (d - 1) (by omega) (fun hq => hrc2 hq) e6) (by simp) rfl rfl ?_
      obtain ⟨x10, e9, hS⟩ := bn_s hS
      refine ev_callS (sa := [.int x7, .int s.1]) (rest := []) (st' := [.int x10]) (ls0 := [.int s.1, .int x7]) (rv := some (.int x10)) pm141 i141_61 rfl rfl pm22 (by decide) rfl rfl (Nat.le_of_ble_eq_true rfl) (by omega) rfl (R_ma_min (d - 1) (by omega) e9) (by simp) rfl rfl ?_
      refine ev_istore (ls' := [.ref l0, .ref l1, .int l2, .int l3, .int x10, .int s.2]) pm141 i141_64 rfl (Nat.le_of_ble_eq_true rfl) rfl rfl ?_
      refine ev_iinc (v := 1) (ls' := [.ref l0, .ref l1, .int l2, .int l3, .int x10, .int (s.2 + (1 : Int32))]) pm141 i141_66 rfl rfl (by decide) rfl rfl ?_
      refine ev_goto (t := 25) pm141 i141_69 rfl rfl ?_
      cases hS
      exact hK
  · rw [if_neg c339] at hS
    refine ev_icmp_ge_f (t := 72) pm141 i141_31 rfl c339 rfl rfl ?_
    refine ev_kls (ls' := [unk, unk, unk, unk, .int s.1, unk]) pm141 i141_72 rfl rfl ?_
    cases hS
    exact hK
def G_gm_kingMoves (rc : Nat → Nat → Int32 → Int32 → Hp → Option (Int32 × Hp)) (a0 : Nat) (a1 : Nat) (a2 : Int32) (a3 : Int32) (h : Hp) : Option (Int32 × Hp) :=
  ck h a0 0 (if (0 : Int32) < a3 then
    (bd (G_gm_villageMoves rc a0 a1 a2 (a3 - (1 : Int32)) h) fun x2 h3 =>
    bd (lp (B_gm_kingMoves_25 rc a0 a1 a2 a3) FU (x2, (0 : Int32)) h3) fun x11 h13 =>
    some (x11, h13))
  else
    (bd (F_gm_dryBy a0 a1 a2 h) fun x15 h16 =>
    some (x15, h16)))
set_option maxRecDepth 20000 in
theorem KG_gm_kingMoves {rc : Nat → Nat → Int32 → Int32 → Hp → Option (Int32 × Hp)} {a0 : Nat} {a1 : Nat} {a2 : Int32} {a3 : Int32} {h : Hp} {v : Int32} {h' : Hp} (hS : G_gm_kingMoves rc a0 a1 a2 a3 h = some (v, h')) : kd h a0 = 0 := by
  unfold G_gm_kingMoves at hS
  exact (ck_s hS).1
set_option maxRecDepth 20000 in
theorem RG_gm_kingMoves (d : Nat) (hd : 6 ≤ d) {rc : Nat → Nat → Int32 → Int32 → Hp → Option (Int32 × Hp)} (hrc2 : ∀ {a0 a1 : Nat} {a2 a3 : Int32} {h h' : Hp} {v : Int32}, rc a0 a1 a2 a3 h = some (v, h') → kd h a0 = 0 ∧ Ev P (d - 1 - 1) 141 (0, [.ref a0, .ref a1, .int a2, .int a3, unk, unk], [], h) (some (.int v), h')) {a0 : Nat} {a1 : Nat} {a2 : Int32} {a3 : Int32} {h : Hp} {v : Int32} {h' : Hp} (hS : G_gm_kingMoves rc a0 a1 a2 a3 h = some (v, h')) : Ev P d 141 (0, [.ref a0, .ref a1, .int a2, .int a3, unk, unk], [], h) (some (.int v), h') := by
  unfold G_gm_kingMoves at hS
  replace hS := (ck_s hS).2
  refine ev_iload_n pm141 i141_0 rfl rfl rfl ?_
  by_cases c341 : (0 : Int32) < a3
  · rw [if_pos c341] at hS
    refine ev_if_gt_t (t := 11) pm141 i141_1 rfl c341 rfl rfl ?_
    refine ev_aload_n pm141 i141_11 rfl rfl rfl ?_
    refine ev_aload_n pm141 i141_12 rfl rfl rfl ?_
    refine ev_iload_n pm141 i141_13 rfl rfl rfl ?_
    refine ev_iload_n pm141 i141_14 rfl rfl rfl ?_
    refine ev_iconst (v := 1) pm141 i141_15 rfl (by decide) rfl ?_
    refine ev_b2 (f := fun x y => x - y) pm141 i141_16 rfl (fun _ _ _ _ => rfl) rfl ?_
    obtain ⟨x2, h3, e1, hS⟩ := bd_s hS
    refine ev_callV (sa := [.int (a3 - (1 : Int32)), .int a2, .ref a1]) (rest := []) (st' := [.int x2]) (ls0 := [.ref a0, .ref a1, .int a2, .int (a3 - (1 : Int32)), unk, unk]) (rv := some (.int x2)) pm141 i141_17 rfl rfl pm143 (by decide) (KG_gm_villageMoves e1) rfl rfl (Nat.le_of_ble_eq_true rfl) (by omega) rfl (RG_gm_villageMoves (d - 1) (by omega) (fun hq => hrc2 hq) e1) (by simp) rfl rfl ?_
    refine ev_istore (ls' := [.ref a0, .ref a1, .int a2, .int a3, .int x2, unk]) pm141 i141_20 rfl (Nat.le_of_ble_eq_true rfl) rfl rfl ?_
    refine ev_iconst (v := 0) pm141 i141_22 rfl (by decide) rfl ?_
    refine ev_istore (ls' := [.ref a0, .ref a1, .int a2, .int a3, .int x2, .int (0 : Int32)]) pm141 i141_23 rfl (Nat.le_of_ble_eq_true rfl) rfl rfl ?_
    obtain ⟨x11, h13, e12, hS⟩ := bd_s hS
    refine L_gm_kingMoves_25 d (by omega) (fun hq => hrc2 hq) _ _ _ _ _ e12 _ ?_
    show Ev P d 141 (72, [unk, unk, unk, unk, .int x11, unk], [], h13) _
    refine ev_iload pm141 i141_72 rfl rfl rfl ?_
    cases hS
    exact ev_ireturn pm141 i141_74 rfl rfl rfl
  · rw [if_neg c341] at hS
    refine ev_if_gt_f (t := 11) pm141 i141_1 rfl c341 rfl rfl ?_
    refine ev_aload_n pm141 i141_4 rfl rfl rfl ?_
    refine ev_aload_n pm141 i141_5 rfl rfl rfl ?_
    refine ev_iload_n pm141 i141_6 rfl rfl rfl ?_
    obtain ⟨x15, h16, e14, hS⟩ := bd_s hS
    refine ev_callV (sa := [.int a2, .ref a1]) (rest := []) (st' := [.int x15]) (ls0 := [.ref a0, .ref a1, .int a2]) (rv := some (.int x15)) pm141 i141_7 rfl rfl pm142 (by decide) (K_gm_dryBy e14) rfl rfl (Nat.le_of_ble_eq_true rfl) (by omega) rfl (R_gm_dryBy (d - 1) (by omega) e14) (by simp) rfl rfl ?_
    cases hS
    exact ev_ireturn pm141 i141_10 rfl rfl rfl
def F_gm_kingMoves : Nat → Nat → Nat → Int32 → Int32 → Hp → Option (Int32 × Hp)
  | 0 => fun _ _ _ _ _ => none
  | n + 1 => G_gm_kingMoves (F_gm_kingMoves n)
def F_gm_villageMoves (n : Nat) : Nat → Nat → Int32 → Int32 → Hp → Option (Int32 × Hp) := G_gm_villageMoves (F_gm_kingMoves n)
theorem K_gm_kingMoves' (n : Nat) {a0 a1 : Nat} {a2 a3 : Int32} {h h' : Hp} {v : Int32} (hS : F_gm_kingMoves n a0 a1 a2 a3 h = some (v, h')) : kd h a0 = 0 := by
  cases n with
  | zero => cases hS
  | succ n => exact KG_gm_kingMoves hS
theorem R_gm_kingMoves' (n : Nat) : ∀ (d : Nat) (hd : 2 * n + 7 ≤ d) {a0 a1 : Nat} {a2 a3 : Int32} {h h' : Hp} {v : Int32} (hS : F_gm_kingMoves n a0 a1 a2 a3 h = some (v, h')), Ev P d 141 (0, [.ref a0, .ref a1, .int a2, .int a3, unk, unk], [], h) (some (.int v), h') := by
  induction n with
  | zero => intro d hd a0 a1 a2 a3 h h' v hS; cases hS
  | succ n ih => exact fun d hd {a0 a1 a2 a3 h h' v} hS => RG_gm_kingMoves d (by omega) (fun hq => ⟨K_gm_kingMoves' n hq, ih (d - 1 - 1) (by omega) hq⟩) hS
theorem K_gm_kingMoves {a0 a1 : Nat} {a2 a3 : Int32} {h h' : Hp} {v : Int32} (hS : F_gm_kingMoves 6 a0 a1 a2 a3 h = some (v, h')) : kd h a0 = 0 := K_gm_kingMoves' 6 hS
theorem R_gm_kingMoves (d : Nat) (hd : 12 + 7 ≤ d) {a0 a1 : Nat} {a2 a3 : Int32} {h h' : Hp} {v : Int32} (hS : F_gm_kingMoves 6 a0 a1 a2 a3 h = some (v, h')) : Ev P d 141 (0, [.ref a0, .ref a1, .int a2, .int a3, unk, unk], [], h) (some (.int v), h') := R_gm_kingMoves' 6 d hd hS
theorem K_gm_villageMoves {a0 a1 : Nat} {a2 a3 : Int32} {h h' : Hp} {v : Int32} (hS : F_gm_villageMoves 6 a0 a1 a2 a3 h = some (v, h')) : kd h a0 = 0 := KG_gm_villageMoves hS
theorem R_gm_villageMoves (d : Nat) (hd : 14 + 7 ≤ d) {a0 a1 : Nat} {a2 a3 : Int32} {h h' : Hp} {v : Int32} (hS : F_gm_villageMoves 6 a0 a1 a2 a3 h = some (v, h')) : Ev P d 143 (0, [.ref a0, .ref a1, .int a2, .int a3, unk, unk], [], h) (some (.int v), h') := RG_gm_villageMoves d (by omega) (fun hq => ⟨K_gm_kingMoves' 6 hq, R_gm_kingMoves' 6 (d - 1) (by omega) hq⟩) hS
def F_gm_valueOf (a0 : Nat) (a1 : Nat) (a2 : Nat) (a3 : Int32) (h : Hp) : Option (Int32 × Hp) :=
  ck h a0 0 (bn (gR h a0 0 0) fun x1 =>
  bn (F_ra_weigh x1 a1 a2 h) fun h4 =>
  bn (gI h4 a2 8 2) fun x5 =>
  bd (F_gm_kingMoves 6 a0 a1 x5 a3 h4) fun x8 h9 =>
  some (x8, h9))
set_option maxRecDepth 20000 in
theorem K_gm_valueOf {a0 : Nat} {a1 : Nat} {a2 : Nat} {a3 : Int32} {h : Hp} {v : Int32} {h' : Hp} (hS : F_gm_valueOf a0 a1 a2 a3 h = some (v, h')) : kd h a0 = 0 := by
  unfold F_gm_valueOf at hS
  exact (ck_s hS).1
set_option maxRecDepth 20000 in
theorem R_gm_valueOf (d : Nat) (hd : 20 ≤ d) {a0 : Nat} {a1 : Nat} {a2 : Nat} {a3 : Int32} {h : Hp} {v : Int32} {h' : Hp} (hS : F_gm_valueOf a0 a1 a2 a3 h = some (v, h')) : Ev P d 140 (0, [.ref a0, .ref a1, .ref a2, .int a3], [], h) (some (.int v), h') := by
  unfold F_gm_valueOf at hS
  replace hS := (ck_s hS).2
  refine ev_aload_n pm140 i140_0 rfl rfl rfl ?_
  obtain ⟨x1, e2, hS⟩ := bn_s hS
  refine ev_getR pm140 i140_1 rfl rfl rfl e2 rfl ?_
  refine ev_aload_n pm140 i140_4 rfl rfl rfl ?_
  refine ev_aload_n pm140 i140_5 rfl rfl rfl ?_
  obtain ⟨h4, e3, hS⟩ := bn_s hS
  refine ev_callV (sa := [.ref a2, .ref a1]) (rest := []) (st' := []) (ls0 := [.ref x1, .ref a1, .ref a2, unk]) (rv := none) pm140 i140_6 rfl rfl pm65 (by decide) (K_ra_weigh e3) rfl rfl (Nat.le_of_ble_eq_true rfl) (by omega) rfl (R_ra_weigh (d - 1) (by omega) e3) (by simp) rfl rfl ?_
  refine ev_aload_n pm140 i140_9 rfl rfl rfl ?_
  refine ev_aload_n pm140 i140_10 rfl rfl rfl ?_
  refine ev_aload_n pm140 i140_11 rfl rfl rfl ?_
  obtain ⟨x5, e6, hS⟩ := bn_s hS
  refine ev_getI pm140 i140_12 rfl rfl (by decide) e6 rfl ?_
  refine ev_iload_n pm140 i140_15 rfl rfl rfl ?_
  obtain ⟨x8, h9, e7, hS⟩ := bd_s hS
  refine ev_callV (sa := [.int a3, .int x5, .ref a1]) (rest := []) (st' := [.int x8]) (ls0 := [.ref a0, .ref a1, .int x5, .int a3, unk, unk]) (rv := some (.int x8)) pm140 i140_16 rfl rfl pm141 (by decide) (K_gm_kingMoves e7) rfl rfl (Nat.le_of_ble_eq_true rfl) (by omega) rfl (R_gm_kingMoves (d - 1) (by omega) e7) (by simp) rfl rfl ?_
  cases hS
  exact ev_ireturn pm140 i140_19 rfl rfl rfl
def F_cs_value (a0 : Nat) (a1 : Int32) (h : Hp) : Option (Int32 × Hp) :=
  ck h a0 11 (bn (F_cs_noLake a0 h) fun x2 =>
  bn (F_cs_outside a1 (0 : Int32) (4 : Int32)) fun x4 =>
  bd (F_cs_refused a0 x2 x4 h) fun x6 h7 =>
  if x6 = (0 : Int32) then
    (bn (gR h7 a0 11 10) fun x8 =>
    bn (gR h7 a0 11 3) fun x10 =>
    bn (gR h7 a0 11 4) fun x12 =>
    bd (F_gm_valueOf x8 x10 x12 a1 h7) fun x15 h16 =>
    some (x15, h16))
  else
    (some ((-1 : Int32), h7)))
set_option maxRecDepth 20000 in
theorem K_cs_value {a0 : Nat} {a1 : Int32} {h : Hp} {v : Int32} {h' : Hp} (hS : F_cs_value a0 a1 h = some (v, h')) : kd h a0 = 11 := by
  unfold F_cs_value at hS
  exact (ck_s hS).1
set_option maxRecDepth 20000 in
theorem R_cs_value (d : Nat) (hd : 21 ≤ d) {a0 : Nat} {a1 : Int32} {h : Hp} {v : Int32} {h' : Hp} (hS : F_cs_value a0 a1 h = some (v, h')) : Ev P d 139 (0, [.ref a0, .int a1], [], h) (some (.int v), h') := by
  unfold F_cs_value at hS
  replace hS := (ck_s hS).2
  refine ev_aload_n pm139 i139_0 rfl rfl rfl ?_
  refine ev_aload_n pm139 i139_1 rfl rfl rfl ?_
  obtain ⟨x2, e1, hS⟩ := bn_s hS
  refine ev_callV (sa := []) (rest := [.ref a0]) (st' := [.int x2, .ref a0]) (ls0 := [.ref a0]) (rv := some (.int x2)) pm139 i139_2 rfl rfl pm86 (by decide) (K_cs_noLake e1) rfl rfl (Nat.le_of_ble_eq_true rfl) (by omega) rfl (R_cs_noLake (d - 1) (by omega) e1) (by simp) rfl rfl ?_
  refine ev_iload_n pm139 i139_5 rfl rfl rfl ?_
  refine ev_iconst (v := 0) pm139 i139_6 rfl (by decide) rfl ?_
  refine ev_iconst (v := 4) pm139 i139_7 rfl (by decide) rfl ?_
  obtain ⟨x4, e3, hS⟩ := bn_s hS
  refine ev_callS (sa := [.int (4 : Int32), .int (0 : Int32), .int a1]) (rest := [.int x2, .ref a0]) (st' := [.int x4, .int x2, .ref a0]) (ls0 := [.int a1, .int (0 : Int32), .int (4 : Int32)]) (rv := some (.int x4)) pm139 i139_8 rfl rfl pm17 (by decide) rfl rfl (Nat.le_of_ble_eq_true rfl) (by omega) rfl (R_cs_outside (d - 1) (by omega) e3) (by simp) rfl rfl ?_
  obtain ⟨x6, h7, e5, hS⟩ := bd_s hS
  refine ev_callV (sa := [.int x4, .int x2]) (rest := []) (st' := [.int x6]) (ls0 := [.ref a0, .int x2, .int x4]) (rv := some (.int x6)) pm139 i139_11 rfl rfl pm18 (by decide) (K_cs_refused e5) rfl rfl (Nat.le_of_ble_eq_true rfl) (by omega) rfl (R_cs_refused (d - 1) (by omega) e5) (by simp) rfl rfl ?_
  by_cases c342 : x6 = (0 : Int32)
  · rw [if_pos c342] at hS
    refine ev_if_eq_t (t := 19) pm139 i139_14 rfl c342 rfl rfl ?_
    refine ev_aload_n pm139 i139_19 rfl rfl rfl ?_
    obtain ⟨x8, e9, hS⟩ := bn_s hS
    refine ev_getR pm139 i139_20 rfl rfl rfl e9 rfl ?_
    refine ev_aload_n pm139 i139_23 rfl rfl rfl ?_
    obtain ⟨x10, e11, hS⟩ := bn_s hS
    refine ev_getR pm139 i139_24 rfl rfl rfl e11 rfl ?_
    refine ev_aload_n pm139 i139_27 rfl rfl rfl ?_
    obtain ⟨x12, e13, hS⟩ := bn_s hS
    refine ev_getR pm139 i139_28 rfl rfl rfl e13 rfl ?_
    refine ev_iload_n pm139 i139_31 rfl rfl rfl ?_
    obtain ⟨x15, h16, e14, hS⟩ := bd_s hS
    refine ev_callV (sa := [.int a1, .ref x12, .ref x10]) (rest := []) (st' := [.int x15]) (ls0 := [.ref x8, .ref x10, .ref x12, .int a1]) (rv := some (.int x15)) pm139 i139_32 rfl rfl pm140 (by decide) (K_gm_valueOf e14) rfl rfl (Nat.le_of_ble_eq_true rfl) (by omega) rfl (R_gm_valueOf (d - 1) (by omega) e14) (by simp) rfl rfl ?_
    cases hS
    exact ev_ireturn pm139 i139_35 rfl rfl rfl
  · rw [if_neg c342] at hS
    refine ev_if_eq_f (t := 19) pm139 i139_14 rfl c342 rfl rfl ?_
    refine ev_iconst (v := -1) pm139 i139_17 rfl (by decide) rfl ?_
    cases hS
    exact ev_ireturn pm139 i139_18 rfl rfl rfl
def B_gm_firstCut_30 (l0 : Nat) (l1 : Nat) (l2 : Nat) (l3 : Int32) (s : Int32 × Int32 × Int32) (h : Hp) : Option (((Int32 × Int32 × Int32) ⊕ (Int32)) × Hp) :=
  bn (gI h l1 10 5) fun x10 =>
  if s.2.2 < x10 then
    (bn (F_st_isTied l2 s.2.2 h) fun x13 =>
    if x13 = (0 : Int32) then
      (some (.inl (s.1, s.2.1, s.2.2 + (1 : Int32)), h))
    else
      (bn (gI h l2 8 2) fun x14 =>
      bd (F_gm_villageMoves 6 l0 l1 (x14 &&& (((1 : Int32) <<< (s.2.2 &&& 31)) ^^^ (-1 : Int32))) (l3 - (1 : Int32)) h) fun x17 h18 =>
      if x17 < s.1 then
        (some (.inl (x17, s.2.2, s.2.2 + (1 : Int32)), h18))
      else
        (some (.inl (s.1, s.2.1, s.2.2 + (1 : Int32)), h18))))
  else
    (some (.inr s.2.1, h))
set_option maxRecDepth 20000 in
theorem L_gm_firstCut_30 (d : Nat) (hd : 22 ≤ d) {l0 : Nat} {l1 : Nat} {l2 : Nat} {l3 : Int32} : ∀ (n : Nat) (s : Int32 × Int32 × Int32) (h : Hp) (x : Int32) (hx : Hp), lp (B_gm_firstCut_30 l0 l1 l2 l3) n s h = some (x, hx) → ∀ r, Ev P d 146 (90, [unk, unk, unk, unk, unk, .int x, unk, unk], [], hx) r → Ev P d 146 (30, [.ref l0, .ref l1, .ref l2, .int l3, .int s.1, .int s.2.1, .int s.2.2, unk], [], h) r := by
  refine lp_ev (G0 := fun (s : Int32 × Int32 × Int32) h r => Ev P d 146 (30, [.ref l0, .ref l1, .ref l2, .int l3, .int s.1, .int s.2.1, .int s.2.2, unk], [], h) r) (X := fun (x : Int32) hx r => Ev P d 146 (90, [unk, unk, unk, unk, unk, .int x, unk, unk], [], hx) r) ?_
  intro s h y h9 hS r hK
  unfold B_gm_firstCut_30 at hS
  show Ev P d 146 (30, [.ref l0, .ref l1, .ref l2, .int l3, .int s.1, .int s.2.1, .int s.2.2, unk], [], h) r
  refine ev_iload pm146 i146_30 rfl rfl rfl ?_
  refine ev_aload_n pm146 i146_32 rfl rfl rfl ?_
  obtain ⟨x10, e11, hS⟩ := bn_s hS
  refine ev_getI pm146 i146_33 rfl rfl (by decide) e11 rfl ?_
  by_cases c343 : s.2.2 < x10
  · rw [if_pos c343] at hS
    refine ev_icmp_ge_t (t := 90) pm146 i146_36 rfl c343 rfl rfl ?_
    refine ev_aload_n pm146 i146_39 rfl rfl rfl ?_
    refine ev_iload pm146 i146_40 rfl rfl rfl ?_
    obtain ⟨x13, e12, hS⟩ := bn_s hS
    refine ev_callV (sa := [.int s.2.2]) (rest := []) (st' := [.int x13]) (ls0 := [.ref l2, .int s.2.2]) (rv := some (.int x13)) pm146 i146_42 rfl rfl pm84 (by decide) (K_st_isTied e12) rfl rfl (Nat.le_of_ble_eq_true rfl) (by omega) rfl (R_st_isTied (d - 1) (by omega) e12) (by simp) rfl rfl ?_
    by_cases c344 : x13 = (0 : Int32)
    · rw [if_pos c344] at hS
      refine ev_if_eq_t (t := 84) pm146 i146_45 rfl c344 rfl rfl ?_
      refine ev_iinc (v := 1) (ls' := [.ref l0, .ref l1, .ref l2, .int l3, .int s.1, .int s.2.1, .int (s.2.2 + (1 : Int32)), unk]) pm146 i146_84 rfl rfl (by decide) rfl rfl ?_
      refine ev_goto (t := 30) pm146 i146_87 rfl rfl ?_
      cases hS
      exact hK
    · rw [if_neg c344] at hS
      refine ev_if_eq_f (t := 84) pm146 i146_45 rfl c344 rfl rfl ?_
      refine ev_aload_n pm146 i146_48 rfl rfl rfl ?_
      refine ev_aload_n pm146 i146_49 rfl rfl rfl ?_
      refine ev_aload_n pm146 i146_50 rfl rfl rfl ?_
      obtain ⟨x14, e15, hS⟩ := bn_s hS
      refine ev_getI pm146 i146_51 rfl rfl (by decide) e15 rfl ?_
      refine ev_iconst (v := 1) pm146 i146_54 rfl (by decide) rfl ?_
      refine ev_iload pm146 i146_55 rfl rfl rfl ?_
      refine ev_b2 (f := fun x y => x <<< (y &&& 31)) pm146 i146_57 rfl (fun _ _ _ _ => rfl) rfl ?_
      refine ev_iconst (v := -1) pm146 i146_58 rfl (by decide) rfl ?_
      refine ev_b2 (f := fun x y => x ^^^ y) pm146 i146_59 rfl (fun _ _ _ _ => rfl) rfl ?_
      refine ev_b2 (f := fun x y => x &&& y) pm146 i146_60 rfl (fun _ _ _ _ => rfl) rfl ?_
      refine ev_iload_n pm146 i146_61 rfl rfl rfl ?_
      refine ev_iconst (v := 1) pm146 i146_62 rfl (by decide) rfl ?_
      refine ev_b2 (f := fun x y => x - y) pm146 i146_63 rfl (fun _ _ _ _ => rfl) rfl ?_
      obtain ⟨x17, h18, e16, hS⟩ := bd_s hS
      refine ev_callV (sa := [.int (l3 - (1 : Int32)), .int (x14 &&& (((1 : Int32) <<< (s.2.2 &&& 31)) ^^^ (-1 : Int32))), .ref l1]) (rest := []) (st' := [.int x17]) (ls0 := [.ref l0, .ref l1, .int (x14 &&& (((1 : Int32) <<< (s.2.2 &&& 31)) ^^^ (-1 : Int32))), .int (l3 - (1 : Int32)), unk, unk]) (rv := some (.int x17)) pm146 i146_64 rfl rfl pm143 (by decide) (K_gm_villageMoves e16) rfl rfl (Nat.le_of_ble_eq_true rfl) (by omega) rfl (R_gm_villageMoves (d - 1) (by omega) e16) (by simp) rfl rfl ?_
      refine ev_istore (ls' := [.ref l0, .ref l1, .ref l2, .int l3, .int s.1, .int s.2.1, .int s.2.2, .int x17]) pm146 i146_67 rfl (Nat.le_of_ble_eq_true rfl) rfl rfl ?_
      refine ev_iload pm146 i146_69 rfl rfl rfl ?_
      refine ev_iload pm146 i146_71 rfl rfl rfl ?_
      by_cases c345 : x17 < s.1
      · rw [if_pos c345] at hS
        refine ev_icmp_ge_t (t := 84) pm146 i146_73 rfl c345 rfl rfl ?_
        refine ev_iload pm146 i146_76 rfl rfl rfl ?_
        refine ev_istore (ls' := [.ref l0, .ref l1, .ref l2, .int l3, .int x17, .int s.2.1, .int s.2.2, .int x17]) pm146 i146_78 rfl (Nat.le_of_ble_eq_true rfl) rfl rfl ?_
        refine ev_iload pm146 i146_80 rfl rfl rfl ?_
        refine ev_istore (ls' := [.ref l0, .ref l1, .ref l2, .int l3, .int x17, .int s.2.2, .int s.2.2, .int x17]) pm146 i146_82 rfl (Nat.le_of_ble_eq_true rfl) rfl rfl ?_
        refine ev_kls (ls' := [.ref l0, .ref l1, .ref l2, .int l3, .int x17, .int s.2.2, .int s.2.2, unk]) pm146 i146_84 rfl rfl ?_
        refine ev_iinc (v := 1) (ls' := [.ref l0, .ref l1, .ref l2, .int l3, .int x17, .int s.2.2, .int (s.2.2 + (1 : Int32)), unk]) pm146 i146_84 rfl rfl (by decide) rfl rfl ?_
        refine ev_goto (t := 30) pm146 i146_87 rfl rfl ?_
        cases hS
        exact hK
      · rw [if_neg c345] at hS
        refine ev_icmp_ge_f (t := 84) pm146 i146_73 rfl c345 rfl rfl ?_
        refine ev_kls (ls' := [.ref l0, .ref l1, .ref l2, .int l3, .int s.1, .int s.2.1, .int s.2.2, unk]) pm146 i146_84 rfl rfl ?_
        refine ev_iinc (v := 1) (ls' := [.ref l0, .ref l1, .ref l2, .int l3, .int s.1, .int s.2.1, .int (s.2.2 + (1 : Int32)), unk]) pm146 i146_84 rfl rfl (by decide) rfl rfl ?_
        refine ev_goto (t := 30) pm146 i146_87 rfl rfl ?_
        cases hS
        exact hK
  · rw [if_neg c343] at hS
    refine ev_icmp_ge_f (t := 90) pm146 i146_36 rfl c343 rfl rfl ?_
    refine ev_kls (ls' := [unk, unk, unk, unk, unk, .int s.2.1, unk, unk]) pm146 i146_90 rfl rfl ?_
    cases hS
    exact hK
def F_gm_firstCut (a0 : Nat) (a1 : Nat) (a2 : Nat) (a3 : Int32) (h : Hp) : Option (Int32 × Hp) :=
  ck h a0 0 (bn (gR h a0 0 0) fun x1 =>
  bn (F_ra_weigh x1 a1 a2 h) fun h4 =>
  bn (gI h4 a2 8 2) fun x5 =>
  bd (F_gm_villageMoves 6 a0 a1 x5 (a3 - (1 : Int32)) h4) fun x8 h9 =>
  bd (lp (B_gm_firstCut_30 a0 a1 a2 a3) FU (x8, (-2 : Int32), (0 : Int32)) h9) fun x19 h21 =>
  some (x19, h21))
set_option maxRecDepth 20000 in
theorem K_gm_firstCut {a0 : Nat} {a1 : Nat} {a2 : Nat} {a3 : Int32} {h : Hp} {v : Int32} {h' : Hp} (hS : F_gm_firstCut a0 a1 a2 a3 h = some (v, h')) : kd h a0 = 0 := by
  unfold F_gm_firstCut at hS
  exact (ck_s hS).1
set_option maxRecDepth 20000 in
theorem R_gm_firstCut (d : Nat) (hd : 22 ≤ d) {a0 : Nat} {a1 : Nat} {a2 : Nat} {a3 : Int32} {h : Hp} {v : Int32} {h' : Hp} (hS : F_gm_firstCut a0 a1 a2 a3 h = some (v, h')) : Ev P d 146 (0, [.ref a0, .ref a1, .ref a2, .int a3, unk, unk, unk, unk], [], h) (some (.int v), h') := by
  unfold F_gm_firstCut at hS
  replace hS := (ck_s hS).2
  refine ev_aload_n pm146 i146_0 rfl rfl rfl ?_
  obtain ⟨x1, e2, hS⟩ := bn_s hS
  refine ev_getR pm146 i146_1 rfl rfl rfl e2 rfl ?_
  refine ev_aload_n pm146 i146_4 rfl rfl rfl ?_
  refine ev_aload_n pm146 i146_5 rfl rfl rfl ?_
  obtain ⟨h4, e3, hS⟩ := bn_s hS
  refine ev_callV (sa := [.ref a2, .ref a1]) (rest := []) (st' := []) (ls0 := [.ref x1, .ref a1, .ref a2, unk]) (rv := none) pm146 i146_6 rfl rfl pm65 (by decide) (K_ra_weigh e3) rfl rfl (Nat.le_of_ble_eq_true rfl) (by omega) rfl (R_ra_weigh (d - 1) (by omega) e3) (by simp) rfl rfl ?_
  refine ev_aload_n pm146 i146_9 rfl rfl rfl ?_
  refine ev_aload_n pm146 i146_10 rfl rfl rfl ?_
  refine ev_aload_n pm146 i146_11 rfl rfl rfl ?_
  obtain ⟨x5, e6, hS⟩ := bn_s hS
  refine ev_getI pm146 i146_12 rfl rfl (by decide) e6 rfl ?_
  refine ev_iload_n pm146 i146_15 rfl rfl rfl ?_
  refine ev_iconst (v := 1) pm146 i146_16 rfl (by decide) rfl ?_
  refine ev_b2 (f := fun x y => x - y) pm146 i146_17 rfl (fun _ _ _ _ => rfl) rfl ?_
  obtain ⟨x8, h9, e7, hS⟩ := bd_s hS
  refine ev_callV (sa := [.int (a3 - (1 : Int32)), .int x5, .ref a1]) (rest := []) (st' := [.int x8]) (ls0 := [.ref a0, .ref a1, .int x5, .int (a3 - (1 : Int32)), unk, unk]) (rv := some (.int x8)) pm146 i146_18 rfl rfl pm143 (by decide) (K_gm_villageMoves e7) rfl rfl (Nat.le_of_ble_eq_true rfl) (by omega) rfl (R_gm_villageMoves (d - 1) (by omega) e7) (by simp) rfl rfl ?_
  refine ev_istore (ls' := [.ref a0, .ref a1, .ref a2, .int a3, .int x8, unk, unk, unk]) pm146 i146_21 rfl (Nat.le_of_ble_eq_true rfl) rfl rfl ?_
  refine ev_bipush (v := -2) pm146 i146_23 rfl (by decide) rfl ?_
  refine ev_istore (ls' := [.ref a0, .ref a1, .ref a2, .int a3, .int x8, .int (-2 : Int32), unk, unk]) pm146 i146_25 rfl (Nat.le_of_ble_eq_true rfl) rfl rfl ?_
  refine ev_iconst (v := 0) pm146 i146_27 rfl (by decide) rfl ?_
  refine ev_istore (ls' := [.ref a0, .ref a1, .ref a2, .int a3, .int x8, .int (-2 : Int32), .int (0 : Int32), unk]) pm146 i146_28 rfl (Nat.le_of_ble_eq_true rfl) rfl rfl ?_
  obtain ⟨x19, h21, e20, hS⟩ := bd_s hS
  refine L_gm_firstCut_30 d (by omega) _ _ _ _ _ e20 _ ?_
  show Ev P d 146 (90, [unk, unk, unk, unk, unk, .int x19, unk, unk], [], h21) _
  refine ev_iload pm146 i146_90 rfl rfl rfl ?_
  cases hS
  exact ev_ireturn pm146 i146_92 rfl rfl rfl
def F_cs_kingCuts (a0 : Nat) (a1 : Int32) (h : Hp) : Option (Int32 × Hp) :=
  ck h a0 11 (bn (F_cs_noLake a0 h) fun x2 =>
  bn (F_cs_outside a1 (1 : Int32) (4 : Int32)) fun x4 =>
  bd (F_cs_refused a0 x2 x4 h) fun x6 h7 =>
  if x6 = (0 : Int32) then
    (bn (gR h7 a0 11 10) fun x8 =>
    bn (gR h7 a0 11 3) fun x10 =>
    bn (gR h7 a0 11 4) fun x12 =>
    bd (F_gm_firstCut x8 x10 x12 a1 h7) fun x15 h16 =>
    some (x15, h16))
  else
    (some ((-1 : Int32), h7)))
set_option maxRecDepth 20000 in
theorem K_cs_kingCuts {a0 : Nat} {a1 : Int32} {h : Hp} {v : Int32} {h' : Hp} (hS : F_cs_kingCuts a0 a1 h = some (v, h')) : kd h a0 = 11 := by
  unfold F_cs_kingCuts at hS
  exact (ck_s hS).1
set_option maxRecDepth 20000 in
theorem R_cs_kingCuts (d : Nat) (hd : 23 ≤ d) {a0 : Nat} {a1 : Int32} {h : Hp} {v : Int32} {h' : Hp} (hS : F_cs_kingCuts a0 a1 h = some (v, h')) : Ev P d 145 (0, [.ref a0, .int a1], [], h) (some (.int v), h') := by
  unfold F_cs_kingCuts at hS
  replace hS := (ck_s hS).2
  refine ev_aload_n pm145 i145_0 rfl rfl rfl ?_
  refine ev_aload_n pm145 i145_1 rfl rfl rfl ?_
  obtain ⟨x2, e1, hS⟩ := bn_s hS
  refine ev_callV (sa := []) (rest := [.ref a0]) (st' := [.int x2, .ref a0]) (ls0 := [.ref a0]) (rv := some (.int x2)) pm145 i145_2 rfl rfl pm86 (by decide) (K_cs_noLake e1) rfl rfl (Nat.le_of_ble_eq_true rfl) (by omega) rfl (R_cs_noLake (d - 1) (by omega) e1) (by simp) rfl rfl ?_
  refine ev_iload_n pm145 i145_5 rfl rfl rfl ?_
  refine ev_iconst (v := 1) pm145 i145_6 rfl (by decide) rfl ?_
  refine ev_iconst (v := 4) pm145 i145_7 rfl (by decide) rfl ?_
  obtain ⟨x4, e3, hS⟩ := bn_s hS
  refine ev_callS (sa := [.int (4 : Int32), .int (1 : Int32), .int a1]) (rest := [.int x2, .ref a0]) (st' := [.int x4, .int x2, .ref a0]) (ls0 := [.int a1, .int (1 : Int32), .int (4 : Int32)]) (rv := some (.int x4)) pm145 i145_8 rfl rfl pm17 (by decide) rfl rfl (Nat.le_of_ble_eq_true rfl) (by omega) rfl (R_cs_outside (d - 1) (by omega) e3) (by simp) rfl rfl ?_
  obtain ⟨x6, h7, e5, hS⟩ := bd_s hS
  refine ev_callV (sa := [.int x4, .int x2]) (rest := []) (st' := [.int x6]) (ls0 := [.ref a0, .int x2, .int x4]) (rv := some (.int x6)) pm145 i145_11 rfl rfl pm18 (by decide) (K_cs_refused e5) rfl rfl (Nat.le_of_ble_eq_true rfl) (by omega) rfl (R_cs_refused (d - 1) (by omega) e5) (by simp) rfl rfl ?_
  by_cases c346 : x6 = (0 : Int32)
  · rw [if_pos c346] at hS
    refine ev_if_eq_t (t := 19) pm145 i145_14 rfl c346 rfl rfl ?_
    refine ev_aload_n pm145 i145_19 rfl rfl rfl ?_
    obtain ⟨x8, e9, hS⟩ := bn_s hS
    refine ev_getR pm145 i145_20 rfl rfl rfl e9 rfl ?_
    refine ev_aload_n pm145 i145_23 rfl rfl rfl ?_
    obtain ⟨x10, e11, hS⟩ := bn_s hS
    refine ev_getR pm145 i145_24 rfl rfl rfl e11 rfl ?_
    refine ev_aload_n pm145 i145_27 rfl rfl rfl ?_
    obtain ⟨x12, e13, hS⟩ := bn_s hS
    refine ev_getR pm145 i145_28 rfl rfl rfl e13 rfl ?_
    refine ev_iload_n pm145 i145_31 rfl rfl rfl ?_
    obtain ⟨x15, h16, e14, hS⟩ := bd_s hS
    refine ev_callV (sa := [.int a1, .ref x12, .ref x10]) (rest := []) (st' := [.int x15]) (ls0 := [.ref x8, .ref x10, .ref x12, .int a1, unk, unk, unk, unk]) (rv := some (.int x15)) pm145 i145_32 rfl rfl pm146 (by decide) (K_gm_firstCut e14) rfl rfl (Nat.le_of_ble_eq_true rfl) (by omega) rfl (R_gm_firstCut (d - 1) (by omega) e14) (by simp) rfl rfl ?_
    cases hS
    exact ev_ireturn pm145 i145_35 rfl rfl rfl
  · rw [if_neg c346] at hS
    refine ev_if_eq_f (t := 19) pm145 i145_14 rfl c346 rfl rfl ?_
    refine ev_iconst (v := -1) pm145 i145_17 rfl (by decide) rfl ?_
    cases hS
    exact ev_ireturn pm145 i145_18 rfl rfl rfl
def F_cs_refusedOdds (a0 : Nat) (a1 : Int32) (a2 : Int32) (h : Hp) : Option (Int32 × Hp) :=
  ck h a0 11 (bn (F_cs_noHouse a0 a1 h) fun x2 =>
  bn (F_cs_outside a2 (0 : Int32) (4 : Int32)) fun x4 =>
  bd (F_cs_refused a0 x2 x4 h) fun x6 h7 =>
  if x6 = (0 : Int32) then
    (bn (gR h7 a0 11 3) fun x8 =>
    bn (F_to_isNorth x8 a1 h7) fun x11 =>
    bn (if x11 = (0 : Int32) then
        (some (1 : Int32))
      else
        (some (0 : Int32))) fun q12 =>
    bd (F_cs_refusedBy a0 (5 : Int32) q12 h7) fun x14 h15 =>
    if x14 = (0 : Int32) then
      (some ((0 : Int32), h15))
    else
      (some ((1 : Int32), h15)))
  else
    (some ((1 : Int32), h7)))
set_option maxRecDepth 20000 in
theorem K_cs_refusedOdds {a0 : Nat} {a1 : Int32} {a2 : Int32} {h : Hp} {v : Int32} {h' : Hp} (hS : F_cs_refusedOdds a0 a1 a2 h = some (v, h')) : kd h a0 = 11 := by
  unfold F_cs_refusedOdds at hS
  exact (ck_s hS).1
set_option maxRecDepth 20000 in
theorem R_cs_refusedOdds (d : Nat) (hd : 2 ≤ d) {a0 : Nat} {a1 : Int32} {a2 : Int32} {h : Hp} {v : Int32} {h' : Hp} (hS : F_cs_refusedOdds a0 a1 a2 h = some (v, h')) : Ev P d 148 (0, [.ref a0, .int a1, .int a2], [], h) (some (.int v), h') := by
  unfold F_cs_refusedOdds at hS
  replace hS := (ck_s hS).2
  refine ev_aload_n pm148 i148_0 rfl rfl rfl ?_
  refine ev_aload_n pm148 i148_1 rfl rfl rfl ?_
  refine ev_iload_n pm148 i148_2 rfl rfl rfl ?_
  obtain ⟨x2, e1, hS⟩ := bn_s hS
  refine ev_callV (sa := [.int a1]) (rest := [.ref a0]) (st' := [.int x2, .ref a0]) (ls0 := [.ref a0, .int a1]) (rv := some (.int x2)) pm148 i148_3 rfl rfl pm63 (by decide) (K_cs_noHouse e1) rfl rfl (Nat.le_of_ble_eq_true rfl) (by omega) rfl (R_cs_noHouse (d - 1) (by omega) e1) (by simp) rfl rfl ?_
  refine ev_iload_n pm148 i148_6 rfl rfl rfl ?_
  refine ev_iconst (v := 0) pm148 i148_7 rfl (by decide) rfl ?_
  refine ev_iconst (v := 4) pm148 i148_8 rfl (by decide) rfl ?_
  obtain ⟨x4, e3, hS⟩ := bn_s hS
  refine ev_callS (sa := [.int (4 : Int32), .int (0 : Int32), .int a2]) (rest := [.int x2, .ref a0]) (st' := [.int x4, .int x2, .ref a0]) (ls0 := [.int a2, .int (0 : Int32), .int (4 : Int32)]) (rv := some (.int x4)) pm148 i148_9 rfl rfl pm17 (by decide) rfl rfl (Nat.le_of_ble_eq_true rfl) (by omega) rfl (R_cs_outside (d - 1) (by omega) e3) (by simp) rfl rfl ?_
  obtain ⟨x6, h7, e5, hS⟩ := bd_s hS
  refine ev_callV (sa := [.int x4, .int x2]) (rest := []) (st' := [.int x6]) (ls0 := [.ref a0, .int x2, .int x4]) (rv := some (.int x6)) pm148 i148_12 rfl rfl pm18 (by decide) (K_cs_refused e5) rfl rfl (Nat.le_of_ble_eq_true rfl) (by omega) rfl (R_cs_refused (d - 1) (by omega) e5) (by simp) rfl rfl ?_
  by_cases c347 : x6 = (0 : Int32)
  · rw [if_pos c347] at hS
    refine ev_if_ne_t (t := 42) pm148 i148_15 rfl c347 rfl rfl ?_
    refine ev_aload_n pm148 i148_18 rfl rfl rfl ?_
    refine ev_iconst (v := 5) pm148 i148_19 rfl (by decide) rfl ?_
    refine ev_aload_n pm148 i148_20 rfl rfl rfl ?_
    obtain ⟨x8, e9, hS⟩ := bn_s hS
    refine ev_getR pm148 i148_21 rfl rfl rfl e9 rfl ?_
    refine ev_iload_n pm148 i148_24 rfl rfl rfl ?_
    obtain ⟨x11, e10, hS⟩ := bn_s hS
    refine ev_callV (sa := [.int a1]) (rest := [.int (5 : Int32), .ref a0]) (st' := [.int x11, .int (5 : Int32), .ref a0]) (ls0 := [.ref x8, .int a1]) (rv := some (.int x11)) pm148 i148_25 rfl rfl pm76 (by decide) (K_to_isNorth e10) rfl rfl (Nat.le_of_ble_eq_true rfl) (by omega) rfl (R_to_isNorth (d - 1) (by omega) e10) (by simp) rfl rfl ?_
    obtain ⟨q12, I348, hS⟩ := bn_s hS
    have J1 : Ev P d 148 (36, [unk, unk, unk], [.int q12, .int (5 : Int32), .ref a0], h7) (some (.int v), h') := by
      obtain ⟨x14, h15, e13, hS⟩ := bd_s hS
      refine ev_callV (sa := [.int q12, .int (5 : Int32)]) (rest := []) (st' := [.int x14]) (ls0 := [.ref a0, .int (5 : Int32), .int q12]) (rv := some (.int x14)) pm148 i148_36 rfl rfl pm56 (by decide) (K_cs_refusedBy e13) rfl rfl (Nat.le_of_ble_eq_true rfl) (by omega) rfl (R_cs_refusedBy (d - 1) (by omega) e13) (by simp) rfl rfl ?_
      by_cases c349 : x14 = (0 : Int32)
      · rw [if_pos c349] at hS
        refine ev_if_eq_t (t := 46) pm148 i148_39 rfl c349 rfl rfl ?_
        refine ev_iconst (v := 0) pm148 i148_46 rfl (by decide) rfl ?_
        cases hS
        exact ev_ireturn pm148 i148_47 rfl (by decide) rfl
      · rw [if_neg c349] at hS
        refine ev_if_eq_f (t := 46) pm148 i148_39 rfl c349 rfl rfl ?_
        refine ev_iconst (v := 1) pm148 i148_42 rfl (by decide) rfl ?_
        refine ev_goto (t := 47) pm148 i148_43 rfl rfl ?_
        cases hS
        exact ev_ireturn pm148 i148_47 rfl (by decide) rfl
    clear hS
    by_cases c348 : x11 = (0 : Int32)
    · rw [if_pos c348] at I348
      refine ev_if_ne_t (t := 35) pm148 i148_28 rfl c348 rfl rfl ?_
      refine ev_iconst (v := 1) pm148 i148_31 rfl (by decide) rfl ?_
      refine ev_goto (t := 36) pm148 i148_32 rfl rfl ?_
      refine ev_kls (ls' := [unk, unk, unk]) pm148 i148_36 rfl rfl ?_
      cases I348
      exact J1
    · rw [if_neg c348] at I348
      refine ev_if_ne_f (t := 35) pm148 i148_28 rfl c348 rfl rfl ?_
      refine ev_iconst (v := 0) pm148 i148_35 rfl (by decide) rfl ?_
      refine ev_kls (ls' := [unk, unk, unk]) pm148 i148_36 rfl rfl ?_
      cases I348
      exact J1
  · rw [if_neg c347] at hS
    refine ev_if_ne_f (t := 42) pm148 i148_15 rfl c347 rfl rfl ?_
    refine ev_kls (ls' := [unk, unk, unk]) pm148 i148_42 rfl rfl ?_
    refine ev_iconst (v := 1) pm148 i148_42 rfl (by decide) rfl ?_
    refine ev_goto (t := 47) pm148 i148_43 rfl rfl ?_
    cases hS
    exact ev_ireturn pm148 i148_47 rfl (by decide) rfl
def B_mo_shareOf_5 (l0 : Int32) (l1 : Int32) (l2 : Int32) (s : Int64 × Int32) : Option ((Int64 × Int32) ⊕ (Int64)) :=
  if s.2 < l1 then
    (if ((l0 >>> (s.2 &&& 31)) &&& (1 : Int32)) = (0 : Int32) then
      (some (.inl (s.1 * (((100 : Int32) - l2).toInt64), s.2 + (1 : Int32))))
    else
      (some (.inl (s.1 * l2.toInt64, s.2 + (1 : Int32)))))
  else
    (some (.inr s.1))
set_option maxRecDepth 20000 in
theorem L_mo_shareOf_5 (d : Nat) (hd : 0 ≤ d) {l0 : Int32} {l1 : Int32} {l2 : Int32} {h : Hp} : ∀ (n : Nat) (s : Int64 × Int32) (x : Int64), lq (B_mo_shareOf_5 l0 l1 l2) n s = some x → ∀ r, Ev P d 150 (39, [unk, unk, unk, .long x, unk, unk], [], h) r → Ev P d 150 (5, [.int l0, .int l1, .int l2, .long s.1, unk, .int s.2], [], h) r := by
  refine lq_ev (G0 := fun (s : Int64 × Int32) r => Ev P d 150 (5, [.int l0, .int l1, .int l2, .long s.1, unk, .int s.2], [], h) r) (X := fun (x : Int64) r => Ev P d 150 (39, [unk, unk, unk, .long x, unk, unk], [], h) r) ?_
  intro s y hS r hK
  unfold B_mo_shareOf_5 at hS
  show Ev P d 150 (5, [.int l0, .int l1, .int l2, .long s.1, unk, .int s.2], [], h) r
  refine ev_iload pm150 i150_5 rfl rfl rfl ?_
  refine ev_iload_n pm150 i150_7 rfl rfl rfl ?_
  by_cases c350 : s.2 < l1
  · rw [if_pos c350] at hS
    refine ev_icmp_ge_t (t := 39) pm150 i150_8 rfl c350 rfl rfl ?_
    refine ev_lload_n pm150 i150_11 rfl rfl rfl ?_
    refine ev_iload_n pm150 i150_12 rfl rfl rfl ?_
    refine ev_iload pm150 i150_13 rfl rfl rfl ?_
    refine ev_b2 (f := fun x y => x >>> (y &&& 31)) pm150 i150_15 rfl (fun _ _ _ _ => rfl) rfl ?_
    refine ev_iconst (v := 1) pm150 i150_16 rfl (by decide) rfl ?_
    refine ev_b2 (f := fun x y => x &&& y) pm150 i150_17 rfl (fun _ _ _ _ => rfl) rfl ?_
    by_cases c351 : ((l0 >>> (s.2 &&& 31)) &&& (1 : Int32)) = (0 : Int32)
    · rw [if_pos c351] at hS
      refine ev_if_eq_t (t := 26) pm150 i150_18 rfl c351 rfl rfl ?_
      refine ev_bipush (v := 100) pm150 i150_26 rfl (by decide) rfl ?_
      refine ev_iload_n pm150 i150_28 rfl rfl rfl ?_
      refine ev_b2 (f := fun x y => x - y) pm150 i150_29 rfl (fun _ _ _ _ => rfl) rfl ?_
      refine ev_i2l pm150 i150_30 rfl rfl ?_
      refine ev_kls (ls' := [.int l0, .int l1, .int l2, unk, unk, .int s.2]) pm150 i150_31 rfl rfl ?_
      refine ev_bl2 (f := fun x y => x * y) pm150 i150_31 rfl (fun _ _ _ _ => rfl) rfl ?_
      refine ev_lstore_n (ls' := [.int l0, .int l1, .int l2, .long (s.1 * (((100 : Int32) - l2).toInt64)), unk, .int s.2]) pm150 i150_32 rfl (Nat.le_of_ble_eq_true rfl) rfl rfl ?_
      refine ev_iinc (v := 1) (ls' := [.int l0, .int l1, .int l2, .long (s.1 * (((100 : Int32) - l2).toInt64)), unk, .int (s.2 + (1 : Int32))]) pm150 i150_33 rfl rfl (by decide) rfl rfl ?_
      refine ev_goto (t := 5) pm150 i150_36 rfl rfl ?_
      cases hS
      exact hK
    · rw [if_neg c351] at hS
      refine ev_if_eq_f (t := 26) pm150 i150_18 rfl c351 rfl rfl ?_
      refine ev_iload_n pm150 i150_21 rfl rfl rfl ?_
      refine ev_i2l pm150 i150_22 rfl rfl ?_
      refine ev_goto (t := 31) pm150 i150_23 rfl rfl ?_
      refine ev_kls (ls' := [.int l0, .int l1, .int l2, unk, unk, .int s.2]) pm150 i150_31 rfl rfl ?_
      refine ev_bl2 (f := fun x y => x * y) pm150 i150_31 rfl (fun _ _ _ _ => rfl) rfl ?_
      refine ev_lstore_n (ls' := [.int l0, .int l1, .int l2, .long (s.1 * l2.toInt64), unk, .int s.2]) pm150 i150_32 rfl (Nat.le_of_ble_eq_true rfl) rfl rfl ?_
      refine ev_iinc (v := 1) (ls' := [.int l0, .int l1, .int l2, .long (s.1 * l2.toInt64), unk, .int (s.2 + (1 : Int32))]) pm150 i150_33 rfl rfl (by decide) rfl rfl ?_
      refine ev_goto (t := 5) pm150 i150_36 rfl rfl ?_
      cases hS
      exact hK
  · rw [if_neg c350] at hS
    refine ev_icmp_ge_f (t := 39) pm150 i150_8 rfl c350 rfl rfl ?_
    refine ev_kls (ls' := [unk, unk, unk, .long s.1, unk, unk]) pm150 i150_39 rfl rfl ?_
    cases hS
    exact hK
def F_mo_shareOf (a0 : Int32) (a1 : Int32) (a2 : Int32) : Option Int64 :=
  bn (lq (B_mo_shareOf_5 a0 a1 a2) FU ((1 : Int64), (0 : Int32))) fun x1 =>
  some x1
set_option maxRecDepth 20000 in
theorem R_mo_shareOf (d : Nat) (hd : 0 ≤ d) {a0 : Int32} {a1 : Int32} {a2 : Int32} {h : Hp} {v : Int64} (hS : F_mo_shareOf a0 a1 a2 = some v) : Ev P d 150 (0, [.int a0, .int a1, .int a2, unk, unk, unk], [], h) (some (.long v), h) := by
  unfold F_mo_shareOf at hS
  refine ev_lconst (v := 1) pm150 i150_0 rfl (by decide) rfl ?_
  refine ev_lstore_n (ls' := [.int a0, .int a1, .int a2, .long (1 : Int64), unk, unk]) pm150 i150_1 rfl (Nat.le_of_ble_eq_true rfl) rfl rfl ?_
  refine ev_iconst (v := 0) pm150 i150_2 rfl (by decide) rfl ?_
  refine ev_istore (ls' := [.int a0, .int a1, .int a2, .long (1 : Int64), unk, .int (0 : Int32)]) pm150 i150_3 rfl (Nat.le_of_ble_eq_true rfl) rfl rfl ?_
  obtain ⟨x1, e2, hS⟩ := bn_s hS
  refine L_mo_shareOf_5 d (by omega) _ _ _ e2 _ ?_
  show Ev P d 150 (39, [unk, unk, unk, .long x1, unk, unk], [], h) _
  refine ev_lload_n pm150 i150_39 rfl rfl rfl ?_
  cases hS
  exact ev_lreturn pm150 i150_40 rfl rfl rfl
def B_st_loseOne_2 (l0 : Nat) (l1 : Int32) (s : Int32) (h : Hp) : Option (((Int32) ⊕ ((Unit) ⊕ Int32)) × Hp) :=
  if s < (5 : Int32) then
    (bn (aI h 100 1000002 s) fun x1 =>
    bn (gR h l0 8 0) fun x3 =>
    bn (aI h 100 x3 ((l1 * (5 : Int32)) + x1)) fun x5 =>
    if (0 : Int32) < x5 then
      (bn (gR h l0 8 0) fun x7 =>
      bn (aI h 100 x7 ((l1 * (5 : Int32)) + x1)) fun x9 =>
      bn (sI h 100 x7 ((l1 * (5 : Int32)) + x1) (x9 - (1 : Int32))) fun h11 =>
      some (.inr (.inr (1 : Int32)), h11))
    else
      (some (.inl (s + (1 : Int32)), h)))
  else
    (some (.inr (.inl ()), h))
set_option maxRecDepth 20000 in
theorem L_st_loseOne_2 (d : Nat) (hd : 0 ≤ d) {l0 : Nat} {l1 : Int32} : ∀ (n : Nat) (s : Int32) (h : Hp) (x : (Unit) ⊕ Int32) (hx : Hp), lp (B_st_loseOne_2 l0 l1) n s h = some (x, hx) → ∀ r, ei x (fun q => Ev P d 152 (44, [unk, unk, unk, unk], [], hx) r) (fun v => (some (.int v), hx) = r) → Ev P d 152 (2, [.ref l0, .int l1, .int s, unk], [], h) r := by
  refine lp_ev (G0 := fun (s : Int32) h r => Ev P d 152 (2, [.ref l0, .int l1, .int s, unk], [], h) r) (X := fun (x : (Unit) ⊕ Int32) hx r => ei x (fun q => Ev P d 152 (44, [unk, unk, unk, unk], [], hx) r) (fun v => (some (.int v), hx) = r)) ?_
  intro s h y h9 hS r hK
  unfold B_st_loseOne_2 at hS
  show Ev P d 152 (2, [.ref l0, .int l1, .int s, unk], [], h) r
  refine ev_iload_n pm152 i152_2 rfl rfl rfl ?_
  refine ev_iconst (v := 5) pm152 i152_3 rfl (by decide) rfl ?_
  by_cases c352 : s < (5 : Int32)
  · rw [if_pos c352] at hS
    refine ev_icmp_ge_t (t := 44) pm152 i152_4 rfl c352 rfl rfl ?_
    refine ev_iload_n pm152 i152_7 rfl rfl rfl ?_
    refine ev_iconst (v := 5) pm152 i152_8 rfl (by decide) rfl ?_
    refine ev_b2 (f := fun x y => x * y) pm152 i152_9 rfl (fun _ _ _ _ => rfl) rfl ?_
    refine ev_getstatic (v := .ref 1000002) pm152 i152_10 rfl rfl rfl ?_
    refine ev_iload_n pm152 i152_13 rfl rfl rfl ?_
    obtain ⟨x1, e2, hS⟩ := bn_s hS
    refine ev_iald pm152 i152_14 rfl e2 rfl ?_
    refine ev_b2 (f := fun x y => x + y) pm152 i152_15 rfl (fun _ _ _ _ => rfl) rfl ?_
    refine ev_istore_n (ls' := [.ref l0, .int l1, .int s, .int ((l1 * (5 : Int32)) + x1)]) pm152 i152_16 rfl (Nat.le_of_ble_eq_true rfl) rfl rfl ?_
    refine ev_aload_n pm152 i152_17 rfl rfl rfl ?_
    obtain ⟨x3, e4, hS⟩ := bn_s hS
    refine ev_getR pm152 i152_18 rfl rfl rfl e4 rfl ?_
    refine ev_iload_n pm152 i152_21 rfl rfl rfl ?_
    obtain ⟨x5, e6, hS⟩ := bn_s hS
    refine ev_iald pm152 i152_22 rfl e6 rfl ?_
    by_cases c353 : (0 : Int32) < x5
    · rw [if_pos c353] at hS
      refine ev_if_le_t (t := 38) pm152 i152_23 rfl c353 rfl rfl ?_
      refine ev_aload_n pm152 i152_26 rfl rfl rfl ?_
      obtain ⟨x7, e8, hS⟩ := bn_s hS
      refine ev_getR pm152 i152_27 rfl rfl rfl e8 rfl ?_
      refine ev_iload_n pm152 i152_30 rfl rfl rfl ?_
      refine ev_dup2 pm152 i152_31 rfl ⟨rfl, rfl⟩ rfl ?_
      obtain ⟨x9, e10, hS⟩ := bn_s hS
      refine ev_iald pm152 i152_32 rfl e10 rfl ?_
      refine ev_iconst (v := 1) pm152 i152_33 rfl (by decide) rfl ?_
      refine ev_b2 (f := fun x y => x - y) pm152 i152_34 rfl (fun _ _ _ _ => rfl) rfl ?_
      obtain ⟨h11, e12, hS⟩ := bn_s hS
      refine ev_iast pm152 i152_35 rfl e12 rfl ?_
      refine ev_iconst (v := 1) pm152 i152_36 rfl (by decide) rfl ?_
      cases hS
      exact ev_ireturn pm152 i152_37 rfl (by decide) hK
    · rw [if_neg c353] at hS
      refine ev_if_le_f (t := 38) pm152 i152_23 rfl c353 rfl rfl ?_
      refine ev_iinc (v := 1) (ls' := [.ref l0, .int l1, .int (s + (1 : Int32)), .int ((l1 * (5 : Int32)) + x1)]) pm152 i152_38 rfl rfl (by decide) rfl rfl ?_
      refine ev_goto (t := 2) pm152 i152_41 rfl rfl ?_
      refine ev_kls (ls' := [.ref l0, .int l1, .int (s + (1 : Int32)), unk]) pm152 i152_2 rfl rfl ?_
      cases hS
      exact hK
  · rw [if_neg c352] at hS
    refine ev_icmp_ge_f (t := 44) pm152 i152_4 rfl c352 rfl rfl ?_
    refine ev_kls (ls' := [unk, unk, unk, unk]) pm152 i152_44 rfl rfl ?_
    cases hS
    exact hK
def F_st_loseOne (a0 : Nat) (a1 : Int32) (h : Hp) : Option (Int32 × Hp) :=
  ck h a0 8 (bd (lp (B_st_loseOne_2 a0 a1) FU (0 : Int32) h) fun x13 h15 =>
  ei x13 (fun q16 =>
  some ((0 : Int32), h15))
  (fun x17 => some (x17, h15)))
set_option maxRecDepth 20000 in
theorem K_st_loseOne {a0 : Nat} {a1 : Int32} {h : Hp} {v : Int32} {h' : Hp} (hS : F_st_loseOne a0 a1 h = some (v, h')) : kd h a0 = 8 := by
  unfold F_st_loseOne at hS
  exact (ck_s hS).1
set_option maxRecDepth 20000 in
theorem R_st_loseOne (d : Nat) (hd : 0 ≤ d) {a0 : Nat} {a1 : Int32} {h : Hp} {v : Int32} {h' : Hp} (hS : F_st_loseOne a0 a1 h = some (v, h')) : Ev P d 152 (0, [.ref a0, .int a1, unk, unk], [], h) (some (.int v), h') := by
  unfold F_st_loseOne at hS
  replace hS := (ck_s hS).2
  refine ev_iconst (v := 0) pm152 i152_0 rfl (by decide) rfl ?_
  refine ev_istore_n (ls' := [.ref a0, .int a1, .int (0 : Int32), unk]) pm152 i152_1 rfl (Nat.le_of_ble_eq_true rfl) rfl rfl ?_
  obtain ⟨x13, h15, e14, hS⟩ := bd_s hS
  refine L_st_loseOne_2 d (by omega) _ _ _ _ _ e14 _ ?_
  cases x13 with
  | inl q16 =>
    replace hS := ei_l hS
    show Ev P d 152 (44, [unk, unk, unk, unk], [], h15) _
    refine ev_iconst (v := 0) pm152 i152_44 rfl (by decide) rfl ?_
    cases hS
    exact ev_ireturn pm152 i152_45 rfl (by decide) rfl
  | inr x17 =>
    replace hS := ei_r hS
    cases hS
    rfl
def B_mo_lossBy_6 (l0 : Nat) (l1 : Int32) (l2 : Int32) (l3 : Int32) (s : Int32 × Int32) (h : Hp) : Option (((Int32 × Int32) ⊕ (Int32)) × Hp) :=
  if s.2 < l3 then
    (bn (gR h l0 4 4) fun x1 =>
    bn (F_st_softenUnder x1 l2 h) fun h4 =>
    if ((l1 >>> (s.2 &&& 31)) &&& (1 : Int32)) = (0 : Int32) then
      (some (.inl (s.1, s.2 + (1 : Int32)), h4))
    else
      (bn (gR h4 l0 4 4) fun x5 =>
      bd (F_st_loseOne x5 l2 h4) fun x8 h9 =>
      if x8 = (0 : Int32) then
        (some (.inl (s.1, s.2 + (1 : Int32)), h9))
      else
        (some (.inl (s.1 + (1 : Int32), s.2 + (1 : Int32)), h9))))
  else
    (some (.inr s.1, h))
set_option maxRecDepth 20000 in
theorem L_mo_lossBy_6 (d : Nat) (hd : 1 ≤ d) {l0 : Nat} {l1 : Int32} {l2 : Int32} {l3 : Int32} : ∀ (n : Nat) (s : Int32 × Int32) (h : Hp) (x : Int32) (hx : Hp), lp (B_mo_lossBy_6 l0 l1 l2 l3) n s h = some (x, hx) → ∀ r, Ev P d 151 (49, [unk, unk, unk, unk, .int x, unk], [], hx) r → Ev P d 151 (6, [.ref l0, .int l1, .int l2, .int l3, .int s.1, .int s.2], [], h) r := by
  refine lp_ev (G0 := fun (s : Int32 × Int32) h r => Ev P d 151 (6, [.ref l0, .int l1, .int l2, .int l3, .int s.1, .int s.2], [], h) r) (X := fun (x : Int32) hx r => Ev P d 151 (49, [unk, unk, unk, unk, .int x, unk], [], hx) r) ?_
  intro s h y h9 hS r hK
  unfold B_mo_lossBy_6 at hS
  show Ev P d 151 (6, [.ref l0, .int l1, .int l2, .int l3, .int s.1, .int s.2], [], h) r
  refine ev_iload pm151 i151_6 rfl rfl rfl ?_
  refine ev_iload_n pm151 i151_8 rfl rfl rfl ?_
  by_cases c354 : s.2 < l3
  · rw [if_pos c354] at hS
    refine ev_icmp_ge_t (t := 49) pm151 i151_9 rfl c354 rfl rfl ?_
    refine ev_aload_n pm151 i151_12 rfl rfl rfl ?_
    obtain ⟨x1, e2, hS⟩ := bn_s hS
    refine ev_getR pm151 i151_13 rfl rfl rfl e2 rfl ?_
    refine ev_iload_n pm151 i151_16 rfl rfl rfl ?_
    obtain ⟨h4, e3, hS⟩ := bn_s hS
    refine ev_callV (sa := [.int l2]) (rest := []) (st' := []) (ls0 := [.ref x1, .int l2, unk]) (rv := none) pm151 i151_17 rfl rfl pm98 (by decide) (K_st_softenUnder e3) rfl rfl (Nat.le_of_ble_eq_true rfl) (by omega) rfl (R_st_softenUnder (d - 1) (by omega) e3) (by simp) rfl rfl ?_
    refine ev_iload_n pm151 i151_20 rfl rfl rfl ?_
    refine ev_iload pm151 i151_21 rfl rfl rfl ?_
    refine ev_b2 (f := fun x y => x >>> (y &&& 31)) pm151 i151_23 rfl (fun _ _ _ _ => rfl) rfl ?_
    refine ev_iconst (v := 1) pm151 i151_24 rfl (by decide) rfl ?_
    refine ev_b2 (f := fun x y => x &&& y) pm151 i151_25 rfl (fun _ _ _ _ => rfl) rfl ?_
    by_cases c355 : ((l1 >>> (s.2 &&& 31)) &&& (1 : Int32)) = (0 : Int32)
    · rw [if_pos c355] at hS
      refine ev_if_eq_t (t := 43) pm151 i151_26 rfl c355 rfl rfl ?_
      refine ev_iinc (v := 1) (ls' := [.ref l0, .int l1, .int l2, .int l3, .int s.1, .int (s.2 + (1 : Int32))]) pm151 i151_43 rfl rfl (by decide) rfl rfl ?_
      refine ev_goto (t := 6) pm151 i151_46 rfl rfl ?_
      cases hS
      exact hK
    · rw [if_neg c355] at hS
      refine ev_if_eq_f (t := 43) pm151 i151_26 rfl c355 rfl rfl ?_
      refine ev_aload_n pm151 i151_29 rfl rfl rfl ?_
      obtain ⟨x5, e6, hS⟩ := bn_s hS
      refine ev_getR pm151 i151_30 rfl rfl rfl e6 rfl ?_
      refine ev_iload_n pm151 i151_33 rfl rfl rfl ?_
      obtain ⟨x8, h9, e7, hS⟩ := bd_s hS
      refine ev_callV (sa := [.int l2]) (rest := []) (st' := [.int x8]) (ls0 := [.ref x5, .int l2, unk, unk]) (rv := some (.int x8)) pm151 i151_34 rfl rfl pm152 (by decide) (K_st_loseOne e7) rfl rfl (Nat.le_of_ble_eq_true rfl) (by omega) rfl (R_st_loseOne (d - 1) (by omega) e7) (by simp) rfl rfl ?_
      by_cases c356 : x8 = (0 : Int32)
      · rw [if_pos c356] at hS
        refine ev_if_eq_t (t := 43) pm151 i151_37 rfl c356 rfl rfl ?_
        refine ev_iinc (v := 1) (ls' := [.ref l0, .int l1, .int l2, .int l3, .int s.1, .int (s.2 + (1 : Int32))]) pm151 i151_43 rfl rfl (by decide) rfl rfl ?_
        refine ev_goto (t := 6) pm151 i151_46 rfl rfl ?_
        cases hS
        exact hK
      · rw [if_neg c356] at hS
        refine ev_if_eq_f (t := 43) pm151 i151_37 rfl c356 rfl rfl ?_
        refine ev_iinc (v := 1) (ls' := [.ref l0, .int l1, .int l2, .int l3, .int (s.1 + (1 : Int32)), .int s.2]) pm151 i151_40 rfl rfl (by decide) rfl rfl ?_
        refine ev_iinc (v := 1) (ls' := [.ref l0, .int l1, .int l2, .int l3, .int (s.1 + (1 : Int32)), .int (s.2 + (1 : Int32))]) pm151 i151_43 rfl rfl (by decide) rfl rfl ?_
        refine ev_goto (t := 6) pm151 i151_46 rfl rfl ?_
        cases hS
        exact hK
  · rw [if_neg c354] at hS
    refine ev_icmp_ge_f (t := 49) pm151 i151_9 rfl c354 rfl rfl ?_
    refine ev_kls (ls' := [unk, unk, unk, unk, .int s.1, unk]) pm151 i151_49 rfl rfl ?_
    cases hS
    exact hK
def F_mo_lossBy (a0 : Nat) (a1 : Int32) (a2 : Int32) (a3 : Int32) (h : Hp) : Option (Int32 × Hp) :=
  ck h a0 4 (bd (lp (B_mo_lossBy_6 a0 a1 a2 a3) FU ((0 : Int32), (0 : Int32)) h) fun x10 h12 =>
  some (x10, h12))
set_option maxRecDepth 20000 in
theorem K_mo_lossBy {a0 : Nat} {a1 : Int32} {a2 : Int32} {a3 : Int32} {h : Hp} {v : Int32} {h' : Hp} (hS : F_mo_lossBy a0 a1 a2 a3 h = some (v, h')) : kd h a0 = 4 := by
  unfold F_mo_lossBy at hS
  exact (ck_s hS).1
set_option maxRecDepth 20000 in
theorem R_mo_lossBy (d : Nat) (hd : 1 ≤ d) {a0 : Nat} {a1 : Int32} {a2 : Int32} {a3 : Int32} {h : Hp} {v : Int32} {h' : Hp} (hS : F_mo_lossBy a0 a1 a2 a3 h = some (v, h')) : Ev P d 151 (0, [.ref a0, .int a1, .int a2, .int a3, unk, unk], [], h) (some (.int v), h') := by
  unfold F_mo_lossBy at hS
  replace hS := (ck_s hS).2
  refine ev_iconst (v := 0) pm151 i151_0 rfl (by decide) rfl ?_
  refine ev_istore (ls' := [.ref a0, .int a1, .int a2, .int a3, .int (0 : Int32), unk]) pm151 i151_1 rfl (Nat.le_of_ble_eq_true rfl) rfl rfl ?_
  refine ev_iconst (v := 0) pm151 i151_3 rfl (by decide) rfl ?_
  refine ev_istore (ls' := [.ref a0, .int a1, .int a2, .int a3, .int (0 : Int32), .int (0 : Int32)]) pm151 i151_4 rfl (Nat.le_of_ble_eq_true rfl) rfl rfl ?_
  obtain ⟨x10, h12, e11, hS⟩ := bd_s hS
  refine L_mo_lossBy_6 d (by omega) _ _ _ _ _ e11 _ ?_
  show Ev P d 151 (49, [unk, unk, unk, unk, .int x10, unk], [], h12) _
  refine ev_iload pm151 i151_49 rfl rfl rfl ?_
  cases hS
  exact ev_ireturn pm151 i151_51 rfl rfl rfl
def B_mo_follow_8 (l0 : Nat) (l1 : Nat) (l2 : Nat) (l3 : Int32) (l4 : Int32) (s : Int32) (h : Hp) : Option (((Int32) ⊕ (Unit)) × Hp) :=
  if s < l4 then
    (bn (gL h l0 4 0) fun x3 =>
    bn (pL h l0 4 0 (x3 * (100 : Int64))) fun h5 =>
    some (.inl (s + (1 : Int32)), h5))
  else
    (some (.inr (), h))
set_option maxRecDepth 20000 in
theorem L_mo_follow_8 (d : Nat) (hd : 2 ≤ d) {l0 : Nat} {l1 : Nat} {l2 : Nat} {l3 : Int32} {l4 : Int32} : ∀ (n : Nat) (s : Int32) (h : Hp) (x : Unit) (hx : Hp), lp (B_mo_follow_8 l0 l1 l2 l3 l4) n s h = some (x, hx) → ∀ r, Ev P d 149 (33, [.ref l0, .ref l1, .ref l2, .int l3, .int l4, unk, unk, unk, unk, unk], [], hx) r → Ev P d 149 (8, [.ref l0, .ref l1, .ref l2, .int l3, .int l4, .int s, unk, unk, unk, unk], [], h) r := by
  refine lp_ev (G0 := fun (s : Int32) h r => Ev P d 149 (8, [.ref l0, .ref l1, .ref l2, .int l3, .int l4, .int s, unk, unk, unk, unk], [], h) r) (X := fun (x : Unit) hx r => Ev P d 149 (33, [.ref l0, .ref l1, .ref l2, .int l3, .int l4, unk, unk, unk, unk, unk], [], hx) r) ?_
  intro s h y h9 hS r hK
  unfold B_mo_follow_8 at hS
  show Ev P d 149 (8, [.ref l0, .ref l1, .ref l2, .int l3, .int l4, .int s, unk, unk, unk, unk], [], h) r
  refine ev_iload pm149 i149_8 rfl rfl rfl ?_
  refine ev_iload pm149 i149_10 rfl rfl rfl ?_
  by_cases c357 : s < l4
  · rw [if_pos c357] at hS
    refine ev_icmp_ge_t (t := 33) pm149 i149_12 rfl c357 rfl rfl ?_
    refine ev_aload_n pm149 i149_15 rfl rfl rfl ?_
    refine ev_dup pm149 i149_16 rfl rfl rfl ?_
    obtain ⟨x3, e4, hS⟩ := bn_s hS
    refine ev_getL pm149 i149_17 rfl rfl rfl e4 rfl ?_
    refine ev_ldc2_w (v := .long (100 : Int64)) pm149 i149_20 rfl rfl rfl ?_
    refine ev_bl2 (f := fun x y => x * y) pm149 i149_23 rfl (fun _ _ _ _ => rfl) rfl ?_
    obtain ⟨h5, e6, hS⟩ := bn_s hS
    refine ev_putL pm149 i149_24 rfl rfl rfl e6 rfl ?_
    refine ev_iinc (v := 1) (ls' := [.ref l0, .ref l1, .ref l2, .int l3, .int l4, .int (s + (1 : Int32)), unk, unk, unk, unk]) pm149 i149_27 rfl rfl (by decide) rfl rfl ?_
    refine ev_goto (t := 8) pm149 i149_30 rfl rfl ?_
    cases hS
    exact hK
  · rw [if_neg c357] at hS
    refine ev_icmp_ge_f (t := 33) pm149 i149_12 rfl c357 rfl rfl ?_
    refine ev_kls (ls' := [.ref l0, .ref l1, .ref l2, .int l3, .int l4, unk, unk, unk, unk, unk]) pm149 i149_33 rfl rfl ?_
    cases hS
    exact hK
def B_mo_follow_59 (l0 : Nat) (l1 : Nat) (l2 : Nat) (l3 : Int32) (l4 : Int32) (l5 : Int32) (s : Int32) (h : Hp) : Option (((Int32) ⊕ (Unit)) × Hp) :=
  if s < ((1 : Int32) <<< (l4 &&& 31)) then
    (bn (gI h l1 10 0) fun x18 =>
    bn (F_mo_shareOf s l4 x18) fun x21 =>
    if (0 : Int32) < (lg_cmp x21 (0 : Int64)) then
      (bn (gR h l0 4 4) fun x22 =>
      bn (F_st_copyFrom x22 l2 h) fun h25 =>
      bn (gL h25 l0 4 3) fun x26 =>
      bd (F_mo_lossBy l0 s l3 l4 h25) fun x29 h30 =>
      bn (pL h30 l0 4 3 (x26 + (x21 * x29.toInt64))) fun h31 =>
      bn (gR h31 l0 4 4) fun x33 =>
      bn (F_st_liftUnder x33 l3 h31) fun x36 =>
      bn (gL h31 l0 4 2) fun x37 =>
      bn (pL h31 l0 4 2 (x37 + (x21 * ((x36 - l5).toInt64)))) fun h39 =>
      bn (gL h39 l0 4 1) fun x41 =>
      if (x36 - l5) < (0 : Int32) then
        (bn (pL h39 l0 4 1 (x41 + (0 : Int64))) fun h43 =>
        some (.inl (s + (1 : Int32)), h43))
      else
        (bn (pL h39 l0 4 1 (x41 + x21)) fun h45 =>
        some (.inl (s + (1 : Int32)), h45)))
    else
      (some (.inl (s + (1 : Int32)), h)))
  else
    (some (.inr (), h))
set_option maxRecDepth 20000 in
theorem L_mo_follow_59 (d : Nat) (hd : 2 ≤ d) {l0 : Nat} {l1 : Nat} {l2 : Nat} {l3 : Int32} {l4 : Int32} {l5 : Int32} : ∀ (n : Nat) (s : Int32) (h : Hp) (x : Unit) (hx : Hp), lp (B_mo_follow_59 l0 l1 l2 l3 l4 l5) n s h = some (x, hx) → ∀ r, Ev P d 149 (172, [unk, unk, unk, unk, unk, unk, unk, unk, unk, unk], [], hx) r → Ev P d 149 (59, [.ref l0, .ref l1, .ref l2, .int l3, .int l4, .int l5, .int s, unk, unk, unk], [], h) r := by
  refine lp_ev (G0 := fun (s : Int32) h r => Ev P d 149 (59, [.ref l0, .ref l1, .ref l2, .int l3, .int l4, .int l5, .int s, unk, unk, unk], [], h) r) (X := fun (x : Unit) hx r => Ev P d 149 (172, [unk, unk, unk, unk, unk, unk, unk, unk, unk, unk], [], hx) r) ?_
  intro s h y h9 hS r hK
  unfold B_mo_follow_59 at hS
  show Ev P d 149 (59, [.ref l0, .ref l1, .ref l2, .int l3, .int l4, .int l5, .int s, unk, unk, unk], [], h) r
  refine ev_iload pm149 i149_59 rfl rfl rfl ?_
  refine ev_iconst (v := 1) pm149 i149_61 rfl (by decide) rfl ?_
  refine ev_iload pm149 i149_62 rfl rfl rfl ?_
  refine ev_b2 (f := fun x y => x <<< (y &&& 31)) pm149 i149_64 rfl (fun _ _ _ _ => rfl) rfl ?_
  by_cases c358 : s < ((1 : Int32) <<< (l4 &&& 31))
  · rw [if_pos c358] at hS
    refine ev_icmp_ge_t (t := 172) pm149 i149_65 rfl c358 rfl rfl ?_
    refine ev_iload pm149 i149_68 rfl rfl rfl ?_
    refine ev_iload pm149 i149_70 rfl rfl rfl ?_
    refine ev_aload_n pm149 i149_72 rfl rfl rfl ?_
    obtain ⟨x18, e19, hS⟩ := bn_s hS
    refine ev_getI pm149 i149_73 rfl rfl (by decide) e19 rfl ?_
    obtain ⟨x21, e20, hS⟩ := bn_s hS
    refine ev_callS (sa := [.int x18, .int l4, .int s]) (rest := []) (st' := [.long x21]) (ls0 := [.int s, .int l4, .int x18, unk, unk, unk]) (rv := some (.long x21)) pm149 i149_76 rfl rfl pm150 (by decide) rfl rfl (Nat.le_of_ble_eq_true rfl) (by omega) rfl (R_mo_shareOf (d - 1) (by omega) e20) (by simp) rfl rfl ?_
    refine ev_lstore (ls' := [.ref l0, .ref l1, .ref l2, .int l3, .int l4, .int l5, .int s, .long x21, unk, unk]) pm149 i149_79 rfl (Nat.le_of_ble_eq_true rfl) rfl rfl ?_
    refine ev_lload pm149 i149_81 rfl rfl rfl ?_
    refine ev_lconst (v := 0) pm149 i149_83 rfl (by decide) rfl ?_
    refine ev_lcmp pm149 i149_84 rfl rfl ?_
    by_cases c359 : (0 : Int32) < (lg_cmp x21 (0 : Int64))
    · rw [if_pos c359] at hS
      refine ev_if_le_t (t := 166) pm149 i149_85 rfl c359 rfl rfl ?_
      refine ev_aload_n pm149 i149_88 rfl rfl rfl ?_
      obtain ⟨x22, e23, hS⟩ := bn_s hS
      refine ev_getR pm149 i149_89 rfl rfl rfl e23 rfl ?_
      refine ev_aload_n pm149 i149_92 rfl rfl rfl ?_
      obtain ⟨h25, e24, hS⟩ := bn_s hS
      refine ev_callV (sa := [.ref l2]) (rest := []) (st' := []) (ls0 := [.ref x22, .ref l2]) (rv := none) pm149 i149_93 rfl rfl pm96 (by decide) (K_st_copyFrom e24) rfl rfl (Nat.le_of_ble_eq_true rfl) (by omega) rfl (R_st_copyFrom (d - 1) (by omega) e24) (by simp) rfl rfl ?_
      refine ev_aload_n pm149 i149_96 rfl rfl rfl ?_
      refine ev_dup pm149 i149_97 rfl rfl rfl ?_
      obtain ⟨x26, e27, hS⟩ := bn_s hS
      refine ev_getL pm149 i149_98 rfl rfl rfl e27 rfl ?_
      refine ev_lload pm149 i149_101 rfl rfl rfl ?_
      refine ev_aload_n pm149 i149_103 rfl rfl rfl ?_
      refine ev_iload pm149 i149_104 rfl rfl rfl ?_
      refine ev_iload_n pm149 i149_106 rfl rfl rfl ?_
      refine ev_iload pm149 i149_107 rfl rfl rfl ?_
      obtain ⟨x29, h30, e28, hS⟩ := bd_s hS
      refine ev_callV (sa := [.int l4, .int l3, .int s]) (rest := [.long x21, .long x26, .ref l0]) (st' := [.int x29, .long x21, .long x26, .ref l0]) (ls0 := [.ref l0, .int s, .int l3, .int l4, unk, unk]) (rv := some (.int x29)) pm149 i149_109 rfl rfl pm151 (by decide) (K_mo_lossBy e28) rfl rfl (Nat.le_of_ble_eq_true rfl) (by omega) rfl (R_mo_lossBy (d - 1) (by omega) e28) (by simp) rfl rfl ?_
      refine ev_i2l pm149 i149_112 rfl rfl ?_
      refine ev_bl2 (f := fun x y => x * y) pm149 i149_113 rfl (fun _ _ _ _ => rfl) rfl ?_
      refine ev_bl2 (f := fun x y => x + y) pm149 i149_114 rfl (fun _ _ _ _ => rfl) rfl ?_
      obtain ⟨h31, e32, hS⟩ := bn_s hS
      refine ev_putL pm149 i149_115 rfl rfl rfl e32 rfl ?_
      refine ev_aload_n pm149 i149_118 rfl rfl rfl ?_
      obtain ⟨x33, e34, hS⟩ := bn_s hS
      refine ev_getR pm149 i149_119 rfl rfl rfl e34 rfl ?_
      refine ev_iload_n pm149 i149_122 rfl rfl rfl ?_
      obtain ⟨x36, e35, hS⟩ := bn_s hS
      refine ev_callV (sa := [.int l3]) (rest := []) (st' := [.int x36]) (ls0 := [.ref x33, .int l3, unk, unk]) (rv := some (.int x36)) pm149 i149_123 rfl rfl pm66 (by decide) (K_st_liftUnder e35) rfl rfl (Nat.le_of_ble_eq_true rfl) (by omega) rfl (R_st_liftUnder (d - 1) (by omega) e35) (by simp) rfl rfl ?_
      refine ev_iload pm149 i149_126 rfl rfl rfl ?_
      refine ev_b2 (f := fun x y => x - y) pm149 i149_128 rfl (fun _ _ _ _ => rfl) rfl ?_
      refine ev_istore (ls' := [.ref l0, .ref l1, .ref l2, .int l3, .int l4, .int l5, .int s, .long x21, unk, .int (x36 - l5)]) pm149 i149_129 rfl (Nat.le_of_ble_eq_true rfl) rfl rfl ?_
      refine ev_aload_n pm149 i149_131 rfl rfl rfl ?_
      refine ev_dup pm149 i149_132 rfl rfl rfl ?_
      obtain ⟨x37, e38, hS⟩ := bn_s hS
      refine ev_getL pm149 i149_133 rfl rfl rfl e38 rfl ?_
      refine ev_lload pm149 i149_136 rfl rfl rfl ?_
      refine ev_iload pm149 i149_138 rfl rfl rfl ?_
      refine ev_i2l pm149 i149_140 rfl rfl ?_
      refine ev_bl2 (f := fun x y => x * y) pm149 i149_141 rfl (fun _ _ _ _ => rfl) rfl ?_
      refine ev_bl2 (f := fun x y => x + y) pm149 i149_142 rfl (fun _ _ _ _ => rfl) rfl ?_
      obtain ⟨h39, e40, hS⟩ := bn_s hS
      refine ev_putL pm149 i149_143 rfl rfl rfl e40 rfl ?_
      refine ev_aload_n pm149 i149_146 rfl rfl rfl ?_
      refine ev_dup pm149 i149_147 rfl rfl rfl ?_
      obtain ⟨x41, e42, hS⟩ := bn_s hS
      refine ev_getL pm149 i149_148 rfl rfl rfl e42 rfl ?_
      refine ev_iload pm149 i149_151 rfl rfl rfl ?_
      by_cases c360 : (x36 - l5) < (0 : Int32)
      · rw [if_pos c360] at hS
        refine ev_if_lt_t (t := 161) pm149 i149_153 rfl c360 rfl rfl ?_
        refine ev_lconst (v := 0) pm149 i149_161 rfl (by decide) rfl ?_
        refine ev_kls (ls' := [.ref l0, .ref l1, .ref l2, .int l3, .int l4, .int l5, .int s, unk, unk, unk]) pm149 i149_162 rfl rfl ?_
        refine ev_bl2 (f := fun x y => x + y) pm149 i149_162 rfl (fun _ _ _ _ => rfl) rfl ?_
        obtain ⟨h43, e44, hS⟩ := bn_s hS
        refine ev_putL pm149 i149_163 rfl rfl rfl e44 rfl ?_
        refine ev_iinc (v := 1) (ls' := [.ref l0, .ref l1, .ref l2, .int l3, .int l4, .int l5, .int (s + (1 : Int32)), unk, unk, unk]) pm149 i149_166 rfl rfl (by decide) rfl rfl ?_
        refine ev_goto (t := 59) pm149 i149_169 rfl rfl ?_
        cases hS
        exact hK
      · rw [if_neg c360] at hS
        refine ev_if_lt_f (t := 161) pm149 i149_153 rfl c360 rfl rfl ?_
        refine ev_lload pm149 i149_156 rfl rfl rfl ?_
        refine ev_goto (t := 162) pm149 i149_158 rfl rfl ?_
        refine ev_kls (ls' := [.ref l0, .ref l1, .ref l2, .int l3, .int l4, .int l5, .int s, unk, unk, unk]) pm149 i149_162 rfl rfl ?_
        refine ev_bl2 (f := fun x y => x + y) pm149 i149_162 rfl (fun _ _ _ _ => rfl) rfl ?_
        obtain ⟨h45, e46, hS⟩ := bn_s hS
        refine ev_putL pm149 i149_163 rfl rfl rfl e46 rfl ?_
        refine ev_iinc (v := 1) (ls' := [.ref l0, .ref l1, .ref l2, .int l3, .int l4, .int l5, .int (s + (1 : Int32)), unk, unk, unk]) pm149 i149_166 rfl rfl (by decide) rfl rfl ?_
        refine ev_goto (t := 59) pm149 i149_169 rfl rfl ?_
        cases hS
        exact hK
    · rw [if_neg c359] at hS
      refine ev_if_le_f (t := 166) pm149 i149_85 rfl c359 rfl rfl ?_
      refine ev_kls (ls' := [.ref l0, .ref l1, .ref l2, .int l3, .int l4, .int l5, .int s, unk, unk, unk]) pm149 i149_166 rfl rfl ?_
      refine ev_iinc (v := 1) (ls' := [.ref l0, .ref l1, .ref l2, .int l3, .int l4, .int l5, .int (s + (1 : Int32)), unk, unk, unk]) pm149 i149_166 rfl rfl (by decide) rfl rfl ?_
      refine ev_goto (t := 59) pm149 i149_169 rfl rfl ?_
      cases hS
      exact hK
  · rw [if_neg c358] at hS
    refine ev_icmp_ge_f (t := 172) pm149 i149_65 rfl c358 rfl rfl ?_
    refine ev_kls (ls' := [unk, unk, unk, unk, unk, unk, unk, unk, unk, unk]) pm149 i149_172 rfl rfl ?_
    cases hS
    exact hK
def F_mo_follow (a0 : Nat) (a1 : Nat) (a2 : Nat) (a3 : Int32) (a4 : Int32) (h : Hp) : Option Hp :=
  ck h a0 4 (bn (pL h a0 4 0 (1 : Int64)) fun h1 =>
  bd (lp (B_mo_follow_8 a0 a1 a2 a3 a4) FU (0 : Int32) h1) fun x7 h9 =>
  bn (pL h9 a0 4 1 (0 : Int64)) fun h10 =>
  bn (pL h10 a0 4 2 (0 : Int64)) fun h12 =>
  bn (pL h12 a0 4 3 (0 : Int64)) fun h14 =>
  bn (F_to_weightAt a1 a3 a2 h14) fun x17 =>
  bd (lp (B_mo_follow_59 a0 a1 a2 a3 a4 x17) FU (0 : Int32) h14) fun x47 h49 =>
  some h49)
set_option maxRecDepth 20000 in
theorem K_mo_follow {a0 : Nat} {a1 : Nat} {a2 : Nat} {a3 : Int32} {a4 : Int32} {h : Hp} {h' : Hp} (hS : F_mo_follow a0 a1 a2 a3 a4 h = some h') : kd h a0 = 4 := by
  unfold F_mo_follow at hS
  exact (ck_s hS).1
set_option maxRecDepth 20000 in
theorem R_mo_follow (d : Nat) (hd : 2 ≤ d) {a0 : Nat} {a1 : Nat} {a2 : Nat} {a3 : Int32} {a4 : Int32} {h : Hp} {h' : Hp} (hS : F_mo_follow a0 a1 a2 a3 a4 h = some h') : Ev P d 149 (0, [.ref a0, .ref a1, .ref a2, .int a3, .int a4, unk, unk, unk, unk, unk], [], h) (none, h') := by
  unfold F_mo_follow at hS
  replace hS := (ck_s hS).2
  refine ev_aload_n pm149 i149_0 rfl rfl rfl ?_
  refine ev_lconst (v := 1) pm149 i149_1 rfl (by decide) rfl ?_
  obtain ⟨h1, e2, hS⟩ := bn_s hS
  refine ev_putL pm149 i149_2 rfl rfl rfl e2 rfl ?_
  refine ev_iconst (v := 0) pm149 i149_5 rfl (by decide) rfl ?_
  refine ev_istore (ls' := [.ref a0, .ref a1, .ref a2, .int a3, .int a4, .int (0 : Int32), unk, unk, unk, unk]) pm149 i149_6 rfl (Nat.le_of_ble_eq_true rfl) rfl rfl ?_
  obtain ⟨x7, h9, e8, hS⟩ := bd_s hS
  refine L_mo_follow_8 d (by omega) _ _ _ _ _ e8 _ ?_
  show Ev P d 149 (33, [.ref a0, .ref a1, .ref a2, .int a3, .int a4, unk, unk, unk, unk, unk], [], h9) _
  refine ev_aload_n pm149 i149_33 rfl rfl rfl ?_
  refine ev_lconst (v := 0) pm149 i149_34 rfl (by decide) rfl ?_
  obtain ⟨h10, e11, hS⟩ := bn_s hS
  refine ev_putL pm149 i149_35 rfl rfl rfl e11 rfl ?_
  refine ev_aload_n pm149 i149_38 rfl rfl rfl ?_
  refine ev_lconst (v := 0) pm149 i149_39 rfl (by decide) rfl ?_
  obtain ⟨h12, e13, hS⟩ := bn_s hS
  refine ev_putL pm149 i149_40 rfl rfl rfl e13 rfl ?_
  refine ev_aload_n pm149 i149_43 rfl rfl rfl ?_
  refine ev_lconst (v := 0) pm149 i149_44 rfl (by decide) rfl ?_
  obtain ⟨h14, e15, hS⟩ := bn_s hS
  refine ev_putL pm149 i149_45 rfl rfl rfl e15 rfl ?_
  refine ev_aload_n pm149 i149_48 rfl rfl rfl ?_
  refine ev_iload_n pm149 i149_49 rfl rfl rfl ?_
  refine ev_aload_n pm149 i149_50 rfl rfl rfl ?_
  obtain ⟨x17, e16, hS⟩ := bn_s hS
  refine ev_callV (sa := [.ref a2, .int a3]) (rest := []) (st' := [.int x17]) (ls0 := [.ref a1, .int a3, .ref a2, unk, unk]) (rv := some (.int x17)) pm149 i149_51 rfl rfl pm67 (by decide) (K_to_weightAt e16) rfl rfl (Nat.le_of_ble_eq_true rfl) (by omega) rfl (R_to_weightAt (d - 1) (by omega) e16) (by simp) rfl rfl ?_
  refine ev_istore (ls' := [.ref a0, .ref a1, .ref a2, .int a3, .int a4, .int x17, unk, unk, unk, unk]) pm149 i149_54 rfl (Nat.le_of_ble_eq_true rfl) rfl rfl ?_
  refine ev_iconst (v := 0) pm149 i149_56 rfl (by decide) rfl ?_
  refine ev_istore (ls' := [.ref a0, .ref a1, .ref a2, .int a3, .int a4, .int x17, .int (0 : Int32), unk, unk, unk]) pm149 i149_57 rfl (Nat.le_of_ble_eq_true rfl) rfl rfl ?_
  obtain ⟨x47, h49, e48, hS⟩ := bd_s hS
  refine L_mo_follow_59 d (by omega) _ _ _ _ _ e48 _ ?_
  show Ev P d 149 (172, [unk, unk, unk, unk, unk, unk, unk, unk, unk, unk], [], h49) _
  cases hS
  exact ev_return pm149 i149_172 rfl rfl rfl
def B_cs_commonDivisor_9 (s : Int64 × Int64 × Int32) : Option ((Int64 × Int64 × Int32) ⊕ (Int64)) :=
  if s.2.2 < (100 : Int32) then
    (if (lg_cmp s.2.1 (0 : Int64)) = (0 : Int32) then
      (some (.inr s.1))
    else
      (bn (rm64 s.1 s.2.1) fun x1 =>
      some (.inl (s.2.1, x1, s.2.2 + (1 : Int32)))))
  else
    (some (.inr s.1))
set_option maxRecDepth 20000 in
theorem L_cs_commonDivisor_9 (d : Nat) (hd : 0 ≤ d) {h : Hp} : ∀ (n : Nat) (s : Int64 × Int64 × Int32) (x : Int64), lq (B_cs_commonDivisor_9) n s = some x → ∀ r, Ev P d 154 (44, [unk, unk, unk, unk, .long x, unk, unk, unk, unk, unk, unk], [], h) r → Ev P d 154 (9, [unk, unk, unk, unk, .long s.1, unk, .long s.2.1, unk, .int s.2.2, unk, unk], [], h) r := by
  refine lq_ev (G0 := fun (s : Int64 × Int64 × Int32) r => Ev P d 154 (9, [unk, unk, unk, unk, .long s.1, unk, .long s.2.1, unk, .int s.2.2, unk, unk], [], h) r) (X := fun (x : Int64) r => Ev P d 154 (44, [unk, unk, unk, unk, .long x, unk, unk, unk, unk, unk, unk], [], h) r) ?_
  intro s y hS r hK
  unfold B_cs_commonDivisor_9 at hS
  show Ev P d 154 (9, [unk, unk, unk, unk, .long s.1, unk, .long s.2.1, unk, .int s.2.2, unk, unk], [], h) r
  refine ev_iload pm154 i154_9 rfl rfl rfl ?_
  refine ev_bipush (v := 100) pm154 i154_11 rfl (by decide) rfl ?_
  by_cases c361 : s.2.2 < (100 : Int32)
  · rw [if_pos c361] at hS
    refine ev_icmp_ge_t (t := 44) pm154 i154_13 rfl c361 rfl rfl ?_
    refine ev_lload pm154 i154_16 rfl rfl rfl ?_
    refine ev_lconst (v := 0) pm154 i154_18 rfl (by decide) rfl ?_
    refine ev_lcmp pm154 i154_19 rfl rfl ?_
    by_cases c362 : (lg_cmp s.2.1 (0 : Int64)) = (0 : Int32)
    · rw [if_pos c362] at hS
      refine ev_if_eq_t (t := 44) pm154 i154_20 rfl c362 rfl rfl ?_
      refine ev_kls (ls' := [unk, unk, unk, unk, .long s.1, unk, unk, unk, unk, unk, unk]) pm154 i154_44 rfl rfl ?_
      cases hS
      exact hK
    · rw [if_neg c362] at hS
      refine ev_if_eq_f (t := 44) pm154 i154_20 rfl c362 rfl rfl ?_
      refine ev_lload pm154 i154_23 rfl rfl rfl ?_
      refine ev_lload pm154 i154_25 rfl rfl rfl ?_
      obtain ⟨x1, e2, hS⟩ := bn_s hS
      refine ev_lrem pm154 i154_27 rfl e2 rfl ?_
      refine ev_lstore (ls' := [unk, unk, unk, unk, .long s.1, unk, .long s.2.1, unk, .int s.2.2, .long x1, unk]) pm154 i154_28 rfl (Nat.le_of_ble_eq_true rfl) rfl rfl ?_
      refine ev_lload pm154 i154_30 rfl rfl rfl ?_
      refine ev_lstore (ls' := [unk, unk, unk, unk, .long s.2.1, unk, .long s.2.1, unk, .int s.2.2, .long x1, unk]) pm154 i154_32 rfl (Nat.le_of_ble_eq_true rfl) rfl rfl ?_
      refine ev_lload pm154 i154_34 rfl rfl rfl ?_
      refine ev_lstore (ls' := [unk, unk, unk, unk, .long s.2.1, unk, .long x1, unk, .int s.2.2, .long x1, unk]) pm154 i154_36 rfl (Nat.le_of_ble_eq_true rfl) rfl rfl ?_
      refine ev_iinc (v := 1) (ls' := [unk, unk, unk, unk, .long s.2.1, unk, .long x1, unk, .int (s.2.2 + (1 : Int32)), .long x1, unk]) pm154 i154_38 rfl rfl (by decide) rfl rfl ?_
      refine ev_goto (t := 9) pm154 i154_41 rfl rfl ?_
      refine ev_kls (ls' := [unk, unk, unk, unk, .long s.2.1, unk, .long x1, unk, .int (s.2.2 + (1 : Int32)), unk, unk]) pm154 i154_9 rfl rfl ?_
      cases hS
      exact hK
  · rw [if_neg c361] at hS
    refine ev_icmp_ge_f (t := 44) pm154 i154_13 rfl c361 rfl rfl ?_
    refine ev_kls (ls' := [unk, unk, unk, unk, .long s.1, unk, unk, unk, unk, unk, unk]) pm154 i154_44 rfl rfl ?_
    cases hS
    exact hK
def F_cs_commonDivisor (a0 : Int64) (a1 : Int64) : Option Int64 :=
  bn (lq (B_cs_commonDivisor_9) FU (a0, a1, (0 : Int32))) fun x3 =>
  some x3
set_option maxRecDepth 20000 in
theorem R_cs_commonDivisor (d : Nat) (hd : 0 ≤ d) {a0 : Int64} {a1 : Int64} {h : Hp} {v : Int64} (hS : F_cs_commonDivisor a0 a1 = some v) : Ev P d 154 (0, [.long a0, unk, .long a1, unk, unk, unk, unk, unk, unk, unk, unk], [], h) (some (.long v), h) := by
  unfold F_cs_commonDivisor at hS
  refine ev_lload_n pm154 i154_0 rfl rfl rfl ?_
  refine ev_lstore (ls' := [.long a0, unk, .long a1, unk, .long a0, unk, unk, unk, unk, unk, unk]) pm154 i154_1 rfl (Nat.le_of_ble_eq_true rfl) rfl rfl ?_
  refine ev_lload_n pm154 i154_3 rfl rfl rfl ?_
  refine ev_lstore (ls' := [.long a0, unk, .long a1, unk, .long a0, unk, .long a1, unk, unk, unk, unk]) pm154 i154_4 rfl (Nat.le_of_ble_eq_true rfl) rfl rfl ?_
  refine ev_iconst (v := 0) pm154 i154_6 rfl (by decide) rfl ?_
  refine ev_istore (ls' := [.long a0, unk, .long a1, unk, .long a0, unk, .long a1, unk, .int (0 : Int32), unk, unk]) pm154 i154_7 rfl (Nat.le_of_ble_eq_true rfl) rfl rfl ?_
  refine ev_kls (ls' := [unk, unk, unk, unk, .long a0, unk, .long a1, unk, .int (0 : Int32), unk, unk]) pm154 i154_9 rfl rfl ?_
  obtain ⟨x3, e4, hS⟩ := bn_s hS
  refine L_cs_commonDivisor_9 d (by omega) _ _ _ e4 _ ?_
  show Ev P d 154 (44, [unk, unk, unk, unk, .long x3, unk, unk, unk, unk, unk, unk], [], h) _
  refine ev_lload pm154 i154_44 rfl rfl rfl ?_
  cases hS
  exact ev_lreturn pm154 i154_46 rfl rfl rfl
def F_cs_partOf (a0 : Int64) (a1 : Int64) (a2 : Int32) : Option Int64 :=
  bn (F_cs_commonDivisor a0 a1) fun x2 =>
  if (0 : Int32) < (lg_cmp x2 (0 : Int64)) then
    (if a2 = (0 : Int32) then
      (bn (dv64 a0 x2) fun x3 =>
      some x3)
    else
      (bn (dv64 a1 x2) fun x5 =>
      some x5))
  else
    (if a2 = (0 : Int32) then
      (some (0 : Int64))
    else
      (some (1 : Int64)))
set_option maxRecDepth 20000 in
theorem R_cs_partOf (d : Nat) (hd : 1 ≤ d) {a0 : Int64} {a1 : Int64} {a2 : Int32} {h : Hp} {v : Int64} (hS : F_cs_partOf a0 a1 a2 = some v) : Ev P d 153 (0, [.long a0, unk, .long a1, unk, .int a2, unk, unk], [], h) (some (.long v), h) := by
  unfold F_cs_partOf at hS
  refine ev_lload_n pm153 i153_0 rfl rfl rfl ?_
  refine ev_lload_n pm153 i153_1 rfl rfl rfl ?_
  obtain ⟨x2, e1, hS⟩ := bn_s hS
  refine ev_callS (sa := [.long a1, .long a0]) (rest := []) (st' := [.long x2]) (ls0 := [.long a0, unk, .long a1, unk, unk, unk, unk, unk, unk, unk, unk]) (rv := some (.long x2)) pm153 i153_2 rfl rfl pm154 (by decide) rfl rfl (Nat.le_of_ble_eq_true rfl) (by omega) rfl (R_cs_commonDivisor (d - 1) (by omega) e1) (by simp) rfl rfl ?_
  refine ev_lstore (ls' := [.long a0, unk, .long a1, unk, .int a2, .long x2, unk]) pm153 i153_5 rfl (Nat.le_of_ble_eq_true rfl) rfl rfl ?_
  refine ev_lload pm153 i153_7 rfl rfl rfl ?_
  refine ev_lconst (v := 0) pm153 i153_9 rfl (by decide) rfl ?_
  refine ev_lcmp pm153 i153_10 rfl rfl ?_
  by_cases c363 : (0 : Int32) < (lg_cmp x2 (0 : Int64))
  · rw [if_pos c363] at hS
    refine ev_if_gt_t (t := 25) pm153 i153_11 rfl c363 rfl rfl ?_
    refine ev_iload pm153 i153_25 rfl rfl rfl ?_
    by_cases c364 : a2 = (0 : Int32)
    · rw [if_pos c364] at hS
      refine ev_if_eq_t (t := 34) pm153 i153_27 rfl c364 rfl rfl ?_
      refine ev_lload_n pm153 i153_34 rfl rfl rfl ?_
      refine ev_kls (ls' := [unk, unk, unk, unk, unk, .long x2, unk]) pm153 i153_35 rfl rfl ?_
      refine ev_lload pm153 i153_35 rfl rfl rfl ?_
      obtain ⟨x3, e4, hS⟩ := bn_s hS
      refine ev_ldiv pm153 i153_37 rfl e4 rfl ?_
      cases hS
      exact ev_lreturn pm153 i153_38 rfl rfl rfl
    · rw [if_neg c364] at hS
      refine ev_if_eq_f (t := 34) pm153 i153_27 rfl c364 rfl rfl ?_
      refine ev_lload_n pm153 i153_30 rfl rfl rfl ?_
      refine ev_goto (t := 35) pm153 i153_31 rfl rfl ?_
      refine ev_kls (ls' := [unk, unk, unk, unk, unk, .long x2, unk]) pm153 i153_35 rfl rfl ?_
      refine ev_lload pm153 i153_35 rfl rfl rfl ?_
      obtain ⟨x5, e6, hS⟩ := bn_s hS
      refine ev_ldiv pm153 i153_37 rfl e6 rfl ?_
      cases hS
      exact ev_lreturn pm153 i153_38 rfl rfl rfl
  · rw [if_neg c363] at hS
    refine ev_if_gt_f (t := 25) pm153 i153_11 rfl c363 rfl rfl ?_
    refine ev_iload pm153 i153_14 rfl rfl rfl ?_
    by_cases c365 : a2 = (0 : Int32)
    · rw [if_pos c365] at hS
      refine ev_if_eq_t (t := 23) pm153 i153_16 rfl c365 rfl rfl ?_
      refine ev_lconst (v := 0) pm153 i153_23 rfl (by decide) rfl ?_
      refine ev_kls (ls' := [unk, unk, unk, unk, unk, unk, unk]) pm153 i153_24 rfl rfl ?_
      cases hS
      exact ev_lreturn pm153 i153_24 rfl rfl rfl
    · rw [if_neg c365] at hS
      refine ev_if_eq_f (t := 23) pm153 i153_16 rfl c365 rfl rfl ?_
      refine ev_lconst (v := 1) pm153 i153_19 rfl (by decide) rfl ?_
      refine ev_goto (t := 24) pm153 i153_20 rfl rfl ?_
      refine ev_kls (ls' := [unk, unk, unk, unk, unk, unk, unk]) pm153 i153_24 rfl rfl ?_
      cases hS
      exact ev_lreturn pm153 i153_24 rfl rfl rfl
def F_cs_dry (a0 : Nat) (a1 : Int32) (a2 : Int32) (a3 : Int32) (h : Hp) : Option (Int64 × Hp) :=
  ck h a0 11 (bd (F_cs_refusedOdds a0 a1 a2 h) fun x2 h3 =>
  if x2 = (0 : Int32) then
    (bn (gR h3 a0 11 11) fun x4 =>
    bn (gR h3 a0 11 3) fun x6 =>
    bn (gR h3 a0 11 4) fun x8 =>
    bn (F_mo_follow x4 x6 x8 a1 a2 h3) fun h11 =>
    bn (gR h11 a0 11 11) fun x12 =>
    bn (gL h11 x12 4 1) fun x14 =>
    bn (gR h11 a0 11 11) fun x16 =>
    bn (gL h11 x16 4 0) fun x18 =>
    bn (F_cs_partOf x14 x18 a3) fun x21 =>
    some (x21, h11))
  else
    (some ((-1 : Int64), h3)))
set_option maxRecDepth 20000 in
theorem K_cs_dry {a0 : Nat} {a1 : Int32} {a2 : Int32} {a3 : Int32} {h : Hp} {v : Int64} {h' : Hp} (hS : F_cs_dry a0 a1 a2 a3 h = some (v, h')) : kd h a0 = 11 := by
  unfold F_cs_dry at hS
  exact (ck_s hS).1
set_option maxRecDepth 20000 in
theorem R_cs_dry (d : Nat) (hd : 3 ≤ d) {a0 : Nat} {a1 : Int32} {a2 : Int32} {a3 : Int32} {h : Hp} {v : Int64} {h' : Hp} (hS : F_cs_dry a0 a1 a2 a3 h = some (v, h')) : Ev P d 147 (0, [.ref a0, .int a1, .int a2, .int a3], [], h) (some (.long v), h') := by
  unfold F_cs_dry at hS
  replace hS := (ck_s hS).2
  refine ev_aload_n pm147 i147_0 rfl rfl rfl ?_
  refine ev_iload_n pm147 i147_1 rfl rfl rfl ?_
  refine ev_iload_n pm147 i147_2 rfl rfl rfl ?_
  obtain ⟨x2, h3, e1, hS⟩ := bd_s hS
  refine ev_callV (sa := [.int a2, .int a1]) (rest := []) (st' := [.int x2]) (ls0 := [.ref a0, .int a1, .int a2]) (rv := some (.int x2)) pm147 i147_3 rfl rfl pm148 (by decide) (K_cs_refusedOdds e1) rfl rfl (Nat.le_of_ble_eq_true rfl) (by omega) rfl (R_cs_refusedOdds (d - 1) (by omega) e1) (by simp) rfl rfl ?_
  by_cases c366 : x2 = (0 : Int32)
  · rw [if_pos c366] at hS
    refine ev_if_eq_t (t := 13) pm147 i147_6 rfl c366 rfl rfl ?_
    refine ev_aload_n pm147 i147_13 rfl rfl rfl ?_
    obtain ⟨x4, e5, hS⟩ := bn_s hS
    refine ev_getR pm147 i147_14 rfl rfl rfl e5 rfl ?_
    refine ev_aload_n pm147 i147_17 rfl rfl rfl ?_
    obtain ⟨x6, e7, hS⟩ := bn_s hS
    refine ev_getR pm147 i147_18 rfl rfl rfl e7 rfl ?_
    refine ev_aload_n pm147 i147_21 rfl rfl rfl ?_
    obtain ⟨x8, e9, hS⟩ := bn_s hS
    refine ev_getR pm147 i147_22 rfl rfl rfl e9 rfl ?_
    refine ev_iload_n pm147 i147_25 rfl rfl rfl ?_
    refine ev_iload_n pm147 i147_26 rfl rfl rfl ?_
    obtain ⟨h11, e10, hS⟩ := bn_s hS
    refine ev_callV (sa := [.int a2, .int a1, .ref x8, .ref x6]) (rest := []) (st' := []) (ls0 := [.ref x4, .ref x6, .ref x8, .int a1, .int a2, unk, unk, unk, unk, unk]) (rv := none) pm147 i147_27 rfl rfl pm149 (by decide) (K_mo_follow e10) rfl rfl (Nat.le_of_ble_eq_true rfl) (by omega) rfl (R_mo_follow (d - 1) (by omega) e10) (by simp) rfl rfl ?_
    refine ev_aload_n pm147 i147_30 rfl rfl rfl ?_
    obtain ⟨x12, e13, hS⟩ := bn_s hS
    refine ev_getR pm147 i147_31 rfl rfl rfl e13 rfl ?_
    obtain ⟨x14, e15, hS⟩ := bn_s hS
    refine ev_getL pm147 i147_34 rfl rfl rfl e15 rfl ?_
    refine ev_aload_n pm147 i147_37 rfl rfl rfl ?_
    obtain ⟨x16, e17, hS⟩ := bn_s hS
    refine ev_getR pm147 i147_38 rfl rfl rfl e17 rfl ?_
    obtain ⟨x18, e19, hS⟩ := bn_s hS
    refine ev_getL pm147 i147_41 rfl rfl rfl e19 rfl ?_
    refine ev_iload_n pm147 i147_44 rfl rfl rfl ?_
    obtain ⟨x21, e20, hS⟩ := bn_s hS
    refine ev_callS (sa := [.int a3, .long x18, .long x14]) (rest := []) (st' := [.long x21]) (ls0 := [.long x14, unk, .long x18, unk, .int a3, unk, unk]) (rv := some (.long x21)) pm147 i147_45 rfl rfl pm153 (by decide) rfl rfl (Nat.le_of_ble_eq_true rfl) (by omega) rfl (R_cs_partOf (d - 1) (by omega) e20) (by simp) rfl rfl ?_
    cases hS
    exact ev_lreturn pm147 i147_48 rfl rfl rfl
  · rw [if_neg c366] at hS
    refine ev_if_eq_f (t := 13) pm147 i147_6 rfl c366 rfl rfl ?_
    refine ev_ldc2_w (v := .long (-1 : Int64)) pm147 i147_9 rfl rfl rfl ?_
    cases hS
    exact ev_lreturn pm147 i147_12 rfl rfl rfl
def F_cs_mean (a0 : Nat) (a1 : Int32) (a2 : Int32) (a3 : Int32) (h : Hp) : Option (Int64 × Hp) :=
  ck h a0 11 (bd (F_cs_refusedOdds a0 a1 a2 h) fun x2 h3 =>
  if x2 = (0 : Int32) then
    (bn (gR h3 a0 11 11) fun x4 =>
    bn (gR h3 a0 11 3) fun x6 =>
    bn (gR h3 a0 11 4) fun x8 =>
    bn (F_mo_follow x4 x6 x8 a1 a2 h3) fun h11 =>
    bn (gR h11 a0 11 11) fun x12 =>
    bn (gL h11 x12 4 2) fun x14 =>
    bn (gR h11 a0 11 11) fun x16 =>
    bn (gL h11 x16 4 0) fun x18 =>
    bn (gR h11 a0 11 11) fun x20 =>
    bn (gL h11 x20 4 0) fun x22 =>
    bn (F_cs_partOf (x14 + ((1000 : Int64) * x18)) x22 a3) fun x25 =>
    some (x25, h11))
  else
    (some ((-1 : Int64), h3)))
set_option maxRecDepth 20000 in
theorem K_cs_mean {a0 : Nat} {a1 : Int32} {a2 : Int32} {a3 : Int32} {h : Hp} {v : Int64} {h' : Hp} (hS : F_cs_mean a0 a1 a2 a3 h = some (v, h')) : kd h a0 = 11 := by
  unfold F_cs_mean at hS
  exact (ck_s hS).1
set_option maxRecDepth 20000 in
theorem R_cs_mean (d : Nat) (hd : 3 ≤ d) {a0 : Nat} {a1 : Int32} {a2 : Int32} {a3 : Int32} {h : Hp} {v : Int64} {h' : Hp} (hS : F_cs_mean a0 a1 a2 a3 h = some (v, h')) : Ev P d 155 (0, [.ref a0, .int a1, .int a2, .int a3], [], h) (some (.long v), h') := by
  unfold F_cs_mean at hS
  replace hS := (ck_s hS).2
  refine ev_aload_n pm155 i155_0 rfl rfl rfl ?_
  refine ev_iload_n pm155 i155_1 rfl rfl rfl ?_
  refine ev_iload_n pm155 i155_2 rfl rfl rfl ?_
  obtain ⟨x2, h3, e1, hS⟩ := bd_s hS
  refine ev_callV (sa := [.int a2, .int a1]) (rest := []) (st' := [.int x2]) (ls0 := [.ref a0, .int a1, .int a2]) (rv := some (.int x2)) pm155 i155_3 rfl rfl pm148 (by decide) (K_cs_refusedOdds e1) rfl rfl (Nat.le_of_ble_eq_true rfl) (by omega) rfl (R_cs_refusedOdds (d - 1) (by omega) e1) (by simp) rfl rfl ?_
  by_cases c367 : x2 = (0 : Int32)
  · rw [if_pos c367] at hS
    refine ev_if_eq_t (t := 13) pm155 i155_6 rfl c367 rfl rfl ?_
    refine ev_aload_n pm155 i155_13 rfl rfl rfl ?_
    obtain ⟨x4, e5, hS⟩ := bn_s hS
    refine ev_getR pm155 i155_14 rfl rfl rfl e5 rfl ?_
    refine ev_aload_n pm155 i155_17 rfl rfl rfl ?_
    obtain ⟨x6, e7, hS⟩ := bn_s hS
    refine ev_getR pm155 i155_18 rfl rfl rfl e7 rfl ?_
    refine ev_aload_n pm155 i155_21 rfl rfl rfl ?_
    obtain ⟨x8, e9, hS⟩ := bn_s hS
    refine ev_getR pm155 i155_22 rfl rfl rfl e9 rfl ?_
    refine ev_iload_n pm155 i155_25 rfl rfl rfl ?_
    refine ev_iload_n pm155 i155_26 rfl rfl rfl ?_
    obtain ⟨h11, e10, hS⟩ := bn_s hS
    refine ev_callV (sa := [.int a2, .int a1, .ref x8, .ref x6]) (rest := []) (st' := []) (ls0 := [.ref x4, .ref x6, .ref x8, .int a1, .int a2, unk, unk, unk, unk, unk]) (rv := none) pm155 i155_27 rfl rfl pm149 (by decide) (K_mo_follow e10) rfl rfl (Nat.le_of_ble_eq_true rfl) (by omega) rfl (R_mo_follow (d - 1) (by omega) e10) (by simp) rfl rfl ?_
    refine ev_aload_n pm155 i155_30 rfl rfl rfl ?_
    obtain ⟨x12, e13, hS⟩ := bn_s hS
    refine ev_getR pm155 i155_31 rfl rfl rfl e13 rfl ?_
    obtain ⟨x14, e15, hS⟩ := bn_s hS
    refine ev_getL pm155 i155_34 rfl rfl rfl e15 rfl ?_
    refine ev_ldc2_w (v := .long (1000 : Int64)) pm155 i155_37 rfl rfl rfl ?_
    refine ev_aload_n pm155 i155_40 rfl rfl rfl ?_
    obtain ⟨x16, e17, hS⟩ := bn_s hS
    refine ev_getR pm155 i155_41 rfl rfl rfl e17 rfl ?_
    obtain ⟨x18, e19, hS⟩ := bn_s hS
    refine ev_getL pm155 i155_44 rfl rfl rfl e19 rfl ?_
    refine ev_bl2 (f := fun x y => x * y) pm155 i155_47 rfl (fun _ _ _ _ => rfl) rfl ?_
    refine ev_bl2 (f := fun x y => x + y) pm155 i155_48 rfl (fun _ _ _ _ => rfl) rfl ?_
    refine ev_aload_n pm155 i155_49 rfl rfl rfl ?_
    obtain ⟨x20, e21, hS⟩ := bn_s hS
    refine ev_getR pm155 i155_50 rfl rfl rfl e21 rfl ?_
    obtain ⟨x22, e23, hS⟩ := bn_s hS
    refine ev_getL pm155 i155_53 rfl rfl rfl e23 rfl ?_
    refine ev_iload_n pm155 i155_56 rfl rfl rfl ?_
    obtain ⟨x25, e24, hS⟩ := bn_s hS
    refine ev_callS (sa := [.int a3, .long x22, .long (x14 + ((1000 : Int64) * x18))]) (rest := []) (st' := [.long x25]) (ls0 := [.long (x14 + ((1000 : Int64) * x18)), unk, .long x22, unk, .int a3, unk, unk]) (rv := some (.long x25)) pm155 i155_57 rfl rfl pm153 (by decide) rfl rfl (Nat.le_of_ble_eq_true rfl) (by omega) rfl (R_cs_partOf (d - 1) (by omega) e24) (by simp) rfl rfl ?_
    cases hS
    exact ev_lreturn pm155 i155_60 rfl rfl rfl
  · rw [if_neg c367] at hS
    refine ev_if_eq_f (t := 13) pm155 i155_6 rfl c367 rfl rfl ?_
    refine ev_ldc2_w (v := .long (-1 : Int64)) pm155 i155_9 rfl rfl rfl ?_
    cases hS
    exact ev_lreturn pm155 i155_12 rfl rfl rfl
def B_cs_safest_29 (l0 : Nat) (l1 : Int32) (s : Int32 × Int64 × Int32) (h : Hp) : Option (((Int32 × Int64 × Int32) ⊕ (Int32)) × Hp) :=
  bn (gR h l0 11 3) fun x8 =>
  bn (gI h x8 10 1) fun x10 =>
  if s.2.2 < x10 then
    (bn (gR h l0 11 3) fun x12 =>
    bn (F_to_isNorth x12 s.2.2 h) fun x15 =>
    if x15 = (0 : Int32) then
      (some (.inl (s.1, s.2.1, s.2.2 + (1 : Int32)), h))
    else
      (bn (gR h l0 11 11) fun x16 =>
      bn (gR h l0 11 3) fun x18 =>
      bn (gR h l0 11 4) fun x20 =>
      bn (F_mo_follow x16 x18 x20 s.2.2 l1 h) fun h23 =>
      bn (gR h23 l0 11 11) fun x24 =>
      bn (gL h23 x24 4 1) fun x26 =>
      if (0 : Int32) < (lg_cmp x26 s.2.1) then
        (bn (gR h23 l0 11 11) fun x28 =>
        bn (gL h23 x28 4 1) fun x30 =>
        some (.inl (s.2.2, x30, s.2.2 + (1 : Int32)), h23))
      else
        (some (.inl (s.1, s.2.1, s.2.2 + (1 : Int32)), h23))))
  else
    (some (.inr s.1, h))
set_option maxRecDepth 20000 in
theorem L_cs_safest_29 (d : Nat) (hd : 3 ≤ d) {l0 : Nat} {l1 : Int32} : ∀ (n : Nat) (s : Int32 × Int64 × Int32) (h : Hp) (x : Int32) (hx : Hp), lp (B_cs_safest_29 l0 l1) n s h = some (x, hx) → ∀ r, Ev P d 156 (100, [unk, unk, .int x, unk, unk, unk], [], hx) r → Ev P d 156 (29, [.ref l0, .int l1, .int s.1, .long s.2.1, unk, .int s.2.2], [], h) r := by
  refine lp_ev (G0 := fun (s : Int32 × Int64 × Int32) h r => Ev P d 156 (29, [.ref l0, .int l1, .int s.1, .long s.2.1, unk, .int s.2.2], [], h) r) (X := fun (x : Int32) hx r => Ev P d 156 (100, [unk, unk, .int x, unk, unk, unk], [], hx) r) ?_
  intro s h y h9 hS r hK
  unfold B_cs_safest_29 at hS
  show Ev P d 156 (29, [.ref l0, .int l1, .int s.1, .long s.2.1, unk, .int s.2.2], [], h) r
  refine ev_iload pm156 i156_29 rfl rfl rfl ?_
  refine ev_aload_n pm156 i156_31 rfl rfl rfl ?_
  obtain ⟨x8, e9, hS⟩ := bn_s hS
  refine ev_getR pm156 i156_32 rfl rfl rfl e9 rfl ?_
  obtain ⟨x10, e11, hS⟩ := bn_s hS
  refine ev_getI pm156 i156_35 rfl rfl (by decide) e11 rfl ?_
  by_cases c368 : s.2.2 < x10
  · rw [if_pos c368] at hS
    refine ev_icmp_ge_t (t := 100) pm156 i156_38 rfl c368 rfl rfl ?_
    refine ev_aload_n pm156 i156_41 rfl rfl rfl ?_
    obtain ⟨x12, e13, hS⟩ := bn_s hS
    refine ev_getR pm156 i156_42 rfl rfl rfl e13 rfl ?_
    refine ev_iload pm156 i156_45 rfl rfl rfl ?_
    obtain ⟨x15, e14, hS⟩ := bn_s hS
    refine ev_callV (sa := [.int s.2.2]) (rest := []) (st' := [.int x15]) (ls0 := [.ref x12, .int s.2.2]) (rv := some (.int x15)) pm156 i156_47 rfl rfl pm76 (by decide) (K_to_isNorth e14) rfl rfl (Nat.le_of_ble_eq_true rfl) (by omega) rfl (R_to_isNorth (d - 1) (by omega) e14) (by simp) rfl rfl ?_
    by_cases c369 : x15 = (0 : Int32)
    · rw [if_pos c369] at hS
      refine ev_if_eq_t (t := 94) pm156 i156_50 rfl c369 rfl rfl ?_
      refine ev_iinc (v := 1) (ls' := [.ref l0, .int l1, .int s.1, .long s.2.1, unk, .int (s.2.2 + (1 : Int32))]) pm156 i156_94 rfl rfl (by decide) rfl rfl ?_
      refine ev_goto (t := 29) pm156 i156_97 rfl rfl ?_
      cases hS
      exact hK
    · rw [if_neg c369] at hS
      refine ev_if_eq_f (t := 94) pm156 i156_50 rfl c369 rfl rfl ?_
      refine ev_aload_n pm156 i156_53 rfl rfl rfl ?_
      obtain ⟨x16, e17, hS⟩ := bn_s hS
      refine ev_getR pm156 i156_54 rfl rfl rfl e17 rfl ?_
      refine ev_aload_n pm156 i156_57 rfl rfl rfl ?_
      obtain ⟨x18, e19, hS⟩ := bn_s hS
      refine ev_getR pm156 i156_58 rfl rfl rfl e19 rfl ?_
      refine ev_aload_n pm156 i156_61 rfl rfl rfl ?_
      obtain ⟨x20, e21, hS⟩ := bn_s hS
      refine ev_getR pm156 i156_62 rfl rfl rfl e21 rfl ?_
      refine ev_iload pm156 i156_65 rfl rfl rfl ?_
      refine ev_iload_n pm156 i156_67 rfl rfl rfl ?_
      obtain ⟨h23, e22, hS⟩ := bn_s hS
      refine ev_callV (sa := [.int l1, .int s.2.2, .ref x20, .ref x18]) (rest := []) (st' := []) (ls0 := [.ref x16, .ref x18, .ref x20, .int s.2.2, .int l1, unk, unk, unk, unk, unk]) (rv := none) pm156 i156_68 rfl rfl pm149 (by decide) (K_mo_follow e22) rfl rfl (Nat.le_of_ble_eq_true rfl) (by omega) rfl (R_mo_follow (d - 1) (by omega) e22) (by simp) rfl rfl ?_
      refine ev_aload_n pm156 i156_71 rfl rfl rfl ?_
      obtain ⟨x24, e25, hS⟩ := bn_s hS
      refine ev_getR pm156 i156_72 rfl rfl rfl e25 rfl ?_
      obtain ⟨x26, e27, hS⟩ := bn_s hS
      refine ev_getL pm156 i156_75 rfl rfl rfl e27 rfl ?_
      refine ev_lload_n pm156 i156_78 rfl rfl rfl ?_
      refine ev_lcmp pm156 i156_79 rfl rfl ?_
      by_cases c370 : (0 : Int32) < (lg_cmp x26 s.2.1)
      · rw [if_pos c370] at hS
        refine ev_if_le_t (t := 94) pm156 i156_80 rfl c370 rfl rfl ?_
        refine ev_aload_n pm156 i156_83 rfl rfl rfl ?_
        obtain ⟨x28, e29, hS⟩ := bn_s hS
        refine ev_getR pm156 i156_84 rfl rfl rfl e29 rfl ?_
        obtain ⟨x30, e31, hS⟩ := bn_s hS
        refine ev_getL pm156 i156_87 rfl rfl rfl e31 rfl ?_
        refine ev_lstore_n (ls' := [.ref l0, .int l1, .int s.1, .long x30, unk, .int s.2.2]) pm156 i156_90 rfl (Nat.le_of_ble_eq_true rfl) rfl rfl ?_
        refine ev_iload pm156 i156_91 rfl rfl rfl ?_
        refine ev_istore_n (ls' := [.ref l0, .int l1, .int s.2.2, .long x30, unk, .int s.2.2]) pm156 i156_93 rfl (Nat.le_of_ble_eq_true rfl) rfl rfl ?_
        refine ev_iinc (v := 1) (ls' := [.ref l0, .int l1, .int s.2.2, .long x30, unk, .int (s.2.2 + (1 : Int32))]) pm156 i156_94 rfl rfl (by decide) rfl rfl ?_
        refine ev_goto (t := 29) pm156 i156_97 rfl rfl ?_
        cases hS
        exact hK
      · rw [if_neg c370] at hS
        refine ev_if_le_f (t := 94) pm156 i156_80 rfl c370 rfl rfl ?_
        refine ev_iinc (v := 1) (ls' := [.ref l0, .int l1, .int s.1, .long s.2.1, unk, .int (s.2.2 + (1 : Int32))]) pm156 i156_94 rfl rfl (by decide) rfl rfl ?_
        refine ev_goto (t := 29) pm156 i156_97 rfl rfl ?_
        cases hS
        exact hK
  · rw [if_neg c368] at hS
    refine ev_icmp_ge_f (t := 100) pm156 i156_38 rfl c368 rfl rfl ?_
    refine ev_kls (ls' := [unk, unk, .int s.1, unk, unk, unk]) pm156 i156_100 rfl rfl ?_
    cases hS
    exact hK
def F_cs_safest (a0 : Nat) (a1 : Int32) (h : Hp) : Option (Int32 × Hp) :=
  ck h a0 11 (bn (F_cs_noLake a0 h) fun x2 =>
  bn (F_cs_outside a1 (0 : Int32) (4 : Int32)) fun x4 =>
  bd (F_cs_refused a0 x2 x4 h) fun x6 h7 =>
  if x6 = (0 : Int32) then
    (bd (lp (B_cs_safest_29 a0 a1) FU ((-2 : Int32), (-1 : Int64), (0 : Int32)) h7) fun x32 h34 =>
    some (x32, h34))
  else
    (some ((-1 : Int32), h7)))
set_option maxRecDepth 20000 in
theorem K_cs_safest {a0 : Nat} {a1 : Int32} {h : Hp} {v : Int32} {h' : Hp} (hS : F_cs_safest a0 a1 h = some (v, h')) : kd h a0 = 11 := by
  unfold F_cs_safest at hS
  exact (ck_s hS).1
set_option maxRecDepth 20000 in
theorem R_cs_safest (d : Nat) (hd : 3 ≤ d) {a0 : Nat} {a1 : Int32} {h : Hp} {v : Int32} {h' : Hp} (hS : F_cs_safest a0 a1 h = some (v, h')) : Ev P d 156 (0, [.ref a0, .int a1, unk, unk, unk, unk], [], h) (some (.int v), h') := by
  unfold F_cs_safest at hS
  replace hS := (ck_s hS).2
  refine ev_aload_n pm156 i156_0 rfl rfl rfl ?_
  refine ev_aload_n pm156 i156_1 rfl rfl rfl ?_
  obtain ⟨x2, e1, hS⟩ := bn_s hS
  refine ev_callV (sa := []) (rest := [.ref a0]) (st' := [.int x2, .ref a0]) (ls0 := [.ref a0]) (rv := some (.int x2)) pm156 i156_2 rfl rfl pm86 (by decide) (K_cs_noLake e1) rfl rfl (Nat.le_of_ble_eq_true rfl) (by omega) rfl (R_cs_noLake (d - 1) (by omega) e1) (by simp) rfl rfl ?_
  refine ev_iload_n pm156 i156_5 rfl rfl rfl ?_
  refine ev_iconst (v := 0) pm156 i156_6 rfl (by decide) rfl ?_
  refine ev_iconst (v := 4) pm156 i156_7 rfl (by decide) rfl ?_
  obtain ⟨x4, e3, hS⟩ := bn_s hS
  refine ev_callS (sa := [.int (4 : Int32), .int (0 : Int32), .int a1]) (rest := [.int x2, .ref a0]) (st' := [.int x4, .int x2, .ref a0]) (ls0 := [.int a1, .int (0 : Int32), .int (4 : Int32)]) (rv := some (.int x4)) pm156 i156_8 rfl rfl pm17 (by decide) rfl rfl (Nat.le_of_ble_eq_true rfl) (by omega) rfl (R_cs_outside (d - 1) (by omega) e3) (by simp) rfl rfl ?_
  obtain ⟨x6, h7, e5, hS⟩ := bd_s hS
  refine ev_callV (sa := [.int x4, .int x2]) (rest := []) (st' := [.int x6]) (ls0 := [.ref a0, .int x2, .int x4]) (rv := some (.int x6)) pm156 i156_11 rfl rfl pm18 (by decide) (K_cs_refused e5) rfl rfl (Nat.le_of_ble_eq_true rfl) (by omega) rfl (R_cs_refused (d - 1) (by omega) e5) (by simp) rfl rfl ?_
  by_cases c371 : x6 = (0 : Int32)
  · rw [if_pos c371] at hS
    refine ev_if_eq_t (t := 19) pm156 i156_14 rfl c371 rfl rfl ?_
    refine ev_bipush (v := -2) pm156 i156_19 rfl (by decide) rfl ?_
    refine ev_istore_n (ls' := [.ref a0, .int a1, .int (-2 : Int32), unk, unk, unk]) pm156 i156_21 rfl (Nat.le_of_ble_eq_true rfl) rfl rfl ?_
    refine ev_ldc2_w (v := .long (-1 : Int64)) pm156 i156_22 rfl rfl rfl ?_
    refine ev_lstore_n (ls' := [.ref a0, .int a1, .int (-2 : Int32), .long (-1 : Int64), unk, unk]) pm156 i156_25 rfl (Nat.le_of_ble_eq_true rfl) rfl rfl ?_
    refine ev_iconst (v := 0) pm156 i156_26 rfl (by decide) rfl ?_
    refine ev_istore (ls' := [.ref a0, .int a1, .int (-2 : Int32), .long (-1 : Int64), unk, .int (0 : Int32)]) pm156 i156_27 rfl (Nat.le_of_ble_eq_true rfl) rfl rfl ?_
    obtain ⟨x32, h34, e33, hS⟩ := bd_s hS
    refine L_cs_safest_29 d (by omega) _ _ _ _ _ e33 _ ?_
    show Ev P d 156 (100, [unk, unk, .int x32, unk, unk, unk], [], h34) _
    refine ev_iload_n pm156 i156_100 rfl rfl rfl ?_
    cases hS
    exact ev_ireturn pm156 i156_101 rfl rfl rfl
  · rw [if_neg c371] at hS
    refine ev_if_eq_f (t := 19) pm156 i156_14 rfl c371 rfl rfl ?_
    refine ev_iconst (v := -1) pm156 i156_17 rfl (by decide) rfl ?_
    cases hS
    exact ev_ireturn pm156 i156_18 rfl rfl rfl
def F_cs_losses (a0 : Nat) (a1 : Int32) (a2 : Int32) (a3 : Int32) (h : Hp) : Option (Int64 × Hp) :=
  ck h a0 11 (bd (F_cs_refusedOdds a0 a1 a2 h) fun x2 h3 =>
  if x2 = (0 : Int32) then
    (bn (gR h3 a0 11 11) fun x4 =>
    bn (gR h3 a0 11 3) fun x6 =>
    bn (gR h3 a0 11 4) fun x8 =>
    bn (F_mo_follow x4 x6 x8 a1 a2 h3) fun h11 =>
    bn (gR h11 a0 11 11) fun x12 =>
    bn (gL h11 x12 4 3) fun x14 =>
    bn (gR h11 a0 11 11) fun x16 =>
    bn (gL h11 x16 4 0) fun x18 =>
    bn (F_cs_partOf x14 x18 a3) fun x21 =>
    some (x21, h11))
  else
    (some ((-1 : Int64), h3)))
set_option maxRecDepth 20000 in
theorem K_cs_losses {a0 : Nat} {a1 : Int32} {a2 : Int32} {a3 : Int32} {h : Hp} {v : Int64} {h' : Hp} (hS : F_cs_losses a0 a1 a2 a3 h = some (v, h')) : kd h a0 = 11 := by
  unfold F_cs_losses at hS
  exact (ck_s hS).1
set_option maxRecDepth 20000 in
theorem R_cs_losses (d : Nat) (hd : 3 ≤ d) {a0 : Nat} {a1 : Int32} {a2 : Int32} {a3 : Int32} {h : Hp} {v : Int64} {h' : Hp} (hS : F_cs_losses a0 a1 a2 a3 h = some (v, h')) : Ev P d 157 (0, [.ref a0, .int a1, .int a2, .int a3], [], h) (some (.long v), h') := by
  unfold F_cs_losses at hS
  replace hS := (ck_s hS).2
  refine ev_aload_n pm157 i157_0 rfl rfl rfl ?_
  refine ev_iload_n pm157 i157_1 rfl rfl rfl ?_
  refine ev_iload_n pm157 i157_2 rfl rfl rfl ?_
  obtain ⟨x2, h3, e1, hS⟩ := bd_s hS
  refine ev_callV (sa := [.int a2, .int a1]) (rest := []) (st' := [.int x2]) (ls0 := [.ref a0, .int a1, .int a2]) (rv := some (.int x2)) pm157 i157_3 rfl rfl pm148 (by decide) (K_cs_refusedOdds e1) rfl rfl (Nat.le_of_ble_eq_true rfl) (by omega) rfl (R_cs_refusedOdds (d - 1) (by omega) e1) (by simp) rfl rfl ?_
  by_cases c372 : x2 = (0 : Int32)
  · rw [if_pos c372] at hS
    refine ev_if_eq_t (t := 13) pm157 i157_6 rfl c372 rfl rfl ?_
    refine ev_aload_n pm157 i157_13 rfl rfl rfl ?_
    obtain ⟨x4, e5, hS⟩ := bn_s hS
    refine ev_getR pm157 i157_14 rfl rfl rfl e5 rfl ?_
    refine ev_aload_n pm157 i157_17 rfl rfl rfl ?_
    obtain ⟨x6, e7, hS⟩ := bn_s hS
    refine ev_getR pm157 i157_18 rfl rfl rfl e7 rfl ?_
    refine ev_aload_n pm157 i157_21 rfl rfl rfl ?_
    obtain ⟨x8, e9, hS⟩ := bn_s hS
    refine ev_getR pm157 i157_22 rfl rfl rfl e9 rfl ?_
    refine ev_iload_n pm157 i157_25 rfl rfl rfl ?_
    refine ev_iload_n pm157 i157_26 rfl rfl rfl ?_
    obtain ⟨h11, e10, hS⟩ := bn_s hS
    refine ev_callV (sa := [.int a2, .int a1, .ref x8, .ref x6]) (rest := []) (st' := []) (ls0 := [.ref x4, .ref x6, .ref x8, .int a1, .int a2, unk, unk, unk, unk, unk]) (rv := none) pm157 i157_27 rfl rfl pm149 (by decide) (K_mo_follow e10) rfl rfl (Nat.le_of_ble_eq_true rfl) (by omega) rfl (R_mo_follow (d - 1) (by omega) e10) (by simp) rfl rfl ?_
    refine ev_aload_n pm157 i157_30 rfl rfl rfl ?_
    obtain ⟨x12, e13, hS⟩ := bn_s hS
    refine ev_getR pm157 i157_31 rfl rfl rfl e13 rfl ?_
    obtain ⟨x14, e15, hS⟩ := bn_s hS
    refine ev_getL pm157 i157_34 rfl rfl rfl e15 rfl ?_
    refine ev_aload_n pm157 i157_37 rfl rfl rfl ?_
    obtain ⟨x16, e17, hS⟩ := bn_s hS
    refine ev_getR pm157 i157_38 rfl rfl rfl e17 rfl ?_
    obtain ⟨x18, e19, hS⟩ := bn_s hS
    refine ev_getL pm157 i157_41 rfl rfl rfl e19 rfl ?_
    refine ev_iload_n pm157 i157_44 rfl rfl rfl ?_
    obtain ⟨x21, e20, hS⟩ := bn_s hS
    refine ev_callS (sa := [.int a3, .long x18, .long x14]) (rest := []) (st' := [.long x21]) (ls0 := [.long x14, unk, .long x18, unk, .int a3, unk, unk]) (rv := some (.long x21)) pm157 i157_45 rfl rfl pm153 (by decide) rfl rfl (Nat.le_of_ble_eq_true rfl) (by omega) rfl (R_cs_partOf (d - 1) (by omega) e20) (by simp) rfl rfl ?_
    cases hS
    exact ev_lreturn pm157 i157_48 rfl rfl rfl
  · rw [if_neg c372] at hS
    refine ev_if_eq_f (t := 13) pm157 i157_6 rfl c372 rfl rfl ?_
    refine ev_ldc2_w (v := .long (-1 : Int64)) pm157 i157_9 rfl rfl rfl ?_
    cases hS
    exact ev_lreturn pm157 i157_12 rfl rfl rfl
def F_cs_wrongDraws (a0 : Int32) (a1 : Int32) : Option Int32 :=
  bn (F_cs_outside a0 (0 : Int32) (65536 : Int32)) fun x2 =>
  if x2 = (0 : Int32) then
    (bn (F_cs_outside a1 (0 : Int32) (20 : Int32)) fun x4 =>
    if x4 = (0 : Int32) then
      (some (0 : Int32))
    else
      (some (1 : Int32)))
  else
    (some (1 : Int32))
set_option maxRecDepth 20000 in
theorem R_cs_wrongDraws (d : Nat) (hd : 1 ≤ d) {a0 : Int32} {a1 : Int32} {h : Hp} {v : Int32} (hS : F_cs_wrongDraws a0 a1 = some v) : Ev P d 159 (0, [.int a0, .int a1], [], h) (some (.int v), h) := by
  unfold F_cs_wrongDraws at hS
  refine ev_iload_n pm159 i159_0 rfl rfl rfl ?_
  refine ev_iconst (v := 0) pm159 i159_1 rfl (by decide) rfl ?_
  refine ev_ldc_w (v := .int (65536 : Int32)) pm159 i159_2 rfl rfl rfl ?_
  obtain ⟨x2, e1, hS⟩ := bn_s hS
  refine ev_callS (sa := [.int (65536 : Int32), .int (0 : Int32), .int a0]) (rest := []) (st' := [.int x2]) (ls0 := [.int a0, .int (0 : Int32), .int (65536 : Int32)]) (rv := some (.int x2)) pm159 i159_5 rfl rfl pm17 (by decide) rfl rfl (Nat.le_of_ble_eq_true rfl) (by omega) rfl (R_cs_outside (d - 1) (by omega) e1) (by simp) rfl rfl ?_
  by_cases c373 : x2 = (0 : Int32)
  · rw [if_pos c373] at hS
    refine ev_if_ne_t (t := 21) pm159 i159_8 rfl c373 rfl rfl ?_
    refine ev_iload_n pm159 i159_11 rfl rfl rfl ?_
    refine ev_iconst (v := 0) pm159 i159_12 rfl (by decide) rfl ?_
    refine ev_bipush (v := 20) pm159 i159_13 rfl (by decide) rfl ?_
    obtain ⟨x4, e3, hS⟩ := bn_s hS
    refine ev_callS (sa := [.int (20 : Int32), .int (0 : Int32), .int a1]) (rest := []) (st' := [.int x4]) (ls0 := [.int a1, .int (0 : Int32), .int (20 : Int32)]) (rv := some (.int x4)) pm159 i159_15 rfl rfl pm17 (by decide) rfl rfl (Nat.le_of_ble_eq_true rfl) (by omega) rfl (R_cs_outside (d - 1) (by omega) e3) (by simp) rfl rfl ?_
    by_cases c374 : x4 = (0 : Int32)
    · rw [if_pos c374] at hS
      refine ev_if_eq_t (t := 25) pm159 i159_18 rfl c374 rfl rfl ?_
      refine ev_iconst (v := 0) pm159 i159_25 rfl (by decide) rfl ?_
      refine ev_kls (ls' := [unk, unk]) pm159 i159_26 rfl rfl ?_
      cases hS
      exact ev_ireturn pm159 i159_26 rfl (by decide) rfl
    · rw [if_neg c374] at hS
      refine ev_if_eq_f (t := 25) pm159 i159_18 rfl c374 rfl rfl ?_
      refine ev_kls (ls' := [unk, unk]) pm159 i159_21 rfl rfl ?_
      refine ev_iconst (v := 1) pm159 i159_21 rfl (by decide) rfl ?_
      refine ev_goto (t := 26) pm159 i159_22 rfl rfl ?_
      cases hS
      exact ev_ireturn pm159 i159_26 rfl (by decide) rfl
  · rw [if_neg c373] at hS
    refine ev_if_ne_f (t := 21) pm159 i159_8 rfl c373 rfl rfl ?_
    refine ev_kls (ls' := [unk, unk]) pm159 i159_21 rfl rfl ?_
    refine ev_iconst (v := 1) pm159 i159_21 rfl (by decide) rfl ?_
    refine ev_goto (t := 26) pm159 i159_22 rfl rfl ?_
    cases hS
    exact ev_ireturn pm159 i159_26 rfl (by decide) rfl
def B_st_passWithMice_8 (l0 : Nat) (l1 : Nat) (s : Int32 × Int32) (h : Hp) : Option (((Int32 × Int32) ⊕ (Int32)) × Hp) :=
  bn (gI h l1 10 1) fun x3 =>
  if s.2 < x3 then
    (bn (F_to_isNorth l1 s.2 h) fun x6 =>
    if x6 = (0 : Int32) then
      (some (.inl (s.1, s.2 + (1 : Int32)), h))
    else
      (bn (gI h l0 8 3) fun x7 =>
      bn (rm32 (((75 : Int32) * x7) + (74 : Int32)) (65537 : Int32)) fun x9 =>
      bn (pI h l0 8 3 x9) fun h11 =>
      bn (gI h11 l0 8 3) fun x13 =>
      bn (rm32 x13 (100 : Int32)) fun x15 =>
      bn (gI h11 l1 10 0) fun x17 =>
      if x15 < x17 then
        (bd (F_st_loseOne l0 s.2 h11) fun x20 h21 =>
        if x20 = (0 : Int32) then
          (some (.inl (s.1, s.2 + (1 : Int32)), h21))
        else
          (some (.inl (s.1 + (1 : Int32), s.2 + (1 : Int32)), h21)))
      else
        (some (.inl (s.1, s.2 + (1 : Int32)), h11))))
  else
    (some (.inr s.1, h))
set_option maxRecDepth 20000 in
theorem L_st_passWithMice_8 (d : Nat) (hd : 2 ≤ d) {l0 : Nat} {l1 : Nat} : ∀ (n : Nat) (s : Int32 × Int32) (h : Hp) (x : Int32) (hx : Hp), lp (B_st_passWithMice_8 l0 l1) n s h = some (x, hx) → ∀ r, Ev P d 161 (72, [.ref l0, unk, .int x, unk], [], hx) r → Ev P d 161 (8, [.ref l0, .ref l1, .int s.1, .int s.2], [], h) r := by
  refine lp_ev (G0 := fun (s : Int32 × Int32) h r => Ev P d 161 (8, [.ref l0, .ref l1, .int s.1, .int s.2], [], h) r) (X := fun (x : Int32) hx r => Ev P d 161 (72, [.ref l0, unk, .int x, unk], [], hx) r) ?_
  intro s h y h9 hS r hK
  unfold B_st_passWithMice_8 at hS
  show Ev P d 161 (8, [.ref l0, .ref l1, .int s.1, .int s.2], [], h) r
  refine ev_iload_n pm161 i161_8 rfl rfl rfl ?_
  refine ev_aload_n pm161 i161_9 rfl rfl rfl ?_
  obtain ⟨x3, e4, hS⟩ := bn_s hS
  refine ev_getI pm161 i161_10 rfl rfl (by decide) e4 rfl ?_
  by_cases c375 : s.2 < x3
  · rw [if_pos c375] at hS
    refine ev_icmp_ge_t (t := 72) pm161 i161_13 rfl c375 rfl rfl ?_
    refine ev_aload_n pm161 i161_16 rfl rfl rfl ?_
    refine ev_iload_n pm161 i161_17 rfl rfl rfl ?_
    obtain ⟨x6, e5, hS⟩ := bn_s hS
    refine ev_callV (sa := [.int s.2]) (rest := []) (st' := [.int x6]) (ls0 := [.ref l1, .int s.2]) (rv := some (.int x6)) pm161 i161_18 rfl rfl pm76 (by decide) (K_to_isNorth e5) rfl rfl (Nat.le_of_ble_eq_true rfl) (by omega) rfl (R_to_isNorth (d - 1) (by omega) e5) (by simp) rfl rfl ?_
    by_cases c376 : x6 = (0 : Int32)
    · rw [if_pos c376] at hS
      refine ev_if_eq_t (t := 66) pm161 i161_21 rfl c376 rfl rfl ?_
      refine ev_iinc (v := 1) (ls' := [.ref l0, .ref l1, .int s.1, .int (s.2 + (1 : Int32))]) pm161 i161_66 rfl rfl (by decide) rfl rfl ?_
      refine ev_goto (t := 8) pm161 i161_69 rfl rfl ?_
      cases hS
      exact hK
    · rw [if_neg c376] at hS
      refine ev_if_eq_f (t := 66) pm161 i161_21 rfl c376 rfl rfl ?_
      refine ev_aload_n pm161 i161_24 rfl rfl rfl ?_
      refine ev_bipush (v := 75) pm161 i161_25 rfl (by decide) rfl ?_
      refine ev_aload_n pm161 i161_27 rfl rfl rfl ?_
      obtain ⟨x7, e8, hS⟩ := bn_s hS
      refine ev_getI pm161 i161_28 rfl rfl (by decide) e8 rfl ?_
      refine ev_b2 (f := fun x y => x * y) pm161 i161_31 rfl (fun _ _ _ _ => rfl) rfl ?_
      refine ev_bipush (v := 74) pm161 i161_32 rfl (by decide) rfl ?_
      refine ev_b2 (f := fun x y => x + y) pm161 i161_34 rfl (fun _ _ _ _ => rfl) rfl ?_
      refine ev_ldc (v := .int (65537 : Int32)) pm161 i161_35 rfl rfl rfl ?_
      obtain ⟨x9, e10, hS⟩ := bn_s hS
      refine ev_irem pm161 i161_37 rfl e10 rfl ?_
      obtain ⟨h11, e12, hS⟩ := bn_s hS
      refine ev_putI pm161 i161_38 rfl rfl rfl e12 rfl ?_
      refine ev_aload_n pm161 i161_41 rfl rfl rfl ?_
      obtain ⟨x13, e14, hS⟩ := bn_s hS
      refine ev_getI pm161 i161_42 rfl rfl (by decide) e14 rfl ?_
      refine ev_bipush (v := 100) pm161 i161_45 rfl (by decide) rfl ?_
      obtain ⟨x15, e16, hS⟩ := bn_s hS
      refine ev_irem pm161 i161_47 rfl e16 rfl ?_
      refine ev_aload_n pm161 i161_48 rfl rfl rfl ?_
      obtain ⟨x17, e18, hS⟩ := bn_s hS
      refine ev_getI pm161 i161_49 rfl rfl (by decide) e18 rfl ?_
      by_cases c377 : x15 < x17
      · rw [if_pos c377] at hS
        refine ev_icmp_ge_t (t := 66) pm161 i161_52 rfl c377 rfl rfl ?_
        refine ev_aload_n pm161 i161_55 rfl rfl rfl ?_
        refine ev_iload_n pm161 i161_56 rfl rfl rfl ?_
        obtain ⟨x20, h21, e19, hS⟩ := bd_s hS
        refine ev_callV (sa := [.int s.2]) (rest := []) (st' := [.int x20]) (ls0 := [.ref l0, .int s.2, unk, unk]) (rv := some (.int x20)) pm161 i161_57 rfl rfl pm152 (by decide) (K_st_loseOne e19) rfl rfl (Nat.le_of_ble_eq_true rfl) (by omega) rfl (R_st_loseOne (d - 1) (by omega) e19) (by simp) rfl rfl ?_
        by_cases c378 : x20 = (0 : Int32)
        · rw [if_pos c378] at hS
          refine ev_if_eq_t (t := 66) pm161 i161_60 rfl c378 rfl rfl ?_
          refine ev_iinc (v := 1) (ls' := [.ref l0, .ref l1, .int s.1, .int (s.2 + (1 : Int32))]) pm161 i161_66 rfl rfl (by decide) rfl rfl ?_
          refine ev_goto (t := 8) pm161 i161_69 rfl rfl ?_
          cases hS
          exact hK
        · rw [if_neg c378] at hS
          refine ev_if_eq_f (t := 66) pm161 i161_60 rfl c378 rfl rfl ?_
          refine ev_iinc (v := 1) (ls' := [.ref l0, .ref l1, .int (s.1 + (1 : Int32)), .int s.2]) pm161 i161_63 rfl rfl (by decide) rfl rfl ?_
          refine ev_iinc (v := 1) (ls' := [.ref l0, .ref l1, .int (s.1 + (1 : Int32)), .int (s.2 + (1 : Int32))]) pm161 i161_66 rfl rfl (by decide) rfl rfl ?_
          refine ev_goto (t := 8) pm161 i161_69 rfl rfl ?_
          cases hS
          exact hK
      · rw [if_neg c377] at hS
        refine ev_icmp_ge_f (t := 66) pm161 i161_52 rfl c377 rfl rfl ?_
        refine ev_iinc (v := 1) (ls' := [.ref l0, .ref l1, .int s.1, .int (s.2 + (1 : Int32))]) pm161 i161_66 rfl rfl (by decide) rfl rfl ?_
        refine ev_goto (t := 8) pm161 i161_69 rfl rfl ?_
        cases hS
        exact hK
  · rw [if_neg c375] at hS
    refine ev_icmp_ge_f (t := 72) pm161 i161_13 rfl c375 rfl rfl ?_
    refine ev_kls (ls' := [.ref l0, unk, .int s.1, unk]) pm161 i161_72 rfl rfl ?_
    cases hS
    exact hK
def F_st_passWithMice (a0 : Nat) (a1 : Nat) (h : Hp) : Option (Int32 × Hp) :=
  ck h a0 8 (bn (F_st_soften a0 h) fun h2 =>
  bd (lp (B_st_passWithMice_8 a0 a1) FU ((0 : Int32), (0 : Int32)) h2) fun x22 h24 =>
  bn (gI h24 a0 8 4) fun x25 =>
  bn (pI h24 a0 8 4 (x25 + (1 : Int32))) fun h27 =>
  some (x22, h27))
set_option maxRecDepth 20000 in
theorem K_st_passWithMice {a0 : Nat} {a1 : Nat} {h : Hp} {v : Int32} {h' : Hp} (hS : F_st_passWithMice a0 a1 h = some (v, h')) : kd h a0 = 8 := by
  unfold F_st_passWithMice at hS
  exact (ck_s hS).1
set_option maxRecDepth 20000 in
theorem R_st_passWithMice (d : Nat) (hd : 2 ≤ d) {a0 : Nat} {a1 : Nat} {h : Hp} {v : Int32} {h' : Hp} (hS : F_st_passWithMice a0 a1 h = some (v, h')) : Ev P d 161 (0, [.ref a0, .ref a1, unk, unk], [], h) (some (.int v), h') := by
  unfold F_st_passWithMice at hS
  replace hS := (ck_s hS).2
  refine ev_aload_n pm161 i161_0 rfl rfl rfl ?_
  obtain ⟨h2, e1, hS⟩ := bn_s hS
  refine ev_callV (sa := []) (rest := []) (st' := []) (ls0 := [.ref a0, unk]) (rv := none) pm161 i161_1 rfl rfl pm97 (by decide) (K_st_soften e1) rfl rfl (Nat.le_of_ble_eq_true rfl) (by omega) rfl (R_st_soften (d - 1) (by omega) e1) (by simp) rfl rfl ?_
  refine ev_iconst (v := 0) pm161 i161_4 rfl (by decide) rfl ?_
  refine ev_istore_n (ls' := [.ref a0, .ref a1, .int (0 : Int32), unk]) pm161 i161_5 rfl (Nat.le_of_ble_eq_true rfl) rfl rfl ?_
  refine ev_iconst (v := 0) pm161 i161_6 rfl (by decide) rfl ?_
  refine ev_istore_n (ls' := [.ref a0, .ref a1, .int (0 : Int32), .int (0 : Int32)]) pm161 i161_7 rfl (Nat.le_of_ble_eq_true rfl) rfl rfl ?_
  obtain ⟨x22, h24, e23, hS⟩ := bd_s hS
  refine L_st_passWithMice_8 d (by omega) _ _ _ _ _ e23 _ ?_
  show Ev P d 161 (72, [.ref a0, unk, .int x22, unk], [], h24) _
  refine ev_aload_n pm161 i161_72 rfl rfl rfl ?_
  refine ev_dup pm161 i161_73 rfl rfl rfl ?_
  obtain ⟨x25, e26, hS⟩ := bn_s hS
  refine ev_getI pm161 i161_74 rfl rfl (by decide) e26 rfl ?_
  refine ev_iconst (v := 1) pm161 i161_77 rfl (by decide) rfl ?_
  refine ev_b2 (f := fun x y => x + y) pm161 i161_78 rfl (fun _ _ _ _ => rfl) rfl ?_
  obtain ⟨h27, e28, hS⟩ := bn_s hS
  refine ev_putI pm161 i161_79 rfl rfl rfl e28 rfl ?_
  refine ev_iload_n pm161 i161_82 rfl rfl rfl ?_
  cases hS
  exact ev_ireturn pm161 i161_83 rfl rfl rfl
def B_cs_eatLater_24 (l0 : Nat) (l2 : Int32) (s : Int32 × Int32) (h : Hp) : Option (((Int32 × Int32) ⊕ (Int32)) × Hp) :=
  if s.2 < l2 then
    (bn (gR h l0 11 5) fun x11 =>
    bn (gR h l0 11 3) fun x13 =>
    bd (F_st_passWithMice x11 x13 h) fun x16 h17 =>
    some (.inl (s.1 + x16, s.2 + (1 : Int32)), h17))
  else
    (some (.inr s.1, h))
set_option maxRecDepth 20000 in
theorem L_cs_eatLater_24 (d : Nat) (hd : 3 ≤ d) {l0 : Nat} {l2 : Int32} : ∀ (n : Nat) (s : Int32 × Int32) (h : Hp) (x : Int32) (hx : Hp), lp (B_cs_eatLater_24 l0 l2) n s h = some (x, hx) → ∀ r, Ev P d 160 (50, [unk, unk, unk, .int x, unk], [], hx) r → Ev P d 160 (24, [.ref l0, unk, .int l2, .int s.1, .int s.2], [], h) r := by
  refine lp_ev (G0 := fun (s : Int32 × Int32) h r => Ev P d 160 (24, [.ref l0, unk, .int l2, .int s.1, .int s.2], [], h) r) (X := fun (x : Int32) hx r => Ev P d 160 (50, [unk, unk, unk, .int x, unk], [], hx) r) ?_
  intro s h y h9 hS r hK
  unfold B_cs_eatLater_24 at hS
  show Ev P d 160 (24, [.ref l0, unk, .int l2, .int s.1, .int s.2], [], h) r
  refine ev_iload pm160 i160_24 rfl rfl rfl ?_
  refine ev_iload_n pm160 i160_26 rfl rfl rfl ?_
  by_cases c379 : s.2 < l2
  · rw [if_pos c379] at hS
    refine ev_icmp_ge_t (t := 50) pm160 i160_27 rfl c379 rfl rfl ?_
    refine ev_iload_n pm160 i160_30 rfl rfl rfl ?_
    refine ev_aload_n pm160 i160_31 rfl rfl rfl ?_
    obtain ⟨x11, e12, hS⟩ := bn_s hS
    refine ev_getR pm160 i160_32 rfl rfl rfl e12 rfl ?_
    refine ev_aload_n pm160 i160_35 rfl rfl rfl ?_
    obtain ⟨x13, e14, hS⟩ := bn_s hS
    refine ev_getR pm160 i160_36 rfl rfl rfl e14 rfl ?_
    obtain ⟨x16, h17, e15, hS⟩ := bd_s hS
    refine ev_callV (sa := [.ref x13]) (rest := [.int s.1]) (st' := [.int x16, .int s.1]) (ls0 := [.ref x11, .ref x13, unk, unk]) (rv := some (.int x16)) pm160 i160_39 rfl rfl pm161 (by decide) (K_st_passWithMice e15) rfl rfl (Nat.le_of_ble_eq_true rfl) (by omega) rfl (R_st_passWithMice (d - 1) (by omega) e15) (by simp) rfl rfl ?_
    refine ev_b2 (f := fun x y => x + y) pm160 i160_42 rfl (fun _ _ _ _ => rfl) rfl ?_
    refine ev_istore_n (ls' := [.ref l0, unk, .int l2, .int (s.1 + x16), .int s.2]) pm160 i160_43 rfl (Nat.le_of_ble_eq_true rfl) rfl rfl ?_
    refine ev_iinc (v := 1) (ls' := [.ref l0, unk, .int l2, .int (s.1 + x16), .int (s.2 + (1 : Int32))]) pm160 i160_44 rfl rfl (by decide) rfl rfl ?_
    refine ev_goto (t := 24) pm160 i160_47 rfl rfl ?_
    cases hS
    exact hK
  · rw [if_neg c379] at hS
    refine ev_icmp_ge_f (t := 50) pm160 i160_27 rfl c379 rfl rfl ?_
    refine ev_kls (ls' := [unk, unk, unk, .int s.1, unk]) pm160 i160_50 rfl rfl ?_
    cases hS
    exact hK
def F_cs_eatLater (a0 : Nat) (a1 : Int32) (a2 : Int32) (h : Hp) : Option (Int32 × Hp) :=
  ck h a0 11 (bn (gR h a0 11 5) fun x1 =>
  bn (gR h a0 11 4) fun x3 =>
  bn (F_st_copyFrom x1 x3 h) fun h6 =>
  bn (gR h6 a0 11 5) fun x7 =>
  bn (pI h6 x7 8 3 a1) fun h9 =>
  bd (lp (B_cs_eatLater_24 a0 a2) FU ((0 : Int32), (0 : Int32)) h9) fun x18 h20 =>
  some (x18, h20))
set_option maxRecDepth 20000 in
theorem K_cs_eatLater {a0 : Nat} {a1 : Int32} {a2 : Int32} {h : Hp} {v : Int32} {h' : Hp} (hS : F_cs_eatLater a0 a1 a2 h = some (v, h')) : kd h a0 = 11 := by
  unfold F_cs_eatLater at hS
  exact (ck_s hS).1
set_option maxRecDepth 20000 in
theorem R_cs_eatLater (d : Nat) (hd : 3 ≤ d) {a0 : Nat} {a1 : Int32} {a2 : Int32} {h : Hp} {v : Int32} {h' : Hp} (hS : F_cs_eatLater a0 a1 a2 h = some (v, h')) : Ev P d 160 (0, [.ref a0, .int a1, .int a2, unk, unk], [], h) (some (.int v), h') := by
  unfold F_cs_eatLater at hS
  replace hS := (ck_s hS).2
  refine ev_aload_n pm160 i160_0 rfl rfl rfl ?_
  obtain ⟨x1, e2, hS⟩ := bn_s hS
  refine ev_getR pm160 i160_1 rfl rfl rfl e2 rfl ?_
  refine ev_aload_n pm160 i160_4 rfl rfl rfl ?_
  obtain ⟨x3, e4, hS⟩ := bn_s hS
  refine ev_getR pm160 i160_5 rfl rfl rfl e4 rfl ?_
  obtain ⟨h6, e5, hS⟩ := bn_s hS
  refine ev_callV (sa := [.ref x3]) (rest := []) (st' := []) (ls0 := [.ref x1, .ref x3]) (rv := none) pm160 i160_8 rfl rfl pm96 (by decide) (K_st_copyFrom e5) rfl rfl (Nat.le_of_ble_eq_true rfl) (by omega) rfl (R_st_copyFrom (d - 1) (by omega) e5) (by simp) rfl rfl ?_
  refine ev_aload_n pm160 i160_11 rfl rfl rfl ?_
  obtain ⟨x7, e8, hS⟩ := bn_s hS
  refine ev_getR pm160 i160_12 rfl rfl rfl e8 rfl ?_
  refine ev_iload_n pm160 i160_15 rfl rfl rfl ?_
  obtain ⟨h9, e10, hS⟩ := bn_s hS
  refine ev_putI pm160 i160_16 rfl rfl rfl e10 rfl ?_
  refine ev_iconst (v := 0) pm160 i160_19 rfl (by decide) rfl ?_
  refine ev_istore_n (ls' := [.ref a0, .int a1, .int a2, .int (0 : Int32), unk]) pm160 i160_20 rfl (Nat.le_of_ble_eq_true rfl) rfl rfl ?_
  refine ev_iconst (v := 0) pm160 i160_21 rfl (by decide) rfl ?_
  refine ev_istore (ls' := [.ref a0, .int a1, .int a2, .int (0 : Int32), .int (0 : Int32)]) pm160 i160_22 rfl (Nat.le_of_ble_eq_true rfl) rfl rfl ?_
  refine ev_kls (ls' := [.ref a0, unk, .int a2, .int (0 : Int32), .int (0 : Int32)]) pm160 i160_24 rfl rfl ?_
  obtain ⟨x18, h20, e19, hS⟩ := bd_s hS
  refine L_cs_eatLater_24 d (by omega) _ _ _ _ _ e19 _ ?_
  show Ev P d 160 (50, [unk, unk, unk, .int x18, unk], [], h20) _
  refine ev_iload_n pm160 i160_50 rfl rfl rfl ?_
  cases hS
  exact ev_ireturn pm160 i160_51 rfl rfl rfl
def F_cs_weeks (a0 : Nat) (a1 : Int32) (a2 : Int32) (a3 : Int32) (h : Hp) : Option (Int32 × Hp) :=
  ck h a0 11 (bn (F_cs_noHouse a0 a1 h) fun x2 =>
  bn (F_cs_wrongDraws a2 a3) fun x4 =>
  bd (F_cs_refused a0 x2 x4 h) fun x6 h7 =>
  if x6 = (0 : Int32) then
    (bd (F_cs_eatLater a0 a2 a3 h7) fun x9 h10 =>
    bn (gR h10 a0 11 6) fun x11 =>
    bn (gR h10 a0 11 3) fun x13 =>
    bn (gR h10 a0 11 5) fun x15 =>
    bn (F_ra_measure x11 x13 x15 h10) fun h18 =>
    bn (gR h18 a0 11 6) fun x19 =>
    bn (gR h18 x19 6 3) fun x21 =>
    bn (aI h18 100 x21 a1) fun x23 =>
    some (x23 + (1000 : Int32), h18))
  else
    (some ((-1 : Int32), h7)))
set_option maxRecDepth 20000 in
theorem K_cs_weeks {a0 : Nat} {a1 : Int32} {a2 : Int32} {a3 : Int32} {h : Hp} {v : Int32} {h' : Hp} (hS : F_cs_weeks a0 a1 a2 a3 h = some (v, h')) : kd h a0 = 11 := by
  unfold F_cs_weeks at hS
  exact (ck_s hS).1
set_option maxRecDepth 20000 in
theorem R_cs_weeks (d : Nat) (hd : 4 ≤ d) {a0 : Nat} {a1 : Int32} {a2 : Int32} {a3 : Int32} {h : Hp} {v : Int32} {h' : Hp} (hS : F_cs_weeks a0 a1 a2 a3 h = some (v, h')) : Ev P d 158 (0, [.ref a0, .int a1, .int a2, .int a3], [], h) (some (.int v), h') := by
  unfold F_cs_weeks at hS
  replace hS := (ck_s hS).2
  refine ev_aload_n pm158 i158_0 rfl rfl rfl ?_
  refine ev_aload_n pm158 i158_1 rfl rfl rfl ?_
  refine ev_iload_n pm158 i158_2 rfl rfl rfl ?_
  obtain ⟨x2, e1, hS⟩ := bn_s hS
  refine ev_callV (sa := [.int a1]) (rest := [.ref a0]) (st' := [.int x2, .ref a0]) (ls0 := [.ref a0, .int a1]) (rv := some (.int x2)) pm158 i158_3 rfl rfl pm63 (by decide) (K_cs_noHouse e1) rfl rfl (Nat.le_of_ble_eq_true rfl) (by omega) rfl (R_cs_noHouse (d - 1) (by omega) e1) (by simp) rfl rfl ?_
  refine ev_iload_n pm158 i158_6 rfl rfl rfl ?_
  refine ev_iload_n pm158 i158_7 rfl rfl rfl ?_
  obtain ⟨x4, e3, hS⟩ := bn_s hS
  refine ev_callS (sa := [.int a3, .int a2]) (rest := [.int x2, .ref a0]) (st' := [.int x4, .int x2, .ref a0]) (ls0 := [.int a2, .int a3]) (rv := some (.int x4)) pm158 i158_8 rfl rfl pm159 (by decide) rfl rfl (Nat.le_of_ble_eq_true rfl) (by omega) rfl (R_cs_wrongDraws (d - 1) (by omega) e3) (by simp) rfl rfl ?_
  obtain ⟨x6, h7, e5, hS⟩ := bd_s hS
  refine ev_callV (sa := [.int x4, .int x2]) (rest := []) (st' := [.int x6]) (ls0 := [.ref a0, .int x2, .int x4]) (rv := some (.int x6)) pm158 i158_11 rfl rfl pm18 (by decide) (K_cs_refused e5) rfl rfl (Nat.le_of_ble_eq_true rfl) (by omega) rfl (R_cs_refused (d - 1) (by omega) e5) (by simp) rfl rfl ?_
  by_cases c380 : x6 = (0 : Int32)
  · rw [if_pos c380] at hS
    refine ev_if_eq_t (t := 19) pm158 i158_14 rfl c380 rfl rfl ?_
    refine ev_aload_n pm158 i158_19 rfl rfl rfl ?_
    refine ev_iload_n pm158 i158_20 rfl rfl rfl ?_
    refine ev_iload_n pm158 i158_21 rfl rfl rfl ?_
    obtain ⟨x9, h10, e8, hS⟩ := bd_s hS
    refine ev_callV (sa := [.int a3, .int a2]) (rest := []) (st' := [.int x9]) (ls0 := [.ref a0, .int a2, .int a3, unk, unk]) (rv := some (.int x9)) pm158 i158_22 rfl rfl pm160 (by decide) (K_cs_eatLater e8) rfl rfl (Nat.le_of_ble_eq_true rfl) (by omega) rfl (R_cs_eatLater (d - 1) (by omega) e8) (by simp) rfl rfl ?_
    refine ev_pop pm158 i158_25 rfl rfl rfl ?_
    refine ev_aload_n pm158 i158_26 rfl rfl rfl ?_
    obtain ⟨x11, e12, hS⟩ := bn_s hS
    refine ev_getR pm158 i158_27 rfl rfl rfl e12 rfl ?_
    refine ev_aload_n pm158 i158_30 rfl rfl rfl ?_
    obtain ⟨x13, e14, hS⟩ := bn_s hS
    refine ev_getR pm158 i158_31 rfl rfl rfl e14 rfl ?_
    refine ev_aload_n pm158 i158_34 rfl rfl rfl ?_
    obtain ⟨x15, e16, hS⟩ := bn_s hS
    refine ev_getR pm158 i158_35 rfl rfl rfl e16 rfl ?_
    obtain ⟨h18, e17, hS⟩ := bn_s hS
    refine ev_callV (sa := [.ref x15, .ref x13]) (rest := []) (st' := []) (ls0 := [.ref x11, .ref x13, .ref x15]) (rv := none) pm158 i158_38 rfl rfl pm64 (by decide) (K_ra_measure e17) rfl rfl (Nat.le_of_ble_eq_true rfl) (by omega) rfl (R_ra_measure (d - 1) (by omega) e17) (by simp) rfl rfl ?_
    refine ev_aload_n pm158 i158_41 rfl rfl rfl ?_
    obtain ⟨x19, e20, hS⟩ := bn_s hS
    refine ev_getR pm158 i158_42 rfl rfl rfl e20 rfl ?_
    obtain ⟨x21, e22, hS⟩ := bn_s hS
    refine ev_getR pm158 i158_45 rfl rfl rfl e22 rfl ?_
    refine ev_iload_n pm158 i158_48 rfl rfl rfl ?_
    obtain ⟨x23, e24, hS⟩ := bn_s hS
    refine ev_iald pm158 i158_49 rfl e24 rfl ?_
    refine ev_sipush (v := 1000) pm158 i158_50 rfl (by decide) rfl ?_
    refine ev_b2 (f := fun x y => x + y) pm158 i158_53 rfl (fun _ _ _ _ => rfl) rfl ?_
    cases hS
    exact ev_ireturn pm158 i158_54 rfl rfl rfl
  · rw [if_neg c380] at hS
    refine ev_if_eq_f (t := 19) pm158 i158_14 rfl c380 rfl rfl ?_
    refine ev_iconst (v := -1) pm158 i158_17 rfl (by decide) rfl ?_
    cases hS
    exact ev_ireturn pm158 i158_18 rfl rfl rfl
def F_cs_eaten (a0 : Nat) (a1 : Int32) (a2 : Int32) (h : Hp) : Option (Int32 × Hp) :=
  ck h a0 11 (bn (F_cs_noLake a0 h) fun x2 =>
  bn (F_cs_wrongDraws a1 a2) fun x4 =>
  bd (F_cs_refused a0 x2 x4 h) fun x6 h7 =>
  if x6 = (0 : Int32) then
    (bd (F_cs_eatLater a0 a1 a2 h7) fun x9 h10 =>
    some (x9, h10))
  else
    (some ((-1 : Int32), h7)))
set_option maxRecDepth 20000 in
theorem K_cs_eaten {a0 : Nat} {a1 : Int32} {a2 : Int32} {h : Hp} {v : Int32} {h' : Hp} (hS : F_cs_eaten a0 a1 a2 h = some (v, h')) : kd h a0 = 11 := by
  unfold F_cs_eaten at hS
  exact (ck_s hS).1
set_option maxRecDepth 20000 in
theorem R_cs_eaten (d : Nat) (hd : 4 ≤ d) {a0 : Nat} {a1 : Int32} {a2 : Int32} {h : Hp} {v : Int32} {h' : Hp} (hS : F_cs_eaten a0 a1 a2 h = some (v, h')) : Ev P d 162 (0, [.ref a0, .int a1, .int a2], [], h) (some (.int v), h') := by
  unfold F_cs_eaten at hS
  replace hS := (ck_s hS).2
  refine ev_aload_n pm162 i162_0 rfl rfl rfl ?_
  refine ev_aload_n pm162 i162_1 rfl rfl rfl ?_
  obtain ⟨x2, e1, hS⟩ := bn_s hS
  refine ev_callV (sa := []) (rest := [.ref a0]) (st' := [.int x2, .ref a0]) (ls0 := [.ref a0]) (rv := some (.int x2)) pm162 i162_2 rfl rfl pm86 (by decide) (K_cs_noLake e1) rfl rfl (Nat.le_of_ble_eq_true rfl) (by omega) rfl (R_cs_noLake (d - 1) (by omega) e1) (by simp) rfl rfl ?_
  refine ev_iload_n pm162 i162_5 rfl rfl rfl ?_
  refine ev_iload_n pm162 i162_6 rfl rfl rfl ?_
  obtain ⟨x4, e3, hS⟩ := bn_s hS
  refine ev_callS (sa := [.int a2, .int a1]) (rest := [.int x2, .ref a0]) (st' := [.int x4, .int x2, .ref a0]) (ls0 := [.int a1, .int a2]) (rv := some (.int x4)) pm162 i162_7 rfl rfl pm159 (by decide) rfl rfl (Nat.le_of_ble_eq_true rfl) (by omega) rfl (R_cs_wrongDraws (d - 1) (by omega) e3) (by simp) rfl rfl ?_
  obtain ⟨x6, h7, e5, hS⟩ := bd_s hS
  refine ev_callV (sa := [.int x4, .int x2]) (rest := []) (st' := [.int x6]) (ls0 := [.ref a0, .int x2, .int x4]) (rv := some (.int x6)) pm162 i162_10 rfl rfl pm18 (by decide) (K_cs_refused e5) rfl rfl (Nat.le_of_ble_eq_true rfl) (by omega) rfl (R_cs_refused (d - 1) (by omega) e5) (by simp) rfl rfl ?_
  by_cases c381 : x6 = (0 : Int32)
  · rw [if_pos c381] at hS
    refine ev_if_eq_t (t := 18) pm162 i162_13 rfl c381 rfl rfl ?_
    refine ev_aload_n pm162 i162_18 rfl rfl rfl ?_
    refine ev_iload_n pm162 i162_19 rfl rfl rfl ?_
    refine ev_iload_n pm162 i162_20 rfl rfl rfl ?_
    obtain ⟨x9, h10, e8, hS⟩ := bd_s hS
    refine ev_callV (sa := [.int a2, .int a1]) (rest := []) (st' := [.int x9]) (ls0 := [.ref a0, .int a1, .int a2, unk, unk]) (rv := some (.int x9)) pm162 i162_21 rfl rfl pm160 (by decide) (K_cs_eatLater e8) rfl rfl (Nat.le_of_ble_eq_true rfl) (by omega) rfl (R_cs_eatLater (d - 1) (by omega) e8) (by simp) rfl rfl ?_
    cases hS
    exact ev_ireturn pm162 i162_24 rfl rfl rfl
  · rw [if_neg c381] at hS
    refine ev_if_eq_f (t := 18) pm162 i162_13 rfl c381 rfl rfl ?_
    refine ev_iconst (v := -1) pm162 i162_16 rfl (by decide) rfl ?_
    cases hS
    exact ev_ireturn pm162 i162_17 rfl rfl rfl
def B_cs_sunkAt_27 (l0 : Nat) (l2 : Int32) (s : Int32) (h : Hp) : Option (((Int32) ⊕ ((Unit) ⊕ Int32)) × Hp) :=
  if l2 < s then
    (some (.inr (.inl ()), h))
  else
    (bn (gR h l0 11 6) fun x11 =>
    bn (gR h l0 11 3) fun x13 =>
    bn (gR h l0 11 5) fun x15 =>
    bn (F_ra_measure x11 x13 x15 h) fun h18 =>
    bn (gR h18 l0 11 6) fun x19 =>
    bn (F_ra_underBits x19 h18) fun x22 =>
    if x22 = (0 : Int32) then
      (bn (gR h18 l0 11 5) fun x23 =>
      bn (gR h18 l0 11 3) fun x25 =>
      bd (F_st_passWithMice x23 x25 h18) fun x28 h29 =>
      some (.inl (s + (1 : Int32)), h29))
    else
      (some (.inr (.inr s), h18)))
set_option maxRecDepth 20000 in
theorem L_cs_sunkAt_27 (d : Nat) (hd : 4 ≤ d) {l0 : Nat} {l2 : Int32} : ∀ (n : Nat) (s : Int32) (h : Hp) (x : (Unit) ⊕ Int32) (hx : Hp), lp (B_cs_sunkAt_27 l0 l2) n s h = some (x, hx) → ∀ r, ei x (fun q => Ev P d 163 (77, [unk, unk, unk, unk], [], hx) r) (fun v => (some (.int v), hx) = r) → Ev P d 163 (27, [.ref l0, unk, .int l2, .int s], [], h) r := by
  refine lp_ev (G0 := fun (s : Int32) h r => Ev P d 163 (27, [.ref l0, unk, .int l2, .int s], [], h) r) (X := fun (x : (Unit) ⊕ Int32) hx r => ei x (fun q => Ev P d 163 (77, [unk, unk, unk, unk], [], hx) r) (fun v => (some (.int v), hx) = r)) ?_
  intro s h y h9 hS r hK
  unfold B_cs_sunkAt_27 at hS
  show Ev P d 163 (27, [.ref l0, unk, .int l2, .int s], [], h) r
  refine ev_iload_n pm163 i163_27 rfl rfl rfl ?_
  refine ev_iload_n pm163 i163_28 rfl rfl rfl ?_
  by_cases c382 : l2 < s
  · rw [if_pos c382] at hS
    refine ev_icmp_gt_t (t := 77) pm163 i163_29 rfl c382 rfl rfl ?_
    refine ev_kls (ls' := [unk, unk, unk, unk]) pm163 i163_77 rfl rfl ?_
    cases hS
    exact hK
  · rw [if_neg c382] at hS
    refine ev_icmp_gt_f (t := 77) pm163 i163_29 rfl c382 rfl rfl ?_
    refine ev_aload_n pm163 i163_32 rfl rfl rfl ?_
    obtain ⟨x11, e12, hS⟩ := bn_s hS
    refine ev_getR pm163 i163_33 rfl rfl rfl e12 rfl ?_
    refine ev_aload_n pm163 i163_36 rfl rfl rfl ?_
    obtain ⟨x13, e14, hS⟩ := bn_s hS
    refine ev_getR pm163 i163_37 rfl rfl rfl e14 rfl ?_
    refine ev_aload_n pm163 i163_40 rfl rfl rfl ?_
    obtain ⟨x15, e16, hS⟩ := bn_s hS
    refine ev_getR pm163 i163_41 rfl rfl rfl e16 rfl ?_
    obtain ⟨h18, e17, hS⟩ := bn_s hS
    refine ev_callV (sa := [.ref x15, .ref x13]) (rest := []) (st' := []) (ls0 := [.ref x11, .ref x13, .ref x15]) (rv := none) pm163 i163_44 rfl rfl pm64 (by decide) (K_ra_measure e17) rfl rfl (Nat.le_of_ble_eq_true rfl) (by omega) rfl (R_ra_measure (d - 1) (by omega) e17) (by simp) rfl rfl ?_
    refine ev_aload_n pm163 i163_47 rfl rfl rfl ?_
    obtain ⟨x19, e20, hS⟩ := bn_s hS
    refine ev_getR pm163 i163_48 rfl rfl rfl e20 rfl ?_
    obtain ⟨x22, e21, hS⟩ := bn_s hS
    refine ev_callV (sa := []) (rest := []) (st' := [.int x22]) (ls0 := [.ref x19, unk, unk]) (rv := some (.int x22)) pm163 i163_51 rfl rfl pm87 (by decide) (K_ra_underBits e21) rfl rfl (Nat.le_of_ble_eq_true rfl) (by omega) rfl (R_ra_underBits (d - 1) (by omega) e21) (by simp) rfl rfl ?_
    by_cases c383 : x22 = (0 : Int32)
    · rw [if_pos c383] at hS
      refine ev_if_eq_t (t := 59) pm163 i163_54 rfl c383 rfl rfl ?_
      refine ev_aload_n pm163 i163_59 rfl rfl rfl ?_
      obtain ⟨x23, e24, hS⟩ := bn_s hS
      refine ev_getR pm163 i163_60 rfl rfl rfl e24 rfl ?_
      refine ev_aload_n pm163 i163_63 rfl rfl rfl ?_
      obtain ⟨x25, e26, hS⟩ := bn_s hS
      refine ev_getR pm163 i163_64 rfl rfl rfl e26 rfl ?_
      obtain ⟨x28, h29, e27, hS⟩ := bd_s hS
      refine ev_callV (sa := [.ref x25]) (rest := []) (st' := [.int x28]) (ls0 := [.ref x23, .ref x25, unk, unk]) (rv := some (.int x28)) pm163 i163_67 rfl rfl pm161 (by decide) (K_st_passWithMice e27) rfl rfl (Nat.le_of_ble_eq_true rfl) (by omega) rfl (R_st_passWithMice (d - 1) (by omega) e27) (by simp) rfl rfl ?_
      refine ev_pop pm163 i163_70 rfl rfl rfl ?_
      refine ev_iinc (v := 1) (ls' := [.ref l0, unk, .int l2, .int (s + (1 : Int32))]) pm163 i163_71 rfl rfl (by decide) rfl rfl ?_
      refine ev_goto (t := 27) pm163 i163_74 rfl rfl ?_
      cases hS
      exact hK
    · rw [if_neg c383] at hS
      refine ev_if_eq_f (t := 59) pm163 i163_54 rfl c383 rfl rfl ?_
      refine ev_iload_n pm163 i163_57 rfl rfl rfl ?_
      cases hS
      exact ev_ireturn pm163 i163_58 rfl rfl hK
def F_cs_sunkAt (a0 : Nat) (a1 : Int32) (a2 : Int32) (h : Hp) : Option (Int32 × Hp) :=
  ck h a0 11 (bn (F_cs_noLake a0 h) fun x2 =>
  bn (F_cs_wrongDraws a1 a2) fun x4 =>
  bd (F_cs_refused a0 x2 x4 h) fun x6 h7 =>
  if x6 = (0 : Int32) then
    (bd (F_cs_eatLater a0 a1 (0 : Int32) h7) fun x9 h10 =>
    bd (lp (B_cs_sunkAt_27 a0 a2) FU (0 : Int32) h10) fun x30 h32 =>
    ei x30 (fun q33 =>
    some ((-2 : Int32), h32))
    (fun x34 => some (x34, h32)))
  else
    (some ((-1 : Int32), h7)))
set_option maxRecDepth 20000 in
theorem K_cs_sunkAt {a0 : Nat} {a1 : Int32} {a2 : Int32} {h : Hp} {v : Int32} {h' : Hp} (hS : F_cs_sunkAt a0 a1 a2 h = some (v, h')) : kd h a0 = 11 := by
  unfold F_cs_sunkAt at hS
  exact (ck_s hS).1
set_option maxRecDepth 20000 in
theorem R_cs_sunkAt (d : Nat) (hd : 4 ≤ d) {a0 : Nat} {a1 : Int32} {a2 : Int32} {h : Hp} {v : Int32} {h' : Hp} (hS : F_cs_sunkAt a0 a1 a2 h = some (v, h')) : Ev P d 163 (0, [.ref a0, .int a1, .int a2, unk], [], h) (some (.int v), h') := by
  unfold F_cs_sunkAt at hS
  replace hS := (ck_s hS).2
  refine ev_aload_n pm163 i163_0 rfl rfl rfl ?_
  refine ev_aload_n pm163 i163_1 rfl rfl rfl ?_
  obtain ⟨x2, e1, hS⟩ := bn_s hS
  refine ev_callV (sa := []) (rest := [.ref a0]) (st' := [.int x2, .ref a0]) (ls0 := [.ref a0]) (rv := some (.int x2)) pm163 i163_2 rfl rfl pm86 (by decide) (K_cs_noLake e1) rfl rfl (Nat.le_of_ble_eq_true rfl) (by omega) rfl (R_cs_noLake (d - 1) (by omega) e1) (by simp) rfl rfl ?_
  refine ev_iload_n pm163 i163_5 rfl rfl rfl ?_
  refine ev_iload_n pm163 i163_6 rfl rfl rfl ?_
  obtain ⟨x4, e3, hS⟩ := bn_s hS
  refine ev_callS (sa := [.int a2, .int a1]) (rest := [.int x2, .ref a0]) (st' := [.int x4, .int x2, .ref a0]) (ls0 := [.int a1, .int a2]) (rv := some (.int x4)) pm163 i163_7 rfl rfl pm159 (by decide) rfl rfl (Nat.le_of_ble_eq_true rfl) (by omega) rfl (R_cs_wrongDraws (d - 1) (by omega) e3) (by simp) rfl rfl ?_
  obtain ⟨x6, h7, e5, hS⟩ := bd_s hS
  refine ev_callV (sa := [.int x4, .int x2]) (rest := []) (st' := [.int x6]) (ls0 := [.ref a0, .int x2, .int x4]) (rv := some (.int x6)) pm163 i163_10 rfl rfl pm18 (by decide) (K_cs_refused e5) rfl rfl (Nat.le_of_ble_eq_true rfl) (by omega) rfl (R_cs_refused (d - 1) (by omega) e5) (by simp) rfl rfl ?_
  by_cases c384 : x6 = (0 : Int32)
  · rw [if_pos c384] at hS
    refine ev_if_eq_t (t := 18) pm163 i163_13 rfl c384 rfl rfl ?_
    refine ev_aload_n pm163 i163_18 rfl rfl rfl ?_
    refine ev_iload_n pm163 i163_19 rfl rfl rfl ?_
    refine ev_iconst (v := 0) pm163 i163_20 rfl (by decide) rfl ?_
    obtain ⟨x9, h10, e8, hS⟩ := bd_s hS
    refine ev_callV (sa := [.int (0 : Int32), .int a1]) (rest := []) (st' := [.int x9]) (ls0 := [.ref a0, .int a1, .int (0 : Int32), unk, unk]) (rv := some (.int x9)) pm163 i163_21 rfl rfl pm160 (by decide) (K_cs_eatLater e8) rfl rfl (Nat.le_of_ble_eq_true rfl) (by omega) rfl (R_cs_eatLater (d - 1) (by omega) e8) (by simp) rfl rfl ?_
    refine ev_pop pm163 i163_24 rfl rfl rfl ?_
    refine ev_iconst (v := 0) pm163 i163_25 rfl (by decide) rfl ?_
    refine ev_istore_n (ls' := [.ref a0, .int a1, .int a2, .int (0 : Int32)]) pm163 i163_26 rfl (Nat.le_of_ble_eq_true rfl) rfl rfl ?_
    refine ev_kls (ls' := [.ref a0, unk, .int a2, .int (0 : Int32)]) pm163 i163_27 rfl rfl ?_
    obtain ⟨x30, h32, e31, hS⟩ := bd_s hS
    refine L_cs_sunkAt_27 d (by omega) _ _ _ _ _ e31 _ ?_
    cases x30 with
    | inl q33 =>
      replace hS := ei_l hS
      show Ev P d 163 (77, [unk, unk, unk, unk], [], h32) _
      refine ev_bipush (v := -2) pm163 i163_77 rfl (by decide) rfl ?_
      cases hS
      exact ev_ireturn pm163 i163_79 rfl rfl rfl
    | inr x34 =>
      replace hS := ei_r hS
      cases hS
      rfl
  · rw [if_neg c384] at hS
    refine ev_if_eq_f (t := 18) pm163 i163_13 rfl c384 rfl rfl ?_
    refine ev_iconst (v := -1) pm163 i163_16 rfl (by decide) rfl ?_
    cases hS
    exact ev_ireturn pm163 i163_17 rfl rfl rfl
def F_st_save (a0 : Nat) (a1 : Nat) (a2 : Int32) (h : Hp) : Option Hp :=
  ck h a0 8 (if (a2 * (31 : Int32)) < (0 : Int32) then
    (some h)
  else
    (bn (aN h a1) fun x1 =>
    if x1 < ((a2 * (31 : Int32)) + (31 : Int32)) then
      (some h)
    else
      (bn (gR h a0 8 0) fun x3 =>
      bn (cpI h x3 (0 : Int32) a1 (a2 * (31 : Int32)) (25 : Int32)) fun h5 =>
      bn (gR h5 a0 8 1) fun x7 =>
      bn (cpI h5 x7 (0 : Int32) a1 ((a2 * (31 : Int32)) + (25 : Int32)) (3 : Int32)) fun h9 =>
      bn (gI h9 a0 8 2) fun x11 =>
      bn (sI h9 100 a1 (((a2 * (31 : Int32)) + (31 : Int32)) - (3 : Int32)) x11) fun h13 =>
      bn (gI h13 a0 8 3) fun x15 =>
      bn (sI h13 100 a1 (((a2 * (31 : Int32)) + (31 : Int32)) - (2 : Int32)) x15) fun h17 =>
      bn (gI h17 a0 8 4) fun x19 =>
      bn (sI h17 100 a1 (((a2 * (31 : Int32)) + (31 : Int32)) - (1 : Int32)) x19) fun h21 =>
      some h21)))
set_option maxRecDepth 20000 in
theorem K_st_save {a0 : Nat} {a1 : Nat} {a2 : Int32} {h : Hp} {h' : Hp} (hS : F_st_save a0 a1 a2 h = some h') : kd h a0 = 8 := by
  unfold F_st_save at hS
  exact (ck_s hS).1
set_option maxRecDepth 20000 in
theorem R_st_save (d : Nat) (hd : 0 ≤ d) {a0 : Nat} {a1 : Nat} {a2 : Int32} {h : Hp} {h' : Hp} (hS : F_st_save a0 a1 a2 h = some h') : Ev P d 166 (0, [.ref a0, .ref a1, .int a2, unk], [], h) (none, h') := by
  unfold F_st_save at hS
  replace hS := (ck_s hS).2
  refine ev_iload_n pm166 i166_0 rfl rfl rfl ?_
  refine ev_bipush (v := 31) pm166 i166_1 rfl (by decide) rfl ?_
  refine ev_b2 (f := fun x y => x * y) pm166 i166_3 rfl (fun _ _ _ _ => rfl) rfl ?_
  refine ev_istore_n (ls' := [.ref a0, .ref a1, .int a2, .int (a2 * (31 : Int32))]) pm166 i166_4 rfl (Nat.le_of_ble_eq_true rfl) rfl rfl ?_
  refine ev_iload_n pm166 i166_5 rfl rfl rfl ?_
  by_cases c385 : (a2 * (31 : Int32)) < (0 : Int32)
  · rw [if_pos c385] at hS
    refine ev_if_lt_t (t := 18) pm166 i166_6 rfl c385 rfl rfl ?_
    refine ev_kls (ls' := [unk, unk, unk, unk]) pm166 i166_18 rfl rfl ?_
    cases hS
    exact ev_return pm166 i166_18 rfl rfl rfl
  · rw [if_neg c385] at hS
    refine ev_if_lt_f (t := 18) pm166 i166_6 rfl c385 rfl rfl ?_
    refine ev_iload_n pm166 i166_9 rfl rfl rfl ?_
    refine ev_bipush (v := 31) pm166 i166_10 rfl (by decide) rfl ?_
    refine ev_b2 (f := fun x y => x + y) pm166 i166_12 rfl (fun _ _ _ _ => rfl) rfl ?_
    refine ev_aload_n pm166 i166_13 rfl rfl rfl ?_
    obtain ⟨x1, e2, hS⟩ := bn_s hS
    refine ev_alen pm166 i166_14 rfl e2 rfl ?_
    by_cases c386 : x1 < ((a2 * (31 : Int32)) + (31 : Int32))
    · rw [if_pos c386] at hS
      refine ev_icmp_le_t (t := 19) pm166 i166_15 rfl c386 rfl rfl ?_
      refine ev_kls (ls' := [unk, unk, unk, unk]) pm166 i166_18 rfl rfl ?_
      cases hS
      exact ev_return pm166 i166_18 rfl rfl rfl
    · rw [if_neg c386] at hS
      refine ev_icmp_le_f (t := 19) pm166 i166_15 rfl c386 rfl rfl ?_
      refine ev_aload_n pm166 i166_19 rfl rfl rfl ?_
      obtain ⟨x3, e4, hS⟩ := bn_s hS
      refine ev_getR pm166 i166_20 rfl rfl rfl e4 rfl ?_
      refine ev_iconst (v := 0) pm166 i166_23 rfl (by decide) rfl ?_
      refine ev_aload_n pm166 i166_24 rfl rfl rfl ?_
      refine ev_iload_n pm166 i166_25 rfl rfl rfl ?_
      refine ev_bipush (v := 25) pm166 i166_26 rfl (by decide) rfl ?_
      obtain ⟨h5, e6, hS⟩ := bn_s hS
      refine ev_copy pm166 i166_28 rfl rfl (Nat.le_of_ble_eq_true rfl) e6 rfl ?_
      refine ev_aload_n pm166 i166_31 rfl rfl rfl ?_
      obtain ⟨x7, e8, hS⟩ := bn_s hS
      refine ev_getR pm166 i166_32 rfl rfl rfl e8 rfl ?_
      refine ev_iconst (v := 0) pm166 i166_35 rfl (by decide) rfl ?_
      refine ev_aload_n pm166 i166_36 rfl rfl rfl ?_
      refine ev_iload_n pm166 i166_37 rfl rfl rfl ?_
      refine ev_bipush (v := 25) pm166 i166_38 rfl (by decide) rfl ?_
      refine ev_b2 (f := fun x y => x + y) pm166 i166_40 rfl (fun _ _ _ _ => rfl) rfl ?_
      refine ev_iconst (v := 3) pm166 i166_41 rfl (by decide) rfl ?_
      obtain ⟨h9, e10, hS⟩ := bn_s hS
      refine ev_copy pm166 i166_42 rfl rfl (Nat.le_of_ble_eq_true rfl) e10 rfl ?_
      refine ev_aload_n pm166 i166_45 rfl rfl rfl ?_
      refine ev_iload_n pm166 i166_46 rfl rfl rfl ?_
      refine ev_bipush (v := 31) pm166 i166_47 rfl (by decide) rfl ?_
      refine ev_b2 (f := fun x y => x + y) pm166 i166_49 rfl (fun _ _ _ _ => rfl) rfl ?_
      refine ev_iconst (v := 3) pm166 i166_50 rfl (by decide) rfl ?_
      refine ev_b2 (f := fun x y => x - y) pm166 i166_51 rfl (fun _ _ _ _ => rfl) rfl ?_
      refine ev_aload_n pm166 i166_52 rfl rfl rfl ?_
      obtain ⟨x11, e12, hS⟩ := bn_s hS
      refine ev_getI pm166 i166_53 rfl rfl (by decide) e12 rfl ?_
      obtain ⟨h13, e14, hS⟩ := bn_s hS
      refine ev_iast pm166 i166_56 rfl e14 rfl ?_
      refine ev_aload_n pm166 i166_57 rfl rfl rfl ?_
      refine ev_iload_n pm166 i166_58 rfl rfl rfl ?_
      refine ev_bipush (v := 31) pm166 i166_59 rfl (by decide) rfl ?_
      refine ev_b2 (f := fun x y => x + y) pm166 i166_61 rfl (fun _ _ _ _ => rfl) rfl ?_
      refine ev_iconst (v := 2) pm166 i166_62 rfl (by decide) rfl ?_
      refine ev_b2 (f := fun x y => x - y) pm166 i166_63 rfl (fun _ _ _ _ => rfl) rfl ?_
      refine ev_aload_n pm166 i166_64 rfl rfl rfl ?_
      obtain ⟨x15, e16, hS⟩ := bn_s hS
      refine ev_getI pm166 i166_65 rfl rfl (by decide) e16 rfl ?_
      obtain ⟨h17, e18, hS⟩ := bn_s hS
      refine ev_iast pm166 i166_68 rfl e18 rfl ?_
      refine ev_aload_n pm166 i166_69 rfl rfl rfl ?_
      refine ev_iload_n pm166 i166_70 rfl rfl rfl ?_
      refine ev_bipush (v := 31) pm166 i166_71 rfl (by decide) rfl ?_
      refine ev_b2 (f := fun x y => x + y) pm166 i166_73 rfl (fun _ _ _ _ => rfl) rfl ?_
      refine ev_iconst (v := 1) pm166 i166_74 rfl (by decide) rfl ?_
      refine ev_b2 (f := fun x y => x - y) pm166 i166_75 rfl (fun _ _ _ _ => rfl) rfl ?_
      refine ev_aload_n pm166 i166_76 rfl rfl rfl ?_
      obtain ⟨x19, e20, hS⟩ := bn_s hS
      refine ev_getI pm166 i166_77 rfl rfl (by decide) e20 rfl ?_
      obtain ⟨h21, e22, hS⟩ := bn_s hS
      refine ev_iast pm166 i166_80 rfl e22 rfl ?_
      cases hS
      exact ev_return pm166 i166_81 rfl rfl rfl
def F_me_keep (a0 : Nat) (a1 : Nat) (h : Hp) : Option Hp :=
  ck h a0 3 (bn (gR h a0 3 0) fun x1 =>
  bn (gI h a0 3 2) fun x3 =>
  bn (F_st_save a1 x1 x3 h) fun h6 =>
  bn (gI h6 a0 3 2) fun x7 =>
  bn (rm32 (x7 + (1 : Int32)) (16 : Int32)) fun x9 =>
  bn (pI h6 a0 3 2 x9) fun h11 =>
  bn (gI h11 a0 3 3) fun x13 =>
  bn (F_ma_min (x13 + (1 : Int32)) (16 : Int32)) fun x16 =>
  bn (pI h11 a0 3 3 x16) fun h17 =>
  some h17)
set_option maxRecDepth 20000 in
theorem K_me_keep {a0 : Nat} {a1 : Nat} {h : Hp} {h' : Hp} (hS : F_me_keep a0 a1 h = some h') : kd h a0 = 3 := by
  unfold F_me_keep at hS
  exact (ck_s hS).1
set_option maxRecDepth 20000 in
theorem R_me_keep (d : Nat) (hd : 1 ≤ d) {a0 : Nat} {a1 : Nat} {h : Hp} {h' : Hp} (hS : F_me_keep a0 a1 h = some h') : Ev P d 165 (0, [.ref a0, .ref a1], [], h) (none, h') := by
  unfold F_me_keep at hS
  replace hS := (ck_s hS).2
  refine ev_aload_n pm165 i165_0 rfl rfl rfl ?_
  refine ev_aload_n pm165 i165_1 rfl rfl rfl ?_
  obtain ⟨x1, e2, hS⟩ := bn_s hS
  refine ev_getR pm165 i165_2 rfl rfl rfl e2 rfl ?_
  refine ev_aload_n pm165 i165_5 rfl rfl rfl ?_
  obtain ⟨x3, e4, hS⟩ := bn_s hS
  refine ev_getI pm165 i165_6 rfl rfl (by decide) e4 rfl ?_
  obtain ⟨h6, e5, hS⟩ := bn_s hS
  refine ev_callV (sa := [.int x3, .ref x1]) (rest := []) (st' := []) (ls0 := [.ref a1, .ref x1, .int x3, unk]) (rv := none) pm165 i165_9 rfl rfl pm166 (by decide) (K_st_save e5) rfl rfl (Nat.le_of_ble_eq_true rfl) (by omega) rfl (R_st_save (d - 1) (by omega) e5) (by simp) rfl rfl ?_
  refine ev_aload_n pm165 i165_12 rfl rfl rfl ?_
  refine ev_aload_n pm165 i165_13 rfl rfl rfl ?_
  obtain ⟨x7, e8, hS⟩ := bn_s hS
  refine ev_getI pm165 i165_14 rfl rfl (by decide) e8 rfl ?_
  refine ev_iconst (v := 1) pm165 i165_17 rfl (by decide) rfl ?_
  refine ev_b2 (f := fun x y => x + y) pm165 i165_18 rfl (fun _ _ _ _ => rfl) rfl ?_
  refine ev_bipush (v := 16) pm165 i165_19 rfl (by decide) rfl ?_
  obtain ⟨x9, e10, hS⟩ := bn_s hS
  refine ev_irem pm165 i165_21 rfl e10 rfl ?_
  obtain ⟨h11, e12, hS⟩ := bn_s hS
  refine ev_putI pm165 i165_22 rfl rfl rfl e12 rfl ?_
  refine ev_aload_n pm165 i165_25 rfl rfl rfl ?_
  refine ev_aload_n pm165 i165_26 rfl rfl rfl ?_
  obtain ⟨x13, e14, hS⟩ := bn_s hS
  refine ev_getI pm165 i165_27 rfl rfl (by decide) e14 rfl ?_
  refine ev_iconst (v := 1) pm165 i165_30 rfl (by decide) rfl ?_
  refine ev_b2 (f := fun x y => x + y) pm165 i165_31 rfl (fun _ _ _ _ => rfl) rfl ?_
  refine ev_bipush (v := 16) pm165 i165_32 rfl (by decide) rfl ?_
  obtain ⟨x16, e15, hS⟩ := bn_s hS
  refine ev_callS (sa := [.int (16 : Int32), .int (x13 + (1 : Int32))]) (rest := [.ref a0]) (st' := [.int x16, .ref a0]) (ls0 := [.int (x13 + (1 : Int32)), .int (16 : Int32)]) (rv := some (.int x16)) pm165 i165_34 rfl rfl pm22 (by decide) rfl rfl (Nat.le_of_ble_eq_true rfl) (by omega) rfl (R_ma_min (d - 1) (by omega) e15) (by simp) rfl rfl ?_
  obtain ⟨h17, e18, hS⟩ := bn_s hS
  refine ev_putI pm165 i165_37 rfl rfl rfl e18 rfl ?_
  cases hS
  exact ev_return pm165 i165_40 rfl rfl rfl
def F_cs_drink (a0 : Nat) (a1 : Int32) (a2 : Int32) (h : Hp) : Option (Int32 × Hp) :=
  ck h a0 11 (bn (F_cs_noDrinker a0 a1 h) fun x2 =>
  bn (if x2 = (0 : Int32) then
      (bn (F_cs_noHouse a0 a2 h) fun x4 =>
      if x4 = (0 : Int32) then
        (some (0 : Int32))
      else
        (some (1 : Int32)))
    else
      (some (1 : Int32))) fun q5 =>
  bd (F_cs_refused a0 q5 (0 : Int32) h) fun x7 h8 =>
  if x7 = (0 : Int32) then
    (bn (gR h8 a0 11 3) fun x9 =>
    bn (gR h8 x9 10 12) fun x11 =>
    bn (aI h8 100 x11 a1) fun x13 =>
    bn (gR h8 a0 11 4) fun x15 =>
    bn (gR h8 x15 8 0) fun x17 =>
    bn (aI h8 100 x17 ((a2 * (5 : Int32)) + x13)) fun x19 =>
    bn (if x19 < (999 : Int32) then
        (some (0 : Int32))
      else
        (some (1 : Int32))) fun q21 =>
    bd (F_cs_refusedBy a0 (3 : Int32) q21 h8) fun x23 h24 =>
    if x23 = (0 : Int32) then
      (bn (gR h24 a0 11 7) fun x25 =>
      bn (gR h24 a0 11 4) fun x27 =>
      bn (F_me_keep x25 x27 h24) fun h30 =>
      bn (gR h30 a0 11 4) fun x31 =>
      bn (gR h30 x31 8 0) fun x33 =>
      bn (aI h30 100 x33 ((a2 * (5 : Int32)) + x13)) fun x35 =>
      bn (sI h30 100 x33 ((a2 * (5 : Int32)) + x13) (x35 + (1 : Int32))) fun h37 =>
      bn (gR h37 a0 11 4) fun x39 =>
      bn (gR h37 x39 8 0) fun x41 =>
      bn (aI h37 100 x41 ((a2 * (5 : Int32)) + x13)) fun x43 =>
      some (x43, h37))
    else
      (some ((-1 : Int32), h24)))
  else
    (some ((-1 : Int32), h8)))
set_option maxRecDepth 20000 in
theorem K_cs_drink {a0 : Nat} {a1 : Int32} {a2 : Int32} {h : Hp} {v : Int32} {h' : Hp} (hS : F_cs_drink a0 a1 a2 h = some (v, h')) : kd h a0 = 11 := by
  unfold F_cs_drink at hS
  exact (ck_s hS).1
set_option maxRecDepth 20000 in
theorem R_cs_drink (d : Nat) (hd : 2 ≤ d) {a0 : Nat} {a1 : Int32} {a2 : Int32} {h : Hp} {v : Int32} {h' : Hp} (hS : F_cs_drink a0 a1 a2 h = some (v, h')) : Ev P d 164 (0, [.ref a0, .int a1, .int a2, unk], [], h) (some (.int v), h') := by
  unfold F_cs_drink at hS
  replace hS := (ck_s hS).2
  refine ev_aload_n pm164 i164_0 rfl rfl rfl ?_
  refine ev_aload_n pm164 i164_1 rfl rfl rfl ?_
  refine ev_iload_n pm164 i164_2 rfl rfl rfl ?_
  obtain ⟨x2, e1, hS⟩ := bn_s hS
  refine ev_callV (sa := [.int a1]) (rest := [.ref a0]) (st' := [.int x2, .ref a0]) (ls0 := [.ref a0, .int a1]) (rv := some (.int x2)) pm164 i164_3 rfl rfl pm120 (by decide) (K_cs_noDrinker e1) rfl rfl (Nat.le_of_ble_eq_true rfl) (by omega) rfl (R_cs_noDrinker (d - 1) (by omega) e1) (by simp) rfl rfl ?_
  obtain ⟨q5, I387, hS⟩ := bn_s hS
  have J1 : Ev P d 164 (22, [.ref a0, .int a1, .int a2, unk], [.int q5, .ref a0], h) (some (.int v), h') := by
    refine ev_iconst (v := 0) pm164 i164_22 rfl (by decide) rfl ?_
    obtain ⟨x7, h8, e6, hS⟩ := bd_s hS
    refine ev_callV (sa := [.int (0 : Int32), .int q5]) (rest := []) (st' := [.int x7]) (ls0 := [.ref a0, .int q5, .int (0 : Int32)]) (rv := some (.int x7)) pm164 i164_23 rfl rfl pm18 (by decide) (K_cs_refused e6) rfl rfl (Nat.le_of_ble_eq_true rfl) (by omega) rfl (R_cs_refused (d - 1) (by omega) e6) (by simp) rfl rfl ?_
    by_cases c388 : x7 = (0 : Int32)
    · rw [if_pos c388] at hS
      refine ev_if_eq_t (t := 31) pm164 i164_26 rfl c388 rfl rfl ?_
      refine ev_iload_n pm164 i164_31 rfl rfl rfl ?_
      refine ev_iconst (v := 5) pm164 i164_32 rfl (by decide) rfl ?_
      refine ev_b2 (f := fun x y => x * y) pm164 i164_33 rfl (fun _ _ _ _ => rfl) rfl ?_
      refine ev_aload_n pm164 i164_34 rfl rfl rfl ?_
      obtain ⟨x9, e10, hS⟩ := bn_s hS
      refine ev_getR pm164 i164_35 rfl rfl rfl e10 rfl ?_
      obtain ⟨x11, e12, hS⟩ := bn_s hS
      refine ev_getR pm164 i164_38 rfl rfl rfl e12 rfl ?_
      refine ev_iload_n pm164 i164_41 rfl rfl rfl ?_
      obtain ⟨x13, e14, hS⟩ := bn_s hS
      refine ev_iald pm164 i164_42 rfl e14 rfl ?_
      refine ev_b2 (f := fun x y => x + y) pm164 i164_43 rfl (fun _ _ _ _ => rfl) rfl ?_
      refine ev_istore_n (ls' := [.ref a0, .int a1, .int a2, .int ((a2 * (5 : Int32)) + x13)]) pm164 i164_44 rfl (Nat.le_of_ble_eq_true rfl) rfl rfl ?_
      refine ev_aload_n pm164 i164_45 rfl rfl rfl ?_
      refine ev_iconst (v := 3) pm164 i164_46 rfl (by decide) rfl ?_
      refine ev_aload_n pm164 i164_47 rfl rfl rfl ?_
      obtain ⟨x15, e16, hS⟩ := bn_s hS
      refine ev_getR pm164 i164_48 rfl rfl rfl e16 rfl ?_
      obtain ⟨x17, e18, hS⟩ := bn_s hS
      refine ev_getR pm164 i164_51 rfl rfl rfl e18 rfl ?_
      refine ev_iload_n pm164 i164_54 rfl rfl rfl ?_
      obtain ⟨x19, e20, hS⟩ := bn_s hS
      refine ev_iald pm164 i164_55 rfl e20 rfl ?_
      refine ev_sipush (v := 999) pm164 i164_56 rfl (by decide) rfl ?_
      obtain ⟨q21, I389, hS⟩ := bn_s hS
      have J2 : Ev P d 164 (67, [.ref a0, unk, unk, .int ((a2 * (5 : Int32)) + x13)], [.int q21, .int (3 : Int32), .ref a0], h8) (some (.int v), h') := by
        obtain ⟨x23, h24, e22, hS⟩ := bd_s hS
        refine ev_callV (sa := [.int q21, .int (3 : Int32)]) (rest := []) (st' := [.int x23]) (ls0 := [.ref a0, .int (3 : Int32), .int q21]) (rv := some (.int x23)) pm164 i164_67 rfl rfl pm56 (by decide) (K_cs_refusedBy e22) rfl rfl (Nat.le_of_ble_eq_true rfl) (by omega) rfl (R_cs_refusedBy (d - 1) (by omega) e22) (by simp) rfl rfl ?_
        by_cases c390 : x23 = (0 : Int32)
        · rw [if_pos c390] at hS
          refine ev_if_eq_t (t := 75) pm164 i164_70 rfl c390 rfl rfl ?_
          refine ev_aload_n pm164 i164_75 rfl rfl rfl ?_
          obtain ⟨x25, e26, hS⟩ := bn_s hS
          refine ev_getR pm164 i164_76 rfl rfl rfl e26 rfl ?_
          refine ev_aload_n pm164 i164_79 rfl rfl rfl ?_
          obtain ⟨x27, e28, hS⟩ := bn_s hS
          refine ev_getR pm164 i164_80 rfl rfl rfl e28 rfl ?_
          obtain ⟨h30, e29, hS⟩ := bn_s hS
          refine ev_callV (sa := [.ref x27]) (rest := []) (st' := []) (ls0 := [.ref x25, .ref x27]) (rv := none) pm164 i164_83 rfl rfl pm165 (by decide) (K_me_keep e29) rfl rfl (Nat.le_of_ble_eq_true rfl) (by omega) rfl (R_me_keep (d - 1) (by omega) e29) (by simp) rfl rfl ?_
          refine ev_aload_n pm164 i164_86 rfl rfl rfl ?_
          obtain ⟨x31, e32, hS⟩ := bn_s hS
          refine ev_getR pm164 i164_87 rfl rfl rfl e32 rfl ?_
          obtain ⟨x33, e34, hS⟩ := bn_s hS
          refine ev_getR pm164 i164_90 rfl rfl rfl e34 rfl ?_
          refine ev_iload_n pm164 i164_93 rfl rfl rfl ?_
          refine ev_dup2 pm164 i164_94 rfl ⟨rfl, rfl⟩ rfl ?_
          obtain ⟨x35, e36, hS⟩ := bn_s hS
          refine ev_iald pm164 i164_95 rfl e36 rfl ?_
          refine ev_iconst (v := 1) pm164 i164_96 rfl (by decide) rfl ?_
          refine ev_b2 (f := fun x y => x + y) pm164 i164_97 rfl (fun _ _ _ _ => rfl) rfl ?_
          obtain ⟨h37, e38, hS⟩ := bn_s hS
          refine ev_iast pm164 i164_98 rfl e38 rfl ?_
          refine ev_aload_n pm164 i164_99 rfl rfl rfl ?_
          obtain ⟨x39, e40, hS⟩ := bn_s hS
          refine ev_getR pm164 i164_100 rfl rfl rfl e40 rfl ?_
          obtain ⟨x41, e42, hS⟩ := bn_s hS
          refine ev_getR pm164 i164_103 rfl rfl rfl e42 rfl ?_
          refine ev_iload_n pm164 i164_106 rfl rfl rfl ?_
          obtain ⟨x43, e44, hS⟩ := bn_s hS
          refine ev_iald pm164 i164_107 rfl e44 rfl ?_
          cases hS
          exact ev_ireturn pm164 i164_108 rfl rfl rfl
        · rw [if_neg c390] at hS
          refine ev_if_eq_f (t := 75) pm164 i164_70 rfl c390 rfl rfl ?_
          refine ev_iconst (v := -1) pm164 i164_73 rfl (by decide) rfl ?_
          cases hS
          exact ev_ireturn pm164 i164_74 rfl rfl rfl
      clear hS
      by_cases c389 : x19 < (999 : Int32)
      · rw [if_pos c389] at I389
        refine ev_icmp_lt_t (t := 66) pm164 i164_59 rfl c389 rfl rfl ?_
        refine ev_iconst (v := 0) pm164 i164_66 rfl (by decide) rfl ?_
        refine ev_kls (ls' := [.ref a0, unk, unk, .int ((a2 * (5 : Int32)) + x13)]) pm164 i164_67 rfl rfl ?_
        cases I389
        exact J2
      · rw [if_neg c389] at I389
        refine ev_icmp_lt_f (t := 66) pm164 i164_59 rfl c389 rfl rfl ?_
        refine ev_iconst (v := 1) pm164 i164_62 rfl (by decide) rfl ?_
        refine ev_goto (t := 67) pm164 i164_63 rfl rfl ?_
        refine ev_kls (ls' := [.ref a0, unk, unk, .int ((a2 * (5 : Int32)) + x13)]) pm164 i164_67 rfl rfl ?_
        cases I389
        exact J2
    · rw [if_neg c388] at hS
      refine ev_if_eq_f (t := 31) pm164 i164_26 rfl c388 rfl rfl ?_
      refine ev_iconst (v := -1) pm164 i164_29 rfl (by decide) rfl ?_
      cases hS
      exact ev_ireturn pm164 i164_30 rfl rfl rfl
  clear hS
  by_cases c387 : x2 = (0 : Int32)
  · rw [if_pos c387] at I387
    refine ev_if_ne_t (t := 17) pm164 i164_6 rfl c387 rfl rfl ?_
    refine ev_aload_n pm164 i164_9 rfl rfl rfl ?_
    refine ev_iload_n pm164 i164_10 rfl rfl rfl ?_
    obtain ⟨x4, e3, I387⟩ := bn_s I387
    refine ev_callV (sa := [.int a2]) (rest := [.ref a0]) (st' := [.int x4, .ref a0]) (ls0 := [.ref a0, .int a2]) (rv := some (.int x4)) pm164 i164_11 rfl rfl pm63 (by decide) (K_cs_noHouse e3) rfl rfl (Nat.le_of_ble_eq_true rfl) (by omega) rfl (R_cs_noHouse (d - 1) (by omega) e3) (by simp) rfl rfl ?_
    by_cases c391 : x4 = (0 : Int32)
    · rw [if_pos c391] at I387
      refine ev_if_eq_t (t := 21) pm164 i164_14 rfl c391 rfl rfl ?_
      refine ev_iconst (v := 0) pm164 i164_21 rfl (by decide) rfl ?_
      cases I387
      exact J1
    · rw [if_neg c391] at I387
      refine ev_if_eq_f (t := 21) pm164 i164_14 rfl c391 rfl rfl ?_
      refine ev_iconst (v := 1) pm164 i164_17 rfl (by decide) rfl ?_
      refine ev_goto (t := 22) pm164 i164_18 rfl rfl ?_
      cases I387
      exact J1
  · rw [if_neg c387] at I387
    refine ev_if_ne_f (t := 17) pm164 i164_6 rfl c387 rfl rfl ?_
    refine ev_iconst (v := 1) pm164 i164_17 rfl (by decide) rfl ?_
    refine ev_goto (t := 22) pm164 i164_18 rfl rfl ?_
    cases I387
    exact J1
def F_cs_move (a0 : Nat) (a1 : Int32) (a2 : Int32) (h : Hp) : Option (Int32 × Hp) :=
  ck h a0 11 (bn (F_cs_noGuest a0 a1 h) fun x2 =>
  bn (if x2 = (0 : Int32) then
      (bn (F_cs_noHouse a0 a2 h) fun x4 =>
      if x4 = (0 : Int32) then
        (some (0 : Int32))
      else
        (some (1 : Int32)))
    else
      (some (1 : Int32))) fun q5 =>
  bd (F_cs_refused a0 q5 (0 : Int32) h) fun x7 h8 =>
  if x7 = (0 : Int32) then
    (bn (gR h8 a0 11 4) fun x9 =>
    bn (gR h8 x9 8 1) fun x11 =>
    bn (aI h8 100 x11 a1) fun x13 =>
    bn (if x13 = a2 then
        (some (1 : Int32))
      else
        (some (0 : Int32))) fun q15 =>
    bd (F_cs_refusedBy a0 (5 : Int32) q15 h8) fun x17 h18 =>
    if x17 = (0 : Int32) then
      (bn (gR h18 a0 11 7) fun x19 =>
      bn (gR h18 a0 11 4) fun x21 =>
      bn (F_me_keep x19 x21 h18) fun h24 =>
      bn (gR h24 a0 11 4) fun x25 =>
      bn (gR h24 x25 8 1) fun x27 =>
      bn (sI h24 100 x27 a1 a2) fun h29 =>
      some ((1 : Int32), h29))
    else
      (some ((0 : Int32), h18)))
  else
    (some ((0 : Int32), h8)))
set_option maxRecDepth 20000 in
theorem K_cs_move {a0 : Nat} {a1 : Int32} {a2 : Int32} {h : Hp} {v : Int32} {h' : Hp} (hS : F_cs_move a0 a1 a2 h = some (v, h')) : kd h a0 = 11 := by
  unfold F_cs_move at hS
  exact (ck_s hS).1
set_option maxRecDepth 20000 in
theorem R_cs_move (d : Nat) (hd : 2 ≤ d) {a0 : Nat} {a1 : Int32} {a2 : Int32} {h : Hp} {v : Int32} {h' : Hp} (hS : F_cs_move a0 a1 a2 h = some (v, h')) : Ev P d 167 (0, [.ref a0, .int a1, .int a2], [], h) (some (.int v), h') := by
  unfold F_cs_move at hS
  replace hS := (ck_s hS).2
  refine ev_aload_n pm167 i167_0 rfl rfl rfl ?_
  refine ev_aload_n pm167 i167_1 rfl rfl rfl ?_
  refine ev_iload_n pm167 i167_2 rfl rfl rfl ?_
  obtain ⟨x2, e1, hS⟩ := bn_s hS
  refine ev_callV (sa := [.int a1]) (rest := [.ref a0]) (st' := [.int x2, .ref a0]) (ls0 := [.ref a0, .int a1]) (rv := some (.int x2)) pm167 i167_3 rfl rfl pm81 (by decide) (K_cs_noGuest e1) rfl rfl (Nat.le_of_ble_eq_true rfl) (by omega) rfl (R_cs_noGuest (d - 1) (by omega) e1) (by simp) rfl rfl ?_
  obtain ⟨q5, I392, hS⟩ := bn_s hS
  have J1 : Ev P d 167 (22, [.ref a0, .int a1, .int a2], [.int q5, .ref a0], h) (some (.int v), h') := by
    refine ev_iconst (v := 0) pm167 i167_22 rfl (by decide) rfl ?_
    obtain ⟨x7, h8, e6, hS⟩ := bd_s hS
    refine ev_callV (sa := [.int (0 : Int32), .int q5]) (rest := []) (st' := [.int x7]) (ls0 := [.ref a0, .int q5, .int (0 : Int32)]) (rv := some (.int x7)) pm167 i167_23 rfl rfl pm18 (by decide) (K_cs_refused e6) rfl rfl (Nat.le_of_ble_eq_true rfl) (by omega) rfl (R_cs_refused (d - 1) (by omega) e6) (by simp) rfl rfl ?_
    by_cases c393 : x7 = (0 : Int32)
    · rw [if_pos c393] at hS
      refine ev_if_ne_t (t := 55) pm167 i167_26 rfl c393 rfl rfl ?_
      refine ev_aload_n pm167 i167_29 rfl rfl rfl ?_
      refine ev_iconst (v := 5) pm167 i167_30 rfl (by decide) rfl ?_
      refine ev_aload_n pm167 i167_31 rfl rfl rfl ?_
      obtain ⟨x9, e10, hS⟩ := bn_s hS
      refine ev_getR pm167 i167_32 rfl rfl rfl e10 rfl ?_
      obtain ⟨x11, e12, hS⟩ := bn_s hS
      refine ev_getR pm167 i167_35 rfl rfl rfl e12 rfl ?_
      refine ev_iload_n pm167 i167_38 rfl rfl rfl ?_
      obtain ⟨x13, e14, hS⟩ := bn_s hS
      refine ev_iald pm167 i167_39 rfl e14 rfl ?_
      refine ev_iload_n pm167 i167_40 rfl rfl rfl ?_
      obtain ⟨q15, I394, hS⟩ := bn_s hS
      have J2 : Ev P d 167 (49, [.ref a0, .int a1, .int a2], [.int q15, .int (5 : Int32), .ref a0], h8) (some (.int v), h') := by
        obtain ⟨x17, h18, e16, hS⟩ := bd_s hS
        refine ev_callV (sa := [.int q15, .int (5 : Int32)]) (rest := []) (st' := [.int x17]) (ls0 := [.ref a0, .int (5 : Int32), .int q15]) (rv := some (.int x17)) pm167 i167_49 rfl rfl pm56 (by decide) (K_cs_refusedBy e16) rfl rfl (Nat.le_of_ble_eq_true rfl) (by omega) rfl (R_cs_refusedBy (d - 1) (by omega) e16) (by simp) rfl rfl ?_
        by_cases c395 : x17 = (0 : Int32)
        · rw [if_pos c395] at hS
          refine ev_if_eq_t (t := 57) pm167 i167_52 rfl c395 rfl rfl ?_
          refine ev_aload_n pm167 i167_57 rfl rfl rfl ?_
          obtain ⟨x19, e20, hS⟩ := bn_s hS
          refine ev_getR pm167 i167_58 rfl rfl rfl e20 rfl ?_
          refine ev_aload_n pm167 i167_61 rfl rfl rfl ?_
          obtain ⟨x21, e22, hS⟩ := bn_s hS
          refine ev_getR pm167 i167_62 rfl rfl rfl e22 rfl ?_
          obtain ⟨h24, e23, hS⟩ := bn_s hS
          refine ev_callV (sa := [.ref x21]) (rest := []) (st' := []) (ls0 := [.ref x19, .ref x21]) (rv := none) pm167 i167_65 rfl rfl pm165 (by decide) (K_me_keep e23) rfl rfl (Nat.le_of_ble_eq_true rfl) (by omega) rfl (R_me_keep (d - 1) (by omega) e23) (by simp) rfl rfl ?_
          refine ev_aload_n pm167 i167_68 rfl rfl rfl ?_
          obtain ⟨x25, e26, hS⟩ := bn_s hS
          refine ev_getR pm167 i167_69 rfl rfl rfl e26 rfl ?_
          obtain ⟨x27, e28, hS⟩ := bn_s hS
          refine ev_getR pm167 i167_72 rfl rfl rfl e28 rfl ?_
          refine ev_iload_n pm167 i167_75 rfl rfl rfl ?_
          refine ev_iload_n pm167 i167_76 rfl rfl rfl ?_
          obtain ⟨h29, e30, hS⟩ := bn_s hS
          refine ev_iast pm167 i167_77 rfl e30 rfl ?_
          refine ev_iconst (v := 1) pm167 i167_78 rfl (by decide) rfl ?_
          cases hS
          exact ev_ireturn pm167 i167_79 rfl (by decide) rfl
        · rw [if_neg c395] at hS
          refine ev_if_eq_f (t := 57) pm167 i167_52 rfl c395 rfl rfl ?_
          refine ev_kls (ls' := [unk, unk, unk]) pm167 i167_55 rfl rfl ?_
          refine ev_iconst (v := 0) pm167 i167_55 rfl (by decide) rfl ?_
          cases hS
          exact ev_ireturn pm167 i167_56 rfl (by decide) rfl
      clear hS
      by_cases c394 : x13 = a2
      · rw [if_pos c394] at I394
        refine ev_icmp_ne_t (t := 48) pm167 i167_41 rfl c394 rfl rfl ?_
        refine ev_iconst (v := 1) pm167 i167_44 rfl (by decide) rfl ?_
        refine ev_goto (t := 49) pm167 i167_45 rfl rfl ?_
        cases I394
        exact J2
      · rw [if_neg c394] at I394
        refine ev_icmp_ne_f (t := 48) pm167 i167_41 rfl c394 rfl rfl ?_
        refine ev_iconst (v := 0) pm167 i167_48 rfl (by decide) rfl ?_
        cases I394
        exact J2
    · rw [if_neg c393] at hS
      refine ev_if_ne_f (t := 55) pm167 i167_26 rfl c393 rfl rfl ?_
      refine ev_kls (ls' := [unk, unk, unk]) pm167 i167_55 rfl rfl ?_
      refine ev_iconst (v := 0) pm167 i167_55 rfl (by decide) rfl ?_
      cases hS
      exact ev_ireturn pm167 i167_56 rfl (by decide) rfl
  clear hS
  by_cases c392 : x2 = (0 : Int32)
  · rw [if_pos c392] at I392
    refine ev_if_ne_t (t := 17) pm167 i167_6 rfl c392 rfl rfl ?_
    refine ev_aload_n pm167 i167_9 rfl rfl rfl ?_
    refine ev_iload_n pm167 i167_10 rfl rfl rfl ?_
    obtain ⟨x4, e3, I392⟩ := bn_s I392
    refine ev_callV (sa := [.int a2]) (rest := [.ref a0]) (st' := [.int x4, .ref a0]) (ls0 := [.ref a0, .int a2]) (rv := some (.int x4)) pm167 i167_11 rfl rfl pm63 (by decide) (K_cs_noHouse e3) rfl rfl (Nat.le_of_ble_eq_true rfl) (by omega) rfl (R_cs_noHouse (d - 1) (by omega) e3) (by simp) rfl rfl ?_
    by_cases c396 : x4 = (0 : Int32)
    · rw [if_pos c396] at I392
      refine ev_if_eq_t (t := 21) pm167 i167_14 rfl c396 rfl rfl ?_
      refine ev_iconst (v := 0) pm167 i167_21 rfl (by decide) rfl ?_
      cases I392
      exact J1
    · rw [if_neg c396] at I392
      refine ev_if_eq_f (t := 21) pm167 i167_14 rfl c396 rfl rfl ?_
      refine ev_iconst (v := 1) pm167 i167_17 rfl (by decide) rfl ?_
      refine ev_goto (t := 22) pm167 i167_18 rfl rfl ?_
      cases I392
      exact J1
  · rw [if_neg c392] at I392
    refine ev_if_ne_f (t := 17) pm167 i167_6 rfl c392 rfl rfl ?_
    refine ev_iconst (v := 1) pm167 i167_17 rfl (by decide) rfl ?_
    refine ev_goto (t := 22) pm167 i167_18 rfl rfl ?_
    cases I392
    exact J1
