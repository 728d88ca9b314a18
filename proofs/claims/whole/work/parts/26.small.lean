def B_md_lowestNow_4 (l0 : Nat) (h : Hp) (s : Int32 × Int32) : Option ((Int32 × Int32) ⊕ (Int32)) :=
  bn (gR h l0 13 3) fun x1 =>
  bn (gI h x1 12 1) fun x3 =>
  if s.2 < x3 then
    (bn (F_md_heightOf l0 s.2 h) fun x6 =>
    bn (F_md_heightOf l0 s.1 h) fun x8 =>
    if x6 < x8 then
      (some (.inl (s.2, s.2 + (1 : Int32))))
    else
      (some (.inl (s.1, s.2 + (1 : Int32)))))
  else
    (some (.inr s.1))
set_option maxRecDepth 20000 in
theorem L_md_lowestNow_4 (d : Nat) (hd : 5 ≤ d) {l0 : Nat} {h : Hp} : ∀ (n : Nat) (s : Int32 × Int32) (x : Int32), lq (B_md_lowestNow_4 l0 h) n s = some x → ∀ r, Ev P d 248 (36, [unk, .int x, unk], [], h) r → Ev P d 248 (4, [.ref l0, .int s.1, .int s.2], [], h) r := by
  refine lq_ev (G0 := fun (s : Int32 × Int32) r => Ev P d 248 (4, [.ref l0, .int s.1, .int s.2], [], h) r) (X := fun (x : Int32) r => Ev P d 248 (36, [unk, .int x, unk], [], h) r) ?_
  intro s y hS r hK
  unfold B_md_lowestNow_4 at hS
  show Ev P d 248 (4, [.ref l0, .int s.1, .int s.2], [], h) r
  refine ev_iload_n pm248 i248_4 rfl rfl rfl ?_
  refine ev_aload_n pm248 i248_5 rfl rfl rfl ?_
  obtain ⟨x1, e2, hS⟩ := bn_s hS
  refine ev_getR pm248 i248_6 rfl rfl rfl e2 rfl ?_
  obtain ⟨x3, e4, hS⟩ := bn_s hS
  refine ev_getI pm248 i248_9 rfl rfl (by decide) e4 rfl ?_
  by_cases c600 : s.2 < x3
  · rw [if_pos c600] at hS
    refine ev_icmp_ge_t (t := 36) pm248 i248_12 rfl c600 rfl rfl ?_
    refine ev_aload_n pm248 i248_15 rfl rfl rfl ?_
    refine ev_iload_n pm248 i248_16 rfl rfl rfl ?_
    obtain ⟨x6, e5, hS⟩ := bn_s hS
    refine ev_callV (sa := [.int s.2]) (rest := []) (st' := [.int x6]) (ls0 := [.ref l0, .int s.2, unk]) (rv := some (.int x6)) pm248 i248_17 rfl rfl pm233 (by decide) (K_md_heightOf e5) rfl rfl (Nat.le_of_ble_eq_true rfl) (by omega) rfl (R_md_heightOf (d - 1) (by omega) e5) (by simp) rfl rfl ?_
    refine ev_aload_n pm248 i248_20 rfl rfl rfl ?_
    refine ev_iload_n pm248 i248_21 rfl rfl rfl ?_
    obtain ⟨x8, e7, hS⟩ := bn_s hS
    refine ev_callV (sa := [.int s.1]) (rest := [.int x6]) (st' := [.int x8, .int x6]) (ls0 := [.ref l0, .int s.1, unk]) (rv := some (.int x8)) pm248 i248_22 rfl rfl pm233 (by decide) (K_md_heightOf e7) rfl rfl (Nat.le_of_ble_eq_true rfl) (by omega) rfl (R_md_heightOf (d - 1) (by omega) e7) (by simp) rfl rfl ?_
    by_cases c601 : x6 < x8
    · rw [if_pos c601] at hS
      refine ev_icmp_ge_t (t := 30) pm248 i248_25 rfl c601 rfl rfl ?_
      refine ev_iload_n pm248 i248_28 rfl rfl rfl ?_
      refine ev_istore_n (ls' := [.ref l0, .int s.2, .int s.2]) pm248 i248_29 rfl (Nat.le_of_ble_eq_true rfl) rfl rfl ?_
      refine ev_iinc (v := 1) (ls' := [.ref l0, .int s.2, .int (s.2 + (1 : Int32))]) pm248 i248_30 rfl rfl (by decide) rfl rfl ?_
      refine ev_goto (t := 4) pm248 i248_33 rfl rfl ?_
      cases hS
      exact hK
    · rw [if_neg c601] at hS
      refine ev_icmp_ge_f (t := 30) pm248 i248_25 rfl c601 rfl rfl ?_
      refine ev_iinc (v := 1) (ls' := [.ref l0, .int s.1, .int (s.2 + (1 : Int32))]) pm248 i248_30 rfl rfl (by decide) rfl rfl ?_
      refine ev_goto (t := 4) pm248 i248_33 rfl rfl ?_
      cases hS
      exact hK
  · rw [if_neg c600] at hS
    refine ev_icmp_ge_f (t := 36) pm248 i248_12 rfl c600 rfl rfl ?_
    refine ev_kls (ls' := [unk, .int s.1, unk]) pm248 i248_36 rfl rfl ?_
    cases hS
    exact hK
def F_md_lowestNow (a0 : Nat) (h : Hp) : Option Int32 :=
  ck h a0 13 (bn (lq (B_md_lowestNow_4 a0 h) FU ((0 : Int32), (1 : Int32))) fun x9 =>
  some x9)
set_option maxRecDepth 20000 in
theorem K_md_lowestNow {a0 : Nat} {h : Hp} {v : Int32} (hS : F_md_lowestNow a0 h = some v) : kd h a0 = 13 := by
  unfold F_md_lowestNow at hS
  exact (ck_s hS).1
set_option maxRecDepth 20000 in
theorem R_md_lowestNow (d : Nat) (hd : 5 ≤ d) {a0 : Nat} {h : Hp} {v : Int32} (hS : F_md_lowestNow a0 h = some v) : Ev P d 248 (0, [.ref a0, unk, unk], [], h) (some (.int v), h) := by
  unfold F_md_lowestNow at hS
  replace hS := (ck_s hS).2
  refine ev_iconst (v := 0) pm248 i248_0 rfl (by decide) rfl ?_
  refine ev_istore_n (ls' := [.ref a0, .int (0 : Int32), unk]) pm248 i248_1 rfl (Nat.le_of_ble_eq_true rfl) rfl rfl ?_
  refine ev_iconst (v := 1) pm248 i248_2 rfl (by decide) rfl ?_
  refine ev_istore_n (ls' := [.ref a0, .int (0 : Int32), .int (1 : Int32)]) pm248 i248_3 rfl (Nat.le_of_ble_eq_true rfl) rfl rfl ?_
  obtain ⟨x9, e10, hS⟩ := bn_s hS
  refine L_md_lowestNow_4 d (by omega) _ _ _ e10 _ ?_
  show Ev P d 248 (36, [unk, .int x9, unk], [], h) _
  refine ev_iload_n pm248 i248_36 rfl rfl rfl ?_
  cases hS
  exact ev_ireturn pm248 i248_37 rfl rfl rfl
def F_md_lowest (a0 : Nat) (h : Hp) : Option (Int32 × Hp) :=
  ck h a0 13 (bn (pI h a0 13 0 (0 : Int32)) fun h1 =>
  bn (gQ h1 a0 13 3) fun x3 =>
  if x3 = none then
    (bd (F_md_refused a0 (1 : Int32) h1) fun x6 h7 =>
    some (x6, h7))
  else
    (bn (F_md_works a0 h1) fun h9 =>
    bn (F_md_lowestNow a0 h9) fun x11 =>
    bd (F_md_good a0 x11 h9) fun x13 h14 =>
    some (x13, h14)))
set_option maxRecDepth 20000 in
theorem K_md_lowest {a0 : Nat} {h : Hp} {v : Int32} {h' : Hp} (hS : F_md_lowest a0 h = some (v, h')) : kd h a0 = 13 := by
  unfold F_md_lowest at hS
  exact (ck_s hS).1
set_option maxRecDepth 20000 in
theorem R_md_lowest (d : Nat) (hd : 6 ≤ d) {a0 : Nat} {h : Hp} {v : Int32} {h' : Hp} (hS : F_md_lowest a0 h = some (v, h')) : Ev P d 247 (0, [.ref a0], [], h) (some (.int v), h') := by
  unfold F_md_lowest at hS
  replace hS := (ck_s hS).2
  refine ev_aload_n pm247 i247_0 rfl rfl rfl ?_
  refine ev_iconst (v := 0) pm247 i247_1 rfl (by decide) rfl ?_
  obtain ⟨h1, e2, hS⟩ := bn_s hS
  refine ev_putI pm247 i247_2 rfl rfl rfl e2 rfl ?_
  refine ev_aload_n pm247 i247_5 rfl rfl rfl ?_
  obtain ⟨x3, e4, hS⟩ := bn_s hS
  refine ev_getQ pm247 i247_6 rfl rfl rfl e4 rfl ?_
  by_cases c602 : x3 = none
  · rw [if_pos c602] at hS
    subst c602
    refine ev_nonnullF pm247 i247_9 rfl rfl ?_
    refine ev_aload_n pm247 i247_12 rfl rfl rfl ?_
    refine ev_iconst (v := 1) pm247 i247_13 rfl (by decide) rfl ?_
    obtain ⟨x6, h7, e5, hS⟩ := bd_s hS
    refine ev_callV (sa := [.int (1 : Int32)]) (rest := []) (st' := [.int x6]) (ls0 := [.ref a0, .int (1 : Int32)]) (rv := some (.int x6)) pm247 i247_14 rfl rfl pm186 (by decide) (K_md_refused e5) rfl rfl (Nat.le_of_ble_eq_true rfl) (by omega) rfl (R_md_refused (d - 1) (by omega) e5) (by simp) rfl rfl ?_
    cases hS
    exact ev_ireturn pm247 i247_17 rfl rfl rfl
  · rw [if_neg c602] at hS
    obtain ⟨_, rfl⟩ := Option.ne_none_iff_exists'.mp c602
    refine ev_nonnullT (t := 18) pm247 i247_9 rfl rfl ?_
    refine ev_aload_n pm247 i247_18 rfl rfl rfl ?_
    obtain ⟨h9, e8, hS⟩ := bn_s hS
    refine ev_callV (sa := []) (rest := []) (st' := []) (ls0 := [.ref a0, unk]) (rv := none) pm247 i247_19 rfl rfl pm229 (by decide) (K_md_works e8) rfl rfl (Nat.le_of_ble_eq_true rfl) (by omega) rfl (R_md_works (d - 1) (by omega) e8) (by simp) rfl rfl ?_
    refine ev_aload_n pm247 i247_22 rfl rfl rfl ?_
    refine ev_aload_n pm247 i247_23 rfl rfl rfl ?_
    obtain ⟨x11, e10, hS⟩ := bn_s hS
    refine ev_callV (sa := []) (rest := [.ref a0]) (st' := [.int x11, .ref a0]) (ls0 := [.ref a0, unk, unk]) (rv := some (.int x11)) pm247 i247_24 rfl rfl pm248 (by decide) (K_md_lowestNow e10) rfl rfl (Nat.le_of_ble_eq_true rfl) (by omega) rfl (R_md_lowestNow (d - 1) (by omega) e10) (by simp) rfl rfl ?_
    obtain ⟨x13, h14, e12, hS⟩ := bd_s hS
    refine ev_callV (sa := [.int x11]) (rest := []) (st' := [.int x13]) (ls0 := [.ref a0, .int x11]) (rv := some (.int x13)) pm247 i247_27 rfl rfl pm224 (by decide) (K_md_good e12) rfl rfl (Nat.le_of_ble_eq_true rfl) (by omega) rfl (R_md_good (d - 1) (by omega) e12) (by simp) rfl rfl ?_
    cases hS
    exact ev_ireturn pm247 i247_30 rfl rfl rfl
def B_md_rafts_26 (l0 : Nat) (h : Hp) (s : Int32 × Int32) : Option ((Int32 × Int32) ⊕ (Int32)) :=
  bn (gR h l0 13 3) fun x10 =>
  bn (gI h x10 12 1) fun x12 =>
  if s.2 < x12 then
    (bn (F_md_raftOf l0 s.2 h) fun x15 =>
    if (x15 &&& (((1 : Int32) <<< (s.2 &&& 31)) - (1 : Int32))) = (0 : Int32) then
      (some (.inl (s.1 + (1 : Int32), s.2 + (1 : Int32))))
    else
      (some (.inl (s.1 + (0 : Int32), s.2 + (1 : Int32)))))
  else
    (some (.inr s.1))
set_option maxRecDepth 20000 in
theorem L_md_rafts_26 (d : Nat) (hd : 2 ≤ d) {l0 : Nat} {h : Hp} : ∀ (n : Nat) (s : Int32 × Int32) (x : Int32), lq (B_md_rafts_26 l0 h) n s = some x → ∀ r, Ev P d 249 (65, [.ref l0, .int x, unk], [], h) r → Ev P d 249 (26, [.ref l0, .int s.1, .int s.2], [], h) r := by
  refine lq_ev (G0 := fun (s : Int32 × Int32) r => Ev P d 249 (26, [.ref l0, .int s.1, .int s.2], [], h) r) (X := fun (x : Int32) r => Ev P d 249 (65, [.ref l0, .int x, unk], [], h) r) ?_
  intro s y hS r hK
  unfold B_md_rafts_26 at hS
  show Ev P d 249 (26, [.ref l0, .int s.1, .int s.2], [], h) r
  refine ev_iload_n pm249 i249_26 rfl rfl rfl ?_
  refine ev_aload_n pm249 i249_27 rfl rfl rfl ?_
  obtain ⟨x10, e11, hS⟩ := bn_s hS
  refine ev_getR pm249 i249_28 rfl rfl rfl e11 rfl ?_
  obtain ⟨x12, e13, hS⟩ := bn_s hS
  refine ev_getI pm249 i249_31 rfl rfl (by decide) e13 rfl ?_
  by_cases c603 : s.2 < x12
  · rw [if_pos c603] at hS
    refine ev_icmp_ge_t (t := 65) pm249 i249_34 rfl c603 rfl rfl ?_
    refine ev_iload_n pm249 i249_37 rfl rfl rfl ?_
    refine ev_aload_n pm249 i249_38 rfl rfl rfl ?_
    refine ev_iload_n pm249 i249_39 rfl rfl rfl ?_
    obtain ⟨x15, e14, hS⟩ := bn_s hS
    refine ev_callV (sa := [.int s.2]) (rest := [.int s.1]) (st' := [.int x15, .int s.1]) (ls0 := [.ref l0, .int s.2, unk, unk, unk]) (rv := some (.int x15)) pm249 i249_40 rfl rfl pm234 (by decide) (K_md_raftOf e14) rfl rfl (Nat.le_of_ble_eq_true rfl) (by omega) rfl (R_md_raftOf (d - 1) (by omega) e14) (by simp) rfl rfl ?_
    refine ev_iconst (v := 1) pm249 i249_43 rfl (by decide) rfl ?_
    refine ev_iload_n pm249 i249_44 rfl rfl rfl ?_
    refine ev_b2 (f := fun x y => x <<< (y &&& 31)) pm249 i249_45 rfl (fun _ _ _ _ => rfl) rfl ?_
    refine ev_iconst (v := 1) pm249 i249_46 rfl (by decide) rfl ?_
    refine ev_b2 (f := fun x y => x - y) pm249 i249_47 rfl (fun _ _ _ _ => rfl) rfl ?_
    refine ev_b2 (f := fun x y => x &&& y) pm249 i249_48 rfl (fun _ _ _ _ => rfl) rfl ?_
    by_cases c604 : (x15 &&& (((1 : Int32) <<< (s.2 &&& 31)) - (1 : Int32))) = (0 : Int32)
    · rw [if_pos c604] at hS
      refine ev_if_ne_t (t := 56) pm249 i249_49 rfl c604 rfl rfl ?_
      refine ev_iconst (v := 1) pm249 i249_52 rfl (by decide) rfl ?_
      refine ev_goto (t := 57) pm249 i249_53 rfl rfl ?_
      refine ev_kls (ls' := [.ref l0, unk, .int s.2]) pm249 i249_57 rfl rfl ?_
      refine ev_b2 (f := fun x y => x + y) pm249 i249_57 rfl (fun _ _ _ _ => rfl) rfl ?_
      refine ev_istore_n (ls' := [.ref l0, .int (s.1 + (1 : Int32)), .int s.2]) pm249 i249_58 rfl (Nat.le_of_ble_eq_true rfl) rfl rfl ?_
      refine ev_iinc (v := 1) (ls' := [.ref l0, .int (s.1 + (1 : Int32)), .int (s.2 + (1 : Int32))]) pm249 i249_59 rfl rfl (by decide) rfl rfl ?_
      refine ev_goto (t := 26) pm249 i249_62 rfl rfl ?_
      cases hS
      exact hK
    · rw [if_neg c604] at hS
      refine ev_if_ne_f (t := 56) pm249 i249_49 rfl c604 rfl rfl ?_
      refine ev_iconst (v := 0) pm249 i249_56 rfl (by decide) rfl ?_
      refine ev_kls (ls' := [.ref l0, unk, .int s.2]) pm249 i249_57 rfl rfl ?_
      refine ev_b2 (f := fun x y => x + y) pm249 i249_57 rfl (fun _ _ _ _ => rfl) rfl ?_
      refine ev_istore_n (ls' := [.ref l0, .int (s.1 + (0 : Int32)), .int s.2]) pm249 i249_58 rfl (Nat.le_of_ble_eq_true rfl) rfl rfl ?_
      refine ev_iinc (v := 1) (ls' := [.ref l0, .int (s.1 + (0 : Int32)), .int (s.2 + (1 : Int32))]) pm249 i249_59 rfl rfl (by decide) rfl rfl ?_
      refine ev_goto (t := 26) pm249 i249_62 rfl rfl ?_
      cases hS
      exact hK
  · rw [if_neg c603] at hS
    refine ev_icmp_ge_f (t := 65) pm249 i249_34 rfl c603 rfl rfl ?_
    refine ev_kls (ls' := [.ref l0, .int s.1, unk]) pm249 i249_65 rfl rfl ?_
    cases hS
    exact hK
def F_md_rafts (a0 : Nat) (h : Hp) : Option (Int32 × Hp) :=
  ck h a0 13 (bn (pI h a0 13 0 (0 : Int32)) fun h1 =>
  bn (gQ h1 a0 13 3) fun x3 =>
  if x3 = none then
    (bd (F_md_refused a0 (1 : Int32) h1) fun x6 h7 =>
    some (x6, h7))
  else
    (bn (F_md_works a0 h1) fun h9 =>
    bn (lq (B_md_rafts_26 a0 h9) FU ((0 : Int32), (0 : Int32))) fun x16 =>
    bd (F_md_good a0 x16 h9) fun x19 h20 =>
    some (x19, h20)))
set_option maxRecDepth 20000 in
theorem K_md_rafts {a0 : Nat} {h : Hp} {v : Int32} {h' : Hp} (hS : F_md_rafts a0 h = some (v, h')) : kd h a0 = 13 := by
  unfold F_md_rafts at hS
  exact (ck_s hS).1
set_option maxRecDepth 20000 in
theorem R_md_rafts (d : Nat) (hd : 2 ≤ d) {a0 : Nat} {h : Hp} {v : Int32} {h' : Hp} (hS : F_md_rafts a0 h = some (v, h')) : Ev P d 249 (0, [.ref a0, unk, unk], [], h) (some (.int v), h') := by
  unfold F_md_rafts at hS
  replace hS := (ck_s hS).2
  refine ev_aload_n pm249 i249_0 rfl rfl rfl ?_
  refine ev_iconst (v := 0) pm249 i249_1 rfl (by decide) rfl ?_
  obtain ⟨h1, e2, hS⟩ := bn_s hS
  refine ev_putI pm249 i249_2 rfl rfl rfl e2 rfl ?_
  refine ev_aload_n pm249 i249_5 rfl rfl rfl ?_
  obtain ⟨x3, e4, hS⟩ := bn_s hS
  refine ev_getQ pm249 i249_6 rfl rfl rfl e4 rfl ?_
  by_cases c605 : x3 = none
  · rw [if_pos c605] at hS
    subst c605
    refine ev_nonnullF pm249 i249_9 rfl rfl ?_
    refine ev_aload_n pm249 i249_12 rfl rfl rfl ?_
    refine ev_iconst (v := 1) pm249 i249_13 rfl (by decide) rfl ?_
    obtain ⟨x6, h7, e5, hS⟩ := bd_s hS
    refine ev_callV (sa := [.int (1 : Int32)]) (rest := []) (st' := [.int x6]) (ls0 := [.ref a0, .int (1 : Int32)]) (rv := some (.int x6)) pm249 i249_14 rfl rfl pm186 (by decide) (K_md_refused e5) rfl rfl (Nat.le_of_ble_eq_true rfl) (by omega) rfl (R_md_refused (d - 1) (by omega) e5) (by simp) rfl rfl ?_
    cases hS
    exact ev_ireturn pm249 i249_17 rfl rfl rfl
  · rw [if_neg c605] at hS
    obtain ⟨_, rfl⟩ := Option.ne_none_iff_exists'.mp c605
    refine ev_nonnullT (t := 18) pm249 i249_9 rfl rfl ?_
    refine ev_aload_n pm249 i249_18 rfl rfl rfl ?_
    obtain ⟨h9, e8, hS⟩ := bn_s hS
    refine ev_callV (sa := []) (rest := []) (st' := []) (ls0 := [.ref a0, unk]) (rv := none) pm249 i249_19 rfl rfl pm229 (by decide) (K_md_works e8) rfl rfl (Nat.le_of_ble_eq_true rfl) (by omega) rfl (R_md_works (d - 1) (by omega) e8) (by simp) rfl rfl ?_
    refine ev_iconst (v := 0) pm249 i249_22 rfl (by decide) rfl ?_
    refine ev_istore_n (ls' := [.ref a0, .int (0 : Int32), unk]) pm249 i249_23 rfl (Nat.le_of_ble_eq_true rfl) rfl rfl ?_
    refine ev_iconst (v := 0) pm249 i249_24 rfl (by decide) rfl ?_
    refine ev_istore_n (ls' := [.ref a0, .int (0 : Int32), .int (0 : Int32)]) pm249 i249_25 rfl (Nat.le_of_ble_eq_true rfl) rfl rfl ?_
    obtain ⟨x16, e17, hS⟩ := bn_s hS
    refine L_md_rafts_26 d (by omega) _ _ _ e17 _ ?_
    show Ev P d 249 (65, [.ref a0, .int x16, unk], [], h9) _
    refine ev_aload_n pm249 i249_65 rfl rfl rfl ?_
    refine ev_iload_n pm249 i249_66 rfl rfl rfl ?_
    obtain ⟨x19, h20, e18, hS⟩ := bd_s hS
    refine ev_callV (sa := [.int x16]) (rest := []) (st' := [.int x19]) (ls0 := [.ref a0, .int x16]) (rv := some (.int x19)) pm249 i249_67 rfl rfl pm224 (by decide) (K_md_good e18) rfl rfl (Nat.le_of_ble_eq_true rfl) (by omega) rfl (R_md_good (d - 1) (by omega) e18) (by simp) rfl rfl ?_
    cases hS
    exact ev_ireturn pm249 i249_70 rfl rfl rfl
def B_md_tilt_45 (l0 : Nat) (l2 : Int32) (h : Hp) (s : Int32 × Int32 × Int32) : Option ((Int32 × Int32 × Int32) ⊕ (Int32 × Int32)) :=
  bn (gR h l0 13 3) fun x16 =>
  bn (gI h x16 12 1) fun x18 =>
  if s.2.2 < x18 then
    (bn (F_md_bit l2 s.2.2) fun x21 =>
    if x21 = (0 : Int32) then
      (some (.inl (s.1, s.2.1, s.2.2 + (1 : Int32))))
    else
      (bn (F_md_netOf l0 s.2.2 h) fun x23 =>
      bn (if s.1 < x23 then
          (bn (F_md_netOf l0 s.2.2 h) fun x25 =>
          some x25)
        else
          (some s.1)) fun q26 =>
      bn (F_md_netOf l0 s.2.2 h) fun x28 =>
      if x28 < s.2.1 then
        (bn (F_md_netOf l0 s.2.2 h) fun x30 =>
        some (.inl (q26, x30, s.2.2 + (1 : Int32))))
      else
        (some (.inl (q26, s.2.1, s.2.2 + (1 : Int32))))))
  else
    (some (.inr (s.1, s.2.1)))
set_option maxRecDepth 20000 in
theorem L_md_tilt_45 (d : Nat) (hd : 3 ≤ d) {l0 : Nat} {l2 : Int32} {h : Hp} : ∀ (n : Nat) (s : Int32 × Int32 × Int32) (x : Int32 × Int32), lq (B_md_tilt_45 l0 l2 h) n s = some x → ∀ r, Ev P d 250 (111, [.ref l0, unk, unk, .int x.1, .int x.2, unk], [], h) r → Ev P d 250 (45, [.ref l0, unk, .int l2, .int s.1, .int s.2.1, .int s.2.2], [], h) r := by
  refine lq_ev (G0 := fun (s : Int32 × Int32 × Int32) r => Ev P d 250 (45, [.ref l0, unk, .int l2, .int s.1, .int s.2.1, .int s.2.2], [], h) r) (X := fun (x : Int32 × Int32) r => Ev P d 250 (111, [.ref l0, unk, unk, .int x.1, .int x.2, unk], [], h) r) ?_
  intro s y hS r hK
  unfold B_md_tilt_45 at hS
  show Ev P d 250 (45, [.ref l0, unk, .int l2, .int s.1, .int s.2.1, .int s.2.2], [], h) r
  refine ev_iload pm250 i250_45 rfl rfl rfl ?_
  refine ev_aload_n pm250 i250_47 rfl rfl rfl ?_
  obtain ⟨x16, e17, hS⟩ := bn_s hS
  refine ev_getR pm250 i250_48 rfl rfl rfl e17 rfl ?_
  obtain ⟨x18, e19, hS⟩ := bn_s hS
  refine ev_getI pm250 i250_51 rfl rfl (by decide) e19 rfl ?_
  by_cases c606 : s.2.2 < x18
  · rw [if_pos c606] at hS
    refine ev_icmp_ge_t (t := 111) pm250 i250_54 rfl c606 rfl rfl ?_
    refine ev_iload_n pm250 i250_57 rfl rfl rfl ?_
    refine ev_iload pm250 i250_58 rfl rfl rfl ?_
    obtain ⟨x21, e20, hS⟩ := bn_s hS
    refine ev_callS (sa := [.int s.2.2, .int l2]) (rest := []) (st' := [.int x21]) (ls0 := [.int l2, .int s.2.2]) (rv := some (.int x21)) pm250 i250_60 rfl rfl pm214 (by decide) rfl rfl (Nat.le_of_ble_eq_true rfl) (by omega) rfl (R_md_bit (d - 1) (by omega) e20) (by simp) rfl rfl ?_
    by_cases c607 : x21 = (0 : Int32)
    · rw [if_pos c607] at hS
      refine ev_if_ne_t (t := 69) pm250 i250_63 rfl c607 rfl rfl ?_
      refine ev_goto (t := 105) pm250 i250_66 rfl rfl ?_
      refine ev_iinc (v := 1) (ls' := [.ref l0, unk, .int l2, .int s.1, .int s.2.1, .int (s.2.2 + (1 : Int32))]) pm250 i250_105 rfl rfl (by decide) rfl rfl ?_
      refine ev_goto (t := 45) pm250 i250_108 rfl rfl ?_
      cases hS
      exact hK
    · rw [if_neg c607] at hS
      refine ev_if_ne_f (t := 69) pm250 i250_63 rfl c607 rfl rfl ?_
      refine ev_aload_n pm250 i250_69 rfl rfl rfl ?_
      refine ev_iload pm250 i250_70 rfl rfl rfl ?_
      obtain ⟨x23, e22, hS⟩ := bn_s hS
      refine ev_callV (sa := [.int s.2.2]) (rest := []) (st' := [.int x23]) (ls0 := [.ref l0, .int s.2.2]) (rv := some (.int x23)) pm250 i250_72 rfl rfl pm236 (by decide) (K_md_netOf e22) rfl rfl (Nat.le_of_ble_eq_true rfl) (by omega) rfl (R_md_netOf (d - 1) (by omega) e22) (by simp) rfl rfl ?_
      refine ev_iload_n pm250 i250_75 rfl rfl rfl ?_
      obtain ⟨q26, I608, hS⟩ := bn_s hS
      have J1 : Ev P d 250 (86, [.ref l0, unk, .int l2, .int q26, .int s.2.1, .int s.2.2], [], h) r := by
        refine ev_aload_n pm250 i250_86 rfl rfl rfl ?_
        refine ev_iload pm250 i250_87 rfl rfl rfl ?_
        obtain ⟨x28, e27, hS⟩ := bn_s hS
        refine ev_callV (sa := [.int s.2.2]) (rest := []) (st' := [.int x28]) (ls0 := [.ref l0, .int s.2.2]) (rv := some (.int x28)) pm250 i250_89 rfl rfl pm236 (by decide) (K_md_netOf e27) rfl rfl (Nat.le_of_ble_eq_true rfl) (by omega) rfl (R_md_netOf (d - 1) (by omega) e27) (by simp) rfl rfl ?_
        refine ev_iload pm250 i250_92 rfl rfl rfl ?_
        by_cases c609 : x28 < s.2.1
        · rw [if_pos c609] at hS
          refine ev_icmp_ge_t (t := 105) pm250 i250_94 rfl c609 rfl rfl ?_
          refine ev_aload_n pm250 i250_97 rfl rfl rfl ?_
          refine ev_iload pm250 i250_98 rfl rfl rfl ?_
          obtain ⟨x30, e29, hS⟩ := bn_s hS
          refine ev_callV (sa := [.int s.2.2]) (rest := []) (st' := [.int x30]) (ls0 := [.ref l0, .int s.2.2]) (rv := some (.int x30)) pm250 i250_100 rfl rfl pm236 (by decide) (K_md_netOf e29) rfl rfl (Nat.le_of_ble_eq_true rfl) (by omega) rfl (R_md_netOf (d - 1) (by omega) e29) (by simp) rfl rfl ?_
          refine ev_istore (ls' := [.ref l0, unk, .int l2, .int q26, .int x30, .int s.2.2]) pm250 i250_103 rfl (Nat.le_of_ble_eq_true rfl) rfl rfl ?_
          refine ev_iinc (v := 1) (ls' := [.ref l0, unk, .int l2, .int q26, .int x30, .int (s.2.2 + (1 : Int32))]) pm250 i250_105 rfl rfl (by decide) rfl rfl ?_
          refine ev_goto (t := 45) pm250 i250_108 rfl rfl ?_
          cases hS
          exact hK
        · rw [if_neg c609] at hS
          refine ev_icmp_ge_f (t := 105) pm250 i250_94 rfl c609 rfl rfl ?_
          refine ev_iinc (v := 1) (ls' := [.ref l0, unk, .int l2, .int q26, .int s.2.1, .int (s.2.2 + (1 : Int32))]) pm250 i250_105 rfl rfl (by decide) rfl rfl ?_
          refine ev_goto (t := 45) pm250 i250_108 rfl rfl ?_
          cases hS
          exact hK
      clear hS
      by_cases c608 : s.1 < x23
      · rw [if_pos c608] at I608
        refine ev_icmp_le_t (t := 86) pm250 i250_76 rfl c608 rfl rfl ?_
        refine ev_aload_n pm250 i250_79 rfl rfl rfl ?_
        refine ev_iload pm250 i250_80 rfl rfl rfl ?_
        obtain ⟨x25, e24, I608⟩ := bn_s I608
        refine ev_callV (sa := [.int s.2.2]) (rest := []) (st' := [.int x25]) (ls0 := [.ref l0, .int s.2.2]) (rv := some (.int x25)) pm250 i250_82 rfl rfl pm236 (by decide) (K_md_netOf e24) rfl rfl (Nat.le_of_ble_eq_true rfl) (by omega) rfl (R_md_netOf (d - 1) (by omega) e24) (by simp) rfl rfl ?_
        refine ev_istore_n (ls' := [.ref l0, unk, .int l2, .int x25, .int s.2.1, .int s.2.2]) pm250 i250_85 rfl (Nat.le_of_ble_eq_true rfl) rfl rfl ?_
        cases I608
        exact J1
      · rw [if_neg c608] at I608
        refine ev_icmp_le_f (t := 86) pm250 i250_76 rfl c608 rfl rfl ?_
        cases I608
        exact J1
  · rw [if_neg c606] at hS
    refine ev_icmp_ge_f (t := 111) pm250 i250_54 rfl c606 rfl rfl ?_
    refine ev_kls (ls' := [.ref l0, unk, unk, .int s.1, .int s.2.1, unk]) pm250 i250_111 rfl rfl ?_
    cases hS
    exact hK
def F_md_tilt (a0 : Nat) (a1 : Int32) (h : Hp) : Option (Int32 × Hp) :=
  ck h a0 13 (bn (pI h a0 13 0 (0 : Int32)) fun h1 =>
  bn (F_md_isHouse a0 a1 h1) fun x4 =>
  if x4 = (0 : Int32) then
    (bd (F_md_refused a0 (1 : Int32) h1) fun x6 h7 =>
    some (x6, h7))
  else
    (bn (F_md_works a0 h1) fun h9 =>
    bn (F_md_raftOf a0 a1 h9) fun x11 =>
    bn (F_md_netOf a0 a1 h9) fun x13 =>
    bn (F_md_netOf a0 a1 h9) fun x15 =>
    bn (lq (B_md_tilt_45 a0 x11 h9) FU (x13, x15, (0 : Int32))) fun x31 =>
    bd (F_md_good a0 (x31.1 - x31.2) h9) fun x34 h35 =>
    some (x34, h35)))
set_option maxRecDepth 20000 in
theorem K_md_tilt {a0 : Nat} {a1 : Int32} {h : Hp} {v : Int32} {h' : Hp} (hS : F_md_tilt a0 a1 h = some (v, h')) : kd h a0 = 13 := by
  unfold F_md_tilt at hS
  exact (ck_s hS).1
set_option maxRecDepth 20000 in
theorem R_md_tilt (d : Nat) (hd : 3 ≤ d) {a0 : Nat} {a1 : Int32} {h : Hp} {v : Int32} {h' : Hp} (hS : F_md_tilt a0 a1 h = some (v, h')) : Ev P d 250 (0, [.ref a0, .int a1, unk, unk, unk, unk], [], h) (some (.int v), h') := by
  unfold F_md_tilt at hS
  replace hS := (ck_s hS).2
  refine ev_aload_n pm250 i250_0 rfl rfl rfl ?_
  refine ev_iconst (v := 0) pm250 i250_1 rfl (by decide) rfl ?_
  obtain ⟨h1, e2, hS⟩ := bn_s hS
  refine ev_putI pm250 i250_2 rfl rfl rfl e2 rfl ?_
  refine ev_aload_n pm250 i250_5 rfl rfl rfl ?_
  refine ev_iload_n pm250 i250_6 rfl rfl rfl ?_
  obtain ⟨x4, e3, hS⟩ := bn_s hS
  refine ev_callV (sa := [.int a1]) (rest := []) (st' := [.int x4]) (ls0 := [.ref a0, .int a1]) (rv := some (.int x4)) pm250 i250_7 rfl rfl pm228 (by decide) (K_md_isHouse e3) rfl rfl (Nat.le_of_ble_eq_true rfl) (by omega) rfl (R_md_isHouse (d - 1) (by omega) e3) (by simp) rfl rfl ?_
  by_cases c610 : x4 = (0 : Int32)
  · rw [if_pos c610] at hS
    refine ev_if_ne_t (t := 19) pm250 i250_10 rfl c610 rfl rfl ?_
    refine ev_aload_n pm250 i250_13 rfl rfl rfl ?_
    refine ev_iconst (v := 1) pm250 i250_14 rfl (by decide) rfl ?_
    obtain ⟨x6, h7, e5, hS⟩ := bd_s hS
    refine ev_callV (sa := [.int (1 : Int32)]) (rest := []) (st' := [.int x6]) (ls0 := [.ref a0, .int (1 : Int32)]) (rv := some (.int x6)) pm250 i250_15 rfl rfl pm186 (by decide) (K_md_refused e5) rfl rfl (Nat.le_of_ble_eq_true rfl) (by omega) rfl (R_md_refused (d - 1) (by omega) e5) (by simp) rfl rfl ?_
    cases hS
    exact ev_ireturn pm250 i250_18 rfl rfl rfl
  · rw [if_neg c610] at hS
    refine ev_if_ne_f (t := 19) pm250 i250_10 rfl c610 rfl rfl ?_
    refine ev_aload_n pm250 i250_19 rfl rfl rfl ?_
    obtain ⟨h9, e8, hS⟩ := bn_s hS
    refine ev_callV (sa := []) (rest := []) (st' := []) (ls0 := [.ref a0, unk]) (rv := none) pm250 i250_20 rfl rfl pm229 (by decide) (K_md_works e8) rfl rfl (Nat.le_of_ble_eq_true rfl) (by omega) rfl (R_md_works (d - 1) (by omega) e8) (by simp) rfl rfl ?_
    refine ev_aload_n pm250 i250_23 rfl rfl rfl ?_
    refine ev_iload_n pm250 i250_24 rfl rfl rfl ?_
    obtain ⟨x11, e10, hS⟩ := bn_s hS
    refine ev_callV (sa := [.int a1]) (rest := []) (st' := [.int x11]) (ls0 := [.ref a0, .int a1, unk, unk, unk]) (rv := some (.int x11)) pm250 i250_25 rfl rfl pm234 (by decide) (K_md_raftOf e10) rfl rfl (Nat.le_of_ble_eq_true rfl) (by omega) rfl (R_md_raftOf (d - 1) (by omega) e10) (by simp) rfl rfl ?_
    refine ev_istore_n (ls' := [.ref a0, .int a1, .int x11, unk, unk, unk]) pm250 i250_28 rfl (Nat.le_of_ble_eq_true rfl) rfl rfl ?_
    refine ev_aload_n pm250 i250_29 rfl rfl rfl ?_
    refine ev_iload_n pm250 i250_30 rfl rfl rfl ?_
    obtain ⟨x13, e12, hS⟩ := bn_s hS
    refine ev_callV (sa := [.int a1]) (rest := []) (st' := [.int x13]) (ls0 := [.ref a0, .int a1]) (rv := some (.int x13)) pm250 i250_31 rfl rfl pm236 (by decide) (K_md_netOf e12) rfl rfl (Nat.le_of_ble_eq_true rfl) (by omega) rfl (R_md_netOf (d - 1) (by omega) e12) (by simp) rfl rfl ?_
    refine ev_istore_n (ls' := [.ref a0, .int a1, .int x11, .int x13, unk, unk]) pm250 i250_34 rfl (Nat.le_of_ble_eq_true rfl) rfl rfl ?_
    refine ev_aload_n pm250 i250_35 rfl rfl rfl ?_
    refine ev_iload_n pm250 i250_36 rfl rfl rfl ?_
    obtain ⟨x15, e14, hS⟩ := bn_s hS
    refine ev_callV (sa := [.int a1]) (rest := []) (st' := [.int x15]) (ls0 := [.ref a0, .int a1]) (rv := some (.int x15)) pm250 i250_37 rfl rfl pm236 (by decide) (K_md_netOf e14) rfl rfl (Nat.le_of_ble_eq_true rfl) (by omega) rfl (R_md_netOf (d - 1) (by omega) e14) (by simp) rfl rfl ?_
    refine ev_istore (ls' := [.ref a0, .int a1, .int x11, .int x13, .int x15, unk]) pm250 i250_40 rfl (Nat.le_of_ble_eq_true rfl) rfl rfl ?_
    refine ev_iconst (v := 0) pm250 i250_42 rfl (by decide) rfl ?_
    refine ev_istore (ls' := [.ref a0, .int a1, .int x11, .int x13, .int x15, .int (0 : Int32)]) pm250 i250_43 rfl (Nat.le_of_ble_eq_true rfl) rfl rfl ?_
    refine ev_kls (ls' := [.ref a0, unk, .int x11, .int x13, .int x15, .int (0 : Int32)]) pm250 i250_45 rfl rfl ?_
    obtain ⟨x31, e32, hS⟩ := bn_s hS
    refine L_md_tilt_45 d (by omega) _ _ _ e32 _ ?_
    show Ev P d 250 (111, [.ref a0, unk, unk, .int x31.1, .int x31.2, unk], [], h9) _
    refine ev_aload_n pm250 i250_111 rfl rfl rfl ?_
    refine ev_iload_n pm250 i250_112 rfl rfl rfl ?_
    refine ev_iload pm250 i250_113 rfl rfl rfl ?_
    refine ev_b2 (f := fun x y => x - y) pm250 i250_115 rfl (fun _ _ _ _ => rfl) rfl ?_
    obtain ⟨x34, h35, e33, hS⟩ := bd_s hS
    refine ev_callV (sa := [.int (x31.1 - x31.2)]) (rest := []) (st' := [.int x34]) (ls0 := [.ref a0, .int (x31.1 - x31.2)]) (rv := some (.int x34)) pm250 i250_116 rfl rfl pm224 (by decide) (K_md_good e33) rfl rfl (Nat.le_of_ble_eq_true rfl) (by omega) rfl (R_md_good (d - 1) (by omega) e33) (by simp) rfl rfl ?_
    cases hS
    exact ev_ireturn pm250 i250_119 rfl rfl rfl
def F_md_refusesWeeks (a0 : Nat) (a1 : Int32) (a2 : Int32) (h : Hp) : Option Int32 :=
  ck h a0 13 (if a1 = (0 : Int32) then
    (some (1 : Int32))
  else
    (bn (F_md_in a2 (0 : Int32) (20 : Int32)) fun x2 =>
    if x2 = (0 : Int32) then
      (some (2 : Int32))
    else
      (some (0 : Int32))))
set_option maxRecDepth 20000 in
theorem K_md_refusesWeeks {a0 : Nat} {a1 : Int32} {a2 : Int32} {h : Hp} {v : Int32} (hS : F_md_refusesWeeks a0 a1 a2 h = some v) : kd h a0 = 13 := by
  unfold F_md_refusesWeeks at hS
  exact (ck_s hS).1
set_option maxRecDepth 20000 in
theorem R_md_refusesWeeks (d : Nat) (hd : 1 ≤ d) {a0 : Nat} {a1 : Int32} {a2 : Int32} {h : Hp} {v : Int32} (hS : F_md_refusesWeeks a0 a1 a2 h = some v) : Ev P d 252 (0, [.ref a0, .int a1, .int a2], [], h) (some (.int v), h) := by
  unfold F_md_refusesWeeks at hS
  replace hS := (ck_s hS).2
  refine ev_iload_n pm252 i252_0 rfl rfl rfl ?_
  by_cases c611 : a1 = (0 : Int32)
  · rw [if_pos c611] at hS
    refine ev_if_ne_t (t := 8) pm252 i252_1 rfl c611 rfl rfl ?_
    refine ev_iconst (v := 1) pm252 i252_4 rfl (by decide) rfl ?_
    refine ev_goto (t := 23) pm252 i252_5 rfl rfl ?_
    refine ev_kls (ls' := [unk, unk, unk]) pm252 i252_23 rfl rfl ?_
    cases hS
    exact ev_ireturn pm252 i252_23 rfl rfl rfl
  · rw [if_neg c611] at hS
    refine ev_if_ne_f (t := 8) pm252 i252_1 rfl c611 rfl rfl ?_
    refine ev_iload_n pm252 i252_8 rfl rfl rfl ?_
    refine ev_iconst (v := 0) pm252 i252_9 rfl (by decide) rfl ?_
    refine ev_bipush (v := 20) pm252 i252_10 rfl (by decide) rfl ?_
    obtain ⟨x2, e1, hS⟩ := bn_s hS
    refine ev_callS (sa := [.int (20 : Int32), .int (0 : Int32), .int a2]) (rest := []) (st' := [.int x2]) (ls0 := [.int a2, .int (0 : Int32), .int (20 : Int32)]) (rv := some (.int x2)) pm252 i252_12 rfl rfl pm201 (by decide) rfl rfl (Nat.le_of_ble_eq_true rfl) (by omega) rfl (R_md_in (d - 1) (by omega) e1) (by simp) rfl rfl ?_
    by_cases c612 : x2 = (0 : Int32)
    · rw [if_pos c612] at hS
      refine ev_if_eq_t (t := 22) pm252 i252_15 rfl c612 rfl rfl ?_
      refine ev_iconst (v := 2) pm252 i252_22 rfl (by decide) rfl ?_
      refine ev_kls (ls' := [unk, unk, unk]) pm252 i252_23 rfl rfl ?_
      cases hS
      exact ev_ireturn pm252 i252_23 rfl rfl rfl
    · rw [if_neg c612] at hS
      refine ev_if_eq_f (t := 22) pm252 i252_15 rfl c612 rfl rfl ?_
      refine ev_iconst (v := 0) pm252 i252_18 rfl (by decide) rfl ?_
      refine ev_goto (t := 23) pm252 i252_19 rfl rfl ?_
      refine ev_kls (ls' := [unk, unk, unk]) pm252 i252_23 rfl rfl ?_
      cases hS
      exact ev_ireturn pm252 i252_23 rfl rfl rfl
def B_md_softens_2 (l0 : Nat) (s : Int32) (h : Hp) : Option (((Int32) ⊕ (Unit)) × Hp) :=
  bn (gR h l0 13 3) fun x1 =>
  bn (gI h x1 12 1) fun x3 =>
  if s < x3 then
    (bn (gR h l0 13 16) fun x5 =>
    bn (F_md_cell s (2 : Int32)) fun x8 =>
    bn (gR h l0 13 16) fun x9 =>
    bn (F_md_cell s (1 : Int32)) fun x12 =>
    bn (aI h 100 x9 x12) fun x13 =>
    bn (sI h 100 x5 x8 x13) fun h15 =>
    bn (gR h15 l0 13 16) fun x17 =>
    bn (F_md_cell s (1 : Int32)) fun x20 =>
    bn (gR h15 l0 13 16) fun x21 =>
    bn (F_md_cell s (0 : Int32)) fun x24 =>
    bn (aI h15 100 x21 x24) fun x25 =>
    bn (sI h15 100 x17 x20 x25) fun h27 =>
    bn (gR h27 l0 13 16) fun x29 =>
    bn (F_md_cell s (0 : Int32)) fun x32 =>
    bn (sI h27 100 x29 x32 (0 : Int32)) fun h33 =>
    some (.inl (s + (1 : Int32)), h33))
  else
    (some (.inr (), h))
set_option maxRecDepth 20000 in
theorem L_md_softens_2 (d : Nat) (hd : 1 ≤ d) {l0 : Nat} : ∀ (n : Nat) (s : Int32) (h : Hp) (x : Unit) (hx : Hp), lp (B_md_softens_2 l0) n s h = some (x, hx) → ∀ r, Ev P d 254 (70, [unk, unk], [], hx) r → Ev P d 254 (2, [.ref l0, .int s], [], h) r := by
  refine lp_ev (G0 := fun (s : Int32) h r => Ev P d 254 (2, [.ref l0, .int s], [], h) r) (X := fun (x : Unit) hx r => Ev P d 254 (70, [unk, unk], [], hx) r) ?_
  intro s h y h9 hS r hK
  unfold B_md_softens_2 at hS
  show Ev P d 254 (2, [.ref l0, .int s], [], h) r
  refine ev_iload_n pm254 i254_2 rfl rfl rfl ?_
  refine ev_aload_n pm254 i254_3 rfl rfl rfl ?_
  obtain ⟨x1, e2, hS⟩ := bn_s hS
  refine ev_getR pm254 i254_4 rfl rfl rfl e2 rfl ?_
  obtain ⟨x3, e4, hS⟩ := bn_s hS
  refine ev_getI pm254 i254_7 rfl rfl (by decide) e4 rfl ?_
  by_cases c613 : s < x3
  · rw [if_pos c613] at hS
    refine ev_icmp_ge_t (t := 70) pm254 i254_10 rfl c613 rfl rfl ?_
    refine ev_aload_n pm254 i254_13 rfl rfl rfl ?_
    obtain ⟨x5, e6, hS⟩ := bn_s hS
    refine ev_getR pm254 i254_14 rfl rfl rfl e6 rfl ?_
    refine ev_iload_n pm254 i254_17 rfl rfl rfl ?_
    refine ev_iconst (v := 2) pm254 i254_18 rfl (by decide) rfl ?_
    obtain ⟨x8, e7, hS⟩ := bn_s hS
    refine ev_callS (sa := [.int (2 : Int32), .int s]) (rest := [.ref x5]) (st' := [.int x8, .ref x5]) (ls0 := [.int s, .int (2 : Int32)]) (rv := some (.int x8)) pm254 i254_19 rfl rfl pm223 (by decide) rfl rfl (Nat.le_of_ble_eq_true rfl) (by omega) rfl (R_md_cell (d - 1) (by omega) e7) (by simp) rfl rfl ?_
    refine ev_aload_n pm254 i254_22 rfl rfl rfl ?_
    obtain ⟨x9, e10, hS⟩ := bn_s hS
    refine ev_getR pm254 i254_23 rfl rfl rfl e10 rfl ?_
    refine ev_iload_n pm254 i254_26 rfl rfl rfl ?_
    refine ev_iconst (v := 1) pm254 i254_27 rfl (by decide) rfl ?_
    obtain ⟨x12, e11, hS⟩ := bn_s hS
    refine ev_callS (sa := [.int (1 : Int32), .int s]) (rest := [.ref x9, .int x8, .ref x5]) (st' := [.int x12, .ref x9, .int x8, .ref x5]) (ls0 := [.int s, .int (1 : Int32)]) (rv := some (.int x12)) pm254 i254_28 rfl rfl pm223 (by decide) rfl rfl (Nat.le_of_ble_eq_true rfl) (by omega) rfl (R_md_cell (d - 1) (by omega) e11) (by simp) rfl rfl ?_
    obtain ⟨x13, e14, hS⟩ := bn_s hS
    refine ev_iald pm254 i254_31 rfl e14 rfl ?_
    obtain ⟨h15, e16, hS⟩ := bn_s hS
    refine ev_iast pm254 i254_32 rfl e16 rfl ?_
    refine ev_aload_n pm254 i254_33 rfl rfl rfl ?_
    obtain ⟨x17, e18, hS⟩ := bn_s hS
    refine ev_getR pm254 i254_34 rfl rfl rfl e18 rfl ?_
    refine ev_iload_n pm254 i254_37 rfl rfl rfl ?_
    refine ev_iconst (v := 1) pm254 i254_38 rfl (by decide) rfl ?_
    obtain ⟨x20, e19, hS⟩ := bn_s hS
    refine ev_callS (sa := [.int (1 : Int32), .int s]) (rest := [.ref x17]) (st' := [.int x20, .ref x17]) (ls0 := [.int s, .int (1 : Int32)]) (rv := some (.int x20)) pm254 i254_39 rfl rfl pm223 (by decide) rfl rfl (Nat.le_of_ble_eq_true rfl) (by omega) rfl (R_md_cell (d - 1) (by omega) e19) (by simp) rfl rfl ?_
    refine ev_aload_n pm254 i254_42 rfl rfl rfl ?_
    obtain ⟨x21, e22, hS⟩ := bn_s hS
    refine ev_getR pm254 i254_43 rfl rfl rfl e22 rfl ?_
    refine ev_iload_n pm254 i254_46 rfl rfl rfl ?_
    refine ev_iconst (v := 0) pm254 i254_47 rfl (by decide) rfl ?_
    obtain ⟨x24, e23, hS⟩ := bn_s hS
    refine ev_callS (sa := [.int (0 : Int32), .int s]) (rest := [.ref x21, .int x20, .ref x17]) (st' := [.int x24, .ref x21, .int x20, .ref x17]) (ls0 := [.int s, .int (0 : Int32)]) (rv := some (.int x24)) pm254 i254_48 rfl rfl pm223 (by decide) rfl rfl (Nat.le_of_ble_eq_true rfl) (by omega) rfl (R_md_cell (d - 1) (by omega) e23) (by simp) rfl rfl ?_
    obtain ⟨x25, e26, hS⟩ := bn_s hS
    refine ev_iald pm254 i254_51 rfl e26 rfl ?_
    obtain ⟨h27, e28, hS⟩ := bn_s hS
    refine ev_iast pm254 i254_52 rfl e28 rfl ?_
    refine ev_aload_n pm254 i254_53 rfl rfl rfl ?_
    obtain ⟨x29, e30, hS⟩ := bn_s hS
    refine ev_getR pm254 i254_54 rfl rfl rfl e30 rfl ?_
    refine ev_iload_n pm254 i254_57 rfl rfl rfl ?_
    refine ev_iconst (v := 0) pm254 i254_58 rfl (by decide) rfl ?_
    obtain ⟨x32, e31, hS⟩ := bn_s hS
    refine ev_callS (sa := [.int (0 : Int32), .int s]) (rest := [.ref x29]) (st' := [.int x32, .ref x29]) (ls0 := [.int s, .int (0 : Int32)]) (rv := some (.int x32)) pm254 i254_59 rfl rfl pm223 (by decide) rfl rfl (Nat.le_of_ble_eq_true rfl) (by omega) rfl (R_md_cell (d - 1) (by omega) e31) (by simp) rfl rfl ?_
    refine ev_iconst (v := 0) pm254 i254_62 rfl (by decide) rfl ?_
    obtain ⟨h33, e34, hS⟩ := bn_s hS
    refine ev_iast pm254 i254_63 rfl e34 rfl ?_
    refine ev_iinc (v := 1) (ls' := [.ref l0, .int (s + (1 : Int32))]) pm254 i254_64 rfl rfl (by decide) rfl rfl ?_
    refine ev_goto (t := 2) pm254 i254_67 rfl rfl ?_
    cases hS
    exact hK
  · rw [if_neg c613] at hS
    refine ev_icmp_ge_f (t := 70) pm254 i254_10 rfl c613 rfl rfl ?_
    refine ev_kls (ls' := [unk, unk]) pm254 i254_70 rfl rfl ?_
    cases hS
    exact hK
def F_md_softens (a0 : Nat) (h : Hp) : Option Hp :=
  ck h a0 13 (bd (lp (B_md_softens_2 a0) FU (0 : Int32) h) fun x35 h37 =>
  some h37)
set_option maxRecDepth 20000 in
theorem K_md_softens {a0 : Nat} {h : Hp} {h' : Hp} (hS : F_md_softens a0 h = some h') : kd h a0 = 13 := by
  unfold F_md_softens at hS
  exact (ck_s hS).1
set_option maxRecDepth 20000 in
theorem R_md_softens (d : Nat) (hd : 1 ≤ d) {a0 : Nat} {h : Hp} {h' : Hp} (hS : F_md_softens a0 h = some h') : Ev P d 254 (0, [.ref a0, unk], [], h) (none, h') := by
  unfold F_md_softens at hS
  replace hS := (ck_s hS).2
  refine ev_iconst (v := 0) pm254 i254_0 rfl (by decide) rfl ?_
  refine ev_istore_n (ls' := [.ref a0, .int (0 : Int32)]) pm254 i254_1 rfl (Nat.le_of_ble_eq_true rfl) rfl rfl ?_
  obtain ⟨x35, h37, e36, hS⟩ := bd_s hS
  refine L_md_softens_2 d (by omega) _ _ _ _ _ e36 _ ?_
  show Ev P d 254 (70, [unk, unk], [], h37) _
  cases hS
  exact ev_return pm254 i254_70 rfl rfl rfl
def B_md_softensAll_2 (l0 : Nat) (l1 : Int32) (s : Int32) (h : Hp) : Option (((Int32) ⊕ (Unit)) × Hp) :=
  if s < l1 then
    (bn (F_md_softens l0 h) fun h2 =>
    some (.inl (s + (1 : Int32)), h2))
  else
    (some (.inr (), h))
set_option maxRecDepth 20000 in
theorem L_md_softensAll_2 (d : Nat) (hd : 2 ≤ d) {l0 : Nat} {l1 : Int32} : ∀ (n : Nat) (s : Int32) (h : Hp) (x : Unit) (hx : Hp), lp (B_md_softensAll_2 l0 l1) n s h = some (x, hx) → ∀ r, Ev P d 253 (17, [unk, unk, unk], [], hx) r → Ev P d 253 (2, [.ref l0, .int l1, .int s], [], h) r := by
  refine lp_ev (G0 := fun (s : Int32) h r => Ev P d 253 (2, [.ref l0, .int l1, .int s], [], h) r) (X := fun (x : Unit) hx r => Ev P d 253 (17, [unk, unk, unk], [], hx) r) ?_
  intro s h y h9 hS r hK
  unfold B_md_softensAll_2 at hS
  show Ev P d 253 (2, [.ref l0, .int l1, .int s], [], h) r
  refine ev_iload_n pm253 i253_2 rfl rfl rfl ?_
  refine ev_iload_n pm253 i253_3 rfl rfl rfl ?_
  by_cases c614 : s < l1
  · rw [if_pos c614] at hS
    refine ev_icmp_ge_t (t := 17) pm253 i253_4 rfl c614 rfl rfl ?_
    refine ev_aload_n pm253 i253_7 rfl rfl rfl ?_
    obtain ⟨h2, e1, hS⟩ := bn_s hS
    refine ev_callV (sa := []) (rest := []) (st' := []) (ls0 := [.ref l0, unk]) (rv := none) pm253 i253_8 rfl rfl pm254 (by decide) (K_md_softens e1) rfl rfl (Nat.le_of_ble_eq_true rfl) (by omega) rfl (R_md_softens (d - 1) (by omega) e1) (by simp) rfl rfl ?_
    refine ev_iinc (v := 1) (ls' := [.ref l0, .int l1, .int (s + (1 : Int32))]) pm253 i253_11 rfl rfl (by decide) rfl rfl ?_
    refine ev_goto (t := 2) pm253 i253_14 rfl rfl ?_
    cases hS
    exact hK
  · rw [if_neg c614] at hS
    refine ev_icmp_ge_f (t := 17) pm253 i253_4 rfl c614 rfl rfl ?_
    refine ev_kls (ls' := [unk, unk, unk]) pm253 i253_17 rfl rfl ?_
    cases hS
    exact hK
def F_md_softensAll (a0 : Nat) (a1 : Int32) (h : Hp) : Option Hp :=
  ck h a0 13 (bd (lp (B_md_softensAll_2 a0 a1) FU (0 : Int32) h) fun x3 h5 =>
  some h5)
set_option maxRecDepth 20000 in
theorem K_md_softensAll {a0 : Nat} {a1 : Int32} {h : Hp} {h' : Hp} (hS : F_md_softensAll a0 a1 h = some h') : kd h a0 = 13 := by
  unfold F_md_softensAll at hS
  exact (ck_s hS).1
set_option maxRecDepth 20000 in
theorem R_md_softensAll (d : Nat) (hd : 2 ≤ d) {a0 : Nat} {a1 : Int32} {h : Hp} {h' : Hp} (hS : F_md_softensAll a0 a1 h = some h') : Ev P d 253 (0, [.ref a0, .int a1, unk], [], h) (none, h') := by
  unfold F_md_softensAll at hS
  replace hS := (ck_s hS).2
  refine ev_iconst (v := 0) pm253 i253_0 rfl (by decide) rfl ?_
  refine ev_istore_n (ls' := [.ref a0, .int a1, .int (0 : Int32)]) pm253 i253_1 rfl (Nat.le_of_ble_eq_true rfl) rfl rfl ?_
  obtain ⟨x3, h5, e4, hS⟩ := bd_s hS
  refine L_md_softensAll_2 d (by omega) _ _ _ _ _ e4 _ ?_
  show Ev P d 253 (17, [unk, unk, unk], [], h5) _
  cases hS
  exact ev_return pm253 i253_17 rfl rfl rfl
def F_md_heightIn (a0 : Nat) (a1 : Int32) (a2 : Int32) (h : Hp) : Option (Int32 × Hp) :=
  ck h a0 13 (bn (pI h a0 13 0 (0 : Int32)) fun h1 =>
  bn (F_md_isHouse a0 a1 h1) fun x4 =>
  bn (F_md_refusesWeeks a0 x4 a2 h1) fun x6 =>
  if (0 : Int32) < x6 then
    (bd (F_md_refused a0 x6 h1) fun x8 h9 =>
    some (x8, h9))
  else
    (bn (F_md_works a0 h1) fun h11 =>
    bn (F_md_softensAll a0 a2 h11) fun h13 =>
    bn (F_md_heightOf a0 a1 h13) fun x15 =>
    bd (F_md_good a0 ((1000 : Int32) + x15) h13) fun x17 h18 =>
    some (x17, h18)))
set_option maxRecDepth 20000 in
theorem K_md_heightIn {a0 : Nat} {a1 : Int32} {a2 : Int32} {h : Hp} {v : Int32} {h' : Hp} (hS : F_md_heightIn a0 a1 a2 h = some (v, h')) : kd h a0 = 13 := by
  unfold F_md_heightIn at hS
  exact (ck_s hS).1
set_option maxRecDepth 20000 in
theorem R_md_heightIn (d : Nat) (hd : 5 ≤ d) {a0 : Nat} {a1 : Int32} {a2 : Int32} {h : Hp} {v : Int32} {h' : Hp} (hS : F_md_heightIn a0 a1 a2 h = some (v, h')) : Ev P d 251 (0, [.ref a0, .int a1, .int a2, unk], [], h) (some (.int v), h') := by
  unfold F_md_heightIn at hS
  replace hS := (ck_s hS).2
  refine ev_aload_n pm251 i251_0 rfl rfl rfl ?_
  refine ev_iconst (v := 0) pm251 i251_1 rfl (by decide) rfl ?_
  obtain ⟨h1, e2, hS⟩ := bn_s hS
  refine ev_putI pm251 i251_2 rfl rfl rfl e2 rfl ?_
  refine ev_aload_n pm251 i251_5 rfl rfl rfl ?_
  refine ev_aload_n pm251 i251_6 rfl rfl rfl ?_
  refine ev_iload_n pm251 i251_7 rfl rfl rfl ?_
  obtain ⟨x4, e3, hS⟩ := bn_s hS
  refine ev_callV (sa := [.int a1]) (rest := [.ref a0]) (st' := [.int x4, .ref a0]) (ls0 := [.ref a0, .int a1]) (rv := some (.int x4)) pm251 i251_8 rfl rfl pm228 (by decide) (K_md_isHouse e3) rfl rfl (Nat.le_of_ble_eq_true rfl) (by omega) rfl (R_md_isHouse (d - 1) (by omega) e3) (by simp) rfl rfl ?_
  refine ev_iload_n pm251 i251_11 rfl rfl rfl ?_
  obtain ⟨x6, e5, hS⟩ := bn_s hS
  refine ev_callV (sa := [.int a2, .int x4]) (rest := []) (st' := [.int x6]) (ls0 := [.ref a0, .int x4, .int a2]) (rv := some (.int x6)) pm251 i251_12 rfl rfl pm252 (by decide) (K_md_refusesWeeks e5) rfl rfl (Nat.le_of_ble_eq_true rfl) (by omega) rfl (R_md_refusesWeeks (d - 1) (by omega) e5) (by simp) rfl rfl ?_
  refine ev_istore_n (ls' := [.ref a0, .int a1, .int a2, .int x6]) pm251 i251_15 rfl (Nat.le_of_ble_eq_true rfl) rfl rfl ?_
  refine ev_iload_n pm251 i251_16 rfl rfl rfl ?_
  by_cases c615 : (0 : Int32) < x6
  · rw [if_pos c615] at hS
    refine ev_if_le_t (t := 26) pm251 i251_17 rfl c615 rfl rfl ?_
    refine ev_aload_n pm251 i251_20 rfl rfl rfl ?_
    refine ev_iload_n pm251 i251_21 rfl rfl rfl ?_
    obtain ⟨x8, h9, e7, hS⟩ := bd_s hS
    refine ev_callV (sa := [.int x6]) (rest := []) (st' := [.int x8]) (ls0 := [.ref a0, .int x6]) (rv := some (.int x8)) pm251 i251_22 rfl rfl pm186 (by decide) (K_md_refused e7) rfl rfl (Nat.le_of_ble_eq_true rfl) (by omega) rfl (R_md_refused (d - 1) (by omega) e7) (by simp) rfl rfl ?_
    cases hS
    exact ev_ireturn pm251 i251_25 rfl rfl rfl
  · rw [if_neg c615] at hS
    refine ev_if_le_f (t := 26) pm251 i251_17 rfl c615 rfl rfl ?_
    refine ev_aload_n pm251 i251_26 rfl rfl rfl ?_
    obtain ⟨h11, e10, hS⟩ := bn_s hS
    refine ev_callV (sa := []) (rest := []) (st' := []) (ls0 := [.ref a0, unk]) (rv := none) pm251 i251_27 rfl rfl pm229 (by decide) (K_md_works e10) rfl rfl (Nat.le_of_ble_eq_true rfl) (by omega) rfl (R_md_works (d - 1) (by omega) e10) (by simp) rfl rfl ?_
    refine ev_aload_n pm251 i251_30 rfl rfl rfl ?_
    refine ev_iload_n pm251 i251_31 rfl rfl rfl ?_
    obtain ⟨h13, e12, hS⟩ := bn_s hS
    refine ev_callV (sa := [.int a2]) (rest := []) (st' := []) (ls0 := [.ref a0, .int a2, unk]) (rv := none) pm251 i251_32 rfl rfl pm253 (by decide) (K_md_softensAll e12) rfl rfl (Nat.le_of_ble_eq_true rfl) (by omega) rfl (R_md_softensAll (d - 1) (by omega) e12) (by simp) rfl rfl ?_
    refine ev_aload_n pm251 i251_35 rfl rfl rfl ?_
    refine ev_sipush (v := 1000) pm251 i251_36 rfl (by decide) rfl ?_
    refine ev_aload_n pm251 i251_39 rfl rfl rfl ?_
    refine ev_iload_n pm251 i251_40 rfl rfl rfl ?_
    obtain ⟨x15, e14, hS⟩ := bn_s hS
    refine ev_callV (sa := [.int a1]) (rest := [.int (1000 : Int32), .ref a0]) (st' := [.int x15, .int (1000 : Int32), .ref a0]) (ls0 := [.ref a0, .int a1, unk]) (rv := some (.int x15)) pm251 i251_41 rfl rfl pm233 (by decide) (K_md_heightOf e14) rfl rfl (Nat.le_of_ble_eq_true rfl) (by omega) rfl (R_md_heightOf (d - 1) (by omega) e14) (by simp) rfl rfl ?_
    refine ev_b2 (f := fun x y => x + y) pm251 i251_44 rfl (fun _ _ _ _ => rfl) rfl ?_
    obtain ⟨x17, h18, e16, hS⟩ := bd_s hS
    refine ev_callV (sa := [.int ((1000 : Int32) + x15)]) (rest := []) (st' := [.int x17]) (ls0 := [.ref a0, .int ((1000 : Int32) + x15)]) (rv := some (.int x17)) pm251 i251_45 rfl rfl pm224 (by decide) (K_md_good e16) rfl rfl (Nat.le_of_ble_eq_true rfl) (by omega) rfl (R_md_good (d - 1) (by omega) e16) (by simp) rfl rfl ?_
    cases hS
    exact ev_ireturn pm251 i251_48 rfl rfl rfl
def F_md_underIn (a0 : Nat) (a1 : Int32) (h : Hp) : Option (Int32 × Hp) :=
  ck h a0 13 (bn (pI h a0 13 0 (0 : Int32)) fun h1 =>
  bn (gQ h1 a0 13 3) fun x3 =>
  bn (if x3 = none then
      (some (0 : Int32))
    else
      (some (1 : Int32))) fun q5 =>
  bn (F_md_refusesWeeks a0 q5 a1 h1) fun x7 =>
  if (0 : Int32) < x7 then
    (bd (F_md_refused a0 x7 h1) fun x9 h10 =>
    some (x9, h10))
  else
    (bn (F_md_works a0 h1) fun h12 =>
    bn (F_md_softensAll a0 a1 h12) fun h14 =>
    bn (F_md_underNow a0 h14) fun x16 =>
    bd (F_md_good a0 x16 h14) fun x18 h19 =>
    some (x18, h19)))
set_option maxRecDepth 20000 in
theorem K_md_underIn {a0 : Nat} {a1 : Int32} {h : Hp} {v : Int32} {h' : Hp} (hS : F_md_underIn a0 a1 h = some (v, h')) : kd h a0 = 13 := by
  unfold F_md_underIn at hS
  exact (ck_s hS).1
set_option maxRecDepth 20000 in
theorem R_md_underIn (d : Nat) (hd : 6 ≤ d) {a0 : Nat} {a1 : Int32} {h : Hp} {v : Int32} {h' : Hp} (hS : F_md_underIn a0 a1 h = some (v, h')) : Ev P d 255 (0, [.ref a0, .int a1, unk], [], h) (some (.int v), h') := by
  unfold F_md_underIn at hS
  replace hS := (ck_s hS).2
  refine ev_aload_n pm255 i255_0 rfl rfl rfl ?_
  refine ev_iconst (v := 0) pm255 i255_1 rfl (by decide) rfl ?_
  obtain ⟨h1, e2, hS⟩ := bn_s hS
  refine ev_putI pm255 i255_2 rfl rfl rfl e2 rfl ?_
  refine ev_aload_n pm255 i255_5 rfl rfl rfl ?_
  refine ev_aload_n pm255 i255_6 rfl rfl rfl ?_
  obtain ⟨x3, e4, hS⟩ := bn_s hS
  refine ev_getQ pm255 i255_7 rfl rfl rfl e4 rfl ?_
  obtain ⟨q5, I616, hS⟩ := bn_s hS
  have J1 : Ev P d 255 (18, [.ref a0, .int a1, unk], [.int q5, .ref a0], h1) (some (.int v), h') := by
    refine ev_iload_n pm255 i255_18 rfl rfl rfl ?_
    obtain ⟨x7, e6, hS⟩ := bn_s hS
    refine ev_callV (sa := [.int a1, .int q5]) (rest := []) (st' := [.int x7]) (ls0 := [.ref a0, .int q5, .int a1]) (rv := some (.int x7)) pm255 i255_19 rfl rfl pm252 (by decide) (K_md_refusesWeeks e6) rfl rfl (Nat.le_of_ble_eq_true rfl) (by omega) rfl (R_md_refusesWeeks (d - 1) (by omega) e6) (by simp) rfl rfl ?_
    refine ev_istore_n (ls' := [.ref a0, .int a1, .int x7]) pm255 i255_22 rfl (Nat.le_of_ble_eq_true rfl) rfl rfl ?_
    refine ev_iload_n pm255 i255_23 rfl rfl rfl ?_
    by_cases c617 : (0 : Int32) < x7
    · rw [if_pos c617] at hS
      refine ev_if_le_t (t := 33) pm255 i255_24 rfl c617 rfl rfl ?_
      refine ev_aload_n pm255 i255_27 rfl rfl rfl ?_
      refine ev_iload_n pm255 i255_28 rfl rfl rfl ?_
      obtain ⟨x9, h10, e8, hS⟩ := bd_s hS
      refine ev_callV (sa := [.int x7]) (rest := []) (st' := [.int x9]) (ls0 := [.ref a0, .int x7]) (rv := some (.int x9)) pm255 i255_29 rfl rfl pm186 (by decide) (K_md_refused e8) rfl rfl (Nat.le_of_ble_eq_true rfl) (by omega) rfl (R_md_refused (d - 1) (by omega) e8) (by simp) rfl rfl ?_
      cases hS
      exact ev_ireturn pm255 i255_32 rfl rfl rfl
    · rw [if_neg c617] at hS
      refine ev_if_le_f (t := 33) pm255 i255_24 rfl c617 rfl rfl ?_
      refine ev_aload_n pm255 i255_33 rfl rfl rfl ?_
      obtain ⟨h12, e11, hS⟩ := bn_s hS
      refine ev_callV (sa := []) (rest := []) (st' := []) (ls0 := [.ref a0, unk]) (rv := none) pm255 i255_34 rfl rfl pm229 (by decide) (K_md_works e11) rfl rfl (Nat.le_of_ble_eq_true rfl) (by omega) rfl (R_md_works (d - 1) (by omega) e11) (by simp) rfl rfl ?_
      refine ev_aload_n pm255 i255_37 rfl rfl rfl ?_
      refine ev_iload_n pm255 i255_38 rfl rfl rfl ?_
      obtain ⟨h14, e13, hS⟩ := bn_s hS
      refine ev_callV (sa := [.int a1]) (rest := []) (st' := []) (ls0 := [.ref a0, .int a1, unk]) (rv := none) pm255 i255_39 rfl rfl pm253 (by decide) (K_md_softensAll e13) rfl rfl (Nat.le_of_ble_eq_true rfl) (by omega) rfl (R_md_softensAll (d - 1) (by omega) e13) (by simp) rfl rfl ?_
      refine ev_aload_n pm255 i255_42 rfl rfl rfl ?_
      refine ev_aload_n pm255 i255_43 rfl rfl rfl ?_
      obtain ⟨x16, e15, hS⟩ := bn_s hS
      refine ev_callV (sa := []) (rest := [.ref a0]) (st' := [.int x16, .ref a0]) (ls0 := [.ref a0, unk, unk]) (rv := some (.int x16)) pm255 i255_44 rfl rfl pm246 (by decide) (K_md_underNow e15) rfl rfl (Nat.le_of_ble_eq_true rfl) (by omega) rfl (R_md_underNow (d - 1) (by omega) e15) (by simp) rfl rfl ?_
      obtain ⟨x18, h19, e17, hS⟩ := bd_s hS
      refine ev_callV (sa := [.int x16]) (rest := []) (st' := [.int x18]) (ls0 := [.ref a0, .int x16]) (rv := some (.int x18)) pm255 i255_47 rfl rfl pm224 (by decide) (K_md_good e17) rfl rfl (Nat.le_of_ble_eq_true rfl) (by omega) rfl (R_md_good (d - 1) (by omega) e17) (by simp) rfl rfl ?_
      cases hS
      exact ev_ireturn pm255 i255_50 rfl rfl rfl
  clear hS
  by_cases c616 : x3 = none
  · rw [if_pos c616] at I616
    subst c616
    refine ev_nullT (t := 17) pm255 i255_10 rfl rfl ?_
    refine ev_iconst (v := 0) pm255 i255_17 rfl (by decide) rfl ?_
    cases I616
    exact J1
  · rw [if_neg c616] at I616
    obtain ⟨_, rfl⟩ := Option.ne_none_iff_exists'.mp c616
    refine ev_nullF pm255 i255_10 rfl rfl ?_
    refine ev_iconst (v := 1) pm255 i255_13 rfl (by decide) rfl ?_
    refine ev_goto (t := 18) pm255 i255_14 rfl rfl ?_
    cases I616
    exact J1
def B_md_sinks_25 (l0 : Nat) (l1 : Int32) (s : Int32) (h : Hp) : Option (((Int32) ⊕ ((Unit) ⊕ Int32)) × Hp) :=
  if (20 : Int32) < s then
    (some (.inr (.inl ()), h))
  else
    (bn (F_md_heightOf l0 l1 h) fun x11 =>
    if x11 < (0 : Int32) then
      (bd (F_md_good l0 s h) fun x13 h14 =>
      some (.inr (.inr x13), h14))
    else
      (bn (F_md_softens l0 h) fun h16 =>
      some (.inl (s + (1 : Int32)), h16)))
set_option maxRecDepth 20000 in
theorem L_md_sinks_25 (d : Nat) (hd : 5 ≤ d) {l0 : Nat} {l1 : Int32} : ∀ (n : Nat) (s : Int32) (h : Hp) (x : (Unit) ⊕ Int32) (hx : Hp), lp (B_md_sinks_25 l0 l1) n s h = some (x, hx) → ∀ r, ei x (fun q => Ev P d 256 (55, [.ref l0, unk, unk], [], hx) r) (fun v => (some (.int v), hx) = r) → Ev P d 256 (25, [.ref l0, .int l1, .int s], [], h) r := by
  refine lp_ev (G0 := fun (s : Int32) h r => Ev P d 256 (25, [.ref l0, .int l1, .int s], [], h) r) (X := fun (x : (Unit) ⊕ Int32) hx r => ei x (fun q => Ev P d 256 (55, [.ref l0, unk, unk], [], hx) r) (fun v => (some (.int v), hx) = r)) ?_
  intro s h y h9 hS r hK
  unfold B_md_sinks_25 at hS
  show Ev P d 256 (25, [.ref l0, .int l1, .int s], [], h) r
  refine ev_iload_n pm256 i256_25 rfl rfl rfl ?_
  refine ev_bipush (v := 20) pm256 i256_26 rfl (by decide) rfl ?_
  by_cases c618 : (20 : Int32) < s
  · rw [if_pos c618] at hS
    refine ev_icmp_gt_t (t := 55) pm256 i256_28 rfl c618 rfl rfl ?_
    refine ev_kls (ls' := [.ref l0, unk, unk]) pm256 i256_55 rfl rfl ?_
    cases hS
    exact hK
  · rw [if_neg c618] at hS
    refine ev_icmp_gt_f (t := 55) pm256 i256_28 rfl c618 rfl rfl ?_
    refine ev_aload_n pm256 i256_31 rfl rfl rfl ?_
    refine ev_iload_n pm256 i256_32 rfl rfl rfl ?_
    obtain ⟨x11, e10, hS⟩ := bn_s hS
    refine ev_callV (sa := [.int l1]) (rest := []) (st' := [.int x11]) (ls0 := [.ref l0, .int l1, unk]) (rv := some (.int x11)) pm256 i256_33 rfl rfl pm233 (by decide) (K_md_heightOf e10) rfl rfl (Nat.le_of_ble_eq_true rfl) (by omega) rfl (R_md_heightOf (d - 1) (by omega) e10) (by simp) rfl rfl ?_
    by_cases c619 : x11 < (0 : Int32)
    · rw [if_pos c619] at hS
      refine ev_if_ge_t (t := 45) pm256 i256_36 rfl c619 rfl rfl ?_
      refine ev_aload_n pm256 i256_39 rfl rfl rfl ?_
      refine ev_iload_n pm256 i256_40 rfl rfl rfl ?_
      obtain ⟨x13, h14, e12, hS⟩ := bd_s hS
      refine ev_callV (sa := [.int s]) (rest := []) (st' := [.int x13]) (ls0 := [.ref l0, .int s]) (rv := some (.int x13)) pm256 i256_41 rfl rfl pm224 (by decide) (K_md_good e12) rfl rfl (Nat.le_of_ble_eq_true rfl) (by omega) rfl (R_md_good (d - 1) (by omega) e12) (by simp) rfl rfl ?_
      cases hS
      exact ev_ireturn pm256 i256_44 rfl rfl hK
    · rw [if_neg c619] at hS
      refine ev_if_ge_f (t := 45) pm256 i256_36 rfl c619 rfl rfl ?_
      refine ev_aload_n pm256 i256_45 rfl rfl rfl ?_
      obtain ⟨h16, e15, hS⟩ := bn_s hS
      refine ev_callV (sa := []) (rest := []) (st' := []) (ls0 := [.ref l0, unk]) (rv := none) pm256 i256_46 rfl rfl pm254 (by decide) (K_md_softens e15) rfl rfl (Nat.le_of_ble_eq_true rfl) (by omega) rfl (R_md_softens (d - 1) (by omega) e15) (by simp) rfl rfl ?_
      refine ev_iinc (v := 1) (ls' := [.ref l0, .int l1, .int (s + (1 : Int32))]) pm256 i256_49 rfl rfl (by decide) rfl rfl ?_
      refine ev_goto (t := 25) pm256 i256_52 rfl rfl ?_
      cases hS
      exact hK
def F_md_sinks (a0 : Nat) (a1 : Int32) (h : Hp) : Option (Int32 × Hp) :=
  ck h a0 13 (bn (pI h a0 13 0 (0 : Int32)) fun h1 =>
  bn (F_md_isHouse a0 a1 h1) fun x4 =>
  if x4 = (0 : Int32) then
    (bd (F_md_refused a0 (1 : Int32) h1) fun x6 h7 =>
    some (x6, h7))
  else
    (bn (F_md_works a0 h1) fun h9 =>
    bd (lp (B_md_sinks_25 a0 a1) FU (0 : Int32) h9) fun x17 h19 =>
    ei x17 (fun q20 =>
    bd (F_md_good a0 (-2 : Int32) h19) fun x22 h23 =>
    some (x22, h23))
    (fun x24 => some (x24, h19))))
set_option maxRecDepth 20000 in
theorem K_md_sinks {a0 : Nat} {a1 : Int32} {h : Hp} {v : Int32} {h' : Hp} (hS : F_md_sinks a0 a1 h = some (v, h')) : kd h a0 = 13 := by
  unfold F_md_sinks at hS
  exact (ck_s hS).1
set_option maxRecDepth 20000 in
theorem R_md_sinks (d : Nat) (hd : 5 ≤ d) {a0 : Nat} {a1 : Int32} {h : Hp} {v : Int32} {h' : Hp} (hS : F_md_sinks a0 a1 h = some (v, h')) : Ev P d 256 (0, [.ref a0, .int a1, unk], [], h) (some (.int v), h') := by
  unfold F_md_sinks at hS
  replace hS := (ck_s hS).2
  refine ev_aload_n pm256 i256_0 rfl rfl rfl ?_
  refine ev_iconst (v := 0) pm256 i256_1 rfl (by decide) rfl ?_
  obtain ⟨h1, e2, hS⟩ := bn_s hS
  refine ev_putI pm256 i256_2 rfl rfl rfl e2 rfl ?_
  refine ev_aload_n pm256 i256_5 rfl rfl rfl ?_
  refine ev_iload_n pm256 i256_6 rfl rfl rfl ?_
  obtain ⟨x4, e3, hS⟩ := bn_s hS
  refine ev_callV (sa := [.int a1]) (rest := []) (st' := [.int x4]) (ls0 := [.ref a0, .int a1]) (rv := some (.int x4)) pm256 i256_7 rfl rfl pm228 (by decide) (K_md_isHouse e3) rfl rfl (Nat.le_of_ble_eq_true rfl) (by omega) rfl (R_md_isHouse (d - 1) (by omega) e3) (by simp) rfl rfl ?_
  by_cases c620 : x4 = (0 : Int32)
  · rw [if_pos c620] at hS
    refine ev_if_ne_t (t := 19) pm256 i256_10 rfl c620 rfl rfl ?_
    refine ev_aload_n pm256 i256_13 rfl rfl rfl ?_
    refine ev_iconst (v := 1) pm256 i256_14 rfl (by decide) rfl ?_
    obtain ⟨x6, h7, e5, hS⟩ := bd_s hS
    refine ev_callV (sa := [.int (1 : Int32)]) (rest := []) (st' := [.int x6]) (ls0 := [.ref a0, .int (1 : Int32)]) (rv := some (.int x6)) pm256 i256_15 rfl rfl pm186 (by decide) (K_md_refused e5) rfl rfl (Nat.le_of_ble_eq_true rfl) (by omega) rfl (R_md_refused (d - 1) (by omega) e5) (by simp) rfl rfl ?_
    cases hS
    exact ev_ireturn pm256 i256_18 rfl rfl rfl
  · rw [if_neg c620] at hS
    refine ev_if_ne_f (t := 19) pm256 i256_10 rfl c620 rfl rfl ?_
    refine ev_aload_n pm256 i256_19 rfl rfl rfl ?_
    obtain ⟨h9, e8, hS⟩ := bn_s hS
    refine ev_callV (sa := []) (rest := []) (st' := []) (ls0 := [.ref a0, unk]) (rv := none) pm256 i256_20 rfl rfl pm229 (by decide) (K_md_works e8) rfl rfl (Nat.le_of_ble_eq_true rfl) (by omega) rfl (R_md_works (d - 1) (by omega) e8) (by simp) rfl rfl ?_
    refine ev_iconst (v := 0) pm256 i256_23 rfl (by decide) rfl ?_
    refine ev_istore_n (ls' := [.ref a0, .int a1, .int (0 : Int32)]) pm256 i256_24 rfl (Nat.le_of_ble_eq_true rfl) rfl rfl ?_
    obtain ⟨x17, h19, e18, hS⟩ := bd_s hS
    refine L_md_sinks_25 d (by omega) _ _ _ _ _ e18 _ ?_
    cases x17 with
    | inl q20 =>
      replace hS := ei_l hS
      show Ev P d 256 (55, [.ref a0, unk, unk], [], h19) _
      refine ev_aload_n pm256 i256_55 rfl rfl rfl ?_
      refine ev_bipush (v := -2) pm256 i256_56 rfl (by decide) rfl ?_
      obtain ⟨x22, h23, e21, hS⟩ := bd_s hS
      refine ev_callV (sa := [.int (-2 : Int32)]) (rest := []) (st' := [.int x22]) (ls0 := [.ref a0, .int (-2 : Int32)]) (rv := some (.int x22)) pm256 i256_58 rfl rfl pm224 (by decide) (K_md_good e21) rfl rfl (Nat.le_of_ble_eq_true rfl) (by omega) rfl (R_md_good (d - 1) (by omega) e21) (by simp) rfl rfl ?_
      cases hS
      exact ev_ireturn pm256 i256_61 rfl rfl rfl
    | inr x24 =>
      replace hS := ei_r hS
      cases hS
      rfl
def F_md_isDry (a0 : Nat) (a1 : Int32) (h : Hp) : Option Int32 :=
  ck h a0 13 (bn (gR h a0 13 3) fun x1 =>
  bn (gR h x1 12 19) fun x3 =>
  bn (aI h 100 x3 a1) fun x5 =>
  bn (F_md_heightOf a0 x5 h) fun x8 =>
  bn (gR h a0 13 3) fun x9 =>
  bn (gR h x9 12 21) fun x11 =>
  bn (aI h 100 x11 a1) fun x13 =>
  if x8 < x13 then
    (some (0 : Int32))
  else
    (some (1 : Int32)))
set_option maxRecDepth 20000 in
theorem K_md_isDry {a0 : Nat} {a1 : Int32} {h : Hp} {v : Int32} (hS : F_md_isDry a0 a1 h = some v) : kd h a0 = 13 := by
  unfold F_md_isDry at hS
  exact (ck_s hS).1
set_option maxRecDepth 20000 in
theorem R_md_isDry (d : Nat) (hd : 5 ≤ d) {a0 : Nat} {a1 : Int32} {h : Hp} {v : Int32} (hS : F_md_isDry a0 a1 h = some v) : Ev P d 258 (0, [.ref a0, .int a1], [], h) (some (.int v), h) := by
  unfold F_md_isDry at hS
  replace hS := (ck_s hS).2
  refine ev_aload_n pm258 i258_0 rfl rfl rfl ?_
  refine ev_aload_n pm258 i258_1 rfl rfl rfl ?_
  obtain ⟨x1, e2, hS⟩ := bn_s hS
  refine ev_getR pm258 i258_2 rfl rfl rfl e2 rfl ?_
  obtain ⟨x3, e4, hS⟩ := bn_s hS
  refine ev_getR pm258 i258_5 rfl rfl rfl e4 rfl ?_
  refine ev_iload_n pm258 i258_8 rfl rfl rfl ?_
  obtain ⟨x5, e6, hS⟩ := bn_s hS
  refine ev_iald pm258 i258_9 rfl e6 rfl ?_
  obtain ⟨x8, e7, hS⟩ := bn_s hS
  refine ev_callV (sa := [.int x5]) (rest := []) (st' := [.int x8]) (ls0 := [.ref a0, .int x5, unk]) (rv := some (.int x8)) pm258 i258_10 rfl rfl pm233 (by decide) (K_md_heightOf e7) rfl rfl (Nat.le_of_ble_eq_true rfl) (by omega) rfl (R_md_heightOf (d - 1) (by omega) e7) (by simp) rfl rfl ?_
  refine ev_aload_n pm258 i258_13 rfl rfl rfl ?_
  obtain ⟨x9, e10, hS⟩ := bn_s hS
  refine ev_getR pm258 i258_14 rfl rfl rfl e10 rfl ?_
  obtain ⟨x11, e12, hS⟩ := bn_s hS
  refine ev_getR pm258 i258_17 rfl rfl rfl e12 rfl ?_
  refine ev_iload_n pm258 i258_20 rfl rfl rfl ?_
  obtain ⟨x13, e14, hS⟩ := bn_s hS
  refine ev_iald pm258 i258_21 rfl e14 rfl ?_
  by_cases c621 : x8 < x13
  · rw [if_pos c621] at hS
    refine ev_icmp_lt_t (t := 29) pm258 i258_22 rfl c621 rfl rfl ?_
    refine ev_iconst (v := 0) pm258 i258_29 rfl (by decide) rfl ?_
    refine ev_kls (ls' := [unk, unk]) pm258 i258_30 rfl rfl ?_
    cases hS
    exact ev_ireturn pm258 i258_30 rfl (by decide) rfl
  · rw [if_neg c621] at hS
    refine ev_icmp_lt_f (t := 29) pm258 i258_22 rfl c621 rfl rfl ?_
    refine ev_iconst (v := 1) pm258 i258_25 rfl (by decide) rfl ?_
    refine ev_goto (t := 30) pm258 i258_26 rfl rfl ?_
    refine ev_kls (ls' := [unk, unk]) pm258 i258_30 rfl rfl ?_
    cases hS
    exact ev_ireturn pm258 i258_30 rfl (by decide) rfl
def B_md_wetFeast_20 (l0 : Nat) (s : Int32) (h : Hp) : Option (((Int32) ⊕ ((Unit) ⊕ Int32)) × Hp) :=
  bn (gR h l0 13 3) fun x8 =>
  bn (gI h x8 12 5) fun x10 =>
  if s < x10 then
    (bn (F_md_works l0 h) fun h13 =>
    bn (gR h13 l0 13 3) fun x14 =>
    bn (gR h13 x14 12 20) fun x16 =>
    bn (aI h13 100 x16 s) fun x18 =>
    bn (F_md_softensAll l0 x18 h13) fun h21 =>
    bn (F_md_isDry l0 s h21) fun x23 =>
    if x23 = (0 : Int32) then
      (bd (F_md_good l0 s h21) fun x25 h26 =>
      some (.inr (.inr x25), h26))
    else
      (some (.inl (s + (1 : Int32)), h21)))
  else
    (some (.inr (.inl ()), h))
set_option maxRecDepth 20000 in
theorem L_md_wetFeast_20 (d : Nat) (hd : 6 ≤ d) {l0 : Nat} : ∀ (n : Nat) (s : Int32) (h : Hp) (x : (Unit) ⊕ Int32) (hx : Hp), lp (B_md_wetFeast_20 l0) n s h = some (x, hx) → ∀ r, ei x (fun q => Ev P d 257 (68, [.ref l0, unk], [], hx) r) (fun v => (some (.int v), hx) = r) → Ev P d 257 (20, [.ref l0, .int s], [], h) r := by
  refine lp_ev (G0 := fun (s : Int32) h r => Ev P d 257 (20, [.ref l0, .int s], [], h) r) (X := fun (x : (Unit) ⊕ Int32) hx r => ei x (fun q => Ev P d 257 (68, [.ref l0, unk], [], hx) r) (fun v => (some (.int v), hx) = r)) ?_
  intro s h y h9 hS r hK
  unfold B_md_wetFeast_20 at hS
  show Ev P d 257 (20, [.ref l0, .int s], [], h) r
  refine ev_iload_n pm257 i257_20 rfl rfl rfl ?_
  refine ev_aload_n pm257 i257_21 rfl rfl rfl ?_
  obtain ⟨x8, e9, hS⟩ := bn_s hS
  refine ev_getR pm257 i257_22 rfl rfl rfl e9 rfl ?_
  obtain ⟨x10, e11, hS⟩ := bn_s hS
  refine ev_getI pm257 i257_25 rfl rfl (by decide) e11 rfl ?_
  by_cases c622 : s < x10
  · rw [if_pos c622] at hS
    refine ev_icmp_ge_t (t := 68) pm257 i257_28 rfl c622 rfl rfl ?_
    refine ev_aload_n pm257 i257_31 rfl rfl rfl ?_
    obtain ⟨h13, e12, hS⟩ := bn_s hS
    refine ev_callV (sa := []) (rest := []) (st' := []) (ls0 := [.ref l0, unk]) (rv := none) pm257 i257_32 rfl rfl pm229 (by decide) (K_md_works e12) rfl rfl (Nat.le_of_ble_eq_true rfl) (by omega) rfl (R_md_works (d - 1) (by omega) e12) (by simp) rfl rfl ?_
    refine ev_aload_n pm257 i257_35 rfl rfl rfl ?_
    refine ev_aload_n pm257 i257_36 rfl rfl rfl ?_
    obtain ⟨x14, e15, hS⟩ := bn_s hS
    refine ev_getR pm257 i257_37 rfl rfl rfl e15 rfl ?_
    obtain ⟨x16, e17, hS⟩ := bn_s hS
    refine ev_getR pm257 i257_40 rfl rfl rfl e17 rfl ?_
    refine ev_iload_n pm257 i257_43 rfl rfl rfl ?_
    obtain ⟨x18, e19, hS⟩ := bn_s hS
    refine ev_iald pm257 i257_44 rfl e19 rfl ?_
    obtain ⟨h21, e20, hS⟩ := bn_s hS
    refine ev_callV (sa := [.int x18]) (rest := []) (st' := []) (ls0 := [.ref l0, .int x18, unk]) (rv := none) pm257 i257_45 rfl rfl pm253 (by decide) (K_md_softensAll e20) rfl rfl (Nat.le_of_ble_eq_true rfl) (by omega) rfl (R_md_softensAll (d - 1) (by omega) e20) (by simp) rfl rfl ?_
    refine ev_aload_n pm257 i257_48 rfl rfl rfl ?_
    refine ev_iload_n pm257 i257_49 rfl rfl rfl ?_
    obtain ⟨x23, e22, hS⟩ := bn_s hS
    refine ev_callV (sa := [.int s]) (rest := []) (st' := [.int x23]) (ls0 := [.ref l0, .int s]) (rv := some (.int x23)) pm257 i257_50 rfl rfl pm258 (by decide) (K_md_isDry e22) rfl rfl (Nat.le_of_ble_eq_true rfl) (by omega) rfl (R_md_isDry (d - 1) (by omega) e22) (by simp) rfl rfl ?_
    by_cases c623 : x23 = (0 : Int32)
    · rw [if_pos c623] at hS
      refine ev_if_ne_t (t := 62) pm257 i257_53 rfl c623 rfl rfl ?_
      refine ev_aload_n pm257 i257_56 rfl rfl rfl ?_
      refine ev_iload_n pm257 i257_57 rfl rfl rfl ?_
      obtain ⟨x25, h26, e24, hS⟩ := bd_s hS
      refine ev_callV (sa := [.int s]) (rest := []) (st' := [.int x25]) (ls0 := [.ref l0, .int s]) (rv := some (.int x25)) pm257 i257_58 rfl rfl pm224 (by decide) (K_md_good e24) rfl rfl (Nat.le_of_ble_eq_true rfl) (by omega) rfl (R_md_good (d - 1) (by omega) e24) (by simp) rfl rfl ?_
      cases hS
      exact ev_ireturn pm257 i257_61 rfl rfl hK
    · rw [if_neg c623] at hS
      refine ev_if_ne_f (t := 62) pm257 i257_53 rfl c623 rfl rfl ?_
      refine ev_iinc (v := 1) (ls' := [.ref l0, .int (s + (1 : Int32))]) pm257 i257_62 rfl rfl (by decide) rfl rfl ?_
      refine ev_goto (t := 20) pm257 i257_65 rfl rfl ?_
      cases hS
      exact hK
  · rw [if_neg c622] at hS
    refine ev_icmp_ge_f (t := 68) pm257 i257_28 rfl c622 rfl rfl ?_
    refine ev_kls (ls' := [.ref l0, unk]) pm257 i257_68 rfl rfl ?_
    cases hS
    exact hK
def F_md_wetFeast (a0 : Nat) (h : Hp) : Option (Int32 × Hp) :=
  ck h a0 13 (bn (pI h a0 13 0 (0 : Int32)) fun h1 =>
  bn (gQ h1 a0 13 3) fun x3 =>
  if x3 = none then
    (bd (F_md_refused a0 (1 : Int32) h1) fun x6 h7 =>
    some (x6, h7))
  else
    (bd (lp (B_md_wetFeast_20 a0) FU (0 : Int32) h1) fun x27 h29 =>
    ei x27 (fun q30 =>
    bd (F_md_good a0 (-2 : Int32) h29) fun x32 h33 =>
    some (x32, h33))
    (fun x34 => some (x34, h29))))
set_option maxRecDepth 20000 in
theorem K_md_wetFeast {a0 : Nat} {h : Hp} {v : Int32} {h' : Hp} (hS : F_md_wetFeast a0 h = some (v, h')) : kd h a0 = 13 := by
  unfold F_md_wetFeast at hS
  exact (ck_s hS).1
set_option maxRecDepth 20000 in
theorem R_md_wetFeast (d : Nat) (hd : 6 ≤ d) {a0 : Nat} {h : Hp} {v : Int32} {h' : Hp} (hS : F_md_wetFeast a0 h = some (v, h')) : Ev P d 257 (0, [.ref a0, unk], [], h) (some (.int v), h') := by
  unfold F_md_wetFeast at hS
  replace hS := (ck_s hS).2
  refine ev_aload_n pm257 i257_0 rfl rfl rfl ?_
  refine ev_iconst (v := 0) pm257 i257_1 rfl (by decide) rfl ?_
  obtain ⟨h1, e2, hS⟩ := bn_s hS
  refine ev_putI pm257 i257_2 rfl rfl rfl e2 rfl ?_
  refine ev_aload_n pm257 i257_5 rfl rfl rfl ?_
  obtain ⟨x3, e4, hS⟩ := bn_s hS
  refine ev_getQ pm257 i257_6 rfl rfl rfl e4 rfl ?_
  by_cases c624 : x3 = none
  · rw [if_pos c624] at hS
    subst c624
    refine ev_nonnullF pm257 i257_9 rfl rfl ?_
    refine ev_aload_n pm257 i257_12 rfl rfl rfl ?_
    refine ev_iconst (v := 1) pm257 i257_13 rfl (by decide) rfl ?_
    obtain ⟨x6, h7, e5, hS⟩ := bd_s hS
    refine ev_callV (sa := [.int (1 : Int32)]) (rest := []) (st' := [.int x6]) (ls0 := [.ref a0, .int (1 : Int32)]) (rv := some (.int x6)) pm257 i257_14 rfl rfl pm186 (by decide) (K_md_refused e5) rfl rfl (Nat.le_of_ble_eq_true rfl) (by omega) rfl (R_md_refused (d - 1) (by omega) e5) (by simp) rfl rfl ?_
    cases hS
    exact ev_ireturn pm257 i257_17 rfl rfl rfl
  · rw [if_neg c624] at hS
    obtain ⟨_, rfl⟩ := Option.ne_none_iff_exists'.mp c624
    refine ev_nonnullT (t := 18) pm257 i257_9 rfl rfl ?_
    refine ev_iconst (v := 0) pm257 i257_18 rfl (by decide) rfl ?_
    refine ev_istore_n (ls' := [.ref a0, .int (0 : Int32)]) pm257 i257_19 rfl (Nat.le_of_ble_eq_true rfl) rfl rfl ?_
    obtain ⟨x27, h29, e28, hS⟩ := bd_s hS
    refine L_md_wetFeast_20 d (by omega) _ _ _ _ _ e28 _ ?_
    cases x27 with
    | inl q30 =>
      replace hS := ei_l hS
      show Ev P d 257 (68, [.ref a0, unk], [], h29) _
      refine ev_aload_n pm257 i257_68 rfl rfl rfl ?_
      refine ev_bipush (v := -2) pm257 i257_69 rfl (by decide) rfl ?_
      obtain ⟨x32, h33, e31, hS⟩ := bd_s hS
      refine ev_callV (sa := [.int (-2 : Int32)]) (rest := []) (st' := [.int x32]) (ls0 := [.ref a0, .int (-2 : Int32)]) (rv := some (.int x32)) pm257 i257_71 rfl rfl pm224 (by decide) (K_md_good e31) rfl rfl (Nat.le_of_ble_eq_true rfl) (by omega) rfl (R_md_good (d - 1) (by omega) e31) (by simp) rfl rfl ?_
      cases hS
      exact ev_ireturn pm257 i257_74 rfl rfl rfl
    | inr x34 =>
      replace hS := ei_r hS
      cases hS
      rfl
def B_md_aunt_64 (l0 : Nat) (l3 : Int32) (l4 : Int32) (s : Int32) (h : Hp) : Option (((Int32) ⊕ ((Unit) ⊕ Int32)) × Hp) :=
  if (300 : Int32) < s then
    (some (.inr (.inl ()), h))
  else
    (bn (F_md_lifts l3) fun x19 =>
    if (l4 + (s * x19)) < (0 : Int32) then
      (some (.inl (s + (1 : Int32)), h))
    else
      (bd (F_md_good l0 s h) fun x21 h22 =>
      some (.inr (.inr x21), h22)))
set_option maxRecDepth 20000 in
theorem L_md_aunt_64 (d : Nat) (hd : 4 ≤ d) {l0 : Nat} {l3 : Int32} {l4 : Int32} : ∀ (n : Nat) (s : Int32) (h : Hp) (x : (Unit) ⊕ Int32) (hx : Hp), lp (B_md_aunt_64 l0 l3 l4) n s h = some (x, hx) → ∀ r, ei x (fun q => Ev P d 259 (98, [.ref l0, unk, unk, unk, unk, unk], [], hx) r) (fun v => (some (.int v), hx) = r) → Ev P d 259 (64, [.ref l0, unk, unk, .int l3, .int l4, .int s], [], h) r := by
  refine lp_ev (G0 := fun (s : Int32) h r => Ev P d 259 (64, [.ref l0, unk, unk, .int l3, .int l4, .int s], [], h) r) (X := fun (x : (Unit) ⊕ Int32) hx r => ei x (fun q => Ev P d 259 (98, [.ref l0, unk, unk, unk, unk, unk], [], hx) r) (fun v => (some (.int v), hx) = r)) ?_
  intro s h y h9 hS r hK
  unfold B_md_aunt_64 at hS
  show Ev P d 259 (64, [.ref l0, unk, unk, .int l3, .int l4, .int s], [], h) r
  refine ev_iload pm259 i259_64 rfl rfl rfl ?_
  refine ev_sipush (v := 300) pm259 i259_66 rfl (by decide) rfl ?_
  by_cases c625 : (300 : Int32) < s
  · rw [if_pos c625] at hS
    refine ev_icmp_gt_t (t := 98) pm259 i259_69 rfl c625 rfl rfl ?_
    refine ev_kls (ls' := [.ref l0, unk, unk, unk, unk, unk]) pm259 i259_98 rfl rfl ?_
    cases hS
    exact hK
  · rw [if_neg c625] at hS
    refine ev_icmp_gt_f (t := 98) pm259 i259_69 rfl c625 rfl rfl ?_
    refine ev_iload pm259 i259_72 rfl rfl rfl ?_
    refine ev_iload pm259 i259_74 rfl rfl rfl ?_
    refine ev_iload_n pm259 i259_76 rfl rfl rfl ?_
    obtain ⟨x19, e18, hS⟩ := bn_s hS
    refine ev_callS (sa := [.int l3]) (rest := [.int s, .int l4]) (st' := [.int x19, .int s, .int l4]) (ls0 := [.int l3]) (rv := some (.int x19)) pm259 i259_77 rfl rfl pm232 (by decide) rfl rfl (Nat.le_of_ble_eq_true rfl) (by omega) rfl (R_md_lifts (d - 1) (by omega) e18) (by simp) rfl rfl ?_
    refine ev_b2 (f := fun x y => x * y) pm259 i259_80 rfl (fun _ _ _ _ => rfl) rfl ?_
    refine ev_b2 (f := fun x y => x + y) pm259 i259_81 rfl (fun _ _ _ _ => rfl) rfl ?_
    by_cases c626 : (l4 + (s * x19)) < (0 : Int32)
    · rw [if_pos c626] at hS
      refine ev_if_lt_t (t := 92) pm259 i259_82 rfl c626 rfl rfl ?_
      refine ev_iinc (v := 1) (ls' := [.ref l0, unk, unk, .int l3, .int l4, .int (s + (1 : Int32))]) pm259 i259_92 rfl rfl (by decide) rfl rfl ?_
      refine ev_goto (t := 64) pm259 i259_95 rfl rfl ?_
      cases hS
      exact hK
    · rw [if_neg c626] at hS
      refine ev_if_lt_f (t := 92) pm259 i259_82 rfl c626 rfl rfl ?_
      refine ev_aload_n pm259 i259_85 rfl rfl rfl ?_
      refine ev_iload pm259 i259_86 rfl rfl rfl ?_
      obtain ⟨x21, h22, e20, hS⟩ := bd_s hS
      refine ev_callV (sa := [.int s]) (rest := []) (st' := [.int x21]) (ls0 := [.ref l0, .int s]) (rv := some (.int x21)) pm259 i259_88 rfl rfl pm224 (by decide) (K_md_good e20) rfl rfl (Nat.le_of_ble_eq_true rfl) (by omega) rfl (R_md_good (d - 1) (by omega) e20) (by simp) rfl rfl ?_
      cases hS
      exact ev_ireturn pm259 i259_91 rfl rfl hK
def F_md_aunt (a0 : Nat) (a1 : Int32) (a2 : Int32) (a3 : Int32) (h : Hp) : Option (Int32 × Hp) :=
  ck h a0 13 (bn (pI h a0 13 0 (0 : Int32)) fun h1 =>
  bn (F_md_isHouse a0 a1 h1) fun x4 =>
  if x4 = (0 : Int32) then
    (bd (F_md_refused a0 (1 : Int32) h1) fun x6 h7 =>
    some (x6, h7))
  else
    (bn (F_md_in a2 (0 : Int32) (99 : Int32)) fun x9 =>
    bn (if x9 = (0 : Int32) then
        (some (Sum.inl ()))
      else
        (bn (F_md_in a3 (0 : Int32) (4 : Int32)) fun x11 =>
        if x11 = (0 : Int32) then
          (some (Sum.inl ()))
        else
          (bn (F_md_works a0 h1) fun h13 =>
          bn (F_md_raftOf a0 a1 h13) fun x15 =>
          bn (F_md_netOfAll a0 x15 h13) fun x17 =>
          bd (lp (B_md_aunt_64 a0 a3 (x17 - a2)) FU (0 : Int32) h13) fun x23 h25 =>
          ei x23 (fun q26 =>
          bd (F_md_good a0 (-2 : Int32) h25) fun x28 h29 =>
          some (Sum.inr (x28, h29)))
          (fun x30 => some (Sum.inr (x30, h25)))))) fun x36 =>
    ei x36 (fun z32 =>
    bd (F_md_refused a0 (2 : Int32) h1) fun x34 h35 =>
    some (x34, h35))
    (fun z => some z)))
set_option maxRecDepth 20000 in
theorem K_md_aunt {a0 : Nat} {a1 : Int32} {a2 : Int32} {a3 : Int32} {h : Hp} {v : Int32} {h' : Hp} (hS : F_md_aunt a0 a1 a2 a3 h = some (v, h')) : kd h a0 = 13 := by
  unfold F_md_aunt at hS
  exact (ck_s hS).1
set_option maxRecDepth 20000 in
theorem R_md_aunt (d : Nat) (hd : 4 ≤ d) {a0 : Nat} {a1 : Int32} {a2 : Int32} {a3 : Int32} {h : Hp} {v : Int32} {h' : Hp} (hS : F_md_aunt a0 a1 a2 a3 h = some (v, h')) : Ev P d 259 (0, [.ref a0, .int a1, .int a2, .int a3, unk, unk], [], h) (some (.int v), h') := by
  unfold F_md_aunt at hS
  replace hS := (ck_s hS).2
  refine ev_aload_n pm259 i259_0 rfl rfl rfl ?_
  refine ev_iconst (v := 0) pm259 i259_1 rfl (by decide) rfl ?_
  obtain ⟨h1, e2, hS⟩ := bn_s hS
  refine ev_putI pm259 i259_2 rfl rfl rfl e2 rfl ?_
  refine ev_aload_n pm259 i259_5 rfl rfl rfl ?_
  refine ev_iload_n pm259 i259_6 rfl rfl rfl ?_
  obtain ⟨x4, e3, hS⟩ := bn_s hS
  refine ev_callV (sa := [.int a1]) (rest := []) (st' := [.int x4]) (ls0 := [.ref a0, .int a1]) (rv := some (.int x4)) pm259 i259_7 rfl rfl pm228 (by decide) (K_md_isHouse e3) rfl rfl (Nat.le_of_ble_eq_true rfl) (by omega) rfl (R_md_isHouse (d - 1) (by omega) e3) (by simp) rfl rfl ?_
  by_cases c627 : x4 = (0 : Int32)
  · rw [if_pos c627] at hS
    refine ev_if_ne_t (t := 19) pm259 i259_10 rfl c627 rfl rfl ?_
    refine ev_aload_n pm259 i259_13 rfl rfl rfl ?_
    refine ev_iconst (v := 1) pm259 i259_14 rfl (by decide) rfl ?_
    obtain ⟨x6, h7, e5, hS⟩ := bd_s hS
    refine ev_callV (sa := [.int (1 : Int32)]) (rest := []) (st' := [.int x6]) (ls0 := [.ref a0, .int (1 : Int32)]) (rv := some (.int x6)) pm259 i259_15 rfl rfl pm186 (by decide) (K_md_refused e5) rfl rfl (Nat.le_of_ble_eq_true rfl) (by omega) rfl (R_md_refused (d - 1) (by omega) e5) (by simp) rfl rfl ?_
    cases hS
    exact ev_ireturn pm259 i259_18 rfl rfl rfl
  · rw [if_neg c627] at hS
    refine ev_if_ne_f (t := 19) pm259 i259_10 rfl c627 rfl rfl ?_
    refine ev_iload_n pm259 i259_19 rfl rfl rfl ?_
    refine ev_iconst (v := 0) pm259 i259_20 rfl (by decide) rfl ?_
    refine ev_bipush (v := 99) pm259 i259_21 rfl (by decide) rfl ?_
    obtain ⟨x9, e8, hS⟩ := bn_s hS
    refine ev_callS (sa := [.int (99 : Int32), .int (0 : Int32), .int a2]) (rest := []) (st' := [.int x9]) (ls0 := [.int a2, .int (0 : Int32), .int (99 : Int32)]) (rv := some (.int x9)) pm259 i259_23 rfl rfl pm201 (by decide) rfl rfl (Nat.le_of_ble_eq_true rfl) (by omega) rfl (R_md_in (d - 1) (by omega) e8) (by simp) rfl rfl ?_
    obtain ⟨x36, I628, hS⟩ := bn_s hS
    have J1 : ∀ z32, x36 = Sum.inl z32 → Ev P d 259 (38, [.ref a0, unk, unk, unk, unk, unk], [], h1) (some (.int v), h') := by
      intro z32 hx
      subst hx
      replace hS := ei_l hS
      refine ev_aload_n pm259 i259_38 rfl rfl rfl ?_
      refine ev_iconst (v := 2) pm259 i259_39 rfl (by decide) rfl ?_
      obtain ⟨x34, h35, e33, hS⟩ := bd_s hS
      refine ev_callV (sa := [.int (2 : Int32)]) (rest := []) (st' := [.int x34]) (ls0 := [.ref a0, .int (2 : Int32)]) (rv := some (.int x34)) pm259 i259_40 rfl rfl pm186 (by decide) (K_md_refused e33) rfl rfl (Nat.le_of_ble_eq_true rfl) (by omega) rfl (R_md_refused (d - 1) (by omega) e33) (by simp) rfl rfl ?_
      cases hS
      exact ev_ireturn pm259 i259_43 rfl rfl rfl
    have Z1 := ej_z hS
    clear hS
    by_cases c628 : x9 = (0 : Int32)
    · rw [if_pos c628] at I628
      refine ev_if_eq_t (t := 38) pm259 i259_26 rfl c628 rfl rfl ?_
      refine ev_kls (ls' := [.ref a0, unk, unk, unk, unk, unk]) pm259 i259_38 rfl rfl ?_
      cases I628
      exact J1 _ rfl
    · rw [if_neg c628] at I628
      refine ev_if_eq_f (t := 38) pm259 i259_26 rfl c628 rfl rfl ?_
      refine ev_iload_n pm259 i259_29 rfl rfl rfl ?_
      refine ev_iconst (v := 0) pm259 i259_30 rfl (by decide) rfl ?_
      refine ev_iconst (v := 4) pm259 i259_31 rfl (by decide) rfl ?_
      obtain ⟨x11, e10, I628⟩ := bn_s I628
      refine ev_callS (sa := [.int (4 : Int32), .int (0 : Int32), .int a3]) (rest := []) (st' := [.int x11]) (ls0 := [.int a3, .int (0 : Int32), .int (4 : Int32)]) (rv := some (.int x11)) pm259 i259_32 rfl rfl pm201 (by decide) rfl rfl (Nat.le_of_ble_eq_true rfl) (by omega) rfl (R_md_in (d - 1) (by omega) e10) (by simp) rfl rfl ?_
      by_cases c629 : x11 = (0 : Int32)
      · rw [if_pos c629] at I628
        refine ev_if_ne_t (t := 44) pm259 i259_35 rfl c629 rfl rfl ?_
        refine ev_kls (ls' := [.ref a0, unk, unk, unk, unk, unk]) pm259 i259_38 rfl rfl ?_
        cases I628
        exact J1 _ rfl
      · rw [if_neg c629] at I628
        refine ev_if_ne_f (t := 44) pm259 i259_35 rfl c629 rfl rfl ?_
        refine ev_aload_n pm259 i259_44 rfl rfl rfl ?_
        obtain ⟨h13, e12, I628⟩ := bn_s I628
        refine ev_callV (sa := []) (rest := []) (st' := []) (ls0 := [.ref a0, unk]) (rv := none) pm259 i259_45 rfl rfl pm229 (by decide) (K_md_works e12) rfl rfl (Nat.le_of_ble_eq_true rfl) (by omega) rfl (R_md_works (d - 1) (by omega) e12) (by simp) rfl rfl ?_
        refine ev_aload_n pm259 i259_48 rfl rfl rfl ?_
        refine ev_aload_n pm259 i259_49 rfl rfl rfl ?_
        refine ev_iload_n pm259 i259_50 rfl rfl rfl ?_
        obtain ⟨x15, e14, I628⟩ := bn_s I628
        refine ev_callV (sa := [.int a1]) (rest := [.ref a0]) (st' := [.int x15, .ref a0]) (ls0 := [.ref a0, .int a1, unk, unk, unk]) (rv := some (.int x15)) pm259 i259_51 rfl rfl pm234 (by decide) (K_md_raftOf e14) rfl rfl (Nat.le_of_ble_eq_true rfl) (by omega) rfl (R_md_raftOf (d - 1) (by omega) e14) (by simp) rfl rfl ?_
        obtain ⟨x17, e16, I628⟩ := bn_s I628
        refine ev_callV (sa := [.int x15]) (rest := []) (st' := [.int x17]) (ls0 := [.ref a0, .int x15, unk, unk]) (rv := some (.int x17)) pm259 i259_54 rfl rfl pm235 (by decide) (K_md_netOfAll e16) rfl rfl (Nat.le_of_ble_eq_true rfl) (by omega) rfl (R_md_netOfAll (d - 1) (by omega) e16) (by simp) rfl rfl ?_
        refine ev_iload_n pm259 i259_57 rfl rfl rfl ?_
        refine ev_b2 (f := fun x y => x - y) pm259 i259_58 rfl (fun _ _ _ _ => rfl) rfl ?_
        refine ev_istore (ls' := [.ref a0, .int a1, .int a2, .int a3, .int (x17 - a2), unk]) pm259 i259_59 rfl (Nat.le_of_ble_eq_true rfl) rfl rfl ?_
        refine ev_iconst (v := 0) pm259 i259_61 rfl (by decide) rfl ?_
        refine ev_istore (ls' := [.ref a0, .int a1, .int a2, .int a3, .int (x17 - a2), .int (0 : Int32)]) pm259 i259_62 rfl (Nat.le_of_ble_eq_true rfl) rfl rfl ?_
        refine ev_kls (ls' := [.ref a0, unk, unk, .int a3, .int (x17 - a2), .int (0 : Int32)]) pm259 i259_64 rfl rfl ?_
        obtain ⟨x23, h25, e24, I628⟩ := bd_s I628
        refine L_md_aunt_64 d (by omega) _ _ _ _ _ e24 _ ?_
        cases x23 with
        | inl q26 =>
          replace I628 := ei_l I628
          show Ev P d 259 (98, [.ref a0, unk, unk, unk, unk, unk], [], h25) _
          refine ev_aload_n pm259 i259_98 rfl rfl rfl ?_
          refine ev_bipush (v := -2) pm259 i259_99 rfl (by decide) rfl ?_
          obtain ⟨x28, h29, e27, I628⟩ := bd_s I628
          refine ev_callV (sa := [.int (-2 : Int32)]) (rest := []) (st' := [.int x28]) (ls0 := [.ref a0, .int (-2 : Int32)]) (rv := some (.int x28)) pm259 i259_101 rfl rfl pm224 (by decide) (K_md_good e27) rfl rfl (Nat.le_of_ble_eq_true rfl) (by omega) rfl (R_md_good (d - 1) (by omega) e27) (by simp) rfl rfl ?_
          cases I628
          have hz1 := Z1 _ rfl
          cases hz1
          exact ev_ireturn pm259 i259_104 rfl rfl rfl
        | inr x30 =>
          replace I628 := ei_r I628
          cases I628
          have hz1 := Z1 _ rfl
          cases hz1
          rfl
def B_md_stays_37 (l0 : Nat) (l1 : Int32) (l2 : Int32) (l3 : Int32) (l4 : Int32) (l6 : Int32) (h : Hp) (s : Int32 × Int32) : Option ((Int32 × Int32) ⊕ (Int32)) :=
  bn (gR h l0 13 3) fun x7 =>
  bn (gI h x7 12 1) fun x9 =>
  if s.2 < x9 then
    (bn (F_md_bit l6 s.2) fun x12 =>
    bn (if x12 = (0 : Int32) then
        (bn (F_md_heightOf l0 s.2 h) fun x14 =>
        some x14)
      else
        (bn (F_md_netOfAll l0 l6 h) fun x16 =>
        bn (F_md_bits l6) fun x18 =>
        bn (F_md_down (x16 - l1) x18) fun x20 =>
        some x20)) fun q21 =>
    if q21 < s.1 then
      (some (.inl (q21, s.2 + (1 : Int32))))
    else
      (some (.inl (s.1, s.2 + (1 : Int32)))))
  else
    (some (.inr s.1))
set_option maxRecDepth 20000 in
theorem L_md_stays_37 (d : Nat) (hd : 5 ≤ d) {l0 : Nat} {l1 : Int32} {l2 : Int32} {l3 : Int32} {l4 : Int32} {l6 : Int32} {h : Hp} : ∀ (n : Nat) (s : Int32 × Int32) (x : Int32), lq (B_md_stays_37 l0 l1 l2 l3 l4 l6 h) n s = some x → ∀ r, Ev P d 261 (103, [.ref l0, .int l1, .int l2, .int l3, .int l4, .int x, unk, unk, unk], [], h) r → Ev P d 261 (37, [.ref l0, .int l1, .int l2, .int l3, .int l4, .int s.1, .int l6, .int s.2, unk], [], h) r := by
  refine lq_ev (G0 := fun (s : Int32 × Int32) r => Ev P d 261 (37, [.ref l0, .int l1, .int l2, .int l3, .int l4, .int s.1, .int l6, .int s.2, unk], [], h) r) (X := fun (x : Int32) r => Ev P d 261 (103, [.ref l0, .int l1, .int l2, .int l3, .int l4, .int x, unk, unk, unk], [], h) r) ?_
  intro s y hS r hK
  unfold B_md_stays_37 at hS
  show Ev P d 261 (37, [.ref l0, .int l1, .int l2, .int l3, .int l4, .int s.1, .int l6, .int s.2, unk], [], h) r
  refine ev_iload pm261 i261_37 rfl rfl rfl ?_
  refine ev_aload_n pm261 i261_39 rfl rfl rfl ?_
  obtain ⟨x7, e8, hS⟩ := bn_s hS
  refine ev_getR pm261 i261_40 rfl rfl rfl e8 rfl ?_
  obtain ⟨x9, e10, hS⟩ := bn_s hS
  refine ev_getI pm261 i261_43 rfl rfl (by decide) e10 rfl ?_
  by_cases c630 : s.2 < x9
  · rw [if_pos c630] at hS
    refine ev_icmp_ge_t (t := 103) pm261 i261_46 rfl c630 rfl rfl ?_
    refine ev_iload pm261 i261_49 rfl rfl rfl ?_
    refine ev_iload pm261 i261_51 rfl rfl rfl ?_
    obtain ⟨x12, e11, hS⟩ := bn_s hS
    refine ev_callS (sa := [.int s.2, .int l6]) (rest := []) (st' := [.int x12]) (ls0 := [.int l6, .int s.2]) (rv := some (.int x12)) pm261 i261_53 rfl rfl pm214 (by decide) rfl rfl (Nat.le_of_ble_eq_true rfl) (by omega) rfl (R_md_bit (d - 1) (by omega) e11) (by simp) rfl rfl ?_
    obtain ⟨q21, I631, hS⟩ := bn_s hS
    have J1 : Ev P d 261 (84, [.ref l0, .int l1, .int l2, .int l3, .int l4, .int s.1, .int l6, .int s.2, unk], [.int q21], h) r := by
      refine ev_istore (ls' := [.ref l0, .int l1, .int l2, .int l3, .int l4, .int s.1, .int l6, .int s.2, .int q21]) pm261 i261_84 rfl (Nat.le_of_ble_eq_true rfl) rfl rfl ?_
      refine ev_iload pm261 i261_86 rfl rfl rfl ?_
      refine ev_iload pm261 i261_88 rfl rfl rfl ?_
      by_cases c632 : q21 < s.1
      · rw [if_pos c632] at hS
        refine ev_icmp_ge_t (t := 97) pm261 i261_90 rfl c632 rfl rfl ?_
        refine ev_iload pm261 i261_93 rfl rfl rfl ?_
        refine ev_istore (ls' := [.ref l0, .int l1, .int l2, .int l3, .int l4, .int q21, .int l6, .int s.2, .int q21]) pm261 i261_95 rfl (Nat.le_of_ble_eq_true rfl) rfl rfl ?_
        refine ev_kls (ls' := [.ref l0, .int l1, .int l2, .int l3, .int l4, .int q21, .int l6, .int s.2, unk]) pm261 i261_97 rfl rfl ?_
        refine ev_iinc (v := 1) (ls' := [.ref l0, .int l1, .int l2, .int l3, .int l4, .int q21, .int l6, .int (s.2 + (1 : Int32)), unk]) pm261 i261_97 rfl rfl (by decide) rfl rfl ?_
        refine ev_goto (t := 37) pm261 i261_100 rfl rfl ?_
        cases hS
        exact hK
      · rw [if_neg c632] at hS
        refine ev_icmp_ge_f (t := 97) pm261 i261_90 rfl c632 rfl rfl ?_
        refine ev_kls (ls' := [.ref l0, .int l1, .int l2, .int l3, .int l4, .int s.1, .int l6, .int s.2, unk]) pm261 i261_97 rfl rfl ?_
        refine ev_iinc (v := 1) (ls' := [.ref l0, .int l1, .int l2, .int l3, .int l4, .int s.1, .int l6, .int (s.2 + (1 : Int32)), unk]) pm261 i261_97 rfl rfl (by decide) rfl rfl ?_
        refine ev_goto (t := 37) pm261 i261_100 rfl rfl ?_
        cases hS
        exact hK
    clear hS
    by_cases c631 : x12 = (0 : Int32)
    · rw [if_pos c631] at I631
      refine ev_if_eq_t (t := 78) pm261 i261_56 rfl c631 rfl rfl ?_
      refine ev_aload_n pm261 i261_78 rfl rfl rfl ?_
      refine ev_iload pm261 i261_79 rfl rfl rfl ?_
      obtain ⟨x14, e13, I631⟩ := bn_s I631
      refine ev_callV (sa := [.int s.2]) (rest := []) (st' := [.int x14]) (ls0 := [.ref l0, .int s.2, unk]) (rv := some (.int x14)) pm261 i261_81 rfl rfl pm233 (by decide) (K_md_heightOf e13) rfl rfl (Nat.le_of_ble_eq_true rfl) (by omega) rfl (R_md_heightOf (d - 1) (by omega) e13) (by simp) rfl rfl ?_
      cases I631
      exact J1
    · rw [if_neg c631] at I631
      refine ev_if_eq_f (t := 78) pm261 i261_56 rfl c631 rfl rfl ?_
      refine ev_aload_n pm261 i261_59 rfl rfl rfl ?_
      refine ev_iload pm261 i261_60 rfl rfl rfl ?_
      obtain ⟨x16, e15, I631⟩ := bn_s I631
      refine ev_callV (sa := [.int l6]) (rest := []) (st' := [.int x16]) (ls0 := [.ref l0, .int l6, unk, unk]) (rv := some (.int x16)) pm261 i261_62 rfl rfl pm235 (by decide) (K_md_netOfAll e15) rfl rfl (Nat.le_of_ble_eq_true rfl) (by omega) rfl (R_md_netOfAll (d - 1) (by omega) e15) (by simp) rfl rfl ?_
      refine ev_iload_n pm261 i261_65 rfl rfl rfl ?_
      refine ev_b2 (f := fun x y => x - y) pm261 i261_66 rfl (fun _ _ _ _ => rfl) rfl ?_
      refine ev_iload pm261 i261_67 rfl rfl rfl ?_
      obtain ⟨x18, e17, I631⟩ := bn_s I631
      refine ev_callS (sa := [.int l6]) (rest := [.int (x16 - l1)]) (st' := [.int x18, .int (x16 - l1)]) (ls0 := [.int l6, unk, unk]) (rv := some (.int x18)) pm261 i261_69 rfl rfl pm237 (by decide) rfl rfl (Nat.le_of_ble_eq_true rfl) (by omega) rfl (R_md_bits (d - 1) (by omega) e17) (by simp) rfl rfl ?_
      obtain ⟨x20, e19, I631⟩ := bn_s I631
      refine ev_callS (sa := [.int x18, .int (x16 - l1)]) (rest := []) (st' := [.int x20]) (ls0 := [.int (x16 - l1), .int x18]) (rv := some (.int x20)) pm261 i261_72 rfl rfl pm238 (by decide) rfl rfl (Nat.le_of_ble_eq_true rfl) (by omega) rfl (R_md_down (d - 1) (by omega) e19) (by simp) rfl rfl ?_
      refine ev_goto (t := 84) pm261 i261_75 rfl rfl ?_
      cases I631
      exact J1
  · rw [if_neg c630] at hS
    refine ev_icmp_ge_f (t := 103) pm261 i261_46 rfl c630 rfl rfl ?_
    refine ev_kls (ls' := [.ref l0, .int l1, .int l2, .int l3, .int l4, .int s.1, unk, unk, unk]) pm261 i261_103 rfl rfl ?_
    cases hS
    exact hK
def B_md_stays_9 (l0 : Nat) (l1 : Int32) (h : Hp) (s : Int32 × Int32 × Int32) : Option ((Int32 × Int32 × Int32) ⊕ (Int32)) :=
  bn (gR h l0 13 3) fun x1 =>
  bn (gI h x1 12 1) fun x3 =>
  if s.2.2 < x3 then
    (bn (F_md_raftOf l0 s.2.2 h) fun x6 =>
    bn (lq (B_md_stays_37 l0 l1 s.1 s.2.1 s.2.2 x6 h) FU ((99999 : Int32), (0 : Int32))) fun x22 =>
    if s.2.1 < x22 then
      (some (.inl (s.2.2, x22, s.2.2 + (1 : Int32))))
    else
      (some (.inl (s.1, s.2.1, s.2.2 + (1 : Int32)))))
  else
    (some (.inr s.1))
set_option maxRecDepth 20000 in
theorem L_md_stays_9 (d : Nat) (hd : 5 ≤ d) {l0 : Nat} {l1 : Int32} {h : Hp} : ∀ (n : Nat) (s : Int32 × Int32 × Int32) (x : Int32), lq (B_md_stays_9 l0 l1 h) n s = some x → ∀ r, Ev P d 261 (124, [unk, unk, .int x, unk, unk, unk, unk, unk, unk], [], h) r → Ev P d 261 (9, [.ref l0, .int l1, .int s.1, .int s.2.1, .int s.2.2, unk, unk, unk, unk], [], h) r := by
  refine lq_ev (G0 := fun (s : Int32 × Int32 × Int32) r => Ev P d 261 (9, [.ref l0, .int l1, .int s.1, .int s.2.1, .int s.2.2, unk, unk, unk, unk], [], h) r) (X := fun (x : Int32) r => Ev P d 261 (124, [unk, unk, .int x, unk, unk, unk, unk, unk, unk], [], h) r) ?_
  intro s y hS r hK
  unfold B_md_stays_9 at hS
  show Ev P d 261 (9, [.ref l0, .int l1, .int s.1, .int s.2.1, .int s.2.2, unk, unk, unk, unk], [], h) r
  refine ev_iload pm261 i261_9 rfl rfl rfl ?_
  refine ev_aload_n pm261 i261_11 rfl rfl rfl ?_
  obtain ⟨x1, e2, hS⟩ := bn_s hS
  refine ev_getR pm261 i261_12 rfl rfl rfl e2 rfl ?_
  obtain ⟨x3, e4, hS⟩ := bn_s hS
  refine ev_getI pm261 i261_15 rfl rfl (by decide) e4 rfl ?_
  by_cases c633 : s.2.2 < x3
  · rw [if_pos c633] at hS
    refine ev_icmp_ge_t (t := 124) pm261 i261_18 rfl c633 rfl rfl ?_
    refine ev_ldc_w (v := .int (99999 : Int32)) pm261 i261_21 rfl rfl rfl ?_
    refine ev_istore (ls' := [.ref l0, .int l1, .int s.1, .int s.2.1, .int s.2.2, .int (99999 : Int32), unk, unk, unk]) pm261 i261_24 rfl (Nat.le_of_ble_eq_true rfl) rfl rfl ?_
    refine ev_aload_n pm261 i261_26 rfl rfl rfl ?_
    refine ev_iload pm261 i261_27 rfl rfl rfl ?_
    obtain ⟨x6, e5, hS⟩ := bn_s hS
    refine ev_callV (sa := [.int s.2.2]) (rest := []) (st' := [.int x6]) (ls0 := [.ref l0, .int s.2.2, unk, unk, unk]) (rv := some (.int x6)) pm261 i261_29 rfl rfl pm234 (by decide) (K_md_raftOf e5) rfl rfl (Nat.le_of_ble_eq_true rfl) (by omega) rfl (R_md_raftOf (d - 1) (by omega) e5) (by simp) rfl rfl ?_
    refine ev_istore (ls' := [.ref l0, .int l1, .int s.1, .int s.2.1, .int s.2.2, .int (99999 : Int32), .int x6, unk, unk]) pm261 i261_32 rfl (Nat.le_of_ble_eq_true rfl) rfl rfl ?_
    refine ev_iconst (v := 0) pm261 i261_34 rfl (by decide) rfl ?_
    refine ev_istore (ls' := [.ref l0, .int l1, .int s.1, .int s.2.1, .int s.2.2, .int (99999 : Int32), .int x6, .int (0 : Int32), unk]) pm261 i261_35 rfl (Nat.le_of_ble_eq_true rfl) rfl rfl ?_
    obtain ⟨x22, e23, hS⟩ := bn_s hS
    refine L_md_stays_37 d (by omega) _ _ _ e23 _ ?_
    show Ev P d 261 (103, [.ref l0, .int l1, .int s.1, .int s.2.1, .int s.2.2, .int x22, unk, unk, unk], [], h) _
    refine ev_iload pm261 i261_103 rfl rfl rfl ?_
    refine ev_iload_n pm261 i261_105 rfl rfl rfl ?_
    by_cases c634 : s.2.1 < x22
    · rw [if_pos c634] at hS
      refine ev_icmp_gt_t (t := 112) pm261 i261_106 rfl c634 rfl rfl ?_
      refine ev_iload pm261 i261_112 rfl rfl rfl ?_
      refine ev_istore_n (ls' := [.ref l0, .int l1, .int s.1, .int x22, .int s.2.2, .int x22, unk, unk, unk]) pm261 i261_114 rfl (Nat.le_of_ble_eq_true rfl) rfl rfl ?_
      refine ev_iload pm261 i261_115 rfl rfl rfl ?_
      refine ev_istore_n (ls' := [.ref l0, .int l1, .int s.2.2, .int x22, .int s.2.2, .int x22, unk, unk, unk]) pm261 i261_117 rfl (Nat.le_of_ble_eq_true rfl) rfl rfl ?_
      refine ev_kls (ls' := [.ref l0, .int l1, .int s.2.2, .int x22, .int s.2.2, unk, unk, unk, unk]) pm261 i261_118 rfl rfl ?_
      refine ev_iinc (v := 1) (ls' := [.ref l0, .int l1, .int s.2.2, .int x22, .int (s.2.2 + (1 : Int32)), unk, unk, unk, unk]) pm261 i261_118 rfl rfl (by decide) rfl rfl ?_
      refine ev_goto (t := 9) pm261 i261_121 rfl rfl ?_
      cases hS
      exact hK
    · rw [if_neg c634] at hS
      refine ev_icmp_gt_f (t := 112) pm261 i261_106 rfl c634 rfl rfl ?_
      refine ev_goto (t := 118) pm261 i261_109 rfl rfl ?_
      refine ev_kls (ls' := [.ref l0, .int l1, .int s.1, .int s.2.1, .int s.2.2, unk, unk, unk, unk]) pm261 i261_118 rfl rfl ?_
      refine ev_iinc (v := 1) (ls' := [.ref l0, .int l1, .int s.1, .int s.2.1, .int (s.2.2 + (1 : Int32)), unk, unk, unk, unk]) pm261 i261_118 rfl rfl (by decide) rfl rfl ?_
      refine ev_goto (t := 9) pm261 i261_121 rfl rfl ?_
      cases hS
      exact hK
  · rw [if_neg c633] at hS
    refine ev_icmp_ge_f (t := 124) pm261 i261_18 rfl c633 rfl rfl ?_
    refine ev_kls (ls' := [unk, unk, .int s.1, unk, unk, unk, unk, unk, unk]) pm261 i261_124 rfl rfl ?_
    cases hS
    exact hK
def F_md_stays (a0 : Nat) (a1 : Int32) (h : Hp) : Option Int32 :=
  ck h a0 13 (bn (lq (B_md_stays_9 a0 a1 h) FU ((0 : Int32), (-99999 : Int32), (0 : Int32))) fun x24 =>
  some x24)
set_option maxRecDepth 20000 in
theorem K_md_stays {a0 : Nat} {a1 : Int32} {h : Hp} {v : Int32} (hS : F_md_stays a0 a1 h = some v) : kd h a0 = 13 := by
  unfold F_md_stays at hS
  exact (ck_s hS).1
set_option maxRecDepth 20000 in
theorem R_md_stays (d : Nat) (hd : 5 ≤ d) {a0 : Nat} {a1 : Int32} {h : Hp} {v : Int32} (hS : F_md_stays a0 a1 h = some v) : Ev P d 261 (0, [.ref a0, .int a1, unk, unk, unk, unk, unk, unk, unk], [], h) (some (.int v), h) := by
  unfold F_md_stays at hS
  replace hS := (ck_s hS).2
  refine ev_iconst (v := 0) pm261 i261_0 rfl (by decide) rfl ?_
  refine ev_istore_n (ls' := [.ref a0, .int a1, .int (0 : Int32), unk, unk, unk, unk, unk, unk]) pm261 i261_1 rfl (Nat.le_of_ble_eq_true rfl) rfl rfl ?_
  refine ev_ldc_w (v := .int (-99999 : Int32)) pm261 i261_2 rfl rfl rfl ?_
  refine ev_istore_n (ls' := [.ref a0, .int a1, .int (0 : Int32), .int (-99999 : Int32), unk, unk, unk, unk, unk]) pm261 i261_5 rfl (Nat.le_of_ble_eq_true rfl) rfl rfl ?_
  refine ev_iconst (v := 0) pm261 i261_6 rfl (by decide) rfl ?_
  refine ev_istore (ls' := [.ref a0, .int a1, .int (0 : Int32), .int (-99999 : Int32), .int (0 : Int32), unk, unk, unk, unk]) pm261 i261_7 rfl (Nat.le_of_ble_eq_true rfl) rfl rfl ?_
  obtain ⟨x24, e25, hS⟩ := bn_s hS
  refine L_md_stays_9 d (by omega) _ _ _ e25 _ ?_
  show Ev P d 261 (124, [unk, unk, .int x24, unk, unk, unk, unk, unk, unk], [], h) _
  refine ev_iload_n pm261 i261_124 rfl rfl rfl ?_
  cases hS
  exact ev_ireturn pm261 i261_125 rfl rfl rfl
def F_md_bestStay (a0 : Nat) (a1 : Int32) (h : Hp) : Option (Int32 × Hp) :=
  ck h a0 13 (bn (pI h a0 13 0 (0 : Int32)) fun h1 =>
  bn (gQ h1 a0 13 3) fun x3 =>
  if x3 = none then
    (bd (F_md_refused a0 (1 : Int32) h1) fun x6 h7 =>
    some (x6, h7))
  else
    (bn (F_md_in a1 (0 : Int32) (99 : Int32)) fun x9 =>
    if x9 = (0 : Int32) then
      (bd (F_md_refused a0 (2 : Int32) h1) fun x11 h12 =>
      some (x11, h12))
    else
      (bn (F_md_works a0 h1) fun h14 =>
      bn (F_md_stays a0 a1 h14) fun x16 =>
      bd (F_md_good a0 x16 h14) fun x18 h19 =>
      some (x18, h19))))
set_option maxRecDepth 20000 in
theorem K_md_bestStay {a0 : Nat} {a1 : Int32} {h : Hp} {v : Int32} {h' : Hp} (hS : F_md_bestStay a0 a1 h = some (v, h')) : kd h a0 = 13 := by
  unfold F_md_bestStay at hS
  exact (ck_s hS).1
set_option maxRecDepth 20000 in
theorem R_md_bestStay (d : Nat) (hd : 6 ≤ d) {a0 : Nat} {a1 : Int32} {h : Hp} {v : Int32} {h' : Hp} (hS : F_md_bestStay a0 a1 h = some (v, h')) : Ev P d 260 (0, [.ref a0, .int a1], [], h) (some (.int v), h') := by
  unfold F_md_bestStay at hS
  replace hS := (ck_s hS).2
  refine ev_aload_n pm260 i260_0 rfl rfl rfl ?_
  refine ev_iconst (v := 0) pm260 i260_1 rfl (by decide) rfl ?_
  obtain ⟨h1, e2, hS⟩ := bn_s hS
  refine ev_putI pm260 i260_2 rfl rfl rfl e2 rfl ?_
  refine ev_aload_n pm260 i260_5 rfl rfl rfl ?_
  obtain ⟨x3, e4, hS⟩ := bn_s hS
  refine ev_getQ pm260 i260_6 rfl rfl rfl e4 rfl ?_
  by_cases c635 : x3 = none
  · rw [if_pos c635] at hS
    subst c635
    refine ev_nonnullF pm260 i260_9 rfl rfl ?_
    refine ev_aload_n pm260 i260_12 rfl rfl rfl ?_
    refine ev_iconst (v := 1) pm260 i260_13 rfl (by decide) rfl ?_
    obtain ⟨x6, h7, e5, hS⟩ := bd_s hS
    refine ev_callV (sa := [.int (1 : Int32)]) (rest := []) (st' := [.int x6]) (ls0 := [.ref a0, .int (1 : Int32)]) (rv := some (.int x6)) pm260 i260_14 rfl rfl pm186 (by decide) (K_md_refused e5) rfl rfl (Nat.le_of_ble_eq_true rfl) (by omega) rfl (R_md_refused (d - 1) (by omega) e5) (by simp) rfl rfl ?_
    cases hS
    exact ev_ireturn pm260 i260_17 rfl rfl rfl
  · rw [if_neg c635] at hS
    obtain ⟨_, rfl⟩ := Option.ne_none_iff_exists'.mp c635
    refine ev_nonnullT (t := 18) pm260 i260_9 rfl rfl ?_
    refine ev_iload_n pm260 i260_18 rfl rfl rfl ?_
    refine ev_iconst (v := 0) pm260 i260_19 rfl (by decide) rfl ?_
    refine ev_bipush (v := 99) pm260 i260_20 rfl (by decide) rfl ?_
    obtain ⟨x9, e8, hS⟩ := bn_s hS
    refine ev_callS (sa := [.int (99 : Int32), .int (0 : Int32), .int a1]) (rest := []) (st' := [.int x9]) (ls0 := [.int a1, .int (0 : Int32), .int (99 : Int32)]) (rv := some (.int x9)) pm260 i260_22 rfl rfl pm201 (by decide) rfl rfl (Nat.le_of_ble_eq_true rfl) (by omega) rfl (R_md_in (d - 1) (by omega) e8) (by simp) rfl rfl ?_
    by_cases c636 : x9 = (0 : Int32)
    · rw [if_pos c636] at hS
      refine ev_if_ne_t (t := 34) pm260 i260_25 rfl c636 rfl rfl ?_
      refine ev_aload_n pm260 i260_28 rfl rfl rfl ?_
      refine ev_iconst (v := 2) pm260 i260_29 rfl (by decide) rfl ?_
      obtain ⟨x11, h12, e10, hS⟩ := bd_s hS
      refine ev_callV (sa := [.int (2 : Int32)]) (rest := []) (st' := [.int x11]) (ls0 := [.ref a0, .int (2 : Int32)]) (rv := some (.int x11)) pm260 i260_30 rfl rfl pm186 (by decide) (K_md_refused e10) rfl rfl (Nat.le_of_ble_eq_true rfl) (by omega) rfl (R_md_refused (d - 1) (by omega) e10) (by simp) rfl rfl ?_
      cases hS
      exact ev_ireturn pm260 i260_33 rfl rfl rfl
    · rw [if_neg c636] at hS
      refine ev_if_ne_f (t := 34) pm260 i260_25 rfl c636 rfl rfl ?_
      refine ev_aload_n pm260 i260_34 rfl rfl rfl ?_
      obtain ⟨h14, e13, hS⟩ := bn_s hS
      refine ev_callV (sa := []) (rest := []) (st' := []) (ls0 := [.ref a0, unk]) (rv := none) pm260 i260_35 rfl rfl pm229 (by decide) (K_md_works e13) rfl rfl (Nat.le_of_ble_eq_true rfl) (by omega) rfl (R_md_works (d - 1) (by omega) e13) (by simp) rfl rfl ?_
      refine ev_aload_n pm260 i260_38 rfl rfl rfl ?_
      refine ev_aload_n pm260 i260_39 rfl rfl rfl ?_
      refine ev_iload_n pm260 i260_40 rfl rfl rfl ?_
      obtain ⟨x16, e15, hS⟩ := bn_s hS
      refine ev_callV (sa := [.int a1]) (rest := [.ref a0]) (st' := [.int x16, .ref a0]) (ls0 := [.ref a0, .int a1, unk, unk, unk, unk, unk, unk, unk]) (rv := some (.int x16)) pm260 i260_41 rfl rfl pm261 (by decide) (K_md_stays e15) rfl rfl (Nat.le_of_ble_eq_true rfl) (by omega) rfl (R_md_stays (d - 1) (by omega) e15) (by simp) rfl rfl ?_
      obtain ⟨x18, h19, e17, hS⟩ := bd_s hS
      refine ev_callV (sa := [.int x16]) (rest := []) (st' := [.int x18]) (ls0 := [.ref a0, .int x16]) (rv := some (.int x18)) pm260 i260_44 rfl rfl pm224 (by decide) (K_md_good e17) rfl rfl (Nat.le_of_ble_eq_true rfl) (by omega) rfl (R_md_good (d - 1) (by omega) e17) (by simp) rfl rfl ?_
      cases hS
      exact ev_ireturn pm260 i260_47 rfl rfl rfl
def F_md_bestMove (a0 : Nat) (a1 : Int32) (h : Hp) : Option (Int32 × Hp) :=
  ck h a0 13 (bn (pI h a0 13 0 (0 : Int32)) fun h1 =>
  bn (F_md_isGuest a0 a1 h1) fun x4 =>
  if x4 = (0 : Int32) then
    (bd (F_md_refused a0 (1 : Int32) h1) fun x6 h7 =>
    some (x6, h7))
  else
    (bn (F_md_works a0 h1) fun h9 =>
    bn (gR h9 a0 13 16) fun x10 =>
    bn (sI h9 100 x10 ((25 : Int32) + a1) (-1 : Int32)) fun h12 =>
    bn (gR h12 a0 13 3) fun x14 =>
    bn (gR h12 x14 12 15) fun x16 =>
    bn (aI h12 100 x16 a1) fun x18 =>
    bn (F_md_stays a0 x18 h12) fun x21 =>
    bd (F_md_good a0 x21 h12) fun x23 h24 =>
    some (x23, h24)))
set_option maxRecDepth 20000 in
theorem K_md_bestMove {a0 : Nat} {a1 : Int32} {h : Hp} {v : Int32} {h' : Hp} (hS : F_md_bestMove a0 a1 h = some (v, h')) : kd h a0 = 13 := by
  unfold F_md_bestMove at hS
  exact (ck_s hS).1
set_option maxRecDepth 20000 in
theorem R_md_bestMove (d : Nat) (hd : 6 ≤ d) {a0 : Nat} {a1 : Int32} {h : Hp} {v : Int32} {h' : Hp} (hS : F_md_bestMove a0 a1 h = some (v, h')) : Ev P d 262 (0, [.ref a0, .int a1], [], h) (some (.int v), h') := by
  unfold F_md_bestMove at hS
  replace hS := (ck_s hS).2
  refine ev_aload_n pm262 i262_0 rfl rfl rfl ?_
  refine ev_iconst (v := 0) pm262 i262_1 rfl (by decide) rfl ?_
  obtain ⟨h1, e2, hS⟩ := bn_s hS
  refine ev_putI pm262 i262_2 rfl rfl rfl e2 rfl ?_
  refine ev_aload_n pm262 i262_5 rfl rfl rfl ?_
  refine ev_iload_n pm262 i262_6 rfl rfl rfl ?_
  obtain ⟨x4, e3, hS⟩ := bn_s hS
  refine ev_callV (sa := [.int a1]) (rest := []) (st' := [.int x4]) (ls0 := [.ref a0, .int a1]) (rv := some (.int x4)) pm262 i262_7 rfl rfl pm242 (by decide) (K_md_isGuest e3) rfl rfl (Nat.le_of_ble_eq_true rfl) (by omega) rfl (R_md_isGuest (d - 1) (by omega) e3) (by simp) rfl rfl ?_
  by_cases c637 : x4 = (0 : Int32)
  · rw [if_pos c637] at hS
    refine ev_if_ne_t (t := 19) pm262 i262_10 rfl c637 rfl rfl ?_
    refine ev_aload_n pm262 i262_13 rfl rfl rfl ?_
    refine ev_iconst (v := 1) pm262 i262_14 rfl (by decide) rfl ?_
    obtain ⟨x6, h7, e5, hS⟩ := bd_s hS
    refine ev_callV (sa := [.int (1 : Int32)]) (rest := []) (st' := [.int x6]) (ls0 := [.ref a0, .int (1 : Int32)]) (rv := some (.int x6)) pm262 i262_15 rfl rfl pm186 (by decide) (K_md_refused e5) rfl rfl (Nat.le_of_ble_eq_true rfl) (by omega) rfl (R_md_refused (d - 1) (by omega) e5) (by simp) rfl rfl ?_
    cases hS
    exact ev_ireturn pm262 i262_18 rfl rfl rfl
  · rw [if_neg c637] at hS
    refine ev_if_ne_f (t := 19) pm262 i262_10 rfl c637 rfl rfl ?_
    refine ev_aload_n pm262 i262_19 rfl rfl rfl ?_
    obtain ⟨h9, e8, hS⟩ := bn_s hS
    refine ev_callV (sa := []) (rest := []) (st' := []) (ls0 := [.ref a0, unk]) (rv := none) pm262 i262_20 rfl rfl pm229 (by decide) (K_md_works e8) rfl rfl (Nat.le_of_ble_eq_true rfl) (by omega) rfl (R_md_works (d - 1) (by omega) e8) (by simp) rfl rfl ?_
    refine ev_aload_n pm262 i262_23 rfl rfl rfl ?_
    obtain ⟨x10, e11, hS⟩ := bn_s hS
    refine ev_getR pm262 i262_24 rfl rfl rfl e11 rfl ?_
    refine ev_bipush (v := 25) pm262 i262_27 rfl (by decide) rfl ?_
    refine ev_iload_n pm262 i262_29 rfl rfl rfl ?_
    refine ev_b2 (f := fun x y => x + y) pm262 i262_30 rfl (fun _ _ _ _ => rfl) rfl ?_
    refine ev_iconst (v := -1) pm262 i262_31 rfl (by decide) rfl ?_
    obtain ⟨h12, e13, hS⟩ := bn_s hS
    refine ev_iast pm262 i262_32 rfl e13 rfl ?_
    refine ev_aload_n pm262 i262_33 rfl rfl rfl ?_
    refine ev_aload_n pm262 i262_34 rfl rfl rfl ?_
    refine ev_aload_n pm262 i262_35 rfl rfl rfl ?_
    obtain ⟨x14, e15, hS⟩ := bn_s hS
    refine ev_getR pm262 i262_36 rfl rfl rfl e15 rfl ?_
    obtain ⟨x16, e17, hS⟩ := bn_s hS
    refine ev_getR pm262 i262_39 rfl rfl rfl e17 rfl ?_
    refine ev_iload_n pm262 i262_42 rfl rfl rfl ?_
    obtain ⟨x18, e19, hS⟩ := bn_s hS
    refine ev_iald pm262 i262_43 rfl e19 rfl ?_
    obtain ⟨x21, e20, hS⟩ := bn_s hS
    refine ev_callV (sa := [.int x18]) (rest := [.ref a0]) (st' := [.int x21, .ref a0]) (ls0 := [.ref a0, .int x18, unk, unk, unk, unk, unk, unk, unk]) (rv := some (.int x21)) pm262 i262_44 rfl rfl pm261 (by decide) (K_md_stays e20) rfl rfl (Nat.le_of_ble_eq_true rfl) (by omega) rfl (R_md_stays (d - 1) (by omega) e20) (by simp) rfl rfl ?_
    obtain ⟨x23, h24, e22, hS⟩ := bd_s hS
    refine ev_callV (sa := [.int x21]) (rest := []) (st' := [.int x23]) (ls0 := [.ref a0, .int x21]) (rv := some (.int x23)) pm262 i262_47 rfl rfl pm224 (by decide) (K_md_good e22) rfl rfl (Nat.le_of_ble_eq_true rfl) (by omega) rfl (R_md_good (d - 1) (by omega) e22) (by simp) rfl rfl ?_
    cases hS
    exact ev_ireturn pm262 i262_50 rfl rfl rfl
def B_md_bestCut_35 (l0 : Nat) (s : Int32 × Int32 × Int32) (h : Hp) : Option (((Int32 × Int32 × Int32) ⊕ (Int32)) × Hp) :=
  bn (gR h l0 13 3) fun x14 =>
  bn (gI h x14 12 2) fun x16 =>
  if s.2.2 < x16 then
    (bn (F_md_works l0 h) fun h19 =>
    bn (gR h19 l0 13 16) fun x20 =>
    bn (aI h19 100 x20 (28 : Int32)) fun x22 =>
    bn (sI h19 100 x20 (28 : Int32) (x22 ||| ((1 : Int32) <<< (s.2.2 &&& 31)))) fun h24 =>
    bn (F_md_underNow l0 h24) fun x27 =>
    bn (F_md_bits x27) fun x29 =>
    if x29 < s.1 then
      (bn (F_md_underNow l0 h24) fun x31 =>
      bn (F_md_bits x31) fun x33 =>
      some (.inl (x33, s.2.2, s.2.2 + (1 : Int32)), h24))
    else
      (some (.inl (s.1, s.2.1, s.2.2 + (1 : Int32)), h24)))
  else
    (some (.inr s.2.1, h))
set_option maxRecDepth 20000 in
theorem L_md_bestCut_35 (d : Nat) (hd : 6 ≤ d) {l0 : Nat} : ∀ (n : Nat) (s : Int32 × Int32 × Int32) (h : Hp) (x : Int32) (hx : Hp), lp (B_md_bestCut_35 l0) n s h = some (x, hx) → ∀ r, Ev P d 263 (93, [.ref l0, unk, .int x, unk], [], hx) r → Ev P d 263 (35, [.ref l0, .int s.1, .int s.2.1, .int s.2.2], [], h) r := by
  refine lp_ev (G0 := fun (s : Int32 × Int32 × Int32) h r => Ev P d 263 (35, [.ref l0, .int s.1, .int s.2.1, .int s.2.2], [], h) r) (X := fun (x : Int32) hx r => Ev P d 263 (93, [.ref l0, unk, .int x, unk], [], hx) r) ?_
  intro s h y h9 hS r hK
  unfold B_md_bestCut_35 at hS
  show Ev P d 263 (35, [.ref l0, .int s.1, .int s.2.1, .int s.2.2], [], h) r
  refine ev_iload_n pm263 i263_35 rfl rfl rfl ?_
  refine ev_aload_n pm263 i263_36 rfl rfl rfl ?_
  obtain ⟨x14, e15, hS⟩ := bn_s hS
  refine ev_getR pm263 i263_37 rfl rfl rfl e15 rfl ?_
  obtain ⟨x16, e17, hS⟩ := bn_s hS
  refine ev_getI pm263 i263_40 rfl rfl (by decide) e17 rfl ?_
  by_cases c638 : s.2.2 < x16
  · rw [if_pos c638] at hS
    refine ev_icmp_ge_t (t := 93) pm263 i263_43 rfl c638 rfl rfl ?_
    refine ev_aload_n pm263 i263_46 rfl rfl rfl ?_
    obtain ⟨h19, e18, hS⟩ := bn_s hS
    refine ev_callV (sa := []) (rest := []) (st' := []) (ls0 := [.ref l0, unk]) (rv := none) pm263 i263_47 rfl rfl pm229 (by decide) (K_md_works e18) rfl rfl (Nat.le_of_ble_eq_true rfl) (by omega) rfl (R_md_works (d - 1) (by omega) e18) (by simp) rfl rfl ?_
    refine ev_aload_n pm263 i263_50 rfl rfl rfl ?_
    obtain ⟨x20, e21, hS⟩ := bn_s hS
    refine ev_getR pm263 i263_51 rfl rfl rfl e21 rfl ?_
    refine ev_bipush (v := 28) pm263 i263_54 rfl (by decide) rfl ?_
    refine ev_dup2 pm263 i263_56 rfl ⟨rfl, rfl⟩ rfl ?_
    obtain ⟨x22, e23, hS⟩ := bn_s hS
    refine ev_iald pm263 i263_57 rfl e23 rfl ?_
    refine ev_iconst (v := 1) pm263 i263_58 rfl (by decide) rfl ?_
    refine ev_iload_n pm263 i263_59 rfl rfl rfl ?_
    refine ev_b2 (f := fun x y => x <<< (y &&& 31)) pm263 i263_60 rfl (fun _ _ _ _ => rfl) rfl ?_
    refine ev_b2 (f := fun x y => x ||| y) pm263 i263_61 rfl (fun _ _ _ _ => rfl) rfl ?_
    obtain ⟨h24, e25, hS⟩ := bn_s hS
    refine ev_iast pm263 i263_62 rfl e25 rfl ?_
    refine ev_aload_n pm263 i263_63 rfl rfl rfl ?_
    obtain ⟨x27, e26, hS⟩ := bn_s hS
    refine ev_callV (sa := []) (rest := []) (st' := [.int x27]) (ls0 := [.ref l0, unk, unk]) (rv := some (.int x27)) pm263 i263_64 rfl rfl pm246 (by decide) (K_md_underNow e26) rfl rfl (Nat.le_of_ble_eq_true rfl) (by omega) rfl (R_md_underNow (d - 1) (by omega) e26) (by simp) rfl rfl ?_
    obtain ⟨x29, e28, hS⟩ := bn_s hS
    refine ev_callS (sa := [.int x27]) (rest := []) (st' := [.int x29]) (ls0 := [.int x27, unk, unk]) (rv := some (.int x29)) pm263 i263_67 rfl rfl pm237 (by decide) rfl rfl (Nat.le_of_ble_eq_true rfl) (by omega) rfl (R_md_bits (d - 1) (by omega) e28) (by simp) rfl rfl ?_
    refine ev_iload_n pm263 i263_70 rfl rfl rfl ?_
    by_cases c639 : x29 < s.1
    · rw [if_pos c639] at hS
      refine ev_icmp_lt_t (t := 77) pm263 i263_71 rfl c639 rfl rfl ?_
      refine ev_aload_n pm263 i263_77 rfl rfl rfl ?_
      obtain ⟨x31, e30, hS⟩ := bn_s hS
      refine ev_callV (sa := []) (rest := []) (st' := [.int x31]) (ls0 := [.ref l0, unk, unk]) (rv := some (.int x31)) pm263 i263_78 rfl rfl pm246 (by decide) (K_md_underNow e30) rfl rfl (Nat.le_of_ble_eq_true rfl) (by omega) rfl (R_md_underNow (d - 1) (by omega) e30) (by simp) rfl rfl ?_
      obtain ⟨x33, e32, hS⟩ := bn_s hS
      refine ev_callS (sa := [.int x31]) (rest := []) (st' := [.int x33]) (ls0 := [.int x31, unk, unk]) (rv := some (.int x33)) pm263 i263_81 rfl rfl pm237 (by decide) rfl rfl (Nat.le_of_ble_eq_true rfl) (by omega) rfl (R_md_bits (d - 1) (by omega) e32) (by simp) rfl rfl ?_
      refine ev_istore_n (ls' := [.ref l0, .int x33, .int s.2.1, .int s.2.2]) pm263 i263_84 rfl (Nat.le_of_ble_eq_true rfl) rfl rfl ?_
      refine ev_iload_n pm263 i263_85 rfl rfl rfl ?_
      refine ev_istore_n (ls' := [.ref l0, .int x33, .int s.2.2, .int s.2.2]) pm263 i263_86 rfl (Nat.le_of_ble_eq_true rfl) rfl rfl ?_
      refine ev_iinc (v := 1) (ls' := [.ref l0, .int x33, .int s.2.2, .int (s.2.2 + (1 : Int32))]) pm263 i263_87 rfl rfl (by decide) rfl rfl ?_
      refine ev_goto (t := 35) pm263 i263_90 rfl rfl ?_
      cases hS
      exact hK
    · rw [if_neg c639] at hS
      refine ev_icmp_lt_f (t := 77) pm263 i263_71 rfl c639 rfl rfl ?_
      refine ev_goto (t := 87) pm263 i263_74 rfl rfl ?_
      refine ev_iinc (v := 1) (ls' := [.ref l0, .int s.1, .int s.2.1, .int (s.2.2 + (1 : Int32))]) pm263 i263_87 rfl rfl (by decide) rfl rfl ?_
      refine ev_goto (t := 35) pm263 i263_90 rfl rfl ?_
      cases hS
      exact hK
  · rw [if_neg c638] at hS
    refine ev_icmp_ge_f (t := 93) pm263 i263_43 rfl c638 rfl rfl ?_
    refine ev_kls (ls' := [.ref l0, unk, .int s.2.1, unk]) pm263 i263_93 rfl rfl ?_
    cases hS
    exact hK
def F_md_bestCut (a0 : Nat) (h : Hp) : Option (Int32 × Hp) :=
  ck h a0 13 (bn (pI h a0 13 0 (0 : Int32)) fun h1 =>
  bn (gQ h1 a0 13 3) fun x3 =>
  if x3 = none then
    (bd (F_md_refused a0 (1 : Int32) h1) fun x6 h7 =>
    some (x6, h7))
  else
    (bn (F_md_works a0 h1) fun h9 =>
    bn (F_md_underNow a0 h9) fun x11 =>
    bn (F_md_bits x11) fun x13 =>
    bd (lp (B_md_bestCut_35 a0) FU (x13, (-2 : Int32), (0 : Int32)) h9) fun x34 h36 =>
    bd (F_md_good a0 x34 h36) fun x38 h39 =>
    some (x38, h39)))
set_option maxRecDepth 20000 in
theorem K_md_bestCut {a0 : Nat} {h : Hp} {v : Int32} {h' : Hp} (hS : F_md_bestCut a0 h = some (v, h')) : kd h a0 = 13 := by
  unfold F_md_bestCut at hS
  exact (ck_s hS).1
set_option maxRecDepth 20000 in
theorem R_md_bestCut (d : Nat) (hd : 6 ≤ d) {a0 : Nat} {h : Hp} {v : Int32} {h' : Hp} (hS : F_md_bestCut a0 h = some (v, h')) : Ev P d 263 (0, [.ref a0, unk, unk, unk], [], h) (some (.int v), h') := by
  unfold F_md_bestCut at hS
  replace hS := (ck_s hS).2
  refine ev_aload_n pm263 i263_0 rfl rfl rfl ?_
  refine ev_iconst (v := 0) pm263 i263_1 rfl (by decide) rfl ?_
  obtain ⟨h1, e2, hS⟩ := bn_s hS
  refine ev_putI pm263 i263_2 rfl rfl rfl e2 rfl ?_
  refine ev_aload_n pm263 i263_5 rfl rfl rfl ?_
  obtain ⟨x3, e4, hS⟩ := bn_s hS
  refine ev_getQ pm263 i263_6 rfl rfl rfl e4 rfl ?_
  by_cases c640 : x3 = none
  · rw [if_pos c640] at hS
    subst c640
    refine ev_nonnullF pm263 i263_9 rfl rfl ?_
    refine ev_aload_n pm263 i263_12 rfl rfl rfl ?_
    refine ev_iconst (v := 1) pm263 i263_13 rfl (by decide) rfl ?_
    obtain ⟨x6, h7, e5, hS⟩ := bd_s hS
    refine ev_callV (sa := [.int (1 : Int32)]) (rest := []) (st' := [.int x6]) (ls0 := [.ref a0, .int (1 : Int32)]) (rv := some (.int x6)) pm263 i263_14 rfl rfl pm186 (by decide) (K_md_refused e5) rfl rfl (Nat.le_of_ble_eq_true rfl) (by omega) rfl (R_md_refused (d - 1) (by omega) e5) (by simp) rfl rfl ?_
    cases hS
    exact ev_ireturn pm263 i263_17 rfl rfl rfl
  · rw [if_neg c640] at hS
    obtain ⟨_, rfl⟩ := Option.ne_none_iff_exists'.mp c640
    refine ev_nonnullT (t := 18) pm263 i263_9 rfl rfl ?_
    refine ev_aload_n pm263 i263_18 rfl rfl rfl ?_
    obtain ⟨h9, e8, hS⟩ := bn_s hS
    refine ev_callV (sa := []) (rest := []) (st' := []) (ls0 := [.ref a0, unk]) (rv := none) pm263 i263_19 rfl rfl pm229 (by decide) (K_md_works e8) rfl rfl (Nat.le_of_ble_eq_true rfl) (by omega) rfl (R_md_works (d - 1) (by omega) e8) (by simp) rfl rfl ?_
    refine ev_aload_n pm263 i263_22 rfl rfl rfl ?_
    obtain ⟨x11, e10, hS⟩ := bn_s hS
    refine ev_callV (sa := []) (rest := []) (st' := [.int x11]) (ls0 := [.ref a0, unk, unk]) (rv := some (.int x11)) pm263 i263_23 rfl rfl pm246 (by decide) (K_md_underNow e10) rfl rfl (Nat.le_of_ble_eq_true rfl) (by omega) rfl (R_md_underNow (d - 1) (by omega) e10) (by simp) rfl rfl ?_
    obtain ⟨x13, e12, hS⟩ := bn_s hS
    refine ev_callS (sa := [.int x11]) (rest := []) (st' := [.int x13]) (ls0 := [.int x11, unk, unk]) (rv := some (.int x13)) pm263 i263_26 rfl rfl pm237 (by decide) rfl rfl (Nat.le_of_ble_eq_true rfl) (by omega) rfl (R_md_bits (d - 1) (by omega) e12) (by simp) rfl rfl ?_
    refine ev_istore_n (ls' := [.ref a0, .int x13, unk, unk]) pm263 i263_29 rfl (Nat.le_of_ble_eq_true rfl) rfl rfl ?_
    refine ev_bipush (v := -2) pm263 i263_30 rfl (by decide) rfl ?_
    refine ev_istore_n (ls' := [.ref a0, .int x13, .int (-2 : Int32), unk]) pm263 i263_32 rfl (Nat.le_of_ble_eq_true rfl) rfl rfl ?_
    refine ev_iconst (v := 0) pm263 i263_33 rfl (by decide) rfl ?_
    refine ev_istore_n (ls' := [.ref a0, .int x13, .int (-2 : Int32), .int (0 : Int32)]) pm263 i263_34 rfl (Nat.le_of_ble_eq_true rfl) rfl rfl ?_
    obtain ⟨x34, h36, e35, hS⟩ := bd_s hS
    refine L_md_bestCut_35 d (by omega) _ _ _ _ _ e35 _ ?_
    show Ev P d 263 (93, [.ref a0, unk, .int x34, unk], [], h36) _
    refine ev_aload_n pm263 i263_93 rfl rfl rfl ?_
    refine ev_iload_n pm263 i263_94 rfl rfl rfl ?_
    obtain ⟨x38, h39, e37, hS⟩ := bd_s hS
    refine ev_callV (sa := [.int x34]) (rest := []) (st' := [.int x38]) (ls0 := [.ref a0, .int x34]) (rv := some (.int x38)) pm263 i263_95 rfl rfl pm224 (by decide) (K_md_good e37) rfl rfl (Nat.le_of_ble_eq_true rfl) (by omega) rfl (R_md_good (d - 1) (by omega) e37) (by simp) rfl rfl ?_
    cases hS
    exact ev_ireturn pm263 i263_98 rfl rfl rfl
def F_md_refusesDays (a0 : Nat) (a1 : Int32) (a2 : Int32) (h : Hp) : Option Int32 :=
  ck h a0 13 (if a1 = (0 : Int32) then
    (some (1 : Int32))
  else
    (bn (F_md_in a2 (1 : Int32) (4 : Int32)) fun x2 =>
    if x2 = (0 : Int32) then
      (some (2 : Int32))
    else
      (some (0 : Int32))))
set_option maxRecDepth 20000 in
theorem K_md_refusesDays {a0 : Nat} {a1 : Int32} {a2 : Int32} {h : Hp} {v : Int32} (hS : F_md_refusesDays a0 a1 a2 h = some v) : kd h a0 = 13 := by
  unfold F_md_refusesDays at hS
  exact (ck_s hS).1
set_option maxRecDepth 20000 in
theorem R_md_refusesDays (d : Nat) (hd : 1 ≤ d) {a0 : Nat} {a1 : Int32} {a2 : Int32} {h : Hp} {v : Int32} (hS : F_md_refusesDays a0 a1 a2 h = some v) : Ev P d 265 (0, [.ref a0, .int a1, .int a2], [], h) (some (.int v), h) := by
  unfold F_md_refusesDays at hS
  replace hS := (ck_s hS).2
  refine ev_iload_n pm265 i265_0 rfl rfl rfl ?_
  by_cases c641 : a1 = (0 : Int32)
  · rw [if_pos c641] at hS
    refine ev_if_ne_t (t := 8) pm265 i265_1 rfl c641 rfl rfl ?_
    refine ev_iconst (v := 1) pm265 i265_4 rfl (by decide) rfl ?_
    refine ev_goto (t := 22) pm265 i265_5 rfl rfl ?_
    refine ev_kls (ls' := [unk, unk, unk]) pm265 i265_22 rfl rfl ?_
    cases hS
    exact ev_ireturn pm265 i265_22 rfl rfl rfl
  · rw [if_neg c641] at hS
    refine ev_if_ne_f (t := 8) pm265 i265_1 rfl c641 rfl rfl ?_
    refine ev_iload_n pm265 i265_8 rfl rfl rfl ?_
    refine ev_iconst (v := 1) pm265 i265_9 rfl (by decide) rfl ?_
    refine ev_iconst (v := 4) pm265 i265_10 rfl (by decide) rfl ?_
    obtain ⟨x2, e1, hS⟩ := bn_s hS
    refine ev_callS (sa := [.int (4 : Int32), .int (1 : Int32), .int a2]) (rest := []) (st' := [.int x2]) (ls0 := [.int a2, .int (1 : Int32), .int (4 : Int32)]) (rv := some (.int x2)) pm265 i265_11 rfl rfl pm201 (by decide) rfl rfl (Nat.le_of_ble_eq_true rfl) (by omega) rfl (R_md_in (d - 1) (by omega) e1) (by simp) rfl rfl ?_
    by_cases c642 : x2 = (0 : Int32)
    · rw [if_pos c642] at hS
      refine ev_if_eq_t (t := 21) pm265 i265_14 rfl c642 rfl rfl ?_
      refine ev_iconst (v := 2) pm265 i265_21 rfl (by decide) rfl ?_
      refine ev_kls (ls' := [unk, unk, unk]) pm265 i265_22 rfl rfl ?_
      cases hS
      exact ev_ireturn pm265 i265_22 rfl rfl rfl
    · rw [if_neg c642] at hS
      refine ev_if_eq_f (t := 21) pm265 i265_14 rfl c642 rfl rfl ?_
      refine ev_iconst (v := 0) pm265 i265_17 rfl (by decide) rfl ?_
      refine ev_goto (t := 22) pm265 i265_18 rfl rfl ?_
      refine ev_kls (ls' := [unk, unk, unk]) pm265 i265_22 rfl rfl ?_
      cases hS
      exact ev_ireturn pm265 i265_22 rfl rfl rfl
def F_md_options (a0 : Nat) (a1 : Int32) (h : Hp) : Option Int32 :=
  ck h a0 13 (bn (gR h a0 13 3) fun x1 =>
  bn (gI h x1 12 1) fun x3 =>
  some ((1 : Int32) + (a1 * x3)))
set_option maxRecDepth 20000 in
theorem K_md_options {a0 : Nat} {a1 : Int32} {h : Hp} {v : Int32} (hS : F_md_options a0 a1 h = some v) : kd h a0 = 13 := by
  unfold F_md_options at hS
  exact (ck_s hS).1
set_option maxRecDepth 20000 in
theorem R_md_options (d : Nat) (hd : 0 ≤ d) {a0 : Nat} {a1 : Int32} {h : Hp} {v : Int32} (hS : F_md_options a0 a1 h = some v) : Ev P d 268 (0, [.ref a0, .int a1], [], h) (some (.int v), h) := by
  unfold F_md_options at hS
  replace hS := (ck_s hS).2
  refine ev_iconst (v := 1) pm268 i268_0 rfl (by decide) rfl ?_
  refine ev_iload_n pm268 i268_1 rfl rfl rfl ?_
  refine ev_aload_n pm268 i268_2 rfl rfl rfl ?_
  obtain ⟨x1, e2, hS⟩ := bn_s hS
  refine ev_getR pm268 i268_3 rfl rfl rfl e2 rfl ?_
  obtain ⟨x3, e4, hS⟩ := bn_s hS
  refine ev_getI pm268 i268_6 rfl rfl (by decide) e4 rfl ?_
  refine ev_b2 (f := fun x y => x * y) pm268 i268_9 rfl (fun _ _ _ _ => rfl) rfl ?_
  refine ev_b2 (f := fun x y => x + y) pm268 i268_10 rfl (fun _ _ _ _ => rfl) rfl ?_
  cases hS
  exact ev_ireturn pm268 i268_11 rfl rfl rfl
def B_md_plansAll_4 (l0 : Nat) (l1 : Int32) (h : Hp) (s : Int32 × Int32) : Option ((Int32 × Int32) ⊕ (Int32)) :=
  bn (gR h l0 13 3) fun x1 =>
  bn (gI h x1 12 4) fun x3 =>
  if s.2 < x3 then
    (bn (F_md_options l0 l1 h) fun x6 =>
    some (.inl (s.1 * x6, s.2 + (1 : Int32))))
  else
    (some (.inr s.1))
set_option maxRecDepth 20000 in
theorem L_md_plansAll_4 (d : Nat) (hd : 1 ≤ d) {l0 : Nat} {l1 : Int32} {h : Hp} : ∀ (n : Nat) (s : Int32 × Int32) (x : Int32), lq (B_md_plansAll_4 l0 l1 h) n s = some x → ∀ r, Ev P d 267 (29, [unk, unk, .int x, unk], [], h) r → Ev P d 267 (4, [.ref l0, .int l1, .int s.1, .int s.2], [], h) r := by
  refine lq_ev (G0 := fun (s : Int32 × Int32) r => Ev P d 267 (4, [.ref l0, .int l1, .int s.1, .int s.2], [], h) r) (X := fun (x : Int32) r => Ev P d 267 (29, [unk, unk, .int x, unk], [], h) r) ?_
  intro s y hS r hK
  unfold B_md_plansAll_4 at hS
  show Ev P d 267 (4, [.ref l0, .int l1, .int s.1, .int s.2], [], h) r
  refine ev_iload_n pm267 i267_4 rfl rfl rfl ?_
  refine ev_aload_n pm267 i267_5 rfl rfl rfl ?_
  obtain ⟨x1, e2, hS⟩ := bn_s hS
  refine ev_getR pm267 i267_6 rfl rfl rfl e2 rfl ?_
  obtain ⟨x3, e4, hS⟩ := bn_s hS
  refine ev_getI pm267 i267_9 rfl rfl (by decide) e4 rfl ?_
  by_cases c643 : s.2 < x3
  · rw [if_pos c643] at hS
    refine ev_icmp_ge_t (t := 29) pm267 i267_12 rfl c643 rfl rfl ?_
    refine ev_iload_n pm267 i267_15 rfl rfl rfl ?_
    refine ev_aload_n pm267 i267_16 rfl rfl rfl ?_
    refine ev_iload_n pm267 i267_17 rfl rfl rfl ?_
    obtain ⟨x6, e5, hS⟩ := bn_s hS
    refine ev_callV (sa := [.int l1]) (rest := [.int s.1]) (st' := [.int x6, .int s.1]) (ls0 := [.ref l0, .int l1]) (rv := some (.int x6)) pm267 i267_18 rfl rfl pm268 (by decide) (K_md_options e5) rfl rfl (Nat.le_of_ble_eq_true rfl) (by omega) rfl (R_md_options (d - 1) (by omega) e5) (by simp) rfl rfl ?_
    refine ev_b2 (f := fun x y => x * y) pm267 i267_21 rfl (fun _ _ _ _ => rfl) rfl ?_
    refine ev_istore_n (ls' := [.ref l0, .int l1, .int (s.1 * x6), .int s.2]) pm267 i267_22 rfl (Nat.le_of_ble_eq_true rfl) rfl rfl ?_
    refine ev_iinc (v := 1) (ls' := [.ref l0, .int l1, .int (s.1 * x6), .int (s.2 + (1 : Int32))]) pm267 i267_23 rfl rfl (by decide) rfl rfl ?_
    refine ev_goto (t := 4) pm267 i267_26 rfl rfl ?_
    cases hS
    exact hK
  · rw [if_neg c643] at hS
    refine ev_icmp_ge_f (t := 29) pm267 i267_12 rfl c643 rfl rfl ?_
    refine ev_kls (ls' := [unk, unk, .int s.1, unk]) pm267 i267_29 rfl rfl ?_
    cases hS
    exact hK
def F_md_plansAll (a0 : Nat) (a1 : Int32) (h : Hp) : Option Int32 :=
  ck h a0 13 (bn (lq (B_md_plansAll_4 a0 a1 h) FU ((1 : Int32), (0 : Int32))) fun x7 =>
  some x7)
set_option maxRecDepth 20000 in
theorem K_md_plansAll {a0 : Nat} {a1 : Int32} {h : Hp} {v : Int32} (hS : F_md_plansAll a0 a1 h = some v) : kd h a0 = 13 := by
  unfold F_md_plansAll at hS
  exact (ck_s hS).1
set_option maxRecDepth 20000 in
theorem R_md_plansAll (d : Nat) (hd : 1 ≤ d) {a0 : Nat} {a1 : Int32} {h : Hp} {v : Int32} (hS : F_md_plansAll a0 a1 h = some v) : Ev P d 267 (0, [.ref a0, .int a1, unk, unk], [], h) (some (.int v), h) := by
  unfold F_md_plansAll at hS
  replace hS := (ck_s hS).2
  refine ev_iconst (v := 1) pm267 i267_0 rfl (by decide) rfl ?_
  refine ev_istore_n (ls' := [.ref a0, .int a1, .int (1 : Int32), unk]) pm267 i267_1 rfl (Nat.le_of_ble_eq_true rfl) rfl rfl ?_
  refine ev_iconst (v := 0) pm267 i267_2 rfl (by decide) rfl ?_
  refine ev_istore_n (ls' := [.ref a0, .int a1, .int (1 : Int32), .int (0 : Int32)]) pm267 i267_3 rfl (Nat.le_of_ble_eq_true rfl) rfl rfl ?_
  obtain ⟨x7, e8, hS⟩ := bn_s hS
  refine L_md_plansAll_4 d (by omega) _ _ _ e8 _ ?_
  show Ev P d 267 (29, [unk, unk, .int x7, unk], [], h) _
  refine ev_iload_n pm267 i267_29 rfl rfl rfl ?_
  cases hS
  exact ev_ireturn pm267 i267_30 rfl rfl rfl
def B_md_laysPlan_16 (l0 : Nat) (l2 : Int32) (s : Int32 × Int32 × Int32) (h : Hp) : Option (((Int32 × Int32 × Int32) ⊕ (Int32)) × Hp) :=
  if s.2.2 < (0 : Int32) then
    (some (.inr s.2.1, h))
  else
    (bn (F_md_options l0 l2 h) fun x6 =>
    bn (rm32 s.1 x6) fun x7 =>
    bn (F_md_options l0 l2 h) fun x10 =>
    bn (dv s.1 x10) fun x11 =>
    bn (gR h l0 13 21) fun x13 =>
    bn (if x7 = (0 : Int32) then
        (some (0 : Int32))
      else
        (bn (gR h l0 13 3) fun x15 =>
        bn (gI h x15 12 1) fun x17 =>
        bn (dv (x7 - (1 : Int32)) x17) fun x19 =>
        some ((1 : Int32) + x19))) fun q21 =>
    bn (sI h 100 x13 s.2.2 q21) fun h22 =>
    bn (gR h22 l0 13 22) fun x24 =>
    bn (if x7 = (0 : Int32) then
        (some (-2 : Int32))
      else
        (bn (gR h22 l0 13 3) fun x26 =>
        bn (gI h22 x26 12 1) fun x28 =>
        bn (rm32 (x7 - (1 : Int32)) x28) fun x30 =>
        some x30)) fun q32 =>
    bn (sI h22 100 x24 s.2.2 q32) fun h33 =>
    bn (gR h33 l0 13 21) fun x35 =>
    bn (aI h33 100 x35 s.2.2) fun x37 =>
    bn (gR h33 l0 13 3) fun x39 =>
    bn (gR h33 x39 12 18) fun x41 =>
    bn (aI h33 100 x41 s.2.2) fun x43 =>
    some (.inl (x11, s.2.1 + (x37 * x43), s.2.2 + (-1 : Int32)), h33))
set_option maxRecDepth 20000 in
theorem L_md_laysPlan_16 (d : Nat) (hd : 1 ≤ d) {l0 : Nat} {l2 : Int32} : ∀ (n : Nat) (s : Int32 × Int32 × Int32) (h : Hp) (x : Int32) (hx : Hp), lp (B_md_laysPlan_16 l0 l2) n s h = some (x, hx) → ∀ r, Ev P d 269 (126, [unk, unk, unk, unk, .int x, unk, unk], [], hx) r → Ev P d 269 (16, [.ref l0, unk, .int l2, .int s.1, .int s.2.1, .int s.2.2, unk], [], h) r := by
  refine lp_ev (G0 := fun (s : Int32 × Int32 × Int32) h r => Ev P d 269 (16, [.ref l0, unk, .int l2, .int s.1, .int s.2.1, .int s.2.2, unk], [], h) r) (X := fun (x : Int32) hx r => Ev P d 269 (126, [unk, unk, unk, unk, .int x, unk, unk], [], hx) r) ?_
  intro s h y h9 hS r hK
  unfold B_md_laysPlan_16 at hS
  show Ev P d 269 (16, [.ref l0, unk, .int l2, .int s.1, .int s.2.1, .int s.2.2, unk], [], h) r
  refine ev_iload pm269 i269_16 rfl rfl rfl ?_
  by_cases c644 : s.2.2 < (0 : Int32)
  · rw [if_pos c644] at hS
    refine ev_if_lt_t (t := 126) pm269 i269_18 rfl c644 rfl rfl ?_
    refine ev_kls (ls' := [unk, unk, unk, unk, .int s.2.1, unk, unk]) pm269 i269_126 rfl rfl ?_
    cases hS
    exact hK
  · rw [if_neg c644] at hS
    refine ev_if_lt_f (t := 126) pm269 i269_18 rfl c644 rfl rfl ?_
    refine ev_iload_n pm269 i269_21 rfl rfl rfl ?_
    refine ev_aload_n pm269 i269_22 rfl rfl rfl ?_
    refine ev_iload_n pm269 i269_23 rfl rfl rfl ?_
    obtain ⟨x6, e5, hS⟩ := bn_s hS
    refine ev_callV (sa := [.int l2]) (rest := [.int s.1]) (st' := [.int x6, .int s.1]) (ls0 := [.ref l0, .int l2]) (rv := some (.int x6)) pm269 i269_24 rfl rfl pm268 (by decide) (K_md_options e5) rfl rfl (Nat.le_of_ble_eq_true rfl) (by omega) rfl (R_md_options (d - 1) (by omega) e5) (by simp) rfl rfl ?_
    obtain ⟨x7, e8, hS⟩ := bn_s hS
    refine ev_irem pm269 i269_27 rfl e8 rfl ?_
    refine ev_istore (ls' := [.ref l0, unk, .int l2, .int s.1, .int s.2.1, .int s.2.2, .int x7]) pm269 i269_28 rfl (Nat.le_of_ble_eq_true rfl) rfl rfl ?_
    refine ev_iload_n pm269 i269_30 rfl rfl rfl ?_
    refine ev_aload_n pm269 i269_31 rfl rfl rfl ?_
    refine ev_iload_n pm269 i269_32 rfl rfl rfl ?_
    obtain ⟨x10, e9, hS⟩ := bn_s hS
    refine ev_callV (sa := [.int l2]) (rest := [.int s.1]) (st' := [.int x10, .int s.1]) (ls0 := [.ref l0, .int l2]) (rv := some (.int x10)) pm269 i269_33 rfl rfl pm268 (by decide) (K_md_options e9) rfl rfl (Nat.le_of_ble_eq_true rfl) (by omega) rfl (R_md_options (d - 1) (by omega) e9) (by simp) rfl rfl ?_
    obtain ⟨x11, e12, hS⟩ := bn_s hS
    refine ev_idiv pm269 i269_36 rfl e12 rfl ?_
    refine ev_istore_n (ls' := [.ref l0, unk, .int l2, .int x11, .int s.2.1, .int s.2.2, .int x7]) pm269 i269_37 rfl (Nat.le_of_ble_eq_true rfl) rfl rfl ?_
    refine ev_aload_n pm269 i269_38 rfl rfl rfl ?_
    obtain ⟨x13, e14, hS⟩ := bn_s hS
    refine ev_getR pm269 i269_39 rfl rfl rfl e14 rfl ?_
    refine ev_iload pm269 i269_42 rfl rfl rfl ?_
    refine ev_iload pm269 i269_44 rfl rfl rfl ?_
    obtain ⟨q21, I645, hS⟩ := bn_s hS
    have J1 : Ev P d 269 (67, [.ref l0, unk, .int l2, .int x11, .int s.2.1, .int s.2.2, .int x7], [.int q21, .int s.2.2, .ref x13], h) r := by
      obtain ⟨h22, e23, hS⟩ := bn_s hS
      refine ev_iast pm269 i269_67 rfl e23 rfl ?_
      refine ev_aload_n pm269 i269_68 rfl rfl rfl ?_
      obtain ⟨x24, e25, hS⟩ := bn_s hS
      refine ev_getR pm269 i269_69 rfl rfl rfl e25 rfl ?_
      refine ev_iload pm269 i269_72 rfl rfl rfl ?_
      refine ev_iload pm269 i269_74 rfl rfl rfl ?_
      obtain ⟨q32, I646, hS⟩ := bn_s hS
      have J2 : Ev P d 269 (96, [.ref l0, unk, .int l2, .int x11, .int s.2.1, .int s.2.2, unk], [.int q32, .int s.2.2, .ref x24], h22) r := by
        obtain ⟨h33, e34, hS⟩ := bn_s hS
        refine ev_iast pm269 i269_96 rfl e34 rfl ?_
        refine ev_iload pm269 i269_97 rfl rfl rfl ?_
        refine ev_aload_n pm269 i269_99 rfl rfl rfl ?_
        obtain ⟨x35, e36, hS⟩ := bn_s hS
        refine ev_getR pm269 i269_100 rfl rfl rfl e36 rfl ?_
        refine ev_iload pm269 i269_103 rfl rfl rfl ?_
        obtain ⟨x37, e38, hS⟩ := bn_s hS
        refine ev_iald pm269 i269_105 rfl e38 rfl ?_
        refine ev_aload_n pm269 i269_106 rfl rfl rfl ?_
        obtain ⟨x39, e40, hS⟩ := bn_s hS
        refine ev_getR pm269 i269_107 rfl rfl rfl e40 rfl ?_
        obtain ⟨x41, e42, hS⟩ := bn_s hS
        refine ev_getR pm269 i269_110 rfl rfl rfl e42 rfl ?_
        refine ev_iload pm269 i269_113 rfl rfl rfl ?_
        obtain ⟨x43, e44, hS⟩ := bn_s hS
        refine ev_iald pm269 i269_115 rfl e44 rfl ?_
        refine ev_b2 (f := fun x y => x * y) pm269 i269_116 rfl (fun _ _ _ _ => rfl) rfl ?_
        refine ev_b2 (f := fun x y => x + y) pm269 i269_117 rfl (fun _ _ _ _ => rfl) rfl ?_
        refine ev_istore (ls' := [.ref l0, unk, .int l2, .int x11, .int (s.2.1 + (x37 * x43)), .int s.2.2, unk]) pm269 i269_118 rfl (Nat.le_of_ble_eq_true rfl) rfl rfl ?_
        refine ev_iinc (v := -1) (ls' := [.ref l0, unk, .int l2, .int x11, .int (s.2.1 + (x37 * x43)), .int (s.2.2 + (-1 : Int32)), unk]) pm269 i269_120 rfl rfl (by decide) rfl rfl ?_
        refine ev_goto (t := 16) pm269 i269_123 rfl rfl ?_
        cases hS
        exact hK
      clear hS
      by_cases c646 : x7 = (0 : Int32)
      · rw [if_pos c646] at I646
        refine ev_if_ne_t (t := 84) pm269 i269_76 rfl c646 rfl rfl ?_
        refine ev_bipush (v := -2) pm269 i269_79 rfl (by decide) rfl ?_
        refine ev_goto (t := 96) pm269 i269_81 rfl rfl ?_
        refine ev_kls (ls' := [.ref l0, unk, .int l2, .int x11, .int s.2.1, .int s.2.2, unk]) pm269 i269_96 rfl rfl ?_
        cases I646
        exact J2
      · rw [if_neg c646] at I646
        refine ev_if_ne_f (t := 84) pm269 i269_76 rfl c646 rfl rfl ?_
        refine ev_iload pm269 i269_84 rfl rfl rfl ?_
        refine ev_iconst (v := 1) pm269 i269_86 rfl (by decide) rfl ?_
        refine ev_b2 (f := fun x y => x - y) pm269 i269_87 rfl (fun _ _ _ _ => rfl) rfl ?_
        refine ev_aload_n pm269 i269_88 rfl rfl rfl ?_
        obtain ⟨x26, e27, I646⟩ := bn_s I646
        refine ev_getR pm269 i269_89 rfl rfl rfl e27 rfl ?_
        obtain ⟨x28, e29, I646⟩ := bn_s I646
        refine ev_getI pm269 i269_92 rfl rfl (by decide) e29 rfl ?_
        obtain ⟨x30, e31, I646⟩ := bn_s I646
        refine ev_irem pm269 i269_95 rfl e31 rfl ?_
        refine ev_kls (ls' := [.ref l0, unk, .int l2, .int x11, .int s.2.1, .int s.2.2, unk]) pm269 i269_96 rfl rfl ?_
        cases I646
        exact J2
    clear hS
    by_cases c645 : x7 = (0 : Int32)
    · rw [if_pos c645] at I645
      refine ev_if_ne_t (t := 53) pm269 i269_46 rfl c645 rfl rfl ?_
      refine ev_iconst (v := 0) pm269 i269_49 rfl (by decide) rfl ?_
      refine ev_goto (t := 67) pm269 i269_50 rfl rfl ?_
      cases I645
      exact J1
    · rw [if_neg c645] at I645
      refine ev_if_ne_f (t := 53) pm269 i269_46 rfl c645 rfl rfl ?_
      refine ev_iconst (v := 1) pm269 i269_53 rfl (by decide) rfl ?_
      refine ev_iload pm269 i269_54 rfl rfl rfl ?_
      refine ev_iconst (v := 1) pm269 i269_56 rfl (by decide) rfl ?_
      refine ev_b2 (f := fun x y => x - y) pm269 i269_57 rfl (fun _ _ _ _ => rfl) rfl ?_
      refine ev_aload_n pm269 i269_58 rfl rfl rfl ?_
      obtain ⟨x15, e16, I645⟩ := bn_s I645
      refine ev_getR pm269 i269_59 rfl rfl rfl e16 rfl ?_
      obtain ⟨x17, e18, I645⟩ := bn_s I645
      refine ev_getI pm269 i269_62 rfl rfl (by decide) e18 rfl ?_
      obtain ⟨x19, e20, I645⟩ := bn_s I645
      refine ev_idiv pm269 i269_65 rfl e20 rfl ?_
      refine ev_b2 (f := fun x y => x + y) pm269 i269_66 rfl (fun _ _ _ _ => rfl) rfl ?_
      cases I645
      exact J1
def F_md_laysPlan (a0 : Nat) (a1 : Int32) (a2 : Int32) (h : Hp) : Option (Int32 × Hp) :=
  ck h a0 13 (bn (gR h a0 13 3) fun x1 =>
  bn (gI h x1 12 4) fun x3 =>
  bd (lp (B_md_laysPlan_16 a0 a2) FU (a1, (0 : Int32), x3 - (1 : Int32)) h) fun x45 h47 =>
  some (x45, h47))
set_option maxRecDepth 20000 in
theorem K_md_laysPlan {a0 : Nat} {a1 : Int32} {a2 : Int32} {h : Hp} {v : Int32} {h' : Hp} (hS : F_md_laysPlan a0 a1 a2 h = some (v, h')) : kd h a0 = 13 := by
  unfold F_md_laysPlan at hS
  exact (ck_s hS).1
set_option maxRecDepth 20000 in
theorem R_md_laysPlan (d : Nat) (hd : 1 ≤ d) {a0 : Nat} {a1 : Int32} {a2 : Int32} {h : Hp} {v : Int32} {h' : Hp} (hS : F_md_laysPlan a0 a1 a2 h = some (v, h')) : Ev P d 269 (0, [.ref a0, .int a1, .int a2, unk, unk, unk, unk], [], h) (some (.int v), h') := by
  unfold F_md_laysPlan at hS
  replace hS := (ck_s hS).2
  refine ev_iload_n pm269 i269_0 rfl rfl rfl ?_
  refine ev_istore_n (ls' := [.ref a0, .int a1, .int a2, .int a1, unk, unk, unk]) pm269 i269_1 rfl (Nat.le_of_ble_eq_true rfl) rfl rfl ?_
  refine ev_iconst (v := 0) pm269 i269_2 rfl (by decide) rfl ?_
  refine ev_istore (ls' := [.ref a0, .int a1, .int a2, .int a1, .int (0 : Int32), unk, unk]) pm269 i269_3 rfl (Nat.le_of_ble_eq_true rfl) rfl rfl ?_
  refine ev_aload_n pm269 i269_5 rfl rfl rfl ?_
  obtain ⟨x1, e2, hS⟩ := bn_s hS
  refine ev_getR pm269 i269_6 rfl rfl rfl e2 rfl ?_
  obtain ⟨x3, e4, hS⟩ := bn_s hS
  refine ev_getI pm269 i269_9 rfl rfl (by decide) e4 rfl ?_
  refine ev_iconst (v := 1) pm269 i269_12 rfl (by decide) rfl ?_
  refine ev_b2 (f := fun x y => x - y) pm269 i269_13 rfl (fun _ _ _ _ => rfl) rfl ?_
  refine ev_istore (ls' := [.ref a0, .int a1, .int a2, .int a1, .int (0 : Int32), .int (x3 - (1 : Int32)), unk]) pm269 i269_14 rfl (Nat.le_of_ble_eq_true rfl) rfl rfl ?_
  refine ev_kls (ls' := [.ref a0, unk, .int a2, .int a1, .int (0 : Int32), .int (x3 - (1 : Int32)), unk]) pm269 i269_16 rfl rfl ?_
  obtain ⟨x45, h47, e46, hS⟩ := bd_s hS
  refine L_md_laysPlan_16 d (by omega) _ _ _ _ _ e46 _ ?_
  show Ev P d 269 (126, [unk, unk, unk, unk, .int x45, unk, unk], [], h47) _
  refine ev_iload pm269 i269_126 rfl rfl rfl ?_
  cases hS
  exact ev_ireturn pm269 i269_128 rfl rfl rfl
def B_md_drinksAll_6 (l0 : Nat) (s : Int32) (h : Hp) : Option (((Int32) ⊕ (Unit)) × Hp) :=
  bn (gR h l0 13 3) fun x3 =>
  bn (gI h x3 12 4) fun x5 =>
  if s < x5 then
    (bn (gR h l0 13 21) fun x7 =>
    bn (aI h 100 x7 s) fun x9 =>
    if (0 : Int32) < x9 then
      (bn (gR h l0 13 16) fun x11 =>
      bn (gR h l0 13 22) fun x13 =>
      bn (aI h 100 x13 s) fun x15 =>
      bn (gR h l0 13 3) fun x17 =>
      bn (gR h x17 12 17) fun x19 =>
      bn (aI h 100 x19 s) fun x21 =>
      bn (F_md_cell x15 x21) fun x24 =>
      bn (aI h 100 x11 x24) fun x25 =>
      bn (gR h l0 13 21) fun x27 =>
      bn (aI h 100 x27 s) fun x29 =>
      bn (gR h l0 13 3) fun x31 =>
      bn (gR h x31 12 18) fun x33 =>
      bn (aI h 100 x33 s) fun x35 =>
      bn (sI h 100 x11 x24 (x25 + (x29 * x35))) fun h37 =>
      some (.inl (s + (1 : Int32)), h37))
    else
      (some (.inl (s + (1 : Int32)), h)))
  else
    (some (.inr (), h))
set_option maxRecDepth 20000 in
theorem L_md_drinksAll_6 (d : Nat) (hd : 1 ≤ d) {l0 : Nat} : ∀ (n : Nat) (s : Int32) (h : Hp) (x : Unit) (hx : Hp), lp (B_md_drinksAll_6 l0) n s h = some (x, hx) → ∀ r, Ev P d 270 (74, [unk, unk], [], hx) r → Ev P d 270 (6, [.ref l0, .int s], [], h) r := by
  refine lp_ev (G0 := fun (s : Int32) h r => Ev P d 270 (6, [.ref l0, .int s], [], h) r) (X := fun (x : Unit) hx r => Ev P d 270 (74, [unk, unk], [], hx) r) ?_
  intro s h y h9 hS r hK
  unfold B_md_drinksAll_6 at hS
  show Ev P d 270 (6, [.ref l0, .int s], [], h) r
  refine ev_iload_n pm270 i270_6 rfl rfl rfl ?_
  refine ev_aload_n pm270 i270_7 rfl rfl rfl ?_
  obtain ⟨x3, e4, hS⟩ := bn_s hS
  refine ev_getR pm270 i270_8 rfl rfl rfl e4 rfl ?_
  obtain ⟨x5, e6, hS⟩ := bn_s hS
  refine ev_getI pm270 i270_11 rfl rfl (by decide) e6 rfl ?_
  by_cases c647 : s < x5
  · rw [if_pos c647] at hS
    refine ev_icmp_ge_t (t := 74) pm270 i270_14 rfl c647 rfl rfl ?_
    refine ev_aload_n pm270 i270_17 rfl rfl rfl ?_
    obtain ⟨x7, e8, hS⟩ := bn_s hS
    refine ev_getR pm270 i270_18 rfl rfl rfl e8 rfl ?_
    refine ev_iload_n pm270 i270_21 rfl rfl rfl ?_
    obtain ⟨x9, e10, hS⟩ := bn_s hS
    refine ev_iald pm270 i270_22 rfl e10 rfl ?_
    by_cases c648 : (0 : Int32) < x9
    · rw [if_pos c648] at hS
      refine ev_if_le_t (t := 68) pm270 i270_23 rfl c648 rfl rfl ?_
      refine ev_aload_n pm270 i270_26 rfl rfl rfl ?_
      obtain ⟨x11, e12, hS⟩ := bn_s hS
      refine ev_getR pm270 i270_27 rfl rfl rfl e12 rfl ?_
      refine ev_aload_n pm270 i270_30 rfl rfl rfl ?_
      obtain ⟨x13, e14, hS⟩ := bn_s hS
      refine ev_getR pm270 i270_31 rfl rfl rfl e14 rfl ?_
      refine ev_iload_n pm270 i270_34 rfl rfl rfl ?_
      obtain ⟨x15, e16, hS⟩ := bn_s hS
      refine ev_iald pm270 i270_35 rfl e16 rfl ?_
      refine ev_aload_n pm270 i270_36 rfl rfl rfl ?_
      obtain ⟨x17, e18, hS⟩ := bn_s hS
      refine ev_getR pm270 i270_37 rfl rfl rfl e18 rfl ?_
      obtain ⟨x19, e20, hS⟩ := bn_s hS
      refine ev_getR pm270 i270_40 rfl rfl rfl e20 rfl ?_
      refine ev_iload_n pm270 i270_43 rfl rfl rfl ?_
      obtain ⟨x21, e22, hS⟩ := bn_s hS
      refine ev_iald pm270 i270_44 rfl e22 rfl ?_
      obtain ⟨x24, e23, hS⟩ := bn_s hS
      refine ev_callS (sa := [.int x21, .int x15]) (rest := [.ref x11]) (st' := [.int x24, .ref x11]) (ls0 := [.int x15, .int x21]) (rv := some (.int x24)) pm270 i270_45 rfl rfl pm223 (by decide) rfl rfl (Nat.le_of_ble_eq_true rfl) (by omega) rfl (R_md_cell (d - 1) (by omega) e23) (by simp) rfl rfl ?_
      refine ev_dup2 pm270 i270_48 rfl ⟨rfl, rfl⟩ rfl ?_
      obtain ⟨x25, e26, hS⟩ := bn_s hS
      refine ev_iald pm270 i270_49 rfl e26 rfl ?_
      refine ev_aload_n pm270 i270_50 rfl rfl rfl ?_
      obtain ⟨x27, e28, hS⟩ := bn_s hS
      refine ev_getR pm270 i270_51 rfl rfl rfl e28 rfl ?_
      refine ev_iload_n pm270 i270_54 rfl rfl rfl ?_
      obtain ⟨x29, e30, hS⟩ := bn_s hS
      refine ev_iald pm270 i270_55 rfl e30 rfl ?_
      refine ev_aload_n pm270 i270_56 rfl rfl rfl ?_
      obtain ⟨x31, e32, hS⟩ := bn_s hS
      refine ev_getR pm270 i270_57 rfl rfl rfl e32 rfl ?_
      obtain ⟨x33, e34, hS⟩ := bn_s hS
      refine ev_getR pm270 i270_60 rfl rfl rfl e34 rfl ?_
      refine ev_iload_n pm270 i270_63 rfl rfl rfl ?_
      obtain ⟨x35, e36, hS⟩ := bn_s hS
      refine ev_iald pm270 i270_64 rfl e36 rfl ?_
      refine ev_b2 (f := fun x y => x * y) pm270 i270_65 rfl (fun _ _ _ _ => rfl) rfl ?_
      refine ev_b2 (f := fun x y => x + y) pm270 i270_66 rfl (fun _ _ _ _ => rfl) rfl ?_
      obtain ⟨h37, e38, hS⟩ := bn_s hS
      refine ev_iast pm270 i270_67 rfl e38 rfl ?_
      refine ev_iinc (v := 1) (ls' := [.ref l0, .int (s + (1 : Int32))]) pm270 i270_68 rfl rfl (by decide) rfl rfl ?_
      refine ev_goto (t := 6) pm270 i270_71 rfl rfl ?_
      cases hS
      exact hK
    · rw [if_neg c648] at hS
      refine ev_if_le_f (t := 68) pm270 i270_23 rfl c648 rfl rfl ?_
      refine ev_iinc (v := 1) (ls' := [.ref l0, .int (s + (1 : Int32))]) pm270 i270_68 rfl rfl (by decide) rfl rfl ?_
      refine ev_goto (t := 6) pm270 i270_71 rfl rfl ?_
      cases hS
      exact hK
  · rw [if_neg c647] at hS
    refine ev_icmp_ge_f (t := 74) pm270 i270_14 rfl c647 rfl rfl ?_
    refine ev_kls (ls' := [unk, unk]) pm270 i270_74 rfl rfl ?_
    cases hS
    exact hK
def F_md_drinksAll (a0 : Nat) (h : Hp) : Option Hp :=
  ck h a0 13 (bn (F_md_works a0 h) fun h2 =>
  bd (lp (B_md_drinksAll_6 a0) FU (0 : Int32) h2) fun x39 h41 =>
  some h41)
set_option maxRecDepth 20000 in
theorem K_md_drinksAll {a0 : Nat} {h : Hp} {h' : Hp} (hS : F_md_drinksAll a0 h = some h') : kd h a0 = 13 := by
  unfold F_md_drinksAll at hS
  exact (ck_s hS).1
set_option maxRecDepth 20000 in
theorem R_md_drinksAll (d : Nat) (hd : 1 ≤ d) {a0 : Nat} {h : Hp} {h' : Hp} (hS : F_md_drinksAll a0 h = some h') : Ev P d 270 (0, [.ref a0, unk], [], h) (none, h') := by
  unfold F_md_drinksAll at hS
  replace hS := (ck_s hS).2
  refine ev_aload_n pm270 i270_0 rfl rfl rfl ?_
  obtain ⟨h2, e1, hS⟩ := bn_s hS
  refine ev_callV (sa := []) (rest := []) (st' := []) (ls0 := [.ref a0, unk]) (rv := none) pm270 i270_1 rfl rfl pm229 (by decide) (K_md_works e1) rfl rfl (Nat.le_of_ble_eq_true rfl) (by omega) rfl (R_md_works (d - 1) (by omega) e1) (by simp) rfl rfl ?_
  refine ev_iconst (v := 0) pm270 i270_4 rfl (by decide) rfl ?_
  refine ev_istore_n (ls' := [.ref a0, .int (0 : Int32)]) pm270 i270_5 rfl (Nat.le_of_ble_eq_true rfl) rfl rfl ?_
  obtain ⟨x39, h41, e40, hS⟩ := bd_s hS
  refine L_md_drinksAll_6 d (by omega) _ _ _ _ _ e40 _ ?_
  show Ev P d 270 (74, [unk, unk], [], h41) _
  cases hS
  exact ev_return pm270 i270_74 rfl rfl rfl
def B_md_allDry_2 (l0 : Nat) (s : Int32) (h : Hp) : Option (((Int32) ⊕ ((Unit) ⊕ Int32)) × Hp) :=
  bn (gR h l0 13 3) fun x1 =>
  bn (gI h x1 12 5) fun x3 =>
  if s < x3 then
    (bn (F_md_drinksAll l0 h) fun h6 =>
    bn (gR h6 l0 13 3) fun x7 =>
    bn (gR h6 x7 12 20) fun x9 =>
    bn (aI h6 100 x9 s) fun x11 =>
    bn (F_md_softensAll l0 x11 h6) fun h14 =>
    bn (F_md_isDry l0 s h14) fun x16 =>
    if x16 = (0 : Int32) then
      (some (.inr (.inr (0 : Int32)), h14))
    else
      (some (.inl (s + (1 : Int32)), h14)))
  else
    (some (.inr (.inl ()), h))
set_option maxRecDepth 20000 in
theorem L_md_allDry_2 (d : Nat) (hd : 6 ≤ d) {l0 : Nat} : ∀ (n : Nat) (s : Int32) (h : Hp) (x : (Unit) ⊕ Int32) (hx : Hp), lp (B_md_allDry_2 l0) n s h = some (x, hx) → ∀ r, ei x (fun q => Ev P d 271 (46, [unk, unk], [], hx) r) (fun v => (some (.int v), hx) = r) → Ev P d 271 (2, [.ref l0, .int s], [], h) r := by
  refine lp_ev (G0 := fun (s : Int32) h r => Ev P d 271 (2, [.ref l0, .int s], [], h) r) (X := fun (x : (Unit) ⊕ Int32) hx r => ei x (fun q => Ev P d 271 (46, [unk, unk], [], hx) r) (fun v => (some (.int v), hx) = r)) ?_
  intro s h y h9 hS r hK
  unfold B_md_allDry_2 at hS
  show Ev P d 271 (2, [.ref l0, .int s], [], h) r
  refine ev_iload_n pm271 i271_2 rfl rfl rfl ?_
  refine ev_aload_n pm271 i271_3 rfl rfl rfl ?_
  obtain ⟨x1, e2, hS⟩ := bn_s hS
  refine ev_getR pm271 i271_4 rfl rfl rfl e2 rfl ?_
  obtain ⟨x3, e4, hS⟩ := bn_s hS
  refine ev_getI pm271 i271_7 rfl rfl (by decide) e4 rfl ?_
  by_cases c649 : s < x3
  · rw [if_pos c649] at hS
    refine ev_icmp_ge_t (t := 46) pm271 i271_10 rfl c649 rfl rfl ?_
    refine ev_aload_n pm271 i271_13 rfl rfl rfl ?_
    obtain ⟨h6, e5, hS⟩ := bn_s hS
    refine ev_callV (sa := []) (rest := []) (st' := []) (ls0 := [.ref l0, unk]) (rv := none) pm271 i271_14 rfl rfl pm270 (by decide) (K_md_drinksAll e5) rfl rfl (Nat.le_of_ble_eq_true rfl) (by omega) rfl (R_md_drinksAll (d - 1) (by omega) e5) (by simp) rfl rfl ?_
    refine ev_aload_n pm271 i271_17 rfl rfl rfl ?_
    refine ev_aload_n pm271 i271_18 rfl rfl rfl ?_
    obtain ⟨x7, e8, hS⟩ := bn_s hS
    refine ev_getR pm271 i271_19 rfl rfl rfl e8 rfl ?_
    obtain ⟨x9, e10, hS⟩ := bn_s hS
    refine ev_getR pm271 i271_22 rfl rfl rfl e10 rfl ?_
    refine ev_iload_n pm271 i271_25 rfl rfl rfl ?_
    obtain ⟨x11, e12, hS⟩ := bn_s hS
    refine ev_iald pm271 i271_26 rfl e12 rfl ?_
    obtain ⟨h14, e13, hS⟩ := bn_s hS
    refine ev_callV (sa := [.int x11]) (rest := []) (st' := []) (ls0 := [.ref l0, .int x11, unk]) (rv := none) pm271 i271_27 rfl rfl pm253 (by decide) (K_md_softensAll e13) rfl rfl (Nat.le_of_ble_eq_true rfl) (by omega) rfl (R_md_softensAll (d - 1) (by omega) e13) (by simp) rfl rfl ?_
    refine ev_aload_n pm271 i271_30 rfl rfl rfl ?_
    refine ev_iload_n pm271 i271_31 rfl rfl rfl ?_
    obtain ⟨x16, e15, hS⟩ := bn_s hS
    refine ev_callV (sa := [.int s]) (rest := []) (st' := [.int x16]) (ls0 := [.ref l0, .int s]) (rv := some (.int x16)) pm271 i271_32 rfl rfl pm258 (by decide) (K_md_isDry e15) rfl rfl (Nat.le_of_ble_eq_true rfl) (by omega) rfl (R_md_isDry (d - 1) (by omega) e15) (by simp) rfl rfl ?_
    by_cases c650 : x16 = (0 : Int32)
    · rw [if_pos c650] at hS
      refine ev_if_ne_t (t := 40) pm271 i271_35 rfl c650 rfl rfl ?_
      refine ev_iconst (v := 0) pm271 i271_38 rfl (by decide) rfl ?_
      cases hS
      exact ev_ireturn pm271 i271_39 rfl (by decide) hK
    · rw [if_neg c650] at hS
      refine ev_if_ne_f (t := 40) pm271 i271_35 rfl c650 rfl rfl ?_
      refine ev_iinc (v := 1) (ls' := [.ref l0, .int (s + (1 : Int32))]) pm271 i271_40 rfl rfl (by decide) rfl rfl ?_
      refine ev_goto (t := 2) pm271 i271_43 rfl rfl ?_
      cases hS
      exact hK
  · rw [if_neg c649] at hS
    refine ev_icmp_ge_f (t := 46) pm271 i271_10 rfl c649 rfl rfl ?_
    refine ev_kls (ls' := [unk, unk]) pm271 i271_46 rfl rfl ?_
    cases hS
    exact hK
def F_md_allDry (a0 : Nat) (h : Hp) : Option (Int32 × Hp) :=
  ck h a0 13 (bd (lp (B_md_allDry_2 a0) FU (0 : Int32) h) fun x17 h19 =>
  ei x17 (fun q20 =>
  some ((1 : Int32), h19))
  (fun x21 => some (x21, h19)))
set_option maxRecDepth 20000 in
theorem K_md_allDry {a0 : Nat} {h : Hp} {v : Int32} {h' : Hp} (hS : F_md_allDry a0 h = some (v, h')) : kd h a0 = 13 := by
  unfold F_md_allDry at hS
  exact (ck_s hS).1
set_option maxRecDepth 20000 in
theorem R_md_allDry (d : Nat) (hd : 6 ≤ d) {a0 : Nat} {h : Hp} {v : Int32} {h' : Hp} (hS : F_md_allDry a0 h = some (v, h')) : Ev P d 271 (0, [.ref a0, unk], [], h) (some (.int v), h') := by
  unfold F_md_allDry at hS
  replace hS := (ck_s hS).2
  refine ev_iconst (v := 0) pm271 i271_0 rfl (by decide) rfl ?_
  refine ev_istore_n (ls' := [.ref a0, .int (0 : Int32)]) pm271 i271_1 rfl (Nat.le_of_ble_eq_true rfl) rfl rfl ?_
  obtain ⟨x17, h19, e18, hS⟩ := bd_s hS
  refine L_md_allDry_2 d (by omega) _ _ _ _ _ e18 _ ?_
  cases x17 with
  | inl q20 =>
    replace hS := ei_l hS
    show Ev P d 271 (46, [unk, unk], [], h19) _
    refine ev_iconst (v := 1) pm271 i271_46 rfl (by decide) rfl ?_
    cases hS
    exact ev_ireturn pm271 i271_47 rfl (by decide) rfl
  | inr x21 =>
    replace hS := ei_r hS
    cases hS
    rfl
def B_md_plans_71 (l0 : Nat) (l1 : Int32) (l2 : Int32) (l3 : Int32) (l4 : Int32) (s : Int32) (h : Hp) : Option (((Int32) ⊕ (Unit)) × Hp) :=
  bn (gR h l0 13 3) fun x10 =>
  bn (gI h x10 12 4) fun x12 =>
  if s < x12 then
    (bn (gR h l0 13 23) fun x14 =>
    bn (gR h l0 13 21) fun x16 =>
    bn (aI h 100 x16 s) fun x18 =>
    bn (sI h 100 x14 s x18) fun h20 =>
    bn (gR h20 l0 13 24) fun x22 =>
    bn (gR h20 l0 13 22) fun x24 =>
    bn (aI h20 100 x24 s) fun x26 =>
    bn (sI h20 100 x22 s x26) fun h28 =>
    some (.inl (s + (1 : Int32)), h28))
  else
    (some (.inr (), h))
set_option maxRecDepth 20000 in
theorem L_md_plans_71 (d : Nat) (hd : 7 ≤ d) {l0 : Nat} {l1 : Int32} {l2 : Int32} {l3 : Int32} {l4 : Int32} : ∀ (n : Nat) (s : Int32) (h : Hp) (x : Unit) (hx : Hp), lp (B_md_plans_71 l0 l1 l2 l3 l4) n s h = some (x, hx) → ∀ r, Ev P d 266 (117, [.ref l0, .int l1, .int l2, .int l3, .int l4, unk, unk], [], hx) r → Ev P d 266 (71, [.ref l0, .int l1, .int l2, .int l3, .int l4, unk, .int s], [], h) r := by
  refine lp_ev (G0 := fun (s : Int32) h r => Ev P d 266 (71, [.ref l0, .int l1, .int l2, .int l3, .int l4, unk, .int s], [], h) r) (X := fun (x : Unit) hx r => Ev P d 266 (117, [.ref l0, .int l1, .int l2, .int l3, .int l4, unk, unk], [], hx) r) ?_
  intro s h y h9 hS r hK
  unfold B_md_plans_71 at hS
  show Ev P d 266 (71, [.ref l0, .int l1, .int l2, .int l3, .int l4, unk, .int s], [], h) r
  refine ev_iload pm266 i266_71 rfl rfl rfl ?_
  refine ev_aload_n pm266 i266_73 rfl rfl rfl ?_
  obtain ⟨x10, e11, hS⟩ := bn_s hS
  refine ev_getR pm266 i266_74 rfl rfl rfl e11 rfl ?_
  obtain ⟨x12, e13, hS⟩ := bn_s hS
  refine ev_getI pm266 i266_77 rfl rfl (by decide) e13 rfl ?_
  by_cases c651 : s < x12
  · rw [if_pos c651] at hS
    refine ev_icmp_ge_t (t := 117) pm266 i266_80 rfl c651 rfl rfl ?_
    refine ev_aload_n pm266 i266_83 rfl rfl rfl ?_
    obtain ⟨x14, e15, hS⟩ := bn_s hS
    refine ev_getR pm266 i266_84 rfl rfl rfl e15 rfl ?_
    refine ev_iload pm266 i266_87 rfl rfl rfl ?_
    refine ev_aload_n pm266 i266_89 rfl rfl rfl ?_
    obtain ⟨x16, e17, hS⟩ := bn_s hS
    refine ev_getR pm266 i266_90 rfl rfl rfl e17 rfl ?_
    refine ev_iload pm266 i266_93 rfl rfl rfl ?_
    obtain ⟨x18, e19, hS⟩ := bn_s hS
    refine ev_iald pm266 i266_95 rfl e19 rfl ?_
    obtain ⟨h20, e21, hS⟩ := bn_s hS
    refine ev_iast pm266 i266_96 rfl e21 rfl ?_
    refine ev_aload_n pm266 i266_97 rfl rfl rfl ?_
    obtain ⟨x22, e23, hS⟩ := bn_s hS
    refine ev_getR pm266 i266_98 rfl rfl rfl e23 rfl ?_
    refine ev_iload pm266 i266_101 rfl rfl rfl ?_
    refine ev_aload_n pm266 i266_103 rfl rfl rfl ?_
    obtain ⟨x24, e25, hS⟩ := bn_s hS
    refine ev_getR pm266 i266_104 rfl rfl rfl e25 rfl ?_
    refine ev_iload pm266 i266_107 rfl rfl rfl ?_
    obtain ⟨x26, e27, hS⟩ := bn_s hS
    refine ev_iald pm266 i266_109 rfl e27 rfl ?_
    obtain ⟨h28, e29, hS⟩ := bn_s hS
    refine ev_iast pm266 i266_110 rfl e29 rfl ?_
    refine ev_iinc (v := 1) (ls' := [.ref l0, .int l1, .int l2, .int l3, .int l4, unk, .int (s + (1 : Int32))]) pm266 i266_111 rfl rfl (by decide) rfl rfl ?_
    refine ev_goto (t := 71) pm266 i266_114 rfl rfl ?_
    cases hS
    exact hK
  · rw [if_neg c651] at hS
    refine ev_icmp_ge_f (t := 117) pm266 i266_80 rfl c651 rfl rfl ?_
    refine ev_kls (ls' := [.ref l0, .int l1, .int l2, .int l3, .int l4, unk, unk]) pm266 i266_117 rfl rfl ?_
    cases hS
    exact hK
def B_md_plans_6 (l0 : Nat) (l1 : Int32) (l2 : Int32) (s : Int32 × Int32) (h : Hp) : Option (((Int32 × Int32) ⊕ (Int32)) × Hp) :=
  bn (F_md_plansAll l0 l1 h) fun x2 =>
  if s.2 < x2 then
    (bd (F_md_laysPlan l0 s.2 l1 h) fun x4 h5 =>
    if s.1 = (-2 : Int32) then
      (bn (F_md_drinksAll l0 h5) fun h7 =>
      bn (F_md_underNow l0 h7) fun x9 =>
      if x9 = (0 : Int32) then
        (if l2 = (0 : Int32) then
          (bd (lp (B_md_plans_71 l0 l1 l2 x4 s.2) FU (0 : Int32) h7) fun x30 h32 =>
          some (.inl (x4, s.2 + (1 : Int32)), h32))
        else
          (bd (F_md_allDry l0 h7) fun x34 h35 =>
          if x34 = (0 : Int32) then
            (some (.inl (s.1, s.2 + (1 : Int32)), h35))
          else
            (bd (lp (B_md_plans_71 l0 l1 l2 x4 s.2) FU (0 : Int32) h35) fun x56 h58 =>
            some (.inl (x4, s.2 + (1 : Int32)), h58))))
      else
        (some (.inl (s.1, s.2 + (1 : Int32)), h7)))
    else
      (if x4 < s.1 then
        (bn (F_md_drinksAll l0 h5) fun h60 =>
        bn (F_md_underNow l0 h60) fun x62 =>
        if x62 = (0 : Int32) then
          (if l2 = (0 : Int32) then
            (bd (lp (B_md_plans_71 l0 l1 l2 x4 s.2) FU (0 : Int32) h60) fun x83 h85 =>
            some (.inl (x4, s.2 + (1 : Int32)), h85))
          else
            (bd (F_md_allDry l0 h60) fun x87 h88 =>
            if x87 = (0 : Int32) then
              (some (.inl (s.1, s.2 + (1 : Int32)), h88))
            else
              (bd (lp (B_md_plans_71 l0 l1 l2 x4 s.2) FU (0 : Int32) h88) fun x109 h111 =>
              some (.inl (x4, s.2 + (1 : Int32)), h111))))
        else
          (some (.inl (s.1, s.2 + (1 : Int32)), h60)))
      else
        (some (.inl (s.1, s.2 + (1 : Int32)), h5))))
  else
    (some (.inr s.1, h))
set_option maxRecDepth 20000 in
theorem L_md_plans_6 (d : Nat) (hd : 7 ≤ d) {l0 : Nat} {l1 : Int32} {l2 : Int32} : ∀ (n : Nat) (s : Int32 × Int32) (h : Hp) (x : Int32) (hx : Hp), lp (B_md_plans_6 l0 l1 l2) n s h = some (x, hx) → ∀ r, Ev P d 266 (123, [unk, unk, unk, .int x, unk, unk, unk], [], hx) r → Ev P d 266 (6, [.ref l0, .int l1, .int l2, .int s.1, .int s.2, unk, unk], [], h) r := by
  refine lp_ev (G0 := fun (s : Int32 × Int32) h r => Ev P d 266 (6, [.ref l0, .int l1, .int l2, .int s.1, .int s.2, unk, unk], [], h) r) (X := fun (x : Int32) hx r => Ev P d 266 (123, [unk, unk, unk, .int x, unk, unk, unk], [], hx) r) ?_
  intro s h y h9 hS r hK
  unfold B_md_plans_6 at hS
  show Ev P d 266 (6, [.ref l0, .int l1, .int l2, .int s.1, .int s.2, unk, unk], [], h) r
  refine ev_iload pm266 i266_6 rfl rfl rfl ?_
  refine ev_aload_n pm266 i266_8 rfl rfl rfl ?_
  refine ev_iload_n pm266 i266_9 rfl rfl rfl ?_
  obtain ⟨x2, e1, hS⟩ := bn_s hS
  refine ev_callV (sa := [.int l1]) (rest := [.int s.2]) (st' := [.int x2, .int s.2]) (ls0 := [.ref l0, .int l1, unk, unk]) (rv := some (.int x2)) pm266 i266_10 rfl rfl pm267 (by decide) (K_md_plansAll e1) rfl rfl (Nat.le_of_ble_eq_true rfl) (by omega) rfl (R_md_plansAll (d - 1) (by omega) e1) (by simp) rfl rfl ?_
  by_cases c655 : s.2 < x2
  · rw [if_pos c655] at hS
    refine ev_icmp_ge_t (t := 123) pm266 i266_13 rfl c655 rfl rfl ?_
    refine ev_aload_n pm266 i266_16 rfl rfl rfl ?_
    refine ev_iload pm266 i266_17 rfl rfl rfl ?_
    refine ev_iload_n pm266 i266_19 rfl rfl rfl ?_
    obtain ⟨x4, h5, e3, hS⟩ := bd_s hS
    refine ev_callV (sa := [.int l1, .int s.2]) (rest := []) (st' := [.int x4]) (ls0 := [.ref l0, .int s.2, .int l1, unk, unk, unk, unk]) (rv := some (.int x4)) pm266 i266_20 rfl rfl pm269 (by decide) (K_md_laysPlan e3) rfl rfl (Nat.le_of_ble_eq_true rfl) (by omega) rfl (R_md_laysPlan (d - 1) (by omega) e3) (by simp) rfl rfl ?_
    refine ev_istore (ls' := [.ref l0, .int l1, .int l2, .int s.1, .int s.2, .int x4, unk]) pm266 i266_23 rfl (Nat.le_of_ble_eq_true rfl) rfl rfl ?_
    refine ev_iload_n pm266 i266_25 rfl rfl rfl ?_
    refine ev_bipush (v := -2) pm266 i266_26 rfl (by decide) rfl ?_
    by_cases c656 : s.1 = (-2 : Int32)
    · rw [if_pos c656] at hS
      refine ev_icmp_eq_t (t := 40) pm266 i266_28 rfl c656 rfl rfl ?_
      refine ev_aload_n pm266 i266_40 rfl rfl rfl ?_
      obtain ⟨h7, e6, hS⟩ := bn_s hS
      refine ev_callV (sa := []) (rest := []) (st' := []) (ls0 := [.ref l0, unk]) (rv := none) pm266 i266_41 rfl rfl pm270 (by decide) (K_md_drinksAll e6) rfl rfl (Nat.le_of_ble_eq_true rfl) (by omega) rfl (R_md_drinksAll (d - 1) (by omega) e6) (by simp) rfl rfl ?_
      refine ev_aload_n pm266 i266_44 rfl rfl rfl ?_
      obtain ⟨x9, e8, hS⟩ := bn_s hS
      refine ev_callV (sa := []) (rest := []) (st' := [.int x9]) (ls0 := [.ref l0, unk, unk]) (rv := some (.int x9)) pm266 i266_45 rfl rfl pm246 (by decide) (K_md_underNow e8) rfl rfl (Nat.le_of_ble_eq_true rfl) (by omega) rfl (R_md_underNow (d - 1) (by omega) e8) (by simp) rfl rfl ?_
      by_cases c657 : x9 = (0 : Int32)
      · rw [if_pos c657] at hS
        refine ev_if_ne_t (t := 117) pm266 i266_48 rfl c657 rfl rfl ?_
        refine ev_iload_n pm266 i266_51 rfl rfl rfl ?_
        by_cases c658 : l2 = (0 : Int32)
        · rw [if_pos c658] at hS
          refine ev_if_eq_t (t := 65) pm266 i266_52 rfl c658 rfl rfl ?_
          refine ev_kls (ls' := [.ref l0, .int l1, .int l2, unk, .int s.2, .int x4, unk]) pm266 i266_65 rfl rfl ?_
          refine ev_iload pm266 i266_65 rfl rfl rfl ?_
          refine ev_istore_n (ls' := [.ref l0, .int l1, .int l2, .int x4, .int s.2, .int x4, unk]) pm266 i266_67 rfl (Nat.le_of_ble_eq_true rfl) rfl rfl ?_
          refine ev_iconst (v := 0) pm266 i266_68 rfl (by decide) rfl ?_
          refine ev_istore (ls' := [.ref l0, .int l1, .int l2, .int x4, .int s.2, .int x4, .int (0 : Int32)]) pm266 i266_69 rfl (Nat.le_of_ble_eq_true rfl) rfl rfl ?_
          refine ev_kls (ls' := [.ref l0, .int l1, .int l2, .int x4, .int s.2, unk, .int (0 : Int32)]) pm266 i266_71 rfl rfl ?_
          obtain ⟨x30, h32, e31, hS⟩ := bd_s hS
          refine L_md_plans_71 d (by omega) _ _ _ _ _ e31 _ ?_
          show Ev P d 266 (117, [.ref l0, .int l1, .int l2, .int x4, .int s.2, unk, unk], [], h32) _
          refine ev_iinc (v := 1) (ls' := [.ref l0, .int l1, .int l2, .int x4, .int (s.2 + (1 : Int32)), unk, unk]) pm266 i266_117 rfl rfl (by decide) rfl rfl ?_
          refine ev_goto (t := 6) pm266 i266_120 rfl rfl ?_
          cases hS
          exact hK
        · rw [if_neg c658] at hS
          refine ev_if_eq_f (t := 65) pm266 i266_52 rfl c658 rfl rfl ?_
          refine ev_aload_n pm266 i266_55 rfl rfl rfl ?_
          obtain ⟨x34, h35, e33, hS⟩ := bd_s hS
          refine ev_callV (sa := []) (rest := []) (st' := [.int x34]) (ls0 := [.ref l0, unk]) (rv := some (.int x34)) pm266 i266_56 rfl rfl pm271 (by decide) (K_md_allDry e33) rfl rfl (Nat.le_of_ble_eq_true rfl) (by omega) rfl (R_md_allDry (d - 1) (by omega) e33) (by simp) rfl rfl ?_
          by_cases c659 : x34 = (0 : Int32)
          · rw [if_pos c659] at hS
            refine ev_if_ne_t (t := 65) pm266 i266_59 rfl c659 rfl rfl ?_
            refine ev_goto (t := 117) pm266 i266_62 rfl rfl ?_
            refine ev_kls (ls' := [.ref l0, .int l1, .int l2, .int s.1, .int s.2, unk, unk]) pm266 i266_117 rfl rfl ?_
            refine ev_iinc (v := 1) (ls' := [.ref l0, .int l1, .int l2, .int s.1, .int (s.2 + (1 : Int32)), unk, unk]) pm266 i266_117 rfl rfl (by decide) rfl rfl ?_
            refine ev_goto (t := 6) pm266 i266_120 rfl rfl ?_
            cases hS
            exact hK
          · rw [if_neg c659] at hS
            refine ev_if_ne_f (t := 65) pm266 i266_59 rfl c659 rfl rfl ?_
            refine ev_kls (ls' := [.ref l0, .int l1, .int l2, unk, .int s.2, .int x4, unk]) pm266 i266_65 rfl rfl ?_
            refine ev_iload pm266 i266_65 rfl rfl rfl ?_
            refine ev_istore_n (ls' := [.ref l0, .int l1, .int l2, .int x4, .int s.2, .int x4, unk]) pm266 i266_67 rfl (Nat.le_of_ble_eq_true rfl) rfl rfl ?_
            refine ev_iconst (v := 0) pm266 i266_68 rfl (by decide) rfl ?_
            refine ev_istore (ls' := [.ref l0, .int l1, .int l2, .int x4, .int s.2, .int x4, .int (0 : Int32)]) pm266 i266_69 rfl (Nat.le_of_ble_eq_true rfl) rfl rfl ?_
            refine ev_kls (ls' := [.ref l0, .int l1, .int l2, .int x4, .int s.2, unk, .int (0 : Int32)]) pm266 i266_71 rfl rfl ?_
            obtain ⟨x56, h58, e57, hS⟩ := bd_s hS
            refine L_md_plans_71 d (by omega) _ _ _ _ _ e57 _ ?_
            show Ev P d 266 (117, [.ref l0, .int l1, .int l2, .int x4, .int s.2, unk, unk], [], h58) _
            refine ev_iinc (v := 1) (ls' := [.ref l0, .int l1, .int l2, .int x4, .int (s.2 + (1 : Int32)), unk, unk]) pm266 i266_117 rfl rfl (by decide) rfl rfl ?_
            refine ev_goto (t := 6) pm266 i266_120 rfl rfl ?_
            cases hS
            exact hK
      · rw [if_neg c657] at hS
        refine ev_if_ne_f (t := 117) pm266 i266_48 rfl c657 rfl rfl ?_
        refine ev_kls (ls' := [.ref l0, .int l1, .int l2, .int s.1, .int s.2, unk, unk]) pm266 i266_117 rfl rfl ?_
        refine ev_iinc (v := 1) (ls' := [.ref l0, .int l1, .int l2, .int s.1, .int (s.2 + (1 : Int32)), unk, unk]) pm266 i266_117 rfl rfl (by decide) rfl rfl ?_
        refine ev_goto (t := 6) pm266 i266_120 rfl rfl ?_
        cases hS
        exact hK
    · rw [if_neg c656] at hS
      refine ev_icmp_eq_f (t := 40) pm266 i266_28 rfl c656 rfl rfl ?_
      refine ev_iload pm266 i266_31 rfl rfl rfl ?_
      refine ev_iload_n pm266 i266_33 rfl rfl rfl ?_
      by_cases c660 : x4 < s.1
      · rw [if_pos c660] at hS
        refine ev_icmp_lt_t (t := 40) pm266 i266_34 rfl c660 rfl rfl ?_
        refine ev_aload_n pm266 i266_40 rfl rfl rfl ?_
        obtain ⟨h60, e59, hS⟩ := bn_s hS
        refine ev_callV (sa := []) (rest := []) (st' := []) (ls0 := [.ref l0, unk]) (rv := none) pm266 i266_41 rfl rfl pm270 (by decide) (K_md_drinksAll e59) rfl rfl (Nat.le_of_ble_eq_true rfl) (by omega) rfl (R_md_drinksAll (d - 1) (by omega) e59) (by simp) rfl rfl ?_
        refine ev_aload_n pm266 i266_44 rfl rfl rfl ?_
        obtain ⟨x62, e61, hS⟩ := bn_s hS
        refine ev_callV (sa := []) (rest := []) (st' := [.int x62]) (ls0 := [.ref l0, unk, unk]) (rv := some (.int x62)) pm266 i266_45 rfl rfl pm246 (by decide) (K_md_underNow e61) rfl rfl (Nat.le_of_ble_eq_true rfl) (by omega) rfl (R_md_underNow (d - 1) (by omega) e61) (by simp) rfl rfl ?_
        by_cases c661 : x62 = (0 : Int32)
        · rw [if_pos c661] at hS
          refine ev_if_ne_t (t := 117) pm266 i266_48 rfl c661 rfl rfl ?_
          refine ev_iload_n pm266 i266_51 rfl rfl rfl ?_
          by_cases c662 : l2 = (0 : Int32)
          · rw [if_pos c662] at hS
            refine ev_if_eq_t (t := 65) pm266 i266_52 rfl c662 rfl rfl ?_
            refine ev_kls (ls' := [.ref l0, .int l1, .int l2, unk, .int s.2, .int x4, unk]) pm266 i266_65 rfl rfl ?_
            refine ev_iload pm266 i266_65 rfl rfl rfl ?_
            refine ev_istore_n (ls' := [.ref l0, .int l1, .int l2, .int x4, .int s.2, .int x4, unk]) pm266 i266_67 rfl (Nat.le_of_ble_eq_true rfl) rfl rfl ?_
            refine ev_iconst (v := 0) pm266 i266_68 rfl (by decide) rfl ?_
            refine ev_istore (ls' := [.ref l0, .int l1, .int l2, .int x4, .int s.2, .int x4, .int (0 : Int32)]) pm266 i266_69 rfl (Nat.le_of_ble_eq_true rfl) rfl rfl ?_
            refine ev_kls (ls' := [.ref l0, .int l1, .int l2, .int x4, .int s.2, unk, .int (0 : Int32)]) pm266 i266_71 rfl rfl ?_
            obtain ⟨x83, h85, e84, hS⟩ := bd_s hS
            refine L_md_plans_71 d (by omega) _ _ _ _ _ e84 _ ?_
            show Ev P d 266 (117, [.ref l0, .int l1, .int l2, .int x4, .int s.2, unk, unk], [], h85) _
            refine ev_iinc (v := 1) (ls' := [.ref l0, .int l1, .int l2, .int x4, .int (s.2 + (1 : Int32)), unk, unk]) pm266 i266_117 rfl rfl (by decide) rfl rfl ?_
            refine ev_goto (t := 6) pm266 i266_120 rfl rfl ?_
            cases hS
            exact hK
          · rw [if_neg c662] at hS
            refine ev_if_eq_f (t := 65) pm266 i266_52 rfl c662 rfl rfl ?_
            refine ev_aload_n pm266 i266_55 rfl rfl rfl ?_
            obtain ⟨x87, h88, e86, hS⟩ := bd_s hS
            refine ev_callV (sa := []) (rest := []) (st' := [.int x87]) (ls0 := [.ref l0, unk]) (rv := some (.int x87)) pm266 i266_56 rfl rfl pm271 (by decide) (K_md_allDry e86) rfl rfl (Nat.le_of_ble_eq_true rfl) (by omega) rfl (R_md_allDry (d - 1) (by omega) e86) (by simp) rfl rfl ?_
            by_cases c663 : x87 = (0 : Int32)
            · rw [if_pos c663] at hS
              refine ev_if_ne_t (t := 65) pm266 i266_59 rfl c663 rfl rfl ?_
              refine ev_goto (t := 117) pm266 i266_62 rfl rfl ?_
              refine ev_kls (ls' := [.ref l0, .int l1, .int l2, .int s.1, .int s.2, unk, unk]) pm266 i266_117 rfl rfl ?_
              refine ev_iinc (v := 1) (ls' := [.ref l0, .int l1, .int l2, .int s.1, .int (s.2 + (1 : Int32)), unk, unk]) pm266 i266_117 rfl rfl (by decide) rfl rfl ?_
              refine ev_goto (t := 6) pm266 i266_120 rfl rfl ?_
              cases hS
              exact hK
            · rw [if_neg c663] at hS
              refine ev_if_ne_f (t := 65) pm266 i266_59 rfl c663 rfl rfl ?_
              refine ev_kls (ls' := [.ref l0, .int l1, .int l2, unk, .int s.2, .int x4, unk]) pm266 i266_65 rfl rfl ?_
              refine ev_iload pm266 i266_65 rfl rfl rfl ?_
              refine ev_istore_n (ls' := [.ref l0, .int l1, .int l2, .int x4, .int s.2, .int x4, unk]) pm266 i266_67 rfl (Nat.le_of_ble_eq_true rfl) rfl rfl ?_
              refine ev_iconst (v := 0) pm266 i266_68 rfl (by decide) rfl ?_
              refine ev_istore (ls' := [.ref l0, .int l1, .int l2, .int x4, .int s.2, .int x4, .int (0 : Int32)]) pm266 i266_69 rfl (Nat.le_of_ble_eq_true rfl) rfl rfl ?_
              refine ev_kls (ls' := [.ref l0, .int l1, .int l2, .int x4, .int s.2, unk, .int (0 : Int32)]) pm266 i266_71 rfl rfl ?_
              obtain ⟨x109, h111, e110, hS⟩ := bd_s hS
              refine L_md_plans_71 d (by omega) _ _ _ _ _ e110 _ ?_
              show Ev P d 266 (117, [.ref l0, .int l1, .int l2, .int x4, .int s.2, unk, unk], [], h111) _
              refine ev_iinc (v := 1) (ls' := [.ref l0, .int l1, .int l2, .int x4, .int (s.2 + (1 : Int32)), unk, unk]) pm266 i266_117 rfl rfl (by decide) rfl rfl ?_
              refine ev_goto (t := 6) pm266 i266_120 rfl rfl ?_
              cases hS
              exact hK
        · rw [if_neg c661] at hS
          refine ev_if_ne_f (t := 117) pm266 i266_48 rfl c661 rfl rfl ?_
          refine ev_kls (ls' := [.ref l0, .int l1, .int l2, .int s.1, .int s.2, unk, unk]) pm266 i266_117 rfl rfl ?_
          refine ev_iinc (v := 1) (ls' := [.ref l0, .int l1, .int l2, .int s.1, .int (s.2 + (1 : Int32)), unk, unk]) pm266 i266_117 rfl rfl (by decide) rfl rfl ?_
          refine ev_goto (t := 6) pm266 i266_120 rfl rfl ?_
          cases hS
          exact hK
      · rw [if_neg c660] at hS
        refine ev_icmp_lt_f (t := 40) pm266 i266_34 rfl c660 rfl rfl ?_
        refine ev_goto (t := 117) pm266 i266_37 rfl rfl ?_
        refine ev_kls (ls' := [.ref l0, .int l1, .int l2, .int s.1, .int s.2, unk, unk]) pm266 i266_117 rfl rfl ?_
        refine ev_iinc (v := 1) (ls' := [.ref l0, .int l1, .int l2, .int s.1, .int (s.2 + (1 : Int32)), unk, unk]) pm266 i266_117 rfl rfl (by decide) rfl rfl ?_
        refine ev_goto (t := 6) pm266 i266_120 rfl rfl ?_
        cases hS
        exact hK
  · rw [if_neg c655] at hS
    refine ev_icmp_ge_f (t := 123) pm266 i266_13 rfl c655 rfl rfl ?_
    refine ev_kls (ls' := [unk, unk, unk, .int s.1, unk, unk, unk]) pm266 i266_123 rfl rfl ?_
    cases hS
    exact hK
def F_md_plans (a0 : Nat) (a1 : Int32) (a2 : Int32) (h : Hp) : Option (Int32 × Hp) :=
  ck h a0 13 (bd (lp (B_md_plans_6 a0 a1 a2) FU ((-2 : Int32), (0 : Int32)) h) fun x112 h114 =>
  some (x112, h114))
set_option maxRecDepth 20000 in
theorem K_md_plans {a0 : Nat} {a1 : Int32} {a2 : Int32} {h : Hp} {v : Int32} {h' : Hp} (hS : F_md_plans a0 a1 a2 h = some (v, h')) : kd h a0 = 13 := by
  unfold F_md_plans at hS
  exact (ck_s hS).1
set_option maxRecDepth 20000 in
theorem R_md_plans (d : Nat) (hd : 7 ≤ d) {a0 : Nat} {a1 : Int32} {a2 : Int32} {h : Hp} {v : Int32} {h' : Hp} (hS : F_md_plans a0 a1 a2 h = some (v, h')) : Ev P d 266 (0, [.ref a0, .int a1, .int a2, unk, unk, unk, unk], [], h) (some (.int v), h') := by
  unfold F_md_plans at hS
  replace hS := (ck_s hS).2
  refine ev_bipush (v := -2) pm266 i266_0 rfl (by decide) rfl ?_
  refine ev_istore_n (ls' := [.ref a0, .int a1, .int a2, .int (-2 : Int32), unk, unk, unk]) pm266 i266_2 rfl (Nat.le_of_ble_eq_true rfl) rfl rfl ?_
  refine ev_iconst (v := 0) pm266 i266_3 rfl (by decide) rfl ?_
  refine ev_istore (ls' := [.ref a0, .int a1, .int a2, .int (-2 : Int32), .int (0 : Int32), unk, unk]) pm266 i266_4 rfl (Nat.le_of_ble_eq_true rfl) rfl rfl ?_
  obtain ⟨x112, h114, e113, hS⟩ := bd_s hS
  refine L_md_plans_6 d (by omega) _ _ _ _ _ e113 _ ?_
  show Ev P d 266 (123, [unk, unk, unk, .int x112, unk, unk, unk], [], h114) _
  refine ev_iload_n pm266 i266_123 rfl rfl rfl ?_
  cases hS
  exact ev_ireturn pm266 i266_124 rfl rfl rfl
def F_md_plan (a0 : Nat) (a1 : Int32) (h : Hp) : Option (Int32 × Hp) :=
  ck h a0 13 (bn (pI h a0 13 0 (0 : Int32)) fun h1 =>
  bn (gQ h1 a0 13 3) fun x3 =>
  bn (if x3 = none then
      (some (0 : Int32))
    else
      (some (1 : Int32))) fun q5 =>
  bn (F_md_refusesDays a0 q5 a1 h1) fun x7 =>
  if (0 : Int32) < x7 then
    (bd (F_md_refused a0 x7 h1) fun x9 h10 =>
    some (x9, h10))
  else
    (bd (F_md_plans a0 a1 (0 : Int32) h1) fun x12 h13 =>
    bd (F_md_good a0 x12 h13) fun x15 h16 =>
    some (x15, h16)))
set_option maxRecDepth 20000 in
theorem K_md_plan {a0 : Nat} {a1 : Int32} {h : Hp} {v : Int32} {h' : Hp} (hS : F_md_plan a0 a1 h = some (v, h')) : kd h a0 = 13 := by
  unfold F_md_plan at hS
  exact (ck_s hS).1
set_option maxRecDepth 20000 in
theorem R_md_plan (d : Nat) (hd : 8 ≤ d) {a0 : Nat} {a1 : Int32} {h : Hp} {v : Int32} {h' : Hp} (hS : F_md_plan a0 a1 h = some (v, h')) : Ev P d 264 (0, [.ref a0, .int a1, unk], [], h) (some (.int v), h') := by
  unfold F_md_plan at hS
  replace hS := (ck_s hS).2
  refine ev_aload_n pm264 i264_0 rfl rfl rfl ?_
  refine ev_iconst (v := 0) pm264 i264_1 rfl (by decide) rfl ?_
  obtain ⟨h1, e2, hS⟩ := bn_s hS
  refine ev_putI pm264 i264_2 rfl rfl rfl e2 rfl ?_
  refine ev_aload_n pm264 i264_5 rfl rfl rfl ?_
  refine ev_aload_n pm264 i264_6 rfl rfl rfl ?_
  obtain ⟨x3, e4, hS⟩ := bn_s hS
  refine ev_getQ pm264 i264_7 rfl rfl rfl e4 rfl ?_
  obtain ⟨q5, I664, hS⟩ := bn_s hS
  have J1 : Ev P d 264 (18, [.ref a0, .int a1, unk], [.int q5, .ref a0], h1) (some (.int v), h') := by
    refine ev_iload_n pm264 i264_18 rfl rfl rfl ?_
    obtain ⟨x7, e6, hS⟩ := bn_s hS
    refine ev_callV (sa := [.int a1, .int q5]) (rest := []) (st' := [.int x7]) (ls0 := [.ref a0, .int q5, .int a1]) (rv := some (.int x7)) pm264 i264_19 rfl rfl pm265 (by decide) (K_md_refusesDays e6) rfl rfl (Nat.le_of_ble_eq_true rfl) (by omega) rfl (R_md_refusesDays (d - 1) (by omega) e6) (by simp) rfl rfl ?_
    refine ev_istore_n (ls' := [.ref a0, .int a1, .int x7]) pm264 i264_22 rfl (Nat.le_of_ble_eq_true rfl) rfl rfl ?_
    refine ev_iload_n pm264 i264_23 rfl rfl rfl ?_
    by_cases c665 : (0 : Int32) < x7
    · rw [if_pos c665] at hS
      refine ev_if_le_t (t := 35) pm264 i264_24 rfl c665 rfl rfl ?_
      refine ev_aload_n pm264 i264_27 rfl rfl rfl ?_
      refine ev_iload_n pm264 i264_28 rfl rfl rfl ?_
      obtain ⟨x9, h10, e8, hS⟩ := bd_s hS
      refine ev_callV (sa := [.int x7]) (rest := []) (st' := [.int x9]) (ls0 := [.ref a0, .int x7]) (rv := some (.int x9)) pm264 i264_29 rfl rfl pm186 (by decide) (K_md_refused e8) rfl rfl (Nat.le_of_ble_eq_true rfl) (by omega) rfl (R_md_refused (d - 1) (by omega) e8) (by simp) rfl rfl ?_
      refine ev_goto (t := 45) pm264 i264_32 rfl rfl ?_
      refine ev_kls (ls' := [unk, unk, unk]) pm264 i264_45 rfl rfl ?_
      cases hS
      exact ev_ireturn pm264 i264_45 rfl rfl rfl
    · rw [if_neg c665] at hS
      refine ev_if_le_f (t := 35) pm264 i264_24 rfl c665 rfl rfl ?_
      refine ev_aload_n pm264 i264_35 rfl rfl rfl ?_
      refine ev_aload_n pm264 i264_36 rfl rfl rfl ?_
      refine ev_iload_n pm264 i264_37 rfl rfl rfl ?_
      refine ev_iconst (v := 0) pm264 i264_38 rfl (by decide) rfl ?_
      obtain ⟨x12, h13, e11, hS⟩ := bd_s hS
      refine ev_callV (sa := [.int (0 : Int32), .int a1]) (rest := [.ref a0]) (st' := [.int x12, .ref a0]) (ls0 := [.ref a0, .int a1, .int (0 : Int32), unk, unk, unk, unk]) (rv := some (.int x12)) pm264 i264_39 rfl rfl pm266 (by decide) (K_md_plans e11) rfl rfl (Nat.le_of_ble_eq_true rfl) (by omega) rfl (R_md_plans (d - 1) (by omega) e11) (by simp) rfl rfl ?_
      obtain ⟨x15, h16, e14, hS⟩ := bd_s hS
      refine ev_callV (sa := [.int x12]) (rest := []) (st' := [.int x15]) (ls0 := [.ref a0, .int x12]) (rv := some (.int x15)) pm264 i264_42 rfl rfl pm224 (by decide) (K_md_good e14) rfl rfl (Nat.le_of_ble_eq_true rfl) (by omega) rfl (R_md_good (d - 1) (by omega) e14) (by simp) rfl rfl ?_
      refine ev_kls (ls' := [unk, unk, unk]) pm264 i264_45 rfl rfl ?_
      cases hS
      exact ev_ireturn pm264 i264_45 rfl rfl rfl
  clear hS
  by_cases c664 : x3 = none
  · rw [if_pos c664] at I664
    subst c664
    refine ev_nullT (t := 17) pm264 i264_10 rfl rfl ?_
    refine ev_iconst (v := 0) pm264 i264_17 rfl (by decide) rfl ?_
    cases I664
    exact J1
  · rw [if_neg c664] at I664
    obtain ⟨_, rfl⟩ := Option.ne_none_iff_exists'.mp c664
    refine ev_nullF pm264 i264_10 rfl rfl ?_
    refine ev_iconst (v := 1) pm264 i264_13 rfl (by decide) rfl ?_
    refine ev_goto (t := 18) pm264 i264_14 rfl rfl ?_
    cases I664
    exact J1
def F_md_isDrinker (a0 : Nat) (a1 : Int32) (h : Hp) : Option Int32 :=
  ck h a0 13 (bn (gQ h a0 13 3) fun x1 =>
  if x1 = none then
    (some (0 : Int32))
  else
    (if a1 < (0 : Int32) then
      (some (0 : Int32))
    else
      (bn (gR h a0 13 3) fun x3 =>
      bn (gI h x3 12 4) fun x5 =>
      if a1 < x5 then
        (some (1 : Int32))
      else
        (some (0 : Int32)))))
set_option maxRecDepth 20000 in
theorem K_md_isDrinker {a0 : Nat} {a1 : Int32} {h : Hp} {v : Int32} (hS : F_md_isDrinker a0 a1 h = some v) : kd h a0 = 13 := by
  unfold F_md_isDrinker at hS
  exact (ck_s hS).1
set_option maxRecDepth 20000 in
theorem R_md_isDrinker (d : Nat) (hd : 0 ≤ d) {a0 : Nat} {a1 : Int32} {h : Hp} {v : Int32} (hS : F_md_isDrinker a0 a1 h = some v) : Ev P d 273 (0, [.ref a0, .int a1], [], h) (some (.int v), h) := by
  unfold F_md_isDrinker at hS
  replace hS := (ck_s hS).2
  refine ev_aload_n pm273 i273_0 rfl rfl rfl ?_
  obtain ⟨x1, e2, hS⟩ := bn_s hS
  refine ev_getQ pm273 i273_1 rfl rfl rfl e2 rfl ?_
  by_cases c666 : x1 = none
  · rw [if_pos c666] at hS
    subst c666
    refine ev_nullT (t := 26) pm273 i273_4 rfl rfl ?_
    refine ev_kls (ls' := [unk, unk]) pm273 i273_26 rfl rfl ?_
    refine ev_iconst (v := 0) pm273 i273_26 rfl (by decide) rfl ?_
    cases hS
    exact ev_ireturn pm273 i273_27 rfl (by decide) rfl
  · rw [if_neg c666] at hS
    obtain ⟨_, rfl⟩ := Option.ne_none_iff_exists'.mp c666
    refine ev_nullF pm273 i273_4 rfl rfl ?_
    refine ev_iload_n pm273 i273_7 rfl rfl rfl ?_
    by_cases c667 : a1 < (0 : Int32)
    · rw [if_pos c667] at hS
      refine ev_if_lt_t (t := 26) pm273 i273_8 rfl c667 rfl rfl ?_
      refine ev_kls (ls' := [unk, unk]) pm273 i273_26 rfl rfl ?_
      refine ev_iconst (v := 0) pm273 i273_26 rfl (by decide) rfl ?_
      cases hS
      exact ev_ireturn pm273 i273_27 rfl (by decide) rfl
    · rw [if_neg c667] at hS
      refine ev_if_lt_f (t := 26) pm273 i273_8 rfl c667 rfl rfl ?_
      refine ev_iload_n pm273 i273_11 rfl rfl rfl ?_
      refine ev_aload_n pm273 i273_12 rfl rfl rfl ?_
      obtain ⟨x3, e4, hS⟩ := bn_s hS
      refine ev_getR pm273 i273_13 rfl rfl rfl e4 rfl ?_
      obtain ⟨x5, e6, hS⟩ := bn_s hS
      refine ev_getI pm273 i273_16 rfl rfl (by decide) e6 rfl ?_
      by_cases c668 : a1 < x5
      · rw [if_pos c668] at hS
        refine ev_icmp_ge_t (t := 26) pm273 i273_19 rfl c668 rfl rfl ?_
        refine ev_iconst (v := 1) pm273 i273_22 rfl (by decide) rfl ?_
        refine ev_goto (t := 27) pm273 i273_23 rfl rfl ?_
        refine ev_kls (ls' := [unk, unk]) pm273 i273_27 rfl rfl ?_
        cases hS
        exact ev_ireturn pm273 i273_27 rfl (by decide) rfl
      · rw [if_neg c668] at hS
        refine ev_icmp_ge_f (t := 26) pm273 i273_19 rfl c668 rfl rfl ?_
        refine ev_kls (ls' := [unk, unk]) pm273 i273_26 rfl rfl ?_
        refine ev_iconst (v := 0) pm273 i273_26 rfl (by decide) rfl ?_
        cases hS
        exact ev_ireturn pm273 i273_27 rfl (by decide) rfl
def F_md_planDays (a0 : Nat) (a1 : Int32) (a2 : Int32) (h : Hp) : Option (Int32 × Hp) :=
  ck h a0 13 (bn (pI h a0 13 0 (0 : Int32)) fun h1 =>
  bn (F_md_isDrinker a0 a1 h1) fun x4 =>
  bn (F_md_refusesDays a0 x4 a2 h1) fun x6 =>
  if (0 : Int32) < x6 then
    (bd (F_md_refused a0 x6 h1) fun x8 h9 =>
    some (x8, h9))
  else
    (bd (F_md_plans a0 a2 (0 : Int32) h1) fun x11 h12 =>
    bn (if x11 = (-2 : Int32) then
        (some (-2 : Int32))
      else
        (bn (gR h12 a0 13 23) fun x13 =>
        bn (aI h12 100 x13 a1) fun x15 =>
        some x15)) fun q17 =>
    bd (F_md_good a0 q17 h12) fun x19 h20 =>
    some (x19, h20)))
set_option maxRecDepth 20000 in
theorem K_md_planDays {a0 : Nat} {a1 : Int32} {a2 : Int32} {h : Hp} {v : Int32} {h' : Hp} (hS : F_md_planDays a0 a1 a2 h = some (v, h')) : kd h a0 = 13 := by
  unfold F_md_planDays at hS
  exact (ck_s hS).1
set_option maxRecDepth 20000 in
theorem R_md_planDays (d : Nat) (hd : 8 ≤ d) {a0 : Nat} {a1 : Int32} {a2 : Int32} {h : Hp} {v : Int32} {h' : Hp} (hS : F_md_planDays a0 a1 a2 h = some (v, h')) : Ev P d 272 (0, [.ref a0, .int a1, .int a2, unk], [], h) (some (.int v), h') := by
  unfold F_md_planDays at hS
  replace hS := (ck_s hS).2
  refine ev_aload_n pm272 i272_0 rfl rfl rfl ?_
  refine ev_iconst (v := 0) pm272 i272_1 rfl (by decide) rfl ?_
  obtain ⟨h1, e2, hS⟩ := bn_s hS
  refine ev_putI pm272 i272_2 rfl rfl rfl e2 rfl ?_
  refine ev_aload_n pm272 i272_5 rfl rfl rfl ?_
  refine ev_aload_n pm272 i272_6 rfl rfl rfl ?_
  refine ev_iload_n pm272 i272_7 rfl rfl rfl ?_
  obtain ⟨x4, e3, hS⟩ := bn_s hS
  refine ev_callV (sa := [.int a1]) (rest := [.ref a0]) (st' := [.int x4, .ref a0]) (ls0 := [.ref a0, .int a1]) (rv := some (.int x4)) pm272 i272_8 rfl rfl pm273 (by decide) (K_md_isDrinker e3) rfl rfl (Nat.le_of_ble_eq_true rfl) (by omega) rfl (R_md_isDrinker (d - 1) (by omega) e3) (by simp) rfl rfl ?_
  refine ev_iload_n pm272 i272_11 rfl rfl rfl ?_
  obtain ⟨x6, e5, hS⟩ := bn_s hS
  refine ev_callV (sa := [.int a2, .int x4]) (rest := []) (st' := [.int x6]) (ls0 := [.ref a0, .int x4, .int a2]) (rv := some (.int x6)) pm272 i272_12 rfl rfl pm265 (by decide) (K_md_refusesDays e5) rfl rfl (Nat.le_of_ble_eq_true rfl) (by omega) rfl (R_md_refusesDays (d - 1) (by omega) e5) (by simp) rfl rfl ?_
  refine ev_istore_n (ls' := [.ref a0, .int a1, .int a2, .int x6]) pm272 i272_15 rfl (Nat.le_of_ble_eq_true rfl) rfl rfl ?_
  refine ev_iload_n pm272 i272_16 rfl rfl rfl ?_
  by_cases c669 : (0 : Int32) < x6
  · rw [if_pos c669] at hS
    refine ev_if_le_t (t := 26) pm272 i272_17 rfl c669 rfl rfl ?_
    refine ev_aload_n pm272 i272_20 rfl rfl rfl ?_
    refine ev_iload_n pm272 i272_21 rfl rfl rfl ?_
    obtain ⟨x8, h9, e7, hS⟩ := bd_s hS
    refine ev_callV (sa := [.int x6]) (rest := []) (st' := [.int x8]) (ls0 := [.ref a0, .int x6]) (rv := some (.int x8)) pm272 i272_22 rfl rfl pm186 (by decide) (K_md_refused e7) rfl rfl (Nat.le_of_ble_eq_true rfl) (by omega) rfl (R_md_refused (d - 1) (by omega) e7) (by simp) rfl rfl ?_
    cases hS
    exact ev_ireturn pm272 i272_25 rfl rfl rfl
  · rw [if_neg c669] at hS
    refine ev_if_le_f (t := 26) pm272 i272_17 rfl c669 rfl rfl ?_
    refine ev_aload_n pm272 i272_26 rfl rfl rfl ?_
    refine ev_aload_n pm272 i272_27 rfl rfl rfl ?_
    refine ev_iload_n pm272 i272_28 rfl rfl rfl ?_
    refine ev_iconst (v := 0) pm272 i272_29 rfl (by decide) rfl ?_
    obtain ⟨x11, h12, e10, hS⟩ := bd_s hS
    refine ev_callV (sa := [.int (0 : Int32), .int a2]) (rest := [.ref a0]) (st' := [.int x11, .ref a0]) (ls0 := [.ref a0, .int a2, .int (0 : Int32), unk, unk, unk, unk]) (rv := some (.int x11)) pm272 i272_30 rfl rfl pm266 (by decide) (K_md_plans e10) rfl rfl (Nat.le_of_ble_eq_true rfl) (by omega) rfl (R_md_plans (d - 1) (by omega) e10) (by simp) rfl rfl ?_
    refine ev_bipush (v := -2) pm272 i272_33 rfl (by decide) rfl ?_
    obtain ⟨q17, I670, hS⟩ := bn_s hS
    have J1 : Ev P d 272 (49, [unk, unk, unk, unk], [.int q17, .ref a0], h12) (some (.int v), h') := by
      obtain ⟨x19, h20, e18, hS⟩ := bd_s hS
      refine ev_callV (sa := [.int q17]) (rest := []) (st' := [.int x19]) (ls0 := [.ref a0, .int q17]) (rv := some (.int x19)) pm272 i272_49 rfl rfl pm224 (by decide) (K_md_good e18) rfl rfl (Nat.le_of_ble_eq_true rfl) (by omega) rfl (R_md_good (d - 1) (by omega) e18) (by simp) rfl rfl ?_
      cases hS
      exact ev_ireturn pm272 i272_52 rfl rfl rfl
    clear hS
    by_cases c670 : x11 = (-2 : Int32)
    · rw [if_pos c670] at I670
      refine ev_icmp_ne_t (t := 43) pm272 i272_35 rfl c670 rfl rfl ?_
      refine ev_bipush (v := -2) pm272 i272_38 rfl (by decide) rfl ?_
      refine ev_goto (t := 49) pm272 i272_40 rfl rfl ?_
      refine ev_kls (ls' := [unk, unk, unk, unk]) pm272 i272_49 rfl rfl ?_
      cases I670
      exact J1
    · rw [if_neg c670] at I670
      refine ev_icmp_ne_f (t := 43) pm272 i272_35 rfl c670 rfl rfl ?_
      refine ev_aload_n pm272 i272_43 rfl rfl rfl ?_
      obtain ⟨x13, e14, I670⟩ := bn_s I670
      refine ev_getR pm272 i272_44 rfl rfl rfl e14 rfl ?_
      refine ev_iload_n pm272 i272_47 rfl rfl rfl ?_
      obtain ⟨x15, e16, I670⟩ := bn_s I670
      refine ev_iald pm272 i272_48 rfl e16 rfl ?_
      refine ev_kls (ls' := [unk, unk, unk, unk]) pm272 i272_49 rfl rfl ?_
      cases I670
      exact J1
def F_md_planHouse (a0 : Nat) (a1 : Int32) (a2 : Int32) (h : Hp) : Option (Int32 × Hp) :=
  ck h a0 13 (bn (pI h a0 13 0 (0 : Int32)) fun h1 =>
  bn (F_md_isDrinker a0 a1 h1) fun x4 =>
  bn (F_md_refusesDays a0 x4 a2 h1) fun x6 =>
  if (0 : Int32) < x6 then
    (bd (F_md_refused a0 x6 h1) fun x8 h9 =>
    some (x8, h9))
  else
    (bd (F_md_plans a0 a2 (0 : Int32) h1) fun x11 h12 =>
    bn (if x11 = (-2 : Int32) then
        (some (-2 : Int32))
      else
        (bn (gR h12 a0 13 24) fun x13 =>
        bn (aI h12 100 x13 a1) fun x15 =>
        some x15)) fun q17 =>
    bd (F_md_good a0 q17 h12) fun x19 h20 =>
    some (x19, h20)))
set_option maxRecDepth 20000 in
theorem K_md_planHouse {a0 : Nat} {a1 : Int32} {a2 : Int32} {h : Hp} {v : Int32} {h' : Hp} (hS : F_md_planHouse a0 a1 a2 h = some (v, h')) : kd h a0 = 13 := by
  unfold F_md_planHouse at hS
  exact (ck_s hS).1
set_option maxRecDepth 20000 in
theorem R_md_planHouse (d : Nat) (hd : 8 ≤ d) {a0 : Nat} {a1 : Int32} {a2 : Int32} {h : Hp} {v : Int32} {h' : Hp} (hS : F_md_planHouse a0 a1 a2 h = some (v, h')) : Ev P d 274 (0, [.ref a0, .int a1, .int a2, unk], [], h) (some (.int v), h') := by
  unfold F_md_planHouse at hS
  replace hS := (ck_s hS).2
  refine ev_aload_n pm274 i274_0 rfl rfl rfl ?_
  refine ev_iconst (v := 0) pm274 i274_1 rfl (by decide) rfl ?_
  obtain ⟨h1, e2, hS⟩ := bn_s hS
  refine ev_putI pm274 i274_2 rfl rfl rfl e2 rfl ?_
  refine ev_aload_n pm274 i274_5 rfl rfl rfl ?_
  refine ev_aload_n pm274 i274_6 rfl rfl rfl ?_
  refine ev_iload_n pm274 i274_7 rfl rfl rfl ?_
  obtain ⟨x4, e3, hS⟩ := bn_s hS
  refine ev_callV (sa := [.int a1]) (rest := [.ref a0]) (st' := [.int x4, .ref a0]) (ls0 := [.ref a0, .int a1]) (rv := some (.int x4)) pm274 i274_8 rfl rfl pm273 (by decide) (K_md_isDrinker e3) rfl rfl (Nat.le_of_ble_eq_true rfl) (by omega) rfl (R_md_isDrinker (d - 1) (by omega) e3) (by simp) rfl rfl ?_
  refine ev_iload_n pm274 i274_11 rfl rfl rfl ?_
  obtain ⟨x6, e5, hS⟩ := bn_s hS
  refine ev_callV (sa := [.int a2, .int x4]) (rest := []) (st' := [.int x6]) (ls0 := [.ref a0, .int x4, .int a2]) (rv := some (.int x6)) pm274 i274_12 rfl rfl pm265 (by decide) (K_md_refusesDays e5) rfl rfl (Nat.le_of_ble_eq_true rfl) (by omega) rfl (R_md_refusesDays (d - 1) (by omega) e5) (by simp) rfl rfl ?_
  refine ev_istore_n (ls' := [.ref a0, .int a1, .int a2, .int x6]) pm274 i274_15 rfl (Nat.le_of_ble_eq_true rfl) rfl rfl ?_
  refine ev_iload_n pm274 i274_16 rfl rfl rfl ?_
  by_cases c671 : (0 : Int32) < x6
  · rw [if_pos c671] at hS
    refine ev_if_le_t (t := 26) pm274 i274_17 rfl c671 rfl rfl ?_
    refine ev_aload_n pm274 i274_20 rfl rfl rfl ?_
    refine ev_iload_n pm274 i274_21 rfl rfl rfl ?_
    obtain ⟨x8, h9, e7, hS⟩ := bd_s hS
    refine ev_callV (sa := [.int x6]) (rest := []) (st' := [.int x8]) (ls0 := [.ref a0, .int x6]) (rv := some (.int x8)) pm274 i274_22 rfl rfl pm186 (by decide) (K_md_refused e7) rfl rfl (Nat.le_of_ble_eq_true rfl) (by omega) rfl (R_md_refused (d - 1) (by omega) e7) (by simp) rfl rfl ?_
    cases hS
    exact ev_ireturn pm274 i274_25 rfl rfl rfl
  · rw [if_neg c671] at hS
    refine ev_if_le_f (t := 26) pm274 i274_17 rfl c671 rfl rfl ?_
    refine ev_aload_n pm274 i274_26 rfl rfl rfl ?_
    refine ev_aload_n pm274 i274_27 rfl rfl rfl ?_
    refine ev_iload_n pm274 i274_28 rfl rfl rfl ?_
    refine ev_iconst (v := 0) pm274 i274_29 rfl (by decide) rfl ?_
    obtain ⟨x11, h12, e10, hS⟩ := bd_s hS
    refine ev_callV (sa := [.int (0 : Int32), .int a2]) (rest := [.ref a0]) (st' := [.int x11, .ref a0]) (ls0 := [.ref a0, .int a2, .int (0 : Int32), unk, unk, unk, unk]) (rv := some (.int x11)) pm274 i274_30 rfl rfl pm266 (by decide) (K_md_plans e10) rfl rfl (Nat.le_of_ble_eq_true rfl) (by omega) rfl (R_md_plans (d - 1) (by omega) e10) (by simp) rfl rfl ?_
    refine ev_bipush (v := -2) pm274 i274_33 rfl (by decide) rfl ?_
    obtain ⟨q17, I672, hS⟩ := bn_s hS
    have J1 : Ev P d 274 (49, [unk, unk, unk, unk], [.int q17, .ref a0], h12) (some (.int v), h') := by
      obtain ⟨x19, h20, e18, hS⟩ := bd_s hS
      refine ev_callV (sa := [.int q17]) (rest := []) (st' := [.int x19]) (ls0 := [.ref a0, .int q17]) (rv := some (.int x19)) pm274 i274_49 rfl rfl pm224 (by decide) (K_md_good e18) rfl rfl (Nat.le_of_ble_eq_true rfl) (by omega) rfl (R_md_good (d - 1) (by omega) e18) (by simp) rfl rfl ?_
      cases hS
      exact ev_ireturn pm274 i274_52 rfl rfl rfl
    clear hS
    by_cases c672 : x11 = (-2 : Int32)
    · rw [if_pos c672] at I672
      refine ev_icmp_ne_t (t := 43) pm274 i274_35 rfl c672 rfl rfl ?_
      refine ev_bipush (v := -2) pm274 i274_38 rfl (by decide) rfl ?_
      refine ev_goto (t := 49) pm274 i274_40 rfl rfl ?_
      refine ev_kls (ls' := [unk, unk, unk, unk]) pm274 i274_49 rfl rfl ?_
      cases I672
      exact J1
    · rw [if_neg c672] at I672
      refine ev_icmp_ne_f (t := 43) pm274 i274_35 rfl c672 rfl rfl ?_
      refine ev_aload_n pm274 i274_43 rfl rfl rfl ?_
      obtain ⟨x13, e14, I672⟩ := bn_s I672
      refine ev_getR pm274 i274_44 rfl rfl rfl e14 rfl ?_
      refine ev_iload_n pm274 i274_47 rfl rfl rfl ?_
      obtain ⟨x15, e16, I672⟩ := bn_s I672
      refine ev_iald pm274 i274_48 rfl e16 rfl ?_
      refine ev_kls (ls' := [unk, unk, unk, unk]) pm274 i274_49 rfl rfl ?_
      cases I672
      exact J1
def F_md_feasts (a0 : Nat) (a1 : Int32) (h : Hp) : Option (Int32 × Hp) :=
  ck h a0 13 (bn (pI h a0 13 0 (0 : Int32)) fun h1 =>
  bn (gQ h1 a0 13 3) fun x3 =>
  bn (if x3 = none then
      (some (0 : Int32))
    else
      (some (1 : Int32))) fun q5 =>
  bn (F_md_refusesDays a0 q5 a1 h1) fun x7 =>
  if (0 : Int32) < x7 then
    (bd (F_md_refused a0 x7 h1) fun x9 h10 =>
    some (x9, h10))
  else
    (bd (F_md_plans a0 a1 (1 : Int32) h1) fun x12 h13 =>
    bd (F_md_good a0 x12 h13) fun x15 h16 =>
    some (x15, h16)))
set_option maxRecDepth 20000 in
theorem K_md_feasts {a0 : Nat} {a1 : Int32} {h : Hp} {v : Int32} {h' : Hp} (hS : F_md_feasts a0 a1 h = some (v, h')) : kd h a0 = 13 := by
  unfold F_md_feasts at hS
  exact (ck_s hS).1
set_option maxRecDepth 20000 in
theorem R_md_feasts (d : Nat) (hd : 8 ≤ d) {a0 : Nat} {a1 : Int32} {h : Hp} {v : Int32} {h' : Hp} (hS : F_md_feasts a0 a1 h = some (v, h')) : Ev P d 275 (0, [.ref a0, .int a1, unk], [], h) (some (.int v), h') := by
  unfold F_md_feasts at hS
  replace hS := (ck_s hS).2
  refine ev_aload_n pm275 i275_0 rfl rfl rfl ?_
  refine ev_iconst (v := 0) pm275 i275_1 rfl (by decide) rfl ?_
  obtain ⟨h1, e2, hS⟩ := bn_s hS
  refine ev_putI pm275 i275_2 rfl rfl rfl e2 rfl ?_
  refine ev_aload_n pm275 i275_5 rfl rfl rfl ?_
  refine ev_aload_n pm275 i275_6 rfl rfl rfl ?_
  obtain ⟨x3, e4, hS⟩ := bn_s hS
  refine ev_getQ pm275 i275_7 rfl rfl rfl e4 rfl ?_
  obtain ⟨q5, I673, hS⟩ := bn_s hS
  have J1 : Ev P d 275 (18, [.ref a0, .int a1, unk], [.int q5, .ref a0], h1) (some (.int v), h') := by
    refine ev_iload_n pm275 i275_18 rfl rfl rfl ?_
    obtain ⟨x7, e6, hS⟩ := bn_s hS
    refine ev_callV (sa := [.int a1, .int q5]) (rest := []) (st' := [.int x7]) (ls0 := [.ref a0, .int q5, .int a1]) (rv := some (.int x7)) pm275 i275_19 rfl rfl pm265 (by decide) (K_md_refusesDays e6) rfl rfl (Nat.le_of_ble_eq_true rfl) (by omega) rfl (R_md_refusesDays (d - 1) (by omega) e6) (by simp) rfl rfl ?_
    refine ev_istore_n (ls' := [.ref a0, .int a1, .int x7]) pm275 i275_22 rfl (Nat.le_of_ble_eq_true rfl) rfl rfl ?_
    refine ev_iload_n pm275 i275_23 rfl rfl rfl ?_
    by_cases c674 : (0 : Int32) < x7
    · rw [if_pos c674] at hS
      refine ev_if_le_t (t := 35) pm275 i275_24 rfl c674 rfl rfl ?_
      refine ev_aload_n pm275 i275_27 rfl rfl rfl ?_
      refine ev_iload_n pm275 i275_28 rfl rfl rfl ?_
      obtain ⟨x9, h10, e8, hS⟩ := bd_s hS
      refine ev_callV (sa := [.int x7]) (rest := []) (st' := [.int x9]) (ls0 := [.ref a0, .int x7]) (rv := some (.int x9)) pm275 i275_29 rfl rfl pm186 (by decide) (K_md_refused e8) rfl rfl (Nat.le_of_ble_eq_true rfl) (by omega) rfl (R_md_refused (d - 1) (by omega) e8) (by simp) rfl rfl ?_
      refine ev_goto (t := 45) pm275 i275_32 rfl rfl ?_
      refine ev_kls (ls' := [unk, unk, unk]) pm275 i275_45 rfl rfl ?_
      cases hS
      exact ev_ireturn pm275 i275_45 rfl rfl rfl
    · rw [if_neg c674] at hS
      refine ev_if_le_f (t := 35) pm275 i275_24 rfl c674 rfl rfl ?_
      refine ev_aload_n pm275 i275_35 rfl rfl rfl ?_
      refine ev_aload_n pm275 i275_36 rfl rfl rfl ?_
      refine ev_iload_n pm275 i275_37 rfl rfl rfl ?_
      refine ev_iconst (v := 1) pm275 i275_38 rfl (by decide) rfl ?_
      obtain ⟨x12, h13, e11, hS⟩ := bd_s hS
      refine ev_callV (sa := [.int (1 : Int32), .int a1]) (rest := [.ref a0]) (st' := [.int x12, .ref a0]) (ls0 := [.ref a0, .int a1, .int (1 : Int32), unk, unk, unk, unk]) (rv := some (.int x12)) pm275 i275_39 rfl rfl pm266 (by decide) (K_md_plans e11) rfl rfl (Nat.le_of_ble_eq_true rfl) (by omega) rfl (R_md_plans (d - 1) (by omega) e11) (by simp) rfl rfl ?_
      obtain ⟨x15, h16, e14, hS⟩ := bd_s hS
      refine ev_callV (sa := [.int x12]) (rest := []) (st' := [.int x15]) (ls0 := [.ref a0, .int x12]) (rv := some (.int x15)) pm275 i275_42 rfl rfl pm224 (by decide) (K_md_good e14) rfl rfl (Nat.le_of_ble_eq_true rfl) (by omega) rfl (R_md_good (d - 1) (by omega) e14) (by simp) rfl rfl ?_
      refine ev_kls (ls' := [unk, unk, unk]) pm275 i275_45 rfl rfl ?_
      cases hS
      exact ev_ireturn pm275 i275_45 rfl rfl rfl
  clear hS
  by_cases c673 : x3 = none
  · rw [if_pos c673] at I673
    subst c673
    refine ev_nullT (t := 17) pm275 i275_10 rfl rfl ?_
    refine ev_iconst (v := 0) pm275 i275_17 rfl (by decide) rfl ?_
    cases I673
    exact J1
  · rw [if_neg c673] at I673
    obtain ⟨_, rfl⟩ := Option.ne_none_iff_exists'.mp c673
    refine ev_nullF pm275 i275_10 rfl rfl ?_
    refine ev_iconst (v := 1) pm275 i275_13 rfl (by decide) rfl ?_
    refine ev_goto (t := 18) pm275 i275_14 rfl rfl ?_
    cases I673
    exact J1
def F_md_feastHouse (a0 : Nat) (a1 : Int32) (a2 : Int32) (h : Hp) : Option (Int32 × Hp) :=
  ck h a0 13 (bn (pI h a0 13 0 (0 : Int32)) fun h1 =>
  bn (F_md_isDrinker a0 a1 h1) fun x4 =>
  bn (F_md_refusesDays a0 x4 a2 h1) fun x6 =>
  if (0 : Int32) < x6 then
    (bd (F_md_refused a0 x6 h1) fun x8 h9 =>
    some (x8, h9))
  else
    (bd (F_md_plans a0 a2 (1 : Int32) h1) fun x11 h12 =>
    bn (if x11 = (-2 : Int32) then
        (some (-2 : Int32))
      else
        (bn (gR h12 a0 13 24) fun x13 =>
        bn (aI h12 100 x13 a1) fun x15 =>
        some x15)) fun q17 =>
    bd (F_md_good a0 q17 h12) fun x19 h20 =>
    some (x19, h20)))
set_option maxRecDepth 20000 in
theorem K_md_feastHouse {a0 : Nat} {a1 : Int32} {a2 : Int32} {h : Hp} {v : Int32} {h' : Hp} (hS : F_md_feastHouse a0 a1 a2 h = some (v, h')) : kd h a0 = 13 := by
  unfold F_md_feastHouse at hS
  exact (ck_s hS).1
set_option maxRecDepth 20000 in
theorem R_md_feastHouse (d : Nat) (hd : 8 ≤ d) {a0 : Nat} {a1 : Int32} {a2 : Int32} {h : Hp} {v : Int32} {h' : Hp} (hS : F_md_feastHouse a0 a1 a2 h = some (v, h')) : Ev P d 276 (0, [.ref a0, .int a1, .int a2, unk], [], h) (some (.int v), h') := by
  unfold F_md_feastHouse at hS
  replace hS := (ck_s hS).2
  refine ev_aload_n pm276 i276_0 rfl rfl rfl ?_
  refine ev_iconst (v := 0) pm276 i276_1 rfl (by decide) rfl ?_
  obtain ⟨h1, e2, hS⟩ := bn_s hS
  refine ev_putI pm276 i276_2 rfl rfl rfl e2 rfl ?_
  refine ev_aload_n pm276 i276_5 rfl rfl rfl ?_
  refine ev_aload_n pm276 i276_6 rfl rfl rfl ?_
  refine ev_iload_n pm276 i276_7 rfl rfl rfl ?_
  obtain ⟨x4, e3, hS⟩ := bn_s hS
  refine ev_callV (sa := [.int a1]) (rest := [.ref a0]) (st' := [.int x4, .ref a0]) (ls0 := [.ref a0, .int a1]) (rv := some (.int x4)) pm276 i276_8 rfl rfl pm273 (by decide) (K_md_isDrinker e3) rfl rfl (Nat.le_of_ble_eq_true rfl) (by omega) rfl (R_md_isDrinker (d - 1) (by omega) e3) (by simp) rfl rfl ?_
  refine ev_iload_n pm276 i276_11 rfl rfl rfl ?_
  obtain ⟨x6, e5, hS⟩ := bn_s hS
  refine ev_callV (sa := [.int a2, .int x4]) (rest := []) (st' := [.int x6]) (ls0 := [.ref a0, .int x4, .int a2]) (rv := some (.int x6)) pm276 i276_12 rfl rfl pm265 (by decide) (K_md_refusesDays e5) rfl rfl (Nat.le_of_ble_eq_true rfl) (by omega) rfl (R_md_refusesDays (d - 1) (by omega) e5) (by simp) rfl rfl ?_
  refine ev_istore_n (ls' := [.ref a0, .int a1, .int a2, .int x6]) pm276 i276_15 rfl (Nat.le_of_ble_eq_true rfl) rfl rfl ?_
  refine ev_iload_n pm276 i276_16 rfl rfl rfl ?_
  by_cases c675 : (0 : Int32) < x6
  · rw [if_pos c675] at hS
    refine ev_if_le_t (t := 26) pm276 i276_17 rfl c675 rfl rfl ?_
    refine ev_aload_n pm276 i276_20 rfl rfl rfl ?_
    refine ev_iload_n pm276 i276_21 rfl rfl rfl ?_
    obtain ⟨x8, h9, e7, hS⟩ := bd_s hS
    refine ev_callV (sa := [.int x6]) (rest := []) (st' := [.int x8]) (ls0 := [.ref a0, .int x6]) (rv := some (.int x8)) pm276 i276_22 rfl rfl pm186 (by decide) (K_md_refused e7) rfl rfl (Nat.le_of_ble_eq_true rfl) (by omega) rfl (R_md_refused (d - 1) (by omega) e7) (by simp) rfl rfl ?_
    cases hS
    exact ev_ireturn pm276 i276_25 rfl rfl rfl
  · rw [if_neg c675] at hS
    refine ev_if_le_f (t := 26) pm276 i276_17 rfl c675 rfl rfl ?_
    refine ev_aload_n pm276 i276_26 rfl rfl rfl ?_
    refine ev_aload_n pm276 i276_27 rfl rfl rfl ?_
    refine ev_iload_n pm276 i276_28 rfl rfl rfl ?_
    refine ev_iconst (v := 1) pm276 i276_29 rfl (by decide) rfl ?_
    obtain ⟨x11, h12, e10, hS⟩ := bd_s hS
    refine ev_callV (sa := [.int (1 : Int32), .int a2]) (rest := [.ref a0]) (st' := [.int x11, .ref a0]) (ls0 := [.ref a0, .int a2, .int (1 : Int32), unk, unk, unk, unk]) (rv := some (.int x11)) pm276 i276_30 rfl rfl pm266 (by decide) (K_md_plans e10) rfl rfl (Nat.le_of_ble_eq_true rfl) (by omega) rfl (R_md_plans (d - 1) (by omega) e10) (by simp) rfl rfl ?_
    refine ev_bipush (v := -2) pm276 i276_33 rfl (by decide) rfl ?_
    obtain ⟨q17, I676, hS⟩ := bn_s hS
    have J1 : Ev P d 276 (49, [unk, unk, unk, unk], [.int q17, .ref a0], h12) (some (.int v), h') := by
      obtain ⟨x19, h20, e18, hS⟩ := bd_s hS
      refine ev_callV (sa := [.int q17]) (rest := []) (st' := [.int x19]) (ls0 := [.ref a0, .int q17]) (rv := some (.int x19)) pm276 i276_49 rfl rfl pm224 (by decide) (K_md_good e18) rfl rfl (Nat.le_of_ble_eq_true rfl) (by omega) rfl (R_md_good (d - 1) (by omega) e18) (by simp) rfl rfl ?_
      cases hS
      exact ev_ireturn pm276 i276_52 rfl rfl rfl
    clear hS
    by_cases c676 : x11 = (-2 : Int32)
    · rw [if_pos c676] at I676
      refine ev_icmp_ne_t (t := 43) pm276 i276_35 rfl c676 rfl rfl ?_
      refine ev_bipush (v := -2) pm276 i276_38 rfl (by decide) rfl ?_
      refine ev_goto (t := 49) pm276 i276_40 rfl rfl ?_
      refine ev_kls (ls' := [unk, unk, unk, unk]) pm276 i276_49 rfl rfl ?_
      cases I676
      exact J1
    · rw [if_neg c676] at I676
      refine ev_icmp_ne_f (t := 43) pm276 i276_35 rfl c676 rfl rfl ?_
      refine ev_aload_n pm276 i276_43 rfl rfl rfl ?_
      obtain ⟨x13, e14, I676⟩ := bn_s I676
      refine ev_getR pm276 i276_44 rfl rfl rfl e14 rfl ?_
      refine ev_iload_n pm276 i276_47 rfl rfl rfl ?_
      obtain ⟨x15, e16, I676⟩ := bn_s I676
      refine ev_iald pm276 i276_48 rfl e16 rfl ?_
      refine ev_kls (ls' := [unk, unk, unk, unk]) pm276 i276_49 rfl rfl ?_
      cases I676
      exact J1
def B_md_wrong_7 (l0 : Nat) (h : Hp) (s : Int32) : Option ((Int32) ⊕ ((Unit) ⊕ Int32)) :=
  bn (gR h l0 13 3) fun x3 =>
  bn (gI h x3 12 7) fun x5 =>
  if s < x5 then
    (bn (gR h l0 13 3) fun x7 =>
    bn (gR h x7 12 25) fun x9 =>
    bn (aI h 100 x9 s) fun x11 =>
    bn (F_md_heightOf l0 x11 h) fun x14 =>
    bn (gR h l0 13 3) fun x15 =>
    bn (gR h x15 12 26) fun x17 =>
    bn (aI h 100 x17 s) fun x19 =>
    if x14 = x19 then
      (some (.inl (s + (1 : Int32))))
    else
      (some (.inr (.inr s))))
  else
    (some (.inr (.inl ())))
set_option maxRecDepth 20000 in
theorem L_md_wrong_7 (d : Nat) (hd : 5 ≤ d) {l0 : Nat} {h : Hp} : ∀ (n : Nat) (s : Int32) (x : (Unit) ⊕ Int32), lq (B_md_wrong_7 l0 h) n s = some x → ∀ r, ei x (fun q => Ev P d 279 (51, [unk, unk, unk], [], h) r) (fun v => (some (.int v), h) = r) → Ev P d 279 (7, [.ref l0, unk, .int s], [], h) r := by
  refine lq_ev (G0 := fun (s : Int32) r => Ev P d 279 (7, [.ref l0, unk, .int s], [], h) r) (X := fun (x : (Unit) ⊕ Int32) r => ei x (fun q => Ev P d 279 (51, [unk, unk, unk], [], h) r) (fun v => (some (.int v), h) = r)) ?_
  intro s y hS r hK
  unfold B_md_wrong_7 at hS
  show Ev P d 279 (7, [.ref l0, unk, .int s], [], h) r
  refine ev_iload_n pm279 i279_7 rfl rfl rfl ?_
  refine ev_aload_n pm279 i279_8 rfl rfl rfl ?_
  obtain ⟨x3, e4, hS⟩ := bn_s hS
  refine ev_getR pm279 i279_9 rfl rfl rfl e4 rfl ?_
  obtain ⟨x5, e6, hS⟩ := bn_s hS
  refine ev_getI pm279 i279_12 rfl rfl (by decide) e6 rfl ?_
  by_cases c677 : s < x5
  · rw [if_pos c677] at hS
    refine ev_icmp_ge_t (t := 51) pm279 i279_15 rfl c677 rfl rfl ?_
    refine ev_aload_n pm279 i279_18 rfl rfl rfl ?_
    refine ev_aload_n pm279 i279_19 rfl rfl rfl ?_
    obtain ⟨x7, e8, hS⟩ := bn_s hS
    refine ev_getR pm279 i279_20 rfl rfl rfl e8 rfl ?_
    obtain ⟨x9, e10, hS⟩ := bn_s hS
    refine ev_getR pm279 i279_23 rfl rfl rfl e10 rfl ?_
    refine ev_iload_n pm279 i279_26 rfl rfl rfl ?_
    obtain ⟨x11, e12, hS⟩ := bn_s hS
    refine ev_iald pm279 i279_27 rfl e12 rfl ?_
    obtain ⟨x14, e13, hS⟩ := bn_s hS
    refine ev_callV (sa := [.int x11]) (rest := []) (st' := [.int x14]) (ls0 := [.ref l0, .int x11, unk]) (rv := some (.int x14)) pm279 i279_28 rfl rfl pm233 (by decide) (K_md_heightOf e13) rfl rfl (Nat.le_of_ble_eq_true rfl) (by omega) rfl (R_md_heightOf (d - 1) (by omega) e13) (by simp) rfl rfl ?_
    refine ev_aload_n pm279 i279_31 rfl rfl rfl ?_
    obtain ⟨x15, e16, hS⟩ := bn_s hS
    refine ev_getR pm279 i279_32 rfl rfl rfl e16 rfl ?_
    obtain ⟨x17, e18, hS⟩ := bn_s hS
    refine ev_getR pm279 i279_35 rfl rfl rfl e18 rfl ?_
    refine ev_iload_n pm279 i279_38 rfl rfl rfl ?_
    obtain ⟨x19, e20, hS⟩ := bn_s hS
    refine ev_iald pm279 i279_39 rfl e20 rfl ?_
    by_cases c678 : x14 = x19
    · rw [if_pos c678] at hS
      refine ev_icmp_eq_t (t := 45) pm279 i279_40 rfl c678 rfl rfl ?_
      refine ev_iinc (v := 1) (ls' := [.ref l0, unk, .int (s + (1 : Int32))]) pm279 i279_45 rfl rfl (by decide) rfl rfl ?_
      refine ev_goto (t := 7) pm279 i279_48 rfl rfl ?_
      cases hS
      exact hK
    · rw [if_neg c678] at hS
      refine ev_icmp_eq_f (t := 45) pm279 i279_40 rfl c678 rfl rfl ?_
      refine ev_iload_n pm279 i279_43 rfl rfl rfl ?_
      cases hS
      exact ev_ireturn pm279 i279_44 rfl rfl hK
  · rw [if_neg c677] at hS
    refine ev_icmp_ge_f (t := 51) pm279 i279_15 rfl c677 rfl rfl ?_
    refine ev_kls (ls' := [unk, unk, unk]) pm279 i279_51 rfl rfl ?_
    cases hS
    exact hK
def F_md_wrong (a0 : Nat) (a1 : Int32) (h : Hp) : Option (Int32 × Hp) :=
  ck h a0 13 (bn (F_md_asTold a0 a1 h) fun h2 =>
  bn (lq (B_md_wrong_7 a0 h2) FU (0 : Int32)) fun x21 =>
  ei x21 (fun q23 =>
  some ((-2 : Int32), h2))
  (fun x24 => some (x24, h2)))
set_option maxRecDepth 20000 in
theorem K_md_wrong {a0 : Nat} {a1 : Int32} {h : Hp} {v : Int32} {h' : Hp} (hS : F_md_wrong a0 a1 h = some (v, h')) : kd h a0 = 13 := by
  unfold F_md_wrong at hS
  exact (ck_s hS).1
set_option maxRecDepth 20000 in
theorem R_md_wrong (d : Nat) (hd : 5 ≤ d) {a0 : Nat} {a1 : Int32} {h : Hp} {v : Int32} {h' : Hp} (hS : F_md_wrong a0 a1 h = some (v, h')) : Ev P d 279 (0, [.ref a0, .int a1, unk], [], h) (some (.int v), h') := by
  unfold F_md_wrong at hS
  replace hS := (ck_s hS).2
  refine ev_aload_n pm279 i279_0 rfl rfl rfl ?_
  refine ev_iload_n pm279 i279_1 rfl rfl rfl ?_
  obtain ⟨h2, e1, hS⟩ := bn_s hS
  refine ev_callV (sa := [.int a1]) (rest := []) (st' := []) (ls0 := [.ref a0, .int a1, unk]) (rv := none) pm279 i279_2 rfl rfl pm222 (by decide) (K_md_asTold e1) rfl rfl (Nat.le_of_ble_eq_true rfl) (by omega) rfl (R_md_asTold (d - 1) (by omega) e1) (by simp) rfl rfl ?_
  refine ev_iconst (v := 0) pm279 i279_5 rfl (by decide) rfl ?_
  refine ev_istore_n (ls' := [.ref a0, .int a1, .int (0 : Int32)]) pm279 i279_6 rfl (Nat.le_of_ble_eq_true rfl) rfl rfl ?_
  refine ev_kls (ls' := [.ref a0, unk, .int (0 : Int32)]) pm279 i279_7 rfl rfl ?_
  obtain ⟨x21, e22, hS⟩ := bn_s hS
  refine L_md_wrong_7 d (by omega) _ _ _ e22 _ ?_
  cases x21 with
  | inl q23 =>
    replace hS := ei_l hS
    show Ev P d 279 (51, [unk, unk, unk], [], h2) _
    refine ev_bipush (v := -2) pm279 i279_51 rfl (by decide) rfl ?_
    cases hS
    exact ev_ireturn pm279 i279_53 rfl rfl rfl
  | inr x24 =>
    replace hS := ei_r hS
    cases hS
    rfl
def B_md_fitting_30 (l0 : Nat) (l1 : Int32) (l2 : Int32) (s : Int32) (h : Hp) : Option (((Int32) ⊕ (Unit)) × Hp) :=
  if s < (3 : Int32) then
    (bn (gR h l0 13 25) fun x11 =>
    bn (sI h 100 x11 s (0 : Int32)) fun h13 =>
    some (.inl (s + (1 : Int32)), h13))
  else
    (some (.inr (), h))
set_option maxRecDepth 20000 in
theorem L_md_fitting_30 (d : Nat) (hd : 6 ≤ d) {l0 : Nat} {l1 : Int32} {l2 : Int32} : ∀ (n : Nat) (s : Int32) (h : Hp) (x : Unit) (hx : Hp), lp (B_md_fitting_30 l0 l1 l2) n s h = some (x, hx) → ∀ r, Ev P d 278 (48, [.ref l0, .int l1, .int l2, unk, unk], [], hx) r → Ev P d 278 (30, [.ref l0, .int l1, .int l2, .int s, unk], [], h) r := by
  refine lp_ev (G0 := fun (s : Int32) h r => Ev P d 278 (30, [.ref l0, .int l1, .int l2, .int s, unk], [], h) r) (X := fun (x : Unit) hx r => Ev P d 278 (48, [.ref l0, .int l1, .int l2, unk, unk], [], hx) r) ?_
  intro s h y h9 hS r hK
  unfold B_md_fitting_30 at hS
  show Ev P d 278 (30, [.ref l0, .int l1, .int l2, .int s, unk], [], h) r
  refine ev_iload_n pm278 i278_30 rfl rfl rfl ?_
  refine ev_iconst (v := 3) pm278 i278_31 rfl (by decide) rfl ?_
  by_cases c679 : s < (3 : Int32)
  · rw [if_pos c679] at hS
    refine ev_icmp_ge_t (t := 48) pm278 i278_32 rfl c679 rfl rfl ?_
    refine ev_aload_n pm278 i278_35 rfl rfl rfl ?_
    obtain ⟨x11, e12, hS⟩ := bn_s hS
    refine ev_getR pm278 i278_36 rfl rfl rfl e12 rfl ?_
    refine ev_iload_n pm278 i278_39 rfl rfl rfl ?_
    refine ev_iconst (v := 0) pm278 i278_40 rfl (by decide) rfl ?_
    obtain ⟨h13, e14, hS⟩ := bn_s hS
    refine ev_iast pm278 i278_41 rfl e14 rfl ?_
    refine ev_iinc (v := 1) (ls' := [.ref l0, .int l1, .int l2, .int (s + (1 : Int32)), unk]) pm278 i278_42 rfl rfl (by decide) rfl rfl ?_
    refine ev_goto (t := 30) pm278 i278_45 rfl rfl ?_
    cases hS
    exact hK
  · rw [if_neg c679] at hS
    refine ev_icmp_ge_f (t := 48) pm278 i278_32 rfl c679 rfl rfl ?_
    refine ev_kls (ls' := [.ref l0, .int l1, .int l2, unk, unk]) pm278 i278_48 rfl rfl ?_
    cases hS
    exact hK
def B_md_fitting_119 (l0 : Nat) (l1 : Int32) (l2 : Int32) (l3 : Int32) (s : Int32) (h : Hp) : Option (((Int32) ⊕ (Unit)) × Hp) :=
  bn (gR h l0 13 3) fun x40 =>
  bn (gI h x40 12 4) fun x42 =>
  if s < x42 then
    (bn (gR h l0 13 25) fun x44 =>
    bn (aI h 100 x44 s) fun x46 =>
    bn (F_md_bit l3 s) fun x49 =>
    if x49 = (0 : Int32) then
      (bn (sI h 100 x44 s (x46 + (0 : Int32))) fun h50 =>
      some (.inl (s + (1 : Int32)), h50))
    else
      (bn (sI h 100 x44 s (x46 + (1 : Int32))) fun h52 =>
      some (.inl (s + (1 : Int32)), h52)))
  else
    (some (.inr (), h))
set_option maxRecDepth 20000 in
theorem L_md_fitting_119 (d : Nat) (hd : 6 ≤ d) {l0 : Nat} {l1 : Int32} {l2 : Int32} {l3 : Int32} : ∀ (n : Nat) (s : Int32) (h : Hp) (x : Unit) (hx : Hp), lp (B_md_fitting_119 l0 l1 l2 l3) n s h = some (x, hx) → ∀ r, Ev P d 278 (161, [.ref l0, .int l1, .int l2, .int l3, unk], [], hx) r → Ev P d 278 (119, [.ref l0, .int l1, .int l2, .int l3, .int s], [], h) r := by
  refine lp_ev (G0 := fun (s : Int32) h r => Ev P d 278 (119, [.ref l0, .int l1, .int l2, .int l3, .int s], [], h) r) (X := fun (x : Unit) hx r => Ev P d 278 (161, [.ref l0, .int l1, .int l2, .int l3, unk], [], hx) r) ?_
  intro s h y h9 hS r hK
  unfold B_md_fitting_119 at hS
  show Ev P d 278 (119, [.ref l0, .int l1, .int l2, .int l3, .int s], [], h) r
  refine ev_iload pm278 i278_119 rfl rfl rfl ?_
  refine ev_aload_n pm278 i278_121 rfl rfl rfl ?_
  obtain ⟨x40, e41, hS⟩ := bn_s hS
  refine ev_getR pm278 i278_122 rfl rfl rfl e41 rfl ?_
  obtain ⟨x42, e43, hS⟩ := bn_s hS
  refine ev_getI pm278 i278_125 rfl rfl (by decide) e43 rfl ?_
  by_cases c680 : s < x42
  · rw [if_pos c680] at hS
    refine ev_icmp_ge_t (t := 161) pm278 i278_128 rfl c680 rfl rfl ?_
    refine ev_aload_n pm278 i278_131 rfl rfl rfl ?_
    obtain ⟨x44, e45, hS⟩ := bn_s hS
    refine ev_getR pm278 i278_132 rfl rfl rfl e45 rfl ?_
    refine ev_iload pm278 i278_135 rfl rfl rfl ?_
    refine ev_dup2 pm278 i278_137 rfl ⟨rfl, rfl⟩ rfl ?_
    obtain ⟨x46, e47, hS⟩ := bn_s hS
    refine ev_iald pm278 i278_138 rfl e47 rfl ?_
    refine ev_iload_n pm278 i278_139 rfl rfl rfl ?_
    refine ev_iload pm278 i278_140 rfl rfl rfl ?_
    obtain ⟨x49, e48, hS⟩ := bn_s hS
    refine ev_callS (sa := [.int s, .int l3]) (rest := [.int x46, .int s, .ref x44]) (st' := [.int x49, .int x46, .int s, .ref x44]) (ls0 := [.int l3, .int s]) (rv := some (.int x49)) pm278 i278_142 rfl rfl pm214 (by decide) rfl rfl (Nat.le_of_ble_eq_true rfl) (by omega) rfl (R_md_bit (d - 1) (by omega) e48) (by simp) rfl rfl ?_
    by_cases c681 : x49 = (0 : Int32)
    · rw [if_pos c681] at hS
      refine ev_if_eq_t (t := 152) pm278 i278_145 rfl c681 rfl rfl ?_
      refine ev_iconst (v := 0) pm278 i278_152 rfl (by decide) rfl ?_
      refine ev_b2 (f := fun x y => x + y) pm278 i278_153 rfl (fun _ _ _ _ => rfl) rfl ?_
      obtain ⟨h50, e51, hS⟩ := bn_s hS
      refine ev_iast pm278 i278_154 rfl e51 rfl ?_
      refine ev_iinc (v := 1) (ls' := [.ref l0, .int l1, .int l2, .int l3, .int (s + (1 : Int32))]) pm278 i278_155 rfl rfl (by decide) rfl rfl ?_
      refine ev_goto (t := 119) pm278 i278_158 rfl rfl ?_
      cases hS
      exact hK
    · rw [if_neg c681] at hS
      refine ev_if_eq_f (t := 152) pm278 i278_145 rfl c681 rfl rfl ?_
      refine ev_iconst (v := 1) pm278 i278_148 rfl (by decide) rfl ?_
      refine ev_goto (t := 153) pm278 i278_149 rfl rfl ?_
      refine ev_b2 (f := fun x y => x + y) pm278 i278_153 rfl (fun _ _ _ _ => rfl) rfl ?_
      obtain ⟨h52, e53, hS⟩ := bn_s hS
      refine ev_iast pm278 i278_154 rfl e53 rfl ?_
      refine ev_iinc (v := 1) (ls' := [.ref l0, .int l1, .int l2, .int l3, .int (s + (1 : Int32))]) pm278 i278_155 rfl rfl (by decide) rfl rfl ?_
      refine ev_goto (t := 119) pm278 i278_158 rfl rfl ?_
      cases hS
      exact hK
  · rw [if_neg c680] at hS
    refine ev_icmp_ge_f (t := 161) pm278 i278_128 rfl c680 rfl rfl ?_
    refine ev_kls (ls' := [.ref l0, .int l1, .int l2, .int l3, unk]) pm278 i278_161 rfl rfl ?_
    cases hS
    exact hK
def B_md_fitting_50 (l0 : Nat) (l1 : Int32) (s : Int32 × Int32) (h : Hp) : Option (((Int32 × Int32) ⊕ (Int32)) × Hp) :=
  bn (gR h l0 13 3) fun x18 =>
  bn (gI h x18 12 4) fun x20 =>
  if s.2 < ((1 : Int32) <<< (x20 &&& 31)) then
    (bd (F_md_wrong l0 s.2 h) fun x23 h24 =>
    if x23 = (-2 : Int32) then
      (bn (gI h24 l0 13 26) fun x25 =>
      bn (if x25 = l1 then
          (some s.2)
        else
          (some s.1)) fun q27 =>
      bn (gI h24 l0 13 26) fun x28 =>
      bn (pI h24 l0 13 26 (x28 + (1 : Int32))) fun h30 =>
      bn (gI h30 l0 13 27) fun x32 =>
      bn (pI h30 l0 13 27 (x32 ||| s.2)) fun h34 =>
      bn (gI h34 l0 13 28) fun x36 =>
      bn (pI h34 l0 13 28 (x36 &&& s.2)) fun h38 =>
      bd (lp (B_md_fitting_119 l0 l1 q27 s.2) FU (0 : Int32) h38) fun x54 h56 =>
      some (.inl (q27, s.2 + (1 : Int32)), h56))
    else
      (some (.inl (s.1, s.2 + (1 : Int32)), h24)))
  else
    (some (.inr s.1, h))
set_option maxRecDepth 20000 in
theorem L_md_fitting_50 (d : Nat) (hd : 6 ≤ d) {l0 : Nat} {l1 : Int32} : ∀ (n : Nat) (s : Int32 × Int32) (h : Hp) (x : Int32) (hx : Hp), lp (B_md_fitting_50 l0 l1) n s h = some (x, hx) → ∀ r, Ev P d 278 (167, [.ref l0, unk, .int x, unk, unk], [], hx) r → Ev P d 278 (50, [.ref l0, .int l1, .int s.1, .int s.2, unk], [], h) r := by
  refine lp_ev (G0 := fun (s : Int32 × Int32) h r => Ev P d 278 (50, [.ref l0, .int l1, .int s.1, .int s.2, unk], [], h) r) (X := fun (x : Int32) hx r => Ev P d 278 (167, [.ref l0, unk, .int x, unk, unk], [], hx) r) ?_
  intro s h y h9 hS r hK
  unfold B_md_fitting_50 at hS
  show Ev P d 278 (50, [.ref l0, .int l1, .int s.1, .int s.2, unk], [], h) r
  refine ev_iload_n pm278 i278_50 rfl rfl rfl ?_
  refine ev_iconst (v := 1) pm278 i278_51 rfl (by decide) rfl ?_
  refine ev_aload_n pm278 i278_52 rfl rfl rfl ?_
  obtain ⟨x18, e19, hS⟩ := bn_s hS
  refine ev_getR pm278 i278_53 rfl rfl rfl e19 rfl ?_
  obtain ⟨x20, e21, hS⟩ := bn_s hS
  refine ev_getI pm278 i278_56 rfl rfl (by decide) e21 rfl ?_
  refine ev_b2 (f := fun x y => x <<< (y &&& 31)) pm278 i278_59 rfl (fun _ _ _ _ => rfl) rfl ?_
  by_cases c682 : s.2 < ((1 : Int32) <<< (x20 &&& 31))
  · rw [if_pos c682] at hS
    refine ev_icmp_ge_t (t := 167) pm278 i278_60 rfl c682 rfl rfl ?_
    refine ev_aload_n pm278 i278_63 rfl rfl rfl ?_
    refine ev_iload_n pm278 i278_64 rfl rfl rfl ?_
    obtain ⟨x23, h24, e22, hS⟩ := bd_s hS
    refine ev_callV (sa := [.int s.2]) (rest := []) (st' := [.int x23]) (ls0 := [.ref l0, .int s.2, unk]) (rv := some (.int x23)) pm278 i278_65 rfl rfl pm279 (by decide) (K_md_wrong e22) rfl rfl (Nat.le_of_ble_eq_true rfl) (by omega) rfl (R_md_wrong (d - 1) (by omega) e22) (by simp) rfl rfl ?_
    refine ev_bipush (v := -2) pm278 i278_68 rfl (by decide) rfl ?_
    by_cases c683 : x23 = (-2 : Int32)
    · rw [if_pos c683] at hS
      refine ev_icmp_eq_t (t := 76) pm278 i278_70 rfl c683 rfl rfl ?_
      refine ev_aload_n pm278 i278_76 rfl rfl rfl ?_
      obtain ⟨x25, e26, hS⟩ := bn_s hS
      refine ev_getI pm278 i278_77 rfl rfl (by decide) e26 rfl ?_
      refine ev_iload_n pm278 i278_80 rfl rfl rfl ?_
      obtain ⟨q27, I684, hS⟩ := bn_s hS
      have J1 : Ev P d 278 (86, [.ref l0, .int l1, .int q27, .int s.2, unk], [], h24) r := by
        refine ev_aload_n pm278 i278_86 rfl rfl rfl ?_
        refine ev_dup pm278 i278_87 rfl rfl rfl ?_
        obtain ⟨x28, e29, hS⟩ := bn_s hS
        refine ev_getI pm278 i278_88 rfl rfl (by decide) e29 rfl ?_
        refine ev_iconst (v := 1) pm278 i278_91 rfl (by decide) rfl ?_
        refine ev_b2 (f := fun x y => x + y) pm278 i278_92 rfl (fun _ _ _ _ => rfl) rfl ?_
        obtain ⟨h30, e31, hS⟩ := bn_s hS
        refine ev_putI pm278 i278_93 rfl rfl rfl e31 rfl ?_
        refine ev_aload_n pm278 i278_96 rfl rfl rfl ?_
        refine ev_dup pm278 i278_97 rfl rfl rfl ?_
        obtain ⟨x32, e33, hS⟩ := bn_s hS
        refine ev_getI pm278 i278_98 rfl rfl (by decide) e33 rfl ?_
        refine ev_iload_n pm278 i278_101 rfl rfl rfl ?_
        refine ev_b2 (f := fun x y => x ||| y) pm278 i278_102 rfl (fun _ _ _ _ => rfl) rfl ?_
        obtain ⟨h34, e35, hS⟩ := bn_s hS
        refine ev_putI pm278 i278_103 rfl rfl rfl e35 rfl ?_
        refine ev_aload_n pm278 i278_106 rfl rfl rfl ?_
        refine ev_dup pm278 i278_107 rfl rfl rfl ?_
        obtain ⟨x36, e37, hS⟩ := bn_s hS
        refine ev_getI pm278 i278_108 rfl rfl (by decide) e37 rfl ?_
        refine ev_iload_n pm278 i278_111 rfl rfl rfl ?_
        refine ev_b2 (f := fun x y => x &&& y) pm278 i278_112 rfl (fun _ _ _ _ => rfl) rfl ?_
        obtain ⟨h38, e39, hS⟩ := bn_s hS
        refine ev_putI pm278 i278_113 rfl rfl rfl e39 rfl ?_
        refine ev_iconst (v := 0) pm278 i278_116 rfl (by decide) rfl ?_
        refine ev_istore (ls' := [.ref l0, .int l1, .int q27, .int s.2, .int (0 : Int32)]) pm278 i278_117 rfl (Nat.le_of_ble_eq_true rfl) rfl rfl ?_
        obtain ⟨x54, h56, e55, hS⟩ := bd_s hS
        refine L_md_fitting_119 d (by omega) _ _ _ _ _ e55 _ ?_
        show Ev P d 278 (161, [.ref l0, .int l1, .int q27, .int s.2, unk], [], h56) _
        refine ev_iinc (v := 1) (ls' := [.ref l0, .int l1, .int q27, .int (s.2 + (1 : Int32)), unk]) pm278 i278_161 rfl rfl (by decide) rfl rfl ?_
        refine ev_goto (t := 50) pm278 i278_164 rfl rfl ?_
        cases hS
        exact hK
      clear hS
      by_cases c684 : x25 = l1
      · rw [if_pos c684] at I684
        refine ev_icmp_ne_t (t := 86) pm278 i278_81 rfl c684 rfl rfl ?_
        refine ev_iload_n pm278 i278_84 rfl rfl rfl ?_
        refine ev_istore_n (ls' := [.ref l0, .int l1, .int s.2, .int s.2, unk]) pm278 i278_85 rfl (Nat.le_of_ble_eq_true rfl) rfl rfl ?_
        cases I684
        exact J1
      · rw [if_neg c684] at I684
        refine ev_icmp_ne_f (t := 86) pm278 i278_81 rfl c684 rfl rfl ?_
        cases I684
        exact J1
    · rw [if_neg c683] at hS
      refine ev_icmp_eq_f (t := 76) pm278 i278_70 rfl c683 rfl rfl ?_
      refine ev_goto (t := 161) pm278 i278_73 rfl rfl ?_
      refine ev_iinc (v := 1) (ls' := [.ref l0, .int l1, .int s.1, .int (s.2 + (1 : Int32)), unk]) pm278 i278_161 rfl rfl (by decide) rfl rfl ?_
      refine ev_goto (t := 50) pm278 i278_164 rfl rfl ?_
      cases hS
      exact hK
  · rw [if_neg c682] at hS
    refine ev_icmp_ge_f (t := 167) pm278 i278_60 rfl c682 rfl rfl ?_
    refine ev_kls (ls' := [.ref l0, unk, .int s.1, unk, unk]) pm278 i278_167 rfl rfl ?_
    cases hS
    exact hK
def F_md_fitting (a0 : Nat) (a1 : Int32) (h : Hp) : Option (Int32 × Hp) :=
  ck h a0 13 (bn (pI h a0 13 26 (0 : Int32)) fun h1 =>
  bn (pI h1 a0 13 27 (0 : Int32)) fun h3 =>
  bn (gR h3 a0 13 3) fun x5 =>
  bn (gI h3 x5 12 4) fun x7 =>
  bn (pI h3 a0 13 28 (((1 : Int32) <<< (x7 &&& 31)) - (1 : Int32))) fun h9 =>
  bd (lp (B_md_fitting_30 a0 a1 (-2 : Int32)) FU (0 : Int32) h9) fun x15 h17 =>
  bd (lp (B_md_fitting_50 a0 a1) FU ((-2 : Int32), (0 : Int32)) h17) fun x57 h59 =>
  bn (gI h59 a0 13 26) fun x60 =>
  if x60 = (0 : Int32) then
    (bn (pI h59 a0 13 28 (0 : Int32)) fun h62 =>
    some (x57, h62))
  else
    (some (x57, h59)))
set_option maxRecDepth 20000 in
theorem K_md_fitting {a0 : Nat} {a1 : Int32} {h : Hp} {v : Int32} {h' : Hp} (hS : F_md_fitting a0 a1 h = some (v, h')) : kd h a0 = 13 := by
  unfold F_md_fitting at hS
  exact (ck_s hS).1
set_option maxRecDepth 20000 in
theorem R_md_fitting (d : Nat) (hd : 6 ≤ d) {a0 : Nat} {a1 : Int32} {h : Hp} {v : Int32} {h' : Hp} (hS : F_md_fitting a0 a1 h = some (v, h')) : Ev P d 278 (0, [.ref a0, .int a1, unk, unk, unk], [], h) (some (.int v), h') := by
  unfold F_md_fitting at hS
  replace hS := (ck_s hS).2
  refine ev_aload_n pm278 i278_0 rfl rfl rfl ?_
  refine ev_iconst (v := 0) pm278 i278_1 rfl (by decide) rfl ?_
  obtain ⟨h1, e2, hS⟩ := bn_s hS
  refine ev_putI pm278 i278_2 rfl rfl rfl e2 rfl ?_
  refine ev_aload_n pm278 i278_5 rfl rfl rfl ?_
  refine ev_iconst (v := 0) pm278 i278_6 rfl (by decide) rfl ?_
  obtain ⟨h3, e4, hS⟩ := bn_s hS
  refine ev_putI pm278 i278_7 rfl rfl rfl e4 rfl ?_
  refine ev_aload_n pm278 i278_10 rfl rfl rfl ?_
  refine ev_iconst (v := 1) pm278 i278_11 rfl (by decide) rfl ?_
  refine ev_aload_n pm278 i278_12 rfl rfl rfl ?_
  obtain ⟨x5, e6, hS⟩ := bn_s hS
  refine ev_getR pm278 i278_13 rfl rfl rfl e6 rfl ?_
  obtain ⟨x7, e8, hS⟩ := bn_s hS
  refine ev_getI pm278 i278_16 rfl rfl (by decide) e8 rfl ?_
  refine ev_b2 (f := fun x y => x <<< (y &&& 31)) pm278 i278_19 rfl (fun _ _ _ _ => rfl) rfl ?_
  refine ev_iconst (v := 1) pm278 i278_20 rfl (by decide) rfl ?_
  refine ev_b2 (f := fun x y => x - y) pm278 i278_21 rfl (fun _ _ _ _ => rfl) rfl ?_
  obtain ⟨h9, e10, hS⟩ := bn_s hS
  refine ev_putI pm278 i278_22 rfl rfl rfl e10 rfl ?_
  refine ev_bipush (v := -2) pm278 i278_25 rfl (by decide) rfl ?_
  refine ev_istore_n (ls' := [.ref a0, .int a1, .int (-2 : Int32), unk, unk]) pm278 i278_27 rfl (Nat.le_of_ble_eq_true rfl) rfl rfl ?_
  refine ev_iconst (v := 0) pm278 i278_28 rfl (by decide) rfl ?_
  refine ev_istore_n (ls' := [.ref a0, .int a1, .int (-2 : Int32), .int (0 : Int32), unk]) pm278 i278_29 rfl (Nat.le_of_ble_eq_true rfl) rfl rfl ?_
  obtain ⟨x15, h17, e16, hS⟩ := bd_s hS
  refine L_md_fitting_30 d (by omega) _ _ _ _ _ e16 _ ?_
  show Ev P d 278 (48, [.ref a0, .int a1, .int (-2 : Int32), unk, unk], [], h17) _
  refine ev_iconst (v := 0) pm278 i278_48 rfl (by decide) rfl ?_
  refine ev_istore_n (ls' := [.ref a0, .int a1, .int (-2 : Int32), .int (0 : Int32), unk]) pm278 i278_49 rfl (Nat.le_of_ble_eq_true rfl) rfl rfl ?_
  obtain ⟨x57, h59, e58, hS⟩ := bd_s hS
  refine L_md_fitting_50 d (by omega) _ _ _ _ _ e58 _ ?_
  show Ev P d 278 (167, [.ref a0, unk, .int x57, unk, unk], [], h59) _
  refine ev_aload_n pm278 i278_167 rfl rfl rfl ?_
  obtain ⟨x60, e61, hS⟩ := bn_s hS
  refine ev_getI pm278 i278_168 rfl rfl (by decide) e61 rfl ?_
  by_cases c685 : x60 = (0 : Int32)
  · rw [if_pos c685] at hS
    refine ev_if_ne_t (t := 179) pm278 i278_171 rfl c685 rfl rfl ?_
    refine ev_aload_n pm278 i278_174 rfl rfl rfl ?_
    refine ev_iconst (v := 0) pm278 i278_175 rfl (by decide) rfl ?_
    obtain ⟨h62, e63, hS⟩ := bn_s hS
    refine ev_putI pm278 i278_176 rfl rfl rfl e63 rfl ?_
    refine ev_kls (ls' := [unk, unk, .int x57, unk, unk]) pm278 i278_179 rfl rfl ?_
    refine ev_iload_n pm278 i278_179 rfl rfl rfl ?_
    cases hS
    exact ev_ireturn pm278 i278_180 rfl rfl rfl
  · rw [if_neg c685] at hS
    refine ev_if_ne_f (t := 179) pm278 i278_171 rfl c685 rfl rfl ?_
    refine ev_kls (ls' := [unk, unk, .int x57, unk, unk]) pm278 i278_179 rfl rfl ?_
    refine ev_iload_n pm278 i278_179 rfl rfl rfl ?_
    cases hS
    exact ev_ireturn pm278 i278_180 rfl rfl rfl
