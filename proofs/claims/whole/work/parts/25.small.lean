def F_md_bit (a0 : Int32) (a1 : Int32) : Option Int32 :=
  if ((a0 >>> (a1 &&& 31)) &&& (1 : Int32)) = (1 : Int32) then
    (some (1 : Int32))
  else
    (some (0 : Int32))
set_option maxRecDepth 20000 in
theorem R_md_bit (d : Nat) (hd : 0 ≤ d) {a0 : Int32} {a1 : Int32} {h : Hp} {v : Int32} (hS : F_md_bit a0 a1 = some v) : Ev P d 214 (0, [.int a0, .int a1], [], h) (some (.int v), h) := by
  unfold F_md_bit at hS
  refine ev_iload_n pm214 i214_0 rfl rfl rfl ?_
  refine ev_iload_n pm214 i214_1 rfl rfl rfl ?_
  refine ev_b2 (f := fun x y => x >>> (y &&& 31)) pm214 i214_2 rfl (fun _ _ _ _ => rfl) rfl ?_
  refine ev_iconst (v := 1) pm214 i214_3 rfl (by decide) rfl ?_
  refine ev_b2 (f := fun x y => x &&& y) pm214 i214_4 rfl (fun _ _ _ _ => rfl) rfl ?_
  refine ev_iconst (v := 1) pm214 i214_5 rfl (by decide) rfl ?_
  by_cases c507 : ((a0 >>> (a1 &&& 31)) &&& (1 : Int32)) = (1 : Int32)
  · rw [if_pos c507] at hS
    refine ev_icmp_ne_t (t := 13) pm214 i214_6 rfl c507 rfl rfl ?_
    refine ev_iconst (v := 1) pm214 i214_9 rfl (by decide) rfl ?_
    refine ev_goto (t := 14) pm214 i214_10 rfl rfl ?_
    refine ev_kls (ls' := [unk, unk]) pm214 i214_14 rfl rfl ?_
    cases hS
    exact ev_ireturn pm214 i214_14 rfl (by decide) rfl
  · rw [if_neg c507] at hS
    refine ev_icmp_ne_f (t := 13) pm214 i214_6 rfl c507 rfl rfl ?_
    refine ev_iconst (v := 0) pm214 i214_13 rfl (by decide) rfl ?_
    refine ev_kls (ls' := [unk, unk]) pm214 i214_14 rfl rfl ?_
    cases hS
    exact ev_ireturn pm214 i214_14 rfl (by decide) rfl
def F_md_readCorks (a0 : Nat) (h : Hp) : Option Hp :=
  ck h a0 13 (bn (F_md_lineBegins a0 (0 : Int32) (1 : Int32) h) fun h2 =>
  bd (F_md_readKnown a0 (0 : Int32) h2) fun x4 h5 =>
  bd (F_md_kindAtHand a0 h5) fun x7 h8 =>
  bn (gI h8 a0 13 9) fun x9 =>
  bn (if x9 = (5 : Int32) then
      (some h8)
    else
      (bn (gR h8 a0 13 4) fun x11 =>
      bn (gR h8 x11 12 12) fun x13 =>
      bn (aI h8 100 x13 x4) fun x15 =>
      bn (F_md_bit x15 x7) fun x18 =>
      if x18 = (0 : Int32) then
        (some h8)
      else
        (bn (F_md_flaw a0 (3 : Int32) h8) fun h20 =>
        some h20))) fun h22 =>
  bn (F_md_goesOn a0 h22) fun h24 =>
  bd (F_md_readWhole a0 (1 : Int32) (30 : Int32) h24) fun x26 h27 =>
  bn (gI h27 a0 13 9) fun x28 =>
  if x28 = (5 : Int32) then
    (some h27)
  else
    (bn (gR h27 a0 13 4) fun x30 =>
    bn (gR h27 x30 12 12) fun x32 =>
    bn (aI h27 100 x32 x4) fun x34 =>
    bn (sI h27 100 x32 x4 (x34 ||| ((1 : Int32) <<< (x7 &&& 31)))) fun h36 =>
    bn (gR h36 a0 13 4) fun x38 =>
    bn (gR h36 x38 12 11) fun x40 =>
    bn (sI h36 100 x40 (((5 : Int32) * x4) + x7) x26) fun h42 =>
    some h42))
set_option maxRecDepth 20000 in
theorem K_md_readCorks {a0 : Nat} {h : Hp} {h' : Hp} (hS : F_md_readCorks a0 h = some h') : kd h a0 = 13 := by
  unfold F_md_readCorks at hS
  exact (ck_s hS).1
set_option maxRecDepth 20000 in
theorem R_md_readCorks (d : Nat) (hd : 9 ≤ d) {a0 : Nat} {h : Hp} {h' : Hp} (hS : F_md_readCorks a0 h = some h') : Ev P d 212 (0, [.ref a0, unk, unk, unk], [], h) (none, h') := by
  unfold F_md_readCorks at hS
  replace hS := (ck_s hS).2
  refine ev_aload_n pm212 i212_0 rfl rfl rfl ?_
  refine ev_iconst (v := 0) pm212 i212_1 rfl (by decide) rfl ?_
  refine ev_iconst (v := 1) pm212 i212_2 rfl (by decide) rfl ?_
  obtain ⟨h2, e1, hS⟩ := bn_s hS
  refine ev_callV (sa := [.int (1 : Int32), .int (0 : Int32)]) (rest := []) (st' := []) (ls0 := [.ref a0, .int (0 : Int32), .int (1 : Int32)]) (rv := none) pm212 i212_3 rfl rfl pm203 (by decide) (K_md_lineBegins e1) rfl rfl (Nat.le_of_ble_eq_true rfl) (by omega) rfl (R_md_lineBegins (d - 1) (by omega) e1) (by simp) rfl rfl ?_
  refine ev_aload_n pm212 i212_6 rfl rfl rfl ?_
  refine ev_iconst (v := 0) pm212 i212_7 rfl (by decide) rfl ?_
  obtain ⟨x4, h5, e3, hS⟩ := bd_s hS
  refine ev_callV (sa := [.int (0 : Int32)]) (rest := []) (st' := [.int x4]) (ls0 := [.ref a0, .int (0 : Int32), unk]) (rv := some (.int x4)) pm212 i212_8 rfl rfl pm209 (by decide) (K_md_readKnown e3) rfl rfl (Nat.le_of_ble_eq_true rfl) (by omega) rfl (R_md_readKnown (d - 1) (by omega) e3) (by simp) rfl rfl ?_
  refine ev_istore_n (ls' := [.ref a0, .int x4, unk, unk]) pm212 i212_11 rfl (Nat.le_of_ble_eq_true rfl) rfl rfl ?_
  refine ev_aload_n pm212 i212_12 rfl rfl rfl ?_
  obtain ⟨x7, h8, e6, hS⟩ := bd_s hS
  refine ev_callV (sa := []) (rest := []) (st' := [.int x7]) (ls0 := [.ref a0, unk]) (rv := some (.int x7)) pm212 i212_13 rfl rfl pm213 (by decide) (K_md_kindAtHand e6) rfl rfl (Nat.le_of_ble_eq_true rfl) (by omega) rfl (R_md_kindAtHand (d - 1) (by omega) e6) (by simp) rfl rfl ?_
  refine ev_istore_n (ls' := [.ref a0, .int x4, .int x7, unk]) pm212 i212_16 rfl (Nat.le_of_ble_eq_true rfl) rfl rfl ?_
  refine ev_aload_n pm212 i212_17 rfl rfl rfl ?_
  obtain ⟨x9, e10, hS⟩ := bn_s hS
  refine ev_getI pm212 i212_18 rfl rfl (by decide) e10 rfl ?_
  refine ev_iconst (v := 5) pm212 i212_21 rfl (by decide) rfl ?_
  obtain ⟨h22, I508, hS⟩ := bn_s hS
  have J1 : Ev P d 212 (46, [.ref a0, .int x4, .int x7, unk], [], h22) (none, h') := by
    refine ev_aload_n pm212 i212_46 rfl rfl rfl ?_
    obtain ⟨h24, e23, hS⟩ := bn_s hS
    refine ev_callV (sa := []) (rest := []) (st' := []) (ls0 := [.ref a0, unk, unk]) (rv := none) pm212 i212_47 rfl rfl pm188 (by decide) (K_md_goesOn e23) rfl rfl (Nat.le_of_ble_eq_true rfl) (by omega) rfl (R_md_goesOn (d - 1) (by omega) e23) (by simp) rfl rfl ?_
    refine ev_aload_n pm212 i212_50 rfl rfl rfl ?_
    refine ev_iconst (v := 1) pm212 i212_51 rfl (by decide) rfl ?_
    refine ev_bipush (v := 30) pm212 i212_52 rfl (by decide) rfl ?_
    obtain ⟨x26, h27, e25, hS⟩ := bd_s hS
    refine ev_callV (sa := [.int (30 : Int32), .int (1 : Int32)]) (rest := []) (st' := [.int x26]) (ls0 := [.ref a0, .int (1 : Int32), .int (30 : Int32), unk]) (rv := some (.int x26)) pm212 i212_54 rfl rfl pm200 (by decide) (K_md_readWhole e25) rfl rfl (Nat.le_of_ble_eq_true rfl) (by omega) rfl (R_md_readWhole (d - 1) (by omega) e25) (by simp) rfl rfl ?_
    refine ev_istore_n (ls' := [.ref a0, .int x4, .int x7, .int x26]) pm212 i212_57 rfl (Nat.le_of_ble_eq_true rfl) rfl rfl ?_
    refine ev_aload_n pm212 i212_58 rfl rfl rfl ?_
    obtain ⟨x28, e29, hS⟩ := bn_s hS
    refine ev_getI pm212 i212_59 rfl rfl (by decide) e29 rfl ?_
    refine ev_iconst (v := 5) pm212 i212_62 rfl (by decide) rfl ?_
    by_cases c509 : x28 = (5 : Int32)
    · rw [if_pos c509] at hS
      refine ev_icmp_ne_t (t := 67) pm212 i212_63 rfl c509 rfl rfl ?_
      cases hS
      exact ev_return pm212 i212_66 rfl rfl rfl
    · rw [if_neg c509] at hS
      refine ev_icmp_ne_f (t := 67) pm212 i212_63 rfl c509 rfl rfl ?_
      refine ev_aload_n pm212 i212_67 rfl rfl rfl ?_
      obtain ⟨x30, e31, hS⟩ := bn_s hS
      refine ev_getR pm212 i212_68 rfl rfl rfl e31 rfl ?_
      obtain ⟨x32, e33, hS⟩ := bn_s hS
      refine ev_getR pm212 i212_71 rfl rfl rfl e33 rfl ?_
      refine ev_iload_n pm212 i212_74 rfl rfl rfl ?_
      refine ev_dup2 pm212 i212_75 rfl ⟨rfl, rfl⟩ rfl ?_
      obtain ⟨x34, e35, hS⟩ := bn_s hS
      refine ev_iald pm212 i212_76 rfl e35 rfl ?_
      refine ev_iconst (v := 1) pm212 i212_77 rfl (by decide) rfl ?_
      refine ev_iload_n pm212 i212_78 rfl rfl rfl ?_
      refine ev_b2 (f := fun x y => x <<< (y &&& 31)) pm212 i212_79 rfl (fun _ _ _ _ => rfl) rfl ?_
      refine ev_b2 (f := fun x y => x ||| y) pm212 i212_80 rfl (fun _ _ _ _ => rfl) rfl ?_
      obtain ⟨h36, e37, hS⟩ := bn_s hS
      refine ev_iast pm212 i212_81 rfl e37 rfl ?_
      refine ev_aload_n pm212 i212_82 rfl rfl rfl ?_
      obtain ⟨x38, e39, hS⟩ := bn_s hS
      refine ev_getR pm212 i212_83 rfl rfl rfl e39 rfl ?_
      obtain ⟨x40, e41, hS⟩ := bn_s hS
      refine ev_getR pm212 i212_86 rfl rfl rfl e41 rfl ?_
      refine ev_iconst (v := 5) pm212 i212_89 rfl (by decide) rfl ?_
      refine ev_iload_n pm212 i212_90 rfl rfl rfl ?_
      refine ev_b2 (f := fun x y => x * y) pm212 i212_91 rfl (fun _ _ _ _ => rfl) rfl ?_
      refine ev_iload_n pm212 i212_92 rfl rfl rfl ?_
      refine ev_b2 (f := fun x y => x + y) pm212 i212_93 rfl (fun _ _ _ _ => rfl) rfl ?_
      refine ev_iload_n pm212 i212_94 rfl rfl rfl ?_
      obtain ⟨h42, e43, hS⟩ := bn_s hS
      refine ev_iast pm212 i212_95 rfl e43 rfl ?_
      cases hS
      exact ev_return pm212 i212_96 rfl rfl rfl
  clear hS
  by_cases c508 : x9 = (5 : Int32)
  · rw [if_pos c508] at I508
    refine ev_icmp_eq_t (t := 46) pm212 i212_22 rfl c508 rfl rfl ?_
    cases I508
    exact J1
  · rw [if_neg c508] at I508
    refine ev_icmp_eq_f (t := 46) pm212 i212_22 rfl c508 rfl rfl ?_
    refine ev_aload_n pm212 i212_25 rfl rfl rfl ?_
    obtain ⟨x11, e12, I508⟩ := bn_s I508
    refine ev_getR pm212 i212_26 rfl rfl rfl e12 rfl ?_
    obtain ⟨x13, e14, I508⟩ := bn_s I508
    refine ev_getR pm212 i212_29 rfl rfl rfl e14 rfl ?_
    refine ev_iload_n pm212 i212_32 rfl rfl rfl ?_
    obtain ⟨x15, e16, I508⟩ := bn_s I508
    refine ev_iald pm212 i212_33 rfl e16 rfl ?_
    refine ev_iload_n pm212 i212_34 rfl rfl rfl ?_
    obtain ⟨x18, e17, I508⟩ := bn_s I508
    refine ev_callS (sa := [.int x7, .int x15]) (rest := []) (st' := [.int x18]) (ls0 := [.int x15, .int x7]) (rv := some (.int x18)) pm212 i212_35 rfl rfl pm214 (by decide) rfl rfl (Nat.le_of_ble_eq_true rfl) (by omega) rfl (R_md_bit (d - 1) (by omega) e17) (by simp) rfl rfl ?_
    by_cases c510 : x18 = (0 : Int32)
    · rw [if_pos c510] at I508
      refine ev_if_eq_t (t := 46) pm212 i212_38 rfl c510 rfl rfl ?_
      cases I508
      exact J1
    · rw [if_neg c510] at I508
      refine ev_if_eq_f (t := 46) pm212 i212_38 rfl c510 rfl rfl ?_
      refine ev_aload_n pm212 i212_41 rfl rfl rfl ?_
      refine ev_iconst (v := 3) pm212 i212_42 rfl (by decide) rfl ?_
      obtain ⟨h20, e19, I508⟩ := bn_s I508
      refine ev_callV (sa := [.int (3 : Int32)]) (rest := []) (st' := []) (ls0 := [.ref a0, .int (3 : Int32)]) (rv := none) pm212 i212_43 rfl rfl pm197 (by decide) (K_md_flaw e19) rfl rfl (Nat.le_of_ble_eq_true rfl) (by omega) rfl (R_md_flaw (d - 1) (by omega) e19) (by simp) rfl rfl ?_
      cases I508
      exact J1
def F_md_readGuest (a0 : Nat) (h : Hp) : Option Hp :=
  ck h a0 13 (bn (gR h a0 13 4) fun x1 =>
  bn (gI h x1 12 3) fun x3 =>
  bn (F_md_lineBegins a0 x3 (3 : Int32) h) fun h6 =>
  bd (F_md_readFresh a0 h6) fun x8 h9 =>
  bd (F_md_readPart a0 1000015 (1 : Int32) (50 : Int32) h9) fun x11 h12 =>
  bn (F_md_needs a0 1000021 h12) fun h14 =>
  bd (F_md_readKnown a0 (0 : Int32) h14) fun x16 h17 =>
  bn (gI h17 a0 13 9) fun x18 =>
  if x18 = (5 : Int32) then
    (some h17)
  else
    (bn (gR h17 a0 13 4) fun x20 =>
    bn (gI h17 x20 12 3) fun x22 =>
    bn (F_md_names a0 x8 (1 : Int32) x22 h17) fun h25 =>
    bn (gR h25 a0 13 4) fun x26 =>
    bn (gR h25 x26 12 15) fun x28 =>
    bn (gR h25 a0 13 4) fun x30 =>
    bn (gI h25 x30 12 3) fun x32 =>
    bn (sI h25 100 x28 x32 x11) fun h34 =>
    bn (gR h34 a0 13 4) fun x36 =>
    bn (gR h34 x36 12 16) fun x38 =>
    bn (gR h34 a0 13 4) fun x40 =>
    bn (gI h34 x40 12 3) fun x42 =>
    bn (sI h34 100 x38 x42 x16) fun h44 =>
    bn (gR h44 a0 13 4) fun x46 =>
    bn (gI h44 x46 12 3) fun x48 =>
    bn (pI h44 x46 12 3 (x48 + (1 : Int32))) fun h50 =>
    some h50))
set_option maxRecDepth 20000 in
theorem K_md_readGuest {a0 : Nat} {h : Hp} {h' : Hp} (hS : F_md_readGuest a0 h = some h') : kd h a0 = 13 := by
  unfold F_md_readGuest at hS
  exact (ck_s hS).1
set_option maxRecDepth 20000 in
theorem R_md_readGuest (d : Nat) (hd : 9 ≤ d) {a0 : Nat} {h : Hp} {h' : Hp} (hS : F_md_readGuest a0 h = some h') : Ev P d 215 (0, [.ref a0, unk, unk, unk, unk], [], h) (none, h') := by
  unfold F_md_readGuest at hS
  replace hS := (ck_s hS).2
  refine ev_aload_n pm215 i215_0 rfl rfl rfl ?_
  refine ev_aload_n pm215 i215_1 rfl rfl rfl ?_
  obtain ⟨x1, e2, hS⟩ := bn_s hS
  refine ev_getR pm215 i215_2 rfl rfl rfl e2 rfl ?_
  obtain ⟨x3, e4, hS⟩ := bn_s hS
  refine ev_getI pm215 i215_5 rfl rfl (by decide) e4 rfl ?_
  refine ev_iconst (v := 3) pm215 i215_8 rfl (by decide) rfl ?_
  obtain ⟨h6, e5, hS⟩ := bn_s hS
  refine ev_callV (sa := [.int (3 : Int32), .int x3]) (rest := []) (st' := []) (ls0 := [.ref a0, .int x3, .int (3 : Int32)]) (rv := none) pm215 i215_9 rfl rfl pm203 (by decide) (K_md_lineBegins e5) rfl rfl (Nat.le_of_ble_eq_true rfl) (by omega) rfl (R_md_lineBegins (d - 1) (by omega) e5) (by simp) rfl rfl ?_
  refine ev_aload_n pm215 i215_12 rfl rfl rfl ?_
  obtain ⟨x8, h9, e7, hS⟩ := bd_s hS
  refine ev_callV (sa := []) (rest := []) (st' := [.long x8]) (ls0 := [.ref a0, unk, unk]) (rv := some (.long x8)) pm215 i215_13 rfl rfl pm204 (by decide) (K_md_readFresh e7) rfl rfl (Nat.le_of_ble_eq_true rfl) (by omega) rfl (R_md_readFresh (d - 1) (by omega) e7) (by simp) rfl rfl ?_
  refine ev_lstore_n (ls' := [.ref a0, .long x8, unk, unk, unk]) pm215 i215_16 rfl (Nat.le_of_ble_eq_true rfl) rfl rfl ?_
  refine ev_aload_n pm215 i215_17 rfl rfl rfl ?_
  refine ev_ldc_w (v := .ref 1000015) pm215 i215_18 rfl rfl rfl ?_
  refine ev_iconst (v := 1) pm215 i215_21 rfl (by decide) rfl ?_
  refine ev_bipush (v := 50) pm215 i215_22 rfl (by decide) rfl ?_
  obtain ⟨x11, h12, e10, hS⟩ := bd_s hS
  refine ev_callV (sa := [.int (50 : Int32), .int (1 : Int32), .ref 1000015]) (rest := []) (st' := [.int x11]) (ls0 := [.ref a0, .ref 1000015, .int (1 : Int32), .int (50 : Int32)]) (rv := some (.int x11)) pm215 i215_24 rfl rfl pm198 (by decide) (K_md_readPart e10) rfl rfl (Nat.le_of_ble_eq_true rfl) (by omega) rfl (R_md_readPart (d - 1) (by omega) e10) (by simp) rfl rfl ?_
  refine ev_istore_n (ls' := [.ref a0, .long x8, unk, .int x11, unk]) pm215 i215_27 rfl (Nat.le_of_ble_eq_true rfl) rfl rfl ?_
  refine ev_aload_n pm215 i215_28 rfl rfl rfl ?_
  refine ev_ldc_w (v := .ref 1000021) pm215 i215_29 rfl rfl rfl ?_
  obtain ⟨h14, e13, hS⟩ := bn_s hS
  refine ev_callV (sa := [.ref 1000021]) (rest := []) (st' := []) (ls0 := [.ref a0, .ref 1000021]) (rv := none) pm215 i215_32 rfl rfl pm199 (by decide) (K_md_needs e13) rfl rfl (Nat.le_of_ble_eq_true rfl) (by omega) rfl (R_md_needs (d - 1) (by omega) e13) (by simp) rfl rfl ?_
  refine ev_aload_n pm215 i215_35 rfl rfl rfl ?_
  refine ev_iconst (v := 0) pm215 i215_36 rfl (by decide) rfl ?_
  obtain ⟨x16, h17, e15, hS⟩ := bd_s hS
  refine ev_callV (sa := [.int (0 : Int32)]) (rest := []) (st' := [.int x16]) (ls0 := [.ref a0, .int (0 : Int32), unk]) (rv := some (.int x16)) pm215 i215_37 rfl rfl pm209 (by decide) (K_md_readKnown e15) rfl rfl (Nat.le_of_ble_eq_true rfl) (by omega) rfl (R_md_readKnown (d - 1) (by omega) e15) (by simp) rfl rfl ?_
  refine ev_istore (ls' := [.ref a0, .long x8, unk, .int x11, .int x16]) pm215 i215_40 rfl (Nat.le_of_ble_eq_true rfl) rfl rfl ?_
  refine ev_aload_n pm215 i215_42 rfl rfl rfl ?_
  obtain ⟨x18, e19, hS⟩ := bn_s hS
  refine ev_getI pm215 i215_43 rfl rfl (by decide) e19 rfl ?_
  refine ev_iconst (v := 5) pm215 i215_46 rfl (by decide) rfl ?_
  by_cases c511 : x18 = (5 : Int32)
  · rw [if_pos c511] at hS
    refine ev_icmp_ne_t (t := 51) pm215 i215_47 rfl c511 rfl rfl ?_
    cases hS
    exact ev_return pm215 i215_50 rfl rfl rfl
  · rw [if_neg c511] at hS
    refine ev_icmp_ne_f (t := 51) pm215 i215_47 rfl c511 rfl rfl ?_
    refine ev_aload_n pm215 i215_51 rfl rfl rfl ?_
    refine ev_lload_n pm215 i215_52 rfl rfl rfl ?_
    refine ev_iconst (v := 1) pm215 i215_53 rfl (by decide) rfl ?_
    refine ev_aload_n pm215 i215_54 rfl rfl rfl ?_
    obtain ⟨x20, e21, hS⟩ := bn_s hS
    refine ev_getR pm215 i215_55 rfl rfl rfl e21 rfl ?_
    obtain ⟨x22, e23, hS⟩ := bn_s hS
    refine ev_getI pm215 i215_58 rfl rfl (by decide) e23 rfl ?_
    obtain ⟨h25, e24, hS⟩ := bn_s hS
    refine ev_callV (sa := [.int x22, .int (1 : Int32), .long x8]) (rest := []) (st' := []) (ls0 := [.ref a0, .long x8, unk, .int (1 : Int32), .int x22]) (rv := none) pm215 i215_61 rfl rfl pm207 (by decide) (K_md_names e24) rfl rfl (Nat.le_of_ble_eq_true rfl) (by omega) rfl (R_md_names (d - 1) (by omega) e24) (by simp) rfl rfl ?_
    refine ev_aload_n pm215 i215_64 rfl rfl rfl ?_
    obtain ⟨x26, e27, hS⟩ := bn_s hS
    refine ev_getR pm215 i215_65 rfl rfl rfl e27 rfl ?_
    obtain ⟨x28, e29, hS⟩ := bn_s hS
    refine ev_getR pm215 i215_68 rfl rfl rfl e29 rfl ?_
    refine ev_aload_n pm215 i215_71 rfl rfl rfl ?_
    obtain ⟨x30, e31, hS⟩ := bn_s hS
    refine ev_getR pm215 i215_72 rfl rfl rfl e31 rfl ?_
    obtain ⟨x32, e33, hS⟩ := bn_s hS
    refine ev_getI pm215 i215_75 rfl rfl (by decide) e33 rfl ?_
    refine ev_iload_n pm215 i215_78 rfl rfl rfl ?_
    obtain ⟨h34, e35, hS⟩ := bn_s hS
    refine ev_iast pm215 i215_79 rfl e35 rfl ?_
    refine ev_aload_n pm215 i215_80 rfl rfl rfl ?_
    obtain ⟨x36, e37, hS⟩ := bn_s hS
    refine ev_getR pm215 i215_81 rfl rfl rfl e37 rfl ?_
    obtain ⟨x38, e39, hS⟩ := bn_s hS
    refine ev_getR pm215 i215_84 rfl rfl rfl e39 rfl ?_
    refine ev_aload_n pm215 i215_87 rfl rfl rfl ?_
    obtain ⟨x40, e41, hS⟩ := bn_s hS
    refine ev_getR pm215 i215_88 rfl rfl rfl e41 rfl ?_
    obtain ⟨x42, e43, hS⟩ := bn_s hS
    refine ev_getI pm215 i215_91 rfl rfl (by decide) e43 rfl ?_
    refine ev_iload pm215 i215_94 rfl rfl rfl ?_
    obtain ⟨h44, e45, hS⟩ := bn_s hS
    refine ev_iast pm215 i215_96 rfl e45 rfl ?_
    refine ev_aload_n pm215 i215_97 rfl rfl rfl ?_
    obtain ⟨x46, e47, hS⟩ := bn_s hS
    refine ev_getR pm215 i215_98 rfl rfl rfl e47 rfl ?_
    refine ev_dup pm215 i215_101 rfl rfl rfl ?_
    obtain ⟨x48, e49, hS⟩ := bn_s hS
    refine ev_getI pm215 i215_102 rfl rfl (by decide) e49 rfl ?_
    refine ev_iconst (v := 1) pm215 i215_105 rfl (by decide) rfl ?_
    refine ev_b2 (f := fun x y => x + y) pm215 i215_106 rfl (fun _ _ _ _ => rfl) rfl ?_
    obtain ⟨h50, e51, hS⟩ := bn_s hS
    refine ev_putI pm215 i215_107 rfl rfl rfl e51 rfl ?_
    cases hS
    exact ev_return pm215 i215_110 rfl rfl rfl
def F_md_readDrinker (a0 : Nat) (h : Hp) : Option Hp :=
  ck h a0 13 (bn (gR h a0 13 4) fun x1 =>
  bn (gI h x1 12 4) fun x3 =>
  bn (F_md_lineBegins a0 x3 (3 : Int32) h) fun h6 =>
  bd (F_md_readFresh a0 h6) fun x8 h9 =>
  bd (F_md_kindAtHand a0 h9) fun x11 h12 =>
  bn (gI h12 a0 13 9) fun x13 =>
  bn (if x13 = (5 : Int32) then
      (some h12)
    else
      (bn (if x11 = (1 : Int32) then
          (some (Sum.inl ()))
        else
          (if x11 = (2 : Int32) then
            (some (Sum.inl ()))
          else
            (some (Sum.inr h12)))) fun x19 =>
      ei x19 (fun z16 =>
      bn (F_md_flaw a0 (1 : Int32) h12) fun h18 =>
      some h18)
      (fun z => some z))) fun h21 =>
  bn (F_md_goesOn a0 h21) fun h23 =>
  bd (F_md_readPart a0 1000022 (1 : Int32) (9 : Int32) h23) fun x25 h26 =>
  bn (gI h26 a0 13 9) fun x27 =>
  if x27 = (5 : Int32) then
    (some h26)
  else
    (bn (gR h26 a0 13 4) fun x29 =>
    bn (gI h26 x29 12 4) fun x31 =>
    bn (F_md_names a0 x8 (2 : Int32) x31 h26) fun h34 =>
    bn (gR h34 a0 13 4) fun x35 =>
    bn (gR h34 x35 12 17) fun x37 =>
    bn (gR h34 a0 13 4) fun x39 =>
    bn (gI h34 x39 12 4) fun x41 =>
    bn (sI h34 100 x37 x41 x11) fun h43 =>
    bn (gR h43 a0 13 4) fun x45 =>
    bn (gR h43 x45 12 18) fun x47 =>
    bn (gR h43 a0 13 4) fun x49 =>
    bn (gI h43 x49 12 4) fun x51 =>
    bn (sI h43 100 x47 x51 x25) fun h53 =>
    bn (gR h53 a0 13 4) fun x55 =>
    bn (gI h53 x55 12 4) fun x57 =>
    bn (pI h53 x55 12 4 (x57 + (1 : Int32))) fun h59 =>
    some h59))
set_option maxRecDepth 20000 in
theorem K_md_readDrinker {a0 : Nat} {h : Hp} {h' : Hp} (hS : F_md_readDrinker a0 h = some h') : kd h a0 = 13 := by
  unfold F_md_readDrinker at hS
  exact (ck_s hS).1
set_option maxRecDepth 20000 in
theorem R_md_readDrinker (d : Nat) (hd : 8 ≤ d) {a0 : Nat} {h : Hp} {h' : Hp} (hS : F_md_readDrinker a0 h = some h') : Ev P d 216 (0, [.ref a0, unk, unk, unk, unk], [], h) (none, h') := by
  unfold F_md_readDrinker at hS
  replace hS := (ck_s hS).2
  refine ev_aload_n pm216 i216_0 rfl rfl rfl ?_
  refine ev_aload_n pm216 i216_1 rfl rfl rfl ?_
  obtain ⟨x1, e2, hS⟩ := bn_s hS
  refine ev_getR pm216 i216_2 rfl rfl rfl e2 rfl ?_
  obtain ⟨x3, e4, hS⟩ := bn_s hS
  refine ev_getI pm216 i216_5 rfl rfl (by decide) e4 rfl ?_
  refine ev_iconst (v := 3) pm216 i216_8 rfl (by decide) rfl ?_
  obtain ⟨h6, e5, hS⟩ := bn_s hS
  refine ev_callV (sa := [.int (3 : Int32), .int x3]) (rest := []) (st' := []) (ls0 := [.ref a0, .int x3, .int (3 : Int32)]) (rv := none) pm216 i216_9 rfl rfl pm203 (by decide) (K_md_lineBegins e5) rfl rfl (Nat.le_of_ble_eq_true rfl) (by omega) rfl (R_md_lineBegins (d - 1) (by omega) e5) (by simp) rfl rfl ?_
  refine ev_aload_n pm216 i216_12 rfl rfl rfl ?_
  obtain ⟨x8, h9, e7, hS⟩ := bd_s hS
  refine ev_callV (sa := []) (rest := []) (st' := [.long x8]) (ls0 := [.ref a0, unk, unk]) (rv := some (.long x8)) pm216 i216_13 rfl rfl pm204 (by decide) (K_md_readFresh e7) rfl rfl (Nat.le_of_ble_eq_true rfl) (by omega) rfl (R_md_readFresh (d - 1) (by omega) e7) (by simp) rfl rfl ?_
  refine ev_lstore_n (ls' := [.ref a0, .long x8, unk, unk, unk]) pm216 i216_16 rfl (Nat.le_of_ble_eq_true rfl) rfl rfl ?_
  refine ev_aload_n pm216 i216_17 rfl rfl rfl ?_
  obtain ⟨x11, h12, e10, hS⟩ := bd_s hS
  refine ev_callV (sa := []) (rest := []) (st' := [.int x11]) (ls0 := [.ref a0, unk]) (rv := some (.int x11)) pm216 i216_18 rfl rfl pm213 (by decide) (K_md_kindAtHand e10) rfl rfl (Nat.le_of_ble_eq_true rfl) (by omega) rfl (R_md_kindAtHand (d - 1) (by omega) e10) (by simp) rfl rfl ?_
  refine ev_istore_n (ls' := [.ref a0, .long x8, unk, .int x11, unk]) pm216 i216_21 rfl (Nat.le_of_ble_eq_true rfl) rfl rfl ?_
  refine ev_aload_n pm216 i216_22 rfl rfl rfl ?_
  obtain ⟨x13, e14, hS⟩ := bn_s hS
  refine ev_getI pm216 i216_23 rfl rfl (by decide) e14 rfl ?_
  refine ev_iconst (v := 5) pm216 i216_26 rfl (by decide) rfl ?_
  obtain ⟨h21, I512, hS⟩ := bn_s hS
  have J1 : Ev P d 216 (45, [.ref a0, .long x8, unk, .int x11, unk], [], h21) (none, h') := by
    refine ev_aload_n pm216 i216_45 rfl rfl rfl ?_
    obtain ⟨h23, e22, hS⟩ := bn_s hS
    refine ev_callV (sa := []) (rest := []) (st' := []) (ls0 := [.ref a0, unk, unk]) (rv := none) pm216 i216_46 rfl rfl pm188 (by decide) (K_md_goesOn e22) rfl rfl (Nat.le_of_ble_eq_true rfl) (by omega) rfl (R_md_goesOn (d - 1) (by omega) e22) (by simp) rfl rfl ?_
    refine ev_aload_n pm216 i216_49 rfl rfl rfl ?_
    refine ev_ldc_w (v := .ref 1000022) pm216 i216_50 rfl rfl rfl ?_
    refine ev_iconst (v := 1) pm216 i216_53 rfl (by decide) rfl ?_
    refine ev_bipush (v := 9) pm216 i216_54 rfl (by decide) rfl ?_
    obtain ⟨x25, h26, e24, hS⟩ := bd_s hS
    refine ev_callV (sa := [.int (9 : Int32), .int (1 : Int32), .ref 1000022]) (rest := []) (st' := [.int x25]) (ls0 := [.ref a0, .ref 1000022, .int (1 : Int32), .int (9 : Int32)]) (rv := some (.int x25)) pm216 i216_56 rfl rfl pm198 (by decide) (K_md_readPart e24) rfl rfl (Nat.le_of_ble_eq_true rfl) (by omega) rfl (R_md_readPart (d - 1) (by omega) e24) (by simp) rfl rfl ?_
    refine ev_istore (ls' := [.ref a0, .long x8, unk, .int x11, .int x25]) pm216 i216_59 rfl (Nat.le_of_ble_eq_true rfl) rfl rfl ?_
    refine ev_aload_n pm216 i216_61 rfl rfl rfl ?_
    obtain ⟨x27, e28, hS⟩ := bn_s hS
    refine ev_getI pm216 i216_62 rfl rfl (by decide) e28 rfl ?_
    refine ev_iconst (v := 5) pm216 i216_65 rfl (by decide) rfl ?_
    by_cases c513 : x27 = (5 : Int32)
    · rw [if_pos c513] at hS
      refine ev_icmp_ne_t (t := 70) pm216 i216_66 rfl c513 rfl rfl ?_
      cases hS
      exact ev_return pm216 i216_69 rfl rfl rfl
    · rw [if_neg c513] at hS
      refine ev_icmp_ne_f (t := 70) pm216 i216_66 rfl c513 rfl rfl ?_
      refine ev_aload_n pm216 i216_70 rfl rfl rfl ?_
      refine ev_lload_n pm216 i216_71 rfl rfl rfl ?_
      refine ev_iconst (v := 2) pm216 i216_72 rfl (by decide) rfl ?_
      refine ev_aload_n pm216 i216_73 rfl rfl rfl ?_
      obtain ⟨x29, e30, hS⟩ := bn_s hS
      refine ev_getR pm216 i216_74 rfl rfl rfl e30 rfl ?_
      obtain ⟨x31, e32, hS⟩ := bn_s hS
      refine ev_getI pm216 i216_77 rfl rfl (by decide) e32 rfl ?_
      obtain ⟨h34, e33, hS⟩ := bn_s hS
      refine ev_callV (sa := [.int x31, .int (2 : Int32), .long x8]) (rest := []) (st' := []) (ls0 := [.ref a0, .long x8, unk, .int (2 : Int32), .int x31]) (rv := none) pm216 i216_80 rfl rfl pm207 (by decide) (K_md_names e33) rfl rfl (Nat.le_of_ble_eq_true rfl) (by omega) rfl (R_md_names (d - 1) (by omega) e33) (by simp) rfl rfl ?_
      refine ev_aload_n pm216 i216_83 rfl rfl rfl ?_
      obtain ⟨x35, e36, hS⟩ := bn_s hS
      refine ev_getR pm216 i216_84 rfl rfl rfl e36 rfl ?_
      obtain ⟨x37, e38, hS⟩ := bn_s hS
      refine ev_getR pm216 i216_87 rfl rfl rfl e38 rfl ?_
      refine ev_aload_n pm216 i216_90 rfl rfl rfl ?_
      obtain ⟨x39, e40, hS⟩ := bn_s hS
      refine ev_getR pm216 i216_91 rfl rfl rfl e40 rfl ?_
      obtain ⟨x41, e42, hS⟩ := bn_s hS
      refine ev_getI pm216 i216_94 rfl rfl (by decide) e42 rfl ?_
      refine ev_iload_n pm216 i216_97 rfl rfl rfl ?_
      obtain ⟨h43, e44, hS⟩ := bn_s hS
      refine ev_iast pm216 i216_98 rfl e44 rfl ?_
      refine ev_aload_n pm216 i216_99 rfl rfl rfl ?_
      obtain ⟨x45, e46, hS⟩ := bn_s hS
      refine ev_getR pm216 i216_100 rfl rfl rfl e46 rfl ?_
      obtain ⟨x47, e48, hS⟩ := bn_s hS
      refine ev_getR pm216 i216_103 rfl rfl rfl e48 rfl ?_
      refine ev_aload_n pm216 i216_106 rfl rfl rfl ?_
      obtain ⟨x49, e50, hS⟩ := bn_s hS
      refine ev_getR pm216 i216_107 rfl rfl rfl e50 rfl ?_
      obtain ⟨x51, e52, hS⟩ := bn_s hS
      refine ev_getI pm216 i216_110 rfl rfl (by decide) e52 rfl ?_
      refine ev_iload pm216 i216_113 rfl rfl rfl ?_
      obtain ⟨h53, e54, hS⟩ := bn_s hS
      refine ev_iast pm216 i216_115 rfl e54 rfl ?_
      refine ev_aload_n pm216 i216_116 rfl rfl rfl ?_
      obtain ⟨x55, e56, hS⟩ := bn_s hS
      refine ev_getR pm216 i216_117 rfl rfl rfl e56 rfl ?_
      refine ev_dup pm216 i216_120 rfl rfl rfl ?_
      obtain ⟨x57, e58, hS⟩ := bn_s hS
      refine ev_getI pm216 i216_121 rfl rfl (by decide) e58 rfl ?_
      refine ev_iconst (v := 1) pm216 i216_124 rfl (by decide) rfl ?_
      refine ev_b2 (f := fun x y => x + y) pm216 i216_125 rfl (fun _ _ _ _ => rfl) rfl ?_
      obtain ⟨h59, e60, hS⟩ := bn_s hS
      refine ev_putI pm216 i216_126 rfl rfl rfl e60 rfl ?_
      cases hS
      exact ev_return pm216 i216_129 rfl rfl rfl
  clear hS
  by_cases c512 : x13 = (5 : Int32)
  · rw [if_pos c512] at I512
    refine ev_icmp_eq_t (t := 45) pm216 i216_27 rfl c512 rfl rfl ?_
    cases I512
    exact J1
  · rw [if_neg c512] at I512
    refine ev_icmp_eq_f (t := 45) pm216 i216_27 rfl c512 rfl rfl ?_
    refine ev_iload_n pm216 i216_30 rfl rfl rfl ?_
    refine ev_iconst (v := 1) pm216 i216_31 rfl (by decide) rfl ?_
    obtain ⟨x19, I514, I512⟩ := bn_s I512
    have J2 : ∀ z16, x19 = Sum.inl z16 → Ev P d 216 (40, [.ref a0, .long x8, unk, .int x11, unk], [], h12) (none, h') := by
      intro z16 hx
      subst hx
      replace I512 := ei_l I512
      refine ev_aload_n pm216 i216_40 rfl rfl rfl ?_
      refine ev_iconst (v := 1) pm216 i216_41 rfl (by decide) rfl ?_
      obtain ⟨h18, e17, I512⟩ := bn_s I512
      refine ev_callV (sa := [.int (1 : Int32)]) (rest := []) (st' := []) (ls0 := [.ref a0, .int (1 : Int32)]) (rv := none) pm216 i216_42 rfl rfl pm197 (by decide) (K_md_flaw e17) rfl rfl (Nat.le_of_ble_eq_true rfl) (by omega) rfl (R_md_flaw (d - 1) (by omega) e17) (by simp) rfl rfl ?_
      cases I512
      exact J1
    have Z2 := ej_z I512
    clear I512
    by_cases c514 : x11 = (1 : Int32)
    · rw [if_pos c514] at I514
      refine ev_icmp_eq_t (t := 40) pm216 i216_32 rfl c514 rfl rfl ?_
      cases I514
      exact J2 _ rfl
    · rw [if_neg c514] at I514
      refine ev_icmp_eq_f (t := 40) pm216 i216_32 rfl c514 rfl rfl ?_
      refine ev_iload_n pm216 i216_35 rfl rfl rfl ?_
      refine ev_iconst (v := 2) pm216 i216_36 rfl (by decide) rfl ?_
      by_cases c515 : x11 = (2 : Int32)
      · rw [if_pos c515] at I514
        refine ev_icmp_ne_t (t := 45) pm216 i216_37 rfl c515 rfl rfl ?_
        cases I514
        exact J2 _ rfl
      · rw [if_neg c515] at I514
        refine ev_icmp_ne_f (t := 45) pm216 i216_37 rfl c515 rfl rfl ?_
        cases I514
        have hz2 := Z2 _ rfl
        cases hz2
        exact J1
def F_md_readFeast (a0 : Nat) (h : Hp) : Option Hp :=
  ck h a0 13 (bn (gR h a0 13 4) fun x1 =>
  bn (gI h x1 12 5) fun x3 =>
  bn (F_md_lineBegins a0 x3 (4 : Int32) h) fun h6 =>
  bd (F_md_readKnown a0 (0 : Int32) h6) fun x8 h9 =>
  bd (F_md_readPart a0 1000023 (0 : Int32) (9 : Int32) h9) fun x11 h12 =>
  bd (F_md_readPart a0 1000024 (0 : Int32) (50 : Int32) h12) fun x14 h15 =>
  bn (gI h15 a0 13 9) fun x16 =>
  if x16 = (5 : Int32) then
    (some h15)
  else
    (bn (gR h15 a0 13 4) fun x18 =>
    bn (gR h15 x18 12 19) fun x20 =>
    bn (gR h15 a0 13 4) fun x22 =>
    bn (gI h15 x22 12 5) fun x24 =>
    bn (sI h15 100 x20 x24 x8) fun h26 =>
    bn (gR h26 a0 13 4) fun x28 =>
    bn (gR h26 x28 12 20) fun x30 =>
    bn (gR h26 a0 13 4) fun x32 =>
    bn (gI h26 x32 12 5) fun x34 =>
    bn (sI h26 100 x30 x34 x11) fun h36 =>
    bn (gR h36 a0 13 4) fun x38 =>
    bn (gR h36 x38 12 21) fun x40 =>
    bn (gR h36 a0 13 4) fun x42 =>
    bn (gI h36 x42 12 5) fun x44 =>
    bn (sI h36 100 x40 x44 x14) fun h46 =>
    bn (gR h46 a0 13 4) fun x48 =>
    bn (gI h46 x48 12 5) fun x50 =>
    bn (pI h46 x48 12 5 (x50 + (1 : Int32))) fun h52 =>
    some h52))
set_option maxRecDepth 20000 in
theorem K_md_readFeast {a0 : Nat} {h : Hp} {h' : Hp} (hS : F_md_readFeast a0 h = some h') : kd h a0 = 13 := by
  unfold F_md_readFeast at hS
  exact (ck_s hS).1
set_option maxRecDepth 20000 in
theorem R_md_readFeast (d : Nat) (hd : 9 ≤ d) {a0 : Nat} {h : Hp} {h' : Hp} (hS : F_md_readFeast a0 h = some h') : Ev P d 217 (0, [.ref a0, unk, unk, unk], [], h) (none, h') := by
  unfold F_md_readFeast at hS
  replace hS := (ck_s hS).2
  refine ev_aload_n pm217 i217_0 rfl rfl rfl ?_
  refine ev_aload_n pm217 i217_1 rfl rfl rfl ?_
  obtain ⟨x1, e2, hS⟩ := bn_s hS
  refine ev_getR pm217 i217_2 rfl rfl rfl e2 rfl ?_
  obtain ⟨x3, e4, hS⟩ := bn_s hS
  refine ev_getI pm217 i217_5 rfl rfl (by decide) e4 rfl ?_
  refine ev_iconst (v := 4) pm217 i217_8 rfl (by decide) rfl ?_
  obtain ⟨h6, e5, hS⟩ := bn_s hS
  refine ev_callV (sa := [.int (4 : Int32), .int x3]) (rest := []) (st' := []) (ls0 := [.ref a0, .int x3, .int (4 : Int32)]) (rv := none) pm217 i217_9 rfl rfl pm203 (by decide) (K_md_lineBegins e5) rfl rfl (Nat.le_of_ble_eq_true rfl) (by omega) rfl (R_md_lineBegins (d - 1) (by omega) e5) (by simp) rfl rfl ?_
  refine ev_aload_n pm217 i217_12 rfl rfl rfl ?_
  refine ev_iconst (v := 0) pm217 i217_13 rfl (by decide) rfl ?_
  obtain ⟨x8, h9, e7, hS⟩ := bd_s hS
  refine ev_callV (sa := [.int (0 : Int32)]) (rest := []) (st' := [.int x8]) (ls0 := [.ref a0, .int (0 : Int32), unk]) (rv := some (.int x8)) pm217 i217_14 rfl rfl pm209 (by decide) (K_md_readKnown e7) rfl rfl (Nat.le_of_ble_eq_true rfl) (by omega) rfl (R_md_readKnown (d - 1) (by omega) e7) (by simp) rfl rfl ?_
  refine ev_istore_n (ls' := [.ref a0, .int x8, unk, unk]) pm217 i217_17 rfl (Nat.le_of_ble_eq_true rfl) rfl rfl ?_
  refine ev_aload_n pm217 i217_18 rfl rfl rfl ?_
  refine ev_ldc_w (v := .ref 1000023) pm217 i217_19 rfl rfl rfl ?_
  refine ev_iconst (v := 0) pm217 i217_22 rfl (by decide) rfl ?_
  refine ev_bipush (v := 9) pm217 i217_23 rfl (by decide) rfl ?_
  obtain ⟨x11, h12, e10, hS⟩ := bd_s hS
  refine ev_callV (sa := [.int (9 : Int32), .int (0 : Int32), .ref 1000023]) (rest := []) (st' := [.int x11]) (ls0 := [.ref a0, .ref 1000023, .int (0 : Int32), .int (9 : Int32)]) (rv := some (.int x11)) pm217 i217_25 rfl rfl pm198 (by decide) (K_md_readPart e10) rfl rfl (Nat.le_of_ble_eq_true rfl) (by omega) rfl (R_md_readPart (d - 1) (by omega) e10) (by simp) rfl rfl ?_
  refine ev_istore_n (ls' := [.ref a0, .int x8, .int x11, unk]) pm217 i217_28 rfl (Nat.le_of_ble_eq_true rfl) rfl rfl ?_
  refine ev_aload_n pm217 i217_29 rfl rfl rfl ?_
  refine ev_ldc_w (v := .ref 1000024) pm217 i217_30 rfl rfl rfl ?_
  refine ev_iconst (v := 0) pm217 i217_33 rfl (by decide) rfl ?_
  refine ev_bipush (v := 50) pm217 i217_34 rfl (by decide) rfl ?_
  obtain ⟨x14, h15, e13, hS⟩ := bd_s hS
  refine ev_callV (sa := [.int (50 : Int32), .int (0 : Int32), .ref 1000024]) (rest := []) (st' := [.int x14]) (ls0 := [.ref a0, .ref 1000024, .int (0 : Int32), .int (50 : Int32)]) (rv := some (.int x14)) pm217 i217_36 rfl rfl pm198 (by decide) (K_md_readPart e13) rfl rfl (Nat.le_of_ble_eq_true rfl) (by omega) rfl (R_md_readPart (d - 1) (by omega) e13) (by simp) rfl rfl ?_
  refine ev_istore_n (ls' := [.ref a0, .int x8, .int x11, .int x14]) pm217 i217_39 rfl (Nat.le_of_ble_eq_true rfl) rfl rfl ?_
  refine ev_aload_n pm217 i217_40 rfl rfl rfl ?_
  obtain ⟨x16, e17, hS⟩ := bn_s hS
  refine ev_getI pm217 i217_41 rfl rfl (by decide) e17 rfl ?_
  refine ev_iconst (v := 5) pm217 i217_44 rfl (by decide) rfl ?_
  by_cases c516 : x16 = (5 : Int32)
  · rw [if_pos c516] at hS
    refine ev_icmp_ne_t (t := 49) pm217 i217_45 rfl c516 rfl rfl ?_
    cases hS
    exact ev_return pm217 i217_48 rfl rfl rfl
  · rw [if_neg c516] at hS
    refine ev_icmp_ne_f (t := 49) pm217 i217_45 rfl c516 rfl rfl ?_
    refine ev_aload_n pm217 i217_49 rfl rfl rfl ?_
    obtain ⟨x18, e19, hS⟩ := bn_s hS
    refine ev_getR pm217 i217_50 rfl rfl rfl e19 rfl ?_
    obtain ⟨x20, e21, hS⟩ := bn_s hS
    refine ev_getR pm217 i217_53 rfl rfl rfl e21 rfl ?_
    refine ev_aload_n pm217 i217_56 rfl rfl rfl ?_
    obtain ⟨x22, e23, hS⟩ := bn_s hS
    refine ev_getR pm217 i217_57 rfl rfl rfl e23 rfl ?_
    obtain ⟨x24, e25, hS⟩ := bn_s hS
    refine ev_getI pm217 i217_60 rfl rfl (by decide) e25 rfl ?_
    refine ev_iload_n pm217 i217_63 rfl rfl rfl ?_
    obtain ⟨h26, e27, hS⟩ := bn_s hS
    refine ev_iast pm217 i217_64 rfl e27 rfl ?_
    refine ev_aload_n pm217 i217_65 rfl rfl rfl ?_
    obtain ⟨x28, e29, hS⟩ := bn_s hS
    refine ev_getR pm217 i217_66 rfl rfl rfl e29 rfl ?_
    obtain ⟨x30, e31, hS⟩ := bn_s hS
    refine ev_getR pm217 i217_69 rfl rfl rfl e31 rfl ?_
    refine ev_aload_n pm217 i217_72 rfl rfl rfl ?_
    obtain ⟨x32, e33, hS⟩ := bn_s hS
    refine ev_getR pm217 i217_73 rfl rfl rfl e33 rfl ?_
    obtain ⟨x34, e35, hS⟩ := bn_s hS
    refine ev_getI pm217 i217_76 rfl rfl (by decide) e35 rfl ?_
    refine ev_iload_n pm217 i217_79 rfl rfl rfl ?_
    obtain ⟨h36, e37, hS⟩ := bn_s hS
    refine ev_iast pm217 i217_80 rfl e37 rfl ?_
    refine ev_aload_n pm217 i217_81 rfl rfl rfl ?_
    obtain ⟨x38, e39, hS⟩ := bn_s hS
    refine ev_getR pm217 i217_82 rfl rfl rfl e39 rfl ?_
    obtain ⟨x40, e41, hS⟩ := bn_s hS
    refine ev_getR pm217 i217_85 rfl rfl rfl e41 rfl ?_
    refine ev_aload_n pm217 i217_88 rfl rfl rfl ?_
    obtain ⟨x42, e43, hS⟩ := bn_s hS
    refine ev_getR pm217 i217_89 rfl rfl rfl e43 rfl ?_
    obtain ⟨x44, e45, hS⟩ := bn_s hS
    refine ev_getI pm217 i217_92 rfl rfl (by decide) e45 rfl ?_
    refine ev_iload_n pm217 i217_95 rfl rfl rfl ?_
    obtain ⟨h46, e47, hS⟩ := bn_s hS
    refine ev_iast pm217 i217_96 rfl e47 rfl ?_
    refine ev_aload_n pm217 i217_97 rfl rfl rfl ?_
    obtain ⟨x48, e49, hS⟩ := bn_s hS
    refine ev_getR pm217 i217_98 rfl rfl rfl e49 rfl ?_
    refine ev_dup pm217 i217_101 rfl rfl rfl ?_
    obtain ⟨x50, e51, hS⟩ := bn_s hS
    refine ev_getI pm217 i217_102 rfl rfl (by decide) e51 rfl ?_
    refine ev_iconst (v := 1) pm217 i217_105 rfl (by decide) rfl ?_
    refine ev_b2 (f := fun x y => x + y) pm217 i217_106 rfl (fun _ _ _ _ => rfl) rfl ?_
    obtain ⟨h52, e53, hS⟩ := bn_s hS
    refine ev_putI pm217 i217_107 rfl rfl rfl e53 rfl ?_
    cases hS
    exact ev_return pm217 i217_110 rfl rfl rfl
def F_md_readGave (a0 : Nat) (h : Hp) : Option Hp :=
  ck h a0 13 (bn (gR h a0 13 4) fun x1 =>
  bn (gI h x1 12 6) fun x3 =>
  bn (F_md_lineBegins a0 x3 (4 : Int32) h) fun h6 =>
  bd (F_md_readKnown a0 (2 : Int32) h6) fun x8 h9 =>
  bd (F_md_readKnown a0 (0 : Int32) h9) fun x11 h12 =>
  bd (F_md_readWhole a0 (1 : Int32) (20 : Int32) h12) fun x14 h15 =>
  bn (gI h15 a0 13 9) fun x16 =>
  if x16 = (5 : Int32) then
    (some h15)
  else
    (bn (gR h15 a0 13 4) fun x18 =>
    bn (gR h15 x18 12 22) fun x20 =>
    bn (gR h15 a0 13 4) fun x22 =>
    bn (gI h15 x22 12 6) fun x24 =>
    bn (sI h15 100 x20 x24 x8) fun h26 =>
    bn (gR h26 a0 13 4) fun x28 =>
    bn (gR h26 x28 12 23) fun x30 =>
    bn (gR h26 a0 13 4) fun x32 =>
    bn (gI h26 x32 12 6) fun x34 =>
    bn (sI h26 100 x30 x34 x11) fun h36 =>
    bn (gR h36 a0 13 4) fun x38 =>
    bn (gR h36 x38 12 24) fun x40 =>
    bn (gR h36 a0 13 4) fun x42 =>
    bn (gI h36 x42 12 6) fun x44 =>
    bn (sI h36 100 x40 x44 x14) fun h46 =>
    bn (gR h46 a0 13 4) fun x48 =>
    bn (gI h46 x48 12 6) fun x50 =>
    bn (pI h46 x48 12 6 (x50 + (1 : Int32))) fun h52 =>
    some h52))
set_option maxRecDepth 20000 in
theorem K_md_readGave {a0 : Nat} {h : Hp} {h' : Hp} (hS : F_md_readGave a0 h = some h') : kd h a0 = 13 := by
  unfold F_md_readGave at hS
  exact (ck_s hS).1
set_option maxRecDepth 20000 in
theorem R_md_readGave (d : Nat) (hd : 9 ≤ d) {a0 : Nat} {h : Hp} {h' : Hp} (hS : F_md_readGave a0 h = some h') : Ev P d 218 (0, [.ref a0, unk, unk, unk], [], h) (none, h') := by
  unfold F_md_readGave at hS
  replace hS := (ck_s hS).2
  refine ev_aload_n pm218 i218_0 rfl rfl rfl ?_
  refine ev_aload_n pm218 i218_1 rfl rfl rfl ?_
  obtain ⟨x1, e2, hS⟩ := bn_s hS
  refine ev_getR pm218 i218_2 rfl rfl rfl e2 rfl ?_
  obtain ⟨x3, e4, hS⟩ := bn_s hS
  refine ev_getI pm218 i218_5 rfl rfl (by decide) e4 rfl ?_
  refine ev_iconst (v := 4) pm218 i218_8 rfl (by decide) rfl ?_
  obtain ⟨h6, e5, hS⟩ := bn_s hS
  refine ev_callV (sa := [.int (4 : Int32), .int x3]) (rest := []) (st' := []) (ls0 := [.ref a0, .int x3, .int (4 : Int32)]) (rv := none) pm218 i218_9 rfl rfl pm203 (by decide) (K_md_lineBegins e5) rfl rfl (Nat.le_of_ble_eq_true rfl) (by omega) rfl (R_md_lineBegins (d - 1) (by omega) e5) (by simp) rfl rfl ?_
  refine ev_aload_n pm218 i218_12 rfl rfl rfl ?_
  refine ev_iconst (v := 2) pm218 i218_13 rfl (by decide) rfl ?_
  obtain ⟨x8, h9, e7, hS⟩ := bd_s hS
  refine ev_callV (sa := [.int (2 : Int32)]) (rest := []) (st' := [.int x8]) (ls0 := [.ref a0, .int (2 : Int32), unk]) (rv := some (.int x8)) pm218 i218_14 rfl rfl pm209 (by decide) (K_md_readKnown e7) rfl rfl (Nat.le_of_ble_eq_true rfl) (by omega) rfl (R_md_readKnown (d - 1) (by omega) e7) (by simp) rfl rfl ?_
  refine ev_istore_n (ls' := [.ref a0, .int x8, unk, unk]) pm218 i218_17 rfl (Nat.le_of_ble_eq_true rfl) rfl rfl ?_
  refine ev_aload_n pm218 i218_18 rfl rfl rfl ?_
  refine ev_iconst (v := 0) pm218 i218_19 rfl (by decide) rfl ?_
  obtain ⟨x11, h12, e10, hS⟩ := bd_s hS
  refine ev_callV (sa := [.int (0 : Int32)]) (rest := []) (st' := [.int x11]) (ls0 := [.ref a0, .int (0 : Int32), unk]) (rv := some (.int x11)) pm218 i218_20 rfl rfl pm209 (by decide) (K_md_readKnown e10) rfl rfl (Nat.le_of_ble_eq_true rfl) (by omega) rfl (R_md_readKnown (d - 1) (by omega) e10) (by simp) rfl rfl ?_
  refine ev_istore_n (ls' := [.ref a0, .int x8, .int x11, unk]) pm218 i218_23 rfl (Nat.le_of_ble_eq_true rfl) rfl rfl ?_
  refine ev_aload_n pm218 i218_24 rfl rfl rfl ?_
  refine ev_iconst (v := 1) pm218 i218_25 rfl (by decide) rfl ?_
  refine ev_bipush (v := 20) pm218 i218_26 rfl (by decide) rfl ?_
  obtain ⟨x14, h15, e13, hS⟩ := bd_s hS
  refine ev_callV (sa := [.int (20 : Int32), .int (1 : Int32)]) (rest := []) (st' := [.int x14]) (ls0 := [.ref a0, .int (1 : Int32), .int (20 : Int32), unk]) (rv := some (.int x14)) pm218 i218_28 rfl rfl pm200 (by decide) (K_md_readWhole e13) rfl rfl (Nat.le_of_ble_eq_true rfl) (by omega) rfl (R_md_readWhole (d - 1) (by omega) e13) (by simp) rfl rfl ?_
  refine ev_istore_n (ls' := [.ref a0, .int x8, .int x11, .int x14]) pm218 i218_31 rfl (Nat.le_of_ble_eq_true rfl) rfl rfl ?_
  refine ev_aload_n pm218 i218_32 rfl rfl rfl ?_
  obtain ⟨x16, e17, hS⟩ := bn_s hS
  refine ev_getI pm218 i218_33 rfl rfl (by decide) e17 rfl ?_
  refine ev_iconst (v := 5) pm218 i218_36 rfl (by decide) rfl ?_
  by_cases c517 : x16 = (5 : Int32)
  · rw [if_pos c517] at hS
    refine ev_icmp_ne_t (t := 41) pm218 i218_37 rfl c517 rfl rfl ?_
    cases hS
    exact ev_return pm218 i218_40 rfl rfl rfl
  · rw [if_neg c517] at hS
    refine ev_icmp_ne_f (t := 41) pm218 i218_37 rfl c517 rfl rfl ?_
    refine ev_aload_n pm218 i218_41 rfl rfl rfl ?_
    obtain ⟨x18, e19, hS⟩ := bn_s hS
    refine ev_getR pm218 i218_42 rfl rfl rfl e19 rfl ?_
    obtain ⟨x20, e21, hS⟩ := bn_s hS
    refine ev_getR pm218 i218_45 rfl rfl rfl e21 rfl ?_
    refine ev_aload_n pm218 i218_48 rfl rfl rfl ?_
    obtain ⟨x22, e23, hS⟩ := bn_s hS
    refine ev_getR pm218 i218_49 rfl rfl rfl e23 rfl ?_
    obtain ⟨x24, e25, hS⟩ := bn_s hS
    refine ev_getI pm218 i218_52 rfl rfl (by decide) e25 rfl ?_
    refine ev_iload_n pm218 i218_55 rfl rfl rfl ?_
    obtain ⟨h26, e27, hS⟩ := bn_s hS
    refine ev_iast pm218 i218_56 rfl e27 rfl ?_
    refine ev_aload_n pm218 i218_57 rfl rfl rfl ?_
    obtain ⟨x28, e29, hS⟩ := bn_s hS
    refine ev_getR pm218 i218_58 rfl rfl rfl e29 rfl ?_
    obtain ⟨x30, e31, hS⟩ := bn_s hS
    refine ev_getR pm218 i218_61 rfl rfl rfl e31 rfl ?_
    refine ev_aload_n pm218 i218_64 rfl rfl rfl ?_
    obtain ⟨x32, e33, hS⟩ := bn_s hS
    refine ev_getR pm218 i218_65 rfl rfl rfl e33 rfl ?_
    obtain ⟨x34, e35, hS⟩ := bn_s hS
    refine ev_getI pm218 i218_68 rfl rfl (by decide) e35 rfl ?_
    refine ev_iload_n pm218 i218_71 rfl rfl rfl ?_
    obtain ⟨h36, e37, hS⟩ := bn_s hS
    refine ev_iast pm218 i218_72 rfl e37 rfl ?_
    refine ev_aload_n pm218 i218_73 rfl rfl rfl ?_
    obtain ⟨x38, e39, hS⟩ := bn_s hS
    refine ev_getR pm218 i218_74 rfl rfl rfl e39 rfl ?_
    obtain ⟨x40, e41, hS⟩ := bn_s hS
    refine ev_getR pm218 i218_77 rfl rfl rfl e41 rfl ?_
    refine ev_aload_n pm218 i218_80 rfl rfl rfl ?_
    obtain ⟨x42, e43, hS⟩ := bn_s hS
    refine ev_getR pm218 i218_81 rfl rfl rfl e43 rfl ?_
    obtain ⟨x44, e45, hS⟩ := bn_s hS
    refine ev_getI pm218 i218_84 rfl rfl (by decide) e45 rfl ?_
    refine ev_iload_n pm218 i218_87 rfl rfl rfl ?_
    obtain ⟨h46, e47, hS⟩ := bn_s hS
    refine ev_iast pm218 i218_88 rfl e47 rfl ?_
    refine ev_aload_n pm218 i218_89 rfl rfl rfl ?_
    obtain ⟨x48, e49, hS⟩ := bn_s hS
    refine ev_getR pm218 i218_90 rfl rfl rfl e49 rfl ?_
    refine ev_dup pm218 i218_93 rfl rfl rfl ?_
    obtain ⟨x50, e51, hS⟩ := bn_s hS
    refine ev_getI pm218 i218_94 rfl rfl (by decide) e51 rfl ?_
    refine ev_iconst (v := 1) pm218 i218_97 rfl (by decide) rfl ?_
    refine ev_b2 (f := fun x y => x + y) pm218 i218_98 rfl (fun _ _ _ _ => rfl) rfl ?_
    obtain ⟨h52, e53, hS⟩ := bn_s hS
    refine ev_putI pm218 i218_99 rfl rfl rfl e53 rfl ?_
    cases hS
    exact ev_return pm218 i218_102 rfl rfl rfl
def B_la_isSeen_2 (l0 : Nat) (l1 : Int32) (h : Hp) (s : Int32) : Option ((Int32) ⊕ ((Unit) ⊕ Int32)) :=
  bn (gI h l0 12 7) fun x1 =>
  if s < x1 then
    (bn (gR h l0 12 25) fun x3 =>
    bn (aI h 100 x3 s) fun x5 =>
    if x5 = l1 then
      (some (.inr (.inr (1 : Int32))))
    else
      (some (.inl (s + (1 : Int32)))))
  else
    (some (.inr (.inl ())))
set_option maxRecDepth 20000 in
theorem L_la_isSeen_2 (d : Nat) (hd : 0 ≤ d) {l0 : Nat} {l1 : Int32} {h : Hp} : ∀ (n : Nat) (s : Int32) (x : (Unit) ⊕ Int32), lq (B_la_isSeen_2 l0 l1 h) n s = some x → ∀ r, ei x (fun q => Ev P d 220 (28, [unk, unk, unk], [], h) r) (fun v => (some (.int v), h) = r) → Ev P d 220 (2, [.ref l0, .int l1, .int s], [], h) r := by
  refine lq_ev (G0 := fun (s : Int32) r => Ev P d 220 (2, [.ref l0, .int l1, .int s], [], h) r) (X := fun (x : (Unit) ⊕ Int32) r => ei x (fun q => Ev P d 220 (28, [unk, unk, unk], [], h) r) (fun v => (some (.int v), h) = r)) ?_
  intro s y hS r hK
  unfold B_la_isSeen_2 at hS
  show Ev P d 220 (2, [.ref l0, .int l1, .int s], [], h) r
  refine ev_iload_n pm220 i220_2 rfl rfl rfl ?_
  refine ev_aload_n pm220 i220_3 rfl rfl rfl ?_
  obtain ⟨x1, e2, hS⟩ := bn_s hS
  refine ev_getI pm220 i220_4 rfl rfl (by decide) e2 rfl ?_
  by_cases c518 : s < x1
  · rw [if_pos c518] at hS
    refine ev_icmp_ge_t (t := 28) pm220 i220_7 rfl c518 rfl rfl ?_
    refine ev_aload_n pm220 i220_10 rfl rfl rfl ?_
    obtain ⟨x3, e4, hS⟩ := bn_s hS
    refine ev_getR pm220 i220_11 rfl rfl rfl e4 rfl ?_
    refine ev_iload_n pm220 i220_14 rfl rfl rfl ?_
    obtain ⟨x5, e6, hS⟩ := bn_s hS
    refine ev_iald pm220 i220_15 rfl e6 rfl ?_
    refine ev_iload_n pm220 i220_16 rfl rfl rfl ?_
    by_cases c519 : x5 = l1
    · rw [if_pos c519] at hS
      refine ev_icmp_ne_t (t := 22) pm220 i220_17 rfl c519 rfl rfl ?_
      refine ev_iconst (v := 1) pm220 i220_20 rfl (by decide) rfl ?_
      cases hS
      exact ev_ireturn pm220 i220_21 rfl (by decide) hK
    · rw [if_neg c519] at hS
      refine ev_icmp_ne_f (t := 22) pm220 i220_17 rfl c519 rfl rfl ?_
      refine ev_iinc (v := 1) (ls' := [.ref l0, .int l1, .int (s + (1 : Int32))]) pm220 i220_22 rfl rfl (by decide) rfl rfl ?_
      refine ev_goto (t := 2) pm220 i220_25 rfl rfl ?_
      cases hS
      exact hK
  · rw [if_neg c518] at hS
    refine ev_icmp_ge_f (t := 28) pm220 i220_7 rfl c518 rfl rfl ?_
    refine ev_kls (ls' := [unk, unk, unk]) pm220 i220_28 rfl rfl ?_
    cases hS
    exact hK
def F_la_isSeen (a0 : Nat) (a1 : Int32) (h : Hp) : Option Int32 :=
  ck h a0 12 (bn (lq (B_la_isSeen_2 a0 a1 h) FU (0 : Int32)) fun x7 =>
  ei x7 (fun q9 =>
  some (0 : Int32))
  (fun x10 => some x10))
set_option maxRecDepth 20000 in
theorem K_la_isSeen {a0 : Nat} {a1 : Int32} {h : Hp} {v : Int32} (hS : F_la_isSeen a0 a1 h = some v) : kd h a0 = 12 := by
  unfold F_la_isSeen at hS
  exact (ck_s hS).1
set_option maxRecDepth 20000 in
theorem R_la_isSeen (d : Nat) (hd : 0 ≤ d) {a0 : Nat} {a1 : Int32} {h : Hp} {v : Int32} (hS : F_la_isSeen a0 a1 h = some v) : Ev P d 220 (0, [.ref a0, .int a1, unk], [], h) (some (.int v), h) := by
  unfold F_la_isSeen at hS
  replace hS := (ck_s hS).2
  refine ev_iconst (v := 0) pm220 i220_0 rfl (by decide) rfl ?_
  refine ev_istore_n (ls' := [.ref a0, .int a1, .int (0 : Int32)]) pm220 i220_1 rfl (Nat.le_of_ble_eq_true rfl) rfl rfl ?_
  obtain ⟨x7, e8, hS⟩ := bn_s hS
  refine L_la_isSeen_2 d (by omega) _ _ _ e8 _ ?_
  cases x7 with
  | inl q9 =>
    replace hS := ei_l hS
    show Ev P d 220 (28, [unk, unk, unk], [], h) _
    refine ev_iconst (v := 0) pm220 i220_28 rfl (by decide) rfl ?_
    cases hS
    exact ev_ireturn pm220 i220_29 rfl (by decide) rfl
  | inr x10 =>
    replace hS := ei_r hS
    cases hS
    rfl
def F_md_readSeen (a0 : Nat) (h : Hp) : Option Hp :=
  ck h a0 13 (bn (F_md_lineBegins a0 (0 : Int32) (1 : Int32) h) fun h2 =>
  bd (F_md_knownOne a0 (0 : Int32) h2) fun x4 h5 =>
  bn (gI h5 a0 13 9) fun x6 =>
  bn (if x6 = (5 : Int32) then
      (some h5)
    else
      (bn (gR h5 a0 13 4) fun x8 =>
      bn (F_la_isSeen x8 x4 h5) fun x11 =>
      if x11 = (0 : Int32) then
        (some h5)
      else
        (bn (F_md_flaw a0 (3 : Int32) h5) fun h13 =>
        some h13))) fun h15 =>
  bn (F_md_goesOn a0 h15) fun h17 =>
  bn (F_md_isWord a0 1000025 h17) fun x19 =>
  bn (if x19 = (0 : Int32) then
      (bn (F_md_isWord a0 1000026 h17) fun x21 =>
      if x21 = (0 : Int32) then
        (bn (F_md_flaw a0 (1 : Int32) h17) fun h23 =>
        some h23)
      else
        (some h17))
    else
      (some h17)) fun h25 =>
  bn (F_md_goesOn a0 h25) fun h27 =>
  bn (if x19 = (0 : Int32) then
      (some (0 : Int32))
    else
      (some (1 : Int32))) fun q28 =>
  bd (F_md_readWhole a0 q28 (200 : Int32) h27) fun x30 h31 =>
  bn (gI h31 a0 13 9) fun x32 =>
  if x32 = (5 : Int32) then
    (some h31)
  else
    (bn (gR h31 a0 13 4) fun x34 =>
    bn (gR h31 x34 12 25) fun x36 =>
    bn (gR h31 a0 13 4) fun x38 =>
    bn (gI h31 x38 12 7) fun x40 =>
    bn (sI h31 100 x36 x40 x4) fun h42 =>
    bn (gR h42 a0 13 4) fun x44 =>
    bn (gR h42 x44 12 26) fun x46 =>
    bn (gR h42 a0 13 4) fun x48 =>
    bn (gI h42 x48 12 7) fun x50 =>
    bn (if x19 = (0 : Int32) then
        (some x30)
      else
        (some (-x30))) fun q52 =>
    bn (sI h42 100 x46 x50 q52) fun h53 =>
    bn (gR h53 a0 13 4) fun x55 =>
    bn (gI h53 x55 12 7) fun x57 =>
    bn (pI h53 x55 12 7 (x57 + (1 : Int32))) fun h59 =>
    some h59))
set_option maxRecDepth 20000 in
theorem K_md_readSeen {a0 : Nat} {h : Hp} {h' : Hp} (hS : F_md_readSeen a0 h = some h') : kd h a0 = 13 := by
  unfold F_md_readSeen at hS
  exact (ck_s hS).1
set_option maxRecDepth 20000 in
theorem R_md_readSeen (d : Nat) (hd : 8 ≤ d) {a0 : Nat} {h : Hp} {h' : Hp} (hS : F_md_readSeen a0 h = some h') : Ev P d 219 (0, [.ref a0, unk, unk, unk], [], h) (none, h') := by
  unfold F_md_readSeen at hS
  replace hS := (ck_s hS).2
  refine ev_aload_n pm219 i219_0 rfl rfl rfl ?_
  refine ev_iconst (v := 0) pm219 i219_1 rfl (by decide) rfl ?_
  refine ev_iconst (v := 1) pm219 i219_2 rfl (by decide) rfl ?_
  obtain ⟨h2, e1, hS⟩ := bn_s hS
  refine ev_callV (sa := [.int (1 : Int32), .int (0 : Int32)]) (rest := []) (st' := []) (ls0 := [.ref a0, .int (0 : Int32), .int (1 : Int32)]) (rv := none) pm219 i219_3 rfl rfl pm203 (by decide) (K_md_lineBegins e1) rfl rfl (Nat.le_of_ble_eq_true rfl) (by omega) rfl (R_md_lineBegins (d - 1) (by omega) e1) (by simp) rfl rfl ?_
  refine ev_aload_n pm219 i219_6 rfl rfl rfl ?_
  refine ev_iconst (v := 0) pm219 i219_7 rfl (by decide) rfl ?_
  obtain ⟨x4, h5, e3, hS⟩ := bd_s hS
  refine ev_callV (sa := [.int (0 : Int32)]) (rest := []) (st' := [.int x4]) (ls0 := [.ref a0, .int (0 : Int32), unk]) (rv := some (.int x4)) pm219 i219_8 rfl rfl pm210 (by decide) (K_md_knownOne e3) rfl rfl (Nat.le_of_ble_eq_true rfl) (by omega) rfl (R_md_knownOne (d - 1) (by omega) e3) (by simp) rfl rfl ?_
  refine ev_istore_n (ls' := [.ref a0, .int x4, unk, unk]) pm219 i219_11 rfl (Nat.le_of_ble_eq_true rfl) rfl rfl ?_
  refine ev_aload_n pm219 i219_12 rfl rfl rfl ?_
  obtain ⟨x6, e7, hS⟩ := bn_s hS
  refine ev_getI pm219 i219_13 rfl rfl (by decide) e7 rfl ?_
  refine ev_iconst (v := 5) pm219 i219_16 rfl (by decide) rfl ?_
  obtain ⟨h15, I520, hS⟩ := bn_s hS
  have J1 : Ev P d 219 (36, [.ref a0, .int x4, unk, unk], [], h15) (none, h') := by
    refine ev_aload_n pm219 i219_36 rfl rfl rfl ?_
    obtain ⟨h17, e16, hS⟩ := bn_s hS
    refine ev_callV (sa := []) (rest := []) (st' := []) (ls0 := [.ref a0, unk, unk]) (rv := none) pm219 i219_37 rfl rfl pm188 (by decide) (K_md_goesOn e16) rfl rfl (Nat.le_of_ble_eq_true rfl) (by omega) rfl (R_md_goesOn (d - 1) (by omega) e16) (by simp) rfl rfl ?_
    refine ev_aload_n pm219 i219_40 rfl rfl rfl ?_
    refine ev_ldc_w (v := .ref 1000025) pm219 i219_41 rfl rfl rfl ?_
    obtain ⟨x19, e18, hS⟩ := bn_s hS
    refine ev_callV (sa := [.ref 1000025]) (rest := []) (st' := [.int x19]) (ls0 := [.ref a0, .ref 1000025]) (rv := some (.int x19)) pm219 i219_44 rfl rfl pm194 (by decide) (K_md_isWord e18) rfl rfl (Nat.le_of_ble_eq_true rfl) (by omega) rfl (R_md_isWord (d - 1) (by omega) e18) (by simp) rfl rfl ?_
    refine ev_istore_n (ls' := [.ref a0, .int x4, .int x19, unk]) pm219 i219_47 rfl (Nat.le_of_ble_eq_true rfl) rfl rfl ?_
    refine ev_iload_n pm219 i219_48 rfl rfl rfl ?_
    obtain ⟨h25, I521, hS⟩ := bn_s hS
    have J2 : Ev P d 219 (67, [.ref a0, .int x4, .int x19, unk], [], h25) (none, h') := by
      refine ev_aload_n pm219 i219_67 rfl rfl rfl ?_
      obtain ⟨h27, e26, hS⟩ := bn_s hS
      refine ev_callV (sa := []) (rest := []) (st' := []) (ls0 := [.ref a0, unk, unk]) (rv := none) pm219 i219_68 rfl rfl pm188 (by decide) (K_md_goesOn e26) rfl rfl (Nat.le_of_ble_eq_true rfl) (by omega) rfl (R_md_goesOn (d - 1) (by omega) e26) (by simp) rfl rfl ?_
      refine ev_aload_n pm219 i219_71 rfl rfl rfl ?_
      refine ev_iload_n pm219 i219_72 rfl rfl rfl ?_
      obtain ⟨q28, I522, hS⟩ := bn_s hS
      have J3 : Ev P d 219 (81, [.ref a0, .int x4, .int x19, unk], [.int q28, .ref a0], h27) (none, h') := by
        refine ev_sipush (v := 200) pm219 i219_81 rfl (by decide) rfl ?_
        obtain ⟨x30, h31, e29, hS⟩ := bd_s hS
        refine ev_callV (sa := [.int (200 : Int32), .int q28]) (rest := []) (st' := [.int x30]) (ls0 := [.ref a0, .int q28, .int (200 : Int32), unk]) (rv := some (.int x30)) pm219 i219_84 rfl rfl pm200 (by decide) (K_md_readWhole e29) rfl rfl (Nat.le_of_ble_eq_true rfl) (by omega) rfl (R_md_readWhole (d - 1) (by omega) e29) (by simp) rfl rfl ?_
        refine ev_istore_n (ls' := [.ref a0, .int x4, .int x19, .int x30]) pm219 i219_87 rfl (Nat.le_of_ble_eq_true rfl) rfl rfl ?_
        refine ev_aload_n pm219 i219_88 rfl rfl rfl ?_
        obtain ⟨x32, e33, hS⟩ := bn_s hS
        refine ev_getI pm219 i219_89 rfl rfl (by decide) e33 rfl ?_
        refine ev_iconst (v := 5) pm219 i219_92 rfl (by decide) rfl ?_
        by_cases c523 : x32 = (5 : Int32)
        · rw [if_pos c523] at hS
          refine ev_icmp_ne_t (t := 97) pm219 i219_93 rfl c523 rfl rfl ?_
          cases hS
          exact ev_return pm219 i219_96 rfl rfl rfl
        · rw [if_neg c523] at hS
          refine ev_icmp_ne_f (t := 97) pm219 i219_93 rfl c523 rfl rfl ?_
          refine ev_aload_n pm219 i219_97 rfl rfl rfl ?_
          obtain ⟨x34, e35, hS⟩ := bn_s hS
          refine ev_getR pm219 i219_98 rfl rfl rfl e35 rfl ?_
          obtain ⟨x36, e37, hS⟩ := bn_s hS
          refine ev_getR pm219 i219_101 rfl rfl rfl e37 rfl ?_
          refine ev_aload_n pm219 i219_104 rfl rfl rfl ?_
          obtain ⟨x38, e39, hS⟩ := bn_s hS
          refine ev_getR pm219 i219_105 rfl rfl rfl e39 rfl ?_
          obtain ⟨x40, e41, hS⟩ := bn_s hS
          refine ev_getI pm219 i219_108 rfl rfl (by decide) e41 rfl ?_
          refine ev_iload_n pm219 i219_111 rfl rfl rfl ?_
          obtain ⟨h42, e43, hS⟩ := bn_s hS
          refine ev_iast pm219 i219_112 rfl e43 rfl ?_
          refine ev_aload_n pm219 i219_113 rfl rfl rfl ?_
          obtain ⟨x44, e45, hS⟩ := bn_s hS
          refine ev_getR pm219 i219_114 rfl rfl rfl e45 rfl ?_
          obtain ⟨x46, e47, hS⟩ := bn_s hS
          refine ev_getR pm219 i219_117 rfl rfl rfl e47 rfl ?_
          refine ev_aload_n pm219 i219_120 rfl rfl rfl ?_
          obtain ⟨x48, e49, hS⟩ := bn_s hS
          refine ev_getR pm219 i219_121 rfl rfl rfl e49 rfl ?_
          obtain ⟨x50, e51, hS⟩ := bn_s hS
          refine ev_getI pm219 i219_124 rfl rfl (by decide) e51 rfl ?_
          refine ev_iload_n pm219 i219_127 rfl rfl rfl ?_
          obtain ⟨q52, I524, hS⟩ := bn_s hS
          have J4 : Ev P d 219 (137, [.ref a0, unk, unk, unk], [.int q52, .int x50, .ref x46], h42) (none, h') := by
            obtain ⟨h53, e54, hS⟩ := bn_s hS
            refine ev_iast pm219 i219_137 rfl e54 rfl ?_
            refine ev_aload_n pm219 i219_138 rfl rfl rfl ?_
            obtain ⟨x55, e56, hS⟩ := bn_s hS
            refine ev_getR pm219 i219_139 rfl rfl rfl e56 rfl ?_
            refine ev_dup pm219 i219_142 rfl rfl rfl ?_
            obtain ⟨x57, e58, hS⟩ := bn_s hS
            refine ev_getI pm219 i219_143 rfl rfl (by decide) e58 rfl ?_
            refine ev_iconst (v := 1) pm219 i219_146 rfl (by decide) rfl ?_
            refine ev_b2 (f := fun x y => x + y) pm219 i219_147 rfl (fun _ _ _ _ => rfl) rfl ?_
            obtain ⟨h59, e60, hS⟩ := bn_s hS
            refine ev_putI pm219 i219_148 rfl rfl rfl e60 rfl ?_
            cases hS
            exact ev_return pm219 i219_151 rfl rfl rfl
          clear hS
          by_cases c524 : x19 = (0 : Int32)
          · rw [if_pos c524] at I524
            refine ev_if_eq_t (t := 136) pm219 i219_128 rfl c524 rfl rfl ?_
            refine ev_iload_n pm219 i219_136 rfl rfl rfl ?_
            refine ev_kls (ls' := [.ref a0, unk, unk, unk]) pm219 i219_137 rfl rfl ?_
            cases I524
            exact J4
          · rw [if_neg c524] at I524
            refine ev_if_eq_f (t := 136) pm219 i219_128 rfl c524 rfl rfl ?_
            refine ev_iload_n pm219 i219_131 rfl rfl rfl ?_
            refine ev_ineg pm219 i219_132 rfl rfl ?_
            refine ev_goto (t := 137) pm219 i219_133 rfl rfl ?_
            refine ev_kls (ls' := [.ref a0, unk, unk, unk]) pm219 i219_137 rfl rfl ?_
            cases I524
            exact J4
      clear hS
      by_cases c522 : x19 = (0 : Int32)
      · rw [if_pos c522] at I522
        refine ev_if_eq_t (t := 80) pm219 i219_73 rfl c522 rfl rfl ?_
        refine ev_iconst (v := 0) pm219 i219_80 rfl (by decide) rfl ?_
        cases I522
        exact J3
      · rw [if_neg c522] at I522
        refine ev_if_eq_f (t := 80) pm219 i219_73 rfl c522 rfl rfl ?_
        refine ev_iconst (v := 1) pm219 i219_76 rfl (by decide) rfl ?_
        refine ev_goto (t := 81) pm219 i219_77 rfl rfl ?_
        cases I522
        exact J3
    clear hS
    by_cases c521 : x19 = (0 : Int32)
    · rw [if_pos c521] at I521
      refine ev_if_ne_t (t := 67) pm219 i219_49 rfl c521 rfl rfl ?_
      refine ev_aload_n pm219 i219_52 rfl rfl rfl ?_
      refine ev_ldc_w (v := .ref 1000026) pm219 i219_53 rfl rfl rfl ?_
      obtain ⟨x21, e20, I521⟩ := bn_s I521
      refine ev_callV (sa := [.ref 1000026]) (rest := []) (st' := [.int x21]) (ls0 := [.ref a0, .ref 1000026]) (rv := some (.int x21)) pm219 i219_56 rfl rfl pm194 (by decide) (K_md_isWord e20) rfl rfl (Nat.le_of_ble_eq_true rfl) (by omega) rfl (R_md_isWord (d - 1) (by omega) e20) (by simp) rfl rfl ?_
      by_cases c525 : x21 = (0 : Int32)
      · rw [if_pos c525] at I521
        refine ev_if_ne_t (t := 67) pm219 i219_59 rfl c525 rfl rfl ?_
        refine ev_aload_n pm219 i219_62 rfl rfl rfl ?_
        refine ev_iconst (v := 1) pm219 i219_63 rfl (by decide) rfl ?_
        obtain ⟨h23, e22, I521⟩ := bn_s I521
        refine ev_callV (sa := [.int (1 : Int32)]) (rest := []) (st' := []) (ls0 := [.ref a0, .int (1 : Int32)]) (rv := none) pm219 i219_64 rfl rfl pm197 (by decide) (K_md_flaw e22) rfl rfl (Nat.le_of_ble_eq_true rfl) (by omega) rfl (R_md_flaw (d - 1) (by omega) e22) (by simp) rfl rfl ?_
        cases I521
        exact J2
      · rw [if_neg c525] at I521
        refine ev_if_ne_f (t := 67) pm219 i219_59 rfl c525 rfl rfl ?_
        cases I521
        exact J2
    · rw [if_neg c521] at I521
      refine ev_if_ne_f (t := 67) pm219 i219_49 rfl c521 rfl rfl ?_
      cases I521
      exact J2
  clear hS
  by_cases c520 : x6 = (5 : Int32)
  · rw [if_pos c520] at I520
    refine ev_icmp_eq_t (t := 36) pm219 i219_17 rfl c520 rfl rfl ?_
    cases I520
    exact J1
  · rw [if_neg c520] at I520
    refine ev_icmp_eq_f (t := 36) pm219 i219_17 rfl c520 rfl rfl ?_
    refine ev_aload_n pm219 i219_20 rfl rfl rfl ?_
    obtain ⟨x8, e9, I520⟩ := bn_s I520
    refine ev_getR pm219 i219_21 rfl rfl rfl e9 rfl ?_
    refine ev_iload_n pm219 i219_24 rfl rfl rfl ?_
    obtain ⟨x11, e10, I520⟩ := bn_s I520
    refine ev_callV (sa := [.int x4]) (rest := []) (st' := [.int x11]) (ls0 := [.ref x8, .int x4, unk]) (rv := some (.int x11)) pm219 i219_25 rfl rfl pm220 (by decide) (K_la_isSeen e10) rfl rfl (Nat.le_of_ble_eq_true rfl) (by omega) rfl (R_la_isSeen (d - 1) (by omega) e10) (by simp) rfl rfl ?_
    by_cases c526 : x11 = (0 : Int32)
    · rw [if_pos c526] at I520
      refine ev_if_eq_t (t := 36) pm219 i219_28 rfl c526 rfl rfl ?_
      cases I520
      exact J1
    · rw [if_neg c526] at I520
      refine ev_if_eq_f (t := 36) pm219 i219_28 rfl c526 rfl rfl ?_
      refine ev_aload_n pm219 i219_31 rfl rfl rfl ?_
      refine ev_iconst (v := 3) pm219 i219_32 rfl (by decide) rfl ?_
      obtain ⟨h13, e12, I520⟩ := bn_s I520
      refine ev_callV (sa := [.int (3 : Int32)]) (rest := []) (st' := []) (ls0 := [.ref a0, .int (3 : Int32)]) (rv := none) pm219 i219_33 rfl rfl pm197 (by decide) (K_md_flaw e12) rfl rfl (Nat.le_of_ble_eq_true rfl) (by omega) rfl (R_md_flaw (d - 1) (by omega) e12) (by simp) rfl rfl ?_
      cases I520
      exact J1
def F_md_readLine (a0 : Nat) (h : Hp) : Option Hp :=
  ck h a0 13 (bn (F_md_isWord a0 1000003 h) fun x2 =>
  if x2 = (0 : Int32) then
    (bn (F_md_isWord a0 1000004 h) fun x4 =>
    if x4 = (0 : Int32) then
      (bn (F_md_isWord a0 1000005 h) fun x6 =>
      if x6 = (0 : Int32) then
        (bn (F_md_isWord a0 1000006 h) fun x8 =>
        if x8 = (0 : Int32) then
          (bn (F_md_isWord a0 1000007 h) fun x10 =>
          if x10 = (0 : Int32) then
            (bn (F_md_isWord a0 1000008 h) fun x12 =>
            if x12 = (0 : Int32) then
              (bn (F_md_isWord a0 1000009 h) fun x14 =>
              if x14 = (0 : Int32) then
                (bn (F_md_isWord a0 1000010 h) fun x16 =>
                if x16 = (0 : Int32) then
                  (bn (F_md_isWord a0 1000011 h) fun x18 =>
                  if x18 = (0 : Int32) then
                    (bn (F_md_flaw a0 (1 : Int32) h) fun h20 =>
                    some h20)
                  else
                    (bn (F_md_readSeen a0 h) fun h22 =>
                    some h22))
                else
                  (bn (F_md_readGave a0 h) fun h24 =>
                  some h24))
              else
                (bn (F_md_readFeast a0 h) fun h26 =>
                some h26))
            else
              (bn (F_md_readDrinker a0 h) fun h28 =>
              some h28))
          else
            (bn (F_md_readGuest a0 h) fun h30 =>
            some h30))
        else
          (bn (F_md_readCorks a0 h) fun h32 =>
          some h32))
      else
        (bn (F_md_readRope a0 h) fun h34 =>
        some h34))
    else
      (bn (F_md_readHouse a0 h) fun h36 =>
      some h36))
  else
    (bn (F_md_readLake a0 h) fun h38 =>
    some h38))
set_option maxRecDepth 20000 in
theorem K_md_readLine {a0 : Nat} {h : Hp} {h' : Hp} (hS : F_md_readLine a0 h = some h') : kd h a0 = 13 := by
  unfold F_md_readLine at hS
  exact (ck_s hS).1
set_option maxRecDepth 20000 in
theorem R_md_readLine (d : Nat) (hd : 10 ≤ d) {a0 : Nat} {h : Hp} {h' : Hp} (hS : F_md_readLine a0 h = some h') : Ev P d 193 (0, [.ref a0], [], h) (none, h') := by
  unfold F_md_readLine at hS
  replace hS := (ck_s hS).2
  refine ev_aload_n pm193 i193_0 rfl rfl rfl ?_
  refine ev_ldc (v := .ref 1000003) pm193 i193_1 rfl rfl rfl ?_
  obtain ⟨x2, e1, hS⟩ := bn_s hS
  refine ev_callV (sa := [.ref 1000003]) (rest := []) (st' := [.int x2]) (ls0 := [.ref a0, .ref 1000003]) (rv := some (.int x2)) pm193 i193_3 rfl rfl pm194 (by decide) (K_md_isWord e1) rfl rfl (Nat.le_of_ble_eq_true rfl) (by omega) rfl (R_md_isWord (d - 1) (by omega) e1) (by simp) rfl rfl ?_
  by_cases c527 : x2 = (0 : Int32)
  · rw [if_pos c527] at hS
    refine ev_if_eq_t (t := 16) pm193 i193_6 rfl c527 rfl rfl ?_
    refine ev_aload_n pm193 i193_16 rfl rfl rfl ?_
    refine ev_ldc (v := .ref 1000004) pm193 i193_17 rfl rfl rfl ?_
    obtain ⟨x4, e3, hS⟩ := bn_s hS
    refine ev_callV (sa := [.ref 1000004]) (rest := []) (st' := [.int x4]) (ls0 := [.ref a0, .ref 1000004]) (rv := some (.int x4)) pm193 i193_19 rfl rfl pm194 (by decide) (K_md_isWord e3) rfl rfl (Nat.le_of_ble_eq_true rfl) (by omega) rfl (R_md_isWord (d - 1) (by omega) e3) (by simp) rfl rfl ?_
    by_cases c528 : x4 = (0 : Int32)
    · rw [if_pos c528] at hS
      refine ev_if_eq_t (t := 32) pm193 i193_22 rfl c528 rfl rfl ?_
      refine ev_aload_n pm193 i193_32 rfl rfl rfl ?_
      refine ev_ldc (v := .ref 1000005) pm193 i193_33 rfl rfl rfl ?_
      obtain ⟨x6, e5, hS⟩ := bn_s hS
      refine ev_callV (sa := [.ref 1000005]) (rest := []) (st' := [.int x6]) (ls0 := [.ref a0, .ref 1000005]) (rv := some (.int x6)) pm193 i193_35 rfl rfl pm194 (by decide) (K_md_isWord e5) rfl rfl (Nat.le_of_ble_eq_true rfl) (by omega) rfl (R_md_isWord (d - 1) (by omega) e5) (by simp) rfl rfl ?_
      by_cases c529 : x6 = (0 : Int32)
      · rw [if_pos c529] at hS
        refine ev_if_eq_t (t := 48) pm193 i193_38 rfl c529 rfl rfl ?_
        refine ev_aload_n pm193 i193_48 rfl rfl rfl ?_
        refine ev_ldc (v := .ref 1000006) pm193 i193_49 rfl rfl rfl ?_
        obtain ⟨x8, e7, hS⟩ := bn_s hS
        refine ev_callV (sa := [.ref 1000006]) (rest := []) (st' := [.int x8]) (ls0 := [.ref a0, .ref 1000006]) (rv := some (.int x8)) pm193 i193_51 rfl rfl pm194 (by decide) (K_md_isWord e7) rfl rfl (Nat.le_of_ble_eq_true rfl) (by omega) rfl (R_md_isWord (d - 1) (by omega) e7) (by simp) rfl rfl ?_
        by_cases c530 : x8 = (0 : Int32)
        · rw [if_pos c530] at hS
          refine ev_if_eq_t (t := 64) pm193 i193_54 rfl c530 rfl rfl ?_
          refine ev_aload_n pm193 i193_64 rfl rfl rfl ?_
          refine ev_ldc (v := .ref 1000007) pm193 i193_65 rfl rfl rfl ?_
          obtain ⟨x10, e9, hS⟩ := bn_s hS
          refine ev_callV (sa := [.ref 1000007]) (rest := []) (st' := [.int x10]) (ls0 := [.ref a0, .ref 1000007]) (rv := some (.int x10)) pm193 i193_67 rfl rfl pm194 (by decide) (K_md_isWord e9) rfl rfl (Nat.le_of_ble_eq_true rfl) (by omega) rfl (R_md_isWord (d - 1) (by omega) e9) (by simp) rfl rfl ?_
          by_cases c531 : x10 = (0 : Int32)
          · rw [if_pos c531] at hS
            refine ev_if_eq_t (t := 80) pm193 i193_70 rfl c531 rfl rfl ?_
            refine ev_aload_n pm193 i193_80 rfl rfl rfl ?_
            refine ev_ldc (v := .ref 1000008) pm193 i193_81 rfl rfl rfl ?_
            obtain ⟨x12, e11, hS⟩ := bn_s hS
            refine ev_callV (sa := [.ref 1000008]) (rest := []) (st' := [.int x12]) (ls0 := [.ref a0, .ref 1000008]) (rv := some (.int x12)) pm193 i193_83 rfl rfl pm194 (by decide) (K_md_isWord e11) rfl rfl (Nat.le_of_ble_eq_true rfl) (by omega) rfl (R_md_isWord (d - 1) (by omega) e11) (by simp) rfl rfl ?_
            by_cases c532 : x12 = (0 : Int32)
            · rw [if_pos c532] at hS
              refine ev_if_eq_t (t := 96) pm193 i193_86 rfl c532 rfl rfl ?_
              refine ev_aload_n pm193 i193_96 rfl rfl rfl ?_
              refine ev_ldc (v := .ref 1000009) pm193 i193_97 rfl rfl rfl ?_
              obtain ⟨x14, e13, hS⟩ := bn_s hS
              refine ev_callV (sa := [.ref 1000009]) (rest := []) (st' := [.int x14]) (ls0 := [.ref a0, .ref 1000009]) (rv := some (.int x14)) pm193 i193_99 rfl rfl pm194 (by decide) (K_md_isWord e13) rfl rfl (Nat.le_of_ble_eq_true rfl) (by omega) rfl (R_md_isWord (d - 1) (by omega) e13) (by simp) rfl rfl ?_
              by_cases c533 : x14 = (0 : Int32)
              · rw [if_pos c533] at hS
                refine ev_if_eq_t (t := 112) pm193 i193_102 rfl c533 rfl rfl ?_
                refine ev_aload_n pm193 i193_112 rfl rfl rfl ?_
                refine ev_ldc (v := .ref 1000010) pm193 i193_113 rfl rfl rfl ?_
                obtain ⟨x16, e15, hS⟩ := bn_s hS
                refine ev_callV (sa := [.ref 1000010]) (rest := []) (st' := [.int x16]) (ls0 := [.ref a0, .ref 1000010]) (rv := some (.int x16)) pm193 i193_115 rfl rfl pm194 (by decide) (K_md_isWord e15) rfl rfl (Nat.le_of_ble_eq_true rfl) (by omega) rfl (R_md_isWord (d - 1) (by omega) e15) (by simp) rfl rfl ?_
                by_cases c534 : x16 = (0 : Int32)
                · rw [if_pos c534] at hS
                  refine ev_if_eq_t (t := 128) pm193 i193_118 rfl c534 rfl rfl ?_
                  refine ev_aload_n pm193 i193_128 rfl rfl rfl ?_
                  refine ev_ldc (v := .ref 1000011) pm193 i193_129 rfl rfl rfl ?_
                  obtain ⟨x18, e17, hS⟩ := bn_s hS
                  refine ev_callV (sa := [.ref 1000011]) (rest := []) (st' := [.int x18]) (ls0 := [.ref a0, .ref 1000011]) (rv := some (.int x18)) pm193 i193_131 rfl rfl pm194 (by decide) (K_md_isWord e17) rfl rfl (Nat.le_of_ble_eq_true rfl) (by omega) rfl (R_md_isWord (d - 1) (by omega) e17) (by simp) rfl rfl ?_
                  by_cases c535 : x18 = (0 : Int32)
                  · rw [if_pos c535] at hS
                    refine ev_if_eq_t (t := 144) pm193 i193_134 rfl c535 rfl rfl ?_
                    refine ev_aload_n pm193 i193_144 rfl rfl rfl ?_
                    refine ev_iconst (v := 1) pm193 i193_145 rfl (by decide) rfl ?_
                    obtain ⟨h20, e19, hS⟩ := bn_s hS
                    refine ev_callV (sa := [.int (1 : Int32)]) (rest := []) (st' := []) (ls0 := [.ref a0, .int (1 : Int32)]) (rv := none) pm193 i193_146 rfl rfl pm197 (by decide) (K_md_flaw e19) rfl rfl (Nat.le_of_ble_eq_true rfl) (by omega) rfl (R_md_flaw (d - 1) (by omega) e19) (by simp) rfl rfl ?_
                    refine ev_kls (ls' := [unk]) pm193 i193_149 rfl rfl ?_
                    cases hS
                    exact ev_return pm193 i193_149 rfl rfl rfl
                  · rw [if_neg c535] at hS
                    refine ev_if_eq_f (t := 144) pm193 i193_134 rfl c535 rfl rfl ?_
                    refine ev_aload_n pm193 i193_137 rfl rfl rfl ?_
                    obtain ⟨h22, e21, hS⟩ := bn_s hS
                    refine ev_callV (sa := []) (rest := []) (st' := []) (ls0 := [.ref a0, unk, unk, unk]) (rv := none) pm193 i193_138 rfl rfl pm219 (by decide) (K_md_readSeen e21) rfl rfl (Nat.le_of_ble_eq_true rfl) (by omega) rfl (R_md_readSeen (d - 1) (by omega) e21) (by simp) rfl rfl ?_
                    refine ev_goto (t := 149) pm193 i193_141 rfl rfl ?_
                    refine ev_kls (ls' := [unk]) pm193 i193_149 rfl rfl ?_
                    cases hS
                    exact ev_return pm193 i193_149 rfl rfl rfl
                · rw [if_neg c534] at hS
                  refine ev_if_eq_f (t := 128) pm193 i193_118 rfl c534 rfl rfl ?_
                  refine ev_aload_n pm193 i193_121 rfl rfl rfl ?_
                  obtain ⟨h24, e23, hS⟩ := bn_s hS
                  refine ev_callV (sa := []) (rest := []) (st' := []) (ls0 := [.ref a0, unk, unk, unk]) (rv := none) pm193 i193_122 rfl rfl pm218 (by decide) (K_md_readGave e23) rfl rfl (Nat.le_of_ble_eq_true rfl) (by omega) rfl (R_md_readGave (d - 1) (by omega) e23) (by simp) rfl rfl ?_
                  refine ev_goto (t := 149) pm193 i193_125 rfl rfl ?_
                  refine ev_kls (ls' := [unk]) pm193 i193_149 rfl rfl ?_
                  cases hS
                  exact ev_return pm193 i193_149 rfl rfl rfl
              · rw [if_neg c533] at hS
                refine ev_if_eq_f (t := 112) pm193 i193_102 rfl c533 rfl rfl ?_
                refine ev_aload_n pm193 i193_105 rfl rfl rfl ?_
                obtain ⟨h26, e25, hS⟩ := bn_s hS
                refine ev_callV (sa := []) (rest := []) (st' := []) (ls0 := [.ref a0, unk, unk, unk]) (rv := none) pm193 i193_106 rfl rfl pm217 (by decide) (K_md_readFeast e25) rfl rfl (Nat.le_of_ble_eq_true rfl) (by omega) rfl (R_md_readFeast (d - 1) (by omega) e25) (by simp) rfl rfl ?_
                refine ev_goto (t := 149) pm193 i193_109 rfl rfl ?_
                refine ev_kls (ls' := [unk]) pm193 i193_149 rfl rfl ?_
                cases hS
                exact ev_return pm193 i193_149 rfl rfl rfl
            · rw [if_neg c532] at hS
              refine ev_if_eq_f (t := 96) pm193 i193_86 rfl c532 rfl rfl ?_
              refine ev_aload_n pm193 i193_89 rfl rfl rfl ?_
              obtain ⟨h28, e27, hS⟩ := bn_s hS
              refine ev_callV (sa := []) (rest := []) (st' := []) (ls0 := [.ref a0, unk, unk, unk, unk]) (rv := none) pm193 i193_90 rfl rfl pm216 (by decide) (K_md_readDrinker e27) rfl rfl (Nat.le_of_ble_eq_true rfl) (by omega) rfl (R_md_readDrinker (d - 1) (by omega) e27) (by simp) rfl rfl ?_
              refine ev_goto (t := 149) pm193 i193_93 rfl rfl ?_
              refine ev_kls (ls' := [unk]) pm193 i193_149 rfl rfl ?_
              cases hS
              exact ev_return pm193 i193_149 rfl rfl rfl
          · rw [if_neg c531] at hS
            refine ev_if_eq_f (t := 80) pm193 i193_70 rfl c531 rfl rfl ?_
            refine ev_aload_n pm193 i193_73 rfl rfl rfl ?_
            obtain ⟨h30, e29, hS⟩ := bn_s hS
            refine ev_callV (sa := []) (rest := []) (st' := []) (ls0 := [.ref a0, unk, unk, unk, unk]) (rv := none) pm193 i193_74 rfl rfl pm215 (by decide) (K_md_readGuest e29) rfl rfl (Nat.le_of_ble_eq_true rfl) (by omega) rfl (R_md_readGuest (d - 1) (by omega) e29) (by simp) rfl rfl ?_
            refine ev_goto (t := 149) pm193 i193_77 rfl rfl ?_
            refine ev_kls (ls' := [unk]) pm193 i193_149 rfl rfl ?_
            cases hS
            exact ev_return pm193 i193_149 rfl rfl rfl
        · rw [if_neg c530] at hS
          refine ev_if_eq_f (t := 64) pm193 i193_54 rfl c530 rfl rfl ?_
          refine ev_aload_n pm193 i193_57 rfl rfl rfl ?_
          obtain ⟨h32, e31, hS⟩ := bn_s hS
          refine ev_callV (sa := []) (rest := []) (st' := []) (ls0 := [.ref a0, unk, unk, unk]) (rv := none) pm193 i193_58 rfl rfl pm212 (by decide) (K_md_readCorks e31) rfl rfl (Nat.le_of_ble_eq_true rfl) (by omega) rfl (R_md_readCorks (d - 1) (by omega) e31) (by simp) rfl rfl ?_
          refine ev_goto (t := 149) pm193 i193_61 rfl rfl ?_
          refine ev_kls (ls' := [unk]) pm193 i193_149 rfl rfl ?_
          cases hS
          exact ev_return pm193 i193_149 rfl rfl rfl
      · rw [if_neg c529] at hS
        refine ev_if_eq_f (t := 48) pm193 i193_38 rfl c529 rfl rfl ?_
        refine ev_aload_n pm193 i193_41 rfl rfl rfl ?_
        obtain ⟨h34, e33, hS⟩ := bn_s hS
        refine ev_callV (sa := []) (rest := []) (st' := []) (ls0 := [.ref a0, unk, unk]) (rv := none) pm193 i193_42 rfl rfl pm208 (by decide) (K_md_readRope e33) rfl rfl (Nat.le_of_ble_eq_true rfl) (by omega) rfl (R_md_readRope (d - 1) (by omega) e33) (by simp) rfl rfl ?_
        refine ev_goto (t := 149) pm193 i193_45 rfl rfl ?_
        refine ev_kls (ls' := [unk]) pm193 i193_149 rfl rfl ?_
        cases hS
        exact ev_return pm193 i193_149 rfl rfl rfl
    · rw [if_neg c528] at hS
      refine ev_if_eq_f (t := 32) pm193 i193_22 rfl c528 rfl rfl ?_
      refine ev_aload_n pm193 i193_25 rfl rfl rfl ?_
      obtain ⟨h36, e35, hS⟩ := bn_s hS
      refine ev_callV (sa := []) (rest := []) (st' := []) (ls0 := [.ref a0, unk, unk, unk, unk]) (rv := none) pm193 i193_26 rfl rfl pm202 (by decide) (K_md_readHouse e35) rfl rfl (Nat.le_of_ble_eq_true rfl) (by omega) rfl (R_md_readHouse (d - 1) (by omega) e35) (by simp) rfl rfl ?_
      refine ev_goto (t := 149) pm193 i193_29 rfl rfl ?_
      refine ev_kls (ls' := [unk]) pm193 i193_149 rfl rfl ?_
      cases hS
      exact ev_return pm193 i193_149 rfl rfl rfl
  · rw [if_neg c527] at hS
    refine ev_if_eq_f (t := 16) pm193 i193_6 rfl c527 rfl rfl ?_
    refine ev_aload_n pm193 i193_9 rfl rfl rfl ?_
    obtain ⟨h38, e37, hS⟩ := bn_s hS
    refine ev_callV (sa := []) (rest := []) (st' := []) (ls0 := [.ref a0, unk]) (rv := none) pm193 i193_10 rfl rfl pm196 (by decide) (K_md_readLake e37) rfl rfl (Nat.le_of_ble_eq_true rfl) (by omega) rfl (R_md_readLake (d - 1) (by omega) e37) (by simp) rfl rfl ?_
    refine ev_goto (t := 149) pm193 i193_13 rfl rfl ?_
    refine ev_kls (ls' := [unk]) pm193 i193_149 rfl rfl ?_
    cases hS
    exact ev_return pm193 i193_149 rfl rfl rfl
def F_md_eatsSemicolon (a0 : Nat) (h : Hp) : Option (Int32 × Hp) :=
  ck h a0 13 (bn (gI h a0 13 9) fun x1 =>
  bn (if x1 = (4 : Int32) then
      (some (1 : Int32))
    else
      (some (0 : Int32))) fun q3 =>
  if q3 = (0 : Int32) then
    (if retV .boolean q3 = true then
      (some (q3, h))
    else
      (none))
  else
    (bn (F_md_goesOn a0 h) fun h5 =>
    if retV .boolean q3 = true then
      (some (q3, h5))
    else
      (none)))
set_option maxRecDepth 20000 in
theorem K_md_eatsSemicolon {a0 : Nat} {h : Hp} {v : Int32} {h' : Hp} (hS : F_md_eatsSemicolon a0 h = some (v, h')) : kd h a0 = 13 := by
  unfold F_md_eatsSemicolon at hS
  exact (ck_s hS).1
set_option maxRecDepth 20000 in
theorem R_md_eatsSemicolon (d : Nat) (hd : 2 ≤ d) {a0 : Nat} {h : Hp} {v : Int32} {h' : Hp} (hS : F_md_eatsSemicolon a0 h = some (v, h')) : Ev P d 221 (0, [.ref a0, unk], [], h) (some (.int v), h') := by
  unfold F_md_eatsSemicolon at hS
  replace hS := (ck_s hS).2
  refine ev_aload_n pm221 i221_0 rfl rfl rfl ?_
  obtain ⟨x1, e2, hS⟩ := bn_s hS
  refine ev_getI pm221 i221_1 rfl rfl (by decide) e2 rfl ?_
  refine ev_iconst (v := 4) pm221 i221_4 rfl (by decide) rfl ?_
  obtain ⟨q3, I536, hS⟩ := bn_s hS
  have J1 : Ev P d 221 (13, [.ref a0, unk], [.int q3], h) (some (.int v), h') := by
    refine ev_istore_n (ls' := [.ref a0, .int q3]) pm221 i221_13 rfl (Nat.le_of_ble_eq_true rfl) rfl rfl ?_
    refine ev_iload_n pm221 i221_14 rfl rfl rfl ?_
    by_cases c537 : q3 = (0 : Int32)
    · rw [if_pos c537] at hS
      refine ev_if_eq_t (t := 22) pm221 i221_15 rfl c537 rfl rfl ?_
      refine ev_kls (ls' := [unk, .int q3]) pm221 i221_22 rfl rfl ?_
      refine ev_iload_n pm221 i221_22 rfl rfl rfl ?_
      by_cases c538 : retV .boolean q3 = true
      · rw [if_pos c538] at hS
        cases hS
        exact ev_ireturn pm221 i221_23 rfl c538 rfl
      · rw [if_neg c538] at hS
        cases hS
    · rw [if_neg c537] at hS
      refine ev_if_eq_f (t := 22) pm221 i221_15 rfl c537 rfl rfl ?_
      refine ev_aload_n pm221 i221_18 rfl rfl rfl ?_
      obtain ⟨h5, e4, hS⟩ := bn_s hS
      refine ev_callV (sa := []) (rest := []) (st' := []) (ls0 := [.ref a0, unk, unk]) (rv := none) pm221 i221_19 rfl rfl pm188 (by decide) (K_md_goesOn e4) rfl rfl (Nat.le_of_ble_eq_true rfl) (by omega) rfl (R_md_goesOn (d - 1) (by omega) e4) (by simp) rfl rfl ?_
      refine ev_kls (ls' := [unk, .int q3]) pm221 i221_22 rfl rfl ?_
      refine ev_iload_n pm221 i221_22 rfl rfl rfl ?_
      by_cases c539 : retV .boolean q3 = true
      · rw [if_pos c539] at hS
        cases hS
        exact ev_ireturn pm221 i221_23 rfl c539 rfl
      · rw [if_neg c539] at hS
        cases hS
  clear hS
  by_cases c536 : x1 = (4 : Int32)
  · rw [if_pos c536] at I536
    refine ev_icmp_ne_t (t := 12) pm221 i221_5 rfl c536 rfl rfl ?_
    refine ev_iconst (v := 1) pm221 i221_8 rfl (by decide) rfl ?_
    refine ev_goto (t := 13) pm221 i221_9 rfl rfl ?_
    cases I536
    exact J1
  · rw [if_neg c536] at I536
    refine ev_icmp_ne_f (t := 12) pm221 i221_5 rfl c536 rfl rfl ?_
    refine ev_iconst (v := 0) pm221 i221_12 rfl (by decide) rfl ?_
    cases I536
    exact J1
def B_md_readAll_2 (l0 : Nat) (s : Int32) (h : Hp) : Option (((Int32) ⊕ (Unit)) × Hp) :=
  if s = (0 : Int32) then
    (some (.inr (), h))
  else
    (bn (F_md_readLine l0 h) fun h2 =>
    bd (F_md_eatsSemicolon l0 h2) fun x4 h5 =>
    some (.inl x4, h5))
set_option maxRecDepth 20000 in
theorem L_md_readAll_2 (d : Nat) (hd : 11 ≤ d) {l0 : Nat} : ∀ (n : Nat) (s : Int32) (h : Hp) (x : Unit) (hx : Hp), lp (B_md_readAll_2 l0) n s h = some (x, hx) → ∀ r, Ev P d 192 (18, [.ref l0, unk], [], hx) r → Ev P d 192 (2, [.ref l0, .int s], [], h) r := by
  refine lp_ev (G0 := fun (s : Int32) h r => Ev P d 192 (2, [.ref l0, .int s], [], h) r) (X := fun (x : Unit) hx r => Ev P d 192 (18, [.ref l0, unk], [], hx) r) ?_
  intro s h y h9 hS r hK
  unfold B_md_readAll_2 at hS
  show Ev P d 192 (2, [.ref l0, .int s], [], h) r
  refine ev_iload_n pm192 i192_2 rfl rfl rfl ?_
  by_cases c540 : s = (0 : Int32)
  · rw [if_pos c540] at hS
    refine ev_if_eq_t (t := 18) pm192 i192_3 rfl c540 rfl rfl ?_
    refine ev_kls (ls' := [.ref l0, unk]) pm192 i192_18 rfl rfl ?_
    cases hS
    exact hK
  · rw [if_neg c540] at hS
    refine ev_if_eq_f (t := 18) pm192 i192_3 rfl c540 rfl rfl ?_
    refine ev_aload_n pm192 i192_6 rfl rfl rfl ?_
    obtain ⟨h2, e1, hS⟩ := bn_s hS
    refine ev_callV (sa := []) (rest := []) (st' := []) (ls0 := [.ref l0]) (rv := none) pm192 i192_7 rfl rfl pm193 (by decide) (K_md_readLine e1) rfl rfl (Nat.le_of_ble_eq_true rfl) (by omega) rfl (R_md_readLine (d - 1) (by omega) e1) (by simp) rfl rfl ?_
    refine ev_aload_n pm192 i192_10 rfl rfl rfl ?_
    obtain ⟨x4, h5, e3, hS⟩ := bd_s hS
    refine ev_callV (sa := []) (rest := []) (st' := [.int x4]) (ls0 := [.ref l0, unk]) (rv := some (.int x4)) pm192 i192_11 rfl rfl pm221 (by decide) (K_md_eatsSemicolon e3) rfl rfl (Nat.le_of_ble_eq_true rfl) (by omega) rfl (R_md_eatsSemicolon (d - 1) (by omega) e3) (by simp) rfl rfl ?_
    refine ev_istore_n (ls' := [.ref l0, .int x4]) pm192 i192_14 rfl (Nat.le_of_ble_eq_true rfl) rfl rfl ?_
    refine ev_goto (t := 2) pm192 i192_15 rfl rfl ?_
    cases hS
    exact hK
def F_md_readAll (a0 : Nat) (h : Hp) : Option Hp :=
  ck h a0 13 (bd (lp (B_md_readAll_2 a0) FU (1 : Int32) h) fun x6 h8 =>
  bn (gI h8 a0 13 9) fun x9 =>
  bn (if x9 = (1 : Int32) then
      (some h8)
    else
      (bn (F_md_flaw a0 (1 : Int32) h8) fun h12 =>
      some h12)) fun h14 =>
  bn (gR h14 a0 13 4) fun x15 =>
  bn (gI h14 x15 12 1) fun x17 =>
  if x17 = (0 : Int32) then
    (bn (F_md_flaw a0 (6 : Int32) h14) fun h20 =>
    some h20)
  else
    (some h14))
set_option maxRecDepth 20000 in
theorem K_md_readAll {a0 : Nat} {h : Hp} {h' : Hp} (hS : F_md_readAll a0 h = some h') : kd h a0 = 13 := by
  unfold F_md_readAll at hS
  exact (ck_s hS).1
set_option maxRecDepth 20000 in
theorem R_md_readAll (d : Nat) (hd : 11 ≤ d) {a0 : Nat} {h : Hp} {h' : Hp} (hS : F_md_readAll a0 h = some h') : Ev P d 192 (0, [.ref a0, unk], [], h) (none, h') := by
  unfold F_md_readAll at hS
  replace hS := (ck_s hS).2
  refine ev_iconst (v := 1) pm192 i192_0 rfl (by decide) rfl ?_
  refine ev_istore_n (ls' := [.ref a0, .int (1 : Int32)]) pm192 i192_1 rfl (Nat.le_of_ble_eq_true rfl) rfl rfl ?_
  obtain ⟨x6, h8, e7, hS⟩ := bd_s hS
  refine L_md_readAll_2 d (by omega) _ _ _ _ _ e7 _ ?_
  show Ev P d 192 (18, [.ref a0, unk], [], h8) _
  refine ev_aload_n pm192 i192_18 rfl rfl rfl ?_
  obtain ⟨x9, e10, hS⟩ := bn_s hS
  refine ev_getI pm192 i192_19 rfl rfl (by decide) e10 rfl ?_
  refine ev_iconst (v := 1) pm192 i192_22 rfl (by decide) rfl ?_
  obtain ⟨h14, I541, hS⟩ := bn_s hS
  have J1 : Ev P d 192 (31, [.ref a0, unk], [], h14) (none, h') := by
    refine ev_aload_n pm192 i192_31 rfl rfl rfl ?_
    obtain ⟨x15, e16, hS⟩ := bn_s hS
    refine ev_getR pm192 i192_32 rfl rfl rfl e16 rfl ?_
    obtain ⟨x17, e18, hS⟩ := bn_s hS
    refine ev_getI pm192 i192_35 rfl rfl (by decide) e18 rfl ?_
    by_cases c542 : x17 = (0 : Int32)
    · rw [if_pos c542] at hS
      refine ev_if_ne_t (t := 47) pm192 i192_38 rfl c542 rfl rfl ?_
      refine ev_aload_n pm192 i192_41 rfl rfl rfl ?_
      refine ev_bipush (v := 6) pm192 i192_42 rfl (by decide) rfl ?_
      obtain ⟨h20, e19, hS⟩ := bn_s hS
      refine ev_callV (sa := [.int (6 : Int32)]) (rest := []) (st' := []) (ls0 := [.ref a0, .int (6 : Int32)]) (rv := none) pm192 i192_44 rfl rfl pm197 (by decide) (K_md_flaw e19) rfl rfl (Nat.le_of_ble_eq_true rfl) (by omega) rfl (R_md_flaw (d - 1) (by omega) e19) (by simp) rfl rfl ?_
      refine ev_kls (ls' := [unk, unk]) pm192 i192_47 rfl rfl ?_
      cases hS
      exact ev_return pm192 i192_47 rfl rfl rfl
    · rw [if_neg c542] at hS
      refine ev_if_ne_f (t := 47) pm192 i192_38 rfl c542 rfl rfl ?_
      refine ev_kls (ls' := [unk, unk]) pm192 i192_47 rfl rfl ?_
      cases hS
      exact ev_return pm192 i192_47 rfl rfl rfl
  clear hS
  by_cases c541 : x9 = (1 : Int32)
  · rw [if_pos c541] at I541
    refine ev_icmp_eq_t (t := 31) pm192 i192_23 rfl c541 rfl rfl ?_
    cases I541
    exact J1
  · rw [if_neg c541] at I541
    refine ev_icmp_eq_f (t := 31) pm192 i192_23 rfl c541 rfl rfl ?_
    refine ev_aload_n pm192 i192_26 rfl rfl rfl ?_
    refine ev_iconst (v := 1) pm192 i192_27 rfl (by decide) rfl ?_
    obtain ⟨h12, e11, I541⟩ := bn_s I541
    refine ev_callV (sa := [.int (1 : Int32)]) (rest := []) (st' := []) (ls0 := [.ref a0, .int (1 : Int32)]) (rv := none) pm192 i192_28 rfl rfl pm197 (by decide) (K_md_flaw e11) rfl rfl (Nat.le_of_ble_eq_true rfl) (by omega) rfl (R_md_flaw (d - 1) (by omega) e11) (by simp) rfl rfl ?_
    cases I541
    exact J1
def F_md_cell (a0 : Int32) (a1 : Int32) : Option Int32 :=
  some (((0 : Int32) + ((5 : Int32) * a0)) + a1)
set_option maxRecDepth 20000 in
theorem R_md_cell (d : Nat) (hd : 0 ≤ d) {a0 : Int32} {a1 : Int32} {h : Hp} {v : Int32} (hS : F_md_cell a0 a1 = some v) : Ev P d 223 (0, [.int a0, .int a1], [], h) (some (.int v), h) := by
  unfold F_md_cell at hS
  refine ev_iconst (v := 0) pm223 i223_0 rfl (by decide) rfl ?_
  refine ev_iconst (v := 5) pm223 i223_1 rfl (by decide) rfl ?_
  refine ev_iload_n pm223 i223_2 rfl rfl rfl ?_
  refine ev_b2 (f := fun x y => x * y) pm223 i223_3 rfl (fun _ _ _ _ => rfl) rfl ?_
  refine ev_b2 (f := fun x y => x + y) pm223 i223_4 rfl (fun _ _ _ _ => rfl) rfl ?_
  refine ev_iload_n pm223 i223_5 rfl rfl rfl ?_
  refine ev_b2 (f := fun x y => x + y) pm223 i223_6 rfl (fun _ _ _ _ => rfl) rfl ?_
  cases hS
  exact ev_ireturn pm223 i223_7 rfl rfl rfl
def B_md_asTold_2 (l0 : Nat) (l1 : Int32) (s : Int32) (h : Hp) : Option (((Int32) ⊕ (Unit)) × Hp) :=
  if s < (31 : Int32) then
    (bn (gR h l0 13 16) fun x1 =>
    bn (sI h 100 x1 s (0 : Int32)) fun h3 =>
    some (.inl (s + (1 : Int32)), h3))
  else
    (some (.inr (), h))
set_option maxRecDepth 20000 in
theorem L_md_asTold_2 (d : Nat) (hd : 1 ≤ d) {l0 : Nat} {l1 : Int32} : ∀ (n : Nat) (s : Int32) (h : Hp) (x : Unit) (hx : Hp), lp (B_md_asTold_2 l0 l1) n s h = some (x, hx) → ∀ r, Ev P d 222 (21, [.ref l0, .int l1, unk], [], hx) r → Ev P d 222 (2, [.ref l0, .int l1, .int s], [], h) r := by
  refine lp_ev (G0 := fun (s : Int32) h r => Ev P d 222 (2, [.ref l0, .int l1, .int s], [], h) r) (X := fun (x : Unit) hx r => Ev P d 222 (21, [.ref l0, .int l1, unk], [], hx) r) ?_
  intro s h y h9 hS r hK
  unfold B_md_asTold_2 at hS
  show Ev P d 222 (2, [.ref l0, .int l1, .int s], [], h) r
  refine ev_iload_n pm222 i222_2 rfl rfl rfl ?_
  refine ev_bipush (v := 31) pm222 i222_3 rfl (by decide) rfl ?_
  by_cases c543 : s < (31 : Int32)
  · rw [if_pos c543] at hS
    refine ev_icmp_ge_t (t := 21) pm222 i222_5 rfl c543 rfl rfl ?_
    refine ev_aload_n pm222 i222_8 rfl rfl rfl ?_
    obtain ⟨x1, e2, hS⟩ := bn_s hS
    refine ev_getR pm222 i222_9 rfl rfl rfl e2 rfl ?_
    refine ev_iload_n pm222 i222_12 rfl rfl rfl ?_
    refine ev_iconst (v := 0) pm222 i222_13 rfl (by decide) rfl ?_
    obtain ⟨h3, e4, hS⟩ := bn_s hS
    refine ev_iast pm222 i222_14 rfl e4 rfl ?_
    refine ev_iinc (v := 1) (ls' := [.ref l0, .int l1, .int (s + (1 : Int32))]) pm222 i222_15 rfl rfl (by decide) rfl rfl ?_
    refine ev_goto (t := 2) pm222 i222_18 rfl rfl ?_
    cases hS
    exact hK
  · rw [if_neg c543] at hS
    refine ev_icmp_ge_f (t := 21) pm222 i222_5 rfl c543 rfl rfl ?_
    refine ev_kls (ls' := [.ref l0, .int l1, unk]) pm222 i222_21 rfl rfl ?_
    cases hS
    exact hK
def B_md_asTold_23 (l0 : Nat) (l1 : Int32) (s : Int32) (h : Hp) : Option (((Int32) ⊕ (Unit)) × Hp) :=
  if s < (25 : Int32) then
    (bn (gR h l0 13 16) fun x8 =>
    bn (gR h l0 13 3) fun x10 =>
    bn (gR h x10 12 11) fun x12 =>
    bn (aI h 100 x12 s) fun x14 =>
    bn (sI h 100 x8 ((0 : Int32) + s) x14) fun h16 =>
    some (.inl (s + (1 : Int32)), h16))
  else
    (some (.inr (), h))
set_option maxRecDepth 20000 in
theorem L_md_asTold_23 (d : Nat) (hd : 1 ≤ d) {l0 : Nat} {l1 : Int32} : ∀ (n : Nat) (s : Int32) (h : Hp) (x : Unit) (hx : Hp), lp (B_md_asTold_23 l0 l1) n s h = some (x, hx) → ∀ r, Ev P d 222 (52, [.ref l0, .int l1, unk], [], hx) r → Ev P d 222 (23, [.ref l0, .int l1, .int s], [], h) r := by
  refine lp_ev (G0 := fun (s : Int32) h r => Ev P d 222 (23, [.ref l0, .int l1, .int s], [], h) r) (X := fun (x : Unit) hx r => Ev P d 222 (52, [.ref l0, .int l1, unk], [], hx) r) ?_
  intro s h y h9 hS r hK
  unfold B_md_asTold_23 at hS
  show Ev P d 222 (23, [.ref l0, .int l1, .int s], [], h) r
  refine ev_iload_n pm222 i222_23 rfl rfl rfl ?_
  refine ev_bipush (v := 25) pm222 i222_24 rfl (by decide) rfl ?_
  by_cases c544 : s < (25 : Int32)
  · rw [if_pos c544] at hS
    refine ev_icmp_ge_t (t := 52) pm222 i222_26 rfl c544 rfl rfl ?_
    refine ev_aload_n pm222 i222_29 rfl rfl rfl ?_
    obtain ⟨x8, e9, hS⟩ := bn_s hS
    refine ev_getR pm222 i222_30 rfl rfl rfl e9 rfl ?_
    refine ev_iconst (v := 0) pm222 i222_33 rfl (by decide) rfl ?_
    refine ev_iload_n pm222 i222_34 rfl rfl rfl ?_
    refine ev_b2 (f := fun x y => x + y) pm222 i222_35 rfl (fun _ _ _ _ => rfl) rfl ?_
    refine ev_aload_n pm222 i222_36 rfl rfl rfl ?_
    obtain ⟨x10, e11, hS⟩ := bn_s hS
    refine ev_getR pm222 i222_37 rfl rfl rfl e11 rfl ?_
    obtain ⟨x12, e13, hS⟩ := bn_s hS
    refine ev_getR pm222 i222_40 rfl rfl rfl e13 rfl ?_
    refine ev_iload_n pm222 i222_43 rfl rfl rfl ?_
    obtain ⟨x14, e15, hS⟩ := bn_s hS
    refine ev_iald pm222 i222_44 rfl e15 rfl ?_
    obtain ⟨h16, e17, hS⟩ := bn_s hS
    refine ev_iast pm222 i222_45 rfl e17 rfl ?_
    refine ev_iinc (v := 1) (ls' := [.ref l0, .int l1, .int (s + (1 : Int32))]) pm222 i222_46 rfl rfl (by decide) rfl rfl ?_
    refine ev_goto (t := 23) pm222 i222_49 rfl rfl ?_
    cases hS
    exact hK
  · rw [if_neg c544] at hS
    refine ev_icmp_ge_f (t := 52) pm222 i222_26 rfl c544 rfl rfl ?_
    refine ev_kls (ls' := [.ref l0, .int l1, unk]) pm222 i222_52 rfl rfl ?_
    cases hS
    exact hK
def B_md_asTold_54 (l0 : Nat) (l1 : Int32) (s : Int32) (h : Hp) : Option (((Int32) ⊕ (Unit)) × Hp) :=
  bn (gR h l0 13 3) fun x21 =>
  bn (gI h x21 12 6) fun x23 =>
  if s < x23 then
    (bn (gR h l0 13 3) fun x25 =>
    bn (gR h x25 12 22) fun x27 =>
    bn (aI h 100 x27 s) fun x29 =>
    bn (F_md_bit l1 x29) fun x32 =>
    if x32 = (0 : Int32) then
      (bn (gR h l0 13 16) fun x33 =>
      bn (gR h l0 13 3) fun x35 =>
      bn (gR h x35 12 23) fun x37 =>
      bn (aI h 100 x37 s) fun x39 =>
      bn (gR h l0 13 3) fun x41 =>
      bn (gR h x41 12 17) fun x43 =>
      bn (gR h l0 13 3) fun x45 =>
      bn (gR h x45 12 22) fun x47 =>
      bn (aI h 100 x47 s) fun x49 =>
      bn (aI h 100 x43 x49) fun x51 =>
      bn (F_md_cell x39 x51) fun x54 =>
      bn (aI h 100 x33 x54) fun x55 =>
      bn (gR h l0 13 3) fun x57 =>
      bn (gR h x57 12 24) fun x59 =>
      bn (aI h 100 x59 s) fun x61 =>
      bn (sI h 100 x33 x54 (x55 + x61)) fun h63 =>
      some (.inl (s + (1 : Int32)), h63))
    else
      (some (.inl (s + (1 : Int32)), h)))
  else
    (some (.inr (), h))
set_option maxRecDepth 20000 in
theorem L_md_asTold_54 (d : Nat) (hd : 1 ≤ d) {l0 : Nat} {l1 : Int32} : ∀ (n : Nat) (s : Int32) (h : Hp) (x : Unit) (hx : Hp), lp (B_md_asTold_54 l0 l1) n s h = some (x, hx) → ∀ r, Ev P d 222 (133, [.ref l0, unk, unk], [], hx) r → Ev P d 222 (54, [.ref l0, .int l1, .int s], [], h) r := by
  refine lp_ev (G0 := fun (s : Int32) h r => Ev P d 222 (54, [.ref l0, .int l1, .int s], [], h) r) (X := fun (x : Unit) hx r => Ev P d 222 (133, [.ref l0, unk, unk], [], hx) r) ?_
  intro s h y h9 hS r hK
  unfold B_md_asTold_54 at hS
  show Ev P d 222 (54, [.ref l0, .int l1, .int s], [], h) r
  refine ev_iload_n pm222 i222_54 rfl rfl rfl ?_
  refine ev_aload_n pm222 i222_55 rfl rfl rfl ?_
  obtain ⟨x21, e22, hS⟩ := bn_s hS
  refine ev_getR pm222 i222_56 rfl rfl rfl e22 rfl ?_
  obtain ⟨x23, e24, hS⟩ := bn_s hS
  refine ev_getI pm222 i222_59 rfl rfl (by decide) e24 rfl ?_
  by_cases c545 : s < x23
  · rw [if_pos c545] at hS
    refine ev_icmp_ge_t (t := 133) pm222 i222_62 rfl c545 rfl rfl ?_
    refine ev_iload_n pm222 i222_65 rfl rfl rfl ?_
    refine ev_aload_n pm222 i222_66 rfl rfl rfl ?_
    obtain ⟨x25, e26, hS⟩ := bn_s hS
    refine ev_getR pm222 i222_67 rfl rfl rfl e26 rfl ?_
    obtain ⟨x27, e28, hS⟩ := bn_s hS
    refine ev_getR pm222 i222_70 rfl rfl rfl e28 rfl ?_
    refine ev_iload_n pm222 i222_73 rfl rfl rfl ?_
    obtain ⟨x29, e30, hS⟩ := bn_s hS
    refine ev_iald pm222 i222_74 rfl e30 rfl ?_
    obtain ⟨x32, e31, hS⟩ := bn_s hS
    refine ev_callS (sa := [.int x29, .int l1]) (rest := []) (st' := [.int x32]) (ls0 := [.int l1, .int x29]) (rv := some (.int x32)) pm222 i222_75 rfl rfl pm214 (by decide) rfl rfl (Nat.le_of_ble_eq_true rfl) (by omega) rfl (R_md_bit (d - 1) (by omega) e31) (by simp) rfl rfl ?_
    by_cases c546 : x32 = (0 : Int32)
    · rw [if_pos c546] at hS
      refine ev_if_ne_t (t := 127) pm222 i222_78 rfl c546 rfl rfl ?_
      refine ev_aload_n pm222 i222_81 rfl rfl rfl ?_
      obtain ⟨x33, e34, hS⟩ := bn_s hS
      refine ev_getR pm222 i222_82 rfl rfl rfl e34 rfl ?_
      refine ev_aload_n pm222 i222_85 rfl rfl rfl ?_
      obtain ⟨x35, e36, hS⟩ := bn_s hS
      refine ev_getR pm222 i222_86 rfl rfl rfl e36 rfl ?_
      obtain ⟨x37, e38, hS⟩ := bn_s hS
      refine ev_getR pm222 i222_89 rfl rfl rfl e38 rfl ?_
      refine ev_iload_n pm222 i222_92 rfl rfl rfl ?_
      obtain ⟨x39, e40, hS⟩ := bn_s hS
      refine ev_iald pm222 i222_93 rfl e40 rfl ?_
      refine ev_aload_n pm222 i222_94 rfl rfl rfl ?_
      obtain ⟨x41, e42, hS⟩ := bn_s hS
      refine ev_getR pm222 i222_95 rfl rfl rfl e42 rfl ?_
      obtain ⟨x43, e44, hS⟩ := bn_s hS
      refine ev_getR pm222 i222_98 rfl rfl rfl e44 rfl ?_
      refine ev_aload_n pm222 i222_101 rfl rfl rfl ?_
      obtain ⟨x45, e46, hS⟩ := bn_s hS
      refine ev_getR pm222 i222_102 rfl rfl rfl e46 rfl ?_
      obtain ⟨x47, e48, hS⟩ := bn_s hS
      refine ev_getR pm222 i222_105 rfl rfl rfl e48 rfl ?_
      refine ev_iload_n pm222 i222_108 rfl rfl rfl ?_
      obtain ⟨x49, e50, hS⟩ := bn_s hS
      refine ev_iald pm222 i222_109 rfl e50 rfl ?_
      obtain ⟨x51, e52, hS⟩ := bn_s hS
      refine ev_iald pm222 i222_110 rfl e52 rfl ?_
      obtain ⟨x54, e53, hS⟩ := bn_s hS
      refine ev_callS (sa := [.int x51, .int x39]) (rest := [.ref x33]) (st' := [.int x54, .ref x33]) (ls0 := [.int x39, .int x51]) (rv := some (.int x54)) pm222 i222_111 rfl rfl pm223 (by decide) rfl rfl (Nat.le_of_ble_eq_true rfl) (by omega) rfl (R_md_cell (d - 1) (by omega) e53) (by simp) rfl rfl ?_
      refine ev_dup2 pm222 i222_114 rfl ⟨rfl, rfl⟩ rfl ?_
      obtain ⟨x55, e56, hS⟩ := bn_s hS
      refine ev_iald pm222 i222_115 rfl e56 rfl ?_
      refine ev_aload_n pm222 i222_116 rfl rfl rfl ?_
      obtain ⟨x57, e58, hS⟩ := bn_s hS
      refine ev_getR pm222 i222_117 rfl rfl rfl e58 rfl ?_
      obtain ⟨x59, e60, hS⟩ := bn_s hS
      refine ev_getR pm222 i222_120 rfl rfl rfl e60 rfl ?_
      refine ev_iload_n pm222 i222_123 rfl rfl rfl ?_
      obtain ⟨x61, e62, hS⟩ := bn_s hS
      refine ev_iald pm222 i222_124 rfl e62 rfl ?_
      refine ev_b2 (f := fun x y => x + y) pm222 i222_125 rfl (fun _ _ _ _ => rfl) rfl ?_
      obtain ⟨h63, e64, hS⟩ := bn_s hS
      refine ev_iast pm222 i222_126 rfl e64 rfl ?_
      refine ev_iinc (v := 1) (ls' := [.ref l0, .int l1, .int (s + (1 : Int32))]) pm222 i222_127 rfl rfl (by decide) rfl rfl ?_
      refine ev_goto (t := 54) pm222 i222_130 rfl rfl ?_
      cases hS
      exact hK
    · rw [if_neg c546] at hS
      refine ev_if_ne_f (t := 127) pm222 i222_78 rfl c546 rfl rfl ?_
      refine ev_iinc (v := 1) (ls' := [.ref l0, .int l1, .int (s + (1 : Int32))]) pm222 i222_127 rfl rfl (by decide) rfl rfl ?_
      refine ev_goto (t := 54) pm222 i222_130 rfl rfl ?_
      cases hS
      exact hK
  · rw [if_neg c545] at hS
    refine ev_icmp_ge_f (t := 133) pm222 i222_62 rfl c545 rfl rfl ?_
    refine ev_kls (ls' := [.ref l0, unk, unk]) pm222 i222_133 rfl rfl ?_
    cases hS
    exact hK
def B_md_asTold_135 (l0 : Nat) (s : Int32) (h : Hp) : Option (((Int32) ⊕ (Unit)) × Hp) :=
  bn (gR h l0 13 3) fun x68 =>
  bn (gI h x68 12 3) fun x70 =>
  if s < x70 then
    (bn (gR h l0 13 16) fun x72 =>
    bn (gR h l0 13 3) fun x74 =>
    bn (gR h x74 12 16) fun x76 =>
    bn (aI h 100 x76 s) fun x78 =>
    bn (sI h 100 x72 ((25 : Int32) + s) x78) fun h80 =>
    some (.inl (s + (1 : Int32)), h80))
  else
    (some (.inr (), h))
set_option maxRecDepth 20000 in
theorem L_md_asTold_135 (d : Nat) (hd : 1 ≤ d) {l0 : Nat} : ∀ (n : Nat) (s : Int32) (h : Hp) (x : Unit) (hx : Hp), lp (B_md_asTold_135 l0) n s h = some (x, hx) → ∀ r, Ev P d 222 (170, [unk, unk, unk], [], hx) r → Ev P d 222 (135, [.ref l0, unk, .int s], [], h) r := by
  refine lp_ev (G0 := fun (s : Int32) h r => Ev P d 222 (135, [.ref l0, unk, .int s], [], h) r) (X := fun (x : Unit) hx r => Ev P d 222 (170, [unk, unk, unk], [], hx) r) ?_
  intro s h y h9 hS r hK
  unfold B_md_asTold_135 at hS
  show Ev P d 222 (135, [.ref l0, unk, .int s], [], h) r
  refine ev_iload_n pm222 i222_135 rfl rfl rfl ?_
  refine ev_aload_n pm222 i222_136 rfl rfl rfl ?_
  obtain ⟨x68, e69, hS⟩ := bn_s hS
  refine ev_getR pm222 i222_137 rfl rfl rfl e69 rfl ?_
  obtain ⟨x70, e71, hS⟩ := bn_s hS
  refine ev_getI pm222 i222_140 rfl rfl (by decide) e71 rfl ?_
  by_cases c547 : s < x70
  · rw [if_pos c547] at hS
    refine ev_icmp_ge_t (t := 170) pm222 i222_143 rfl c547 rfl rfl ?_
    refine ev_aload_n pm222 i222_146 rfl rfl rfl ?_
    obtain ⟨x72, e73, hS⟩ := bn_s hS
    refine ev_getR pm222 i222_147 rfl rfl rfl e73 rfl ?_
    refine ev_bipush (v := 25) pm222 i222_150 rfl (by decide) rfl ?_
    refine ev_iload_n pm222 i222_152 rfl rfl rfl ?_
    refine ev_b2 (f := fun x y => x + y) pm222 i222_153 rfl (fun _ _ _ _ => rfl) rfl ?_
    refine ev_aload_n pm222 i222_154 rfl rfl rfl ?_
    obtain ⟨x74, e75, hS⟩ := bn_s hS
    refine ev_getR pm222 i222_155 rfl rfl rfl e75 rfl ?_
    obtain ⟨x76, e77, hS⟩ := bn_s hS
    refine ev_getR pm222 i222_158 rfl rfl rfl e77 rfl ?_
    refine ev_iload_n pm222 i222_161 rfl rfl rfl ?_
    obtain ⟨x78, e79, hS⟩ := bn_s hS
    refine ev_iald pm222 i222_162 rfl e79 rfl ?_
    obtain ⟨h80, e81, hS⟩ := bn_s hS
    refine ev_iast pm222 i222_163 rfl e81 rfl ?_
    refine ev_iinc (v := 1) (ls' := [.ref l0, unk, .int (s + (1 : Int32))]) pm222 i222_164 rfl rfl (by decide) rfl rfl ?_
    refine ev_goto (t := 135) pm222 i222_167 rfl rfl ?_
    cases hS
    exact hK
  · rw [if_neg c547] at hS
    refine ev_icmp_ge_f (t := 170) pm222 i222_143 rfl c547 rfl rfl ?_
    refine ev_kls (ls' := [unk, unk, unk]) pm222 i222_170 rfl rfl ?_
    cases hS
    exact hK
def F_md_asTold (a0 : Nat) (a1 : Int32) (h : Hp) : Option Hp :=
  ck h a0 13 (bd (lp (B_md_asTold_2 a0 a1) FU (0 : Int32) h) fun x5 h7 =>
  bd (lp (B_md_asTold_23 a0 a1) FU (0 : Int32) h7) fun x18 h20 =>
  bd (lp (B_md_asTold_54 a0 a1) FU (0 : Int32) h20) fun x65 h67 =>
  bd (lp (B_md_asTold_135 a0) FU (0 : Int32) h67) fun x82 h84 =>
  some h84)
set_option maxRecDepth 20000 in
theorem K_md_asTold {a0 : Nat} {a1 : Int32} {h : Hp} {h' : Hp} (hS : F_md_asTold a0 a1 h = some h') : kd h a0 = 13 := by
  unfold F_md_asTold at hS
  exact (ck_s hS).1
set_option maxRecDepth 20000 in
theorem R_md_asTold (d : Nat) (hd : 1 ≤ d) {a0 : Nat} {a1 : Int32} {h : Hp} {h' : Hp} (hS : F_md_asTold a0 a1 h = some h') : Ev P d 222 (0, [.ref a0, .int a1, unk], [], h) (none, h') := by
  unfold F_md_asTold at hS
  replace hS := (ck_s hS).2
  refine ev_iconst (v := 0) pm222 i222_0 rfl (by decide) rfl ?_
  refine ev_istore_n (ls' := [.ref a0, .int a1, .int (0 : Int32)]) pm222 i222_1 rfl (Nat.le_of_ble_eq_true rfl) rfl rfl ?_
  obtain ⟨x5, h7, e6, hS⟩ := bd_s hS
  refine L_md_asTold_2 d (by omega) _ _ _ _ _ e6 _ ?_
  show Ev P d 222 (21, [.ref a0, .int a1, unk], [], h7) _
  refine ev_iconst (v := 0) pm222 i222_21 rfl (by decide) rfl ?_
  refine ev_istore_n (ls' := [.ref a0, .int a1, .int (0 : Int32)]) pm222 i222_22 rfl (Nat.le_of_ble_eq_true rfl) rfl rfl ?_
  obtain ⟨x18, h20, e19, hS⟩ := bd_s hS
  refine L_md_asTold_23 d (by omega) _ _ _ _ _ e19 _ ?_
  show Ev P d 222 (52, [.ref a0, .int a1, unk], [], h20) _
  refine ev_iconst (v := 0) pm222 i222_52 rfl (by decide) rfl ?_
  refine ev_istore_n (ls' := [.ref a0, .int a1, .int (0 : Int32)]) pm222 i222_53 rfl (Nat.le_of_ble_eq_true rfl) rfl rfl ?_
  obtain ⟨x65, h67, e66, hS⟩ := bd_s hS
  refine L_md_asTold_54 d (by omega) _ _ _ _ _ e66 _ ?_
  show Ev P d 222 (133, [.ref a0, unk, unk], [], h67) _
  refine ev_iconst (v := 0) pm222 i222_133 rfl (by decide) rfl ?_
  refine ev_istore_n (ls' := [.ref a0, unk, .int (0 : Int32)]) pm222 i222_134 rfl (Nat.le_of_ble_eq_true rfl) rfl rfl ?_
  obtain ⟨x82, h84, e83, hS⟩ := bd_s hS
  refine L_md_asTold_135 d (by omega) _ _ _ _ _ e83 _ ?_
  show Ev P d 222 (170, [unk, unk, unk], [], h84) _
  cases hS
  exact ev_return pm222 i222_170 rfl rfl rfl
def F_md_good (a0 : Nat) (a1 : Int32) (h : Hp) : Option (Int32 × Hp) :=
  ck h a0 13 (bn (pI h a0 13 1 (0 : Int32)) fun h1 =>
  bn (pI h1 a0 13 2 (-1 : Int32)) fun h3 =>
  some (a1, h3))
set_option maxRecDepth 20000 in
theorem K_md_good {a0 : Nat} {a1 : Int32} {h : Hp} {v : Int32} {h' : Hp} (hS : F_md_good a0 a1 h = some (v, h')) : kd h a0 = 13 := by
  unfold F_md_good at hS
  exact (ck_s hS).1
set_option maxRecDepth 20000 in
theorem R_md_good (d : Nat) (hd : 0 ≤ d) {a0 : Nat} {a1 : Int32} {h : Hp} {v : Int32} {h' : Hp} (hS : F_md_good a0 a1 h = some (v, h')) : Ev P d 224 (0, [.ref a0, .int a1], [], h) (some (.int v), h') := by
  unfold F_md_good at hS
  replace hS := (ck_s hS).2
  refine ev_aload_n pm224 i224_0 rfl rfl rfl ?_
  refine ev_iconst (v := 0) pm224 i224_1 rfl (by decide) rfl ?_
  obtain ⟨h1, e2, hS⟩ := bn_s hS
  refine ev_putI pm224 i224_2 rfl rfl rfl e2 rfl ?_
  refine ev_aload_n pm224 i224_5 rfl rfl rfl ?_
  refine ev_iconst (v := -1) pm224 i224_6 rfl (by decide) rfl ?_
  obtain ⟨h3, e4, hS⟩ := bn_s hS
  refine ev_putI pm224 i224_7 rfl rfl rfl e4 rfl ?_
  refine ev_iload_n pm224 i224_10 rfl rfl rfl ?_
  cases hS
  exact ev_ireturn pm224 i224_11 rfl rfl rfl
def B_md_lake_104 (l0 : Nat) (s : Int32) (h : Hp) : Option (((Int32) ⊕ (Unit)) × Hp) :=
  if s < (31 : Int32) then
    (bn (gR h l0 13 15) fun x40 =>
    bn (gR h l0 13 16) fun x42 =>
    bn (aI h 100 x42 s) fun x44 =>
    bn (sI h 100 x40 s x44) fun h46 =>
    some (.inl (s + (1 : Int32)), h46))
  else
    (some (.inr (), h))
set_option maxRecDepth 20000 in
theorem L_md_lake_104 (d : Nat) (hd : 12 ≤ d) {l0 : Nat} : ∀ (n : Nat) (s : Int32) (h : Hp) (x : Unit) (hx : Hp), lp (B_md_lake_104 l0) n s h = some (x, hx) → ∀ r, Ev P d 185 (128, [.ref l0, unk, unk], [], hx) r → Ev P d 185 (104, [.ref l0, unk, .int s], [], h) r := by
  refine lp_ev (G0 := fun (s : Int32) h r => Ev P d 185 (104, [.ref l0, unk, .int s], [], h) r) (X := fun (x : Unit) hx r => Ev P d 185 (128, [.ref l0, unk, unk], [], hx) r) ?_
  intro s h y h9 hS r hK
  unfold B_md_lake_104 at hS
  show Ev P d 185 (104, [.ref l0, unk, .int s], [], h) r
  refine ev_iload_n pm185 i185_104 rfl rfl rfl ?_
  refine ev_bipush (v := 31) pm185 i185_105 rfl (by decide) rfl ?_
  by_cases c548 : s < (31 : Int32)
  · rw [if_pos c548] at hS
    refine ev_icmp_ge_t (t := 128) pm185 i185_107 rfl c548 rfl rfl ?_
    refine ev_aload_n pm185 i185_110 rfl rfl rfl ?_
    obtain ⟨x40, e41, hS⟩ := bn_s hS
    refine ev_getR pm185 i185_111 rfl rfl rfl e41 rfl ?_
    refine ev_iload_n pm185 i185_114 rfl rfl rfl ?_
    refine ev_aload_n pm185 i185_115 rfl rfl rfl ?_
    obtain ⟨x42, e43, hS⟩ := bn_s hS
    refine ev_getR pm185 i185_116 rfl rfl rfl e43 rfl ?_
    refine ev_iload_n pm185 i185_119 rfl rfl rfl ?_
    obtain ⟨x44, e45, hS⟩ := bn_s hS
    refine ev_iald pm185 i185_120 rfl e45 rfl ?_
    obtain ⟨h46, e47, hS⟩ := bn_s hS
    refine ev_iast pm185 i185_121 rfl e47 rfl ?_
    refine ev_iinc (v := 1) (ls' := [.ref l0, unk, .int (s + (1 : Int32))]) pm185 i185_122 rfl rfl (by decide) rfl rfl ?_
    refine ev_goto (t := 104) pm185 i185_125 rfl rfl ?_
    cases hS
    exact hK
  · rw [if_neg c548] at hS
    refine ev_icmp_ge_f (t := 128) pm185 i185_107 rfl c548 rfl rfl ?_
    refine ev_kls (ls' := [.ref l0, unk, unk]) pm185 i185_128 rfl rfl ?_
    cases hS
    exact hK
def F_md_lake (a0 : Nat) (a1 : Int32) (h : Hp) : Option (Int32 × Hp) :=
  ck h a0 13 (bn (pI h a0 13 0 (0 : Int32)) fun h1 =>
  bn (if a1 < (0 : Int32) then
      (some (Sum.inl ()))
    else
      (bn (gI h1 a0 13 6) fun x3 =>
      if x3 < a1 then
        (some (Sum.inl ()))
      else
        (bn (pI h1 a0 13 7 a1) fun h5 =>
        bn (pI h5 a0 13 6 (0 : Int32)) fun h7 =>
        bn (pI h7 a0 13 8 (0 : Int32)) fun h9 =>
        bn (pI h9 a0 13 12 (0 : Int32)) fun h11 =>
        bd (nO h11 12) fun x13 h14 =>
        bn (F_la_init x13 h14) fun h17 =>
        bn (pR h17 a0 13 4 (some x13)) fun h18 =>
        bn (pI h18 a0 13 9 (0 : Int32)) fun h20 =>
        bn (F_md_goesOn a0 h20) fun h23 =>
        bn (F_md_readAll a0 h23) fun h25 =>
        bn (gI h25 a0 13 12) fun x26 =>
        if (0 : Int32) < x26 then
          (bn (pI h25 a0 13 1 (4 : Int32)) fun h28 =>
          bn (gI h28 a0 13 13) fun x30 =>
          bn (pI h28 a0 13 2 x30) fun h32 =>
          some (Sum.inr ((-1 : Int32), h32)))
        else
          (bn (gR h25 a0 13 4) fun x34 =>
          bn (pR h25 a0 13 3 (some x34)) fun h36 =>
          bn (F_md_asTold a0 (0 : Int32) h36) fun h39 =>
          bd (lp (B_md_lake_104 a0) FU (0 : Int32) h39) fun x48 h50 =>
          bn (pI h50 a0 13 19 (0 : Int32)) fun h51 =>
          bn (pI h51 a0 13 20 (0 : Int32)) fun h53 =>
          bn (gR h53 a0 13 3) fun x55 =>
          bn (gI h53 x55 12 1) fun x57 =>
          bd (F_md_good a0 x57 h53) fun x60 h61 =>
          some (Sum.inr (x60, h61)))))) fun x67 =>
  ei x67 (fun z63 =>
  bd (F_md_refused a0 (2 : Int32) h1) fun x65 h66 =>
  some (x65, h66))
  (fun z => some z))
set_option maxRecDepth 20000 in
theorem K_md_lake {a0 : Nat} {a1 : Int32} {h : Hp} {v : Int32} {h' : Hp} (hS : F_md_lake a0 a1 h = some (v, h')) : kd h a0 = 13 := by
  unfold F_md_lake at hS
  exact (ck_s hS).1
set_option maxRecDepth 20000 in
theorem R_md_lake (d : Nat) (hd : 12 ≤ d) {a0 : Nat} {a1 : Int32} {h : Hp} {v : Int32} {h' : Hp} (hS : F_md_lake a0 a1 h = some (v, h')) : Ev P d 185 (0, [.ref a0, .int a1, unk], [], h) (some (.int v), h') := by
  unfold F_md_lake at hS
  replace hS := (ck_s hS).2
  refine ev_aload_n pm185 i185_0 rfl rfl rfl ?_
  refine ev_iconst (v := 0) pm185 i185_1 rfl (by decide) rfl ?_
  obtain ⟨h1, e2, hS⟩ := bn_s hS
  refine ev_putI pm185 i185_2 rfl rfl rfl e2 rfl ?_
  refine ev_iload_n pm185 i185_5 rfl rfl rfl ?_
  obtain ⟨x67, I549, hS⟩ := bn_s hS
  have J1 : ∀ z63, x67 = Sum.inl z63 → Ev P d 185 (17, [.ref a0, unk, unk], [], h1) (some (.int v), h') := by
    intro z63 hx
    subst hx
    replace hS := ei_l hS
    refine ev_aload_n pm185 i185_17 rfl rfl rfl ?_
    refine ev_iconst (v := 2) pm185 i185_18 rfl (by decide) rfl ?_
    obtain ⟨x65, h66, e64, hS⟩ := bd_s hS
    refine ev_callV (sa := [.int (2 : Int32)]) (rest := []) (st' := [.int x65]) (ls0 := [.ref a0, .int (2 : Int32)]) (rv := some (.int x65)) pm185 i185_19 rfl rfl pm186 (by decide) (K_md_refused e64) rfl rfl (Nat.le_of_ble_eq_true rfl) (by omega) rfl (R_md_refused (d - 1) (by omega) e64) (by simp) rfl rfl ?_
    cases hS
    exact ev_ireturn pm185 i185_22 rfl rfl rfl
  have Z1 := ej_z hS
  clear hS
  by_cases c549 : a1 < (0 : Int32)
  · rw [if_pos c549] at I549
    refine ev_if_lt_t (t := 17) pm185 i185_6 rfl c549 rfl rfl ?_
    refine ev_kls (ls' := [.ref a0, unk, unk]) pm185 i185_17 rfl rfl ?_
    cases I549
    exact J1 _ rfl
  · rw [if_neg c549] at I549
    refine ev_if_lt_f (t := 17) pm185 i185_6 rfl c549 rfl rfl ?_
    refine ev_iload_n pm185 i185_9 rfl rfl rfl ?_
    refine ev_aload_n pm185 i185_10 rfl rfl rfl ?_
    obtain ⟨x3, e4, I549⟩ := bn_s I549
    refine ev_getI pm185 i185_11 rfl rfl (by decide) e4 rfl ?_
    by_cases c550 : x3 < a1
    · rw [if_pos c550] at I549
      refine ev_icmp_le_t (t := 23) pm185 i185_14 rfl c550 rfl rfl ?_
      refine ev_kls (ls' := [.ref a0, unk, unk]) pm185 i185_17 rfl rfl ?_
      cases I549
      exact J1 _ rfl
    · rw [if_neg c550] at I549
      refine ev_icmp_le_f (t := 23) pm185 i185_14 rfl c550 rfl rfl ?_
      refine ev_aload_n pm185 i185_23 rfl rfl rfl ?_
      refine ev_iload_n pm185 i185_24 rfl rfl rfl ?_
      obtain ⟨h5, e6, I549⟩ := bn_s I549
      refine ev_putI pm185 i185_25 rfl rfl rfl e6 rfl ?_
      refine ev_aload_n pm185 i185_28 rfl rfl rfl ?_
      refine ev_iconst (v := 0) pm185 i185_29 rfl (by decide) rfl ?_
      obtain ⟨h7, e8, I549⟩ := bn_s I549
      refine ev_putI pm185 i185_30 rfl rfl rfl e8 rfl ?_
      refine ev_aload_n pm185 i185_33 rfl rfl rfl ?_
      refine ev_iconst (v := 0) pm185 i185_34 rfl (by decide) rfl ?_
      obtain ⟨h9, e10, I549⟩ := bn_s I549
      refine ev_putI pm185 i185_35 rfl rfl rfl e10 rfl ?_
      refine ev_aload_n pm185 i185_38 rfl rfl rfl ?_
      refine ev_iconst (v := 0) pm185 i185_39 rfl (by decide) rfl ?_
      obtain ⟨h11, e12, I549⟩ := bn_s I549
      refine ev_putI pm185 i185_40 rfl rfl rfl e12 rfl ?_
      refine ev_aload_n pm185 i185_43 rfl rfl rfl ?_
      obtain ⟨x13, h14, e15, I549⟩ := bd_s I549
      refine ev_new pm185 i185_44 rfl rfl (by decide) e15 rfl ?_
      refine ev_dup pm185 i185_47 rfl rfl rfl ?_
      obtain ⟨h17, e16, I549⟩ := bn_s I549
      refine ev_callI (sa := []) (rest := [.ref x13, .ref a0]) (st' := [.ref x13, .ref a0]) (ls0 := [.ref x13]) (rv := none) pm185 i185_48 rfl rfl (by decide) pm187 (by decide) rfl rfl (Nat.le_of_ble_eq_true rfl) (by omega) rfl (R_la_init (d - 1) (by omega) e16) (by simp) rfl rfl ?_
      obtain ⟨h18, e19, I549⟩ := bn_s I549
      refine ev_putR pm185 i185_51 rfl rfl rfl e19 rfl ?_
      refine ev_aload_n pm185 i185_54 rfl rfl rfl ?_
      refine ev_iconst (v := 0) pm185 i185_55 rfl (by decide) rfl ?_
      obtain ⟨h20, e21, I549⟩ := bn_s I549
      refine ev_putI pm185 i185_56 rfl rfl rfl e21 rfl ?_
      refine ev_aload_n pm185 i185_59 rfl rfl rfl ?_
      obtain ⟨h23, e22, I549⟩ := bn_s I549
      refine ev_callV (sa := []) (rest := []) (st' := []) (ls0 := [.ref a0, unk, unk]) (rv := none) pm185 i185_60 rfl rfl pm188 (by decide) (K_md_goesOn e22) rfl rfl (Nat.le_of_ble_eq_true rfl) (by omega) rfl (R_md_goesOn (d - 1) (by omega) e22) (by simp) rfl rfl ?_
      refine ev_aload_n pm185 i185_63 rfl rfl rfl ?_
      obtain ⟨h25, e24, I549⟩ := bn_s I549
      refine ev_callV (sa := []) (rest := []) (st' := []) (ls0 := [.ref a0, unk]) (rv := none) pm185 i185_64 rfl rfl pm192 (by decide) (K_md_readAll e24) rfl rfl (Nat.le_of_ble_eq_true rfl) (by omega) rfl (R_md_readAll (d - 1) (by omega) e24) (by simp) rfl rfl ?_
      refine ev_aload_n pm185 i185_67 rfl rfl rfl ?_
      obtain ⟨x26, e27, I549⟩ := bn_s I549
      refine ev_getI pm185 i185_68 rfl rfl (by decide) e27 rfl ?_
      by_cases c551 : (0 : Int32) < x26
      · rw [if_pos c551] at I549
        refine ev_if_le_t (t := 89) pm185 i185_71 rfl c551 rfl rfl ?_
        refine ev_aload_n pm185 i185_74 rfl rfl rfl ?_
        refine ev_iconst (v := 4) pm185 i185_75 rfl (by decide) rfl ?_
        obtain ⟨h28, e29, I549⟩ := bn_s I549
        refine ev_putI pm185 i185_76 rfl rfl rfl e29 rfl ?_
        refine ev_aload_n pm185 i185_79 rfl rfl rfl ?_
        refine ev_aload_n pm185 i185_80 rfl rfl rfl ?_
        obtain ⟨x30, e31, I549⟩ := bn_s I549
        refine ev_getI pm185 i185_81 rfl rfl (by decide) e31 rfl ?_
        obtain ⟨h32, e33, I549⟩ := bn_s I549
        refine ev_putI pm185 i185_84 rfl rfl rfl e33 rfl ?_
        refine ev_iconst (v := -1) pm185 i185_87 rfl (by decide) rfl ?_
        cases I549
        have hz1 := Z1 _ rfl
        cases hz1
        exact ev_ireturn pm185 i185_88 rfl rfl rfl
      · rw [if_neg c551] at I549
        refine ev_if_le_f (t := 89) pm185 i185_71 rfl c551 rfl rfl ?_
        refine ev_aload_n pm185 i185_89 rfl rfl rfl ?_
        refine ev_aload_n pm185 i185_90 rfl rfl rfl ?_
        obtain ⟨x34, e35, I549⟩ := bn_s I549
        refine ev_getR pm185 i185_91 rfl rfl rfl e35 rfl ?_
        obtain ⟨h36, e37, I549⟩ := bn_s I549
        refine ev_putR pm185 i185_94 rfl rfl rfl e37 rfl ?_
        refine ev_aload_n pm185 i185_97 rfl rfl rfl ?_
        refine ev_iconst (v := 0) pm185 i185_98 rfl (by decide) rfl ?_
        obtain ⟨h39, e38, I549⟩ := bn_s I549
        refine ev_callV (sa := [.int (0 : Int32)]) (rest := []) (st' := []) (ls0 := [.ref a0, .int (0 : Int32), unk]) (rv := none) pm185 i185_99 rfl rfl pm222 (by decide) (K_md_asTold e38) rfl rfl (Nat.le_of_ble_eq_true rfl) (by omega) rfl (R_md_asTold (d - 1) (by omega) e38) (by simp) rfl rfl ?_
        refine ev_iconst (v := 0) pm185 i185_102 rfl (by decide) rfl ?_
        refine ev_istore_n (ls' := [.ref a0, .int a1, .int (0 : Int32)]) pm185 i185_103 rfl (Nat.le_of_ble_eq_true rfl) rfl rfl ?_
        refine ev_kls (ls' := [.ref a0, unk, .int (0 : Int32)]) pm185 i185_104 rfl rfl ?_
        obtain ⟨x48, h50, e49, I549⟩ := bd_s I549
        refine L_md_lake_104 d (by omega) _ _ _ _ _ e49 _ ?_
        show Ev P d 185 (128, [.ref a0, unk, unk], [], h50) _
        refine ev_aload_n pm185 i185_128 rfl rfl rfl ?_
        refine ev_iconst (v := 0) pm185 i185_129 rfl (by decide) rfl ?_
        obtain ⟨h51, e52, I549⟩ := bn_s I549
        refine ev_putI pm185 i185_130 rfl rfl rfl e52 rfl ?_
        refine ev_aload_n pm185 i185_133 rfl rfl rfl ?_
        refine ev_iconst (v := 0) pm185 i185_134 rfl (by decide) rfl ?_
        obtain ⟨h53, e54, I549⟩ := bn_s I549
        refine ev_putI pm185 i185_135 rfl rfl rfl e54 rfl ?_
        refine ev_aload_n pm185 i185_138 rfl rfl rfl ?_
        refine ev_aload_n pm185 i185_139 rfl rfl rfl ?_
        obtain ⟨x55, e56, I549⟩ := bn_s I549
        refine ev_getR pm185 i185_140 rfl rfl rfl e56 rfl ?_
        obtain ⟨x57, e58, I549⟩ := bn_s I549
        refine ev_getI pm185 i185_143 rfl rfl (by decide) e58 rfl ?_
        obtain ⟨x60, h61, e59, I549⟩ := bd_s I549
        refine ev_callV (sa := [.int x57]) (rest := []) (st' := [.int x60]) (ls0 := [.ref a0, .int x57]) (rv := some (.int x60)) pm185 i185_146 rfl rfl pm224 (by decide) (K_md_good e59) rfl rfl (Nat.le_of_ble_eq_true rfl) (by omega) rfl (R_md_good (d - 1) (by omega) e59) (by simp) rfl rfl ?_
        cases I549
        have hz1 := Z1 _ rfl
        cases hz1
        exact ev_ireturn pm185 i185_149 rfl rfl rfl
def F_md_fault (a0 : Nat) (h : Hp) : Option (Int32 × Hp) :=
  ck h a0 13 (bn (pI h a0 13 0 (0 : Int32)) fun h1 =>
  bn (gI h1 a0 13 12) fun x3 =>
  some (x3, h1))
set_option maxRecDepth 20000 in
theorem K_md_fault {a0 : Nat} {h : Hp} {v : Int32} {h' : Hp} (hS : F_md_fault a0 h = some (v, h')) : kd h a0 = 13 := by
  unfold F_md_fault at hS
  exact (ck_s hS).1
set_option maxRecDepth 20000 in
theorem R_md_fault (d : Nat) (hd : 0 ≤ d) {a0 : Nat} {h : Hp} {v : Int32} {h' : Hp} (hS : F_md_fault a0 h = some (v, h')) : Ev P d 225 (0, [.ref a0], [], h) (some (.int v), h') := by
  unfold F_md_fault at hS
  replace hS := (ck_s hS).2
  refine ev_aload_n pm225 i225_0 rfl rfl rfl ?_
  refine ev_iconst (v := 0) pm225 i225_1 rfl (by decide) rfl ?_
  obtain ⟨h1, e2, hS⟩ := bn_s hS
  refine ev_putI pm225 i225_2 rfl rfl rfl e2 rfl ?_
  refine ev_aload_n pm225 i225_5 rfl rfl rfl ?_
  obtain ⟨x3, e4, hS⟩ := bn_s hS
  refine ev_getI pm225 i225_6 rfl rfl (by decide) e4 rfl ?_
  cases hS
  exact ev_ireturn pm225 i225_9 rfl rfl rfl
def F_md_where (a0 : Nat) (h : Hp) : Option (Int32 × Hp) :=
  ck h a0 13 (bn (pI h a0 13 0 (0 : Int32)) fun h1 =>
  bn (gI h1 a0 13 2) fun x3 =>
  some (x3, h1))
set_option maxRecDepth 20000 in
theorem K_md_where {a0 : Nat} {h : Hp} {v : Int32} {h' : Hp} (hS : F_md_where a0 h = some (v, h')) : kd h a0 = 13 := by
  unfold F_md_where at hS
  exact (ck_s hS).1
set_option maxRecDepth 20000 in
theorem R_md_where (d : Nat) (hd : 0 ≤ d) {a0 : Nat} {h : Hp} {v : Int32} {h' : Hp} (hS : F_md_where a0 h = some (v, h')) : Ev P d 226 (0, [.ref a0], [], h) (some (.int v), h') := by
  unfold F_md_where at hS
  replace hS := (ck_s hS).2
  refine ev_aload_n pm226 i226_0 rfl rfl rfl ?_
  refine ev_iconst (v := 0) pm226 i226_1 rfl (by decide) rfl ?_
  obtain ⟨h1, e2, hS⟩ := bn_s hS
  refine ev_putI pm226 i226_2 rfl rfl rfl e2 rfl ?_
  refine ev_aload_n pm226 i226_5 rfl rfl rfl ?_
  obtain ⟨x3, e4, hS⟩ := bn_s hS
  refine ev_getI pm226 i226_6 rfl rfl (by decide) e4 rfl ?_
  cases hS
  exact ev_ireturn pm226 i226_9 rfl rfl rfl
def F_md_isHouse (a0 : Nat) (a1 : Int32) (h : Hp) : Option Int32 :=
  ck h a0 13 (bn (gQ h a0 13 3) fun x1 =>
  if x1 = none then
    (some (0 : Int32))
  else
    (if a1 < (0 : Int32) then
      (some (0 : Int32))
    else
      (bn (gR h a0 13 3) fun x3 =>
      bn (gI h x3 12 1) fun x5 =>
      if a1 < x5 then
        (some (1 : Int32))
      else
        (some (0 : Int32)))))
set_option maxRecDepth 20000 in
theorem K_md_isHouse {a0 : Nat} {a1 : Int32} {h : Hp} {v : Int32} (hS : F_md_isHouse a0 a1 h = some v) : kd h a0 = 13 := by
  unfold F_md_isHouse at hS
  exact (ck_s hS).1
set_option maxRecDepth 20000 in
theorem R_md_isHouse (d : Nat) (hd : 0 ≤ d) {a0 : Nat} {a1 : Int32} {h : Hp} {v : Int32} (hS : F_md_isHouse a0 a1 h = some v) : Ev P d 228 (0, [.ref a0, .int a1], [], h) (some (.int v), h) := by
  unfold F_md_isHouse at hS
  replace hS := (ck_s hS).2
  refine ev_aload_n pm228 i228_0 rfl rfl rfl ?_
  obtain ⟨x1, e2, hS⟩ := bn_s hS
  refine ev_getQ pm228 i228_1 rfl rfl rfl e2 rfl ?_
  by_cases c552 : x1 = none
  · rw [if_pos c552] at hS
    subst c552
    refine ev_nullT (t := 26) pm228 i228_4 rfl rfl ?_
    refine ev_kls (ls' := [unk, unk]) pm228 i228_26 rfl rfl ?_
    refine ev_iconst (v := 0) pm228 i228_26 rfl (by decide) rfl ?_
    cases hS
    exact ev_ireturn pm228 i228_27 rfl (by decide) rfl
  · rw [if_neg c552] at hS
    obtain ⟨_, rfl⟩ := Option.ne_none_iff_exists'.mp c552
    refine ev_nullF pm228 i228_4 rfl rfl ?_
    refine ev_iload_n pm228 i228_7 rfl rfl rfl ?_
    by_cases c553 : a1 < (0 : Int32)
    · rw [if_pos c553] at hS
      refine ev_if_lt_t (t := 26) pm228 i228_8 rfl c553 rfl rfl ?_
      refine ev_kls (ls' := [unk, unk]) pm228 i228_26 rfl rfl ?_
      refine ev_iconst (v := 0) pm228 i228_26 rfl (by decide) rfl ?_
      cases hS
      exact ev_ireturn pm228 i228_27 rfl (by decide) rfl
    · rw [if_neg c553] at hS
      refine ev_if_lt_f (t := 26) pm228 i228_8 rfl c553 rfl rfl ?_
      refine ev_iload_n pm228 i228_11 rfl rfl rfl ?_
      refine ev_aload_n pm228 i228_12 rfl rfl rfl ?_
      obtain ⟨x3, e4, hS⟩ := bn_s hS
      refine ev_getR pm228 i228_13 rfl rfl rfl e4 rfl ?_
      obtain ⟨x5, e6, hS⟩ := bn_s hS
      refine ev_getI pm228 i228_16 rfl rfl (by decide) e6 rfl ?_
      by_cases c554 : a1 < x5
      · rw [if_pos c554] at hS
        refine ev_icmp_ge_t (t := 26) pm228 i228_19 rfl c554 rfl rfl ?_
        refine ev_iconst (v := 1) pm228 i228_22 rfl (by decide) rfl ?_
        refine ev_goto (t := 27) pm228 i228_23 rfl rfl ?_
        refine ev_kls (ls' := [unk, unk]) pm228 i228_27 rfl rfl ?_
        cases hS
        exact ev_ireturn pm228 i228_27 rfl (by decide) rfl
      · rw [if_neg c554] at hS
        refine ev_icmp_ge_f (t := 26) pm228 i228_19 rfl c554 rfl rfl ?_
        refine ev_kls (ls' := [unk, unk]) pm228 i228_26 rfl rfl ?_
        refine ev_iconst (v := 0) pm228 i228_26 rfl (by decide) rfl ?_
        cases hS
        exact ev_ireturn pm228 i228_27 rfl (by decide) rfl
def B_md_works_2 (l0 : Nat) (s : Int32) (h : Hp) : Option (((Int32) ⊕ (Unit)) × Hp) :=
  if s < (31 : Int32) then
    (bn (gR h l0 13 16) fun x1 =>
    bn (gR h l0 13 15) fun x3 =>
    bn (aI h 100 x3 s) fun x5 =>
    bn (sI h 100 x1 s x5) fun h7 =>
    some (.inl (s + (1 : Int32)), h7))
  else
    (some (.inr (), h))
set_option maxRecDepth 20000 in
theorem L_md_works_2 (d : Nat) (hd : 0 ≤ d) {l0 : Nat} : ∀ (n : Nat) (s : Int32) (h : Hp) (x : Unit) (hx : Hp), lp (B_md_works_2 l0) n s h = some (x, hx) → ∀ r, Ev P d 229 (26, [unk, unk], [], hx) r → Ev P d 229 (2, [.ref l0, .int s], [], h) r := by
  refine lp_ev (G0 := fun (s : Int32) h r => Ev P d 229 (2, [.ref l0, .int s], [], h) r) (X := fun (x : Unit) hx r => Ev P d 229 (26, [unk, unk], [], hx) r) ?_
  intro s h y h9 hS r hK
  unfold B_md_works_2 at hS
  show Ev P d 229 (2, [.ref l0, .int s], [], h) r
  refine ev_iload_n pm229 i229_2 rfl rfl rfl ?_
  refine ev_bipush (v := 31) pm229 i229_3 rfl (by decide) rfl ?_
  by_cases c555 : s < (31 : Int32)
  · rw [if_pos c555] at hS
    refine ev_icmp_ge_t (t := 26) pm229 i229_5 rfl c555 rfl rfl ?_
    refine ev_aload_n pm229 i229_8 rfl rfl rfl ?_
    obtain ⟨x1, e2, hS⟩ := bn_s hS
    refine ev_getR pm229 i229_9 rfl rfl rfl e2 rfl ?_
    refine ev_iload_n pm229 i229_12 rfl rfl rfl ?_
    refine ev_aload_n pm229 i229_13 rfl rfl rfl ?_
    obtain ⟨x3, e4, hS⟩ := bn_s hS
    refine ev_getR pm229 i229_14 rfl rfl rfl e4 rfl ?_
    refine ev_iload_n pm229 i229_17 rfl rfl rfl ?_
    obtain ⟨x5, e6, hS⟩ := bn_s hS
    refine ev_iald pm229 i229_18 rfl e6 rfl ?_
    obtain ⟨h7, e8, hS⟩ := bn_s hS
    refine ev_iast pm229 i229_19 rfl e8 rfl ?_
    refine ev_iinc (v := 1) (ls' := [.ref l0, .int (s + (1 : Int32))]) pm229 i229_20 rfl rfl (by decide) rfl rfl ?_
    refine ev_goto (t := 2) pm229 i229_23 rfl rfl ?_
    cases hS
    exact hK
  · rw [if_neg c555] at hS
    refine ev_icmp_ge_f (t := 26) pm229 i229_5 rfl c555 rfl rfl ?_
    refine ev_kls (ls' := [unk, unk]) pm229 i229_26 rfl rfl ?_
    cases hS
    exact hK
def F_md_works (a0 : Nat) (h : Hp) : Option Hp :=
  ck h a0 13 (bd (lp (B_md_works_2 a0) FU (0 : Int32) h) fun x9 h11 =>
  some h11)
set_option maxRecDepth 20000 in
theorem K_md_works {a0 : Nat} {h : Hp} {h' : Hp} (hS : F_md_works a0 h = some h') : kd h a0 = 13 := by
  unfold F_md_works at hS
  exact (ck_s hS).1
set_option maxRecDepth 20000 in
theorem R_md_works (d : Nat) (hd : 0 ≤ d) {a0 : Nat} {h : Hp} {h' : Hp} (hS : F_md_works a0 h = some h') : Ev P d 229 (0, [.ref a0, unk], [], h) (none, h') := by
  unfold F_md_works at hS
  replace hS := (ck_s hS).2
  refine ev_iconst (v := 0) pm229 i229_0 rfl (by decide) rfl ?_
  refine ev_istore_n (ls' := [.ref a0, .int (0 : Int32)]) pm229 i229_1 rfl (Nat.le_of_ble_eq_true rfl) rfl rfl ?_
  obtain ⟨x9, h11, e10, hS⟩ := bd_s hS
  refine L_md_works_2 d (by omega) _ _ _ _ _ e10 _ ?_
  show Ev P d 229 (26, [unk, unk], [], h11) _
  cases hS
  exact ev_return pm229 i229_26 rfl rfl rfl
def B_md_weightOf_12 (l0 : Nat) (l1 : Int32) (h : Hp) (s : Int32 × Int32) : Option ((Int32 × Int32) ⊕ (Int32)) :=
  bn (gR h l0 13 3) fun x7 =>
  bn (gI h x7 12 3) fun x9 =>
  if s.2 < x9 then
    (bn (gR h l0 13 16) fun x11 =>
    bn (aI h 100 x11 ((25 : Int32) + s.2)) fun x13 =>
    if x13 = l1 then
      (bn (gR h l0 13 3) fun x15 =>
      bn (gR h x15 12 15) fun x17 =>
      bn (aI h 100 x17 s.2) fun x19 =>
      some (.inl (s.1 + x19, s.2 + (1 : Int32))))
    else
      (some (.inl (s.1 + (0 : Int32), s.2 + (1 : Int32)))))
  else
    (some (.inr s.1))
set_option maxRecDepth 20000 in
theorem L_md_weightOf_12 (d : Nat) (hd : 0 ≤ d) {l0 : Nat} {l1 : Int32} {h : Hp} : ∀ (n : Nat) (s : Int32 × Int32) (x : Int32), lq (B_md_weightOf_12 l0 l1 h) n s = some x → ∀ r, Ev P d 230 (58, [unk, unk, .int x, unk], [], h) r → Ev P d 230 (12, [.ref l0, .int l1, .int s.1, .int s.2], [], h) r := by
  refine lq_ev (G0 := fun (s : Int32 × Int32) r => Ev P d 230 (12, [.ref l0, .int l1, .int s.1, .int s.2], [], h) r) (X := fun (x : Int32) r => Ev P d 230 (58, [unk, unk, .int x, unk], [], h) r) ?_
  intro s y hS r hK
  unfold B_md_weightOf_12 at hS
  show Ev P d 230 (12, [.ref l0, .int l1, .int s.1, .int s.2], [], h) r
  refine ev_iload_n pm230 i230_12 rfl rfl rfl ?_
  refine ev_aload_n pm230 i230_13 rfl rfl rfl ?_
  obtain ⟨x7, e8, hS⟩ := bn_s hS
  refine ev_getR pm230 i230_14 rfl rfl rfl e8 rfl ?_
  obtain ⟨x9, e10, hS⟩ := bn_s hS
  refine ev_getI pm230 i230_17 rfl rfl (by decide) e10 rfl ?_
  by_cases c556 : s.2 < x9
  · rw [if_pos c556] at hS
    refine ev_icmp_ge_t (t := 58) pm230 i230_20 rfl c556 rfl rfl ?_
    refine ev_iload_n pm230 i230_23 rfl rfl rfl ?_
    refine ev_aload_n pm230 i230_24 rfl rfl rfl ?_
    obtain ⟨x11, e12, hS⟩ := bn_s hS
    refine ev_getR pm230 i230_25 rfl rfl rfl e12 rfl ?_
    refine ev_bipush (v := 25) pm230 i230_28 rfl (by decide) rfl ?_
    refine ev_iload_n pm230 i230_30 rfl rfl rfl ?_
    refine ev_b2 (f := fun x y => x + y) pm230 i230_31 rfl (fun _ _ _ _ => rfl) rfl ?_
    obtain ⟨x13, e14, hS⟩ := bn_s hS
    refine ev_iald pm230 i230_32 rfl e14 rfl ?_
    refine ev_iload_n pm230 i230_33 rfl rfl rfl ?_
    by_cases c557 : x13 = l1
    · rw [if_pos c557] at hS
      refine ev_icmp_ne_t (t := 49) pm230 i230_34 rfl c557 rfl rfl ?_
      refine ev_aload_n pm230 i230_37 rfl rfl rfl ?_
      obtain ⟨x15, e16, hS⟩ := bn_s hS
      refine ev_getR pm230 i230_38 rfl rfl rfl e16 rfl ?_
      obtain ⟨x17, e18, hS⟩ := bn_s hS
      refine ev_getR pm230 i230_41 rfl rfl rfl e18 rfl ?_
      refine ev_iload_n pm230 i230_44 rfl rfl rfl ?_
      obtain ⟨x19, e20, hS⟩ := bn_s hS
      refine ev_iald pm230 i230_45 rfl e20 rfl ?_
      refine ev_goto (t := 50) pm230 i230_46 rfl rfl ?_
      refine ev_kls (ls' := [.ref l0, .int l1, unk, .int s.2]) pm230 i230_50 rfl rfl ?_
      refine ev_b2 (f := fun x y => x + y) pm230 i230_50 rfl (fun _ _ _ _ => rfl) rfl ?_
      refine ev_istore_n (ls' := [.ref l0, .int l1, .int (s.1 + x19), .int s.2]) pm230 i230_51 rfl (Nat.le_of_ble_eq_true rfl) rfl rfl ?_
      refine ev_iinc (v := 1) (ls' := [.ref l0, .int l1, .int (s.1 + x19), .int (s.2 + (1 : Int32))]) pm230 i230_52 rfl rfl (by decide) rfl rfl ?_
      refine ev_goto (t := 12) pm230 i230_55 rfl rfl ?_
      cases hS
      exact hK
    · rw [if_neg c557] at hS
      refine ev_icmp_ne_f (t := 49) pm230 i230_34 rfl c557 rfl rfl ?_
      refine ev_iconst (v := 0) pm230 i230_49 rfl (by decide) rfl ?_
      refine ev_kls (ls' := [.ref l0, .int l1, unk, .int s.2]) pm230 i230_50 rfl rfl ?_
      refine ev_b2 (f := fun x y => x + y) pm230 i230_50 rfl (fun _ _ _ _ => rfl) rfl ?_
      refine ev_istore_n (ls' := [.ref l0, .int l1, .int (s.1 + (0 : Int32)), .int s.2]) pm230 i230_51 rfl (Nat.le_of_ble_eq_true rfl) rfl rfl ?_
      refine ev_iinc (v := 1) (ls' := [.ref l0, .int l1, .int (s.1 + (0 : Int32)), .int (s.2 + (1 : Int32))]) pm230 i230_52 rfl rfl (by decide) rfl rfl ?_
      refine ev_goto (t := 12) pm230 i230_55 rfl rfl ?_
      cases hS
      exact hK
  · rw [if_neg c556] at hS
    refine ev_icmp_ge_f (t := 58) pm230 i230_20 rfl c556 rfl rfl ?_
    refine ev_kls (ls' := [unk, unk, .int s.1, unk]) pm230 i230_58 rfl rfl ?_
    cases hS
    exact hK
def F_md_weightOf (a0 : Nat) (a1 : Int32) (h : Hp) : Option Int32 :=
  ck h a0 13 (bn (gR h a0 13 3) fun x1 =>
  bn (gR h x1 12 10) fun x3 =>
  bn (aI h 100 x3 a1) fun x5 =>
  bn (lq (B_md_weightOf_12 a0 a1 h) FU (x5, (0 : Int32))) fun x21 =>
  some x21)
set_option maxRecDepth 20000 in
theorem K_md_weightOf {a0 : Nat} {a1 : Int32} {h : Hp} {v : Int32} (hS : F_md_weightOf a0 a1 h = some v) : kd h a0 = 13 := by
  unfold F_md_weightOf at hS
  exact (ck_s hS).1
set_option maxRecDepth 20000 in
theorem R_md_weightOf (d : Nat) (hd : 0 ≤ d) {a0 : Nat} {a1 : Int32} {h : Hp} {v : Int32} (hS : F_md_weightOf a0 a1 h = some v) : Ev P d 230 (0, [.ref a0, .int a1, unk, unk], [], h) (some (.int v), h) := by
  unfold F_md_weightOf at hS
  replace hS := (ck_s hS).2
  refine ev_aload_n pm230 i230_0 rfl rfl rfl ?_
  obtain ⟨x1, e2, hS⟩ := bn_s hS
  refine ev_getR pm230 i230_1 rfl rfl rfl e2 rfl ?_
  obtain ⟨x3, e4, hS⟩ := bn_s hS
  refine ev_getR pm230 i230_4 rfl rfl rfl e4 rfl ?_
  refine ev_iload_n pm230 i230_7 rfl rfl rfl ?_
  obtain ⟨x5, e6, hS⟩ := bn_s hS
  refine ev_iald pm230 i230_8 rfl e6 rfl ?_
  refine ev_istore_n (ls' := [.ref a0, .int a1, .int x5, unk]) pm230 i230_9 rfl (Nat.le_of_ble_eq_true rfl) rfl rfl ?_
  refine ev_iconst (v := 0) pm230 i230_10 rfl (by decide) rfl ?_
  refine ev_istore_n (ls' := [.ref a0, .int a1, .int x5, .int (0 : Int32)]) pm230 i230_11 rfl (Nat.le_of_ble_eq_true rfl) rfl rfl ?_
  obtain ⟨x21, e22, hS⟩ := bn_s hS
  refine L_md_weightOf_12 d (by omega) _ _ _ e22 _ ?_
  show Ev P d 230 (58, [unk, unk, .int x21, unk], [], h) _
  refine ev_iload_n pm230 i230_58 rfl rfl rfl ?_
  cases hS
  exact ev_ireturn pm230 i230_59 rfl rfl rfl
def F_md_lifts (a0 : Int32) : Option Int32 :=
  if a0 = (0 : Int32) then
    (some (3 : Int32))
  else
    (if a0 = (2 : Int32) then
      (some (1 : Int32))
    else
      (if a0 = (4 : Int32) then
        (some (4 : Int32))
      else
        (some (2 : Int32))))
set_option maxRecDepth 20000 in
theorem R_md_lifts (d : Nat) (hd : 0 ≤ d) {a0 : Int32} {h : Hp} {v : Int32} (hS : F_md_lifts a0 = some v) : Ev P d 232 (0, [.int a0], [], h) (some (.int v), h) := by
  unfold F_md_lifts at hS
  refine ev_iload_n pm232 i232_0 rfl rfl rfl ?_
  by_cases c558 : a0 = (0 : Int32)
  · rw [if_pos c558] at hS
    refine ev_if_ne_t (t := 8) pm232 i232_1 rfl c558 rfl rfl ?_
    refine ev_iconst (v := 3) pm232 i232_4 rfl (by decide) rfl ?_
    refine ev_goto (t := 27) pm232 i232_5 rfl rfl ?_
    refine ev_kls (ls' := [unk]) pm232 i232_27 rfl rfl ?_
    cases hS
    exact ev_ireturn pm232 i232_27 rfl rfl rfl
  · rw [if_neg c558] at hS
    refine ev_if_ne_f (t := 8) pm232 i232_1 rfl c558 rfl rfl ?_
    refine ev_iload_n pm232 i232_8 rfl rfl rfl ?_
    refine ev_iconst (v := 2) pm232 i232_9 rfl (by decide) rfl ?_
    by_cases c559 : a0 = (2 : Int32)
    · rw [if_pos c559] at hS
      refine ev_icmp_ne_t (t := 17) pm232 i232_10 rfl c559 rfl rfl ?_
      refine ev_iconst (v := 1) pm232 i232_13 rfl (by decide) rfl ?_
      refine ev_goto (t := 27) pm232 i232_14 rfl rfl ?_
      refine ev_kls (ls' := [unk]) pm232 i232_27 rfl rfl ?_
      cases hS
      exact ev_ireturn pm232 i232_27 rfl rfl rfl
    · rw [if_neg c559] at hS
      refine ev_icmp_ne_f (t := 17) pm232 i232_10 rfl c559 rfl rfl ?_
      refine ev_iload_n pm232 i232_17 rfl rfl rfl ?_
      refine ev_iconst (v := 4) pm232 i232_18 rfl (by decide) rfl ?_
      by_cases c560 : a0 = (4 : Int32)
      · rw [if_pos c560] at hS
        refine ev_icmp_ne_t (t := 26) pm232 i232_19 rfl c560 rfl rfl ?_
        refine ev_iconst (v := 4) pm232 i232_22 rfl (by decide) rfl ?_
        refine ev_goto (t := 27) pm232 i232_23 rfl rfl ?_
        refine ev_kls (ls' := [unk]) pm232 i232_27 rfl rfl ?_
        cases hS
        exact ev_ireturn pm232 i232_27 rfl rfl rfl
      · rw [if_neg c560] at hS
        refine ev_icmp_ne_f (t := 26) pm232 i232_19 rfl c560 rfl rfl ?_
        refine ev_iconst (v := 2) pm232 i232_26 rfl (by decide) rfl ?_
        refine ev_kls (ls' := [unk]) pm232 i232_27 rfl rfl ?_
        cases hS
        exact ev_ireturn pm232 i232_27 rfl rfl rfl
def B_md_liftOf_4 (l0 : Nat) (l1 : Int32) (h : Hp) (s : Int32 × Int32) : Option ((Int32 × Int32) ⊕ (Int32)) :=
  if s.2 < (5 : Int32) then
    (bn (F_md_lifts s.2) fun x2 =>
    bn (gR h l0 13 16) fun x3 =>
    bn (F_md_cell l1 s.2) fun x6 =>
    bn (aI h 100 x3 x6) fun x7 =>
    some (.inl (s.1 + (x2 * x7), s.2 + (1 : Int32))))
  else
    (some (.inr s.1))
set_option maxRecDepth 20000 in
theorem L_md_liftOf_4 (d : Nat) (hd : 1 ≤ d) {l0 : Nat} {l1 : Int32} {h : Hp} : ∀ (n : Nat) (s : Int32 × Int32) (x : Int32), lq (B_md_liftOf_4 l0 l1 h) n s = some x → ∀ r, Ev P d 231 (33, [unk, unk, .int x, unk], [], h) r → Ev P d 231 (4, [.ref l0, .int l1, .int s.1, .int s.2], [], h) r := by
  refine lq_ev (G0 := fun (s : Int32 × Int32) r => Ev P d 231 (4, [.ref l0, .int l1, .int s.1, .int s.2], [], h) r) (X := fun (x : Int32) r => Ev P d 231 (33, [unk, unk, .int x, unk], [], h) r) ?_
  intro s y hS r hK
  unfold B_md_liftOf_4 at hS
  show Ev P d 231 (4, [.ref l0, .int l1, .int s.1, .int s.2], [], h) r
  refine ev_iload_n pm231 i231_4 rfl rfl rfl ?_
  refine ev_iconst (v := 5) pm231 i231_5 rfl (by decide) rfl ?_
  by_cases c561 : s.2 < (5 : Int32)
  · rw [if_pos c561] at hS
    refine ev_icmp_ge_t (t := 33) pm231 i231_6 rfl c561 rfl rfl ?_
    refine ev_iload_n pm231 i231_9 rfl rfl rfl ?_
    refine ev_iload_n pm231 i231_10 rfl rfl rfl ?_
    obtain ⟨x2, e1, hS⟩ := bn_s hS
    refine ev_callS (sa := [.int s.2]) (rest := [.int s.1]) (st' := [.int x2, .int s.1]) (ls0 := [.int s.2]) (rv := some (.int x2)) pm231 i231_11 rfl rfl pm232 (by decide) rfl rfl (Nat.le_of_ble_eq_true rfl) (by omega) rfl (R_md_lifts (d - 1) (by omega) e1) (by simp) rfl rfl ?_
    refine ev_aload_n pm231 i231_14 rfl rfl rfl ?_
    obtain ⟨x3, e4, hS⟩ := bn_s hS
    refine ev_getR pm231 i231_15 rfl rfl rfl e4 rfl ?_
    refine ev_iload_n pm231 i231_18 rfl rfl rfl ?_
    refine ev_iload_n pm231 i231_19 rfl rfl rfl ?_
    obtain ⟨x6, e5, hS⟩ := bn_s hS
    refine ev_callS (sa := [.int s.2, .int l1]) (rest := [.ref x3, .int x2, .int s.1]) (st' := [.int x6, .ref x3, .int x2, .int s.1]) (ls0 := [.int l1, .int s.2]) (rv := some (.int x6)) pm231 i231_20 rfl rfl pm223 (by decide) rfl rfl (Nat.le_of_ble_eq_true rfl) (by omega) rfl (R_md_cell (d - 1) (by omega) e5) (by simp) rfl rfl ?_
    obtain ⟨x7, e8, hS⟩ := bn_s hS
    refine ev_iald pm231 i231_23 rfl e8 rfl ?_
    refine ev_b2 (f := fun x y => x * y) pm231 i231_24 rfl (fun _ _ _ _ => rfl) rfl ?_
    refine ev_b2 (f := fun x y => x + y) pm231 i231_25 rfl (fun _ _ _ _ => rfl) rfl ?_
    refine ev_istore_n (ls' := [.ref l0, .int l1, .int (s.1 + (x2 * x7)), .int s.2]) pm231 i231_26 rfl (Nat.le_of_ble_eq_true rfl) rfl rfl ?_
    refine ev_iinc (v := 1) (ls' := [.ref l0, .int l1, .int (s.1 + (x2 * x7)), .int (s.2 + (1 : Int32))]) pm231 i231_27 rfl rfl (by decide) rfl rfl ?_
    refine ev_goto (t := 4) pm231 i231_30 rfl rfl ?_
    cases hS
    exact hK
  · rw [if_neg c561] at hS
    refine ev_icmp_ge_f (t := 33) pm231 i231_6 rfl c561 rfl rfl ?_
    refine ev_kls (ls' := [unk, unk, .int s.1, unk]) pm231 i231_33 rfl rfl ?_
    cases hS
    exact hK
def F_md_liftOf (a0 : Nat) (a1 : Int32) (h : Hp) : Option Int32 :=
  ck h a0 13 (bn (lq (B_md_liftOf_4 a0 a1 h) FU ((0 : Int32), (0 : Int32))) fun x9 =>
  some x9)
set_option maxRecDepth 20000 in
theorem K_md_liftOf {a0 : Nat} {a1 : Int32} {h : Hp} {v : Int32} (hS : F_md_liftOf a0 a1 h = some v) : kd h a0 = 13 := by
  unfold F_md_liftOf at hS
  exact (ck_s hS).1
set_option maxRecDepth 20000 in
theorem R_md_liftOf (d : Nat) (hd : 1 ≤ d) {a0 : Nat} {a1 : Int32} {h : Hp} {v : Int32} (hS : F_md_liftOf a0 a1 h = some v) : Ev P d 231 (0, [.ref a0, .int a1, unk, unk], [], h) (some (.int v), h) := by
  unfold F_md_liftOf at hS
  replace hS := (ck_s hS).2
  refine ev_iconst (v := 0) pm231 i231_0 rfl (by decide) rfl ?_
  refine ev_istore_n (ls' := [.ref a0, .int a1, .int (0 : Int32), unk]) pm231 i231_1 rfl (Nat.le_of_ble_eq_true rfl) rfl rfl ?_
  refine ev_iconst (v := 0) pm231 i231_2 rfl (by decide) rfl ?_
  refine ev_istore_n (ls' := [.ref a0, .int a1, .int (0 : Int32), .int (0 : Int32)]) pm231 i231_3 rfl (Nat.le_of_ble_eq_true rfl) rfl rfl ?_
  obtain ⟨x9, e10, hS⟩ := bn_s hS
  refine L_md_liftOf_4 d (by omega) _ _ _ e10 _ ?_
  show Ev P d 231 (33, [unk, unk, .int x9, unk], [], h) _
  refine ev_iload_n pm231 i231_33 rfl rfl rfl ?_
  cases hS
  exact ev_ireturn pm231 i231_34 rfl rfl rfl
def B_md_raftOf_20 (l0 : Nat) (l3 : Int32) (h : Hp) (s : Int32 × Int32) : Option ((Int32 × Int32) ⊕ (Int32)) :=
  bn (gR h l0 13 3) fun x5 =>
  bn (gI h x5 12 2) fun x7 =>
  if s.2 < x7 then
    (bn (gR h l0 13 16) fun x9 =>
    bn (aI h 100 x9 (28 : Int32)) fun x11 =>
    bn (F_md_bit x11 s.2) fun x14 =>
    if x14 = (0 : Int32) then
      (bn (gR h l0 13 3) fun x15 =>
      bn (gR h x15 12 13) fun x17 =>
      bn (aI h 100 x17 s.2) fun x19 =>
      bn (F_md_bit s.1 x19) fun x22 =>
      bn (if x22 = (0 : Int32) then
          (some s.1)
        else
          (bn (gR h l0 13 3) fun x23 =>
          bn (gR h x23 12 14) fun x25 =>
          bn (aI h 100 x25 s.2) fun x27 =>
          some (s.1 ||| ((1 : Int32) <<< (x27 &&& 31))))) fun q29 =>
      bn (gR h l0 13 3) fun x30 =>
      bn (gR h x30 12 14) fun x32 =>
      bn (aI h 100 x32 s.2) fun x34 =>
      bn (F_md_bit q29 x34) fun x37 =>
      if x37 = (0 : Int32) then
        (some (.inl (q29, s.2 + (1 : Int32))))
      else
        (bn (gR h l0 13 3) fun x38 =>
        bn (gR h x38 12 13) fun x40 =>
        bn (aI h 100 x40 s.2) fun x42 =>
        some (.inl (q29 ||| ((1 : Int32) <<< (x42 &&& 31)), s.2 + (1 : Int32)))))
    else
      (some (.inl (s.1, s.2 + (1 : Int32)))))
  else
    (some (.inr s.1))
set_option maxRecDepth 20000 in
theorem L_md_raftOf_20 (d : Nat) (hd : 1 ≤ d) {l0 : Nat} {l3 : Int32} {h : Hp} : ∀ (n : Nat) (s : Int32 × Int32) (x : Int32), lq (B_md_raftOf_20 l0 l3 h) n s = some x → ∀ r, Ev P d 234 (120, [.ref l0, unk, .int x, .int l3, unk], [], h) r → Ev P d 234 (20, [.ref l0, unk, .int s.1, .int l3, .int s.2], [], h) r := by
  refine lq_ev (G0 := fun (s : Int32 × Int32) r => Ev P d 234 (20, [.ref l0, unk, .int s.1, .int l3, .int s.2], [], h) r) (X := fun (x : Int32) r => Ev P d 234 (120, [.ref l0, unk, .int x, .int l3, unk], [], h) r) ?_
  intro s y hS r hK
  unfold B_md_raftOf_20 at hS
  show Ev P d 234 (20, [.ref l0, unk, .int s.1, .int l3, .int s.2], [], h) r
  refine ev_iload pm234 i234_20 rfl rfl rfl ?_
  refine ev_aload_n pm234 i234_22 rfl rfl rfl ?_
  obtain ⟨x5, e6, hS⟩ := bn_s hS
  refine ev_getR pm234 i234_23 rfl rfl rfl e6 rfl ?_
  obtain ⟨x7, e8, hS⟩ := bn_s hS
  refine ev_getI pm234 i234_26 rfl rfl (by decide) e8 rfl ?_
  by_cases c562 : s.2 < x7
  · rw [if_pos c562] at hS
    refine ev_icmp_ge_t (t := 120) pm234 i234_29 rfl c562 rfl rfl ?_
    refine ev_aload_n pm234 i234_32 rfl rfl rfl ?_
    obtain ⟨x9, e10, hS⟩ := bn_s hS
    refine ev_getR pm234 i234_33 rfl rfl rfl e10 rfl ?_
    refine ev_bipush (v := 28) pm234 i234_36 rfl (by decide) rfl ?_
    obtain ⟨x11, e12, hS⟩ := bn_s hS
    refine ev_iald pm234 i234_38 rfl e12 rfl ?_
    refine ev_iload pm234 i234_39 rfl rfl rfl ?_
    obtain ⟨x14, e13, hS⟩ := bn_s hS
    refine ev_callS (sa := [.int s.2, .int x11]) (rest := []) (st' := [.int x14]) (ls0 := [.int x11, .int s.2]) (rv := some (.int x14)) pm234 i234_41 rfl rfl pm214 (by decide) rfl rfl (Nat.le_of_ble_eq_true rfl) (by omega) rfl (R_md_bit (d - 1) (by omega) e13) (by simp) rfl rfl ?_
    by_cases c563 : x14 = (0 : Int32)
    · rw [if_pos c563] at hS
      refine ev_if_eq_t (t := 50) pm234 i234_44 rfl c563 rfl rfl ?_
      refine ev_iload_n pm234 i234_50 rfl rfl rfl ?_
      refine ev_aload_n pm234 i234_51 rfl rfl rfl ?_
      obtain ⟨x15, e16, hS⟩ := bn_s hS
      refine ev_getR pm234 i234_52 rfl rfl rfl e16 rfl ?_
      obtain ⟨x17, e18, hS⟩ := bn_s hS
      refine ev_getR pm234 i234_55 rfl rfl rfl e18 rfl ?_
      refine ev_iload pm234 i234_58 rfl rfl rfl ?_
      obtain ⟨x19, e20, hS⟩ := bn_s hS
      refine ev_iald pm234 i234_60 rfl e20 rfl ?_
      obtain ⟨x22, e21, hS⟩ := bn_s hS
      refine ev_callS (sa := [.int x19, .int s.1]) (rest := []) (st' := [.int x22]) (ls0 := [.int s.1, .int x19]) (rv := some (.int x22)) pm234 i234_61 rfl rfl pm214 (by decide) rfl rfl (Nat.le_of_ble_eq_true rfl) (by omega) rfl (R_md_bit (d - 1) (by omega) e21) (by simp) rfl rfl ?_
      obtain ⟨q29, I564, hS⟩ := bn_s hS
      have J1 : Ev P d 234 (82, [.ref l0, unk, .int q29, .int l3, .int s.2], [], h) r := by
        refine ev_iload_n pm234 i234_82 rfl rfl rfl ?_
        refine ev_aload_n pm234 i234_83 rfl rfl rfl ?_
        obtain ⟨x30, e31, hS⟩ := bn_s hS
        refine ev_getR pm234 i234_84 rfl rfl rfl e31 rfl ?_
        obtain ⟨x32, e33, hS⟩ := bn_s hS
        refine ev_getR pm234 i234_87 rfl rfl rfl e33 rfl ?_
        refine ev_iload pm234 i234_90 rfl rfl rfl ?_
        obtain ⟨x34, e35, hS⟩ := bn_s hS
        refine ev_iald pm234 i234_92 rfl e35 rfl ?_
        obtain ⟨x37, e36, hS⟩ := bn_s hS
        refine ev_callS (sa := [.int x34, .int q29]) (rest := []) (st' := [.int x37]) (ls0 := [.int q29, .int x34]) (rv := some (.int x37)) pm234 i234_93 rfl rfl pm214 (by decide) rfl rfl (Nat.le_of_ble_eq_true rfl) (by omega) rfl (R_md_bit (d - 1) (by omega) e36) (by simp) rfl rfl ?_
        by_cases c565 : x37 = (0 : Int32)
        · rw [if_pos c565] at hS
          refine ev_if_eq_t (t := 114) pm234 i234_96 rfl c565 rfl rfl ?_
          refine ev_iinc (v := 1) (ls' := [.ref l0, unk, .int q29, .int l3, .int (s.2 + (1 : Int32))]) pm234 i234_114 rfl rfl (by decide) rfl rfl ?_
          refine ev_goto (t := 20) pm234 i234_117 rfl rfl ?_
          cases hS
          exact hK
        · rw [if_neg c565] at hS
          refine ev_if_eq_f (t := 114) pm234 i234_96 rfl c565 rfl rfl ?_
          refine ev_iload_n pm234 i234_99 rfl rfl rfl ?_
          refine ev_iconst (v := 1) pm234 i234_100 rfl (by decide) rfl ?_
          refine ev_aload_n pm234 i234_101 rfl rfl rfl ?_
          obtain ⟨x38, e39, hS⟩ := bn_s hS
          refine ev_getR pm234 i234_102 rfl rfl rfl e39 rfl ?_
          obtain ⟨x40, e41, hS⟩ := bn_s hS
          refine ev_getR pm234 i234_105 rfl rfl rfl e41 rfl ?_
          refine ev_iload pm234 i234_108 rfl rfl rfl ?_
          obtain ⟨x42, e43, hS⟩ := bn_s hS
          refine ev_iald pm234 i234_110 rfl e43 rfl ?_
          refine ev_b2 (f := fun x y => x <<< (y &&& 31)) pm234 i234_111 rfl (fun _ _ _ _ => rfl) rfl ?_
          refine ev_b2 (f := fun x y => x ||| y) pm234 i234_112 rfl (fun _ _ _ _ => rfl) rfl ?_
          refine ev_istore_n (ls' := [.ref l0, unk, .int (q29 ||| ((1 : Int32) <<< (x42 &&& 31))), .int l3, .int s.2]) pm234 i234_113 rfl (Nat.le_of_ble_eq_true rfl) rfl rfl ?_
          refine ev_iinc (v := 1) (ls' := [.ref l0, unk, .int (q29 ||| ((1 : Int32) <<< (x42 &&& 31))), .int l3, .int (s.2 + (1 : Int32))]) pm234 i234_114 rfl rfl (by decide) rfl rfl ?_
          refine ev_goto (t := 20) pm234 i234_117 rfl rfl ?_
          cases hS
          exact hK
      clear hS
      by_cases c564 : x22 = (0 : Int32)
      · rw [if_pos c564] at I564
        refine ev_if_eq_t (t := 82) pm234 i234_64 rfl c564 rfl rfl ?_
        cases I564
        exact J1
      · rw [if_neg c564] at I564
        refine ev_if_eq_f (t := 82) pm234 i234_64 rfl c564 rfl rfl ?_
        refine ev_iload_n pm234 i234_67 rfl rfl rfl ?_
        refine ev_iconst (v := 1) pm234 i234_68 rfl (by decide) rfl ?_
        refine ev_aload_n pm234 i234_69 rfl rfl rfl ?_
        obtain ⟨x23, e24, I564⟩ := bn_s I564
        refine ev_getR pm234 i234_70 rfl rfl rfl e24 rfl ?_
        obtain ⟨x25, e26, I564⟩ := bn_s I564
        refine ev_getR pm234 i234_73 rfl rfl rfl e26 rfl ?_
        refine ev_iload pm234 i234_76 rfl rfl rfl ?_
        obtain ⟨x27, e28, I564⟩ := bn_s I564
        refine ev_iald pm234 i234_78 rfl e28 rfl ?_
        refine ev_b2 (f := fun x y => x <<< (y &&& 31)) pm234 i234_79 rfl (fun _ _ _ _ => rfl) rfl ?_
        refine ev_b2 (f := fun x y => x ||| y) pm234 i234_80 rfl (fun _ _ _ _ => rfl) rfl ?_
        refine ev_istore_n (ls' := [.ref l0, unk, .int (s.1 ||| ((1 : Int32) <<< (x27 &&& 31))), .int l3, .int s.2]) pm234 i234_81 rfl (Nat.le_of_ble_eq_true rfl) rfl rfl ?_
        cases I564
        exact J1
    · rw [if_neg c563] at hS
      refine ev_if_eq_f (t := 50) pm234 i234_44 rfl c563 rfl rfl ?_
      refine ev_goto (t := 114) pm234 i234_47 rfl rfl ?_
      refine ev_iinc (v := 1) (ls' := [.ref l0, unk, .int s.1, .int l3, .int (s.2 + (1 : Int32))]) pm234 i234_114 rfl rfl (by decide) rfl rfl ?_
      refine ev_goto (t := 20) pm234 i234_117 rfl rfl ?_
      cases hS
      exact hK
  · rw [if_neg c562] at hS
    refine ev_icmp_ge_f (t := 120) pm234 i234_29 rfl c562 rfl rfl ?_
    refine ev_kls (ls' := [.ref l0, unk, .int s.1, .int l3, unk]) pm234 i234_120 rfl rfl ?_
    cases hS
    exact hK
def B_md_raftOf_6 (l0 : Nat) (h : Hp) (s : Int32 × Int32) : Option ((Int32 × Int32) ⊕ (Int32)) :=
  bn (gR h l0 13 3) fun x1 =>
  bn (gI h x1 12 1) fun x3 =>
  if s.2 < x3 then
    (bn (lq (B_md_raftOf_20 l0 s.2 h) FU (s.1, (0 : Int32))) fun x44 =>
    some (.inl (x44, s.2 + (1 : Int32))))
  else
    (some (.inr s.1))
set_option maxRecDepth 20000 in
theorem L_md_raftOf_6 (d : Nat) (hd : 1 ≤ d) {l0 : Nat} {h : Hp} : ∀ (n : Nat) (s : Int32 × Int32) (x : Int32), lq (B_md_raftOf_6 l0 h) n s = some x → ∀ r, Ev P d 234 (126, [unk, unk, .int x, unk, unk], [], h) r → Ev P d 234 (6, [.ref l0, unk, .int s.1, .int s.2, unk], [], h) r := by
  refine lq_ev (G0 := fun (s : Int32 × Int32) r => Ev P d 234 (6, [.ref l0, unk, .int s.1, .int s.2, unk], [], h) r) (X := fun (x : Int32) r => Ev P d 234 (126, [unk, unk, .int x, unk, unk], [], h) r) ?_
  intro s y hS r hK
  unfold B_md_raftOf_6 at hS
  show Ev P d 234 (6, [.ref l0, unk, .int s.1, .int s.2, unk], [], h) r
  refine ev_iload_n pm234 i234_6 rfl rfl rfl ?_
  refine ev_aload_n pm234 i234_7 rfl rfl rfl ?_
  obtain ⟨x1, e2, hS⟩ := bn_s hS
  refine ev_getR pm234 i234_8 rfl rfl rfl e2 rfl ?_
  obtain ⟨x3, e4, hS⟩ := bn_s hS
  refine ev_getI pm234 i234_11 rfl rfl (by decide) e4 rfl ?_
  by_cases c566 : s.2 < x3
  · rw [if_pos c566] at hS
    refine ev_icmp_ge_t (t := 126) pm234 i234_14 rfl c566 rfl rfl ?_
    refine ev_iconst (v := 0) pm234 i234_17 rfl (by decide) rfl ?_
    refine ev_istore (ls' := [.ref l0, unk, .int s.1, .int s.2, .int (0 : Int32)]) pm234 i234_18 rfl (Nat.le_of_ble_eq_true rfl) rfl rfl ?_
    obtain ⟨x44, e45, hS⟩ := bn_s hS
    refine L_md_raftOf_20 d (by omega) _ _ _ e45 _ ?_
    show Ev P d 234 (120, [.ref l0, unk, .int x44, .int s.2, unk], [], h) _
    refine ev_iinc (v := 1) (ls' := [.ref l0, unk, .int x44, .int (s.2 + (1 : Int32)), unk]) pm234 i234_120 rfl rfl (by decide) rfl rfl ?_
    refine ev_goto (t := 6) pm234 i234_123 rfl rfl ?_
    cases hS
    exact hK
  · rw [if_neg c566] at hS
    refine ev_icmp_ge_f (t := 126) pm234 i234_14 rfl c566 rfl rfl ?_
    refine ev_kls (ls' := [unk, unk, .int s.1, unk, unk]) pm234 i234_126 rfl rfl ?_
    cases hS
    exact hK
def F_md_raftOf (a0 : Nat) (a1 : Int32) (h : Hp) : Option Int32 :=
  ck h a0 13 (bn (lq (B_md_raftOf_6 a0 h) FU ((1 : Int32) <<< (a1 &&& 31), (0 : Int32))) fun x46 =>
  some x46)
set_option maxRecDepth 20000 in
theorem K_md_raftOf {a0 : Nat} {a1 : Int32} {h : Hp} {v : Int32} (hS : F_md_raftOf a0 a1 h = some v) : kd h a0 = 13 := by
  unfold F_md_raftOf at hS
  exact (ck_s hS).1
set_option maxRecDepth 20000 in
theorem R_md_raftOf (d : Nat) (hd : 1 ≤ d) {a0 : Nat} {a1 : Int32} {h : Hp} {v : Int32} (hS : F_md_raftOf a0 a1 h = some v) : Ev P d 234 (0, [.ref a0, .int a1, unk, unk, unk], [], h) (some (.int v), h) := by
  unfold F_md_raftOf at hS
  replace hS := (ck_s hS).2
  refine ev_iconst (v := 1) pm234 i234_0 rfl (by decide) rfl ?_
  refine ev_iload_n pm234 i234_1 rfl rfl rfl ?_
  refine ev_b2 (f := fun x y => x <<< (y &&& 31)) pm234 i234_2 rfl (fun _ _ _ _ => rfl) rfl ?_
  refine ev_istore_n (ls' := [.ref a0, .int a1, .int ((1 : Int32) <<< (a1 &&& 31)), unk, unk]) pm234 i234_3 rfl (Nat.le_of_ble_eq_true rfl) rfl rfl ?_
  refine ev_iconst (v := 0) pm234 i234_4 rfl (by decide) rfl ?_
  refine ev_istore_n (ls' := [.ref a0, .int a1, .int ((1 : Int32) <<< (a1 &&& 31)), .int (0 : Int32), unk]) pm234 i234_5 rfl (Nat.le_of_ble_eq_true rfl) rfl rfl ?_
  refine ev_kls (ls' := [.ref a0, unk, .int ((1 : Int32) <<< (a1 &&& 31)), .int (0 : Int32), unk]) pm234 i234_6 rfl rfl ?_
  obtain ⟨x46, e47, hS⟩ := bn_s hS
  refine L_md_raftOf_6 d (by omega) _ _ _ e47 _ ?_
  show Ev P d 234 (126, [unk, unk, .int x46, unk, unk], [], h) _
  refine ev_iload_n pm234 i234_126 rfl rfl rfl ?_
  cases hS
  exact ev_ireturn pm234 i234_127 rfl rfl rfl
def F_md_netOf (a0 : Nat) (a1 : Int32) (h : Hp) : Option Int32 :=
  ck h a0 13 (bn (F_md_liftOf a0 a1 h) fun x2 =>
  bn (F_md_weightOf a0 a1 h) fun x4 =>
  some (x2 - x4))
set_option maxRecDepth 20000 in
theorem K_md_netOf {a0 : Nat} {a1 : Int32} {h : Hp} {v : Int32} (hS : F_md_netOf a0 a1 h = some v) : kd h a0 = 13 := by
  unfold F_md_netOf at hS
  exact (ck_s hS).1
set_option maxRecDepth 20000 in
theorem R_md_netOf (d : Nat) (hd : 2 ≤ d) {a0 : Nat} {a1 : Int32} {h : Hp} {v : Int32} (hS : F_md_netOf a0 a1 h = some v) : Ev P d 236 (0, [.ref a0, .int a1], [], h) (some (.int v), h) := by
  unfold F_md_netOf at hS
  replace hS := (ck_s hS).2
  refine ev_aload_n pm236 i236_0 rfl rfl rfl ?_
  refine ev_iload_n pm236 i236_1 rfl rfl rfl ?_
  obtain ⟨x2, e1, hS⟩ := bn_s hS
  refine ev_callV (sa := [.int a1]) (rest := []) (st' := [.int x2]) (ls0 := [.ref a0, .int a1, unk, unk]) (rv := some (.int x2)) pm236 i236_2 rfl rfl pm231 (by decide) (K_md_liftOf e1) rfl rfl (Nat.le_of_ble_eq_true rfl) (by omega) rfl (R_md_liftOf (d - 1) (by omega) e1) (by simp) rfl rfl ?_
  refine ev_aload_n pm236 i236_5 rfl rfl rfl ?_
  refine ev_iload_n pm236 i236_6 rfl rfl rfl ?_
  obtain ⟨x4, e3, hS⟩ := bn_s hS
  refine ev_callV (sa := [.int a1]) (rest := [.int x2]) (st' := [.int x4, .int x2]) (ls0 := [.ref a0, .int a1, unk, unk]) (rv := some (.int x4)) pm236 i236_7 rfl rfl pm230 (by decide) (K_md_weightOf e3) rfl rfl (Nat.le_of_ble_eq_true rfl) (by omega) rfl (R_md_weightOf (d - 1) (by omega) e3) (by simp) rfl rfl ?_
  refine ev_b2 (f := fun x y => x - y) pm236 i236_10 rfl (fun _ _ _ _ => rfl) rfl ?_
  cases hS
  exact ev_ireturn pm236 i236_11 rfl rfl rfl
def B_md_netOfAll_4 (l0 : Nat) (l1 : Int32) (h : Hp) (s : Int32 × Int32) : Option ((Int32 × Int32) ⊕ (Int32)) :=
  bn (gR h l0 13 3) fun x1 =>
  bn (gI h x1 12 1) fun x3 =>
  if s.2 < x3 then
    (bn (F_md_bit l1 s.2) fun x6 =>
    if x6 = (0 : Int32) then
      (some (.inl (s.1 + (0 : Int32), s.2 + (1 : Int32))))
    else
      (bn (F_md_netOf l0 s.2 h) fun x8 =>
      some (.inl (s.1 + x8, s.2 + (1 : Int32)))))
  else
    (some (.inr s.1))
set_option maxRecDepth 20000 in
theorem L_md_netOfAll_4 (d : Nat) (hd : 3 ≤ d) {l0 : Nat} {l1 : Int32} {h : Hp} : ∀ (n : Nat) (s : Int32 × Int32) (x : Int32), lq (B_md_netOfAll_4 l0 l1 h) n s = some x → ∀ r, Ev P d 235 (41, [unk, unk, .int x, unk], [], h) r → Ev P d 235 (4, [.ref l0, .int l1, .int s.1, .int s.2], [], h) r := by
  refine lq_ev (G0 := fun (s : Int32 × Int32) r => Ev P d 235 (4, [.ref l0, .int l1, .int s.1, .int s.2], [], h) r) (X := fun (x : Int32) r => Ev P d 235 (41, [unk, unk, .int x, unk], [], h) r) ?_
  intro s y hS r hK
  unfold B_md_netOfAll_4 at hS
  show Ev P d 235 (4, [.ref l0, .int l1, .int s.1, .int s.2], [], h) r
  refine ev_iload_n pm235 i235_4 rfl rfl rfl ?_
  refine ev_aload_n pm235 i235_5 rfl rfl rfl ?_
  obtain ⟨x1, e2, hS⟩ := bn_s hS
  refine ev_getR pm235 i235_6 rfl rfl rfl e2 rfl ?_
  obtain ⟨x3, e4, hS⟩ := bn_s hS
  refine ev_getI pm235 i235_9 rfl rfl (by decide) e4 rfl ?_
  by_cases c567 : s.2 < x3
  · rw [if_pos c567] at hS
    refine ev_icmp_ge_t (t := 41) pm235 i235_12 rfl c567 rfl rfl ?_
    refine ev_iload_n pm235 i235_15 rfl rfl rfl ?_
    refine ev_iload_n pm235 i235_16 rfl rfl rfl ?_
    refine ev_iload_n pm235 i235_17 rfl rfl rfl ?_
    obtain ⟨x6, e5, hS⟩ := bn_s hS
    refine ev_callS (sa := [.int s.2, .int l1]) (rest := [.int s.1]) (st' := [.int x6, .int s.1]) (ls0 := [.int l1, .int s.2]) (rv := some (.int x6)) pm235 i235_18 rfl rfl pm214 (by decide) rfl rfl (Nat.le_of_ble_eq_true rfl) (by omega) rfl (R_md_bit (d - 1) (by omega) e5) (by simp) rfl rfl ?_
    by_cases c568 : x6 = (0 : Int32)
    · rw [if_pos c568] at hS
      refine ev_if_eq_t (t := 32) pm235 i235_21 rfl c568 rfl rfl ?_
      refine ev_iconst (v := 0) pm235 i235_32 rfl (by decide) rfl ?_
      refine ev_kls (ls' := [.ref l0, .int l1, unk, .int s.2]) pm235 i235_33 rfl rfl ?_
      refine ev_b2 (f := fun x y => x + y) pm235 i235_33 rfl (fun _ _ _ _ => rfl) rfl ?_
      refine ev_istore_n (ls' := [.ref l0, .int l1, .int (s.1 + (0 : Int32)), .int s.2]) pm235 i235_34 rfl (Nat.le_of_ble_eq_true rfl) rfl rfl ?_
      refine ev_iinc (v := 1) (ls' := [.ref l0, .int l1, .int (s.1 + (0 : Int32)), .int (s.2 + (1 : Int32))]) pm235 i235_35 rfl rfl (by decide) rfl rfl ?_
      refine ev_goto (t := 4) pm235 i235_38 rfl rfl ?_
      cases hS
      exact hK
    · rw [if_neg c568] at hS
      refine ev_if_eq_f (t := 32) pm235 i235_21 rfl c568 rfl rfl ?_
      refine ev_aload_n pm235 i235_24 rfl rfl rfl ?_
      refine ev_iload_n pm235 i235_25 rfl rfl rfl ?_
      obtain ⟨x8, e7, hS⟩ := bn_s hS
      refine ev_callV (sa := [.int s.2]) (rest := [.int s.1]) (st' := [.int x8, .int s.1]) (ls0 := [.ref l0, .int s.2]) (rv := some (.int x8)) pm235 i235_26 rfl rfl pm236 (by decide) (K_md_netOf e7) rfl rfl (Nat.le_of_ble_eq_true rfl) (by omega) rfl (R_md_netOf (d - 1) (by omega) e7) (by simp) rfl rfl ?_
      refine ev_goto (t := 33) pm235 i235_29 rfl rfl ?_
      refine ev_kls (ls' := [.ref l0, .int l1, unk, .int s.2]) pm235 i235_33 rfl rfl ?_
      refine ev_b2 (f := fun x y => x + y) pm235 i235_33 rfl (fun _ _ _ _ => rfl) rfl ?_
      refine ev_istore_n (ls' := [.ref l0, .int l1, .int (s.1 + x8), .int s.2]) pm235 i235_34 rfl (Nat.le_of_ble_eq_true rfl) rfl rfl ?_
      refine ev_iinc (v := 1) (ls' := [.ref l0, .int l1, .int (s.1 + x8), .int (s.2 + (1 : Int32))]) pm235 i235_35 rfl rfl (by decide) rfl rfl ?_
      refine ev_goto (t := 4) pm235 i235_38 rfl rfl ?_
      cases hS
      exact hK
  · rw [if_neg c567] at hS
    refine ev_icmp_ge_f (t := 41) pm235 i235_12 rfl c567 rfl rfl ?_
    refine ev_kls (ls' := [unk, unk, .int s.1, unk]) pm235 i235_41 rfl rfl ?_
    cases hS
    exact hK
def F_md_netOfAll (a0 : Nat) (a1 : Int32) (h : Hp) : Option Int32 :=
  ck h a0 13 (bn (lq (B_md_netOfAll_4 a0 a1 h) FU ((0 : Int32), (0 : Int32))) fun x9 =>
  some x9)
set_option maxRecDepth 20000 in
theorem K_md_netOfAll {a0 : Nat} {a1 : Int32} {h : Hp} {v : Int32} (hS : F_md_netOfAll a0 a1 h = some v) : kd h a0 = 13 := by
  unfold F_md_netOfAll at hS
  exact (ck_s hS).1
set_option maxRecDepth 20000 in
theorem R_md_netOfAll (d : Nat) (hd : 3 ≤ d) {a0 : Nat} {a1 : Int32} {h : Hp} {v : Int32} (hS : F_md_netOfAll a0 a1 h = some v) : Ev P d 235 (0, [.ref a0, .int a1, unk, unk], [], h) (some (.int v), h) := by
  unfold F_md_netOfAll at hS
  replace hS := (ck_s hS).2
  refine ev_iconst (v := 0) pm235 i235_0 rfl (by decide) rfl ?_
  refine ev_istore_n (ls' := [.ref a0, .int a1, .int (0 : Int32), unk]) pm235 i235_1 rfl (Nat.le_of_ble_eq_true rfl) rfl rfl ?_
  refine ev_iconst (v := 0) pm235 i235_2 rfl (by decide) rfl ?_
  refine ev_istore_n (ls' := [.ref a0, .int a1, .int (0 : Int32), .int (0 : Int32)]) pm235 i235_3 rfl (Nat.le_of_ble_eq_true rfl) rfl rfl ?_
  obtain ⟨x9, e10, hS⟩ := bn_s hS
  refine L_md_netOfAll_4 d (by omega) _ _ _ e10 _ ?_
  show Ev P d 235 (41, [unk, unk, .int x9, unk], [], h) _
  refine ev_iload_n pm235 i235_41 rfl rfl rfl ?_
  cases hS
  exact ev_ireturn pm235 i235_42 rfl rfl rfl
def B_md_bits_4 (s : Int32 × Int32) : Option ((Int32 × Int32) ⊕ (Int32)) :=
  if s.2 = (0 : Int32) then
    (some (.inr s.1))
  else
    (some (.inl (s.1 + (1 : Int32), s.2 &&& (s.2 - (1 : Int32)))))
set_option maxRecDepth 20000 in
theorem L_md_bits_4 (d : Nat) (hd : 0 ≤ d) {h : Hp} : ∀ (n : Nat) (s : Int32 × Int32) (x : Int32), lq (B_md_bits_4) n s = some x → ∀ r, Ev P d 237 (20, [unk, .int x, unk], [], h) r → Ev P d 237 (4, [unk, .int s.1, .int s.2], [], h) r := by
  refine lq_ev (G0 := fun (s : Int32 × Int32) r => Ev P d 237 (4, [unk, .int s.1, .int s.2], [], h) r) (X := fun (x : Int32) r => Ev P d 237 (20, [unk, .int x, unk], [], h) r) ?_
  intro s y hS r hK
  unfold B_md_bits_4 at hS
  show Ev P d 237 (4, [unk, .int s.1, .int s.2], [], h) r
  refine ev_iload_n pm237 i237_4 rfl rfl rfl ?_
  by_cases c569 : s.2 = (0 : Int32)
  · rw [if_pos c569] at hS
    refine ev_if_eq_t (t := 20) pm237 i237_5 rfl c569 rfl rfl ?_
    refine ev_kls (ls' := [unk, .int s.1, unk]) pm237 i237_20 rfl rfl ?_
    cases hS
    exact hK
  · rw [if_neg c569] at hS
    refine ev_if_eq_f (t := 20) pm237 i237_5 rfl c569 rfl rfl ?_
    refine ev_iinc (v := 1) (ls' := [unk, .int (s.1 + (1 : Int32)), .int s.2]) pm237 i237_8 rfl rfl (by decide) rfl rfl ?_
    refine ev_iload_n pm237 i237_11 rfl rfl rfl ?_
    refine ev_iload_n pm237 i237_12 rfl rfl rfl ?_
    refine ev_iconst (v := 1) pm237 i237_13 rfl (by decide) rfl ?_
    refine ev_b2 (f := fun x y => x - y) pm237 i237_14 rfl (fun _ _ _ _ => rfl) rfl ?_
    refine ev_b2 (f := fun x y => x &&& y) pm237 i237_15 rfl (fun _ _ _ _ => rfl) rfl ?_
    refine ev_istore_n (ls' := [unk, .int (s.1 + (1 : Int32)), .int (s.2 &&& (s.2 - (1 : Int32)))]) pm237 i237_16 rfl (Nat.le_of_ble_eq_true rfl) rfl rfl ?_
    refine ev_goto (t := 4) pm237 i237_17 rfl rfl ?_
    cases hS
    exact hK
def F_md_bits (a0 : Int32) : Option Int32 :=
  bn (lq (B_md_bits_4) FU ((0 : Int32), a0)) fun x1 =>
  some x1
set_option maxRecDepth 20000 in
theorem R_md_bits (d : Nat) (hd : 0 ≤ d) {a0 : Int32} {h : Hp} {v : Int32} (hS : F_md_bits a0 = some v) : Ev P d 237 (0, [.int a0, unk, unk], [], h) (some (.int v), h) := by
  unfold F_md_bits at hS
  refine ev_iconst (v := 0) pm237 i237_0 rfl (by decide) rfl ?_
  refine ev_istore_n (ls' := [.int a0, .int (0 : Int32), unk]) pm237 i237_1 rfl (Nat.le_of_ble_eq_true rfl) rfl rfl ?_
  refine ev_iload_n pm237 i237_2 rfl rfl rfl ?_
  refine ev_istore_n (ls' := [.int a0, .int (0 : Int32), .int a0]) pm237 i237_3 rfl (Nat.le_of_ble_eq_true rfl) rfl rfl ?_
  refine ev_kls (ls' := [unk, .int (0 : Int32), .int a0]) pm237 i237_4 rfl rfl ?_
  obtain ⟨x1, e2, hS⟩ := bn_s hS
  refine L_md_bits_4 d (by omega) _ _ _ e2 _ ?_
  show Ev P d 237 (20, [unk, .int x1, unk], [], h) _
  refine ev_iload_n pm237 i237_20 rfl rfl rfl ?_
  cases hS
  exact ev_ireturn pm237 i237_21 rfl rfl rfl
def F_md_down (a0 : Int32) (a1 : Int32) : Option Int32 :=
  if a0 < (0 : Int32) then
    (bn (dv (((-a0) + a1) - (1 : Int32)) a1) fun x1 =>
    some (-x1))
  else
    (bn (dv a0 a1) fun x3 =>
    some x3)
set_option maxRecDepth 20000 in
theorem R_md_down (d : Nat) (hd : 0 ≤ d) {a0 : Int32} {a1 : Int32} {h : Hp} {v : Int32} (hS : F_md_down a0 a1 = some v) : Ev P d 238 (0, [.int a0, .int a1], [], h) (some (.int v), h) := by
  unfold F_md_down at hS
  refine ev_iload_n pm238 i238_0 rfl rfl rfl ?_
  by_cases c570 : a0 < (0 : Int32)
  · rw [if_pos c570] at hS
    refine ev_if_lt_t (t := 10) pm238 i238_1 rfl c570 rfl rfl ?_
    refine ev_iload_n pm238 i238_10 rfl rfl rfl ?_
    refine ev_ineg pm238 i238_11 rfl rfl ?_
    refine ev_iload_n pm238 i238_12 rfl rfl rfl ?_
    refine ev_b2 (f := fun x y => x + y) pm238 i238_13 rfl (fun _ _ _ _ => rfl) rfl ?_
    refine ev_iconst (v := 1) pm238 i238_14 rfl (by decide) rfl ?_
    refine ev_b2 (f := fun x y => x - y) pm238 i238_15 rfl (fun _ _ _ _ => rfl) rfl ?_
    refine ev_iload_n pm238 i238_16 rfl rfl rfl ?_
    obtain ⟨x1, e2, hS⟩ := bn_s hS
    refine ev_idiv pm238 i238_17 rfl e2 rfl ?_
    refine ev_ineg pm238 i238_18 rfl rfl ?_
    refine ev_kls (ls' := [unk, unk]) pm238 i238_19 rfl rfl ?_
    cases hS
    exact ev_ireturn pm238 i238_19 rfl rfl rfl
  · rw [if_neg c570] at hS
    refine ev_if_lt_f (t := 10) pm238 i238_1 rfl c570 rfl rfl ?_
    refine ev_iload_n pm238 i238_4 rfl rfl rfl ?_
    refine ev_iload_n pm238 i238_5 rfl rfl rfl ?_
    obtain ⟨x3, e4, hS⟩ := bn_s hS
    refine ev_idiv pm238 i238_6 rfl e4 rfl ?_
    refine ev_goto (t := 19) pm238 i238_7 rfl rfl ?_
    refine ev_kls (ls' := [unk, unk]) pm238 i238_19 rfl rfl ?_
    cases hS
    exact ev_ireturn pm238 i238_19 rfl rfl rfl
def F_md_heightOf (a0 : Nat) (a1 : Int32) (h : Hp) : Option Int32 :=
  ck h a0 13 (bn (F_md_raftOf a0 a1 h) fun x2 =>
  bn (F_md_netOfAll a0 x2 h) fun x4 =>
  bn (F_md_bits x2) fun x6 =>
  bn (F_md_down x4 x6) fun x8 =>
  some x8)
set_option maxRecDepth 20000 in
theorem K_md_heightOf {a0 : Nat} {a1 : Int32} {h : Hp} {v : Int32} (hS : F_md_heightOf a0 a1 h = some v) : kd h a0 = 13 := by
  unfold F_md_heightOf at hS
  exact (ck_s hS).1
set_option maxRecDepth 20000 in
theorem R_md_heightOf (d : Nat) (hd : 4 ≤ d) {a0 : Nat} {a1 : Int32} {h : Hp} {v : Int32} (hS : F_md_heightOf a0 a1 h = some v) : Ev P d 233 (0, [.ref a0, .int a1, unk], [], h) (some (.int v), h) := by
  unfold F_md_heightOf at hS
  replace hS := (ck_s hS).2
  refine ev_aload_n pm233 i233_0 rfl rfl rfl ?_
  refine ev_iload_n pm233 i233_1 rfl rfl rfl ?_
  obtain ⟨x2, e1, hS⟩ := bn_s hS
  refine ev_callV (sa := [.int a1]) (rest := []) (st' := [.int x2]) (ls0 := [.ref a0, .int a1, unk, unk, unk]) (rv := some (.int x2)) pm233 i233_2 rfl rfl pm234 (by decide) (K_md_raftOf e1) rfl rfl (Nat.le_of_ble_eq_true rfl) (by omega) rfl (R_md_raftOf (d - 1) (by omega) e1) (by simp) rfl rfl ?_
  refine ev_istore_n (ls' := [.ref a0, .int a1, .int x2]) pm233 i233_5 rfl (Nat.le_of_ble_eq_true rfl) rfl rfl ?_
  refine ev_aload_n pm233 i233_6 rfl rfl rfl ?_
  refine ev_iload_n pm233 i233_7 rfl rfl rfl ?_
  obtain ⟨x4, e3, hS⟩ := bn_s hS
  refine ev_callV (sa := [.int x2]) (rest := []) (st' := [.int x4]) (ls0 := [.ref a0, .int x2, unk, unk]) (rv := some (.int x4)) pm233 i233_8 rfl rfl pm235 (by decide) (K_md_netOfAll e3) rfl rfl (Nat.le_of_ble_eq_true rfl) (by omega) rfl (R_md_netOfAll (d - 1) (by omega) e3) (by simp) rfl rfl ?_
  refine ev_iload_n pm233 i233_11 rfl rfl rfl ?_
  obtain ⟨x6, e5, hS⟩ := bn_s hS
  refine ev_callS (sa := [.int x2]) (rest := [.int x4]) (st' := [.int x6, .int x4]) (ls0 := [.int x2, unk, unk]) (rv := some (.int x6)) pm233 i233_12 rfl rfl pm237 (by decide) rfl rfl (Nat.le_of_ble_eq_true rfl) (by omega) rfl (R_md_bits (d - 1) (by omega) e5) (by simp) rfl rfl ?_
  obtain ⟨x8, e7, hS⟩ := bn_s hS
  refine ev_callS (sa := [.int x6, .int x4]) (rest := []) (st' := [.int x8]) (ls0 := [.int x4, .int x6]) (rv := some (.int x8)) pm233 i233_15 rfl rfl pm238 (by decide) rfl rfl (Nat.le_of_ble_eq_true rfl) (by omega) rfl (R_md_down (d - 1) (by omega) e7) (by simp) rfl rfl ?_
  cases hS
  exact ev_ireturn pm233 i233_18 rfl rfl rfl
def B_md_guestsAt_4 (l0 : Nat) (l1 : Int32) (h : Hp) (s : Int32 × Int32) : Option ((Int32 × Int32) ⊕ (Int32)) :=
  bn (gR h l0 13 3) fun x1 =>
  bn (gI h x1 12 3) fun x3 =>
  if s.2 < x3 then
    (bn (gR h l0 13 16) fun x5 =>
    bn (aI h 100 x5 ((25 : Int32) + s.2)) fun x7 =>
    if x7 = l1 then
      (some (.inl (s.1 ||| ((1 : Int32) <<< (s.2 &&& 31)), s.2 + (1 : Int32))))
    else
      (some (.inl (s.1 ||| (0 : Int32), s.2 + (1 : Int32)))))
  else
    (some (.inr s.1))
set_option maxRecDepth 20000 in
theorem L_md_guestsAt_4 (d : Nat) (hd : 0 ≤ d) {l0 : Nat} {l1 : Int32} {h : Hp} : ∀ (n : Nat) (s : Int32 × Int32) (x : Int32), lq (B_md_guestsAt_4 l0 l1 h) n s = some x → ∀ r, Ev P d 239 (44, [unk, unk, .int x, unk], [], h) r → Ev P d 239 (4, [.ref l0, .int l1, .int s.1, .int s.2], [], h) r := by
  refine lq_ev (G0 := fun (s : Int32 × Int32) r => Ev P d 239 (4, [.ref l0, .int l1, .int s.1, .int s.2], [], h) r) (X := fun (x : Int32) r => Ev P d 239 (44, [unk, unk, .int x, unk], [], h) r) ?_
  intro s y hS r hK
  unfold B_md_guestsAt_4 at hS
  show Ev P d 239 (4, [.ref l0, .int l1, .int s.1, .int s.2], [], h) r
  refine ev_iload_n pm239 i239_4 rfl rfl rfl ?_
  refine ev_aload_n pm239 i239_5 rfl rfl rfl ?_
  obtain ⟨x1, e2, hS⟩ := bn_s hS
  refine ev_getR pm239 i239_6 rfl rfl rfl e2 rfl ?_
  obtain ⟨x3, e4, hS⟩ := bn_s hS
  refine ev_getI pm239 i239_9 rfl rfl (by decide) e4 rfl ?_
  by_cases c571 : s.2 < x3
  · rw [if_pos c571] at hS
    refine ev_icmp_ge_t (t := 44) pm239 i239_12 rfl c571 rfl rfl ?_
    refine ev_iload_n pm239 i239_15 rfl rfl rfl ?_
    refine ev_aload_n pm239 i239_16 rfl rfl rfl ?_
    obtain ⟨x5, e6, hS⟩ := bn_s hS
    refine ev_getR pm239 i239_17 rfl rfl rfl e6 rfl ?_
    refine ev_bipush (v := 25) pm239 i239_20 rfl (by decide) rfl ?_
    refine ev_iload_n pm239 i239_22 rfl rfl rfl ?_
    refine ev_b2 (f := fun x y => x + y) pm239 i239_23 rfl (fun _ _ _ _ => rfl) rfl ?_
    obtain ⟨x7, e8, hS⟩ := bn_s hS
    refine ev_iald pm239 i239_24 rfl e8 rfl ?_
    refine ev_iload_n pm239 i239_25 rfl rfl rfl ?_
    by_cases c572 : x7 = l1
    · rw [if_pos c572] at hS
      refine ev_icmp_ne_t (t := 35) pm239 i239_26 rfl c572 rfl rfl ?_
      refine ev_iconst (v := 1) pm239 i239_29 rfl (by decide) rfl ?_
      refine ev_iload_n pm239 i239_30 rfl rfl rfl ?_
      refine ev_b2 (f := fun x y => x <<< (y &&& 31)) pm239 i239_31 rfl (fun _ _ _ _ => rfl) rfl ?_
      refine ev_goto (t := 36) pm239 i239_32 rfl rfl ?_
      refine ev_kls (ls' := [.ref l0, .int l1, unk, .int s.2]) pm239 i239_36 rfl rfl ?_
      refine ev_b2 (f := fun x y => x ||| y) pm239 i239_36 rfl (fun _ _ _ _ => rfl) rfl ?_
      refine ev_istore_n (ls' := [.ref l0, .int l1, .int (s.1 ||| ((1 : Int32) <<< (s.2 &&& 31))), .int s.2]) pm239 i239_37 rfl (Nat.le_of_ble_eq_true rfl) rfl rfl ?_
      refine ev_iinc (v := 1) (ls' := [.ref l0, .int l1, .int (s.1 ||| ((1 : Int32) <<< (s.2 &&& 31))), .int (s.2 + (1 : Int32))]) pm239 i239_38 rfl rfl (by decide) rfl rfl ?_
      refine ev_goto (t := 4) pm239 i239_41 rfl rfl ?_
      cases hS
      exact hK
    · rw [if_neg c572] at hS
      refine ev_icmp_ne_f (t := 35) pm239 i239_26 rfl c572 rfl rfl ?_
      refine ev_iconst (v := 0) pm239 i239_35 rfl (by decide) rfl ?_
      refine ev_kls (ls' := [.ref l0, .int l1, unk, .int s.2]) pm239 i239_36 rfl rfl ?_
      refine ev_b2 (f := fun x y => x ||| y) pm239 i239_36 rfl (fun _ _ _ _ => rfl) rfl ?_
      refine ev_istore_n (ls' := [.ref l0, .int l1, .int (s.1 ||| (0 : Int32)), .int s.2]) pm239 i239_37 rfl (Nat.le_of_ble_eq_true rfl) rfl rfl ?_
      refine ev_iinc (v := 1) (ls' := [.ref l0, .int l1, .int (s.1 ||| (0 : Int32)), .int (s.2 + (1 : Int32))]) pm239 i239_38 rfl rfl (by decide) rfl rfl ?_
      refine ev_goto (t := 4) pm239 i239_41 rfl rfl ?_
      cases hS
      exact hK
  · rw [if_neg c571] at hS
    refine ev_icmp_ge_f (t := 44) pm239 i239_12 rfl c571 rfl rfl ?_
    refine ev_kls (ls' := [unk, unk, .int s.1, unk]) pm239 i239_44 rfl rfl ?_
    cases hS
    exact hK
def F_md_guestsAt (a0 : Nat) (a1 : Int32) (h : Hp) : Option Int32 :=
  ck h a0 13 (bn (lq (B_md_guestsAt_4 a0 a1 h) FU ((0 : Int32), (0 : Int32))) fun x9 =>
  some x9)
set_option maxRecDepth 20000 in
theorem K_md_guestsAt {a0 : Nat} {a1 : Int32} {h : Hp} {v : Int32} (hS : F_md_guestsAt a0 a1 h = some v) : kd h a0 = 13 := by
  unfold F_md_guestsAt at hS
  exact (ck_s hS).1
set_option maxRecDepth 20000 in
theorem R_md_guestsAt (d : Nat) (hd : 0 ≤ d) {a0 : Nat} {a1 : Int32} {h : Hp} {v : Int32} (hS : F_md_guestsAt a0 a1 h = some v) : Ev P d 239 (0, [.ref a0, .int a1, unk, unk], [], h) (some (.int v), h) := by
  unfold F_md_guestsAt at hS
  replace hS := (ck_s hS).2
  refine ev_iconst (v := 0) pm239 i239_0 rfl (by decide) rfl ?_
  refine ev_istore_n (ls' := [.ref a0, .int a1, .int (0 : Int32), unk]) pm239 i239_1 rfl (Nat.le_of_ble_eq_true rfl) rfl rfl ?_
  refine ev_iconst (v := 0) pm239 i239_2 rfl (by decide) rfl ?_
  refine ev_istore_n (ls' := [.ref a0, .int a1, .int (0 : Int32), .int (0 : Int32)]) pm239 i239_3 rfl (Nat.le_of_ble_eq_true rfl) rfl rfl ?_
  obtain ⟨x9, e10, hS⟩ := bn_s hS
  refine L_md_guestsAt_4 d (by omega) _ _ _ e10 _ ?_
  show Ev P d 239 (44, [unk, unk, .int x9, unk], [], h) _
  refine ev_iload_n pm239 i239_44 rfl rfl rfl ?_
  cases hS
  exact ev_ireturn pm239 i239_45 rfl rfl rfl
def F_md_house (a0 : Nat) (a1 : Int32) (a2 : Int32) (h : Hp) : Option (Int32 × Hp) :=
  ck h a0 13 (bn (pI h a0 13 0 (0 : Int32)) fun h1 =>
  bn (F_md_isHouse a0 a1 h1) fun x4 =>
  bn (if x4 = (0 : Int32) then
      (some (Sum.inl ()))
    else
      (bn (F_md_in a2 (0 : Int32) (5 : Int32)) fun x6 =>
      if x6 = (0 : Int32) then
        (some (Sum.inl ()))
      else
        (bn (F_md_works a0 h1) fun h8 =>
        if (a2).toInt < 0 ∨ 4 < (a2).toInt then
          (bn (F_md_guestsAt a0 a1 h8) fun x10 =>
          bd (F_md_good a0 x10 h8) fun x12 h13 =>
          some (Sum.inr (x12, h13)))
        else if a2 = (0 : Int32) then
          (bn (gR h8 a0 13 3) fun x14 =>
          bn (gR h8 x14 12 9) fun x16 =>
          bn (aI h8 100 x16 a1) fun x18 =>
          bd (F_md_good a0 x18 h8) fun x21 h22 =>
          some (Sum.inr (x21, h22)))
        else if a2 = (1 : Int32) then
          (bn (F_md_weightOf a0 a1 h8) fun x24 =>
          bd (F_md_good a0 x24 h8) fun x26 h27 =>
          some (Sum.inr (x26, h27)))
        else if a2 = (2 : Int32) then
          (bn (F_md_liftOf a0 a1 h8) fun x29 =>
          bd (F_md_good a0 x29 h8) fun x31 h32 =>
          some (Sum.inr (x31, h32)))
        else if a2 = (3 : Int32) then
          (bn (F_md_heightOf a0 a1 h8) fun x34 =>
          bd (F_md_good a0 ((1000 : Int32) + x34) h8) fun x36 h37 =>
          some (Sum.inr (x36, h37)))
        else if a2 = (4 : Int32) then
          (bn (F_md_raftOf a0 a1 h8) fun x39 =>
          bd (F_md_good a0 x39 h8) fun x41 h42 =>
          some (Sum.inr (x41, h42)))
        else none))) fun x48 =>
  ei x48 (fun z44 =>
  bd (F_md_refused a0 (1 : Int32) h1) fun x46 h47 =>
  some (x46, h47))
  (fun z => some z))
set_option maxRecDepth 20000 in
theorem K_md_house {a0 : Nat} {a1 : Int32} {a2 : Int32} {h : Hp} {v : Int32} {h' : Hp} (hS : F_md_house a0 a1 a2 h = some (v, h')) : kd h a0 = 13 := by
  unfold F_md_house at hS
  exact (ck_s hS).1
set_option maxRecDepth 20000 in
theorem R_md_house (d : Nat) (hd : 5 ≤ d) {a0 : Nat} {a1 : Int32} {a2 : Int32} {h : Hp} {v : Int32} {h' : Hp} (hS : F_md_house a0 a1 a2 h = some (v, h')) : Ev P d 227 (0, [.ref a0, .int a1, .int a2], [], h) (some (.int v), h') := by
  unfold F_md_house at hS
  replace hS := (ck_s hS).2
  refine ev_aload_n pm227 i227_0 rfl rfl rfl ?_
  refine ev_iconst (v := 0) pm227 i227_1 rfl (by decide) rfl ?_
  obtain ⟨h1, e2, hS⟩ := bn_s hS
  refine ev_putI pm227 i227_2 rfl rfl rfl e2 rfl ?_
  refine ev_aload_n pm227 i227_5 rfl rfl rfl ?_
  refine ev_iload_n pm227 i227_6 rfl rfl rfl ?_
  obtain ⟨x4, e3, hS⟩ := bn_s hS
  refine ev_callV (sa := [.int a1]) (rest := []) (st' := [.int x4]) (ls0 := [.ref a0, .int a1]) (rv := some (.int x4)) pm227 i227_7 rfl rfl pm228 (by decide) (K_md_isHouse e3) rfl rfl (Nat.le_of_ble_eq_true rfl) (by omega) rfl (R_md_isHouse (d - 1) (by omega) e3) (by simp) rfl rfl ?_
  obtain ⟨x48, I573, hS⟩ := bn_s hS
  have J1 : ∀ z44, x48 = Sum.inl z44 → Ev P d 227 (22, [.ref a0, unk, unk], [], h1) (some (.int v), h') := by
    intro z44 hx
    subst hx
    replace hS := ei_l hS
    refine ev_aload_n pm227 i227_22 rfl rfl rfl ?_
    refine ev_iconst (v := 1) pm227 i227_23 rfl (by decide) rfl ?_
    obtain ⟨x46, h47, e45, hS⟩ := bd_s hS
    refine ev_callV (sa := [.int (1 : Int32)]) (rest := []) (st' := [.int x46]) (ls0 := [.ref a0, .int (1 : Int32)]) (rv := some (.int x46)) pm227 i227_24 rfl rfl pm186 (by decide) (K_md_refused e45) rfl rfl (Nat.le_of_ble_eq_true rfl) (by omega) rfl (R_md_refused (d - 1) (by omega) e45) (by simp) rfl rfl ?_
    cases hS
    exact ev_ireturn pm227 i227_27 rfl rfl rfl
  have Z1 := ej_z hS
  clear hS
  by_cases c573 : x4 = (0 : Int32)
  · rw [if_pos c573] at I573
    refine ev_if_eq_t (t := 22) pm227 i227_10 rfl c573 rfl rfl ?_
    refine ev_kls (ls' := [.ref a0, unk, unk]) pm227 i227_22 rfl rfl ?_
    cases I573
    exact J1 _ rfl
  · rw [if_neg c573] at I573
    refine ev_if_eq_f (t := 22) pm227 i227_10 rfl c573 rfl rfl ?_
    refine ev_iload_n pm227 i227_13 rfl rfl rfl ?_
    refine ev_iconst (v := 0) pm227 i227_14 rfl (by decide) rfl ?_
    refine ev_iconst (v := 5) pm227 i227_15 rfl (by decide) rfl ?_
    obtain ⟨x6, e5, I573⟩ := bn_s I573
    refine ev_callS (sa := [.int (5 : Int32), .int (0 : Int32), .int a2]) (rest := []) (st' := [.int x6]) (ls0 := [.int a2, .int (0 : Int32), .int (5 : Int32)]) (rv := some (.int x6)) pm227 i227_16 rfl rfl pm201 (by decide) rfl rfl (Nat.le_of_ble_eq_true rfl) (by omega) rfl (R_md_in (d - 1) (by omega) e5) (by simp) rfl rfl ?_
    by_cases c574 : x6 = (0 : Int32)
    · rw [if_pos c574] at I573
      refine ev_if_ne_t (t := 28) pm227 i227_19 rfl c574 rfl rfl ?_
      refine ev_kls (ls' := [.ref a0, unk, unk]) pm227 i227_22 rfl rfl ?_
      cases I573
      exact J1 _ rfl
    · rw [if_neg c574] at I573
      refine ev_if_ne_f (t := 28) pm227 i227_19 rfl c574 rfl rfl ?_
      refine ev_aload_n pm227 i227_28 rfl rfl rfl ?_
      obtain ⟨h8, e7, I573⟩ := bn_s I573
      refine ev_callV (sa := []) (rest := []) (st' := []) (ls0 := [.ref a0, unk]) (rv := none) pm227 i227_29 rfl rfl pm229 (by decide) (K_md_works e7) rfl rfl (Nat.le_of_ble_eq_true rfl) (by omega) rfl (R_md_works (d - 1) (by omega) e7) (by simp) rfl rfl ?_
      refine ev_iload_n pm227 i227_32 rfl rfl rfl ?_
      by_cases c575 : (a2).toInt < 0 ∨ 4 < (a2).toInt
      · rw [if_pos c575] at I573
        refine ev_tabO (t := 126) pm227 i227_33 rfl c575 rfl ?_
        refine ev_aload_n pm227 i227_126 rfl rfl rfl ?_
        refine ev_aload_n pm227 i227_127 rfl rfl rfl ?_
        refine ev_iload_n pm227 i227_128 rfl rfl rfl ?_
        obtain ⟨x10, e9, I573⟩ := bn_s I573
        refine ev_callV (sa := [.int a1]) (rest := [.ref a0]) (st' := [.int x10, .ref a0]) (ls0 := [.ref a0, .int a1, unk, unk]) (rv := some (.int x10)) pm227 i227_129 rfl rfl pm239 (by decide) (K_md_guestsAt e9) rfl rfl (Nat.le_of_ble_eq_true rfl) (by omega) rfl (R_md_guestsAt (d - 1) (by omega) e9) (by simp) rfl rfl ?_
        obtain ⟨x12, h13, e11, I573⟩ := bd_s I573
        refine ev_callV (sa := [.int x10]) (rest := []) (st' := [.int x12]) (ls0 := [.ref a0, .int x10]) (rv := some (.int x12)) pm227 i227_132 rfl rfl pm224 (by decide) (K_md_good e11) rfl rfl (Nat.le_of_ble_eq_true rfl) (by omega) rfl (R_md_good (d - 1) (by omega) e11) (by simp) rfl rfl ?_
        cases I573
        have hz1 := Z1 _ rfl
        cases hz1
        exact ev_ireturn pm227 i227_135 rfl rfl rfl
      rw [if_neg c575] at I573
      by_cases c576 : a2 = (0 : Int32)
      · rw [if_pos c576] at I573
        refine ev_tabI (t := 68) (off := 35) pm227 i227_33 rfl (0 : Int32) c576 (by decide) rfl rfl ?_
        refine ev_aload_n pm227 i227_68 rfl rfl rfl ?_
        refine ev_aload_n pm227 i227_69 rfl rfl rfl ?_
        obtain ⟨x14, e15, I573⟩ := bn_s I573
        refine ev_getR pm227 i227_70 rfl rfl rfl e15 rfl ?_
        obtain ⟨x16, e17, I573⟩ := bn_s I573
        refine ev_getR pm227 i227_73 rfl rfl rfl e17 rfl ?_
        refine ev_iload_n pm227 i227_76 rfl rfl rfl ?_
        obtain ⟨x18, e19, I573⟩ := bn_s I573
        refine ev_iald pm227 i227_77 rfl e19 rfl ?_
        obtain ⟨x21, h22, e20, I573⟩ := bd_s I573
        refine ev_callV (sa := [.int x18]) (rest := []) (st' := [.int x21]) (ls0 := [.ref a0, .int x18]) (rv := some (.int x21)) pm227 i227_78 rfl rfl pm224 (by decide) (K_md_good e20) rfl rfl (Nat.le_of_ble_eq_true rfl) (by omega) rfl (R_md_good (d - 1) (by omega) e20) (by simp) rfl rfl ?_
        cases I573
        have hz1 := Z1 _ rfl
        cases hz1
        exact ev_ireturn pm227 i227_81 rfl rfl rfl
      rw [if_neg c576] at I573
      by_cases c577 : a2 = (1 : Int32)
      · rw [if_pos c577] at I573
        refine ev_tabI (t := 82) (off := 49) pm227 i227_33 rfl (1 : Int32) c577 (by decide) rfl rfl ?_
        refine ev_aload_n pm227 i227_82 rfl rfl rfl ?_
        refine ev_aload_n pm227 i227_83 rfl rfl rfl ?_
        refine ev_iload_n pm227 i227_84 rfl rfl rfl ?_
        obtain ⟨x24, e23, I573⟩ := bn_s I573
        refine ev_callV (sa := [.int a1]) (rest := [.ref a0]) (st' := [.int x24, .ref a0]) (ls0 := [.ref a0, .int a1, unk, unk]) (rv := some (.int x24)) pm227 i227_85 rfl rfl pm230 (by decide) (K_md_weightOf e23) rfl rfl (Nat.le_of_ble_eq_true rfl) (by omega) rfl (R_md_weightOf (d - 1) (by omega) e23) (by simp) rfl rfl ?_
        obtain ⟨x26, h27, e25, I573⟩ := bd_s I573
        refine ev_callV (sa := [.int x24]) (rest := []) (st' := [.int x26]) (ls0 := [.ref a0, .int x24]) (rv := some (.int x26)) pm227 i227_88 rfl rfl pm224 (by decide) (K_md_good e25) rfl rfl (Nat.le_of_ble_eq_true rfl) (by omega) rfl (R_md_good (d - 1) (by omega) e25) (by simp) rfl rfl ?_
        cases I573
        have hz1 := Z1 _ rfl
        cases hz1
        exact ev_ireturn pm227 i227_91 rfl rfl rfl
      rw [if_neg c577] at I573
      by_cases c578 : a2 = (2 : Int32)
      · rw [if_pos c578] at I573
        refine ev_tabI (t := 92) (off := 59) pm227 i227_33 rfl (2 : Int32) c578 (by decide) rfl rfl ?_
        refine ev_aload_n pm227 i227_92 rfl rfl rfl ?_
        refine ev_aload_n pm227 i227_93 rfl rfl rfl ?_
        refine ev_iload_n pm227 i227_94 rfl rfl rfl ?_
        obtain ⟨x29, e28, I573⟩ := bn_s I573
        refine ev_callV (sa := [.int a1]) (rest := [.ref a0]) (st' := [.int x29, .ref a0]) (ls0 := [.ref a0, .int a1, unk, unk]) (rv := some (.int x29)) pm227 i227_95 rfl rfl pm231 (by decide) (K_md_liftOf e28) rfl rfl (Nat.le_of_ble_eq_true rfl) (by omega) rfl (R_md_liftOf (d - 1) (by omega) e28) (by simp) rfl rfl ?_
        obtain ⟨x31, h32, e30, I573⟩ := bd_s I573
        refine ev_callV (sa := [.int x29]) (rest := []) (st' := [.int x31]) (ls0 := [.ref a0, .int x29]) (rv := some (.int x31)) pm227 i227_98 rfl rfl pm224 (by decide) (K_md_good e30) rfl rfl (Nat.le_of_ble_eq_true rfl) (by omega) rfl (R_md_good (d - 1) (by omega) e30) (by simp) rfl rfl ?_
        cases I573
        have hz1 := Z1 _ rfl
        cases hz1
        exact ev_ireturn pm227 i227_101 rfl rfl rfl
      rw [if_neg c578] at I573
      by_cases c579 : a2 = (3 : Int32)
      · rw [if_pos c579] at I573
        refine ev_tabI (t := 102) (off := 69) pm227 i227_33 rfl (3 : Int32) c579 (by decide) rfl rfl ?_
        refine ev_aload_n pm227 i227_102 rfl rfl rfl ?_
        refine ev_sipush (v := 1000) pm227 i227_103 rfl (by decide) rfl ?_
        refine ev_aload_n pm227 i227_106 rfl rfl rfl ?_
        refine ev_iload_n pm227 i227_107 rfl rfl rfl ?_
        obtain ⟨x34, e33, I573⟩ := bn_s I573
        refine ev_callV (sa := [.int a1]) (rest := [.int (1000 : Int32), .ref a0]) (st' := [.int x34, .int (1000 : Int32), .ref a0]) (ls0 := [.ref a0, .int a1, unk]) (rv := some (.int x34)) pm227 i227_108 rfl rfl pm233 (by decide) (K_md_heightOf e33) rfl rfl (Nat.le_of_ble_eq_true rfl) (by omega) rfl (R_md_heightOf (d - 1) (by omega) e33) (by simp) rfl rfl ?_
        refine ev_b2 (f := fun x y => x + y) pm227 i227_111 rfl (fun _ _ _ _ => rfl) rfl ?_
        obtain ⟨x36, h37, e35, I573⟩ := bd_s I573
        refine ev_callV (sa := [.int ((1000 : Int32) + x34)]) (rest := []) (st' := [.int x36]) (ls0 := [.ref a0, .int ((1000 : Int32) + x34)]) (rv := some (.int x36)) pm227 i227_112 rfl rfl pm224 (by decide) (K_md_good e35) rfl rfl (Nat.le_of_ble_eq_true rfl) (by omega) rfl (R_md_good (d - 1) (by omega) e35) (by simp) rfl rfl ?_
        cases I573
        have hz1 := Z1 _ rfl
        cases hz1
        exact ev_ireturn pm227 i227_115 rfl rfl rfl
      rw [if_neg c579] at I573
      by_cases c580 : a2 = (4 : Int32)
      · rw [if_pos c580] at I573
        refine ev_tabI (t := 116) (off := 83) pm227 i227_33 rfl (4 : Int32) c580 (by decide) rfl rfl ?_
        refine ev_aload_n pm227 i227_116 rfl rfl rfl ?_
        refine ev_aload_n pm227 i227_117 rfl rfl rfl ?_
        refine ev_iload_n pm227 i227_118 rfl rfl rfl ?_
        obtain ⟨x39, e38, I573⟩ := bn_s I573
        refine ev_callV (sa := [.int a1]) (rest := [.ref a0]) (st' := [.int x39, .ref a0]) (ls0 := [.ref a0, .int a1, unk, unk, unk]) (rv := some (.int x39)) pm227 i227_119 rfl rfl pm234 (by decide) (K_md_raftOf e38) rfl rfl (Nat.le_of_ble_eq_true rfl) (by omega) rfl (R_md_raftOf (d - 1) (by omega) e38) (by simp) rfl rfl ?_
        obtain ⟨x41, h42, e40, I573⟩ := bd_s I573
        refine ev_callV (sa := [.int x39]) (rest := []) (st' := [.int x41]) (ls0 := [.ref a0, .int x39]) (rv := some (.int x41)) pm227 i227_122 rfl rfl pm224 (by decide) (K_md_good e40) rfl rfl (Nat.le_of_ble_eq_true rfl) (by omega) rfl (R_md_good (d - 1) (by omega) e40) (by simp) rfl rfl ?_
        cases I573
        have hz1 := Z1 _ rfl
        cases hz1
        exact ev_ireturn pm227 i227_125 rfl rfl rfl
      rw [if_neg c580] at I573
      cases I573
def F_md_corks (a0 : Nat) (a1 : Int32) (a2 : Int32) (h : Hp) : Option (Int32 × Hp) :=
  ck h a0 13 (bn (pI h a0 13 0 (0 : Int32)) fun h1 =>
  bn (F_md_isHouse a0 a1 h1) fun x4 =>
  if x4 = (0 : Int32) then
    (bd (F_md_refused a0 (1 : Int32) h1) fun x6 h7 =>
    some (x6, h7))
  else
    (bn (F_md_in a2 (0 : Int32) (4 : Int32)) fun x9 =>
    if x9 = (0 : Int32) then
      (bd (F_md_refused a0 (2 : Int32) h1) fun x11 h12 =>
      some (x11, h12))
    else
      (bn (gR h1 a0 13 15) fun x13 =>
      bn (F_md_cell a1 a2) fun x16 =>
      bn (aI h1 100 x13 x16) fun x17 =>
      bd (F_md_good a0 x17 h1) fun x20 h21 =>
      some (x20, h21))))
set_option maxRecDepth 20000 in
theorem K_md_corks {a0 : Nat} {a1 : Int32} {a2 : Int32} {h : Hp} {v : Int32} {h' : Hp} (hS : F_md_corks a0 a1 a2 h = some (v, h')) : kd h a0 = 13 := by
  unfold F_md_corks at hS
  exact (ck_s hS).1
set_option maxRecDepth 20000 in
theorem R_md_corks (d : Nat) (hd : 1 ≤ d) {a0 : Nat} {a1 : Int32} {a2 : Int32} {h : Hp} {v : Int32} {h' : Hp} (hS : F_md_corks a0 a1 a2 h = some (v, h')) : Ev P d 240 (0, [.ref a0, .int a1, .int a2], [], h) (some (.int v), h') := by
  unfold F_md_corks at hS
  replace hS := (ck_s hS).2
  refine ev_aload_n pm240 i240_0 rfl rfl rfl ?_
  refine ev_iconst (v := 0) pm240 i240_1 rfl (by decide) rfl ?_
  obtain ⟨h1, e2, hS⟩ := bn_s hS
  refine ev_putI pm240 i240_2 rfl rfl rfl e2 rfl ?_
  refine ev_aload_n pm240 i240_5 rfl rfl rfl ?_
  refine ev_iload_n pm240 i240_6 rfl rfl rfl ?_
  obtain ⟨x4, e3, hS⟩ := bn_s hS
  refine ev_callV (sa := [.int a1]) (rest := []) (st' := [.int x4]) (ls0 := [.ref a0, .int a1]) (rv := some (.int x4)) pm240 i240_7 rfl rfl pm228 (by decide) (K_md_isHouse e3) rfl rfl (Nat.le_of_ble_eq_true rfl) (by omega) rfl (R_md_isHouse (d - 1) (by omega) e3) (by simp) rfl rfl ?_
  by_cases c581 : x4 = (0 : Int32)
  · rw [if_pos c581] at hS
    refine ev_if_ne_t (t := 19) pm240 i240_10 rfl c581 rfl rfl ?_
    refine ev_aload_n pm240 i240_13 rfl rfl rfl ?_
    refine ev_iconst (v := 1) pm240 i240_14 rfl (by decide) rfl ?_
    obtain ⟨x6, h7, e5, hS⟩ := bd_s hS
    refine ev_callV (sa := [.int (1 : Int32)]) (rest := []) (st' := [.int x6]) (ls0 := [.ref a0, .int (1 : Int32)]) (rv := some (.int x6)) pm240 i240_15 rfl rfl pm186 (by decide) (K_md_refused e5) rfl rfl (Nat.le_of_ble_eq_true rfl) (by omega) rfl (R_md_refused (d - 1) (by omega) e5) (by simp) rfl rfl ?_
    cases hS
    exact ev_ireturn pm240 i240_18 rfl rfl rfl
  · rw [if_neg c581] at hS
    refine ev_if_ne_f (t := 19) pm240 i240_10 rfl c581 rfl rfl ?_
    refine ev_iload_n pm240 i240_19 rfl rfl rfl ?_
    refine ev_iconst (v := 0) pm240 i240_20 rfl (by decide) rfl ?_
    refine ev_iconst (v := 4) pm240 i240_21 rfl (by decide) rfl ?_
    obtain ⟨x9, e8, hS⟩ := bn_s hS
    refine ev_callS (sa := [.int (4 : Int32), .int (0 : Int32), .int a2]) (rest := []) (st' := [.int x9]) (ls0 := [.int a2, .int (0 : Int32), .int (4 : Int32)]) (rv := some (.int x9)) pm240 i240_22 rfl rfl pm201 (by decide) rfl rfl (Nat.le_of_ble_eq_true rfl) (by omega) rfl (R_md_in (d - 1) (by omega) e8) (by simp) rfl rfl ?_
    by_cases c582 : x9 = (0 : Int32)
    · rw [if_pos c582] at hS
      refine ev_if_eq_t (t := 45) pm240 i240_25 rfl c582 rfl rfl ?_
      refine ev_aload_n pm240 i240_45 rfl rfl rfl ?_
      refine ev_iconst (v := 2) pm240 i240_46 rfl (by decide) rfl ?_
      obtain ⟨x11, h12, e10, hS⟩ := bd_s hS
      refine ev_callV (sa := [.int (2 : Int32)]) (rest := []) (st' := [.int x11]) (ls0 := [.ref a0, .int (2 : Int32)]) (rv := some (.int x11)) pm240 i240_47 rfl rfl pm186 (by decide) (K_md_refused e10) rfl rfl (Nat.le_of_ble_eq_true rfl) (by omega) rfl (R_md_refused (d - 1) (by omega) e10) (by simp) rfl rfl ?_
      refine ev_kls (ls' := [unk, unk, unk]) pm240 i240_50 rfl rfl ?_
      cases hS
      exact ev_ireturn pm240 i240_50 rfl rfl rfl
    · rw [if_neg c582] at hS
      refine ev_if_eq_f (t := 45) pm240 i240_25 rfl c582 rfl rfl ?_
      refine ev_aload_n pm240 i240_28 rfl rfl rfl ?_
      refine ev_aload_n pm240 i240_29 rfl rfl rfl ?_
      obtain ⟨x13, e14, hS⟩ := bn_s hS
      refine ev_getR pm240 i240_30 rfl rfl rfl e14 rfl ?_
      refine ev_iload_n pm240 i240_33 rfl rfl rfl ?_
      refine ev_iload_n pm240 i240_34 rfl rfl rfl ?_
      obtain ⟨x16, e15, hS⟩ := bn_s hS
      refine ev_callS (sa := [.int a2, .int a1]) (rest := [.ref x13, .ref a0]) (st' := [.int x16, .ref x13, .ref a0]) (ls0 := [.int a1, .int a2]) (rv := some (.int x16)) pm240 i240_35 rfl rfl pm223 (by decide) rfl rfl (Nat.le_of_ble_eq_true rfl) (by omega) rfl (R_md_cell (d - 1) (by omega) e15) (by simp) rfl rfl ?_
      obtain ⟨x17, e18, hS⟩ := bn_s hS
      refine ev_iald pm240 i240_38 rfl e18 rfl ?_
      obtain ⟨x20, h21, e19, hS⟩ := bd_s hS
      refine ev_callV (sa := [.int x17]) (rest := []) (st' := [.int x20]) (ls0 := [.ref a0, .int x17]) (rv := some (.int x20)) pm240 i240_39 rfl rfl pm224 (by decide) (K_md_good e19) rfl rfl (Nat.le_of_ble_eq_true rfl) (by omega) rfl (R_md_good (d - 1) (by omega) e19) (by simp) rfl rfl ?_
      refine ev_goto (t := 50) pm240 i240_42 rfl rfl ?_
      refine ev_kls (ls' := [unk, unk, unk]) pm240 i240_50 rfl rfl ?_
      cases hS
      exact ev_ireturn pm240 i240_50 rfl rfl rfl
def F_md_isGuest (a0 : Nat) (a1 : Int32) (h : Hp) : Option Int32 :=
  ck h a0 13 (bn (gQ h a0 13 3) fun x1 =>
  if x1 = none then
    (some (0 : Int32))
  else
    (if a1 < (0 : Int32) then
      (some (0 : Int32))
    else
      (bn (gR h a0 13 3) fun x3 =>
      bn (gI h x3 12 3) fun x5 =>
      if a1 < x5 then
        (some (1 : Int32))
      else
        (some (0 : Int32)))))
set_option maxRecDepth 20000 in
theorem K_md_isGuest {a0 : Nat} {a1 : Int32} {h : Hp} {v : Int32} (hS : F_md_isGuest a0 a1 h = some v) : kd h a0 = 13 := by
  unfold F_md_isGuest at hS
  exact (ck_s hS).1
set_option maxRecDepth 20000 in
theorem R_md_isGuest (d : Nat) (hd : 0 ≤ d) {a0 : Nat} {a1 : Int32} {h : Hp} {v : Int32} (hS : F_md_isGuest a0 a1 h = some v) : Ev P d 242 (0, [.ref a0, .int a1], [], h) (some (.int v), h) := by
  unfold F_md_isGuest at hS
  replace hS := (ck_s hS).2
  refine ev_aload_n pm242 i242_0 rfl rfl rfl ?_
  obtain ⟨x1, e2, hS⟩ := bn_s hS
  refine ev_getQ pm242 i242_1 rfl rfl rfl e2 rfl ?_
  by_cases c583 : x1 = none
  · rw [if_pos c583] at hS
    subst c583
    refine ev_nullT (t := 26) pm242 i242_4 rfl rfl ?_
    refine ev_kls (ls' := [unk, unk]) pm242 i242_26 rfl rfl ?_
    refine ev_iconst (v := 0) pm242 i242_26 rfl (by decide) rfl ?_
    cases hS
    exact ev_ireturn pm242 i242_27 rfl (by decide) rfl
  · rw [if_neg c583] at hS
    obtain ⟨_, rfl⟩ := Option.ne_none_iff_exists'.mp c583
    refine ev_nullF pm242 i242_4 rfl rfl ?_
    refine ev_iload_n pm242 i242_7 rfl rfl rfl ?_
    by_cases c584 : a1 < (0 : Int32)
    · rw [if_pos c584] at hS
      refine ev_if_lt_t (t := 26) pm242 i242_8 rfl c584 rfl rfl ?_
      refine ev_kls (ls' := [unk, unk]) pm242 i242_26 rfl rfl ?_
      refine ev_iconst (v := 0) pm242 i242_26 rfl (by decide) rfl ?_
      cases hS
      exact ev_ireturn pm242 i242_27 rfl (by decide) rfl
    · rw [if_neg c584] at hS
      refine ev_if_lt_f (t := 26) pm242 i242_8 rfl c584 rfl rfl ?_
      refine ev_iload_n pm242 i242_11 rfl rfl rfl ?_
      refine ev_aload_n pm242 i242_12 rfl rfl rfl ?_
      obtain ⟨x3, e4, hS⟩ := bn_s hS
      refine ev_getR pm242 i242_13 rfl rfl rfl e4 rfl ?_
      obtain ⟨x5, e6, hS⟩ := bn_s hS
      refine ev_getI pm242 i242_16 rfl rfl (by decide) e6 rfl ?_
      by_cases c585 : a1 < x5
      · rw [if_pos c585] at hS
        refine ev_icmp_ge_t (t := 26) pm242 i242_19 rfl c585 rfl rfl ?_
        refine ev_iconst (v := 1) pm242 i242_22 rfl (by decide) rfl ?_
        refine ev_goto (t := 27) pm242 i242_23 rfl rfl ?_
        refine ev_kls (ls' := [unk, unk]) pm242 i242_27 rfl rfl ?_
        cases hS
        exact ev_ireturn pm242 i242_27 rfl (by decide) rfl
      · rw [if_neg c585] at hS
        refine ev_icmp_ge_f (t := 26) pm242 i242_19 rfl c585 rfl rfl ?_
        refine ev_kls (ls' := [unk, unk]) pm242 i242_26 rfl rfl ?_
        refine ev_iconst (v := 0) pm242 i242_26 rfl (by decide) rfl ?_
        cases hS
        exact ev_ireturn pm242 i242_27 rfl (by decide) rfl
def F_md_guest (a0 : Nat) (a1 : Int32) (a2 : Int32) (h : Hp) : Option (Int32 × Hp) :=
  ck h a0 13 (bn (pI h a0 13 0 (0 : Int32)) fun h1 =>
  bn (F_md_isGuest a0 a1 h1) fun x4 =>
  bn (if x4 = (0 : Int32) then
      (some (Sum.inl ()))
    else
      (bn (F_md_in a2 (0 : Int32) (1 : Int32)) fun x6 =>
      if x6 = (0 : Int32) then
        (some (Sum.inl ()))
      else
        (bn (if a2 = (0 : Int32) then
            (bn (gR h1 a0 13 3) fun x7 =>
            bn (gR h1 x7 12 15) fun x9 =>
            bn (aI h1 100 x9 a1) fun x11 =>
            some x11)
          else
            (bn (gR h1 a0 13 15) fun x13 =>
            bn (aI h1 100 x13 ((25 : Int32) + a1)) fun x15 =>
            some x15)) fun q17 =>
        bd (F_md_good a0 q17 h1) fun x19 h20 =>
        some (Sum.inr (x19, h20))))) fun x26 =>
  ei x26 (fun z22 =>
  bd (F_md_refused a0 (1 : Int32) h1) fun x24 h25 =>
  some (x24, h25))
  (fun z => some z))
set_option maxRecDepth 20000 in
theorem K_md_guest {a0 : Nat} {a1 : Int32} {a2 : Int32} {h : Hp} {v : Int32} {h' : Hp} (hS : F_md_guest a0 a1 a2 h = some (v, h')) : kd h a0 = 13 := by
  unfold F_md_guest at hS
  exact (ck_s hS).1
set_option maxRecDepth 20000 in
theorem R_md_guest (d : Nat) (hd : 1 ≤ d) {a0 : Nat} {a1 : Int32} {a2 : Int32} {h : Hp} {v : Int32} {h' : Hp} (hS : F_md_guest a0 a1 a2 h = some (v, h')) : Ev P d 241 (0, [.ref a0, .int a1, .int a2], [], h) (some (.int v), h') := by
  unfold F_md_guest at hS
  replace hS := (ck_s hS).2
  refine ev_aload_n pm241 i241_0 rfl rfl rfl ?_
  refine ev_iconst (v := 0) pm241 i241_1 rfl (by decide) rfl ?_
  obtain ⟨h1, e2, hS⟩ := bn_s hS
  refine ev_putI pm241 i241_2 rfl rfl rfl e2 rfl ?_
  refine ev_aload_n pm241 i241_5 rfl rfl rfl ?_
  refine ev_iload_n pm241 i241_6 rfl rfl rfl ?_
  obtain ⟨x4, e3, hS⟩ := bn_s hS
  refine ev_callV (sa := [.int a1]) (rest := []) (st' := [.int x4]) (ls0 := [.ref a0, .int a1]) (rv := some (.int x4)) pm241 i241_7 rfl rfl pm242 (by decide) (K_md_isGuest e3) rfl rfl (Nat.le_of_ble_eq_true rfl) (by omega) rfl (R_md_isGuest (d - 1) (by omega) e3) (by simp) rfl rfl ?_
  obtain ⟨x26, I586, hS⟩ := bn_s hS
  have J1 : ∀ z22, x26 = Sum.inl z22 → Ev P d 241 (22, [.ref a0, unk, unk], [], h1) (some (.int v), h') := by
    intro z22 hx
    subst hx
    replace hS := ei_l hS
    refine ev_aload_n pm241 i241_22 rfl rfl rfl ?_
    refine ev_iconst (v := 1) pm241 i241_23 rfl (by decide) rfl ?_
    obtain ⟨x24, h25, e23, hS⟩ := bd_s hS
    refine ev_callV (sa := [.int (1 : Int32)]) (rest := []) (st' := [.int x24]) (ls0 := [.ref a0, .int (1 : Int32)]) (rv := some (.int x24)) pm241 i241_24 rfl rfl pm186 (by decide) (K_md_refused e23) rfl rfl (Nat.le_of_ble_eq_true rfl) (by omega) rfl (R_md_refused (d - 1) (by omega) e23) (by simp) rfl rfl ?_
    cases hS
    exact ev_ireturn pm241 i241_27 rfl rfl rfl
  have Z1 := ej_z hS
  clear hS
  by_cases c586 : x4 = (0 : Int32)
  · rw [if_pos c586] at I586
    refine ev_if_eq_t (t := 22) pm241 i241_10 rfl c586 rfl rfl ?_
    refine ev_kls (ls' := [.ref a0, unk, unk]) pm241 i241_22 rfl rfl ?_
    cases I586
    exact J1 _ rfl
  · rw [if_neg c586] at I586
    refine ev_if_eq_f (t := 22) pm241 i241_10 rfl c586 rfl rfl ?_
    refine ev_iload_n pm241 i241_13 rfl rfl rfl ?_
    refine ev_iconst (v := 0) pm241 i241_14 rfl (by decide) rfl ?_
    refine ev_iconst (v := 1) pm241 i241_15 rfl (by decide) rfl ?_
    obtain ⟨x6, e5, I586⟩ := bn_s I586
    refine ev_callS (sa := [.int (1 : Int32), .int (0 : Int32), .int a2]) (rest := []) (st' := [.int x6]) (ls0 := [.int a2, .int (0 : Int32), .int (1 : Int32)]) (rv := some (.int x6)) pm241 i241_16 rfl rfl pm201 (by decide) rfl rfl (Nat.le_of_ble_eq_true rfl) (by omega) rfl (R_md_in (d - 1) (by omega) e5) (by simp) rfl rfl ?_
    by_cases c587 : x6 = (0 : Int32)
    · rw [if_pos c587] at I586
      refine ev_if_ne_t (t := 28) pm241 i241_19 rfl c587 rfl rfl ?_
      refine ev_kls (ls' := [.ref a0, unk, unk]) pm241 i241_22 rfl rfl ?_
      cases I586
      exact J1 _ rfl
    · rw [if_neg c587] at I586
      refine ev_if_ne_f (t := 28) pm241 i241_19 rfl c587 rfl rfl ?_
      refine ev_aload_n pm241 i241_28 rfl rfl rfl ?_
      refine ev_iload_n pm241 i241_29 rfl rfl rfl ?_
      obtain ⟨q17, I588, I586⟩ := bn_s I586
      have J2 : Ev P d 241 (54, [unk, unk, unk], [.int q17, .ref a0], h1) (some (.int v), h') := by
        obtain ⟨x19, h20, e18, I586⟩ := bd_s I586
        refine ev_callV (sa := [.int q17]) (rest := []) (st' := [.int x19]) (ls0 := [.ref a0, .int q17]) (rv := some (.int x19)) pm241 i241_54 rfl rfl pm224 (by decide) (K_md_good e18) rfl rfl (Nat.le_of_ble_eq_true rfl) (by omega) rfl (R_md_good (d - 1) (by omega) e18) (by simp) rfl rfl ?_
        cases I586
        have hz1 := Z1 _ rfl
        cases hz1
        exact ev_ireturn pm241 i241_57 rfl rfl rfl
      clear I586
      by_cases c588 : a2 = (0 : Int32)
      · rw [if_pos c588] at I588
        refine ev_if_ne_t (t := 45) pm241 i241_30 rfl c588 rfl rfl ?_
        refine ev_aload_n pm241 i241_33 rfl rfl rfl ?_
        obtain ⟨x7, e8, I588⟩ := bn_s I588
        refine ev_getR pm241 i241_34 rfl rfl rfl e8 rfl ?_
        obtain ⟨x9, e10, I588⟩ := bn_s I588
        refine ev_getR pm241 i241_37 rfl rfl rfl e10 rfl ?_
        refine ev_iload_n pm241 i241_40 rfl rfl rfl ?_
        obtain ⟨x11, e12, I588⟩ := bn_s I588
        refine ev_iald pm241 i241_41 rfl e12 rfl ?_
        refine ev_goto (t := 54) pm241 i241_42 rfl rfl ?_
        refine ev_kls (ls' := [unk, unk, unk]) pm241 i241_54 rfl rfl ?_
        cases I588
        exact J2
      · rw [if_neg c588] at I588
        refine ev_if_ne_f (t := 45) pm241 i241_30 rfl c588 rfl rfl ?_
        refine ev_aload_n pm241 i241_45 rfl rfl rfl ?_
        obtain ⟨x13, e14, I588⟩ := bn_s I588
        refine ev_getR pm241 i241_46 rfl rfl rfl e14 rfl ?_
        refine ev_bipush (v := 25) pm241 i241_49 rfl (by decide) rfl ?_
        refine ev_iload_n pm241 i241_51 rfl rfl rfl ?_
        refine ev_b2 (f := fun x y => x + y) pm241 i241_52 rfl (fun _ _ _ _ => rfl) rfl ?_
        obtain ⟨x15, e16, I588⟩ := bn_s I588
        refine ev_iald pm241 i241_53 rfl e16 rfl ?_
        refine ev_kls (ls' := [unk, unk, unk]) pm241 i241_54 rfl rfl ?_
        cases I588
        exact J2
def F_md_isRopeNumber (a0 : Nat) (a1 : Int32) (h : Hp) : Option Int32 :=
  ck h a0 13 (bn (gQ h a0 13 3) fun x1 =>
  if x1 = none then
    (some (0 : Int32))
  else
    (if a1 < (0 : Int32) then
      (some (0 : Int32))
    else
      (bn (gR h a0 13 3) fun x3 =>
      bn (gI h x3 12 2) fun x5 =>
      if a1 < x5 then
        (some (1 : Int32))
      else
        (some (0 : Int32)))))
set_option maxRecDepth 20000 in
theorem K_md_isRopeNumber {a0 : Nat} {a1 : Int32} {h : Hp} {v : Int32} (hS : F_md_isRopeNumber a0 a1 h = some v) : kd h a0 = 13 := by
  unfold F_md_isRopeNumber at hS
  exact (ck_s hS).1
set_option maxRecDepth 20000 in
theorem R_md_isRopeNumber (d : Nat) (hd : 0 ≤ d) {a0 : Nat} {a1 : Int32} {h : Hp} {v : Int32} (hS : F_md_isRopeNumber a0 a1 h = some v) : Ev P d 244 (0, [.ref a0, .int a1], [], h) (some (.int v), h) := by
  unfold F_md_isRopeNumber at hS
  replace hS := (ck_s hS).2
  refine ev_aload_n pm244 i244_0 rfl rfl rfl ?_
  obtain ⟨x1, e2, hS⟩ := bn_s hS
  refine ev_getQ pm244 i244_1 rfl rfl rfl e2 rfl ?_
  by_cases c589 : x1 = none
  · rw [if_pos c589] at hS
    subst c589
    refine ev_nullT (t := 26) pm244 i244_4 rfl rfl ?_
    refine ev_kls (ls' := [unk, unk]) pm244 i244_26 rfl rfl ?_
    refine ev_iconst (v := 0) pm244 i244_26 rfl (by decide) rfl ?_
    cases hS
    exact ev_ireturn pm244 i244_27 rfl (by decide) rfl
  · rw [if_neg c589] at hS
    obtain ⟨_, rfl⟩ := Option.ne_none_iff_exists'.mp c589
    refine ev_nullF pm244 i244_4 rfl rfl ?_
    refine ev_iload_n pm244 i244_7 rfl rfl rfl ?_
    by_cases c590 : a1 < (0 : Int32)
    · rw [if_pos c590] at hS
      refine ev_if_lt_t (t := 26) pm244 i244_8 rfl c590 rfl rfl ?_
      refine ev_kls (ls' := [unk, unk]) pm244 i244_26 rfl rfl ?_
      refine ev_iconst (v := 0) pm244 i244_26 rfl (by decide) rfl ?_
      cases hS
      exact ev_ireturn pm244 i244_27 rfl (by decide) rfl
    · rw [if_neg c590] at hS
      refine ev_if_lt_f (t := 26) pm244 i244_8 rfl c590 rfl rfl ?_
      refine ev_iload_n pm244 i244_11 rfl rfl rfl ?_
      refine ev_aload_n pm244 i244_12 rfl rfl rfl ?_
      obtain ⟨x3, e4, hS⟩ := bn_s hS
      refine ev_getR pm244 i244_13 rfl rfl rfl e4 rfl ?_
      obtain ⟨x5, e6, hS⟩ := bn_s hS
      refine ev_getI pm244 i244_16 rfl rfl (by decide) e6 rfl ?_
      by_cases c591 : a1 < x5
      · rw [if_pos c591] at hS
        refine ev_icmp_ge_t (t := 26) pm244 i244_19 rfl c591 rfl rfl ?_
        refine ev_iconst (v := 1) pm244 i244_22 rfl (by decide) rfl ?_
        refine ev_goto (t := 27) pm244 i244_23 rfl rfl ?_
        refine ev_kls (ls' := [unk, unk]) pm244 i244_27 rfl rfl ?_
        cases hS
        exact ev_ireturn pm244 i244_27 rfl (by decide) rfl
      · rw [if_neg c591] at hS
        refine ev_icmp_ge_f (t := 26) pm244 i244_19 rfl c591 rfl rfl ?_
        refine ev_kls (ls' := [unk, unk]) pm244 i244_26 rfl rfl ?_
        refine ev_iconst (v := 0) pm244 i244_26 rfl (by decide) rfl ?_
        cases hS
        exact ev_ireturn pm244 i244_27 rfl (by decide) rfl
def F_md_rope (a0 : Nat) (a1 : Int32) (a2 : Int32) (h : Hp) : Option (Int32 × Hp) :=
  ck h a0 13 (bn (pI h a0 13 0 (0 : Int32)) fun h1 =>
  bn (F_md_isRopeNumber a0 a1 h1) fun x4 =>
  bn (if x4 = (0 : Int32) then
      (some (Sum.inl ()))
    else
      (bn (F_md_in a2 (0 : Int32) (2 : Int32)) fun x6 =>
      if x6 = (0 : Int32) then
        (some (Sum.inl ()))
      else
        (bn (if a2 = (0 : Int32) then
            (bn (gR h1 a0 13 3) fun x7 =>
            bn (gR h1 x7 12 13) fun x9 =>
            bn (aI h1 100 x9 a1) fun x11 =>
            some x11)
          else
            (if a2 = (1 : Int32) then
              (bn (gR h1 a0 13 3) fun x13 =>
              bn (gR h1 x13 12 14) fun x15 =>
              bn (aI h1 100 x15 a1) fun x17 =>
              some x17)
            else
              (bn (gR h1 a0 13 15) fun x19 =>
              bn (aI h1 100 x19 (28 : Int32)) fun x21 =>
              bn (F_md_bit x21 a1) fun x24 =>
              if x24 = (0 : Int32) then
                (some (1 : Int32))
              else
                (some (0 : Int32))))) fun q25 =>
        bd (F_md_good a0 q25 h1) fun x27 h28 =>
        some (Sum.inr (x27, h28))))) fun x34 =>
  ei x34 (fun z30 =>
  bd (F_md_refused a0 (1 : Int32) h1) fun x32 h33 =>
  some (x32, h33))
  (fun z => some z))
set_option maxRecDepth 20000 in
theorem K_md_rope {a0 : Nat} {a1 : Int32} {a2 : Int32} {h : Hp} {v : Int32} {h' : Hp} (hS : F_md_rope a0 a1 a2 h = some (v, h')) : kd h a0 = 13 := by
  unfold F_md_rope at hS
  exact (ck_s hS).1
set_option maxRecDepth 20000 in
theorem R_md_rope (d : Nat) (hd : 1 ≤ d) {a0 : Nat} {a1 : Int32} {a2 : Int32} {h : Hp} {v : Int32} {h' : Hp} (hS : F_md_rope a0 a1 a2 h = some (v, h')) : Ev P d 243 (0, [.ref a0, .int a1, .int a2], [], h) (some (.int v), h') := by
  unfold F_md_rope at hS
  replace hS := (ck_s hS).2
  refine ev_aload_n pm243 i243_0 rfl rfl rfl ?_
  refine ev_iconst (v := 0) pm243 i243_1 rfl (by decide) rfl ?_
  obtain ⟨h1, e2, hS⟩ := bn_s hS
  refine ev_putI pm243 i243_2 rfl rfl rfl e2 rfl ?_
  refine ev_aload_n pm243 i243_5 rfl rfl rfl ?_
  refine ev_iload_n pm243 i243_6 rfl rfl rfl ?_
  obtain ⟨x4, e3, hS⟩ := bn_s hS
  refine ev_callV (sa := [.int a1]) (rest := []) (st' := [.int x4]) (ls0 := [.ref a0, .int a1]) (rv := some (.int x4)) pm243 i243_7 rfl rfl pm244 (by decide) (K_md_isRopeNumber e3) rfl rfl (Nat.le_of_ble_eq_true rfl) (by omega) rfl (R_md_isRopeNumber (d - 1) (by omega) e3) (by simp) rfl rfl ?_
  obtain ⟨x34, I592, hS⟩ := bn_s hS
  have J1 : ∀ z30, x34 = Sum.inl z30 → Ev P d 243 (22, [.ref a0, unk, unk], [], h1) (some (.int v), h') := by
    intro z30 hx
    subst hx
    replace hS := ei_l hS
    refine ev_aload_n pm243 i243_22 rfl rfl rfl ?_
    refine ev_iconst (v := 1) pm243 i243_23 rfl (by decide) rfl ?_
    obtain ⟨x32, h33, e31, hS⟩ := bd_s hS
    refine ev_callV (sa := [.int (1 : Int32)]) (rest := []) (st' := [.int x32]) (ls0 := [.ref a0, .int (1 : Int32)]) (rv := some (.int x32)) pm243 i243_24 rfl rfl pm186 (by decide) (K_md_refused e31) rfl rfl (Nat.le_of_ble_eq_true rfl) (by omega) rfl (R_md_refused (d - 1) (by omega) e31) (by simp) rfl rfl ?_
    cases hS
    exact ev_ireturn pm243 i243_27 rfl rfl rfl
  have Z1 := ej_z hS
  clear hS
  by_cases c592 : x4 = (0 : Int32)
  · rw [if_pos c592] at I592
    refine ev_if_eq_t (t := 22) pm243 i243_10 rfl c592 rfl rfl ?_
    refine ev_kls (ls' := [.ref a0, unk, unk]) pm243 i243_22 rfl rfl ?_
    cases I592
    exact J1 _ rfl
  · rw [if_neg c592] at I592
    refine ev_if_eq_f (t := 22) pm243 i243_10 rfl c592 rfl rfl ?_
    refine ev_iload_n pm243 i243_13 rfl rfl rfl ?_
    refine ev_iconst (v := 0) pm243 i243_14 rfl (by decide) rfl ?_
    refine ev_iconst (v := 2) pm243 i243_15 rfl (by decide) rfl ?_
    obtain ⟨x6, e5, I592⟩ := bn_s I592
    refine ev_callS (sa := [.int (2 : Int32), .int (0 : Int32), .int a2]) (rest := []) (st' := [.int x6]) (ls0 := [.int a2, .int (0 : Int32), .int (2 : Int32)]) (rv := some (.int x6)) pm243 i243_16 rfl rfl pm201 (by decide) rfl rfl (Nat.le_of_ble_eq_true rfl) (by omega) rfl (R_md_in (d - 1) (by omega) e5) (by simp) rfl rfl ?_
    by_cases c593 : x6 = (0 : Int32)
    · rw [if_pos c593] at I592
      refine ev_if_ne_t (t := 28) pm243 i243_19 rfl c593 rfl rfl ?_
      refine ev_kls (ls' := [.ref a0, unk, unk]) pm243 i243_22 rfl rfl ?_
      cases I592
      exact J1 _ rfl
    · rw [if_neg c593] at I592
      refine ev_if_ne_f (t := 28) pm243 i243_19 rfl c593 rfl rfl ?_
      refine ev_aload_n pm243 i243_28 rfl rfl rfl ?_
      refine ev_iload_n pm243 i243_29 rfl rfl rfl ?_
      obtain ⟨q25, I594, I592⟩ := bn_s I592
      have J2 : Ev P d 243 (81, [unk, unk, unk], [.int q25, .ref a0], h1) (some (.int v), h') := by
        obtain ⟨x27, h28, e26, I592⟩ := bd_s I592
        refine ev_callV (sa := [.int q25]) (rest := []) (st' := [.int x27]) (ls0 := [.ref a0, .int q25]) (rv := some (.int x27)) pm243 i243_81 rfl rfl pm224 (by decide) (K_md_good e26) rfl rfl (Nat.le_of_ble_eq_true rfl) (by omega) rfl (R_md_good (d - 1) (by omega) e26) (by simp) rfl rfl ?_
        cases I592
        have hz1 := Z1 _ rfl
        cases hz1
        exact ev_ireturn pm243 i243_84 rfl rfl rfl
      clear I592
      by_cases c594 : a2 = (0 : Int32)
      · rw [if_pos c594] at I594
        refine ev_if_ne_t (t := 45) pm243 i243_30 rfl c594 rfl rfl ?_
        refine ev_aload_n pm243 i243_33 rfl rfl rfl ?_
        obtain ⟨x7, e8, I594⟩ := bn_s I594
        refine ev_getR pm243 i243_34 rfl rfl rfl e8 rfl ?_
        obtain ⟨x9, e10, I594⟩ := bn_s I594
        refine ev_getR pm243 i243_37 rfl rfl rfl e10 rfl ?_
        refine ev_iload_n pm243 i243_40 rfl rfl rfl ?_
        obtain ⟨x11, e12, I594⟩ := bn_s I594
        refine ev_iald pm243 i243_41 rfl e12 rfl ?_
        refine ev_goto (t := 81) pm243 i243_42 rfl rfl ?_
        refine ev_kls (ls' := [unk, unk, unk]) pm243 i243_81 rfl rfl ?_
        cases I594
        exact J2
      · rw [if_neg c594] at I594
        refine ev_if_ne_f (t := 45) pm243 i243_30 rfl c594 rfl rfl ?_
        refine ev_iload_n pm243 i243_45 rfl rfl rfl ?_
        refine ev_iconst (v := 1) pm243 i243_46 rfl (by decide) rfl ?_
        by_cases c595 : a2 = (1 : Int32)
        · rw [if_pos c595] at I594
          refine ev_icmp_ne_t (t := 62) pm243 i243_47 rfl c595 rfl rfl ?_
          refine ev_aload_n pm243 i243_50 rfl rfl rfl ?_
          obtain ⟨x13, e14, I594⟩ := bn_s I594
          refine ev_getR pm243 i243_51 rfl rfl rfl e14 rfl ?_
          obtain ⟨x15, e16, I594⟩ := bn_s I594
          refine ev_getR pm243 i243_54 rfl rfl rfl e16 rfl ?_
          refine ev_iload_n pm243 i243_57 rfl rfl rfl ?_
          obtain ⟨x17, e18, I594⟩ := bn_s I594
          refine ev_iald pm243 i243_58 rfl e18 rfl ?_
          refine ev_goto (t := 81) pm243 i243_59 rfl rfl ?_
          refine ev_kls (ls' := [unk, unk, unk]) pm243 i243_81 rfl rfl ?_
          cases I594
          exact J2
        · rw [if_neg c595] at I594
          refine ev_icmp_ne_f (t := 62) pm243 i243_47 rfl c595 rfl rfl ?_
          refine ev_aload_n pm243 i243_62 rfl rfl rfl ?_
          obtain ⟨x19, e20, I594⟩ := bn_s I594
          refine ev_getR pm243 i243_63 rfl rfl rfl e20 rfl ?_
          refine ev_bipush (v := 28) pm243 i243_66 rfl (by decide) rfl ?_
          obtain ⟨x21, e22, I594⟩ := bn_s I594
          refine ev_iald pm243 i243_68 rfl e22 rfl ?_
          refine ev_iload_n pm243 i243_69 rfl rfl rfl ?_
          obtain ⟨x24, e23, I594⟩ := bn_s I594
          refine ev_callS (sa := [.int a1, .int x21]) (rest := [.ref a0]) (st' := [.int x24, .ref a0]) (ls0 := [.int x21, .int a1]) (rv := some (.int x24)) pm243 i243_70 rfl rfl pm214 (by decide) rfl rfl (Nat.le_of_ble_eq_true rfl) (by omega) rfl (R_md_bit (d - 1) (by omega) e23) (by simp) rfl rfl ?_
          by_cases c596 : x24 = (0 : Int32)
          · rw [if_pos c596] at I594
            refine ev_if_eq_t (t := 80) pm243 i243_73 rfl c596 rfl rfl ?_
            refine ev_iconst (v := 1) pm243 i243_80 rfl (by decide) rfl ?_
            refine ev_kls (ls' := [unk, unk, unk]) pm243 i243_81 rfl rfl ?_
            cases I594
            exact J2
          · rw [if_neg c596] at I594
            refine ev_if_eq_f (t := 80) pm243 i243_73 rfl c596 rfl rfl ?_
            refine ev_iconst (v := 0) pm243 i243_76 rfl (by decide) rfl ?_
            refine ev_goto (t := 81) pm243 i243_77 rfl rfl ?_
            refine ev_kls (ls' := [unk, unk, unk]) pm243 i243_81 rfl rfl ?_
            cases I594
            exact J2
def B_md_underNow_4 (l0 : Nat) (h : Hp) (s : Int32 × Int32) : Option ((Int32 × Int32) ⊕ (Int32)) :=
  bn (gR h l0 13 3) fun x1 =>
  bn (gI h x1 12 1) fun x3 =>
  if s.2 < x3 then
    (bn (F_md_heightOf l0 s.2 h) fun x6 =>
    if x6 < (0 : Int32) then
      (some (.inl (s.1 ||| ((1 : Int32) <<< (s.2 &&& 31)), s.2 + (1 : Int32))))
    else
      (some (.inl (s.1 ||| (0 : Int32), s.2 + (1 : Int32)))))
  else
    (some (.inr s.1))
set_option maxRecDepth 20000 in
theorem L_md_underNow_4 (d : Nat) (hd : 5 ≤ d) {l0 : Nat} {h : Hp} : ∀ (n : Nat) (s : Int32 × Int32) (x : Int32), lq (B_md_underNow_4 l0 h) n s = some x → ∀ r, Ev P d 246 (39, [unk, .int x, unk], [], h) r → Ev P d 246 (4, [.ref l0, .int s.1, .int s.2], [], h) r := by
  refine lq_ev (G0 := fun (s : Int32 × Int32) r => Ev P d 246 (4, [.ref l0, .int s.1, .int s.2], [], h) r) (X := fun (x : Int32) r => Ev P d 246 (39, [unk, .int x, unk], [], h) r) ?_
  intro s y hS r hK
  unfold B_md_underNow_4 at hS
  show Ev P d 246 (4, [.ref l0, .int s.1, .int s.2], [], h) r
  refine ev_iload_n pm246 i246_4 rfl rfl rfl ?_
  refine ev_aload_n pm246 i246_5 rfl rfl rfl ?_
  obtain ⟨x1, e2, hS⟩ := bn_s hS
  refine ev_getR pm246 i246_6 rfl rfl rfl e2 rfl ?_
  obtain ⟨x3, e4, hS⟩ := bn_s hS
  refine ev_getI pm246 i246_9 rfl rfl (by decide) e4 rfl ?_
  by_cases c597 : s.2 < x3
  · rw [if_pos c597] at hS
    refine ev_icmp_ge_t (t := 39) pm246 i246_12 rfl c597 rfl rfl ?_
    refine ev_iload_n pm246 i246_15 rfl rfl rfl ?_
    refine ev_aload_n pm246 i246_16 rfl rfl rfl ?_
    refine ev_iload_n pm246 i246_17 rfl rfl rfl ?_
    obtain ⟨x6, e5, hS⟩ := bn_s hS
    refine ev_callV (sa := [.int s.2]) (rest := [.int s.1]) (st' := [.int x6, .int s.1]) (ls0 := [.ref l0, .int s.2, unk]) (rv := some (.int x6)) pm246 i246_18 rfl rfl pm233 (by decide) (K_md_heightOf e5) rfl rfl (Nat.le_of_ble_eq_true rfl) (by omega) rfl (R_md_heightOf (d - 1) (by omega) e5) (by simp) rfl rfl ?_
    by_cases c598 : x6 < (0 : Int32)
    · rw [if_pos c598] at hS
      refine ev_if_ge_t (t := 30) pm246 i246_21 rfl c598 rfl rfl ?_
      refine ev_iconst (v := 1) pm246 i246_24 rfl (by decide) rfl ?_
      refine ev_iload_n pm246 i246_25 rfl rfl rfl ?_
      refine ev_b2 (f := fun x y => x <<< (y &&& 31)) pm246 i246_26 rfl (fun _ _ _ _ => rfl) rfl ?_
      refine ev_goto (t := 31) pm246 i246_27 rfl rfl ?_
      refine ev_kls (ls' := [.ref l0, unk, .int s.2]) pm246 i246_31 rfl rfl ?_
      refine ev_b2 (f := fun x y => x ||| y) pm246 i246_31 rfl (fun _ _ _ _ => rfl) rfl ?_
      refine ev_istore_n (ls' := [.ref l0, .int (s.1 ||| ((1 : Int32) <<< (s.2 &&& 31))), .int s.2]) pm246 i246_32 rfl (Nat.le_of_ble_eq_true rfl) rfl rfl ?_
      refine ev_iinc (v := 1) (ls' := [.ref l0, .int (s.1 ||| ((1 : Int32) <<< (s.2 &&& 31))), .int (s.2 + (1 : Int32))]) pm246 i246_33 rfl rfl (by decide) rfl rfl ?_
      refine ev_goto (t := 4) pm246 i246_36 rfl rfl ?_
      cases hS
      exact hK
    · rw [if_neg c598] at hS
      refine ev_if_ge_f (t := 30) pm246 i246_21 rfl c598 rfl rfl ?_
      refine ev_iconst (v := 0) pm246 i246_30 rfl (by decide) rfl ?_
      refine ev_kls (ls' := [.ref l0, unk, .int s.2]) pm246 i246_31 rfl rfl ?_
      refine ev_b2 (f := fun x y => x ||| y) pm246 i246_31 rfl (fun _ _ _ _ => rfl) rfl ?_
      refine ev_istore_n (ls' := [.ref l0, .int (s.1 ||| (0 : Int32)), .int s.2]) pm246 i246_32 rfl (Nat.le_of_ble_eq_true rfl) rfl rfl ?_
      refine ev_iinc (v := 1) (ls' := [.ref l0, .int (s.1 ||| (0 : Int32)), .int (s.2 + (1 : Int32))]) pm246 i246_33 rfl rfl (by decide) rfl rfl ?_
      refine ev_goto (t := 4) pm246 i246_36 rfl rfl ?_
      cases hS
      exact hK
  · rw [if_neg c597] at hS
    refine ev_icmp_ge_f (t := 39) pm246 i246_12 rfl c597 rfl rfl ?_
    refine ev_kls (ls' := [unk, .int s.1, unk]) pm246 i246_39 rfl rfl ?_
    cases hS
    exact hK
def F_md_underNow (a0 : Nat) (h : Hp) : Option Int32 :=
  ck h a0 13 (bn (lq (B_md_underNow_4 a0 h) FU ((0 : Int32), (0 : Int32))) fun x7 =>
  some x7)
set_option maxRecDepth 20000 in
theorem K_md_underNow {a0 : Nat} {h : Hp} {v : Int32} (hS : F_md_underNow a0 h = some v) : kd h a0 = 13 := by
  unfold F_md_underNow at hS
  exact (ck_s hS).1
set_option maxRecDepth 20000 in
theorem R_md_underNow (d : Nat) (hd : 5 ≤ d) {a0 : Nat} {h : Hp} {v : Int32} (hS : F_md_underNow a0 h = some v) : Ev P d 246 (0, [.ref a0, unk, unk], [], h) (some (.int v), h) := by
  unfold F_md_underNow at hS
  replace hS := (ck_s hS).2
  refine ev_iconst (v := 0) pm246 i246_0 rfl (by decide) rfl ?_
  refine ev_istore_n (ls' := [.ref a0, .int (0 : Int32), unk]) pm246 i246_1 rfl (Nat.le_of_ble_eq_true rfl) rfl rfl ?_
  refine ev_iconst (v := 0) pm246 i246_2 rfl (by decide) rfl ?_
  refine ev_istore_n (ls' := [.ref a0, .int (0 : Int32), .int (0 : Int32)]) pm246 i246_3 rfl (Nat.le_of_ble_eq_true rfl) rfl rfl ?_
  obtain ⟨x7, e8, hS⟩ := bn_s hS
  refine L_md_underNow_4 d (by omega) _ _ _ e8 _ ?_
  show Ev P d 246 (39, [unk, .int x7, unk], [], h) _
  refine ev_iload_n pm246 i246_39 rfl rfl rfl ?_
  cases hS
  exact ev_ireturn pm246 i246_40 rfl rfl rfl
def F_md_under (a0 : Nat) (h : Hp) : Option (Int32 × Hp) :=
  ck h a0 13 (bn (pI h a0 13 0 (0 : Int32)) fun h1 =>
  bn (gQ h1 a0 13 3) fun x3 =>
  if x3 = none then
    (bd (F_md_refused a0 (1 : Int32) h1) fun x6 h7 =>
    some (x6, h7))
  else
    (bn (F_md_works a0 h1) fun h9 =>
    bn (F_md_underNow a0 h9) fun x11 =>
    bd (F_md_good a0 x11 h9) fun x13 h14 =>
    some (x13, h14)))
set_option maxRecDepth 20000 in
theorem K_md_under {a0 : Nat} {h : Hp} {v : Int32} {h' : Hp} (hS : F_md_under a0 h = some (v, h')) : kd h a0 = 13 := by
  unfold F_md_under at hS
  exact (ck_s hS).1
set_option maxRecDepth 20000 in
theorem R_md_under (d : Nat) (hd : 6 ≤ d) {a0 : Nat} {h : Hp} {v : Int32} {h' : Hp} (hS : F_md_under a0 h = some (v, h')) : Ev P d 245 (0, [.ref a0], [], h) (some (.int v), h') := by
  unfold F_md_under at hS
  replace hS := (ck_s hS).2
  refine ev_aload_n pm245 i245_0 rfl rfl rfl ?_
  refine ev_iconst (v := 0) pm245 i245_1 rfl (by decide) rfl ?_
  obtain ⟨h1, e2, hS⟩ := bn_s hS
  refine ev_putI pm245 i245_2 rfl rfl rfl e2 rfl ?_
  refine ev_aload_n pm245 i245_5 rfl rfl rfl ?_
  obtain ⟨x3, e4, hS⟩ := bn_s hS
  refine ev_getQ pm245 i245_6 rfl rfl rfl e4 rfl ?_
  by_cases c599 : x3 = none
  · rw [if_pos c599] at hS
    subst c599
    refine ev_nonnullF pm245 i245_9 rfl rfl ?_
    refine ev_aload_n pm245 i245_12 rfl rfl rfl ?_
    refine ev_iconst (v := 1) pm245 i245_13 rfl (by decide) rfl ?_
    obtain ⟨x6, h7, e5, hS⟩ := bd_s hS
    refine ev_callV (sa := [.int (1 : Int32)]) (rest := []) (st' := [.int x6]) (ls0 := [.ref a0, .int (1 : Int32)]) (rv := some (.int x6)) pm245 i245_14 rfl rfl pm186 (by decide) (K_md_refused e5) rfl rfl (Nat.le_of_ble_eq_true rfl) (by omega) rfl (R_md_refused (d - 1) (by omega) e5) (by simp) rfl rfl ?_
    cases hS
    exact ev_ireturn pm245 i245_17 rfl rfl rfl
  · rw [if_neg c599] at hS
    obtain ⟨_, rfl⟩ := Option.ne_none_iff_exists'.mp c599
    refine ev_nonnullT (t := 18) pm245 i245_9 rfl rfl ?_
    refine ev_aload_n pm245 i245_18 rfl rfl rfl ?_
    obtain ⟨h9, e8, hS⟩ := bn_s hS
    refine ev_callV (sa := []) (rest := []) (st' := []) (ls0 := [.ref a0, unk]) (rv := none) pm245 i245_19 rfl rfl pm229 (by decide) (K_md_works e8) rfl rfl (Nat.le_of_ble_eq_true rfl) (by omega) rfl (R_md_works (d - 1) (by omega) e8) (by simp) rfl rfl ?_
    refine ev_aload_n pm245 i245_22 rfl rfl rfl ?_
    refine ev_aload_n pm245 i245_23 rfl rfl rfl ?_
    obtain ⟨x11, e10, hS⟩ := bn_s hS
    refine ev_callV (sa := []) (rest := [.ref a0]) (st' := [.int x11, .ref a0]) (ls0 := [.ref a0, unk, unk]) (rv := some (.int x11)) pm245 i245_24 rfl rfl pm246 (by decide) (K_md_underNow e10) rfl rfl (Nat.le_of_ble_eq_true rfl) (by omega) rfl (R_md_underNow (d - 1) (by omega) e10) (by simp) rfl rfl ?_
    obtain ⟨x13, h14, e12, hS⟩ := bd_s hS
    refine ev_callV (sa := [.int x11]) (rest := []) (st' := [.int x13]) (ls0 := [.ref a0, .int x11]) (rv := some (.int x13)) pm245 i245_27 rfl rfl pm224 (by decide) (K_md_good e12) rfl rfl (Nat.le_of_ble_eq_true rfl) (by omega) rfl (R_md_good (d - 1) (by omega) e12) (by simp) rfl rfl ?_
    cases hS
    exact ev_ireturn pm245 i245_30 rfl rfl rfl
