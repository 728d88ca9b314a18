/-! a line: from (p, L) to (p', L'), or a fault and its place -/
def upL (L : Lk) (k : Nat) (i v : Int) : Lk := fun k' i' => if k' = k ∧ i' = i then v else L k' i'
abbrev Lo : Type := (Nat × Lk) ⊕ (Int × Int)
/-- other places of the class's other lake stay -/
def Cf (u : Nat) (h h' : Hp) : Prop := Fm 2 44 h h' ∧ ∀ x, 31 - u ≤ x → x < 31 - u + 18 → (∀ k, fi h' x k = fi h x k) ∧ (∀ z, ia h' x z = ia h x z)
theorem cf_rf (u : Nat) (h : Hp) : Cf u h h := ⟨fm_rf _ _ _, fun _ _ _ => ⟨fun _ => rfl, fun _ => rfl⟩⟩
theorem cf_tr {u : Nat} {h h1 h2 : Hp} (x : Cf u h h1) (y : Cf u h1 h2) : Cf u h h2 := ⟨fm_tr x.1 y.1, fun a a1 a2 => ⟨fun k => ((y.2 a a1 a2).1 k).trans ((x.2 a a1 a2).1 k), fun z => ((y.2 a a1 a2).2 z).trans ((x.2 a a1 a2).2 z)⟩⟩
theorem cf_fm {u lo hi : Nat} {h h' : Hp} (x : Fm lo hi h h') (h1 : 2 ≤ lo) (h2 : hi ≤ 44) (hd : hi ≤ 31 - u ∨ 31 - u + 18 ≤ lo) : Cf u h h' := ⟨fm_wd x h1 h2, fun a a1 a2 => ⟨fun k => fm_fi x (by omega) k, fun z => fm_ia x (by omega) z⟩⟩
theorem cf_sf {u : Nat} {h h' : Hp} (hu : u = 5 ∨ u = 26) (x : Sf h h') : Cf u h h' := cf_fm x.1 (by omega) (by omega) (by omega)
theorem cf_fl {u : Nat} {f q : Int} {h h' : Hp} (hu : u = 5 ∨ u = 26) (x : FL f q h h') : Cf u h h' := cf_fm x.1 (by omega) (by omega) (by omega)
theorem cf_nf {u : Nat} {h h' : Hp} (hu : u = 5 ∨ u = 26) (x : Nf h h') : Cf u h h' := ⟨x.1, fun a a1 a2 => x.2.1 a (by omega)⟩
/-- the class between two tokens of a line: what it stands on, the lake told so far, the names -/
def CP (L : Lk) (u : Nat) (T : Int → Int) (n : Nat) (h : Hp) : Prop := KB T n h ∧ TS u h ∧ fR h 2 3 = some u ∧ (u = 5 ∨ u = 26) ∧ LW L ∧ NW L ∧ TR L u h ∧ (∃ m : Nat, fi h u 2 = m ∧ m < 2 ^ (L 1 0).toNat) ∧ NC L h ∧ (L 31 0 = 0 ∨ L 31 0 = 1)
theorem CP_sf {L : Lk} {u : Nat} {T : Int → Int} {n : Nat} {h h' : Hp} (x : Sf h h') (H : CP L u T n h) : CP L u T n h' := by
  obtain ⟨a1, a2, a3, a4, a5, a6, a7, ⟨m, m1, m2⟩, a9, a10⟩ := H
  refine ⟨KB_fm x.1 (by omega) (by omega) a1, TS_fm x.1 a2, by rw [fm_fR x.1]; exact a3, a4, a5, a6, TR_fm x.1 (by omega) a7, ⟨m, by rw [fm_fi x.1 (by omega)]; exact m1, m2⟩, ⟨?_, ?_, fun i i0 i1 => ?_⟩, a10⟩
  · rw [x.2 5 (by omega)]; exact a9.1
  · rw [x.2 4 (by omega)]; exact a9.2.1
  · rw [fm_la x.1 (by omega), fm_ia x.1 (by omega), fm_ia x.1 (by omega)]; exact a9.2.2 i i0 i1
/-- how a line ends in the class -/
def CO (o : Lo) (u : Nat) (T : Int → Int) (n : Nat) (r : Option (Int32 × Hp)) (h : Hp) : Prop := (∀ p L, o = .inl (p, L) → p ≤ n ∧ ∃ h', r = some (J 1, h') ∧ Cf u h h' ∧ CP L u T n h' ∧ CT T n p h' ∧ fi h' 2 0 = fi h 2 0 ∧ fi h' 2 1 = fi h 2 1) ∧ (∀ f q, o = .inr (f, q) → ∃ h', r = some (J 0, h') ∧ Cf u h h' ∧ fi h' 2 0 = f ∧ fi h' 2 1 = q)
theorem CO_r {u : Nat} {T : Int → Int} {n : Nat} {r : Option (Int32 × Hp)} {h h' : Hp} {f q : Int} (e : r = some (J 0, h')) (x : Cf u h h') (y : fi h' 2 0 = f ∧ fi h' 2 1 = q) : CO (.inr (f, q)) u T n r h := by
  refine ⟨fun p L z => (by cases z), fun f' q' z => ?_⟩
  cases z
  exact ⟨h', e, x, y.1, y.2⟩
theorem CO_l {u : Nat} {T : Int → Int} {n : Nat} {r : Option (Int32 × Hp)} {h h' : Hp} {p : Nat} {L : Lk} (hp : p ≤ n) (e : r = some (J 1, h')) (x : Cf u h h') (C : CP L u T n h') (c : CT T n p h') (y : fi h' 2 0 = fi h 2 0 ∧ fi h' 2 1 = fi h 2 1) : CO (.inl (p, L)) u T n r h := by
  refine ⟨fun p' L' z => ?_, fun f' q' z => (by cases z)⟩
  cases z
  exact ⟨hp, h', e, x, C, c, y.1, y.2⟩
/-! the lake's line: mice -/
def a_mic (L : Lk) (T : Int → Int) (n p : Nat) : Lo := if isW T n p 9 = true then (if pwf T n (tnx T n p) 0 100 = 0 then .inl (tnx T n (tnx T n p), upL (upL L 0 0 (tnm T n (tnx T n p))) 31 0 1) else .inr (pwf T n (tnx T n p) 0 100, (spn T n (tnx T n p) : Nat))) else .inr (1, (spn T n p : Nat))
theorem pwf_0 {T : Int → Int} {n p : Nat} {lo hi : Int} (z : pwf T n p lo hi = 0) : tso T n p = 1 ∧ lo ≤ tnm T n p ∧ tnm T n p ≤ hi := by
  unfold pwf at z
  by_cases c : tso T n p = 1
  · rw [if_pos c] at z
    by_cases d : lo ≤ tnm T n p ∧ tnm T n p ≤ hi
    · exact ⟨c, d.1, d.2⟩
    · rw [if_neg d] at z; omega
  · rw [if_neg c] at z; omega
theorem C_mic {L : Lk} {u : Nat} {T : Int → Int} {n p : Nat} {h : Hp} (hp : p ≤ n) (C : CP L u T n h) (H : CT T n p h) : CO (a_mic L T n p) u T n (F_rd_readMice 2 h) h := by
  have B := C.1
  have D := B.2.2.2
  have hu := C.2.2.2.1
  have w := C_tw (k := 9) B hp H (by omega)
  unfold a_mic
  by_cases c : isW T n p 9 = true
  · rw [if_pos c]
    obtain ⟨h1, e1, s1, w1, c1, B1⟩ := w.1 c
    clear w
    replace e1 : F_rd_takeWord 2 1000012 h = some (J 1, h1) := e1
    have p1 := (tln_b T n p hp).1
    have p2 := (tln_b T n (tnx T n p) p1).1
    have C1 := CP_sf s1 C
    have v := C_twh (lo := 0) (hi := 100) B1 p1 c1 (by omega) (by omega)
    by_cases z : pwf T n (tnx T n p) 0 100 = 0
    · rw [if_pos z]
      obtain ⟨h2, e2, s2, w2, c2, B2⟩ := v.1 z
      clear v
      have C2 := CP_sf s2 C1
      have S2 := sf_tr s1 s2
      have D2 := B2.2.2.2
      have tb := pwf_0 z
      obtain ⟨m, hm⟩ : ∃ m, m = tnm T n (tnx T n p) := ⟨_, rfl⟩
      rw [← hm] at w2 tb ⊢
      have gu : gR h2 2 7 3 = some u := gR_e (DS_k D2) C2.2.2.1
      obtain ⟨h3, e3⟩ : ∃ h3, h3 = wF h2 u 0 m := ⟨_, rfl⟩
      have f3 : Fm u (u + 1) h2 h3 := by rw [e3]; exact fm_wF (by omega) (by omega)
      have s3 : pI h2 u 10 0 (J m) = some h3 := by rw [e3]; exact pI_J (TS_k C2.2.1)
      have D3 := DS_fm f3 D2
      obtain ⟨h4, e4⟩ : ∃ h4, h4 = wF h3 2 4 1 := ⟨_, rfl⟩
      have f4 : Fm 2 3 h3 h4 := by rw [e4]; exact fm_wF (by omega) (by omega)
      have s4 : pZ h3 2 7 4 (J 1) = some h4 := by rw [e4]; exact pZ_e (DS_k D3) (by decide)
      have F4 : Cf u h2 h4 := cf_tr (cf_fm f3 (by omega) (by omega) (by omega)) (cf_fm f4 (by omega) (by omega) (by omega))
      refine CO_l p2 (h' := h4) ?_ (cf_tr (cf_sf hu S2) F4) ?_ (CT_fm f4 (by omega) (CT_fm f3 (by omega) c2)) ?_
      · unfold F_rd_readMice
        rw [ck_e (DS_k D)]
        try simp only [j_0, j_1, j_2, j_3, j_4, j_5, j_6, j_7, j_8, j_9, j_10, j_11, j_12, j_13, j_14, j_15, j_16, j_17, j_18, j_19, j_20, j_21, j_22, j_23, j_24, j_25, j_26, j_27, j_28, j_29, j_30, j_31, j_32, j_33, j_34, j_35, j_36, j_37, j_38, j_39, j_40, j_41, j_42, j_43, j_44, j_45, j_46, j_47, j_48, j_49, j_50, j_51, j_52, j_57, j_59, j_63, j_74, j_75, j_93, j_97, j_99, j_100, j_122, j_200, j_255, j_300, j_465, j_496, j_900, j_999, j_1000, j_65536, j_65537, j_99999, j_252645135, j_858993459, j_1431655765, k_0, k_1, k_27, k_32, k_74, k_75, k_100, k_1000, k_65537]
        simp (disch := first | with_reducible assumption | omega | trivial) only [↓bn_s1, ↓bd_s1, ↓ei_l1, ↓ei_r1, ↓bn_if, ↓ilt_1, ↓ilt_0, ↓ieq_1, ↓ieq_0, bn_s1, bd_s1, ei_l1, ei_r1, J_add, J_sub, J_mul, J_neg, J_lt, J_le, J_eq, dv_J, rm_J, if_pos, if_neg, ↓reduceIte, bitJ, shlJ, orJ, j_0, j_1, j_2, j_3, j_4, j_5, j_6, j_7, j_8, j_9, j_10, j_11, j_12, j_13, j_14, j_15, j_16, j_17, j_18, j_19, j_20, j_21, j_22, j_23, j_24, j_25, j_26, j_27, j_28, j_29, j_30, j_31, j_32, j_33, j_34, j_35, j_36, j_37, j_38, j_39, j_40, j_41, j_42, j_43, j_44, j_45, j_46, j_47, j_48, j_49, j_50, j_51, j_52, j_57, j_59, j_63, j_74, j_75, j_93, j_97, j_99, j_100, j_122, j_200, j_255, j_300, j_465, j_496, j_900, j_999, j_1000, j_65536, j_65537, j_99999, j_252645135, j_858993459, j_1431655765, k_0, k_1, k_27, k_32, k_74, k_75, k_100, k_1000, k_65537, ↓bd_e (e1), e1, ↓bd_e (e2), e2, ↓bn_e (gu), gu, d_i D2, ↓d_i_b D2, d_p D2, ↓d_p_b D2, d_r2 D2, ↓d_r2_b D2, w2, ↓bn_e (s3), s3, ↓bn_e (s4), s4]
      · obtain ⟨a1, a2, a3, a4, a5, a6, a7, ⟨k, k1, k2⟩, a9, a10⟩ := C2
        have fo : ∀ x j, (x ≠ u ∨ j ≠ 0) → (x ≠ 2 ∨ j ≠ 4) → fi h4 x j = fi h2 x j := fun x j h1 h2 => by rw [e4, fi_ne h2, e3, fi_ne h1]
        have io : ∀ x z, ia h4 x z = ia h2 x z := fun x z => by rw [e4, e3]; rfl
        have lo' : ∀ x z, la h4 x z = la h2 x z := fun x z => by rw [e4, e3]; rfl
        refine ⟨KB_fm F4.1 (by omega) (by omega) a1, TS_fm F4.1 a2, by rw [fm_fR F4.1]; exact a3, a4, ⟨⟨tb.2.1, tb.2.2⟩, a5.2⟩, a6, ?_, ⟨k, by rw [fo _ _ (by omega) (by omega)]; exact k1, k2⟩, ⟨?_, ?_, fun i i0 i1 => ?_⟩, Or.inr rfl⟩
        · obtain ⟨b1, ⟨k', b2, b2'⟩, b3⟩ := a7
          refine ⟨⟨?_, ?_⟩, ⟨k', ?_, b2'⟩, ?_⟩
          · rw [e4, fi_ne (by omega), e3]; exact fi_same (by omega) (by omega)
          · simp (disch := omega) only [fo]
            exact b1.2
          · rw [fo _ _ (by omega) (by omega)]; exact b2
          · simp only [io]
            exact b3
        · rw [fo _ _ (by omega) (by omega)]; exact a9.1
        · rw [e4]; exact fi_same (by omega) (by omega)
        · rw [lo', io, io]; exact a9.2.2 i i0 i1
      · rw [e4, fi_ne (by omega), fi_ne (by omega), e3, fi_ne (by omega), fi_ne (by omega), S2.2 0 (by omega), S2.2 1 (by omega)]
        exact ⟨rfl, rfl⟩
    · rw [if_neg z]
      obtain ⟨h2, e2, f2⟩ := v.2 z
      clear v
      refine CO_r (h' := h2) ?_ (cf_tr (cf_sf hu s1) (cf_fl hu f2)) f2.2
      unfold F_rd_readMice
      rw [ck_e (DS_k D)]
      try simp only [j_0, j_1, j_2, j_3, j_4, j_5, j_6, j_7, j_8, j_9, j_10, j_11, j_12, j_13, j_14, j_15, j_16, j_17, j_18, j_19, j_20, j_21, j_22, j_23, j_24, j_25, j_26, j_27, j_28, j_29, j_30, j_31, j_32, j_33, j_34, j_35, j_36, j_37, j_38, j_39, j_40, j_41, j_42, j_43, j_44, j_45, j_46, j_47, j_48, j_49, j_50, j_51, j_52, j_57, j_59, j_63, j_74, j_75, j_93, j_97, j_99, j_100, j_122, j_200, j_255, j_300, j_465, j_496, j_900, j_999, j_1000, j_65536, j_65537, j_99999, j_252645135, j_858993459, j_1431655765, k_0, k_1, k_27, k_32, k_74, k_75, k_100, k_1000, k_65537]
      simp (disch := first | with_reducible assumption | omega | trivial) only [↓bn_s1, ↓bd_s1, ↓ei_l1, ↓ei_r1, ↓bn_if, ↓ilt_1, ↓ilt_0, ↓ieq_1, ↓ieq_0, bn_s1, bd_s1, ei_l1, ei_r1, J_add, J_sub, J_mul, J_neg, J_lt, J_le, J_eq, dv_J, rm_J, if_pos, if_neg, ↓reduceIte, bitJ, shlJ, orJ, j_0, j_1, j_2, j_3, j_4, j_5, j_6, j_7, j_8, j_9, j_10, j_11, j_12, j_13, j_14, j_15, j_16, j_17, j_18, j_19, j_20, j_21, j_22, j_23, j_24, j_25, j_26, j_27, j_28, j_29, j_30, j_31, j_32, j_33, j_34, j_35, j_36, j_37, j_38, j_39, j_40, j_41, j_42, j_43, j_44, j_45, j_46, j_47, j_48, j_49, j_50, j_51, j_52, j_57, j_59, j_63, j_74, j_75, j_93, j_97, j_99, j_100, j_122, j_200, j_255, j_300, j_465, j_496, j_900, j_999, j_1000, j_65536, j_65537, j_99999, j_252645135, j_858993459, j_1431655765, k_0, k_1, k_27, k_32, k_74, k_75, k_100, k_1000, k_65537, ↓bd_e (e1), e1, ↓bd_e (e2), e2]
  · rw [if_neg c]
    obtain ⟨h1, e1, f1⟩ := w.2 c
    clear w
    replace e1 : F_rd_takeWord 2 1000012 h = some (J 0, h1) := e1
    refine CO_r (h' := h1) ?_ (cf_fl hu f1) f1.2
    unfold F_rd_readMice
    rw [ck_e (DS_k D)]
    try simp only [j_0, j_1, j_2, j_3, j_4, j_5, j_6, j_7, j_8, j_9, j_10, j_11, j_12, j_13, j_14, j_15, j_16, j_17, j_18, j_19, j_20, j_21, j_22, j_23, j_24, j_25, j_26, j_27, j_28, j_29, j_30, j_31, j_32, j_33, j_34, j_35, j_36, j_37, j_38, j_39, j_40, j_41, j_42, j_43, j_44, j_45, j_46, j_47, j_48, j_49, j_50, j_51, j_52, j_57, j_59, j_63, j_74, j_75, j_93, j_97, j_99, j_100, j_122, j_200, j_255, j_300, j_465, j_496, j_900, j_999, j_1000, j_65536, j_65537, j_99999, j_252645135, j_858993459, j_1431655765, k_0, k_1, k_27, k_32, k_74, k_75, k_100, k_1000, k_65537]
    simp (disch := first | with_reducible assumption | omega | trivial) only [↓bn_s1, ↓bd_s1, ↓ei_l1, ↓ei_r1, ↓bn_if, ↓ilt_1, ↓ilt_0, ↓ieq_1, ↓ieq_0, bn_s1, bd_s1, ei_l1, ei_r1, J_add, J_sub, J_mul, J_neg, J_lt, J_le, J_eq, dv_J, rm_J, if_pos, if_neg, ↓reduceIte, bitJ, shlJ, orJ, j_0, j_1, j_2, j_3, j_4, j_5, j_6, j_7, j_8, j_9, j_10, j_11, j_12, j_13, j_14, j_15, j_16, j_17, j_18, j_19, j_20, j_21, j_22, j_23, j_24, j_25, j_26, j_27, j_28, j_29, j_30, j_31, j_32, j_33, j_34, j_35, j_36, j_37, j_38, j_39, j_40, j_41, j_42, j_43, j_44, j_45, j_46, j_47, j_48, j_49, j_50, j_51, j_52, j_57, j_59, j_63, j_74, j_75, j_93, j_97, j_99, j_100, j_122, j_200, j_255, j_300, j_465, j_496, j_900, j_999, j_1000, j_65536, j_65537, j_99999, j_252645135, j_858993459, j_1431655765, k_0, k_1, k_27, k_32, k_74, k_75, k_100, k_1000, k_65537, ↓bd_e (e1), e1]
