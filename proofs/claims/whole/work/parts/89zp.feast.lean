/-! feast, in the class -/
def a_fea5 (L : Lk) (T : Int → Int) (n p p2 p4 : Nat) : Lo := if pwf T n p4 0 50 = 0 then .inl (tnx T n p4, ap3 L 5 19 (knb L T n p) 20 (tnm T n p2) 21 (tnm T n p4)) else .inr (pwf T n p4 0 50, (spn T n p4 : Nat))
def a_fea3 (L : Lk) (T : Int → Int) (n p p2 p3 : Nat) : Lo := if isW T n p3 21 = true then a_fea5 L T n p p2 (tnx T n p3) else .inr (1, (spn T n p3 : Nat))
def a_fea2 (L : Lk) (T : Int → Int) (n p p2 : Nat) : Lo := if pwf T n p2 0 9 = 0 then a_fea3 L T n p p2 (tnx T n p2) else .inr (pwf T n p2 0 9, (spn T n p2 : Nat))
def a_fea1 (L : Lk) (T : Int → Int) (n p p1 : Nat) : Lo := if isW T n p1 20 = true then a_fea2 L T n p (tnx T n p1) else .inr (1, (spn T n p1 : Nat))
def a_fea (L : Lk) (T : Int → Int) (n p : Nat) : Lo := if pkf L T n p 0 = 0 then a_fea1 L T n p (tnx T n p) else .inr (pkf L T n p 0, (spn T n p : Nat))
theorem LW_fea {L : Lk} {x w y : Int} (H : LW L) (h5 : L 5 0 < 4) (hx : 0 ≤ x ∧ x < L 1 0) (hw : 0 ≤ w ∧ w ≤ 9) (hy : 0 ≤ y ∧ y ≤ 50) : LW (ap3 L 5 19 x 20 w 21 y) := by
  obtain ⟨a0, a1, a2, a3, a4, a5, a6, a7, a8, a9, a10, a11, a12, a13, a14, a15⟩ := H
  refine ⟨a0, a1, a2, a3, a4, ?_, a6, a7, a8, a9, a10, a11, a12, ?_, a14, a15⟩
  · show 0 ≤ L 5 0 + 1 ∧ L 5 0 + 1 ≤ 4
    omega
  · intro i i0 i1
    replace i1 : i < L 5 0 + 1 := i1
    show 0 ≤ (if i = L 5 0 then x else L 19 i) ∧ (if i = L 5 0 then x else L 19 i) < L 1 0 ∧ 0 ≤ (if i = L 5 0 then w else L 20 i) ∧ (if i = L 5 0 then w else L 20 i) ≤ 9 ∧ 0 ≤ (if i = L 5 0 then y else L 21 i) ∧ (if i = L 5 0 then y else L 21 i) ≤ 50
    by_cases e : i = L 5 0
    · rw [if_pos e, if_pos e, if_pos e]; exact ⟨hx.1, hx.2, hw.1, hw.2, hy.1, hy.2⟩
    · rw [if_neg e, if_neg e, if_neg e]; exact a13 i i0 (by omega)
theorem C_fea {L : Lk} {u : Nat} {T : Int → Int} {n p : Nat} {h : Hp} (hp : p ≤ n) (C : CP L u T n h) (NBL : NB L) (h5 : L 5 0 < 4) (H : CT T n p h) : CO (a_fea L T n p) u T n (F_rd_readFeast 2 h) h := by
  have B := C.1
  have D := B.2.2.2
  have hu := C.2.2.2.1
  have lw := C.2.2.2.2.1
  have N := C.2.2.2.2.2.1
  have R := C.2.2.2.2.2.2.2.2.1
  have lf := LW_f lw
  have lh := LW_h lw
  have gu0 : gR h 2 7 3 = some u := gR_e (DS_k D) C.2.2.1
  obtain ⟨g, hg⟩ : ∃ g, g = L 5 0 := ⟨_, rfl⟩
  have gf0 : gI h u 10 14 = some (J g) := by rw [hg]; exact ti_14 C.2.1 C.2.2.2.2.2.2.1
  have w := C_non (s := 0) B hp H N R (by omega)
  unfold a_fea
  by_cases c : pkf L T n p 0 = 0
  · rw [if_pos c]
    have e1 : F_rd_numberOfName 2 (J 1) h = some (J (knb L T n p), h) := w.1 c
    clear w
    have k1 := pkf_0 N c
    have d1 : knb L T n p < L 1 0 := (NBL.2 _ k1.2.1 k1.2.2.1).1 k1.2.2.2.1
    obtain ⟨h1, e2, s1, _, c1, B1⟩ := C_ad B hp H
    have p1b := (tln_b T n p hp).1
    obtain ⟨p1, hp1⟩ : ∃ p1, p1 = tnx T n p := ⟨_, rfl⟩
    rw [← hp1] at c1 p1b ⊢
    have C1 := CP_sf s1 C
    have D1 := B1.2.2.2
    have w := C_tw (k := 20) B1 p1b c1 (by omega)
    unfold a_fea1
    by_cases c' : isW T n p1 20 = true
    · rw [if_pos c']
      obtain ⟨h2, e3, s2, _, c2, B2⟩ := w.1 c'
      clear w
      replace e3 : F_rd_takeWord 2 1000023 h1 = some (J 1, h2) := e3
      have p2b := (tln_b T n p1 p1b).1
      obtain ⟨p2, hp2⟩ : ∃ p2, p2 = tnx T n p1 := ⟨_, rfl⟩
      rw [← hp2] at c2 p2b ⊢
      have C2 := CP_sf s2 C1
      have v := C_twh (lo := 0) (hi := 9) B2 p2b c2 (by omega) (by omega)
      unfold a_fea2
      by_cases z : pwf T n p2 0 9 = 0
      · rw [if_pos z]
        obtain ⟨h3, e4, s3, w3, c3, B3⟩ := v.1 z
        clear v
        have tb := pwf_0 z
        have p3b := (tln_b T n p2 p2b).1
        obtain ⟨p3, hp3⟩ : ∃ p3, p3 = tnx T n p2 := ⟨_, rfl⟩
        rw [← hp3] at c3 p3b ⊢
        have C3 := CP_sf s3 C2
        have D3 := B3.2.2.2
        have T3 := C3.2.1
        have S3 := sf_tr s1 (sf_tr s2 s3)
        obtain ⟨q, hq⟩ : ∃ q, q = tnm T n p2 := ⟨_, rfl⟩
        rw [← hq] at w3 tb
        have gu3 : gR h3 2 7 3 = some u := gR_e (DS_k D3) C3.2.2.1
        have g16 := trf_16 T3
        have n16 := TS_n16 T3
        obtain ⟨h4, q4⟩ : ∃ h4, h4 = wA h3 (u + 10) g q := ⟨_, rfl⟩
        have f4 : Fm u (u + 18) h3 h4 := by rw [q4]; exact fm_wA (by omega) (by omega)
        have s4 : sI h3 100 (u + 10) (J g) (J q) = some h4 := by rw [q4]; exact sI_J (TS_k16 T3) (by omega) (by omega) (by omega) (by omega)
        have B4 := KB_fm f4 (by omega) (by omega) B3
        have c4 := CT_fm f4 (by omega) c3
        have T4 := TS_fm f4 T3
        have cf4 : Cf u h h4 := cf_tr (cf_sf hu S3) (cf_fm f4 (by omega) (by omega) (by omega))
        have C4 : CP L u T n h4 := by
          obtain ⟨m, m1, m2⟩ := C3.2.2.2.2.2.2.2.1
          refine CP_u f4 C3 lw N ?_ ⟨m, by rw [q4]; exact m1, m2⟩ (fun _ y => y) C3.2.2.2.2.2.2.2.2.2
          have io : ∀ a, a ≠ u + 10 → ∀ z, ia h4 a z = ia h3 a z := fun a a1 z => by rw [q4, ia_wA a1]
          obtain ⟨b1, ⟨k', b2, b2'⟩, b3, b4, b5, b6, b7, b8, b9, b10⟩ := C3.2.2.2.2.2.2.1
          refine ⟨by rw [q4]; exact b1, ⟨k', by rw [q4]; exact b2, b2'⟩, ?_, ?_, ?_, ?_, ?_, ?_, ?_, ?_⟩
          · simp (disch := omega) only [io]; exact b3
          · simp (disch := omega) only [io]; exact b4
          · simp (disch := omega) only [io]; exact b5
          · simp (disch := omega) only [io]; exact b6
          · simp (disch := omega) only [io]; exact b7
          · intro i i0 i1
            have q10 : ia h4 (u + 10) i = ia h3 (u + 10) i := by rw [q4]; exact ia_ne (by omega) i0 (by omega)
            rw [io (u + 9) (by omega), q10, io (u + 11) (by omega)]
            exact b8 i i0 i1
          · simp (disch := omega) only [io]; exact b9
          · simp (disch := omega) only [io]; exact b10
        have w := C_tw (k := 21) B4 p3b c4 (by omega)
        unfold a_fea3
        by_cases y : isW T n p3 21 = true
        · rw [if_pos y]
          obtain ⟨h5', e5, s5, _, c5, B5⟩ := w.1 y
          clear w
          replace e5 : F_rd_takeWord 2 1000024 h4 = some (J 1, h5') := e5
          have p4b := (tln_b T n p3 p3b).1
          obtain ⟨p4, hp4⟩ : ∃ p4, p4 = tnx T n p3 := ⟨_, rfl⟩
          rw [← hp4] at c5 p4b ⊢
          have v := C_twh (lo := 0) (hi := 50) B5 p4b c5 (by omega) (by omega)
          unfold a_fea5
          by_cases z' : pwf T n p4 0 50 = 0
          · rw [if_pos z']
            obtain ⟨h6, e6, s6, w6, c6, B6⟩ := v.1 z'
            clear v
            have tb' := pwf_0 z'
            have p5b := (tln_b T n p4 p4b).1
            have S6 := sf_tr s5 s6
            have D6 := B6.2.2.2
            have T6 := TS_fm S6.1 T4
            obtain ⟨x, hx⟩ : ∃ x, x = knb L T n p := ⟨_, rfl⟩
            obtain ⟨r, hr⟩ : ∃ r, r = tnm T n p4 := ⟨_, rfl⟩
            rw [← hx] at e1 k1 d1 ⊢
            rw [← hr] at w6 tb' ⊢
            rw [← hq]
            have gu6 : gR h6 2 7 3 = some u := gR_e (DS_k D6) (by rw [fm_fR S6.1, fm_fR f4]; exact C3.2.2.1)
            have g17 := trf_17 T6
            have n17 := TS_n17 T6
            obtain ⟨h7, q7⟩ : ∃ h7, h7 = wA h6 (u + 11) g r := ⟨_, rfl⟩
            have f7 : Fm u (u + 18) h6 h7 := by rw [q7]; exact fm_wA (by omega) (by omega)
            have s7 : sI h6 100 (u + 11) (J g) (J r) = some h7 := by rw [q7]; exact sI_J (TS_k17 T6) (by omega) (by omega) (by omega) (by omega)
            have D7 := DS_fm f7 D6
            have T7 := TS_fm f7 T6
            have gu7 : gR h7 2 7 3 = some u := gR_e (DS_k D7) (by rw [fm_fR f7, fm_fR S6.1, fm_fR f4]; exact C3.2.2.1)
            have g15 := trf_15 T7
            have n15 := TS_n15 T7
            obtain ⟨h8, q8⟩ : ∃ h8, h8 = wA h7 (u + 9) g x := ⟨_, rfl⟩
            have f8 : Fm u (u + 18) h7 h8 := by rw [q8]; exact fm_wA (by omega) (by omega)
            have s8 : sI h7 100 (u + 9) (J g) (J x) = some h8 := by rw [q8]; exact sI_J (TS_k15 T7) (by omega) (by omega) (by omega) (by omega)
            have D8 := DS_fm f8 D7
            have T8 := TS_fm f8 T7
            have gu8 : gR h8 2 7 3 = some u := gR_e (DS_k D8) (by rw [fm_fR f8, fm_fR f7, fm_fR S6.1, fm_fR f4]; exact C3.2.2.1)
            have v14 : fi h8 u 14 = g := by
              rw [q8, q7]
              show fi h6 u 14 = g
              rw [fm_fi S6.1 (by omega), q4]
              show fi h3 u 14 = g
              rw [hg]
              exact TR_f C3.2.2.2.2.2.2.1
            have i8 : gI h8 u 10 14 = some (J g) := by rw [gI_J (TS_k T8), v14]
            obtain ⟨h9, q9⟩ : ∃ h9, h9 = wF h8 u 14 (g + 1) := ⟨_, rfl⟩
            have f9 : Fm u (u + 18) h8 h9 := by rw [q9]; exact fm_wF (by omega) (by omega)
            have s9 : pI h8 u 10 14 (J (g + 1)) = some h9 := by rw [q9]; exact pI_J (TS_k T8)
            have F9 := fm_tr f7 (fm_tr f8 f9)
            refine CO_l p5b (h' := h9) ?_ (cf_tr cf4 (cf_tr (cf_sf hu S6) (cf_fm F9 (by omega) (by omega) (by omega)))) ?_ (CT_fm F9 (by omega) c6) ?_
            · unfold F_rd_readFeast
              rw [ck_e (DS_k D)]
              try simp only [j_0, j_1, j_2, j_3, j_4, j_5, j_6, j_7, j_8, j_9, j_10, j_11, j_12, j_13, j_14, j_15, j_16, j_17, j_18, j_19, j_20, j_21, j_22, j_23, j_24, j_25, j_26, j_27, j_28, j_29, j_30, j_31, j_32, j_33, j_34, j_35, j_36, j_37, j_38, j_39, j_40, j_41, j_42, j_43, j_44, j_45, j_46, j_47, j_48, j_49, j_50, j_51, j_52, j_57, j_59, j_63, j_74, j_75, j_93, j_97, j_99, j_100, j_122, j_200, j_255, j_300, j_465, j_496, j_900, j_999, j_1000, j_65536, j_65537, j_99999, j_252645135, j_858993459, j_1431655765, k_0, k_1, k_27, k_32, k_74, k_75, k_100, k_1000, k_65537]
              simp (disch := first | with_reducible assumption | omega | trivial) only [↓bn_s1, ↓bd_s1, ↓ei_l1, ↓ei_r1, ↓bn_if, ↓ilt_1, ↓ilt_0, ↓ieq_1, ↓ieq_0, bn_s1, bd_s1, ei_l1, ei_r1, J_add, J_sub, J_mul, J_neg, J_lt, J_le, J_eq, dv_J, rm_J, if_pos, if_neg, ↓reduceIte, bitJ, shlJ, orJ, j_0, j_1, j_2, j_3, j_4, j_5, j_6, j_7, j_8, j_9, j_10, j_11, j_12, j_13, j_14, j_15, j_16, j_17, j_18, j_19, j_20, j_21, j_22, j_23, j_24, j_25, j_26, j_27, j_28, j_29, j_30, j_31, j_32, j_33, j_34, j_35, j_36, j_37, j_38, j_39, j_40, j_41, j_42, j_43, j_44, j_45, j_46, j_47, j_48, j_49, j_50, j_51, j_52, j_57, j_59, j_63, j_74, j_75, j_93, j_97, j_99, j_100, j_122, j_200, j_255, j_300, j_465, j_496, j_900, j_999, j_1000, j_65536, j_65537, j_99999, j_252645135, j_858993459, j_1431655765, k_0, k_1, k_27, k_32, k_74, k_75, k_100, k_1000, k_65537, ↓bn_e (gu0), gu0, ↓bn_e (gf0), gf0, ↓bd_e (e1), e1, d_i D, ↓d_i_b D, d_p D, ↓d_p_b D, d_r2 D, ↓d_r2_b D, ↓bn_e (e2), e2, ↓bd_e (e3), e3, ↓bd_e (e4), e4, ↓bn_e (gu3), gu3, ↓bn_e (g16), g16, d_i D3, ↓d_i_b D3, d_p D3, ↓d_p_b D3, d_r2 D3, ↓d_r2_b D3, w3, ↓bn_e (s4), s4, ↓bd_e (e5), e5, ↓bd_e (e6), e6, ↓bn_e (gu6), gu6, ↓bn_e (g17), g17, d_i D6, ↓d_i_b D6, d_p D6, ↓d_p_b D6, d_r2 D6, ↓d_r2_b D6, w6, ↓bn_e (s7), s7, ↓bn_e (gu7), gu7, ↓bn_e (g15), g15, ↓bn_e (s8), s8, ↓bn_e (gu8), gu8, ↓bn_e (i8), i8, ↓bn_e (s9), s9]
            · have C6 := CP_sf S6 C4
              have R6 := C6.2.2.2.2.2.2.1
              have fo : ∀ a j, (a ≠ u ∨ j ≠ 14) → fi h9 a j = fi h6 a j := fun a j ha => by rw [q9, fi_ne ha, q8, q7]; rfl
              have io : ∀ a, a ≠ u + 9 → a ≠ u + 11 → ∀ z, ia h9 a z = ia h6 a z := fun a a1 a3 z => by
                rw [q9]
                show ia h8 a z = _
                rw [q8, ia_wA a1, q7, ia_wA a3]
              have j1 : ∀ z, 0 ≤ z → ia h9 (u + 9) z = if z = g then x else ia h6 (u + 9) z := fun z z0 => by
                rw [q9]
                show ia h8 (u + 9) z = _
                rw [q8, ia_if (by omega) z0 (by omega) (by omega) (by omega), q7, ia_wA (by omega)]
              have j2 : ia h9 (u + 10) g = q := by
                rw [io _ (by omega) (by omega), fm_ia S6.1 (by omega), q4]
                exact ia_same (by omega) (by omega) (by omega) (by omega)
              have j3 : ∀ z, 0 ≤ z → ia h9 (u + 11) z = if z = g then r else ia h6 (u + 11) z := fun z z0 => by
                rw [q9]
                show ia h8 (u + 11) z = _
                rw [q8, ia_wA (by omega), q7]
                exact ia_if (by omega) z0 (by omega) (by omega) (by omega)
              obtain ⟨m, m1, m2⟩ := C6.2.2.2.2.2.2.2.1
              refine CP_u F9 C6 (LW_fea lw h5 ⟨by omega, d1⟩ ⟨tb.2.1, tb.2.2⟩ ⟨tb'.2.1, tb'.2.2⟩) N ?_ ⟨m, by rw [fo _ _ (by omega)]; exact m1, m2⟩ (fun _ y => y) C6.2.2.2.2.2.2.2.2.2
              obtain ⟨b1, ⟨k', b2, b2'⟩, b3, b4, b5, b6, b7, b8, b9, b10⟩ := R6
              refine ⟨⟨?_, ?_, ?_, ?_, ?_, ?_, ?_, ?_⟩, ⟨k', ?_, b2'⟩, ?_, ?_, ?_, ?_, ?_, ?_, ?_, ?_⟩
              · rw [fo _ _ (by omega)]; exact b1.1
              · rw [fo _ _ (by omega)]; exact b1.2.1
              · rw [fo _ _ (by omega)]; exact b1.2.2.1
              · rw [fo _ _ (by omega)]; exact b1.2.2.2.1
              · rw [fo _ _ (by omega)]; exact b1.2.2.2.2.1
              · rw [q9, fi_same (by omega) (by omega), hg]; rfl
              · rw [fo _ _ (by omega)]; exact b1.2.2.2.2.2.2.1
              · rw [fo _ _ (by omega)]; exact b1.2.2.2.2.2.2.2
              · rw [fo _ _ (by omega)]; exact b2
              · simp (disch := omega) only [io]; exact b3
              · simp (disch := omega) only [io]; exact b4
              · simp (disch := omega) only [io]; exact b5
              · simp (disch := omega) only [io]; exact b6
              · simp (disch := omega) only [io]; exact b7
              · intro i i0 i1
                replace i1 : i < L 5 0 + 1 := i1
                rw [j1 i i0, j3 i i0]
                show _ = (if i = L 5 0 then x else L 19 i) ∧ _ = (if i = L 5 0 then q else L 20 i) ∧ _ = (if i = L 5 0 then r else L 21 i)
                rw [← hg]
                by_cases e : i = g
                · rw [if_pos e, if_pos e, if_pos e, if_pos e, if_pos e, e]; exact ⟨rfl, j2, rfl⟩
                · rw [if_neg e, if_neg e, if_neg e, if_neg e, if_neg e, io _ (by omega) (by omega)]; exact b8 i i0 (by omega)
              · simp (disch := omega) only [io]; exact b9
              · simp (disch := omega) only [io]; exact b10
            · rw [fm_fi F9 (by omega), fm_fi F9 (by omega), S6.2 0 (by omega), S6.2 1 (by omega), fm_fi f4 (by omega), fm_fi f4 (by omega), S3.2 0 (by omega), S3.2 1 (by omega)]
              exact ⟨rfl, rfl⟩
          · rw [if_neg z']
            obtain ⟨h6, e6, f6⟩ := v.2 z'
            clear v
            refine CO_r (h' := h6) ?_ (cf_tr cf4 (cf_tr (cf_sf hu s5) (cf_fl hu f6))) f6.2
            unfold F_rd_readFeast
            rw [ck_e (DS_k D)]
            try simp only [j_0, j_1, j_2, j_3, j_4, j_5, j_6, j_7, j_8, j_9, j_10, j_11, j_12, j_13, j_14, j_15, j_16, j_17, j_18, j_19, j_20, j_21, j_22, j_23, j_24, j_25, j_26, j_27, j_28, j_29, j_30, j_31, j_32, j_33, j_34, j_35, j_36, j_37, j_38, j_39, j_40, j_41, j_42, j_43, j_44, j_45, j_46, j_47, j_48, j_49, j_50, j_51, j_52, j_57, j_59, j_63, j_74, j_75, j_93, j_97, j_99, j_100, j_122, j_200, j_255, j_300, j_465, j_496, j_900, j_999, j_1000, j_65536, j_65537, j_99999, j_252645135, j_858993459, j_1431655765, k_0, k_1, k_27, k_32, k_74, k_75, k_100, k_1000, k_65537]
            simp (disch := first | with_reducible assumption | omega | trivial) only [↓bn_s1, ↓bd_s1, ↓ei_l1, ↓ei_r1, ↓bn_if, ↓ilt_1, ↓ilt_0, ↓ieq_1, ↓ieq_0, bn_s1, bd_s1, ei_l1, ei_r1, J_add, J_sub, J_mul, J_neg, J_lt, J_le, J_eq, dv_J, rm_J, if_pos, if_neg, ↓reduceIte, bitJ, shlJ, orJ, j_0, j_1, j_2, j_3, j_4, j_5, j_6, j_7, j_8, j_9, j_10, j_11, j_12, j_13, j_14, j_15, j_16, j_17, j_18, j_19, j_20, j_21, j_22, j_23, j_24, j_25, j_26, j_27, j_28, j_29, j_30, j_31, j_32, j_33, j_34, j_35, j_36, j_37, j_38, j_39, j_40, j_41, j_42, j_43, j_44, j_45, j_46, j_47, j_48, j_49, j_50, j_51, j_52, j_57, j_59, j_63, j_74, j_75, j_93, j_97, j_99, j_100, j_122, j_200, j_255, j_300, j_465, j_496, j_900, j_999, j_1000, j_65536, j_65537, j_99999, j_252645135, j_858993459, j_1431655765, k_0, k_1, k_27, k_32, k_74, k_75, k_100, k_1000, k_65537, ↓bn_e (gu0), gu0, ↓bn_e (gf0), gf0, ↓bd_e (e1), e1, d_i D, ↓d_i_b D, d_p D, ↓d_p_b D, d_r2 D, ↓d_r2_b D, ↓bn_e (e2), e2, ↓bd_e (e3), e3, ↓bd_e (e4), e4, ↓bn_e (gu3), gu3, ↓bn_e (g16), g16, d_i D3, ↓d_i_b D3, d_p D3, ↓d_p_b D3, d_r2 D3, ↓d_r2_b D3, w3, ↓bn_e (s4), s4, ↓bd_e (e5), e5, ↓bd_e (e6), e6]
        · rw [if_neg y]
          obtain ⟨h5', e5, f5⟩ := w.2 y
          clear w
          replace e5 : F_rd_takeWord 2 1000024 h4 = some (J 0, h5') := e5
          refine CO_r (h' := h5') ?_ (cf_tr cf4 (cf_fl hu f5)) f5.2
          unfold F_rd_readFeast
          rw [ck_e (DS_k D)]
          try simp only [j_0, j_1, j_2, j_3, j_4, j_5, j_6, j_7, j_8, j_9, j_10, j_11, j_12, j_13, j_14, j_15, j_16, j_17, j_18, j_19, j_20, j_21, j_22, j_23, j_24, j_25, j_26, j_27, j_28, j_29, j_30, j_31, j_32, j_33, j_34, j_35, j_36, j_37, j_38, j_39, j_40, j_41, j_42, j_43, j_44, j_45, j_46, j_47, j_48, j_49, j_50, j_51, j_52, j_57, j_59, j_63, j_74, j_75, j_93, j_97, j_99, j_100, j_122, j_200, j_255, j_300, j_465, j_496, j_900, j_999, j_1000, j_65536, j_65537, j_99999, j_252645135, j_858993459, j_1431655765, k_0, k_1, k_27, k_32, k_74, k_75, k_100, k_1000, k_65537]
          simp (disch := first | with_reducible assumption | omega | trivial) only [↓bn_s1, ↓bd_s1, ↓ei_l1, ↓ei_r1, ↓bn_if, ↓ilt_1, ↓ilt_0, ↓ieq_1, ↓ieq_0, bn_s1, bd_s1, ei_l1, ei_r1, J_add, J_sub, J_mul, J_neg, J_lt, J_le, J_eq, dv_J, rm_J, if_pos, if_neg, ↓reduceIte, bitJ, shlJ, orJ, j_0, j_1, j_2, j_3, j_4, j_5, j_6, j_7, j_8, j_9, j_10, j_11, j_12, j_13, j_14, j_15, j_16, j_17, j_18, j_19, j_20, j_21, j_22, j_23, j_24, j_25, j_26, j_27, j_28, j_29, j_30, j_31, j_32, j_33, j_34, j_35, j_36, j_37, j_38, j_39, j_40, j_41, j_42, j_43, j_44, j_45, j_46, j_47, j_48, j_49, j_50, j_51, j_52, j_57, j_59, j_63, j_74, j_75, j_93, j_97, j_99, j_100, j_122, j_200, j_255, j_300, j_465, j_496, j_900, j_999, j_1000, j_65536, j_65537, j_99999, j_252645135, j_858993459, j_1431655765, k_0, k_1, k_27, k_32, k_74, k_75, k_100, k_1000, k_65537, ↓bn_e (gu0), gu0, ↓bn_e (gf0), gf0, ↓bd_e (e1), e1, d_i D, ↓d_i_b D, d_p D, ↓d_p_b D, d_r2 D, ↓d_r2_b D, ↓bn_e (e2), e2, ↓bd_e (e3), e3, ↓bd_e (e4), e4, ↓bn_e (gu3), gu3, ↓bn_e (g16), g16, d_i D3, ↓d_i_b D3, d_p D3, ↓d_p_b D3, d_r2 D3, ↓d_r2_b D3, w3, ↓bn_e (s4), s4, ↓bd_e (e5), e5]
      · rw [if_neg z]
        obtain ⟨h3, e4, f3⟩ := v.2 z
        clear v
        refine CO_r (h' := h3) ?_ (cf_tr (cf_sf hu (sf_tr s1 s2)) (cf_fl hu f3)) f3.2
        unfold F_rd_readFeast
        rw [ck_e (DS_k D)]
        try simp only [j_0, j_1, j_2, j_3, j_4, j_5, j_6, j_7, j_8, j_9, j_10, j_11, j_12, j_13, j_14, j_15, j_16, j_17, j_18, j_19, j_20, j_21, j_22, j_23, j_24, j_25, j_26, j_27, j_28, j_29, j_30, j_31, j_32, j_33, j_34, j_35, j_36, j_37, j_38, j_39, j_40, j_41, j_42, j_43, j_44, j_45, j_46, j_47, j_48, j_49, j_50, j_51, j_52, j_57, j_59, j_63, j_74, j_75, j_93, j_97, j_99, j_100, j_122, j_200, j_255, j_300, j_465, j_496, j_900, j_999, j_1000, j_65536, j_65537, j_99999, j_252645135, j_858993459, j_1431655765, k_0, k_1, k_27, k_32, k_74, k_75, k_100, k_1000, k_65537]
        simp (disch := first | with_reducible assumption | omega | trivial) only [↓bn_s1, ↓bd_s1, ↓ei_l1, ↓ei_r1, ↓bn_if, ↓ilt_1, ↓ilt_0, ↓ieq_1, ↓ieq_0, bn_s1, bd_s1, ei_l1, ei_r1, J_add, J_sub, J_mul, J_neg, J_lt, J_le, J_eq, dv_J, rm_J, if_pos, if_neg, ↓reduceIte, bitJ, shlJ, orJ, j_0, j_1, j_2, j_3, j_4, j_5, j_6, j_7, j_8, j_9, j_10, j_11, j_12, j_13, j_14, j_15, j_16, j_17, j_18, j_19, j_20, j_21, j_22, j_23, j_24, j_25, j_26, j_27, j_28, j_29, j_30, j_31, j_32, j_33, j_34, j_35, j_36, j_37, j_38, j_39, j_40, j_41, j_42, j_43, j_44, j_45, j_46, j_47, j_48, j_49, j_50, j_51, j_52, j_57, j_59, j_63, j_74, j_75, j_93, j_97, j_99, j_100, j_122, j_200, j_255, j_300, j_465, j_496, j_900, j_999, j_1000, j_65536, j_65537, j_99999, j_252645135, j_858993459, j_1431655765, k_0, k_1, k_27, k_32, k_74, k_75, k_100, k_1000, k_65537, ↓bn_e (gu0), gu0, ↓bn_e (gf0), gf0, ↓bd_e (e1), e1, d_i D, ↓d_i_b D, d_p D, ↓d_p_b D, d_r2 D, ↓d_r2_b D, ↓bn_e (e2), e2, ↓bd_e (e3), e3, ↓bd_e (e4), e4]
    · rw [if_neg c']
      obtain ⟨h2, e3, f2⟩ := w.2 c'
      clear w
      replace e3 : F_rd_takeWord 2 1000023 h1 = some (J 0, h2) := e3
      refine CO_r (h' := h2) ?_ (cf_tr (cf_sf hu s1) (cf_fl hu f2)) f2.2
      unfold F_rd_readFeast
      rw [ck_e (DS_k D)]
      try simp only [j_0, j_1, j_2, j_3, j_4, j_5, j_6, j_7, j_8, j_9, j_10, j_11, j_12, j_13, j_14, j_15, j_16, j_17, j_18, j_19, j_20, j_21, j_22, j_23, j_24, j_25, j_26, j_27, j_28, j_29, j_30, j_31, j_32, j_33, j_34, j_35, j_36, j_37, j_38, j_39, j_40, j_41, j_42, j_43, j_44, j_45, j_46, j_47, j_48, j_49, j_50, j_51, j_52, j_57, j_59, j_63, j_74, j_75, j_93, j_97, j_99, j_100, j_122, j_200, j_255, j_300, j_465, j_496, j_900, j_999, j_1000, j_65536, j_65537, j_99999, j_252645135, j_858993459, j_1431655765, k_0, k_1, k_27, k_32, k_74, k_75, k_100, k_1000, k_65537]
      simp (disch := first | with_reducible assumption | omega | trivial) only [↓bn_s1, ↓bd_s1, ↓ei_l1, ↓ei_r1, ↓bn_if, ↓ilt_1, ↓ilt_0, ↓ieq_1, ↓ieq_0, bn_s1, bd_s1, ei_l1, ei_r1, J_add, J_sub, J_mul, J_neg, J_lt, J_le, J_eq, dv_J, rm_J, if_pos, if_neg, ↓reduceIte, bitJ, shlJ, orJ, j_0, j_1, j_2, j_3, j_4, j_5, j_6, j_7, j_8, j_9, j_10, j_11, j_12, j_13, j_14, j_15, j_16, j_17, j_18, j_19, j_20, j_21, j_22, j_23, j_24, j_25, j_26, j_27, j_28, j_29, j_30, j_31, j_32, j_33, j_34, j_35, j_36, j_37, j_38, j_39, j_40, j_41, j_42, j_43, j_44, j_45, j_46, j_47, j_48, j_49, j_50, j_51, j_52, j_57, j_59, j_63, j_74, j_75, j_93, j_97, j_99, j_100, j_122, j_200, j_255, j_300, j_465, j_496, j_900, j_999, j_1000, j_65536, j_65537, j_99999, j_252645135, j_858993459, j_1431655765, k_0, k_1, k_27, k_32, k_74, k_75, k_100, k_1000, k_65537, ↓bn_e (gu0), gu0, ↓bn_e (gf0), gf0, ↓bd_e (e1), e1, d_i D, ↓d_i_b D, d_p D, ↓d_p_b D, d_r2 D, ↓d_r2_b D, ↓bn_e (e2), e2, ↓bd_e (e3), e3]
  · rw [if_neg c]
    obtain ⟨h1, e1, f1⟩ := w.2 c
    clear w
    replace e1 : F_rd_numberOfName 2 (J 1) h = some (J (-1), h1) := e1
    refine CO_r (h' := h1) ?_ (cf_fl hu f1) f1.2
    unfold F_rd_readFeast
    rw [ck_e (DS_k D)]
    try simp only [j_0, j_1, j_2, j_3, j_4, j_5, j_6, j_7, j_8, j_9, j_10, j_11, j_12, j_13, j_14, j_15, j_16, j_17, j_18, j_19, j_20, j_21, j_22, j_23, j_24, j_25, j_26, j_27, j_28, j_29, j_30, j_31, j_32, j_33, j_34, j_35, j_36, j_37, j_38, j_39, j_40, j_41, j_42, j_43, j_44, j_45, j_46, j_47, j_48, j_49, j_50, j_51, j_52, j_57, j_59, j_63, j_74, j_75, j_93, j_97, j_99, j_100, j_122, j_200, j_255, j_300, j_465, j_496, j_900, j_999, j_1000, j_65536, j_65537, j_99999, j_252645135, j_858993459, j_1431655765, k_0, k_1, k_27, k_32, k_74, k_75, k_100, k_1000, k_65537]
    simp (disch := first | with_reducible assumption | omega | trivial) only [↓bn_s1, ↓bd_s1, ↓ei_l1, ↓ei_r1, ↓bn_if, ↓ilt_1, ↓ilt_0, ↓ieq_1, ↓ieq_0, bn_s1, bd_s1, ei_l1, ei_r1, J_add, J_sub, J_mul, J_neg, J_lt, J_le, J_eq, dv_J, rm_J, if_pos, if_neg, ↓reduceIte, bitJ, shlJ, orJ, j_0, j_1, j_2, j_3, j_4, j_5, j_6, j_7, j_8, j_9, j_10, j_11, j_12, j_13, j_14, j_15, j_16, j_17, j_18, j_19, j_20, j_21, j_22, j_23, j_24, j_25, j_26, j_27, j_28, j_29, j_30, j_31, j_32, j_33, j_34, j_35, j_36, j_37, j_38, j_39, j_40, j_41, j_42, j_43, j_44, j_45, j_46, j_47, j_48, j_49, j_50, j_51, j_52, j_57, j_59, j_63, j_74, j_75, j_93, j_97, j_99, j_100, j_122, j_200, j_255, j_300, j_465, j_496, j_900, j_999, j_1000, j_65536, j_65537, j_99999, j_252645135, j_858993459, j_1431655765, k_0, k_1, k_27, k_32, k_74, k_75, k_100, k_1000, k_65537, ↓bn_e (gu0), gu0, ↓bn_e (gf0), gf0, ↓bd_e (e1), e1]
