/-! gave, in the class -/
theorem CP_u {L L' : Lk} {u : Nat} {T : Int → Int} {n : Nat} {h h' : Hp} (x : Fm u (u + 18) h h') (C : CP L u T n h) (hl : LW L') (hn : NW L') (ht : TR L' u h') (hm : ∃ m : Nat, fi h' u 2 = m ∧ m < 2 ^ (L' 1 0).toNat) (e : ∀ g, NC L g → NC L' g) (e31 : L' 31 0 = 0 ∨ L' 31 0 = 1) : CP L' u T n h' := by
  obtain ⟨a1, a2, a3, a4, a5, a6, a7, a8, a9, a10⟩ := C
  refine ⟨KB_fm x (by omega) (by omega) a1, TS_fm x a2, by rw [fm_fR x]; exact a3, a4, hl, hn, ht, hm, e _ ⟨?_, ?_, fun i i0 i1 => ?_⟩, e31⟩
  · rw [fm_fi x (by omega)]; exact a9.1
  · rw [fm_fi x (by omega)]; exact a9.2.1
  · rw [fm_la x (by omega), fm_ia x (by omega), fm_ia x (by omega)]; exact a9.2.2 i i0 i1
theorem C_gav {L : Lk} {u : Nat} {T : Int → Int} {n p : Nat} {h : Hp} (hp : p ≤ n) (C : CP L u T n h) (NBL : NB L) (h6 : L 6 0 < 4) (H : CT T n p h) : CO (a_gav L T n p) u T n (F_rd_readGave 2 h) h := by
  have B := C.1
  have D := B.2.2.2
  have hu := C.2.2.2.1
  have lw := C.2.2.2.2.1
  have N := C.2.2.2.2.2.1
  have R := C.2.2.2.2.2.2.2.2.1
  have w := C_non (s := 2) B hp H N R (by omega)
  unfold a_gav
  by_cases c : pkf L T n p 2 = 0
  · rw [if_pos c]
    have e1 : F_rd_numberOfName 2 (J 5) h = some (J (knb L T n p), h) := w.1 c
    clear w
    have k1 := pkf_0 N c
    have d1 := (NBL.2 _ k1.2.1 k1.2.2.1).2 k1.2.2.2.1
    obtain ⟨h1, e2, s1, _, c1, B1⟩ := C_ad B hp H
    have p1 := (tln_b T n p hp).1
    have p2 := (tln_b T n (tnx T n p) p1).1
    have p3 := (tln_b T n (tnx T n (tnx T n p)) p2).1
    have C1 := CP_sf s1 C
    have D1 := B1.2.2.2
    have w := C_non (s := 0) B1 p1 c1 N C1.2.2.2.2.2.2.2.2.1 (by omega)
    by_cases c' : pkf L T n (tnx T n p) 0 = 0
    · rw [if_pos c']
      have e3 : F_rd_numberOfName 2 (J 1) h1 = some (J (knb L T n (tnx T n p)), h1) := w.1 c'
      clear w
      have k2 := pkf_0 N c'
      have d2 := (NBL.2 _ k2.2.1 k2.2.2.1).1 k2.2.2.2.1
      obtain ⟨h2, e4, s2, _, c2, B2⟩ := C_ad B1 p1 c1
      have C2 := CP_sf s2 C1
      have D2 := B2.2.2.2
      have v := C_twh (lo := 1) (hi := 20) B2 p2 c2 (by omega) (by omega)
      by_cases z : pwf T n (tnx T n (tnx T n p)) 1 20 = 0
      · rw [if_pos z]
        obtain ⟨h3, e5, s3, w3, c3, B3⟩ := v.1 z
        clear v
        have tb := pwf_0 z
        have C3 := CP_sf s3 C2
        have D3 := B3.2.2.2
        have Ts := C3.2.1
        have R3 := C3.2.2.2.2.2.2.1
        have lv := LW_v lw
        obtain ⟨d, hd⟩ : ∃ d, d = knb L T n p := ⟨_, rfl⟩
        obtain ⟨x, hx⟩ : ∃ x, x = knb L T n (tnx T n p) := ⟨_, rfl⟩
        obtain ⟨q, hq⟩ : ∃ q, q = tnm T n (tnx T n (tnx T n p)) := ⟨_, rfl⟩
        obtain ⟨g, hg⟩ : ∃ g, g = L 6 0 := ⟨_, rfl⟩
        replace d1 : knb L T n p < L 4 0 := d1
        replace d2 : knb L T n (tnx T n p) < L 1 0 := d2
        rw [← hd] at e1 k1 d1 ⊢
        rw [← hx] at e3 k2 d2 ⊢
        rw [← hq] at w3 tb ⊢
        have lh := LW_h lw
        have ld := LW_d lw
        have S3 := sf_tr s1 (sf_tr s2 s3)
        have gu : gR h3 2 7 3 = some u := gR_e (DS_k D3) C3.2.2.1
        have gy := trf_18 Ts
        have y1 : gR h3 (u + 12) 1 1 = some (u + 13) := gR_e (TS_ky Ts) (TS_ry1 Ts)
        have i0 : gI h3 (u + 12) 1 0 = some (J g) := by rw [hg]; exact ty_0 Ts R3
        obtain ⟨h4, q4⟩ : ∃ h4, h4 = wA h3 (u + 13) g d := ⟨_, rfl⟩
        have f4 : Fm u (u + 18) h3 h4 := by rw [q4]; exact fm_wA (by omega) (by omega)
        have n1 := TS_ny1 Ts
        have s4 : sI h3 100 (u + 13) (J g) (J d) = some h4 := by rw [q4]; exact sI_J (TS_ky1 Ts) (by omega) (by omega) (by omega) (by omega)
        have T4 := TS_fm f4 Ts
        have y2 : gR h4 (u + 12) 1 2 = some (u + 14) := gR_e (TS_ky T4) (TS_ry2 T4)
        have i4 : gI h4 (u + 12) 1 0 = some (J g) := by rw [gI_J (TS_ky T4), q4]; rw [gI_J (TS_ky Ts)] at i0; exact i0
        obtain ⟨h5, q5⟩ : ∃ h5, h5 = wA h4 (u + 14) g x := ⟨_, rfl⟩
        have f5 : Fm u (u + 18) h4 h5 := by rw [q5]; exact fm_wA (by omega) (by omega)
        have n2 := TS_ny2 T4
        have s5 : sI h4 100 (u + 14) (J g) (J x) = some h5 := by rw [q5]; exact sI_J (TS_ky2 T4) (by omega) (by omega) (by omega) (by omega)
        have T5 := TS_fm f5 T4
        have y3 : gR h5 (u + 12) 1 3 = some (u + 15) := gR_e (TS_ky T5) (TS_ry3 T5)
        have i5 : gI h5 (u + 12) 1 0 = some (J g) := by rw [gI_J (TS_ky T5), q5]; rw [gI_J (TS_ky T4)] at i4; exact i4
        have D5 := DS_fm f5 (DS_fm f4 D3)
        have w5 : fi h5 2 9 = q := by rw [fm_fi f5 (by omega), fm_fi f4 (by omega)]; exact w3
        obtain ⟨h6', q6⟩ : ∃ h6, h6 = wA h5 (u + 15) g q := ⟨_, rfl⟩
        have f6 : Fm u (u + 18) h5 h6' := by rw [q6]; exact fm_wA (by omega) (by omega)
        have n3 := TS_ny3 T5
        have s6 : sI h5 100 (u + 15) (J g) (J q) = some h6' := by rw [q6]; exact sI_J (TS_ky3 T5) (by omega) (by omega) (by omega) (by omega)
        have T6 := TS_fm f6 T5
        have i6 : gI h6' (u + 12) 1 0 = some (J g) := by rw [gI_J (TS_ky T6), q6]; rw [gI_J (TS_ky T5)] at i5; exact i5
        obtain ⟨h7, q7⟩ : ∃ h7, h7 = wF h6' (u + 12) 0 (g + 1) := ⟨_, rfl⟩
        have f7 : Fm u (u + 18) h6' h7 := by rw [q7]; exact fm_wF (by omega) (by omega)
        have s7 : pI h6' (u + 12) 1 0 (J (g + 1)) = some h7 := by rw [q7]; exact pI_J (TS_ky T6)
        have F7 := fm_tr f4 (fm_tr f5 (fm_tr f6 f7))
        refine CO_l p3 (h' := h7) ?_ (cf_tr (cf_sf hu S3) (cf_fm F7 (by omega) (by omega) (by omega))) ?_ (CT_fm F7 (by omega) c3) ?_
        · unfold F_rd_readGave
          rw [ck_e (DS_k D)]
          try simp only [j_0, j_1, j_2, j_3, j_4, j_5, j_6, j_7, j_8, j_9, j_10, j_11, j_12, j_13, j_14, j_15, j_16, j_17, j_18, j_19, j_20, j_21, j_22, j_23, j_24, j_25, j_26, j_27, j_28, j_29, j_30, j_31, j_32, j_33, j_34, j_35, j_36, j_37, j_38, j_39, j_40, j_41, j_42, j_43, j_44, j_45, j_46, j_47, j_48, j_49, j_50, j_51, j_52, j_57, j_59, j_63, j_74, j_75, j_93, j_97, j_99, j_100, j_122, j_200, j_255, j_300, j_465, j_496, j_900, j_999, j_1000, j_65536, j_65537, j_99999, j_252645135, j_858993459, j_1431655765, k_0, k_1, k_27, k_32, k_74, k_75, k_100, k_1000, k_65537]
          simp (disch := first | with_reducible assumption | omega | trivial) only [↓bn_s1, ↓bd_s1, ↓ei_l1, ↓ei_r1, ↓bn_if, ↓ilt_1, ↓ilt_0, ↓ieq_1, ↓ieq_0, bn_s1, bd_s1, ei_l1, ei_r1, J_add, J_sub, J_mul, J_neg, J_lt, J_le, J_eq, dv_J, rm_J, if_pos, if_neg, ↓reduceIte, bitJ, shlJ, orJ, j_0, j_1, j_2, j_3, j_4, j_5, j_6, j_7, j_8, j_9, j_10, j_11, j_12, j_13, j_14, j_15, j_16, j_17, j_18, j_19, j_20, j_21, j_22, j_23, j_24, j_25, j_26, j_27, j_28, j_29, j_30, j_31, j_32, j_33, j_34, j_35, j_36, j_37, j_38, j_39, j_40, j_41, j_42, j_43, j_44, j_45, j_46, j_47, j_48, j_49, j_50, j_51, j_52, j_57, j_59, j_63, j_74, j_75, j_93, j_97, j_99, j_100, j_122, j_200, j_255, j_300, j_465, j_496, j_900, j_999, j_1000, j_65536, j_65537, j_99999, j_252645135, j_858993459, j_1431655765, k_0, k_1, k_27, k_32, k_74, k_75, k_100, k_1000, k_65537, ↓bd_e (e1), e1, d_i D, ↓d_i_b D, d_p D, ↓d_p_b D, d_r2 D, ↓d_r2_b D, ↓bn_e (e2), e2, ↓bd_e (e3), e3, d_i D1, ↓d_i_b D1, d_p D1, ↓d_p_b D1, d_r2 D1, ↓d_r2_b D1, ↓bn_e (e4), e4, ↓bd_e (e5), e5, ↓bn_e (gu), gu, ↓bn_e (gy), gy, ↓bn_e (y1), y1, ↓bn_e (i0), i0, ↓bn_e (s4), s4, ↓bn_e (y2), y2, ↓bn_e (i4), i4, ↓bn_e (s5), s5, ↓bn_e (y3), y3, ↓bn_e (i5), i5, d_i D5, ↓d_i_b D5, d_p D5, ↓d_p_b D5, d_r2 D5, ↓d_r2_b D5, w5, ↓bn_e (s6), s6, ↓bn_e (i6), i6, ↓bn_e (s7), s7]
        · have fo : ∀ a j, (a ≠ u + 12 ∨ j ≠ 0) → fi h7 a j = fi h3 a j := fun a j ha => by rw [q7, fi_ne ha, q6, q5, q4]; rfl
          have io : ∀ a, a ≠ u + 13 → a ≠ u + 14 → a ≠ u + 15 → ∀ z, ia h7 a z = ia h3 a z := fun a a1 a2 a3 z => by
            rw [q7]
            show ia h6' a z = _
            rw [q6, ia_wA a3, q5, ia_wA a2, q4, ia_wA a1]
          have j1 : ∀ z, 0 ≤ z → ia h7 (u + 13) z = if z = g then d else ia h3 (u + 13) z := fun z z0 => by
            rw [q7]
            show ia h6' (u + 13) z = _
            rw [q6, ia_wA (by omega), q5, ia_wA (by omega), q4]
            exact ia_if (by omega) z0 (by omega) (by omega) (by omega)
          have j2 : ∀ z, 0 ≤ z → ia h7 (u + 14) z = if z = g then x else ia h3 (u + 14) z := fun z z0 => by
            rw [q7]
            show ia h6' (u + 14) z = _
            rw [q6, ia_wA (by omega), q5, ia_if (by omega) z0 (by omega) (by omega) (by omega), q4, ia_wA (by omega)]
          have j3 : ∀ z, 0 ≤ z → ia h7 (u + 15) z = if z = g then q else ia h3 (u + 15) z := fun z z0 => by
            rw [q7]
            show ia h6' (u + 15) z = _
            rw [q6, ia_if (by omega) z0 (by omega) (by omega) (by omega), q5, ia_wA (by omega), q4, ia_wA (by omega)]
          obtain ⟨m, m1, m2⟩ := C3.2.2.2.2.2.2.2.1
          refine CP_u F7 C3 (LW_gav lw h6 ⟨by omega, d1⟩ ⟨by omega, d2⟩ ⟨tb.2.1, tb.2.2⟩) N ?_ ⟨m, by rw [fo _ _ (by omega)]; exact m1, m2⟩ (fun _ y => y) C3.2.2.2.2.2.2.2.2.2
          obtain ⟨b1, ⟨k', b2, b2'⟩, b3, b4, b5, b6, b7, b8, b9, b10⟩ := R3
          refine ⟨⟨?_, ?_, ?_, ?_, ?_, ?_, ?_, ?_⟩, ⟨k', ?_, b2'⟩, ?_, ?_, ?_, ?_, ?_, ?_, ?_, ?_⟩
          · rw [fo _ _ (by omega)]; exact b1.1
          · rw [fo _ _ (by omega)]; exact b1.2.1
          · rw [fo _ _ (by omega)]; exact b1.2.2.1
          · rw [fo _ _ (by omega)]; exact b1.2.2.2.1
          · rw [fo _ _ (by omega)]; exact b1.2.2.2.2.1
          · rw [fo _ _ (by omega)]; exact b1.2.2.2.2.2.1
          · rw [q7, fi_same (by omega) (by omega), hg]; rfl
          · rw [fo _ _ (by omega)]; exact b1.2.2.2.2.2.2.2
          · rw [fo _ _ (by omega)]; exact b2
          · simp (disch := omega) only [io]; exact b3
          · simp (disch := omega) only [io]; exact b4
          · simp (disch := omega) only [io]; exact b5
          · simp (disch := omega) only [io]; exact b6
          · simp (disch := omega) only [io]; exact b7
          · simp (disch := omega) only [io]; exact b8
          · intro i i0 i1
            replace i1 : i < L 6 0 + 1 := i1
            rw [j1 i i0, j2 i i0, j3 i i0]
            show _ = (if i = L 6 0 then d else L 22 i) ∧ _ = (if i = L 6 0 then x else L 23 i) ∧ _ = (if i = L 6 0 then q else L 24 i)
            rw [← hg]
            by_cases e : i = g
            · rw [if_pos e, if_pos e, if_pos e, if_pos e, if_pos e, if_pos e]; exact ⟨rfl, rfl, rfl⟩
            · rw [if_neg e, if_neg e, if_neg e, if_neg e, if_neg e, if_neg e]; exact b9 i i0 (by omega)
          · simp (disch := omega) only [io]; exact b10
        · rw [fm_fi F7 (by omega), fm_fi F7 (by omega), S3.2 0 (by omega), S3.2 1 (by omega)]
          exact ⟨rfl, rfl⟩
      · rw [if_neg z]
        obtain ⟨h3, e5, f3⟩ := v.2 z
        clear v
        refine CO_r (h' := h3) ?_ (cf_tr (cf_sf hu (sf_tr s1 s2)) (cf_fl hu f3)) f3.2
        unfold F_rd_readGave
        rw [ck_e (DS_k D)]
        try simp only [j_0, j_1, j_2, j_3, j_4, j_5, j_6, j_7, j_8, j_9, j_10, j_11, j_12, j_13, j_14, j_15, j_16, j_17, j_18, j_19, j_20, j_21, j_22, j_23, j_24, j_25, j_26, j_27, j_28, j_29, j_30, j_31, j_32, j_33, j_34, j_35, j_36, j_37, j_38, j_39, j_40, j_41, j_42, j_43, j_44, j_45, j_46, j_47, j_48, j_49, j_50, j_51, j_52, j_57, j_59, j_63, j_74, j_75, j_93, j_97, j_99, j_100, j_122, j_200, j_255, j_300, j_465, j_496, j_900, j_999, j_1000, j_65536, j_65537, j_99999, j_252645135, j_858993459, j_1431655765, k_0, k_1, k_27, k_32, k_74, k_75, k_100, k_1000, k_65537]
        simp (disch := first | with_reducible assumption | omega | trivial) only [↓bn_s1, ↓bd_s1, ↓ei_l1, ↓ei_r1, ↓bn_if, ↓ilt_1, ↓ilt_0, ↓ieq_1, ↓ieq_0, bn_s1, bd_s1, ei_l1, ei_r1, J_add, J_sub, J_mul, J_neg, J_lt, J_le, J_eq, dv_J, rm_J, if_pos, if_neg, ↓reduceIte, bitJ, shlJ, orJ, j_0, j_1, j_2, j_3, j_4, j_5, j_6, j_7, j_8, j_9, j_10, j_11, j_12, j_13, j_14, j_15, j_16, j_17, j_18, j_19, j_20, j_21, j_22, j_23, j_24, j_25, j_26, j_27, j_28, j_29, j_30, j_31, j_32, j_33, j_34, j_35, j_36, j_37, j_38, j_39, j_40, j_41, j_42, j_43, j_44, j_45, j_46, j_47, j_48, j_49, j_50, j_51, j_52, j_57, j_59, j_63, j_74, j_75, j_93, j_97, j_99, j_100, j_122, j_200, j_255, j_300, j_465, j_496, j_900, j_999, j_1000, j_65536, j_65537, j_99999, j_252645135, j_858993459, j_1431655765, k_0, k_1, k_27, k_32, k_74, k_75, k_100, k_1000, k_65537, ↓bd_e (e1), e1, d_i D, ↓d_i_b D, d_p D, ↓d_p_b D, d_r2 D, ↓d_r2_b D, ↓bn_e (e2), e2, ↓bd_e (e3), e3, d_i D1, ↓d_i_b D1, d_p D1, ↓d_p_b D1, d_r2 D1, ↓d_r2_b D1, ↓bn_e (e4), e4, ↓bd_e (e5), e5]
    · rw [if_neg c']
      obtain ⟨h2, e3, f2⟩ := w.2 c'
      clear w
      replace e3 : F_rd_numberOfName 2 (J 1) h1 = some (J (-1), h2) := e3
      refine CO_r (h' := h2) ?_ (cf_tr (cf_sf hu s1) (cf_fl hu f2)) f2.2
      unfold F_rd_readGave
      rw [ck_e (DS_k D)]
      try simp only [j_0, j_1, j_2, j_3, j_4, j_5, j_6, j_7, j_8, j_9, j_10, j_11, j_12, j_13, j_14, j_15, j_16, j_17, j_18, j_19, j_20, j_21, j_22, j_23, j_24, j_25, j_26, j_27, j_28, j_29, j_30, j_31, j_32, j_33, j_34, j_35, j_36, j_37, j_38, j_39, j_40, j_41, j_42, j_43, j_44, j_45, j_46, j_47, j_48, j_49, j_50, j_51, j_52, j_57, j_59, j_63, j_74, j_75, j_93, j_97, j_99, j_100, j_122, j_200, j_255, j_300, j_465, j_496, j_900, j_999, j_1000, j_65536, j_65537, j_99999, j_252645135, j_858993459, j_1431655765, k_0, k_1, k_27, k_32, k_74, k_75, k_100, k_1000, k_65537]
      simp (disch := first | with_reducible assumption | omega | trivial) only [↓bn_s1, ↓bd_s1, ↓ei_l1, ↓ei_r1, ↓bn_if, ↓ilt_1, ↓ilt_0, ↓ieq_1, ↓ieq_0, bn_s1, bd_s1, ei_l1, ei_r1, J_add, J_sub, J_mul, J_neg, J_lt, J_le, J_eq, dv_J, rm_J, if_pos, if_neg, ↓reduceIte, bitJ, shlJ, orJ, j_0, j_1, j_2, j_3, j_4, j_5, j_6, j_7, j_8, j_9, j_10, j_11, j_12, j_13, j_14, j_15, j_16, j_17, j_18, j_19, j_20, j_21, j_22, j_23, j_24, j_25, j_26, j_27, j_28, j_29, j_30, j_31, j_32, j_33, j_34, j_35, j_36, j_37, j_38, j_39, j_40, j_41, j_42, j_43, j_44, j_45, j_46, j_47, j_48, j_49, j_50, j_51, j_52, j_57, j_59, j_63, j_74, j_75, j_93, j_97, j_99, j_100, j_122, j_200, j_255, j_300, j_465, j_496, j_900, j_999, j_1000, j_65536, j_65537, j_99999, j_252645135, j_858993459, j_1431655765, k_0, k_1, k_27, k_32, k_74, k_75, k_100, k_1000, k_65537, ↓bd_e (e1), e1, d_i D, ↓d_i_b D, d_p D, ↓d_p_b D, d_r2 D, ↓d_r2_b D, ↓bn_e (e2), e2, ↓bd_e (e3), e3]
  · rw [if_neg c]
    obtain ⟨h1, e1, f1⟩ := w.2 c
    clear w
    replace e1 : F_rd_numberOfName 2 (J 5) h = some (J (-1), h1) := e1
    refine CO_r (h' := h1) ?_ (cf_fl hu f1) f1.2
    unfold F_rd_readGave
    rw [ck_e (DS_k D)]
    try simp only [j_0, j_1, j_2, j_3, j_4, j_5, j_6, j_7, j_8, j_9, j_10, j_11, j_12, j_13, j_14, j_15, j_16, j_17, j_18, j_19, j_20, j_21, j_22, j_23, j_24, j_25, j_26, j_27, j_28, j_29, j_30, j_31, j_32, j_33, j_34, j_35, j_36, j_37, j_38, j_39, j_40, j_41, j_42, j_43, j_44, j_45, j_46, j_47, j_48, j_49, j_50, j_51, j_52, j_57, j_59, j_63, j_74, j_75, j_93, j_97, j_99, j_100, j_122, j_200, j_255, j_300, j_465, j_496, j_900, j_999, j_1000, j_65536, j_65537, j_99999, j_252645135, j_858993459, j_1431655765, k_0, k_1, k_27, k_32, k_74, k_75, k_100, k_1000, k_65537]
    simp (disch := first | with_reducible assumption | omega | trivial) only [↓bn_s1, ↓bd_s1, ↓ei_l1, ↓ei_r1, ↓bn_if, ↓ilt_1, ↓ilt_0, ↓ieq_1, ↓ieq_0, bn_s1, bd_s1, ei_l1, ei_r1, J_add, J_sub, J_mul, J_neg, J_lt, J_le, J_eq, dv_J, rm_J, if_pos, if_neg, ↓reduceIte, bitJ, shlJ, orJ, j_0, j_1, j_2, j_3, j_4, j_5, j_6, j_7, j_8, j_9, j_10, j_11, j_12, j_13, j_14, j_15, j_16, j_17, j_18, j_19, j_20, j_21, j_22, j_23, j_24, j_25, j_26, j_27, j_28, j_29, j_30, j_31, j_32, j_33, j_34, j_35, j_36, j_37, j_38, j_39, j_40, j_41, j_42, j_43, j_44, j_45, j_46, j_47, j_48, j_49, j_50, j_51, j_52, j_57, j_59, j_63, j_74, j_75, j_93, j_97, j_99, j_100, j_122, j_200, j_255, j_300, j_465, j_496, j_900, j_999, j_1000, j_65536, j_65537, j_99999, j_252645135, j_858993459, j_1431655765, k_0, k_1, k_27, k_32, k_74, k_75, k_100, k_1000, k_65537, ↓bd_e (e1), e1]
