/-! drinker -/
def a_drk3 (L : Lk) (T : Int → Int) (n p p2 : Nat) (k : Int) : Lo := if isW T n p2 19 = true then (if pwf T n (tnx T n p2) 1 9 = 0 then .inl (tnx T n (tnx T n p2), ap2 (nml L T n p 2 (L 4 0)) 4 17 k 18 (tnm T n (tnx T n p2))) else .inr (pwf T n (tnx T n p2) 1 9, (spn T n (tnx T n p2) : Nat))) else .inr (1, (spn T n p2 : Nat))
def a_drk2 (L : Lk) (T : Int → Int) (n p p1 : Nat) (k : Int) : Lo := if k = 0 ∨ k = 3 ∨ k = 4 then a_drk3 L T n p (tnx T n p1) k else .inr (1, (spn T n p1 : Nat))
def a_drk (L : Lk) (T : Int → Int) (n p : Nat) : Lo := if pnf L T n p = 0 then a_drk2 L T n p (tnx T n p) (knd T n (tnx T n p)) else .inr (pnf L T n p, (spn T n p : Nat))
theorem LW_drk {L : Lk} {k v : Int} (H : LW L) (h4 : L 4 0 < 3) (hk : k = 0 ∨ k = 3 ∨ k = 4) (hv : 1 ≤ v ∧ v ≤ 9) : LW (ap2 L 4 17 k 18 v) := by
  obtain ⟨a0, a1, a2, a3, a4, a5, a6, a7, a8, a9, a10, a11, a12, a13, a14, a15⟩ := H
  refine ⟨a0, a1, a2, a3, ?_, a5, a6, a7, a8, a9, a10, a11, ?_, a13, ?_, a15⟩
  · show 0 ≤ L 4 0 + 1 ∧ L 4 0 + 1 ≤ 3
    omega
  · intro i i0 i1
    replace i1 : i < L 4 0 + 1 := i1
    show ((if i = L 4 0 then k else L 17 i) = 0 ∨ (if i = L 4 0 then k else L 17 i) = 3 ∨ (if i = L 4 0 then k else L 17 i) = 4) ∧ 1 ≤ (if i = L 4 0 then v else L 18 i) ∧ (if i = L 4 0 then v else L 18 i) ≤ 9
    by_cases e : i = L 4 0
    · rw [if_pos e, if_pos e]; exact ⟨hk, hv.1, hv.2⟩
    · rw [if_neg e, if_neg e]; exact a12 i i0 (by omega)
  · intro i i0 i1
    have q := a14 i i0 i1
    refine ⟨q.1, ?_, q.2.2⟩
    show L 22 i < L 4 0 + 1
    omega
theorem C_drk {L : Lk} {u : Nat} {T : Int → Int} {n p : Nat} {h : Hp} (hp : p ≤ n) (C : CP L u T n h) (NBL : NB L) (h4 : L 4 0 < 3) (H : CT T n p h) : CO (a_drk L T n p) u T n (F_rd_readDrinker 2 h) h := by
  have hu := C.2.2.2.1
  have lw := CP_lw C
  have lh := LW_h lw
  have ld := LW_d lw
  have N := CP_nw C
  unfold F_rd_readDrinker a_drk
  rw [ck_e (DS_k (CP_d C)), bn_e (CP_gu C), bn_e (ti_11 C.2.1 (CP_t C))]
  refine S_new (s := 2) C hp H (NB_11 lw NBL (Or.inr (Or.inr h4))) (by decide) (by omega) (by omega) (fun _ _ g1 C1 c1 p1b => ?_)
  obtain ⟨p1, hp1⟩ : ∃ p1, p1 = tnx T n p := ⟨_, rfl⟩
  rw [← hp1] at c1 p1b ⊢
  obtain ⟨g, hg0⟩ : ∃ g, g = L 4 0 := ⟨_, rfl⟩
  have hg : g = nml L T n p 2 (L 4 0) 4 0 := by rw [hg0, nml_o (by omega)]
  have ek := C_kind C1.1 p1b c1
  have kb := knd_b T n p1
  rw [bn_e ek]
  obtain ⟨k, hk⟩ : ∃ k, k = knd T n p1 := ⟨_, rfl⟩
  rw [← hk] at kb ⊢
  unfold a_drk2
  have D1 := CP_d C1
  by_cases kz : k = 0 ∨ k = 3 ∨ k = 4
  · rw [if_pos kz]
    have ej : ∀ {β : Type} (X : Option (Unit ⊕ β)), (if J k = (0 : Int32) then some (Sum.inl ()) else if J k = (3 : Int32) then some (Sum.inl ()) else if J k = (4 : Int32) then some (Sum.inl ()) else X) = some (Sum.inl ()) := by
      intro β X
      rcases kz with rfl | rfl | rfl
      · rw [if_pos (by decide)]
      · rw [if_neg (by decide), if_pos (by decide)]
      · rw [if_neg (by decide), if_neg (by decide), if_pos (by decide)]
    rw [ej, bn_s1, ei_l1, bn_e (d_r2 D1)]
    refine S_ad C1 p1b c1 (fun g2 C2 c2 p2b _ => ?_)
    obtain ⟨p2, hp2⟩ : ∃ p2, p2 = tnx T n p1 := ⟨_, rfl⟩
    rw [← hp2] at c2 p2b ⊢
    unfold a_drk3
    refine S_tw (k := 19) C2 p2b c2 (by omega) rfl (fun _ g3 C3 c3 p3b _ => ?_)
    obtain ⟨p3, hp3⟩ : ∃ p3, p3 = tnx T n p2 := ⟨_, rfl⟩
    rw [← hp3] at c3 p3b ⊢
    refine S_twh (lo := 1) (hi := 9) C3 p3b c3 (by decide) (by decide) (by omega) (by omega) (fun _ t1 t2 g4 C4 c4 p4b w4 => ?_)
    obtain ⟨w, hw⟩ : ∃ w, w = tnm T n p3 := ⟨_, rfl⟩
    rw [← hw] at t1 t2 w4 ⊢
    rw [← hg0] at C4 hg ⊢
    obtain ⟨L1, hL1⟩ : ∃ L1, L1 = nml L T n p 2 g := ⟨_, rfl⟩
    rw [← hL1] at C4 hg ⊢
    clear ej
    have wx : ∀ z1, fi z1 2 9 = fi g4 2 9 → fi z1 2 9 = w := fun z1 e => e.trans w4
    have Nz := CP_nw C4
    have Tz := C4.2.1
    have Rz := CP_t C4
    have Dz := CP_d C4
    have uz0 := CP_gu C4
    have vz0 : fi g4 u 11 = g := by rw [hg]; exact Rz.1.2.2.2.2.1
    have iz0 : gI g4 u 10 11 = some (J g) := by rw [gI_J (TS_k Tz), vz0]
    have tz0 := trf_12 Tz
    have nz0 := TS_n12 Tz
    obtain ⟨z1, rz0⟩ : ∃ y, y = wA g4 (u + 7) g k := ⟨_, rfl⟩
    have fz0 : Fm u (u + 18) g4 z1 := by rw [rz0]; exact fm_wA (by omega) (by omega)
    have sz0 : sI g4 100 (u + 7) (J g) (J k) = some z1 := by rw [rz0]; exact sI_J (TS_k12 Tz) (by omega) (by omega) (by omega) (by omega)
    have Tz0 := TS_fm fz0 Tz
    have Dz0 := DS_fm fz0 Dz
    have uz1 : gR z1 2 7 3 = some u := gR_e (DS_k Dz0) (by rw [fm_fR fz0]; exact C4.2.2.1)
    have vz1 : fi z1 u 11 = g := by rw [rz0]; exact vz0
    have iz1 : gI z1 u 10 11 = some (J g) := by rw [gI_J (TS_k Tz0), vz1]
    have wz1 : fi z1 2 9 = fi g4 2 9 := fm_fi fz0 (by omega) 9
    have tz1 := trf_13 Tz0
    have nz1 := TS_n13 Tz0
    obtain ⟨z2, rz1⟩ : ∃ y, y = wA z1 (u + 8) g w := ⟨_, rfl⟩
    have fz1 : Fm u (u + 18) z1 z2 := by rw [rz1]; exact fm_wA (by omega) (by omega)
    have sz1 : sI z1 100 (u + 8) (J g) (J w) = some z2 := by rw [rz1]; exact sI_J (TS_k13 Tz0) (by omega) (by omega) (by omega) (by omega)
    have Tz1 := TS_fm fz1 Tz0
    have Dz1 := DS_fm fz1 Dz0
    have uz2 : gR z2 2 7 3 = some u := gR_e (DS_k Dz1) (by rw [fm_fR fz1, fm_fR fz0]; exact C4.2.2.1)
    have vz2 : fi z2 u 11 = g := by rw [rz1]; exact vz1
    have iz2 : gI z2 u 10 11 = some (J g) := by rw [gI_J (TS_k Tz1), vz2]
    have wz2 : fi z2 2 9 = fi z1 2 9 := fm_fi fz1 (by omega) 9
    obtain ⟨ze, rze⟩ : ∃ y, y = wF z2 u 11 (g + 1) := ⟨_, rfl⟩
    have fze : Fm u (u + 18) z2 ze := by rw [rze]; exact fm_wF (by omega) (by omega)
    have sze : pI z2 u 10 11 (J (g + 1)) = some ze := by rw [rze]; exact pI_J (TS_k Tz1)
    have Fz : Fm u (u + 18) g4 ze := (fm_tr fz0 (fm_tr fz1 fze))
    refine CO_l p4b (h' := ze) ?_ (cf_fm Fz (by omega) (by omega) (by omega)) ?_ (CT_fm Fz (by omega) c4) ?_
    · try simp only [j_0, j_1, j_2, j_3, j_4, j_5, j_6, j_7, j_8, j_9, j_10, j_11, j_12, j_13, j_14, j_15, j_16, j_17, j_18, j_19, j_20, j_21, j_22, j_23, j_24, j_25, j_26, j_27, j_28, j_29, j_30, j_31, j_32, j_33, j_34, j_35, j_36, j_37, j_38, j_39, j_40, j_41, j_42, j_43, j_44, j_45, j_46, j_47, j_48, j_49, j_50, j_51, j_52, j_57, j_59, j_63, j_74, j_75, j_93, j_97, j_99, j_100, j_122, j_200, j_255, j_300, j_465, j_496, j_900, j_999, j_1000, j_65536, j_65537, j_99999, j_252645135, j_858993459, j_1431655765, k_0, k_1, k_27, k_32, k_74, k_75, k_100, k_1000, k_65537]
      simp (disch := first | with_reducible assumption | omega | trivial) only [↓bn_s1, ↓bd_s1, ↓ei_l1, ↓ei_r1, ↓bn_if, ↓ilt_1, ↓ilt_0, ↓ieq_1, ↓ieq_0, bn_s1, bd_s1, ei_l1, ei_r1, J_add, J_sub, J_mul, J_neg, J_lt, J_le, J_eq, dv_J, rm_J, if_pos, if_neg, ↓reduceIte, bitJ, shlJ, orJ, j_0, j_1, j_2, j_3, j_4, j_5, j_6, j_7, j_8, j_9, j_10, j_11, j_12, j_13, j_14, j_15, j_16, j_17, j_18, j_19, j_20, j_21, j_22, j_23, j_24, j_25, j_26, j_27, j_28, j_29, j_30, j_31, j_32, j_33, j_34, j_35, j_36, j_37, j_38, j_39, j_40, j_41, j_42, j_43, j_44, j_45, j_46, j_47, j_48, j_49, j_50, j_51, j_52, j_57, j_59, j_63, j_74, j_75, j_93, j_97, j_99, j_100, j_122, j_200, j_255, j_300, j_465, j_496, j_900, j_999, j_1000, j_65536, j_65537, j_99999, j_252645135, j_858993459, j_1431655765, k_0, k_1, k_27, k_32, k_74, k_75, k_100, k_1000, k_65537, w4, ↓bn_e (uz0), uz0, ↓bn_e (iz0), iz0, ↓bn_e (tz0), tz0, d_i Dz, ↓d_i_b Dz, d_p Dz, ↓d_p_b Dz, d_r2 Dz, ↓d_r2_b Dz, ↓bn_e (sz0), sz0, ↓bn_e (uz1), uz1, ↓bn_e (iz1), iz1, ↓bn_e (tz1), tz1, d_i Dz0, ↓d_i_b Dz0, d_p Dz0, ↓d_p_b Dz0, d_r2 Dz0, ↓d_r2_b Dz0, wz1, ↓bn_e (sz1), sz1, ↓bn_e (uz2), uz2, ↓bn_e (iz2), iz2, ↓bn_e (sze), sze]
    · have fo : ∀ a j, (a ≠ u ∨ j ≠ 11) → fi ze a j = fi g4 a j := fun a j ha => by rw [rze, fi_ne ha, rz1, rz0]; rfl
      have io : ∀ a, a ≠ u + 7 → a ≠ u + 8 → ∀ z, ia ze a z = ia g4 a z := fun a a0 a1 z => by
        rw [rze]
        show ia z2 a z = _
        rw [rz1, ia_wA a1, rz0, ia_wA a0]
      have j0 : ∀ z, 0 ≤ z → ia ze (u + 7) z = if z = g then k else ia g4 (u + 7) z := fun z z0 => by
        rw [rze]
        show ia z2 (u + 7) z = _
        rw [rz1, ia_wA (by omega), rz0, ia_if (by omega) z0 (by omega) (by omega) (by omega)]
      have j1 : ∀ z, 0 ≤ z → ia ze (u + 8) z = if z = g then w else ia g4 (u + 8) z := fun z z0 => by
        rw [rze]
        show ia z2 (u + 8) z = _
        rw [rz1, ia_if (by omega) z0 (by omega) (by omega) (by omega), rz0, ia_wA (by omega)]
      obtain ⟨d, d1, d2⟩ := C4.2.2.2.2.2.2.2.1
      refine CP_u Fz C4 (LW_drk (CP_lw C4) (by omega) kz ⟨t1, t2⟩) Nz ?_ ⟨d, by rw [fo _ _ (by omega)]; exact d1, d2⟩ (fun _ y => y) C4.2.2.2.2.2.2.2.2.2
      obtain ⟨b1, ⟨k', b2, b2'⟩, b3, b4, b5, b6, b7, b8, b9, b10⟩ := Rz
      refine ⟨⟨?_, ?_, ?_, ?_, ?_, ?_, ?_, ?_⟩, ⟨k', ?_, b2'⟩, ?_, ?_, ?_, ?_, ?_, ?_, ?_, ?_⟩
      · rw [fo _ _ (by omega)]; exact b1.1
      · rw [fo _ _ (by omega)]; exact b1.2.1
      · rw [fo _ _ (by omega)]; exact b1.2.2.1
      · rw [fo _ _ (by omega)]; exact b1.2.2.2.1
      · rw [rze, fi_same (by omega) (by omega), hg]; rfl
      · rw [fo _ _ (by omega)]; exact b1.2.2.2.2.2.1
      · rw [fo _ _ (by omega)]; exact b1.2.2.2.2.2.2.1
      · rw [fo _ _ (by omega)]; exact b1.2.2.2.2.2.2.2
      · rw [fo _ _ (by omega)]; exact b2
      · simp (disch := omega) only [io]; exact b3
      · simp (disch := omega) only [io]; exact b4
      · simp (disch := omega) only [io]; exact b5
      · simp (disch := omega) only [io]; exact b6
      · intro i i0 i1
        replace i1 : i < L1 4 0 + 1 := i1
        rw [j0 i i0, j1 i i0]
        show _ = (if i = L1 4 0 then k else L1 17 i) ∧ _ = (if i = L1 4 0 then w else L1 18 i)
        rw [← hg]
        by_cases e : i = g
        · rw [if_pos e, if_pos e, if_pos e, if_pos e]; exact ⟨rfl, rfl⟩
        · rw [if_neg e, if_neg e, if_neg e, if_neg e]; exact b7 i i0 (show i < L1 4 0 by omega)
      · simp (disch := omega) only [io]; exact b8
      · simp (disch := omega) only [io]; exact b9
      · simp (disch := omega) only [io]; exact b10
    · rw [fm_fi Fz (by omega), fm_fi Fz (by omega)]
      exact ⟨rfl, rfl⟩
  · rw [if_neg kz]
    have kn : (J k = (0 : Int32)) = (k = 0) := by rw [j_0]; exact J_eq (by omega) (by omega) (by omega) (by omega)
    have k3 : (J k = (3 : Int32)) = (k = 3) := by rw [j_3]; exact J_eq (by omega) (by omega) (by omega) (by omega)
    have k4 : (J k = (4 : Int32)) = (k = 4) := by rw [j_4]; exact J_eq (by omega) (by omega) (by omega) (by omega)
    rw [if_neg (show ¬ J k = (0 : Int32) by rw [kn]; omega), if_neg (show ¬ J k = (3 : Int32) by rw [k3]; omega), if_neg (show ¬ J k = (4 : Int32) by rw [k4]; omega)]
    obtain ⟨g2, e2, q2⟩ := C_fail (x := 1) C1.1 p1b c1 (by omega)
    refine CO_r (h' := g2) ?_ (cf_fl hu q2) q2.2
    have rv := rvb0
    try simp only [j_0, j_1, j_2, j_3, j_4, j_5, j_6, j_7, j_8, j_9, j_10, j_11, j_12, j_13, j_14, j_15, j_16, j_17, j_18, j_19, j_20, j_21, j_22, j_23, j_24, j_25, j_26, j_27, j_28, j_29, j_30, j_31, j_32, j_33, j_34, j_35, j_36, j_37, j_38, j_39, j_40, j_41, j_42, j_43, j_44, j_45, j_46, j_47, j_48, j_49, j_50, j_51, j_52, j_57, j_59, j_63, j_74, j_75, j_93, j_97, j_99, j_100, j_122, j_200, j_255, j_300, j_465, j_496, j_900, j_999, j_1000, j_65536, j_65537, j_99999, j_252645135, j_858993459, j_1431655765, k_0, k_1, k_27, k_32, k_74, k_75, k_100, k_1000, k_65537]
    simp (disch := first | with_reducible assumption | omega | trivial) only [↓bn_s1, ↓bd_s1, ↓ei_l1, ↓ei_r1, ↓bn_if, ↓ilt_1, ↓ilt_0, ↓ieq_1, ↓ieq_0, bn_s1, bd_s1, ei_l1, ei_r1, J_add, J_sub, J_mul, J_neg, J_lt, J_le, J_eq, dv_J, rm_J, if_pos, if_neg, ↓reduceIte, bitJ, shlJ, orJ, j_0, j_1, j_2, j_3, j_4, j_5, j_6, j_7, j_8, j_9, j_10, j_11, j_12, j_13, j_14, j_15, j_16, j_17, j_18, j_19, j_20, j_21, j_22, j_23, j_24, j_25, j_26, j_27, j_28, j_29, j_30, j_31, j_32, j_33, j_34, j_35, j_36, j_37, j_38, j_39, j_40, j_41, j_42, j_43, j_44, j_45, j_46, j_47, j_48, j_49, j_50, j_51, j_52, j_57, j_59, j_63, j_74, j_75, j_93, j_97, j_99, j_100, j_122, j_200, j_255, j_300, j_465, j_496, j_900, j_999, j_1000, j_65536, j_65537, j_99999, j_252645135, j_858993459, j_1431655765, k_0, k_1, k_27, k_32, k_74, k_75, k_100, k_1000, k_65537, ↓bd_e (e2), e2]
theorem D_drk {L : Lk} {b : Nat} {T : Int → Int} {n p : Nat} {h : Hp} (hp : p ≤ n) (C : DP L b T n h) (NBL : NB L) (H : DT T n p h) (h0 : tso T n p = 0) : DO (if bgf L (L 4 0) 3 = 0 then a_drk L T n (tnx T n p) else .inr (bgf L (L 4 0) 3, (spn T n p : Nat))) b T n (F_md_readDrinker 88 h) h := by
  have hb := C.1.2.2.2.2.2
  have lw := C.2.1
  have lh := LW_h lw
  have ld := LW_d lw
  have N := C.1.2.2.2.1
  have c0 := C.2.2.2.2.2
  have gc : gI h b 12 4 = some (J (L 4 0)) := by rw [gI_J (YS_k C.1.2.2.1), C.2.2.1.1.2.2.2.2.1]; rfl
  unfold F_md_readDrinker
  rw [ck_e (MS_k C.1.1.1), bn_e (dl_r C.1), bn_e gc]
  refine Sd_beg (m := 3) C hp H h0 rfl (by decide) (by omega) (by omega) (fun z => by have := c0 z 4 (by omega); omega) (fun g B o => ?_) (fun t31 cm g1 C1 c1 p1b => ?_)
  · have M := B.1.1
    try simp only [j_0, j_1, j_2, j_3, j_4, j_5, j_6, j_7, j_8, j_9, j_10, j_11, j_12, j_13, j_14, j_15, j_16, j_17, j_18, j_19, j_20, j_21, j_22, j_23, j_24, j_25, j_26, j_27, j_28, j_29, j_30, j_31, j_32, j_33, j_34, j_35, j_36, j_37, j_38, j_39, j_40, j_41, j_42, j_43, j_44, j_45, j_46, j_47, j_48, j_49, j_50, j_51, j_52, j_57, j_59, j_63, j_74, j_75, j_93, j_97, j_99, j_100, j_122, j_200, j_255, j_300, j_465, j_496, j_900, j_999, j_1000, j_65536, j_65537, j_99999, j_252645135, j_858993459, j_1431655765, k_0, k_1, k_27, k_32, k_74, k_75, k_100, k_1000, k_65537]
    simp (disch := first | with_reducible assumption | omega | trivial) only [↓bn_s1, ↓bd_s1, ↓ei_l1, ↓ei_r1, ↓bn_if, ↓ilt_1, ↓ilt_0, ↓ieq_1, ↓ieq_0, bn_s1, bd_s1, ei_l1, ei_r1, J_add, J_sub, J_mul, J_neg, J_lt, J_le, J_eq, dv_J, rm_J, if_pos, if_neg, ↓reduceIte, bitJ, shlJ, orJ, j_0, j_1, j_2, j_3, j_4, j_5, j_6, j_7, j_8, j_9, j_10, j_11, j_12, j_13, j_14, j_15, j_16, j_17, j_18, j_19, j_20, j_21, j_22, j_23, j_24, j_25, j_26, j_27, j_28, j_29, j_30, j_31, j_32, j_33, j_34, j_35, j_36, j_37, j_38, j_39, j_40, j_41, j_42, j_43, j_44, j_45, j_46, j_47, j_48, j_49, j_50, j_51, j_52, j_57, j_59, j_63, j_74, j_75, j_93, j_97, j_99, j_100, j_122, j_200, j_255, j_300, j_465, j_496, j_900, j_999, j_1000, j_65536, j_65537, j_99999, j_252645135, j_858993459, j_1431655765, k_0, k_1, k_27, k_32, k_74, k_75, k_100, k_1000, k_65537, ↓bd_e ((D_rf5 B o)), (D_rf5 B o), ↓bd_e ((D_kind5 M o)), (D_kind5 M o), ↓bn_e ((D_go5 M o)), (D_go5 M o), ↓bd_e ((D_part5 (w := 1000022) (lo := J 1) (hi := J 9) M o)), (D_part5 (w := 1000022) (lo := J 1) (hi := J 9) M o), m_i M, ↓m_i_b M, m_p M, ↓m_p_b M, m_l M, ↓m_l_b M, m_pl M, ↓m_pl_b M, mr_15 M, ↓mr_15_b M, mr_16 M, ↓mr_16_b M, mr_17 M, ↓mr_17_b M, mr_18 M, ↓mr_18_b M, mr_21 M, ↓mr_21_b M, mr_22 M, ↓mr_22_b M, mr_23 M, ↓mr_23_b M, mr_24 M, ↓mr_24_b M, mr_25 M, ↓mr_25_b M, mr_30 M, ↓mr_30_b M, mr_31 M, ↓mr_31_b M, m90a M, ↓m90a_b M, m90s M, ↓m90s_b M, m91a M, ↓m91a_b M, m91s M, ↓m91s_b M, m92a M, ↓m92a_b M, m92s M, ↓m92s_b M, m93a M, ↓m93a_b M, m93s M, ↓m93s_b M, m94a M, ↓m94a_b M, m94s M, ↓m94s_b M, m95a M, ↓m95a_b M, m95s M, ↓m95s_b M, m96a M, ↓m96a_b M, m96s M, ↓m96s_b M, m97a M, ↓m97a_b M, m97s M, ↓m97s_b M, m98a M, ↓m98a_b M, m98s M, ↓m98s_b M, m99a M, ↓m99a_b M, m99s M, ↓m99s_b M, m100a M, ↓m100a_b M, m100s M, ↓m100s_b M, o]
  have h4 : L 4 0 < 3 := by omega
  obtain ⟨p1, hp1⟩ : ∃ p1, p1 = tnx T n p := ⟨_, rfl⟩
  rw [← hp1] at c1 p1b ⊢
  unfold a_drk
  refine Sd_rf C1 p1b c1 (fun x g B o => ?_) (fun f0 t0 g2 C2 c2 p2b => ?_)
  · have M := B.1.1
    try simp only [j_0, j_1, j_2, j_3, j_4, j_5, j_6, j_7, j_8, j_9, j_10, j_11, j_12, j_13, j_14, j_15, j_16, j_17, j_18, j_19, j_20, j_21, j_22, j_23, j_24, j_25, j_26, j_27, j_28, j_29, j_30, j_31, j_32, j_33, j_34, j_35, j_36, j_37, j_38, j_39, j_40, j_41, j_42, j_43, j_44, j_45, j_46, j_47, j_48, j_49, j_50, j_51, j_52, j_57, j_59, j_63, j_74, j_75, j_93, j_97, j_99, j_100, j_122, j_200, j_255, j_300, j_465, j_496, j_900, j_999, j_1000, j_65536, j_65537, j_99999, j_252645135, j_858993459, j_1431655765, k_0, k_1, k_27, k_32, k_74, k_75, k_100, k_1000, k_65537]
    simp (disch := first | with_reducible assumption | omega | trivial) only [↓bn_s1, ↓bd_s1, ↓ei_l1, ↓ei_r1, ↓bn_if, ↓ilt_1, ↓ilt_0, ↓ieq_1, ↓ieq_0, bn_s1, bd_s1, ei_l1, ei_r1, J_add, J_sub, J_mul, J_neg, J_lt, J_le, J_eq, dv_J, rm_J, if_pos, if_neg, ↓reduceIte, bitJ, shlJ, orJ, j_0, j_1, j_2, j_3, j_4, j_5, j_6, j_7, j_8, j_9, j_10, j_11, j_12, j_13, j_14, j_15, j_16, j_17, j_18, j_19, j_20, j_21, j_22, j_23, j_24, j_25, j_26, j_27, j_28, j_29, j_30, j_31, j_32, j_33, j_34, j_35, j_36, j_37, j_38, j_39, j_40, j_41, j_42, j_43, j_44, j_45, j_46, j_47, j_48, j_49, j_50, j_51, j_52, j_57, j_59, j_63, j_74, j_75, j_93, j_97, j_99, j_100, j_122, j_200, j_255, j_300, j_465, j_496, j_900, j_999, j_1000, j_65536, j_65537, j_99999, j_252645135, j_858993459, j_1431655765, k_0, k_1, k_27, k_32, k_74, k_75, k_100, k_1000, k_65537, ↓bd_e ((D_kind5 M o)), (D_kind5 M o), ↓bn_e ((D_go5 M o)), (D_go5 M o), ↓bd_e ((D_part5 (w := 1000022) (lo := J 1) (hi := J 9) M o)), (D_part5 (w := 1000022) (lo := J 1) (hi := J 9) M o), m_i M, ↓m_i_b M, m_p M, ↓m_p_b M, m_l M, ↓m_l_b M, m_pl M, ↓m_pl_b M, mr_15 M, ↓mr_15_b M, mr_16 M, ↓mr_16_b M, mr_17 M, ↓mr_17_b M, mr_18 M, ↓mr_18_b M, mr_21 M, ↓mr_21_b M, mr_22 M, ↓mr_22_b M, mr_23 M, ↓mr_23_b M, mr_24 M, ↓mr_24_b M, mr_25 M, ↓mr_25_b M, mr_30 M, ↓mr_30_b M, mr_31 M, ↓mr_31_b M, m90a M, ↓m90a_b M, m90s M, ↓m90s_b M, m91a M, ↓m91a_b M, m91s M, ↓m91s_b M, m92a M, ↓m92a_b M, m92s M, ↓m92s_b M, m93a M, ↓m93a_b M, m93s M, ↓m93s_b M, m94a M, ↓m94a_b M, m94s M, ↓m94s_b M, m95a M, ↓m95a_b M, m95s M, ↓m95s_b M, m96a M, ↓m96a_b M, m96s M, ↓m96s_b M, m97a M, ↓m97a_b M, m97s M, ↓m97s_b M, m98a M, ↓m98a_b M, m98s M, ↓m98s_b M, m99a M, ↓m99a_b M, m99s M, ↓m99s_b M, m100a M, ↓m100a_b M, m100s M, ↓m100s_b M, o]
  obtain ⟨p2, hp2⟩ : ∃ p2, p2 = tnx T n p1 := ⟨_, rfl⟩
  rw [← hp2] at c2 p2b ⊢
  have M2 := C2.1.1.1
  have ek := D_kind C2.1.1 p2b c2
  have kb := knd_b T n p2
  unfold a_drk2
  by_cases kz : knd T n p2 = -1
  · rw [if_neg (by omega)]
    obtain ⟨g3, e3, x3⟩ := ek.2 kz
    have M := MS_fm x3.1 M2
    have o := x3.2.1
    refine DO_fd hb.1 x3 ?_
    try simp only [j_0, j_1, j_2, j_3, j_4, j_5, j_6, j_7, j_8, j_9, j_10, j_11, j_12, j_13, j_14, j_15, j_16, j_17, j_18, j_19, j_20, j_21, j_22, j_23, j_24, j_25, j_26, j_27, j_28, j_29, j_30, j_31, j_32, j_33, j_34, j_35, j_36, j_37, j_38, j_39, j_40, j_41, j_42, j_43, j_44, j_45, j_46, j_47, j_48, j_49, j_50, j_51, j_52, j_57, j_59, j_63, j_74, j_75, j_93, j_97, j_99, j_100, j_122, j_200, j_255, j_300, j_465, j_496, j_900, j_999, j_1000, j_65536, j_65537, j_99999, j_252645135, j_858993459, j_1431655765, k_0, k_1, k_27, k_32, k_74, k_75, k_100, k_1000, k_65537]
    simp (disch := first | with_reducible assumption | omega | trivial) only [↓bn_s1, ↓bd_s1, ↓ei_l1, ↓ei_r1, ↓bn_if, ↓ilt_1, ↓ilt_0, ↓ieq_1, ↓ieq_0, bn_s1, bd_s1, ei_l1, ei_r1, J_add, J_sub, J_mul, J_neg, J_lt, J_le, J_eq, dv_J, rm_J, if_pos, if_neg, ↓reduceIte, bitJ, shlJ, orJ, j_0, j_1, j_2, j_3, j_4, j_5, j_6, j_7, j_8, j_9, j_10, j_11, j_12, j_13, j_14, j_15, j_16, j_17, j_18, j_19, j_20, j_21, j_22, j_23, j_24, j_25, j_26, j_27, j_28, j_29, j_30, j_31, j_32, j_33, j_34, j_35, j_36, j_37, j_38, j_39, j_40, j_41, j_42, j_43, j_44, j_45, j_46, j_47, j_48, j_49, j_50, j_51, j_52, j_57, j_59, j_63, j_74, j_75, j_93, j_97, j_99, j_100, j_122, j_200, j_255, j_300, j_465, j_496, j_900, j_999, j_1000, j_65536, j_65537, j_99999, j_252645135, j_858993459, j_1431655765, k_0, k_1, k_27, k_32, k_74, k_75, k_100, k_1000, k_65537, ↓bd_e (e3), e3, m_i M, ↓m_i_b M, m_p M, ↓m_p_b M, m_l M, ↓m_l_b M, m_pl M, ↓m_pl_b M, mr_15 M, ↓mr_15_b M, mr_16 M, ↓mr_16_b M, mr_17 M, ↓mr_17_b M, mr_18 M, ↓mr_18_b M, mr_21 M, ↓mr_21_b M, mr_22 M, ↓mr_22_b M, mr_23 M, ↓mr_23_b M, mr_24 M, ↓mr_24_b M, mr_25 M, ↓mr_25_b M, mr_30 M, ↓mr_30_b M, mr_31 M, ↓mr_31_b M, m90a M, ↓m90a_b M, m90s M, ↓m90s_b M, m91a M, ↓m91a_b M, m91s M, ↓m91s_b M, m92a M, ↓m92a_b M, m92s M, ↓m92s_b M, m93a M, ↓m93a_b M, m93s M, ↓m93s_b M, m94a M, ↓m94a_b M, m94s M, ↓m94s_b M, m95a M, ↓m95a_b M, m95s M, ↓m95s_b M, m96a M, ↓m96a_b M, m96s M, ↓m96s_b M, m97a M, ↓m97a_b M, m97s M, ↓m97s_b M, m98a M, ↓m98a_b M, m98s M, ↓m98s_b M, m99a M, ↓m99a_b M, m99s M, ↓m99s_b M, m100a M, ↓m100a_b M, m100s M, ↓m100s_b M, o, ↓bn_e ((D_go5 M o)), (D_go5 M o), ↓bd_e ((D_part5 (w := 1000022) (lo := J 1) (hi := J 9) M o)), (D_part5 (w := 1000022) (lo := J 1) (hi := J 9) M o)]
  · have e3 := ek.1 kz
    have kw := kb.2.2 kz
    clear ek
    obtain ⟨k, hk⟩ : ∃ k, k = knd T n p2 := ⟨_, rfl⟩
    rw [← hk] at kb kz e3 ⊢
    have q2 : gI g2 88 13 9 = some (J (rso (tso T n p2))) := by rw [gI_J (MS_k M2), c2.2.2.1]
    have rb := rso_b T n p2 p2b
    rw [bd_e e3, bn_e q2, if_neg (show ¬ J (rso (tso T n p2)) = (5 : Int32) by rw [j_5, J_eq (by omega) (by omega) (by omega) (by omega)]; omega)]
    have k1 : (J k = (1 : Int32)) = (k = 1) := by rw [j_1]; exact J_eq (by omega) (by omega) (by omega) (by omega)
    have k2 : (J k = (2 : Int32)) = (k = 2) := by rw [j_2]; exact J_eq (by omega) (by omega) (by omega) (by omega)
    by_cases kg : k = 0 ∨ k = 3 ∨ k = 4
    · rw [if_pos kg, if_neg (show ¬ J k = (1 : Int32) by rw [k1]; omega), if_neg (show ¬ J k = (2 : Int32) by rw [k2]; omega), bn_s1, ei_r1, bn_s1]
      refine Sd_go C2 p2b c2 (by omega) (fun g3 C3 c3 p3b => ?_)
      obtain ⟨p3, hp3⟩ : ∃ p3, p3 = tnx T n p2 := ⟨_, rfl⟩
      rw [← hp3] at c3 p3b ⊢
      unfold a_drk3
      refine Sd_pt (k := 19) (lo := 1) (hi := 9) C3 p3b c3 (by omega) rfl (by decide) (by decide) (by omega) (by omega) (fun g B o => ?_) (fun t1 t2 p4b g4 C4 c4 p5b => ?_)
      · have M := B.1.1
        try simp only [j_0, j_1, j_2, j_3, j_4, j_5, j_6, j_7, j_8, j_9, j_10, j_11, j_12, j_13, j_14, j_15, j_16, j_17, j_18, j_19, j_20, j_21, j_22, j_23, j_24, j_25, j_26, j_27, j_28, j_29, j_30, j_31, j_32, j_33, j_34, j_35, j_36, j_37, j_38, j_39, j_40, j_41, j_42, j_43, j_44, j_45, j_46, j_47, j_48, j_49, j_50, j_51, j_52, j_57, j_59, j_63, j_74, j_75, j_93, j_97, j_99, j_100, j_122, j_200, j_255, j_300, j_465, j_496, j_900, j_999, j_1000, j_65536, j_65537, j_99999, j_252645135, j_858993459, j_1431655765, k_0, k_1, k_27, k_32, k_74, k_75, k_100, k_1000, k_65537]
        simp (disch := first | with_reducible assumption | omega | trivial) only [↓bn_s1, ↓bd_s1, ↓ei_l1, ↓ei_r1, ↓bn_if, ↓ilt_1, ↓ilt_0, ↓ieq_1, ↓ieq_0, bn_s1, bd_s1, ei_l1, ei_r1, J_add, J_sub, J_mul, J_neg, J_lt, J_le, J_eq, dv_J, rm_J, if_pos, if_neg, ↓reduceIte, bitJ, shlJ, orJ, j_0, j_1, j_2, j_3, j_4, j_5, j_6, j_7, j_8, j_9, j_10, j_11, j_12, j_13, j_14, j_15, j_16, j_17, j_18, j_19, j_20, j_21, j_22, j_23, j_24, j_25, j_26, j_27, j_28, j_29, j_30, j_31, j_32, j_33, j_34, j_35, j_36, j_37, j_38, j_39, j_40, j_41, j_42, j_43, j_44, j_45, j_46, j_47, j_48, j_49, j_50, j_51, j_52, j_57, j_59, j_63, j_74, j_75, j_93, j_97, j_99, j_100, j_122, j_200, j_255, j_300, j_465, j_496, j_900, j_999, j_1000, j_65536, j_65537, j_99999, j_252645135, j_858993459, j_1431655765, k_0, k_1, k_27, k_32, k_74, k_75, k_100, k_1000, k_65537, m_i M, ↓m_i_b M, m_p M, ↓m_p_b M, m_l M, ↓m_l_b M, m_pl M, ↓m_pl_b M, mr_15 M, ↓mr_15_b M, mr_16 M, ↓mr_16_b M, mr_17 M, ↓mr_17_b M, mr_18 M, ↓mr_18_b M, mr_21 M, ↓mr_21_b M, mr_22 M, ↓mr_22_b M, mr_23 M, ↓mr_23_b M, mr_24 M, ↓mr_24_b M, mr_25 M, ↓mr_25_b M, mr_30 M, ↓mr_30_b M, mr_31 M, ↓mr_31_b M, m90a M, ↓m90a_b M, m90s M, ↓m90s_b M, m91a M, ↓m91a_b M, m91s M, ↓m91s_b M, m92a M, ↓m92a_b M, m92s M, ↓m92s_b M, m93a M, ↓m93a_b M, m93s M, ↓m93s_b M, m94a M, ↓m94a_b M, m94s M, ↓m94s_b M, m95a M, ↓m95a_b M, m95s M, ↓m95s_b M, m96a M, ↓m96a_b M, m96s M, ↓m96s_b M, m97a M, ↓m97a_b M, m97s M, ↓m97s_b M, m98a M, ↓m98a_b M, m98s M, ↓m98s_b M, m99a M, ↓m99a_b M, m99s M, ↓m99s_b M, m100a M, ↓m100a_b M, m100s M, ↓m100s_b M, o]
      obtain ⟨q, hq⟩ : ∃ q, q = tnm T n (tnx T n p3) := ⟨_, rfl⟩
      rw [← hq] at t1 t2 ⊢
      have q4 : fi g4 88 9 = rso (tso T n (tnx T n (tnx T n p3))) := c4.2.2.1
      have rb4 := rso_b T n _ p5b
      have M4 := C4.1.1.1
      have r4 := dl_r C4.1
      have i4 : gI g4 b 12 4 = some (J (L 4 0)) := by rw [gI_J (YS_k C4.1.2.2.1), C4.2.2.1.1.2.2.2.2.1]; rfl
      obtain ⟨g5, e5, f5, C5⟩ := D_nms (s := 2) (v := L 4 0) C4 p1b t0 (NB_11 lw NBL (Or.inr (Or.inr h4))) (by omega) (by omega) rfl rfl
      obtain ⟨g, hg⟩ : ∃ g, g = nml L T n p1 2 (L 4 0) 4 0 := ⟨_, rfl⟩
      have hg0 : g = L 4 0 := by rw [hg, nml_o (by omega)]
      have l31 : nml L T n p1 2 (L 4 0) 31 0 = L 31 0 := nml_o (by omega) 0
      obtain ⟨L1, hL1⟩ : ∃ L1, L1 = nml L T n p1 2 (L 4 0) := ⟨_, rfl⟩
      rw [← hL1] at C5 hg l31 ⊢
      have D5 : Dfr b g4 g5 := df_b hb.1 f5 (by omega) (by omega)
      have Nz := C5.1.2.2.2.1
      have Mz := C5.1.1.1
      have Yz := C5.1.2.2.1
      have Rz := C5.2.2.1
      have uz0 := dl_r C5.1
      have vz0 : fi g5 b 4 = g := by rw [Rz.1.2.2.2.2.1, hg]; rfl
      have iz0 : gI g5 b 12 4 = some (J g) := by rw [gI_J (YS_k Yz), vz0]
      have tz0 : gR g5 b 12 17 = some (b + 9) := gR_e (YS_k Yz) (YS_r17 Yz)
      have nz0 := YS_n17 Yz
      obtain ⟨z1, rz0⟩ : ∃ y, y = wA g5 (b + 9) g k := ⟨_, rfl⟩
      have fz0 : Fm b (b + 19) g5 z1 := by rw [rz0]; exact fm_wA (by omega) (by omega)
      have sz0 : sI g5 100 (b + 9) (J g) (J k) = some z1 := by rw [rz0]; exact sI_J (YS_k17 Yz) (by omega) (by omega) (by omega) (by omega)
      have Yz0 := YS_fm fz0 Yz
      have Mz0 := MS_fm fz0 Mz
      have uz1 : gR z1 88 13 4 = some b := gR_e (MS_k Mz0) (by rw [fm_fR fz0]; exact C5.1.2.1)
      have vz1 : fi z1 b 4 = g := by rw [rz0]; exact vz0
      have iz1 : gI z1 b 12 4 = some (J g) := by rw [gI_J (YS_k Yz0), vz1]
      have tz1 : gR z1 b 12 18 = some (b + 10) := gR_e (YS_k Yz0) (YS_r18 Yz0)
      have nz1 := YS_n18 Yz0
      obtain ⟨z2, rz1⟩ : ∃ y, y = wA z1 (b + 10) g q := ⟨_, rfl⟩
      have fz1 : Fm b (b + 19) z1 z2 := by rw [rz1]; exact fm_wA (by omega) (by omega)
      have sz1 : sI z1 100 (b + 10) (J g) (J q) = some z2 := by rw [rz1]; exact sI_J (YS_k18 Yz0) (by omega) (by omega) (by omega) (by omega)
      have Yz1 := YS_fm fz1 Yz0
      have Mz1 := MS_fm fz1 Mz0
      have uz2 : gR z2 88 13 4 = some b := gR_e (MS_k Mz1) (by rw [fm_fR fz1, fm_fR fz0]; exact C5.1.2.1)
      have vz2 : fi z2 b 4 = g := by rw [rz1]; exact vz1
      have iz2 : gI z2 b 12 4 = some (J g) := by rw [gI_J (YS_k Yz1), vz2]
      obtain ⟨ze, rze⟩ : ∃ y, y = wF z2 b 4 (g + 1) := ⟨_, rfl⟩
      have fze : Fm b (b + 19) z2 ze := by rw [rze]; exact fm_wF (by omega) (by omega)
      have sze : pI z2 b 12 4 (J (g + 1)) = some ze := by rw [rze]; exact pI_J (YS_k Yz1)
      have Fz : Fm b (b + 19) g5 ze := (fm_tr fz0 (fm_tr fz1 fze))
      refine DO_l p5b (h' := ze) ?_ (df_tr D5 (df_b hb.1 Fz (by omega) (by omega))) ?_ (DT_fm Fz (by omega) (DT_fm f5 (by omega) c4)) ((fm_fi Fz (by omega) 12).trans (fm_fi f5 (by omega) 12))
      · try simp only [j_0, j_1, j_2, j_3, j_4, j_5, j_6, j_7, j_8, j_9, j_10, j_11, j_12, j_13, j_14, j_15, j_16, j_17, j_18, j_19, j_20, j_21, j_22, j_23, j_24, j_25, j_26, j_27, j_28, j_29, j_30, j_31, j_32, j_33, j_34, j_35, j_36, j_37, j_38, j_39, j_40, j_41, j_42, j_43, j_44, j_45, j_46, j_47, j_48, j_49, j_50, j_51, j_52, j_57, j_59, j_63, j_74, j_75, j_93, j_97, j_99, j_100, j_122, j_200, j_255, j_300, j_465, j_496, j_900, j_999, j_1000, j_65536, j_65537, j_99999, j_252645135, j_858993459, j_1431655765, k_0, k_1, k_27, k_32, k_74, k_75, k_100, k_1000, k_65537]
        simp (disch := first | with_reducible assumption | omega | trivial) only [↓bn_s1, ↓bd_s1, ↓ei_l1, ↓ei_r1, ↓bn_if, ↓ilt_1, ↓ilt_0, ↓ieq_1, ↓ieq_0, bn_s1, bd_s1, ei_l1, ei_r1, J_add, J_sub, J_mul, J_neg, J_lt, J_le, J_eq, dv_J, rm_J, if_pos, if_neg, ↓reduceIte, bitJ, shlJ, orJ, j_0, j_1, j_2, j_3, j_4, j_5, j_6, j_7, j_8, j_9, j_10, j_11, j_12, j_13, j_14, j_15, j_16, j_17, j_18, j_19, j_20, j_21, j_22, j_23, j_24, j_25, j_26, j_27, j_28, j_29, j_30, j_31, j_32, j_33, j_34, j_35, j_36, j_37, j_38, j_39, j_40, j_41, j_42, j_43, j_44, j_45, j_46, j_47, j_48, j_49, j_50, j_51, j_52, j_57, j_59, j_63, j_74, j_75, j_93, j_97, j_99, j_100, j_122, j_200, j_255, j_300, j_465, j_496, j_900, j_999, j_1000, j_65536, j_65537, j_99999, j_252645135, j_858993459, j_1431655765, k_0, k_1, k_27, k_32, k_74, k_75, k_100, k_1000, k_65537, m_i M4, ↓m_i_b M4, m_p M4, ↓m_p_b M4, m_l M4, ↓m_l_b M4, m_pl M4, ↓m_pl_b M4, mr_15 M4, ↓mr_15_b M4, mr_16 M4, ↓mr_16_b M4, mr_17 M4, ↓mr_17_b M4, mr_18 M4, ↓mr_18_b M4, mr_21 M4, ↓mr_21_b M4, mr_22 M4, ↓mr_22_b M4, mr_23 M4, ↓mr_23_b M4, mr_24 M4, ↓mr_24_b M4, mr_25 M4, ↓mr_25_b M4, mr_30 M4, ↓mr_30_b M4, mr_31 M4, ↓mr_31_b M4, m90a M4, ↓m90a_b M4, m90s M4, ↓m90s_b M4, m91a M4, ↓m91a_b M4, m91s M4, ↓m91s_b M4, m92a M4, ↓m92a_b M4, m92s M4, ↓m92s_b M4, m93a M4, ↓m93a_b M4, m93s M4, ↓m93s_b M4, m94a M4, ↓m94a_b M4, m94s M4, ↓m94s_b M4, m95a M4, ↓m95a_b M4, m95s M4, ↓m95s_b M4, m96a M4, ↓m96a_b M4, m96s M4, ↓m96s_b M4, m97a M4, ↓m97a_b M4, m97s M4, ↓m97s_b M4, m98a M4, ↓m98a_b M4, m98s M4, ↓m98s_b M4, m99a M4, ↓m99a_b M4, m99s M4, ↓m99s_b M4, m100a M4, ↓m100a_b M4, m100s M4, ↓m100s_b M4, q4, ↓bn_e (r4), r4, ↓bn_e (i4), i4, ↓bn_e (e5), e5, ↓bn_e (uz0), uz0, ↓bn_e (iz0), iz0, ↓bn_e (tz0), tz0, ↓bn_e (sz0), sz0, ↓bn_e (uz1), uz1, ↓bn_e (iz1), iz1, ↓bn_e (tz1), tz1, ↓bn_e (sz1), sz1, ↓bn_e (uz2), uz2, ↓bn_e (iz2), iz2, ↓bn_e (sze), sze]
      · have fo : ∀ a j, (a ≠ b ∨ j ≠ 4) → fi ze a j = fi g5 a j := fun a j ha => by rw [rze, fi_ne ha, rz1, rz0]; rfl
        have io : ∀ a, a ≠ b + 9 → a ≠ b + 10 → ∀ z, ia ze a z = ia g5 a z := fun a a0 a1 z => by
          rw [rze]
          show ia z2 a z = _
          rw [rz1, ia_wA a1, rz0, ia_wA a0]
        have j0 : ∀ z, 0 ≤ z → ia ze (b + 9) z = if z = g then k else ia g5 (b + 9) z := fun z z0 => by
          rw [rze]
          show ia z2 (b + 9) z = _
          rw [rz1, ia_wA (by omega), rz0, ia_if (by omega) z0 (by omega) (by omega) (by omega)]
        have j1 : ∀ z, 0 ≤ z → ia ze (b + 10) z = if z = g then q else ia g5 (b + 10) z := fun z z0 => by
          rw [rze]
          show ia z2 (b + 10) z = _
          rw [rz1, ia_if (by omega) z0 (by omega) (by omega) (by omega), rz0, ia_wA (by omega)]
        refine DP_u Fz (fo b 8 (by omega)) C5 (LW_drk C5.2.1 (by omega) kg ⟨t1, t2⟩) Nz ?_ ?_ (fun _ y => y) C5.2.2.2.2.1 (fun y => by have y' : L1 31 0 = 0 := y; omega)
        · obtain ⟨b1, b2, b3, b4, b5, b6, b7, b8, b9⟩ := Rz
          refine ⟨⟨?_, ?_, ?_, ?_, ?_, ?_, ?_, ?_⟩, ?_, ?_, ?_, ?_, ?_, ?_, ?_, ?_⟩
          · rw [fo _ _ (by omega)]; exact b1.1
          · rw [fo _ _ (by omega)]; exact b1.2.1
          · rw [fo _ _ (by omega)]; exact b1.2.2.1
          · rw [fo _ _ (by omega)]; exact b1.2.2.2.1
          · rw [rze, fi_same (by omega) (by omega), hg]; rfl
          · rw [fo _ _ (by omega)]; exact b1.2.2.2.2.2.1
          · rw [fo _ _ (by omega)]; exact b1.2.2.2.2.2.2.1
          · rw [fo _ _ (by omega)]; exact b1.2.2.2.2.2.2.2
          · simp (disch := omega) only [io]; exact b2
          · simp (disch := omega) only [io]; exact b3
          · simp (disch := omega) only [io]; exact b4
          · simp (disch := omega) only [io]; exact b5
          · intro i i0 i1
            replace i1 : i < L1 4 0 + 1 := i1
            rw [j0 i i0, j1 i i0]
            show _ = (if i = L1 4 0 then k else L1 17 i) ∧ _ = (if i = L1 4 0 then q else L1 18 i)
            rw [← hg]
            by_cases e : i = g
            · rw [if_pos e, if_pos e, if_pos e, if_pos e]; exact ⟨rfl, rfl⟩
            · rw [if_neg e, if_neg e, if_neg e, if_neg e]; exact b6 i i0 (show i < L1 4 0 by omega)
          · simp (disch := omega) only [io]; exact b7
          · simp (disch := omega) only [io]; exact b8
          · simp (disch := omega) only [io]; exact b9
        · intro i hi
          obtain ⟨m, m1, m2, m3⟩ := C5.2.2.2.1 i hi
          exact ⟨m, m1, by rw [io _ (by omega) (by omega)]; exact m2, m3⟩
    · rw [if_neg kg]
      obtain ⟨g3, e4, x3⟩ := D_flaw (x := 1) C2.1.1 p2b c2 (by omega)
      have M := MS_fm x3.1 M2
      have o := x3.2.1
      have e5 := D_go5 M o
      have e6 := D_part5 (w := 1000022) (lo := J 1) (hi := J 9) M o
      refine DO_fd hb.1 x3 ?_
      rcases (show k = 1 ∨ k = 2 by omega) with e | e
      · rw [if_pos (show J k = (1 : Int32) by rw [k1]; exact e)]
        try simp only [j_0, j_1, j_2, j_3, j_4, j_5, j_6, j_7, j_8, j_9, j_10, j_11, j_12, j_13, j_14, j_15, j_16, j_17, j_18, j_19, j_20, j_21, j_22, j_23, j_24, j_25, j_26, j_27, j_28, j_29, j_30, j_31, j_32, j_33, j_34, j_35, j_36, j_37, j_38, j_39, j_40, j_41, j_42, j_43, j_44, j_45, j_46, j_47, j_48, j_49, j_50, j_51, j_52, j_57, j_59, j_63, j_74, j_75, j_93, j_97, j_99, j_100, j_122, j_200, j_255, j_300, j_465, j_496, j_900, j_999, j_1000, j_65536, j_65537, j_99999, j_252645135, j_858993459, j_1431655765, k_0, k_1, k_27, k_32, k_74, k_75, k_100, k_1000, k_65537]
        simp (disch := first | with_reducible assumption | omega | trivial) only [↓bn_s1, ↓bd_s1, ↓ei_l1, ↓ei_r1, ↓bn_if, ↓ilt_1, ↓ilt_0, ↓ieq_1, ↓ieq_0, bn_s1, bd_s1, ei_l1, ei_r1, J_add, J_sub, J_mul, J_neg, J_lt, J_le, J_eq, dv_J, rm_J, if_pos, if_neg, ↓reduceIte, bitJ, shlJ, orJ, j_0, j_1, j_2, j_3, j_4, j_5, j_6, j_7, j_8, j_9, j_10, j_11, j_12, j_13, j_14, j_15, j_16, j_17, j_18, j_19, j_20, j_21, j_22, j_23, j_24, j_25, j_26, j_27, j_28, j_29, j_30, j_31, j_32, j_33, j_34, j_35, j_36, j_37, j_38, j_39, j_40, j_41, j_42, j_43, j_44, j_45, j_46, j_47, j_48, j_49, j_50, j_51, j_52, j_57, j_59, j_63, j_74, j_75, j_93, j_97, j_99, j_100, j_122, j_200, j_255, j_300, j_465, j_496, j_900, j_999, j_1000, j_65536, j_65537, j_99999, j_252645135, j_858993459, j_1431655765, k_0, k_1, k_27, k_32, k_74, k_75, k_100, k_1000, k_65537, ↓bn_e (e4), e4, m_i M, ↓m_i_b M, m_p M, ↓m_p_b M, m_l M, ↓m_l_b M, m_pl M, ↓m_pl_b M, mr_15 M, ↓mr_15_b M, mr_16 M, ↓mr_16_b M, mr_17 M, ↓mr_17_b M, mr_18 M, ↓mr_18_b M, mr_21 M, ↓mr_21_b M, mr_22 M, ↓mr_22_b M, mr_23 M, ↓mr_23_b M, mr_24 M, ↓mr_24_b M, mr_25 M, ↓mr_25_b M, mr_30 M, ↓mr_30_b M, mr_31 M, ↓mr_31_b M, m90a M, ↓m90a_b M, m90s M, ↓m90s_b M, m91a M, ↓m91a_b M, m91s M, ↓m91s_b M, m92a M, ↓m92a_b M, m92s M, ↓m92s_b M, m93a M, ↓m93a_b M, m93s M, ↓m93s_b M, m94a M, ↓m94a_b M, m94s M, ↓m94s_b M, m95a M, ↓m95a_b M, m95s M, ↓m95s_b M, m96a M, ↓m96a_b M, m96s M, ↓m96s_b M, m97a M, ↓m97a_b M, m97s M, ↓m97s_b M, m98a M, ↓m98a_b M, m98s M, ↓m98s_b M, m99a M, ↓m99a_b M, m99s M, ↓m99s_b M, m100a M, ↓m100a_b M, m100s M, ↓m100s_b M, o, ↓bn_e (e5), e5, ↓bd_e (e6), e6]
      · rw [if_neg (show ¬ J k = (1 : Int32) by rw [k1]; omega), if_pos (show J k = (2 : Int32) by rw [k2]; exact e)]
        try simp only [j_0, j_1, j_2, j_3, j_4, j_5, j_6, j_7, j_8, j_9, j_10, j_11, j_12, j_13, j_14, j_15, j_16, j_17, j_18, j_19, j_20, j_21, j_22, j_23, j_24, j_25, j_26, j_27, j_28, j_29, j_30, j_31, j_32, j_33, j_34, j_35, j_36, j_37, j_38, j_39, j_40, j_41, j_42, j_43, j_44, j_45, j_46, j_47, j_48, j_49, j_50, j_51, j_52, j_57, j_59, j_63, j_74, j_75, j_93, j_97, j_99, j_100, j_122, j_200, j_255, j_300, j_465, j_496, j_900, j_999, j_1000, j_65536, j_65537, j_99999, j_252645135, j_858993459, j_1431655765, k_0, k_1, k_27, k_32, k_74, k_75, k_100, k_1000, k_65537]
        simp (disch := first | with_reducible assumption | omega | trivial) only [↓bn_s1, ↓bd_s1, ↓ei_l1, ↓ei_r1, ↓bn_if, ↓ilt_1, ↓ilt_0, ↓ieq_1, ↓ieq_0, bn_s1, bd_s1, ei_l1, ei_r1, J_add, J_sub, J_mul, J_neg, J_lt, J_le, J_eq, dv_J, rm_J, if_pos, if_neg, ↓reduceIte, bitJ, shlJ, orJ, j_0, j_1, j_2, j_3, j_4, j_5, j_6, j_7, j_8, j_9, j_10, j_11, j_12, j_13, j_14, j_15, j_16, j_17, j_18, j_19, j_20, j_21, j_22, j_23, j_24, j_25, j_26, j_27, j_28, j_29, j_30, j_31, j_32, j_33, j_34, j_35, j_36, j_37, j_38, j_39, j_40, j_41, j_42, j_43, j_44, j_45, j_46, j_47, j_48, j_49, j_50, j_51, j_52, j_57, j_59, j_63, j_74, j_75, j_93, j_97, j_99, j_100, j_122, j_200, j_255, j_300, j_465, j_496, j_900, j_999, j_1000, j_65536, j_65537, j_99999, j_252645135, j_858993459, j_1431655765, k_0, k_1, k_27, k_32, k_74, k_75, k_100, k_1000, k_65537, ↓bn_e (e4), e4, m_i M, ↓m_i_b M, m_p M, ↓m_p_b M, m_l M, ↓m_l_b M, m_pl M, ↓m_pl_b M, mr_15 M, ↓mr_15_b M, mr_16 M, ↓mr_16_b M, mr_17 M, ↓mr_17_b M, mr_18 M, ↓mr_18_b M, mr_21 M, ↓mr_21_b M, mr_22 M, ↓mr_22_b M, mr_23 M, ↓mr_23_b M, mr_24 M, ↓mr_24_b M, mr_25 M, ↓mr_25_b M, mr_30 M, ↓mr_30_b M, mr_31 M, ↓mr_31_b M, m90a M, ↓m90a_b M, m90s M, ↓m90s_b M, m91a M, ↓m91a_b M, m91s M, ↓m91s_b M, m92a M, ↓m92a_b M, m92s M, ↓m92s_b M, m93a M, ↓m93a_b M, m93s M, ↓m93s_b M, m94a M, ↓m94a_b M, m94s M, ↓m94s_b M, m95a M, ↓m95a_b M, m95s M, ↓m95s_b M, m96a M, ↓m96a_b M, m96s M, ↓m96s_b M, m97a M, ↓m97a_b M, m97s M, ↓m97s_b M, m98a M, ↓m98a_b M, m98s M, ↓m98s_b M, m99a M, ↓m99a_b M, m99s M, ↓m99s_b M, m100a M, ↓m100a_b M, m100s M, ↓m100s_b M, o, ↓bn_e (e5), e5, ↓bd_e (e6), e6]
