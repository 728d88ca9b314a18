/-! seen -/
def a_sen4 (L : Lk) (T : Int → Int) (n p2 : Nat) (x lo v : Int) : Lo := if pwf T n p2 lo 200 = 0 then .inl (tnx T n p2, ap2 L 7 25 x 26 v) else .inr (pwf T n p2 lo 200, (spn T n p2 : Nat))
def a_sen3 (L : Lk) (T : Int → Int) (n p1 : Nat) (x : Int) : Lo := if isW T n p1 22 = true then a_sen4 L T n (tnx T n p1) x 1 (- tnm T n (tnx T n p1)) else if isW T n p1 23 = true then a_sen4 L T n (tnx T n p1) x 0 (tnm T n (tnx T n p1)) else .inr (1, (spn T n p1 : Nat))
def a_sen2 (L : Lk) (T : Int → Int) (n p : Nat) (x : Int) : Lo := if sen L x = true then .inr (3, (spn T n p : Nat)) else a_sen3 L T n (tnx T n p) x
def a_sen (L : Lk) (T : Int → Int) (n p : Nat) : Lo := if pkf L T n p 0 = 0 then a_sen2 L T n p (knb L T n p) else .inr (pkf L T n p 0, (spn T n p : Nat))
theorem LW_sen {L : Lk} {x v : Int} (H : LW L) (h7 : L 7 0 < 5) (hx : 0 ≤ x ∧ x < L 1 0) (hv : -200 ≤ v ∧ v ≤ 200) : LW (ap2 L 7 25 x 26 v) := by
  obtain ⟨a0, a1, a2, a3, a4, a5, a6, a7, a8, a9, a10, a11, a12, a13, a14, a15⟩ := H
  refine ⟨a0, a1, a2, a3, a4, a5, a6, ?_, a8, a9, a10, a11, a12, a13, a14, ?_⟩
  · show 0 ≤ L 7 0 + 1 ∧ L 7 0 + 1 ≤ 5
    omega
  · intro i i0 i1
    replace i1 : i < L 7 0 + 1 := i1
    show 0 ≤ (if i = L 7 0 then x else L 25 i) ∧ (if i = L 7 0 then x else L 25 i) < L 1 0 ∧ -200 ≤ (if i = L 7 0 then v else L 26 i) ∧ (if i = L 7 0 then v else L 26 i) ≤ 200
    by_cases e : i = L 7 0
    · rw [if_pos e, if_pos e]; exact ⟨hx.1, hx.2, hv.1, hv.2⟩
    · rw [if_neg e, if_neg e]; exact a15 i i0 (by omega)
/-- the houses seen are all different -/
def SD (L : Lk) : Prop := ∀ i j, 0 ≤ i → i < j → j < L 7 0 → ¬ L 25 j = L 25 i
/-- then there is room for one more that was not seen -/
theorem sen_5 {L : Lk} {x : Int} (H : LW L) (S : SD L) (hx : 0 ≤ x ∧ x < L 1 0) (c : ¬ sen L x = true) : L 7 0 < 5 := by
  have a := LW_s H
  have lh := LW_h H
  by_cases e : L 7 0 < 5
  · exact e
  · exfalso
    apply c
    have e5 : L 7 0 = 5 := by omega
    have w : ∀ i : Int, 0 ≤ i → i < 5 → 0 ≤ L 25 i ∧ L 25 i < 5 := fun i h0 hi => by
      have q := H.2.2.2.2.2.2.2.2.2.2.2.2.2.2.2 i (by omega) (by omega)
      omega
    obtain ⟨i, i0, i1, i2⟩ := five_e (f := fun i => L 25 i) (x := x) w (fun i j hi hj h5 => S i j hi hj (by omega)) (by omega)
    obtain ⟨m1, m2, m3⟩ := fsi_p (fun i => decide (L 25 i = x)) (L 7 0).toNat
    unfold sen
    refine decide_eq_true ?_
    by_cases z : fsi (fun i => decide (L 25 i = x)) (L 7 0).toNat < (L 7 0).toNat
    · exact z
    · have y := m2 i.toNat (by omega)
      have y2 : L 25 ((i.toNat : Nat) : Int) = x := by rw [show ((i.toNat : Nat) : Int) = i by omega]; exact i2
      exact absurd y2 (of_decide_eq_false y)
theorem C_sen' {L : Lk} {u : Nat} {T : Int → Int} {n p : Nat} {h : Hp} (hp : p ≤ n) (C : CP L u T n h) (NBL : NB L) (S : SD L) (H : CT T n p h) : CO (a_sen L T n p) u T n (F_rd_readSeen 2 h) h := by
  have hu := C.2.2.2.1
  have lw := CP_lw C
  have lh := LW_h lw
  have ls := LW_s lw
  unfold F_rd_readSeen a_sen
  rw [ck_e (DS_k (CP_d C)), bn_e (CP_gu C), bn_e (trf_18 C.2.1)]
  refine S_non (s := 0) C hp H (by decide) (by omega) (fun k1 => ?_)
  have b1 := kn0 (CP_nw C) NBL k1
  obtain ⟨x, hx⟩ : ∃ x, x = knb L T n p := ⟨_, rfl⟩
  rw [← hx] at b1 ⊢
  have es := C_sen (x := x) lw C.2.1 (CP_t C) (by omega)
  unfold a_sen2
  rw [bn_e es]
  by_cases sn : sen L x = true
  · rw [if_pos sn, if_pos sn, if_neg (by decide)]
    exact S_fail C hp H (by omega) (by decide)
  · rw [if_neg sn, if_neg sn, if_pos (by decide), bn_e (d_r2 (CP_d C))]
    have h7 := sen_5 lw S b1 sn
    refine S_ad C hp H (fun g1 C1 c1 p1b w1 => ?_)
    obtain ⟨p1, hp1⟩ : ∃ p1, p1 = tnx T n p := ⟨_, rfl⟩
    rw [← hp1] at c1 p1b ⊢
    have D1 := CP_d C1
    have e22 : F_tk_isWord 3 1000025 g1 = some (J (if isW T n p1 22 = true then 1 else 0)) := C_isW (k := 22) C1.1.1 C1.1.2.1 C1.1.2.2.1 p1b c1 (by omega)
    have e23 : F_tk_isWord 3 1000026 g1 = some (J (if isW T n p1 23 = true then 1 else 0)) := C_isW (k := 23) C1.1.1 C1.1.2.1 C1.1.2.2.1 p1b c1 (by omega)
    obtain ⟨g, hg⟩ : ∃ g, g = L 7 0 := ⟨_, rfl⟩
    unfold a_sen3
    rw [bn_e (d_r2 D1), bn_e e22]
    by_cases wb : isW T n p1 22 = true
    · rw [if_pos wb, if_pos wb]
      simp only [if_neg (show ¬ J 1 = (0 : Int32) by decide)]
      rw [bn_s1, ei_l1, bn_e (d_r2 D1)]
      refine S_ad C1 p1b c1 (fun g2 C2 c2 p2b w2 => ?_)
      obtain ⟨p2, hp2⟩ : ∃ p2, p2 = tnx T n p1 := ⟨_, rfl⟩
      rw [← hp2] at c2 p2b ⊢
      rw [bn_s1]
      unfold a_sen4
      refine S_twh (lo := 1) (hi := 200) C2 p2b c2 (by decide) (by decide) (by omega) (by omega) (fun _ t1 t2 g3 C3 c3 p3b w3 => ?_)
      obtain ⟨q, hq⟩ : ∃ q, q = tnm T n p2 := ⟨_, rfl⟩
      rw [← hq] at t1 t2 w3 ⊢
      have Nz := CP_nw C3
      have Tz := C3.2.1
      have Rz := CP_t C3
      have Dz := CP_d C3
      have uz0 := CP_gu C3
      have vz0 : fi g3 (u + 12) 4 = g := by rw [hg]; exact Rz.1.2.2.2.2.2.2.2
      have iz0 : gI g3 (u + 12) 1 4 = some (J g) := by rw [gI_J (TS_ky Tz), vz0]
      have tz0 : gR g3 (u + 12) 1 5 = some (u + 16) := gR_e (TS_ky Tz) (TS_ry5 Tz)
      have nz0 := TS_ny5 Tz
      obtain ⟨z1, rz0⟩ : ∃ y, y = wA g3 (u + 16) g x := ⟨_, rfl⟩
      have fz0 : Fm u (u + 18) g3 z1 := by rw [rz0]; exact fm_wA (by omega) (by omega)
      have sz0 : sI g3 100 (u + 16) (J g) (J x) = some z1 := by rw [rz0]; exact sI_J (TS_ky5 Tz) (by omega) (by omega) (by omega) (by omega)
      have Tz0 := TS_fm fz0 Tz
      have Dz0 := DS_fm fz0 Dz
      have uz1 : gR z1 2 7 3 = some u := gR_e (DS_k Dz0) (by rw [fm_fR fz0]; exact C3.2.2.1)
      have vz1 : fi z1 (u + 12) 4 = g := by rw [rz0]; exact vz0
      have iz1 : gI z1 (u + 12) 1 4 = some (J g) := by rw [gI_J (TS_ky Tz0), vz1]
      have wz1 : fi z1 2 9 = fi g3 2 9 := fm_fi fz0 (by omega) 9
      have tz1 : gR z1 (u + 12) 1 6 = some (u + 17) := gR_e (TS_ky Tz0) (TS_ry6 Tz0)
      have nz1 := TS_ny6 Tz0
      obtain ⟨z2, rz1⟩ : ∃ y, y = wA z1 (u + 17) g (-q) := ⟨_, rfl⟩
      have fz1 : Fm u (u + 18) z1 z2 := by rw [rz1]; exact fm_wA (by omega) (by omega)
      have sz1 : sI z1 100 (u + 17) (J g) (J (-q)) = some z2 := by rw [rz1]; exact sI_J (TS_ky6 Tz0) (by omega) (by omega) (by omega) (by omega)
      have Tz1 := TS_fm fz1 Tz0
      have Dz1 := DS_fm fz1 Dz0
      have uz2 : gR z2 2 7 3 = some u := gR_e (DS_k Dz1) (by rw [fm_fR fz1, fm_fR fz0]; exact C3.2.2.1)
      have vz2 : fi z2 (u + 12) 4 = g := by rw [rz1]; exact vz1
      have iz2 : gI z2 (u + 12) 1 4 = some (J g) := by rw [gI_J (TS_ky Tz1), vz2]
      have wz2 : fi z2 2 9 = fi z1 2 9 := fm_fi fz1 (by omega) 9
      obtain ⟨ze, rze⟩ : ∃ y, y = wF z2 (u + 12) 4 (g + 1) := ⟨_, rfl⟩
      have fze : Fm u (u + 18) z2 ze := by rw [rze]; exact fm_wF (by omega) (by omega)
      have sze : pI z2 (u + 12) 1 4 (J (g + 1)) = some ze := by rw [rze]; exact pI_J (TS_ky Tz1)
      have Fz : Fm u (u + 18) g3 ze := (fm_tr fz0 (fm_tr fz1 fze))
      refine CO_l p3b (h' := ze) ?_ (cf_fm Fz (by omega) (by omega) (by omega)) ?_ (CT_fm Fz (by omega) c3) ?_
      · try simp only [j_0, j_1, j_2, j_3, j_4, j_5, j_6, j_7, j_8, j_9, j_10, j_11, j_12, j_13, j_14, j_15, j_16, j_17, j_18, j_19, j_20, j_21, j_22, j_23, j_24, j_25, j_26, j_27, j_28, j_29, j_30, j_31, j_32, j_33, j_34, j_35, j_36, j_37, j_38, j_39, j_40, j_41, j_42, j_43, j_44, j_45, j_46, j_47, j_48, j_49, j_50, j_51, j_52, j_57, j_59, j_63, j_74, j_75, j_93, j_97, j_99, j_100, j_122, j_200, j_255, j_300, j_465, j_496, j_900, j_999, j_1000, j_65536, j_65537, j_99999, j_252645135, j_858993459, j_1431655765, k_0, k_1, k_27, k_32, k_74, k_75, k_100, k_1000, k_65537]
        simp (disch := first | with_reducible assumption | omega | trivial) only [↓bn_s1, ↓bd_s1, ↓ei_l1, ↓ei_r1, ↓bn_if, ↓ilt_1, ↓ilt_0, ↓ieq_1, ↓ieq_0, bn_s1, bd_s1, ei_l1, ei_r1, J_add, J_sub, J_mul, J_neg, J_lt, J_le, J_eq, dv_J, rm_J, if_pos, if_neg, ↓reduceIte, bitJ, shlJ, orJ, j_0, j_1, j_2, j_3, j_4, j_5, j_6, j_7, j_8, j_9, j_10, j_11, j_12, j_13, j_14, j_15, j_16, j_17, j_18, j_19, j_20, j_21, j_22, j_23, j_24, j_25, j_26, j_27, j_28, j_29, j_30, j_31, j_32, j_33, j_34, j_35, j_36, j_37, j_38, j_39, j_40, j_41, j_42, j_43, j_44, j_45, j_46, j_47, j_48, j_49, j_50, j_51, j_52, j_57, j_59, j_63, j_74, j_75, j_93, j_97, j_99, j_100, j_122, j_200, j_255, j_300, j_465, j_496, j_900, j_999, j_1000, j_65536, j_65537, j_99999, j_252645135, j_858993459, j_1431655765, k_0, k_1, k_27, k_32, k_74, k_75, k_100, k_1000, k_65537, w3, ↓bn_e (uz0), uz0, ↓bn_e (iz0), iz0, ↓bn_e (tz0), tz0, d_i Dz, ↓d_i_b Dz, d_p Dz, ↓d_p_b Dz, d_r2 Dz, ↓d_r2_b Dz, ↓bn_e (sz0), sz0, ↓bn_e (uz1), uz1, ↓bn_e (iz1), iz1, ↓bn_e (tz1), tz1, d_i Dz0, ↓d_i_b Dz0, d_p Dz0, ↓d_p_b Dz0, d_r2 Dz0, ↓d_r2_b Dz0, wz1, ↓bn_e (sz1), sz1, ↓bn_e (uz2), uz2, ↓bn_e (iz2), iz2, ↓bn_e (sze), sze]
      · have fo : ∀ a j, (a ≠ u + 12 ∨ j ≠ 4) → fi ze a j = fi g3 a j := fun a j ha => by rw [rze, fi_ne ha, rz1, rz0]; rfl
        have io : ∀ a, a ≠ u + 16 → a ≠ u + 17 → ∀ z, ia ze a z = ia g3 a z := fun a a0 a1 z => by
          rw [rze]
          show ia z2 a z = _
          rw [rz1, ia_wA a1, rz0, ia_wA a0]
        have j0 : ∀ z, 0 ≤ z → ia ze (u + 16) z = if z = g then x else ia g3 (u + 16) z := fun z z0 => by
          rw [rze]
          show ia z2 (u + 16) z = _
          rw [rz1, ia_wA (by omega), rz0, ia_if (by omega) z0 (by omega) (by omega) (by omega)]
        have j1 : ∀ z, 0 ≤ z → ia ze (u + 17) z = if z = g then (-q) else ia g3 (u + 17) z := fun z z0 => by
          rw [rze]
          show ia z2 (u + 17) z = _
          rw [rz1, ia_if (by omega) z0 (by omega) (by omega) (by omega), rz0, ia_wA (by omega)]
        obtain ⟨d, d1, d2⟩ := C3.2.2.2.2.2.2.2.1
        refine CP_u Fz C3 (LW_sen lw h7 b1 ⟨by omega, by omega⟩) Nz ?_ ⟨d, by rw [fo _ _ (by omega)]; exact d1, d2⟩ (fun _ y => y) C3.2.2.2.2.2.2.2.2.2
        obtain ⟨b1, ⟨k', b2, b2'⟩, b3, b4, b5, b6, b7, b8, b9, b10⟩ := Rz
        refine ⟨⟨?_, ?_, ?_, ?_, ?_, ?_, ?_, ?_⟩, ⟨k', ?_, b2'⟩, ?_, ?_, ?_, ?_, ?_, ?_, ?_, ?_⟩
        · rw [fo _ _ (by omega)]; exact b1.1
        · rw [fo _ _ (by omega)]; exact b1.2.1
        · rw [fo _ _ (by omega)]; exact b1.2.2.1
        · rw [fo _ _ (by omega)]; exact b1.2.2.2.1
        · rw [fo _ _ (by omega)]; exact b1.2.2.2.2.1
        · rw [fo _ _ (by omega)]; exact b1.2.2.2.2.2.1
        · rw [fo _ _ (by omega)]; exact b1.2.2.2.2.2.2.1
        · rw [rze, fi_same (by omega) (by omega), hg]; rfl
        · rw [fo _ _ (by omega)]; exact b2
        · simp (disch := omega) only [io]; exact b3
        · simp (disch := omega) only [io]; exact b4
        · simp (disch := omega) only [io]; exact b5
        · simp (disch := omega) only [io]; exact b6
        · simp (disch := omega) only [io]; exact b7
        · simp (disch := omega) only [io]; exact b8
        · simp (disch := omega) only [io]; exact b9
        · intro i i0 i1
          replace i1 : i < L 7 0 + 1 := i1
          rw [j0 i i0, j1 i i0]
          show _ = (if i = L 7 0 then x else L 25 i) ∧ _ = (if i = L 7 0 then (-q) else L 26 i)
          rw [← hg]
          by_cases e : i = g
          · rw [if_pos e, if_pos e, if_pos e, if_pos e]; exact ⟨rfl, rfl⟩
          · rw [if_neg e, if_neg e, if_neg e, if_neg e]; exact b10 i i0 (show i < L 7 0 by omega)
      · rw [fm_fi Fz (by omega), fm_fi Fz (by omega)]
        exact ⟨rfl, rfl⟩
    · rw [if_neg wb, if_neg wb]
      simp only [if_pos (show J 0 = (0 : Int32) by decide)]
      rw [bn_e (d_r2 D1), bn_e e23]
      by_cases wo : isW T n p1 23 = true
      · rw [if_pos wo, if_pos wo, if_neg (by decide), bn_s1, ei_l1, bn_e (d_r2 D1)]
        refine S_ad C1 p1b c1 (fun g2 C2 c2 p2b w2 => ?_)
        obtain ⟨p2, hp2⟩ : ∃ p2, p2 = tnx T n p1 := ⟨_, rfl⟩
        rw [← hp2] at c2 p2b ⊢
        rw [bn_s1]
        unfold a_sen4
        refine S_twh (lo := 0) (hi := 200) C2 p2b c2 (by decide) (by decide) (by omega) (by omega) (fun _ t1 t2 g3 C3 c3 p3b w3 => ?_)
        obtain ⟨q, hq⟩ : ∃ q, q = tnm T n p2 := ⟨_, rfl⟩
        rw [← hq] at t1 t2 w3 ⊢
        have Nz := CP_nw C3
        have Tz := C3.2.1
        have Rz := CP_t C3
        have Dz := CP_d C3
        have uz0 := CP_gu C3
        have vz0 : fi g3 (u + 12) 4 = g := by rw [hg]; exact Rz.1.2.2.2.2.2.2.2
        have iz0 : gI g3 (u + 12) 1 4 = some (J g) := by rw [gI_J (TS_ky Tz), vz0]
        have tz0 : gR g3 (u + 12) 1 5 = some (u + 16) := gR_e (TS_ky Tz) (TS_ry5 Tz)
        have nz0 := TS_ny5 Tz
        obtain ⟨z1, rz0⟩ : ∃ y, y = wA g3 (u + 16) g x := ⟨_, rfl⟩
        have fz0 : Fm u (u + 18) g3 z1 := by rw [rz0]; exact fm_wA (by omega) (by omega)
        have sz0 : sI g3 100 (u + 16) (J g) (J x) = some z1 := by rw [rz0]; exact sI_J (TS_ky5 Tz) (by omega) (by omega) (by omega) (by omega)
        have Tz0 := TS_fm fz0 Tz
        have Dz0 := DS_fm fz0 Dz
        have uz1 : gR z1 2 7 3 = some u := gR_e (DS_k Dz0) (by rw [fm_fR fz0]; exact C3.2.2.1)
        have vz1 : fi z1 (u + 12) 4 = g := by rw [rz0]; exact vz0
        have iz1 : gI z1 (u + 12) 1 4 = some (J g) := by rw [gI_J (TS_ky Tz0), vz1]
        have wz1 : fi z1 2 9 = fi g3 2 9 := fm_fi fz0 (by omega) 9
        have tz1 : gR z1 (u + 12) 1 6 = some (u + 17) := gR_e (TS_ky Tz0) (TS_ry6 Tz0)
        have nz1 := TS_ny6 Tz0
        obtain ⟨z2, rz1⟩ : ∃ y, y = wA z1 (u + 17) g q := ⟨_, rfl⟩
        have fz1 : Fm u (u + 18) z1 z2 := by rw [rz1]; exact fm_wA (by omega) (by omega)
        have sz1 : sI z1 100 (u + 17) (J g) (J q) = some z2 := by rw [rz1]; exact sI_J (TS_ky6 Tz0) (by omega) (by omega) (by omega) (by omega)
        have Tz1 := TS_fm fz1 Tz0
        have Dz1 := DS_fm fz1 Dz0
        have uz2 : gR z2 2 7 3 = some u := gR_e (DS_k Dz1) (by rw [fm_fR fz1, fm_fR fz0]; exact C3.2.2.1)
        have vz2 : fi z2 (u + 12) 4 = g := by rw [rz1]; exact vz1
        have iz2 : gI z2 (u + 12) 1 4 = some (J g) := by rw [gI_J (TS_ky Tz1), vz2]
        have wz2 : fi z2 2 9 = fi z1 2 9 := fm_fi fz1 (by omega) 9
        obtain ⟨ze, rze⟩ : ∃ y, y = wF z2 (u + 12) 4 (g + 1) := ⟨_, rfl⟩
        have fze : Fm u (u + 18) z2 ze := by rw [rze]; exact fm_wF (by omega) (by omega)
        have sze : pI z2 (u + 12) 1 4 (J (g + 1)) = some ze := by rw [rze]; exact pI_J (TS_ky Tz1)
        have Fz : Fm u (u + 18) g3 ze := (fm_tr fz0 (fm_tr fz1 fze))
        refine CO_l p3b (h' := ze) ?_ (cf_fm Fz (by omega) (by omega) (by omega)) ?_ (CT_fm Fz (by omega) c3) ?_
        · try simp only [j_0, j_1, j_2, j_3, j_4, j_5, j_6, j_7, j_8, j_9, j_10, j_11, j_12, j_13, j_14, j_15, j_16, j_17, j_18, j_19, j_20, j_21, j_22, j_23, j_24, j_25, j_26, j_27, j_28, j_29, j_30, j_31, j_32, j_33, j_34, j_35, j_36, j_37, j_38, j_39, j_40, j_41, j_42, j_43, j_44, j_45, j_46, j_47, j_48, j_49, j_50, j_51, j_52, j_57, j_59, j_63, j_74, j_75, j_93, j_97, j_99, j_100, j_122, j_200, j_255, j_300, j_465, j_496, j_900, j_999, j_1000, j_65536, j_65537, j_99999, j_252645135, j_858993459, j_1431655765, k_0, k_1, k_27, k_32, k_74, k_75, k_100, k_1000, k_65537]
          simp (disch := first | with_reducible assumption | omega | trivial) only [↓bn_s1, ↓bd_s1, ↓ei_l1, ↓ei_r1, ↓bn_if, ↓ilt_1, ↓ilt_0, ↓ieq_1, ↓ieq_0, bn_s1, bd_s1, ei_l1, ei_r1, J_add, J_sub, J_mul, J_neg, J_lt, J_le, J_eq, dv_J, rm_J, if_pos, if_neg, ↓reduceIte, bitJ, shlJ, orJ, j_0, j_1, j_2, j_3, j_4, j_5, j_6, j_7, j_8, j_9, j_10, j_11, j_12, j_13, j_14, j_15, j_16, j_17, j_18, j_19, j_20, j_21, j_22, j_23, j_24, j_25, j_26, j_27, j_28, j_29, j_30, j_31, j_32, j_33, j_34, j_35, j_36, j_37, j_38, j_39, j_40, j_41, j_42, j_43, j_44, j_45, j_46, j_47, j_48, j_49, j_50, j_51, j_52, j_57, j_59, j_63, j_74, j_75, j_93, j_97, j_99, j_100, j_122, j_200, j_255, j_300, j_465, j_496, j_900, j_999, j_1000, j_65536, j_65537, j_99999, j_252645135, j_858993459, j_1431655765, k_0, k_1, k_27, k_32, k_74, k_75, k_100, k_1000, k_65537, w3, ↓bn_e (uz0), uz0, ↓bn_e (iz0), iz0, ↓bn_e (tz0), tz0, d_i Dz, ↓d_i_b Dz, d_p Dz, ↓d_p_b Dz, d_r2 Dz, ↓d_r2_b Dz, ↓bn_e (sz0), sz0, ↓bn_e (uz1), uz1, ↓bn_e (iz1), iz1, ↓bn_e (tz1), tz1, d_i Dz0, ↓d_i_b Dz0, d_p Dz0, ↓d_p_b Dz0, d_r2 Dz0, ↓d_r2_b Dz0, wz1, ↓bn_e (sz1), sz1, ↓bn_e (uz2), uz2, ↓bn_e (iz2), iz2, ↓bn_e (sze), sze]
        · have fo : ∀ a j, (a ≠ u + 12 ∨ j ≠ 4) → fi ze a j = fi g3 a j := fun a j ha => by rw [rze, fi_ne ha, rz1, rz0]; rfl
          have io : ∀ a, a ≠ u + 16 → a ≠ u + 17 → ∀ z, ia ze a z = ia g3 a z := fun a a0 a1 z => by
            rw [rze]
            show ia z2 a z = _
            rw [rz1, ia_wA a1, rz0, ia_wA a0]
          have j0 : ∀ z, 0 ≤ z → ia ze (u + 16) z = if z = g then x else ia g3 (u + 16) z := fun z z0 => by
            rw [rze]
            show ia z2 (u + 16) z = _
            rw [rz1, ia_wA (by omega), rz0, ia_if (by omega) z0 (by omega) (by omega) (by omega)]
          have j1 : ∀ z, 0 ≤ z → ia ze (u + 17) z = if z = g then q else ia g3 (u + 17) z := fun z z0 => by
            rw [rze]
            show ia z2 (u + 17) z = _
            rw [rz1, ia_if (by omega) z0 (by omega) (by omega) (by omega), rz0, ia_wA (by omega)]
          obtain ⟨d, d1, d2⟩ := C3.2.2.2.2.2.2.2.1
          refine CP_u Fz C3 (LW_sen lw h7 b1 ⟨by omega, by omega⟩) Nz ?_ ⟨d, by rw [fo _ _ (by omega)]; exact d1, d2⟩ (fun _ y => y) C3.2.2.2.2.2.2.2.2.2
          obtain ⟨b1, ⟨k', b2, b2'⟩, b3, b4, b5, b6, b7, b8, b9, b10⟩ := Rz
          refine ⟨⟨?_, ?_, ?_, ?_, ?_, ?_, ?_, ?_⟩, ⟨k', ?_, b2'⟩, ?_, ?_, ?_, ?_, ?_, ?_, ?_, ?_⟩
          · rw [fo _ _ (by omega)]; exact b1.1
          · rw [fo _ _ (by omega)]; exact b1.2.1
          · rw [fo _ _ (by omega)]; exact b1.2.2.1
          · rw [fo _ _ (by omega)]; exact b1.2.2.2.1
          · rw [fo _ _ (by omega)]; exact b1.2.2.2.2.1
          · rw [fo _ _ (by omega)]; exact b1.2.2.2.2.2.1
          · rw [fo _ _ (by omega)]; exact b1.2.2.2.2.2.2.1
          · rw [rze, fi_same (by omega) (by omega), hg]; rfl
          · rw [fo _ _ (by omega)]; exact b2
          · simp (disch := omega) only [io]; exact b3
          · simp (disch := omega) only [io]; exact b4
          · simp (disch := omega) only [io]; exact b5
          · simp (disch := omega) only [io]; exact b6
          · simp (disch := omega) only [io]; exact b7
          · simp (disch := omega) only [io]; exact b8
          · simp (disch := omega) only [io]; exact b9
          · intro i i0 i1
            replace i1 : i < L 7 0 + 1 := i1
            rw [j0 i i0, j1 i i0]
            show _ = (if i = L 7 0 then x else L 25 i) ∧ _ = (if i = L 7 0 then q else L 26 i)
            rw [← hg]
            by_cases e : i = g
            · rw [if_pos e, if_pos e, if_pos e, if_pos e]; exact ⟨rfl, rfl⟩
            · rw [if_neg e, if_neg e, if_neg e, if_neg e]; exact b10 i i0 (show i < L 7 0 by omega)
        · rw [fm_fi Fz (by omega), fm_fi Fz (by omega)]
          exact ⟨rfl, rfl⟩
      · rw [if_neg wo, if_neg wo, if_pos (by decide)]
        obtain ⟨g2, e2, q2⟩ := C_fail (x := 1) C1.1 p1b c1 (by omega)
        refine CO_r (h' := g2) ?_ (cf_fl hu q2) q2.2
        have rv := rvb0
        try simp only [j_0, j_1, j_2, j_3, j_4, j_5, j_6, j_7, j_8, j_9, j_10, j_11, j_12, j_13, j_14, j_15, j_16, j_17, j_18, j_19, j_20, j_21, j_22, j_23, j_24, j_25, j_26, j_27, j_28, j_29, j_30, j_31, j_32, j_33, j_34, j_35, j_36, j_37, j_38, j_39, j_40, j_41, j_42, j_43, j_44, j_45, j_46, j_47, j_48, j_49, j_50, j_51, j_52, j_57, j_59, j_63, j_74, j_75, j_93, j_97, j_99, j_100, j_122, j_200, j_255, j_300, j_465, j_496, j_900, j_999, j_1000, j_65536, j_65537, j_99999, j_252645135, j_858993459, j_1431655765, k_0, k_1, k_27, k_32, k_74, k_75, k_100, k_1000, k_65537]
        simp (disch := first | with_reducible assumption | omega | trivial) only [↓bn_s1, ↓bd_s1, ↓ei_l1, ↓ei_r1, ↓bn_if, ↓ilt_1, ↓ilt_0, ↓ieq_1, ↓ieq_0, bn_s1, bd_s1, ei_l1, ei_r1, J_add, J_sub, J_mul, J_neg, J_lt, J_le, J_eq, dv_J, rm_J, if_pos, if_neg, ↓reduceIte, bitJ, shlJ, orJ, j_0, j_1, j_2, j_3, j_4, j_5, j_6, j_7, j_8, j_9, j_10, j_11, j_12, j_13, j_14, j_15, j_16, j_17, j_18, j_19, j_20, j_21, j_22, j_23, j_24, j_25, j_26, j_27, j_28, j_29, j_30, j_31, j_32, j_33, j_34, j_35, j_36, j_37, j_38, j_39, j_40, j_41, j_42, j_43, j_44, j_45, j_46, j_47, j_48, j_49, j_50, j_51, j_52, j_57, j_59, j_63, j_74, j_75, j_93, j_97, j_99, j_100, j_122, j_200, j_255, j_300, j_465, j_496, j_900, j_999, j_1000, j_65536, j_65537, j_99999, j_252645135, j_858993459, j_1431655765, k_0, k_1, k_27, k_32, k_74, k_75, k_100, k_1000, k_65537, ↓bd_e (e2), e2]
theorem D_sen' {L : Lk} {b : Nat} {T : Int → Int} {n p : Nat} {h : Hp} (hp : p ≤ n) (C : DP L b T n h) (NBL : NB L) (S : SD L) (H : DT T n p h) (h0 : tso T n p = 0) : DO (if bgf L 0 1 = 0 then a_sen L T n (tnx T n p) else .inr (bgf L 0 1, (spn T n p : Nat))) b T n (F_md_readSeen 88 h) h := by
  have hb := C.1.2.2.2.2.2
  have lw := C.2.1
  have lh := LW_h lw
  have ls := LW_s lw
  have N := C.1.2.2.2.1
  unfold F_md_readSeen
  rw [ck_e (MS_k C.1.1.1)]
  refine Sd_beg (c := 0) (m := 1) C hp H h0 (by decide) (by decide) (by omega) (by omega) (fun z => by omega) (fun g B o => ?_) (fun t31 cm g1 C1 c1 p1b => ?_)
  · have M := B.1.1
    try simp only [j_0, j_1, j_2, j_3, j_4, j_5, j_6, j_7, j_8, j_9, j_10, j_11, j_12, j_13, j_14, j_15, j_16, j_17, j_18, j_19, j_20, j_21, j_22, j_23, j_24, j_25, j_26, j_27, j_28, j_29, j_30, j_31, j_32, j_33, j_34, j_35, j_36, j_37, j_38, j_39, j_40, j_41, j_42, j_43, j_44, j_45, j_46, j_47, j_48, j_49, j_50, j_51, j_52, j_57, j_59, j_63, j_74, j_75, j_93, j_97, j_99, j_100, j_122, j_200, j_255, j_300, j_465, j_496, j_900, j_999, j_1000, j_65536, j_65537, j_99999, j_252645135, j_858993459, j_1431655765, k_0, k_1, k_27, k_32, k_74, k_75, k_100, k_1000, k_65537]
    simp (disch := first | with_reducible assumption | omega | trivial) only [↓bn_s1, ↓bd_s1, ↓ei_l1, ↓ei_r1, ↓bn_if, ↓ilt_1, ↓ilt_0, ↓ieq_1, ↓ieq_0, bn_s1, bd_s1, ei_l1, ei_r1, J_add, J_sub, J_mul, J_neg, J_lt, J_le, J_eq, dv_J, rm_J, if_pos, if_neg, ↓reduceIte, bitJ, shlJ, orJ, j_0, j_1, j_2, j_3, j_4, j_5, j_6, j_7, j_8, j_9, j_10, j_11, j_12, j_13, j_14, j_15, j_16, j_17, j_18, j_19, j_20, j_21, j_22, j_23, j_24, j_25, j_26, j_27, j_28, j_29, j_30, j_31, j_32, j_33, j_34, j_35, j_36, j_37, j_38, j_39, j_40, j_41, j_42, j_43, j_44, j_45, j_46, j_47, j_48, j_49, j_50, j_51, j_52, j_57, j_59, j_63, j_74, j_75, j_93, j_97, j_99, j_100, j_122, j_200, j_255, j_300, j_465, j_496, j_900, j_999, j_1000, j_65536, j_65537, j_99999, j_252645135, j_858993459, j_1431655765, k_0, k_1, k_27, k_32, k_74, k_75, k_100, k_1000, k_65537, ↓bd_e ((D_kn5 (s := J 0) B o)), (D_kn5 (s := J 0) B o), m_i M, ↓m_i_b M, m_p M, ↓m_p_b M, m_l M, ↓m_l_b M, m_pl M, ↓m_pl_b M, mr_15 M, ↓mr_15_b M, mr_16 M, ↓mr_16_b M, mr_17 M, ↓mr_17_b M, mr_18 M, ↓mr_18_b M, mr_21 M, ↓mr_21_b M, mr_22 M, ↓mr_22_b M, mr_23 M, ↓mr_23_b M, mr_24 M, ↓mr_24_b M, mr_25 M, ↓mr_25_b M, mr_30 M, ↓mr_30_b M, mr_31 M, ↓mr_31_b M, m90a M, ↓m90a_b M, m90s M, ↓m90s_b M, m91a M, ↓m91a_b M, m91s M, ↓m91s_b M, m92a M, ↓m92a_b M, m92s M, ↓m92s_b M, m93a M, ↓m93a_b M, m93s M, ↓m93s_b M, m94a M, ↓m94a_b M, m94s M, ↓m94s_b M, m95a M, ↓m95a_b M, m95s M, ↓m95s_b M, m96a M, ↓m96a_b M, m96s M, ↓m96s_b M, m97a M, ↓m97a_b M, m97s M, ↓m97s_b M, m98a M, ↓m98a_b M, m98s M, ↓m98s_b M, m99a M, ↓m99a_b M, m99s M, ↓m99s_b M, m100a M, ↓m100a_b M, m100s M, ↓m100s_b M, o, ↓bn_e ((D_go5 M o)), (D_go5 M o), ↓bn_e ((D_isW5 (w := 1000025) M o)), (D_isW5 (w := 1000025) M o), ↓bn_e ((D_isW5 (w := 1000026) M o)), (D_isW5 (w := 1000026) M o), ↓bn_e ((D_flaw5 (x := J 1) M o)), (D_flaw5 (x := J 1) M o), ↓bd_e ((D_rw5 (lo := J 0) (hi := J 200) M o)), (D_rw5 (lo := J 0) (hi := J 200) M o)]
  obtain ⟨p1, hp1⟩ : ∃ p1, p1 = tnx T n p := ⟨_, rfl⟩
  rw [← hp1] at c1 p1b ⊢
  unfold a_sen
  refine Sd_kn (s := 0) C1 p1b c1 (by decide) (by omega) (fun g B o => ?_) (fun k1 => ?_)
  · have M := B.1.1
    try simp only [j_0, j_1, j_2, j_3, j_4, j_5, j_6, j_7, j_8, j_9, j_10, j_11, j_12, j_13, j_14, j_15, j_16, j_17, j_18, j_19, j_20, j_21, j_22, j_23, j_24, j_25, j_26, j_27, j_28, j_29, j_30, j_31, j_32, j_33, j_34, j_35, j_36, j_37, j_38, j_39, j_40, j_41, j_42, j_43, j_44, j_45, j_46, j_47, j_48, j_49, j_50, j_51, j_52, j_57, j_59, j_63, j_74, j_75, j_93, j_97, j_99, j_100, j_122, j_200, j_255, j_300, j_465, j_496, j_900, j_999, j_1000, j_65536, j_65537, j_99999, j_252645135, j_858993459, j_1431655765, k_0, k_1, k_27, k_32, k_74, k_75, k_100, k_1000, k_65537]
    simp (disch := first | with_reducible assumption | omega | trivial) only [↓bn_s1, ↓bd_s1, ↓ei_l1, ↓ei_r1, ↓bn_if, ↓ilt_1, ↓ilt_0, ↓ieq_1, ↓ieq_0, bn_s1, bd_s1, ei_l1, ei_r1, J_add, J_sub, J_mul, J_neg, J_lt, J_le, J_eq, dv_J, rm_J, if_pos, if_neg, ↓reduceIte, bitJ, shlJ, orJ, j_0, j_1, j_2, j_3, j_4, j_5, j_6, j_7, j_8, j_9, j_10, j_11, j_12, j_13, j_14, j_15, j_16, j_17, j_18, j_19, j_20, j_21, j_22, j_23, j_24, j_25, j_26, j_27, j_28, j_29, j_30, j_31, j_32, j_33, j_34, j_35, j_36, j_37, j_38, j_39, j_40, j_41, j_42, j_43, j_44, j_45, j_46, j_47, j_48, j_49, j_50, j_51, j_52, j_57, j_59, j_63, j_74, j_75, j_93, j_97, j_99, j_100, j_122, j_200, j_255, j_300, j_465, j_496, j_900, j_999, j_1000, j_65536, j_65537, j_99999, j_252645135, j_858993459, j_1431655765, k_0, k_1, k_27, k_32, k_74, k_75, k_100, k_1000, k_65537, m_i M, ↓m_i_b M, m_p M, ↓m_p_b M, m_l M, ↓m_l_b M, m_pl M, ↓m_pl_b M, mr_15 M, ↓mr_15_b M, mr_16 M, ↓mr_16_b M, mr_17 M, ↓mr_17_b M, mr_18 M, ↓mr_18_b M, mr_21 M, ↓mr_21_b M, mr_22 M, ↓mr_22_b M, mr_23 M, ↓mr_23_b M, mr_24 M, ↓mr_24_b M, mr_25 M, ↓mr_25_b M, mr_30 M, ↓mr_30_b M, mr_31 M, ↓mr_31_b M, m90a M, ↓m90a_b M, m90s M, ↓m90s_b M, m91a M, ↓m91a_b M, m91s M, ↓m91s_b M, m92a M, ↓m92a_b M, m92s M, ↓m92s_b M, m93a M, ↓m93a_b M, m93s M, ↓m93s_b M, m94a M, ↓m94a_b M, m94s M, ↓m94s_b M, m95a M, ↓m95a_b M, m95s M, ↓m95s_b M, m96a M, ↓m96a_b M, m96s M, ↓m96s_b M, m97a M, ↓m97a_b M, m97s M, ↓m97s_b M, m98a M, ↓m98a_b M, m98s M, ↓m98s_b M, m99a M, ↓m99a_b M, m99s M, ↓m99s_b M, m100a M, ↓m100a_b M, m100s M, ↓m100s_b M, o, ↓bn_e ((D_go5 M o)), (D_go5 M o), ↓bn_e ((D_isW5 (w := 1000025) M o)), (D_isW5 (w := 1000025) M o), ↓bn_e ((D_isW5 (w := 1000026) M o)), (D_isW5 (w := 1000026) M o), ↓bn_e ((D_flaw5 (x := J 1) M o)), (D_flaw5 (x := J 1) M o), ↓bd_e ((D_rw5 (lo := J 0) (hi := J 200) M o)), (D_rw5 (lo := J 0) (hi := J 200) M o)]
  have b1 := kn0 N NBL k1
  have w0 := (pkf_0 N k1).1
  obtain ⟨x, hx⟩ : ∃ x, x = knb L T n p1 := ⟨_, rfl⟩
  rw [← hx] at b1 ⊢
  have R1 := C1.2.2.1
  have M1 := C1.1.1.1
  have es := D_sen (x := x) lw C1.1.2.2.1 R1.1.2.2.2.2.2.2.2 R1.2.2.2.2.2.2.2.2 (by omega)
  have q9 : gI g1 88 13 9 = some (J (rso (tso T n p1))) := by rw [gI_J (MS_k M1), c1.2.2.1]
  have rb := rso_b T n p1 p1b
  unfold a_sen2
  rw [bn_e q9, if_neg (show ¬ J (rso (tso T n p1)) = (5 : Int32) by rw [j_5, J_eq (by omega) (by omega) (by omega) (by omega)]; omega), bn_e (dl_r C1.1), bn_e es]
  by_cases sn : sen L x = true
  · rw [if_pos sn, if_pos sn, if_neg (by decide)]
    obtain ⟨g3, e3, x3⟩ := D_flaw (x := 3) C1.1.1 p1b c1 (by omega)
    have M := MS_fm x3.1 M1
    have o := x3.2.1
    refine DO_fd hb.1 x3 ?_
    try simp only [j_0, j_1, j_2, j_3, j_4, j_5, j_6, j_7, j_8, j_9, j_10, j_11, j_12, j_13, j_14, j_15, j_16, j_17, j_18, j_19, j_20, j_21, j_22, j_23, j_24, j_25, j_26, j_27, j_28, j_29, j_30, j_31, j_32, j_33, j_34, j_35, j_36, j_37, j_38, j_39, j_40, j_41, j_42, j_43, j_44, j_45, j_46, j_47, j_48, j_49, j_50, j_51, j_52, j_57, j_59, j_63, j_74, j_75, j_93, j_97, j_99, j_100, j_122, j_200, j_255, j_300, j_465, j_496, j_900, j_999, j_1000, j_65536, j_65537, j_99999, j_252645135, j_858993459, j_1431655765, k_0, k_1, k_27, k_32, k_74, k_75, k_100, k_1000, k_65537]
    simp (disch := first | with_reducible assumption | omega | trivial) only [↓bn_s1, ↓bd_s1, ↓ei_l1, ↓ei_r1, ↓bn_if, ↓ilt_1, ↓ilt_0, ↓ieq_1, ↓ieq_0, bn_s1, bd_s1, ei_l1, ei_r1, J_add, J_sub, J_mul, J_neg, J_lt, J_le, J_eq, dv_J, rm_J, if_pos, if_neg, ↓reduceIte, bitJ, shlJ, orJ, j_0, j_1, j_2, j_3, j_4, j_5, j_6, j_7, j_8, j_9, j_10, j_11, j_12, j_13, j_14, j_15, j_16, j_17, j_18, j_19, j_20, j_21, j_22, j_23, j_24, j_25, j_26, j_27, j_28, j_29, j_30, j_31, j_32, j_33, j_34, j_35, j_36, j_37, j_38, j_39, j_40, j_41, j_42, j_43, j_44, j_45, j_46, j_47, j_48, j_49, j_50, j_51, j_52, j_57, j_59, j_63, j_74, j_75, j_93, j_97, j_99, j_100, j_122, j_200, j_255, j_300, j_465, j_496, j_900, j_999, j_1000, j_65536, j_65537, j_99999, j_252645135, j_858993459, j_1431655765, k_0, k_1, k_27, k_32, k_74, k_75, k_100, k_1000, k_65537, ↓bn_e (e3), e3, m_i M, ↓m_i_b M, m_p M, ↓m_p_b M, m_l M, ↓m_l_b M, m_pl M, ↓m_pl_b M, mr_15 M, ↓mr_15_b M, mr_16 M, ↓mr_16_b M, mr_17 M, ↓mr_17_b M, mr_18 M, ↓mr_18_b M, mr_21 M, ↓mr_21_b M, mr_22 M, ↓mr_22_b M, mr_23 M, ↓mr_23_b M, mr_24 M, ↓mr_24_b M, mr_25 M, ↓mr_25_b M, mr_30 M, ↓mr_30_b M, mr_31 M, ↓mr_31_b M, m90a M, ↓m90a_b M, m90s M, ↓m90s_b M, m91a M, ↓m91a_b M, m91s M, ↓m91s_b M, m92a M, ↓m92a_b M, m92s M, ↓m92s_b M, m93a M, ↓m93a_b M, m93s M, ↓m93s_b M, m94a M, ↓m94a_b M, m94s M, ↓m94s_b M, m95a M, ↓m95a_b M, m95s M, ↓m95s_b M, m96a M, ↓m96a_b M, m96s M, ↓m96s_b M, m97a M, ↓m97a_b M, m97s M, ↓m97s_b M, m98a M, ↓m98a_b M, m98s M, ↓m98s_b M, m99a M, ↓m99a_b M, m99s M, ↓m99s_b M, m100a M, ↓m100a_b M, m100s M, ↓m100s_b M, o, ↓bn_e ((D_go5 M o)), (D_go5 M o), ↓bn_e ((D_isW5 (w := 1000025) M o)), (D_isW5 (w := 1000025) M o), ↓bn_e ((D_isW5 (w := 1000026) M o)), (D_isW5 (w := 1000026) M o), ↓bn_e ((D_flaw5 (x := J 1) M o)), (D_flaw5 (x := J 1) M o), ↓bd_e ((D_rw5 (lo := J 0) (hi := J 200) M o)), (D_rw5 (lo := J 0) (hi := J 200) M o)]
  · rw [if_neg sn, if_neg sn, if_pos (by decide), bn_s1]
    have h7 := sen_5 lw S b1 sn
    refine Sd_go C1 p1b c1 (by omega) (fun g2 C2 c2 p2b => ?_)
    obtain ⟨p2, hp2⟩ : ∃ p2, p2 = tnx T n p1 := ⟨_, rfl⟩
    rw [← hp2] at c2 p2b ⊢
    have M2 := C2.1.1.1
    have e22 : F_md_isWord 88 1000025 g2 = some (J (if isW T n p2 22 = true then 1 else 0)) := D_isW (k := 22) M2 C2.1.1.2.2 p2b c2 (by omega)
    have e23 : F_md_isWord 88 1000026 g2 = some (J (if isW T n p2 23 = true then 1 else 0)) := D_isW (k := 23) M2 C2.1.1.2.2 p2b c2 (by omega)
    obtain ⟨g, hg⟩ : ∃ g, g = L 7 0 := ⟨_, rfl⟩
    unfold a_sen3
    rw [bn_e e22]
    by_cases wb : isW T n p2 22 = true
    · rw [if_pos wb, if_pos wb]
      have wz := tl0 wb
      simp only [if_neg (show ¬ J 1 = (0 : Int32) by decide)]
      rw [bn_s1]
      refine Sd_go C2 p2b c2 wz (fun g3 C3 c3 p3b => ?_)
      obtain ⟨p3, hp3⟩ : ∃ p3, p3 = tnx T n p2 := ⟨_, rfl⟩
      rw [← hp3] at c3 p3b ⊢
      rw [bn_s1]
      unfold a_sen4
      refine Sd_rw (lo := 1) (hi := 200) C3 p3b c3 (by decide) (by decide) (by omega) (by omega) (fun g B o => ?_) (fun t1 t2 g4 C4 c4 p4b => ?_)
      · have M := B.1.1
        try simp only [j_0, j_1, j_2, j_3, j_4, j_5, j_6, j_7, j_8, j_9, j_10, j_11, j_12, j_13, j_14, j_15, j_16, j_17, j_18, j_19, j_20, j_21, j_22, j_23, j_24, j_25, j_26, j_27, j_28, j_29, j_30, j_31, j_32, j_33, j_34, j_35, j_36, j_37, j_38, j_39, j_40, j_41, j_42, j_43, j_44, j_45, j_46, j_47, j_48, j_49, j_50, j_51, j_52, j_57, j_59, j_63, j_74, j_75, j_93, j_97, j_99, j_100, j_122, j_200, j_255, j_300, j_465, j_496, j_900, j_999, j_1000, j_65536, j_65537, j_99999, j_252645135, j_858993459, j_1431655765, k_0, k_1, k_27, k_32, k_74, k_75, k_100, k_1000, k_65537]
        simp (disch := first | with_reducible assumption | omega | trivial) only [↓bn_s1, ↓bd_s1, ↓ei_l1, ↓ei_r1, ↓bn_if, ↓ilt_1, ↓ilt_0, ↓ieq_1, ↓ieq_0, bn_s1, bd_s1, ei_l1, ei_r1, J_add, J_sub, J_mul, J_neg, J_lt, J_le, J_eq, dv_J, rm_J, if_pos, if_neg, ↓reduceIte, bitJ, shlJ, orJ, j_0, j_1, j_2, j_3, j_4, j_5, j_6, j_7, j_8, j_9, j_10, j_11, j_12, j_13, j_14, j_15, j_16, j_17, j_18, j_19, j_20, j_21, j_22, j_23, j_24, j_25, j_26, j_27, j_28, j_29, j_30, j_31, j_32, j_33, j_34, j_35, j_36, j_37, j_38, j_39, j_40, j_41, j_42, j_43, j_44, j_45, j_46, j_47, j_48, j_49, j_50, j_51, j_52, j_57, j_59, j_63, j_74, j_75, j_93, j_97, j_99, j_100, j_122, j_200, j_255, j_300, j_465, j_496, j_900, j_999, j_1000, j_65536, j_65537, j_99999, j_252645135, j_858993459, j_1431655765, k_0, k_1, k_27, k_32, k_74, k_75, k_100, k_1000, k_65537, m_i M, ↓m_i_b M, m_p M, ↓m_p_b M, m_l M, ↓m_l_b M, m_pl M, ↓m_pl_b M, mr_15 M, ↓mr_15_b M, mr_16 M, ↓mr_16_b M, mr_17 M, ↓mr_17_b M, mr_18 M, ↓mr_18_b M, mr_21 M, ↓mr_21_b M, mr_22 M, ↓mr_22_b M, mr_23 M, ↓mr_23_b M, mr_24 M, ↓mr_24_b M, mr_25 M, ↓mr_25_b M, mr_30 M, ↓mr_30_b M, mr_31 M, ↓mr_31_b M, m90a M, ↓m90a_b M, m90s M, ↓m90s_b M, m91a M, ↓m91a_b M, m91s M, ↓m91s_b M, m92a M, ↓m92a_b M, m92s M, ↓m92s_b M, m93a M, ↓m93a_b M, m93s M, ↓m93s_b M, m94a M, ↓m94a_b M, m94s M, ↓m94s_b M, m95a M, ↓m95a_b M, m95s M, ↓m95s_b M, m96a M, ↓m96a_b M, m96s M, ↓m96s_b M, m97a M, ↓m97a_b M, m97s M, ↓m97s_b M, m98a M, ↓m98a_b M, m98s M, ↓m98s_b M, m99a M, ↓m99a_b M, m99s M, ↓m99s_b M, m100a M, ↓m100a_b M, m100s M, ↓m100s_b M, o]
      obtain ⟨q, hq⟩ : ∃ q, q = tnm T n p3 := ⟨_, rfl⟩
      rw [← hq] at t1 t2 ⊢
      have q4 : fi g4 88 9 = rso (tso T n (tnx T n p3)) := c4.2.2.1
      have rb4 := rso_b T n _ p4b
      have Nz := C4.1.2.2.2.1
      have Mz := C4.1.1.1
      have Yz := C4.1.2.2.1
      have Rz := C4.2.2.1
      have uz0 := dl_r C4.1
      have vz0 : fi g4 b 7 = g := by rw [Rz.1.2.2.2.2.2.2.2, hg]; rfl
      have iz0 : gI g4 b 12 7 = some (J g) := by rw [gI_J (YS_k Yz), vz0]
      have tz0 : gR g4 b 12 25 = some (b + 17) := gR_e (YS_k Yz) (YS_r25 Yz)
      have nz0 := YS_n25 Yz
      obtain ⟨z1, rz0⟩ : ∃ y, y = wA g4 (b + 17) g x := ⟨_, rfl⟩
      have fz0 : Fm b (b + 19) g4 z1 := by rw [rz0]; exact fm_wA (by omega) (by omega)
      have sz0 : sI g4 100 (b + 17) (J g) (J x) = some z1 := by rw [rz0]; exact sI_J (YS_k25 Yz) (by omega) (by omega) (by omega) (by omega)
      have Yz0 := YS_fm fz0 Yz
      have Mz0 := MS_fm fz0 Mz
      have uz1 : gR z1 88 13 4 = some b := gR_e (MS_k Mz0) (by rw [fm_fR fz0]; exact C4.1.2.1)
      have vz1 : fi z1 b 7 = g := by rw [rz0]; exact vz0
      have iz1 : gI z1 b 12 7 = some (J g) := by rw [gI_J (YS_k Yz0), vz1]
      have tz1 : gR z1 b 12 26 = some (b + 18) := gR_e (YS_k Yz0) (YS_r26 Yz0)
      have nz1 := YS_n26 Yz0
      obtain ⟨z2, rz1⟩ : ∃ y, y = wA z1 (b + 18) g (-q) := ⟨_, rfl⟩
      have fz1 : Fm b (b + 19) z1 z2 := by rw [rz1]; exact fm_wA (by omega) (by omega)
      have sz1 : sI z1 100 (b + 18) (J g) (J (-q)) = some z2 := by rw [rz1]; exact sI_J (YS_k26 Yz0) (by omega) (by omega) (by omega) (by omega)
      have Yz1 := YS_fm fz1 Yz0
      have Mz1 := MS_fm fz1 Mz0
      have uz2 : gR z2 88 13 4 = some b := gR_e (MS_k Mz1) (by rw [fm_fR fz1, fm_fR fz0]; exact C4.1.2.1)
      have vz2 : fi z2 b 7 = g := by rw [rz1]; exact vz1
      have iz2 : gI z2 b 12 7 = some (J g) := by rw [gI_J (YS_k Yz1), vz2]
      obtain ⟨ze, rze⟩ : ∃ y, y = wF z2 b 7 (g + 1) := ⟨_, rfl⟩
      have fze : Fm b (b + 19) z2 ze := by rw [rze]; exact fm_wF (by omega) (by omega)
      have sze : pI z2 b 12 7 (J (g + 1)) = some ze := by rw [rze]; exact pI_J (YS_k Yz1)
      have Fz : Fm b (b + 19) g4 ze := (fm_tr fz0 (fm_tr fz1 fze))
      refine DO_l p4b (h' := ze) ?_ (df_b hb.1 Fz (by omega) (by omega)) ?_ (DT_fm Fz (by omega) c4) (fm_fi Fz (by omega) 12)
      · try simp only [j_0, j_1, j_2, j_3, j_4, j_5, j_6, j_7, j_8, j_9, j_10, j_11, j_12, j_13, j_14, j_15, j_16, j_17, j_18, j_19, j_20, j_21, j_22, j_23, j_24, j_25, j_26, j_27, j_28, j_29, j_30, j_31, j_32, j_33, j_34, j_35, j_36, j_37, j_38, j_39, j_40, j_41, j_42, j_43, j_44, j_45, j_46, j_47, j_48, j_49, j_50, j_51, j_52, j_57, j_59, j_63, j_74, j_75, j_93, j_97, j_99, j_100, j_122, j_200, j_255, j_300, j_465, j_496, j_900, j_999, j_1000, j_65536, j_65537, j_99999, j_252645135, j_858993459, j_1431655765, k_0, k_1, k_27, k_32, k_74, k_75, k_100, k_1000, k_65537]
        simp (disch := first | with_reducible assumption | omega | trivial) only [↓bn_s1, ↓bd_s1, ↓ei_l1, ↓ei_r1, ↓bn_if, ↓ilt_1, ↓ilt_0, ↓ieq_1, ↓ieq_0, bn_s1, bd_s1, ei_l1, ei_r1, J_add, J_sub, J_mul, J_neg, J_lt, J_le, J_eq, dv_J, rm_J, if_pos, if_neg, ↓reduceIte, bitJ, shlJ, orJ, j_0, j_1, j_2, j_3, j_4, j_5, j_6, j_7, j_8, j_9, j_10, j_11, j_12, j_13, j_14, j_15, j_16, j_17, j_18, j_19, j_20, j_21, j_22, j_23, j_24, j_25, j_26, j_27, j_28, j_29, j_30, j_31, j_32, j_33, j_34, j_35, j_36, j_37, j_38, j_39, j_40, j_41, j_42, j_43, j_44, j_45, j_46, j_47, j_48, j_49, j_50, j_51, j_52, j_57, j_59, j_63, j_74, j_75, j_93, j_97, j_99, j_100, j_122, j_200, j_255, j_300, j_465, j_496, j_900, j_999, j_1000, j_65536, j_65537, j_99999, j_252645135, j_858993459, j_1431655765, k_0, k_1, k_27, k_32, k_74, k_75, k_100, k_1000, k_65537, m_i Mz, ↓m_i_b Mz, m_p Mz, ↓m_p_b Mz, m_l Mz, ↓m_l_b Mz, m_pl Mz, ↓m_pl_b Mz, mr_15 Mz, ↓mr_15_b Mz, mr_16 Mz, ↓mr_16_b Mz, mr_17 Mz, ↓mr_17_b Mz, mr_18 Mz, ↓mr_18_b Mz, mr_21 Mz, ↓mr_21_b Mz, mr_22 Mz, ↓mr_22_b Mz, mr_23 Mz, ↓mr_23_b Mz, mr_24 Mz, ↓mr_24_b Mz, mr_25 Mz, ↓mr_25_b Mz, mr_30 Mz, ↓mr_30_b Mz, mr_31 Mz, ↓mr_31_b Mz, m90a Mz, ↓m90a_b Mz, m90s Mz, ↓m90s_b Mz, m91a Mz, ↓m91a_b Mz, m91s Mz, ↓m91s_b Mz, m92a Mz, ↓m92a_b Mz, m92s Mz, ↓m92s_b Mz, m93a Mz, ↓m93a_b Mz, m93s Mz, ↓m93s_b Mz, m94a Mz, ↓m94a_b Mz, m94s Mz, ↓m94s_b Mz, m95a Mz, ↓m95a_b Mz, m95s Mz, ↓m95s_b Mz, m96a Mz, ↓m96a_b Mz, m96s Mz, ↓m96s_b Mz, m97a Mz, ↓m97a_b Mz, m97s Mz, ↓m97s_b Mz, m98a Mz, ↓m98a_b Mz, m98s Mz, ↓m98s_b Mz, m99a Mz, ↓m99a_b Mz, m99s Mz, ↓m99s_b Mz, m100a Mz, ↓m100a_b Mz, m100s Mz, ↓m100s_b Mz, q4, ↓bn_e (uz0), uz0, ↓bn_e (iz0), iz0, ↓bn_e (tz0), tz0, ↓bn_e (sz0), sz0, ↓bn_e (uz1), uz1, ↓bn_e (iz1), iz1, ↓bn_e (tz1), tz1, ↓bn_e (sz1), sz1, ↓bn_e (uz2), uz2, ↓bn_e (iz2), iz2, ↓bn_e (sze), sze]
      · have fo : ∀ a j, (a ≠ b ∨ j ≠ 7) → fi ze a j = fi g4 a j := fun a j ha => by rw [rze, fi_ne ha, rz1, rz0]; rfl
        have io : ∀ a, a ≠ b + 17 → a ≠ b + 18 → ∀ z, ia ze a z = ia g4 a z := fun a a0 a1 z => by
          rw [rze]
          show ia z2 a z = _
          rw [rz1, ia_wA a1, rz0, ia_wA a0]
        have j0 : ∀ z, 0 ≤ z → ia ze (b + 17) z = if z = g then x else ia g4 (b + 17) z := fun z z0 => by
          rw [rze]
          show ia z2 (b + 17) z = _
          rw [rz1, ia_wA (by omega), rz0, ia_if (by omega) z0 (by omega) (by omega) (by omega)]
        have j1 : ∀ z, 0 ≤ z → ia ze (b + 18) z = if z = g then (-q) else ia g4 (b + 18) z := fun z z0 => by
          rw [rze]
          show ia z2 (b + 18) z = _
          rw [rz1, ia_if (by omega) z0 (by omega) (by omega) (by omega), rz0, ia_wA (by omega)]
        refine DP_u Fz (fo b 8 (by omega)) C4 (LW_sen lw h7 b1 ⟨by omega, by omega⟩) Nz ?_ ?_ (fun _ y => y) C4.2.2.2.2.1 (fun y => by have y' : L 31 0 = 0 := y; omega)
        · obtain ⟨b1, b2, b3, b4, b5, b6, b7, b8, b9⟩ := Rz
          refine ⟨⟨?_, ?_, ?_, ?_, ?_, ?_, ?_, ?_⟩, ?_, ?_, ?_, ?_, ?_, ?_, ?_, ?_⟩
          · rw [fo _ _ (by omega)]; exact b1.1
          · rw [fo _ _ (by omega)]; exact b1.2.1
          · rw [fo _ _ (by omega)]; exact b1.2.2.1
          · rw [fo _ _ (by omega)]; exact b1.2.2.2.1
          · rw [fo _ _ (by omega)]; exact b1.2.2.2.2.1
          · rw [fo _ _ (by omega)]; exact b1.2.2.2.2.2.1
          · rw [fo _ _ (by omega)]; exact b1.2.2.2.2.2.2.1
          · rw [rze, fi_same (by omega) (by omega), hg]; rfl
          · simp (disch := omega) only [io]; exact b2
          · simp (disch := omega) only [io]; exact b3
          · simp (disch := omega) only [io]; exact b4
          · simp (disch := omega) only [io]; exact b5
          · simp (disch := omega) only [io]; exact b6
          · simp (disch := omega) only [io]; exact b7
          · simp (disch := omega) only [io]; exact b8
          · intro i i0 i1
            replace i1 : i < L 7 0 + 1 := i1
            rw [j0 i i0, j1 i i0]
            show _ = (if i = L 7 0 then x else L 25 i) ∧ _ = (if i = L 7 0 then (-q) else L 26 i)
            rw [← hg]
            by_cases e : i = g
            · rw [if_pos e, if_pos e, if_pos e, if_pos e]; exact ⟨rfl, rfl⟩
            · rw [if_neg e, if_neg e, if_neg e, if_neg e]; exact b9 i i0 (show i < L 7 0 by omega)
        · intro i hi
          obtain ⟨m, m1, m2, m3⟩ := C4.2.2.2.1 i hi
          exact ⟨m, m1, by rw [io _ (by omega) (by omega)]; exact m2, m3⟩
    · rw [if_neg wb, if_neg wb]
      simp only [if_pos (show J 0 = (0 : Int32) by decide)]
      rw [bn_e e23]
      by_cases wo : isW T n p2 23 = true
      · rw [if_pos wo, if_pos wo, if_neg (by decide), bn_s1]
        have wz := tl0 wo
        refine Sd_go C2 p2b c2 wz (fun g3 C3 c3 p3b => ?_)
        obtain ⟨p3, hp3⟩ : ∃ p3, p3 = tnx T n p2 := ⟨_, rfl⟩
        rw [← hp3] at c3 p3b ⊢
        rw [bn_s1]
        unfold a_sen4
        refine Sd_rw (lo := 0) (hi := 200) C3 p3b c3 (by decide) (by decide) (by omega) (by omega) (fun g B o => ?_) (fun t1 t2 g4 C4 c4 p4b => ?_)
        · have M := B.1.1
          try simp only [j_0, j_1, j_2, j_3, j_4, j_5, j_6, j_7, j_8, j_9, j_10, j_11, j_12, j_13, j_14, j_15, j_16, j_17, j_18, j_19, j_20, j_21, j_22, j_23, j_24, j_25, j_26, j_27, j_28, j_29, j_30, j_31, j_32, j_33, j_34, j_35, j_36, j_37, j_38, j_39, j_40, j_41, j_42, j_43, j_44, j_45, j_46, j_47, j_48, j_49, j_50, j_51, j_52, j_57, j_59, j_63, j_74, j_75, j_93, j_97, j_99, j_100, j_122, j_200, j_255, j_300, j_465, j_496, j_900, j_999, j_1000, j_65536, j_65537, j_99999, j_252645135, j_858993459, j_1431655765, k_0, k_1, k_27, k_32, k_74, k_75, k_100, k_1000, k_65537]
          simp (disch := first | with_reducible assumption | omega | trivial) only [↓bn_s1, ↓bd_s1, ↓ei_l1, ↓ei_r1, ↓bn_if, ↓ilt_1, ↓ilt_0, ↓ieq_1, ↓ieq_0, bn_s1, bd_s1, ei_l1, ei_r1, J_add, J_sub, J_mul, J_neg, J_lt, J_le, J_eq, dv_J, rm_J, if_pos, if_neg, ↓reduceIte, bitJ, shlJ, orJ, j_0, j_1, j_2, j_3, j_4, j_5, j_6, j_7, j_8, j_9, j_10, j_11, j_12, j_13, j_14, j_15, j_16, j_17, j_18, j_19, j_20, j_21, j_22, j_23, j_24, j_25, j_26, j_27, j_28, j_29, j_30, j_31, j_32, j_33, j_34, j_35, j_36, j_37, j_38, j_39, j_40, j_41, j_42, j_43, j_44, j_45, j_46, j_47, j_48, j_49, j_50, j_51, j_52, j_57, j_59, j_63, j_74, j_75, j_93, j_97, j_99, j_100, j_122, j_200, j_255, j_300, j_465, j_496, j_900, j_999, j_1000, j_65536, j_65537, j_99999, j_252645135, j_858993459, j_1431655765, k_0, k_1, k_27, k_32, k_74, k_75, k_100, k_1000, k_65537, m_i M, ↓m_i_b M, m_p M, ↓m_p_b M, m_l M, ↓m_l_b M, m_pl M, ↓m_pl_b M, mr_15 M, ↓mr_15_b M, mr_16 M, ↓mr_16_b M, mr_17 M, ↓mr_17_b M, mr_18 M, ↓mr_18_b M, mr_21 M, ↓mr_21_b M, mr_22 M, ↓mr_22_b M, mr_23 M, ↓mr_23_b M, mr_24 M, ↓mr_24_b M, mr_25 M, ↓mr_25_b M, mr_30 M, ↓mr_30_b M, mr_31 M, ↓mr_31_b M, m90a M, ↓m90a_b M, m90s M, ↓m90s_b M, m91a M, ↓m91a_b M, m91s M, ↓m91s_b M, m92a M, ↓m92a_b M, m92s M, ↓m92s_b M, m93a M, ↓m93a_b M, m93s M, ↓m93s_b M, m94a M, ↓m94a_b M, m94s M, ↓m94s_b M, m95a M, ↓m95a_b M, m95s M, ↓m95s_b M, m96a M, ↓m96a_b M, m96s M, ↓m96s_b M, m97a M, ↓m97a_b M, m97s M, ↓m97s_b M, m98a M, ↓m98a_b M, m98s M, ↓m98s_b M, m99a M, ↓m99a_b M, m99s M, ↓m99s_b M, m100a M, ↓m100a_b M, m100s M, ↓m100s_b M, o]
        obtain ⟨q, hq⟩ : ∃ q, q = tnm T n p3 := ⟨_, rfl⟩
        rw [← hq] at t1 t2 ⊢
        have q4 : fi g4 88 9 = rso (tso T n (tnx T n p3)) := c4.2.2.1
        have rb4 := rso_b T n _ p4b
        have Nz := C4.1.2.2.2.1
        have Mz := C4.1.1.1
        have Yz := C4.1.2.2.1
        have Rz := C4.2.2.1
        have uz0 := dl_r C4.1
        have vz0 : fi g4 b 7 = g := by rw [Rz.1.2.2.2.2.2.2.2, hg]; rfl
        have iz0 : gI g4 b 12 7 = some (J g) := by rw [gI_J (YS_k Yz), vz0]
        have tz0 : gR g4 b 12 25 = some (b + 17) := gR_e (YS_k Yz) (YS_r25 Yz)
        have nz0 := YS_n25 Yz
        obtain ⟨z1, rz0⟩ : ∃ y, y = wA g4 (b + 17) g x := ⟨_, rfl⟩
        have fz0 : Fm b (b + 19) g4 z1 := by rw [rz0]; exact fm_wA (by omega) (by omega)
        have sz0 : sI g4 100 (b + 17) (J g) (J x) = some z1 := by rw [rz0]; exact sI_J (YS_k25 Yz) (by omega) (by omega) (by omega) (by omega)
        have Yz0 := YS_fm fz0 Yz
        have Mz0 := MS_fm fz0 Mz
        have uz1 : gR z1 88 13 4 = some b := gR_e (MS_k Mz0) (by rw [fm_fR fz0]; exact C4.1.2.1)
        have vz1 : fi z1 b 7 = g := by rw [rz0]; exact vz0
        have iz1 : gI z1 b 12 7 = some (J g) := by rw [gI_J (YS_k Yz0), vz1]
        have tz1 : gR z1 b 12 26 = some (b + 18) := gR_e (YS_k Yz0) (YS_r26 Yz0)
        have nz1 := YS_n26 Yz0
        obtain ⟨z2, rz1⟩ : ∃ y, y = wA z1 (b + 18) g q := ⟨_, rfl⟩
        have fz1 : Fm b (b + 19) z1 z2 := by rw [rz1]; exact fm_wA (by omega) (by omega)
        have sz1 : sI z1 100 (b + 18) (J g) (J q) = some z2 := by rw [rz1]; exact sI_J (YS_k26 Yz0) (by omega) (by omega) (by omega) (by omega)
        have Yz1 := YS_fm fz1 Yz0
        have Mz1 := MS_fm fz1 Mz0
        have uz2 : gR z2 88 13 4 = some b := gR_e (MS_k Mz1) (by rw [fm_fR fz1, fm_fR fz0]; exact C4.1.2.1)
        have vz2 : fi z2 b 7 = g := by rw [rz1]; exact vz1
        have iz2 : gI z2 b 12 7 = some (J g) := by rw [gI_J (YS_k Yz1), vz2]
        obtain ⟨ze, rze⟩ : ∃ y, y = wF z2 b 7 (g + 1) := ⟨_, rfl⟩
        have fze : Fm b (b + 19) z2 ze := by rw [rze]; exact fm_wF (by omega) (by omega)
        have sze : pI z2 b 12 7 (J (g + 1)) = some ze := by rw [rze]; exact pI_J (YS_k Yz1)
        have Fz : Fm b (b + 19) g4 ze := (fm_tr fz0 (fm_tr fz1 fze))
        refine DO_l p4b (h' := ze) ?_ (df_b hb.1 Fz (by omega) (by omega)) ?_ (DT_fm Fz (by omega) c4) (fm_fi Fz (by omega) 12)
        · try simp only [j_0, j_1, j_2, j_3, j_4, j_5, j_6, j_7, j_8, j_9, j_10, j_11, j_12, j_13, j_14, j_15, j_16, j_17, j_18, j_19, j_20, j_21, j_22, j_23, j_24, j_25, j_26, j_27, j_28, j_29, j_30, j_31, j_32, j_33, j_34, j_35, j_36, j_37, j_38, j_39, j_40, j_41, j_42, j_43, j_44, j_45, j_46, j_47, j_48, j_49, j_50, j_51, j_52, j_57, j_59, j_63, j_74, j_75, j_93, j_97, j_99, j_100, j_122, j_200, j_255, j_300, j_465, j_496, j_900, j_999, j_1000, j_65536, j_65537, j_99999, j_252645135, j_858993459, j_1431655765, k_0, k_1, k_27, k_32, k_74, k_75, k_100, k_1000, k_65537]
          simp (disch := first | with_reducible assumption | omega | trivial) only [↓bn_s1, ↓bd_s1, ↓ei_l1, ↓ei_r1, ↓bn_if, ↓ilt_1, ↓ilt_0, ↓ieq_1, ↓ieq_0, bn_s1, bd_s1, ei_l1, ei_r1, J_add, J_sub, J_mul, J_neg, J_lt, J_le, J_eq, dv_J, rm_J, if_pos, if_neg, ↓reduceIte, bitJ, shlJ, orJ, j_0, j_1, j_2, j_3, j_4, j_5, j_6, j_7, j_8, j_9, j_10, j_11, j_12, j_13, j_14, j_15, j_16, j_17, j_18, j_19, j_20, j_21, j_22, j_23, j_24, j_25, j_26, j_27, j_28, j_29, j_30, j_31, j_32, j_33, j_34, j_35, j_36, j_37, j_38, j_39, j_40, j_41, j_42, j_43, j_44, j_45, j_46, j_47, j_48, j_49, j_50, j_51, j_52, j_57, j_59, j_63, j_74, j_75, j_93, j_97, j_99, j_100, j_122, j_200, j_255, j_300, j_465, j_496, j_900, j_999, j_1000, j_65536, j_65537, j_99999, j_252645135, j_858993459, j_1431655765, k_0, k_1, k_27, k_32, k_74, k_75, k_100, k_1000, k_65537, m_i Mz, ↓m_i_b Mz, m_p Mz, ↓m_p_b Mz, m_l Mz, ↓m_l_b Mz, m_pl Mz, ↓m_pl_b Mz, mr_15 Mz, ↓mr_15_b Mz, mr_16 Mz, ↓mr_16_b Mz, mr_17 Mz, ↓mr_17_b Mz, mr_18 Mz, ↓mr_18_b Mz, mr_21 Mz, ↓mr_21_b Mz, mr_22 Mz, ↓mr_22_b Mz, mr_23 Mz, ↓mr_23_b Mz, mr_24 Mz, ↓mr_24_b Mz, mr_25 Mz, ↓mr_25_b Mz, mr_30 Mz, ↓mr_30_b Mz, mr_31 Mz, ↓mr_31_b Mz, m90a Mz, ↓m90a_b Mz, m90s Mz, ↓m90s_b Mz, m91a Mz, ↓m91a_b Mz, m91s Mz, ↓m91s_b Mz, m92a Mz, ↓m92a_b Mz, m92s Mz, ↓m92s_b Mz, m93a Mz, ↓m93a_b Mz, m93s Mz, ↓m93s_b Mz, m94a Mz, ↓m94a_b Mz, m94s Mz, ↓m94s_b Mz, m95a Mz, ↓m95a_b Mz, m95s Mz, ↓m95s_b Mz, m96a Mz, ↓m96a_b Mz, m96s Mz, ↓m96s_b Mz, m97a Mz, ↓m97a_b Mz, m97s Mz, ↓m97s_b Mz, m98a Mz, ↓m98a_b Mz, m98s Mz, ↓m98s_b Mz, m99a Mz, ↓m99a_b Mz, m99s Mz, ↓m99s_b Mz, m100a Mz, ↓m100a_b Mz, m100s Mz, ↓m100s_b Mz, q4, ↓bn_e (uz0), uz0, ↓bn_e (iz0), iz0, ↓bn_e (tz0), tz0, ↓bn_e (sz0), sz0, ↓bn_e (uz1), uz1, ↓bn_e (iz1), iz1, ↓bn_e (tz1), tz1, ↓bn_e (sz1), sz1, ↓bn_e (uz2), uz2, ↓bn_e (iz2), iz2, ↓bn_e (sze), sze]
        · have fo : ∀ a j, (a ≠ b ∨ j ≠ 7) → fi ze a j = fi g4 a j := fun a j ha => by rw [rze, fi_ne ha, rz1, rz0]; rfl
          have io : ∀ a, a ≠ b + 17 → a ≠ b + 18 → ∀ z, ia ze a z = ia g4 a z := fun a a0 a1 z => by
            rw [rze]
            show ia z2 a z = _
            rw [rz1, ia_wA a1, rz0, ia_wA a0]
          have j0 : ∀ z, 0 ≤ z → ia ze (b + 17) z = if z = g then x else ia g4 (b + 17) z := fun z z0 => by
            rw [rze]
            show ia z2 (b + 17) z = _
            rw [rz1, ia_wA (by omega), rz0, ia_if (by omega) z0 (by omega) (by omega) (by omega)]
          have j1 : ∀ z, 0 ≤ z → ia ze (b + 18) z = if z = g then q else ia g4 (b + 18) z := fun z z0 => by
            rw [rze]
            show ia z2 (b + 18) z = _
            rw [rz1, ia_if (by omega) z0 (by omega) (by omega) (by omega), rz0, ia_wA (by omega)]
          refine DP_u Fz (fo b 8 (by omega)) C4 (LW_sen lw h7 b1 ⟨by omega, by omega⟩) Nz ?_ ?_ (fun _ y => y) C4.2.2.2.2.1 (fun y => by have y' : L 31 0 = 0 := y; omega)
          · obtain ⟨b1, b2, b3, b4, b5, b6, b7, b8, b9⟩ := Rz
            refine ⟨⟨?_, ?_, ?_, ?_, ?_, ?_, ?_, ?_⟩, ?_, ?_, ?_, ?_, ?_, ?_, ?_, ?_⟩
            · rw [fo _ _ (by omega)]; exact b1.1
            · rw [fo _ _ (by omega)]; exact b1.2.1
            · rw [fo _ _ (by omega)]; exact b1.2.2.1
            · rw [fo _ _ (by omega)]; exact b1.2.2.2.1
            · rw [fo _ _ (by omega)]; exact b1.2.2.2.2.1
            · rw [fo _ _ (by omega)]; exact b1.2.2.2.2.2.1
            · rw [fo _ _ (by omega)]; exact b1.2.2.2.2.2.2.1
            · rw [rze, fi_same (by omega) (by omega), hg]; rfl
            · simp (disch := omega) only [io]; exact b2
            · simp (disch := omega) only [io]; exact b3
            · simp (disch := omega) only [io]; exact b4
            · simp (disch := omega) only [io]; exact b5
            · simp (disch := omega) only [io]; exact b6
            · simp (disch := omega) only [io]; exact b7
            · simp (disch := omega) only [io]; exact b8
            · intro i i0 i1
              replace i1 : i < L 7 0 + 1 := i1
              rw [j0 i i0, j1 i i0]
              show _ = (if i = L 7 0 then x else L 25 i) ∧ _ = (if i = L 7 0 then q else L 26 i)
              rw [← hg]
              by_cases e : i = g
              · rw [if_pos e, if_pos e, if_pos e, if_pos e]; exact ⟨rfl, rfl⟩
              · rw [if_neg e, if_neg e, if_neg e, if_neg e]; exact b9 i i0 (show i < L 7 0 by omega)
          · intro i hi
            obtain ⟨m, m1, m2, m3⟩ := C4.2.2.2.1 i hi
            exact ⟨m, m1, by rw [io _ (by omega) (by omega)]; exact m2, m3⟩
      · rw [if_neg wo, if_neg wo, if_pos (by decide)]
        obtain ⟨g3, e3, x3⟩ := D_flaw (x := 1) C2.1.1 p2b c2 (by omega)
        have M := MS_fm x3.1 M2
        have o := x3.2.1
        refine DO_fd hb.1 x3 ?_
        try simp only [j_0, j_1, j_2, j_3, j_4, j_5, j_6, j_7, j_8, j_9, j_10, j_11, j_12, j_13, j_14, j_15, j_16, j_17, j_18, j_19, j_20, j_21, j_22, j_23, j_24, j_25, j_26, j_27, j_28, j_29, j_30, j_31, j_32, j_33, j_34, j_35, j_36, j_37, j_38, j_39, j_40, j_41, j_42, j_43, j_44, j_45, j_46, j_47, j_48, j_49, j_50, j_51, j_52, j_57, j_59, j_63, j_74, j_75, j_93, j_97, j_99, j_100, j_122, j_200, j_255, j_300, j_465, j_496, j_900, j_999, j_1000, j_65536, j_65537, j_99999, j_252645135, j_858993459, j_1431655765, k_0, k_1, k_27, k_32, k_74, k_75, k_100, k_1000, k_65537]
        simp (disch := first | with_reducible assumption | omega | trivial) only [↓bn_s1, ↓bd_s1, ↓ei_l1, ↓ei_r1, ↓bn_if, ↓ilt_1, ↓ilt_0, ↓ieq_1, ↓ieq_0, bn_s1, bd_s1, ei_l1, ei_r1, J_add, J_sub, J_mul, J_neg, J_lt, J_le, J_eq, dv_J, rm_J, if_pos, if_neg, ↓reduceIte, bitJ, shlJ, orJ, j_0, j_1, j_2, j_3, j_4, j_5, j_6, j_7, j_8, j_9, j_10, j_11, j_12, j_13, j_14, j_15, j_16, j_17, j_18, j_19, j_20, j_21, j_22, j_23, j_24, j_25, j_26, j_27, j_28, j_29, j_30, j_31, j_32, j_33, j_34, j_35, j_36, j_37, j_38, j_39, j_40, j_41, j_42, j_43, j_44, j_45, j_46, j_47, j_48, j_49, j_50, j_51, j_52, j_57, j_59, j_63, j_74, j_75, j_93, j_97, j_99, j_100, j_122, j_200, j_255, j_300, j_465, j_496, j_900, j_999, j_1000, j_65536, j_65537, j_99999, j_252645135, j_858993459, j_1431655765, k_0, k_1, k_27, k_32, k_74, k_75, k_100, k_1000, k_65537, ↓bn_e (e3), e3, m_i M, ↓m_i_b M, m_p M, ↓m_p_b M, m_l M, ↓m_l_b M, m_pl M, ↓m_pl_b M, mr_15 M, ↓mr_15_b M, mr_16 M, ↓mr_16_b M, mr_17 M, ↓mr_17_b M, mr_18 M, ↓mr_18_b M, mr_21 M, ↓mr_21_b M, mr_22 M, ↓mr_22_b M, mr_23 M, ↓mr_23_b M, mr_24 M, ↓mr_24_b M, mr_25 M, ↓mr_25_b M, mr_30 M, ↓mr_30_b M, mr_31 M, ↓mr_31_b M, m90a M, ↓m90a_b M, m90s M, ↓m90s_b M, m91a M, ↓m91a_b M, m91s M, ↓m91s_b M, m92a M, ↓m92a_b M, m92s M, ↓m92s_b M, m93a M, ↓m93a_b M, m93s M, ↓m93s_b M, m94a M, ↓m94a_b M, m94s M, ↓m94s_b M, m95a M, ↓m95a_b M, m95s M, ↓m95s_b M, m96a M, ↓m96a_b M, m96s M, ↓m96s_b M, m97a M, ↓m97a_b M, m97s M, ↓m97s_b M, m98a M, ↓m98a_b M, m98s M, ↓m98s_b M, m99a M, ↓m99a_b M, m99s M, ↓m99s_b M, m100a M, ↓m100a_b M, m100s M, ↓m100s_b M, o, ↓bn_e ((D_go5 M o)), (D_go5 M o), ↓bd_e ((D_rw5 (lo := J 0) (hi := J 200) M o)), (D_rw5 (lo := J 0) (hi := J 200) M o)]
