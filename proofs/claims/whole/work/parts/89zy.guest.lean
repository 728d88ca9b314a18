/-! guest -/
theorem frs_nml {L : Lk} {T : Int → Int} {n p : Nat} {s v x : Int} (N : NW L) : (0 ≤ frs L x → frs (nml L T n p s v) x = frs L x) ∧ (¬ 0 ≤ frs L x → 0 ≤ frs (nml L T n p s v) x → frs (nml L T n p s v) x = L 8 0) := by
  have n0 := N.1.1
  obtain ⟨m1, m2, m3⟩ := fsi_p (fun i => decide (L 27 i = x)) (L 8 0).toNat
  obtain ⟨k1, k2, k3⟩ := fsi_p (fun i => decide (nml L T n p s v 27 i = x)) (nml L T n p s v 8 0).toNat
  have e8 := nml_8 L T n p s v
  obtain ⟨j, hj⟩ : ∃ j, j = fdx L x := ⟨_, rfl⟩
  obtain ⟨k, hk⟩ : ∃ k, k = fdx (nml L T n p s v) x := ⟨_, rfl⟩
  have ej : fsi (fun i => decide (L 27 i = x)) (L 8 0).toNat = j := hj.symm
  have ek : fsi (fun i => decide (nml L T n p s v 27 i = x)) (nml L T n p s v 8 0).toNat = k := hk.symm
  rw [ej] at m1 m2 m3
  rw [ek] at k1 k2 k3
  rw [e8] at k1 k3
  unfold frs
  rw [← hj, ← hk, e8]
  constructor
  · intro c
    have j8 : (j : Int) < L 8 0 := by
      by_cases d : (j : Int) < L 8 0
      · exact d
      · rw [if_neg d] at c; omega
    rw [if_pos j8]
    have jt : L 27 j = x := of_decide_eq_true (m3 (by omega))
    have le : ¬ j < k := fun z => by
      have y := of_decide_eq_false (k2 j z)
      rw [nml_p L T n p s v (by omega) (by omega)] at y
      exact y jt
    have ge : ¬ k < j := fun z => by
      have y := of_decide_eq_true (k3 (by omega))
      rw [nml_p L T n p s v (by omega) (by omega)] at y
      exact of_decide_eq_false (m2 k z) y
    have : k = j := by omega
    rw [this, if_pos (by omega)]
  · intro c d
    have j8 : ¬ (j : Int) < L 8 0 := fun z => by rw [if_pos z] at c; omega
    have k8 : (k : Int) < L 8 0 + 1 := by
      by_cases z : (k : Int) < L 8 0 + 1
      · exact z
      · rw [if_neg z] at d; omega
    rw [if_pos k8]
    have ge : ¬ (k : Int) < L 8 0 := fun z => by
      have y := of_decide_eq_true (k3 (by omega))
      rw [nml_p L T n p s v (by omega) (by omega)] at y
      exact of_decide_eq_false (m2 k (by omega)) y
    omega
theorem pkf_nml {L : Lk} {T : Int → Int} {n p q : Nat} {s v : Int} (N : NW L) (hs : ¬ s = 0) : pkf (nml L T n p s v) T n q 0 = pkf L T n q 0 ∧ (pkf L T n q 0 = 0 → knb (nml L T n p s v) T n q = knb L T n q) := by
  have f := frs_nml (L := L) (T := T) (n := n) (p := p) (s := s) (v := v) (x := t32 T n q) N
  have fb := frs_b (x := t32 T n q) N
  unfold pkf knb
  by_cases c : isN T n q = true
  · rw [if_pos c, if_pos c]
    by_cases d : 0 ≤ frs L (t32 T n q)
    · have b := fb.2 d
      rw [f.1 d, nml_p L T n p s v (by omega) (by omega), nml_p L T n p s v (by omega) (by omega)]
      exact ⟨rfl, fun _ => rfl⟩
    · rw [if_neg (show ¬ (0 ≤ frs L (t32 T n q) ∧ L 28 (frs L (t32 T n q)) = 0) from fun z => d z.1)]
      refine ⟨?_, fun z => by omega⟩
      by_cases g : 0 ≤ frs (nml L T n p s v) (t32 T n q)
      · have e := f.2 d g
        rw [if_neg]
        intro z
        have y := (nml_n L T n p s v e).2.2.1
        exact hs (y.symm.trans z.2)
      · rw [if_neg (fun z => g z.1)]
  · rw [if_neg c, if_neg c]
    exact ⟨rfl, fun z => by omega⟩
def a_gst4 (L : Lk) (T : Int → Int) (n p p4 : Nat) (w : Int) : Lo := if pkf L T n p4 0 = 0 then .inl (tnx T n p4, ap2 (nml L T n p 1 (L 3 0)) 3 15 w 16 (knb L T n p4)) else .inr (pkf L T n p4 0, (spn T n p4 : Nat))
def a_gst3 (L : Lk) (T : Int → Int) (n p p3 : Nat) (w : Int) : Lo := if isW T n p3 18 = true then a_gst4 L T n p (tnx T n p3) w else .inr (1, (spn T n p3 : Nat))
def a_gst1 (L : Lk) (T : Int → Int) (n p p1 : Nat) : Lo := if isW T n p1 12 = true then (if pwf T n (tnx T n p1) 1 50 = 0 then a_gst3 L T n p (tnx T n (tnx T n p1)) (tnm T n (tnx T n p1)) else .inr (pwf T n (tnx T n p1) 1 50, (spn T n (tnx T n p1) : Nat))) else .inr (1, (spn T n p1 : Nat))
def a_gst (L : Lk) (T : Int → Int) (n p : Nat) : Lo := if pnf L T n p = 0 then a_gst1 L T n p (tnx T n p) else .inr (pnf L T n p, (spn T n p : Nat))
theorem LW_gst {L : Lk} {w x : Int} (H : LW L) (h3 : L 3 0 < 3) (hw : 1 ≤ w ∧ w ≤ 50) (hx : 0 ≤ x ∧ x < L 1 0) : LW (ap2 L 3 15 w 16 x) := by
  obtain ⟨a0, a1, a2, a3, a4, a5, a6, a7, a8, a9, a10, a11, a12, a13, a14, a15⟩ := H
  refine ⟨a0, a1, a2, ?_, a4, a5, a6, a7, a8, a9, a10, ?_, a12, a13, a14, a15⟩
  · show 0 ≤ L 3 0 + 1 ∧ L 3 0 + 1 ≤ 3
    omega
  · intro i i0 i1
    replace i1 : i < L 3 0 + 1 := i1
    show 1 ≤ (if i = L 3 0 then w else L 15 i) ∧ (if i = L 3 0 then w else L 15 i) ≤ 50 ∧ 0 ≤ (if i = L 3 0 then x else L 16 i) ∧ (if i = L 3 0 then x else L 16 i) < L 1 0
    by_cases e : i = L 3 0
    · rw [if_pos e, if_pos e]; exact ⟨hw.1, hw.2, hx.1, hx.2⟩
    · rw [if_neg e, if_neg e]; exact a11 i i0 (by omega)
theorem C_gst {L : Lk} {u : Nat} {T : Int → Int} {n p : Nat} {h : Hp} (hp : p ≤ n) (C : CP L u T n h) (NBL : NB L) (h3 : L 3 0 < 3) (H : CT T n p h) : CO (a_gst L T n p) u T n (F_rd_readGuest 2 h) h := by
  have hu := C.2.2.2.1
  have lw := CP_lw C
  have lh := LW_h lw
  have lg := LW_g lw
  have N := CP_nw C
  unfold F_rd_readGuest a_gst
  rw [ck_e (DS_k (CP_d C)), bn_e (CP_gu C), bn_e (ti_8 C.2.1 (CP_t C))]
  refine S_new (s := 1) C hp H (NB_11 lw NBL (Or.inr (Or.inl h3))) (by decide) (by omega) (by omega) (fun _ _ g1 C1 c1 p1b => ?_)
  obtain ⟨p1, hp1⟩ : ∃ p1, p1 = tnx T n p := ⟨_, rfl⟩
  rw [← hp1] at c1 p1b ⊢
  have pe : ∀ q, pkf (nml L T n p 1 (L 3 0)) T n q 0 = pkf L T n q 0 ∧ (pkf L T n q 0 = 0 → knb (nml L T n p 1 (L 3 0)) T n q = knb L T n q) := fun q => pkf_nml N (by omega)
  obtain ⟨g, hg0⟩ : ∃ g, g = L 3 0 := ⟨_, rfl⟩
  have hg : g = nml L T n p 1 (L 3 0) 3 0 := by rw [hg0, nml_o (by omega)]
  have l1 : nml L T n p 1 (L 3 0) 1 0 = L 1 0 := nml_o (by omega) 0
  unfold a_gst1
  refine S_tw (k := 12) C1 p1b c1 (by omega) rfl (fun _ g2 C2 c2 p2b _ => ?_)
  obtain ⟨p2, hp2⟩ : ∃ p2, p2 = tnx T n p1 := ⟨_, rfl⟩
  rw [← hp2] at c2 p2b ⊢
  refine S_twh (lo := 1) (hi := 50) C2 p2b c2 (by decide) (by decide) (by omega) (by omega) (fun _ t1 t2 g3 C3 c3 p3b w3 => ?_)
  obtain ⟨w, hw⟩ : ∃ w, w = tnm T n p2 := ⟨_, rfl⟩
  rw [← hw] at t1 t2 w3 ⊢
  obtain ⟨p3, hp3⟩ : ∃ p3, p3 = tnx T n p2 := ⟨_, rfl⟩
  rw [← hp3] at c3 p3b ⊢
  unfold a_gst3
  refine S_tw (k := 18) C3 p3b c3 (by omega) rfl (fun _ g4 C4 c4 p4b w4 => ?_)
  rw [w3] at w4
  obtain ⟨p4, hp4⟩ : ∃ p4, p4 = tnx T n p3 := ⟨_, rfl⟩
  rw [← hp4] at c4 p4b ⊢
  unfold a_gst4
  have pe4 := pe p4
  rw [← pe4.1]
  refine S_non (s := 0) C4 p4b c4 (by decide) (by omega) (fun k1 => ?_)
  rw [pe4.1] at k1
  have b1 := kn0 N NBL k1
  rw [pe4.2 k1]
  obtain ⟨x, hx⟩ : ∃ x, x = knb L T n p4 := ⟨_, rfl⟩
  rw [← hx] at b1 ⊢
  rw [bn_e (d_r2 (CP_d C4))]
  refine S_ad C4 p4b c4 (fun g5 C5 c5 p5b w5 => ?_)
  rw [w4] at w5
  clear pe pe4
  rw [← hg0] at C5 hg l1 ⊢
  obtain ⟨L1, hL1⟩ : ∃ L1, L1 = nml L T n p 1 g := ⟨_, rfl⟩
  rw [← hL1] at C5 hg l1 ⊢
  have Nz := CP_nw C5
  have Tz := C5.2.1
  have Rz := CP_t C5
  have Dz := CP_d C5
  have uz0 := CP_gu C5
  have vz0 : fi g5 u 8 = g := by rw [hg]; exact Rz.1.2.2.2.1
  have iz0 : gI g5 u 10 8 = some (J g) := by rw [gI_J (TS_k Tz), vz0]
  have tz0 := trf_9 Tz
  have nz0 := TS_n9 Tz
  obtain ⟨z1, rz0⟩ : ∃ y, y = wA g5 (u + 5) g w := ⟨_, rfl⟩
  have fz0 : Fm u (u + 18) g5 z1 := by rw [rz0]; exact fm_wA (by omega) (by omega)
  have sz0 : sI g5 100 (u + 5) (J g) (J w) = some z1 := by rw [rz0]; exact sI_J (TS_k9 Tz) (by omega) (by omega) (by omega) (by omega)
  have Tz0 := TS_fm fz0 Tz
  have Dz0 := DS_fm fz0 Dz
  have uz1 : gR z1 2 7 3 = some u := gR_e (DS_k Dz0) (by rw [fm_fR fz0]; exact C5.2.2.1)
  have vz1 : fi z1 u 8 = g := by rw [rz0]; exact vz0
  have iz1 : gI z1 u 10 8 = some (J g) := by rw [gI_J (TS_k Tz0), vz1]
  have wz1 : fi z1 2 9 = fi g5 2 9 := fm_fi fz0 (by omega) 9
  have tz1 := trf_10 Tz0
  have nz1 := TS_n10 Tz0
  obtain ⟨z2, rz1⟩ : ∃ y, y = wA z1 (u + 6) g x := ⟨_, rfl⟩
  have fz1 : Fm u (u + 18) z1 z2 := by rw [rz1]; exact fm_wA (by omega) (by omega)
  have sz1 : sI z1 100 (u + 6) (J g) (J x) = some z2 := by rw [rz1]; exact sI_J (TS_k10 Tz0) (by omega) (by omega) (by omega) (by omega)
  have Tz1 := TS_fm fz1 Tz0
  have Dz1 := DS_fm fz1 Dz0
  have uz2 : gR z2 2 7 3 = some u := gR_e (DS_k Dz1) (by rw [fm_fR fz1, fm_fR fz0]; exact C5.2.2.1)
  have vz2 : fi z2 u 8 = g := by rw [rz1]; exact vz1
  have iz2 : gI z2 u 10 8 = some (J g) := by rw [gI_J (TS_k Tz1), vz2]
  have wz2 : fi z2 2 9 = fi z1 2 9 := fm_fi fz1 (by omega) 9
  obtain ⟨ze, rze⟩ : ∃ y, y = wF z2 u 8 (g + 1) := ⟨_, rfl⟩
  have fze : Fm u (u + 18) z2 ze := by rw [rze]; exact fm_wF (by omega) (by omega)
  have sze : pI z2 u 10 8 (J (g + 1)) = some ze := by rw [rze]; exact pI_J (TS_k Tz1)
  have Fz : Fm u (u + 18) g5 ze := (fm_tr fz0 (fm_tr fz1 fze))
  refine CO_l p5b (h' := ze) ?_ (cf_fm Fz (by omega) (by omega) (by omega)) ?_ (CT_fm Fz (by omega) c5) ?_
  · try simp only [j_0, j_1, j_2, j_3, j_4, j_5, j_6, j_7, j_8, j_9, j_10, j_11, j_12, j_13, j_14, j_15, j_16, j_17, j_18, j_19, j_20, j_21, j_22, j_23, j_24, j_25, j_26, j_27, j_28, j_29, j_30, j_31, j_32, j_33, j_34, j_35, j_36, j_37, j_38, j_39, j_40, j_41, j_42, j_43, j_44, j_45, j_46, j_47, j_48, j_49, j_50, j_51, j_52, j_57, j_59, j_63, j_74, j_75, j_93, j_97, j_99, j_100, j_122, j_200, j_255, j_300, j_465, j_496, j_900, j_999, j_1000, j_65536, j_65537, j_99999, j_252645135, j_858993459, j_1431655765, k_0, k_1, k_27, k_32, k_74, k_75, k_100, k_1000, k_65537]
    simp (disch := first | with_reducible assumption | omega | trivial) only [↓bn_s1, ↓bd_s1, ↓ei_l1, ↓ei_r1, ↓bn_if, ↓ilt_1, ↓ilt_0, ↓ieq_1, ↓ieq_0, bn_s1, bd_s1, ei_l1, ei_r1, J_add, J_sub, J_mul, J_neg, J_lt, J_le, J_eq, dv_J, rm_J, if_pos, if_neg, ↓reduceIte, bitJ, shlJ, orJ, j_0, j_1, j_2, j_3, j_4, j_5, j_6, j_7, j_8, j_9, j_10, j_11, j_12, j_13, j_14, j_15, j_16, j_17, j_18, j_19, j_20, j_21, j_22, j_23, j_24, j_25, j_26, j_27, j_28, j_29, j_30, j_31, j_32, j_33, j_34, j_35, j_36, j_37, j_38, j_39, j_40, j_41, j_42, j_43, j_44, j_45, j_46, j_47, j_48, j_49, j_50, j_51, j_52, j_57, j_59, j_63, j_74, j_75, j_93, j_97, j_99, j_100, j_122, j_200, j_255, j_300, j_465, j_496, j_900, j_999, j_1000, j_65536, j_65537, j_99999, j_252645135, j_858993459, j_1431655765, k_0, k_1, k_27, k_32, k_74, k_75, k_100, k_1000, k_65537, w5, ↓bn_e (uz0), uz0, ↓bn_e (iz0), iz0, ↓bn_e (tz0), tz0, d_i Dz, ↓d_i_b Dz, d_p Dz, ↓d_p_b Dz, d_r2 Dz, ↓d_r2_b Dz, ↓bn_e (sz0), sz0, ↓bn_e (uz1), uz1, ↓bn_e (iz1), iz1, ↓bn_e (tz1), tz1, d_i Dz0, ↓d_i_b Dz0, d_p Dz0, ↓d_p_b Dz0, d_r2 Dz0, ↓d_r2_b Dz0, wz1, ↓bn_e (sz1), sz1, ↓bn_e (uz2), uz2, ↓bn_e (iz2), iz2, ↓bn_e (sze), sze]
  · have fo : ∀ a j, (a ≠ u ∨ j ≠ 8) → fi ze a j = fi g5 a j := fun a j ha => by rw [rze, fi_ne ha, rz1, rz0]; rfl
    have io : ∀ a, a ≠ u + 5 → a ≠ u + 6 → ∀ z, ia ze a z = ia g5 a z := fun a a0 a1 z => by
      rw [rze]
      show ia z2 a z = _
      rw [rz1, ia_wA a1, rz0, ia_wA a0]
    have j0 : ∀ z, 0 ≤ z → ia ze (u + 5) z = if z = g then w else ia g5 (u + 5) z := fun z z0 => by
      rw [rze]
      show ia z2 (u + 5) z = _
      rw [rz1, ia_wA (by omega), rz0, ia_if (by omega) z0 (by omega) (by omega) (by omega)]
    have j1 : ∀ z, 0 ≤ z → ia ze (u + 6) z = if z = g then x else ia g5 (u + 6) z := fun z z0 => by
      rw [rze]
      show ia z2 (u + 6) z = _
      rw [rz1, ia_if (by omega) z0 (by omega) (by omega) (by omega), rz0, ia_wA (by omega)]
    obtain ⟨d, d1, d2⟩ := C5.2.2.2.2.2.2.2.1
    refine CP_u Fz C5 (LW_gst (CP_lw C5) (by omega) ⟨t1, t2⟩ ⟨b1.1, by rw [l1]; exact b1.2⟩) Nz ?_ ⟨d, by rw [fo _ _ (by omega)]; exact d1, d2⟩ (fun _ y => y) C5.2.2.2.2.2.2.2.2.2
    obtain ⟨b1, ⟨k', b2, b2'⟩, b3, b4, b5, b6, b7, b8, b9, b10⟩ := Rz
    refine ⟨⟨?_, ?_, ?_, ?_, ?_, ?_, ?_, ?_⟩, ⟨k', ?_, b2'⟩, ?_, ?_, ?_, ?_, ?_, ?_, ?_, ?_⟩
    · rw [fo _ _ (by omega)]; exact b1.1
    · rw [fo _ _ (by omega)]; exact b1.2.1
    · rw [fo _ _ (by omega)]; exact b1.2.2.1
    · rw [rze, fi_same (by omega) (by omega), hg]; rfl
    · rw [fo _ _ (by omega)]; exact b1.2.2.2.2.1
    · rw [fo _ _ (by omega)]; exact b1.2.2.2.2.2.1
    · rw [fo _ _ (by omega)]; exact b1.2.2.2.2.2.2.1
    · rw [fo _ _ (by omega)]; exact b1.2.2.2.2.2.2.2
    · rw [fo _ _ (by omega)]; exact b2
    · simp (disch := omega) only [io]; exact b3
    · simp (disch := omega) only [io]; exact b4
    · simp (disch := omega) only [io]; exact b5
    · intro i i0 i1
      replace i1 : i < L1 3 0 + 1 := i1
      rw [j0 i i0, j1 i i0]
      show _ = (if i = L1 3 0 then w else L1 15 i) ∧ _ = (if i = L1 3 0 then x else L1 16 i)
      rw [← hg]
      by_cases e : i = g
      · rw [if_pos e, if_pos e, if_pos e, if_pos e]; exact ⟨rfl, rfl⟩
      · rw [if_neg e, if_neg e, if_neg e, if_neg e]; exact b6 i i0 (show i < L1 3 0 by omega)
    · simp (disch := omega) only [io]; exact b7
    · simp (disch := omega) only [io]; exact b8
    · simp (disch := omega) only [io]; exact b9
    · simp (disch := omega) only [io]; exact b10
  · rw [fm_fi Fz (by omega), fm_fi Fz (by omega)]
    exact ⟨rfl, rfl⟩
theorem D_gst {L : Lk} {b : Nat} {T : Int → Int} {n p : Nat} {h : Hp} (hp : p ≤ n) (C : DP L b T n h) (NBL : NB L) (H : DT T n p h) (h0 : tso T n p = 0) : DO (if bgf L (L 3 0) 3 = 0 then a_gst L T n (tnx T n p) else .inr (bgf L (L 3 0) 3, (spn T n p : Nat))) b T n (F_md_readGuest 88 h) h := by
  have hb := C.1.2.2.2.2.2
  have lw := C.2.1
  have lh := LW_h lw
  have lg := LW_g lw
  have N := C.1.2.2.2.1
  have c0 := C.2.2.2.2.2
  have gc : gI h b 12 3 = some (J (L 3 0)) := by rw [gI_J (YS_k C.1.2.2.1), C.2.2.1.1.2.2.2.1]; rfl
  unfold F_md_readGuest
  rw [ck_e (MS_k C.1.1.1), bn_e (dl_r C.1), bn_e gc]
  refine Sd_beg (m := 3) C hp H h0 rfl (by decide) (by omega) (by omega) (fun z => by have := c0 z 3 (by omega); omega) (fun g B o => ?_) (fun t31 cm g1 C1 c1 p1b => ?_)
  · have M := B.1.1
    try simp only [j_0, j_1, j_2, j_3, j_4, j_5, j_6, j_7, j_8, j_9, j_10, j_11, j_12, j_13, j_14, j_15, j_16, j_17, j_18, j_19, j_20, j_21, j_22, j_23, j_24, j_25, j_26, j_27, j_28, j_29, j_30, j_31, j_32, j_33, j_34, j_35, j_36, j_37, j_38, j_39, j_40, j_41, j_42, j_43, j_44, j_45, j_46, j_47, j_48, j_49, j_50, j_51, j_52, j_57, j_59, j_63, j_74, j_75, j_93, j_97, j_99, j_100, j_122, j_200, j_255, j_300, j_465, j_496, j_900, j_999, j_1000, j_65536, j_65537, j_99999, j_252645135, j_858993459, j_1431655765, k_0, k_1, k_27, k_32, k_74, k_75, k_100, k_1000, k_65537]
    simp (disch := first | with_reducible assumption | omega | trivial) only [↓bn_s1, ↓bd_s1, ↓ei_l1, ↓ei_r1, ↓bn_if, ↓ilt_1, ↓ilt_0, ↓ieq_1, ↓ieq_0, bn_s1, bd_s1, ei_l1, ei_r1, J_add, J_sub, J_mul, J_neg, J_lt, J_le, J_eq, dv_J, rm_J, if_pos, if_neg, ↓reduceIte, bitJ, shlJ, orJ, j_0, j_1, j_2, j_3, j_4, j_5, j_6, j_7, j_8, j_9, j_10, j_11, j_12, j_13, j_14, j_15, j_16, j_17, j_18, j_19, j_20, j_21, j_22, j_23, j_24, j_25, j_26, j_27, j_28, j_29, j_30, j_31, j_32, j_33, j_34, j_35, j_36, j_37, j_38, j_39, j_40, j_41, j_42, j_43, j_44, j_45, j_46, j_47, j_48, j_49, j_50, j_51, j_52, j_57, j_59, j_63, j_74, j_75, j_93, j_97, j_99, j_100, j_122, j_200, j_255, j_300, j_465, j_496, j_900, j_999, j_1000, j_65536, j_65537, j_99999, j_252645135, j_858993459, j_1431655765, k_0, k_1, k_27, k_32, k_74, k_75, k_100, k_1000, k_65537, ↓bd_e ((D_rf5 B o)), (D_rf5 B o), ↓bd_e ((D_part5 (w := 1000015) (lo := J 1) (hi := J 50) M o)), (D_part5 (w := 1000015) (lo := J 1) (hi := J 50) M o), ↓bn_e ((D_needs5 (w := 1000021) M o)), (D_needs5 (w := 1000021) M o), ↓bd_e ((D_rk5 (s := J 0) B o)), (D_rk5 (s := J 0) B o), m_i M, ↓m_i_b M, m_p M, ↓m_p_b M, m_l M, ↓m_l_b M, m_pl M, ↓m_pl_b M, mr_15 M, ↓mr_15_b M, mr_16 M, ↓mr_16_b M, mr_17 M, ↓mr_17_b M, mr_18 M, ↓mr_18_b M, mr_21 M, ↓mr_21_b M, mr_22 M, ↓mr_22_b M, mr_23 M, ↓mr_23_b M, mr_24 M, ↓mr_24_b M, mr_25 M, ↓mr_25_b M, mr_30 M, ↓mr_30_b M, mr_31 M, ↓mr_31_b M, m90a M, ↓m90a_b M, m90s M, ↓m90s_b M, m91a M, ↓m91a_b M, m91s M, ↓m91s_b M, m92a M, ↓m92a_b M, m92s M, ↓m92s_b M, m93a M, ↓m93a_b M, m93s M, ↓m93s_b M, m94a M, ↓m94a_b M, m94s M, ↓m94s_b M, m95a M, ↓m95a_b M, m95s M, ↓m95s_b M, m96a M, ↓m96a_b M, m96s M, ↓m96s_b M, m97a M, ↓m97a_b M, m97s M, ↓m97s_b M, m98a M, ↓m98a_b M, m98s M, ↓m98s_b M, m99a M, ↓m99a_b M, m99s M, ↓m99s_b M, m100a M, ↓m100a_b M, m100s M, ↓m100s_b M, o]
  have h3 : L 3 0 < 3 := by omega
  obtain ⟨p1, hp1⟩ : ∃ p1, p1 = tnx T n p := ⟨_, rfl⟩
  rw [← hp1] at c1 p1b ⊢
  unfold a_gst
  refine Sd_rf C1 p1b c1 (fun x g B o => ?_) (fun f0 t0 g2 C2 c2 p2b => ?_)
  · have M := B.1.1
    try simp only [j_0, j_1, j_2, j_3, j_4, j_5, j_6, j_7, j_8, j_9, j_10, j_11, j_12, j_13, j_14, j_15, j_16, j_17, j_18, j_19, j_20, j_21, j_22, j_23, j_24, j_25, j_26, j_27, j_28, j_29, j_30, j_31, j_32, j_33, j_34, j_35, j_36, j_37, j_38, j_39, j_40, j_41, j_42, j_43, j_44, j_45, j_46, j_47, j_48, j_49, j_50, j_51, j_52, j_57, j_59, j_63, j_74, j_75, j_93, j_97, j_99, j_100, j_122, j_200, j_255, j_300, j_465, j_496, j_900, j_999, j_1000, j_65536, j_65537, j_99999, j_252645135, j_858993459, j_1431655765, k_0, k_1, k_27, k_32, k_74, k_75, k_100, k_1000, k_65537]
    simp (disch := first | with_reducible assumption | omega | trivial) only [↓bn_s1, ↓bd_s1, ↓ei_l1, ↓ei_r1, ↓bn_if, ↓ilt_1, ↓ilt_0, ↓ieq_1, ↓ieq_0, bn_s1, bd_s1, ei_l1, ei_r1, J_add, J_sub, J_mul, J_neg, J_lt, J_le, J_eq, dv_J, rm_J, if_pos, if_neg, ↓reduceIte, bitJ, shlJ, orJ, j_0, j_1, j_2, j_3, j_4, j_5, j_6, j_7, j_8, j_9, j_10, j_11, j_12, j_13, j_14, j_15, j_16, j_17, j_18, j_19, j_20, j_21, j_22, j_23, j_24, j_25, j_26, j_27, j_28, j_29, j_30, j_31, j_32, j_33, j_34, j_35, j_36, j_37, j_38, j_39, j_40, j_41, j_42, j_43, j_44, j_45, j_46, j_47, j_48, j_49, j_50, j_51, j_52, j_57, j_59, j_63, j_74, j_75, j_93, j_97, j_99, j_100, j_122, j_200, j_255, j_300, j_465, j_496, j_900, j_999, j_1000, j_65536, j_65537, j_99999, j_252645135, j_858993459, j_1431655765, k_0, k_1, k_27, k_32, k_74, k_75, k_100, k_1000, k_65537, ↓bd_e ((D_part5 (w := 1000015) (lo := J 1) (hi := J 50) M o)), (D_part5 (w := 1000015) (lo := J 1) (hi := J 50) M o), ↓bn_e ((D_needs5 (w := 1000021) M o)), (D_needs5 (w := 1000021) M o), ↓bd_e ((D_rk5 (s := J 0) B o)), (D_rk5 (s := J 0) B o), m_i M, ↓m_i_b M, m_p M, ↓m_p_b M, m_l M, ↓m_l_b M, m_pl M, ↓m_pl_b M, mr_15 M, ↓mr_15_b M, mr_16 M, ↓mr_16_b M, mr_17 M, ↓mr_17_b M, mr_18 M, ↓mr_18_b M, mr_21 M, ↓mr_21_b M, mr_22 M, ↓mr_22_b M, mr_23 M, ↓mr_23_b M, mr_24 M, ↓mr_24_b M, mr_25 M, ↓mr_25_b M, mr_30 M, ↓mr_30_b M, mr_31 M, ↓mr_31_b M, m90a M, ↓m90a_b M, m90s M, ↓m90s_b M, m91a M, ↓m91a_b M, m91s M, ↓m91s_b M, m92a M, ↓m92a_b M, m92s M, ↓m92s_b M, m93a M, ↓m93a_b M, m93s M, ↓m93s_b M, m94a M, ↓m94a_b M, m94s M, ↓m94s_b M, m95a M, ↓m95a_b M, m95s M, ↓m95s_b M, m96a M, ↓m96a_b M, m96s M, ↓m96s_b M, m97a M, ↓m97a_b M, m97s M, ↓m97s_b M, m98a M, ↓m98a_b M, m98s M, ↓m98s_b M, m99a M, ↓m99a_b M, m99s M, ↓m99s_b M, m100a M, ↓m100a_b M, m100s M, ↓m100s_b M, o]
  obtain ⟨p2, hp2⟩ : ∃ p2, p2 = tnx T n p1 := ⟨_, rfl⟩
  rw [← hp2] at c2 p2b ⊢
  unfold a_gst1
  refine Sd_pt (k := 12) (lo := 1) (hi := 50) C2 p2b c2 (by omega) rfl (by decide) (by decide) (by omega) (by omega) (fun g B o => ?_) (fun t1 t2 p3b g3 C3 c3 p4b => ?_)
  · have M := B.1.1
    try simp only [j_0, j_1, j_2, j_3, j_4, j_5, j_6, j_7, j_8, j_9, j_10, j_11, j_12, j_13, j_14, j_15, j_16, j_17, j_18, j_19, j_20, j_21, j_22, j_23, j_24, j_25, j_26, j_27, j_28, j_29, j_30, j_31, j_32, j_33, j_34, j_35, j_36, j_37, j_38, j_39, j_40, j_41, j_42, j_43, j_44, j_45, j_46, j_47, j_48, j_49, j_50, j_51, j_52, j_57, j_59, j_63, j_74, j_75, j_93, j_97, j_99, j_100, j_122, j_200, j_255, j_300, j_465, j_496, j_900, j_999, j_1000, j_65536, j_65537, j_99999, j_252645135, j_858993459, j_1431655765, k_0, k_1, k_27, k_32, k_74, k_75, k_100, k_1000, k_65537]
    simp (disch := first | with_reducible assumption | omega | trivial) only [↓bn_s1, ↓bd_s1, ↓ei_l1, ↓ei_r1, ↓bn_if, ↓ilt_1, ↓ilt_0, ↓ieq_1, ↓ieq_0, bn_s1, bd_s1, ei_l1, ei_r1, J_add, J_sub, J_mul, J_neg, J_lt, J_le, J_eq, dv_J, rm_J, if_pos, if_neg, ↓reduceIte, bitJ, shlJ, orJ, j_0, j_1, j_2, j_3, j_4, j_5, j_6, j_7, j_8, j_9, j_10, j_11, j_12, j_13, j_14, j_15, j_16, j_17, j_18, j_19, j_20, j_21, j_22, j_23, j_24, j_25, j_26, j_27, j_28, j_29, j_30, j_31, j_32, j_33, j_34, j_35, j_36, j_37, j_38, j_39, j_40, j_41, j_42, j_43, j_44, j_45, j_46, j_47, j_48, j_49, j_50, j_51, j_52, j_57, j_59, j_63, j_74, j_75, j_93, j_97, j_99, j_100, j_122, j_200, j_255, j_300, j_465, j_496, j_900, j_999, j_1000, j_65536, j_65537, j_99999, j_252645135, j_858993459, j_1431655765, k_0, k_1, k_27, k_32, k_74, k_75, k_100, k_1000, k_65537, ↓bn_e ((D_needs5 (w := 1000021) M o)), (D_needs5 (w := 1000021) M o), ↓bd_e ((D_rk5 (s := J 0) B o)), (D_rk5 (s := J 0) B o), m_i M, ↓m_i_b M, m_p M, ↓m_p_b M, m_l M, ↓m_l_b M, m_pl M, ↓m_pl_b M, mr_15 M, ↓mr_15_b M, mr_16 M, ↓mr_16_b M, mr_17 M, ↓mr_17_b M, mr_18 M, ↓mr_18_b M, mr_21 M, ↓mr_21_b M, mr_22 M, ↓mr_22_b M, mr_23 M, ↓mr_23_b M, mr_24 M, ↓mr_24_b M, mr_25 M, ↓mr_25_b M, mr_30 M, ↓mr_30_b M, mr_31 M, ↓mr_31_b M, m90a M, ↓m90a_b M, m90s M, ↓m90s_b M, m91a M, ↓m91a_b M, m91s M, ↓m91s_b M, m92a M, ↓m92a_b M, m92s M, ↓m92s_b M, m93a M, ↓m93a_b M, m93s M, ↓m93s_b M, m94a M, ↓m94a_b M, m94s M, ↓m94s_b M, m95a M, ↓m95a_b M, m95s M, ↓m95s_b M, m96a M, ↓m96a_b M, m96s M, ↓m96s_b M, m97a M, ↓m97a_b M, m97s M, ↓m97s_b M, m98a M, ↓m98a_b M, m98s M, ↓m98s_b M, m99a M, ↓m99a_b M, m99s M, ↓m99s_b M, m100a M, ↓m100a_b M, m100s M, ↓m100s_b M, o]
  obtain ⟨w, hw⟩ : ∃ w, w = tnm T n (tnx T n p2) := ⟨_, rfl⟩
  obtain ⟨p4, hp4⟩ : ∃ p4, p4 = tnx T n (tnx T n p2) := ⟨_, rfl⟩
  rw [← hw] at t1 t2 ⊢
  rw [← hp4] at c3 p4b ⊢
  unfold a_gst3
  refine Sd_nd (k := 18) C3 p4b c3 (by omega) rfl (fun g B o => ?_) (fun g4 C4 c4 p5b => ?_)
  · have M := B.1.1
    try simp only [j_0, j_1, j_2, j_3, j_4, j_5, j_6, j_7, j_8, j_9, j_10, j_11, j_12, j_13, j_14, j_15, j_16, j_17, j_18, j_19, j_20, j_21, j_22, j_23, j_24, j_25, j_26, j_27, j_28, j_29, j_30, j_31, j_32, j_33, j_34, j_35, j_36, j_37, j_38, j_39, j_40, j_41, j_42, j_43, j_44, j_45, j_46, j_47, j_48, j_49, j_50, j_51, j_52, j_57, j_59, j_63, j_74, j_75, j_93, j_97, j_99, j_100, j_122, j_200, j_255, j_300, j_465, j_496, j_900, j_999, j_1000, j_65536, j_65537, j_99999, j_252645135, j_858993459, j_1431655765, k_0, k_1, k_27, k_32, k_74, k_75, k_100, k_1000, k_65537]
    simp (disch := first | with_reducible assumption | omega | trivial) only [↓bn_s1, ↓bd_s1, ↓ei_l1, ↓ei_r1, ↓bn_if, ↓ilt_1, ↓ilt_0, ↓ieq_1, ↓ieq_0, bn_s1, bd_s1, ei_l1, ei_r1, J_add, J_sub, J_mul, J_neg, J_lt, J_le, J_eq, dv_J, rm_J, if_pos, if_neg, ↓reduceIte, bitJ, shlJ, orJ, j_0, j_1, j_2, j_3, j_4, j_5, j_6, j_7, j_8, j_9, j_10, j_11, j_12, j_13, j_14, j_15, j_16, j_17, j_18, j_19, j_20, j_21, j_22, j_23, j_24, j_25, j_26, j_27, j_28, j_29, j_30, j_31, j_32, j_33, j_34, j_35, j_36, j_37, j_38, j_39, j_40, j_41, j_42, j_43, j_44, j_45, j_46, j_47, j_48, j_49, j_50, j_51, j_52, j_57, j_59, j_63, j_74, j_75, j_93, j_97, j_99, j_100, j_122, j_200, j_255, j_300, j_465, j_496, j_900, j_999, j_1000, j_65536, j_65537, j_99999, j_252645135, j_858993459, j_1431655765, k_0, k_1, k_27, k_32, k_74, k_75, k_100, k_1000, k_65537, ↓bd_e ((D_rk5 (s := J 0) B o)), (D_rk5 (s := J 0) B o), m_i M, ↓m_i_b M, m_p M, ↓m_p_b M, m_l M, ↓m_l_b M, m_pl M, ↓m_pl_b M, mr_15 M, ↓mr_15_b M, mr_16 M, ↓mr_16_b M, mr_17 M, ↓mr_17_b M, mr_18 M, ↓mr_18_b M, mr_21 M, ↓mr_21_b M, mr_22 M, ↓mr_22_b M, mr_23 M, ↓mr_23_b M, mr_24 M, ↓mr_24_b M, mr_25 M, ↓mr_25_b M, mr_30 M, ↓mr_30_b M, mr_31 M, ↓mr_31_b M, m90a M, ↓m90a_b M, m90s M, ↓m90s_b M, m91a M, ↓m91a_b M, m91s M, ↓m91s_b M, m92a M, ↓m92a_b M, m92s M, ↓m92s_b M, m93a M, ↓m93a_b M, m93s M, ↓m93s_b M, m94a M, ↓m94a_b M, m94s M, ↓m94s_b M, m95a M, ↓m95a_b M, m95s M, ↓m95s_b M, m96a M, ↓m96a_b M, m96s M, ↓m96s_b M, m97a M, ↓m97a_b M, m97s M, ↓m97s_b M, m98a M, ↓m98a_b M, m98s M, ↓m98s_b M, m99a M, ↓m99a_b M, m99s M, ↓m99s_b M, m100a M, ↓m100a_b M, m100s M, ↓m100s_b M, o]
  obtain ⟨p5, hp5⟩ : ∃ p5, p5 = tnx T n p4 := ⟨_, rfl⟩
  rw [← hp5] at c4 p5b ⊢
  unfold a_gst4
  refine Sd_rk (s := 0) C4 p5b c4 (by decide) (by omega) (fun g B o => ?_) (fun k1 g5 C5 c5 p6b => ?_)
  · have M := B.1.1
    try simp only [j_0, j_1, j_2, j_3, j_4, j_5, j_6, j_7, j_8, j_9, j_10, j_11, j_12, j_13, j_14, j_15, j_16, j_17, j_18, j_19, j_20, j_21, j_22, j_23, j_24, j_25, j_26, j_27, j_28, j_29, j_30, j_31, j_32, j_33, j_34, j_35, j_36, j_37, j_38, j_39, j_40, j_41, j_42, j_43, j_44, j_45, j_46, j_47, j_48, j_49, j_50, j_51, j_52, j_57, j_59, j_63, j_74, j_75, j_93, j_97, j_99, j_100, j_122, j_200, j_255, j_300, j_465, j_496, j_900, j_999, j_1000, j_65536, j_65537, j_99999, j_252645135, j_858993459, j_1431655765, k_0, k_1, k_27, k_32, k_74, k_75, k_100, k_1000, k_65537]
    simp (disch := first | with_reducible assumption | omega | trivial) only [↓bn_s1, ↓bd_s1, ↓ei_l1, ↓ei_r1, ↓bn_if, ↓ilt_1, ↓ilt_0, ↓ieq_1, ↓ieq_0, bn_s1, bd_s1, ei_l1, ei_r1, J_add, J_sub, J_mul, J_neg, J_lt, J_le, J_eq, dv_J, rm_J, if_pos, if_neg, ↓reduceIte, bitJ, shlJ, orJ, j_0, j_1, j_2, j_3, j_4, j_5, j_6, j_7, j_8, j_9, j_10, j_11, j_12, j_13, j_14, j_15, j_16, j_17, j_18, j_19, j_20, j_21, j_22, j_23, j_24, j_25, j_26, j_27, j_28, j_29, j_30, j_31, j_32, j_33, j_34, j_35, j_36, j_37, j_38, j_39, j_40, j_41, j_42, j_43, j_44, j_45, j_46, j_47, j_48, j_49, j_50, j_51, j_52, j_57, j_59, j_63, j_74, j_75, j_93, j_97, j_99, j_100, j_122, j_200, j_255, j_300, j_465, j_496, j_900, j_999, j_1000, j_65536, j_65537, j_99999, j_252645135, j_858993459, j_1431655765, k_0, k_1, k_27, k_32, k_74, k_75, k_100, k_1000, k_65537, m_i M, ↓m_i_b M, m_p M, ↓m_p_b M, m_l M, ↓m_l_b M, m_pl M, ↓m_pl_b M, mr_15 M, ↓mr_15_b M, mr_16 M, ↓mr_16_b M, mr_17 M, ↓mr_17_b M, mr_18 M, ↓mr_18_b M, mr_21 M, ↓mr_21_b M, mr_22 M, ↓mr_22_b M, mr_23 M, ↓mr_23_b M, mr_24 M, ↓mr_24_b M, mr_25 M, ↓mr_25_b M, mr_30 M, ↓mr_30_b M, mr_31 M, ↓mr_31_b M, m90a M, ↓m90a_b M, m90s M, ↓m90s_b M, m91a M, ↓m91a_b M, m91s M, ↓m91s_b M, m92a M, ↓m92a_b M, m92s M, ↓m92s_b M, m93a M, ↓m93a_b M, m93s M, ↓m93s_b M, m94a M, ↓m94a_b M, m94s M, ↓m94s_b M, m95a M, ↓m95a_b M, m95s M, ↓m95s_b M, m96a M, ↓m96a_b M, m96s M, ↓m96s_b M, m97a M, ↓m97a_b M, m97s M, ↓m97s_b M, m98a M, ↓m98a_b M, m98s M, ↓m98s_b M, m99a M, ↓m99a_b M, m99s M, ↓m99s_b M, m100a M, ↓m100a_b M, m100s M, ↓m100s_b M, o]
  have b1 := kn0 N NBL k1
  obtain ⟨x, hx⟩ : ∃ x, x = knb L T n p5 := ⟨_, rfl⟩
  rw [← hx] at b1 ⊢
  have q5 : fi g5 88 9 = rso (tso T n (tnx T n p5)) := c5.2.2.1
  have rb5 := rso_b T n _ p6b
  have M5 := C5.1.1.1
  have r5 := dl_r C5.1
  have i5 : gI g5 b 12 3 = some (J (L 3 0)) := by rw [gI_J (YS_k C5.1.2.2.1), C5.2.2.1.1.2.2.2.1]; rfl
  obtain ⟨g6, e6, f6, C6⟩ := D_nms (s := 1) (v := L 3 0) C5 p1b t0 (NB_11 lw NBL (Or.inr (Or.inl h3))) (by omega) (by omega) rfl rfl
  obtain ⟨g, hg⟩ : ∃ g, g = nml L T n p1 1 (L 3 0) 3 0 := ⟨_, rfl⟩
  have hg0 : g = L 3 0 := by rw [hg, nml_o (by omega)]
  have l31 : nml L T n p1 1 (L 3 0) 31 0 = L 31 0 := nml_o (by omega) 0
  have l1 : nml L T n p1 1 (L 3 0) 1 0 = L 1 0 := nml_o (by omega) 0
  obtain ⟨L1, hL1⟩ : ∃ L1, L1 = nml L T n p1 1 (L 3 0) := ⟨_, rfl⟩
  rw [← hL1] at C6 hg l31 l1 ⊢
  have D6 : Dfr b g5 g6 := df_b hb.1 f6 (by omega) (by omega)
  have Nz := C6.1.2.2.2.1
  have Mz := C6.1.1.1
  have Yz := C6.1.2.2.1
  have Rz := C6.2.2.1
  have uz0 := dl_r C6.1
  have vz0 : fi g6 b 3 = g := by rw [Rz.1.2.2.2.1, hg]; rfl
  have iz0 : gI g6 b 12 3 = some (J g) := by rw [gI_J (YS_k Yz), vz0]
  have tz0 : gR g6 b 12 15 = some (b + 7) := gR_e (YS_k Yz) (YS_r15 Yz)
  have nz0 := YS_n15 Yz
  obtain ⟨z1, rz0⟩ : ∃ y, y = wA g6 (b + 7) g w := ⟨_, rfl⟩
  have fz0 : Fm b (b + 19) g6 z1 := by rw [rz0]; exact fm_wA (by omega) (by omega)
  have sz0 : sI g6 100 (b + 7) (J g) (J w) = some z1 := by rw [rz0]; exact sI_J (YS_k15 Yz) (by omega) (by omega) (by omega) (by omega)
  have Yz0 := YS_fm fz0 Yz
  have Mz0 := MS_fm fz0 Mz
  have uz1 : gR z1 88 13 4 = some b := gR_e (MS_k Mz0) (by rw [fm_fR fz0]; exact C6.1.2.1)
  have vz1 : fi z1 b 3 = g := by rw [rz0]; exact vz0
  have iz1 : gI z1 b 12 3 = some (J g) := by rw [gI_J (YS_k Yz0), vz1]
  have tz1 : gR z1 b 12 16 = some (b + 8) := gR_e (YS_k Yz0) (YS_r16 Yz0)
  have nz1 := YS_n16 Yz0
  obtain ⟨z2, rz1⟩ : ∃ y, y = wA z1 (b + 8) g x := ⟨_, rfl⟩
  have fz1 : Fm b (b + 19) z1 z2 := by rw [rz1]; exact fm_wA (by omega) (by omega)
  have sz1 : sI z1 100 (b + 8) (J g) (J x) = some z2 := by rw [rz1]; exact sI_J (YS_k16 Yz0) (by omega) (by omega) (by omega) (by omega)
  have Yz1 := YS_fm fz1 Yz0
  have Mz1 := MS_fm fz1 Mz0
  have uz2 : gR z2 88 13 4 = some b := gR_e (MS_k Mz1) (by rw [fm_fR fz1, fm_fR fz0]; exact C6.1.2.1)
  have vz2 : fi z2 b 3 = g := by rw [rz1]; exact vz1
  have iz2 : gI z2 b 12 3 = some (J g) := by rw [gI_J (YS_k Yz1), vz2]
  obtain ⟨ze, rze⟩ : ∃ y, y = wF z2 b 3 (g + 1) := ⟨_, rfl⟩
  have fze : Fm b (b + 19) z2 ze := by rw [rze]; exact fm_wF (by omega) (by omega)
  have sze : pI z2 b 12 3 (J (g + 1)) = some ze := by rw [rze]; exact pI_J (YS_k Yz1)
  have Fz : Fm b (b + 19) g6 ze := (fm_tr fz0 (fm_tr fz1 fze))
  refine DO_l p6b (h' := ze) ?_ (df_tr D6 (df_b hb.1 Fz (by omega) (by omega))) ?_ (DT_fm Fz (by omega) (DT_fm f6 (by omega) c5)) ((fm_fi Fz (by omega) 12).trans (fm_fi f6 (by omega) 12))
  · try simp only [j_0, j_1, j_2, j_3, j_4, j_5, j_6, j_7, j_8, j_9, j_10, j_11, j_12, j_13, j_14, j_15, j_16, j_17, j_18, j_19, j_20, j_21, j_22, j_23, j_24, j_25, j_26, j_27, j_28, j_29, j_30, j_31, j_32, j_33, j_34, j_35, j_36, j_37, j_38, j_39, j_40, j_41, j_42, j_43, j_44, j_45, j_46, j_47, j_48, j_49, j_50, j_51, j_52, j_57, j_59, j_63, j_74, j_75, j_93, j_97, j_99, j_100, j_122, j_200, j_255, j_300, j_465, j_496, j_900, j_999, j_1000, j_65536, j_65537, j_99999, j_252645135, j_858993459, j_1431655765, k_0, k_1, k_27, k_32, k_74, k_75, k_100, k_1000, k_65537]
    simp (disch := first | with_reducible assumption | omega | trivial) only [↓bn_s1, ↓bd_s1, ↓ei_l1, ↓ei_r1, ↓bn_if, ↓ilt_1, ↓ilt_0, ↓ieq_1, ↓ieq_0, bn_s1, bd_s1, ei_l1, ei_r1, J_add, J_sub, J_mul, J_neg, J_lt, J_le, J_eq, dv_J, rm_J, if_pos, if_neg, ↓reduceIte, bitJ, shlJ, orJ, j_0, j_1, j_2, j_3, j_4, j_5, j_6, j_7, j_8, j_9, j_10, j_11, j_12, j_13, j_14, j_15, j_16, j_17, j_18, j_19, j_20, j_21, j_22, j_23, j_24, j_25, j_26, j_27, j_28, j_29, j_30, j_31, j_32, j_33, j_34, j_35, j_36, j_37, j_38, j_39, j_40, j_41, j_42, j_43, j_44, j_45, j_46, j_47, j_48, j_49, j_50, j_51, j_52, j_57, j_59, j_63, j_74, j_75, j_93, j_97, j_99, j_100, j_122, j_200, j_255, j_300, j_465, j_496, j_900, j_999, j_1000, j_65536, j_65537, j_99999, j_252645135, j_858993459, j_1431655765, k_0, k_1, k_27, k_32, k_74, k_75, k_100, k_1000, k_65537, m_i M5, ↓m_i_b M5, m_p M5, ↓m_p_b M5, m_l M5, ↓m_l_b M5, m_pl M5, ↓m_pl_b M5, mr_15 M5, ↓mr_15_b M5, mr_16 M5, ↓mr_16_b M5, mr_17 M5, ↓mr_17_b M5, mr_18 M5, ↓mr_18_b M5, mr_21 M5, ↓mr_21_b M5, mr_22 M5, ↓mr_22_b M5, mr_23 M5, ↓mr_23_b M5, mr_24 M5, ↓mr_24_b M5, mr_25 M5, ↓mr_25_b M5, mr_30 M5, ↓mr_30_b M5, mr_31 M5, ↓mr_31_b M5, m90a M5, ↓m90a_b M5, m90s M5, ↓m90s_b M5, m91a M5, ↓m91a_b M5, m91s M5, ↓m91s_b M5, m92a M5, ↓m92a_b M5, m92s M5, ↓m92s_b M5, m93a M5, ↓m93a_b M5, m93s M5, ↓m93s_b M5, m94a M5, ↓m94a_b M5, m94s M5, ↓m94s_b M5, m95a M5, ↓m95a_b M5, m95s M5, ↓m95s_b M5, m96a M5, ↓m96a_b M5, m96s M5, ↓m96s_b M5, m97a M5, ↓m97a_b M5, m97s M5, ↓m97s_b M5, m98a M5, ↓m98a_b M5, m98s M5, ↓m98s_b M5, m99a M5, ↓m99a_b M5, m99s M5, ↓m99s_b M5, m100a M5, ↓m100a_b M5, m100s M5, ↓m100s_b M5, q5, ↓bn_e (r5), r5, ↓bn_e (i5), i5, ↓bn_e (e6), e6, ↓bn_e (uz0), uz0, ↓bn_e (iz0), iz0, ↓bn_e (tz0), tz0, ↓bn_e (sz0), sz0, ↓bn_e (uz1), uz1, ↓bn_e (iz1), iz1, ↓bn_e (tz1), tz1, ↓bn_e (sz1), sz1, ↓bn_e (uz2), uz2, ↓bn_e (iz2), iz2, ↓bn_e (sze), sze]
  · have fo : ∀ a j, (a ≠ b ∨ j ≠ 3) → fi ze a j = fi g6 a j := fun a j ha => by rw [rze, fi_ne ha, rz1, rz0]; rfl
    have io : ∀ a, a ≠ b + 7 → a ≠ b + 8 → ∀ z, ia ze a z = ia g6 a z := fun a a0 a1 z => by
      rw [rze]
      show ia z2 a z = _
      rw [rz1, ia_wA a1, rz0, ia_wA a0]
    have j0 : ∀ z, 0 ≤ z → ia ze (b + 7) z = if z = g then w else ia g6 (b + 7) z := fun z z0 => by
      rw [rze]
      show ia z2 (b + 7) z = _
      rw [rz1, ia_wA (by omega), rz0, ia_if (by omega) z0 (by omega) (by omega) (by omega)]
    have j1 : ∀ z, 0 ≤ z → ia ze (b + 8) z = if z = g then x else ia g6 (b + 8) z := fun z z0 => by
      rw [rze]
      show ia z2 (b + 8) z = _
      rw [rz1, ia_if (by omega) z0 (by omega) (by omega) (by omega), rz0, ia_wA (by omega)]
    refine DP_u Fz (fo b 8 (by omega)) C6 (LW_gst C6.2.1 (by omega) ⟨t1, t2⟩ ⟨b1.1, by rw [l1]; exact b1.2⟩) Nz ?_ ?_ (fun _ y => y) C6.2.2.2.2.1 (fun y => by have y' : L1 31 0 = 0 := y; omega)
    · obtain ⟨b1, b2, b3, b4, b5, b6, b7, b8, b9⟩ := Rz
      refine ⟨⟨?_, ?_, ?_, ?_, ?_, ?_, ?_, ?_⟩, ?_, ?_, ?_, ?_, ?_, ?_, ?_, ?_⟩
      · rw [fo _ _ (by omega)]; exact b1.1
      · rw [fo _ _ (by omega)]; exact b1.2.1
      · rw [fo _ _ (by omega)]; exact b1.2.2.1
      · rw [rze, fi_same (by omega) (by omega), hg]; rfl
      · rw [fo _ _ (by omega)]; exact b1.2.2.2.2.1
      · rw [fo _ _ (by omega)]; exact b1.2.2.2.2.2.1
      · rw [fo _ _ (by omega)]; exact b1.2.2.2.2.2.2.1
      · rw [fo _ _ (by omega)]; exact b1.2.2.2.2.2.2.2
      · simp (disch := omega) only [io]; exact b2
      · simp (disch := omega) only [io]; exact b3
      · simp (disch := omega) only [io]; exact b4
      · intro i i0 i1
        replace i1 : i < L1 3 0 + 1 := i1
        rw [j0 i i0, j1 i i0]
        show _ = (if i = L1 3 0 then w else L1 15 i) ∧ _ = (if i = L1 3 0 then x else L1 16 i)
        rw [← hg]
        by_cases e : i = g
        · rw [if_pos e, if_pos e, if_pos e, if_pos e]; exact ⟨rfl, rfl⟩
        · rw [if_neg e, if_neg e, if_neg e, if_neg e]; exact b5 i i0 (show i < L1 3 0 by omega)
      · simp (disch := omega) only [io]; exact b6
      · simp (disch := omega) only [io]; exact b7
      · simp (disch := omega) only [io]; exact b8
      · simp (disch := omega) only [io]; exact b9
    · intro i hi
      obtain ⟨m, m1, m2, m3⟩ := C6.2.2.2.1 i hi
      exact ⟨m, m1, by rw [io _ (by omega) (by omega)]; exact m2, m3⟩
