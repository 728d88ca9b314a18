/-! corks -/
def a_crk3 (L : Lk) (T : Int → Int) (n p2 : Nat) (x k : Int) : Lo := if pwf T n p2 1 30 = 0 then .inl (tnx T n p2, upL L 11 (5 * x + k) (tnm T n p2)) else .inr (pwf T n p2 1 30, (spn T n p2 : Nat))
def a_crk2 (L : Lk) (T : Int → Int) (n p1 : Nat) (x k : Int) : Lo := if k = -1 then .inr (1, (spn T n p1 : Nat)) else if 0 < L 11 (5 * x + k) then .inr (3, (spn T n p1 : Nat)) else a_crk3 L T n (tnx T n p1) x k
def a_crk1 (L : Lk) (T : Int → Int) (n p p1 : Nat) : Lo := a_crk2 L T n p1 (knb L T n p) (knd T n p1)
def a_crk (L : Lk) (T : Int → Int) (n p : Nat) : Lo := if pkf L T n p 0 = 0 then a_crk1 L T n p (tnx T n p) else .inr (pkf L T n p 0, (spn T n p : Nat))
theorem upL_s (L : Lk) (k : Nat) (i v : Int) : upL L k i v k i = v := if_pos ⟨rfl, rfl⟩
theorem upL_i {L : Lk} {k : Nat} {i v j : Int} (h : ¬ j = i) : upL L k i v k j = L k j := if_neg (fun e => h e.2)
theorem LW_crk {L : Lk} {x k v : Int} (H : LW L) (hx : 0 ≤ x ∧ x < L 1 0) (hk : 0 ≤ k ∧ k ≤ 4) (hv : 1 ≤ v ∧ v ≤ 30) : LW (upL L 11 (5 * x + k) v) := by
  obtain ⟨a0, a1, a2, a3, a4, a5, a6, a7, a8, a9, a10, a11, a12, a13, a14, a15⟩ := H
  refine ⟨a0, a1, a2, a3, a4, a5, a6, a7, a8, ?_, a10, a11, a12, a13, a14, a15⟩
  intro i i0 i1
  show 0 ≤ upL L 11 (5 * x + k) v 11 i ∧ upL L 11 (5 * x + k) v 11 i ≤ 30 ∧ (5 * L 1 0 ≤ i → upL L 11 (5 * x + k) v 11 i = 0)
  by_cases e : i = 5 * x + k
  · rw [e, upL_s]
    exact ⟨by omega, by omega, fun z => by omega⟩
  · rw [upL_i e]
    exact a9 i i0 i1
theorem C_crk {L : Lk} {u : Nat} {T : Int → Int} {n p : Nat} {h : Hp} (hp : p ≤ n) (C : CP L u T n h) (NBL : NB L) (H : CT T n p h) : CO (a_crk L T n p) u T n (F_rd_readCorks 2 h) h := by
  have hu := C.2.2.2.1
  have lw := CP_lw C
  have lh := LW_h lw
  have N := CP_nw C
  unfold F_rd_readCorks a_crk
  rw [ck_e (DS_k (CP_d C))]
  refine S_non (s := 0) C hp H (by decide) (by omega) (fun k1 => ?_)
  have b1 := kn0 (CP_nw C) NBL k1
  rw [bn_e (d_r2 (CP_d C))]
  refine S_ad C hp H (fun g1 C1 c1 p1b w1 => ?_)
  obtain ⟨p1, hp1⟩ : ∃ p1, p1 = tnx T n p := ⟨_, rfl⟩
  rw [← hp1] at c1 p1b ⊢
  have ek := C_kind C1.1 p1b c1
  have kb := knd_b T n p1
  unfold a_crk1 a_crk2
  rw [bn_e ek]
  obtain ⟨x, hx⟩ : ∃ x, x = knb L T n p := ⟨_, rfl⟩
  obtain ⟨k, hk⟩ : ∃ k, k = knd T n p1 := ⟨_, rfl⟩
  rw [← hx] at b1 ⊢
  rw [← hk] at kb ⊢
  by_cases kz : k = -1
  · rw [if_pos kz, kz, if_pos (by decide)]
    exact S_fail C1 p1b c1 (by omega) (by decide)
  · rw [if_neg kz, if_neg (nlt0 (by omega) (by omega))]
    have lc := LW_cs lw (5 * x + k) (by omega) (by omega)
    have ei : J x * (5 : Int32) + J k = J (5 * x + k) := by rw [j_5, J_mul, J_add, show x * 5 + k = 5 * x + k by omega]
    have n1 := TS_n4 C1.2.1
    have ea : aI g1 100 (u + 2) (J x * (5 : Int32) + J k) = some (J (L 11 (5 * x + k))) := by
      rw [ei, aI_J (TS_k4 C1.2.1) (by omega) (by omega) (by omega), TR_c (CP_t C1) _ (by omega) (by omega)]
    rw [bn_e (CP_gu C1), bn_e (trf_4 C1.2.1), bn_e ea]
    by_cases ag : 0 < L 11 (5 * x + k)
    · rw [if_pos ag, if_pos (by rw [j_0, J_lt (by omega) (by omega) (by omega) (by omega)]; exact ag)]
      exact S_fail C1 p1b c1 (by omega) (by decide)
    · rw [if_neg ag, if_neg (by rw [j_0, J_lt (by omega) (by omega) (by omega) (by omega)]; exact ag), bn_e (d_r2 (CP_d C1))]
      refine S_ad C1 p1b c1 (fun g2 C2 c2 p2b w2 => ?_)
      obtain ⟨p2, hp2⟩ : ∃ p2, p2 = tnx T n p1 := ⟨_, rfl⟩
      rw [← hp2] at c2 p2b ⊢
      unfold a_crk3
      refine S_twh (lo := 1) (hi := 30) C2 p2b c2 (by decide) (by decide) (by omega) (by omega) (fun _ t1 t2 g3 C3 c3 p3b w3 => ?_)
      obtain ⟨q, hq⟩ : ∃ q, q = tnm T n p2 := ⟨_, rfl⟩
      rw [← hq] at w3 t1 t2 ⊢
      have T3 := C3.2.1
      have D3 := CP_d C3
      have n3 := TS_n4 T3
      have u3 := CP_gu C3
      have t3 := trf_4 T3
      have i3 : gI g3 2 7 9 = some (J q) := by rw [d_i D3, w3]
      obtain ⟨z, rz⟩ : ∃ z, z = wA g3 (u + 2) (5 * x + k) q := ⟨_, rfl⟩
      have fz : Fm u (u + 18) g3 z := by rw [rz]; exact fm_wA (by omega) (by omega)
      have sz : sI g3 100 (u + 2) (J x * (5 : Int32) + J k) (J q) = some z := by rw [rz, ei]; exact sI_J (TS_k4 T3) (by omega) (by omega) (by omega) (by omega)
      refine CO_l p3b (h' := z) ?_ (cf_fm fz (by omega) (by omega) (by omega)) ?_ (CT_fm fz (by omega) c3) ⟨fm_fi fz (by omega) 0, fm_fi fz (by omega) 1⟩
      · rw [bn_e u3, bn_e t3, bn_e i3, bn_e sz, j_1]
      · have io : ∀ a, a ≠ u + 2 → ∀ y, ia z a y = ia g3 a y := fun a a1 y => by rw [rz, ia_wA a1]
        obtain ⟨d, d1, d2⟩ := C3.2.2.2.2.2.2.2.1
        refine CP_u fz C3 (LW_crk lw b1 ⟨by omega, by omega⟩ ⟨t1, t2⟩) N ?_ ⟨d, by rw [rz]; exact d1, d2⟩ (fun _ y => y) C3.2.2.2.2.2.2.2.2.2
        obtain ⟨b1, ⟨k', b2, b2'⟩, b3, b4, b5, b6, b7, b8, b9, b10⟩ := CP_t C3
        refine ⟨by rw [rz]; exact b1, ⟨k', by rw [rz]; exact b2, b2'⟩, ?_, ?_, ?_, ?_, ?_, ?_, ?_, ?_⟩
        · simp (disch := omega) only [io]; exact b3
        · intro i i0 i1
          rw [rz, ia_if (by omega) i0 (by omega) (by omega) (by omega)]
          by_cases e : i = 5 * x + k
          · rw [if_pos e, e, upL_s]
          · rw [if_neg e, upL_i e]; exact b4 i i0 i1
        · simp (disch := omega) only [io]; exact b5
        · simp (disch := omega) only [io]; exact b6
        · simp (disch := omega) only [io]; exact b7
        · simp (disch := omega) only [io]; exact b8
        · simp (disch := omega) only [io]; exact b9
        · simp (disch := omega) only [io]; exact b10
theorem D_crk {L : Lk} {b : Nat} {T : Int → Int} {n p : Nat} {h : Hp} (hp : p ≤ n) (C : DP L b T n h) (NBL : NB L) (H : DT T n p h) (h0 : tso T n p = 0) : DO (if bgf L 0 1 = 0 then a_crk L T n (tnx T n p) else .inr (bgf L 0 1, (spn T n p : Nat))) b T n (F_md_readCorks 88 h) h := by
  have hb := C.1.2.2.2.2.2
  have lw := C.2.1
  have lh := LW_h lw
  have N := C.1.2.2.2.1
  unfold F_md_readCorks
  rw [ck_e (MS_k C.1.1.1)]
  refine Sd_beg (c := 0) (m := 1) C hp H h0 (by decide) (by decide) (by omega) (by omega) (fun z => by omega) (fun g B o => ?_) (fun t31 cm g1 C1 c1 p1b => ?_)
  · have M := B.1.1
    try simp only [j_0, j_1, j_2, j_3, j_4, j_5, j_6, j_7, j_8, j_9, j_10, j_11, j_12, j_13, j_14, j_15, j_16, j_17, j_18, j_19, j_20, j_21, j_22, j_23, j_24, j_25, j_26, j_27, j_28, j_29, j_30, j_31, j_32, j_33, j_34, j_35, j_36, j_37, j_38, j_39, j_40, j_41, j_42, j_43, j_44, j_45, j_46, j_47, j_48, j_49, j_50, j_51, j_52, j_57, j_59, j_63, j_74, j_75, j_93, j_97, j_99, j_100, j_122, j_200, j_255, j_300, j_465, j_496, j_900, j_999, j_1000, j_65536, j_65537, j_99999, j_252645135, j_858993459, j_1431655765, k_0, k_1, k_27, k_32, k_74, k_75, k_100, k_1000, k_65537]
    simp (disch := first | with_reducible assumption | omega | trivial) only [↓bn_s1, ↓bd_s1, ↓ei_l1, ↓ei_r1, ↓bn_if, ↓ilt_1, ↓ilt_0, ↓ieq_1, ↓ieq_0, bn_s1, bd_s1, ei_l1, ei_r1, J_add, J_sub, J_mul, J_neg, J_lt, J_le, J_eq, dv_J, rm_J, if_pos, if_neg, ↓reduceIte, bitJ, shlJ, orJ, j_0, j_1, j_2, j_3, j_4, j_5, j_6, j_7, j_8, j_9, j_10, j_11, j_12, j_13, j_14, j_15, j_16, j_17, j_18, j_19, j_20, j_21, j_22, j_23, j_24, j_25, j_26, j_27, j_28, j_29, j_30, j_31, j_32, j_33, j_34, j_35, j_36, j_37, j_38, j_39, j_40, j_41, j_42, j_43, j_44, j_45, j_46, j_47, j_48, j_49, j_50, j_51, j_52, j_57, j_59, j_63, j_74, j_75, j_93, j_97, j_99, j_100, j_122, j_200, j_255, j_300, j_465, j_496, j_900, j_999, j_1000, j_65536, j_65537, j_99999, j_252645135, j_858993459, j_1431655765, k_0, k_1, k_27, k_32, k_74, k_75, k_100, k_1000, k_65537, ↓bd_e ((D_rk5 (s := J 0) B o)), (D_rk5 (s := J 0) B o), ↓bd_e ((D_kind5 M o)), (D_kind5 M o), m_i M, ↓m_i_b M, m_p M, ↓m_p_b M, m_l M, ↓m_l_b M, m_pl M, ↓m_pl_b M, mr_15 M, ↓mr_15_b M, mr_16 M, ↓mr_16_b M, mr_17 M, ↓mr_17_b M, mr_18 M, ↓mr_18_b M, mr_21 M, ↓mr_21_b M, mr_22 M, ↓mr_22_b M, mr_23 M, ↓mr_23_b M, mr_24 M, ↓mr_24_b M, mr_25 M, ↓mr_25_b M, mr_30 M, ↓mr_30_b M, mr_31 M, ↓mr_31_b M, m90a M, ↓m90a_b M, m90s M, ↓m90s_b M, m91a M, ↓m91a_b M, m91s M, ↓m91s_b M, m92a M, ↓m92a_b M, m92s M, ↓m92s_b M, m93a M, ↓m93a_b M, m93s M, ↓m93s_b M, m94a M, ↓m94a_b M, m94s M, ↓m94s_b M, m95a M, ↓m95a_b M, m95s M, ↓m95s_b M, m96a M, ↓m96a_b M, m96s M, ↓m96s_b M, m97a M, ↓m97a_b M, m97s M, ↓m97s_b M, m98a M, ↓m98a_b M, m98s M, ↓m98s_b M, m99a M, ↓m99a_b M, m99s M, ↓m99s_b M, m100a M, ↓m100a_b M, m100s M, ↓m100s_b M, o, ↓bn_e ((D_go5 M o)), (D_go5 M o), ↓bd_e ((D_rw5 (lo := J 1) (hi := J 30) M o)), (D_rw5 (lo := J 1) (hi := J 30) M o)]
  obtain ⟨p1, hp1⟩ : ∃ p1, p1 = tnx T n p := ⟨_, rfl⟩
  rw [← hp1] at c1 p1b ⊢
  unfold a_crk
  refine Sd_rk (s := 0) C1 p1b c1 (by decide) (by omega) (fun g B o => ?_) (fun k1 g2 C2 c2 p2b => ?_)
  · have M := B.1.1
    try simp only [j_0, j_1, j_2, j_3, j_4, j_5, j_6, j_7, j_8, j_9, j_10, j_11, j_12, j_13, j_14, j_15, j_16, j_17, j_18, j_19, j_20, j_21, j_22, j_23, j_24, j_25, j_26, j_27, j_28, j_29, j_30, j_31, j_32, j_33, j_34, j_35, j_36, j_37, j_38, j_39, j_40, j_41, j_42, j_43, j_44, j_45, j_46, j_47, j_48, j_49, j_50, j_51, j_52, j_57, j_59, j_63, j_74, j_75, j_93, j_97, j_99, j_100, j_122, j_200, j_255, j_300, j_465, j_496, j_900, j_999, j_1000, j_65536, j_65537, j_99999, j_252645135, j_858993459, j_1431655765, k_0, k_1, k_27, k_32, k_74, k_75, k_100, k_1000, k_65537]
    simp (disch := first | with_reducible assumption | omega | trivial) only [↓bn_s1, ↓bd_s1, ↓ei_l1, ↓ei_r1, ↓bn_if, ↓ilt_1, ↓ilt_0, ↓ieq_1, ↓ieq_0, bn_s1, bd_s1, ei_l1, ei_r1, J_add, J_sub, J_mul, J_neg, J_lt, J_le, J_eq, dv_J, rm_J, if_pos, if_neg, ↓reduceIte, bitJ, shlJ, orJ, j_0, j_1, j_2, j_3, j_4, j_5, j_6, j_7, j_8, j_9, j_10, j_11, j_12, j_13, j_14, j_15, j_16, j_17, j_18, j_19, j_20, j_21, j_22, j_23, j_24, j_25, j_26, j_27, j_28, j_29, j_30, j_31, j_32, j_33, j_34, j_35, j_36, j_37, j_38, j_39, j_40, j_41, j_42, j_43, j_44, j_45, j_46, j_47, j_48, j_49, j_50, j_51, j_52, j_57, j_59, j_63, j_74, j_75, j_93, j_97, j_99, j_100, j_122, j_200, j_255, j_300, j_465, j_496, j_900, j_999, j_1000, j_65536, j_65537, j_99999, j_252645135, j_858993459, j_1431655765, k_0, k_1, k_27, k_32, k_74, k_75, k_100, k_1000, k_65537, ↓bd_e ((D_kind5 M o)), (D_kind5 M o), m_i M, ↓m_i_b M, m_p M, ↓m_p_b M, m_l M, ↓m_l_b M, m_pl M, ↓m_pl_b M, mr_15 M, ↓mr_15_b M, mr_16 M, ↓mr_16_b M, mr_17 M, ↓mr_17_b M, mr_18 M, ↓mr_18_b M, mr_21 M, ↓mr_21_b M, mr_22 M, ↓mr_22_b M, mr_23 M, ↓mr_23_b M, mr_24 M, ↓mr_24_b M, mr_25 M, ↓mr_25_b M, mr_30 M, ↓mr_30_b M, mr_31 M, ↓mr_31_b M, m90a M, ↓m90a_b M, m90s M, ↓m90s_b M, m91a M, ↓m91a_b M, m91s M, ↓m91s_b M, m92a M, ↓m92a_b M, m92s M, ↓m92s_b M, m93a M, ↓m93a_b M, m93s M, ↓m93s_b M, m94a M, ↓m94a_b M, m94s M, ↓m94s_b M, m95a M, ↓m95a_b M, m95s M, ↓m95s_b M, m96a M, ↓m96a_b M, m96s M, ↓m96s_b M, m97a M, ↓m97a_b M, m97s M, ↓m97s_b M, m98a M, ↓m98a_b M, m98s M, ↓m98s_b M, m99a M, ↓m99a_b M, m99s M, ↓m99s_b M, m100a M, ↓m100a_b M, m100s M, ↓m100s_b M, o, ↓bn_e ((D_go5 M o)), (D_go5 M o), ↓bd_e ((D_rw5 (lo := J 1) (hi := J 30) M o)), (D_rw5 (lo := J 1) (hi := J 30) M o)]
  obtain ⟨p2, hp2⟩ : ∃ p2, p2 = tnx T n p1 := ⟨_, rfl⟩
  rw [← hp2] at c2 p2b ⊢
  have b1 := kn0 N NBL k1
  unfold a_crk1 a_crk2
  have ek := D_kind C2.1.1 p2b c2
  have kb := knd_b T n p2
  obtain ⟨x, hx⟩ : ∃ x, x = knb L T n p1 := ⟨_, rfl⟩
  rw [← hx] at b1 ⊢
  have M2 := C2.1.1.1
  by_cases kz : knd T n p2 = -1
  · rw [if_pos kz]
    obtain ⟨g3, e3, x3⟩ := ek.2 kz
    have M3 := MS_fm x3.1 M2
    have o3 := x3.2.1
    have e4 := D_go5 M3 o3
    have e5 := D_rw5 (lo := J 1) (hi := J 30) M3 o3
    refine DO_fd hb.1 x3 ?_
    try simp only [j_0, j_1, j_2, j_3, j_4, j_5, j_6, j_7, j_8, j_9, j_10, j_11, j_12, j_13, j_14, j_15, j_16, j_17, j_18, j_19, j_20, j_21, j_22, j_23, j_24, j_25, j_26, j_27, j_28, j_29, j_30, j_31, j_32, j_33, j_34, j_35, j_36, j_37, j_38, j_39, j_40, j_41, j_42, j_43, j_44, j_45, j_46, j_47, j_48, j_49, j_50, j_51, j_52, j_57, j_59, j_63, j_74, j_75, j_93, j_97, j_99, j_100, j_122, j_200, j_255, j_300, j_465, j_496, j_900, j_999, j_1000, j_65536, j_65537, j_99999, j_252645135, j_858993459, j_1431655765, k_0, k_1, k_27, k_32, k_74, k_75, k_100, k_1000, k_65537]
    simp (disch := first | with_reducible assumption | omega | trivial) only [↓bn_s1, ↓bd_s1, ↓ei_l1, ↓ei_r1, ↓bn_if, ↓ilt_1, ↓ilt_0, ↓ieq_1, ↓ieq_0, bn_s1, bd_s1, ei_l1, ei_r1, J_add, J_sub, J_mul, J_neg, J_lt, J_le, J_eq, dv_J, rm_J, if_pos, if_neg, ↓reduceIte, bitJ, shlJ, orJ, j_0, j_1, j_2, j_3, j_4, j_5, j_6, j_7, j_8, j_9, j_10, j_11, j_12, j_13, j_14, j_15, j_16, j_17, j_18, j_19, j_20, j_21, j_22, j_23, j_24, j_25, j_26, j_27, j_28, j_29, j_30, j_31, j_32, j_33, j_34, j_35, j_36, j_37, j_38, j_39, j_40, j_41, j_42, j_43, j_44, j_45, j_46, j_47, j_48, j_49, j_50, j_51, j_52, j_57, j_59, j_63, j_74, j_75, j_93, j_97, j_99, j_100, j_122, j_200, j_255, j_300, j_465, j_496, j_900, j_999, j_1000, j_65536, j_65537, j_99999, j_252645135, j_858993459, j_1431655765, k_0, k_1, k_27, k_32, k_74, k_75, k_100, k_1000, k_65537, ↓bd_e (e3), e3, m_i M3, ↓m_i_b M3, m_p M3, ↓m_p_b M3, m_l M3, ↓m_l_b M3, m_pl M3, ↓m_pl_b M3, mr_15 M3, ↓mr_15_b M3, mr_16 M3, ↓mr_16_b M3, mr_17 M3, ↓mr_17_b M3, mr_18 M3, ↓mr_18_b M3, mr_21 M3, ↓mr_21_b M3, mr_22 M3, ↓mr_22_b M3, mr_23 M3, ↓mr_23_b M3, mr_24 M3, ↓mr_24_b M3, mr_25 M3, ↓mr_25_b M3, mr_30 M3, ↓mr_30_b M3, mr_31 M3, ↓mr_31_b M3, m90a M3, ↓m90a_b M3, m90s M3, ↓m90s_b M3, m91a M3, ↓m91a_b M3, m91s M3, ↓m91s_b M3, m92a M3, ↓m92a_b M3, m92s M3, ↓m92s_b M3, m93a M3, ↓m93a_b M3, m93s M3, ↓m93s_b M3, m94a M3, ↓m94a_b M3, m94s M3, ↓m94s_b M3, m95a M3, ↓m95a_b M3, m95s M3, ↓m95s_b M3, m96a M3, ↓m96a_b M3, m96s M3, ↓m96s_b M3, m97a M3, ↓m97a_b M3, m97s M3, ↓m97s_b M3, m98a M3, ↓m98a_b M3, m98s M3, ↓m98s_b M3, m99a M3, ↓m99a_b M3, m99s M3, ↓m99s_b M3, m100a M3, ↓m100a_b M3, m100s M3, ↓m100s_b M3, o3, ↓bn_e (e4), e4, ↓bd_e (e5), e5]
  · have e3 := ek.1 kz
    have kw := kb.2.2 kz
    clear ek
    obtain ⟨k, hk⟩ : ∃ k, k = knd T n p2 := ⟨_, rfl⟩
    rw [← hk] at kb kz e3 ⊢
    rw [if_neg kz]
    obtain ⟨kn, hkn⟩ : ∃ kn : Nat, k = kn := ⟨k.toNat, by omega⟩
    obtain ⟨xn, hxn⟩ : ∃ xn : Nat, x = xn := ⟨x.toNat, by omega⟩
    obtain ⟨m, m1, m2, m3⟩ := C2.2.2.2.1 xn (by omega)
    have mk := m3 kn (by omega)
    have q2 : fi g2 88 9 = rso (tso T n p2) := c2.2.2.1
    have rb := rso_b T n p2 p2b
    have r2 := dl_r C2.1
    have y2 : gR g2 b 12 12 = some (b + 4) := gR_e (YS_k C2.1.2.2.1) (YS_r12 C2.1.2.2.1)
    have n2 := YS_n12 C2.1.2.2.1
    have a2 : aI g2 100 (b + 4) (J x) = some (J m) := by rw [aI_J (YS_k12 C2.1.2.2.1) (by omega) (by omega) (by omega), hxn, m2]
    have bt : F_md_bit (J m) (J k) = some (J (if m.testBit kn = true then 1 else 0)) := by rw [bit_e m1 (by omega) (by omega), show k.toNat = kn by omega]
    rw [bd_e e3, bn_e (show gI g2 88 13 9 = some (J (rso (tso T n p2))) by rw [gI_J (MS_k M2), q2]), if_neg (show ¬ J (rso (tso T n p2)) = (5 : Int32) by rw [j_5, J_eq (by omega) (by omega) (by omega) (by omega)]; omega), bn_e r2, bn_e y2, bn_e a2, bn_e bt]
    have mk' : m.testBit kn = decide (0 < L 11 (5 * x + k)) := by rw [mk, hkn, hxn]
    rw [mk']
    by_cases ag : 0 < L 11 (5 * x + k)
    · rw [if_pos ag, if_pos (decide_eq_true ag), if_neg (by decide)]
      obtain ⟨g3, e3, x3⟩ := D_flaw (x := 3) C2.1.1 p2b c2 (by omega)
      have M3 := MS_fm x3.1 M2
      have o3 := x3.2.1
      have e4 := D_go5 M3 o3
      have e5 := D_rw5 (lo := J 1) (hi := J 30) M3 o3
      refine DO_fd hb.1 x3 ?_
      try simp only [j_0, j_1, j_2, j_3, j_4, j_5, j_6, j_7, j_8, j_9, j_10, j_11, j_12, j_13, j_14, j_15, j_16, j_17, j_18, j_19, j_20, j_21, j_22, j_23, j_24, j_25, j_26, j_27, j_28, j_29, j_30, j_31, j_32, j_33, j_34, j_35, j_36, j_37, j_38, j_39, j_40, j_41, j_42, j_43, j_44, j_45, j_46, j_47, j_48, j_49, j_50, j_51, j_52, j_57, j_59, j_63, j_74, j_75, j_93, j_97, j_99, j_100, j_122, j_200, j_255, j_300, j_465, j_496, j_900, j_999, j_1000, j_65536, j_65537, j_99999, j_252645135, j_858993459, j_1431655765, k_0, k_1, k_27, k_32, k_74, k_75, k_100, k_1000, k_65537]
      simp (disch := first | with_reducible assumption | omega | trivial) only [↓bn_s1, ↓bd_s1, ↓ei_l1, ↓ei_r1, ↓bn_if, ↓ilt_1, ↓ilt_0, ↓ieq_1, ↓ieq_0, bn_s1, bd_s1, ei_l1, ei_r1, J_add, J_sub, J_mul, J_neg, J_lt, J_le, J_eq, dv_J, rm_J, if_pos, if_neg, ↓reduceIte, bitJ, shlJ, orJ, j_0, j_1, j_2, j_3, j_4, j_5, j_6, j_7, j_8, j_9, j_10, j_11, j_12, j_13, j_14, j_15, j_16, j_17, j_18, j_19, j_20, j_21, j_22, j_23, j_24, j_25, j_26, j_27, j_28, j_29, j_30, j_31, j_32, j_33, j_34, j_35, j_36, j_37, j_38, j_39, j_40, j_41, j_42, j_43, j_44, j_45, j_46, j_47, j_48, j_49, j_50, j_51, j_52, j_57, j_59, j_63, j_74, j_75, j_93, j_97, j_99, j_100, j_122, j_200, j_255, j_300, j_465, j_496, j_900, j_999, j_1000, j_65536, j_65537, j_99999, j_252645135, j_858993459, j_1431655765, k_0, k_1, k_27, k_32, k_74, k_75, k_100, k_1000, k_65537, ↓bn_e (e3), e3, m_i M3, ↓m_i_b M3, m_p M3, ↓m_p_b M3, m_l M3, ↓m_l_b M3, m_pl M3, ↓m_pl_b M3, mr_15 M3, ↓mr_15_b M3, mr_16 M3, ↓mr_16_b M3, mr_17 M3, ↓mr_17_b M3, mr_18 M3, ↓mr_18_b M3, mr_21 M3, ↓mr_21_b M3, mr_22 M3, ↓mr_22_b M3, mr_23 M3, ↓mr_23_b M3, mr_24 M3, ↓mr_24_b M3, mr_25 M3, ↓mr_25_b M3, mr_30 M3, ↓mr_30_b M3, mr_31 M3, ↓mr_31_b M3, m90a M3, ↓m90a_b M3, m90s M3, ↓m90s_b M3, m91a M3, ↓m91a_b M3, m91s M3, ↓m91s_b M3, m92a M3, ↓m92a_b M3, m92s M3, ↓m92s_b M3, m93a M3, ↓m93a_b M3, m93s M3, ↓m93s_b M3, m94a M3, ↓m94a_b M3, m94s M3, ↓m94s_b M3, m95a M3, ↓m95a_b M3, m95s M3, ↓m95s_b M3, m96a M3, ↓m96a_b M3, m96s M3, ↓m96s_b M3, m97a M3, ↓m97a_b M3, m97s M3, ↓m97s_b M3, m98a M3, ↓m98a_b M3, m98s M3, ↓m98s_b M3, m99a M3, ↓m99a_b M3, m99s M3, ↓m99s_b M3, m100a M3, ↓m100a_b M3, m100s M3, ↓m100s_b M3, o3, ↓bn_e (e4), e4, ↓bd_e (e5), e5]
    · rw [if_neg ag, if_neg (show ¬ decide (0 < L 11 (5 * x + k)) = true from fun e => ag (of_decide_eq_true e)), if_pos (by decide), bn_s1]
      refine Sd_go C2 p2b c2 (by omega) (fun g3 C3 c3 p3b => ?_)
      obtain ⟨p3, hp3⟩ : ∃ p3, p3 = tnx T n p2 := ⟨_, rfl⟩
      rw [← hp3] at c3 p3b ⊢
      unfold a_crk3
      refine Sd_rw (lo := 1) (hi := 30) C3 p3b c3 (by decide) (by decide) (by omega) (by omega) (fun g B o => ?_) (fun t1 t2 g4 C4 c4 p4b => ?_)
      · have M := B.1.1
        try simp only [j_0, j_1, j_2, j_3, j_4, j_5, j_6, j_7, j_8, j_9, j_10, j_11, j_12, j_13, j_14, j_15, j_16, j_17, j_18, j_19, j_20, j_21, j_22, j_23, j_24, j_25, j_26, j_27, j_28, j_29, j_30, j_31, j_32, j_33, j_34, j_35, j_36, j_37, j_38, j_39, j_40, j_41, j_42, j_43, j_44, j_45, j_46, j_47, j_48, j_49, j_50, j_51, j_52, j_57, j_59, j_63, j_74, j_75, j_93, j_97, j_99, j_100, j_122, j_200, j_255, j_300, j_465, j_496, j_900, j_999, j_1000, j_65536, j_65537, j_99999, j_252645135, j_858993459, j_1431655765, k_0, k_1, k_27, k_32, k_74, k_75, k_100, k_1000, k_65537]
        simp (disch := first | with_reducible assumption | omega | trivial) only [↓bn_s1, ↓bd_s1, ↓ei_l1, ↓ei_r1, ↓bn_if, ↓ilt_1, ↓ilt_0, ↓ieq_1, ↓ieq_0, bn_s1, bd_s1, ei_l1, ei_r1, J_add, J_sub, J_mul, J_neg, J_lt, J_le, J_eq, dv_J, rm_J, if_pos, if_neg, ↓reduceIte, bitJ, shlJ, orJ, j_0, j_1, j_2, j_3, j_4, j_5, j_6, j_7, j_8, j_9, j_10, j_11, j_12, j_13, j_14, j_15, j_16, j_17, j_18, j_19, j_20, j_21, j_22, j_23, j_24, j_25, j_26, j_27, j_28, j_29, j_30, j_31, j_32, j_33, j_34, j_35, j_36, j_37, j_38, j_39, j_40, j_41, j_42, j_43, j_44, j_45, j_46, j_47, j_48, j_49, j_50, j_51, j_52, j_57, j_59, j_63, j_74, j_75, j_93, j_97, j_99, j_100, j_122, j_200, j_255, j_300, j_465, j_496, j_900, j_999, j_1000, j_65536, j_65537, j_99999, j_252645135, j_858993459, j_1431655765, k_0, k_1, k_27, k_32, k_74, k_75, k_100, k_1000, k_65537, m_i M, ↓m_i_b M, m_p M, ↓m_p_b M, m_l M, ↓m_l_b M, m_pl M, ↓m_pl_b M, mr_15 M, ↓mr_15_b M, mr_16 M, ↓mr_16_b M, mr_17 M, ↓mr_17_b M, mr_18 M, ↓mr_18_b M, mr_21 M, ↓mr_21_b M, mr_22 M, ↓mr_22_b M, mr_23 M, ↓mr_23_b M, mr_24 M, ↓mr_24_b M, mr_25 M, ↓mr_25_b M, mr_30 M, ↓mr_30_b M, mr_31 M, ↓mr_31_b M, m90a M, ↓m90a_b M, m90s M, ↓m90s_b M, m91a M, ↓m91a_b M, m91s M, ↓m91s_b M, m92a M, ↓m92a_b M, m92s M, ↓m92s_b M, m93a M, ↓m93a_b M, m93s M, ↓m93s_b M, m94a M, ↓m94a_b M, m94s M, ↓m94s_b M, m95a M, ↓m95a_b M, m95s M, ↓m95s_b M, m96a M, ↓m96a_b M, m96s M, ↓m96s_b M, m97a M, ↓m97a_b M, m97s M, ↓m97s_b M, m98a M, ↓m98a_b M, m98s M, ↓m98s_b M, m99a M, ↓m99a_b M, m99s M, ↓m99s_b M, m100a M, ↓m100a_b M, m100s M, ↓m100s_b M, o]
      obtain ⟨q, hq⟩ : ∃ q, q = tnm T n p3 := ⟨_, rfl⟩
      rw [← hq] at t1 t2 ⊢
      have M4 := C4.1.1.1
      have Y4 := C4.1.2.2.1
      have R4 := C4.2.2.1
      have q4 : fi g4 88 9 = rso (tso T n (tnx T n p3)) := c4.2.2.1
      have rb4 := rso_b T n _ p4b
      obtain ⟨m', m1', m2', m3'⟩ := C4.2.2.2.1 xn (by omega)
      have r4 := dl_r C4.1
      have y4 : gR g4 b 12 12 = some (b + 4) := gR_e (YS_k Y4) (YS_r12 Y4)
      have n4 := YS_n12 Y4
      have a4 : aI g4 100 (b + 4) (J x) = some (J m') := by rw [aI_J (YS_k12 Y4) (by omega) (by omega) (by omega), hxn, m2']
      have p5 : (2 : Nat) ^ kn < 32 := Nat.pow_lt_pow_right (by omega) (by omega : kn < 5)
      obtain ⟨w, hw⟩ : ∃ w : Nat, w = m' ||| 2 ^ kn := ⟨_, rfl⟩
      have w5 : w < 32 := by rw [hw]; exact Nat.or_lt_two_pow (n := 5) m1' p5
      have ew : J m' ||| (J 1 <<< (J k &&& J 31)) = J w := by rw [hkn, shlJ (by omega), orJ m1' p5, hw]
      obtain ⟨g5, q5⟩ : ∃ g5, g5 = wA g4 (b + 4) x w := ⟨_, rfl⟩
      have f5 : Fm b (b + 19) g4 g5 := by rw [q5]; exact fm_wA (by omega) (by omega)
      have s5 : sI g4 100 (b + 4) (J x) (J w) = some g5 := by rw [q5]; exact sI_J (YS_k12 Y4) (by omega) (by omega) (by omega) (by omega)
      have Y5 := YS_fm f5 Y4
      have r5 : gR g5 88 13 4 = some b := gR_e (MS_k (MS_fm f5 M4)) (by rw [fm_fR f5]; exact C4.1.2.1)
      have y5 : gR g5 b 12 11 = some (b + 3) := gR_e (YS_k Y5) (YS_r11 Y5)
      have n5 := YS_n11 Y5
      obtain ⟨g6, q6⟩ : ∃ g6, g6 = wA g5 (b + 3) (5 * x + k) q := ⟨_, rfl⟩
      have f6 : Fm b (b + 19) g5 g6 := by rw [q6]; exact fm_wA (by omega) (by omega)
      have s6 : sI g5 100 (b + 3) (J (5 * x + k)) (J q) = some g6 := by rw [q6]; exact sI_J (YS_k11 Y5) (by omega) (by omega) (by omega) (by omega)
      have F6 := fm_tr f5 f6
      refine DO_l p4b (h' := g6) ?_ (df_b hb.1 F6 (by omega) (by omega)) ?_ (DT_fm F6 (by omega) c4) (fm_fi F6 (by omega) 12)
      · try simp only [j_0, j_1, j_2, j_3, j_4, j_5, j_6, j_7, j_8, j_9, j_10, j_11, j_12, j_13, j_14, j_15, j_16, j_17, j_18, j_19, j_20, j_21, j_22, j_23, j_24, j_25, j_26, j_27, j_28, j_29, j_30, j_31, j_32, j_33, j_34, j_35, j_36, j_37, j_38, j_39, j_40, j_41, j_42, j_43, j_44, j_45, j_46, j_47, j_48, j_49, j_50, j_51, j_52, j_57, j_59, j_63, j_74, j_75, j_93, j_97, j_99, j_100, j_122, j_200, j_255, j_300, j_465, j_496, j_900, j_999, j_1000, j_65536, j_65537, j_99999, j_252645135, j_858993459, j_1431655765, k_0, k_1, k_27, k_32, k_74, k_75, k_100, k_1000, k_65537]
        simp (disch := first | with_reducible assumption | omega | trivial) only [↓bn_s1, ↓bd_s1, ↓ei_l1, ↓ei_r1, ↓bn_if, ↓ilt_1, ↓ilt_0, ↓ieq_1, ↓ieq_0, bn_s1, bd_s1, ei_l1, ei_r1, J_add, J_sub, J_mul, J_neg, J_lt, J_le, J_eq, dv_J, rm_J, if_pos, if_neg, ↓reduceIte, bitJ, shlJ, orJ, j_0, j_1, j_2, j_3, j_4, j_5, j_6, j_7, j_8, j_9, j_10, j_11, j_12, j_13, j_14, j_15, j_16, j_17, j_18, j_19, j_20, j_21, j_22, j_23, j_24, j_25, j_26, j_27, j_28, j_29, j_30, j_31, j_32, j_33, j_34, j_35, j_36, j_37, j_38, j_39, j_40, j_41, j_42, j_43, j_44, j_45, j_46, j_47, j_48, j_49, j_50, j_51, j_52, j_57, j_59, j_63, j_74, j_75, j_93, j_97, j_99, j_100, j_122, j_200, j_255, j_300, j_465, j_496, j_900, j_999, j_1000, j_65536, j_65537, j_99999, j_252645135, j_858993459, j_1431655765, k_0, k_1, k_27, k_32, k_74, k_75, k_100, k_1000, k_65537, m_i M4, ↓m_i_b M4, m_p M4, ↓m_p_b M4, m_l M4, ↓m_l_b M4, m_pl M4, ↓m_pl_b M4, mr_15 M4, ↓mr_15_b M4, mr_16 M4, ↓mr_16_b M4, mr_17 M4, ↓mr_17_b M4, mr_18 M4, ↓mr_18_b M4, mr_21 M4, ↓mr_21_b M4, mr_22 M4, ↓mr_22_b M4, mr_23 M4, ↓mr_23_b M4, mr_24 M4, ↓mr_24_b M4, mr_25 M4, ↓mr_25_b M4, mr_30 M4, ↓mr_30_b M4, mr_31 M4, ↓mr_31_b M4, m90a M4, ↓m90a_b M4, m90s M4, ↓m90s_b M4, m91a M4, ↓m91a_b M4, m91s M4, ↓m91s_b M4, m92a M4, ↓m92a_b M4, m92s M4, ↓m92s_b M4, m93a M4, ↓m93a_b M4, m93s M4, ↓m93s_b M4, m94a M4, ↓m94a_b M4, m94s M4, ↓m94s_b M4, m95a M4, ↓m95a_b M4, m95s M4, ↓m95s_b M4, m96a M4, ↓m96a_b M4, m96s M4, ↓m96s_b M4, m97a M4, ↓m97a_b M4, m97s M4, ↓m97s_b M4, m98a M4, ↓m98a_b M4, m98s M4, ↓m98s_b M4, m99a M4, ↓m99a_b M4, m99s M4, ↓m99s_b M4, m100a M4, ↓m100a_b M4, m100s M4, ↓m100s_b M4, q4, ↓bn_e (r4), r4, ↓bn_e (y4), y4, ↓bn_e (a4), a4, ew, ↓bn_e (s5), s5, ↓bn_e (r5), r5, ↓bn_e (y5), y5, ↓bn_e (s6), s6]
      · have fo : ∀ a j, fi g6 a j = fi g4 a j := fun a j => by rw [q6, q5]; rfl
        have io : ∀ a, a ≠ b + 3 → a ≠ b + 4 → ∀ z, ia g6 a z = ia g4 a z := fun a a1 a2 z => by rw [q6, ia_wA a1, q5, ia_wA a2]
        refine DP_u F6 (fo b 8) C4 (LW_crk lw b1 ⟨by omega, by omega⟩ ⟨t1, t2⟩) N ?_ ?_ (fun _ y => y) C4.2.2.2.2.1 (fun y => by have y' : L 31 0 = 0 := y; omega)
        · obtain ⟨b1, b2, b3, b4, b5, b6, b7, b8, b9⟩ := R4
          refine ⟨by simp only [fo]; exact b1, ?_, ?_, ?_, ?_, ?_, ?_, ?_, ?_⟩
          · simp (disch := omega) only [io]; exact b2
          · intro i i0 i1
            show _ = upL L 11 (5 * x + k) q 11 i
            rw [q6, ia_if (by omega) i0 (by omega) (by omega) (by omega), q5, ia_wA (by omega)]
            by_cases e : i = 5 * x + k
            · rw [if_pos e, e, upL_s]
            · rw [if_neg e, upL_i e]; exact b3 i i0 i1
          · simp (disch := omega) only [io]; exact b4
          · simp (disch := omega) only [io]; exact b5
          · simp (disch := omega) only [io]; exact b6
          · simp (disch := omega) only [io]; exact b7
          · simp (disch := omega) only [io]; exact b8
          · simp (disch := omega) only [io]; exact b9
        · intro i hi
          by_cases e : (i : Int) = x
          · refine ⟨w, w5, ?_, fun j hj => ?_⟩
            · rw [q6, ia_wA (by omega), q5, e]; exact ia_same (by omega) (by omega) (by omega) (by omega)
            · have e' : i = xn := by omega
              rw [hw, Nat.testBit_or, m3' j hj, two_b, e']
              by_cases ej : j = kn
              · rw [show (5 * (xn : Int) + (j : Nat)) = 5 * x + k by omega, upL_s, decide_eq_true ej.symm, Bool.or_true, decide_eq_true (show 0 < q by omega)]
              · rw [upL_i (show ¬ (5 * (xn : Int) + (j : Nat)) = 5 * x + k by omega), decide_eq_false (show ¬ kn = j from fun z => ej z.symm), Bool.or_false]
          · obtain ⟨m5, m6, m7, m8⟩ := C4.2.2.2.1 i hi
            refine ⟨m5, m6, ?_, fun j hj => ?_⟩
            · rw [q6, ia_wA (by omega), q5, ia_ne (by omega) (by omega) e]; exact m7
            · rw [m8 j hj, upL_i (by omega)]
