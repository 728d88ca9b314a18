/-! rope -/
def a_rop2 (L : Lk) (T : Int → Int) (n p1 : Nat) (x y : Int) : Lo := if x = y then .inr (3, (spn T n p1 : Nat)) else if rpt L x y = true then .inr (3, (spn T n p1 : Nat)) else .inl (tnx T n p1, ap2 L 2 13 (min x y) 14 (max x y))
def a_rop1 (L : Lk) (T : Int → Int) (n p p1 : Nat) : Lo := if pkf L T n p1 0 = 0 then a_rop2 L T n p1 (knb L T n p) (knb L T n p1) else .inr (pkf L T n p1 0, (spn T n p1 : Nat))
def a_rop (L : Lk) (T : Int → Int) (n p : Nat) : Lo := if pkf L T n p 0 = 0 then a_rop1 L T n p (tnx T n p) else .inr (pkf L T n p 0, (spn T n p : Nat))
theorem LW_rop {L : Lk} {x y : Int} (H : LW L) (h2 : L 2 0 < 5) (hx : 0 ≤ x ∧ x < y) (hy : y < L 1 0) : LW (ap2 L 2 13 x 14 y) := by
  obtain ⟨a0, a1, a2, a3, a4, a5, a6, a7, a8, a9, a10, a11, a12, a13, a14, a15⟩ := H
  refine ⟨a0, a1, ?_, a3, a4, a5, a6, a7, a8, a9, ?_, a11, a12, a13, a14, a15⟩
  · show 0 ≤ L 2 0 + 1 ∧ L 2 0 + 1 ≤ 5
    omega
  · intro i i0 i1
    replace i1 : i < L 2 0 + 1 := i1
    show 0 ≤ (if i = L 2 0 then x else L 13 i) ∧ (if i = L 2 0 then x else L 13 i) < (if i = L 2 0 then y else L 14 i) ∧ (if i = L 2 0 then y else L 14 i) < L 1 0
    by_cases e : i = L 2 0
    · rw [if_pos e, if_pos e]; exact ⟨hx.1, hx.2, hy⟩
    · rw [if_neg e, if_neg e]; exact a10 i i0 (by omega)
theorem C_rop {L : Lk} {u : Nat} {T : Int → Int} {n p : Nat} {h : Hp} (hp : p ≤ n) (C : CP L u T n h) (NBL : NB L) (h2 : L 2 0 < 5) (H : CT T n p h) : CO (a_rop L T n p) u T n (F_rd_readRope 2 h) h := by
  have hu := C.2.2.2.1
  have lw := CP_lw C
  have lh := LW_h lw
  have lr := LW_r lw
  have N := CP_nw C
  unfold F_rd_readRope a_rop
  rw [ck_e (DS_k (CP_d C))]
  refine S_non (s := 0) C hp H (by decide) (by omega) (fun k1 => ?_)
  have b1 := kn0 (CP_nw C) NBL k1
  rw [bn_e (d_r2 (CP_d C))]
  refine S_ad C hp H (fun g1 C1 c1 p1b w1 => ?_)
  obtain ⟨p1, hp1⟩ : ∃ p1, p1 = tnx T n p := ⟨_, rfl⟩
  rw [← hp1] at c1 p1b ⊢
  unfold a_rop1
  refine S_non (s := 0) C1 p1b c1 (by decide) (by omega) (fun k2 => ?_)
  have b2 := kn0 (CP_nw C) NBL k2
  obtain ⟨x, hx⟩ : ∃ x, x = knb L T n p := ⟨_, rfl⟩
  obtain ⟨y, hy⟩ : ∃ y, y = knb L T n p1 := ⟨_, rfl⟩
  rw [← hx] at b1 ⊢
  rw [← hy] at b2 ⊢
  unfold a_rop2
  by_cases xy : x = y
  · rw [if_pos xy, if_pos (congrArg J xy), bn_s1, ei_l1]
    exact S_fail C1 p1b c1 (by omega) (by decide)
  · rw [if_neg xy, ieq_0 xy (by omega) (by omega) (by omega) (by omega)]
    have er := C_rpt lw C1.2.1 (CP_t C1) (x := x) (y := y) (by omega) (by omega)
    rw [bn_e (CP_gu C1), bn_e er]
    by_cases rp : rpt L x y = true
    · rw [if_pos rp, if_pos rp, if_neg (by decide), bn_s1, ei_l1]
      exact S_fail C1 p1b c1 (by omega) (by decide)
    · rw [if_neg rp, if_neg rp, if_pos (by decide)]
      obtain ⟨g2, e2, s2, _, c2, B2⟩ := C_ad C1.1 p1b c1
      have p2b := (tln_b T n p1 p1b).1
      have C2 := CP_sf s2 C1
      have T2 := C2.2.1
      have R2 := CP_t C2
      obtain ⟨g, hg⟩ : ∃ g, g = L 2 0 := ⟨_, rfl⟩
      obtain ⟨m, hm⟩ : ∃ m, m = min x y := ⟨_, rfl⟩
      obtain ⟨k, hk⟩ : ∃ k, k = max x y := ⟨_, rfl⟩
      have q1 : F_ma_min (J x) (J y) = some (J m) := by rw [hm]; exact min_e (by omega) (by omega) (by omega) (by omega)
      have q2 : F_ma_max (J x) (J y) = some (J k) := by rw [hk]; exact max_e (by omega) (by omega) (by omega) (by omega)
      rw [← hm, ← hk]
      have mb : 0 ≤ m ∧ m < k ∧ k < L 1 0 := by omega
      have u2 := CP_gu C2
      have t2 := trf_6 T2
      have n2 := TS_n6 T2
      have i2 : gI g2 u 10 5 = some (J g) := by rw [hg]; exact ti_5 T2 R2
      have v2 : fi g2 u 5 = g := by rw [hg]; exact TR_r R2
      obtain ⟨g3, r3⟩ : ∃ g3, g3 = wA g2 (u + 3) g m := ⟨_, rfl⟩
      have f3 : Fm u (u + 18) g2 g3 := by rw [r3]; exact fm_wA (by omega) (by omega)
      have s3 : sI g2 100 (u + 3) (J g) (J m) = some g3 := by rw [r3]; exact sI_J (TS_k6 T2) (by omega) (by omega) (by omega) (by omega)
      have T3 := TS_fm f3 T2
      have u3 : gR g3 2 7 3 = some u := gR_e (DS_k (DS_fm f3 (CP_d C2))) (by rw [fm_fR f3]; exact C2.2.2.1)
      have t3 := trf_7 T3
      have n3 := TS_n7 T3
      have v3 : fi g3 u 5 = g := by rw [r3]; exact v2
      have i3 : gI g3 u 10 5 = some (J g) := by rw [gI_J (TS_k T3), v3]
      obtain ⟨g4, r4⟩ : ∃ g4, g4 = wA g3 (u + 4) g k := ⟨_, rfl⟩
      have f4 : Fm u (u + 18) g3 g4 := by rw [r4]; exact fm_wA (by omega) (by omega)
      have s4 : sI g3 100 (u + 4) (J g) (J k) = some g4 := by rw [r4]; exact sI_J (TS_k7 T3) (by omega) (by omega) (by omega) (by omega)
      have T4 := TS_fm f4 T3
      have u4 : gR g4 2 7 3 = some u := gR_e (DS_k (DS_fm f4 (DS_fm f3 (CP_d C2)))) (by rw [fm_fR f4, fm_fR f3]; exact C2.2.2.1)
      have v4 : fi g4 u 5 = g := by rw [r4]; exact v3
      have i4 : gI g4 u 10 5 = some (J g) := by rw [gI_J (TS_k T4), v4]
      obtain ⟨g5, r5⟩ : ∃ g5, g5 = wF g4 u 5 (g + 1) := ⟨_, rfl⟩
      have f5 : Fm u (u + 18) g4 g5 := by rw [r5]; exact fm_wF (by omega) (by omega)
      have s5 : pI g4 u 10 5 (J (g + 1)) = some g5 := by rw [r5]; exact pI_J (TS_k T4)
      have F5 := fm_tr f3 (fm_tr f4 f5)
      have D1 := CP_d C1
      refine CO_l p2b (h' := g5) ?_ (cf_tr (cf_sf hu s2) (cf_fm F5 (by omega) (by omega) (by omega))) ?_ (CT_fm F5 (by omega) c2) ?_
      · try simp only [j_0, j_1, j_2, j_3, j_4, j_5, j_6, j_7, j_8, j_9, j_10, j_11, j_12, j_13, j_14, j_15, j_16, j_17, j_18, j_19, j_20, j_21, j_22, j_23, j_24, j_25, j_26, j_27, j_28, j_29, j_30, j_31, j_32, j_33, j_34, j_35, j_36, j_37, j_38, j_39, j_40, j_41, j_42, j_43, j_44, j_45, j_46, j_47, j_48, j_49, j_50, j_51, j_52, j_57, j_59, j_63, j_74, j_75, j_93, j_97, j_99, j_100, j_122, j_200, j_255, j_300, j_465, j_496, j_900, j_999, j_1000, j_65536, j_65537, j_99999, j_252645135, j_858993459, j_1431655765, k_0, k_1, k_27, k_32, k_74, k_75, k_100, k_1000, k_65537]
        simp (disch := first | with_reducible assumption | omega | trivial) only [↓bn_s1, ↓bd_s1, ↓ei_l1, ↓ei_r1, ↓bn_if, ↓ilt_1, ↓ilt_0, ↓ieq_1, ↓ieq_0, bn_s1, bd_s1, ei_l1, ei_r1, J_add, J_sub, J_mul, J_neg, J_lt, J_le, J_eq, dv_J, rm_J, if_pos, if_neg, ↓reduceIte, bitJ, shlJ, orJ, j_0, j_1, j_2, j_3, j_4, j_5, j_6, j_7, j_8, j_9, j_10, j_11, j_12, j_13, j_14, j_15, j_16, j_17, j_18, j_19, j_20, j_21, j_22, j_23, j_24, j_25, j_26, j_27, j_28, j_29, j_30, j_31, j_32, j_33, j_34, j_35, j_36, j_37, j_38, j_39, j_40, j_41, j_42, j_43, j_44, j_45, j_46, j_47, j_48, j_49, j_50, j_51, j_52, j_57, j_59, j_63, j_74, j_75, j_93, j_97, j_99, j_100, j_122, j_200, j_255, j_300, j_465, j_496, j_900, j_999, j_1000, j_65536, j_65537, j_99999, j_252645135, j_858993459, j_1431655765, k_0, k_1, k_27, k_32, k_74, k_75, k_100, k_1000, k_65537, d_i D1, ↓d_i_b D1, d_p D1, ↓d_p_b D1, d_r2 D1, ↓d_r2_b D1, ↓bn_e (e2), e2, ↓bn_e (u2), u2, ↓bn_e (t2), t2, ↓bn_e (i2), i2, ↓bn_e (q1), q1, ↓bn_e (s3), s3, ↓bn_e (u3), u3, ↓bn_e (t3), t3, ↓bn_e (i3), i3, ↓bn_e (q2), q2, ↓bn_e (s4), s4, ↓bn_e (u4), u4, ↓bn_e (i4), i4, ↓bn_e (s5), s5]
      · have fo : ∀ a j, (a ≠ u ∨ j ≠ 5) → fi g5 a j = fi g2 a j := fun a j ha => by rw [r5, fi_ne ha, r4, r3]; rfl
        have io : ∀ a, a ≠ u + 3 → a ≠ u + 4 → ∀ z, ia g5 a z = ia g2 a z := fun a a1 a2 z => by
          rw [r5]
          show ia g4 a z = _
          rw [r4, ia_wA a2, r3, ia_wA a1]
        have j1 : ∀ z, 0 ≤ z → ia g5 (u + 3) z = if z = g then m else ia g2 (u + 3) z := fun z z0 => by
          rw [r5]
          show ia g4 (u + 3) z = _
          rw [r4, ia_wA (by omega), r3]
          exact ia_if (by omega) z0 (by omega) (by omega) (by omega)
        have j2 : ∀ z, 0 ≤ z → ia g5 (u + 4) z = if z = g then k else ia g2 (u + 4) z := fun z z0 => by
          rw [r5]
          show ia g4 (u + 4) z = _
          rw [r4, ia_if (by omega) z0 (by omega) (by omega) (by omega), r3, ia_wA (by omega)]
        obtain ⟨d, d1, d2⟩ := C2.2.2.2.2.2.2.2.1
        refine CP_u F5 C2 (LW_rop lw h2 ⟨mb.1, mb.2.1⟩ mb.2.2) N ?_ ⟨d, by rw [fo _ _ (by omega)]; exact d1, d2⟩ (fun _ y => y) C2.2.2.2.2.2.2.2.2.2
        obtain ⟨b1, ⟨k', b2, b2'⟩, b3, b4, b5, b6, b7, b8, b9, b10⟩ := R2
        refine ⟨⟨?_, ?_, ?_, ?_, ?_, ?_, ?_, ?_⟩, ⟨k', ?_, b2'⟩, ?_, ?_, ?_, ?_, ?_, ?_, ?_, ?_⟩
        · rw [fo _ _ (by omega)]; exact b1.1
        · rw [fo _ _ (by omega)]; exact b1.2.1
        · rw [r5, fi_same (by omega) (by omega), hg]; rfl
        · rw [fo _ _ (by omega)]; exact b1.2.2.2.1
        · rw [fo _ _ (by omega)]; exact b1.2.2.2.2.1
        · rw [fo _ _ (by omega)]; exact b1.2.2.2.2.2.1
        · rw [fo _ _ (by omega)]; exact b1.2.2.2.2.2.2.1
        · rw [fo _ _ (by omega)]; exact b1.2.2.2.2.2.2.2
        · rw [fo _ _ (by omega)]; exact b2
        · simp (disch := omega) only [io]; exact b3
        · simp (disch := omega) only [io]; exact b4
        · intro i i0 i1
          replace i1 : i < L 2 0 + 1 := i1
          rw [j1 i i0, j2 i i0]
          show _ = (if i = L 2 0 then m else L 13 i) ∧ _ = (if i = L 2 0 then k else L 14 i)
          rw [← hg]
          by_cases e : i = g
          · rw [if_pos e, if_pos e, if_pos e, if_pos e]; exact ⟨rfl, rfl⟩
          · rw [if_neg e, if_neg e, if_neg e, if_neg e]; exact b5 i i0 (by omega)
        · simp (disch := omega) only [io]; exact b6
        · simp (disch := omega) only [io]; exact b7
        · simp (disch := omega) only [io]; exact b8
        · simp (disch := omega) only [io]; exact b9
        · simp (disch := omega) only [io]; exact b10
      · rw [fm_fi F5 (by omega), fm_fi F5 (by omega), s2.2 0 (by omega), s2.2 1 (by omega)]
        exact ⟨rfl, rfl⟩
theorem D_rop {L : Lk} {b : Nat} {T : Int → Int} {n p : Nat} {h : Hp} (hp : p ≤ n) (C : DP L b T n h) (NBL : NB L) (H : DT T n p h) (h0 : tso T n p = 0) : DO (if bgf L (L 2 0) 5 = 0 then a_rop L T n (tnx T n p) else .inr (bgf L (L 2 0) 5, (spn T n p : Nat))) b T n (F_md_readRope 88 h) h := by
  have hb := C.1.2.2.2.2.2
  have lw := C.2.1
  have lh := LW_h lw
  have lr := LW_r lw
  have N := C.1.2.2.2.1
  have c0 := C.2.2.2.2.2
  have gc : gI h b 12 2 = some (J (L 2 0)) := by rw [gI_J (YS_k C.1.2.2.1), C.2.2.1.1.2.2.1]; rfl
  unfold F_md_readRope
  rw [ck_e (MS_k C.1.1.1), bn_e (dl_r C.1), bn_e gc]
  refine Sd_beg (m := 5) C hp H h0 rfl (by decide) (by omega) (by omega) (fun z => by have := c0 z 2 (by omega); omega) (fun g B o => ?_) (fun t31 cm g1 C1 c1 p1b => ?_)
  · have M := B.1.1
    try simp only [j_0, j_1, j_2, j_3, j_4, j_5, j_6, j_7, j_8, j_9, j_10, j_11, j_12, j_13, j_14, j_15, j_16, j_17, j_18, j_19, j_20, j_21, j_22, j_23, j_24, j_25, j_26, j_27, j_28, j_29, j_30, j_31, j_32, j_33, j_34, j_35, j_36, j_37, j_38, j_39, j_40, j_41, j_42, j_43, j_44, j_45, j_46, j_47, j_48, j_49, j_50, j_51, j_52, j_57, j_59, j_63, j_74, j_75, j_93, j_97, j_99, j_100, j_122, j_200, j_255, j_300, j_465, j_496, j_900, j_999, j_1000, j_65536, j_65537, j_99999, j_252645135, j_858993459, j_1431655765, k_0, k_1, k_27, k_32, k_74, k_75, k_100, k_1000, k_65537]
    simp (disch := first | with_reducible assumption | omega | trivial) only [↓bn_s1, ↓bd_s1, ↓ei_l1, ↓ei_r1, ↓bn_if, ↓ilt_1, ↓ilt_0, ↓ieq_1, ↓ieq_0, bn_s1, bd_s1, ei_l1, ei_r1, J_add, J_sub, J_mul, J_neg, J_lt, J_le, J_eq, dv_J, rm_J, if_pos, if_neg, ↓reduceIte, bitJ, shlJ, orJ, j_0, j_1, j_2, j_3, j_4, j_5, j_6, j_7, j_8, j_9, j_10, j_11, j_12, j_13, j_14, j_15, j_16, j_17, j_18, j_19, j_20, j_21, j_22, j_23, j_24, j_25, j_26, j_27, j_28, j_29, j_30, j_31, j_32, j_33, j_34, j_35, j_36, j_37, j_38, j_39, j_40, j_41, j_42, j_43, j_44, j_45, j_46, j_47, j_48, j_49, j_50, j_51, j_52, j_57, j_59, j_63, j_74, j_75, j_93, j_97, j_99, j_100, j_122, j_200, j_255, j_300, j_465, j_496, j_900, j_999, j_1000, j_65536, j_65537, j_99999, j_252645135, j_858993459, j_1431655765, k_0, k_1, k_27, k_32, k_74, k_75, k_100, k_1000, k_65537, ↓bd_e ((D_rk5 (s := J 0) B o)), (D_rk5 (s := J 0) B o), ↓bd_e ((D_kn5 (s := J 0) B o)), (D_kn5 (s := J 0) B o), m_i M, ↓m_i_b M, m_p M, ↓m_p_b M, m_l M, ↓m_l_b M, m_pl M, ↓m_pl_b M, mr_15 M, ↓mr_15_b M, mr_16 M, ↓mr_16_b M, mr_17 M, ↓mr_17_b M, mr_18 M, ↓mr_18_b M, mr_21 M, ↓mr_21_b M, mr_22 M, ↓mr_22_b M, mr_23 M, ↓mr_23_b M, mr_24 M, ↓mr_24_b M, mr_25 M, ↓mr_25_b M, mr_30 M, ↓mr_30_b M, mr_31 M, ↓mr_31_b M, m90a M, ↓m90a_b M, m90s M, ↓m90s_b M, m91a M, ↓m91a_b M, m91s M, ↓m91s_b M, m92a M, ↓m92a_b M, m92s M, ↓m92s_b M, m93a M, ↓m93a_b M, m93s M, ↓m93s_b M, m94a M, ↓m94a_b M, m94s M, ↓m94s_b M, m95a M, ↓m95a_b M, m95s M, ↓m95s_b M, m96a M, ↓m96a_b M, m96s M, ↓m96s_b M, m97a M, ↓m97a_b M, m97s M, ↓m97s_b M, m98a M, ↓m98a_b M, m98s M, ↓m98s_b M, m99a M, ↓m99a_b M, m99s M, ↓m99s_b M, m100a M, ↓m100a_b M, m100s M, ↓m100s_b M, o, ↓bn_e ((D_go5 M o)), (D_go5 M o)]
  have h2 : L 2 0 < 5 := by omega
  obtain ⟨p1, hp1⟩ : ∃ p1, p1 = tnx T n p := ⟨_, rfl⟩
  rw [← hp1] at c1 p1b ⊢
  unfold a_rop
  refine Sd_rk (s := 0) C1 p1b c1 (by decide) (by omega) (fun g B o => ?_) (fun k1 g2 C2 c2 p2b => ?_)
  · have M := B.1.1
    try simp only [j_0, j_1, j_2, j_3, j_4, j_5, j_6, j_7, j_8, j_9, j_10, j_11, j_12, j_13, j_14, j_15, j_16, j_17, j_18, j_19, j_20, j_21, j_22, j_23, j_24, j_25, j_26, j_27, j_28, j_29, j_30, j_31, j_32, j_33, j_34, j_35, j_36, j_37, j_38, j_39, j_40, j_41, j_42, j_43, j_44, j_45, j_46, j_47, j_48, j_49, j_50, j_51, j_52, j_57, j_59, j_63, j_74, j_75, j_93, j_97, j_99, j_100, j_122, j_200, j_255, j_300, j_465, j_496, j_900, j_999, j_1000, j_65536, j_65537, j_99999, j_252645135, j_858993459, j_1431655765, k_0, k_1, k_27, k_32, k_74, k_75, k_100, k_1000, k_65537]
    simp (disch := first | with_reducible assumption | omega | trivial) only [↓bn_s1, ↓bd_s1, ↓ei_l1, ↓ei_r1, ↓bn_if, ↓ilt_1, ↓ilt_0, ↓ieq_1, ↓ieq_0, bn_s1, bd_s1, ei_l1, ei_r1, J_add, J_sub, J_mul, J_neg, J_lt, J_le, J_eq, dv_J, rm_J, if_pos, if_neg, ↓reduceIte, bitJ, shlJ, orJ, j_0, j_1, j_2, j_3, j_4, j_5, j_6, j_7, j_8, j_9, j_10, j_11, j_12, j_13, j_14, j_15, j_16, j_17, j_18, j_19, j_20, j_21, j_22, j_23, j_24, j_25, j_26, j_27, j_28, j_29, j_30, j_31, j_32, j_33, j_34, j_35, j_36, j_37, j_38, j_39, j_40, j_41, j_42, j_43, j_44, j_45, j_46, j_47, j_48, j_49, j_50, j_51, j_52, j_57, j_59, j_63, j_74, j_75, j_93, j_97, j_99, j_100, j_122, j_200, j_255, j_300, j_465, j_496, j_900, j_999, j_1000, j_65536, j_65537, j_99999, j_252645135, j_858993459, j_1431655765, k_0, k_1, k_27, k_32, k_74, k_75, k_100, k_1000, k_65537, ↓bd_e ((D_kn5 (s := J 0) B o)), (D_kn5 (s := J 0) B o), m_i M, ↓m_i_b M, m_p M, ↓m_p_b M, m_l M, ↓m_l_b M, m_pl M, ↓m_pl_b M, mr_15 M, ↓mr_15_b M, mr_16 M, ↓mr_16_b M, mr_17 M, ↓mr_17_b M, mr_18 M, ↓mr_18_b M, mr_21 M, ↓mr_21_b M, mr_22 M, ↓mr_22_b M, mr_23 M, ↓mr_23_b M, mr_24 M, ↓mr_24_b M, mr_25 M, ↓mr_25_b M, mr_30 M, ↓mr_30_b M, mr_31 M, ↓mr_31_b M, m90a M, ↓m90a_b M, m90s M, ↓m90s_b M, m91a M, ↓m91a_b M, m91s M, ↓m91s_b M, m92a M, ↓m92a_b M, m92s M, ↓m92s_b M, m93a M, ↓m93a_b M, m93s M, ↓m93s_b M, m94a M, ↓m94a_b M, m94s M, ↓m94s_b M, m95a M, ↓m95a_b M, m95s M, ↓m95s_b M, m96a M, ↓m96a_b M, m96s M, ↓m96s_b M, m97a M, ↓m97a_b M, m97s M, ↓m97s_b M, m98a M, ↓m98a_b M, m98s M, ↓m98s_b M, m99a M, ↓m99a_b M, m99s M, ↓m99s_b M, m100a M, ↓m100a_b M, m100s M, ↓m100s_b M, o, ↓bn_e ((D_go5 M o)), (D_go5 M o)]
  obtain ⟨p2, hp2⟩ : ∃ p2, p2 = tnx T n p1 := ⟨_, rfl⟩
  rw [← hp2] at c2 p2b ⊢
  have b1 := kn0 N NBL k1
  unfold a_rop1
  refine Sd_kn (s := 0) C2 p2b c2 (by decide) (by omega) (fun g B o => ?_) (fun k2 => ?_)
  · have M := B.1.1
    try simp only [j_0, j_1, j_2, j_3, j_4, j_5, j_6, j_7, j_8, j_9, j_10, j_11, j_12, j_13, j_14, j_15, j_16, j_17, j_18, j_19, j_20, j_21, j_22, j_23, j_24, j_25, j_26, j_27, j_28, j_29, j_30, j_31, j_32, j_33, j_34, j_35, j_36, j_37, j_38, j_39, j_40, j_41, j_42, j_43, j_44, j_45, j_46, j_47, j_48, j_49, j_50, j_51, j_52, j_57, j_59, j_63, j_74, j_75, j_93, j_97, j_99, j_100, j_122, j_200, j_255, j_300, j_465, j_496, j_900, j_999, j_1000, j_65536, j_65537, j_99999, j_252645135, j_858993459, j_1431655765, k_0, k_1, k_27, k_32, k_74, k_75, k_100, k_1000, k_65537]
    simp (disch := first | with_reducible assumption | omega | trivial) only [↓bn_s1, ↓bd_s1, ↓ei_l1, ↓ei_r1, ↓bn_if, ↓ilt_1, ↓ilt_0, ↓ieq_1, ↓ieq_0, bn_s1, bd_s1, ei_l1, ei_r1, J_add, J_sub, J_mul, J_neg, J_lt, J_le, J_eq, dv_J, rm_J, if_pos, if_neg, ↓reduceIte, bitJ, shlJ, orJ, j_0, j_1, j_2, j_3, j_4, j_5, j_6, j_7, j_8, j_9, j_10, j_11, j_12, j_13, j_14, j_15, j_16, j_17, j_18, j_19, j_20, j_21, j_22, j_23, j_24, j_25, j_26, j_27, j_28, j_29, j_30, j_31, j_32, j_33, j_34, j_35, j_36, j_37, j_38, j_39, j_40, j_41, j_42, j_43, j_44, j_45, j_46, j_47, j_48, j_49, j_50, j_51, j_52, j_57, j_59, j_63, j_74, j_75, j_93, j_97, j_99, j_100, j_122, j_200, j_255, j_300, j_465, j_496, j_900, j_999, j_1000, j_65536, j_65537, j_99999, j_252645135, j_858993459, j_1431655765, k_0, k_1, k_27, k_32, k_74, k_75, k_100, k_1000, k_65537, m_i M, ↓m_i_b M, m_p M, ↓m_p_b M, m_l M, ↓m_l_b M, m_pl M, ↓m_pl_b M, mr_15 M, ↓mr_15_b M, mr_16 M, ↓mr_16_b M, mr_17 M, ↓mr_17_b M, mr_18 M, ↓mr_18_b M, mr_21 M, ↓mr_21_b M, mr_22 M, ↓mr_22_b M, mr_23 M, ↓mr_23_b M, mr_24 M, ↓mr_24_b M, mr_25 M, ↓mr_25_b M, mr_30 M, ↓mr_30_b M, mr_31 M, ↓mr_31_b M, m90a M, ↓m90a_b M, m90s M, ↓m90s_b M, m91a M, ↓m91a_b M, m91s M, ↓m91s_b M, m92a M, ↓m92a_b M, m92s M, ↓m92s_b M, m93a M, ↓m93a_b M, m93s M, ↓m93s_b M, m94a M, ↓m94a_b M, m94s M, ↓m94s_b M, m95a M, ↓m95a_b M, m95s M, ↓m95s_b M, m96a M, ↓m96a_b M, m96s M, ↓m96s_b M, m97a M, ↓m97a_b M, m97s M, ↓m97s_b M, m98a M, ↓m98a_b M, m98s M, ↓m98s_b M, m99a M, ↓m99a_b M, m99s M, ↓m99s_b M, m100a M, ↓m100a_b M, m100s M, ↓m100s_b M, o, ↓bn_e ((D_go5 M o)), (D_go5 M o)]
  have b2 := kn0 N NBL k2
  have w0 := (pkf_0 N k2).1
  obtain ⟨x, hx⟩ : ∃ x, x = knb L T n p1 := ⟨_, rfl⟩
  obtain ⟨y, hy⟩ : ∃ y, y = knb L T n p2 := ⟨_, rfl⟩
  rw [← hx] at b1 ⊢
  rw [← hy] at b2 ⊢
  unfold a_rop2
  have M2 := C2.1.1.1
  have q9 : gI g2 88 13 9 = some (J (rso (tso T n p2))) := by rw [gI_J (MS_k M2), c2.2.2.1]
  have rb := rso_b T n p2 p2b
  rw [bn_e q9, if_neg (show ¬ J (rso (tso T n p2)) = (5 : Int32) by rw [j_5, J_eq (by omega) (by omega) (by omega) (by omega)]; omega)]
  by_cases xy : x = y
  · rw [if_pos xy, if_pos (congrArg J xy), bn_s1, ei_l1]
    obtain ⟨g3, e3, x3⟩ := D_flaw (x := 3) C2.1.1 p2b c2 (by omega)
    have M3 := MS_fm x3.1 M2
    have o3 := x3.2.1
    have e4 := D_go5 M3 o3
    refine DO_fd hb.1 x3 ?_
    try simp only [j_0, j_1, j_2, j_3, j_4, j_5, j_6, j_7, j_8, j_9, j_10, j_11, j_12, j_13, j_14, j_15, j_16, j_17, j_18, j_19, j_20, j_21, j_22, j_23, j_24, j_25, j_26, j_27, j_28, j_29, j_30, j_31, j_32, j_33, j_34, j_35, j_36, j_37, j_38, j_39, j_40, j_41, j_42, j_43, j_44, j_45, j_46, j_47, j_48, j_49, j_50, j_51, j_52, j_57, j_59, j_63, j_74, j_75, j_93, j_97, j_99, j_100, j_122, j_200, j_255, j_300, j_465, j_496, j_900, j_999, j_1000, j_65536, j_65537, j_99999, j_252645135, j_858993459, j_1431655765, k_0, k_1, k_27, k_32, k_74, k_75, k_100, k_1000, k_65537]
    simp (disch := first | with_reducible assumption | omega | trivial) only [↓bn_s1, ↓bd_s1, ↓ei_l1, ↓ei_r1, ↓bn_if, ↓ilt_1, ↓ilt_0, ↓ieq_1, ↓ieq_0, bn_s1, bd_s1, ei_l1, ei_r1, J_add, J_sub, J_mul, J_neg, J_lt, J_le, J_eq, dv_J, rm_J, if_pos, if_neg, ↓reduceIte, bitJ, shlJ, orJ, j_0, j_1, j_2, j_3, j_4, j_5, j_6, j_7, j_8, j_9, j_10, j_11, j_12, j_13, j_14, j_15, j_16, j_17, j_18, j_19, j_20, j_21, j_22, j_23, j_24, j_25, j_26, j_27, j_28, j_29, j_30, j_31, j_32, j_33, j_34, j_35, j_36, j_37, j_38, j_39, j_40, j_41, j_42, j_43, j_44, j_45, j_46, j_47, j_48, j_49, j_50, j_51, j_52, j_57, j_59, j_63, j_74, j_75, j_93, j_97, j_99, j_100, j_122, j_200, j_255, j_300, j_465, j_496, j_900, j_999, j_1000, j_65536, j_65537, j_99999, j_252645135, j_858993459, j_1431655765, k_0, k_1, k_27, k_32, k_74, k_75, k_100, k_1000, k_65537, ↓bn_e (e3), e3, ↓bn_e (e4), e4, m_i M3, ↓m_i_b M3, m_p M3, ↓m_p_b M3, m_l M3, ↓m_l_b M3, m_pl M3, ↓m_pl_b M3, mr_15 M3, ↓mr_15_b M3, mr_16 M3, ↓mr_16_b M3, mr_17 M3, ↓mr_17_b M3, mr_18 M3, ↓mr_18_b M3, mr_21 M3, ↓mr_21_b M3, mr_22 M3, ↓mr_22_b M3, mr_23 M3, ↓mr_23_b M3, mr_24 M3, ↓mr_24_b M3, mr_25 M3, ↓mr_25_b M3, mr_30 M3, ↓mr_30_b M3, mr_31 M3, ↓mr_31_b M3, m90a M3, ↓m90a_b M3, m90s M3, ↓m90s_b M3, m91a M3, ↓m91a_b M3, m91s M3, ↓m91s_b M3, m92a M3, ↓m92a_b M3, m92s M3, ↓m92s_b M3, m93a M3, ↓m93a_b M3, m93s M3, ↓m93s_b M3, m94a M3, ↓m94a_b M3, m94s M3, ↓m94s_b M3, m95a M3, ↓m95a_b M3, m95s M3, ↓m95s_b M3, m96a M3, ↓m96a_b M3, m96s M3, ↓m96s_b M3, m97a M3, ↓m97a_b M3, m97s M3, ↓m97s_b M3, m98a M3, ↓m98a_b M3, m98s M3, ↓m98s_b M3, m99a M3, ↓m99a_b M3, m99s M3, ↓m99s_b M3, m100a M3, ↓m100a_b M3, m100s M3, ↓m100s_b M3, o3]
  · rw [if_neg xy, ieq_0 xy (by omega) (by omega) (by omega) (by omega)]
    have R2 := C2.2.2.1
    have er := D_rpt (x := x) (y := y) lw C2.1.2.2.1 R2.1.2.2.1 R2.2.2.2.1 (by omega) (by omega) xy
    rw [bn_e (dl_r C2.1), bn_e er]
    by_cases rp : rpt L x y = true
    · rw [if_pos rp, if_pos rp, if_neg (by decide), bn_s1, ei_l1]
      obtain ⟨g3, e3, x3⟩ := D_flaw (x := 3) C2.1.1 p2b c2 (by omega)
      have M3 := MS_fm x3.1 M2
      have o3 := x3.2.1
      have e4 := D_go5 M3 o3
      refine DO_fd hb.1 x3 ?_
      try simp only [j_0, j_1, j_2, j_3, j_4, j_5, j_6, j_7, j_8, j_9, j_10, j_11, j_12, j_13, j_14, j_15, j_16, j_17, j_18, j_19, j_20, j_21, j_22, j_23, j_24, j_25, j_26, j_27, j_28, j_29, j_30, j_31, j_32, j_33, j_34, j_35, j_36, j_37, j_38, j_39, j_40, j_41, j_42, j_43, j_44, j_45, j_46, j_47, j_48, j_49, j_50, j_51, j_52, j_57, j_59, j_63, j_74, j_75, j_93, j_97, j_99, j_100, j_122, j_200, j_255, j_300, j_465, j_496, j_900, j_999, j_1000, j_65536, j_65537, j_99999, j_252645135, j_858993459, j_1431655765, k_0, k_1, k_27, k_32, k_74, k_75, k_100, k_1000, k_65537]
      simp (disch := first | with_reducible assumption | omega | trivial) only [↓bn_s1, ↓bd_s1, ↓ei_l1, ↓ei_r1, ↓bn_if, ↓ilt_1, ↓ilt_0, ↓ieq_1, ↓ieq_0, bn_s1, bd_s1, ei_l1, ei_r1, J_add, J_sub, J_mul, J_neg, J_lt, J_le, J_eq, dv_J, rm_J, if_pos, if_neg, ↓reduceIte, bitJ, shlJ, orJ, j_0, j_1, j_2, j_3, j_4, j_5, j_6, j_7, j_8, j_9, j_10, j_11, j_12, j_13, j_14, j_15, j_16, j_17, j_18, j_19, j_20, j_21, j_22, j_23, j_24, j_25, j_26, j_27, j_28, j_29, j_30, j_31, j_32, j_33, j_34, j_35, j_36, j_37, j_38, j_39, j_40, j_41, j_42, j_43, j_44, j_45, j_46, j_47, j_48, j_49, j_50, j_51, j_52, j_57, j_59, j_63, j_74, j_75, j_93, j_97, j_99, j_100, j_122, j_200, j_255, j_300, j_465, j_496, j_900, j_999, j_1000, j_65536, j_65537, j_99999, j_252645135, j_858993459, j_1431655765, k_0, k_1, k_27, k_32, k_74, k_75, k_100, k_1000, k_65537, ↓bn_e (e3), e3, ↓bn_e (e4), e4, m_i M3, ↓m_i_b M3, m_p M3, ↓m_p_b M3, m_l M3, ↓m_l_b M3, m_pl M3, ↓m_pl_b M3, mr_15 M3, ↓mr_15_b M3, mr_16 M3, ↓mr_16_b M3, mr_17 M3, ↓mr_17_b M3, mr_18 M3, ↓mr_18_b M3, mr_21 M3, ↓mr_21_b M3, mr_22 M3, ↓mr_22_b M3, mr_23 M3, ↓mr_23_b M3, mr_24 M3, ↓mr_24_b M3, mr_25 M3, ↓mr_25_b M3, mr_30 M3, ↓mr_30_b M3, mr_31 M3, ↓mr_31_b M3, m90a M3, ↓m90a_b M3, m90s M3, ↓m90s_b M3, m91a M3, ↓m91a_b M3, m91s M3, ↓m91s_b M3, m92a M3, ↓m92a_b M3, m92s M3, ↓m92s_b M3, m93a M3, ↓m93a_b M3, m93s M3, ↓m93s_b M3, m94a M3, ↓m94a_b M3, m94s M3, ↓m94s_b M3, m95a M3, ↓m95a_b M3, m95s M3, ↓m95s_b M3, m96a M3, ↓m96a_b M3, m96s M3, ↓m96s_b M3, m97a M3, ↓m97a_b M3, m97s M3, ↓m97s_b M3, m98a M3, ↓m98a_b M3, m98s M3, ↓m98s_b M3, m99a M3, ↓m99a_b M3, m99s M3, ↓m99s_b M3, m100a M3, ↓m100a_b M3, m100s M3, ↓m100s_b M3, o3]
    · rw [if_neg rp, if_neg rp, if_pos (by decide), bn_s1, ei_r1, bn_s1]
      refine Sd_go C2 p2b c2 (by omega) (fun g3 C3 c3 p3b => ?_)
      have M3 := C3.1.1.1
      have Y3 := C3.1.2.2.1
      have R3 := C3.2.2.1
      have q3 : fi g3 88 9 = rso (tso T n (tnx T n p2)) := c3.2.2.1
      have rb3 := rso_b T n _ p3b
      obtain ⟨g, hg⟩ : ∃ g, g = L 2 0 := ⟨_, rfl⟩
      obtain ⟨m, hm⟩ : ∃ m, m = min x y := ⟨_, rfl⟩
      obtain ⟨k, hk⟩ : ∃ k, k = max x y := ⟨_, rfl⟩
      rw [← hm, ← hk]
      have mb : 0 ≤ m ∧ m < k ∧ k < L 1 0 := by omega
      have r3 := dl_r C3.1
      have y3 : gR g3 b 12 13 = some (b + 5) := gR_e (YS_k Y3) (YS_r13 Y3)
      have v3 : fi g3 b 2 = g := by rw [R3.1.2.2.1, hg]; rfl
      have i3 : gI g3 b 12 2 = some (J g) := by rw [gI_J (YS_k Y3), v3]
      have n3 := YS_n13 Y3
      obtain ⟨g4, q4⟩ : ∃ g4, g4 = wA g3 (b + 5) g m := ⟨_, rfl⟩
      have f4 : Fm b (b + 19) g3 g4 := by rw [q4]; exact fm_wA (by omega) (by omega)
      have s4 : sI g3 100 (b + 5) (J g) (J m) = some g4 := by rw [q4]; exact sI_J (YS_k13 Y3) (by omega) (by omega) (by omega) (by omega)
      have Y4 := YS_fm f4 Y3
      have r4 : gR g4 88 13 4 = some b := gR_e (MS_k (MS_fm f4 M3)) (by rw [fm_fR f4]; exact C3.1.2.1)
      have y4 : gR g4 b 12 14 = some (b + 6) := gR_e (YS_k Y4) (YS_r14 Y4)
      have v4 : fi g4 b 2 = g := by rw [q4]; exact v3
      have i4 : gI g4 b 12 2 = some (J g) := by rw [gI_J (YS_k Y4), v4]
      have n4 := YS_n14 Y4
      obtain ⟨g5, q5⟩ : ∃ g5, g5 = wA g4 (b + 6) g k := ⟨_, rfl⟩
      have f5 : Fm b (b + 19) g4 g5 := by rw [q5]; exact fm_wA (by omega) (by omega)
      have s5 : sI g4 100 (b + 6) (J g) (J k) = some g5 := by rw [q5]; exact sI_J (YS_k14 Y4) (by omega) (by omega) (by omega) (by omega)
      have Y5 := YS_fm f5 Y4
      have r5 : gR g5 88 13 4 = some b := gR_e (MS_k (MS_fm f5 (MS_fm f4 M3))) (by rw [fm_fR f5, fm_fR f4]; exact C3.1.2.1)
      have v5 : fi g5 b 2 = g := by rw [q5]; exact v4
      have i5 : gI g5 b 12 2 = some (J g) := by rw [gI_J (YS_k Y5), v5]
      obtain ⟨g6, q6⟩ : ∃ g6, g6 = wF g5 b 2 (g + 1) := ⟨_, rfl⟩
      have f6 : Fm b (b + 19) g5 g6 := by rw [q6]; exact fm_wF (by omega) (by omega)
      have s6 : pI g5 b 12 2 (J (g + 1)) = some g6 := by rw [q6]; exact pI_J (YS_k Y5)
      have F6 := fm_tr f4 (fm_tr f5 f6)
      refine DO_l p3b (h' := g6) ?_ (df_b hb.1 F6 (by omega) (by omega)) ?_ (DT_fm F6 (by omega) c3) (fm_fi F6 (by omega) 12)
      · by_cases lt : x < y
        · have em : m = x := by omega
          have ek : k = y := by omega
          rw [em] at s4
          rw [ek] at s5
          try simp only [j_0, j_1, j_2, j_3, j_4, j_5, j_6, j_7, j_8, j_9, j_10, j_11, j_12, j_13, j_14, j_15, j_16, j_17, j_18, j_19, j_20, j_21, j_22, j_23, j_24, j_25, j_26, j_27, j_28, j_29, j_30, j_31, j_32, j_33, j_34, j_35, j_36, j_37, j_38, j_39, j_40, j_41, j_42, j_43, j_44, j_45, j_46, j_47, j_48, j_49, j_50, j_51, j_52, j_57, j_59, j_63, j_74, j_75, j_93, j_97, j_99, j_100, j_122, j_200, j_255, j_300, j_465, j_496, j_900, j_999, j_1000, j_65536, j_65537, j_99999, j_252645135, j_858993459, j_1431655765, k_0, k_1, k_27, k_32, k_74, k_75, k_100, k_1000, k_65537]
          simp (disch := first | with_reducible assumption | omega | trivial) only [↓bn_s1, ↓bd_s1, ↓ei_l1, ↓ei_r1, ↓bn_if, ↓ilt_1, ↓ilt_0, ↓ieq_1, ↓ieq_0, bn_s1, bd_s1, ei_l1, ei_r1, J_add, J_sub, J_mul, J_neg, J_lt, J_le, J_eq, dv_J, rm_J, if_pos, if_neg, ↓reduceIte, bitJ, shlJ, orJ, j_0, j_1, j_2, j_3, j_4, j_5, j_6, j_7, j_8, j_9, j_10, j_11, j_12, j_13, j_14, j_15, j_16, j_17, j_18, j_19, j_20, j_21, j_22, j_23, j_24, j_25, j_26, j_27, j_28, j_29, j_30, j_31, j_32, j_33, j_34, j_35, j_36, j_37, j_38, j_39, j_40, j_41, j_42, j_43, j_44, j_45, j_46, j_47, j_48, j_49, j_50, j_51, j_52, j_57, j_59, j_63, j_74, j_75, j_93, j_97, j_99, j_100, j_122, j_200, j_255, j_300, j_465, j_496, j_900, j_999, j_1000, j_65536, j_65537, j_99999, j_252645135, j_858993459, j_1431655765, k_0, k_1, k_27, k_32, k_74, k_75, k_100, k_1000, k_65537, m_i M3, ↓m_i_b M3, m_p M3, ↓m_p_b M3, m_l M3, ↓m_l_b M3, m_pl M3, ↓m_pl_b M3, mr_15 M3, ↓mr_15_b M3, mr_16 M3, ↓mr_16_b M3, mr_17 M3, ↓mr_17_b M3, mr_18 M3, ↓mr_18_b M3, mr_21 M3, ↓mr_21_b M3, mr_22 M3, ↓mr_22_b M3, mr_23 M3, ↓mr_23_b M3, mr_24 M3, ↓mr_24_b M3, mr_25 M3, ↓mr_25_b M3, mr_30 M3, ↓mr_30_b M3, mr_31 M3, ↓mr_31_b M3, m90a M3, ↓m90a_b M3, m90s M3, ↓m90s_b M3, m91a M3, ↓m91a_b M3, m91s M3, ↓m91s_b M3, m92a M3, ↓m92a_b M3, m92s M3, ↓m92s_b M3, m93a M3, ↓m93a_b M3, m93s M3, ↓m93s_b M3, m94a M3, ↓m94a_b M3, m94s M3, ↓m94s_b M3, m95a M3, ↓m95a_b M3, m95s M3, ↓m95s_b M3, m96a M3, ↓m96a_b M3, m96s M3, ↓m96s_b M3, m97a M3, ↓m97a_b M3, m97s M3, ↓m97s_b M3, m98a M3, ↓m98a_b M3, m98s M3, ↓m98s_b M3, m99a M3, ↓m99a_b M3, m99s M3, ↓m99s_b M3, m100a M3, ↓m100a_b M3, m100s M3, ↓m100s_b M3, q3, ↓bn_e (r3), r3, ↓bn_e (y3), y3, ↓bn_e (i3), i3, ↓bn_e (s4), s4, ↓bn_e (r4), r4, ↓bn_e (y4), y4, ↓bn_e (i4), i4, ↓bn_e (s5), s5, ↓bn_e (r5), r5, ↓bn_e (i5), i5, ↓bn_e (s6), s6]
        · have em : m = y := by omega
          have ek : k = x := by omega
          rw [em] at s4
          rw [ek] at s5
          try simp only [j_0, j_1, j_2, j_3, j_4, j_5, j_6, j_7, j_8, j_9, j_10, j_11, j_12, j_13, j_14, j_15, j_16, j_17, j_18, j_19, j_20, j_21, j_22, j_23, j_24, j_25, j_26, j_27, j_28, j_29, j_30, j_31, j_32, j_33, j_34, j_35, j_36, j_37, j_38, j_39, j_40, j_41, j_42, j_43, j_44, j_45, j_46, j_47, j_48, j_49, j_50, j_51, j_52, j_57, j_59, j_63, j_74, j_75, j_93, j_97, j_99, j_100, j_122, j_200, j_255, j_300, j_465, j_496, j_900, j_999, j_1000, j_65536, j_65537, j_99999, j_252645135, j_858993459, j_1431655765, k_0, k_1, k_27, k_32, k_74, k_75, k_100, k_1000, k_65537]
          simp (disch := first | with_reducible assumption | omega | trivial) only [↓bn_s1, ↓bd_s1, ↓ei_l1, ↓ei_r1, ↓bn_if, ↓ilt_1, ↓ilt_0, ↓ieq_1, ↓ieq_0, bn_s1, bd_s1, ei_l1, ei_r1, J_add, J_sub, J_mul, J_neg, J_lt, J_le, J_eq, dv_J, rm_J, if_pos, if_neg, ↓reduceIte, bitJ, shlJ, orJ, j_0, j_1, j_2, j_3, j_4, j_5, j_6, j_7, j_8, j_9, j_10, j_11, j_12, j_13, j_14, j_15, j_16, j_17, j_18, j_19, j_20, j_21, j_22, j_23, j_24, j_25, j_26, j_27, j_28, j_29, j_30, j_31, j_32, j_33, j_34, j_35, j_36, j_37, j_38, j_39, j_40, j_41, j_42, j_43, j_44, j_45, j_46, j_47, j_48, j_49, j_50, j_51, j_52, j_57, j_59, j_63, j_74, j_75, j_93, j_97, j_99, j_100, j_122, j_200, j_255, j_300, j_465, j_496, j_900, j_999, j_1000, j_65536, j_65537, j_99999, j_252645135, j_858993459, j_1431655765, k_0, k_1, k_27, k_32, k_74, k_75, k_100, k_1000, k_65537, m_i M3, ↓m_i_b M3, m_p M3, ↓m_p_b M3, m_l M3, ↓m_l_b M3, m_pl M3, ↓m_pl_b M3, mr_15 M3, ↓mr_15_b M3, mr_16 M3, ↓mr_16_b M3, mr_17 M3, ↓mr_17_b M3, mr_18 M3, ↓mr_18_b M3, mr_21 M3, ↓mr_21_b M3, mr_22 M3, ↓mr_22_b M3, mr_23 M3, ↓mr_23_b M3, mr_24 M3, ↓mr_24_b M3, mr_25 M3, ↓mr_25_b M3, mr_30 M3, ↓mr_30_b M3, mr_31 M3, ↓mr_31_b M3, m90a M3, ↓m90a_b M3, m90s M3, ↓m90s_b M3, m91a M3, ↓m91a_b M3, m91s M3, ↓m91s_b M3, m92a M3, ↓m92a_b M3, m92s M3, ↓m92s_b M3, m93a M3, ↓m93a_b M3, m93s M3, ↓m93s_b M3, m94a M3, ↓m94a_b M3, m94s M3, ↓m94s_b M3, m95a M3, ↓m95a_b M3, m95s M3, ↓m95s_b M3, m96a M3, ↓m96a_b M3, m96s M3, ↓m96s_b M3, m97a M3, ↓m97a_b M3, m97s M3, ↓m97s_b M3, m98a M3, ↓m98a_b M3, m98s M3, ↓m98s_b M3, m99a M3, ↓m99a_b M3, m99s M3, ↓m99s_b M3, m100a M3, ↓m100a_b M3, m100s M3, ↓m100s_b M3, q3, ↓bn_e (r3), r3, ↓bn_e (y3), y3, ↓bn_e (i3), i3, ↓bn_e (s4), s4, ↓bn_e (r4), r4, ↓bn_e (y4), y4, ↓bn_e (i4), i4, ↓bn_e (s5), s5, ↓bn_e (r5), r5, ↓bn_e (i5), i5, ↓bn_e (s6), s6]
      · have fo : ∀ a j, (a ≠ b ∨ j ≠ 2) → fi g6 a j = fi g3 a j := fun a j ha => by rw [q6, fi_ne ha, q5, q4]; rfl
        have io : ∀ a, a ≠ b + 5 → a ≠ b + 6 → ∀ z, ia g6 a z = ia g3 a z := fun a a1 a2 z => by
          rw [q6]
          show ia g5 a z = _
          rw [q5, ia_wA a2, q4, ia_wA a1]
        have j1 : ∀ z, 0 ≤ z → ia g6 (b + 5) z = if z = g then m else ia g3 (b + 5) z := fun z z0 => by
          rw [q6]
          show ia g5 (b + 5) z = _
          rw [q5, ia_wA (by omega), q4]
          exact ia_if (by omega) z0 (by omega) (by omega) (by omega)
        have j2 : ∀ z, 0 ≤ z → ia g6 (b + 6) z = if z = g then k else ia g3 (b + 6) z := fun z z0 => by
          rw [q6]
          show ia g5 (b + 6) z = _
          rw [q5, ia_if (by omega) z0 (by omega) (by omega) (by omega), q4, ia_wA (by omega)]
        refine DP_u F6 (fo b 8 (by omega)) C3 (LW_rop lw h2 ⟨mb.1, mb.2.1⟩ mb.2.2) N ?_ ?_ (fun _ y => y) C3.2.2.2.2.1 (fun y => by have y' : L 31 0 = 0 := y; omega)
        · obtain ⟨b1, b2, b3, b4, b5, b6, b7, b8, b9⟩ := R3
          refine ⟨⟨?_, ?_, ?_, ?_, ?_, ?_, ?_, ?_⟩, ?_, ?_, ?_, ?_, ?_, ?_, ?_, ?_⟩
          · rw [fo _ _ (by omega)]; exact b1.1
          · rw [fo _ _ (by omega)]; exact b1.2.1
          · rw [q6, fi_same (by omega) (by omega), hg]; rfl
          · rw [fo _ _ (by omega)]; exact b1.2.2.2.1
          · rw [fo _ _ (by omega)]; exact b1.2.2.2.2.1
          · rw [fo _ _ (by omega)]; exact b1.2.2.2.2.2.1
          · rw [fo _ _ (by omega)]; exact b1.2.2.2.2.2.2.1
          · rw [fo _ _ (by omega)]; exact b1.2.2.2.2.2.2.2
          · simp (disch := omega) only [io]; exact b2
          · simp (disch := omega) only [io]; exact b3
          · intro i i0 i1
            replace i1 : i < L 2 0 + 1 := i1
            rw [j1 i i0, j2 i i0]
            show _ = (if i = L 2 0 then m else L 13 i) ∧ _ = (if i = L 2 0 then k else L 14 i)
            rw [← hg]
            by_cases e : i = g
            · rw [if_pos e, if_pos e, if_pos e, if_pos e]; exact ⟨rfl, rfl⟩
            · rw [if_neg e, if_neg e, if_neg e, if_neg e]; exact b4 i i0 (show i < L 2 0 by omega)
          · simp (disch := omega) only [io]; exact b5
          · simp (disch := omega) only [io]; exact b6
          · simp (disch := omega) only [io]; exact b7
          · simp (disch := omega) only [io]; exact b8
          · simp (disch := omega) only [io]; exact b9
        · intro i hi
          obtain ⟨m, m1, m2, m3⟩ := C3.2.2.2.1 i hi
          exact ⟨m, m1, by rw [io _ (by omega) (by omega)]; exact m2, m3⟩
