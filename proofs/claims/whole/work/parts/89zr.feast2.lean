/-! feast, in the reference -/
theorem D_fea {L : Lk} {b : Nat} {T : Int → Int} {n p : Nat} {h : Hp} (hp : p ≤ n) (C : DP L b T n h) (NBL : NB L) (H : DT T n p h) (h0 : tso T n p = 0) : DO (if bgf L (L 5 0) 4 = 0 then a_fea L T n (tnx T n p) else .inr (bgf L (L 5 0) 4, (spn T n p : Nat))) b T n (F_md_readFeast 88 h) h := by
  have B := C.1
  have M := B.1.1
  have hb := B.2.2.2.2.2
  have er := dl_r B
  have LX := C.2.2.1
  have Y := B.2.2.1
  have lw := C.2.1
  have lf := LW_f lw
  have lh := LW_h lw
  have N := B.2.2.2.1
  have c0 := C.2.2.2.2.2
  have gc : gI h b 12 5 = some (J (L 5 0)) := by rw [gI_J (YS_k Y), LX.1.2.2.2.2.2.1]; rfl
  have w := D_beg (c := L 5 0) (m := 4) hp C H h0 (by omega) (by omega) (fun z => by have := c0 z 5 (by omega); omega)
  by_cases s : bgf L (L 5 0) 4 = 0
  · rw [if_pos s]
    obtain ⟨h1, e1, g1, c1⟩ := w.1 s
    clear w
    have p1b := (tln_b T n p hp).1
    obtain ⟨p1, hp1⟩ : ∃ p1, p1 = tnx T n p := ⟨_, rfl⟩
    rw [← hp1] at c1 p1b ⊢
    have C1 := DP_fm g1.1 (by omega) C
    have h6 : L 5 0 < 4 := by
      by_cases y : L 5 0 = 4
      · unfold bgf at s
        by_cases t : L 31 0 = 0
        · rw [if_pos t] at s; omega
        · rw [if_neg t, if_pos y] at s; omega
      · omega
    have t31 : ¬ L 31 0 = 0 := fun t => by unfold bgf at s; rw [if_pos t] at s; omega
    unfold a_fea
    have w := D_rk (s := 0) C1.1 p1b c1 (by omega)
    by_cases c : pkf L T n p1 0 = 0
    · rw [if_pos c]
      obtain ⟨h2, e2, g2, c2⟩ := w.1 c
      clear w
      have k1 := pkf_0 N c
      have d1 : knb L T n p1 < L 1 0 := (NBL.2 _ k1.2.1 k1.2.2.1).1 k1.2.2.2.1
      have C2 := DP_fm g2.1 (by omega) C1
      have pp := (tln_b T n p1 p1b).1
      obtain ⟨pa, hpa⟩ : ∃ pa, pa = tnx T n p1 := ⟨_, rfl⟩
      rw [← hpa] at c2 pp ⊢
      have p2b := (tln_b T n pa pp).1
      have w := D_part (k := 20) (lo := 0) (hi := 9) C2.1.1 pp c2 (by omega) (by omega) (by omega)
      obtain ⟨p2, hp2⟩ : ∃ p2, p2 = tnx T n pa := ⟨_, rfl⟩
      rw [← hp2] at w p2b
      unfold a_fea1
      by_cases c' : isW T n pa 20 = true
      · rw [if_pos c', ← hp2]
        unfold a_fea2
        by_cases z : pwf T n p2 0 9 = 0
        · rw [if_pos z]
          obtain ⟨h3, e3, g3, c3⟩ := w.1 c' z
          clear w
          replace e3 : F_md_readPart 88 1000023 (J 0) (J 9) h2 = some (J (tnm T n p2), h3) := e3
          have tb := pwf_0 z
          have C3 := DP_fm g3.1 (by omega) C2
          have p3b := (tln_b T n p2 p2b).1
          obtain ⟨p3, hp3⟩ : ∃ p3, p3 = tnx T n p2 := ⟨_, rfl⟩
          rw [← hp3] at c3 p3b ⊢
          have p4b := (tln_b T n p3 p3b).1
          have w := D_part (k := 21) (lo := 0) (hi := 50) C3.1.1 p3b c3 (by omega) (by omega) (by omega)
          obtain ⟨p4, hp4⟩ : ∃ p4, p4 = tnx T n p3 := ⟨_, rfl⟩
          rw [← hp4] at w p4b
          have p5b := (tln_b T n p4 p4b).1
          unfold a_fea3
          by_cases y : isW T n p3 21 = true
          · rw [if_pos y, ← hp4]
            unfold a_fea5
            by_cases z' : pwf T n p4 0 50 = 0
            · rw [if_pos z']
              obtain ⟨h4, e4, g4, c4⟩ := w.1 y z'
              clear w
              replace e4 : F_md_readPart 88 1000024 (J 0) (J 50) h3 = some (J (tnm T n p4), h4) := e4
              have tb' := pwf_0 z'
              have C4 := DP_fm g4.1 (by omega) C3
              have B4 := C4.1
              have M4 := B4.1.1
              have Y4 := B4.2.2.1
              have R4 := C4.2.2.1
              have q9 : fi h4 88 9 = rso (tso T n (tnx T n p4)) := c4.2.2.1
              have rb := rso_b T n _ p5b
              have G := gf_tr g1 (gf_tr g2 (gf_tr g3 g4))
              obtain ⟨d, hd⟩ : ∃ d, d = knb L T n p1 := ⟨_, rfl⟩
              obtain ⟨x, hx⟩ : ∃ x, x = tnm T n p2 := ⟨_, rfl⟩
              obtain ⟨q, hq⟩ : ∃ q, q = tnm T n p4 := ⟨_, rfl⟩
              obtain ⟨g, hg⟩ : ∃ g, g = L 5 0 := ⟨_, rfl⟩
              rw [← hd] at e2 k1 d1 ⊢
              rw [← hx] at e3 tb ⊢
              rw [← hq] at e4 tb' ⊢
              have r4 := dl_r B4
              have y1 : gR h4 b 12 19 = some (b + 11) := gR_e (YS_k Y4) (YS_r19 Y4)
              have v6 : fi h4 b 5 = g := by rw [R4.1.2.2.2.2.2.1, hg]; rfl
              have i4 : gI h4 b 12 5 = some (J g) := by rw [gI_J (YS_k Y4), v6]
              have n1 := YS_n19 Y4
              obtain ⟨h5, q5⟩ : ∃ h5, h5 = wA h4 (b + 11) g d := ⟨_, rfl⟩
              have f5 : Fm b (b + 19) h4 h5 := by rw [q5]; exact fm_wA (by omega) (by omega)
              have s5 : sI h4 100 (b + 11) (J g) (J d) = some h5 := by rw [q5]; exact sI_J (YS_k19 Y4) (by omega) (by omega) (by omega) (by omega)
              have Y5 := YS_fm f5 Y4
              have r5 : gR h5 88 13 4 = some b := gR_e (MS_k (MS_fm f5 M4)) (by rw [fm_fR f5]; exact B4.2.1)
              have y2 : gR h5 b 12 20 = some (b + 12) := gR_e (YS_k Y5) (YS_r20 Y5)
              have v5 : fi h5 b 5 = g := by rw [q5]; exact v6
              have i5 : gI h5 b 12 5 = some (J g) := by rw [gI_J (YS_k Y5), v5]
              have n2 := YS_n20 Y5
              obtain ⟨h6', q6⟩ : ∃ h6, h6 = wA h5 (b + 12) g x := ⟨_, rfl⟩
              have f6 : Fm b (b + 19) h5 h6' := by rw [q6]; exact fm_wA (by omega) (by omega)
              have s6 : sI h5 100 (b + 12) (J g) (J x) = some h6' := by rw [q6]; exact sI_J (YS_k20 Y5) (by omega) (by omega) (by omega) (by omega)
              have Y6 := YS_fm f6 Y5
              have r6 : gR h6' 88 13 4 = some b := gR_e (MS_k (MS_fm f6 (MS_fm f5 M4))) (by rw [fm_fR f6, fm_fR f5]; exact B4.2.1)
              have y3 : gR h6' b 12 21 = some (b + 13) := gR_e (YS_k Y6) (YS_r21 Y6)
              have v6' : fi h6' b 5 = g := by rw [q6]; exact v5
              have i6 : gI h6' b 12 5 = some (J g) := by rw [gI_J (YS_k Y6), v6']
              have n3 := YS_n21 Y6
              obtain ⟨h7, q7⟩ : ∃ h7, h7 = wA h6' (b + 13) g q := ⟨_, rfl⟩
              have f7 : Fm b (b + 19) h6' h7 := by rw [q7]; exact fm_wA (by omega) (by omega)
              have s7 : sI h6' 100 (b + 13) (J g) (J q) = some h7 := by rw [q7]; exact sI_J (YS_k21 Y6) (by omega) (by omega) (by omega) (by omega)
              have Y7 := YS_fm f7 Y6
              have r7 : gR h7 88 13 4 = some b := gR_e (MS_k (MS_fm f7 (MS_fm f6 (MS_fm f5 M4)))) (by rw [fm_fR f7, fm_fR f6, fm_fR f5]; exact B4.2.1)
              have i7 : gI h7 b 12 5 = some (J g) := by rw [gI_J (YS_k Y7), q7]; exact congrArg (fun y => some (J y)) v6'
              obtain ⟨h8, q8⟩ : ∃ h8, h8 = wF h7 b 5 (g + 1) := ⟨_, rfl⟩
              have f8 : Fm b (b + 19) h7 h8 := by rw [q8]; exact fm_wF (by omega) (by omega)
              have s8 : pI h7 b 12 5 (J (g + 1)) = some h8 := by rw [q8]; exact pI_J (YS_k Y7)
              have F8 := fm_tr f5 (fm_tr f6 (fm_tr f7 f8))
              refine DO_l p5b (h' := h8) ?_ (df_tr (df_gf hb.1 G) (df_b hb.1 F8 (by omega) (by omega))) ?_ (DT_fm F8 (by omega) c4) ?_
              · unfold F_md_readFeast
                rw [ck_e (MS_k M)]
                try simp only [j_0, j_1, j_2, j_3, j_4, j_5, j_6, j_7, j_8, j_9, j_10, j_11, j_12, j_13, j_14, j_15, j_16, j_17, j_18, j_19, j_20, j_21, j_22, j_23, j_24, j_25, j_26, j_27, j_28, j_29, j_30, j_31, j_32, j_33, j_34, j_35, j_36, j_37, j_38, j_39, j_40, j_41, j_42, j_43, j_44, j_45, j_46, j_47, j_48, j_49, j_50, j_51, j_52, j_57, j_59, j_63, j_74, j_75, j_93, j_97, j_99, j_100, j_122, j_200, j_255, j_300, j_465, j_496, j_900, j_999, j_1000, j_65536, j_65537, j_99999, j_252645135, j_858993459, j_1431655765, k_0, k_1, k_27, k_32, k_74, k_75, k_100, k_1000, k_65537]
                simp (disch := first | with_reducible assumption | omega | trivial) only [↓bn_s1, ↓bd_s1, ↓ei_l1, ↓ei_r1, ↓bn_if, ↓ilt_1, ↓ilt_0, ↓ieq_1, ↓ieq_0, bn_s1, bd_s1, ei_l1, ei_r1, J_add, J_sub, J_mul, J_neg, J_lt, J_le, J_eq, dv_J, rm_J, if_pos, if_neg, ↓reduceIte, bitJ, shlJ, orJ, j_0, j_1, j_2, j_3, j_4, j_5, j_6, j_7, j_8, j_9, j_10, j_11, j_12, j_13, j_14, j_15, j_16, j_17, j_18, j_19, j_20, j_21, j_22, j_23, j_24, j_25, j_26, j_27, j_28, j_29, j_30, j_31, j_32, j_33, j_34, j_35, j_36, j_37, j_38, j_39, j_40, j_41, j_42, j_43, j_44, j_45, j_46, j_47, j_48, j_49, j_50, j_51, j_52, j_57, j_59, j_63, j_74, j_75, j_93, j_97, j_99, j_100, j_122, j_200, j_255, j_300, j_465, j_496, j_900, j_999, j_1000, j_65536, j_65537, j_99999, j_252645135, j_858993459, j_1431655765, k_0, k_1, k_27, k_32, k_74, k_75, k_100, k_1000, k_65537, ↓bn_e (er), er, ↓bn_e (gc), gc, ↓bn_e (e1), e1, ↓bd_e (e2), e2, ↓bd_e (e3), e3, ↓bd_e (e4), e4, m_i M4, ↓m_i_b M4, m_p M4, ↓m_p_b M4, m_l M4, ↓m_l_b M4, m_pl M4, ↓m_pl_b M4, mr_15 M4, ↓mr_15_b M4, mr_16 M4, ↓mr_16_b M4, mr_17 M4, ↓mr_17_b M4, mr_18 M4, ↓mr_18_b M4, mr_21 M4, ↓mr_21_b M4, mr_22 M4, ↓mr_22_b M4, mr_23 M4, ↓mr_23_b M4, mr_24 M4, ↓mr_24_b M4, mr_25 M4, ↓mr_25_b M4, mr_30 M4, ↓mr_30_b M4, mr_31 M4, ↓mr_31_b M4, m90a M4, ↓m90a_b M4, m90s M4, ↓m90s_b M4, m91a M4, ↓m91a_b M4, m91s M4, ↓m91s_b M4, m92a M4, ↓m92a_b M4, m92s M4, ↓m92s_b M4, m93a M4, ↓m93a_b M4, m93s M4, ↓m93s_b M4, m94a M4, ↓m94a_b M4, m94s M4, ↓m94s_b M4, m95a M4, ↓m95a_b M4, m95s M4, ↓m95s_b M4, m96a M4, ↓m96a_b M4, m96s M4, ↓m96s_b M4, m97a M4, ↓m97a_b M4, m97s M4, ↓m97s_b M4, m98a M4, ↓m98a_b M4, m98s M4, ↓m98s_b M4, m99a M4, ↓m99a_b M4, m99s M4, ↓m99s_b M4, m100a M4, ↓m100a_b M4, m100s M4, ↓m100s_b M4, q9, ↓bn_e (r4), r4, ↓bn_e (y1), y1, ↓bn_e (i4), i4, ↓bn_e (s5), s5, ↓bn_e (r5), r5, ↓bn_e (y2), y2, ↓bn_e (i5), i5, ↓bn_e (s6), s6, ↓bn_e (r6), r6, ↓bn_e (y3), y3, ↓bn_e (i6), i6, ↓bn_e (s7), s7, ↓bn_e (r7), r7, ↓bn_e (i7), i7, ↓bn_e (s8), s8]
              · have fo : ∀ a j, (a ≠ b ∨ j ≠ 5) → fi h8 a j = fi h4 a j := fun a j ha => by rw [q8, fi_ne ha, q7, q6, q5]; rfl
                have io : ∀ a, a ≠ b + 11 → a ≠ b + 12 → a ≠ b + 13 → ∀ z, ia h8 a z = ia h4 a z := fun a a1 a2 a3 z => by
                  rw [q8]
                  show ia h7 a z = _
                  rw [q7, ia_wA a3, q6, ia_wA a2, q5, ia_wA a1]
                have j1 : ∀ z, 0 ≤ z → ia h8 (b + 11) z = if z = g then d else ia h4 (b + 11) z := fun z z0 => by
                  rw [q8]
                  show ia h7 (b + 11) z = _
                  rw [q7, ia_wA (by omega), q6, ia_wA (by omega), q5]
                  exact ia_if (by omega) z0 (by omega) (by omega) (by omega)
                have j2 : ∀ z, 0 ≤ z → ia h8 (b + 12) z = if z = g then x else ia h4 (b + 12) z := fun z z0 => by
                  rw [q8]
                  show ia h7 (b + 12) z = _
                  rw [q7, ia_wA (by omega), q6, ia_if (by omega) z0 (by omega) (by omega) (by omega), q5, ia_wA (by omega)]
                have j3 : ∀ z, 0 ≤ z → ia h8 (b + 13) z = if z = g then q else ia h4 (b + 13) z := fun z z0 => by
                  rw [q8]
                  show ia h7 (b + 13) z = _
                  rw [q7, ia_if (by omega) z0 (by omega) (by omega) (by omega), q6, ia_wA (by omega), q5, ia_wA (by omega)]
                refine DP_u F8 (fo b 8 (by omega)) C4 (LW_fea lw h6 ⟨by omega, d1⟩ ⟨tb.2.1, tb.2.2⟩ ⟨tb'.2.1, tb'.2.2⟩) N ?_ ?_ (fun _ y => y) C4.2.2.2.2.1 (fun y => absurd y t31)
                · obtain ⟨b1, b2, b3, b4, b5, b6, b7, b8, b9⟩ := R4
                  refine ⟨⟨?_, ?_, ?_, ?_, ?_, ?_, ?_, ?_⟩, ?_, ?_, ?_, ?_, ?_, ?_, ?_, ?_⟩
                  · rw [fo _ _ (by omega)]; exact b1.1
                  · rw [fo _ _ (by omega)]; exact b1.2.1
                  · rw [fo _ _ (by omega)]; exact b1.2.2.1
                  · rw [fo _ _ (by omega)]; exact b1.2.2.2.1
                  · rw [fo _ _ (by omega)]; exact b1.2.2.2.2.1
                  · rw [q8, fi_same (by omega) (by omega), hg]; rfl
                  · rw [fo _ _ (by omega)]; exact b1.2.2.2.2.2.2.1
                  · rw [fo _ _ (by omega)]; exact b1.2.2.2.2.2.2.2
                  · simp (disch := omega) only [io]; exact b2
                  · simp (disch := omega) only [io]; exact b3
                  · simp (disch := omega) only [io]; exact b4
                  · simp (disch := omega) only [io]; exact b5
                  · simp (disch := omega) only [io]; exact b6
                  · intro i i0 i1
                    replace i1 : i < L 5 0 + 1 := i1
                    rw [j1 i i0, j2 i i0, j3 i i0]
                    show _ = (if i = L 5 0 then d else L 19 i) ∧ _ = (if i = L 5 0 then x else L 20 i) ∧ _ = (if i = L 5 0 then q else L 21 i)
                    rw [← hg]
                    by_cases e : i = g
                    · rw [if_pos e, if_pos e, if_pos e, if_pos e, if_pos e, if_pos e]; exact ⟨rfl, rfl, rfl⟩
                    · rw [if_neg e, if_neg e, if_neg e, if_neg e, if_neg e, if_neg e]; exact b7 i i0 (show i < L 5 0 by omega)
                  · simp (disch := omega) only [io]; exact b8
                  · simp (disch := omega) only [io]; exact b9
                · intro i hi
                  obtain ⟨m, m1, m2, m3⟩ := C4.2.2.2.1 i hi
                  exact ⟨m, m1, by rw [io _ (by omega) (by omega) (by omega)]; exact m2, m3⟩
              · rw [fm_fi F8 (by omega)]; exact G.2 12 (by omega)
            · rw [if_neg z']
              obtain ⟨hm, h4, e4, g4, f4⟩ := w.2.1 y z'
              clear w
              replace e4 : F_md_readPart 88 1000024 (J 0) (J 50) h3 = some (J 0, h4) := e4
              have M4 := MS_fm f4.1 (MS_fm g4.1 C3.1.1.1)
              have o4 := f4.2.1
              refine DO_r (h' := h4) ?_ (df_tr (df_gf hb.1 (gf_tr g1 (gf_tr g2 (gf_tr g3 g4)))) (df_fd hb.1 f4)) ⟨o4, f4.2.2.1, f4.2.2.2.1⟩
              unfold F_md_readFeast
              rw [ck_e (MS_k M)]
              try simp only [j_0, j_1, j_2, j_3, j_4, j_5, j_6, j_7, j_8, j_9, j_10, j_11, j_12, j_13, j_14, j_15, j_16, j_17, j_18, j_19, j_20, j_21, j_22, j_23, j_24, j_25, j_26, j_27, j_28, j_29, j_30, j_31, j_32, j_33, j_34, j_35, j_36, j_37, j_38, j_39, j_40, j_41, j_42, j_43, j_44, j_45, j_46, j_47, j_48, j_49, j_50, j_51, j_52, j_57, j_59, j_63, j_74, j_75, j_93, j_97, j_99, j_100, j_122, j_200, j_255, j_300, j_465, j_496, j_900, j_999, j_1000, j_65536, j_65537, j_99999, j_252645135, j_858993459, j_1431655765, k_0, k_1, k_27, k_32, k_74, k_75, k_100, k_1000, k_65537]
              simp (disch := first | with_reducible assumption | omega | trivial) only [↓bn_s1, ↓bd_s1, ↓ei_l1, ↓ei_r1, ↓bn_if, ↓ilt_1, ↓ilt_0, ↓ieq_1, ↓ieq_0, bn_s1, bd_s1, ei_l1, ei_r1, J_add, J_sub, J_mul, J_neg, J_lt, J_le, J_eq, dv_J, rm_J, if_pos, if_neg, ↓reduceIte, bitJ, shlJ, orJ, j_0, j_1, j_2, j_3, j_4, j_5, j_6, j_7, j_8, j_9, j_10, j_11, j_12, j_13, j_14, j_15, j_16, j_17, j_18, j_19, j_20, j_21, j_22, j_23, j_24, j_25, j_26, j_27, j_28, j_29, j_30, j_31, j_32, j_33, j_34, j_35, j_36, j_37, j_38, j_39, j_40, j_41, j_42, j_43, j_44, j_45, j_46, j_47, j_48, j_49, j_50, j_51, j_52, j_57, j_59, j_63, j_74, j_75, j_93, j_97, j_99, j_100, j_122, j_200, j_255, j_300, j_465, j_496, j_900, j_999, j_1000, j_65536, j_65537, j_99999, j_252645135, j_858993459, j_1431655765, k_0, k_1, k_27, k_32, k_74, k_75, k_100, k_1000, k_65537, ↓bn_e (er), er, ↓bn_e (gc), gc, ↓bn_e (e1), e1, ↓bd_e (e2), e2, ↓bd_e (e3), e3, ↓bd_e (e4), e4, m_i M4, ↓m_i_b M4, m_p M4, ↓m_p_b M4, m_l M4, ↓m_l_b M4, m_pl M4, ↓m_pl_b M4, mr_15 M4, ↓mr_15_b M4, mr_16 M4, ↓mr_16_b M4, mr_17 M4, ↓mr_17_b M4, mr_18 M4, ↓mr_18_b M4, mr_21 M4, ↓mr_21_b M4, mr_22 M4, ↓mr_22_b M4, mr_23 M4, ↓mr_23_b M4, mr_24 M4, ↓mr_24_b M4, mr_25 M4, ↓mr_25_b M4, mr_30 M4, ↓mr_30_b M4, mr_31 M4, ↓mr_31_b M4, m90a M4, ↓m90a_b M4, m90s M4, ↓m90s_b M4, m91a M4, ↓m91a_b M4, m91s M4, ↓m91s_b M4, m92a M4, ↓m92a_b M4, m92s M4, ↓m92s_b M4, m93a M4, ↓m93a_b M4, m93s M4, ↓m93s_b M4, m94a M4, ↓m94a_b M4, m94s M4, ↓m94s_b M4, m95a M4, ↓m95a_b M4, m95s M4, ↓m95s_b M4, m96a M4, ↓m96a_b M4, m96s M4, ↓m96s_b M4, m97a M4, ↓m97a_b M4, m97s M4, ↓m97s_b M4, m98a M4, ↓m98a_b M4, m98s M4, ↓m98s_b M4, m99a M4, ↓m99a_b M4, m99s M4, ↓m99s_b M4, m100a M4, ↓m100a_b M4, m100s M4, ↓m100s_b M4, o4]
          · rw [if_neg y]
            obtain ⟨h4, e4, f4⟩ := w.2.2 y
            clear w
            replace e4 : F_md_readPart 88 1000024 (J 0) (J 50) h3 = some (J 0, h4) := e4
            have M4 := MS_fm f4.1 C3.1.1.1
            have o4 := f4.2.1
            refine DO_r (h' := h4) ?_ (df_tr (df_gf hb.1 (gf_tr g1 (gf_tr g2 g3))) (df_fd hb.1 f4)) ⟨o4, f4.2.2.1, f4.2.2.2.1⟩
            unfold F_md_readFeast
            rw [ck_e (MS_k M)]
            try simp only [j_0, j_1, j_2, j_3, j_4, j_5, j_6, j_7, j_8, j_9, j_10, j_11, j_12, j_13, j_14, j_15, j_16, j_17, j_18, j_19, j_20, j_21, j_22, j_23, j_24, j_25, j_26, j_27, j_28, j_29, j_30, j_31, j_32, j_33, j_34, j_35, j_36, j_37, j_38, j_39, j_40, j_41, j_42, j_43, j_44, j_45, j_46, j_47, j_48, j_49, j_50, j_51, j_52, j_57, j_59, j_63, j_74, j_75, j_93, j_97, j_99, j_100, j_122, j_200, j_255, j_300, j_465, j_496, j_900, j_999, j_1000, j_65536, j_65537, j_99999, j_252645135, j_858993459, j_1431655765, k_0, k_1, k_27, k_32, k_74, k_75, k_100, k_1000, k_65537]
            simp (disch := first | with_reducible assumption | omega | trivial) only [↓bn_s1, ↓bd_s1, ↓ei_l1, ↓ei_r1, ↓bn_if, ↓ilt_1, ↓ilt_0, ↓ieq_1, ↓ieq_0, bn_s1, bd_s1, ei_l1, ei_r1, J_add, J_sub, J_mul, J_neg, J_lt, J_le, J_eq, dv_J, rm_J, if_pos, if_neg, ↓reduceIte, bitJ, shlJ, orJ, j_0, j_1, j_2, j_3, j_4, j_5, j_6, j_7, j_8, j_9, j_10, j_11, j_12, j_13, j_14, j_15, j_16, j_17, j_18, j_19, j_20, j_21, j_22, j_23, j_24, j_25, j_26, j_27, j_28, j_29, j_30, j_31, j_32, j_33, j_34, j_35, j_36, j_37, j_38, j_39, j_40, j_41, j_42, j_43, j_44, j_45, j_46, j_47, j_48, j_49, j_50, j_51, j_52, j_57, j_59, j_63, j_74, j_75, j_93, j_97, j_99, j_100, j_122, j_200, j_255, j_300, j_465, j_496, j_900, j_999, j_1000, j_65536, j_65537, j_99999, j_252645135, j_858993459, j_1431655765, k_0, k_1, k_27, k_32, k_74, k_75, k_100, k_1000, k_65537, ↓bn_e (er), er, ↓bn_e (gc), gc, ↓bn_e (e1), e1, ↓bd_e (e2), e2, ↓bd_e (e3), e3, ↓bd_e (e4), e4, m_i M4, ↓m_i_b M4, m_p M4, ↓m_p_b M4, m_l M4, ↓m_l_b M4, m_pl M4, ↓m_pl_b M4, mr_15 M4, ↓mr_15_b M4, mr_16 M4, ↓mr_16_b M4, mr_17 M4, ↓mr_17_b M4, mr_18 M4, ↓mr_18_b M4, mr_21 M4, ↓mr_21_b M4, mr_22 M4, ↓mr_22_b M4, mr_23 M4, ↓mr_23_b M4, mr_24 M4, ↓mr_24_b M4, mr_25 M4, ↓mr_25_b M4, mr_30 M4, ↓mr_30_b M4, mr_31 M4, ↓mr_31_b M4, m90a M4, ↓m90a_b M4, m90s M4, ↓m90s_b M4, m91a M4, ↓m91a_b M4, m91s M4, ↓m91s_b M4, m92a M4, ↓m92a_b M4, m92s M4, ↓m92s_b M4, m93a M4, ↓m93a_b M4, m93s M4, ↓m93s_b M4, m94a M4, ↓m94a_b M4, m94s M4, ↓m94s_b M4, m95a M4, ↓m95a_b M4, m95s M4, ↓m95s_b M4, m96a M4, ↓m96a_b M4, m96s M4, ↓m96s_b M4, m97a M4, ↓m97a_b M4, m97s M4, ↓m97s_b M4, m98a M4, ↓m98a_b M4, m98s M4, ↓m98s_b M4, m99a M4, ↓m99a_b M4, m99s M4, ↓m99s_b M4, m100a M4, ↓m100a_b M4, m100s M4, ↓m100s_b M4, o4]
        · rw [if_neg z]
          obtain ⟨hm, h3, e3, g3, f3⟩ := w.2.1 c' z
          clear w
          replace e3 : F_md_readPart 88 1000023 (J 0) (J 9) h2 = some (J 0, h3) := e3
          have M3 := MS_fm f3.1 (MS_fm g3.1 C2.1.1.1)
          have o3 := f3.2.1
          have e4 := D_part5 (w := 1000024) (lo := J 0) (hi := J 50) M3 o3
          refine DO_r (h' := h3) ?_ (df_tr (df_gf hb.1 (gf_tr g1 (gf_tr g2 g3))) (df_fd hb.1 f3)) ⟨o3, f3.2.2.1, f3.2.2.2.1⟩
          unfold F_md_readFeast
          rw [ck_e (MS_k M)]
          try simp only [j_0, j_1, j_2, j_3, j_4, j_5, j_6, j_7, j_8, j_9, j_10, j_11, j_12, j_13, j_14, j_15, j_16, j_17, j_18, j_19, j_20, j_21, j_22, j_23, j_24, j_25, j_26, j_27, j_28, j_29, j_30, j_31, j_32, j_33, j_34, j_35, j_36, j_37, j_38, j_39, j_40, j_41, j_42, j_43, j_44, j_45, j_46, j_47, j_48, j_49, j_50, j_51, j_52, j_57, j_59, j_63, j_74, j_75, j_93, j_97, j_99, j_100, j_122, j_200, j_255, j_300, j_465, j_496, j_900, j_999, j_1000, j_65536, j_65537, j_99999, j_252645135, j_858993459, j_1431655765, k_0, k_1, k_27, k_32, k_74, k_75, k_100, k_1000, k_65537]
          simp (disch := first | with_reducible assumption | omega | trivial) only [↓bn_s1, ↓bd_s1, ↓ei_l1, ↓ei_r1, ↓bn_if, ↓ilt_1, ↓ilt_0, ↓ieq_1, ↓ieq_0, bn_s1, bd_s1, ei_l1, ei_r1, J_add, J_sub, J_mul, J_neg, J_lt, J_le, J_eq, dv_J, rm_J, if_pos, if_neg, ↓reduceIte, bitJ, shlJ, orJ, j_0, j_1, j_2, j_3, j_4, j_5, j_6, j_7, j_8, j_9, j_10, j_11, j_12, j_13, j_14, j_15, j_16, j_17, j_18, j_19, j_20, j_21, j_22, j_23, j_24, j_25, j_26, j_27, j_28, j_29, j_30, j_31, j_32, j_33, j_34, j_35, j_36, j_37, j_38, j_39, j_40, j_41, j_42, j_43, j_44, j_45, j_46, j_47, j_48, j_49, j_50, j_51, j_52, j_57, j_59, j_63, j_74, j_75, j_93, j_97, j_99, j_100, j_122, j_200, j_255, j_300, j_465, j_496, j_900, j_999, j_1000, j_65536, j_65537, j_99999, j_252645135, j_858993459, j_1431655765, k_0, k_1, k_27, k_32, k_74, k_75, k_100, k_1000, k_65537, ↓bn_e (er), er, ↓bn_e (gc), gc, ↓bn_e (e1), e1, ↓bd_e (e2), e2, ↓bd_e (e3), e3, ↓bd_e (e4), e4, m_i M3, ↓m_i_b M3, m_p M3, ↓m_p_b M3, m_l M3, ↓m_l_b M3, m_pl M3, ↓m_pl_b M3, mr_15 M3, ↓mr_15_b M3, mr_16 M3, ↓mr_16_b M3, mr_17 M3, ↓mr_17_b M3, mr_18 M3, ↓mr_18_b M3, mr_21 M3, ↓mr_21_b M3, mr_22 M3, ↓mr_22_b M3, mr_23 M3, ↓mr_23_b M3, mr_24 M3, ↓mr_24_b M3, mr_25 M3, ↓mr_25_b M3, mr_30 M3, ↓mr_30_b M3, mr_31 M3, ↓mr_31_b M3, m90a M3, ↓m90a_b M3, m90s M3, ↓m90s_b M3, m91a M3, ↓m91a_b M3, m91s M3, ↓m91s_b M3, m92a M3, ↓m92a_b M3, m92s M3, ↓m92s_b M3, m93a M3, ↓m93a_b M3, m93s M3, ↓m93s_b M3, m94a M3, ↓m94a_b M3, m94s M3, ↓m94s_b M3, m95a M3, ↓m95a_b M3, m95s M3, ↓m95s_b M3, m96a M3, ↓m96a_b M3, m96s M3, ↓m96s_b M3, m97a M3, ↓m97a_b M3, m97s M3, ↓m97s_b M3, m98a M3, ↓m98a_b M3, m98s M3, ↓m98s_b M3, m99a M3, ↓m99a_b M3, m99s M3, ↓m99s_b M3, m100a M3, ↓m100a_b M3, m100s M3, ↓m100s_b M3, o3]
      · rw [if_neg c']
        obtain ⟨h3, e3, f3⟩ := w.2.2 c'
        clear w
        replace e3 : F_md_readPart 88 1000023 (J 0) (J 9) h2 = some (J 0, h3) := e3
        have M3 := MS_fm f3.1 C2.1.1.1
        have o3 := f3.2.1
        have e4 := D_part5 (w := 1000024) (lo := J 0) (hi := J 50) M3 o3
        refine DO_r (h' := h3) ?_ (df_tr (df_gf hb.1 (gf_tr g1 g2)) (df_fd hb.1 f3)) ⟨o3, f3.2.2.1, f3.2.2.2.1⟩
        unfold F_md_readFeast
        rw [ck_e (MS_k M)]
        try simp only [j_0, j_1, j_2, j_3, j_4, j_5, j_6, j_7, j_8, j_9, j_10, j_11, j_12, j_13, j_14, j_15, j_16, j_17, j_18, j_19, j_20, j_21, j_22, j_23, j_24, j_25, j_26, j_27, j_28, j_29, j_30, j_31, j_32, j_33, j_34, j_35, j_36, j_37, j_38, j_39, j_40, j_41, j_42, j_43, j_44, j_45, j_46, j_47, j_48, j_49, j_50, j_51, j_52, j_57, j_59, j_63, j_74, j_75, j_93, j_97, j_99, j_100, j_122, j_200, j_255, j_300, j_465, j_496, j_900, j_999, j_1000, j_65536, j_65537, j_99999, j_252645135, j_858993459, j_1431655765, k_0, k_1, k_27, k_32, k_74, k_75, k_100, k_1000, k_65537]
        simp (disch := first | with_reducible assumption | omega | trivial) only [↓bn_s1, ↓bd_s1, ↓ei_l1, ↓ei_r1, ↓bn_if, ↓ilt_1, ↓ilt_0, ↓ieq_1, ↓ieq_0, bn_s1, bd_s1, ei_l1, ei_r1, J_add, J_sub, J_mul, J_neg, J_lt, J_le, J_eq, dv_J, rm_J, if_pos, if_neg, ↓reduceIte, bitJ, shlJ, orJ, j_0, j_1, j_2, j_3, j_4, j_5, j_6, j_7, j_8, j_9, j_10, j_11, j_12, j_13, j_14, j_15, j_16, j_17, j_18, j_19, j_20, j_21, j_22, j_23, j_24, j_25, j_26, j_27, j_28, j_29, j_30, j_31, j_32, j_33, j_34, j_35, j_36, j_37, j_38, j_39, j_40, j_41, j_42, j_43, j_44, j_45, j_46, j_47, j_48, j_49, j_50, j_51, j_52, j_57, j_59, j_63, j_74, j_75, j_93, j_97, j_99, j_100, j_122, j_200, j_255, j_300, j_465, j_496, j_900, j_999, j_1000, j_65536, j_65537, j_99999, j_252645135, j_858993459, j_1431655765, k_0, k_1, k_27, k_32, k_74, k_75, k_100, k_1000, k_65537, ↓bn_e (er), er, ↓bn_e (gc), gc, ↓bn_e (e1), e1, ↓bd_e (e2), e2, ↓bd_e (e3), e3, ↓bd_e (e4), e4, m_i M3, ↓m_i_b M3, m_p M3, ↓m_p_b M3, m_l M3, ↓m_l_b M3, m_pl M3, ↓m_pl_b M3, mr_15 M3, ↓mr_15_b M3, mr_16 M3, ↓mr_16_b M3, mr_17 M3, ↓mr_17_b M3, mr_18 M3, ↓mr_18_b M3, mr_21 M3, ↓mr_21_b M3, mr_22 M3, ↓mr_22_b M3, mr_23 M3, ↓mr_23_b M3, mr_24 M3, ↓mr_24_b M3, mr_25 M3, ↓mr_25_b M3, mr_30 M3, ↓mr_30_b M3, mr_31 M3, ↓mr_31_b M3, m90a M3, ↓m90a_b M3, m90s M3, ↓m90s_b M3, m91a M3, ↓m91a_b M3, m91s M3, ↓m91s_b M3, m92a M3, ↓m92a_b M3, m92s M3, ↓m92s_b M3, m93a M3, ↓m93a_b M3, m93s M3, ↓m93s_b M3, m94a M3, ↓m94a_b M3, m94s M3, ↓m94s_b M3, m95a M3, ↓m95a_b M3, m95s M3, ↓m95s_b M3, m96a M3, ↓m96a_b M3, m96s M3, ↓m96s_b M3, m97a M3, ↓m97a_b M3, m97s M3, ↓m97s_b M3, m98a M3, ↓m98a_b M3, m98s M3, ↓m98s_b M3, m99a M3, ↓m99a_b M3, m99s M3, ↓m99s_b M3, m100a M3, ↓m100a_b M3, m100s M3, ↓m100s_b M3, o3]
    · rw [if_neg c]
      obtain ⟨h2, e2, g2⟩ := w.2 c
      clear w
      have M2 := MS_fm g2.1 C1.1.1.1
      have o2 := g2.2.1
      have e3 := D_part5 (w := 1000023) (lo := J 0) (hi := J 9) M2 o2
      have e4 := D_part5 (w := 1000024) (lo := J 0) (hi := J 50) M2 o2
      refine DO_r (h' := h2) ?_ (df_tr (df_gf hb.1 g1) (df_fd hb.1 g2)) ⟨o2, g2.2.2.1, g2.2.2.2.1⟩
      unfold F_md_readFeast
      rw [ck_e (MS_k M)]
      try simp only [j_0, j_1, j_2, j_3, j_4, j_5, j_6, j_7, j_8, j_9, j_10, j_11, j_12, j_13, j_14, j_15, j_16, j_17, j_18, j_19, j_20, j_21, j_22, j_23, j_24, j_25, j_26, j_27, j_28, j_29, j_30, j_31, j_32, j_33, j_34, j_35, j_36, j_37, j_38, j_39, j_40, j_41, j_42, j_43, j_44, j_45, j_46, j_47, j_48, j_49, j_50, j_51, j_52, j_57, j_59, j_63, j_74, j_75, j_93, j_97, j_99, j_100, j_122, j_200, j_255, j_300, j_465, j_496, j_900, j_999, j_1000, j_65536, j_65537, j_99999, j_252645135, j_858993459, j_1431655765, k_0, k_1, k_27, k_32, k_74, k_75, k_100, k_1000, k_65537]
      simp (disch := first | with_reducible assumption | omega | trivial) only [↓bn_s1, ↓bd_s1, ↓ei_l1, ↓ei_r1, ↓bn_if, ↓ilt_1, ↓ilt_0, ↓ieq_1, ↓ieq_0, bn_s1, bd_s1, ei_l1, ei_r1, J_add, J_sub, J_mul, J_neg, J_lt, J_le, J_eq, dv_J, rm_J, if_pos, if_neg, ↓reduceIte, bitJ, shlJ, orJ, j_0, j_1, j_2, j_3, j_4, j_5, j_6, j_7, j_8, j_9, j_10, j_11, j_12, j_13, j_14, j_15, j_16, j_17, j_18, j_19, j_20, j_21, j_22, j_23, j_24, j_25, j_26, j_27, j_28, j_29, j_30, j_31, j_32, j_33, j_34, j_35, j_36, j_37, j_38, j_39, j_40, j_41, j_42, j_43, j_44, j_45, j_46, j_47, j_48, j_49, j_50, j_51, j_52, j_57, j_59, j_63, j_74, j_75, j_93, j_97, j_99, j_100, j_122, j_200, j_255, j_300, j_465, j_496, j_900, j_999, j_1000, j_65536, j_65537, j_99999, j_252645135, j_858993459, j_1431655765, k_0, k_1, k_27, k_32, k_74, k_75, k_100, k_1000, k_65537, ↓bn_e (er), er, ↓bn_e (gc), gc, ↓bn_e (e1), e1, ↓bd_e (e2), e2, ↓bd_e (e3), e3, ↓bd_e (e4), e4, m_i M2, ↓m_i_b M2, m_p M2, ↓m_p_b M2, m_l M2, ↓m_l_b M2, m_pl M2, ↓m_pl_b M2, mr_15 M2, ↓mr_15_b M2, mr_16 M2, ↓mr_16_b M2, mr_17 M2, ↓mr_17_b M2, mr_18 M2, ↓mr_18_b M2, mr_21 M2, ↓mr_21_b M2, mr_22 M2, ↓mr_22_b M2, mr_23 M2, ↓mr_23_b M2, mr_24 M2, ↓mr_24_b M2, mr_25 M2, ↓mr_25_b M2, mr_30 M2, ↓mr_30_b M2, mr_31 M2, ↓mr_31_b M2, m90a M2, ↓m90a_b M2, m90s M2, ↓m90s_b M2, m91a M2, ↓m91a_b M2, m91s M2, ↓m91s_b M2, m92a M2, ↓m92a_b M2, m92s M2, ↓m92s_b M2, m93a M2, ↓m93a_b M2, m93s M2, ↓m93s_b M2, m94a M2, ↓m94a_b M2, m94s M2, ↓m94s_b M2, m95a M2, ↓m95a_b M2, m95s M2, ↓m95s_b M2, m96a M2, ↓m96a_b M2, m96s M2, ↓m96s_b M2, m97a M2, ↓m97a_b M2, m97s M2, ↓m97s_b M2, m98a M2, ↓m98a_b M2, m98s M2, ↓m98s_b M2, m99a M2, ↓m99a_b M2, m99s M2, ↓m99s_b M2, m100a M2, ↓m100a_b M2, m100s M2, ↓m100s_b M2, o2]
  · rw [if_neg s]
    obtain ⟨h1, e1, g1⟩ := w.2 s
    clear w
    have B1 := DL_fm g1.1 (by omega) B
    have M1 := B1.1.1
    have o1 := g1.2.1
    have e2 := D_rk5 (s := J 0) B1 o1
    have e3 := D_part5 (w := 1000023) (lo := J 0) (hi := J 9) M1 o1
    have e4 := D_part5 (w := 1000024) (lo := J 0) (hi := J 50) M1 o1
    refine DO_r (h' := h1) ?_ (df_fd hb.1 g1) ⟨o1, g1.2.2.1, g1.2.2.2.1⟩
    unfold F_md_readFeast
    rw [ck_e (MS_k M)]
    try simp only [j_0, j_1, j_2, j_3, j_4, j_5, j_6, j_7, j_8, j_9, j_10, j_11, j_12, j_13, j_14, j_15, j_16, j_17, j_18, j_19, j_20, j_21, j_22, j_23, j_24, j_25, j_26, j_27, j_28, j_29, j_30, j_31, j_32, j_33, j_34, j_35, j_36, j_37, j_38, j_39, j_40, j_41, j_42, j_43, j_44, j_45, j_46, j_47, j_48, j_49, j_50, j_51, j_52, j_57, j_59, j_63, j_74, j_75, j_93, j_97, j_99, j_100, j_122, j_200, j_255, j_300, j_465, j_496, j_900, j_999, j_1000, j_65536, j_65537, j_99999, j_252645135, j_858993459, j_1431655765, k_0, k_1, k_27, k_32, k_74, k_75, k_100, k_1000, k_65537]
    simp (disch := first | with_reducible assumption | omega | trivial) only [↓bn_s1, ↓bd_s1, ↓ei_l1, ↓ei_r1, ↓bn_if, ↓ilt_1, ↓ilt_0, ↓ieq_1, ↓ieq_0, bn_s1, bd_s1, ei_l1, ei_r1, J_add, J_sub, J_mul, J_neg, J_lt, J_le, J_eq, dv_J, rm_J, if_pos, if_neg, ↓reduceIte, bitJ, shlJ, orJ, j_0, j_1, j_2, j_3, j_4, j_5, j_6, j_7, j_8, j_9, j_10, j_11, j_12, j_13, j_14, j_15, j_16, j_17, j_18, j_19, j_20, j_21, j_22, j_23, j_24, j_25, j_26, j_27, j_28, j_29, j_30, j_31, j_32, j_33, j_34, j_35, j_36, j_37, j_38, j_39, j_40, j_41, j_42, j_43, j_44, j_45, j_46, j_47, j_48, j_49, j_50, j_51, j_52, j_57, j_59, j_63, j_74, j_75, j_93, j_97, j_99, j_100, j_122, j_200, j_255, j_300, j_465, j_496, j_900, j_999, j_1000, j_65536, j_65537, j_99999, j_252645135, j_858993459, j_1431655765, k_0, k_1, k_27, k_32, k_74, k_75, k_100, k_1000, k_65537, ↓bn_e (er), er, ↓bn_e (gc), gc, ↓bn_e (e1), e1, ↓bd_e (e2), e2, ↓bd_e (e3), e3, ↓bd_e (e4), e4, m_i M1, ↓m_i_b M1, m_p M1, ↓m_p_b M1, m_l M1, ↓m_l_b M1, m_pl M1, ↓m_pl_b M1, mr_15 M1, ↓mr_15_b M1, mr_16 M1, ↓mr_16_b M1, mr_17 M1, ↓mr_17_b M1, mr_18 M1, ↓mr_18_b M1, mr_21 M1, ↓mr_21_b M1, mr_22 M1, ↓mr_22_b M1, mr_23 M1, ↓mr_23_b M1, mr_24 M1, ↓mr_24_b M1, mr_25 M1, ↓mr_25_b M1, mr_30 M1, ↓mr_30_b M1, mr_31 M1, ↓mr_31_b M1, m90a M1, ↓m90a_b M1, m90s M1, ↓m90s_b M1, m91a M1, ↓m91a_b M1, m91s M1, ↓m91s_b M1, m92a M1, ↓m92a_b M1, m92s M1, ↓m92s_b M1, m93a M1, ↓m93a_b M1, m93s M1, ↓m93s_b M1, m94a M1, ↓m94a_b M1, m94s M1, ↓m94s_b M1, m95a M1, ↓m95a_b M1, m95s M1, ↓m95s_b M1, m96a M1, ↓m96a_b M1, m96s M1, ↓m96s_b M1, m97a M1, ↓m97a_b M1, m97s M1, ↓m97s_b M1, m98a M1, ↓m98a_b M1, m98s M1, ↓m98s_b M1, m99a M1, ↓m99a_b M1, m99s M1, ↓m99s_b M1, m100a M1, ↓m100a_b M1, m100s M1, ↓m100s_b M1, o1]
