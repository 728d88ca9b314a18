/-! lines, in the reference -/
def lkx (L : Lk) : Lk := fun k i => if k = 0 ∧ i = 0 ∧ L 31 0 = 0 then -1 else L k i
/-- only the reader's fields of the model and the lake b change -/
def Dfr (b : Nat) (h h' : Hp) : Prop := Fm 88 (b + 22) h h' ∧ (∀ x, 88 < x → x < b → (∀ k, fi h' x k = fi h x k) ∧ (∀ z, ia h' x z = ia h x z)) ∧ (∀ k, (k < 8 ∨ 13 < k) → fi h' 88 k = fi h 88 k)
theorem df_rf (b : Nat) (h : Hp) : Dfr b h h := ⟨fm_rf _ _ _, fun _ _ _ => ⟨fun _ => rfl, fun _ => rfl⟩, fun _ _ => rfl⟩
theorem df_tr {b : Nat} {h h1 h2 : Hp} (x : Dfr b h h1) (y : Dfr b h1 h2) : Dfr b h h2 := ⟨fm_tr x.1 y.1, fun a a1 a2 => ⟨fun k => ((y.2.1 a a1 a2).1 k).trans ((x.2.1 a a1 a2).1 k), fun z => ((y.2.1 a a1 a2).2 z).trans ((x.2.1 a a1 a2).2 z)⟩, fun k hk => (y.2.2 k hk).trans (x.2.2 k hk)⟩
theorem df_gf {b : Nat} {h h' : Hp} (hb : 102 ≤ b) (x : Gf h h') : Dfr b h h' := ⟨fm_wd x.1 (by omega) (by omega), fun a a1 a2 => ⟨fun k => fm_fi x.1 (by omega) k, fun z => fm_ia x.1 (by omega) z⟩, fun k hk => x.2 k (by omega)⟩
theorem df_fd {b : Nat} {f q : Int} {h h' : Hp} (hb : 102 ≤ b) (x : FD f q h h') : Dfr b h h' := ⟨fm_wd x.1 (by omega) (by omega), fun a a1 a2 => ⟨fun k => fm_fi x.1 (by omega) k, fun z => fm_ia x.1 (by omega) z⟩, fun k hk => x.2.2.2.2.1 k (by omega) (by omega) (by omega)⟩
theorem df_b {b lo hi : Nat} {h h' : Hp} (hb : 102 ≤ b) (x : Fm lo hi h h') (h1 : b ≤ lo) (h2 : hi ≤ b + 22) : Dfr b h h' := ⟨fm_wd x (by omega) h2, fun a a1 a2 => ⟨fun k => fm_fi x (by omega) k, fun z => fm_ia x (by omega) z⟩, fun k hk => fm_fi x (by omega) k⟩
/-- kinds told of a house, as bits -/
def BR (L : Lk) (b : Nat) (h : Hp) : Prop := ∀ i : Nat, i < 5 → ∃ m : Nat, m < 32 ∧ ia h (b + 4) i = m ∧ ∀ k : Nat, k < 5 → m.testBit k = decide (0 < L 11 (5 * i + k))
def DP (L : Lk) (b : Nat) (T : Int → Int) (n : Nat) (h : Hp) : Prop := DL L b T n h ∧ LW L ∧ LR (lkx L) b h ∧ BR L b h ∧ (L 31 0 = 0 ∨ L 31 0 = 1) ∧ (L 31 0 = 0 → ∀ k, k < 8 → L k 0 = 0)
theorem BR_fm {L : Lk} {b lo hi : Nat} {h h' : Hp} (x : Fm lo hi h h') (hd : b + 22 ≤ lo ∨ hi ≤ b) (H : BR L b h) : BR L b h' := fun i hi' => by
  obtain ⟨m, m1, m2, m3⟩ := H i hi'
  exact ⟨m, m1, by rw [fm_ia x (by omega)]; exact m2, m3⟩
theorem DP_fm {L : Lk} {b : Nat} {T : Int → Int} {n lo hi : Nat} {h h' : Hp} (x : Fm lo hi h h') (hd : hi ≤ 89) (H : DP L b T n h) : DP L b T n h' := by
  obtain ⟨a1, a2, a3, a4, a5, a6⟩ := H
  have hb := a1.2.2.2.2.2
  exact ⟨DL_fm x (by omega) a1, a2, LR_fm x (by omega) a3, BR_fm x (by omega) a4, a5, a6⟩
/-- how a line ends in the reference -/
def DO (o : Lo) (b : Nat) (T : Int → Int) (n : Nat) (r : Option Hp) (h : Hp) : Prop := (∀ p L, o = .inl (p, L) → p ≤ n ∧ ∃ h', r = some h' ∧ Dfr b h h' ∧ DP L b T n h' ∧ DT T n p h' ∧ fi h' 88 12 = fi h 88 12) ∧ (∀ f q, o = .inr (f, q) → ∃ h', r = some h' ∧ Dfr b h h' ∧ fi h' 88 9 = 5 ∧ fi h' 88 12 = f ∧ fi h' 88 13 = q)
theorem DO_r {b : Nat} {T : Int → Int} {n : Nat} {r : Option Hp} {h h' : Hp} {f q : Int} (e : r = some h') (x : Dfr b h h') (y : fi h' 88 9 = 5 ∧ fi h' 88 12 = f ∧ fi h' 88 13 = q) : DO (.inr (f, q)) b T n r h := by
  refine ⟨fun p L z => (by cases z), fun f' q' z => ?_⟩
  cases z
  exact ⟨h', e, x, y⟩
theorem DO_l {b : Nat} {T : Int → Int} {n : Nat} {r : Option Hp} {h h' : Hp} {p : Nat} {L : Lk} (hp : p ≤ n) (e : r = some h') (x : Dfr b h h') (C : DP L b T n h') (c : DT T n p h') (y : fi h' 88 12 = fi h 88 12) : DO (.inl (p, L)) b T n r h := by
  refine ⟨fun p' L' z => ?_, fun f' q' z => (by cases z)⟩
  cases z
  exact ⟨hp, h', e, x, C, c, y⟩
theorem DT_fm {T : Int → Int} {n p lo hi : Nat} {h h' : Hp} (x : Fm lo hi h h') (hd : 89 ≤ lo ∨ hi ≤ 88) (H : DT T n p h) : DT T n p h' := by
  unfold DT
  simp (disch := omega) only [fm_fi x, fm_fl x]
  exact H
theorem tl0 {T : Int → Int} {n p k : Nat} (c : isW T n p k = true) : tso T n p ≠ 4 := by have := isW_y c; omega
theorem D_mic {L : Lk} {b : Nat} {T : Int → Int} {n p : Nat} {h : Hp} (hp : p ≤ n) (C : DP L b T n h) (H : DT T n p h) (h0 : tso T n p = 0) : DO (if L 31 0 = 0 then a_mic L T n (tnx T n p) else .inr (3, (spn T n p : Nat))) b T n (F_md_readLake 88 h) h := by
  have B := C.1
  have M := B.1.1
  have hb := B.2.2.2.2.2
  have er := dl_r B
  have LX := C.2.2.1
  have Y := B.2.2.1
  have lw := C.2.1
  by_cases t : L 31 0 = 0
  · rw [if_pos t]
    have gi : gI h b 12 0 = some (J (-1)) := by
      rw [gI_J (YS_k Y), LX.1.1]
      unfold lkx
      rw [if_pos ⟨rfl, rfl, t⟩]
    obtain ⟨h1, e1, g1, c1, _⟩ := D_ad B.1 hp H (by omega)
    have p1 := (tln_b T n p hp).1
    have C1 := DP_fm g1.1 (by omega) C
    have B1 := C1.1
    have M1 := B1.1.1
    have w := D_needs (k := 9) B1.1 p1 c1 (by omega)
    unfold a_mic
    by_cases c : isW T n (tnx T n p) 9 = true
    · rw [if_pos c]
      obtain ⟨h2, e2, g2, c2, _⟩ := w.1 c
      clear w
      replace e2 : F_md_needs 88 1000012 h1 = some h2 := e2
      have p2 := (tln_b T n (tnx T n p) p1).1
      have p3 := (tln_b T n (tnx T n (tnx T n p)) p2).1
      have C2 := DP_fm g2.1 (by omega) C1
      have B2 := C2.1
      have M2 := B2.1.1
      have v := D_rw (lo := 0) (hi := 100) B2.1 p2 c2 (by omega) (by omega)
      by_cases z : pwf T n (tnx T n (tnx T n p)) 0 100 = 0
      · rw [if_pos z]
        obtain ⟨h3, e3, g3, c3, _⟩ := v.1 z
        clear v
        have C3 := DP_fm g3.1 (by omega) C2
        have B3 := C3.1
        have M3 := B3.1.1
        have tb := pwf_0 z
        obtain ⟨m, hm⟩ : ∃ m, m = tnm T n (tnx T n (tnx T n p)) := ⟨_, rfl⟩
        rw [← hm] at tb e3 ⊢
        have q9 : fi h3 88 9 = rso (tso T n (tnx T n (tnx T n (tnx T n p)))) := c3.2.2.1
        have rb := rso_b T n (tnx T n (tnx T n (tnx T n p))) p3
        have er3 := dl_r B3
        have e4 : pI h3 b 12 0 (J m) = some (wF h3 b 0 m) := pI_J (YS_k B3.2.2.1)
        have ep : F_md_readPart 88 1000012 (J 0) (J 100) h1 = some (J m, h3) := by
          unfold F_md_readPart
          rw [ck_e (MS_k M1)]
          simp (disch := first | with_reducible assumption | omega | trivial) only [↓bn_s1, ↓bd_s1, ↓ei_l1, ↓ei_r1, ↓bn_if, ↓ilt_1, ↓ilt_0, ↓ieq_1, ↓ieq_0, bn_s1, bd_s1, ei_l1, ei_r1, J_add, J_sub, J_mul, J_neg, J_lt, J_le, J_eq, dv_J, rm_J, if_pos, if_neg, ↓reduceIte, bitJ, shlJ, orJ, j_0, j_1, j_2, j_3, j_4, j_5, j_6, j_7, j_8, j_9, j_10, j_11, j_12, j_13, j_14, j_15, j_16, j_17, j_18, j_19, j_20, j_21, j_22, j_23, j_24, j_25, j_26, j_27, j_28, j_29, j_30, j_31, j_32, j_33, j_34, j_35, j_36, j_37, j_38, j_39, j_40, j_41, j_42, j_43, j_44, j_45, j_46, j_47, j_48, j_49, j_50, j_51, j_52, j_57, j_59, j_63, j_74, j_75, j_93, j_97, j_99, j_100, j_122, j_200, j_255, j_300, j_465, j_496, j_900, j_999, j_1000, j_65536, j_65537, j_99999, j_252645135, j_858993459, j_1431655765, k_0, k_1, k_27, k_32, k_74, k_75, k_100, k_1000, k_65537, ↓bn_e (e2), e2, ↓bd_e (e3), e3]
        have f4 : Fm b (b + 1) h3 (wF h3 b 0 m) := fm_wF (by omega) (by omega)
        have G := gf_tr g1 (gf_tr g2 g3)
        refine DO_l p3 (h' := wF h3 b 0 m) ?_ (df_tr (df_gf hb.1 G) (df_b hb.1 f4 (by omega) (by omega))) ?_ (DT_fm f4 (by omega) c3) ?_
        · unfold F_md_readLake
          rw [ck_e (MS_k M)]
          try simp only [j_0, j_1, j_2, j_3, j_4, j_5, j_6, j_7, j_8, j_9, j_10, j_11, j_12, j_13, j_14, j_15, j_16, j_17, j_18, j_19, j_20, j_21, j_22, j_23, j_24, j_25, j_26, j_27, j_28, j_29, j_30, j_31, j_32, j_33, j_34, j_35, j_36, j_37, j_38, j_39, j_40, j_41, j_42, j_43, j_44, j_45, j_46, j_47, j_48, j_49, j_50, j_51, j_52, j_57, j_59, j_63, j_74, j_75, j_93, j_97, j_99, j_100, j_122, j_200, j_255, j_300, j_465, j_496, j_900, j_999, j_1000, j_65536, j_65537, j_99999, j_252645135, j_858993459, j_1431655765, k_0, k_1, k_27, k_32, k_74, k_75, k_100, k_1000, k_65537]
          simp (disch := first | with_reducible assumption | omega | trivial) only [↓bn_s1, ↓bd_s1, ↓ei_l1, ↓ei_r1, ↓bn_if, ↓ilt_1, ↓ilt_0, ↓ieq_1, ↓ieq_0, bn_s1, bd_s1, ei_l1, ei_r1, J_add, J_sub, J_mul, J_neg, J_lt, J_le, J_eq, dv_J, rm_J, if_pos, if_neg, ↓reduceIte, bitJ, shlJ, orJ, j_0, j_1, j_2, j_3, j_4, j_5, j_6, j_7, j_8, j_9, j_10, j_11, j_12, j_13, j_14, j_15, j_16, j_17, j_18, j_19, j_20, j_21, j_22, j_23, j_24, j_25, j_26, j_27, j_28, j_29, j_30, j_31, j_32, j_33, j_34, j_35, j_36, j_37, j_38, j_39, j_40, j_41, j_42, j_43, j_44, j_45, j_46, j_47, j_48, j_49, j_50, j_51, j_52, j_57, j_59, j_63, j_74, j_75, j_93, j_97, j_99, j_100, j_122, j_200, j_255, j_300, j_465, j_496, j_900, j_999, j_1000, j_65536, j_65537, j_99999, j_252645135, j_858993459, j_1431655765, k_0, k_1, k_27, k_32, k_74, k_75, k_100, k_1000, k_65537, ↓bn_e (er), er, ↓bn_e (gi), gi, ↓bn_e (e1), e1, ↓bd_e (ep), ep, m_i M3, ↓m_i_b M3, m_p M3, ↓m_p_b M3, m_l M3, ↓m_l_b M3, m_pl M3, ↓m_pl_b M3, mr_15 M3, ↓mr_15_b M3, mr_16 M3, ↓mr_16_b M3, mr_17 M3, ↓mr_17_b M3, mr_18 M3, ↓mr_18_b M3, mr_21 M3, ↓mr_21_b M3, mr_22 M3, ↓mr_22_b M3, mr_23 M3, ↓mr_23_b M3, mr_24 M3, ↓mr_24_b M3, mr_25 M3, ↓mr_25_b M3, mr_30 M3, ↓mr_30_b M3, mr_31 M3, ↓mr_31_b M3, m90a M3, ↓m90a_b M3, m90s M3, ↓m90s_b M3, m91a M3, ↓m91a_b M3, m91s M3, ↓m91s_b M3, m92a M3, ↓m92a_b M3, m92s M3, ↓m92s_b M3, m93a M3, ↓m93a_b M3, m93s M3, ↓m93s_b M3, m94a M3, ↓m94a_b M3, m94s M3, ↓m94s_b M3, m95a M3, ↓m95a_b M3, m95s M3, ↓m95s_b M3, m96a M3, ↓m96a_b M3, m96s M3, ↓m96s_b M3, m97a M3, ↓m97a_b M3, m97s M3, ↓m97s_b M3, m98a M3, ↓m98a_b M3, m98s M3, ↓m98s_b M3, m99a M3, ↓m99a_b M3, m99s M3, ↓m99s_b M3, m100a M3, ↓m100a_b M3, m100s M3, ↓m100s_b M3, q9, ↓bn_e (er3), er3, ↓bn_e (e4), e4]
        · obtain ⟨a1, a2, a3, a4, a5, a6⟩ := C3
          refine ⟨⟨DB_fm f4 (by omega) (by omega) a1.1, by rw [fm_fR f4]; exact a1.2.1, YS_fm f4 a1.2.2.1, a1.2.2.2.1, ?_, a1.2.2.2.2.2⟩, ⟨⟨tb.2.1, tb.2.2⟩, a2.2⟩, ?_, ?_, Or.inr rfl, fun z => absurd z (by show ¬ (1 : Int) = 0; omega)⟩
          · refine ⟨by rw [fi_ne (by omega)]; exact a1.2.2.2.2.1.1, fun i i0 i1 => ?_⟩
            exact a1.2.2.2.2.1.2 i i0 i1
          · obtain ⟨b1, b2⟩ := a3
            refine ⟨⟨?_, ?_⟩, b2⟩
            · rw [fi_same (by omega) (by omega)]; rfl
            · have fo : ∀ j, j ≠ 0 → fi (wF h3 b 0 m) b j = fi h3 b j := fun j hj => fi_ne (by omega)
              simp (disch := omega) only [fo]
              exact b1.2
          · exact a4
        · rw [fm_fi f4 (by omega)]; exact G.2 12 (by omega)
      · rw [if_neg z]
        obtain ⟨h3, e3, g3⟩ := v.2 z
        clear v
        have M3 := MS_fm g3.1 M2
        have o3 := g3.2.1
        have ep : F_md_readPart 88 1000012 (J 0) (J 100) h1 = some (J 0, h3) := by
          unfold F_md_readPart
          rw [ck_e (MS_k M1)]
          simp (disch := first | with_reducible assumption | omega | trivial) only [↓bn_s1, ↓bd_s1, ↓ei_l1, ↓ei_r1, ↓bn_if, ↓ilt_1, ↓ilt_0, ↓ieq_1, ↓ieq_0, bn_s1, bd_s1, ei_l1, ei_r1, J_add, J_sub, J_mul, J_neg, J_lt, J_le, J_eq, dv_J, rm_J, if_pos, if_neg, ↓reduceIte, bitJ, shlJ, orJ, j_0, j_1, j_2, j_3, j_4, j_5, j_6, j_7, j_8, j_9, j_10, j_11, j_12, j_13, j_14, j_15, j_16, j_17, j_18, j_19, j_20, j_21, j_22, j_23, j_24, j_25, j_26, j_27, j_28, j_29, j_30, j_31, j_32, j_33, j_34, j_35, j_36, j_37, j_38, j_39, j_40, j_41, j_42, j_43, j_44, j_45, j_46, j_47, j_48, j_49, j_50, j_51, j_52, j_57, j_59, j_63, j_74, j_75, j_93, j_97, j_99, j_100, j_122, j_200, j_255, j_300, j_465, j_496, j_900, j_999, j_1000, j_65536, j_65537, j_99999, j_252645135, j_858993459, j_1431655765, k_0, k_1, k_27, k_32, k_74, k_75, k_100, k_1000, k_65537, ↓bn_e (e2), e2, ↓bd_e (e3), e3]
        refine DO_r (h' := h3) ?_ (df_tr (df_gf hb.1 (gf_tr g1 g2)) (df_fd hb.1 g3)) ⟨o3, g3.2.2.1, g3.2.2.2.1⟩
        unfold F_md_readLake
        rw [ck_e (MS_k M)]
        try simp only [j_0, j_1, j_2, j_3, j_4, j_5, j_6, j_7, j_8, j_9, j_10, j_11, j_12, j_13, j_14, j_15, j_16, j_17, j_18, j_19, j_20, j_21, j_22, j_23, j_24, j_25, j_26, j_27, j_28, j_29, j_30, j_31, j_32, j_33, j_34, j_35, j_36, j_37, j_38, j_39, j_40, j_41, j_42, j_43, j_44, j_45, j_46, j_47, j_48, j_49, j_50, j_51, j_52, j_57, j_59, j_63, j_74, j_75, j_93, j_97, j_99, j_100, j_122, j_200, j_255, j_300, j_465, j_496, j_900, j_999, j_1000, j_65536, j_65537, j_99999, j_252645135, j_858993459, j_1431655765, k_0, k_1, k_27, k_32, k_74, k_75, k_100, k_1000, k_65537]
        simp (disch := first | with_reducible assumption | omega | trivial) only [↓bn_s1, ↓bd_s1, ↓ei_l1, ↓ei_r1, ↓bn_if, ↓ilt_1, ↓ilt_0, ↓ieq_1, ↓ieq_0, bn_s1, bd_s1, ei_l1, ei_r1, J_add, J_sub, J_mul, J_neg, J_lt, J_le, J_eq, dv_J, rm_J, if_pos, if_neg, ↓reduceIte, bitJ, shlJ, orJ, j_0, j_1, j_2, j_3, j_4, j_5, j_6, j_7, j_8, j_9, j_10, j_11, j_12, j_13, j_14, j_15, j_16, j_17, j_18, j_19, j_20, j_21, j_22, j_23, j_24, j_25, j_26, j_27, j_28, j_29, j_30, j_31, j_32, j_33, j_34, j_35, j_36, j_37, j_38, j_39, j_40, j_41, j_42, j_43, j_44, j_45, j_46, j_47, j_48, j_49, j_50, j_51, j_52, j_57, j_59, j_63, j_74, j_75, j_93, j_97, j_99, j_100, j_122, j_200, j_255, j_300, j_465, j_496, j_900, j_999, j_1000, j_65536, j_65537, j_99999, j_252645135, j_858993459, j_1431655765, k_0, k_1, k_27, k_32, k_74, k_75, k_100, k_1000, k_65537, ↓bn_e (er), er, ↓bn_e (gi), gi, ↓bn_e (e1), e1, ↓bd_e (ep), ep, m_i M3, ↓m_i_b M3, m_p M3, ↓m_p_b M3, m_l M3, ↓m_l_b M3, m_pl M3, ↓m_pl_b M3, mr_15 M3, ↓mr_15_b M3, mr_16 M3, ↓mr_16_b M3, mr_17 M3, ↓mr_17_b M3, mr_18 M3, ↓mr_18_b M3, mr_21 M3, ↓mr_21_b M3, mr_22 M3, ↓mr_22_b M3, mr_23 M3, ↓mr_23_b M3, mr_24 M3, ↓mr_24_b M3, mr_25 M3, ↓mr_25_b M3, mr_30 M3, ↓mr_30_b M3, mr_31 M3, ↓mr_31_b M3, m90a M3, ↓m90a_b M3, m90s M3, ↓m90s_b M3, m91a M3, ↓m91a_b M3, m91s M3, ↓m91s_b M3, m92a M3, ↓m92a_b M3, m92s M3, ↓m92s_b M3, m93a M3, ↓m93a_b M3, m93s M3, ↓m93s_b M3, m94a M3, ↓m94a_b M3, m94s M3, ↓m94s_b M3, m95a M3, ↓m95a_b M3, m95s M3, ↓m95s_b M3, m96a M3, ↓m96a_b M3, m96s M3, ↓m96s_b M3, m97a M3, ↓m97a_b M3, m97s M3, ↓m97s_b M3, m98a M3, ↓m98a_b M3, m98s M3, ↓m98s_b M3, m99a M3, ↓m99a_b M3, m99s M3, ↓m99s_b M3, m100a M3, ↓m100a_b M3, m100s M3, ↓m100s_b M3, o3]
    · rw [if_neg c]
      obtain ⟨h2, e2, g2⟩ := w.2 c
      clear w
      replace e2 : F_md_needs 88 1000012 h1 = some h2 := e2
      have M2 := MS_fm g2.1 M1
      have o2 := g2.2.1
      have e3 := D_rw5 (lo := J 0) (hi := J 100) M2 o2
      have ep : F_md_readPart 88 1000012 (J 0) (J 100) h1 = some (J 0, h2) := by
        unfold F_md_readPart
        rw [ck_e (MS_k M1)]
        simp (disch := first | with_reducible assumption | omega | trivial) only [↓bn_s1, ↓bd_s1, ↓ei_l1, ↓ei_r1, ↓bn_if, ↓ilt_1, ↓ilt_0, ↓ieq_1, ↓ieq_0, bn_s1, bd_s1, ei_l1, ei_r1, J_add, J_sub, J_mul, J_neg, J_lt, J_le, J_eq, dv_J, rm_J, if_pos, if_neg, ↓reduceIte, bitJ, shlJ, orJ, j_0, j_1, j_2, j_3, j_4, j_5, j_6, j_7, j_8, j_9, j_10, j_11, j_12, j_13, j_14, j_15, j_16, j_17, j_18, j_19, j_20, j_21, j_22, j_23, j_24, j_25, j_26, j_27, j_28, j_29, j_30, j_31, j_32, j_33, j_34, j_35, j_36, j_37, j_38, j_39, j_40, j_41, j_42, j_43, j_44, j_45, j_46, j_47, j_48, j_49, j_50, j_51, j_52, j_57, j_59, j_63, j_74, j_75, j_93, j_97, j_99, j_100, j_122, j_200, j_255, j_300, j_465, j_496, j_900, j_999, j_1000, j_65536, j_65537, j_99999, j_252645135, j_858993459, j_1431655765, k_0, k_1, k_27, k_32, k_74, k_75, k_100, k_1000, k_65537, ↓bn_e (e2), e2, ↓bd_e (e3), e3]
      refine DO_r (h' := h2) ?_ (df_tr (df_gf hb.1 g1) (df_fd hb.1 g2)) ⟨o2, g2.2.2.1, g2.2.2.2.1⟩
      unfold F_md_readLake
      rw [ck_e (MS_k M)]
      try simp only [j_0, j_1, j_2, j_3, j_4, j_5, j_6, j_7, j_8, j_9, j_10, j_11, j_12, j_13, j_14, j_15, j_16, j_17, j_18, j_19, j_20, j_21, j_22, j_23, j_24, j_25, j_26, j_27, j_28, j_29, j_30, j_31, j_32, j_33, j_34, j_35, j_36, j_37, j_38, j_39, j_40, j_41, j_42, j_43, j_44, j_45, j_46, j_47, j_48, j_49, j_50, j_51, j_52, j_57, j_59, j_63, j_74, j_75, j_93, j_97, j_99, j_100, j_122, j_200, j_255, j_300, j_465, j_496, j_900, j_999, j_1000, j_65536, j_65537, j_99999, j_252645135, j_858993459, j_1431655765, k_0, k_1, k_27, k_32, k_74, k_75, k_100, k_1000, k_65537]
      simp (disch := first | with_reducible assumption | omega | trivial) only [↓bn_s1, ↓bd_s1, ↓ei_l1, ↓ei_r1, ↓bn_if, ↓ilt_1, ↓ilt_0, ↓ieq_1, ↓ieq_0, bn_s1, bd_s1, ei_l1, ei_r1, J_add, J_sub, J_mul, J_neg, J_lt, J_le, J_eq, dv_J, rm_J, if_pos, if_neg, ↓reduceIte, bitJ, shlJ, orJ, j_0, j_1, j_2, j_3, j_4, j_5, j_6, j_7, j_8, j_9, j_10, j_11, j_12, j_13, j_14, j_15, j_16, j_17, j_18, j_19, j_20, j_21, j_22, j_23, j_24, j_25, j_26, j_27, j_28, j_29, j_30, j_31, j_32, j_33, j_34, j_35, j_36, j_37, j_38, j_39, j_40, j_41, j_42, j_43, j_44, j_45, j_46, j_47, j_48, j_49, j_50, j_51, j_52, j_57, j_59, j_63, j_74, j_75, j_93, j_97, j_99, j_100, j_122, j_200, j_255, j_300, j_465, j_496, j_900, j_999, j_1000, j_65536, j_65537, j_99999, j_252645135, j_858993459, j_1431655765, k_0, k_1, k_27, k_32, k_74, k_75, k_100, k_1000, k_65537, ↓bn_e (er), er, ↓bn_e (gi), gi, ↓bn_e (e1), e1, ↓bd_e (ep), ep, m_i M2, ↓m_i_b M2, m_p M2, ↓m_p_b M2, m_l M2, ↓m_l_b M2, m_pl M2, ↓m_pl_b M2, mr_15 M2, ↓mr_15_b M2, mr_16 M2, ↓mr_16_b M2, mr_17 M2, ↓mr_17_b M2, mr_18 M2, ↓mr_18_b M2, mr_21 M2, ↓mr_21_b M2, mr_22 M2, ↓mr_22_b M2, mr_23 M2, ↓mr_23_b M2, mr_24 M2, ↓mr_24_b M2, mr_25 M2, ↓mr_25_b M2, mr_30 M2, ↓mr_30_b M2, mr_31 M2, ↓mr_31_b M2, m90a M2, ↓m90a_b M2, m90s M2, ↓m90s_b M2, m91a M2, ↓m91a_b M2, m91s M2, ↓m91s_b M2, m92a M2, ↓m92a_b M2, m92s M2, ↓m92s_b M2, m93a M2, ↓m93a_b M2, m93s M2, ↓m93s_b M2, m94a M2, ↓m94a_b M2, m94s M2, ↓m94s_b M2, m95a M2, ↓m95a_b M2, m95s M2, ↓m95s_b M2, m96a M2, ↓m96a_b M2, m96s M2, ↓m96s_b M2, m97a M2, ↓m97a_b M2, m97s M2, ↓m97s_b M2, m98a M2, ↓m98a_b M2, m98s M2, ↓m98s_b M2, m99a M2, ↓m99a_b M2, m99s M2, ↓m99s_b M2, m100a M2, ↓m100a_b M2, m100s M2, ↓m100s_b M2, o2]
  · rw [if_neg t]
    have mi := LW_mice lw
    have gi : gI h b 12 0 = some (J (L 0 0)) := by
      rw [gI_J (YS_k Y), LX.1.1]
      unfold lkx
      rw [if_neg (fun z => t z.2.2)]
    obtain ⟨h1, e1, g1⟩ := D_flaw (x := 3) B.1 hp H (by omega)
    have M1 := MS_fm g1.1 M
    have o1 := g1.2.1
    have e2 := D_go5 M1 o1
    have e3 := D_part5 (w := 1000012) (lo := J 0) (hi := J 100) M1 o1
    refine DO_r (h' := h1) ?_ (df_fd hb.1 g1) ⟨o1, g1.2.2.1, g1.2.2.2.1⟩
    unfold F_md_readLake
    rw [ck_e (MS_k M)]
    try simp only [j_0, j_1, j_2, j_3, j_4, j_5, j_6, j_7, j_8, j_9, j_10, j_11, j_12, j_13, j_14, j_15, j_16, j_17, j_18, j_19, j_20, j_21, j_22, j_23, j_24, j_25, j_26, j_27, j_28, j_29, j_30, j_31, j_32, j_33, j_34, j_35, j_36, j_37, j_38, j_39, j_40, j_41, j_42, j_43, j_44, j_45, j_46, j_47, j_48, j_49, j_50, j_51, j_52, j_57, j_59, j_63, j_74, j_75, j_93, j_97, j_99, j_100, j_122, j_200, j_255, j_300, j_465, j_496, j_900, j_999, j_1000, j_65536, j_65537, j_99999, j_252645135, j_858993459, j_1431655765, k_0, k_1, k_27, k_32, k_74, k_75, k_100, k_1000, k_65537]
    simp (disch := first | with_reducible assumption | omega | trivial) only [↓bn_s1, ↓bd_s1, ↓ei_l1, ↓ei_r1, ↓bn_if, ↓ilt_1, ↓ilt_0, ↓ieq_1, ↓ieq_0, bn_s1, bd_s1, ei_l1, ei_r1, J_add, J_sub, J_mul, J_neg, J_lt, J_le, J_eq, dv_J, rm_J, if_pos, if_neg, ↓reduceIte, bitJ, shlJ, orJ, j_0, j_1, j_2, j_3, j_4, j_5, j_6, j_7, j_8, j_9, j_10, j_11, j_12, j_13, j_14, j_15, j_16, j_17, j_18, j_19, j_20, j_21, j_22, j_23, j_24, j_25, j_26, j_27, j_28, j_29, j_30, j_31, j_32, j_33, j_34, j_35, j_36, j_37, j_38, j_39, j_40, j_41, j_42, j_43, j_44, j_45, j_46, j_47, j_48, j_49, j_50, j_51, j_52, j_57, j_59, j_63, j_74, j_75, j_93, j_97, j_99, j_100, j_122, j_200, j_255, j_300, j_465, j_496, j_900, j_999, j_1000, j_65536, j_65537, j_99999, j_252645135, j_858993459, j_1431655765, k_0, k_1, k_27, k_32, k_74, k_75, k_100, k_1000, k_65537, ↓bn_e (er), er, ↓bn_e (gi), gi, ↓bn_e (e1), e1, ↓bn_e (e2), e2, ↓bd_e (e3), e3, m_i M1, ↓m_i_b M1, m_p M1, ↓m_p_b M1, m_l M1, ↓m_l_b M1, m_pl M1, ↓m_pl_b M1, mr_15 M1, ↓mr_15_b M1, mr_16 M1, ↓mr_16_b M1, mr_17 M1, ↓mr_17_b M1, mr_18 M1, ↓mr_18_b M1, mr_21 M1, ↓mr_21_b M1, mr_22 M1, ↓mr_22_b M1, mr_23 M1, ↓mr_23_b M1, mr_24 M1, ↓mr_24_b M1, mr_25 M1, ↓mr_25_b M1, mr_30 M1, ↓mr_30_b M1, mr_31 M1, ↓mr_31_b M1, m90a M1, ↓m90a_b M1, m90s M1, ↓m90s_b M1, m91a M1, ↓m91a_b M1, m91s M1, ↓m91s_b M1, m92a M1, ↓m92a_b M1, m92s M1, ↓m92s_b M1, m93a M1, ↓m93a_b M1, m93s M1, ↓m93s_b M1, m94a M1, ↓m94a_b M1, m94s M1, ↓m94s_b M1, m95a M1, ↓m95a_b M1, m95s M1, ↓m95s_b M1, m96a M1, ↓m96a_b M1, m96s M1, ↓m96s_b M1, m97a M1, ↓m97a_b M1, m97s M1, ↓m97s_b M1, m98a M1, ↓m98a_b M1, m98s M1, ↓m98s_b M1, m99a M1, ↓m99a_b M1, m99s M1, ↓m99s_b M1, m100a M1, ↓m100a_b M1, m100s M1, ↓m100s_b M1, o1]
