/-! lake, in the class -/
def o_lak (a : Ab) (z : Int) : Lo := a_all (qT a) z.toNat (z.toNat + 1) Lz0 0
def a_lak (a : Ab) (z : Int) : Ab := if 0 ≤ z ∧ z ≤ qtp a then (match o_lak a z with | .inl y => (y.2, tld y.2 0, qP a, 0, qG a, 0, qT a, 0, 0, 0, 0) | .inr y => (qL a, qS a, qP a, qn a, qG a, qm a, qT a, 0, 4, y.1, y.2)) else sTr a 2
def v_lak (a : Ab) (z : Int) : Int := if 0 ≤ z ∧ z ≤ qtp a then (match o_lak a z with | .inl y => y.2 1 0 | .inr _ => -1) else -1
theorem lak_r {a : Ab} {z : Int} (c : ¬ (0 ≤ z ∧ z ≤ qtp a)) : a_lak a z = sTr a 2 ∧ v_lak a z = -1 := ⟨if_neg c, if_neg c⟩
theorem lak_f {a : Ab} {z f q : Int} (c : 0 ≤ z ∧ z ≤ qtp a) (e : o_lak a z = .inr (f, q)) : a_lak a z = (qL a, qS a, qP a, qn a, qG a, qm a, qT a, 0, 4, f, q) ∧ v_lak a z = -1 := by
  unfold a_lak v_lak
  rw [if_pos c, if_pos c, e]
  exact ⟨rfl, rfl⟩
theorem lak_g {a : Ab} {z : Int} {p : Nat} {L : Lk} (c : 0 ≤ z ∧ z ≤ qtp a) (e : o_lak a z = .inl (p, L)) : a_lak a z = (L, tld L 0, qP a, 0, qG a, 0, qT a, 0, 0, 0, 0) ∧ v_lak a z = L 1 0 := by
  unfold a_lak v_lak
  rw [if_pos c, if_pos c, e]
  exact ⟨rfl, rfl⟩
theorem SG_tld {L : Lk} (lw : LW L) : SG L (tld L 0) := by
  have w := tld_sw lw 0
  have z29 : tld L 0 29 = 0 := by rw [tld_hi lw 0 (by omega), tb0_g lw (by omega)]
  refine ⟨⟨fun i i0 i1 => ?_, w.2⟩, ?_, fun g g0 g1 => ?_⟩
  · have := w.1 i i0 i1
    omega
  · rw [z29]; omega
  · rw [tld_hi lw 0 (by omega)]
    have := LW_gs lw g g0 g1
    unfold tb0
    rw [if_neg (by omega), if_pos (by omega), show 25 + g - 25 = g by omega]
    omega
theorem c_lak {a : Ab} {t : Nat} {h : Hp} {z : Int} (HA : AW a) (HN : NL a) (H : CI a t h) (W : WR h) (hz : rng z) : ∃ h' t', F_cs_lake 0 (J z) h = some (J (v_lak a z), h') ∧ CI (a_lak a z) t' h' ∧ Se (fun x => 88 ≤ x) h h' ∧ cn h' = cn h ∧ wd h' = wd h ∧ AW (a_lak a z) ∧ NL (a_lak a z) := by
  have V := H.1
  have ho := XV_o V
  have kx := XS_k (XV_x V)
  have tb := HA.2.2.2.2.1
  have g1 : gI h 0 11 1 = some (J (qtp a)) := by rw [gI_J kx, H.2.2.2.2.1]
  by_cases c : 0 ≤ z ∧ z ≤ qtp a
  · have eo := out_0 (z := z) (lo := 0) (hi := qtp a) hz (by omega) (by omega) (by omega) (by omega) c
    have er := ref_0 kx
    obtain ⟨n, hn⟩ : ∃ n : Nat, n = z.toNat := ⟨_, rfl⟩
    have zn : z = n := by omega
    obtain ⟨h7, r7⟩ : ∃ y, y = wF h 0 12 0 := ⟨_, rfl⟩
    rw [← r7] at er
    have f7 : Fm 0 1 h h7 := by rw [r7]; exact fm_wF (by omega) (by omega)
    have k7 : kd h7 0 = 11 := by rw [fm_kd f7]; exact kx
    obtain ⟨h8, r8⟩ : ∃ y, y = wF h7 0 1 0 := ⟨_, rfl⟩
    have f8 : Fm 0 1 h7 h8 := by rw [r8]; exact fm_wF (by omega) (by omega)
    have s8 : pI h7 0 11 1 (J 0) = some h8 := by rw [r8]; exact pI_J k7
    have F8 := fm_tr f7 f8
    have V8 := XV_fm F8 (by omega) V
    have X8 := XV_x V8
    have k8 : kd h8 0 = 11 := XS_k X8
    have g8 : gR h8 0 11 2 = some 2 := gR_e k8 (XS_r2 X8)
    have g8' : gR h8 0 11 0 = some 1 := gR_e k8 (XS_r0 X8)
    have W8 := WR_fm F8 (by omega) W
    have T8 : TX (qT a) n h8 := ⟨by omega, HA.2.2.2.2.2.2.2.2, fun i i0 i1 => by rw [fm_ia F8 (by omega)]; exact H.2.2.2.2.2.2.2.2 i i0 (by omega)⟩
    have CA := C_read V8 T8 W8
    have ez : a_all (qT a) n (n + 1) Lz0 0 = o_lak a z := by unfold o_lak; rw [hn]
    rw [ez] at CA
    cases hO : o_lak a z with
    | inr y =>
      obtain ⟨f, q⟩ := y
      obtain ⟨b, h9, e9, l9, v0, v1⟩ := CA.2 f q hO
      have lk := lak_f c hO
      rw [lk.1, lk.2]
      obtain ⟨w1, w2, w3, w4, w5, w6⟩ := l9
      have r03 : fR h9 0 3 = some t := by rw [(w3 0 (by omega)).2.2.2.1]; exact XV_t V8
      have V9 : XV t h9 := XV_wc w1 r03 (by rw [w4]; exact XV_u V8) ho V8
      have k9 : kd h9 0 = 11 := XS_k (XV_x V9)
      have g9 : gR h9 0 11 2 = some 2 := gR_e k9 (XS_r2 (XV_x V9))
      have i9 : gI h9 2 7 0 = some (J f) := by rw [gI_J (DS_k (XV_d V9)), v0]
      obtain ⟨h10, r10⟩ : ∃ y, y = wF h9 0 12 4 := ⟨_, rfl⟩
      have f10 : Fm 0 1 h9 h10 := by rw [r10]; exact fm_wF (by omega) (by omega)
      have s10 : pI h9 0 11 12 (J 4) = some h10 := by rw [r10]; exact pI_J k9
      have eb : F_cs_refusedBy 0 (J 4) (J 1) h9 = some (J 1, h10) := by
        have rv := rvb1
        unfold F_cs_refusedBy
        rw [ck_e k9]
        try simp only [j_0, j_1, j_2, j_3, j_4, j_5, j_6, j_7, j_8, j_9, j_10, j_11, j_12, j_13, j_14, j_15, j_16, j_17, j_18, j_19, j_20, j_21, j_22, j_23, j_24, j_25, j_26, j_27, j_28, j_29, j_30, j_31, j_32, j_33, j_34, j_35, j_36, j_37, j_38, j_39, j_40, j_41, j_42, j_43, j_44, j_45, j_46, j_47, j_48, j_49, j_50, j_51, j_52, j_57, j_59, j_63, j_74, j_75, j_93, j_97, j_99, j_100, j_122, j_200, j_255, j_300, j_465, j_496, j_900, j_999, j_1000, j_65536, j_65537, j_99999, j_252645135, j_858993459, j_1431655765, k_0, k_1, k_27, k_32, k_74, k_75, k_100, k_1000, k_65537]
        simp (disch := first | with_reducible assumption | omega | trivial) only [↓bn_s1, ↓bd_s1, ↓ei_l1, ↓ei_r1, ↓bn_if, ↓ilt_1, ↓ilt_0, ↓ieq_1, ↓ieq_0, bn_s1, bd_s1, ei_l1, ei_r1, J_add, J_sub, J_mul, J_neg, J_lt, J_le, J_eq, dv_J, rm_J, if_pos, if_neg, ↓reduceIte, bitJ, shlJ, orJ, j_0, j_1, j_2, j_3, j_4, j_5, j_6, j_7, j_8, j_9, j_10, j_11, j_12, j_13, j_14, j_15, j_16, j_17, j_18, j_19, j_20, j_21, j_22, j_23, j_24, j_25, j_26, j_27, j_28, j_29, j_30, j_31, j_32, j_33, j_34, j_35, j_36, j_37, j_38, j_39, j_40, j_41, j_42, j_43, j_44, j_45, j_46, j_47, j_48, j_49, j_50, j_51, j_52, j_57, j_59, j_63, j_74, j_75, j_93, j_97, j_99, j_100, j_122, j_200, j_255, j_300, j_465, j_496, j_900, j_999, j_1000, j_65536, j_65537, j_99999, j_252645135, j_858993459, j_1431655765, k_0, k_1, k_27, k_32, k_74, k_75, k_100, k_1000, k_65537, ↓bn_e (s10), s10]
      obtain ⟨A1, A2, A3, A4, A5, A6, A7, A8, A9⟩ := HA
      refine ⟨h10, t, ?_, ?_, ?_, ?_, ?_, ⟨A1, A2, A3, A4, by show (0 : Int) ≤ 0 ∧ (0 : Int) ≤ 1000; omega, by show (0 : Int) ≤ 4 ∧ (4 : Int) ≤ 6; omega, by show 0 ≤ f ∧ f ≤ 6; omega, by show 0 ≤ q ∧ q ≤ 1000; omega, A9⟩, HN⟩
      · rw [zn] at eo ⊢
        unfold F_cs_lake
        rw [ck_e kx]
        try simp only [j_0, j_1, j_2, j_3, j_4, j_5, j_6, j_7, j_8, j_9, j_10, j_11, j_12, j_13, j_14, j_15, j_16, j_17, j_18, j_19, j_20, j_21, j_22, j_23, j_24, j_25, j_26, j_27, j_28, j_29, j_30, j_31, j_32, j_33, j_34, j_35, j_36, j_37, j_38, j_39, j_40, j_41, j_42, j_43, j_44, j_45, j_46, j_47, j_48, j_49, j_50, j_51, j_52, j_57, j_59, j_63, j_74, j_75, j_93, j_97, j_99, j_100, j_122, j_200, j_255, j_300, j_465, j_496, j_900, j_999, j_1000, j_65536, j_65537, j_99999, j_252645135, j_858993459, j_1431655765, k_0, k_1, k_27, k_32, k_74, k_75, k_100, k_1000, k_65537]
        simp (disch := first | with_reducible assumption | omega | trivial) only [↓bn_s1, ↓bd_s1, ↓ei_l1, ↓ei_r1, ↓bn_if, ↓ilt_1, ↓ilt_0, ↓ieq_1, ↓ieq_0, bn_s1, bd_s1, ei_l1, ei_r1, J_add, J_sub, J_mul, J_neg, J_lt, J_le, J_eq, dv_J, rm_J, if_pos, if_neg, ↓reduceIte, bitJ, shlJ, orJ, j_0, j_1, j_2, j_3, j_4, j_5, j_6, j_7, j_8, j_9, j_10, j_11, j_12, j_13, j_14, j_15, j_16, j_17, j_18, j_19, j_20, j_21, j_22, j_23, j_24, j_25, j_26, j_27, j_28, j_29, j_30, j_31, j_32, j_33, j_34, j_35, j_36, j_37, j_38, j_39, j_40, j_41, j_42, j_43, j_44, j_45, j_46, j_47, j_48, j_49, j_50, j_51, j_52, j_57, j_59, j_63, j_74, j_75, j_93, j_97, j_99, j_100, j_122, j_200, j_255, j_300, j_465, j_496, j_900, j_999, j_1000, j_65536, j_65537, j_99999, j_252645135, j_858993459, j_1431655765, k_0, k_1, k_27, k_32, k_74, k_75, k_100, k_1000, k_65537, ↓bn_e (g1), g1, ↓bn_e (eo), eo, ↓bd_e (er), er, ↓bn_e (s8), s8, ↓bn_e (g8), g8, ↓bn_e (g8'), g8', ↓bn_e (e9), e9, ↓bn_e (g9), g9, ↓bn_e (i9), i9, ↓bd_e (eb), eb]
      · have fo : ∀ x, (t ≤ x ∧ x < t + 18) → ∀ k, fi h10 x k = fi h x k := fun x hx k => by rw [fm_fi f10 (by omega), (w2 x hx).1, fm_fi F8 (by omega)]
        have io : ∀ x, (t ≤ x ∧ x < t + 18) → ∀ k, ia h10 x k = ia h x k := fun x hx k => by rw [fm_ia f10 (by omega), (w2 x hx).2, fm_ia F8 (by omega)]
        have fo' : ∀ x, 44 ≤ x → ∀ k, fi h10 x k = fi h x k := fun x hx k => by rw [fm_fi f10 (by omega), se_fi w3 (by omega), fm_fi F8 (by omega)]
        have io' : ∀ x, 44 ≤ x → ∀ k, ia h10 x k = ia h x k := fun x hx k => by rw [fm_ia f10 (by omega), se_ia w3 (by omega), fm_ia F8 (by omega)]
        refine ⟨XV_fm f10 (by omega) V9, ?_, ?_, ?_, ?_, ?_, ?_, ?_, fun i i0 i1 => absurd (show i < 0 from i1) (by omega)⟩
        · have R := H.2.1
          unfold TR at R ⊢
          simp (disch := omega) only [fo, io]
          exact R
        · have R := H.2.2.1
          unfold SR at R ⊢
          simp (disch := omega) only [fo', io']
          exact R
        · have R := H.2.2.2.1
          unfold MR SE at R ⊢
          simp (disch := omega) only [fo', io']
          exact R
        · rw [r10, fi_ne (by omega), se_fi w3 (by omega), r8]; exact fi_same (by omega) (by omega)
        · rw [r10]; exact fi_same (by omega) (by omega)
        · rw [fm_fi f10 (by omega)]; exact v0
        · rw [fm_fi f10 (by omega)]; exact v1
      · exact se_tr (se_fm F8 (fun x hx => by omega)) (se_tr (se_mo w3 (fun x hx => by omega)) (se_fm f10 (fun x hx => by omega)))
      · rw [f10.2.2.1, w5, F8.2.2.1]
      · rw [f10.2.2.2.1, w6, F8.2.2.2.1]
    | inl y =>
      obtain ⟨p, L⟩ := y
      obtain ⟨h9, e9, l9, C9, nz, v0, v1⟩ := CA.1 p L hO
      have lk := lak_g c hO
      rw [lk.1, lk.2]
      obtain ⟨w1, w2, w3, w4, w5, w6⟩ := l9
      have lw := CP_lw C9
      have lh := LW_h lw
      have R9 := CP_t C9
      obtain ⟨u, eu⟩ : ∃ u, u = 31 - t := ⟨_, rfl⟩
      rw [← eu] at C9 R9
      have r03 : fR h9 0 3 = some t := by rw [(w3 0 (by omega)).2.2.2.1]; exact XV_t V8
      have r23 : fR h9 2 3 = some u := by rw [w4, eu]; exact XV_u V8
      have V9 : XV t h9 := XV_wc w1 r03 (by rw [w4]; exact XV_u V8) ho V8
      have k9 : kd h9 0 = 11 := XS_k (XV_x V9)
      have g9 : gR h9 0 11 2 = some 2 := gR_e k9 (XS_r2 (XV_x V9))
      have i9 : gI h9 2 7 0 = some (J 0) := by rw [gI_J (DS_k (XV_d V9)), v0]
      obtain ⟨h10, r10⟩ : ∃ y, y = wF h9 0 12 0 := ⟨_, rfl⟩
      have f10 : Fm 0 1 h9 h10 := by rw [r10]; exact fm_wF (by omega) (by omega)
      have s10 : pI h9 0 11 12 (J 0) = some h10 := by rw [r10]; exact pI_J k9
      have eb : F_cs_refusedBy 0 (J 4) (J 0) h9 = some (J 0, h10) := by
        have rv := rvb0
        unfold F_cs_refusedBy
        rw [ck_e k9]
        try simp only [j_0, j_1, j_2, j_3, j_4, j_5, j_6, j_7, j_8, j_9, j_10, j_11, j_12, j_13, j_14, j_15, j_16, j_17, j_18, j_19, j_20, j_21, j_22, j_23, j_24, j_25, j_26, j_27, j_28, j_29, j_30, j_31, j_32, j_33, j_34, j_35, j_36, j_37, j_38, j_39, j_40, j_41, j_42, j_43, j_44, j_45, j_46, j_47, j_48, j_49, j_50, j_51, j_52, j_57, j_59, j_63, j_74, j_75, j_93, j_97, j_99, j_100, j_122, j_200, j_255, j_300, j_465, j_496, j_900, j_999, j_1000, j_65536, j_65537, j_99999, j_252645135, j_858993459, j_1431655765, k_0, k_1, k_27, k_32, k_74, k_75, k_100, k_1000, k_65537]
        simp (disch := first | with_reducible assumption | omega | trivial) only [↓bn_s1, ↓bd_s1, ↓ei_l1, ↓ei_r1, ↓bn_if, ↓ilt_1, ↓ilt_0, ↓ieq_1, ↓ieq_0, bn_s1, bd_s1, ei_l1, ei_r1, J_add, J_sub, J_mul, J_neg, J_lt, J_le, J_eq, dv_J, rm_J, if_pos, if_neg, ↓reduceIte, bitJ, shlJ, orJ, j_0, j_1, j_2, j_3, j_4, j_5, j_6, j_7, j_8, j_9, j_10, j_11, j_12, j_13, j_14, j_15, j_16, j_17, j_18, j_19, j_20, j_21, j_22, j_23, j_24, j_25, j_26, j_27, j_28, j_29, j_30, j_31, j_32, j_33, j_34, j_35, j_36, j_37, j_38, j_39, j_40, j_41, j_42, j_43, j_44, j_45, j_46, j_47, j_48, j_49, j_50, j_51, j_52, j_57, j_59, j_63, j_74, j_75, j_93, j_97, j_99, j_100, j_122, j_200, j_255, j_300, j_465, j_496, j_900, j_999, j_1000, j_65536, j_65537, j_99999, j_252645135, j_858993459, j_1431655765, k_0, k_1, k_27, k_32, k_74, k_75, k_100, k_1000, k_65537, ↓bn_e (s10), s10]
      have V10 := XV_fm f10 (by omega) V9
      have k10 : kd h10 0 = 11 := XS_k (XV_x V10)
      have g10 : gR h10 0 11 2 = some 2 := gR_e k10 (XS_r2 (XV_x V10))
      have g10' : gR h10 0 11 3 = some t := gR_e k10 (XV_t V10)
      obtain ⟨h11, r11⟩ : ∃ y, y = sFR h10 2 3 (some t) := ⟨_, rfl⟩
      have ex : F_rd_exchange 2 t h10 = some (u, h11) := by
        have q1 : gR h10 2 7 3 = some u := gR_e (DS_k (XV_d V10)) (by rw [fm_fR f10]; exact r23)
        have q2 : pR h10 2 7 3 (some t) = some h11 := by rw [r11]; exact pR_e (DS_k (XV_d V10))
        unfold F_rd_exchange
        rw [ck_e (DS_k (XV_d V10)), bn_e q1, bn_e q2]
      obtain ⟨h12, r12⟩ : ∃ y, y = sFR h11 0 3 (some u) := ⟨_, rfl⟩
      have k11 : kd h11 0 = 11 := by rw [r11]; exact k10
      have s12 : pR h11 0 11 3 (some u) = some h12 := by rw [r12]; exact pR_e k11
      have x12 : Wc h10 h12 := by rw [r12, r11]; exact wc_tr (wc_sR (by omega)) (wc_sR (by omega))
      have rr0 : fR h12 0 3 = some u := by rw [r12]; show (if 0 = 0 ∧ 3 = 3 then some u else fR h11 0 3) = some u; rw [if_pos ⟨rfl, rfl⟩]
      have rr2 : fR h12 2 3 = some t := by
        rw [r12, r11]
        show (if 2 = 0 ∧ 3 = 3 then some u else (if 2 = 2 ∧ 3 = 3 then some t else fR h10 2 3)) = some t
        rw [if_neg (by omega), if_pos ⟨rfl, rfl⟩]
      have V12 : XV u h12 := XV_wc x12 rr0 (by rw [rr2]; congr 1; omega) (by omega) V10
      have fI12 : ∀ x k, fi h12 x k = fi h10 x k := fun x k => by rw [r12, r11]; rfl
      have iA12 : ∀ x k, ia h12 x k = ia h10 x k := fun x k => by rw [r12, r11]; rfl
      have k12 : kd h12 0 = 11 := XS_k (XV_x V12)
      have g12 : gR h12 0 11 3 = some u := gR_e k12 rr0
      have g12' : gR h12 0 11 4 = some 44 := gR_e k12 (XS_r4 (XV_x V12))
      have R12 : TR L u h12 := by
        unfold TR
        simp only [fI12, iA12]
        exact TR_fm f10 (by omega) R9
      obtain ⟨h13, e13, f13, S13⟩ := C_begin (hs := 0) lw (XV_ts V12) R12 (XV_s44 V12) (by omega) (by omega) (by omega) (by omega)
      have V13 := XV_fm f13 (by omega) V12
      have k13 : kd h13 0 = 11 := XS_k (XV_x V13)
      have g13 : gR h13 0 11 7 = some 54 := gR_e k13 (XS_r7 (XV_x V13))
      have E13 := XV_e V13
      obtain ⟨h14, r14⟩ : ∃ y, y = wF (wF (wF h13 54 2 0) 54 3 0) 54 4 0 := ⟨_, rfl⟩
      have f14 : Fm 54 55 h13 h14 := by rw [r14]; exact fm_tr (fm_wF (by omega) (by omega)) (fm_tr (fm_wF (by omega) (by omega)) (fm_wF (by omega) (by omega)))
      have e14 : F_me_clear 54 h13 = some h14 := by
        have q1 : pI h13 54 3 2 (J 0) = some (wF h13 54 2 0) := pI_J (ES_k E13)
        have q2 : pI (wF h13 54 2 0) 54 3 3 (J 0) = some (wF (wF h13 54 2 0) 54 3 0) := pI_J (ES_k (ES_fm (fm_wF (lo := 54) (hi := 55) (by omega) (by omega)) E13))
        have q3 : pI (wF (wF h13 54 2 0) 54 3 0) 54 3 4 (J 0) = some h14 := by
          rw [r14]
          exact pI_J (ES_k (ES_fm (fm_tr (fm_wF (lo := 54) (hi := 55) (by omega) (by omega)) (fm_wF (lo := 54) (hi := 55) (by omega) (by omega))) E13))
        unfold F_me_clear
        rw [ck_e (ES_k E13)]
        try simp only [j_0, j_1, j_2, j_3, j_4, j_5, j_6, j_7, j_8, j_9, j_10, j_11, j_12, j_13, j_14, j_15, j_16, j_17, j_18, j_19, j_20, j_21, j_22, j_23, j_24, j_25, j_26, j_27, j_28, j_29, j_30, j_31, j_32, j_33, j_34, j_35, j_36, j_37, j_38, j_39, j_40, j_41, j_42, j_43, j_44, j_45, j_46, j_47, j_48, j_49, j_50, j_51, j_52, j_57, j_59, j_63, j_74, j_75, j_93, j_97, j_99, j_100, j_122, j_200, j_255, j_300, j_465, j_496, j_900, j_999, j_1000, j_65536, j_65537, j_99999, j_252645135, j_858993459, j_1431655765, k_0, k_1, k_27, k_32, k_74, k_75, k_100, k_1000, k_65537]
        simp (disch := first | with_reducible assumption | omega | trivial) only [↓bn_s1, ↓bd_s1, ↓ei_l1, ↓ei_r1, ↓bn_if, ↓ilt_1, ↓ilt_0, ↓ieq_1, ↓ieq_0, bn_s1, bd_s1, ei_l1, ei_r1, J_add, J_sub, J_mul, J_neg, J_lt, J_le, J_eq, dv_J, rm_J, if_pos, if_neg, ↓reduceIte, bitJ, shlJ, orJ, j_0, j_1, j_2, j_3, j_4, j_5, j_6, j_7, j_8, j_9, j_10, j_11, j_12, j_13, j_14, j_15, j_16, j_17, j_18, j_19, j_20, j_21, j_22, j_23, j_24, j_25, j_26, j_27, j_28, j_29, j_30, j_31, j_32, j_33, j_34, j_35, j_36, j_37, j_38, j_39, j_40, j_41, j_42, j_43, j_44, j_45, j_46, j_47, j_48, j_49, j_50, j_51, j_52, j_57, j_59, j_63, j_74, j_75, j_93, j_97, j_99, j_100, j_122, j_200, j_255, j_300, j_465, j_496, j_900, j_999, j_1000, j_65536, j_65537, j_99999, j_252645135, j_858993459, j_1431655765, k_0, k_1, k_27, k_32, k_74, k_75, k_100, k_1000, k_65537, ↓bn_e (q1), q1, ↓bn_e (q2), q2, ↓bn_e (q3), q3]
      have V14 := XV_fm f14 (by omega) V13
      have k14 : kd h14 0 = 11 := XS_k (XV_x V14)
      have g14 : gR h14 0 11 3 = some u := gR_e k14 (XV_t V14)
      have R14 : TR L u h14 := TR_fm f14 (by omega) (TR_fm f13 (by omega) R12)
      have i14 : gI h14 u 10 1 = some (J (L 1 0)) := ti_1 (XV_ts V14) R14
      have tb' := HA.2.2.2.2.2.2.2.2
      refine ⟨h14, u, ?_, ?_, ?_, ?_, ?_, ⟨lw, SG_tld lw, fun j hj => absurd (show j < 0 from hj) (by omega), fun j hj => absurd (show j < 0 from hj) (by omega), by show (0 : Int) ≤ 0 ∧ (0 : Int) ≤ 1000; omega, by show (0 : Int) ≤ 0 ∧ (0 : Int) ≤ 6; omega, by show (0 : Int) ≤ 0 ∧ (0 : Int) ≤ 6; omega, by show (0 : Int) ≤ 0 ∧ (0 : Int) ≤ 1000; omega, tb'⟩, fun e => absurd e nz⟩
      · rw [zn] at eo ⊢
        replace e13 : F_to_begin u 44 (J 0) h12 = some h13 := e13
        unfold F_cs_lake
        rw [ck_e kx]
        try simp only [j_0, j_1, j_2, j_3, j_4, j_5, j_6, j_7, j_8, j_9, j_10, j_11, j_12, j_13, j_14, j_15, j_16, j_17, j_18, j_19, j_20, j_21, j_22, j_23, j_24, j_25, j_26, j_27, j_28, j_29, j_30, j_31, j_32, j_33, j_34, j_35, j_36, j_37, j_38, j_39, j_40, j_41, j_42, j_43, j_44, j_45, j_46, j_47, j_48, j_49, j_50, j_51, j_52, j_57, j_59, j_63, j_74, j_75, j_93, j_97, j_99, j_100, j_122, j_200, j_255, j_300, j_465, j_496, j_900, j_999, j_1000, j_65536, j_65537, j_99999, j_252645135, j_858993459, j_1431655765, k_0, k_1, k_27, k_32, k_74, k_75, k_100, k_1000, k_65537]
        simp (disch := first | with_reducible assumption | omega | trivial) only [↓bn_s1, ↓bd_s1, ↓ei_l1, ↓ei_r1, ↓bn_if, ↓ilt_1, ↓ilt_0, ↓ieq_1, ↓ieq_0, bn_s1, bd_s1, ei_l1, ei_r1, J_add, J_sub, J_mul, J_neg, J_lt, J_le, J_eq, dv_J, rm_J, if_pos, if_neg, ↓reduceIte, bitJ, shlJ, orJ, j_0, j_1, j_2, j_3, j_4, j_5, j_6, j_7, j_8, j_9, j_10, j_11, j_12, j_13, j_14, j_15, j_16, j_17, j_18, j_19, j_20, j_21, j_22, j_23, j_24, j_25, j_26, j_27, j_28, j_29, j_30, j_31, j_32, j_33, j_34, j_35, j_36, j_37, j_38, j_39, j_40, j_41, j_42, j_43, j_44, j_45, j_46, j_47, j_48, j_49, j_50, j_51, j_52, j_57, j_59, j_63, j_74, j_75, j_93, j_97, j_99, j_100, j_122, j_200, j_255, j_300, j_465, j_496, j_900, j_999, j_1000, j_65536, j_65537, j_99999, j_252645135, j_858993459, j_1431655765, k_0, k_1, k_27, k_32, k_74, k_75, k_100, k_1000, k_65537, ↓bn_e (g1), g1, ↓bn_e (eo), eo, ↓bd_e (er), er, ↓bn_e (s8), s8, ↓bn_e (g8), g8, ↓bn_e (g8'), g8', ↓bn_e (e9), e9, ↓bn_e (g9), g9, ↓bn_e (i9), i9, ↓bd_e (eb), eb, ↓bn_e (g10), g10, ↓bn_e (g10'), g10', ↓bd_e (ex), ex, ↓bn_e (s12), s12, ↓bn_e (g12), g12, ↓bn_e (g12'), g12', ↓bn_e (e13), e13, ↓bn_e (g13), g13, ↓bn_e (e14), e14, ↓bn_e (g14), g14, ↓bn_e (i14), i14]
      · have v14 : ∀ x, x < 44 → ∀ k, fi h14 x k = fi h10 x k := fun x hx k => by rw [fm_fi f14 (by omega), fm_fi f13 (by omega), fI12]
        refine ⟨V14, R14, SR_fm f14 (by omega) S13, ⟨by show 0 ≤ 16; omega, by show 0 ≤ 3; omega, ?_, ?_, fun j hj => absurd (show j < 0 from hj) (by omega), 0, by omega, ?_, fun j hj => absurd (show j < 0 from hj) (by omega)⟩, ?_, ?_, ?_, ?_, fun i i0 i1 => absurd (show i < 0 from i1) (by omega)⟩
        · rw [r14, fi_ne (by omega)]; exact fi_same (by omega) (by omega)
        · rw [r14]; exact fi_same (by omega) (by omega)
        · rw [r14, fi_ne (by omega), fi_ne (by omega)]; exact fi_same (by omega) (by omega)
        · rw [v14 _ (by omega), r10, fi_ne (by omega), se_fi w3 (by omega), r8]; exact fi_same (by omega) (by omega)
        · rw [v14 _ (by omega), r10]; exact fi_same (by omega) (by omega)
        · rw [v14 _ (by omega), fm_fi f10 (by omega)]; exact v0
        · rw [v14 _ (by omega), fm_fi f10 (by omega)]; exact v1
      · refine se_tr (se_fm F8 (fun x hx => by omega)) (se_tr (se_mo w3 (fun x hx => by omega)) (se_tr (se_fm f10 (fun x hx => by omega)) (se_tr ?_ (se_tr (se_fm f13 (fun x hx => by omega)) (se_fm f14 (fun x hx => by omega))))))
        intro x hx
        refine ⟨by rw [r12, r11]; rfl, by rw [r12, r11]; rfl, by rw [r12, r11]; rfl, ?_, by rw [r12, r11]; rfl, by rw [r12, r11]; rfl⟩
        funext k
        rw [r12, r11]
        show (if x = 0 ∧ k = 3 then some u else (if x = 2 ∧ k = 3 then some t else fR h10 x k)) = fR h10 x k
        rw [if_neg (by omega), if_neg (by omega)]
      · rw [f14.2.2.1, f13.2.2.1, r12, r11]
        show cn h10 = cn h
        rw [f10.2.2.1, w5, F8.2.2.1]
      · rw [f14.2.2.2.1, f13.2.2.2.1, r12, r11]
        show wd h10 = wd h
        rw [f10.2.2.2.1, w6, F8.2.2.2.1]
  · have lk := lak_r c
    rw [lk.1, lk.2]
    have eo := out_1 (z := z) (lo := 0) (hi := qtp a) hz (by omega) (by omega) (by omega) (by omega) c
    have er := ref_2 kx
    have sc := sc_w h 2
    have f7 : Fm 0 1 h (wF h 0 12 2) := fm_wF (by omega) (by omega)
    obtain ⟨A1, A2, A3, A4, A5, A6, A7, A8, A9⟩ := HA
    refine ⟨wF h 0 12 2, t, ?_, CI_q sc (fi_same (by omega) (by omega)) H, se_fm f7 (fun x hx => by omega), rfl, rfl, ⟨A1, A2, A3, A4, A5, by show (0 : Int) ≤ 2 ∧ (2 : Int) ≤ 6; omega, A7, A8, A9⟩, HN⟩
    unfold F_cs_lake
    rw [ck_e kx, jm1]
    try simp only [j_0, j_1, j_2, j_3, j_4, j_5, j_6, j_7, j_8, j_9, j_10, j_11, j_12, j_13, j_14, j_15, j_16, j_17, j_18, j_19, j_20, j_21, j_22, j_23, j_24, j_25, j_26, j_27, j_28, j_29, j_30, j_31, j_32, j_33, j_34, j_35, j_36, j_37, j_38, j_39, j_40, j_41, j_42, j_43, j_44, j_45, j_46, j_47, j_48, j_49, j_50, j_51, j_52, j_57, j_59, j_63, j_74, j_75, j_93, j_97, j_99, j_100, j_122, j_200, j_255, j_300, j_465, j_496, j_900, j_999, j_1000, j_65536, j_65537, j_99999, j_252645135, j_858993459, j_1431655765, k_0, k_1, k_27, k_32, k_74, k_75, k_100, k_1000, k_65537]
    simp (disch := first | with_reducible assumption | omega | trivial) only [↓bn_s1, ↓bd_s1, ↓ei_l1, ↓ei_r1, ↓bn_if, ↓ilt_1, ↓ilt_0, ↓ieq_1, ↓ieq_0, bn_s1, bd_s1, ei_l1, ei_r1, J_add, J_sub, J_mul, J_neg, J_lt, J_le, J_eq, dv_J, rm_J, if_pos, if_neg, ↓reduceIte, bitJ, shlJ, orJ, j_0, j_1, j_2, j_3, j_4, j_5, j_6, j_7, j_8, j_9, j_10, j_11, j_12, j_13, j_14, j_15, j_16, j_17, j_18, j_19, j_20, j_21, j_22, j_23, j_24, j_25, j_26, j_27, j_28, j_29, j_30, j_31, j_32, j_33, j_34, j_35, j_36, j_37, j_38, j_39, j_40, j_41, j_42, j_43, j_44, j_45, j_46, j_47, j_48, j_49, j_50, j_51, j_52, j_57, j_59, j_63, j_74, j_75, j_93, j_97, j_99, j_100, j_122, j_200, j_255, j_300, j_465, j_496, j_900, j_999, j_1000, j_65536, j_65537, j_99999, j_252645135, j_858993459, j_1431655765, k_0, k_1, k_27, k_32, k_74, k_75, k_100, k_1000, k_65537, ↓bn_e (g1), g1, ↓bn_e (eo), eo, ↓bd_e (er), er]
