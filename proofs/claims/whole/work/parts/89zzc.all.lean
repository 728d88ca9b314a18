/-! all lines -/
def a_all (T : Int → Int) (n : Nat) : Nat → Lk → Nat → Lo
  | 0, _, _ => .inr (1, 0)
  | k + 1, L, p => match a_line L T n p with
    | .inr e => .inr e
    | .inl (q, L') => if tso T n q = 2 then a_all T n k L' (tnx T n q) else if tso T n q = 3 then (if L' 1 0 = 0 then .inr (6, (spn T n q : Nat)) else .inl (q, L')) else .inr (1, (spn T n q : Nat))
theorem a_all_r {T : Int → Int} {n k p : Nat} {L : Lk} {e : Int × Int} (h : a_line L T n p = .inr e) : a_all T n (k + 1) L p = .inr e := by
  unfold a_all
  rw [h]
theorem a_all_l {T : Int → Int} {n k p q : Nat} {L L' : Lk} (h : a_line L T n p = .inl (q, L')) : a_all T n (k + 1) L p = (if tso T n q = 2 then a_all T n k L' (tnx T n q) else if tso T n q = 3 then (if L' 1 0 = 0 then .inr (6, (spn T n q : Nat)) else .inl (q, L')) else .inr (1, (spn T n q : Nat))) := by
  conv => lhs; unfold a_all
  rw [h]
theorem lp_in {σ ρ : Type} {b : σ → Hp → Option ((σ ⊕ ρ) × Hp)} {n : Nat} {s s' : σ} {h h' : Hp} (e : b s h = some (.inl s', h')) : lp b (n + 1) s h = lp b n s' h' := by
  conv => lhs; unfold lp
  rw [e]
theorem lp_out {σ ρ : Type} {b : σ → Hp → Option ((σ ⊕ ρ) × Hp)} {n : Nat} {s : σ} {x : ρ} {h h' : Hp} (e : b s h = some (.inr x, h')) : lp b (n + 1) s h = some (x, h') := by
  conv => lhs; unfold lp
  rw [e]
/-- how all ends in the class -/
def CE (o : Lo) (u : Nat) (T : Int → Int) (n : Nat) (r : Option Hp) (h : Hp) : Prop := (∀ p L, o = .inl (p, L) → ∃ h', r = some h' ∧ Cf u h h' ∧ CP L u T n h' ∧ ¬ L 1 0 = 0 ∧ fi h' 2 0 = fi h 2 0 ∧ fi h' 2 1 = fi h 2 1) ∧ (∀ f q, o = .inr (f, q) → (1 ≤ f ∧ f ≤ 6 ∧ 0 ≤ q ∧ q ≤ n) ∧ ∃ h', r = some h' ∧ Cf u h h' ∧ fi h' 2 0 = f ∧ fi h' 2 1 = q)
theorem CE_tr {o : Lo} {u : Nat} {T : Int → Int} {n : Nat} {r : Option Hp} {h g : Hp} (x : Cf u h g) (y0 : fi g 2 0 = fi h 2 0) (y1 : fi g 2 1 = fi h 2 1) (H : CE o u T n r g) : CE o u T n r h := by
  constructor
  · intro p L e
    obtain ⟨h', e1, c, d, d2, f0, f1⟩ := H.1 p L e
    exact ⟨h', e1, cf_tr x c, d, d2, f0.trans y0, f1.trans y1⟩
  · intro f q e
    obtain ⟨b, h', e1, c, d⟩ := H.2 f q e
    exact ⟨b, h', e1, cf_tr x c, d⟩
theorem CE_r {u : Nat} {T : Int → Int} {n : Nat} {r : Option Hp} {h h' : Hp} {f q : Int} (b : 1 ≤ f ∧ f ≤ 6 ∧ 0 ≤ q ∧ q ≤ n) (e : r = some h') (x : Cf u h h') (y : fi h' 2 0 = f ∧ fi h' 2 1 = q) : CE (.inr (f, q)) u T n r h := by
  refine ⟨fun p L z => (by cases z), fun f' q' z => ?_⟩
  cases z
  exact ⟨b, h', e, x, y.1, y.2⟩
theorem CE_l {u : Nat} {T : Int → Int} {n p : Nat} {r : Option Hp} {h h' : Hp} {L : Lk} (e : r = some h') (x : Cf u h h') (C : CP L u T n h') (nz : ¬ L 1 0 = 0) (y : fi h' 2 0 = fi h 2 0 ∧ fi h' 2 1 = fi h 2 1) : CE (.inl (p, L)) u T n r h := by
  refine ⟨fun p' L' z => ?_, fun f' q' z => (by cases z)⟩
  cases z
  exact ⟨h', e, x, C, nz, y.1, y.2⟩
def Cfin (x29 : Unit ⊕ Unit) (h31 : Hp) : Option Hp := ei x29 (fun _ => bn (gR h31 2 7 2) fun x33 => bn (gI h31 x33 9 4) fun x35 => if x35 = (3 : Int32) then (bn (gR h31 2 7 3) fun x37 => bn (gI h31 x37 10 1) fun x39 => if x39 = (0 : Int32) then (bd (F_rd_fail 2 (6 : Int32) h31) fun _ h43 => some h43) else some h31) else (bd (F_rd_fail 2 (1 : Int32) h31) fun _ h46 => some h46)) (fun _ => some h31)
theorem C_all {T : Int → Int} {n u : Nat} : ∀ (k p : Nat) (L : Lk) (h : Hp) (i f : Nat), n < p + k → p ≤ n → n ≤ 1000 → 2 * i ≤ p → k + 2 ≤ f → CP L u T n h → NB L → SD L → CT T n p h → CE (a_all T n k L p) u T n (bd (lp (B_rd_read_41 2) f ((1 : Int32), J i) h) Cfin) h := by
  intro k
  induction k with
  | zero => intro p L h i f h1 h2; omega
  | succ k ih =>
    intro p L h i f h1 h2 h3 h4 h5 C NBL SDL H
    have hu := C.2.2.2.1
    have Ln := C_line h2 C NBL SDL H
    have G := G_line h2 NBL SDL (T := T)
    obtain ⟨f', rfl⟩ : ∃ f', f = f' + 2 := ⟨f - 2, by omega⟩
    have i1 : (if J i < (1000 : Int32) then (1 : Nat) else 0) = 1 := if_pos (by rw [j_1000, J_lt (by omega) (by omega) (by omega) (by omega)]; omega)
    have ilt : J i < (1000 : Int32) := by rw [j_1000, J_lt (by omega) (by omega) (by omega) (by omega)]; omega
    cases hl : a_line L T n p with
    | inr e =>
      obtain ⟨fl, q⟩ := e
      obtain ⟨h', e1, cf, x0, x1⟩ := Ln.2 fl q hl
      have gb := G.2 fl q hl
      rw [a_all_r hl]
      have eb : B_rd_read_41 2 ((1 : Int32), J i) h = some (.inr (.inr ()), h') := by
        unfold B_rd_read_41
        rw [if_pos ilt, if_neg (show ¬ ((1 : Int32), J i).1 = (0 : Int32) from (by decide : ¬ (1 : Int32) = (0 : Int32))), bd_e e1, if_pos (by decide)]
      refine CE_r gb (h' := h') ?_ cf ⟨x0, x1⟩
      rw [lp_out eb, bd_e rfl]
      unfold Cfin
      rw [ei_r1]
    | inl z =>
      obtain ⟨q, L'⟩ := z
      obtain ⟨qn, h', e1, cf, C', c', y0, y1⟩ := Ln.1 q L' hl
      obtain ⟨NB', SD', q1, _⟩ := G.1 q L' hl
      rw [a_all_l hl]
      refine CE_tr cf y0 y1 ?_
      have D' := CP_d C'
      have Q' := C'.1.1
      have g4 : gI h' 3 9 4 = some (J (tso T n q)) := by rw [gI_J Q'.1, c'.2.2.2.1]
      have tc := fi_rg h' 3 4
      rw [c'.2.2.2.1] at tc
      by_cases t2 : tso T n q = 2
      · rw [if_pos t2]
        obtain ⟨h2', e2, s2, _, c2, _⟩ := C_ad C'.1 qn c'
        have q2 := tnx_l qn (Or.inr (Or.inr t2))
        have q3 := tnx_m (T := T) qn
        have eb : B_rd_read_41 2 ((1 : Int32), J i) h = some (.inl ((1 : Int32), J ((i + 1 : Nat) : Int)), h2') := by
          unfold B_rd_read_41
          rw [if_pos ilt, if_neg (show ¬ ((1 : Int32), J i).1 = (0 : Int32) from (by decide : ¬ (1 : Int32) = (0 : Int32))), bd_e e1, if_neg (by decide), bn_e (d_r2 D'), bn_e g4, t2, if_pos (show J 2 = (2 : Int32) by decide), bn_s1, if_neg (by decide), bn_e (d_r2 D'), bn_e e2]
          show some (Sum.inl ((1 : Int32), J i + (1 : Int32)), h2') = _
          rw [j_1, J_add]
          rfl
        rw [lp_in eb]
        refine CE_tr (cf_sf hu s2) (s2.2 0 (by omega)) (s2.2 1 (by omega)) ?_
        exact ih (tnx T n q) L' h2' (i + 1) (f' + 1) (by omega) q3.2 h3 (by omega) (by omega) (CP_sf s2 C') NB' SD' c2
      · rw [if_neg t2]
        have eb : B_rd_read_41 2 ((1 : Int32), J i) h = some (.inl ((0 : Int32), J i + (1 : Int32)), h') := by
          unfold B_rd_read_41
          rw [if_pos ilt, if_neg (show ¬ ((1 : Int32), J i).1 = (0 : Int32) from (by decide : ¬ (1 : Int32) = (0 : Int32))), bd_e e1, if_neg (by decide), bn_e (d_r2 D'), bn_e g4, if_neg (show ¬ J (tso T n q) = (2 : Int32) by rw [j_2, J_eq (by omega) (by omega) (by omega) (by omega)]; exact t2), bn_s1, if_pos rfl]
        have eb2 : B_rd_read_41 2 ((0 : Int32), J i + (1 : Int32)) h' = some (.inr (.inl ()), h') := by
          unfold B_rd_read_41
          by_cases z : ((0 : Int32), J i + (1 : Int32)).2 < (1000 : Int32)
          · rw [if_pos z, if_pos rfl]
          · rw [if_neg z]
        rw [lp_in eb, lp_out eb2, bd_e rfl]
        unfold Cfin
        rw [ei_l1, bn_e (d_r2 D'), bn_e g4]
        by_cases t3 : tso T n q = 3
        · rw [if_pos t3, if_pos (show J (tso T n q) = (3 : Int32) by rw [t3]; decide), bn_e (CP_gu C'), bn_e (ti_1 C'.2.1 (CP_t C'))]
          have lh := LW_h (CP_lw C')
          by_cases z : L' 1 0 = 0
          · rw [if_pos z, if_pos (show J (L' 1 0) = (0 : Int32) by rw [z]; decide)]
            obtain ⟨g, e3, x3⟩ := C_fail (x := 6) C'.1 qn c' (by omega)
            have sb := spn_b T n q qn
            refine CE_r (by omega) (h' := g) ?_ (cf_fl hu x3) x3.2
            rw [j_6, bd_e e3]
          · rw [if_neg z, if_neg (show ¬ J (L' 1 0) = (0 : Int32) by rw [j_0, J_eq (by omega) (by omega) (by omega) (by omega)]; exact z)]
            exact CE_l rfl (cf_rf _ _) C' z ⟨rfl, rfl⟩
        · rw [if_neg t3, if_neg (show ¬ J (tso T n q) = (3 : Int32) by rw [j_3, J_eq (by omega) (by omega) (by omega) (by omega)]; exact t3)]
          obtain ⟨g, e3, x3⟩ := C_fail (x := 1) C'.1 qn c' (by omega)
          have sb := spn_b T n q qn
          refine CE_r (by omega) (h' := g) ?_ (cf_fl hu x3) x3.2
          rw [j_1, bd_e e3]
/-- how all ends in the reference -/
def DE (o : Lo) (b : Nat) (T : Int → Int) (n : Nat) (r : Option Hp) (h : Hp) : Prop := (∀ p L, o = .inl (p, L) → ∃ h', r = some h' ∧ Dfr b h h' ∧ DP L b T n h' ∧ fi h' 88 12 = fi h 88 12) ∧ (∀ f q, o = .inr (f, q) → ∃ h', r = some h' ∧ Dfr b h h' ∧ fi h' 88 12 = f ∧ fi h' 88 13 = q)
theorem DE_tr {o : Lo} {b : Nat} {T : Int → Int} {n : Nat} {r : Option Hp} {h g : Hp} (x : Dfr b h g) (y : fi g 88 12 = fi h 88 12) (H : DE o b T n r g) : DE o b T n r h := by
  constructor
  · intro p L e
    obtain ⟨h', e1, c, d, f⟩ := H.1 p L e
    exact ⟨h', e1, df_tr x c, d, f.trans y⟩
  · intro f q e
    obtain ⟨h', e1, c, d⟩ := H.2 f q e
    exact ⟨h', e1, df_tr x c, d⟩
theorem DE_r {b : Nat} {T : Int → Int} {n : Nat} {r : Option Hp} {h h' : Hp} {f q : Int} (e : r = some h') (x : Dfr b h h') (y : fi h' 88 12 = f ∧ fi h' 88 13 = q) : DE (.inr (f, q)) b T n r h := by
  refine ⟨fun p L z => (by cases z), fun f' q' z => ?_⟩
  cases z
  exact ⟨h', e, x, y.1, y.2⟩
theorem DE_l {b : Nat} {T : Int → Int} {n p : Nat} {r : Option Hp} {h h' : Hp} {L : Lk} (e : r = some h') (x : Dfr b h h') (C : DP L b T n h') (y : fi h' 88 12 = fi h 88 12) : DE (.inl (p, L)) b T n r h := by
  refine ⟨fun p' L' z => ?_, fun f' q' z => (by cases z)⟩
  cases z
  exact ⟨h', e, x, C, y⟩
def Dfin (_ : Unit) (h8 : Hp) : Option Hp := bn (gI h8 88 13 9) fun x9 => bn (if x9 = (1 : Int32) then some h8 else (bn (F_md_flaw 88 (1 : Int32) h8) fun h12 => some h12)) fun h14 => bn (gR h14 88 13 4) fun x15 => bn (gI h14 x15 12 1) fun x17 => if x17 = (0 : Int32) then (bn (F_md_flaw 88 (6 : Int32) h14) fun h20 => some h20) else some h14
theorem Dfin5 {b : Nat} {h : Hp} (M : MS h) (r : fR h 88 4 = some b) (Y : YS b h) (o : fi h 88 9 = 5) : Dfin () h = some h := by
  have e1 := D_flaw5 (x := J 1) M o
  have e6 := D_flaw5 (x := J 6) M o
  have er : gR h 88 13 4 = some b := gR_e (MS_k M) r
  have eh : gI h b 12 1 = some (J (fi h b 1)) := gI_J (YS_k Y)
  have fb := fi_rg h b 1
  unfold Dfin
  by_cases z : fi h b 1 = 0
  · rw [z] at eh
    try simp only [j_0, j_1, j_2, j_3, j_4, j_5, j_6, j_7, j_8, j_9, j_10, j_11, j_12, j_13, j_14, j_15, j_16, j_17, j_18, j_19, j_20, j_21, j_22, j_23, j_24, j_25, j_26, j_27, j_28, j_29, j_30, j_31, j_32, j_33, j_34, j_35, j_36, j_37, j_38, j_39, j_40, j_41, j_42, j_43, j_44, j_45, j_46, j_47, j_48, j_49, j_50, j_51, j_52, j_57, j_59, j_63, j_74, j_75, j_93, j_97, j_99, j_100, j_122, j_200, j_255, j_300, j_465, j_496, j_900, j_999, j_1000, j_65536, j_65537, j_99999, j_252645135, j_858993459, j_1431655765, k_0, k_1, k_27, k_32, k_74, k_75, k_100, k_1000, k_65537]
    simp (disch := first | with_reducible assumption | omega | trivial) only [↓bn_s1, ↓bd_s1, ↓ei_l1, ↓ei_r1, ↓bn_if, ↓ilt_1, ↓ilt_0, ↓ieq_1, ↓ieq_0, bn_s1, bd_s1, ei_l1, ei_r1, J_add, J_sub, J_mul, J_neg, J_lt, J_le, J_eq, dv_J, rm_J, if_pos, if_neg, ↓reduceIte, bitJ, shlJ, orJ, j_0, j_1, j_2, j_3, j_4, j_5, j_6, j_7, j_8, j_9, j_10, j_11, j_12, j_13, j_14, j_15, j_16, j_17, j_18, j_19, j_20, j_21, j_22, j_23, j_24, j_25, j_26, j_27, j_28, j_29, j_30, j_31, j_32, j_33, j_34, j_35, j_36, j_37, j_38, j_39, j_40, j_41, j_42, j_43, j_44, j_45, j_46, j_47, j_48, j_49, j_50, j_51, j_52, j_57, j_59, j_63, j_74, j_75, j_93, j_97, j_99, j_100, j_122, j_200, j_255, j_300, j_465, j_496, j_900, j_999, j_1000, j_65536, j_65537, j_99999, j_252645135, j_858993459, j_1431655765, k_0, k_1, k_27, k_32, k_74, k_75, k_100, k_1000, k_65537, m_i M, ↓m_i_b M, m_p M, ↓m_p_b M, m_l M, ↓m_l_b M, m_pl M, ↓m_pl_b M, mr_15 M, ↓mr_15_b M, mr_16 M, ↓mr_16_b M, mr_17 M, ↓mr_17_b M, mr_18 M, ↓mr_18_b M, mr_21 M, ↓mr_21_b M, mr_22 M, ↓mr_22_b M, mr_23 M, ↓mr_23_b M, mr_24 M, ↓mr_24_b M, mr_25 M, ↓mr_25_b M, mr_30 M, ↓mr_30_b M, mr_31 M, ↓mr_31_b M, m90a M, ↓m90a_b M, m90s M, ↓m90s_b M, m91a M, ↓m91a_b M, m91s M, ↓m91s_b M, m92a M, ↓m92a_b M, m92s M, ↓m92s_b M, m93a M, ↓m93a_b M, m93s M, ↓m93s_b M, m94a M, ↓m94a_b M, m94s M, ↓m94s_b M, m95a M, ↓m95a_b M, m95s M, ↓m95s_b M, m96a M, ↓m96a_b M, m96s M, ↓m96s_b M, m97a M, ↓m97a_b M, m97s M, ↓m97s_b M, m98a M, ↓m98a_b M, m98s M, ↓m98s_b M, m99a M, ↓m99a_b M, m99s M, ↓m99s_b M, m100a M, ↓m100a_b M, m100s M, ↓m100s_b M, o, ↓bn_e (e1), e1, ↓bn_e (er), er, ↓bn_e (eh), eh, ↓bn_e (e6), e6]
  · try simp only [j_0, j_1, j_2, j_3, j_4, j_5, j_6, j_7, j_8, j_9, j_10, j_11, j_12, j_13, j_14, j_15, j_16, j_17, j_18, j_19, j_20, j_21, j_22, j_23, j_24, j_25, j_26, j_27, j_28, j_29, j_30, j_31, j_32, j_33, j_34, j_35, j_36, j_37, j_38, j_39, j_40, j_41, j_42, j_43, j_44, j_45, j_46, j_47, j_48, j_49, j_50, j_51, j_52, j_57, j_59, j_63, j_74, j_75, j_93, j_97, j_99, j_100, j_122, j_200, j_255, j_300, j_465, j_496, j_900, j_999, j_1000, j_65536, j_65537, j_99999, j_252645135, j_858993459, j_1431655765, k_0, k_1, k_27, k_32, k_74, k_75, k_100, k_1000, k_65537]
    simp (disch := first | with_reducible assumption | omega | trivial) only [↓bn_s1, ↓bd_s1, ↓ei_l1, ↓ei_r1, ↓bn_if, ↓ilt_1, ↓ilt_0, ↓ieq_1, ↓ieq_0, bn_s1, bd_s1, ei_l1, ei_r1, J_add, J_sub, J_mul, J_neg, J_lt, J_le, J_eq, dv_J, rm_J, if_pos, if_neg, ↓reduceIte, bitJ, shlJ, orJ, j_0, j_1, j_2, j_3, j_4, j_5, j_6, j_7, j_8, j_9, j_10, j_11, j_12, j_13, j_14, j_15, j_16, j_17, j_18, j_19, j_20, j_21, j_22, j_23, j_24, j_25, j_26, j_27, j_28, j_29, j_30, j_31, j_32, j_33, j_34, j_35, j_36, j_37, j_38, j_39, j_40, j_41, j_42, j_43, j_44, j_45, j_46, j_47, j_48, j_49, j_50, j_51, j_52, j_57, j_59, j_63, j_74, j_75, j_93, j_97, j_99, j_100, j_122, j_200, j_255, j_300, j_465, j_496, j_900, j_999, j_1000, j_65536, j_65537, j_99999, j_252645135, j_858993459, j_1431655765, k_0, k_1, k_27, k_32, k_74, k_75, k_100, k_1000, k_65537, m_i M, ↓m_i_b M, m_p M, ↓m_p_b M, m_l M, ↓m_l_b M, m_pl M, ↓m_pl_b M, mr_15 M, ↓mr_15_b M, mr_16 M, ↓mr_16_b M, mr_17 M, ↓mr_17_b M, mr_18 M, ↓mr_18_b M, mr_21 M, ↓mr_21_b M, mr_22 M, ↓mr_22_b M, mr_23 M, ↓mr_23_b M, mr_24 M, ↓mr_24_b M, mr_25 M, ↓mr_25_b M, mr_30 M, ↓mr_30_b M, mr_31 M, ↓mr_31_b M, m90a M, ↓m90a_b M, m90s M, ↓m90s_b M, m91a M, ↓m91a_b M, m91s M, ↓m91s_b M, m92a M, ↓m92a_b M, m92s M, ↓m92s_b M, m93a M, ↓m93a_b M, m93s M, ↓m93s_b M, m94a M, ↓m94a_b M, m94s M, ↓m94s_b M, m95a M, ↓m95a_b M, m95s M, ↓m95s_b M, m96a M, ↓m96a_b M, m96s M, ↓m96s_b M, m97a M, ↓m97a_b M, m97s M, ↓m97s_b M, m98a M, ↓m98a_b M, m98s M, ↓m98s_b M, m99a M, ↓m99a_b M, m99s M, ↓m99s_b M, m100a M, ↓m100a_b M, m100s M, ↓m100s_b M, o, ↓bn_e (e1), e1, ↓bn_e (er), er, ↓bn_e (eh), eh]
theorem D_semi {h : Hp} {x : Int} (M : MS h) (e : fi h 88 9 = x) (hx : ¬ x = 4) (hb : 0 ≤ x ∧ x ≤ 5) : F_md_eatsSemicolon 88 h = some (J 0, h) := by
  have rv := rvb0
  unfold F_md_eatsSemicolon
  rw [ck_e (MS_k M)]
  try simp only [j_0, j_1, j_2, j_3, j_4, j_5, j_6, j_7, j_8, j_9, j_10, j_11, j_12, j_13, j_14, j_15, j_16, j_17, j_18, j_19, j_20, j_21, j_22, j_23, j_24, j_25, j_26, j_27, j_28, j_29, j_30, j_31, j_32, j_33, j_34, j_35, j_36, j_37, j_38, j_39, j_40, j_41, j_42, j_43, j_44, j_45, j_46, j_47, j_48, j_49, j_50, j_51, j_52, j_57, j_59, j_63, j_74, j_75, j_93, j_97, j_99, j_100, j_122, j_200, j_255, j_300, j_465, j_496, j_900, j_999, j_1000, j_65536, j_65537, j_99999, j_252645135, j_858993459, j_1431655765, k_0, k_1, k_27, k_32, k_74, k_75, k_100, k_1000, k_65537]
  simp (disch := first | with_reducible assumption | omega | trivial) only [↓bn_s1, ↓bd_s1, ↓ei_l1, ↓ei_r1, ↓bn_if, ↓ilt_1, ↓ilt_0, ↓ieq_1, ↓ieq_0, bn_s1, bd_s1, ei_l1, ei_r1, J_add, J_sub, J_mul, J_neg, J_lt, J_le, J_eq, dv_J, rm_J, if_pos, if_neg, ↓reduceIte, bitJ, shlJ, orJ, j_0, j_1, j_2, j_3, j_4, j_5, j_6, j_7, j_8, j_9, j_10, j_11, j_12, j_13, j_14, j_15, j_16, j_17, j_18, j_19, j_20, j_21, j_22, j_23, j_24, j_25, j_26, j_27, j_28, j_29, j_30, j_31, j_32, j_33, j_34, j_35, j_36, j_37, j_38, j_39, j_40, j_41, j_42, j_43, j_44, j_45, j_46, j_47, j_48, j_49, j_50, j_51, j_52, j_57, j_59, j_63, j_74, j_75, j_93, j_97, j_99, j_100, j_122, j_200, j_255, j_300, j_465, j_496, j_900, j_999, j_1000, j_65536, j_65537, j_99999, j_252645135, j_858993459, j_1431655765, k_0, k_1, k_27, k_32, k_74, k_75, k_100, k_1000, k_65537, m_i M, ↓m_i_b M, m_p M, ↓m_p_b M, m_l M, ↓m_l_b M, m_pl M, ↓m_pl_b M, mr_15 M, ↓mr_15_b M, mr_16 M, ↓mr_16_b M, mr_17 M, ↓mr_17_b M, mr_18 M, ↓mr_18_b M, mr_21 M, ↓mr_21_b M, mr_22 M, ↓mr_22_b M, mr_23 M, ↓mr_23_b M, mr_24 M, ↓mr_24_b M, mr_25 M, ↓mr_25_b M, mr_30 M, ↓mr_30_b M, mr_31 M, ↓mr_31_b M, m90a M, ↓m90a_b M, m90s M, ↓m90s_b M, m91a M, ↓m91a_b M, m91s M, ↓m91s_b M, m92a M, ↓m92a_b M, m92s M, ↓m92s_b M, m93a M, ↓m93a_b M, m93s M, ↓m93s_b M, m94a M, ↓m94a_b M, m94s M, ↓m94s_b M, m95a M, ↓m95a_b M, m95s M, ↓m95s_b M, m96a M, ↓m96a_b M, m96s M, ↓m96s_b M, m97a M, ↓m97a_b M, m97s M, ↓m97s_b M, m98a M, ↓m98a_b M, m98s M, ↓m98s_b M, m99a M, ↓m99a_b M, m99s M, ↓m99s_b M, m100a M, ↓m100a_b M, m100s M, ↓m100s_b M, e]
theorem D_end0 {h : Hp} : B_md_readAll_2 88 (J 0) h = some (.inr (), h) := by
  unfold B_md_readAll_2
  rw [if_pos (by decide)]
theorem D_all {T : Int → Int} {n b : Nat} : ∀ (k p : Nat) (L : Lk) (h : Hp) (f : Nat), n < p + k → p ≤ n → k + 2 ≤ f → DP L b T n h → NB L → SD L → DT T n p h → DE (a_all T n k L p) b T n (bd (lp (B_md_readAll_2 88) f (J 1) h) Dfin) h := by
  intro k
  induction k with
  | zero => intro p L h f h1 h2; omega
  | succ k ih =>
    intro p L h f h1 h2 h5 C NBL SDL H
    have hb := C.1.2.2.2.2.2.1
    have M := C.1.1.1
    have Ln := D_line h2 C NBL SDL H
    have G := G_line h2 NBL SDL (T := T)
    obtain ⟨f', rfl⟩ : ∃ f', f = f' + 2 := ⟨f - 2, by omega⟩
    cases hl : a_line L T n p with
    | inr e =>
      obtain ⟨fl, q⟩ := e
      obtain ⟨h', e1, cf, o, x0, x1⟩ := Ln.2 fl q hl
      rw [a_all_r hl]
      have M' := MS_fm cf.1 M
      have es := D_semi M' o (by omega) (by omega)
      have eb : B_md_readAll_2 88 (J 1) h = some (.inl (J 0), h') := by
        unfold B_md_readAll_2
        rw [if_neg (by decide), bn_e e1, bd_e es]
      refine DE_r (h' := h') ?_ cf ⟨x0, x1⟩
      rw [lp_in eb, lp_out D_end0, bd_e rfl]
      exact Dfin5 M' (by rw [fm_fR cf.1]; exact C.1.2.1) (YS_fm cf.1 C.1.2.2.1) o
    | inl z =>
      obtain ⟨q, L'⟩ := z
      obtain ⟨qn, h', e1, cf, C', c', y⟩ := Ln.1 q L' hl
      obtain ⟨NB', SD', q1, _⟩ := G.1 q L' hl
      rw [a_all_l hl]
      refine DE_tr cf y ?_
      have M' := C'.1.1.1
      have q9 : fi h' 88 9 = rso (tso T n q) := c'.2.2.1
      have rb := rso_b T n q qn
      by_cases t2 : tso T n q = 2
      · rw [if_pos t2]
        obtain ⟨h2', e2, x2, c2, _⟩ := D_ad C'.1.1 qn c' (by omega)
        have q2 := tnx_l qn (Or.inr (Or.inr t2))
        have q3 := tnx_m (T := T) qn
        have o4 : fi h' 88 9 = 4 := by rw [q9]; exact rb.2.2.2.2.1.mpr t2
        have es : F_md_eatsSemicolon 88 h' = some (J 1, h2') := by
          have rv := rvb1
          unfold F_md_eatsSemicolon
          rw [ck_e (MS_k M')]
          try simp only [j_0, j_1, j_2, j_3, j_4, j_5, j_6, j_7, j_8, j_9, j_10, j_11, j_12, j_13, j_14, j_15, j_16, j_17, j_18, j_19, j_20, j_21, j_22, j_23, j_24, j_25, j_26, j_27, j_28, j_29, j_30, j_31, j_32, j_33, j_34, j_35, j_36, j_37, j_38, j_39, j_40, j_41, j_42, j_43, j_44, j_45, j_46, j_47, j_48, j_49, j_50, j_51, j_52, j_57, j_59, j_63, j_74, j_75, j_93, j_97, j_99, j_100, j_122, j_200, j_255, j_300, j_465, j_496, j_900, j_999, j_1000, j_65536, j_65537, j_99999, j_252645135, j_858993459, j_1431655765, k_0, k_1, k_27, k_32, k_74, k_75, k_100, k_1000, k_65537]
          simp (disch := first | with_reducible assumption | omega | trivial) only [↓bn_s1, ↓bd_s1, ↓ei_l1, ↓ei_r1, ↓bn_if, ↓ilt_1, ↓ilt_0, ↓ieq_1, ↓ieq_0, bn_s1, bd_s1, ei_l1, ei_r1, J_add, J_sub, J_mul, J_neg, J_lt, J_le, J_eq, dv_J, rm_J, if_pos, if_neg, ↓reduceIte, bitJ, shlJ, orJ, j_0, j_1, j_2, j_3, j_4, j_5, j_6, j_7, j_8, j_9, j_10, j_11, j_12, j_13, j_14, j_15, j_16, j_17, j_18, j_19, j_20, j_21, j_22, j_23, j_24, j_25, j_26, j_27, j_28, j_29, j_30, j_31, j_32, j_33, j_34, j_35, j_36, j_37, j_38, j_39, j_40, j_41, j_42, j_43, j_44, j_45, j_46, j_47, j_48, j_49, j_50, j_51, j_52, j_57, j_59, j_63, j_74, j_75, j_93, j_97, j_99, j_100, j_122, j_200, j_255, j_300, j_465, j_496, j_900, j_999, j_1000, j_65536, j_65537, j_99999, j_252645135, j_858993459, j_1431655765, k_0, k_1, k_27, k_32, k_74, k_75, k_100, k_1000, k_65537, m_i M', ↓m_i_b M', m_p M', ↓m_p_b M', m_l M', ↓m_l_b M', m_pl M', ↓m_pl_b M', mr_15 M', ↓mr_15_b M', mr_16 M', ↓mr_16_b M', mr_17 M', ↓mr_17_b M', mr_18 M', ↓mr_18_b M', mr_21 M', ↓mr_21_b M', mr_22 M', ↓mr_22_b M', mr_23 M', ↓mr_23_b M', mr_24 M', ↓mr_24_b M', mr_25 M', ↓mr_25_b M', mr_30 M', ↓mr_30_b M', mr_31 M', ↓mr_31_b M', m90a M', ↓m90a_b M', m90s M', ↓m90s_b M', m91a M', ↓m91a_b M', m91s M', ↓m91s_b M', m92a M', ↓m92a_b M', m92s M', ↓m92s_b M', m93a M', ↓m93a_b M', m93s M', ↓m93s_b M', m94a M', ↓m94a_b M', m94s M', ↓m94s_b M', m95a M', ↓m95a_b M', m95s M', ↓m95s_b M', m96a M', ↓m96a_b M', m96s M', ↓m96s_b M', m97a M', ↓m97a_b M', m97s M', ↓m97s_b M', m98a M', ↓m98a_b M', m98s M', ↓m98s_b M', m99a M', ↓m99a_b M', m99s M', ↓m99s_b M', m100a M', ↓m100a_b M', m100s M', ↓m100s_b M', o4, ↓bn_e (e2), e2]
        have eb : B_md_readAll_2 88 (J 1) h = some (.inl (J 1), h2') := by
          unfold B_md_readAll_2
          rw [if_neg (by decide), bn_e e1, bd_e es]
        rw [lp_in eb]
        refine DE_tr (df_gf hb x2) (x2.2 12 (by omega)) ?_
        exact ih (tnx T n q) L' h2' (f' + 1) (by omega) q3.2 (by omega) (DP_gf x2 C') NB' SD' c2
      · rw [if_neg t2]
        have es := D_semi M' q9 (fun z => t2 (rb.2.2.2.2.1.mp z)) (by omega)
        have eb : B_md_readAll_2 88 (J 1) h = some (.inl (J 0), h') := by
          unfold B_md_readAll_2
          rw [if_neg (by decide), bn_e e1, bd_e es]
        rw [lp_in eb, lp_out D_end0, bd_e rfl]
        have er := dl_r C'.1
        have lh := LW_h C'.2.1
        have eh : gI h' b 12 1 = some (J (L' 1 0)) := by rw [gI_J (YS_k C'.1.2.2.1), C'.2.2.1.1.2.1]; rfl
        by_cases t3 : tso T n q = 3
        · rw [if_pos t3]
          have o1 : fi h' 88 9 = 1 := by rw [q9]; exact rb.2.2.2.2.2.mpr t3
          by_cases z : L' 1 0 = 0
          · rw [if_pos z]
            rw [z] at eh
            obtain ⟨g, e3, x3⟩ := D_flaw (x := 6) C'.1.1 qn c' (by omega)
            refine DE_r (h' := g) ?_ (df_fd hb x3) ⟨x3.2.2.1, x3.2.2.2.1⟩
            unfold Dfin
            try simp only [j_0, j_1, j_2, j_3, j_4, j_5, j_6, j_7, j_8, j_9, j_10, j_11, j_12, j_13, j_14, j_15, j_16, j_17, j_18, j_19, j_20, j_21, j_22, j_23, j_24, j_25, j_26, j_27, j_28, j_29, j_30, j_31, j_32, j_33, j_34, j_35, j_36, j_37, j_38, j_39, j_40, j_41, j_42, j_43, j_44, j_45, j_46, j_47, j_48, j_49, j_50, j_51, j_52, j_57, j_59, j_63, j_74, j_75, j_93, j_97, j_99, j_100, j_122, j_200, j_255, j_300, j_465, j_496, j_900, j_999, j_1000, j_65536, j_65537, j_99999, j_252645135, j_858993459, j_1431655765, k_0, k_1, k_27, k_32, k_74, k_75, k_100, k_1000, k_65537]
            simp (disch := first | with_reducible assumption | omega | trivial) only [↓bn_s1, ↓bd_s1, ↓ei_l1, ↓ei_r1, ↓bn_if, ↓ilt_1, ↓ilt_0, ↓ieq_1, ↓ieq_0, bn_s1, bd_s1, ei_l1, ei_r1, J_add, J_sub, J_mul, J_neg, J_lt, J_le, J_eq, dv_J, rm_J, if_pos, if_neg, ↓reduceIte, bitJ, shlJ, orJ, j_0, j_1, j_2, j_3, j_4, j_5, j_6, j_7, j_8, j_9, j_10, j_11, j_12, j_13, j_14, j_15, j_16, j_17, j_18, j_19, j_20, j_21, j_22, j_23, j_24, j_25, j_26, j_27, j_28, j_29, j_30, j_31, j_32, j_33, j_34, j_35, j_36, j_37, j_38, j_39, j_40, j_41, j_42, j_43, j_44, j_45, j_46, j_47, j_48, j_49, j_50, j_51, j_52, j_57, j_59, j_63, j_74, j_75, j_93, j_97, j_99, j_100, j_122, j_200, j_255, j_300, j_465, j_496, j_900, j_999, j_1000, j_65536, j_65537, j_99999, j_252645135, j_858993459, j_1431655765, k_0, k_1, k_27, k_32, k_74, k_75, k_100, k_1000, k_65537, m_i M', ↓m_i_b M', m_p M', ↓m_p_b M', m_l M', ↓m_l_b M', m_pl M', ↓m_pl_b M', mr_15 M', ↓mr_15_b M', mr_16 M', ↓mr_16_b M', mr_17 M', ↓mr_17_b M', mr_18 M', ↓mr_18_b M', mr_21 M', ↓mr_21_b M', mr_22 M', ↓mr_22_b M', mr_23 M', ↓mr_23_b M', mr_24 M', ↓mr_24_b M', mr_25 M', ↓mr_25_b M', mr_30 M', ↓mr_30_b M', mr_31 M', ↓mr_31_b M', m90a M', ↓m90a_b M', m90s M', ↓m90s_b M', m91a M', ↓m91a_b M', m91s M', ↓m91s_b M', m92a M', ↓m92a_b M', m92s M', ↓m92s_b M', m93a M', ↓m93a_b M', m93s M', ↓m93s_b M', m94a M', ↓m94a_b M', m94s M', ↓m94s_b M', m95a M', ↓m95a_b M', m95s M', ↓m95s_b M', m96a M', ↓m96a_b M', m96s M', ↓m96s_b M', m97a M', ↓m97a_b M', m97s M', ↓m97s_b M', m98a M', ↓m98a_b M', m98s M', ↓m98s_b M', m99a M', ↓m99a_b M', m99s M', ↓m99s_b M', m100a M', ↓m100a_b M', m100s M', ↓m100s_b M', o1, ↓bn_e (er), er, ↓bn_e (eh), eh, ↓bn_e (e3), e3]
          · rw [if_neg z]
            refine DE_l (h' := h') ?_ (df_rf _ _) C' rfl
            unfold Dfin
            try simp only [j_0, j_1, j_2, j_3, j_4, j_5, j_6, j_7, j_8, j_9, j_10, j_11, j_12, j_13, j_14, j_15, j_16, j_17, j_18, j_19, j_20, j_21, j_22, j_23, j_24, j_25, j_26, j_27, j_28, j_29, j_30, j_31, j_32, j_33, j_34, j_35, j_36, j_37, j_38, j_39, j_40, j_41, j_42, j_43, j_44, j_45, j_46, j_47, j_48, j_49, j_50, j_51, j_52, j_57, j_59, j_63, j_74, j_75, j_93, j_97, j_99, j_100, j_122, j_200, j_255, j_300, j_465, j_496, j_900, j_999, j_1000, j_65536, j_65537, j_99999, j_252645135, j_858993459, j_1431655765, k_0, k_1, k_27, k_32, k_74, k_75, k_100, k_1000, k_65537]
            simp (disch := first | with_reducible assumption | omega | trivial) only [↓bn_s1, ↓bd_s1, ↓ei_l1, ↓ei_r1, ↓bn_if, ↓ilt_1, ↓ilt_0, ↓ieq_1, ↓ieq_0, bn_s1, bd_s1, ei_l1, ei_r1, J_add, J_sub, J_mul, J_neg, J_lt, J_le, J_eq, dv_J, rm_J, if_pos, if_neg, ↓reduceIte, bitJ, shlJ, orJ, j_0, j_1, j_2, j_3, j_4, j_5, j_6, j_7, j_8, j_9, j_10, j_11, j_12, j_13, j_14, j_15, j_16, j_17, j_18, j_19, j_20, j_21, j_22, j_23, j_24, j_25, j_26, j_27, j_28, j_29, j_30, j_31, j_32, j_33, j_34, j_35, j_36, j_37, j_38, j_39, j_40, j_41, j_42, j_43, j_44, j_45, j_46, j_47, j_48, j_49, j_50, j_51, j_52, j_57, j_59, j_63, j_74, j_75, j_93, j_97, j_99, j_100, j_122, j_200, j_255, j_300, j_465, j_496, j_900, j_999, j_1000, j_65536, j_65537, j_99999, j_252645135, j_858993459, j_1431655765, k_0, k_1, k_27, k_32, k_74, k_75, k_100, k_1000, k_65537, m_i M', ↓m_i_b M', m_p M', ↓m_p_b M', m_l M', ↓m_l_b M', m_pl M', ↓m_pl_b M', mr_15 M', ↓mr_15_b M', mr_16 M', ↓mr_16_b M', mr_17 M', ↓mr_17_b M', mr_18 M', ↓mr_18_b M', mr_21 M', ↓mr_21_b M', mr_22 M', ↓mr_22_b M', mr_23 M', ↓mr_23_b M', mr_24 M', ↓mr_24_b M', mr_25 M', ↓mr_25_b M', mr_30 M', ↓mr_30_b M', mr_31 M', ↓mr_31_b M', m90a M', ↓m90a_b M', m90s M', ↓m90s_b M', m91a M', ↓m91a_b M', m91s M', ↓m91s_b M', m92a M', ↓m92a_b M', m92s M', ↓m92s_b M', m93a M', ↓m93a_b M', m93s M', ↓m93s_b M', m94a M', ↓m94a_b M', m94s M', ↓m94s_b M', m95a M', ↓m95a_b M', m95s M', ↓m95s_b M', m96a M', ↓m96a_b M', m96s M', ↓m96s_b M', m97a M', ↓m97a_b M', m97s M', ↓m97s_b M', m98a M', ↓m98a_b M', m98s M', ↓m98s_b M', m99a M', ↓m99a_b M', m99s M', ↓m99s_b M', m100a M', ↓m100a_b M', m100s M', ↓m100s_b M', o1, ↓bn_e (er), er, ↓bn_e (eh), eh]
        · rw [if_neg t3]
          have o1 : ¬ fi h' 88 9 = 1 := by rw [q9]; exact fun z => t3 (rb.2.2.2.2.2.mp z)
          have fb := fi_rg h' 88 9
          obtain ⟨g, e3, x3⟩ := D_flaw (x := 1) C'.1.1 qn c' (by omega)
          have Mg := MS_fm x3.1 M'
          have o5 := x3.2.1
          have rg : gR g 88 13 4 = some b := gR_e (MS_k Mg) (by rw [fm_fR x3.1]; exact C'.1.2.1)
          have hg : gI g b 12 1 = some (J (L' 1 0)) := by
            rw [gI_J (YS_k (YS_fm x3.1 C'.1.2.2.1)), fm_fi x3.1 (by omega), C'.2.2.1.1.2.1]
            rfl
          have e6 := D_flaw5 (x := J 6) Mg o5
          refine DE_r (h' := g) ?_ (df_fd hb x3) ⟨x3.2.2.1, x3.2.2.2.1⟩
          unfold Dfin
          by_cases z : L' 1 0 = 0
          · rw [z] at hg
            try simp only [j_0, j_1, j_2, j_3, j_4, j_5, j_6, j_7, j_8, j_9, j_10, j_11, j_12, j_13, j_14, j_15, j_16, j_17, j_18, j_19, j_20, j_21, j_22, j_23, j_24, j_25, j_26, j_27, j_28, j_29, j_30, j_31, j_32, j_33, j_34, j_35, j_36, j_37, j_38, j_39, j_40, j_41, j_42, j_43, j_44, j_45, j_46, j_47, j_48, j_49, j_50, j_51, j_52, j_57, j_59, j_63, j_74, j_75, j_93, j_97, j_99, j_100, j_122, j_200, j_255, j_300, j_465, j_496, j_900, j_999, j_1000, j_65536, j_65537, j_99999, j_252645135, j_858993459, j_1431655765, k_0, k_1, k_27, k_32, k_74, k_75, k_100, k_1000, k_65537]
            simp (disch := first | with_reducible assumption | omega | trivial) only [↓bn_s1, ↓bd_s1, ↓ei_l1, ↓ei_r1, ↓bn_if, ↓ilt_1, ↓ilt_0, ↓ieq_1, ↓ieq_0, bn_s1, bd_s1, ei_l1, ei_r1, J_add, J_sub, J_mul, J_neg, J_lt, J_le, J_eq, dv_J, rm_J, if_pos, if_neg, ↓reduceIte, bitJ, shlJ, orJ, j_0, j_1, j_2, j_3, j_4, j_5, j_6, j_7, j_8, j_9, j_10, j_11, j_12, j_13, j_14, j_15, j_16, j_17, j_18, j_19, j_20, j_21, j_22, j_23, j_24, j_25, j_26, j_27, j_28, j_29, j_30, j_31, j_32, j_33, j_34, j_35, j_36, j_37, j_38, j_39, j_40, j_41, j_42, j_43, j_44, j_45, j_46, j_47, j_48, j_49, j_50, j_51, j_52, j_57, j_59, j_63, j_74, j_75, j_93, j_97, j_99, j_100, j_122, j_200, j_255, j_300, j_465, j_496, j_900, j_999, j_1000, j_65536, j_65537, j_99999, j_252645135, j_858993459, j_1431655765, k_0, k_1, k_27, k_32, k_74, k_75, k_100, k_1000, k_65537, m_i M', ↓m_i_b M', m_p M', ↓m_p_b M', m_l M', ↓m_l_b M', m_pl M', ↓m_pl_b M', mr_15 M', ↓mr_15_b M', mr_16 M', ↓mr_16_b M', mr_17 M', ↓mr_17_b M', mr_18 M', ↓mr_18_b M', mr_21 M', ↓mr_21_b M', mr_22 M', ↓mr_22_b M', mr_23 M', ↓mr_23_b M', mr_24 M', ↓mr_24_b M', mr_25 M', ↓mr_25_b M', mr_30 M', ↓mr_30_b M', mr_31 M', ↓mr_31_b M', m90a M', ↓m90a_b M', m90s M', ↓m90s_b M', m91a M', ↓m91a_b M', m91s M', ↓m91s_b M', m92a M', ↓m92a_b M', m92s M', ↓m92s_b M', m93a M', ↓m93a_b M', m93s M', ↓m93s_b M', m94a M', ↓m94a_b M', m94s M', ↓m94s_b M', m95a M', ↓m95a_b M', m95s M', ↓m95s_b M', m96a M', ↓m96a_b M', m96s M', ↓m96s_b M', m97a M', ↓m97a_b M', m97s M', ↓m97s_b M', m98a M', ↓m98a_b M', m98s M', ↓m98s_b M', m99a M', ↓m99a_b M', m99s M', ↓m99s_b M', m100a M', ↓m100a_b M', m100s M', ↓m100s_b M', ↓bn_e (e3), e3, ↓bn_e (rg), rg, ↓bn_e (hg), hg, ↓bn_e (e6), e6]
          · try simp only [j_0, j_1, j_2, j_3, j_4, j_5, j_6, j_7, j_8, j_9, j_10, j_11, j_12, j_13, j_14, j_15, j_16, j_17, j_18, j_19, j_20, j_21, j_22, j_23, j_24, j_25, j_26, j_27, j_28, j_29, j_30, j_31, j_32, j_33, j_34, j_35, j_36, j_37, j_38, j_39, j_40, j_41, j_42, j_43, j_44, j_45, j_46, j_47, j_48, j_49, j_50, j_51, j_52, j_57, j_59, j_63, j_74, j_75, j_93, j_97, j_99, j_100, j_122, j_200, j_255, j_300, j_465, j_496, j_900, j_999, j_1000, j_65536, j_65537, j_99999, j_252645135, j_858993459, j_1431655765, k_0, k_1, k_27, k_32, k_74, k_75, k_100, k_1000, k_65537]
            simp (disch := first | with_reducible assumption | omega | trivial) only [↓bn_s1, ↓bd_s1, ↓ei_l1, ↓ei_r1, ↓bn_if, ↓ilt_1, ↓ilt_0, ↓ieq_1, ↓ieq_0, bn_s1, bd_s1, ei_l1, ei_r1, J_add, J_sub, J_mul, J_neg, J_lt, J_le, J_eq, dv_J, rm_J, if_pos, if_neg, ↓reduceIte, bitJ, shlJ, orJ, j_0, j_1, j_2, j_3, j_4, j_5, j_6, j_7, j_8, j_9, j_10, j_11, j_12, j_13, j_14, j_15, j_16, j_17, j_18, j_19, j_20, j_21, j_22, j_23, j_24, j_25, j_26, j_27, j_28, j_29, j_30, j_31, j_32, j_33, j_34, j_35, j_36, j_37, j_38, j_39, j_40, j_41, j_42, j_43, j_44, j_45, j_46, j_47, j_48, j_49, j_50, j_51, j_52, j_57, j_59, j_63, j_74, j_75, j_93, j_97, j_99, j_100, j_122, j_200, j_255, j_300, j_465, j_496, j_900, j_999, j_1000, j_65536, j_65537, j_99999, j_252645135, j_858993459, j_1431655765, k_0, k_1, k_27, k_32, k_74, k_75, k_100, k_1000, k_65537, m_i M', ↓m_i_b M', m_p M', ↓m_p_b M', m_l M', ↓m_l_b M', m_pl M', ↓m_pl_b M', mr_15 M', ↓mr_15_b M', mr_16 M', ↓mr_16_b M', mr_17 M', ↓mr_17_b M', mr_18 M', ↓mr_18_b M', mr_21 M', ↓mr_21_b M', mr_22 M', ↓mr_22_b M', mr_23 M', ↓mr_23_b M', mr_24 M', ↓mr_24_b M', mr_25 M', ↓mr_25_b M', mr_30 M', ↓mr_30_b M', mr_31 M', ↓mr_31_b M', m90a M', ↓m90a_b M', m90s M', ↓m90s_b M', m91a M', ↓m91a_b M', m91s M', ↓m91s_b M', m92a M', ↓m92a_b M', m92s M', ↓m92s_b M', m93a M', ↓m93a_b M', m93s M', ↓m93s_b M', m94a M', ↓m94a_b M', m94s M', ↓m94s_b M', m95a M', ↓m95a_b M', m95s M', ↓m95s_b M', m96a M', ↓m96a_b M', m96s M', ↓m96s_b M', m97a M', ↓m97a_b M', m97s M', ↓m97s_b M', m98a M', ↓m98a_b M', m98s M', ↓m98s_b M', m99a M', ↓m99a_b M', m99s M', ↓m99s_b M', m100a M', ↓m100a_b M', m100s M', ↓m100s_b M', ↓bn_e (e3), e3, ↓bn_e (rg), rg, ↓bn_e (hg), hg]
