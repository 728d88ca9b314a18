/-! Told: begin; State: save and load; Memory -/
theorem bitZ {n : Nat} {z : Int} (hn : n < 32) (h0 : 0 ≤ z) (h1 : z < 5) : (J n >>> (J z &&& J 31)) &&& J 1 = J (if n.testBit z.toNat = true then 1 else 0) := by
  have := bitJ hn (k := z.toNat) (by omega)
  have e : (z.toNat : Int) = z := by omega
  rw [e] at this
  exact this
theorem shl_r : ∀ k, k < 6 → J 1 <<< (J (k : Nat) &&& J 31) - J 1 = J (2 ^ k - 1) := by decide +kernel
def tb0 (L : Lk) : Sk := fun i => if 0 ≤ i ∧ i < 25 then L 11 i else if 25 ≤ i ∧ i < 25 + L 3 0 then L 16 (i - 25) else 0
def gst (L : Lk) (hs : Nat) (S : Sk) (k : Int) : Sk := if hs.testBit (L 22 k).toNat = true then S else upS S (5 * L 23 k + L 17 (L 22 k)) (S (5 * L 23 k + L 17 (L 22 k)) + L 24 k)
def gvs (L : Lk) (hs : Nat) : Nat → Sk
  | 0 => tb0 L
  | n + 1 => gst L hs (gvs L hs n) n
def tld (L : Lk) (hs : Nat) : Sk := gvs L hs (L 6 0).toNat
theorem vs_b {L : Lk} (HL : LW L) {k : Int} (h0 : 0 ≤ k) (h1 : k < L 6 0) : 0 ≤ L 22 k ∧ L 22 k < 3 ∧ 0 ≤ 5 * L 23 k + L 17 (L 22 k) ∧ 5 * L 23 k + L 17 (L 22 k) < 5 * L 1 0 ∧ 1 ≤ L 24 k ∧ L 24 k ≤ 20 ∧ L 22 k < L 4 0 ∧ 0 ≤ L 23 k ∧ L 23 k < L 1 0 ∧ 0 ≤ L 17 (L 22 k) ∧ L 17 (L 22 k) ≤ 4 := by
  have a := LW_vs HL k h0 h1
  have b := LW_ds HL (L 22 k) (by omega) (by omega)
  have c := LW_d HL
  omega
theorem gvs_p {L : Lk} (HL : LW L) (hs : Nat) : ∀ n : Nat, n ≤ L 6 0 → CW (30 + 20 * n) (gvs L hs n) ∧ ZCk L (gvs L hs n) ∧ (∀ i, 25 ≤ i → gvs L hs n i = tb0 L i) := by
  have b1 := LW_h HL
  intro n
  induction n with
  | zero =>
    intro _
    refine ⟨fun i i0 i1 => ?_, fun i i0 i1 => ?_, fun _ _ => rfl⟩
    · have := LW_cs HL i i0 i1
      show 0 ≤ tb0 L i ∧ tb0 L i ≤ _
      unfold tb0
      rw [if_pos ⟨i0, i1⟩]
      omega
    · have := LW_cs HL i (by omega) i1
      show tb0 L i = 0
      unfold tb0
      rw [if_pos ⟨by omega, i1⟩]
      exact this.2.2 i0
  | succ n ih =>
    intro h
    obtain ⟨q1, q2, q3⟩ := ih (by omega)
    have v := vs_b HL (k := n) (by omega) (by omega)
    show CW _ (gst L hs (gvs L hs n) n) ∧ ZCk L (gst L hs (gvs L hs n) n) ∧ (∀ i, 25 ≤ i → gst L hs (gvs L hs n) n i = tb0 L i)
    unfold gst
    by_cases c : hs.testBit (L 22 n).toNat = true
    · rw [if_pos c]
      refine ⟨fun i i0 i1 => ?_, q2, q3⟩
      have := q1 i i0 i1
      omega
    · rw [if_neg c]
      refine ⟨fun i i0 i1 => ?_, fun i i0 i1 => ?_, fun i i0 => ?_⟩
      · have a := q1 i i0 i1
        unfold upS
        split
        · rename_i e; rw [← e]; omega
        · omega
      · unfold upS; rw [if_neg (by omega)]; exact q2 i i0 i1
      · unfold upS; rw [if_neg (by omega)]; exact q3 i i0
theorem tld_hi {L : Lk} (HL : LW L) (hs : Nat) {i : Int} (hi : 25 ≤ i) : tld L hs i = tb0 L i := (gvs_p HL hs (L 6 0).toNat (by have := LW_v HL; omega)).2.2 i hi
theorem tb0_g {L : Lk} (HL : LW L) {i : Int} (hi : 28 ≤ i) : tb0 L i = 0 := by
  have := LW_g HL
  unfold tb0
  rw [if_neg (by omega), if_neg (by omega)]
theorem tld_sw {L : Lk} (HL : LW L) (hs : Nat) : SW 110 L (tld L hs) := by
  have bv := LW_v HL
  have bg := LW_g HL
  have b1 := LW_h HL
  obtain ⟨q1, q2, q3⟩ := gvs_p HL hs (L 6 0).toNat (by omega)
  have z28 : tld L hs 28 = 0 := by rw [tld_hi HL hs (by omega), tb0_g HL (by omega)]
  have z30 : tld L hs 30 = 0 := by rw [tld_hi HL hs (by omega), tb0_g HL (by omega)]
  refine ⟨fun i i0 i1 => ?_, q2, fun g g0 g1 => ?_, ?_, ?_, ?_, ?_⟩
  · have := q1 i i0 i1
    unfold tld
    omega
  · rw [tld_hi HL hs (by omega)]
    have := LW_gs HL g g0 g1
    unfold tb0
    rw [if_neg (by omega), if_pos (by omega)]
    have e : 25 + g - 25 = g := by omega
    rw [e]
    omega
  · rw [z28]; omega
  · rw [z28]; exact Nat.pow_pos (by decide)
  · rw [z30]; omega
  · rw [z30]; omega
theorem C_begin {L : Lk} {t b : Nat} {h : Hp} {hs : Nat} (HL : LW L) (HT : TS t h) (HR : TR L t h) (H : SS b h) (hhs : hs < 32) (hd : t + 18 ≤ b ∨ b + 3 ≤ t) (hb : b < 1000) (ht : t < 1000) : ∃ h', F_to_begin t b (J hs) h = some h' ∧ Fm b (b + 3) h h' ∧ SR L b (tld L hs) h' := by
  have bv := LW_v HL
  have bg := LW_g HL
  have b1 := LW_h HL
  have br := LW_r HL
  have k := SS_k H; have r0 := SS_r0 H; have k0 := SS_k0 H; have n0 := SS_n0 H; have r1 := SS_r1 H; have k1 := SS_k1 H; have n1 := SS_n1 H
  have tk := TS_k HT; have tr4 := TS_r4 HT; have tk4 := TS_k4 HT; have tn4 := TS_n4 HT; have tr10 := TS_r10 HT; have tk10 := TS_k10 HT; have tn10 := TS_n10 HT
  obtain ⟨h1, e1, f1, g1⟩ := cp_J (h := h) (a := t + 2) (b := b + 1) (x := 0) (y := 0) (n := 25) tk4 k0 (by omega) (by omega) (by omega) (by omega) (by omega) (by omega) (by omega) (by omega) (by omega) (by omega)
  have H1 := SS_fm f1 H
  have HT1 := TS_fm f1 HT
  have k' := SS_k H1; have r1' := SS_r1 H1; have k1' := SS_k1 H1; have n1' := SS_n1 H1
  have tk' := TS_k HT1; have tr10' := TS_r10 HT1; have tk10' := TS_k10 HT1; have tn10' := TS_n10 HT1
  obtain ⟨h2, e2, f2, g2⟩ := cp_J (h := h1) (a := t + 6) (b := b + 2) (x := 0) (y := 0) (n := 3) tk10' k1' (by omega) (by omega) (by omega) (by omega) (by omega) (by omega) (by omega) (by omega) (by omega) (by omega)
  have F2 : Fm b (b + 3) h h2 := fm_tr (fm_wd f1 (by omega) (by omega)) (fm_wd f2 (by omega) (by omega))
  have a4 : aN h (t + 2) = some (J 25) := aN_J tk4 tn4
  have a10 : aN h1 (t + 6) = some (J 3) := aN_J tk10' tn10'
  have i2 : ∀ i, 0 ≤ i → i < 25 → ia h2 (b + 1) i = tb0 L i := fun i i0 i1 => by
    rw [fm_ia f2 (by omega), g1 i i0, if_pos (by omega), Int.zero_add, Int.sub_zero, TR_c HR i i0 i1]
    unfold tb0
    rw [if_pos ⟨i0, i1⟩]
  have j2 : ∀ g, 0 ≤ g → g < L 3 0 → ia h2 (b + 2) g = tb0 L (25 + g) := fun g g0 g1' => by
    rw [g2 g g0, if_pos (by omega), Int.zero_add, Int.sub_zero, fm_ia f1 (by omega), TR_ga HR g g0 g1']
    unfold tb0
    rw [if_neg (by omega), if_pos (by omega)]
    congr 1
    omega
  obtain ⟨y, h3, e3, f3, i3, j3⟩ := lp_for (b := B_to_begin_38 t b (J hs)) (f := FU) (s := J 0) (h := h2) (fun i s h' => s = J i ∧ Fm b (b + 3) h h' ∧ (∀ j, 0 ≤ j → j < 25 → ia h' (b + 1) j = gvs L hs i j) ∧ (∀ g, 0 ≤ g → g < L 3 0 → ia h' (b + 2) g = tb0 L (25 + g))) (fun _ h' => Fm b (b + 3) h h' ∧ (∀ j, 0 ≤ j → j < 25 → ia h' (b + 1) j = tld L hs j) ∧ (∀ g, 0 ≤ g → g < L 3 0 → ia h' (b + 2) g = tb0 L (25 + g))) (L 6 0).toNat (by unfold FU; omega) ⟨rfl, F2, i2, j2⟩ (fun i s h3 hi hI => by
      obtain ⟨rfl, f3, i3, j3⟩ := hI
      have HT3 := TS_fm f3 HT
      have HR3 := TR_fm f3 (by omega) HR
      have H3 := SS_fm f3 H
      have sk := SS_k H3; have sr0 := SS_r0 H3; have sk0 := SS_k0 H3; have sn0 := SS_n0 H3
      have tk := TS_k HT3; have tr18 := TS_r18 HT3; have ty := TS_ky HT3; have ty1 := TS_ry1 HT3; have ky1 := TS_ky1 HT3; have ny1 := TS_ny1 HT3; have ty2 := TS_ry2 HT3; have ky2 := TS_ky2 HT3; have ny2 := TS_ny2 HT3; have ty3 := TS_ry3 HT3; have ky3 := TS_ky3 HT3; have ny3 := TS_ny3 HT3; have tr12 := TS_r12 HT3; have tk12 := TS_k12 HT3; have tn12 := TS_n12 HT3
      have v := vs_b HL (k := i) (by omega) (by omega)
      have x1 := TR_vb HR3 i (by omega) (by omega)
      have x2 := TR_vt HR3 i (by omega) (by omega)
      have x3 := TR_vm HR3 i (by omega) (by omega)
      have x4 := TR_dk HR3 (L 22 i) (by omega) (by omega)
      have e0 : gvs L hs (i + 1) = gst L hs (gvs L hs i) i := rfl
      have gp := gvs_p HL hs i (by omega)
      by_cases c : hs.testBit (L 22 i).toNat = true
      · have e5 : gst L hs (gvs L hs i) i = gvs L hs i := by unfold gst; rw [if_pos c]
        refine ⟨J (i + 1), h3, ?_, rfl, f3, ?_, j3⟩
        · unfold B_to_begin_38
          simp (disch := first | with_reducible assumption | omega | trivial) only [bn_s1, bd_s1, ei_l1, ei_r1, gI_J, gL_J, gR_J, aI_J, aL_J, sI_J, sL_J, pI_J, pL_J, J_add, J_sub, J_mul, J_neg, J_lt, J_le, J_eq, dv_J, rm_J, if_pos, if_neg, ↓reduceIte, bitJ, shlJ, orJ, j_0, j_1, j_2, j_3, j_4, j_5, j_6, j_7, j_8, j_9, j_10, j_11, j_12, j_13, j_14, j_15, j_16, j_17, j_18, j_19, j_20, j_21, j_22, j_23, j_24, j_25, j_26, j_27, j_28, j_29, j_30, j_31, j_32, j_33, j_34, j_35, j_36, j_37, j_38, j_39, j_40, j_41, j_42, j_43, j_44, j_45, j_46, j_47, j_48, j_49, j_50, j_51, j_52, j_57, j_59, j_63, j_74, j_75, j_93, j_97, j_99, j_100, j_122, j_200, j_255, j_300, j_465, j_496, j_900, j_999, j_1000, j_65536, j_65537, j_99999, j_252645135, j_858993459, j_1431655765, k_0, k_1, k_27, k_32, k_74, k_75, k_100, k_1000, k_65537, tr18, TR_v HR3, ty1, x1, bitZ, c]
        · rw [e0, e5]; exact i3
      · have e5 : gst L hs (gvs L hs i) i = upS (gvs L hs i) (5 * L 23 i + L 17 (L 22 i)) (gvs L hs i (5 * L 23 i + L 17 (L 22 i)) + L 24 i) := by unfold gst; rw [if_neg c]
        have e6 : L 23 i * 5 + L 17 (L 22 i) = 5 * L 23 i + L 17 (L 22 i) := by omega
        have x5 := i3 (5 * L 23 i + L 17 (L 22 i)) (by omega) (by omega)
        have bb := gp.1 (5 * L 23 i + L 17 (L 22 i)) (by omega) (by omega)
        refine ⟨J (i + 1), wA h3 (b + 1) (5 * L 23 i + L 17 (L 22 i)) (gvs L hs i (5 * L 23 i + L 17 (L 22 i)) + L 24 i), ?_, rfl, fm_tr f3 (fm_wA (by omega) (by omega)), ?_, ?_⟩
        · unfold B_to_begin_38
          simp (disch := first | with_reducible assumption | omega | trivial) only [bn_s1, bd_s1, ei_l1, ei_r1, gI_J, gL_J, gR_J, aI_J, aL_J, sI_J, sL_J, pI_J, pL_J, J_add, J_sub, J_mul, J_neg, J_lt, J_le, J_eq, dv_J, rm_J, if_pos, if_neg, ↓reduceIte, bitJ, shlJ, orJ, j_0, j_1, j_2, j_3, j_4, j_5, j_6, j_7, j_8, j_9, j_10, j_11, j_12, j_13, j_14, j_15, j_16, j_17, j_18, j_19, j_20, j_21, j_22, j_23, j_24, j_25, j_26, j_27, j_28, j_29, j_30, j_31, j_32, j_33, j_34, j_35, j_36, j_37, j_38, j_39, j_40, j_41, j_42, j_43, j_44, j_45, j_46, j_47, j_48, j_49, j_50, j_51, j_52, j_57, j_59, j_63, j_74, j_75, j_93, j_97, j_99, j_100, j_122, j_200, j_255, j_300, j_465, j_496, j_900, j_999, j_1000, j_65536, j_65537, j_99999, j_252645135, j_858993459, j_1431655765, k_0, k_1, k_27, k_32, k_74, k_75, k_100, k_1000, k_65537, tr18, TR_v HR3, ty1, x1, bitZ, c, sr0, ty2, x2, tr12, x4, e6, x5, ty3, x3]
        · intro j j0 j1
          rw [e0, e5, ia_if (by omega) j0 (by omega) (by omega) (by omega), i3 j j0 j1]
          rfl
        · intro g g0 g1
          rw [ia_wA (by omega)]
          exact j3 g g0 g1) (fun s h3 hI => by
      obtain ⟨rfl, f3, i3, j3⟩ := hI
      have HT3 := TS_fm f3 HT
      have HR3 := TR_fm f3 (by omega) HR
      have tk := TS_k HT3; have tr18 := TS_r18 HT3; have ty := TS_ky HT3
      refine ⟨(), h3, ?_, f3, i3, j3⟩
      unfold B_to_begin_38
      simp (disch := first | with_reducible assumption | omega | trivial) only [bn_s1, bd_s1, ei_l1, ei_r1, gI_J, gL_J, gR_J, aI_J, aL_J, sI_J, sL_J, pI_J, pL_J, J_add, J_sub, J_mul, J_neg, J_lt, J_le, J_eq, dv_J, rm_J, if_pos, if_neg, ↓reduceIte, bitJ, shlJ, orJ, j_0, j_1, j_2, j_3, j_4, j_5, j_6, j_7, j_8, j_9, j_10, j_11, j_12, j_13, j_14, j_15, j_16, j_17, j_18, j_19, j_20, j_21, j_22, j_23, j_24, j_25, j_26, j_27, j_28, j_29, j_30, j_31, j_32, j_33, j_34, j_35, j_36, j_37, j_38, j_39, j_40, j_41, j_42, j_43, j_44, j_45, j_46, j_47, j_48, j_49, j_50, j_51, j_52, j_57, j_59, j_63, j_74, j_75, j_93, j_97, j_99, j_100, j_122, j_200, j_255, j_300, j_465, j_496, j_900, j_999, j_1000, j_65536, j_65537, j_99999, j_252645135, j_858993459, j_1431655765, k_0, k_1, k_27, k_32, k_74, k_75, k_100, k_1000, k_65537, tr18, TR_v HR3])
  have HT3 := TS_fm f3 HT
  have HR3 := TR_fm f3 (by omega) HR
  have k3 := SS_k (SS_fm f3 H)
  have tk3 := TS_k HT3
  have rne := rn_e HL
  have sh := shl_r (rn L) (by omega)
  rw [rne] at sh
  have pw : (2 : Int) ^ rn L ≤ 32 := by
    have : 2 ^ rn L ≤ 2 ^ 5 := Nat.pow_le_pow_right (by decide) (by omega)
    have := Int.ofNat_le.mpr this
    simpa using this
  have pw0 : 0 < (2 : Int) ^ rn L := by
    have : 0 < 2 ^ rn L := Nat.pow_pos (by decide)
    have := Int.ofNat_lt.mpr this
    simpa using this
  have kk1 : kd (wF h3 b 2 (2 ^ rn L - 1)) b = 8 := by rw [kd_wF]; exact k3
  have kk2 : kd (wF (wF h3 b 2 (2 ^ rn L - 1)) b 3 0) b = 8 := by rw [kd_wF]; exact kk1
  refine ⟨wF (wF (wF h3 b 2 (2 ^ rn L - 1)) b 3 0) b 4 0, ?_, fm_tr f3 (fm_tr (fm_wF (by omega) (by omega)) (fm_tr (fm_wF (by omega) (by omega)) (fm_wF (by omega) (by omega)))), i3, fun g g0 g1 => ?_, ?_, ?_, ?_⟩
  · unfold F_to_begin
    rw [ck_e tk]
    simp (disch := first | with_reducible assumption | omega | trivial) only [bn_s1, bd_s1, ei_l1, ei_r1, gI_J, gL_J, gR_J, aI_J, aL_J, sI_J, sL_J, pI_J, pL_J, J_add, J_sub, J_mul, J_neg, J_lt, J_le, J_eq, dv_J, rm_J, if_pos, if_neg, ↓reduceIte, bitJ, shlJ, orJ, j_0, j_1, j_2, j_3, j_4, j_5, j_6, j_7, j_8, j_9, j_10, j_11, j_12, j_13, j_14, j_15, j_16, j_17, j_18, j_19, j_20, j_21, j_22, j_23, j_24, j_25, j_26, j_27, j_28, j_29, j_30, j_31, j_32, j_33, j_34, j_35, j_36, j_37, j_38, j_39, j_40, j_41, j_42, j_43, j_44, j_45, j_46, j_47, j_48, j_49, j_50, j_51, j_52, j_57, j_59, j_63, j_74, j_75, j_93, j_97, j_99, j_100, j_122, j_200, j_255, j_300, j_465, j_496, j_900, j_999, j_1000, j_65536, j_65537, j_99999, j_252645135, j_858993459, j_1431655765, k_0, k_1, k_27, k_32, k_74, k_75, k_100, k_1000, k_65537, tr4, r0, a4, e1, tr10', r1', a10, e2, e3, TR_r HR3, sh]
  · rw [tld_hi HL hs (by omega)]; exact j3 g g0 g1
  · rw [tld_hi HL hs (by omega), tb0_g HL (by omega), fi_ne (by omega), fi_ne (by omega), fi_same (by omega) (by omega)]; omega
  · rw [tld_hi HL hs (by omega), tb0_g HL (by omega), fi_ne (by omega), fi_same (by omega) (by omega)]
  · rw [tld_hi HL hs (by omega), tb0_g HL (by omega), fi_same (by omega) (by omega)]
