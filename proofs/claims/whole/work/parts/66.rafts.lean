/-! Rafts: weigh, merge, join, level -/
def ROw (L : Lk) (o : Int → Int) (r : Nat) (h : Hp) : Prop := ∀ i, 0 ≤ i → i < L 1 0 → ia h (r + 1) i = o i
def RB (L : Lk) (c : Nat) (r : Nat) (h : Hp) : Prop := ∀ i, 0 ≤ i → i < L 1 0 → ia h (r + 2) i = (raft L c i : Nat)
def RH (L : Lk) (o : Int → Int) (c : Nat) (r : Nat) (h : Hp) : Prop := ∀ i, 0 ≤ i → i < L 1 0 → ia h (r + 3) i = hgo L o c i
def gok (L : Lk) (S : Sk) : Prop := ∀ g, 0 ≤ g → g < L 3 0 → -1 ≤ S (25 + g) ∧ S (25 + g) < 5
theorem hn_e {L : Lk} (H : LW L) : (hn L : Int) = L 1 0 := by have := LW_h H; unfold hn; omega
theorem rn_e {L : Lk} (H : LW L) : (rn L : Int) = L 2 0 := by have := LW_r H; unfold rn; omega
theorem C_weigh {L : Lk} {r t b : Nat} {h : Hp} {S : Sk} {m : Int} (HL : LW L) (HC : CR h) (HX : RS r h) (HT : TS t h) (HR : TR L t h) (H : SS b h) (HS : SR L b S h) (hg : gok L S) (hS : CW m S) (hm : m ≤ 5000) (d1 : t + 18 ≤ r ∨ r + 4 ≤ t) (d2 : b + 3 ≤ r ∨ r + 4 ≤ b) (hr : r < 1000) : ∃ h', F_ra_weigh r t b h = some h' ∧ Fm r (r + 4) h h' ∧ fi h' r 0 = L 1 0 ∧ ROw L (net L S) r h' ∧ (∀ z, ia h' (r + 2) z = ia h (r + 2) z) := by
  have k := RS_k HX
  have b1 := LW_h HL
  have q0 : Fm r (r + 4) h (wF h r 0 (L 1 0)) := fm_wF (by omega) (by omega)
  have tk := TS_k HT
  obtain ⟨x, h', e, hq⟩ := lp_for (b := B_ra_weigh_10 r t b) (f := FU) (s := J 0) (h := wF h r 0 (L 1 0)) (fun i s h' => s = J i ∧ Fm r (r + 4) h h' ∧ fi h' r 0 = L 1 0 ∧ (∀ j : Int, 0 ≤ j → j < i → ia h' (r + 1) j = net L S j) ∧ (∀ z, ia h' (r + 2) z = ia h (r + 2) z)) (fun _ h' => Fm r (r + 4) h h' ∧ fi h' r 0 = L 1 0 ∧ ROw L (net L S) r h' ∧ (∀ z, ia h' (r + 2) z = ia h (r + 2) z)) (L 1 0).toNat (by unfold FU; omega) ⟨rfl, q0, fi_same (by omega) (by omega), fun j h1 h2 => by omega, fun z => rfl⟩ (fun i s h1 hi hI => by
      obtain ⟨rfl, f1, e1, g1, g2⟩ := hI
      have HC1 := CR_fm f1 (by omega) HC
      have HX1 := RS_fm f1 HX
      have HT1 := TS_fm f1 HT
      have H1 := SS_fm f1 H
      have HR1 := TR_fm f1 (by omega) HR
      have HS1 := SR_fm f1 (by omega) HS
      have k1 := RS_k HX1; have r1 := RS_r1 HX1; have k11 := RS_k1 HX1; have n11 := RS_n1 HX1
      have hb := net_b HL hS (h := i) (by omega) (by omega)
      refine ⟨J (i + 1), wA h1 (r + 1) i (net L S i), ?_, rfl, fm_tr f1 (fm_wA (by omega) (by omega)), e1, fun j j0 j1 => ?_, fun z => ?_⟩
      · unfold B_ra_weigh_10
        simp (disch := first | with_reducible assumption | omega | trivial) only [bn_s1, bd_s1, ei_l1, ei_r1, gI_J, gL_J, gR_J, aI_J, aL_J, sI_J, sL_J, pI_J, pL_J, J_add, J_sub, J_mul, J_neg, J_lt, J_le, J_eq, dv_J, rm_J, if_pos, if_neg, ↓reduceIte, bitJ, shlJ, orJ, j_0, j_1, j_2, j_3, j_4, j_5, j_6, j_7, j_8, j_9, j_10, j_11, j_12, j_13, j_14, j_15, j_16, j_17, j_18, j_19, j_20, j_21, j_22, j_23, j_24, j_25, j_26, j_27, j_28, j_29, j_30, j_31, j_32, j_33, j_34, j_35, j_36, j_37, j_38, j_39, j_40, j_41, j_42, j_43, j_44, j_45, j_46, j_47, j_48, j_49, j_50, j_51, j_52, j_57, j_59, j_63, j_74, j_75, j_93, j_97, j_99, j_100, j_122, j_200, j_255, j_300, j_465, j_496, j_900, j_999, j_1000, j_65536, j_65537, j_99999, j_252645135, j_858993459, j_1431655765, k_0, k_1, k_27, k_32, k_74, k_75, k_100, k_1000, k_65537, e1, r1, C_liftUnder HC1 H1 HS1.1, C_weightAt HL HT1 HR1 H1 HS1 _ _ hg]
        rfl
      · by_cases hj : j = i
        · rw [hj]; exact ia_same (by omega) (by omega) (by omega) (by omega)
        · rw [ia_ne (by omega) (by omega) hj]; exact g1 j (by omega) (by omega)
      · rw [ia_wA (by omega)]; exact g2 z) (fun s h1 hI => by
      obtain ⟨rfl, f1, e1, g1, g2⟩ := hI
      have k1 := RS_k (RS_fm f1 HX)
      refine ⟨(), h1, ?_, f1, e1, fun i h2 h3 => g1 i h2 (by omega), g2⟩
      unfold B_ra_weigh_10
      simp (disch := first | with_reducible assumption | omega | trivial) only [bn_s1, bd_s1, ei_l1, ei_r1, gI_J, gL_J, gR_J, aI_J, aL_J, sI_J, sL_J, pI_J, pL_J, J_add, J_sub, J_mul, J_neg, J_lt, J_le, J_eq, dv_J, rm_J, if_pos, if_neg, ↓reduceIte, bitJ, shlJ, orJ, j_0, j_1, j_2, j_3, j_4, j_5, j_6, j_7, j_8, j_9, j_10, j_11, j_12, j_13, j_14, j_15, j_16, j_17, j_18, j_19, j_20, j_21, j_22, j_23, j_24, j_25, j_26, j_27, j_28, j_29, j_30, j_31, j_32, j_33, j_34, j_35, j_36, j_37, j_38, j_39, j_40, j_41, j_42, j_43, j_44, j_45, j_46, j_47, j_48, j_49, j_50, j_51, j_52, j_57, j_59, j_63, j_74, j_75, j_93, j_97, j_99, j_100, j_122, j_200, j_255, j_300, j_465, j_496, j_900, j_999, j_1000, j_65536, j_65537, j_99999, j_252645135, j_858993459, j_1431655765, k_0, k_1, k_27, k_32, k_74, k_75, k_100, k_1000, k_65537, e1])
  refine ⟨h', ?_, hq⟩
  unfold F_ra_weigh
  rw [ck_e k]
  simp (disch := first | with_reducible assumption | omega | trivial) only [bn_s1, bd_s1, ei_l1, ei_r1, gI_J, gL_J, gR_J, aI_J, aL_J, sI_J, sL_J, pI_J, pL_J, J_add, J_sub, J_mul, J_neg, J_lt, J_le, J_eq, dv_J, rm_J, if_pos, if_neg, ↓reduceIte, bitJ, shlJ, orJ, j_0, j_1, j_2, j_3, j_4, j_5, j_6, j_7, j_8, j_9, j_10, j_11, j_12, j_13, j_14, j_15, j_16, j_17, j_18, j_19, j_20, j_21, j_22, j_23, j_24, j_25, j_26, j_27, j_28, j_29, j_30, j_31, j_32, j_33, j_34, j_35, j_36, j_37, j_38, j_39, j_40, j_41, j_42, j_43, j_44, j_45, j_46, j_47, j_48, j_49, j_50, j_51, j_52, j_57, j_59, j_63, j_74, j_75, j_93, j_97, j_99, j_100, j_122, j_200, j_255, j_300, j_465, j_496, j_900, j_999, j_1000, j_65536, j_65537, j_99999, j_252645135, j_858993459, j_1431655765, k_0, k_1, k_27, k_32, k_74, k_75, k_100, k_1000, k_65537, TR_h HR, e]
theorem C_merge {L : Lk} {r : Nat} {h : Hp} {x : Nat} (HL : LW L) (HX : RS r h) (hh : fi h r 0 = L 1 0) (hx : x < 32) (hr : r < 1000) : ∃ h', F_ra_merge r (J x) h = some h' ∧ Fm (r + 2) (r + 3) h h' ∧ (∀ i : Nat, i < L 1 0 → ia h' (r + 2) i = if x.testBit i then (x : Int) else ia h (r + 2) i) := by
  have k := RS_k HX
  have b1 := LW_h HL
  obtain ⟨y, h', e, hq⟩ := lp_for (b := B_ra_merge_2 r (J x)) (f := FU) (s := J 0) (h := h) (fun i s h' => s = J i ∧ Fm (r + 2) (r + 3) h h' ∧ (∀ j : Nat, j < 5 → ia h' (r + 2) j = if j < i ∧ x.testBit j then (x : Int) else ia h (r + 2) j)) (fun _ h' => Fm (r + 2) (r + 3) h h' ∧ (∀ i : Nat, i < L 1 0 → ia h' (r + 2) i = if x.testBit i then (x : Int) else ia h (r + 2) i)) (L 1 0).toNat (by unfold FU; omega) ⟨rfl, fm_rf _ _ _, fun j _ => by rw [if_neg (by omega)]⟩ (fun i s h1 hi hI => by
      obtain ⟨rfl, f1, g1⟩ := hI
      have HX1 := RS_fm f1 HX
      have k1 := RS_k HX1; have r2 := RS_r2 HX1; have k12 := RS_k2 HX1; have n12 := RS_n2 HX1
      have e1 : fi h1 r 0 = L 1 0 := by rw [fm_fi f1 (by omega)]; exact hh
      by_cases hc : x.testBit i = true
      · refine ⟨J (i + 1), wA h1 (r + 2) i x, ?_, rfl, fm_tr f1 (fm_wA (by omega) (by omega)), fun j hj => ?_⟩
        · unfold B_ra_merge_2
          simp (disch := first | with_reducible assumption | omega | trivial) only [bn_s1, bd_s1, ei_l1, ei_r1, gI_J, gL_J, gR_J, aI_J, aL_J, sI_J, sL_J, pI_J, pL_J, J_add, J_sub, J_mul, J_neg, J_lt, J_le, J_eq, dv_J, rm_J, if_pos, if_neg, ↓reduceIte, bitJ, shlJ, orJ, j_0, j_1, j_2, j_3, j_4, j_5, j_6, j_7, j_8, j_9, j_10, j_11, j_12, j_13, j_14, j_15, j_16, j_17, j_18, j_19, j_20, j_21, j_22, j_23, j_24, j_25, j_26, j_27, j_28, j_29, j_30, j_31, j_32, j_33, j_34, j_35, j_36, j_37, j_38, j_39, j_40, j_41, j_42, j_43, j_44, j_45, j_46, j_47, j_48, j_49, j_50, j_51, j_52, j_57, j_59, j_63, j_74, j_75, j_93, j_97, j_99, j_100, j_122, j_200, j_255, j_300, j_465, j_496, j_900, j_999, j_1000, j_65536, j_65537, j_99999, j_252645135, j_858993459, j_1431655765, k_0, k_1, k_27, k_32, k_74, k_75, k_100, k_1000, k_65537, e1, r2, hc]
        · by_cases hj' : j = i
          · rw [hj', ia_same (by omega) (by omega) (by omega) (by omega), if_pos ⟨by omega, hc⟩]
          · rw [ia_ne (by omega) (by omega) (by omega), g1 j hj]
            congr 1
            apply propext
            constructor
            · rintro ⟨h2, h3⟩; exact ⟨by omega, h3⟩
            · rintro ⟨h2, h3⟩; exact ⟨by omega, h3⟩
      · refine ⟨J (i + 1), h1, ?_, rfl, f1, fun j hj => ?_⟩
        · unfold B_ra_merge_2
          simp (disch := first | with_reducible assumption | omega | trivial) only [bn_s1, bd_s1, ei_l1, ei_r1, gI_J, gL_J, gR_J, aI_J, aL_J, sI_J, sL_J, pI_J, pL_J, J_add, J_sub, J_mul, J_neg, J_lt, J_le, J_eq, dv_J, rm_J, if_pos, if_neg, ↓reduceIte, bitJ, shlJ, orJ, j_0, j_1, j_2, j_3, j_4, j_5, j_6, j_7, j_8, j_9, j_10, j_11, j_12, j_13, j_14, j_15, j_16, j_17, j_18, j_19, j_20, j_21, j_22, j_23, j_24, j_25, j_26, j_27, j_28, j_29, j_30, j_31, j_32, j_33, j_34, j_35, j_36, j_37, j_38, j_39, j_40, j_41, j_42, j_43, j_44, j_45, j_46, j_47, j_48, j_49, j_50, j_51, j_52, j_57, j_59, j_63, j_74, j_75, j_93, j_97, j_99, j_100, j_122, j_200, j_255, j_300, j_465, j_496, j_900, j_999, j_1000, j_65536, j_65537, j_99999, j_252645135, j_858993459, j_1431655765, k_0, k_1, k_27, k_32, k_74, k_75, k_100, k_1000, k_65537, e1, r2, hc]
        · rw [g1 j hj]
          congr 1
          apply propext
          constructor
          · rintro ⟨h2, h3⟩; exact ⟨by omega, h3⟩
          · rintro ⟨h2, h3⟩
            refine ⟨?_, h3⟩
            have : j ≠ i := by intro q; rw [q] at h3; exact hc h3
            omega) (fun s h1 hI => by
      obtain ⟨rfl, f1, g1⟩ := hI
      have k1 := RS_k (RS_fm f1 HX)
      have e1 : fi h1 r 0 = L 1 0 := by rw [fm_fi f1 (by omega)]; exact hh
      refine ⟨(), h1, ?_, f1, fun i hi => ?_⟩
      · unfold B_ra_merge_2
        simp (disch := first | with_reducible assumption | omega | trivial) only [bn_s1, bd_s1, ei_l1, ei_r1, gI_J, gL_J, gR_J, aI_J, aL_J, sI_J, sL_J, pI_J, pL_J, J_add, J_sub, J_mul, J_neg, J_lt, J_le, J_eq, dv_J, rm_J, if_pos, if_neg, ↓reduceIte, bitJ, shlJ, orJ, j_0, j_1, j_2, j_3, j_4, j_5, j_6, j_7, j_8, j_9, j_10, j_11, j_12, j_13, j_14, j_15, j_16, j_17, j_18, j_19, j_20, j_21, j_22, j_23, j_24, j_25, j_26, j_27, j_28, j_29, j_30, j_31, j_32, j_33, j_34, j_35, j_36, j_37, j_38, j_39, j_40, j_41, j_42, j_43, j_44, j_45, j_46, j_47, j_48, j_49, j_50, j_51, j_52, j_57, j_59, j_63, j_74, j_75, j_93, j_97, j_99, j_100, j_122, j_200, j_255, j_300, j_465, j_496, j_900, j_999, j_1000, j_65536, j_65537, j_99999, j_252645135, j_858993459, j_1431655765, k_0, k_1, k_27, k_32, k_74, k_75, k_100, k_1000, k_65537, e1]
      · rw [g1 i (by omega)]
        congr 1
        apply propext
        exact ⟨fun q => q.2, fun q => ⟨by omega, q⟩⟩)
  refine ⟨h', ?_, hq⟩
  unfold F_ra_merge
  rw [ck_e k]
  simp (disch := first | with_reducible assumption | omega | trivial) only [bn_s1, bd_s1, ei_l1, ei_r1, gI_J, gL_J, gR_J, aI_J, aL_J, sI_J, sL_J, pI_J, pL_J, J_add, J_sub, J_mul, J_neg, J_lt, J_le, J_eq, dv_J, rm_J, if_pos, if_neg, ↓reduceIte, bitJ, shlJ, orJ, j_0, j_1, j_2, j_3, j_4, j_5, j_6, j_7, j_8, j_9, j_10, j_11, j_12, j_13, j_14, j_15, j_16, j_17, j_18, j_19, j_20, j_21, j_22, j_23, j_24, j_25, j_26, j_27, j_28, j_29, j_30, j_31, j_32, j_33, j_34, j_35, j_36, j_37, j_38, j_39, j_40, j_41, j_42, j_43, j_44, j_45, j_46, j_47, j_48, j_49, j_50, j_51, j_52, j_57, j_59, j_63, j_74, j_75, j_93, j_97, j_99, j_100, j_122, j_200, j_255, j_300, j_465, j_496, j_900, j_999, j_1000, j_65536, j_65537, j_99999, j_252645135, j_858993459, j_1431655765, k_0, k_1, k_27, k_32, k_74, k_75, k_100, k_1000, k_65537, e]
theorem tie_J : ∀ n, n < 6 → ∀ c, c < 2 ^ n → ∀ k, k < n → ((J (2 ^ n - 1 - (c : Nat)) >>> (J (k : Nat) &&& J 31)) &&& J 1) = J (if c.testBit k = true then 0 else 1) := by decide +kernel
theorem tieJ {L : Lk} (H : LW L) {c k : Nat} (hc : c < 2 ^ rn L) (hk : k < L 2 0) : ((J (2 ^ rn L - 1 - (c : Nat)) >>> (J (k : Nat) &&& J 31)) &&& J 1) = J (if c.testBit k = true then 0 else 1) := by
  have b := LW_r H
  have e := rn_e H
  exact tie_J (rn L) (by omega) c hc k (by omega)
theorem p32 {L : Lk} (H : LW L) : 2 ^ hn L ≤ 32 := by
  have b1 := LW_h H
  exact Nat.pow_le_pow_right (n := 2) (i := hn L) (j := 5) (by decide) (by unfold hn; omega)
theorem jn_lt {L : Lk} (H : LW L) (c : Nat) {k : Nat} (hk : k ≤ rn L) {i : Nat} (hi : i < L 1 0) : jn (rop L c k) i < 32 := by
  obtain ⟨⟨a1, a2, a3, a4, a5⟩, hE⟩ := inv_jn (n := hn L) k L c (fun j hj => rop_n H j (by omega))
  have b := hn_e H
  have := a2 i (by omega)
  have := p32 H
  omega
theorem C_join {L : Lk} {r t : Nat} {h : Hp} {c : Nat} (HL : LW L) (HX : RS r h) (HT : TS t h) (HR : TR L t h) (hh : fi h r 0 = L 1 0) (hc : c < 2 ^ rn L) (d1 : t + 18 ≤ r ∨ r + 4 ≤ t) (hr : r < 1000) : ∃ h', F_ra_join r t (J (2 ^ rn L - 1 - (c : Nat))) h = some h' ∧ Fm (r + 2) (r + 3) h h' ∧ RB L c r h' := by
  have k := RS_k HX
  have b1 := LW_h HL
  have b2 := LW_r HL
  obtain ⟨y, h1, e1, f1, g1⟩ := lp_for (b := B_ra_join_2 r t (J (2 ^ rn L - 1 - (c : Nat)))) (f := FU) (s := J 0) (h := h) (fun i s h' => s = J i ∧ Fm (r + 2) (r + 3) h h' ∧ (∀ j : Nat, j < i → ia h' (r + 2) j = ((2 ^ j : Nat) : Int))) (fun _ h' => Fm (r + 2) (r + 3) h h' ∧ (∀ j : Nat, j < L 1 0 → ia h' (r + 2) j = ((2 ^ j : Nat) : Int))) (L 1 0).toNat (by unfold FU; omega) ⟨rfl, fm_rf _ _ _, fun j hj => by omega⟩ (fun i s h1 hi hI => by
      obtain ⟨rfl, f1, g1⟩ := hI
      have HX1 := RS_fm f1 HX
      have k1 := RS_k HX1; have r2 := RS_r2 HX1; have k12 := RS_k2 HX1; have n12 := RS_n2 HX1
      have e1 : fi h1 r 0 = L 1 0 := by rw [fm_fi f1 (by omega)]; exact hh
      have p5 : 2 ^ i < 2 ^ 5 := Nat.pow_lt_pow_right (by decide) (by omega)
      refine ⟨J (i + 1), wA h1 (r + 2) i ((2 ^ i : Nat) : Int), ?_, rfl, fm_tr f1 (fm_wA (by omega) (by omega)), fun j hj => ?_⟩
      · unfold B_ra_join_2
        simp (disch := first | with_reducible assumption | omega | trivial) only [bn_s1, bd_s1, ei_l1, ei_r1, gI_J, gL_J, gR_J, aI_J, aL_J, sI_J, sL_J, pI_J, pL_J, J_add, J_sub, J_mul, J_neg, J_lt, J_le, J_eq, dv_J, rm_J, if_pos, if_neg, ↓reduceIte, bitJ, shlJ, orJ, j_0, j_1, j_2, j_3, j_4, j_5, j_6, j_7, j_8, j_9, j_10, j_11, j_12, j_13, j_14, j_15, j_16, j_17, j_18, j_19, j_20, j_21, j_22, j_23, j_24, j_25, j_26, j_27, j_28, j_29, j_30, j_31, j_32, j_33, j_34, j_35, j_36, j_37, j_38, j_39, j_40, j_41, j_42, j_43, j_44, j_45, j_46, j_47, j_48, j_49, j_50, j_51, j_52, j_57, j_59, j_63, j_74, j_75, j_93, j_97, j_99, j_100, j_122, j_200, j_255, j_300, j_465, j_496, j_900, j_999, j_1000, j_65536, j_65537, j_99999, j_252645135, j_858993459, j_1431655765, k_0, k_1, k_27, k_32, k_74, k_75, k_100, k_1000, k_65537, e1, r2]
      · by_cases hj' : j = i
        · rw [hj', ia_same (by omega) (by omega) (Int.le_trans (by decide) (Int.natCast_nonneg _)) (Int.ofNat_lt.mpr (by omega : 2 ^ i < 2147483648))]
        · rw [ia_ne (by omega) (by omega) (by omega), g1 j (by omega)]) (fun s h1 hI => by
      obtain ⟨rfl, f1, g1⟩ := hI
      have k1 := RS_k (RS_fm f1 HX)
      have e1 : fi h1 r 0 = L 1 0 := by rw [fm_fi f1 (by omega)]; exact hh
      refine ⟨(), h1, ?_, f1, fun i hi => g1 i (by omega)⟩
      unfold B_ra_join_2
      simp (disch := first | with_reducible assumption | omega | trivial) only [bn_s1, bd_s1, ei_l1, ei_r1, gI_J, gL_J, gR_J, aI_J, aL_J, sI_J, sL_J, pI_J, pL_J, J_add, J_sub, J_mul, J_neg, J_lt, J_le, J_eq, dv_J, rm_J, if_pos, if_neg, ↓reduceIte, bitJ, shlJ, orJ, j_0, j_1, j_2, j_3, j_4, j_5, j_6, j_7, j_8, j_9, j_10, j_11, j_12, j_13, j_14, j_15, j_16, j_17, j_18, j_19, j_20, j_21, j_22, j_23, j_24, j_25, j_26, j_27, j_28, j_29, j_30, j_31, j_32, j_33, j_34, j_35, j_36, j_37, j_38, j_39, j_40, j_41, j_42, j_43, j_44, j_45, j_46, j_47, j_48, j_49, j_50, j_51, j_52, j_57, j_59, j_63, j_74, j_75, j_93, j_97, j_99, j_100, j_122, j_200, j_255, j_300, j_465, j_496, j_900, j_999, j_1000, j_65536, j_65537, j_99999, j_252645135, j_858993459, j_1431655765, k_0, k_1, k_27, k_32, k_74, k_75, k_100, k_1000, k_65537, e1])
  obtain ⟨y, h2, e2, f2, g2⟩ := lp_for (b := B_ra_join_27 r t (J (2 ^ rn L - 1 - (c : Nat)))) (f := FU) (s := J 0) (h := h1) (fun i s h' => s = J i ∧ Fm (r + 2) (r + 3) h h' ∧ (∀ j : Nat, j < L 1 0 → ia h' (r + 2) j = (jn (rop L c i) j : Nat))) (fun _ h' => Fm (r + 2) (r + 3) h h' ∧ RB L c r h') (L 2 0).toNat (by unfold FU; omega) ⟨rfl, f1, g1⟩ (fun i s h2 hi hI => by
      obtain ⟨rfl, f2, g2⟩ := hI
      have HX2 := RS_fm f2 HX
      have HT2 := TS_fm f2 HT
      have HR2 := TR_fm f2 (by omega) HR
      have tk := TS_k HT2; have tr6 := TS_r6 HT2; have tk6 := TS_k6 HT2; have tn6 := TS_n6 HT2; have tr7 := TS_r7 HT2; have tk7 := TS_k7 HT2; have tn7 := TS_n7 HT2
      have k1 := RS_k HX2; have r2 := RS_r2 HX2; have k12 := RS_k2 HX2; have n12 := RS_n2 HX2
      have e1 : fi h2 r 0 = L 1 0 := by rw [fm_fi f2 (by omega)]; exact hh
      have w := LW_rs HL i (by omega) (by omega)
      have rne := rn_e HL
      have tj := tieJ HL hc (k := i) (by omega)
      by_cases hb : c.testBit i = true
      · refine ⟨J (i + 1), h2, ?_, rfl, f2, fun j hj => ?_⟩
        · unfold B_ra_join_27
          simp (disch := first | with_reducible assumption | omega | trivial) only [bn_s1, bd_s1, ei_l1, ei_r1, gI_J, gL_J, gR_J, aI_J, aL_J, sI_J, sL_J, pI_J, pL_J, J_add, J_sub, J_mul, J_neg, J_lt, J_le, J_eq, dv_J, rm_J, if_pos, if_neg, ↓reduceIte, bitJ, shlJ, orJ, j_0, j_1, j_2, j_3, j_4, j_5, j_6, j_7, j_8, j_9, j_10, j_11, j_12, j_13, j_14, j_15, j_16, j_17, j_18, j_19, j_20, j_21, j_22, j_23, j_24, j_25, j_26, j_27, j_28, j_29, j_30, j_31, j_32, j_33, j_34, j_35, j_36, j_37, j_38, j_39, j_40, j_41, j_42, j_43, j_44, j_45, j_46, j_47, j_48, j_49, j_50, j_51, j_52, j_57, j_59, j_63, j_74, j_75, j_93, j_97, j_99, j_100, j_122, j_200, j_255, j_300, j_465, j_496, j_900, j_999, j_1000, j_65536, j_65537, j_99999, j_252645135, j_858993459, j_1431655765, k_0, k_1, k_27, k_32, k_74, k_75, k_100, k_1000, k_65537, TR_r HR2, tj, hb]
        · have e : rop L c (i + 1) = rop L c i := by show rop L c i ++ (if c.testBit i then [] else _) = _; rw [if_pos hb, List.append_nil]
          rw [e]; exact g2 j hj
      · have ga := g2 (L 13 i).toNat (by omega)
        have gb := g2 (L 14 i).toNat (by omega)
        have ta : ((L 13 i).toNat : Int) = L 13 i := by omega
        have tb : ((L 14 i).toNat : Int) = L 14 i := by omega
        rw [ta] at ga
        rw [tb] at gb
        have la := jn_lt HL c (k := i) (by omega) (i := (L 13 i).toNat) (by omega)
        have lb := jn_lt HL c (k := i) (by omega) (i := (L 14 i).toNat) (by omega)
        have lx : jn (rop L c i) (L 13 i).toNat ||| jn (rop L c i) (L 14 i).toNat < 32 := Nat.or_lt_two_pow (n := 5) la lb
        obtain ⟨h3, e3, f3, g3⟩ := C_merge HL HX2 e1 lx hr
        refine ⟨J (i + 1), h3, ?_, rfl, fm_tr f2 f3, fun j hj => ?_⟩
        · unfold B_ra_join_27
          simp (disch := first | with_reducible assumption | omega | trivial) only [bn_s1, bd_s1, ei_l1, ei_r1, gI_J, gL_J, gR_J, aI_J, aL_J, sI_J, sL_J, pI_J, pL_J, J_add, J_sub, J_mul, J_neg, J_lt, J_le, J_eq, dv_J, rm_J, if_pos, if_neg, ↓reduceIte, bitJ, shlJ, orJ, j_0, j_1, j_2, j_3, j_4, j_5, j_6, j_7, j_8, j_9, j_10, j_11, j_12, j_13, j_14, j_15, j_16, j_17, j_18, j_19, j_20, j_21, j_22, j_23, j_24, j_25, j_26, j_27, j_28, j_29, j_30, j_31, j_32, j_33, j_34, j_35, j_36, j_37, j_38, j_39, j_40, j_41, j_42, j_43, j_44, j_45, j_46, j_47, j_48, j_49, j_50, j_51, j_52, j_57, j_59, j_63, j_74, j_75, j_93, j_97, j_99, j_100, j_122, j_200, j_255, j_300, j_465, j_496, j_900, j_999, j_1000, j_65536, j_65537, j_99999, j_252645135, j_858993459, j_1431655765, k_0, k_1, k_27, k_32, k_74, k_75, k_100, k_1000, k_65537, TR_r HR2, tj, hb, r2, tr6, tr7, TR_o HR2, TR_u HR2, ga, gb, e3]
        · rw [g3 j hj, g2 j hj]
          have e : rop L c (i + 1) = rop L c i ++ [((L 13 i).toNat, (L 14 i).toNat)] := by show rop L c i ++ (if c.testBit i then [] else _) = _; rw [if_neg hb]
          have e2 : jn (rop L c (i + 1)) = mrg (jn (rop L c i)) ((L 13 i).toNat, (L 14 i).toNat) := by rw [e]; unfold jn; rw [List.foldl_append]; rfl
          rw [e2]
          show _ = ((if (jn (rop L c i) (L 13 i).toNat ||| jn (rop L c i) (L 14 i).toNat).testBit j then jn (rop L c i) (L 13 i).toNat ||| jn (rop L c i) (L 14 i).toNat else jn (rop L c i) j : Nat) : Int)
          by_cases hm : (jn (rop L c i) (L 13 i).toNat ||| jn (rop L c i) (L 14 i).toNat).testBit j = true
          · rw [if_pos hm, if_pos hm]
          · rw [if_neg hm, if_neg hm]) (fun s h2 hI => by
      obtain ⟨rfl, f2, g2⟩ := hI
      have HT2 := TS_fm f2 HT
      have HR2 := TR_fm f2 (by omega) HR
      have tk := TS_k HT2
      refine ⟨(), h2, ?_, f2, fun i i0 i1 => ?_⟩
      · unfold B_ra_join_27
        simp (disch := first | with_reducible assumption | omega | trivial) only [bn_s1, bd_s1, ei_l1, ei_r1, gI_J, gL_J, gR_J, aI_J, aL_J, sI_J, sL_J, pI_J, pL_J, J_add, J_sub, J_mul, J_neg, J_lt, J_le, J_eq, dv_J, rm_J, if_pos, if_neg, ↓reduceIte, bitJ, shlJ, orJ, j_0, j_1, j_2, j_3, j_4, j_5, j_6, j_7, j_8, j_9, j_10, j_11, j_12, j_13, j_14, j_15, j_16, j_17, j_18, j_19, j_20, j_21, j_22, j_23, j_24, j_25, j_26, j_27, j_28, j_29, j_30, j_31, j_32, j_33, j_34, j_35, j_36, j_37, j_38, j_39, j_40, j_41, j_42, j_43, j_44, j_45, j_46, j_47, j_48, j_49, j_50, j_51, j_52, j_57, j_59, j_63, j_74, j_75, j_93, j_97, j_99, j_100, j_122, j_200, j_255, j_300, j_465, j_496, j_900, j_999, j_1000, j_65536, j_65537, j_99999, j_252645135, j_858993459, j_1431655765, k_0, k_1, k_27, k_32, k_74, k_75, k_100, k_1000, k_65537, TR_r HR2]
      · have := g2 i.toNat (by omega)
        rw [← raft_jn HL c i0 i1]
        have e : (i.toNat : Int) = i := by omega
        rw [e] at this
        exact this)
  refine ⟨h2, ?_, f2, g2⟩
  unfold F_ra_join
  rw [ck_e k]
  simp (disch := first | with_reducible assumption | omega | trivial) only [bn_s1, bd_s1, ei_l1, ei_r1, gI_J, gL_J, gR_J, aI_J, aL_J, sI_J, sL_J, pI_J, pL_J, J_add, J_sub, J_mul, J_neg, J_lt, J_le, J_eq, dv_J, rm_J, if_pos, if_neg, ↓reduceIte, bitJ, shlJ, orJ, j_0, j_1, j_2, j_3, j_4, j_5, j_6, j_7, j_8, j_9, j_10, j_11, j_12, j_13, j_14, j_15, j_16, j_17, j_18, j_19, j_20, j_21, j_22, j_23, j_24, j_25, j_26, j_27, j_28, j_29, j_30, j_31, j_32, j_33, j_34, j_35, j_36, j_37, j_38, j_39, j_40, j_41, j_42, j_43, j_44, j_45, j_46, j_47, j_48, j_49, j_50, j_51, j_52, j_57, j_59, j_63, j_74, j_75, j_93, j_97, j_99, j_100, j_122, j_200, j_255, j_300, j_465, j_496, j_900, j_999, j_1000, j_65536, j_65537, j_99999, j_252645135, j_858993459, j_1431655765, k_0, k_1, k_27, k_32, k_74, k_75, k_100, k_1000, k_65537, e1, e2]
