/-! house -/
def a_hou3 (L : Lk) (T : Int → Int) (n p p2 : Nat) (sd : Int) : Lo := if isW T n p2 12 = true then (if pwf T n (tnx T n p2) 0 99 = 0 then .inl (tnx T n (tnx T n p2), ap2 (nml L T n p 0 (L 1 0)) 1 9 sd 10 (tnm T n (tnx T n p2))) else .inr (pwf T n (tnx T n p2) 0 99, (spn T n (tnx T n p2) : Nat))) else .inr (1, (spn T n p2 : Nat))
def a_hou2 (L : Lk) (T : Int → Int) (n p p1 : Nat) : Lo := if isW T n p1 10 = true then a_hou3 L T n p (tnx T n p1) 0 else if isW T n p1 11 = true then a_hou3 L T n p (tnx T n p1) 1 else .inr (1, (spn T n p1 : Nat))
def a_hou (L : Lk) (T : Int → Int) (n p : Nat) : Lo := if pnf L T n p = 0 then a_hou2 L T n p (tnx T n p) else .inr (pnf L T n p, (spn T n p : Nat))
theorem LW_hou {L : Lk} {s v : Int} (H : LW L) (h1 : L 1 0 < 5) (hs : s = 0 ∨ s = 1) (hv : 0 ≤ v ∧ v ≤ 99) : LW (ap2 L 1 9 s 10 v) := by
  obtain ⟨a0, a1, a2, a3, a4, a5, a6, a7, a8, a9, a10, a11, a12, a13, a14, a15⟩ := H
  refine ⟨a0, ?_, a2, a3, a4, a5, a6, a7, ?_, ?_, ?_, ?_, a12, ?_, ?_, ?_⟩
  · show 0 ≤ L 1 0 + 1 ∧ L 1 0 + 1 ≤ 5
    omega
  · intro i i0 i1
    replace i1 : i < L 1 0 + 1 := i1
    show ((if i = L 1 0 then s else L 9 i) = 0 ∨ (if i = L 1 0 then s else L 9 i) = 1) ∧ 0 ≤ (if i = L 1 0 then v else L 10 i) ∧ (if i = L 1 0 then v else L 10 i) ≤ 99
    by_cases e : i = L 1 0
    · rw [if_pos e, if_pos e]; exact ⟨hs, hv.1, hv.2⟩
    · rw [if_neg e, if_neg e]; exact a8 i i0 (by omega)
  · intro i i0 i1
    have q := a9 i i0 i1
    refine ⟨q.1, q.2.1, fun z => q.2.2 ?_⟩
    replace z : 5 * (L 1 0 + 1) ≤ i := z
    omega
  · intro i i0 i1
    have q := a10 i i0 i1
    refine ⟨q.1, q.2.1, ?_⟩
    show L 14 i < L 1 0 + 1
    omega
  · intro i i0 i1
    have q := a11 i i0 i1
    refine ⟨q.1, q.2.1, q.2.2.1, ?_⟩
    show L 16 i < L 1 0 + 1
    omega
  · intro i i0 i1
    have q := a13 i i0 i1
    refine ⟨q.1, ?_, q.2.2⟩
    show L 19 i < L 1 0 + 1
    omega
  · intro i i0 i1
    have q := a14 i i0 i1
    refine ⟨q.1, q.2.1, q.2.2.1, ?_, q.2.2.2.2⟩
    show L 23 i < L 1 0 + 1
    omega
  · intro i i0 i1
    have q := a15 i i0 i1
    refine ⟨q.1, ?_, q.2.2⟩
    show L 25 i < L 1 0 + 1
    omega
/-- within a house's line: the bits of the north shore may have the new house's already -/
def CQ (L : Lk) (w : Nat) (u : Nat) (T : Int → Int) (n : Nat) (h : Hp) : Prop := KB T n h ∧ TS u h ∧ fR h 2 3 = some u ∧ (u = 5 ∨ u = 26) ∧ LW L ∧ NW L ∧ TR L u h ∧ fi h u 2 = w ∧ NC L h ∧ (L 31 0 = 0 ∨ L 31 0 = 1)
theorem CQ_sf {L : Lk} {w u : Nat} {T : Int → Int} {n : Nat} {h h' : Hp} (x : Sf h h') (H : CQ L w u T n h) : CQ L w u T n h' := by
  obtain ⟨a1, a2, a3, a4, a5, a6, a7, a8, a9, a10⟩ := H
  refine ⟨KB_fm x.1 (by omega) (by omega) a1, TS_fm x.1 a2, by rw [fm_fR x.1]; exact a3, a4, a5, a6, TR_fm x.1 (by omega) a7, by rw [fm_fi x.1 (by omega)]; exact a8, ⟨?_, ?_, fun i i0 i1 => ?_⟩, a10⟩
  · rw [x.2 5 (by omega)]; exact a9.1
  · rw [x.2 4 (by omega)]; exact a9.2.1
  · rw [fm_la x.1 (by omega), fm_ia x.1 (by omega), fm_ia x.1 (by omega)]; exact a9.2.2 i i0 i1
theorem CQ_u {L L' : Lk} {w u : Nat} {T : Int → Int} {n : Nat} {h h' : Hp} (x : Fm u (u + 18) h h') (C : CQ L w u T n h) (hl : LW L') (hn : NW L') (ht : TR L' u h') (hm : ∃ m : Nat, fi h' u 2 = m ∧ m < 2 ^ (L' 1 0).toNat) (e : ∀ g, NC L g → NC L' g) (e31 : L' 31 0 = 0 ∨ L' 31 0 = 1) : CP L' u T n h' := by
  obtain ⟨a1, a2, a3, a4, a5, a6, a7, a8, a9, a10⟩ := C
  refine ⟨KB_fm x (by omega) (by omega) a1, TS_fm x a2, by rw [fm_fR x]; exact a3, a4, hl, hn, ht, hm, e _ ⟨?_, ?_, fun i i0 i1 => ?_⟩, e31⟩
  · rw [fm_fi x (by omega)]; exact a9.1
  · rw [fm_fi x (by omega)]; exact a9.2.1
  · rw [fm_la x (by omega), fm_ia x (by omega), fm_ia x (by omega)]; exact a9.2.2 i i0 i1
theorem C_hou3 {L : Lk} {w u : Nat} {T : Int → Int} {n p2 : Nat} {h : Hp} {g sd : Int} (hp : p2 ≤ n) (Q : CQ L w u T n h) (hg : g = L 1 0) (h1 : L 1 0 < 5) (H : CT T n p2 h) (hs : sd = 0 ∨ sd = 1) (w1 : w < 2 ^ ((L 1 0).toNat + 1)) (w2 : ∀ i : Nat, (i : Int) < L 1 0 → w.testBit i = decide (L 9 i = 0)) (w3 : w.testBit (L 1 0).toNat = decide (sd = 0)) : CO (if isW T n p2 12 = true then (if pwf T n (tnx T n p2) 0 99 = 0 then .inl (tnx T n (tnx T n p2), ap2 L 1 9 sd 10 (tnm T n (tnx T n p2))) else .inr (pwf T n (tnx T n p2) 0 99, (spn T n (tnx T n p2) : Nat))) else .inr (1, (spn T n p2 : Nat))) u T n (bd (F_rd_takeWord 2 1000015 h) fun x33 h34 => if x33 = (0 : Int32) then some ((0 : Int32), h34) else bd (F_rd_takeWhole 2 (0 : Int32) (99 : Int32) h34) fun x36 h37 => if x36 = (0 : Int32) then some ((0 : Int32), h37) else bn (gR h37 2 7 3) fun x38 => bn (gR h37 x38 10 3) fun x40 => bn (gI h37 2 7 9) fun x42 => bn (sI h37 100 x40 (J g) x42) fun h44 => bn (gR h44 2 7 3) fun x46 => bn (gI h44 x46 10 1) fun x48 => bn (pI h44 x46 10 1 (x48 + (1 : Int32))) fun h50 => some ((1 : Int32), h50)) h := by
  have hu := Q.2.2.2.1
  have lw := Q.2.2.2.2.1
  have lh := LW_h lw
  have z := C_tw (k := 12) Q.1 hp H (by omega)
  by_cases c : isW T n p2 12 = true
  · rw [if_pos c]
    obtain ⟨g1, e1, s1, _, c1, B1⟩ := z.1 c
    clear z
    replace e1 : F_rd_takeWord 2 1000015 h = some (J 1, g1) := e1
    have p3b := (tln_b T n p2 hp).1
    obtain ⟨p3, hp3⟩ : ∃ p3, p3 = tnx T n p2 := ⟨_, rfl⟩
    rw [← hp3] at c1 p3b ⊢
    have v := C_twh (lo := 0) (hi := 99) B1 p3b c1 (by omega) (by omega)
    by_cases d : pwf T n p3 0 99 = 0
    · rw [if_pos d]
      obtain ⟨g2, e2, s2, w9, c2, B2⟩ := v.1 d
      clear v
      have tb := pwf_0 d
      have p4b := (tln_b T n p3 p3b).1
      have S2 := sf_tr s1 s2
      have Q2 := CQ_sf S2 Q
      have T2 := Q2.2.1
      have D2 := Q2.1.2.2.2
      have R2 := Q2.2.2.2.2.2.2.1
      obtain ⟨q, hq⟩ : ∃ q, q = tnm T n p3 := ⟨_, rfl⟩
      rw [← hq] at tb w9 ⊢
      have u2 : gR g2 2 7 3 = some u := gR_e (DS_k D2) Q2.2.2.1
      have t2 := trf_3 T2
      have n2 := TS_n3 T2
      have v2 : fi g2 u 1 = g := by rw [hg]; exact TR_h R2
      obtain ⟨g3, r3⟩ : ∃ y, y = wA g2 (u + 1) g q := ⟨_, rfl⟩
      have f3 : Fm u (u + 18) g2 g3 := by rw [r3]; exact fm_wA (by omega) (by omega)
      have s3 : sI g2 100 (u + 1) (J g) (J q) = some g3 := by rw [r3]; exact sI_J (TS_k3 T2) (by omega) (by omega) (by omega) (by omega)
      have T3 := TS_fm f3 T2
      have u3 : gR g3 2 7 3 = some u := gR_e (DS_k (DS_fm f3 D2)) (by rw [fm_fR f3]; exact Q2.2.2.1)
      have v3 : fi g3 u 1 = g := by rw [r3]; exact v2
      have i3 : gI g3 u 10 1 = some (J g) := by rw [gI_J (TS_k T3), v3]
      obtain ⟨g4, r4⟩ : ∃ y, y = wF g3 u 1 (g + 1) := ⟨_, rfl⟩
      have f4 : Fm u (u + 18) g3 g4 := by rw [r4]; exact fm_wF (by omega) (by omega)
      have s4 : pI g3 u 10 1 (J (g + 1)) = some g4 := by rw [r4]; exact pI_J (TS_k T3)
      have F4 := fm_tr f3 f4
      refine CO_l p4b (h' := g4) ?_ (cf_tr (cf_sf hu S2) (cf_fm F4 (by omega) (by omega) (by omega))) ?_ (CT_fm F4 (by omega) c2) ?_
      · try simp only [j_0, j_1, j_2, j_3, j_4, j_5, j_6, j_7, j_8, j_9, j_10, j_11, j_12, j_13, j_14, j_15, j_16, j_17, j_18, j_19, j_20, j_21, j_22, j_23, j_24, j_25, j_26, j_27, j_28, j_29, j_30, j_31, j_32, j_33, j_34, j_35, j_36, j_37, j_38, j_39, j_40, j_41, j_42, j_43, j_44, j_45, j_46, j_47, j_48, j_49, j_50, j_51, j_52, j_57, j_59, j_63, j_74, j_75, j_93, j_97, j_99, j_100, j_122, j_200, j_255, j_300, j_465, j_496, j_900, j_999, j_1000, j_65536, j_65537, j_99999, j_252645135, j_858993459, j_1431655765, k_0, k_1, k_27, k_32, k_74, k_75, k_100, k_1000, k_65537]
        simp (disch := first | with_reducible assumption | omega | trivial) only [↓bn_s1, ↓bd_s1, ↓ei_l1, ↓ei_r1, ↓bn_if, ↓ilt_1, ↓ilt_0, ↓ieq_1, ↓ieq_0, bn_s1, bd_s1, ei_l1, ei_r1, J_add, J_sub, J_mul, J_neg, J_lt, J_le, J_eq, dv_J, rm_J, if_pos, if_neg, ↓reduceIte, bitJ, shlJ, orJ, j_0, j_1, j_2, j_3, j_4, j_5, j_6, j_7, j_8, j_9, j_10, j_11, j_12, j_13, j_14, j_15, j_16, j_17, j_18, j_19, j_20, j_21, j_22, j_23, j_24, j_25, j_26, j_27, j_28, j_29, j_30, j_31, j_32, j_33, j_34, j_35, j_36, j_37, j_38, j_39, j_40, j_41, j_42, j_43, j_44, j_45, j_46, j_47, j_48, j_49, j_50, j_51, j_52, j_57, j_59, j_63, j_74, j_75, j_93, j_97, j_99, j_100, j_122, j_200, j_255, j_300, j_465, j_496, j_900, j_999, j_1000, j_65536, j_65537, j_99999, j_252645135, j_858993459, j_1431655765, k_0, k_1, k_27, k_32, k_74, k_75, k_100, k_1000, k_65537, ↓bd_e (e1), e1, ↓bd_e (e2), e2, ↓bn_e (u2), u2, ↓bn_e (t2), t2, d_i D2, ↓d_i_b D2, d_p D2, ↓d_p_b D2, d_r2 D2, ↓d_r2_b D2, w9, ↓bn_e (s3), s3, ↓bn_e (u3), u3, ↓bn_e (i3), i3, ↓bn_e (s4), s4]
      · have fo : ∀ a j, (a ≠ u ∨ j ≠ 1) → fi g4 a j = fi g2 a j := fun a j ha => by rw [r4, fi_ne ha, r3]; rfl
        have io : ∀ a, a ≠ u + 1 → ∀ z, ia g4 a z = ia g2 a z := fun a a1 z => by
          rw [r4]
          show ia g3 a z = _
          rw [r3, ia_wA a1]
        have j1 : ∀ z, 0 ≤ z → ia g4 (u + 1) z = if z = g then q else ia g2 (u + 1) z := fun z z0 => by
          rw [r4]
          show ia g3 (u + 1) z = _
          rw [r3]
          exact ia_if (by omega) z0 (by omega) (by omega) (by omega)
        have w4 : fi g4 u 2 = w := by rw [fo _ _ (by omega)]; exact Q2.2.2.2.2.2.2.2.1
        have w5 : w < 32 := Nat.lt_of_lt_of_le w1 (by
          have : (2 : Nat) ^ ((L 1 0).toNat + 1) ≤ 2 ^ 5 := Nat.pow_le_pow_right (by omega) (by omega)
          exact this)
        refine CQ_u F4 Q2 (LW_hou lw h1 hs ⟨tb.2.1, tb.2.2⟩) Q.2.2.2.2.2.1 ?_ ⟨w, w4, ?_⟩ (fun _ y => y) Q2.2.2.2.2.2.2.2.2.2
        · obtain ⟨b1, _, b3, b4, b5, b6, b7, b8, b9, b10⟩ := R2
          refine ⟨⟨?_, ?_, ?_, ?_, ?_, ?_, ?_, ?_⟩, ⟨w, w4, w5, ?_⟩, ?_, ?_, ?_, ?_, ?_, ?_, ?_, ?_⟩
          · rw [fo _ _ (by omega)]; exact b1.1
          · rw [r4, fi_same (by omega) (by omega), hg]; rfl
          · rw [fo _ _ (by omega)]; exact b1.2.2.1
          · rw [fo _ _ (by omega)]; exact b1.2.2.2.1
          · rw [fo _ _ (by omega)]; exact b1.2.2.2.2.1
          · rw [fo _ _ (by omega)]; exact b1.2.2.2.2.2.1
          · rw [fo _ _ (by omega)]; exact b1.2.2.2.2.2.2.1
          · rw [fo _ _ (by omega)]; exact b1.2.2.2.2.2.2.2
          · intro i i1
            replace i1 : (i : Int) < L 1 0 + 1 := i1
            show _ = decide ((if (i : Int) = L 1 0 then sd else L 9 i) = 0)
            by_cases e : (i : Int) = L 1 0
            · rw [if_pos e, ← w3, show i = (L 1 0).toNat by omega]
            · rw [if_neg e]; exact w2 i (by omega)
          · intro i i0 i1
            replace i1 : i < L 1 0 + 1 := i1
            rw [j1 i i0]
            show _ = (if i = L 1 0 then q else L 10 i)
            rw [← hg]
            by_cases e : i = g
            · rw [if_pos e, if_pos e]
            · rw [if_neg e, if_neg e]; exact b3 i i0 (by omega)
          · simp (disch := omega) only [io]; exact b4
          · simp (disch := omega) only [io]; exact b5
          · simp (disch := omega) only [io]; exact b6
          · simp (disch := omega) only [io]; exact b7
          · simp (disch := omega) only [io]; exact b8
          · simp (disch := omega) only [io]; exact b9
          · simp (disch := omega) only [io]; exact b10
        · show w < 2 ^ (L 1 0 + 1).toNat
          rw [show (L 1 0 + 1).toNat = (L 1 0).toNat + 1 by omega]
          exact w1
      · rw [fm_fi F4 (by omega), fm_fi F4 (by omega), S2.2 0 (by omega), S2.2 1 (by omega)]
        exact ⟨rfl, rfl⟩
    · rw [if_neg d]
      obtain ⟨g2, e2, f2⟩ := v.2 d
      clear v
      refine CO_r (h' := g2) ?_ (cf_tr (cf_sf hu s1) (cf_fl hu f2)) f2.2
      try simp only [j_0, j_1, j_2, j_3, j_4, j_5, j_6, j_7, j_8, j_9, j_10, j_11, j_12, j_13, j_14, j_15, j_16, j_17, j_18, j_19, j_20, j_21, j_22, j_23, j_24, j_25, j_26, j_27, j_28, j_29, j_30, j_31, j_32, j_33, j_34, j_35, j_36, j_37, j_38, j_39, j_40, j_41, j_42, j_43, j_44, j_45, j_46, j_47, j_48, j_49, j_50, j_51, j_52, j_57, j_59, j_63, j_74, j_75, j_93, j_97, j_99, j_100, j_122, j_200, j_255, j_300, j_465, j_496, j_900, j_999, j_1000, j_65536, j_65537, j_99999, j_252645135, j_858993459, j_1431655765, k_0, k_1, k_27, k_32, k_74, k_75, k_100, k_1000, k_65537]
      simp (disch := first | with_reducible assumption | omega | trivial) only [↓bn_s1, ↓bd_s1, ↓ei_l1, ↓ei_r1, ↓bn_if, ↓ilt_1, ↓ilt_0, ↓ieq_1, ↓ieq_0, bn_s1, bd_s1, ei_l1, ei_r1, J_add, J_sub, J_mul, J_neg, J_lt, J_le, J_eq, dv_J, rm_J, if_pos, if_neg, ↓reduceIte, bitJ, shlJ, orJ, j_0, j_1, j_2, j_3, j_4, j_5, j_6, j_7, j_8, j_9, j_10, j_11, j_12, j_13, j_14, j_15, j_16, j_17, j_18, j_19, j_20, j_21, j_22, j_23, j_24, j_25, j_26, j_27, j_28, j_29, j_30, j_31, j_32, j_33, j_34, j_35, j_36, j_37, j_38, j_39, j_40, j_41, j_42, j_43, j_44, j_45, j_46, j_47, j_48, j_49, j_50, j_51, j_52, j_57, j_59, j_63, j_74, j_75, j_93, j_97, j_99, j_100, j_122, j_200, j_255, j_300, j_465, j_496, j_900, j_999, j_1000, j_65536, j_65537, j_99999, j_252645135, j_858993459, j_1431655765, k_0, k_1, k_27, k_32, k_74, k_75, k_100, k_1000, k_65537, ↓bd_e (e1), e1, ↓bd_e (e2), e2]
  · rw [if_neg c]
    obtain ⟨g1, e1, f1⟩ := z.2 c
    clear z
    replace e1 : F_rd_takeWord 2 1000015 h = some (J 0, g1) := e1
    refine CO_r (h' := g1) ?_ (cf_fl hu f1) f1.2
    try simp only [j_0, j_1, j_2, j_3, j_4, j_5, j_6, j_7, j_8, j_9, j_10, j_11, j_12, j_13, j_14, j_15, j_16, j_17, j_18, j_19, j_20, j_21, j_22, j_23, j_24, j_25, j_26, j_27, j_28, j_29, j_30, j_31, j_32, j_33, j_34, j_35, j_36, j_37, j_38, j_39, j_40, j_41, j_42, j_43, j_44, j_45, j_46, j_47, j_48, j_49, j_50, j_51, j_52, j_57, j_59, j_63, j_74, j_75, j_93, j_97, j_99, j_100, j_122, j_200, j_255, j_300, j_465, j_496, j_900, j_999, j_1000, j_65536, j_65537, j_99999, j_252645135, j_858993459, j_1431655765, k_0, k_1, k_27, k_32, k_74, k_75, k_100, k_1000, k_65537]
    simp (disch := first | with_reducible assumption | omega | trivial) only [↓bn_s1, ↓bd_s1, ↓ei_l1, ↓ei_r1, ↓bn_if, ↓ilt_1, ↓ilt_0, ↓ieq_1, ↓ieq_0, bn_s1, bd_s1, ei_l1, ei_r1, J_add, J_sub, J_mul, J_neg, J_lt, J_le, J_eq, dv_J, rm_J, if_pos, if_neg, ↓reduceIte, bitJ, shlJ, orJ, j_0, j_1, j_2, j_3, j_4, j_5, j_6, j_7, j_8, j_9, j_10, j_11, j_12, j_13, j_14, j_15, j_16, j_17, j_18, j_19, j_20, j_21, j_22, j_23, j_24, j_25, j_26, j_27, j_28, j_29, j_30, j_31, j_32, j_33, j_34, j_35, j_36, j_37, j_38, j_39, j_40, j_41, j_42, j_43, j_44, j_45, j_46, j_47, j_48, j_49, j_50, j_51, j_52, j_57, j_59, j_63, j_74, j_75, j_93, j_97, j_99, j_100, j_122, j_200, j_255, j_300, j_465, j_496, j_900, j_999, j_1000, j_65536, j_65537, j_99999, j_252645135, j_858993459, j_1431655765, k_0, k_1, k_27, k_32, k_74, k_75, k_100, k_1000, k_65537, ↓bd_e (e1), e1]
theorem NB_11 {L : Lk} (lw : LW L) (B : NB L) (c : L 1 0 < 5 ∨ L 3 0 < 3 ∨ L 4 0 < 3) : L 8 0 < 11 := by
  have a := LW_h lw
  have b := LW_g lw
  have d := LW_d lw
  have e := B.1
  omega
theorem C_hou {L : Lk} {u : Nat} {T : Int → Int} {n p : Nat} {h : Hp} (hp : p ≤ n) (C : CP L u T n h) (NBL : NB L) (h1 : L 1 0 < 5) (H : CT T n p h) : CO (a_hou L T n p) u T n (F_rd_readHouse 2 h) h := by
  have hu := C.2.2.2.1
  have lw := CP_lw C
  have lh := LW_h lw
  unfold F_rd_readHouse a_hou
  rw [ck_e (DS_k (CP_d C)), bn_e (CP_gu C), bn_e (ti_1 C.2.1 (CP_t C))]
  refine S_new (s := 0) C hp H (NB_11 lw NBL (Or.inl h1)) (by decide) (by omega) (by omega) (fun _ _ g1 C1 c1 p1b => ?_)
  obtain ⟨p1, hp1⟩ : ∃ p1, p1 = tnx T n p := ⟨_, rfl⟩
  rw [← hp1] at c1 p1b ⊢
  unfold a_hou2 a_hou3
  obtain ⟨g, hg⟩ : ∃ g, g = L 1 0 := ⟨_, rfl⟩
  have hg1 : g = nml L T n p 0 (L 1 0) 1 0 := by rw [hg, nml_o (by omega)]
  obtain ⟨L1, hL1⟩ : ∃ L1, L1 = nml L T n p 0 (L 1 0) := ⟨_, rfl⟩
  rw [← hL1] at C1 hg1 ⊢
  rw [← hg]
  have D1 := CP_d C1
  have T1 := C1.2.1
  have e10 : F_tk_isWord 3 1000013 g1 = some (J (if isW T n p1 10 = true then 1 else 0)) := C_isW (k := 10) C1.1.1 C1.1.2.1 C1.1.2.2.1 p1b c1 (by omega)
  have e11 : F_tk_isWord 3 1000014 g1 = some (J (if isW T n p1 11 = true then 1 else 0)) := C_isW (k := 11) C1.1.1 C1.1.2.1 C1.1.2.2.1 p1b c1 (by omega)
  obtain ⟨m, m1, m2⟩ := C1.2.2.2.2.2.2.2.1
  obtain ⟨k', k1, k2, k3⟩ := (CP_t C1).2.1
  have mk : m = k' := by have := m1.symm.trans k1; omega
  rw [← mk] at k2 k3
  clear k1 mk
  have lt : m.testBit (L1 1 0).toNat = false := Nat.testBit_lt_two_pow m2
  rw [bn_e (d_r2 D1), bn_e e10]
  by_cases wn : isW T n p1 10 = true
  · rw [if_pos wn, if_pos wn, if_neg (show ¬ J 1 = (0 : Int32) by decide), bn_e (CP_gu C1), bn_e (show gI g1 u 10 2 = some (J m) by rw [gI_J (TS_k T1), m1])]
    have g5 : (g.toNat) < 5 := by omega
    have p5 : (2 : Nat) ^ g.toNat < 32 := Nat.pow_lt_pow_right (by omega) g5
    obtain ⟨w, hw⟩ : ∃ w : Nat, w = m ||| 2 ^ g.toNat := ⟨_, rfl⟩
    have w5 : w < 32 := by rw [hw]; exact Nat.or_lt_two_pow (n := 5) k2 p5
    have ew : J m ||| ((1 : Int32) <<< (J g &&& 31)) = J w := by
      have sh := shlJ g5
      rw [show ((g.toNat : Nat) : Int) = g by omega] at sh
      rw [j_1, j_31, sh, orJ k2 p5, hw]
    obtain ⟨g2, r2⟩ : ∃ y, y = wF g1 u 2 w := ⟨_, rfl⟩
    have f2 : Fm u (u + 18) g1 g2 := by rw [r2]; exact fm_wF (by omega) (by omega)
    have s2 : pI g1 u 10 2 (J w) = some g2 := by rw [r2]; exact pI_J (TS_k T1)
    have fo : ∀ a j, (a ≠ u ∨ j ≠ 2) → fi g2 a j = fi g1 a j := fun a j ha => by rw [r2, fi_ne ha]
    have v2 : fi g2 u 2 = w := by rw [r2]; exact fi_same (by omega) (by omega)
    have hor : ∀ i : Nat, w.testBit i = (m.testBit i || decide (g.toNat = i)) := fun i => by rw [hw, Nat.testBit_or, two_b]
    have Q2 : CQ L1 w u T n g2 := by
      obtain ⟨a1, a2, a3, a4, a5, a6, a7, _, a9, a10⟩ := C1
      refine ⟨KB_fm f2 (by omega) (by omega) a1, TS_fm f2 a2, by rw [fm_fR f2]; exact a3, a4, a5, a6, ?_, v2, ⟨?_, ?_, fun i i0 i1 => ?_⟩, a10⟩
      · obtain ⟨b1, _, b3⟩ := a7
        refine ⟨?_, ⟨w, v2, w5, fun i hi => ?_⟩, ?_⟩
        · simp (disch := omega) only [fo]
          exact b1
        · rw [hor, decide_eq_false (show ¬ g.toNat = i by omega), Bool.or_false]
          exact k3 i hi
        · rw [r2]
          exact b3
      · rw [fo _ _ (by omega)]; exact a9.1
      · rw [fo _ _ (by omega)]; exact a9.2.1
      · rw [r2]; exact a9.2.2 i i0 i1
    rw [ew, bn_e s2, bn_s1, ei_l1]
    have D2 := Q2.1.2.2.2
    obtain ⟨g3, e3, s3, _, c3, _⟩ := C_ad Q2.1 p1b (CT_fm f2 (by omega) c1)
    rw [bn_e (d_r2 D2), bn_e e3]
    refine CO_tr (cf_tr (cf_fm f2 (by omega) (by omega) (by omega)) (cf_sf hu s3)) (by rw [s3.2 0 (by omega), fm_fi f2 (by omega)]) (by rw [s3.2 1 (by omega), fm_fi f2 (by omega)]) ?_
    refine C_hou3 (tln_b T n p1 p1b).1 (CQ_sf s3 Q2) hg1 (by omega) c3 (Or.inl rfl) ?_ (fun i hi => ?_) ?_
    · rw [hw]
      refine Nat.or_lt_two_pow ?_ ?_
      · exact Nat.lt_trans m2 (Nat.pow_lt_pow_right (by omega) (by omega))
      · exact Nat.pow_lt_pow_right (by omega) (by omega)
    · rw [hor, decide_eq_false (show ¬ g.toNat = i by omega), Bool.or_false]
      exact k3 i hi
    · rw [hor, decide_eq_true (show g.toNat = (L1 1 0).toNat by rw [hg1]), Bool.or_true]
      rfl
  · rw [if_neg wn, if_neg wn, if_pos (show J 0 = (0 : Int32) by decide), bn_e (d_r2 D1), bn_e e11]
    by_cases ws : isW T n p1 11 = true
    · rw [if_pos ws, if_pos ws, if_neg (show ¬ J 1 = (0 : Int32) by decide), bn_s1, ei_l1]
      obtain ⟨g3, e3, s3, _, c3, _⟩ := C_ad C1.1 p1b c1
      rw [bn_e (d_r2 D1), bn_e e3]
      refine CO_tr (cf_sf hu s3) (s3.2 0 (by omega)) (s3.2 1 (by omega)) ?_
      have Q1 : CQ L1 m u T n g1 := by
        obtain ⟨a1, a2, a3, a4, a5, a6, a7, _, a9, a10⟩ := C1
        exact ⟨a1, a2, a3, a4, a5, a6, a7, m1, a9, a10⟩
      refine C_hou3 (tln_b T n p1 p1b).1 (CQ_sf s3 Q1) hg1 (by omega) c3 (Or.inr rfl) ?_ (fun i hi => k3 i hi) ?_
      · exact Nat.lt_trans m2 (Nat.pow_lt_pow_right (by omega) (by omega))
      · rw [lt]; rfl
    · rw [if_neg ws, if_neg ws, if_pos (show J 0 = (0 : Int32) by decide)]
      obtain ⟨g2, e2, q2⟩ := C_fail (x := 1) C1.1 p1b c1 (by omega)
      refine CO_r (h' := g2) ?_ (cf_fl hu q2) q2.2
      have rv := rvb0
      try simp only [j_0, j_1, j_2, j_3, j_4, j_5, j_6, j_7, j_8, j_9, j_10, j_11, j_12, j_13, j_14, j_15, j_16, j_17, j_18, j_19, j_20, j_21, j_22, j_23, j_24, j_25, j_26, j_27, j_28, j_29, j_30, j_31, j_32, j_33, j_34, j_35, j_36, j_37, j_38, j_39, j_40, j_41, j_42, j_43, j_44, j_45, j_46, j_47, j_48, j_49, j_50, j_51, j_52, j_57, j_59, j_63, j_74, j_75, j_93, j_97, j_99, j_100, j_122, j_200, j_255, j_300, j_465, j_496, j_900, j_999, j_1000, j_65536, j_65537, j_99999, j_252645135, j_858993459, j_1431655765, k_0, k_1, k_27, k_32, k_74, k_75, k_100, k_1000, k_65537]
      simp (disch := first | with_reducible assumption | omega | trivial) only [↓bn_s1, ↓bd_s1, ↓ei_l1, ↓ei_r1, ↓bn_if, ↓ilt_1, ↓ilt_0, ↓ieq_1, ↓ieq_0, bn_s1, bd_s1, ei_l1, ei_r1, J_add, J_sub, J_mul, J_neg, J_lt, J_le, J_eq, dv_J, rm_J, if_pos, if_neg, ↓reduceIte, bitJ, shlJ, orJ, j_0, j_1, j_2, j_3, j_4, j_5, j_6, j_7, j_8, j_9, j_10, j_11, j_12, j_13, j_14, j_15, j_16, j_17, j_18, j_19, j_20, j_21, j_22, j_23, j_24, j_25, j_26, j_27, j_28, j_29, j_30, j_31, j_32, j_33, j_34, j_35, j_36, j_37, j_38, j_39, j_40, j_41, j_42, j_43, j_44, j_45, j_46, j_47, j_48, j_49, j_50, j_51, j_52, j_57, j_59, j_63, j_74, j_75, j_93, j_97, j_99, j_100, j_122, j_200, j_255, j_300, j_465, j_496, j_900, j_999, j_1000, j_65536, j_65537, j_99999, j_252645135, j_858993459, j_1431655765, k_0, k_1, k_27, k_32, k_74, k_75, k_100, k_1000, k_65537, ↓bd_e (e2), e2]
theorem D_hou {L : Lk} {b : Nat} {T : Int → Int} {n p : Nat} {h : Hp} (hp : p ≤ n) (C : DP L b T n h) (NBL : NB L) (H : DT T n p h) (h0 : tso T n p = 0) : DO (if bgf L (L 1 0) 5 = 0 then a_hou L T n (tnx T n p) else .inr (bgf L (L 1 0) 5, (spn T n p : Nat))) b T n (F_md_readHouse 88 h) h := by
  have hb := C.1.2.2.2.2.2
  have lw := C.2.1
  have lh := LW_h lw
  have N := C.1.2.2.2.1
  have c0 := C.2.2.2.2.2
  have gc : gI h b 12 1 = some (J (L 1 0)) := by rw [gI_J (YS_k C.1.2.2.1), C.2.2.1.1.2.1]; rfl
  unfold F_md_readHouse
  rw [ck_e (MS_k C.1.1.1), bn_e (dl_r C.1), bn_e gc]
  refine Sd_beg (m := 5) C hp H h0 rfl (by decide) (by omega) (by omega) (fun z => by have := c0 z 1 (by omega); omega) (fun g B o => ?_) (fun t31 cm g1 C1 c1 p1b => ?_)
  · have M := B.1.1
    try simp only [j_0, j_1, j_2, j_3, j_4, j_5, j_6, j_7, j_8, j_9, j_10, j_11, j_12, j_13, j_14, j_15, j_16, j_17, j_18, j_19, j_20, j_21, j_22, j_23, j_24, j_25, j_26, j_27, j_28, j_29, j_30, j_31, j_32, j_33, j_34, j_35, j_36, j_37, j_38, j_39, j_40, j_41, j_42, j_43, j_44, j_45, j_46, j_47, j_48, j_49, j_50, j_51, j_52, j_57, j_59, j_63, j_74, j_75, j_93, j_97, j_99, j_100, j_122, j_200, j_255, j_300, j_465, j_496, j_900, j_999, j_1000, j_65536, j_65537, j_99999, j_252645135, j_858993459, j_1431655765, k_0, k_1, k_27, k_32, k_74, k_75, k_100, k_1000, k_65537]
    simp (disch := first | with_reducible assumption | omega | trivial) only [↓bn_s1, ↓bd_s1, ↓ei_l1, ↓ei_r1, ↓bn_if, ↓ilt_1, ↓ilt_0, ↓ieq_1, ↓ieq_0, bn_s1, bd_s1, ei_l1, ei_r1, J_add, J_sub, J_mul, J_neg, J_lt, J_le, J_eq, dv_J, rm_J, if_pos, if_neg, ↓reduceIte, bitJ, shlJ, orJ, j_0, j_1, j_2, j_3, j_4, j_5, j_6, j_7, j_8, j_9, j_10, j_11, j_12, j_13, j_14, j_15, j_16, j_17, j_18, j_19, j_20, j_21, j_22, j_23, j_24, j_25, j_26, j_27, j_28, j_29, j_30, j_31, j_32, j_33, j_34, j_35, j_36, j_37, j_38, j_39, j_40, j_41, j_42, j_43, j_44, j_45, j_46, j_47, j_48, j_49, j_50, j_51, j_52, j_57, j_59, j_63, j_74, j_75, j_93, j_97, j_99, j_100, j_122, j_200, j_255, j_300, j_465, j_496, j_900, j_999, j_1000, j_65536, j_65537, j_99999, j_252645135, j_858993459, j_1431655765, k_0, k_1, k_27, k_32, k_74, k_75, k_100, k_1000, k_65537, ↓bd_e ((D_rf5 B o)), (D_rf5 B o), ↓bn_e ((D_isW5 (w := 1000013) M o)), (D_isW5 (w := 1000013) M o), ↓bn_e ((D_isW5 (w := 1000014) M o)), (D_isW5 (w := 1000014) M o), ↓bn_e ((D_flaw5 (x := J 1) M o)), (D_flaw5 (x := J 1) M o), ↓bn_e ((D_go5 M o)), (D_go5 M o), ↓bd_e ((D_part5 (w := 1000015) (lo := J 0) (hi := J 99) M o)), (D_part5 (w := 1000015) (lo := J 0) (hi := J 99) M o), m_i M, ↓m_i_b M, m_p M, ↓m_p_b M, m_l M, ↓m_l_b M, m_pl M, ↓m_pl_b M, mr_15 M, ↓mr_15_b M, mr_16 M, ↓mr_16_b M, mr_17 M, ↓mr_17_b M, mr_18 M, ↓mr_18_b M, mr_21 M, ↓mr_21_b M, mr_22 M, ↓mr_22_b M, mr_23 M, ↓mr_23_b M, mr_24 M, ↓mr_24_b M, mr_25 M, ↓mr_25_b M, mr_30 M, ↓mr_30_b M, mr_31 M, ↓mr_31_b M, m90a M, ↓m90a_b M, m90s M, ↓m90s_b M, m91a M, ↓m91a_b M, m91s M, ↓m91s_b M, m92a M, ↓m92a_b M, m92s M, ↓m92s_b M, m93a M, ↓m93a_b M, m93s M, ↓m93s_b M, m94a M, ↓m94a_b M, m94s M, ↓m94s_b M, m95a M, ↓m95a_b M, m95s M, ↓m95s_b M, m96a M, ↓m96a_b M, m96s M, ↓m96s_b M, m97a M, ↓m97a_b M, m97s M, ↓m97s_b M, m98a M, ↓m98a_b M, m98s M, ↓m98s_b M, m99a M, ↓m99a_b M, m99s M, ↓m99s_b M, m100a M, ↓m100a_b M, m100s M, ↓m100s_b M, o]
  have h1 : L 1 0 < 5 := by omega
  obtain ⟨p1, hp1⟩ : ∃ p1, p1 = tnx T n p := ⟨_, rfl⟩
  rw [← hp1] at c1 p1b ⊢
  unfold a_hou
  refine Sd_rf C1 p1b c1 (fun x g B o => ?_) (fun f0 t0 g2 C2 c2 p2b => ?_)
  · have M := B.1.1
    try simp only [j_0, j_1, j_2, j_3, j_4, j_5, j_6, j_7, j_8, j_9, j_10, j_11, j_12, j_13, j_14, j_15, j_16, j_17, j_18, j_19, j_20, j_21, j_22, j_23, j_24, j_25, j_26, j_27, j_28, j_29, j_30, j_31, j_32, j_33, j_34, j_35, j_36, j_37, j_38, j_39, j_40, j_41, j_42, j_43, j_44, j_45, j_46, j_47, j_48, j_49, j_50, j_51, j_52, j_57, j_59, j_63, j_74, j_75, j_93, j_97, j_99, j_100, j_122, j_200, j_255, j_300, j_465, j_496, j_900, j_999, j_1000, j_65536, j_65537, j_99999, j_252645135, j_858993459, j_1431655765, k_0, k_1, k_27, k_32, k_74, k_75, k_100, k_1000, k_65537]
    simp (disch := first | with_reducible assumption | omega | trivial) only [↓bn_s1, ↓bd_s1, ↓ei_l1, ↓ei_r1, ↓bn_if, ↓ilt_1, ↓ilt_0, ↓ieq_1, ↓ieq_0, bn_s1, bd_s1, ei_l1, ei_r1, J_add, J_sub, J_mul, J_neg, J_lt, J_le, J_eq, dv_J, rm_J, if_pos, if_neg, ↓reduceIte, bitJ, shlJ, orJ, j_0, j_1, j_2, j_3, j_4, j_5, j_6, j_7, j_8, j_9, j_10, j_11, j_12, j_13, j_14, j_15, j_16, j_17, j_18, j_19, j_20, j_21, j_22, j_23, j_24, j_25, j_26, j_27, j_28, j_29, j_30, j_31, j_32, j_33, j_34, j_35, j_36, j_37, j_38, j_39, j_40, j_41, j_42, j_43, j_44, j_45, j_46, j_47, j_48, j_49, j_50, j_51, j_52, j_57, j_59, j_63, j_74, j_75, j_93, j_97, j_99, j_100, j_122, j_200, j_255, j_300, j_465, j_496, j_900, j_999, j_1000, j_65536, j_65537, j_99999, j_252645135, j_858993459, j_1431655765, k_0, k_1, k_27, k_32, k_74, k_75, k_100, k_1000, k_65537, ↓bn_e ((D_isW5 (w := 1000013) M o)), (D_isW5 (w := 1000013) M o), ↓bn_e ((D_isW5 (w := 1000014) M o)), (D_isW5 (w := 1000014) M o), ↓bn_e ((D_flaw5 (x := J 1) M o)), (D_flaw5 (x := J 1) M o), ↓bn_e ((D_go5 M o)), (D_go5 M o), ↓bd_e ((D_part5 (w := 1000015) (lo := J 0) (hi := J 99) M o)), (D_part5 (w := 1000015) (lo := J 0) (hi := J 99) M o), m_i M, ↓m_i_b M, m_p M, ↓m_p_b M, m_l M, ↓m_l_b M, m_pl M, ↓m_pl_b M, mr_15 M, ↓mr_15_b M, mr_16 M, ↓mr_16_b M, mr_17 M, ↓mr_17_b M, mr_18 M, ↓mr_18_b M, mr_21 M, ↓mr_21_b M, mr_22 M, ↓mr_22_b M, mr_23 M, ↓mr_23_b M, mr_24 M, ↓mr_24_b M, mr_25 M, ↓mr_25_b M, mr_30 M, ↓mr_30_b M, mr_31 M, ↓mr_31_b M, m90a M, ↓m90a_b M, m90s M, ↓m90s_b M, m91a M, ↓m91a_b M, m91s M, ↓m91s_b M, m92a M, ↓m92a_b M, m92s M, ↓m92s_b M, m93a M, ↓m93a_b M, m93s M, ↓m93s_b M, m94a M, ↓m94a_b M, m94s M, ↓m94s_b M, m95a M, ↓m95a_b M, m95s M, ↓m95s_b M, m96a M, ↓m96a_b M, m96s M, ↓m96s_b M, m97a M, ↓m97a_b M, m97s M, ↓m97s_b M, m98a M, ↓m98a_b M, m98s M, ↓m98s_b M, m99a M, ↓m99a_b M, m99s M, ↓m99s_b M, m100a M, ↓m100a_b M, m100s M, ↓m100s_b M, o]
  obtain ⟨p2, hp2⟩ : ∃ p2, p2 = tnx T n p1 := ⟨_, rfl⟩
  rw [← hp2] at c2 p2b ⊢
  have M2 := C2.1.1.1
  have e10 : F_md_isWord 88 1000013 g2 = some (J (if isW T n p2 10 = true then 1 else 0)) := D_isW (k := 10) M2 C2.1.1.2.2 p2b c2 (by omega)
  have e11 : F_md_isWord 88 1000014 g2 = some (J (if isW T n p2 11 = true then 1 else 0)) := D_isW (k := 11) M2 C2.1.1.2.2 p2b c2 (by omega)
  have key : ∀ (sd : Int) (ss : Int32), ss = J sd → (sd = 0 ∨ sd = 1) → tso T n p2 ≠ 4 → DO (a_hou3 L T n p1 (tnx T n p2) sd) b T n (bn (F_md_goesOn 88 g2) fun h20 => bd (F_md_readPart 88 1000015 (0 : Int32) (99 : Int32) h20) fun x22 h23 => bn (gI h23 88 13 9) fun x24 => if x24 = (5 : Int32) then some h23 else bn (gR h23 88 13 4) fun x26 => bn (gI h23 x26 12 1) fun x28 => bn (F_md_names 88 (K (t32 T n p1)) (0 : Int32) x28 h23) fun h31 => bn (gR h31 88 13 4) fun x32 => bn (gR h31 x32 12 9) fun x34 => bn (gR h31 88 13 4) fun x36 => bn (gI h31 x36 12 1) fun x38 => bn (sI h31 100 x34 x38 ss) fun h40 => bn (gR h40 88 13 4) fun x42 => bn (gR h40 x42 12 10) fun x44 => bn (gR h40 88 13 4) fun x46 => bn (gI h40 x46 12 1) fun x48 => bn (sI h40 100 x44 x48 x22) fun h50 => bn (gR h50 88 13 4) fun x52 => bn (gI h50 x52 12 1) fun x54 => bn (pI h50 x52 12 1 (x54 + (1 : Int32))) fun h56 => some h56) g2 := by
    intro sd ss es hsd t4
    refine Sd_go C2 p2b c2 t4 (fun g3 C3 c3 p3b => ?_)
    obtain ⟨p3, hp3⟩ : ∃ p3, p3 = tnx T n p2 := ⟨_, rfl⟩
    rw [← hp3] at c3 p3b ⊢
    unfold a_hou3
    refine Sd_pt (k := 12) (lo := 0) (hi := 99) C3 p3b c3 (by omega) rfl (by decide) (by decide) (by omega) (by omega) (fun g B o => ?_) (fun t1 t2 p4b g4 C4 c4 p5b => ?_)
    · have M := B.1.1
      try simp only [j_0, j_1, j_2, j_3, j_4, j_5, j_6, j_7, j_8, j_9, j_10, j_11, j_12, j_13, j_14, j_15, j_16, j_17, j_18, j_19, j_20, j_21, j_22, j_23, j_24, j_25, j_26, j_27, j_28, j_29, j_30, j_31, j_32, j_33, j_34, j_35, j_36, j_37, j_38, j_39, j_40, j_41, j_42, j_43, j_44, j_45, j_46, j_47, j_48, j_49, j_50, j_51, j_52, j_57, j_59, j_63, j_74, j_75, j_93, j_97, j_99, j_100, j_122, j_200, j_255, j_300, j_465, j_496, j_900, j_999, j_1000, j_65536, j_65537, j_99999, j_252645135, j_858993459, j_1431655765, k_0, k_1, k_27, k_32, k_74, k_75, k_100, k_1000, k_65537]
      simp (disch := first | with_reducible assumption | omega | trivial) only [↓bn_s1, ↓bd_s1, ↓ei_l1, ↓ei_r1, ↓bn_if, ↓ilt_1, ↓ilt_0, ↓ieq_1, ↓ieq_0, bn_s1, bd_s1, ei_l1, ei_r1, J_add, J_sub, J_mul, J_neg, J_lt, J_le, J_eq, dv_J, rm_J, if_pos, if_neg, ↓reduceIte, bitJ, shlJ, orJ, j_0, j_1, j_2, j_3, j_4, j_5, j_6, j_7, j_8, j_9, j_10, j_11, j_12, j_13, j_14, j_15, j_16, j_17, j_18, j_19, j_20, j_21, j_22, j_23, j_24, j_25, j_26, j_27, j_28, j_29, j_30, j_31, j_32, j_33, j_34, j_35, j_36, j_37, j_38, j_39, j_40, j_41, j_42, j_43, j_44, j_45, j_46, j_47, j_48, j_49, j_50, j_51, j_52, j_57, j_59, j_63, j_74, j_75, j_93, j_97, j_99, j_100, j_122, j_200, j_255, j_300, j_465, j_496, j_900, j_999, j_1000, j_65536, j_65537, j_99999, j_252645135, j_858993459, j_1431655765, k_0, k_1, k_27, k_32, k_74, k_75, k_100, k_1000, k_65537, m_i M, ↓m_i_b M, m_p M, ↓m_p_b M, m_l M, ↓m_l_b M, m_pl M, ↓m_pl_b M, mr_15 M, ↓mr_15_b M, mr_16 M, ↓mr_16_b M, mr_17 M, ↓mr_17_b M, mr_18 M, ↓mr_18_b M, mr_21 M, ↓mr_21_b M, mr_22 M, ↓mr_22_b M, mr_23 M, ↓mr_23_b M, mr_24 M, ↓mr_24_b M, mr_25 M, ↓mr_25_b M, mr_30 M, ↓mr_30_b M, mr_31 M, ↓mr_31_b M, m90a M, ↓m90a_b M, m90s M, ↓m90s_b M, m91a M, ↓m91a_b M, m91s M, ↓m91s_b M, m92a M, ↓m92a_b M, m92s M, ↓m92s_b M, m93a M, ↓m93a_b M, m93s M, ↓m93s_b M, m94a M, ↓m94a_b M, m94s M, ↓m94s_b M, m95a M, ↓m95a_b M, m95s M, ↓m95s_b M, m96a M, ↓m96a_b M, m96s M, ↓m96s_b M, m97a M, ↓m97a_b M, m97s M, ↓m97s_b M, m98a M, ↓m98a_b M, m98s M, ↓m98s_b M, m99a M, ↓m99a_b M, m99s M, ↓m99s_b M, m100a M, ↓m100a_b M, m100s M, ↓m100s_b M, o]
    obtain ⟨q, hq⟩ : ∃ q, q = tnm T n (tnx T n p3) := ⟨_, rfl⟩
    rw [← hq] at t1 t2 ⊢
    have q4 : fi g4 88 9 = rso (tso T n (tnx T n (tnx T n p3))) := c4.2.2.1
    have rb4 := rso_b T n _ p5b
    have M4 := C4.1.1.1
    have r4 := dl_r C4.1
    have i4 : gI g4 b 12 1 = some (J (L 1 0)) := by rw [gI_J (YS_k C4.1.2.2.1), C4.2.2.1.1.2.1]; rfl
    obtain ⟨g5, e5, f5, C5⟩ := D_nms (s := 0) (v := L 1 0) C4 p1b t0 (NB_11 lw NBL (Or.inl h1)) (by omega) (by omega) rfl rfl
    obtain ⟨g, hg⟩ : ∃ g, g = nml L T n p1 0 (L 1 0) 1 0 := ⟨_, rfl⟩
    have hg0 : g = L 1 0 := by rw [hg, nml_o (by omega)]
    have l31 : nml L T n p1 0 (L 1 0) 31 0 = L 31 0 := nml_o (by omega) 0
    obtain ⟨L1, hL1⟩ : ∃ L1, L1 = nml L T n p1 0 (L 1 0) := ⟨_, rfl⟩
    rw [← hL1] at C5 hg l31 ⊢
    have D5 : Dfr b g4 g5 := df_b hb.1 f5 (by omega) (by omega)
    rw [es]
    have Nz := C5.1.2.2.2.1
    have Mz := C5.1.1.1
    have Yz := C5.1.2.2.1
    have Rz := C5.2.2.1
    have uz0 := dl_r C5.1
    have vz0 : fi g5 b 1 = g := by rw [Rz.1.2.1, hg]; rfl
    have iz0 : gI g5 b 12 1 = some (J g) := by rw [gI_J (YS_k Yz), vz0]
    have tz0 : gR g5 b 12 9 = some (b + 1) := gR_e (YS_k Yz) (YS_r9 Yz)
    have nz0 := YS_n9 Yz
    obtain ⟨z1, rz0⟩ : ∃ y, y = wA g5 (b + 1) g sd := ⟨_, rfl⟩
    have fz0 : Fm b (b + 19) g5 z1 := by rw [rz0]; exact fm_wA (by omega) (by omega)
    have sz0 : sI g5 100 (b + 1) (J g) (J sd) = some z1 := by rw [rz0]; exact sI_J (YS_k9 Yz) (by omega) (by omega) (by omega) (by omega)
    have Yz0 := YS_fm fz0 Yz
    have Mz0 := MS_fm fz0 Mz
    have uz1 : gR z1 88 13 4 = some b := gR_e (MS_k Mz0) (by rw [fm_fR fz0]; exact C5.1.2.1)
    have vz1 : fi z1 b 1 = g := by rw [rz0]; exact vz0
    have iz1 : gI z1 b 12 1 = some (J g) := by rw [gI_J (YS_k Yz0), vz1]
    have tz1 : gR z1 b 12 10 = some (b + 2) := gR_e (YS_k Yz0) (YS_r10 Yz0)
    have nz1 := YS_n10 Yz0
    obtain ⟨z2, rz1⟩ : ∃ y, y = wA z1 (b + 2) g q := ⟨_, rfl⟩
    have fz1 : Fm b (b + 19) z1 z2 := by rw [rz1]; exact fm_wA (by omega) (by omega)
    have sz1 : sI z1 100 (b + 2) (J g) (J q) = some z2 := by rw [rz1]; exact sI_J (YS_k10 Yz0) (by omega) (by omega) (by omega) (by omega)
    have Yz1 := YS_fm fz1 Yz0
    have Mz1 := MS_fm fz1 Mz0
    have uz2 : gR z2 88 13 4 = some b := gR_e (MS_k Mz1) (by rw [fm_fR fz1, fm_fR fz0]; exact C5.1.2.1)
    have vz2 : fi z2 b 1 = g := by rw [rz1]; exact vz1
    have iz2 : gI z2 b 12 1 = some (J g) := by rw [gI_J (YS_k Yz1), vz2]
    obtain ⟨ze, rze⟩ : ∃ y, y = wF z2 b 1 (g + 1) := ⟨_, rfl⟩
    have fze : Fm b (b + 19) z2 ze := by rw [rze]; exact fm_wF (by omega) (by omega)
    have sze : pI z2 b 12 1 (J (g + 1)) = some ze := by rw [rze]; exact pI_J (YS_k Yz1)
    have Fz : Fm b (b + 19) g5 ze := (fm_tr fz0 (fm_tr fz1 fze))
    refine DO_l p5b (h' := ze) ?_ (df_tr D5 (df_b hb.1 Fz (by omega) (by omega))) ?_ (DT_fm Fz (by omega) (DT_fm f5 (by omega) c4)) ((fm_fi Fz (by omega) 12).trans (fm_fi f5 (by omega) 12))
    · try simp only [j_0, j_1, j_2, j_3, j_4, j_5, j_6, j_7, j_8, j_9, j_10, j_11, j_12, j_13, j_14, j_15, j_16, j_17, j_18, j_19, j_20, j_21, j_22, j_23, j_24, j_25, j_26, j_27, j_28, j_29, j_30, j_31, j_32, j_33, j_34, j_35, j_36, j_37, j_38, j_39, j_40, j_41, j_42, j_43, j_44, j_45, j_46, j_47, j_48, j_49, j_50, j_51, j_52, j_57, j_59, j_63, j_74, j_75, j_93, j_97, j_99, j_100, j_122, j_200, j_255, j_300, j_465, j_496, j_900, j_999, j_1000, j_65536, j_65537, j_99999, j_252645135, j_858993459, j_1431655765, k_0, k_1, k_27, k_32, k_74, k_75, k_100, k_1000, k_65537]
      simp (disch := first | with_reducible assumption | omega | trivial) only [↓bn_s1, ↓bd_s1, ↓ei_l1, ↓ei_r1, ↓bn_if, ↓ilt_1, ↓ilt_0, ↓ieq_1, ↓ieq_0, bn_s1, bd_s1, ei_l1, ei_r1, J_add, J_sub, J_mul, J_neg, J_lt, J_le, J_eq, dv_J, rm_J, if_pos, if_neg, ↓reduceIte, bitJ, shlJ, orJ, j_0, j_1, j_2, j_3, j_4, j_5, j_6, j_7, j_8, j_9, j_10, j_11, j_12, j_13, j_14, j_15, j_16, j_17, j_18, j_19, j_20, j_21, j_22, j_23, j_24, j_25, j_26, j_27, j_28, j_29, j_30, j_31, j_32, j_33, j_34, j_35, j_36, j_37, j_38, j_39, j_40, j_41, j_42, j_43, j_44, j_45, j_46, j_47, j_48, j_49, j_50, j_51, j_52, j_57, j_59, j_63, j_74, j_75, j_93, j_97, j_99, j_100, j_122, j_200, j_255, j_300, j_465, j_496, j_900, j_999, j_1000, j_65536, j_65537, j_99999, j_252645135, j_858993459, j_1431655765, k_0, k_1, k_27, k_32, k_74, k_75, k_100, k_1000, k_65537, m_i M4, ↓m_i_b M4, m_p M4, ↓m_p_b M4, m_l M4, ↓m_l_b M4, m_pl M4, ↓m_pl_b M4, mr_15 M4, ↓mr_15_b M4, mr_16 M4, ↓mr_16_b M4, mr_17 M4, ↓mr_17_b M4, mr_18 M4, ↓mr_18_b M4, mr_21 M4, ↓mr_21_b M4, mr_22 M4, ↓mr_22_b M4, mr_23 M4, ↓mr_23_b M4, mr_24 M4, ↓mr_24_b M4, mr_25 M4, ↓mr_25_b M4, mr_30 M4, ↓mr_30_b M4, mr_31 M4, ↓mr_31_b M4, m90a M4, ↓m90a_b M4, m90s M4, ↓m90s_b M4, m91a M4, ↓m91a_b M4, m91s M4, ↓m91s_b M4, m92a M4, ↓m92a_b M4, m92s M4, ↓m92s_b M4, m93a M4, ↓m93a_b M4, m93s M4, ↓m93s_b M4, m94a M4, ↓m94a_b M4, m94s M4, ↓m94s_b M4, m95a M4, ↓m95a_b M4, m95s M4, ↓m95s_b M4, m96a M4, ↓m96a_b M4, m96s M4, ↓m96s_b M4, m97a M4, ↓m97a_b M4, m97s M4, ↓m97s_b M4, m98a M4, ↓m98a_b M4, m98s M4, ↓m98s_b M4, m99a M4, ↓m99a_b M4, m99s M4, ↓m99s_b M4, m100a M4, ↓m100a_b M4, m100s M4, ↓m100s_b M4, q4, ↓bn_e (r4), r4, ↓bn_e (i4), i4, ↓bn_e (e5), e5, ↓bn_e (uz0), uz0, ↓bn_e (iz0), iz0, ↓bn_e (tz0), tz0, ↓bn_e (sz0), sz0, ↓bn_e (uz1), uz1, ↓bn_e (iz1), iz1, ↓bn_e (tz1), tz1, ↓bn_e (sz1), sz1, ↓bn_e (uz2), uz2, ↓bn_e (iz2), iz2, ↓bn_e (sze), sze]
    · have fo : ∀ a j, (a ≠ b ∨ j ≠ 1) → fi ze a j = fi g5 a j := fun a j ha => by rw [rze, fi_ne ha, rz1, rz0]; rfl
      have io : ∀ a, a ≠ b + 1 → a ≠ b + 2 → ∀ z, ia ze a z = ia g5 a z := fun a a0 a1 z => by
        rw [rze]
        show ia z2 a z = _
        rw [rz1, ia_wA a1, rz0, ia_wA a0]
      have j0 : ∀ z, 0 ≤ z → ia ze (b + 1) z = if z = g then sd else ia g5 (b + 1) z := fun z z0 => by
        rw [rze]
        show ia z2 (b + 1) z = _
        rw [rz1, ia_wA (by omega), rz0, ia_if (by omega) z0 (by omega) (by omega) (by omega)]
      have j1 : ∀ z, 0 ≤ z → ia ze (b + 2) z = if z = g then q else ia g5 (b + 2) z := fun z z0 => by
        rw [rze]
        show ia z2 (b + 2) z = _
        rw [rz1, ia_if (by omega) z0 (by omega) (by omega) (by omega), rz0, ia_wA (by omega)]
      refine DP_u Fz (fo b 8 (by omega)) C5 (LW_hou C5.2.1 (by omega) hsd ⟨t1, t2⟩) Nz ?_ ?_ (fun _ y => y) C5.2.2.2.2.1 (fun y => by have y' : L1 31 0 = 0 := y; omega)
      · obtain ⟨b1, b2, b3, b4, b5, b6, b7, b8, b9⟩ := Rz
        refine ⟨⟨?_, ?_, ?_, ?_, ?_, ?_, ?_, ?_⟩, ?_, ?_, ?_, ?_, ?_, ?_, ?_, ?_⟩
        · rw [fo _ _ (by omega)]; exact b1.1
        · rw [rze, fi_same (by omega) (by omega), hg]; rfl
        · rw [fo _ _ (by omega)]; exact b1.2.2.1
        · rw [fo _ _ (by omega)]; exact b1.2.2.2.1
        · rw [fo _ _ (by omega)]; exact b1.2.2.2.2.1
        · rw [fo _ _ (by omega)]; exact b1.2.2.2.2.2.1
        · rw [fo _ _ (by omega)]; exact b1.2.2.2.2.2.2.1
        · rw [fo _ _ (by omega)]; exact b1.2.2.2.2.2.2.2
        · intro i i0 i1
          replace i1 : i < L1 1 0 + 1 := i1
          rw [j0 i i0, j1 i i0]
          show _ = (if i = L1 1 0 then sd else L1 9 i) ∧ _ = (if i = L1 1 0 then q else L1 10 i)
          rw [← hg]
          by_cases e : i = g
          · rw [if_pos e, if_pos e, if_pos e, if_pos e]; exact ⟨rfl, rfl⟩
          · rw [if_neg e, if_neg e, if_neg e, if_neg e]; exact b2 i i0 (show i < L1 1 0 by omega)
        · simp (disch := omega) only [io]; exact b3
        · simp (disch := omega) only [io]; exact b4
        · simp (disch := omega) only [io]; exact b5
        · simp (disch := omega) only [io]; exact b6
        · simp (disch := omega) only [io]; exact b7
        · simp (disch := omega) only [io]; exact b8
        · simp (disch := omega) only [io]; exact b9
      · intro i hi
        obtain ⟨m, m1, m2, m3⟩ := C5.2.2.2.1 i hi
        exact ⟨m, m1, by rw [io _ (by omega) (by omega)]; exact m2, m3⟩
  unfold a_hou2
  rw [bn_e e10]
  by_cases wn : isW T n p2 10 = true
  · rw [if_pos wn, if_pos wn, if_neg (show ¬ J 1 = (0 : Int32) by decide), bn_s1, if_neg (show ¬ (0 : Int32) = (-1 : Int32) by decide), bn_s1]
    exact key 0 0 (by decide) (Or.inl rfl) (tl0 wn)
  · rw [if_neg wn, if_neg wn, if_pos (show J 0 = (0 : Int32) by decide), bn_e e11]
    by_cases ws : isW T n p2 11 = true
    · rw [if_pos ws, if_pos ws, if_neg (show ¬ J 1 = (0 : Int32) by decide), bn_s1, if_neg (show ¬ (1 : Int32) = (-1 : Int32) by decide), bn_s1]
      exact key 1 1 (by decide) (Or.inr rfl) (tl0 ws)
    · rw [if_neg ws, if_neg ws, if_pos (show J 0 = (0 : Int32) by decide), bn_s1, if_pos (show (-1 : Int32) = (-1 : Int32) from rfl)]
      obtain ⟨g3, e3, x3⟩ := D_flaw (x := 1) C2.1.1 p2b c2 (by omega)
      have M := MS_fm x3.1 M2
      have o := x3.2.1
      refine DO_fd hb.1 x3 ?_
      try simp only [j_0, j_1, j_2, j_3, j_4, j_5, j_6, j_7, j_8, j_9, j_10, j_11, j_12, j_13, j_14, j_15, j_16, j_17, j_18, j_19, j_20, j_21, j_22, j_23, j_24, j_25, j_26, j_27, j_28, j_29, j_30, j_31, j_32, j_33, j_34, j_35, j_36, j_37, j_38, j_39, j_40, j_41, j_42, j_43, j_44, j_45, j_46, j_47, j_48, j_49, j_50, j_51, j_52, j_57, j_59, j_63, j_74, j_75, j_93, j_97, j_99, j_100, j_122, j_200, j_255, j_300, j_465, j_496, j_900, j_999, j_1000, j_65536, j_65537, j_99999, j_252645135, j_858993459, j_1431655765, k_0, k_1, k_27, k_32, k_74, k_75, k_100, k_1000, k_65537]
      simp (disch := first | with_reducible assumption | omega | trivial) only [↓bn_s1, ↓bd_s1, ↓ei_l1, ↓ei_r1, ↓bn_if, ↓ilt_1, ↓ilt_0, ↓ieq_1, ↓ieq_0, bn_s1, bd_s1, ei_l1, ei_r1, J_add, J_sub, J_mul, J_neg, J_lt, J_le, J_eq, dv_J, rm_J, if_pos, if_neg, ↓reduceIte, bitJ, shlJ, orJ, j_0, j_1, j_2, j_3, j_4, j_5, j_6, j_7, j_8, j_9, j_10, j_11, j_12, j_13, j_14, j_15, j_16, j_17, j_18, j_19, j_20, j_21, j_22, j_23, j_24, j_25, j_26, j_27, j_28, j_29, j_30, j_31, j_32, j_33, j_34, j_35, j_36, j_37, j_38, j_39, j_40, j_41, j_42, j_43, j_44, j_45, j_46, j_47, j_48, j_49, j_50, j_51, j_52, j_57, j_59, j_63, j_74, j_75, j_93, j_97, j_99, j_100, j_122, j_200, j_255, j_300, j_465, j_496, j_900, j_999, j_1000, j_65536, j_65537, j_99999, j_252645135, j_858993459, j_1431655765, k_0, k_1, k_27, k_32, k_74, k_75, k_100, k_1000, k_65537, ↓bn_e (e3), e3, m_i M, ↓m_i_b M, m_p M, ↓m_p_b M, m_l M, ↓m_l_b M, m_pl M, ↓m_pl_b M, mr_15 M, ↓mr_15_b M, mr_16 M, ↓mr_16_b M, mr_17 M, ↓mr_17_b M, mr_18 M, ↓mr_18_b M, mr_21 M, ↓mr_21_b M, mr_22 M, ↓mr_22_b M, mr_23 M, ↓mr_23_b M, mr_24 M, ↓mr_24_b M, mr_25 M, ↓mr_25_b M, mr_30 M, ↓mr_30_b M, mr_31 M, ↓mr_31_b M, m90a M, ↓m90a_b M, m90s M, ↓m90s_b M, m91a M, ↓m91a_b M, m91s M, ↓m91s_b M, m92a M, ↓m92a_b M, m92s M, ↓m92s_b M, m93a M, ↓m93a_b M, m93s M, ↓m93s_b M, m94a M, ↓m94a_b M, m94s M, ↓m94s_b M, m95a M, ↓m95a_b M, m95s M, ↓m95s_b M, m96a M, ↓m96a_b M, m96s M, ↓m96s_b M, m97a M, ↓m97a_b M, m97s M, ↓m97s_b M, m98a M, ↓m98a_b M, m98s M, ↓m98s_b M, m99a M, ↓m99a_b M, m99s M, ↓m99s_b M, m100a M, ↓m100a_b M, m100s M, ↓m100s_b M, o, ↓bn_e ((D_go5 M o)), (D_go5 M o), ↓bd_e ((D_part5 (w := 1000015) (lo := J 0) (hi := J 99) M o)), (D_part5 (w := 1000015) (lo := J 0) (hi := J 99) M o)]
