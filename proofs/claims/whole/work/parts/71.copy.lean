/-! copying of rows; State: copyFrom, passWithMice, save, load; Told: begin, isNorth -/
theorem cpy_ln {xs ys : List Int32} {sp dp n : Nat} (h1 : sp + n ≤ xs.length) (h2 : dp + n ≤ ys.length) : (cpy xs ys sp dp n).length = ys.length := by
  unfold cpy
  simp only [List.length_append, List.length_take, List.length_drop]
  omega
theorem cpy_get {xs ys : List Int32} {sp dp n i : Nat} (h1 : sp + n ≤ xs.length) (h2 : dp + n ≤ ys.length) : (cpy xs ys sp dp n).getD i 0 = if dp ≤ i ∧ i < dp + n then xs.getD (sp + (i - dp)) 0 else ys.getD i 0 := by
  unfold cpy
  simp only [List.getD_eq_getElem?_getD]
  congr 1
  by_cases c1 : i < dp
  · rw [if_neg (by omega), List.getElem?_append_left (by rw [List.length_take]; omega), List.getElem?_take_of_lt c1]
  · have l1 : (ys.take dp).length = dp := by rw [List.length_take]; omega
    rw [List.getElem?_append_right (by omega), l1]
    by_cases c2 : i < dp + n
    · rw [if_pos ⟨by omega, c2⟩, List.getElem?_append_left (by rw [List.length_take, List.length_drop]; omega), List.getElem?_take_of_lt (by omega), List.getElem?_drop]
    · have l2 : ((xs.drop sp).take n).length = n := by rw [List.length_take, List.length_drop]; omega
      rw [if_neg (by omega), List.getElem?_append_right (by omega), l2, List.getElem?_drop]
      have e0 : dp + n + (i - dp - n) = i := by omega
      rw [e0]
theorem cp_J {h : Hp} {a b : Nat} {x y n : Int} (ka : kd h a = 100) (kb : kd h b = 100) (la : a < 1000000) (lb : b < 1000000) (x0 : 0 ≤ x) (y0 : 0 ≤ y) (n0 : 0 ≤ n) (hx : x + n ≤ (iA h a).length) (hy : y + n ≤ (iA h b).length) (x1 : x < 1000000) (y1 : y < 1000000) (n1 : n < 1000000) : ∃ h', cpI h a (J x) b (J y) (J n) = some h' ∧ Fm b (b + 1) h h' ∧ (∀ i, 0 ≤ i → ia h' b i = if y ≤ i ∧ i < y + n then ia h a (x + i - y) else ia h b i) := by
  have tx : (J x).toInt = x := J_to (by omega) (by omega)
  have ty : (J y).toInt = y := J_to (by omega) (by omega)
  have tn : (J n).toInt = n := J_to (by omega) (by omega)
  have cx : (J x).toNatClampNeg = x.toNat := by show (J x).toInt.toNat = _; rw [tx]
  have cy : (J y).toNatClampNeg = y.toNat := by show (J y).toInt.toNat = _; rw [ty]
  have cn' : (J n).toNatClampNeg = n.toNat := by show (J n).toInt.toNat = _; rw [tn]
  have zx : ¬ J x < 0 := by rw [j_0, J_lt (by omega) (by omega) (by omega) (by omega)]; omega
  have zy : ¬ J y < 0 := by rw [j_0, J_lt (by omega) (by omega) (by omega) (by omega)]; omega
  have zn : ¬ J n < 0 := by rw [j_0, J_lt (by omega) (by omega) (by omega) (by omega)]; omega
  refine ⟨sIA h b (cpy (iA h a) (iA h b) x.toNat y.toNat n.toNat), ?_, ⟨rfl, rfl, rfl, rfl, fun d => ?_, fun _ => rfl, fun d hd => ⟨rfl, rfl, ?_, rfl⟩⟩, fun i i0 => ?_⟩
  · unfold cpI
    rw [cx, cy, cn', if_pos ⟨ka, kb, la, lb, zx, zy, zn, by omega, by omega⟩]
  · rw [iA_at]
    by_cases c : d = b
    · rw [if_pos c, cpy_ln (by omega) (by omega), c]
    · rw [if_neg c]
  · rw [iA_at, if_neg (by omega)]
  · unfold ia
    rw [iA_at, if_pos rfl, cpy_get (by omega) (by omega)]
    by_cases c : y ≤ i ∧ i < y + n
    · rw [if_pos (by omega), if_pos c]
      congr 3
      omega
    · rw [if_neg (by omega), if_neg c]
theorem aN_J {h : Hp} {a : Nat} {n : Nat} (hk : kd h a = 100) (hn : (iA h a).length = n) : aN h a = some (J n) := by
  unfold aN
  rw [if_pos (Or.inl hk), hn]
  rfl
theorem C_copyFrom {L : Lk} {b a : Nat} {h : Hp} {S : Sk} (HL : LW L) (H : SS b h) (HA : SS a h) (HS : SR L a S h) (hd : a + 3 ≤ b ∨ b + 3 ≤ a) (lb : b < 1000) (la : a < 1000) : ∃ h', F_st_copyFrom b a h = some h' ∧ Fm b (b + 3) h h' ∧ SR L b S h' := by
  have k := SS_k H; have r0 := SS_r0 H; have k0 := SS_k0 H; have n0 := SS_n0 H; have r1 := SS_r1 H; have k1 := SS_k1 H; have n1 := SS_n1 H
  have ak := SS_k HA; have ar0 := SS_r0 HA; have ak0 := SS_k0 HA; have an0 := SS_n0 HA; have ar1 := SS_r1 HA; have ak1 := SS_k1 HA; have an1 := SS_n1 HA
  obtain ⟨h1, e1, f1, g1⟩ := cp_J (h := h) (a := a + 1) (b := b + 1) (x := 0) (y := 0) (n := 25) ak0 k0 (by omega) (by omega) (by omega) (by omega) (by omega) (by omega) (by omega) (by omega) (by omega) (by omega)
  have H1 := SS_fm f1 H
  have HA1 := SS_fm f1 HA
  have k' := SS_k H1; have r1' := SS_r1 H1; have k1' := SS_k1 H1; have n1' := SS_n1 H1
  have ak' := SS_k HA1; have ar1' := SS_r1 HA1; have ak1' := SS_k1 HA1; have an1' := SS_n1 HA1
  obtain ⟨h2, e2, f2, g2⟩ := cp_J (h := h1) (a := a + 2) (b := b + 2) (x := 0) (y := 0) (n := 3) ak1' k1' (by omega) (by omega) (by omega) (by omega) (by omega) (by omega) (by omega) (by omega) (by omega) (by omega)
  have F2 : Fm b (b + 3) h h2 := fm_tr (fm_wd f1 (by omega) (by omega)) (fm_wd f2 (by omega) (by omega))
  have H2 := SS_fm F2 H
  have HA2 := SS_fm F2 HA
  have k'' := SS_k H2; have ak'' := SS_k HA2
  have v2 : fi h2 a 2 = fi h a 2 := fm_fi F2 (by omega) 2
  have v3 : fi h2 a 3 = fi h a 3 := fm_fi F2 (by omega) 3
  have v4 : fi h2 a 4 = fi h a 4 := fm_fi F2 (by omega) 4
  have b3 := LW_g HL
  have g2r := fi_rg h a 2
  have g3r := fi_rg h a 3
  have g4r := fi_rg h a 4
  have kw1 : kd (wF h2 b 2 (fi h a 2)) a = 8 := ak''
  have kw2 : kd (wF (wF h2 b 2 (fi h a 2)) b 3 (fi h a 3)) a = 8 := ak''
  have kb1 : kd (wF h2 b 2 (fi h a 2)) b = 8 := k''
  have kb2 : kd (wF (wF h2 b 2 (fi h a 2)) b 3 (fi h a 3)) b = 8 := k''
  have x3 : fi (wF h2 b 2 (fi h a 2)) a 3 = fi h a 3 := by rw [fi_ne (by omega)]; exact v3
  have x4 : fi (wF (wF h2 b 2 (fi h a 2)) b 3 (fi h a 3)) a 4 = fi h a 4 := by rw [fi_ne (by omega), fi_ne (by omega)]; exact v4
  refine ⟨wF (wF (wF h2 b 2 (fi h a 2)) b 3 (fi h a 3)) b 4 (fi h a 4), ?_, fm_tr F2 (fm_tr (fm_wF (by omega) (by omega)) (fm_tr (fm_wF (by omega) (by omega)) (fm_wF (by omega) (by omega)))), fun i i0 i1 => ?_, fun g g0 g1' => ?_, ?_, ?_, ?_⟩
  · unfold F_st_copyFrom
    rw [ck_e k]
    simp (disch := first | with_reducible assumption | omega | trivial) only [bn_s1, bd_s1, ei_l1, ei_r1, gI_J, gL_J, gR_J, aI_J, aL_J, sI_J, sL_J, pI_J, pL_J, J_add, J_sub, J_mul, J_neg, J_lt, J_le, J_eq, dv_J, rm_J, if_pos, if_neg, ↓reduceIte, bitJ, shlJ, orJ, j_0, j_1, j_2, j_3, j_4, j_5, j_6, j_7, j_8, j_9, j_10, j_11, j_12, j_13, j_14, j_15, j_16, j_17, j_18, j_19, j_20, j_21, j_22, j_23, j_24, j_25, j_26, j_27, j_28, j_29, j_30, j_31, j_32, j_33, j_34, j_35, j_36, j_37, j_38, j_39, j_40, j_41, j_42, j_43, j_44, j_45, j_46, j_47, j_48, j_49, j_50, j_51, j_52, j_57, j_59, j_63, j_74, j_75, j_93, j_97, j_99, j_100, j_122, j_200, j_255, j_300, j_465, j_496, j_900, j_999, j_1000, j_65536, j_65537, j_99999, j_252645135, j_858993459, j_1431655765, k_0, k_1, k_27, k_32, k_74, k_75, k_100, k_1000, k_65537, ar0, r0, e1, ar1', r1', e2, v2, x3, x4]
  · show ia h2 (b + 1) i = S i
    rw [fm_ia f2 (by omega), g1 i i0, if_pos (by omega), Int.zero_add, Int.sub_zero]
    exact HS.1 i i0 i1
  · show ia h2 (b + 2) g = S (25 + g)
    rw [g2 g g0, if_pos (by omega), Int.zero_add, Int.sub_zero, fm_ia f1 (by omega)]
    exact HS.2.1 g g0 g1'
  · rw [fi_ne (by omega), fi_ne (by omega), fi_same (by omega) (by omega)]; exact HS.2.2.1
  · rw [fi_ne (by omega), fi_same (by omega) (by omega)]; exact HS.2.2.2.1
  · rw [fi_same (by omega) (by omega)]; exact HS.2.2.2.2
theorem C_isNorth {L : Lk} {t : Nat} {h : Hp} {z : Nat} (HL : LW L) (HT : TS t h) (HR : TR L t h) (h1 : z < L 1 0) : F_to_isNorth t (J z) h = some (J (if L 9 z = 0 then 1 else 0)) := by
  have k := TS_k HT
  have b1 := LW_h HL
  obtain ⟨n, e, l, hb⟩ := HR.2.1
  have q := hb z h1
  unfold F_to_isNorth
  rw [ck_e k]
  by_cases c : L 9 z = 0
  · rw [decide_eq_true c] at q
    simp (disch := first | with_reducible assumption | omega | trivial) only [bn_s1, bd_s1, ei_l1, ei_r1, gI_J, gL_J, gR_J, aI_J, aL_J, sI_J, sL_J, pI_J, pL_J, J_add, J_sub, J_mul, J_neg, J_lt, J_le, J_eq, dv_J, rm_J, if_pos, if_neg, ↓reduceIte, bitJ, shlJ, orJ, j_0, j_1, j_2, j_3, j_4, j_5, j_6, j_7, j_8, j_9, j_10, j_11, j_12, j_13, j_14, j_15, j_16, j_17, j_18, j_19, j_20, j_21, j_22, j_23, j_24, j_25, j_26, j_27, j_28, j_29, j_30, j_31, j_32, j_33, j_34, j_35, j_36, j_37, j_38, j_39, j_40, j_41, j_42, j_43, j_44, j_45, j_46, j_47, j_48, j_49, j_50, j_51, j_52, j_57, j_59, j_63, j_74, j_75, j_93, j_97, j_99, j_100, j_122, j_200, j_255, j_300, j_465, j_496, j_900, j_999, j_1000, j_65536, j_65537, j_99999, j_252645135, j_858993459, j_1431655765, k_0, k_1, k_27, k_32, k_74, k_75, k_100, k_1000, k_65537, e, q, c]
  · rw [decide_eq_false c] at q
    simp (disch := first | with_reducible assumption | omega | trivial) only [bn_s1, bd_s1, ei_l1, ei_r1, gI_J, gL_J, gR_J, aI_J, aL_J, sI_J, sL_J, pI_J, pL_J, J_add, J_sub, J_mul, J_neg, J_lt, J_le, J_eq, dv_J, rm_J, if_pos, if_neg, ↓reduceIte, bitJ, shlJ, orJ, j_0, j_1, j_2, j_3, j_4, j_5, j_6, j_7, j_8, j_9, j_10, j_11, j_12, j_13, j_14, j_15, j_16, j_17, j_18, j_19, j_20, j_21, j_22, j_23, j_24, j_25, j_26, j_27, j_28, j_29, j_30, j_31, j_32, j_33, j_34, j_35, j_36, j_37, j_38, j_39, j_40, j_41, j_42, j_43, j_44, j_45, j_46, j_47, j_48, j_49, j_50, j_51, j_52, j_57, j_59, j_63, j_74, j_75, j_93, j_97, j_99, j_100, j_122, j_200, j_255, j_300, j_465, j_496, j_900, j_999, j_1000, j_65536, j_65537, j_99999, j_252645135, j_858993459, j_1431655765, k_0, k_1, k_27, k_32, k_74, k_75, k_100, k_1000, k_65537, e, q, c]
/-- one house's mice by the seed; all houses'; a week -/
def upS (S : Sk) (j v : Int) : Sk := fun i => if i = j then v else S i
def sd (S : Sk) : Int := (75 * S 30 + 74) % 65537
def mst (L : Lk) (p : Sk × Int) (z : Int) : Sk × Int := if L 9 z = 0 then (if sd p.1 % 100 < L 0 0 then (lse (upS p.1 30 (sd p.1)) z, p.2 + (if bk (upS p.1 30 (sd p.1)) z = -1 then 0 else 1)) else (upS p.1 30 (sd p.1), p.2)) else p
def mws (L : Lk) (p : Sk × Int) : Nat → Sk × Int
  | 0 => p
  | n + 1 => mst L (mws L p n) n
def wkm (L : Lk) (S : Sk) : Sk × Int := mws L (sft S (hn L), 0) (hn L)
theorem lse_hi {S : Sk} {z i : Int} (h1 : z < 5) (h2 : 25 ≤ i) : lse S z i = S i := by
  have := bk_b S z
  unfold lse
  rw [if_neg (by omega)]
theorem lse_cw {m : Int} {S : Sk} {z : Int} (h0 : 0 ≤ z) (h1 : z < 5) (H : CW m S) : CW m (lse S z) := by
  intro i i0 i1
  have hi := H i i0 i1
  unfold lse
  by_cases c : bk S z ≠ -1 ∧ i = 5 * z + bk S z
  · rw [if_pos c]
    have : 0 < S i := by
      rw [c.2]
      obtain ⟨m, m1, m2, m3, m4⟩ := bk_ex S z
      by_cases hm : m < 5
      · rw [(m3 hm).2]; exact (m3 hm).1
      · exact absurd (m4 (by omega)) c.1
    omega
  · rw [if_neg c]; exact hi
theorem lse_zc {L : Lk} {S : Sk} {z : Int} (hz : z < L 1 0) (H : ZCk L S) : ZCk L (lse S z) := by
  intro i h1 h2
  have := bk_b S z
  unfold lse
  rw [if_neg (by omega)]
  exact H i h1 h2
theorem sd_b {S : Sk} (h : 0 ≤ S 30) : 0 ≤ sd S ∧ sd S ≤ 65536 := by unfold sd; omega
theorem mst_sw {m : Int} {L : Lk} {p : Sk × Int} {z : Int} (HL : LW L) (h0 : 0 ≤ z) (h1 : z < L 1 0) (H : SW m L p.1) : SW m L (mst L p z).1 := by
  have b1 := LW_h HL
  have b3 := LW_g HL
  obtain ⟨a1, a2, a3, a4, a5, a6, a7⟩ := H
  have sb := sd_b a6
  have c1 : CW m (upS p.1 30 (sd p.1)) := fun i i0 i1 => by unfold upS; rw [if_neg (by omega)]; exact a1 i i0 i1
  have c2 : ZCk L (upS p.1 30 (sd p.1)) := fun i i0 i1 => by unfold upS; rw [if_neg (by omega)]; exact a2 i i0 i1
  have e28 : upS p.1 30 (sd p.1) 28 = p.1 28 := if_neg (by omega)
  have e30 : upS p.1 30 (sd p.1) 30 = sd p.1 := if_pos rfl
  unfold mst
  split
  · split
    · refine ⟨lse_cw h0 (by omega) c1, lse_zc h1 c2, fun g g0 g1 => ?_, ?_, ?_, ?_, ?_⟩
      · show -1 ≤ lse _ z (25 + g) ∧ lse _ z (25 + g) < 5
        rw [lse_hi (by omega) (by omega)]
        unfold upS
        rw [if_neg (by omega)]
        exact a3 g g0 g1
      · show 0 ≤ lse _ z 28
        rw [lse_hi (by omega) (by omega), e28]; exact a4
      · show (lse _ z 28).toNat < _
        rw [lse_hi (by omega) (by omega), e28]; exact a5
      · show 0 ≤ lse _ z 30
        rw [lse_hi (by omega) (by omega), e30]; exact sb.1
      · show lse _ z 30 ≤ _
        rw [lse_hi (by omega) (by omega), e30]; exact sb.2
    · refine ⟨c1, c2, fun g g0 g1 => ?_, ?_, ?_, ?_, ?_⟩
      · show -1 ≤ upS p.1 30 (sd p.1) (25 + g) ∧ upS p.1 30 (sd p.1) (25 + g) < 5
        unfold upS
        rw [if_neg (by omega)]
        exact a3 g g0 g1
      · show 0 ≤ upS p.1 30 (sd p.1) 28
        rw [e28]; exact a4
      · show (upS p.1 30 (sd p.1) 28).toNat < _
        rw [e28]; exact a5
      · show 0 ≤ upS p.1 30 (sd p.1) 30
        rw [e30]; exact sb.1
      · show upS p.1 30 (sd p.1) 30 ≤ _
        rw [e30]; exact sb.2
  · exact ⟨a1, a2, a3, a4, a5, a6, a7⟩
theorem mws_sw {m : Int} {L : Lk} {p : Sk × Int} (HL : LW L) (H : SW m L p.1) : ∀ n : Nat, n ≤ L 1 0 → SW m L (mws L p n).1 := by
  intro n
  induction n with
  | zero => intro _; exact H
  | succ n ih => intro h; exact mst_sw HL (by omega) (by omega) (ih (by omega))
theorem mws_g {L : Lk} {p : Sk × Int} (h : 0 ≤ p.2) : ∀ n : Nat, 0 ≤ (mws L p n).2 ∧ (mws L p n).2 ≤ p.2 + n := by
  intro n
  induction n with
  | zero => show 0 ≤ p.2 ∧ p.2 ≤ p.2 + 0; omega
  | succ n ih =>
    show 0 ≤ (mst L (mws L p n) n).2 ∧ (mst L (mws L p n) n).2 ≤ _
    unfold mst
    split
    · split
      · show 0 ≤ (mws L p n).2 + _ ∧ (mws L p n).2 + _ ≤ _
        split <;> omega
      · show 0 ≤ (mws L p n).2 ∧ (mws L p n).2 ≤ _
        omega
    · omega
theorem mws_29 {L : Lk} {p : Sk × Int} (hl : L 1 0 ≤ 5) : ∀ n : Nat, n ≤ L 1 0 → (mws L p n).1 29 = p.1 29 := by
  intro n
  induction n with
  | zero => intro _; rfl
  | succ n ih =>
    intro h
    have e := ih (by omega)
    show (mst L (mws L p n) n).1 29 = _
    unfold mst
    split
    · split
      · show lse (upS (mws L p n).1 30 _) n 29 = _
        rw [lse_hi (by omega) (by omega)]
        unfold upS
        rw [if_neg (by omega)]
        exact e
      · show upS (mws L p n).1 30 (sd (mws L p n).1) 29 = _
        unfold upS
        rw [if_neg (by omega)]
        exact e
    · exact e
theorem sdJ {S : Sk} (h0 : 0 ≤ S 30) (h1 : S 30 ≤ 65536) : rm32 (J (75 * S 30 + 74)) (J 65537) = some (J (sd S)) := by
  have h := rm_J (a := 75 * S 30 + 74) (b := 65537) (by omega) (by omega) (by omega) (by omega)
  rw [h, Int.tmod_eq_emod_of_nonneg (by omega)]
  rfl
theorem sdJ2 {z : Int} (h0 : 0 ≤ z) (h1 : z ≤ 65536) : rm32 (J z) (J 100) = some (J (z % 100)) := by
  have h := rm_J (a := z) (b := 100) (by omega) (by omega) (by omega) (by omega)
  rw [h, Int.tmod_eq_emod_of_nonneg h0]
theorem C_passWithMice {L : Lk} {t b : Nat} {h : Hp} {S : Sk} {m : Int} (HL : LW L) (HC : CR h) (HT : TS t h) (HR : TR L t h) (HW : SW m L S) (hm : 0 ≤ m ∧ m ≤ 5000) (H : SS b h) (HS : SR L b S h) (hwk : 0 ≤ S 29 ∧ S 29 ≤ 100000) (hd : t + 18 ≤ b ∨ b + 3 ≤ t) (hb : b < 1000) : ∃ h', F_st_passWithMice b t h = some (J (wkm L S).2, h') ∧ Fm b (b + 3) h h' ∧ SR L b (upS (wkm L S).1 29 (S 29 + 1)) h' := by
  have k := SS_k H
  have b1 := LW_h HL
  have b2 := hn_e HL
  have b3 := LW_g HL
  have b0 := LW_mice HL
  obtain ⟨h1, e1, f1, S1⟩ := C_softenL HL HW H HS hb
  have W1 := sft_sw HL hm.1 HW
  obtain ⟨y, h2, e2, ey, f2, S2⟩ := lp_for (b := B_st_passWithMice_8 b t) (f := FU) (s := (J 0, J 0)) (h := h1) (fun i s h' => s = (J (mws L (sft S (hn L), 0) i).2, J i) ∧ Fm b (b + 3) h h' ∧ SR L b (mws L (sft S (hn L), 0) i).1 h') (fun y h' => y = J (wkm L S).2 ∧ Fm b (b + 3) h h' ∧ SR L b (wkm L S).1 h') (hn L) (by unfold FU; omega) ⟨rfl, fm_wd f1 (by omega) (by omega), S1⟩ (fun i s h2 hi hI => by
      obtain ⟨rfl, f2, S2⟩ := hI
      have W2 : SW m L (mws L (sft S (hn L), 0) i).1 := mws_sw HL W1 i (by omega)
      have HT2 := TS_fm f2 HT
      have HR2 := TR_fm f2 (by omega) HR
      have HC2 := CR_fm f2 (by omega) HC
      have H2 := SS_fm f2 H
      have k2 := SS_k H2
      have tk := TS_k HT2
      have en := C_isNorth HL HT2 HR2 (z := i) (by omega)
      have e0 : mws L (sft S (hn L), 0) (i + 1) = mst L (mws L (sft S (hn L), 0) i) i := rfl
      have hgb := mws_g (L := L) (p := (sft S (hn L), 0)) (by show (0 : Int) ≤ 0; omega) i
      generalize mws L (sft S (hn L), 0) i = p at S2 W2 e0 hgb ⊢
      rw [e0]
      have s30 := S2.2.2.2.1
      have q6 := W2.2.2.2.2.2.1
      have q7 := W2.2.2.2.2.2.2
      have sb := sd_b q6
      by_cases c : L 9 i = 0
      · rw [if_pos c] at en
        have em : rm32 ((75 : Int32) * J (p.1 30) + (74 : Int32)) (65537 : Int32) = some (J (sd p.1)) := by
          rw [j_75, j_74, j_65537, J_mul, J_add]; exact sdJ q6 q7
        have em2 := sdJ2 sb.1 sb.2
        obtain ⟨w, hw⟩ : ∃ w, w = sd p.1 := ⟨_, rfl⟩
        rw [← hw] at em em2 sb
        have fw : Fm b (b + 3) h2 (wF h2 b 3 (w)) := fm_wF (by omega) (by omega)
        have k3 : kd (wF h2 b 3 (w)) b = 8 := by rw [kd_wF]; exact k2
        have tk3 : kd (wF h2 b 3 (w)) t = 10 := by rw [kd_wF]; exact tk
        have v3 : fi (wF h2 b 3 (w)) b 3 = w := fi_same (by omega) (by omega)
        have vm : fi (wF h2 b 3 (w)) t 0 = L 0 0 := by rw [fi_ne (by omega)]; exact TR_mi HR2
        have S3 : SR L b (upS p.1 30 (w)) (wF h2 b 3 (w)) := by
          refine ⟨fun i i0 i1 => ?_, fun g g0 g1 => ?_, ?_, ?_, ?_⟩
          · unfold upS; rw [if_neg (by omega)]; exact S2.1 i i0 i1
          · unfold upS; rw [if_neg (by omega)]; exact S2.2.1 g g0 g1
          · unfold upS; rw [if_neg (by omega), fi_ne (by omega)]; exact S2.2.2.1
          · unfold upS; rw [if_pos rfl]; exact v3
          · unfold upS; rw [if_neg (by omega), fi_ne (by omega)]; exact S2.2.2.2.2
        by_cases c2 : w % 100 < L 0 0
        · have cw : CW 5000 (upS p.1 30 (w)) := fun i i0 i1 => by
            unfold upS; rw [if_neg (by omega)]
            have := W2.1 i i0 i1
            omega
          obtain ⟨h4, e4, f4, g4⟩ := C_loseOne (CR_fm fw (by omega) HC2) (SS_fm fw H2) S3.1 cw (z := i) (by omega) (by omega) hb
          have em3 : mst L p i = (lse (upS p.1 30 (w)) i, p.2 + (if bk (upS p.1 30 (w)) i = -1 then 0 else 1)) := by unfold mst; rw [if_pos c, ← hw, if_pos c2]
          rw [em3]
          refine ⟨(J (p.2 + (if bk (upS p.1 30 (w)) i = -1 then 0 else 1)), J (i + 1)), h4, ?_, rfl, fm_tr f2 (fm_tr fw (fm_wd f4 (by omega) (by omega))), g4, fun g g0 g1 => ?_, ?_, ?_, ?_⟩
          · unfold B_st_passWithMice_8
            by_cases c3 : bk (upS p.1 30 (w)) i = -1
            · rw [if_pos c3] at e4 ⊢
              simp (disch := first | with_reducible assumption | omega | trivial) only [bn_s1, gI_J, s30, em]
              simp (disch := first | with_reducible assumption | omega | trivial) only [bn_s1, bd_s1, ei_l1, ei_r1, gI_J, gL_J, gR_J, aI_J, aL_J, sI_J, sL_J, pI_J, pL_J, J_add, J_sub, J_mul, J_neg, J_lt, J_le, J_eq, dv_J, if_pos, if_neg, ↓reduceIte, bitJ, shlJ, orJ, j_0, j_1, j_2, j_3, j_4, j_5, j_6, j_7, j_8, j_9, j_10, j_11, j_12, j_13, j_14, j_15, j_16, j_17, j_18, j_19, j_20, j_21, j_22, j_23, j_24, j_25, j_26, j_27, j_28, j_29, j_30, j_31, j_32, j_33, j_34, j_35, j_36, j_37, j_38, j_39, j_40, j_41, j_42, j_43, j_44, j_45, j_46, j_47, j_48, j_49, j_50, j_51, j_52, j_57, j_59, j_63, j_74, j_75, j_93, j_97, j_99, j_100, j_122, j_200, j_255, j_300, j_465, j_496, j_900, j_999, j_1000, j_65536, j_65537, j_99999, j_252645135, j_858993459, j_1431655765, k_0, k_1, k_27, k_32, k_74, k_75, k_100, k_1000, k_65537, TR_h HR2, en, v3, em2, vm, e4, Int.add_zero]
            · rw [if_neg c3] at e4 ⊢
              simp (disch := first | with_reducible assumption | omega | trivial) only [bn_s1, gI_J, s30, em]
              simp (disch := first | with_reducible assumption | omega | trivial) only [bn_s1, bd_s1, ei_l1, ei_r1, gI_J, gL_J, gR_J, aI_J, aL_J, sI_J, sL_J, pI_J, pL_J, J_add, J_sub, J_mul, J_neg, J_lt, J_le, J_eq, dv_J, if_pos, if_neg, ↓reduceIte, bitJ, shlJ, orJ, j_0, j_1, j_2, j_3, j_4, j_5, j_6, j_7, j_8, j_9, j_10, j_11, j_12, j_13, j_14, j_15, j_16, j_17, j_18, j_19, j_20, j_21, j_22, j_23, j_24, j_25, j_26, j_27, j_28, j_29, j_30, j_31, j_32, j_33, j_34, j_35, j_36, j_37, j_38, j_39, j_40, j_41, j_42, j_43, j_44, j_45, j_46, j_47, j_48, j_49, j_50, j_51, j_52, j_57, j_59, j_63, j_74, j_75, j_93, j_97, j_99, j_100, j_122, j_200, j_255, j_300, j_465, j_496, j_900, j_999, j_1000, j_65536, j_65537, j_99999, j_252645135, j_858993459, j_1431655765, k_0, k_1, k_27, k_32, k_74, k_75, k_100, k_1000, k_65537, TR_h HR2, en, v3, em2, vm, e4]
          · show _ = lse (upS p.1 30 (w)) i (25 + g)
            rw [lse_hi (by omega) (by omega), fm_ia f4 (by omega)]; exact S3.2.1 g g0 g1
          · show _ = 2 ^ rn L - 1 - lse (upS p.1 30 (w)) i 28
            rw [lse_hi (by omega) (by omega), fm_fi f4 (by omega)]; exact S3.2.2.1
          · show _ = lse (upS p.1 30 (w)) i 30
            rw [lse_hi (by omega) (by omega), fm_fi f4 (by omega)]; exact S3.2.2.2.1
          · show _ = lse (upS p.1 30 (w)) i 29
            rw [lse_hi (by omega) (by omega), fm_fi f4 (by omega)]; exact S3.2.2.2.2
        · have em3 : mst L p i = (upS p.1 30 (w), p.2) := by unfold mst; rw [if_pos c, ← hw, if_neg c2]
          rw [em3]
          refine ⟨(J p.2, J (i + 1)), wF h2 b 3 (w), ?_, rfl, fm_tr f2 fw, S3⟩
          unfold B_st_passWithMice_8
          simp (disch := first | with_reducible assumption | omega | trivial) only [bn_s1, gI_J, s30, em]
          simp (disch := first | with_reducible assumption | omega | trivial) only [bn_s1, bd_s1, ei_l1, ei_r1, gI_J, gL_J, gR_J, aI_J, aL_J, sI_J, sL_J, pI_J, pL_J, J_add, J_sub, J_mul, J_neg, J_lt, J_le, J_eq, dv_J, if_pos, if_neg, ↓reduceIte, bitJ, shlJ, orJ, j_0, j_1, j_2, j_3, j_4, j_5, j_6, j_7, j_8, j_9, j_10, j_11, j_12, j_13, j_14, j_15, j_16, j_17, j_18, j_19, j_20, j_21, j_22, j_23, j_24, j_25, j_26, j_27, j_28, j_29, j_30, j_31, j_32, j_33, j_34, j_35, j_36, j_37, j_38, j_39, j_40, j_41, j_42, j_43, j_44, j_45, j_46, j_47, j_48, j_49, j_50, j_51, j_52, j_57, j_59, j_63, j_74, j_75, j_93, j_97, j_99, j_100, j_122, j_200, j_255, j_300, j_465, j_496, j_900, j_999, j_1000, j_65536, j_65537, j_99999, j_252645135, j_858993459, j_1431655765, k_0, k_1, k_27, k_32, k_74, k_75, k_100, k_1000, k_65537, TR_h HR2, en, v3, em2, vm]
      · rw [if_neg c] at en
        have em3 : mst L p i = p := by unfold mst; rw [if_neg c]
        rw [em3]
        refine ⟨(J p.2, J (i + 1)), h2, ?_, rfl, f2, S2⟩
        unfold B_st_passWithMice_8
        simp (disch := first | with_reducible assumption | omega | trivial) only [bn_s1, bd_s1, ei_l1, ei_r1, gI_J, gL_J, gR_J, aI_J, aL_J, sI_J, sL_J, pI_J, pL_J, J_add, J_sub, J_mul, J_neg, J_lt, J_le, J_eq, dv_J, rm_J, if_pos, if_neg, ↓reduceIte, bitJ, shlJ, orJ, j_0, j_1, j_2, j_3, j_4, j_5, j_6, j_7, j_8, j_9, j_10, j_11, j_12, j_13, j_14, j_15, j_16, j_17, j_18, j_19, j_20, j_21, j_22, j_23, j_24, j_25, j_26, j_27, j_28, j_29, j_30, j_31, j_32, j_33, j_34, j_35, j_36, j_37, j_38, j_39, j_40, j_41, j_42, j_43, j_44, j_45, j_46, j_47, j_48, j_49, j_50, j_51, j_52, j_57, j_59, j_63, j_74, j_75, j_93, j_97, j_99, j_100, j_122, j_200, j_255, j_300, j_465, j_496, j_900, j_999, j_1000, j_65536, j_65537, j_99999, j_252645135, j_858993459, j_1431655765, k_0, k_1, k_27, k_32, k_74, k_75, k_100, k_1000, k_65537, TR_h HR2, en]) (fun s h2 hI => by
      obtain ⟨rfl, f2, S2⟩ := hI
      have HT2 := TS_fm f2 HT
      have HR2 := TR_fm f2 (by omega) HR
      have tk := TS_k HT2
      refine ⟨_, h2, ?_, rfl, f2, S2⟩
      unfold B_st_passWithMice_8
      simp (disch := first | with_reducible assumption | omega | trivial) only [bn_s1, bd_s1, ei_l1, ei_r1, gI_J, gL_J, gR_J, aI_J, aL_J, sI_J, sL_J, pI_J, pL_J, J_add, J_sub, J_mul, J_neg, J_lt, J_le, J_eq, dv_J, rm_J, if_pos, if_neg, ↓reduceIte, bitJ, shlJ, orJ, j_0, j_1, j_2, j_3, j_4, j_5, j_6, j_7, j_8, j_9, j_10, j_11, j_12, j_13, j_14, j_15, j_16, j_17, j_18, j_19, j_20, j_21, j_22, j_23, j_24, j_25, j_26, j_27, j_28, j_29, j_30, j_31, j_32, j_33, j_34, j_35, j_36, j_37, j_38, j_39, j_40, j_41, j_42, j_43, j_44, j_45, j_46, j_47, j_48, j_49, j_50, j_51, j_52, j_57, j_59, j_63, j_74, j_75, j_93, j_97, j_99, j_100, j_122, j_200, j_255, j_300, j_465, j_496, j_900, j_999, j_1000, j_65536, j_65537, j_99999, j_252645135, j_858993459, j_1431655765, k_0, k_1, k_27, k_32, k_74, k_75, k_100, k_1000, k_65537, TR_h HR2]
      rfl)
  have k2 := SS_k (SS_fm f2 H)
  have v4 : fi h2 b 4 = S 29 := by
    rw [S2.2.2.2.2]
    unfold wkm
    rw [mws_29 b1.2 (hn L) (by omega)]
    exact sft_hi (by omega) _ (by omega)
  refine ⟨wF h2 b 4 (S 29 + 1), ?_, fm_tr f2 (fm_wF (by omega) (by omega)), fun i i0 i1 => ?_, fun g g0 g1 => ?_, ?_, ?_, ?_⟩
  · unfold F_st_passWithMice
    rw [ck_e k]
    simp (disch := first | with_reducible assumption | omega | trivial) only [bn_s1, bd_s1, ei_l1, ei_r1, gI_J, gL_J, gR_J, aI_J, aL_J, sI_J, sL_J, pI_J, pL_J, J_add, J_sub, J_mul, J_neg, J_lt, J_le, J_eq, dv_J, rm_J, if_pos, if_neg, ↓reduceIte, bitJ, shlJ, orJ, j_0, j_1, j_2, j_3, j_4, j_5, j_6, j_7, j_8, j_9, j_10, j_11, j_12, j_13, j_14, j_15, j_16, j_17, j_18, j_19, j_20, j_21, j_22, j_23, j_24, j_25, j_26, j_27, j_28, j_29, j_30, j_31, j_32, j_33, j_34, j_35, j_36, j_37, j_38, j_39, j_40, j_41, j_42, j_43, j_44, j_45, j_46, j_47, j_48, j_49, j_50, j_51, j_52, j_57, j_59, j_63, j_74, j_75, j_93, j_97, j_99, j_100, j_122, j_200, j_255, j_300, j_465, j_496, j_900, j_999, j_1000, j_65536, j_65537, j_99999, j_252645135, j_858993459, j_1431655765, k_0, k_1, k_27, k_32, k_74, k_75, k_100, k_1000, k_65537, e1, e2, v4, ey]
  · unfold upS; rw [if_neg (by omega)]; exact S2.1 i i0 i1
  · unfold upS; rw [if_neg (by omega)]; exact S2.2.1 g g0 g1
  · unfold upS; rw [if_neg (by omega), fi_ne (by omega)]; exact S2.2.2.1
  · unfold upS; rw [if_neg (by omega), fi_ne (by omega)]; exact S2.2.2.2.1
  · unfold upS; rw [if_pos rfl, fi_same (by omega) (by omega)]
