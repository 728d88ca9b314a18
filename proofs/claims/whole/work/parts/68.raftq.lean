/-! Rafts: what is asked of a measured one -/
def und (f : Int → Int) : Nat → Nat
  | 0 => 0
  | n + 1 => und f n ||| (if f n < 0 then 2 ^ n else 0)
def lw (f : Int → Int) : Nat → Nat
  | 0 => 0
  | n + 1 => if f n < f (lw f n) then n else lw f n
theorem lw_lt (f : Int → Int) (n : Nat) : lw f (n + 1) ≤ n := by
  induction n with
  | zero => unfold lw; split <;> (try unfold lw) <;> omega
  | succ n ih => unfold lw; split <;> omega
theorem und_lt (f : Int → Int) (n : Nat) : und f n < 2 ^ n := by
  induction n with
  | zero => unfold und; decide
  | succ n ih =>
    unfold und
    have h1 : 2 ^ n < 2 ^ (n + 1) := Nat.pow_lt_pow_right (by decide) (by omega)
    refine Nat.or_lt_two_pow (by omega) ?_
    split <;> omega
theorem und_32 (f : Int → Int) {n : Nat} (hn : n ≤ 5) : und f n < 32 := by
  have := und_lt f n
  have : 2 ^ n ≤ 2 ^ 5 := Nat.pow_le_pow_right (by decide) hn
  omega
theorem und_bit (f : Int → Int) (n i : Nat) : (und f n).testBit i = (decide (i < n) && decide (f i < 0)) := by
  induction n with
  | zero => unfold und; simp
  | succ n ih =>
    unfold und
    rw [Nat.testBit_or, ih]
    by_cases hi : i = n
    · subst hi
      by_cases hf : f i < 0
      · rw [if_pos hf, two_b]; simp [hf]
      · rw [if_neg hf]; simp [hf]
    · have : (if f n < 0 then 2 ^ n else 0).testBit i = false := by
        split
        · rw [two_b]; exact decide_eq_false (fun q => hi q.symm)
        · exact Nat.zero_testBit i
      rw [this, Bool.or_false]
      congr 1
      apply decide_eq_decide.mpr
      omega
theorem und_e {f g : Int → Int} {n : Nat} (h : ∀ i : Nat, i < n → f i = g i) : und f n = und g n := by
  induction n with
  | zero => rfl
  | succ n ih => unfold und; rw [ih (fun i hi => h i (by omega)), h n (by omega)]
theorem lw_e {f g : Int → Int} {n : Nat} (h : ∀ i : Nat, i < n → f i = g i) : lw f n = lw g n := by
  induction n with
  | zero => rfl
  | succ n ih =>
    have e := ih (fun i hi => h i (by omega))
    unfold lw
    rw [e, h n (by omega)]
    cases n with
    | zero =>
      have : (fun (x : Nat) => x) 0 = 0 := rfl
      by_cases c : g ((0 : Nat) : Int) < f (lw g 0)
      · split <;> (try split) <;> rfl
      · split <;> (try split) <;> rfl
    | succ n =>
      have l := lw_lt g n
      rw [h (lw g (n + 1)) (by omega)]
theorem max_e {a b : Int} (h1 : -2147483648 ≤ a) (h2 : a < 2147483648) (h3 : -2147483648 ≤ b) (h4 : b < 2147483648) : F_ma_max (J a) (J b) = some (J (max a b)) := by
  unfold F_ma_max
  simp (disch := omega) only [J_lt]
  split
  · congr 2; omega
  · congr 2; omega
theorem min_e {a b : Int} (h1 : -2147483648 ≤ a) (h2 : a < 2147483648) (h3 : -2147483648 ≤ b) (h4 : b < 2147483648) : F_ma_min (J a) (J b) = some (J (min a b)) := by
  unfold F_ma_min
  simp (disch := omega) only [J_lt]
  split
  · congr 2; omega
  · congr 2; omega
theorem C_underBits {L : Lk} {r : Nat} {h : Hp} {f : Int → Int} (HL : LW L) (HX : RS r h) (hh : fi h r 0 = L 1 0) (HH : ∀ i, 0 ≤ i → i < L 1 0 → ia h (r + 3) i = f i) : F_ra_underBits r h = some (J (und f (hn L) : Nat)) := by
  have b1 := LW_h HL
  have k := RS_k HX; have r3 := RS_r3 HX; have k3 := RS_k3 HX; have n3 := RS_n3 HX
  have e := lq_for (b := B_ra_underBits_4 r h) (r := J (und f (hn L) : Nat)) (f := FU) (s := (J 0, J 0)) (fun i => (J (und f i : Nat), J i)) (hn L) (by have := hn_e HL; unfold FU; omega) rfl (fun i hi => by
    have hi' : (i : Int) < L 1 0 := by rw [← hn_e HL]; omega
    have e6 : und f (i + 1) = und f i ||| (if f i < 0 then 2 ^ i else 0) := rfl
    have hv := HH i (by omega) hi'
    have hb := ia_rg h (r + 3) i
    rw [hv] at hb
    have l1 := und_32 f (n := i) (by omega)
    have p5 : 2 ^ i < 2 ^ 5 := Nat.pow_lt_pow_right (by decide) (by omega)
    unfold B_ra_underBits_4
    by_cases hc : f i < 0
    · rw [if_pos hc] at e6
      simp (disch := first | with_reducible assumption | omega | trivial) only [bn_s1, bd_s1, ei_l1, ei_r1, gI_J, gL_J, gR_J, aI_J, aL_J, sI_J, sL_J, pI_J, pL_J, J_add, J_sub, J_mul, J_neg, J_lt, J_le, J_eq, dv_J, rm_J, if_pos, if_neg, ↓reduceIte, bitJ, shlJ, orJ, j_0, j_1, j_2, j_3, j_4, j_5, j_6, j_7, j_8, j_9, j_10, j_11, j_12, j_13, j_14, j_15, j_16, j_17, j_18, j_19, j_20, j_21, j_22, j_23, j_24, j_25, j_26, j_27, j_28, j_29, j_30, j_31, j_32, j_33, j_34, j_35, j_36, j_37, j_38, j_39, j_40, j_41, j_42, j_43, j_44, j_45, j_46, j_47, j_48, j_49, j_50, j_51, j_52, j_57, j_59, j_63, j_74, j_75, j_93, j_97, j_99, j_100, j_122, j_200, j_255, j_300, j_465, j_496, j_900, j_999, j_1000, j_65536, j_65537, j_99999, j_252645135, j_858993459, j_1431655765, k_0, k_1, k_27, k_32, k_74, k_75, k_100, k_1000, k_65537, hh, r3, hv, e6]
      rfl
    · rw [if_neg hc, Nat.or_zero] at e6
      simp (disch := first | with_reducible assumption | omega | trivial) only [bn_s1, bd_s1, ei_l1, ei_r1, gI_J, gL_J, gR_J, aI_J, aL_J, sI_J, sL_J, pI_J, pL_J, J_add, J_sub, J_mul, J_neg, J_lt, J_le, J_eq, dv_J, rm_J, if_pos, if_neg, ↓reduceIte, bitJ, shlJ, orJ, j_0, j_1, j_2, j_3, j_4, j_5, j_6, j_7, j_8, j_9, j_10, j_11, j_12, j_13, j_14, j_15, j_16, j_17, j_18, j_19, j_20, j_21, j_22, j_23, j_24, j_25, j_26, j_27, j_28, j_29, j_30, j_31, j_32, j_33, j_34, j_35, j_36, j_37, j_38, j_39, j_40, j_41, j_42, j_43, j_44, j_45, j_46, j_47, j_48, j_49, j_50, j_51, j_52, j_57, j_59, j_63, j_74, j_75, j_93, j_97, j_99, j_100, j_122, j_200, j_255, j_300, j_465, j_496, j_900, j_999, j_1000, j_65536, j_65537, j_99999, j_252645135, j_858993459, j_1431655765, k_0, k_1, k_27, k_32, k_74, k_75, k_100, k_1000, k_65537, hh, r3, hv, e6]
      rfl) (by
    have := hn_e HL
    unfold B_ra_underBits_4
    simp (disch := first | with_reducible assumption | omega | trivial) only [bn_s1, bd_s1, ei_l1, ei_r1, gI_J, gL_J, gR_J, aI_J, aL_J, sI_J, sL_J, pI_J, pL_J, J_add, J_sub, J_mul, J_neg, J_lt, J_le, J_eq, dv_J, rm_J, if_pos, if_neg, ↓reduceIte, bitJ, shlJ, orJ, j_0, j_1, j_2, j_3, j_4, j_5, j_6, j_7, j_8, j_9, j_10, j_11, j_12, j_13, j_14, j_15, j_16, j_17, j_18, j_19, j_20, j_21, j_22, j_23, j_24, j_25, j_26, j_27, j_28, j_29, j_30, j_31, j_32, j_33, j_34, j_35, j_36, j_37, j_38, j_39, j_40, j_41, j_42, j_43, j_44, j_45, j_46, j_47, j_48, j_49, j_50, j_51, j_52, j_57, j_59, j_63, j_74, j_75, j_93, j_97, j_99, j_100, j_122, j_200, j_255, j_300, j_465, j_496, j_900, j_999, j_1000, j_65536, j_65537, j_99999, j_252645135, j_858993459, j_1431655765, k_0, k_1, k_27, k_32, k_74, k_75, k_100, k_1000, k_65537, hh])
  unfold F_ra_underBits
  rw [ck_e k]
  simp (disch := first | with_reducible assumption | omega | trivial) only [bn_s1, bd_s1, ei_l1, ei_r1, gI_J, gL_J, gR_J, aI_J, aL_J, sI_J, sL_J, pI_J, pL_J, J_add, J_sub, J_mul, J_neg, J_lt, J_le, J_eq, dv_J, rm_J, if_pos, if_neg, ↓reduceIte, bitJ, shlJ, orJ, j_0, j_1, j_2, j_3, j_4, j_5, j_6, j_7, j_8, j_9, j_10, j_11, j_12, j_13, j_14, j_15, j_16, j_17, j_18, j_19, j_20, j_21, j_22, j_23, j_24, j_25, j_26, j_27, j_28, j_29, j_30, j_31, j_32, j_33, j_34, j_35, j_36, j_37, j_38, j_39, j_40, j_41, j_42, j_43, j_44, j_45, j_46, j_47, j_48, j_49, j_50, j_51, j_52, j_57, j_59, j_63, j_74, j_75, j_93, j_97, j_99, j_100, j_122, j_200, j_255, j_300, j_465, j_496, j_900, j_999, j_1000, j_65536, j_65537, j_99999, j_252645135, j_858993459, j_1431655765, k_0, k_1, k_27, k_32, k_74, k_75, k_100, k_1000, k_65537, e]
theorem C_dryHouses {L : Lk} {r : Nat} {h : Hp} {f : Int → Int} (HL : LW L) (HX : RS r h) (hh : fi h r 0 = L 1 0) (HH : ∀ i, 0 ≤ i → i < L 1 0 → ia h (r + 3) i = f i) : F_ra_dryHouses r h = some (J (L 1 0 - (pc5 (und f (hn L)) : Nat))) := by
  have b1 := LW_h HL
  have b2 := hn_e HL
  have k := RS_k HX
  have l := und_32 f (n := hn L) (by omega)
  unfold F_ra_dryHouses
  rw [ck_e k]
  simp (disch := first | with_reducible assumption | omega | trivial) only [bn_s1, bd_s1, ei_l1, ei_r1, gI_J, gL_J, gR_J, aI_J, aL_J, sI_J, sL_J, pI_J, pL_J, J_add, J_sub, J_mul, J_neg, J_lt, J_le, J_eq, dv_J, rm_J, if_pos, if_neg, ↓reduceIte, bitJ, shlJ, orJ, j_0, j_1, j_2, j_3, j_4, j_5, j_6, j_7, j_8, j_9, j_10, j_11, j_12, j_13, j_14, j_15, j_16, j_17, j_18, j_19, j_20, j_21, j_22, j_23, j_24, j_25, j_26, j_27, j_28, j_29, j_30, j_31, j_32, j_33, j_34, j_35, j_36, j_37, j_38, j_39, j_40, j_41, j_42, j_43, j_44, j_45, j_46, j_47, j_48, j_49, j_50, j_51, j_52, j_57, j_59, j_63, j_74, j_75, j_93, j_97, j_99, j_100, j_122, j_200, j_255, j_300, j_465, j_496, j_900, j_999, j_1000, j_65536, j_65537, j_99999, j_252645135, j_858993459, j_1431655765, k_0, k_1, k_27, k_32, k_74, k_75, k_100, k_1000, k_65537, hh, C_underBits HL HX hh HH, bc_J _ l]
theorem C_lowestHouse {L : Lk} {r : Nat} {h : Hp} {f : Int → Int} (HL : LW L) (H1 : 1 ≤ L 1 0) (HX : RS r h) (hh : fi h r 0 = L 1 0) (HH : ∀ i, 0 ≤ i → i < L 1 0 → ia h (r + 3) i = f i) : F_ra_lowestHouse r h = some (J (lw f (hn L) : Nat)) := by
  have b1 := LW_h HL
  have k := RS_k HX; have r3 := RS_r3 HX; have k3 := RS_k3 HX; have n3 := RS_n3 HX
  have b2 := hn_e HL
  have l1 : lw f 1 = 0 := by have : lw f 1 ≤ 0 := lw_lt f 0; omega
  have e := lq_for (b := B_ra_lowestHouse_4 r h) (r := J (lw f (hn L) : Nat)) (f := FU) (s := (J 0, J 1)) (fun i => (J (lw f (i + 1) : Nat), J (i + 1 : Nat))) (hn L - 1) (by unfold FU; omega) (by show _ = (J (lw f 1 : Nat), J 1); rw [l1]; rfl) (fun i hi => by
    have hi' : ((i + 1 : Nat) : Int) < L 1 0 := by rw [← hn_e HL]; omega
    have e6 : lw f (i + 1 + 1) = if f (i + 1 : Nat) < f (lw f (i + 1)) then (i + 1) else lw f (i + 1) := rfl
    have l := lw_lt f i
    have hv := HH (i + 1 : Nat) (by omega) hi'
    have hw := HH (lw f (i + 1) : Nat) (by omega) (by omega)
    have hb := ia_rg h (r + 3) (i + 1 : Nat)
    have hb' := ia_rg h (r + 3) (lw f (i + 1) : Nat)
    rw [hv] at hb
    rw [hw] at hb'
    unfold B_ra_lowestHouse_4
    by_cases hc : f (i + 1 : Nat) < f (lw f (i + 1))
    · rw [if_pos hc] at e6
      simp (disch := first | with_reducible assumption | omega | trivial) only [bn_s1, bd_s1, ei_l1, ei_r1, gI_J, gL_J, gR_J, aI_J, aL_J, sI_J, sL_J, pI_J, pL_J, J_add, J_sub, J_mul, J_neg, J_lt, J_le, J_eq, dv_J, rm_J, if_pos, if_neg, ↓reduceIte, bitJ, shlJ, orJ, j_0, j_1, j_2, j_3, j_4, j_5, j_6, j_7, j_8, j_9, j_10, j_11, j_12, j_13, j_14, j_15, j_16, j_17, j_18, j_19, j_20, j_21, j_22, j_23, j_24, j_25, j_26, j_27, j_28, j_29, j_30, j_31, j_32, j_33, j_34, j_35, j_36, j_37, j_38, j_39, j_40, j_41, j_42, j_43, j_44, j_45, j_46, j_47, j_48, j_49, j_50, j_51, j_52, j_57, j_59, j_63, j_74, j_75, j_93, j_97, j_99, j_100, j_122, j_200, j_255, j_300, j_465, j_496, j_900, j_999, j_1000, j_65536, j_65537, j_99999, j_252645135, j_858993459, j_1431655765, k_0, k_1, k_27, k_32, k_74, k_75, k_100, k_1000, k_65537, hh, r3, hv, hw, e6]
      rfl
    · rw [if_neg hc] at e6
      simp (disch := first | with_reducible assumption | omega | trivial) only [bn_s1, bd_s1, ei_l1, ei_r1, gI_J, gL_J, gR_J, aI_J, aL_J, sI_J, sL_J, pI_J, pL_J, J_add, J_sub, J_mul, J_neg, J_lt, J_le, J_eq, dv_J, rm_J, if_pos, if_neg, ↓reduceIte, bitJ, shlJ, orJ, j_0, j_1, j_2, j_3, j_4, j_5, j_6, j_7, j_8, j_9, j_10, j_11, j_12, j_13, j_14, j_15, j_16, j_17, j_18, j_19, j_20, j_21, j_22, j_23, j_24, j_25, j_26, j_27, j_28, j_29, j_30, j_31, j_32, j_33, j_34, j_35, j_36, j_37, j_38, j_39, j_40, j_41, j_42, j_43, j_44, j_45, j_46, j_47, j_48, j_49, j_50, j_51, j_52, j_57, j_59, j_63, j_74, j_75, j_93, j_97, j_99, j_100, j_122, j_200, j_255, j_300, j_465, j_496, j_900, j_999, j_1000, j_65536, j_65537, j_99999, j_252645135, j_858993459, j_1431655765, k_0, k_1, k_27, k_32, k_74, k_75, k_100, k_1000, k_65537, hh, r3, hv, hw, e6]
      rfl) (by
    have e0 : hn L - 1 + 1 = hn L := by omega
    unfold B_ra_lowestHouse_4
    rw [e0]
    simp (disch := first | with_reducible assumption | omega | trivial) only [bn_s1, bd_s1, ei_l1, ei_r1, gI_J, gL_J, gR_J, aI_J, aL_J, sI_J, sL_J, pI_J, pL_J, J_add, J_sub, J_mul, J_neg, J_lt, J_le, J_eq, dv_J, rm_J, if_pos, if_neg, ↓reduceIte, bitJ, shlJ, orJ, j_0, j_1, j_2, j_3, j_4, j_5, j_6, j_7, j_8, j_9, j_10, j_11, j_12, j_13, j_14, j_15, j_16, j_17, j_18, j_19, j_20, j_21, j_22, j_23, j_24, j_25, j_26, j_27, j_28, j_29, j_30, j_31, j_32, j_33, j_34, j_35, j_36, j_37, j_38, j_39, j_40, j_41, j_42, j_43, j_44, j_45, j_46, j_47, j_48, j_49, j_50, j_51, j_52, j_57, j_59, j_63, j_74, j_75, j_93, j_97, j_99, j_100, j_122, j_200, j_255, j_300, j_465, j_496, j_900, j_999, j_1000, j_65536, j_65537, j_99999, j_252645135, j_858993459, j_1431655765, k_0, k_1, k_27, k_32, k_74, k_75, k_100, k_1000, k_65537, hh])
  unfold F_ra_lowestHouse
  rw [ck_e k]
  simp (disch := first | with_reducible assumption | omega | trivial) only [bn_s1, bd_s1, ei_l1, ei_r1, gI_J, gL_J, gR_J, aI_J, aL_J, sI_J, sL_J, pI_J, pL_J, J_add, J_sub, J_mul, J_neg, J_lt, J_le, J_eq, dv_J, rm_J, if_pos, if_neg, ↓reduceIte, bitJ, shlJ, orJ, j_0, j_1, j_2, j_3, j_4, j_5, j_6, j_7, j_8, j_9, j_10, j_11, j_12, j_13, j_14, j_15, j_16, j_17, j_18, j_19, j_20, j_21, j_22, j_23, j_24, j_25, j_26, j_27, j_28, j_29, j_30, j_31, j_32, j_33, j_34, j_35, j_36, j_37, j_38, j_39, j_40, j_41, j_42, j_43, j_44, j_45, j_46, j_47, j_48, j_49, j_50, j_51, j_52, j_57, j_59, j_63, j_74, j_75, j_93, j_97, j_99, j_100, j_122, j_200, j_255, j_300, j_465, j_496, j_900, j_999, j_1000, j_65536, j_65537, j_99999, j_252645135, j_858993459, j_1431655765, k_0, k_1, k_27, k_32, k_74, k_75, k_100, k_1000, k_65537, e]
theorem low0 : ∀ x, x < 32 → ∀ h, h < 5 → (x % 2 ^ h = 0 ↔ ∀ j, j < h → x.testBit j = false) := by decide +kernel
def hmy (L : Lk) (c : Nat) (n : Nat) : Int := sm n (fun h => if raft L c h % 2 ^ h = 0 then 1 else 0)
theorem hmy_b (L : Lk) (c n : Nat) : 0 ≤ hmy L c n ∧ hmy L c n ≤ n := by
  have := sm_b (n := n) (f := fun h => if raft L c h % 2 ^ h = 0 then 1 else 0) (a := 0) (b := 1) (fun i hi => by
    show 0 ≤ (if raft L c i % 2 ^ i = 0 then (1 : Int) else 0) ∧ (if raft L c i % 2 ^ i = 0 then (1 : Int) else 0) ≤ 1
    split <;> omega)
  unfold hmy
  omega
theorem C_howMany {L : Lk} {r : Nat} {h : Hp} {c : Nat} (HL : LW L) (HX : RS r h) (hh : fi h r 0 = L 1 0) (HB : RB L c r h) : F_ra_howMany r h = some (J (hmy L c (hn L))) := by
  have b1 := LW_h HL
  have k := RS_k HX
  have b2 := hn_e HL
  have e := lq_for (b := B_ra_howMany_4 r h) (r := J (hmy L c (hn L))) (f := FU) (s := (J 0, J 0)) (fun i => (J (hmy L c i), J i)) (hn L) (by unfold FU; omega) rfl (fun i hi => by
    have hi' : (i : Int) < L 1 0 := by rw [← hn_e HL]; omega
    have e6 : hmy L c (i + 1) = hmy L c i + if raft L c i % 2 ^ i = 0 then 1 else 0 := rfl
    obtain ⟨m, em, m1, m2, m3⟩ := C_firstOf HL HX HB hi'
    have hp := raft_p HL c (h := i) (by omega) hi'
    have hl := low0 (raft L c i) hp.2.1 i (by omega)
    unfold B_ra_howMany_4
    by_cases hc : m = i
    · have h0 : raft L c i % 2 ^ i = 0 := hl.mpr (fun j hj => m2 j (by omega))
      rw [if_pos h0] at e6
      simp (disch := first | with_reducible assumption | omega | trivial) only [bn_s1, bd_s1, ei_l1, ei_r1, gI_J, gL_J, gR_J, aI_J, aL_J, sI_J, sL_J, pI_J, pL_J, J_add, J_sub, J_mul, J_neg, J_lt, J_le, J_eq, dv_J, rm_J, if_pos, if_neg, ↓reduceIte, bitJ, shlJ, orJ, j_0, j_1, j_2, j_3, j_4, j_5, j_6, j_7, j_8, j_9, j_10, j_11, j_12, j_13, j_14, j_15, j_16, j_17, j_18, j_19, j_20, j_21, j_22, j_23, j_24, j_25, j_26, j_27, j_28, j_29, j_30, j_31, j_32, j_33, j_34, j_35, j_36, j_37, j_38, j_39, j_40, j_41, j_42, j_43, j_44, j_45, j_46, j_47, j_48, j_49, j_50, j_51, j_52, j_57, j_59, j_63, j_74, j_75, j_93, j_97, j_99, j_100, j_122, j_200, j_255, j_300, j_465, j_496, j_900, j_999, j_1000, j_65536, j_65537, j_99999, j_252645135, j_858993459, j_1431655765, k_0, k_1, k_27, k_32, k_74, k_75, k_100, k_1000, k_65537, hh, em, e6]
      rfl
    · have h0 : ¬ raft L c i % 2 ^ i = 0 := fun q => by
        have := hl.mp q m (by omega)
        rw [m3 (by omega)] at this
        cases this
      rw [if_neg h0, Int.add_zero] at e6
      simp (disch := first | with_reducible assumption | omega | trivial) only [bn_s1, bd_s1, ei_l1, ei_r1, gI_J, gL_J, gR_J, aI_J, aL_J, sI_J, sL_J, pI_J, pL_J, J_add, J_sub, J_mul, J_neg, J_lt, J_le, J_eq, dv_J, rm_J, if_pos, if_neg, ↓reduceIte, bitJ, shlJ, orJ, j_0, j_1, j_2, j_3, j_4, j_5, j_6, j_7, j_8, j_9, j_10, j_11, j_12, j_13, j_14, j_15, j_16, j_17, j_18, j_19, j_20, j_21, j_22, j_23, j_24, j_25, j_26, j_27, j_28, j_29, j_30, j_31, j_32, j_33, j_34, j_35, j_36, j_37, j_38, j_39, j_40, j_41, j_42, j_43, j_44, j_45, j_46, j_47, j_48, j_49, j_50, j_51, j_52, j_57, j_59, j_63, j_74, j_75, j_93, j_97, j_99, j_100, j_122, j_200, j_255, j_300, j_465, j_496, j_900, j_999, j_1000, j_65536, j_65537, j_99999, j_252645135, j_858993459, j_1431655765, k_0, k_1, k_27, k_32, k_74, k_75, k_100, k_1000, k_65537, hh, em, e6]
      rfl) (by
    unfold B_ra_howMany_4
    simp (disch := first | with_reducible assumption | omega | trivial) only [bn_s1, bd_s1, ei_l1, ei_r1, gI_J, gL_J, gR_J, aI_J, aL_J, sI_J, sL_J, pI_J, pL_J, J_add, J_sub, J_mul, J_neg, J_lt, J_le, J_eq, dv_J, rm_J, if_pos, if_neg, ↓reduceIte, bitJ, shlJ, orJ, j_0, j_1, j_2, j_3, j_4, j_5, j_6, j_7, j_8, j_9, j_10, j_11, j_12, j_13, j_14, j_15, j_16, j_17, j_18, j_19, j_20, j_21, j_22, j_23, j_24, j_25, j_26, j_27, j_28, j_29, j_30, j_31, j_32, j_33, j_34, j_35, j_36, j_37, j_38, j_39, j_40, j_41, j_42, j_43, j_44, j_45, j_46, j_47, j_48, j_49, j_50, j_51, j_52, j_57, j_59, j_63, j_74, j_75, j_93, j_97, j_99, j_100, j_122, j_200, j_255, j_300, j_465, j_496, j_900, j_999, j_1000, j_65536, j_65537, j_99999, j_252645135, j_858993459, j_1431655765, k_0, k_1, k_27, k_32, k_74, k_75, k_100, k_1000, k_65537, hh])
  unfold F_ra_howMany
  rw [ck_e k]
  simp (disch := first | with_reducible assumption | omega | trivial) only [bn_s1, bd_s1, ei_l1, ei_r1, gI_J, gL_J, gR_J, aI_J, aL_J, sI_J, sL_J, pI_J, pL_J, J_add, J_sub, J_mul, J_neg, J_lt, J_le, J_eq, dv_J, rm_J, if_pos, if_neg, ↓reduceIte, bitJ, shlJ, orJ, j_0, j_1, j_2, j_3, j_4, j_5, j_6, j_7, j_8, j_9, j_10, j_11, j_12, j_13, j_14, j_15, j_16, j_17, j_18, j_19, j_20, j_21, j_22, j_23, j_24, j_25, j_26, j_27, j_28, j_29, j_30, j_31, j_32, j_33, j_34, j_35, j_36, j_37, j_38, j_39, j_40, j_41, j_42, j_43, j_44, j_45, j_46, j_47, j_48, j_49, j_50, j_51, j_52, j_57, j_59, j_63, j_74, j_75, j_93, j_97, j_99, j_100, j_122, j_200, j_255, j_300, j_465, j_496, j_900, j_999, j_1000, j_65536, j_65537, j_99999, j_252645135, j_858993459, j_1431655765, k_0, k_1, k_27, k_32, k_74, k_75, k_100, k_1000, k_65537, e]
def mxt (o : Int → Int) (x : Nat) (a : Int) : Nat → Int
  | 0 => a
  | n + 1 => if x.testBit n = true then max (mxt o x a n) (o n) else mxt o x a n
def mnt (o : Int → Int) (x : Nat) (a : Int) : Nat → Int
  | 0 => a
  | n + 1 => if x.testBit n = true then min (mnt o x a n) (o n) else mnt o x a n
theorem mxt_b {L : Lk} {o : Int → Int} (ho : OB L o) (x : Nat) {a : Int} (h1 : -100000 ≤ a) (h2 : a ≤ 100000) {n : Nat} (hn : n ≤ L 1 0) : (-100000 ≤ mxt o x a n ∧ mxt o x a n ≤ 100000) ∧ (-100000 ≤ mnt o x a n ∧ mnt o x a n ≤ 100000) := by
  induction n with
  | zero => exact ⟨⟨h1, h2⟩, h1, h2⟩
  | succ n ih =>
    have i1 := ih (by omega)
    have i2 := ho n (by omega) (by omega)
    unfold mxt mnt
    split <;> omega
theorem C_tiltOf {L : Lk} {r : Nat} {h : Hp} {c : Nat} {o : Int → Int} {z : Int} (HL : LW L) (HX : RS r h) (hh : fi h r 0 = L 1 0) (HB : RB L c r h) (HO : ROw L o r h) (ho : OB L o) (h0 : 0 ≤ z) (h1 : z < L 1 0) : F_ra_tiltOf r (J z) h = some (J (mxt o (raft L c z) (o z) (hn L) - mnt o (raft L c z) (o z) (hn L))) := by
  have b1 := LW_h HL
  have b2 := hn_e HL
  have k := RS_k HX; have r2 := RS_r2 HX; have k2 := RS_k2 HX; have n2 := RS_n2 HX; have r1 := RS_r1 HX; have k1 := RS_k1 HX; have n1 := RS_n1 HX
  have hp := raft_p HL c h0 h1
  have oz := ho z h0 h1
  have e := lq_for (b := B_ra_tiltOf_17 r (J z) h) (r := (J (mxt o (raft L c z) (o z) (hn L)), J (mnt o (raft L c z) (o z) (hn L)))) (f := FU) (s := (J (o z), J (o z), J 0)) (fun i => (J (mxt o (raft L c z) (o z) i), J (mnt o (raft L c z) (o z) i), J i)) (hn L) (by unfold FU; omega) rfl (fun i hi => by
    have hi' : (i : Int) < L 1 0 := by rw [← hn_e HL]; omega
    have bb := mxt_b ho (raft L c z) oz.1 oz.2 (n := i) (by omega)
    have oi := ho i (by omega) hi'
    have e6 : mxt o (raft L c z) (o z) (i + 1) = if (raft L c z).testBit i = true then max (mxt o (raft L c z) (o z) i) (o i) else mxt o (raft L c z) (o z) i := rfl
    have e7 : mnt o (raft L c z) (o z) (i + 1) = if (raft L c z).testBit i = true then min (mnt o (raft L c z) (o z) i) (o i) else mnt o (raft L c z) (o z) i := rfl
    unfold B_ra_tiltOf_17
    by_cases hc : (raft L c z).testBit i = true
    · rw [if_pos hc] at e6 e7
      simp (disch := first | with_reducible assumption | omega | trivial) only [bn_s1, bd_s1, ei_l1, ei_r1, gI_J, gL_J, gR_J, aI_J, aL_J, sI_J, sL_J, pI_J, pL_J, J_add, J_sub, J_mul, J_neg, J_lt, J_le, J_eq, dv_J, rm_J, if_pos, if_neg, ↓reduceIte, bitJ, shlJ, orJ, j_0, j_1, j_2, j_3, j_4, j_5, j_6, j_7, j_8, j_9, j_10, j_11, j_12, j_13, j_14, j_15, j_16, j_17, j_18, j_19, j_20, j_21, j_22, j_23, j_24, j_25, j_26, j_27, j_28, j_29, j_30, j_31, j_32, j_33, j_34, j_35, j_36, j_37, j_38, j_39, j_40, j_41, j_42, j_43, j_44, j_45, j_46, j_47, j_48, j_49, j_50, j_51, j_52, j_57, j_59, j_63, j_74, j_75, j_93, j_97, j_99, j_100, j_122, j_200, j_255, j_300, j_465, j_496, j_900, j_999, j_1000, j_65536, j_65537, j_99999, j_252645135, j_858993459, j_1431655765, k_0, k_1, k_27, k_32, k_74, k_75, k_100, k_1000, k_65537, hh, r2, HB z h0 h1, hc, r1, HO i (by omega) hi', max_e, min_e, e6, e7]
      rfl
    · rw [if_neg hc] at e6 e7
      simp (disch := first | with_reducible assumption | omega | trivial) only [bn_s1, bd_s1, ei_l1, ei_r1, gI_J, gL_J, gR_J, aI_J, aL_J, sI_J, sL_J, pI_J, pL_J, J_add, J_sub, J_mul, J_neg, J_lt, J_le, J_eq, dv_J, rm_J, if_pos, if_neg, ↓reduceIte, bitJ, shlJ, orJ, j_0, j_1, j_2, j_3, j_4, j_5, j_6, j_7, j_8, j_9, j_10, j_11, j_12, j_13, j_14, j_15, j_16, j_17, j_18, j_19, j_20, j_21, j_22, j_23, j_24, j_25, j_26, j_27, j_28, j_29, j_30, j_31, j_32, j_33, j_34, j_35, j_36, j_37, j_38, j_39, j_40, j_41, j_42, j_43, j_44, j_45, j_46, j_47, j_48, j_49, j_50, j_51, j_52, j_57, j_59, j_63, j_74, j_75, j_93, j_97, j_99, j_100, j_122, j_200, j_255, j_300, j_465, j_496, j_900, j_999, j_1000, j_65536, j_65537, j_99999, j_252645135, j_858993459, j_1431655765, k_0, k_1, k_27, k_32, k_74, k_75, k_100, k_1000, k_65537, hh, r2, HB z h0 h1, hc, e6, e7]
      rfl) (by
    unfold B_ra_tiltOf_17
    simp (disch := first | with_reducible assumption | omega | trivial) only [bn_s1, bd_s1, ei_l1, ei_r1, gI_J, gL_J, gR_J, aI_J, aL_J, sI_J, sL_J, pI_J, pL_J, J_add, J_sub, J_mul, J_neg, J_lt, J_le, J_eq, dv_J, rm_J, if_pos, if_neg, ↓reduceIte, bitJ, shlJ, orJ, j_0, j_1, j_2, j_3, j_4, j_5, j_6, j_7, j_8, j_9, j_10, j_11, j_12, j_13, j_14, j_15, j_16, j_17, j_18, j_19, j_20, j_21, j_22, j_23, j_24, j_25, j_26, j_27, j_28, j_29, j_30, j_31, j_32, j_33, j_34, j_35, j_36, j_37, j_38, j_39, j_40, j_41, j_42, j_43, j_44, j_45, j_46, j_47, j_48, j_49, j_50, j_51, j_52, j_57, j_59, j_63, j_74, j_75, j_93, j_97, j_99, j_100, j_122, j_200, j_255, j_300, j_465, j_496, j_900, j_999, j_1000, j_65536, j_65537, j_99999, j_252645135, j_858993459, j_1431655765, k_0, k_1, k_27, k_32, k_74, k_75, k_100, k_1000, k_65537, hh])
  unfold F_ra_tiltOf
  rw [ck_e k]
  simp (disch := first | with_reducible assumption | omega | trivial) only [bn_s1, bd_s1, ei_l1, ei_r1, gI_J, gL_J, gR_J, aI_J, aL_J, sI_J, sL_J, pI_J, pL_J, J_add, J_sub, J_mul, J_neg, J_lt, J_le, J_eq, dv_J, rm_J, if_pos, if_neg, ↓reduceIte, bitJ, shlJ, orJ, j_0, j_1, j_2, j_3, j_4, j_5, j_6, j_7, j_8, j_9, j_10, j_11, j_12, j_13, j_14, j_15, j_16, j_17, j_18, j_19, j_20, j_21, j_22, j_23, j_24, j_25, j_26, j_27, j_28, j_29, j_30, j_31, j_32, j_33, j_34, j_35, j_36, j_37, j_38, j_39, j_40, j_41, j_42, j_43, j_44, j_45, j_46, j_47, j_48, j_49, j_50, j_51, j_52, j_57, j_59, j_63, j_74, j_75, j_93, j_97, j_99, j_100, j_122, j_200, j_255, j_300, j_465, j_496, j_900, j_999, j_1000, j_65536, j_65537, j_99999, j_252645135, j_858993459, j_1431655765, k_0, k_1, k_27, k_32, k_74, k_75, k_100, k_1000, k_65537, r1, HO z h0 h1, e]
