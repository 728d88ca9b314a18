/-! how other lines begin in the reference -/
def bgf (L : Lk) (c m : Int) : Int := if L 31 0 = 0 then 6 else if c = m then 5 else 0
theorem D_beg {L : Lk} {b : Nat} {T : Int → Int} {n p : Nat} {h : Hp} {c m : Int} (hp : p ≤ n) (C : DP L b T n h) (H : DT T n p h) (h0 : tso T n p = 0) (hc : 0 ≤ c ∧ c ≤ 9) (hm : 0 ≤ m ∧ m ≤ 9) (hz : L 31 0 = 0 → ¬ c = m) : (bgf L c m = 0 → ∃ h', F_md_lineBegins 88 (J c) (J m) h = some h' ∧ Gf h h' ∧ DT T n (tnx T n p) h') ∧ (¬ bgf L c m = 0 → ∃ h', F_md_lineBegins 88 (J c) (J m) h = some h' ∧ FD (bgf L c m) (spn T n p : Nat) h h') := by
  have B := C.1
  have M := B.1.1
  have hb := B.2.2.2.2.2
  have er := dl_r B
  have LX := C.2.2.1
  have Y := B.2.2.1
  have mi := LW_mice C.2.1
  have ex : ∀ h', Fm 88 89 h h' → gI h' b 12 0 = some (J (lkx L 0 0)) := fun h' x => by
    rw [gI_J (YS_k (YS_fm x Y)), fm_fi x (by omega), LX.1.1]
  have e0 := ex h (fm_rf _ _ _)
  unfold bgf
  by_cases t : L 31 0 = 0
  · rw [if_pos t]
    have lx : lkx L 0 0 = -1 := by unfold lkx; rw [if_pos ⟨rfl, rfl, t⟩]
    rw [lx] at e0
    have cm := hz t
    refine ⟨fun z => by omega, fun _ => ?_⟩
    obtain ⟨h1, e1, g1⟩ := D_flaw (x := 6) B.1 hp H (by omega)
    have e2 := D_go5 (MS_fm g1.1 M) g1.2.1
    refine ⟨h1, ?_, g1⟩
    unfold F_md_lineBegins
    rw [ck_e (MS_k M)]
    try simp only [j_0, j_1, j_2, j_3, j_4, j_5, j_6, j_7, j_8, j_9, j_10, j_11, j_12, j_13, j_14, j_15, j_16, j_17, j_18, j_19, j_20, j_21, j_22, j_23, j_24, j_25, j_26, j_27, j_28, j_29, j_30, j_31, j_32, j_33, j_34, j_35, j_36, j_37, j_38, j_39, j_40, j_41, j_42, j_43, j_44, j_45, j_46, j_47, j_48, j_49, j_50, j_51, j_52, j_57, j_59, j_63, j_74, j_75, j_93, j_97, j_99, j_100, j_122, j_200, j_255, j_300, j_465, j_496, j_900, j_999, j_1000, j_65536, j_65537, j_99999, j_252645135, j_858993459, j_1431655765, k_0, k_1, k_27, k_32, k_74, k_75, k_100, k_1000, k_65537]
    simp (disch := first | with_reducible assumption | omega | trivial) only [↓bn_s1, ↓bd_s1, ↓ei_l1, ↓ei_r1, ↓bn_if, ↓ilt_1, ↓ilt_0, ↓ieq_1, ↓ieq_0, bn_s1, bd_s1, ei_l1, ei_r1, J_add, J_sub, J_mul, J_neg, J_lt, J_le, J_eq, dv_J, rm_J, if_pos, if_neg, ↓reduceIte, bitJ, shlJ, orJ, j_0, j_1, j_2, j_3, j_4, j_5, j_6, j_7, j_8, j_9, j_10, j_11, j_12, j_13, j_14, j_15, j_16, j_17, j_18, j_19, j_20, j_21, j_22, j_23, j_24, j_25, j_26, j_27, j_28, j_29, j_30, j_31, j_32, j_33, j_34, j_35, j_36, j_37, j_38, j_39, j_40, j_41, j_42, j_43, j_44, j_45, j_46, j_47, j_48, j_49, j_50, j_51, j_52, j_57, j_59, j_63, j_74, j_75, j_93, j_97, j_99, j_100, j_122, j_200, j_255, j_300, j_465, j_496, j_900, j_999, j_1000, j_65536, j_65537, j_99999, j_252645135, j_858993459, j_1431655765, k_0, k_1, k_27, k_32, k_74, k_75, k_100, k_1000, k_65537, ↓bn_e (er), er, ↓bn_e (e0), e0, ↓bn_e (e1), e1, ↓bn_e (e2), e2]
  · rw [if_neg t]
    have lx : lkx L 0 0 = L 0 0 := by unfold lkx; rw [if_neg (fun z => t z.2.2)]
    rw [lx] at e0 ex
    by_cases k : c = m
    · rw [if_pos k]
      refine ⟨fun z => by omega, fun _ => ?_⟩
      obtain ⟨h1, e1, g1⟩ := D_flaw (x := 5) B.1 hp H (by omega)
      have B1 := DL_fm g1.1 (by omega) B
      have er1 := dl_r B1
      have x1 := ex h1 g1.1
      have e2 := D_go5 (MS_fm g1.1 M) g1.2.1
      refine ⟨h1, ?_, g1⟩
      unfold F_md_lineBegins
      rw [ck_e (MS_k M), k]
      try simp only [j_0, j_1, j_2, j_3, j_4, j_5, j_6, j_7, j_8, j_9, j_10, j_11, j_12, j_13, j_14, j_15, j_16, j_17, j_18, j_19, j_20, j_21, j_22, j_23, j_24, j_25, j_26, j_27, j_28, j_29, j_30, j_31, j_32, j_33, j_34, j_35, j_36, j_37, j_38, j_39, j_40, j_41, j_42, j_43, j_44, j_45, j_46, j_47, j_48, j_49, j_50, j_51, j_52, j_57, j_59, j_63, j_74, j_75, j_93, j_97, j_99, j_100, j_122, j_200, j_255, j_300, j_465, j_496, j_900, j_999, j_1000, j_65536, j_65537, j_99999, j_252645135, j_858993459, j_1431655765, k_0, k_1, k_27, k_32, k_74, k_75, k_100, k_1000, k_65537]
      simp (disch := first | with_reducible assumption | omega | trivial) only [↓bn_s1, ↓bd_s1, ↓ei_l1, ↓ei_r1, ↓bn_if, ↓ilt_1, ↓ilt_0, ↓ieq_1, ↓ieq_0, bn_s1, bd_s1, ei_l1, ei_r1, J_add, J_sub, J_mul, J_neg, J_lt, J_le, J_eq, dv_J, rm_J, if_pos, if_neg, ↓reduceIte, bitJ, shlJ, orJ, j_0, j_1, j_2, j_3, j_4, j_5, j_6, j_7, j_8, j_9, j_10, j_11, j_12, j_13, j_14, j_15, j_16, j_17, j_18, j_19, j_20, j_21, j_22, j_23, j_24, j_25, j_26, j_27, j_28, j_29, j_30, j_31, j_32, j_33, j_34, j_35, j_36, j_37, j_38, j_39, j_40, j_41, j_42, j_43, j_44, j_45, j_46, j_47, j_48, j_49, j_50, j_51, j_52, j_57, j_59, j_63, j_74, j_75, j_93, j_97, j_99, j_100, j_122, j_200, j_255, j_300, j_465, j_496, j_900, j_999, j_1000, j_65536, j_65537, j_99999, j_252645135, j_858993459, j_1431655765, k_0, k_1, k_27, k_32, k_74, k_75, k_100, k_1000, k_65537, ↓bn_e (e1), e1, ↓bn_e (er1), er1, ↓bn_e (x1), x1, ↓bn_e (e2), e2]
    · rw [if_neg k]
      refine ⟨fun _ => ?_, fun z => absurd rfl z⟩
      obtain ⟨h1, e1, g1, c1, _⟩ := D_ad B.1 hp H (by omega)
      refine ⟨h1, ?_, g1, c1⟩
      unfold F_md_lineBegins
      rw [ck_e (MS_k M)]
      try simp only [j_0, j_1, j_2, j_3, j_4, j_5, j_6, j_7, j_8, j_9, j_10, j_11, j_12, j_13, j_14, j_15, j_16, j_17, j_18, j_19, j_20, j_21, j_22, j_23, j_24, j_25, j_26, j_27, j_28, j_29, j_30, j_31, j_32, j_33, j_34, j_35, j_36, j_37, j_38, j_39, j_40, j_41, j_42, j_43, j_44, j_45, j_46, j_47, j_48, j_49, j_50, j_51, j_52, j_57, j_59, j_63, j_74, j_75, j_93, j_97, j_99, j_100, j_122, j_200, j_255, j_300, j_465, j_496, j_900, j_999, j_1000, j_65536, j_65537, j_99999, j_252645135, j_858993459, j_1431655765, k_0, k_1, k_27, k_32, k_74, k_75, k_100, k_1000, k_65537]
      simp (disch := first | with_reducible assumption | omega | trivial) only [↓bn_s1, ↓bd_s1, ↓ei_l1, ↓ei_r1, ↓bn_if, ↓ilt_1, ↓ilt_0, ↓ieq_1, ↓ieq_0, bn_s1, bd_s1, ei_l1, ei_r1, J_add, J_sub, J_mul, J_neg, J_lt, J_le, J_eq, dv_J, rm_J, if_pos, if_neg, ↓reduceIte, bitJ, shlJ, orJ, j_0, j_1, j_2, j_3, j_4, j_5, j_6, j_7, j_8, j_9, j_10, j_11, j_12, j_13, j_14, j_15, j_16, j_17, j_18, j_19, j_20, j_21, j_22, j_23, j_24, j_25, j_26, j_27, j_28, j_29, j_30, j_31, j_32, j_33, j_34, j_35, j_36, j_37, j_38, j_39, j_40, j_41, j_42, j_43, j_44, j_45, j_46, j_47, j_48, j_49, j_50, j_51, j_52, j_57, j_59, j_63, j_74, j_75, j_93, j_97, j_99, j_100, j_122, j_200, j_255, j_300, j_465, j_496, j_900, j_999, j_1000, j_65536, j_65537, j_99999, j_252645135, j_858993459, j_1431655765, k_0, k_1, k_27, k_32, k_74, k_75, k_100, k_1000, k_65537, ↓bn_e (er), er, ↓bn_e (e0), e0, ↓bn_e (e1), e1]
/-- one more of a sort: its number c grows, three rows take a value -/
def ap3 (L : Lk) (c k1 : Nat) (v1 : Int) (k2 : Nat) (v2 : Int) (k3 : Nat) (v3 : Int) : Lk := fun k i => if k = c then (if i = 0 then L c 0 + 1 else L k i) else if k = k1 then (if i = L c 0 then v1 else L k i) else if k = k2 then (if i = L c 0 then v2 else L k i) else if k = k3 then (if i = L c 0 then v3 else L k i) else L k i
/-! gave -/
def a_gav (L : Lk) (T : Int → Int) (n p : Nat) : Lo := if pkf L T n p 2 = 0 then (if pkf L T n (tnx T n p) 0 = 0 then (if pwf T n (tnx T n (tnx T n p)) 1 20 = 0 then .inl (tnx T n (tnx T n (tnx T n p)), ap3 L 6 22 (knb L T n p) 23 (knb L T n (tnx T n p)) 24 (tnm T n (tnx T n (tnx T n p)))) else .inr (pwf T n (tnx T n (tnx T n p)) 1 20, (spn T n (tnx T n (tnx T n p)) : Nat))) else .inr (pkf L T n (tnx T n p) 0, (spn T n (tnx T n p) : Nat))) else .inr (pkf L T n p 2, (spn T n p : Nat))
theorem pkf_0 {L : Lk} {T : Int → Int} {n p : Nat} {s : Int} (N : NW L) (z : pkf L T n p s = 0) : tso T n p = 0 ∧ 0 ≤ frs L (t32 T n p) ∧ frs L (t32 T n p) < L 8 0 ∧ L 28 (frs L (t32 T n p)) = s ∧ 0 ≤ knb L T n p ∧ knb L T n p ≤ 4 := by
  unfold pkf at z
  by_cases c : isN T n p = true
  · rw [if_pos c] at z
    by_cases d : 0 ≤ frs L (t32 T n p) ∧ L 28 (frs L (t32 T n p)) = s
    · have f := (frs_b (x := t32 T n p) N).2 d.1
      have q := N.2 _ d.1 f.1
      exact ⟨(of_decide_eq_true c).1, d.1, f.1, d.2, q.2.2.1, q.2.2.2⟩
    · rw [if_neg d] at z; omega
  · rw [if_neg c] at z; omega
theorem LW_gav {L : Lk} {d x w : Int} (H : LW L) (h6 : L 6 0 < 4) (hd : 0 ≤ d ∧ d < L 4 0) (hx : 0 ≤ x ∧ x < L 1 0) (hw : 1 ≤ w ∧ w ≤ 20) : LW (ap3 L 6 22 d 23 x 24 w) := by
  obtain ⟨a0, a1, a2, a3, a4, a5, a6, a7, a8, a9, a10, a11, a12, a13, a14, a15⟩ := H
  refine ⟨a0, a1, a2, a3, a4, a5, ?_, a7, a8, a9, a10, a11, a12, a13, ?_, a15⟩
  · show 0 ≤ L 6 0 + 1 ∧ L 6 0 + 1 ≤ 4
    omega
  · intro i i0 i1
    replace i1 : i < L 6 0 + 1 := i1
    show 0 ≤ (if i = L 6 0 then d else L 22 i) ∧ (if i = L 6 0 then d else L 22 i) < L 4 0 ∧ 0 ≤ (if i = L 6 0 then x else L 23 i) ∧ (if i = L 6 0 then x else L 23 i) < L 1 0 ∧ 1 ≤ (if i = L 6 0 then w else L 24 i) ∧ (if i = L 6 0 then w else L 24 i) ≤ 20
    by_cases e : i = L 6 0
    · rw [if_pos e, if_pos e, if_pos e]; exact ⟨hd.1, hd.2, hx.1, hx.2, hw.1, hw.2⟩
    · rw [if_neg e, if_neg e, if_neg e]; exact a14 i i0 (by omega)
