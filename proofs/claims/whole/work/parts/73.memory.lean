/-! State: save and load; Memory -/
def SE (L : Lk) (a : Nat) (q : Int) (S : Sk) (h : Hp) : Prop := (∀ i, 0 ≤ i → i < 25 → ia h a (31 * q + i) = S i) ∧ (∀ g, 0 ≤ g → g < L 3 0 → ia h a (31 * q + 25 + g) = S (25 + g)) ∧ ia h a (31 * q + 28) = 2 ^ rn L - 1 - S 28 ∧ ia h a (31 * q + 29) = S 30 ∧ ia h a (31 * q + 30) = S 29
theorem C_save {L : Lk} {b a : Nat} {h : Hp} {S : Sk} {q : Int} {n : Nat} (HL : LW L) (H : SS b h) (HS : SR L b S h) (ka : kd h a = 100) (na : (iA h a).length = n) (q0 : 0 ≤ q) (q1 : 31 * q + 31 ≤ n) (hn : n < 1000) (hd : a < b ∨ b + 3 ≤ a) (lb : b < 1000) (la : a < 1000) : ∃ h', F_st_save b a (J q) h = some h' ∧ Fm a (a + 1) h h' ∧ SE L a q S h' ∧ (∀ i, 0 ≤ i → i < 31 * q ∨ 31 * q + 31 ≤ i → ia h' a i = ia h a i) := by
  have bg := LW_g HL
  have k := SS_k H; have r0 := SS_r0 H; have k0 := SS_k0 H; have n0 := SS_n0 H; have r1 := SS_r1 H; have k1 := SS_k1 H; have n1 := SS_n1 H
  have an := aN_J ka na
  obtain ⟨h1, e1, f1, g1⟩ := cp_J (h := h) (a := b + 1) (b := a) (x := 0) (y := 31 * q) (n := 25) k0 ka (by omega) (by omega) (by omega) (by omega) (by omega) (by omega) (by omega) (by omega) (by omega) (by omega)
  have H1 := SS_fm f1 H
  have k' := SS_k H1; have r1' := SS_r1 H1; have k1' := SS_k1 H1; have n1' := SS_n1 H1
  have ka1 : kd h1 a = 100 := by rw [fm_kd f1]; exact ka
  have na1 : (iA h1 a).length = n := by rw [fm_len f1]; exact na
  obtain ⟨h2, e2, f2, g2⟩ := cp_J (h := h1) (a := b + 2) (b := a) (x := 0) (y := 31 * q + 25) (n := 3) k1' ka1 (by omega) (by omega) (by omega) (by omega) (by omega) (by omega) (by omega) (by omega) (by omega) (by omega)
  have F2 : Fm a (a + 1) h h2 := fm_tr f1 f2
  have H2 := SS_fm F2 H
  have k2 := SS_k H2
  have S2 := SR_fm F2 (by omega) HS
  have ka2 : kd h2 a = 100 := by rw [fm_kd F2]; exact ka
  have na2 : (iA h2 a).length = n := by rw [fm_len F2]; exact na
  have g2r := fi_rg h2 b 2
  have g3r := fi_rg h2 b 3
  have g4r := fi_rg h2 b 4
  have fA : Fm a (a + 1) h2 (wA h2 a (31 * q + 28) (fi h2 b 2)) := fm_wA (by omega) (by omega)
  have k3 := SS_k (SS_fm fA H2)
  have ka3 : kd (wA h2 a (31 * q + 28) (fi h2 b 2)) a = 100 := by rw [fm_kd fA]; exact ka2
  have na3 : (iA (wA h2 a (31 * q + 28) (fi h2 b 2)) a).length = n := by rw [fm_len fA]; exact na2
  have x3 : fi (wA h2 a (31 * q + 28) (fi h2 b 2)) b 3 = fi h2 b 3 := fm_fi fA (by omega) 3
  have fB : Fm a (a + 1) (wA h2 a (31 * q + 28) (fi h2 b 2)) (wA (wA h2 a (31 * q + 28) (fi h2 b 2)) a (31 * q + 29) (fi h2 b 3)) := fm_wA (by omega) (by omega)
  have fAB := fm_tr fA fB
  have k4 := SS_k (SS_fm fAB H2)
  have ka4 : kd (wA (wA h2 a (31 * q + 28) (fi h2 b 2)) a (31 * q + 29) (fi h2 b 3)) a = 100 := by rw [fm_kd fAB]; exact ka2
  have na4 : (iA (wA (wA h2 a (31 * q + 28) (fi h2 b 2)) a (31 * q + 29) (fi h2 b 3)) a).length = n := by rw [fm_len fAB]; exact na2
  have x4 : fi (wA (wA h2 a (31 * q + 28) (fi h2 b 2)) a (31 * q + 29) (fi h2 b 3)) b 4 = fi h2 b 4 := fm_fi fAB (by omega) 4
  have q5 : q * 31 = 31 * q := by omega
  have q6 : 31 * q + 31 - 3 = 31 * q + 28 := by omega
  have q7 : 31 * q + 31 - 2 = 31 * q + 29 := by omega
  have q8 : 31 * q + 31 - 1 = 31 * q + 30 := by omega
  refine ⟨wA (wA (wA h2 a (31 * q + 28) (fi h2 b 2)) a (31 * q + 29) (fi h2 b 3)) a (31 * q + 30) (fi h2 b 4), ?_, fm_tr F2 (fm_tr fAB (fm_wA (by omega) (by omega))), ⟨fun i i0 i1 => ?_, fun g g0 g1' => ?_, ?_, ?_, ?_⟩, fun i i0 i1 => ?_⟩
  · unfold F_st_save
    rw [ck_e k]
    simp (disch := first | with_reducible assumption | omega | trivial) only [bn_s1, bd_s1, ei_l1, ei_r1, gI_J, gL_J, gR_J, aI_J, aL_J, sI_J, sL_J, pI_J, pL_J, J_add, J_sub, J_mul, J_neg, J_lt, J_le, J_eq, dv_J, rm_J, if_pos, if_neg, ↓reduceIte, bitJ, shlJ, orJ, j_0, j_1, j_2, j_3, j_4, j_5, j_6, j_7, j_8, j_9, j_10, j_11, j_12, j_13, j_14, j_15, j_16, j_17, j_18, j_19, j_20, j_21, j_22, j_23, j_24, j_25, j_26, j_27, j_28, j_29, j_30, j_31, j_32, j_33, j_34, j_35, j_36, j_37, j_38, j_39, j_40, j_41, j_42, j_43, j_44, j_45, j_46, j_47, j_48, j_49, j_50, j_51, j_52, j_57, j_59, j_63, j_74, j_75, j_93, j_97, j_99, j_100, j_122, j_200, j_255, j_300, j_465, j_496, j_900, j_999, j_1000, j_65536, j_65537, j_99999, j_252645135, j_858993459, j_1431655765, k_0, k_1, k_27, k_32, k_74, k_75, k_100, k_1000, k_65537, q5, an, r0, e1, r1', e2, q6, x3, q7, x4, q8]
  · rw [ia_ne (by omega) (by omega) (by omega), ia_ne (by omega) (by omega) (by omega), ia_ne (by omega) (by omega) (by omega), g2 _ (by omega), if_neg (by omega), g1 _ (by omega), if_pos (by omega)]
    have e : 0 + (31 * q + i) - 31 * q = i := by omega
    rw [e]; exact HS.1 i i0 i1
  · rw [ia_ne (by omega) (by omega) (by omega), ia_ne (by omega) (by omega) (by omega), ia_ne (by omega) (by omega) (by omega), g2 _ (by omega), if_pos (by omega)]
    have e : 0 + (31 * q + 25 + g) - (31 * q + 25) = g := by omega
    rw [e, fm_ia f1 (by omega)]; exact HS.2.1 g g0 g1'
  · rw [ia_ne (by omega) (by omega) (by omega), ia_ne (by omega) (by omega) (by omega), ia_same (by omega) (by omega) (by omega) (by omega)]; exact S2.2.2.1
  · rw [ia_ne (by omega) (by omega) (by omega), ia_same (by omega) (by omega) (by omega) (by omega)]; exact S2.2.2.2.1
  · rw [ia_same (by omega) (by omega) (by omega) (by omega)]; exact S2.2.2.2.2
  · rw [ia_ne (by omega) (by omega) (by omega), ia_ne (by omega) (by omega) (by omega), ia_ne (by omega) (by omega) (by omega), g2 _ (by omega), if_neg (by omega), g1 _ (by omega), if_neg (by omega)]
theorem C_load {L : Lk} {b a : Nat} {h : Hp} {S : Sk} {q : Int} {n : Nat} (HL : LW L) (H : SS b h) (HE : SE L a q S h) (ka : kd h a = 100) (na : (iA h a).length = n) (q0 : 0 ≤ q) (q1 : 31 * q + 31 ≤ n) (hn : n < 1000) (hd : a < b ∨ b + 3 ≤ a) (lb : b < 1000) (la : a < 1000) : ∃ h', F_st_load b a (J q) h = some h' ∧ Fm b (b + 3) h h' ∧ SR L b S h' := by
  have bg := LW_g HL
  have k := SS_k H; have r0 := SS_r0 H; have k0 := SS_k0 H; have n0 := SS_n0 H
  have an := aN_J ka na
  obtain ⟨h1, e1, f1, g1⟩ := cp_J (h := h) (a := a) (b := b + 1) (x := 31 * q) (y := 0) (n := 25) ka k0 (by omega) (by omega) (by omega) (by omega) (by omega) (by omega) (by omega) (by omega) (by omega) (by omega)
  have H1 := SS_fm f1 H
  have k' := SS_k H1; have r1' := SS_r1 H1; have k1' := SS_k1 H1; have n1' := SS_n1 H1
  have ka1 : kd h1 a = 100 := by rw [fm_kd f1]; exact ka
  have na1 : (iA h1 a).length = n := by rw [fm_len f1]; exact na
  obtain ⟨h2, e2, f2, g2⟩ := cp_J (h := h1) (a := a) (b := b + 2) (x := 31 * q + 25) (y := 0) (n := 3) ka1 k1' (by omega) (by omega) (by omega) (by omega) (by omega) (by omega) (by omega) (by omega) (by omega) (by omega)
  have F2 : Fm b (b + 3) h h2 := fm_tr (fm_wd f1 (by omega) (by omega)) (fm_wd f2 (by omega) (by omega))
  have k2 := SS_k (SS_fm F2 H)
  have ka2 : kd h2 a = 100 := by rw [fm_kd F2]; exact ka
  have na2 : (iA h2 a).length = n := by rw [fm_len F2]; exact na
  have v2 : ia h2 a (31 * q + 28) = ia h a (31 * q + 28) := fm_ia F2 (by omega) _
  have R2 := ia_rg h a (31 * q + 28)
  have R3 := ia_rg h a (31 * q + 29)
  have R4 := ia_rg h a (31 * q + 30)
  have fA : Fm b (b + 3) h2 (wF h2 b 2 (ia h a (31 * q + 28))) := fm_wF (by omega) (by omega)
  have FA := fm_tr F2 fA
  have k3 := SS_k (SS_fm FA H)
  have ka3 : kd (wF h2 b 2 (ia h a (31 * q + 28))) a = 100 := by rw [fm_kd FA]; exact ka
  have na3 : (iA (wF h2 b 2 (ia h a (31 * q + 28))) a).length = n := by rw [fm_len FA]; exact na
  have v3 : ia (wF h2 b 2 (ia h a (31 * q + 28))) a (31 * q + 29) = ia h a (31 * q + 29) := fm_ia FA (by omega) _
  have fB : Fm b (b + 3) (wF h2 b 2 (ia h a (31 * q + 28))) (wF (wF h2 b 2 (ia h a (31 * q + 28))) b 3 (ia h a (31 * q + 29))) := fm_wF (by omega) (by omega)
  have FB := fm_tr FA fB
  have k4 := SS_k (SS_fm FB H)
  have ka4 : kd (wF (wF h2 b 2 (ia h a (31 * q + 28))) b 3 (ia h a (31 * q + 29))) a = 100 := by rw [fm_kd FB]; exact ka
  have na4 : (iA (wF (wF h2 b 2 (ia h a (31 * q + 28))) b 3 (ia h a (31 * q + 29))) a).length = n := by rw [fm_len FB]; exact na
  have v4 : ia (wF (wF h2 b 2 (ia h a (31 * q + 28))) b 3 (ia h a (31 * q + 29))) a (31 * q + 30) = ia h a (31 * q + 30) := fm_ia FB (by omega) _
  have q5 : q * 31 = 31 * q := by omega
  have q6 : 31 * q + 31 - 3 = 31 * q + 28 := by omega
  have q7 : 31 * q + 31 - 2 = 31 * q + 29 := by omega
  have q8 : 31 * q + 31 - 1 = 31 * q + 30 := by omega
  refine ⟨wF (wF (wF h2 b 2 (ia h a (31 * q + 28))) b 3 (ia h a (31 * q + 29))) b 4 (ia h a (31 * q + 30)), ?_, fm_tr FB (fm_wF (by omega) (by omega)), fun i i0 i1 => ?_, fun g g0 g1' => ?_, ?_, ?_, ?_⟩
  · unfold F_st_load
    rw [ck_e k]
    simp (disch := first | with_reducible assumption | omega | trivial) only [bn_s1, bd_s1, ei_l1, ei_r1, gI_J, gL_J, gR_J, aI_J, aL_J, sI_J, sL_J, pI_J, pL_J, J_add, J_sub, J_mul, J_neg, J_lt, J_le, J_eq, dv_J, rm_J, if_pos, if_neg, ↓reduceIte, bitJ, shlJ, orJ, j_0, j_1, j_2, j_3, j_4, j_5, j_6, j_7, j_8, j_9, j_10, j_11, j_12, j_13, j_14, j_15, j_16, j_17, j_18, j_19, j_20, j_21, j_22, j_23, j_24, j_25, j_26, j_27, j_28, j_29, j_30, j_31, j_32, j_33, j_34, j_35, j_36, j_37, j_38, j_39, j_40, j_41, j_42, j_43, j_44, j_45, j_46, j_47, j_48, j_49, j_50, j_51, j_52, j_57, j_59, j_63, j_74, j_75, j_93, j_97, j_99, j_100, j_122, j_200, j_255, j_300, j_465, j_496, j_900, j_999, j_1000, j_65536, j_65537, j_99999, j_252645135, j_858993459, j_1431655765, k_0, k_1, k_27, k_32, k_74, k_75, k_100, k_1000, k_65537, q5, an, r0, e1, r1', e2, q6, v2, v3, q7, v4, q8]
  · show ia h2 (b + 1) i = S i
    rw [fm_ia f2 (by omega), g1 i i0, if_pos (by omega)]
    have e : 31 * q + i - 0 = 31 * q + i := by omega
    rw [e]; exact HE.1 i i0 i1
  · show ia h2 (b + 2) g = S (25 + g)
    rw [g2 g g0, if_pos (by omega)]
    have e : 31 * q + 25 + g - 0 = 31 * q + 25 + g := by omega
    rw [e, fm_ia f1 (by omega)]; exact HE.2.1 g g0 g1'
  · rw [fi_ne (by omega), fi_ne (by omega), fi_same (by omega) (by omega)]; exact HE.2.2.1
  · rw [fi_ne (by omega), fi_same (by omega) (by omega)]; exact HE.2.2.2.1
  · rw [fi_same (by omega) (by omega)]; exact HE.2.2.2.2
/-- the memory: n states that can be undone (0 the oldest), m images -/
def MR (L : Lk) (P : Nat → Sk) (n : Nat) (I : Nat → Sk) (m : Nat) (h : Hp) : Prop := n ≤ 16 ∧ m ≤ 3 ∧ fi h 54 3 = n ∧ fi h 54 4 = m ∧ (∀ j : Nat, j < m → SE L 56 j (I j) h) ∧ (∃ q : Nat, q < 16 ∧ fi h 54 2 = q ∧ ∀ j : Nat, j < n → SE L 55 (((q + 16 - n + j) % 16 : Nat) : Int) (P j) h)
def kpP (P : Nat → Sk) (n : Nat) (S : Sk) : Nat → Sk := if n < 16 then (fun j => if j = n then S else P j) else (fun j => if j = 15 then S else P (j + 1))
theorem SE_out {L : Lk} {a : Nat} {q p : Int} {S : Sk} {h h' : Hp} (hg : L 3 0 ≤ 3) (q0 : 0 ≤ q) (hne : q ≠ p) (ho : ∀ i, 0 ≤ i → i < 31 * p ∨ 31 * p + 31 ≤ i → ia h' a i = ia h a i) (H : SE L a q S h) : SE L a q S h' := by
  obtain ⟨a1, a2, a3, a4, a5⟩ := H
  refine ⟨fun i i0 i1 => ?_, fun g g0 g1 => ?_, ?_, ?_, ?_⟩
  · rw [ho _ (by omega) (by omega)]; exact a1 i i0 i1
  · rw [ho _ (by omega) (by omega)]; exact a2 g g0 g1
  · rw [ho _ (by omega) (by omega)]; exact a3
  · rw [ho _ (by omega) (by omega)]; exact a4
  · rw [ho _ (by omega) (by omega)]; exact a5
theorem SE_fm {L : Lk} {a lo hi : Nat} {q : Int} {S : Sk} {h h' : Hp} (x : Fm lo hi h h') (ha : a < lo ∨ hi ≤ a) (H : SE L a q S h) : SE L a q S h' := by
  unfold SE
  simp (disch := omega) only [fm_ia x]
  exact H
theorem MR_fm {L : Lk} {P : Nat → Sk} {n : Nat} {I : Nat → Sk} {m lo hi : Nat} {h h' : Hp} (x : Fm lo hi h h') (hd : 57 ≤ lo ∨ hi ≤ 54) (H : MR L P n I m h) : MR L P n I m h' := by
  obtain ⟨a1, a2, a3, a4, a5, q, a6, a7, a8⟩ := H
  refine ⟨a1, a2, ?_, ?_, fun j hj => SE_fm x (by omega) (a5 j hj), q, a6, ?_, fun j hj => SE_fm x (by omega) (a8 j hj)⟩
  · rw [fm_fi x (by omega)]; exact a3
  · rw [fm_fi x (by omega)]; exact a4
  · rw [fm_fi x (by omega)]; exact a7
theorem C_keep {L : Lk} {P : Nat → Sk} {n : Nat} {I : Nat → Sk} {m : Nat} {h : Hp} {S : Sk} (HL : LW L) (HE : ES h) (H : SS 44 h) (HS : SR L 44 S h) (HM : MR L P n I m h) : ∃ h', F_me_keep 54 44 h = some h' ∧ Fm 54 56 h h' ∧ MR L (kpP P n S) (min (n + 1) 16) I m h' := by
  obtain ⟨a1, a2, a3, a4, a5, q, a6, a7, a8⟩ := HM
  have bg := LW_g HL
  have k := ES_k HE; have r0 := ES_r0 HE; have k0 := ES_k0 HE; have n0 := ES_n0 HE
  obtain ⟨h1, e1, f1, g1, o1⟩ := C_save HL H HS k0 n0 (q := q) (by omega) (by omega) (by omega) (by omega) (by omega) (by omega)
  have k1 : kd h1 54 = 3 := by rw [fm_kd f1]; exact k
  have v2 : fi h1 54 2 = q := by rw [fm_fi f1 (by omega)]; exact a7
  have v3 : fi h1 54 3 = n := by rw [fm_fi f1 (by omega)]; exact a3
  have em : Int.tmod ((q : Int) + 1) 16 = ((q + 1) % 16 : Nat) := by rw [Int.tmod_eq_emod_of_nonneg (by omega)]; omega
  have k2 : kd (wF h1 54 2 ((q + 1) % 16 : Nat)) 54 = 3 := by rw [kd_wF]; exact k1
  have x3 : fi (wF h1 54 2 ((q + 1) % 16 : Nat)) 54 3 = n := by rw [fi_ne (by omega)]; exact v3
  have mn : min ((n : Int) + 1) 16 = (min (n + 1) 16 : Nat) := by omega
  have fA : Fm 54 56 h1 (wF (wF h1 54 2 ((q + 1) % 16 : Nat)) 54 3 (min (n + 1) 16 : Nat)) := fm_tr (fm_wF (by omega) (by omega)) (fm_wF (by omega) (by omega))
  have iaE : ∀ a z, ia (wF (wF h1 54 2 ((q + 1) % 16 : Nat)) 54 3 (min (n + 1) 16 : Nat)) a z = ia h1 a z := fun _ _ => rfl
  have seE : ∀ a p T, SE L a p T h1 → SE L a p T (wF (wF h1 54 2 ((q + 1) % 16 : Nat)) 54 3 (min (n + 1) 16 : Nat)) := fun a p T x => x
  refine ⟨wF (wF h1 54 2 ((q + 1) % 16 : Nat)) 54 3 (min (n + 1) 16 : Nat), ?_, fm_tr (fm_wd f1 (by omega) (by omega)) fA, by omega, a2, ?_, ?_, fun j hj => seE _ _ _ (SE_fm f1 (by omega) (a5 j hj)), (q + 1) % 16, by omega, ?_, fun j hj => seE _ _ _ ?_⟩
  · unfold F_me_keep
    rw [ck_e k]
    simp (disch := first | with_reducible assumption | omega | trivial) only [bn_s1, bd_s1, ei_l1, ei_r1, gI_J, gL_J, gR_J, aI_J, aL_J, sI_J, sL_J, pI_J, pL_J, J_add, J_sub, J_mul, J_neg, J_lt, J_le, J_eq, dv_J, rm_J, if_pos, if_neg, ↓reduceIte, bitJ, shlJ, orJ, j_0, j_1, j_2, j_3, j_4, j_5, j_6, j_7, j_8, j_9, j_10, j_11, j_12, j_13, j_14, j_15, j_16, j_17, j_18, j_19, j_20, j_21, j_22, j_23, j_24, j_25, j_26, j_27, j_28, j_29, j_30, j_31, j_32, j_33, j_34, j_35, j_36, j_37, j_38, j_39, j_40, j_41, j_42, j_43, j_44, j_45, j_46, j_47, j_48, j_49, j_50, j_51, j_52, j_57, j_59, j_63, j_74, j_75, j_93, j_97, j_99, j_100, j_122, j_200, j_255, j_300, j_465, j_496, j_900, j_999, j_1000, j_65536, j_65537, j_99999, j_252645135, j_858993459, j_1431655765, k_0, k_1, k_27, k_32, k_74, k_75, k_100, k_1000, k_65537, r0, a7, e1, v2, em, x3, min_e, mn]
  · exact fi_same (by omega) (by omega)
  · rw [fi_ne (by omega), fi_ne (by omega), fm_fi f1 (by omega)]; exact a4
  · rw [fi_ne (by omega), fi_same (by omega) (by omega)]
  · unfold kpP
    by_cases c : n < 16
    · rw [if_pos c]
      have en : min (n + 1) 16 = n + 1 := by omega
      rw [en] at hj ⊢
      by_cases cj : j = n
      · have : ((q + 1) % 16 + 16 - (n + 1) + j) % 16 = q := by omega
        rw [this, if_pos cj]; exact g1
      · have : ((q + 1) % 16 + 16 - (n + 1) + j) % 16 = (q + 16 - n + j) % 16 := by omega
        rw [this, if_neg cj]
        exact SE_out bg.2 (by omega) (by omega) o1 (a8 j (by omega))
    · rw [if_neg c]
      have en : min (n + 1) 16 = 16 := by omega
      have en' : n = 16 := by omega
      rw [en] at hj ⊢
      by_cases cj : j = 15
      · have : ((q + 1) % 16 + 16 - 16 + j) % 16 = q := by omega
        rw [this, if_pos cj]; exact g1
      · have : ((q + 1) % 16 + 16 - 16 + j) % 16 = (q + 16 - n + (j + 1)) % 16 := by omega
        rw [this, if_neg cj]
        exact SE_out bg.2 (by omega) (by omega) o1 (a8 (j + 1) (by omega))
theorem C_takeBack {L : Lk} {P : Nat → Sk} {n : Nat} {I : Nat → Sk} {m : Nat} {h : Hp} (HL : LW L) (HE : ES h) (H : SS 44 h) (HM : MR L P (n + 1) I m h) : ∃ h', F_me_takeBack 54 44 h = some h' ∧ Fm 44 55 h h' ∧ (∀ a, 47 ≤ a → a < 54 → fI h' a = fI h a ∧ fL h' a = fL h a ∧ iA h' a = iA h a ∧ lA h' a = lA h a) ∧ MR L P n I m h' ∧ SR L 44 (P n) h' := by
  obtain ⟨a1, a2, a3, a4, a5, q, a6, a7, a8⟩ := HM
  have k := ES_k HE
  have em : Int.tmod ((q : Int) + 16 - 1) 16 = ((q + 15) % 16 : Nat) := by rw [Int.tmod_eq_emod_of_nonneg (by omega)]; omega
  have f1 : Fm 54 55 h (wF (wF h 54 2 ((q + 15) % 16 : Nat)) 54 3 n) := fm_tr (fm_wF (by omega) (by omega)) (fm_wF (by omega) (by omega))
  have HE1 := ES_fm f1 HE
  have k1 := ES_k HE1; have r0 := ES_r0 HE1; have k0 := ES_k0 HE1; have n0 := ES_n0 HE1
  have ka : kd (wF h 54 2 ((q + 15) % 16 : Nat)) 54 = 3 := by rw [kd_wF]; exact k
  have v3 : fi (wF h 54 2 ((q + 15) % 16 : Nat)) 54 3 = (n : Int) + 1 := by rw [fi_ne (by omega), a3]; rfl
  have v2 : fi (wF (wF h 54 2 ((q + 15) % 16 : Nat)) 54 3 n) 54 2 = ((q + 15) % 16 : Nat) := by rw [fi_ne (by omega), fi_same (by omega) (by omega)]
  have x1 : (n : Int) + 1 - 1 = n := by omega
  have sE : SE L 55 ((q + 15) % 16 : Nat) (P n) (wF (wF h 54 2 ((q + 15) % 16 : Nat)) 54 3 n) := by
    have := a8 n (by omega)
    have e : (q + 16 - (n + 1) + n) % 16 = (q + 15) % 16 := by omega
    rw [e] at this
    exact this
  obtain ⟨h2, e2, f2, g2⟩ := C_load HL (SS_fm f1 H) sE k0 n0 (by omega) (by omega) (by omega) (by omega) (by omega) (by omega)
  refine ⟨h2, ?_, fm_tr (fm_wd f1 (by omega) (by omega)) (fm_wd f2 (by omega) (by omega)), fun a h1 h3 => ?_, ⟨by omega, a2, ?_, ?_, fun j hj => SE_fm (fm_tr (fm_wd f1 (by omega) (by omega)) (fm_wd f2 (by omega) (by omega)) : Fm 44 55 h h2) (by omega) (a5 j hj), (q + 15) % 16, by omega, ?_, fun j hj => ?_⟩, g2⟩
  · unfold F_me_takeBack
    rw [ck_e k]
    simp (disch := first | with_reducible assumption | omega | trivial) only [bn_s1, bd_s1, ei_l1, ei_r1, gI_J, gL_J, gR_J, aI_J, aL_J, sI_J, sL_J, pI_J, pL_J, J_add, J_sub, J_mul, J_neg, J_lt, J_le, J_eq, dv_J, rm_J, if_pos, if_neg, ↓reduceIte, bitJ, shlJ, orJ, j_0, j_1, j_2, j_3, j_4, j_5, j_6, j_7, j_8, j_9, j_10, j_11, j_12, j_13, j_14, j_15, j_16, j_17, j_18, j_19, j_20, j_21, j_22, j_23, j_24, j_25, j_26, j_27, j_28, j_29, j_30, j_31, j_32, j_33, j_34, j_35, j_36, j_37, j_38, j_39, j_40, j_41, j_42, j_43, j_44, j_45, j_46, j_47, j_48, j_49, j_50, j_51, j_52, j_57, j_59, j_63, j_74, j_75, j_93, j_97, j_99, j_100, j_122, j_200, j_255, j_300, j_465, j_496, j_900, j_999, j_1000, j_65536, j_65537, j_99999, j_252645135, j_858993459, j_1431655765, k_0, k_1, k_27, k_32, k_74, k_75, k_100, k_1000, k_65537, a7, em, v3, x1, r0, v2, e2]
  · obtain ⟨b1, b2, b3, b4⟩ := f1.2.2.2.2.2.2 a (by omega)
    obtain ⟨c1, c2, c3, c4⟩ := f2.2.2.2.2.2.2 a (by omega)
    exact ⟨c1.trans b1, c2.trans b2, c3.trans b3, c4.trans b4⟩
  · rw [fm_fi f2 (by omega)]; exact fi_same (by omega) (by omega)
  · rw [fm_fi f2 (by omega), fi_ne (by omega), fi_ne (by omega)]; exact a4
  · rw [fm_fi f2 (by omega)]; exact v2
  · have := a8 j (by omega)
    have e : (q + 16 - (n + 1) + j) % 16 = ((q + 15) % 16 + 16 - n + j) % 16 := by omega
    rw [e] at this
    exact SE_fm (fm_tr (fm_wd f1 (by omega) (by omega)) (fm_wd f2 (by omega) (by omega)) : Fm 44 55 h h2) (by omega) this
