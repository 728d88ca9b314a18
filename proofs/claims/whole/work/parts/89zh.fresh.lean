/-! a fresh name, in the class -/
def pnf (L : Lk) (T : Int → Int) (n p : Nat) : Int := if isN T n p = true then (if 0 ≤ frs L (t32 T n p) then 3 else 0) else 1
def nml (L : Lk) (T : Int → Int) (n p : Nat) (s v : Int) : Lk := fun k i => if k = 8 then (if i = 0 then L 8 0 + 1 else L k i) else if i = L 8 0 then (if k = 27 then t32 T n p else if k = 30 then t27 T n p else if k = 28 then s else if k = 29 then v else L k i) else L k i
theorem nml_8 (L : Lk) (T : Int → Int) (n p : Nat) (s v : Int) : nml L T n p s v 8 0 = L 8 0 + 1 := rfl
theorem nml_o {L : Lk} {T : Int → Int} {n p : Nat} {s v : Int} {k : Nat} (hk : k ≠ 8 ∧ k ≠ 27 ∧ k ≠ 28 ∧ k ≠ 29 ∧ k ≠ 30) (i : Int) : nml L T n p s v k i = L k i := by
  unfold nml
  rw [if_neg hk.1]
  by_cases c : i = L 8 0
  · rw [if_pos c, if_neg (by omega), if_neg (by omega), if_neg (by omega), if_neg (by omega)]
  · rw [if_neg c]
theorem nml_n (L : Lk) (T : Int → Int) (n p : Nat) (s v : Int) {i : Int} (hi : i = L 8 0) : nml L T n p s v 27 i = t32 T n p ∧ nml L T n p s v 30 i = t27 T n p ∧ nml L T n p s v 28 i = s ∧ nml L T n p s v 29 i = v := by
  refine ⟨?_, ?_, ?_, ?_⟩
  · show (if i = L 8 0 then t32 T n p else L 27 i) = _
    rw [if_pos hi]
  · show (if i = L 8 0 then t27 T n p else L 30 i) = _
    rw [if_pos hi]
  · show (if i = L 8 0 then s else L 28 i) = _
    rw [if_pos hi]
  · show (if i = L 8 0 then v else L 29 i) = _
    rw [if_pos hi]
theorem nml_p (L : Lk) (T : Int → Int) (n p : Nat) (s v : Int) {k : Nat} {i : Int} (hk : k ≠ 8) (hi : ¬ i = L 8 0) : nml L T n p s v k i = L k i := by
  unfold nml
  rw [if_neg hk, if_neg hi]
theorem NW_nml {L : Lk} {T : Int → Int} {n p : Nat} {s v : Int} (N : NW L) (hp : p ≤ n) (c : tso T n p = 0) (hL : L 8 0 < 11) (hs : s = 0 ∨ s = 1 ∨ s = 2) (hv : 0 ≤ v ∧ v ≤ 4) : NW (nml L T n p s v) := by
  have n0 := N.1.1
  refine ⟨by rw [nml_8]; omega, fun i i0 i1 => ?_⟩
  rw [nml_8] at i1
  by_cases e : i = L 8 0
  · obtain ⟨w1, w2, w3, w4⟩ := nml_n L T n p s v e
    rw [w1, w2, w3, w4]
    refine ⟨⟨lwt T (spn T n p), tln T n p, ?_, lwt_b hp c, k32_e _ _ _, k27_e _ _ _⟩, hs, hv.1, hv.2⟩
    rcases tso_c T n p hp with q | q | q | q | q <;> omega
  · rw [nml_p L T n p s v (by omega) e, nml_p L T n p s v (by omega) e, nml_p L T n p s v (by omega) e, nml_p L T n p s v (by omega) e]
    exact N.2 i i0 (by omega)
/-- only reader, tokens and the rows of names change -/
def Nf (h h' : Hp) : Prop := Fm 2 44 h h' ∧ (∀ x, (x ≠ 2 ∧ x ≠ 3 ∧ x ≠ 23 ∧ x ≠ 24 ∧ x ≠ 25) → (∀ k, fi h' x k = fi h x k) ∧ (∀ z, ia h' x z = ia h x z)) ∧ (∀ k, k ≠ 5 → k ≠ 9 → fi h' 2 k = fi h 2 k)
theorem nf_tr {h h1 h2 : Hp} (x : Nf h h1) (y : Nf h1 h2) : Nf h h2 := ⟨fm_tr x.1 y.1, fun a ha => ⟨fun k => ((y.2.1 a ha).1 k).trans ((x.2.1 a ha).1 k), fun z => ((y.2.1 a ha).2 z).trans ((x.2.1 a ha).2 z)⟩, fun k k1 k2 => (y.2.2 k k1 k2).trans (x.2.2 k k1 k2)⟩
theorem nf_sf {h h' : Hp} (x : Sf h h') : Nf h h' := ⟨fm_wd x.1 (by omega) (by omega), fun a ha => ⟨fun k => fm_fi x.1 (by omega) k, fun z => fm_ia x.1 (by omega) z⟩, fun k _ k2 => x.2 k k2⟩
theorem nf_row {lo : Nat} {h h' : Hp} (x : Fm lo (lo + 1) h h') (hl : 23 ≤ lo ∧ lo ≤ 25) : Nf h h' := ⟨fm_wd x (by omega) (by omega), fun a ha => ⟨fun k => fm_fi x (by omega) k, fun z => fm_ia x (by omega) z⟩, fun k _ _ => fm_fi x (by omega) k⟩
theorem nf_5 {h : Hp} {v : Int} : Nf h (wF h 2 5 v) := ⟨fm_wF (by omega) (by omega), fun a ha => ⟨fun k => fi_ne (by omega), fun z => rfl⟩, fun k k1 _ => fi_ne (by omega)⟩
theorem nf_TR {L : Lk} {u : Nat} {h h' : Hp} (x : Nf h h') (hu : u = 5 ∨ u = 26) (H : TR L u h) : TR L u h' := by
  have f : ∀ a, (a ≠ 2 ∧ a ≠ 3 ∧ a ≠ 23 ∧ a ≠ 24 ∧ a ≠ 25) → ∀ k, fi h' a k = fi h a k := fun a ha => (x.2.1 a ha).1
  have g : ∀ a, (a ≠ 2 ∧ a ≠ 3 ∧ a ≠ 23 ∧ a ≠ 24 ∧ a ≠ 25) → ∀ k, ia h' a k = ia h a k := fun a ha => (x.2.1 a ha).2
  unfold TR
  simp (disch := omega) only [f, g]
  exact H
theorem C_new {L : Lk} {T : Int → Int} {n p : Nat} {h : Hp} {s v : Int} (B : KB T n h) (hp : p ≤ n) (H : CT T n p h) (N : NW L) (R : NC L h) (hL : L 8 0 < 11) (hs : s = 0 ∨ s = 1 ∨ s = 2) (hv : 0 ≤ v ∧ v ≤ 4) : (pnf L T n p = 0 → tso T n p = 0 ∧ ∃ h', F_rd_takeNewName 2 (J (csr s)) (J v) h = some (J 1, h') ∧ Nf h h' ∧ fi h' 2 9 = fi h 2 9 ∧ NC (nml L T n p s v) h' ∧ CT T n (tnx T n p) h' ∧ KB T n h') ∧ (¬ pnf L T n p = 0 → ∃ h', F_rd_takeNewName 2 (J (csr s)) (J v) h = some (J 0, h') ∧ FL (pnf L T n p) (spn T n p : Nat) h h') := by
  have D := B.2.2.2
  have Q := B.1
  have c4 := H.2.2.2.1
  have n0 := N.1.1
  have el := C_lso B hp H
  have r1 := R.1
  have gr6 : gR h 2 7 6 = some 23 := gR_e (DS_k D) (DS_r6 D)
  have rv := rvb0
  have cs1 : 1 ≤ csr s ∧ csr s ≤ 5 := by rcases hs with rfl | rfl | rfl <;> decide
  have lb : -1 ≤ lso T n p ∧ lso T n p ≤ 8 := lso_b T n p
  unfold pnf F_rd_takeNewName
  rw [ck_e (DS_k D)]
  by_cases c : tso T n p = 0
  · have ef := C_fnam B hp H N R c
    have c6 := H.2.2.2.2.2 c
    have tb := t27_b hp c
    rw [c] at c4
    by_cases d : lso T n p = -1
    · have y : isN T n p = true := decide_eq_true ⟨c, d⟩
      rw [if_pos y]
      rw [d] at el
      obtain ⟨r, hr⟩ : ∃ r, r = frs L (t32 T n p) := ⟨_, rfl⟩
      have fb := frs_b (x := t32 T n p) N
      rw [← hr] at fb ef ⊢
      by_cases k : 0 ≤ r
      · have fb2 := fb.2 k
        rw [if_pos k]
        refine ⟨fun z => by omega, fun _ => ?_⟩
        obtain ⟨g1, e1, q1⟩ := C_fail (x := 3) B hp H (by omega)
        refine ⟨g1, ?_, q1⟩
        try simp only [j_0, j_1, j_2, j_3, j_4, j_5, j_6, j_7, j_8, j_9, j_10, j_11, j_12, j_13, j_14, j_15, j_16, j_17, j_18, j_19, j_20, j_21, j_22, j_23, j_24, j_25, j_26, j_27, j_28, j_29, j_30, j_31, j_32, j_33, j_34, j_35, j_36, j_37, j_38, j_39, j_40, j_41, j_42, j_43, j_44, j_45, j_46, j_47, j_48, j_49, j_50, j_51, j_52, j_57, j_59, j_63, j_74, j_75, j_93, j_97, j_99, j_100, j_122, j_200, j_255, j_300, j_465, j_496, j_900, j_999, j_1000, j_65536, j_65537, j_99999, j_252645135, j_858993459, j_1431655765, k_0, k_1, k_27, k_32, k_74, k_75, k_100, k_1000, k_65537]
        simp (disch := first | with_reducible assumption | omega | trivial) only [↓bn_s1, ↓bd_s1, ↓ei_l1, ↓ei_r1, ↓bn_if, ↓ilt_1, ↓ilt_0, ↓ieq_1, ↓ieq_0, bn_s1, bd_s1, ei_l1, ei_r1, J_add, J_sub, J_mul, J_neg, J_lt, J_le, J_eq, dv_J, rm_J, if_pos, if_neg, ↓reduceIte, bitJ, shlJ, orJ, j_0, j_1, j_2, j_3, j_4, j_5, j_6, j_7, j_8, j_9, j_10, j_11, j_12, j_13, j_14, j_15, j_16, j_17, j_18, j_19, j_20, j_21, j_22, j_23, j_24, j_25, j_26, j_27, j_28, j_29, j_30, j_31, j_32, j_33, j_34, j_35, j_36, j_37, j_38, j_39, j_40, j_41, j_42, j_43, j_44, j_45, j_46, j_47, j_48, j_49, j_50, j_51, j_52, j_57, j_59, j_63, j_74, j_75, j_93, j_97, j_99, j_100, j_122, j_200, j_255, j_300, j_465, j_496, j_900, j_999, j_1000, j_65536, j_65537, j_99999, j_252645135, j_858993459, j_1431655765, k_0, k_1, k_27, k_32, k_74, k_75, k_100, k_1000, k_65537, d_i D, ↓d_i_b D, d_p D, ↓d_p_b D, d_r2 D, ↓d_r2_b D, tk_i Q, ↓tk_i_b Q, tk_p Q, ↓tk_p_b Q, tk_r Q, ↓tk_r_b Q, tk_l Q, ↓tk_l_b Q, tk_pl Q, ↓tk_pl_b Q, tk_a Q, ↓tk_a_b Q, c4, ↓bn_e (el), el, ↓bn_e (ef), ef, ↓bd_e (e1), e1]
      · rw [if_neg k]
        refine ⟨fun _ => ⟨c, ?_⟩, fun z => absurd rfl z⟩
        obtain ⟨m, hm⟩ : ∃ m, m = L 8 0 := ⟨_, rfl⟩
        rw [← hm] at r1 hL n0
        have s1 : sL h 23 (J m) (K (t27 T n p)) = some (wL h 23 m (t27 T n p)) := sL_J (DS_k6 D) (by omega) n0 (by rw [DS_n6 D]; omega) (by omega)
        obtain ⟨h1, e1⟩ : ∃ h1, h1 = wL h 23 m (t27 T n p) := ⟨_, rfl⟩
        have f1 : Fm 23 24 h h1 := by rw [e1]; exact fm_wL (by omega) (by omega)
        rw [← e1] at s1
        have D1 := DS_fm f1 D
        have x1 : fi h1 2 5 = m := by rw [fm_fi f1 (by omega)]; exact r1
        have g7 : gR h1 2 7 7 = some 24 := gR_e (DS_k D1) (DS_r7 D1)
        have s2 : sI h1 100 24 (J m) (J (csr s)) = some (wA h1 24 m (csr s)) := sI_J (DS_k7 D1) (by omega) n0 (by rw [DS_n7 D1]; omega) (by omega)
        obtain ⟨h2, e2⟩ : ∃ h2, h2 = wA h1 24 m (csr s) := ⟨_, rfl⟩
        have f2 : Fm 24 25 h1 h2 := by rw [e2]; exact fm_wA (by omega) (by omega)
        rw [← e2] at s2
        have D2 := DS_fm f2 D1
        have x2 : fi h2 2 5 = m := by rw [fm_fi f2 (by omega)]; exact x1
        have g8 : gR h2 2 7 8 = some 25 := gR_e (DS_k D2) (DS_r8 D2)
        have s3 : sI h2 100 25 (J m) (J v) = some (wA h2 25 m v) := sI_J (DS_k8 D2) (by omega) n0 (by rw [DS_n8 D2]; omega) (by omega)
        obtain ⟨h3, e3⟩ : ∃ h3, h3 = wA h2 25 m v := ⟨_, rfl⟩
        have f3 : Fm 25 26 h2 h3 := by rw [e3]; exact fm_wA (by omega) (by omega)
        rw [← e3] at s3
        have D3 := DS_fm f3 D2
        have x3 : fi h3 2 5 = m := by rw [fm_fi f3 (by omega)]; exact x2
        obtain ⟨h4, e4⟩ : ∃ h4, h4 = wF h3 2 5 (m + 1) := ⟨_, rfl⟩
        have f4 : Nf h3 h4 := by rw [e4]; exact nf_5
        have F3 := nf_tr (nf_row f1 (by omega)) (nf_tr (nf_row f2 (by omega)) (nf_row f3 (by omega)))
        have F4 := nf_tr F3 f4
        have B4 := KB_fm F4.1 (by omega) (by omega) B
        have D4 := B4.2.2.2
        have H4 : CT T n p h4 := by
          have c3 := CT_fm f3 (by omega) (CT_fm f2 (by omega) (CT_fm f1 (by omega) H))
          rw [e4]
          exact CT_fm (fm_wF (lo := 2) (hi := 3) (by omega) (by omega)) (by omega) c3
        obtain ⟨h5, e5, f5, w5, c5, B5⟩ := C_ad B4 hp H4
        refine ⟨h5, ?_, nf_tr F4 (nf_sf f5), ?_, ⟨?_, ?_, fun i i0 i1 => ?_⟩, c5, B5⟩
        · try simp only [j_0, j_1, j_2, j_3, j_4, j_5, j_6, j_7, j_8, j_9, j_10, j_11, j_12, j_13, j_14, j_15, j_16, j_17, j_18, j_19, j_20, j_21, j_22, j_23, j_24, j_25, j_26, j_27, j_28, j_29, j_30, j_31, j_32, j_33, j_34, j_35, j_36, j_37, j_38, j_39, j_40, j_41, j_42, j_43, j_44, j_45, j_46, j_47, j_48, j_49, j_50, j_51, j_52, j_57, j_59, j_63, j_74, j_75, j_93, j_97, j_99, j_100, j_122, j_200, j_255, j_300, j_465, j_496, j_900, j_999, j_1000, j_65536, j_65537, j_99999, j_252645135, j_858993459, j_1431655765, k_0, k_1, k_27, k_32, k_74, k_75, k_100, k_1000, k_65537]
          simp (disch := first | with_reducible assumption | omega | trivial) only [↓bn_s1, ↓bd_s1, ↓ei_l1, ↓ei_r1, ↓bn_if, ↓ilt_1, ↓ilt_0, ↓ieq_1, ↓ieq_0, bn_s1, bd_s1, ei_l1, ei_r1, J_add, J_sub, J_mul, J_neg, J_lt, J_le, J_eq, dv_J, rm_J, if_pos, if_neg, ↓reduceIte, bitJ, shlJ, orJ, j_0, j_1, j_2, j_3, j_4, j_5, j_6, j_7, j_8, j_9, j_10, j_11, j_12, j_13, j_14, j_15, j_16, j_17, j_18, j_19, j_20, j_21, j_22, j_23, j_24, j_25, j_26, j_27, j_28, j_29, j_30, j_31, j_32, j_33, j_34, j_35, j_36, j_37, j_38, j_39, j_40, j_41, j_42, j_43, j_44, j_45, j_46, j_47, j_48, j_49, j_50, j_51, j_52, j_57, j_59, j_63, j_74, j_75, j_93, j_97, j_99, j_100, j_122, j_200, j_255, j_300, j_465, j_496, j_900, j_999, j_1000, j_65536, j_65537, j_99999, j_252645135, j_858993459, j_1431655765, k_0, k_1, k_27, k_32, k_74, k_75, k_100, k_1000, k_65537, d_i D, ↓d_i_b D, d_p D, ↓d_p_b D, d_r2 D, ↓d_r2_b D, tk_i Q, ↓tk_i_b Q, tk_p Q, ↓tk_p_b Q, tk_r Q, ↓tk_r_b Q, tk_l Q, ↓tk_l_b Q, tk_pl Q, ↓tk_pl_b Q, tk_a Q, ↓tk_a_b Q, c4, ↓bn_e (el), el, ↓bn_e (ef), ef, r1, ↓bn_e (gr6), gr6, c6, ↓bn_e (s1), s1, d_i D1, ↓d_i_b D1, d_p D1, ↓d_p_b D1, d_r2 D1, ↓d_r2_b D1, x1, ↓bn_e (g7), g7, ↓bn_e (s2), s2, d_i D2, ↓d_i_b D2, d_p D2, ↓d_p_b D2, d_r2 D2, ↓d_r2_b D2, x2, ↓bn_e (g8), g8, ↓bn_e (s3), s3, d_i D3, ↓d_i_b D3, d_p D3, ↓d_p_b D3, d_r2 D3, ↓d_r2_b D3, x3, ← e4, d_i D4, ↓d_i_b D4, d_p D4, ↓d_p_b D4, d_r2 D4, ↓d_r2_b D4, ↓bn_e (e5), e5]
        · rw [w5, e4, fi_ne (by omega), fm_fi f3 (by omega), fm_fi f2 (by omega), fm_fi f1 (by omega)]
        · rw [f5.2 5 (by omega), e4, nml_8, ← hm]; exact fi_same (by omega) (by omega)
        · rw [(nf_tr F4 (nf_sf f5)).2.2 4 (by omega) (by omega), nml_o (by omega)]; exact R.2.1
        · rw [nml_8, ← hm] at i1
          rw [fm_la f5.1 (by omega), fm_ia f5.1 (by omega), fm_ia f5.1 (by omega)]
          have l4 : la h4 23 i = la h1 23 i := by
            rw [e4]
            show la h3 23 i = _
            rw [fm_la f3 (by omega), fm_la f2 (by omega)]
          have a4 : ia h4 24 i = ia h2 24 i := by
            rw [e4]
            show ia h3 24 i = _
            rw [fm_ia f3 (by omega)]
          have b4 : ia h4 25 i = ia h3 25 i := by rw [e4]; rfl
          rw [l4, a4, b4]
          have l1 : (lA h 23).length = 11 := DS_n6 D
          have l2 : (iA h1 24).length = 11 := DS_n7 D1
          have l3 : (iA h2 25).length = 11 := DS_n8 D2
          by_cases e : i = m
          · obtain ⟨w1, w2, w3, w4⟩ := nml_n L T n p s v (e.trans hm)
            rw [w2, w3, w4, e, e1, e2, e3]
            exact ⟨la_same n0 (by omega) (by omega) (by omega), ia_same n0 (by omega) (by omega) (by omega), ia_same n0 (by omega) (by omega) (by omega)⟩
          · have ne : ¬ i = L 8 0 := by omega
            have u1 : la h1 23 i = la h 23 i := by rw [e1]; exact la_ne n0 i0 e
            have u2 : ia h2 24 i = ia h 24 i := by rw [e2, ia_ne n0 i0 e]; exact fm_ia f1 (by omega) i
            have u3 : ia h3 25 i = ia h 25 i := by rw [e3, ia_ne n0 i0 e]; exact (fm_ia f2 (by omega) i).trans (fm_ia f1 (by omega) i)
            rw [nml_p L T n p s v (by omega) ne, nml_p L T n p s v (by omega) ne, nml_p L T n p s v (by omega) ne, u1, u2, u3]
            exact R.2.2 i i0 (by omega)
    · have y : ¬ isN T n p = true := fun z => d (of_decide_eq_true z).2
      rw [if_neg y]
      refine ⟨fun z => by omega, fun _ => ?_⟩
      obtain ⟨g1, e1, q1⟩ := C_fail (x := 1) B hp H (by omega)
      refine ⟨g1, ?_, q1⟩
      try simp only [j_0, j_1, j_2, j_3, j_4, j_5, j_6, j_7, j_8, j_9, j_10, j_11, j_12, j_13, j_14, j_15, j_16, j_17, j_18, j_19, j_20, j_21, j_22, j_23, j_24, j_25, j_26, j_27, j_28, j_29, j_30, j_31, j_32, j_33, j_34, j_35, j_36, j_37, j_38, j_39, j_40, j_41, j_42, j_43, j_44, j_45, j_46, j_47, j_48, j_49, j_50, j_51, j_52, j_57, j_59, j_63, j_74, j_75, j_93, j_97, j_99, j_100, j_122, j_200, j_255, j_300, j_465, j_496, j_900, j_999, j_1000, j_65536, j_65537, j_99999, j_252645135, j_858993459, j_1431655765, k_0, k_1, k_27, k_32, k_74, k_75, k_100, k_1000, k_65537]
      simp (disch := first | with_reducible assumption | omega | trivial) only [↓bn_s1, ↓bd_s1, ↓ei_l1, ↓ei_r1, ↓bn_if, ↓ilt_1, ↓ilt_0, ↓ieq_1, ↓ieq_0, bn_s1, bd_s1, ei_l1, ei_r1, J_add, J_sub, J_mul, J_neg, J_lt, J_le, J_eq, dv_J, rm_J, if_pos, if_neg, ↓reduceIte, bitJ, shlJ, orJ, j_0, j_1, j_2, j_3, j_4, j_5, j_6, j_7, j_8, j_9, j_10, j_11, j_12, j_13, j_14, j_15, j_16, j_17, j_18, j_19, j_20, j_21, j_22, j_23, j_24, j_25, j_26, j_27, j_28, j_29, j_30, j_31, j_32, j_33, j_34, j_35, j_36, j_37, j_38, j_39, j_40, j_41, j_42, j_43, j_44, j_45, j_46, j_47, j_48, j_49, j_50, j_51, j_52, j_57, j_59, j_63, j_74, j_75, j_93, j_97, j_99, j_100, j_122, j_200, j_255, j_300, j_465, j_496, j_900, j_999, j_1000, j_65536, j_65537, j_99999, j_252645135, j_858993459, j_1431655765, k_0, k_1, k_27, k_32, k_74, k_75, k_100, k_1000, k_65537, d_i D, ↓d_i_b D, d_p D, ↓d_p_b D, d_r2 D, ↓d_r2_b D, tk_i Q, ↓tk_i_b Q, tk_p Q, ↓tk_p_b Q, tk_r Q, ↓tk_r_b Q, tk_l Q, ↓tk_l_b Q, tk_pl Q, ↓tk_pl_b Q, tk_a Q, ↓tk_a_b Q, c4, ↓bn_e (el), el, ↓bd_e (e1), e1]
  · have y : ¬ isN T n p = true := fun z => c (of_decide_eq_true z).1
    rw [if_neg y]
    refine ⟨fun z => by omega, fun _ => ?_⟩
    have fr := fi_rg h 3 4
    rw [c4] at fr
    obtain ⟨g1, e1, q1⟩ := C_fail (x := 1) B hp H (by omega)
    refine ⟨g1, ?_, q1⟩
    try simp only [j_0, j_1, j_2, j_3, j_4, j_5, j_6, j_7, j_8, j_9, j_10, j_11, j_12, j_13, j_14, j_15, j_16, j_17, j_18, j_19, j_20, j_21, j_22, j_23, j_24, j_25, j_26, j_27, j_28, j_29, j_30, j_31, j_32, j_33, j_34, j_35, j_36, j_37, j_38, j_39, j_40, j_41, j_42, j_43, j_44, j_45, j_46, j_47, j_48, j_49, j_50, j_51, j_52, j_57, j_59, j_63, j_74, j_75, j_93, j_97, j_99, j_100, j_122, j_200, j_255, j_300, j_465, j_496, j_900, j_999, j_1000, j_65536, j_65537, j_99999, j_252645135, j_858993459, j_1431655765, k_0, k_1, k_27, k_32, k_74, k_75, k_100, k_1000, k_65537]
    simp (disch := first | with_reducible assumption | omega | trivial) only [↓bn_s1, ↓bd_s1, ↓ei_l1, ↓ei_r1, ↓bn_if, ↓ilt_1, ↓ilt_0, ↓ieq_1, ↓ieq_0, bn_s1, bd_s1, ei_l1, ei_r1, J_add, J_sub, J_mul, J_neg, J_lt, J_le, J_eq, dv_J, rm_J, if_pos, if_neg, ↓reduceIte, bitJ, shlJ, orJ, j_0, j_1, j_2, j_3, j_4, j_5, j_6, j_7, j_8, j_9, j_10, j_11, j_12, j_13, j_14, j_15, j_16, j_17, j_18, j_19, j_20, j_21, j_22, j_23, j_24, j_25, j_26, j_27, j_28, j_29, j_30, j_31, j_32, j_33, j_34, j_35, j_36, j_37, j_38, j_39, j_40, j_41, j_42, j_43, j_44, j_45, j_46, j_47, j_48, j_49, j_50, j_51, j_52, j_57, j_59, j_63, j_74, j_75, j_93, j_97, j_99, j_100, j_122, j_200, j_255, j_300, j_465, j_496, j_900, j_999, j_1000, j_65536, j_65537, j_99999, j_252645135, j_858993459, j_1431655765, k_0, k_1, k_27, k_32, k_74, k_75, k_100, k_1000, k_65537, d_i D, ↓d_i_b D, d_p D, ↓d_p_b D, d_r2 D, ↓d_r2_b D, tk_i Q, ↓tk_i_b Q, tk_p Q, ↓tk_p_b Q, tk_r Q, ↓tk_r_b Q, tk_l Q, ↓tk_l_b Q, tk_pl Q, ↓tk_pl_b Q, tk_a Q, ↓tk_a_b Q, c4, ↓bd_e (e1), e1]
