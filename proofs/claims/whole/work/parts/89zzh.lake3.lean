/-! lake, in the reference -/
theorem a_all_nz {T : Int → Int} {n : Nat} : ∀ (k p : Nat) (L : Lk) (q : Nat) (L' : Lk), a_all T n k L p = .inl (q, L') → ¬ L' 1 0 = 0 := by
  intro k
  induction k with
  | zero => intro p L q L' e; unfold a_all at e; cases e
  | succ k ih =>
    intro p L q L' e
    cases hl : a_line L T n p with
    | inr y => rw [a_all_r hl] at e; cases e
    | inl y =>
      obtain ⟨q1, L1⟩ := y
      rw [a_all_l hl] at e
      by_cases t2 : tso T n q1 = 2
      · rw [if_pos t2] at e; exact ih _ _ _ _ e
      · rw [if_neg t2] at e
        by_cases t3 : tso T n q1 = 3
        · rw [if_pos t3] at e
          by_cases z : L1 1 0 = 0
          · rw [if_pos z] at e; cases e
          · rw [if_neg z] at e; cases e; exact z
        · rw [if_neg t3] at e; cases e
theorem a_all_b {T : Int → Int} {n : Nat} : ∀ (k p : Nat) (L : Lk) (f q : Int), p ≤ n → NB L → SD L → n < p + k → a_all T n k L p = .inr (f, q) → 1 ≤ f ∧ f ≤ 6 ∧ 0 ≤ q ∧ q ≤ n := by
  intro k
  induction k with
  | zero => intro p L f q h1 _ _ h2; omega
  | succ k ih =>
    intro p L f q h1 NBL SDL h2 e
    have G := G_line h1 NBL SDL (T := T)
    cases hl : a_line L T n p with
    | inr y =>
      obtain ⟨f1, q1⟩ := y
      rw [a_all_r hl] at e
      cases e
      exact G.2 _ _ hl
    | inl y =>
      obtain ⟨q1, L1⟩ := y
      rw [a_all_l hl] at e
      obtain ⟨NB', SD', g1, g2⟩ := G.1 q1 L1 hl
      have sb := spn_b T n q1 g2
      by_cases t2 : tso T n q1 = 2
      · rw [if_pos t2] at e
        have q2 := tnx_l g2 (Or.inr (Or.inr t2))
        have q3 := tnx_m (T := T) g2
        exact ih _ _ _ _ q3.2 NB' SD' (by omega) e
      · rw [if_neg t2] at e
        by_cases t3 : tso T n q1 = 3
        · rw [if_pos t3] at e
          by_cases z : L1 1 0 = 0
          · rw [if_pos z] at e; cases e; omega
          · rw [if_neg z] at e; cases e
        · rw [if_neg t3] at e; cases e; omega
theorem ia_rep {h : Hp} {a m : Nat} {z : Int} (e : iA h a = List.replicate m 0) : ia h a z = 0 := by
  unfold ia
  rw [e, List.getD_eq_getElem?_getD, List.getElem?_replicate]
  by_cases c : z.toNat < m
  · rw [if_pos c]; rfl
  · rw [if_neg c]; rfl
theorem MS_sR {h : Hp} {k : Nat} {v : Option Nat} (hk : k = 3 ∨ k = 4) (H : MS h) : MS (sFR h 88 k v) := by
  have q : ∀ a k', ¬ (a = 88 ∧ k' = k) → fR (sFR h 88 k v) a k' = fR h a k' := fun a k' c => if_neg c
  have q2 : ∀ a, kd (sFR h 88 k v) a = kd h a := fun _ => rfl
  have q3 : ∀ a, iA (sFR h 88 k v) a = iA h a := fun _ => rfl
  unfold MS at H ⊢
  simp (disch := omega) only [q, q2, q3]
  exact H
theorem YS_sR {b : Nat} {h : Hp} {k : Nat} {v : Option Nat} (hb : 102 ≤ b) (H : YS b h) : YS b (sFR h 88 k v) := by
  have q : ∀ a k', ¬ (a = 88 ∧ k' = k) → fR (sFR h 88 k v) a k' = fR h a k' := fun a k' c => if_neg c
  have q2 : ∀ a, kd (sFR h 88 k v) a = kd h a := fun _ => rfl
  have q3 : ∀ a, iA (sFR h 88 k v) a = iA h a := fun _ => rfl
  have q4 : ∀ a, lA (sFR h 88 k v) a = lA h a := fun _ => rfl
  unfold YS at H ⊢
  simp (disch := omega) only [q, q2, q3, q4]
  exact H
theorem LR_lkx {L : Lk} {b : Nat} {h : Hp} (t : ¬ L 31 0 = 0) (H : LR (lkx L) b h) : LR L b h := by
  have e : ∀ k i, lkx L k i = L k i := fun k i => if_neg (fun z => t z.2.2)
  unfold LR at H ⊢
  simp only [e] at H
  exact H
theorem d_lak {a : Ab} {h : Hp} {z : Int} (HA : AW a) (H : RI a h) (W : WR h) (hz : rng z) (hc : 102 ≤ cn h) (hm : cn h < 899000) (B : HB (cn h) h) : ∃ h', F_md_lake 88 (J z) h = some (J (v_lak a z), h') ∧ RI (a_lak a z) h' ∧ Se (fun x => x < 88 ∨ 1000000 ≤ x) h h' ∧ (kd h' 101 = kd h 101 ∧ (lA h' 101).length = (lA h 101).length) ∧ (cn h ≤ cn h' ∧ cn h' ≤ cn h + 22) ∧ wd h' ≤ wd h + 159 ∧ HB (cn h') h' := by
  have M := H.1
  have tb := HA.2.2.2.2.1
  obtain ⟨h1, r1⟩ : ∃ y, y = wF h 88 0 0 := ⟨_, rfl⟩
  have f1 : Fm 88 89 h h1 := by rw [r1]; exact fm_wF (by omega) (by omega)
  have s1 : pI h 88 13 0 (J 0) = some h1 := by rw [r1]; exact pI_J (MS_k M)
  have M1 := MS_fm f1 M
  have g1 : gI h1 88 13 6 = some (J (qtp a)) := by rw [gI_J (MS_k M1), r1, fi_ne (by omega), H.2.2.2.2.2.1.1]
  by_cases c : 0 ≤ z ∧ z ≤ qtp a
  · obtain ⟨n, hn⟩ : ∃ n : Nat, n = z.toNat := ⟨_, rfl⟩
    have zn : z = n := by omega
    obtain ⟨h2, r2⟩ : ∃ y, y = wF h1 88 7 n := ⟨_, rfl⟩
    have f2 : Fm 88 89 h1 h2 := by rw [r2]; exact fm_wF (by omega) (by omega)
    have s2 : pI h1 88 13 7 (J n) = some h2 := by rw [r2]; exact pI_J (MS_k M1)
    have M2 := MS_fm f2 M1
    obtain ⟨h3, r3⟩ : ∃ y, y = wF h2 88 6 0 := ⟨_, rfl⟩
    have f3 : Fm 88 89 h2 h3 := by rw [r3]; exact fm_wF (by omega) (by omega)
    have s3 : pI h2 88 13 6 (J 0) = some h3 := by rw [r3]; exact pI_J (MS_k M2)
    have M3 := MS_fm f3 M2
    obtain ⟨h4, r4⟩ : ∃ y, y = wF h3 88 8 0 := ⟨_, rfl⟩
    have f4 : Fm 88 89 h3 h4 := by rw [r4]; exact fm_wF (by omega) (by omega)
    have s4 : pI h3 88 13 8 (J 0) = some h4 := by rw [r4]; exact pI_J (MS_k M3)
    have M4 := MS_fm f4 M3
    obtain ⟨h5, r5⟩ : ∃ y, y = wF h4 88 12 0 := ⟨_, rfl⟩
    have f5 : Fm 88 89 h4 h5 := by rw [r5]; exact fm_wF (by omega) (by omega)
    have s5 : pI h4 88 13 12 (J 0) = some h5 := by rw [r5]; exact pI_J (MS_k M4)
    have F5 := fm_tr f1 (fm_tr f2 (fm_tr f3 (fm_tr f4 f5)))
    have M5 := MS_fm f5 M4
    have c5 : cn h5 = cn h := F5.2.2.1
    have d5 : wd h5 = wd h := F5.2.2.2.1
    have v5 : fi h5 88 7 = n ∧ fi h5 88 6 = 0 ∧ fi h5 88 8 = 0 ∧ fi h5 88 12 = 0 ∧ ∀ k, 13 < k → fi h5 88 k = fi h 88 k := by
      rw [r5, r4, r3, r2, r1]
      refine ⟨?_, ?_, ?_, ?_, fun k hk => ?_⟩
      · rw [fi_ne (by omega), fi_ne (by omega), fi_ne (by omega)]; exact fi_same (by omega) (by omega)
      · rw [fi_ne (by omega), fi_ne (by omega)]; exact fi_same (by omega) (by omega)
      · rw [fi_ne (by omega)]; exact fi_same (by omega) (by omega)
      · exact fi_same (by omega) (by omega)
      · rw [fi_ne (by omega), fi_ne (by omega), fi_ne (by omega), fi_ne (by omega), fi_ne (by omega)]
    obtain ⟨g6, h6, eO, eI, Z, w6⟩ := D_linit (h := h5) (by omega)
    have Y6 := YS_lz Z
    obtain ⟨b, hb⟩ : ∃ b, b = cn h5 := ⟨_, rfl⟩
    rw [← hb] at eO eI Z Y6
    have b1 : 102 ≤ b := by omega
    have b2 : b < 899000 := by omega
    have bh : b = cn h := hb.trans c5
    obtain ⟨z1, _, _, z4, z5, z6, z7⟩ := Z
    have M6 : MS h6 := MS_se z7 (fun x hx hy => by omega) M5
    obtain ⟨h7, r7⟩ : ∃ y, y = sFR h6 88 4 (some b) := ⟨_, rfl⟩
    have s7 : pR h6 88 13 4 (some b) = some h7 := by rw [r7]; exact pR_e (MS_k M6)
    have M7 : MS h7 := by rw [r7]; exact MS_sR (by omega) M6
    have Y7 : YS b h7 := by rw [r7]; exact YS_sR b1 Y6
    have q74 : fR h7 88 4 = some b := by rw [r7]; show (if 88 = 88 ∧ 4 = 4 then some b else fR h6 88 4) = some b; rw [if_pos ⟨rfl, rfl⟩]
    have q73 : fR h7 88 3 = fR h 88 3 := by
      rw [r7]
      show (if 88 = 88 ∧ 3 = 4 then some b else fR h6 88 3) = _
      rw [if_neg (by omega), (z7 88 (by omega)).2.2.2.1, F5.2.1]
    have fi7 : ∀ x k, fi h7 x k = fi h6 x k := fun x k => by rw [r7]; rfl
    have ia7 : ∀ x k, ia h7 x k = ia h6 x k := fun x k => by rw [r7]; rfl
    obtain ⟨h8, r8⟩ : ∃ y, y = wF h7 88 9 0 := ⟨_, rfl⟩
    have f8 : Fm 88 89 h7 h8 := by rw [r8]; exact fm_wF (by omega) (by omega)
    have s8 : pI h7 88 13 9 (J 0) = some h8 := by rw [r8]; exact pI_J (MS_k M7)
    have M8 := MS_fm f8 M7
    have v8 : ∀ k, k ≠ 9 → fi h8 88 k = fi h5 88 k := fun k hk => by rw [r8, fi_ne (by omega), fi7, se_fi z7 (by omega)]
    have a8 : ∀ x, 88 < x → x < b → (∀ k, fi h8 x k = fi h x k) ∧ (∀ y, ia h8 x y = ia h x y) := fun x hx hy => by
      refine ⟨fun k => ?_, fun y => ?_⟩
      · rw [fm_fi f8 (by omega), fi7, se_fi z7 (by omega), fm_fi F5 (by omega)]
      · rw [fm_ia f8 (by omega), ia7, se_ia z7 (by omega), fm_ia F5 (by omega)]
    have S8 : Se (fun x => x < 88 ∨ x = 101 ∨ 1000000 ≤ x) h h8 := by
      refine se_tr (se_fm F5 (fun x hx => by omega)) (se_tr (se_mo z7 (fun x hx => by omega)) (se_tr ?_ (se_fm f8 (fun x hx => by omega))))
      intro x hx
      refine ⟨by rw [r7]; rfl, by rw [r7]; rfl, by rw [r7]; rfl, ?_, by rw [r7]; rfl, by rw [r7]; rfl⟩
      funext k
      rw [r7]
      show (if x = 88 ∧ k = 4 then some b else fR h6 x k) = fR h6 x k
      rw [if_neg (by omega)]
    have W8 : WR h8 := WR_wc (se_wc (se_mo S8 (fun x hx => by omega))) W
    have X8 : TY (qT a) n h8 := ⟨by omega, HA.2.2.2.2.2.2.2.2, fun i i0 i1 => by rw [(a8 89 (by omega) (by omega)).2]; exact H.2.2.2.2.2.1.2 i i0 (by omega)⟩
    have v89 : fi h8 88 9 = 0 := by rw [r8]; exact fi_same (by omega) (by omega)
    obtain ⟨h9, e9, G9, D9⟩ := D_go (p := 0) M8 X8 (by rw [v8 7 (by omega)]; exact v5.1) (by omega) (by rw [v8 8 (by omega)]; exact v5.2.2.1) (by rw [v89]; omega)
    have f9 := G9.1
    have Y9 : YS b h9 := YS_fm f9 (YS_fm f8 Y7)
    have fb9 : ∀ x, b ≤ x → x < b + 22 → (∀ k, fi h9 x k = fi h6 x k) ∧ (∀ y, ia h9 x y = ia h6 x y) := fun x hx hy => by
      refine ⟨fun k => ?_, fun y => ?_⟩
      · rw [fm_fi f9 (by omega), fm_fi f8 (by omega), fi7]
      · rw [fm_ia f9 (by omega), fm_ia f8 (by omega), ia7]
    have fz9 : ∀ k, k ≠ 0 → fi h9 b k = 0 := fun k hk => by rw [(fb9 b (by omega) (by omega)).1]; exact z6 k hk
    have C9 : DP Lz0 b (qT a) n h9 := by
      refine ⟨⟨⟨MS_fm f9 M8, TY_fm f9 (by omega) X8, WR_fm f9 (by omega) W8⟩, by rw [fm_fR f9, fm_fR f8]; exact q74, Y9, NW_z, ⟨fz9 8 (by omega), fun i i0 i1 => absurd (show i < 0 from i1) (by omega)⟩, b1, by omega⟩, LW_z, ?_, ?_, Or.inl rfl, fun _ k _ => rfl⟩
      · refine ⟨⟨?_, fz9 1 (by omega), fz9 2 (by omega), fz9 3 (by omega), fz9 4 (by omega), fz9 5 (by omega), fz9 6 (by omega), fz9 7 (by omega)⟩, ?_, ?_, ?_, ?_, ?_, ?_, ?_, ?_⟩
        · rw [(fb9 b (by omega) (by omega)).1]; exact z5
        · intro i i0 i1; exact absurd (show i < 0 from i1) (by omega)
        · intro i i0 i1
          rw [(fb9 (b + 3) (by omega) (by omega)).2]
          exact ia_rep (z4 2 (by omega)).2.2.1
        · intro i i0 i1; exact absurd (show i < 0 from i1) (by omega)
        · intro i i0 i1; exact absurd (show i < 0 from i1) (by omega)
        · intro i i0 i1; exact absurd (show i < 0 from i1) (by omega)
        · intro i i0 i1; exact absurd (show i < 0 from i1) (by omega)
        · intro i i0 i1; exact absurd (show i < 0 from i1) (by omega)
        · intro i i0 i1; exact absurd (show i < 0 from i1) (by omega)
      · intro i hi
        refine ⟨0, by omega, ?_, fun k hk => ?_⟩
        · rw [(fb9 (b + 4) (by omega) (by omega)).2]
          exact ia_rep (z4 3 (by omega)).2.2.1
        · rw [Nat.zero_testBit]
          rfl
    have DA := D_all (n + 1) 0 Lz0 h9 FU (by omega) (by omega) (by unfold FU; omega) C9 NB_z SD_z D9
    have ef : F_md_readAll 88 h9 = bd (lp (B_md_readAll_2 88) FU (J 1) h9) Dfin := by
      unfold F_md_readAll
      rw [ck_e (MS_k C9.1.1.1), j_1]
      rfl
    rw [← ef] at DA
    have ez : a_all (qT a) n (n + 1) Lz0 0 = o_lak a z := by unfold o_lak; rw [hn]
    rw [ez] at DA
    have v9 : ∀ k, (k < 8 ∨ 11 < k) → fi h9 88 k = fi h5 88 k := fun k hk => by rw [G9.2 k hk, v8 k (by omega)]
    have a9 : ∀ x, 88 < x → x < b → (∀ k, fi h9 x k = fi h x k) ∧ (∀ y, ia h9 x y = ia h x y) := fun x hx hy => by
      refine ⟨fun k => ?_, fun y => ?_⟩
      · rw [fm_fi f9 (by omega)]; exact (a8 x hx hy).1 k
      · rw [fm_ia f9 (by omega)]; exact (a8 x hx hy).2 y
    have q93 : fR h9 88 3 = fR h 88 3 := by rw [fm_fR f9, fm_fR f8]; exact q73
    have S9 := se_tr S8 (se_fm f9 (fun x hx => by omega))
    have c9 : cn h9 = b + 22 := by rw [f9.2.2.1, f8.2.2.1, r7]; exact z1
    have w9 : wd h9 = wd h + 159 := by rw [f9.2.2.2.1, f8.2.2.2.1, r7]; show wd h6 = _; omega
    have lt0 : ¬ J n < (0 : Int32) := nlt0 (by omega) (by omega)
    cases hO : o_lak a z with
    | inr y =>
      obtain ⟨f, q⟩ := y
      obtain ⟨h10, e10, d10, x0, x1⟩ := DA.2 f q hO
      have lk := lak_f c hO
      rw [lk.1, lk.2]
      have fp : 1 ≤ f ∧ f ≤ 6 ∧ 0 ≤ q ∧ q ≤ n := a_all_b (n + 1) 0 Lz0 f q (by omega) NB_z SD_z (by omega) (by rw [ez]; exact hO)
      have n5 : n ≤ 1000 := by omega
      have M10 := MS_fm d10.1 C9.1.1.1
      have i10 : gI h10 88 13 12 = some (J f) := by rw [gI_J (MS_k M10), x0]
      obtain ⟨h11, r11⟩ : ∃ y, y = wF h10 88 1 4 := ⟨_, rfl⟩
      have f11 : Fm 88 89 h10 h11 := by rw [r11]; exact fm_wF (by omega) (by omega)
      have s11 : pI h10 88 13 1 (J 4) = some h11 := by rw [r11]; exact pI_J (MS_k M10)
      have M11 := MS_fm f11 M10
      have i11 : gI h11 88 13 13 = some (J q) := by rw [gI_J (MS_k M11), r11, fi_ne (by omega), x1]
      obtain ⟨h12, r12⟩ : ∃ y, y = wF h11 88 2 q := ⟨_, rfl⟩
      have f12 : Fm 88 89 h11 h12 := by rw [r12]; exact fm_wF (by omega) (by omega)
      have s12 : pI h11 88 13 2 (J q) = some h12 := by rw [r12]; exact pI_J (MS_k M11)
      have F12 := fm_tr f11 f12
      have a12 : ∀ x, 88 < x → x < b → (∀ k, fi h12 x k = fi h x k) ∧ (∀ y, ia h12 x y = ia h x y) := fun x hx hy => by
        refine ⟨fun k => ?_, fun y => ?_⟩
        · rw [fm_fi F12 (by omega), (d10.2.1 x hx hy).1]; exact (a9 x hx hy).1 k
        · rw [fm_ia F12 (by omega), (d10.2.1 x hx hy).2]; exact (a9 x hx hy).2 y
      have v12 : ∀ k, (k = 6 ∨ 13 < k) → fi h12 88 k = fi h5 88 k := fun k hk => by
        rw [r12, fi_ne (by omega), r11, fi_ne (by omega), d10.2.2 k (by omega), v9 k (by omega)]
      have q12 : fR h12 88 3 = fR h 88 3 := by rw [fm_fR F12, fm_fR d10.1]; exact q93
      have SH : Se (fun x => x < 88 ∨ x = 101 ∨ 1000000 ≤ x) h h9 := S9
      have S12 : Se (fun x => x < 88 ∨ 1000000 ≤ x) h h12 := se_tr (se_mo S9 (fun x hx => by omega)) (se_tr (se_fm d10.1 (fun x hx => by omega)) (se_fm F12 (fun x hx => by omega)))
      obtain ⟨A1, A2, A3, ⟨A4, A4'⟩, ⟨A5, A5'⟩, ⟨A6, A6'⟩, A7, A8, A9, A10, A11⟩ := H
      refine ⟨h12, ?_, ⟨MS_fm F12 M10, ?_, fun i i0 i1 => ?_, ⟨?_, fun j hj i i0 i1 => ?_⟩, ⟨?_, fun j hj i i0 i1 => ?_⟩, ⟨?_, fun i i0 i1 => absurd (show i < 0 from i1) (by omega)⟩, ?_, ?_, ?_, A10, A11⟩, S12, ⟨?_, ?_⟩, ⟨?_, ?_⟩, ?_, ?_⟩
      · rw [zn] at c ⊢
        unfold F_md_lake
        rw [ck_e (MS_k M)]
        try simp only [j_0, j_1, j_2, j_3, j_4, j_5, j_6, j_7, j_8, j_9, j_10, j_11, j_12, j_13, j_14, j_15, j_16, j_17, j_18, j_19, j_20, j_21, j_22, j_23, j_24, j_25, j_26, j_27, j_28, j_29, j_30, j_31, j_32, j_33, j_34, j_35, j_36, j_37, j_38, j_39, j_40, j_41, j_42, j_43, j_44, j_45, j_46, j_47, j_48, j_49, j_50, j_51, j_52, j_57, j_59, j_63, j_74, j_75, j_93, j_97, j_99, j_100, j_122, j_200, j_255, j_300, j_465, j_496, j_900, j_999, j_1000, j_65536, j_65537, j_99999, j_252645135, j_858993459, j_1431655765, k_0, k_1, k_27, k_32, k_74, k_75, k_100, k_1000, k_65537]
        simp (disch := first | with_reducible assumption | omega | trivial) only [↓bn_s1, ↓bd_s1, ↓ei_l1, ↓ei_r1, ↓bn_if, ↓ilt_1, ↓ilt_0, ↓ieq_1, ↓ieq_0, bn_s1, bd_s1, ei_l1, ei_r1, J_add, J_sub, J_mul, J_neg, J_lt, J_le, J_eq, dv_J, rm_J, if_pos, if_neg, ↓reduceIte, bitJ, shlJ, orJ, j_0, j_1, j_2, j_3, j_4, j_5, j_6, j_7, j_8, j_9, j_10, j_11, j_12, j_13, j_14, j_15, j_16, j_17, j_18, j_19, j_20, j_21, j_22, j_23, j_24, j_25, j_26, j_27, j_28, j_29, j_30, j_31, j_32, j_33, j_34, j_35, j_36, j_37, j_38, j_39, j_40, j_41, j_42, j_43, j_44, j_45, j_46, j_47, j_48, j_49, j_50, j_51, j_52, j_57, j_59, j_63, j_74, j_75, j_93, j_97, j_99, j_100, j_122, j_200, j_255, j_300, j_465, j_496, j_900, j_999, j_1000, j_65536, j_65537, j_99999, j_252645135, j_858993459, j_1431655765, k_0, k_1, k_27, k_32, k_74, k_75, k_100, k_1000, k_65537, ↓bn_e (s1), s1, ↓bn_e (g1), g1, ↓bn_e (s2), s2, ↓bn_e (s3), s3, ↓bn_e (s4), s4, ↓bn_e (s5), s5, ↓bd_e (eO), eO, ↓bn_e (eI), eI, ↓bn_e (s7), s7, ↓bn_e (s8), s8, ↓bn_e (e9), e9, ↓bn_e (e10), e10, ↓bn_e (i10), i10, ↓bn_e (s11), s11, ↓bn_e (i11), i11, ↓bn_e (s12), s12]
      · rcases A2 with ⟨p1, p2, p3⟩ | ⟨p1, b0, p2, p3, p4, p5, p6, p7⟩
        · exact Or.inl ⟨p1, by rw [q12]; exact p2, p3⟩
        · have bb := B b0 p3
          refine Or.inr ⟨p1, b0, MS_fm F12 M10, by rw [q12]; exact p3, ?_, ?_, p6, p7⟩
          · have Y0 : YS b0 h5 := YS_fm F5 p4
            have Y1 : YS b0 h6 := YS_se z7 (fun x hx hy => by omega) Y0
            have Y2 : YS b0 h7 := by rw [r7]; exact YS_sR p6 Y1
            exact YS_fm F12 (YS_fm d10.1 (YS_fm f9 (YS_fm f8 Y2)))
          · have fo : ∀ x, b0 ≤ x ∧ x < b0 + 22 → ∀ k, fi h12 x k = fi h x k := fun x hx => (a12 x (by omega) (by omega)).1
            have io : ∀ x, b0 ≤ x ∧ x < b0 + 22 → ∀ k, ia h12 x k = ia h x k := fun x hx => (a12 x (by omega) (by omega)).2
            show LR (qL a) b0 h12
            unfold LR at p5 ⊢
            simp (disch := omega) only [fo, io]
            exact p5
      · rw [(a12 90 (by omega) (by omega)).2]; exact A3 i i0 i1
      · rw [v12 19 (by omega), v5.2.2.2.2 19 (by omega)]; exact A4
      · rw [(a12 92 (by omega) (by omega)).2]; exact A4' j hj i i0 i1
      · rw [v12 20 (by omega), v5.2.2.2.2 20 (by omega)]; exact A5
      · rw [(a12 93 (by omega) (by omega)).2]; exact A5' j hj i i0 i1
      · rw [v12 6 (by omega)]; exact v5.2.1
      · rw [r12, fi_ne (by omega), r11]; exact fi_same (by omega) (by omega)
      · rw [r12, fi_ne (by omega), r11, fi_ne (by omega)]; exact x0
      · rw [r12]
        show _ = (if (4 : Int) = 4 then q else -1)
        rw [if_pos rfl]; exact fi_same (by omega) (by omega)
      · rw [fm_kd F12, fm_kd d10.1]; exact (SH 101 (by omega)).1
      · rw [fm_lln F12, fm_lln d10.1, (SH 101 (by omega)).2.2.2.2.2]
      · rw [F12.2.2.1, d10.1.2.2.1, c9]; omega
      · rw [F12.2.2.1, d10.1.2.2.1, c9]; omega
      · rw [F12.2.2.2.1, d10.1.2.2.2.1, w9]; omega
      · intro b0 e
        rw [F12.2.2.1, d10.1.2.2.1, c9]
        rw [q12] at e
        have := B b0 e
        omega
    | inl y =>
      obtain ⟨p, L⟩ := y
      obtain ⟨h10, e10, d10, C10, x0⟩ := DA.1 p L hO
      have lk := lak_g c hO
      rw [lk.1, lk.2]
      have nz : ¬ L 1 0 = 0 := a_all_nz (n + 1) 0 Lz0 p L (by rw [ez]; exact hO)
      have lw := C10.2.1
      have lh := LW_h lw
      have t31 : ¬ L 31 0 = 0 := fun e => nz (C10.2.2.2.2.2 e 1 (by omega))
      have M10 := C10.1.1.1
      have i10 : gI h10 88 13 12 = some (J 0) := by rw [gI_J (MS_k M10), x0, v9 12 (by omega), v5.2.2.2.1]
      have g10 := dl_r C10.1
      obtain ⟨h11, r11⟩ : ∃ y, y = sFR h10 88 3 (some b) := ⟨_, rfl⟩
      have s11 : pR h10 88 13 3 (some b) = some h11 := by rw [r11]; exact pR_e (MS_k M10)
      have q113 : fR h11 88 3 = some b := by rw [r11]; show (if 88 = 88 ∧ 3 = 3 then some b else fR h10 88 3) = some b; rw [if_pos ⟨rfl, rfl⟩]
      have fi11 : ∀ x k, fi h11 x k = fi h10 x k := fun x k => by rw [r11]; rfl
      have RC11 : RC L b h11 := by
        refine ⟨by rw [r11]; exact MS_sR (by omega) M10, q113, by rw [r11]; exact YS_sR b1 C10.1.2.2.1, ?_, b1, by omega⟩
        rw [r11]
        exact LR_lkx t31 C10.2.2.1
      obtain ⟨h12, e12, f12, X12⟩ := D_asTold (hs := 0) lw RC11 (by omega)
      replace e12 : F_md_asTold 88 (J 0) h11 = some h12 := e12
      have M11 := RC11.1
      have M12 := MS_fm f12 M11
      obtain ⟨y13, h13, e13, f13, p13⟩ := lp_for (b := B_md_lake_104 88) (f := FU) (s := J 0) (h := h12) (fun q s g => s = J q ∧ Fm 90 91 h12 g ∧ ∀ i : Int, 0 ≤ i → i < q → ia g 90 i = tld L 0 i) (fun _ g => Fm 90 91 h12 g ∧ ∀ i : Int, 0 ≤ i → i < 31 → ia g 90 i = tld L 0 i) 31 (by unfold FU; omega) ⟨rfl, fm_rf _ _ _, fun i i0 i1 => by omega⟩ (fun q s g hq hI => by
          obtain ⟨rfl, g2, g3⟩ := hI
          have Mg := MS_fm g2 M12
          have k1 : gR g 88 13 15 = some 90 := gR_e (MS_k Mg) (MS_r15 Mg)
          have k2 : gR g 88 13 16 = some 91 := gR_e (MS_k Mg) (MS_r16 Mg)
          have n1 := MS_n15 Mg
          have n2 := MS_n16 Mg
          have x1 := X12 q (by omega) (by omega)
          have xb := ia_rg h12 91 q
          rw [x1] at xb
          have k3 : aI g 100 91 (J q) = some (J (tld L 0 q)) := by rw [aI_J (MS_k16 Mg) (by omega) (by omega) (by omega), fm_ia g2 (by omega), x1]
          have k4 : sI g 100 90 (J q) (J (tld L 0 q)) = some (wA g 90 q (tld L 0 q)) := sI_J (MS_k15 Mg) (by omega) (by omega) (by omega) (by omega)
          refine ⟨J ((q + 1 : Nat) : Int), wA g 90 q (tld L 0 q), ?_, rfl, fm_tr g2 (fm_wA (by omega) (by omega)), fun i i0 i1 => ?_⟩
          · unfold B_md_lake_104
            try simp only [j_0, j_1, j_2, j_3, j_4, j_5, j_6, j_7, j_8, j_9, j_10, j_11, j_12, j_13, j_14, j_15, j_16, j_17, j_18, j_19, j_20, j_21, j_22, j_23, j_24, j_25, j_26, j_27, j_28, j_29, j_30, j_31, j_32, j_33, j_34, j_35, j_36, j_37, j_38, j_39, j_40, j_41, j_42, j_43, j_44, j_45, j_46, j_47, j_48, j_49, j_50, j_51, j_52, j_57, j_59, j_63, j_74, j_75, j_93, j_97, j_99, j_100, j_122, j_200, j_255, j_300, j_465, j_496, j_900, j_999, j_1000, j_65536, j_65537, j_99999, j_252645135, j_858993459, j_1431655765, k_0, k_1, k_27, k_32, k_74, k_75, k_100, k_1000, k_65537]
            simp (disch := first | with_reducible assumption | omega | trivial) only [↓bn_s1, ↓bd_s1, ↓ei_l1, ↓ei_r1, ↓bn_if, ↓ilt_1, ↓ilt_0, ↓ieq_1, ↓ieq_0, bn_s1, bd_s1, ei_l1, ei_r1, J_add, J_sub, J_mul, J_neg, J_lt, J_le, J_eq, dv_J, rm_J, if_pos, if_neg, ↓reduceIte, bitJ, shlJ, orJ, j_0, j_1, j_2, j_3, j_4, j_5, j_6, j_7, j_8, j_9, j_10, j_11, j_12, j_13, j_14, j_15, j_16, j_17, j_18, j_19, j_20, j_21, j_22, j_23, j_24, j_25, j_26, j_27, j_28, j_29, j_30, j_31, j_32, j_33, j_34, j_35, j_36, j_37, j_38, j_39, j_40, j_41, j_42, j_43, j_44, j_45, j_46, j_47, j_48, j_49, j_50, j_51, j_52, j_57, j_59, j_63, j_74, j_75, j_93, j_97, j_99, j_100, j_122, j_200, j_255, j_300, j_465, j_496, j_900, j_999, j_1000, j_65536, j_65537, j_99999, j_252645135, j_858993459, j_1431655765, k_0, k_1, k_27, k_32, k_74, k_75, k_100, k_1000, k_65537, ↓bn_e (k1), k1, ↓bn_e (k2), k2, ↓bn_e (k3), k3, ↓bn_e (k4), k4]
            rfl
          · rw [ia_if (by omega) i0 (by omega) (by omega) (by omega)]
            by_cases e : i = q
            · rw [if_pos e, e]
            · rw [if_neg e]; exact g3 i i0 (by omega)) (fun s g hI => by
          obtain ⟨rfl, g2, g3⟩ := hI
          refine ⟨(), g, ?_, g2, fun i i0 i1 => g3 i i0 (by omega)⟩
          unfold B_md_lake_104
          try simp only [j_0, j_1, j_2, j_3, j_4, j_5, j_6, j_7, j_8, j_9, j_10, j_11, j_12, j_13, j_14, j_15, j_16, j_17, j_18, j_19, j_20, j_21, j_22, j_23, j_24, j_25, j_26, j_27, j_28, j_29, j_30, j_31, j_32, j_33, j_34, j_35, j_36, j_37, j_38, j_39, j_40, j_41, j_42, j_43, j_44, j_45, j_46, j_47, j_48, j_49, j_50, j_51, j_52, j_57, j_59, j_63, j_74, j_75, j_93, j_97, j_99, j_100, j_122, j_200, j_255, j_300, j_465, j_496, j_900, j_999, j_1000, j_65536, j_65537, j_99999, j_252645135, j_858993459, j_1431655765, k_0, k_1, k_27, k_32, k_74, k_75, k_100, k_1000, k_65537]
          simp (disch := first | with_reducible assumption | omega | trivial) only [↓bn_s1, ↓bd_s1, ↓ei_l1, ↓ei_r1, ↓bn_if, ↓ilt_1, ↓ilt_0, ↓ieq_1, ↓ieq_0, bn_s1, bd_s1, ei_l1, ei_r1, J_add, J_sub, J_mul, J_neg, J_lt, J_le, J_eq, dv_J, rm_J, if_pos, if_neg, ↓reduceIte, bitJ, shlJ, orJ, j_0, j_1, j_2, j_3, j_4, j_5, j_6, j_7, j_8, j_9, j_10, j_11, j_12, j_13, j_14, j_15, j_16, j_17, j_18, j_19, j_20, j_21, j_22, j_23, j_24, j_25, j_26, j_27, j_28, j_29, j_30, j_31, j_32, j_33, j_34, j_35, j_36, j_37, j_38, j_39, j_40, j_41, j_42, j_43, j_44, j_45, j_46, j_47, j_48, j_49, j_50, j_51, j_52, j_57, j_59, j_63, j_74, j_75, j_93, j_97, j_99, j_100, j_122, j_200, j_255, j_300, j_465, j_496, j_900, j_999, j_1000, j_65536, j_65537, j_99999, j_252645135, j_858993459, j_1431655765, k_0, k_1, k_27, k_32, k_74, k_75, k_100, k_1000, k_65537])
      have M13 := MS_fm f13 M12
      obtain ⟨h14, r14⟩ : ∃ y, y = wF h13 88 19 0 := ⟨_, rfl⟩
      have f14 : Fm 88 89 h13 h14 := by rw [r14]; exact fm_wF (by omega) (by omega)
      have s14 : pI h13 88 13 19 (J 0) = some h14 := by rw [r14]; exact pI_J (MS_k M13)
      have M14 := MS_fm f14 M13
      obtain ⟨h15, r15⟩ : ∃ y, y = wF h14 88 20 0 := ⟨_, rfl⟩
      have f15 : Fm 88 89 h14 h15 := by rw [r15]; exact fm_wF (by omega) (by omega)
      have s15 : pI h14 88 13 20 (J 0) = some h15 := by rw [r15]; exact pI_J (MS_k M14)
      have M15 := MS_fm f15 M14
      have F15 : Fm 88 102 h11 h15 := fm_tr (fm_wd f12 (by omega) (by omega)) (fm_tr (fm_wd f13 (by omega) (by omega)) (fm_tr (fm_wd f14 (by omega) (by omega)) (fm_wd f15 (by omega) (by omega))))
      have RC15 := RC_fm F15 (by omega) RC11
      have g15 : gR h15 88 13 3 = some b := gR_e (MS_k M15) RC15.2.1
      have i15 : gI h15 b 12 1 = some (J (L 1 0)) := by rw [gI_J (YS_k RC15.2.2.1), RC15.2.2.2.1.1.2.1]
      have e16 := D_good (y := L 1 0) (MS_k M15)
      obtain ⟨h16, r16⟩ : ∃ y, y = wF (wF h15 88 1 0) 88 2 (-1) := ⟨_, rfl⟩
      rw [← r16] at e16
      have f16 : Fm 88 89 h15 h16 := by rw [r16]; exact fm_tr (fm_wF (by omega) (by omega)) (fm_wF (by omega) (by omega))
      have F16 : Fm 88 102 h11 h16 := fm_tr F15 (fm_wd f16 (by omega) (by omega))
      have RC16 := RC_fm F16 (by omega) RC11
      have v16 : ∀ k, k ≠ 1 → k ≠ 2 → k ≠ 19 → k ≠ 20 → fi h16 88 k = fi h10 88 k := fun k k1 k2 k3 k4 => by
        rw [r16, fi_ne (by omega), fi_ne (by omega), r15, fi_ne (by omega), r14, fi_ne (by omega), fm_fi f13 (by omega), fm_fi f12 (by omega), fi11]
      have SH : Se (fun x => x < 88 ∨ x = 101 ∨ 1000000 ≤ x) h h9 := S9
      have S11 : Se (fun x => x < 88 ∨ x = 101 ∨ 1000000 ≤ x) h10 h11 := by
        intro x hx
        refine ⟨by rw [r11]; rfl, by rw [r11]; rfl, by rw [r11]; rfl, ?_, by rw [r11]; rfl, by rw [r11]; rfl⟩
        funext k
        rw [r11]
        show (if x = 88 ∧ k = 3 then some b else fR h10 x k) = fR h10 x k
        rw [if_neg (by omega)]
      have S16 : Se (fun x => x < 88 ∨ 1000000 ≤ x) h h16 := se_tr (se_mo S9 (fun x hx => by omega)) (se_tr (se_fm d10.1 (fun x hx => by omega)) (se_tr (se_mo S11 (fun x hx => by omega)) (se_fm F16 (fun x hx => by omega))))
      have c11 : cn h11 = b + 22 := by rw [r11]; show cn h10 = _; rw [d10.1.2.2.1, c9]
      have w11 : wd h11 = wd h + 159 := by rw [r11]; show wd h10 = _; rw [d10.1.2.2.2.1, w9]
      refine ⟨h16, ?_, ⟨RC16.1, Or.inr ⟨by show 1 ≤ L 1 0; omega, b, RC16⟩, fun i i0 i1 => ?_, ⟨?_, fun j hj => absurd (show j < 0 from hj) (by omega)⟩, ⟨?_, fun j hj => absurd (show j < 0 from hj) (by omega)⟩, ⟨?_, fun i i0 i1 => absurd (show i < 0 from i1) (by omega)⟩, ?_, ?_, ?_, by show 0 ≤ 16; omega, by show 0 ≤ 3; omega⟩, S16, ⟨?_, ?_⟩, ⟨?_, ?_⟩, ?_, ?_⟩
      · rw [zn] at c ⊢
        unfold F_md_lake
        rw [ck_e (MS_k M)]
        try simp only [j_0, j_1, j_2, j_3, j_4, j_5, j_6, j_7, j_8, j_9, j_10, j_11, j_12, j_13, j_14, j_15, j_16, j_17, j_18, j_19, j_20, j_21, j_22, j_23, j_24, j_25, j_26, j_27, j_28, j_29, j_30, j_31, j_32, j_33, j_34, j_35, j_36, j_37, j_38, j_39, j_40, j_41, j_42, j_43, j_44, j_45, j_46, j_47, j_48, j_49, j_50, j_51, j_52, j_57, j_59, j_63, j_74, j_75, j_93, j_97, j_99, j_100, j_122, j_200, j_255, j_300, j_465, j_496, j_900, j_999, j_1000, j_65536, j_65537, j_99999, j_252645135, j_858993459, j_1431655765, k_0, k_1, k_27, k_32, k_74, k_75, k_100, k_1000, k_65537]
        simp (disch := first | with_reducible assumption | omega | trivial) only [↓bn_s1, ↓bd_s1, ↓ei_l1, ↓ei_r1, ↓bn_if, ↓ilt_1, ↓ilt_0, ↓ieq_1, ↓ieq_0, bn_s1, bd_s1, ei_l1, ei_r1, J_add, J_sub, J_mul, J_neg, J_lt, J_le, J_eq, dv_J, rm_J, if_pos, if_neg, ↓reduceIte, bitJ, shlJ, orJ, j_0, j_1, j_2, j_3, j_4, j_5, j_6, j_7, j_8, j_9, j_10, j_11, j_12, j_13, j_14, j_15, j_16, j_17, j_18, j_19, j_20, j_21, j_22, j_23, j_24, j_25, j_26, j_27, j_28, j_29, j_30, j_31, j_32, j_33, j_34, j_35, j_36, j_37, j_38, j_39, j_40, j_41, j_42, j_43, j_44, j_45, j_46, j_47, j_48, j_49, j_50, j_51, j_52, j_57, j_59, j_63, j_74, j_75, j_93, j_97, j_99, j_100, j_122, j_200, j_255, j_300, j_465, j_496, j_900, j_999, j_1000, j_65536, j_65537, j_99999, j_252645135, j_858993459, j_1431655765, k_0, k_1, k_27, k_32, k_74, k_75, k_100, k_1000, k_65537, ↓bn_e (s1), s1, ↓bn_e (g1), g1, ↓bn_e (s2), s2, ↓bn_e (s3), s3, ↓bn_e (s4), s4, ↓bn_e (s5), s5, ↓bd_e (eO), eO, ↓bn_e (eI), eI, ↓bn_e (s7), s7, ↓bn_e (s8), s8, ↓bn_e (e9), e9, ↓bn_e (e10), e10, ↓bn_e (i10), i10, ↓bn_e (g10), g10, ↓bn_e (s11), s11, ↓bn_e (e12), e12, ↓bd_e (e13), e13, ↓bn_e (s14), s14, ↓bn_e (s15), s15, ↓bn_e (g15), g15, ↓bn_e (i15), i15, ↓bd_e (e16), e16]
      · rw [fm_ia f16 (by omega), fm_ia f15 (by omega), fm_ia f14 (by omega)]; exact p13 i i0 i1
      · rw [fm_fi (fm_rf 0 0 h16) (by omega), r16, fi_ne (by omega), fi_ne (by omega), r15, fi_ne (by omega), r14]; exact fi_same (by omega) (by omega)
      · rw [r16, fi_ne (by omega), fi_ne (by omega), r15]; exact fi_same (by omega) (by omega)
      · rw [v16 6 (by omega) (by omega) (by omega) (by omega), d10.2.2 6 (by omega), v9 6 (by omega)]; exact v5.2.1
      · rw [r16, fi_ne (by omega)]; exact fi_same (by omega) (by omega)
      · rw [v16 12 (by omega) (by omega) (by omega) (by omega), x0, v9 12 (by omega)]; exact v5.2.2.2.1
      · rw [r16]
        show _ = (if (0 : Int) = 4 then (0 : Int) else -1)
        rw [if_neg (by omega)]; exact fi_same (by omega) (by omega)
      · rw [fm_kd F16, (S11 101 (by omega)).1, fm_kd d10.1]; exact (SH 101 (by omega)).1
      · rw [fm_lln F16, (S11 101 (by omega)).2.2.2.2.2, fm_lln d10.1, (SH 101 (by omega)).2.2.2.2.2]
      · rw [F16.2.2.1, c11]; omega
      · rw [F16.2.2.1, c11]; omega
      · rw [F16.2.2.2.1, w11]; omega
      · intro b0 e
        rw [fm_fR F16, q113] at e
        cases e
        rw [F16.2.2.1, c11]
        omega
  · have lk := lak_r c
    rw [lk.1, lk.2]
    obtain ⟨h2, e2, q2, t2, w2⟩ := ref_e (y := 2) M1 (by omega)
    have Q : Qr h h2 := qr_tr (by rw [r1]; exact q00 h) q2
    refine ⟨h2, ?_, RI_q Q t2 w2 (by omega) H, se_fm Q.1 (fun x hx => by omega), ⟨by rw [fm_kd Q.1], fm_lln Q.1 101⟩, ⟨by rw [Q.1.2.2.1]; omega, by rw [Q.1.2.2.1]; omega⟩, by rw [Q.1.2.2.2.1]; omega, fun b e => by rw [Q.1.2.2.1]; exact B b (by rw [← fm_fR Q.1]; exact e)⟩
    unfold F_md_lake
    rw [ck_e (MS_k M)]
    by_cases c0 : z < 0
    · try simp only [j_0, j_1, j_2, j_3, j_4, j_5, j_6, j_7, j_8, j_9, j_10, j_11, j_12, j_13, j_14, j_15, j_16, j_17, j_18, j_19, j_20, j_21, j_22, j_23, j_24, j_25, j_26, j_27, j_28, j_29, j_30, j_31, j_32, j_33, j_34, j_35, j_36, j_37, j_38, j_39, j_40, j_41, j_42, j_43, j_44, j_45, j_46, j_47, j_48, j_49, j_50, j_51, j_52, j_57, j_59, j_63, j_74, j_75, j_93, j_97, j_99, j_100, j_122, j_200, j_255, j_300, j_465, j_496, j_900, j_999, j_1000, j_65536, j_65537, j_99999, j_252645135, j_858993459, j_1431655765, k_0, k_1, k_27, k_32, k_74, k_75, k_100, k_1000, k_65537]
      simp (disch := first | with_reducible assumption | omega | trivial) only [↓bn_s1, ↓bd_s1, ↓ei_l1, ↓ei_r1, ↓bn_if, ↓ilt_1, ↓ilt_0, ↓ieq_1, ↓ieq_0, bn_s1, bd_s1, ei_l1, ei_r1, J_add, J_sub, J_mul, J_neg, J_lt, J_le, J_eq, dv_J, rm_J, if_pos, if_neg, ↓reduceIte, bitJ, shlJ, orJ, j_0, j_1, j_2, j_3, j_4, j_5, j_6, j_7, j_8, j_9, j_10, j_11, j_12, j_13, j_14, j_15, j_16, j_17, j_18, j_19, j_20, j_21, j_22, j_23, j_24, j_25, j_26, j_27, j_28, j_29, j_30, j_31, j_32, j_33, j_34, j_35, j_36, j_37, j_38, j_39, j_40, j_41, j_42, j_43, j_44, j_45, j_46, j_47, j_48, j_49, j_50, j_51, j_52, j_57, j_59, j_63, j_74, j_75, j_93, j_97, j_99, j_100, j_122, j_200, j_255, j_300, j_465, j_496, j_900, j_999, j_1000, j_65536, j_65537, j_99999, j_252645135, j_858993459, j_1431655765, k_0, k_1, k_27, k_32, k_74, k_75, k_100, k_1000, k_65537, ↓bn_e (s1), s1, ↓bd_e (e2), e2]
    · try simp only [j_0, j_1, j_2, j_3, j_4, j_5, j_6, j_7, j_8, j_9, j_10, j_11, j_12, j_13, j_14, j_15, j_16, j_17, j_18, j_19, j_20, j_21, j_22, j_23, j_24, j_25, j_26, j_27, j_28, j_29, j_30, j_31, j_32, j_33, j_34, j_35, j_36, j_37, j_38, j_39, j_40, j_41, j_42, j_43, j_44, j_45, j_46, j_47, j_48, j_49, j_50, j_51, j_52, j_57, j_59, j_63, j_74, j_75, j_93, j_97, j_99, j_100, j_122, j_200, j_255, j_300, j_465, j_496, j_900, j_999, j_1000, j_65536, j_65537, j_99999, j_252645135, j_858993459, j_1431655765, k_0, k_1, k_27, k_32, k_74, k_75, k_100, k_1000, k_65537]
      simp (disch := first | with_reducible assumption | omega | trivial) only [↓bn_s1, ↓bd_s1, ↓ei_l1, ↓ei_r1, ↓bn_if, ↓ilt_1, ↓ilt_0, ↓ieq_1, ↓ieq_0, bn_s1, bd_s1, ei_l1, ei_r1, J_add, J_sub, J_mul, J_neg, J_lt, J_le, J_eq, dv_J, rm_J, if_pos, if_neg, ↓reduceIte, bitJ, shlJ, orJ, j_0, j_1, j_2, j_3, j_4, j_5, j_6, j_7, j_8, j_9, j_10, j_11, j_12, j_13, j_14, j_15, j_16, j_17, j_18, j_19, j_20, j_21, j_22, j_23, j_24, j_25, j_26, j_27, j_28, j_29, j_30, j_31, j_32, j_33, j_34, j_35, j_36, j_37, j_38, j_39, j_40, j_41, j_42, j_43, j_44, j_45, j_46, j_47, j_48, j_49, j_50, j_51, j_52, j_57, j_59, j_63, j_74, j_75, j_93, j_97, j_99, j_100, j_122, j_200, j_255, j_300, j_465, j_496, j_900, j_999, j_1000, j_65536, j_65537, j_99999, j_252645135, j_858993459, j_1431655765, k_0, k_1, k_27, k_32, k_74, k_75, k_100, k_1000, k_65537, ↓bn_e (s1), s1, ↓bn_e (g1), g1, ↓bd_e (e2), e2]
