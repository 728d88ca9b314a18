/-! the law's calls, one by one -/
def LX (xs : List Int32) (i : Nat) (h : Hp) : Prop := WR h ∧ (102 ≤ cn h ∧ cn h ≤ 102 + 22 * i) ∧ wd h ≤ 100000 + 159 * i ∧ HB (cn h) h ∧ kd h 101 = 102 ∧ (lA h 101).length = 1 ∧ kd h 1000000 = 100 ∧ iA h 1000000 = xs
theorem LX_fm {xs : List Int32} {i lo hi : Nat} {h h' : Hp} (x : Fm lo hi h h') (hh : hi ≤ 102) (H : LX xs i h) : LX xs i h' := by
  obtain ⟨a1, a2, a3, a4, a5, a6, a7, a8⟩ := H
  refine ⟨WR_fm x (by omega) a1, by rw [x.2.2.1]; exact a2, by rw [x.2.2.2.1]; exact a3, fun b e => ?_, by rw [fm_kd x]; exact a5, by rw [fm_lln x]; exact a6, by rw [fm_kd x]; exact a7, ?_⟩
  · rw [x.2.2.1]
    exact a4 b (by rw [← fm_fR x]; exact e)
  · rw [(x.2.2.2.2.2.2 1000000 (by omega)).2.2.1]; exact a8
theorem LX_s {xs : List Int32} {i : Nat} {h : Hp} (H : LX xs i h) : LX xs (i + 1) h := by
  obtain ⟨a1, a2, a3, a4⟩ := H
  exact ⟨a1, by omega, by omega, a4⟩
def INV (xs : List Int32) (i : Nat) (h : Hp) : Prop := ∃ a t, AW a ∧ NL a ∧ CI a t h ∧ RI a h ∧ LX xs i h
def LO (xs : List Int32) (i : Nat) (r : Option (((Int32) ⊕ ((Unit) ⊕ Int32)) × Hp)) : Prop := ∃ h', r = some (.inl (J (6 * i : Nat) + (6 : Int32)), h') ∧ INV xs (i + 1) h'
def xv (xs : List Int32) (z : Nat) : Int := (xs.getD z 0).toInt
theorem xv_r (xs : List Int32) (z : Nat) : rng (xv xs z) := J_rg _
theorem ax {xs : List Int32} {h : Hp} {i k : Nat} {ks : Int32} (e1 : kd h 1000000 = 100) (e2 : iA h 1000000 = xs) (hl : 6 * i + k < xs.length) (hx : xs.length ≤ 3072) (ek : ks = J k) : aI h 100 1000000 (J (6 * i : Nat) + ks) = some (J (xv xs (6 * i + k))) := by
  have e : J (6 * i : Nat) + ks = J ((6 * i + k : Nat) : Int) := by
    rw [ek, J_add]
    rfl
  rw [e, aI_J e1 (by omega) (by rw [e2]; omega) (by omega)]
  unfold ia xv
  rw [e2]
  rfl
def TQx (t : Int) : Prop := t = 0 ∨ t = 1 ∨ t = 2 ∨ t = 5
theorem t_p_q {p : Prop} [Decidable p] : TQx (t_p p) := by
  unfold t_p TQx
  by_cases c : p
  · rw [if_pos c]; omega
  · rw [if_neg c]; omega
theorem t_2_q {p q : Prop} [Decidable p] [Decidable q] : TQx (t_2 p q) := by
  unfold t_2 TQx
  by_cases c : p
  · rw [if_pos c]
    by_cases d : q
    · rw [if_pos d]; omega
    · rw [if_neg d]; omega
  · rw [if_neg c]; omega
theorem t_hk_q {p q : Prop} [Decidable p] [Decidable q] : TQx (t_hk p q) := by
  unfold t_hk TQx
  by_cases c : p
  · rw [if_pos c]
    by_cases d : q
    · rw [if_pos d]; omega
    · rw [if_neg d]; omega
  · rw [if_neg c]; omega
theorem t_3_q {p q r : Prop} [Decidable p] [Decidable q] [Decidable r] : TQx (t_3 p q r) := by
  unfold t_3 TQx
  by_cases c : p
  · rw [if_pos c]
    by_cases d : q
    · rw [if_pos d]
      by_cases e : r
      · rw [if_pos e]; omega
      · rw [if_neg e]; omega
    · rw [if_neg d]; omega
  · rw [if_neg c]; omega
theorem t_if_q {p : Prop} [Decidable p] : TQx (if p then 1 else 0) := by
  unfold TQx
  by_cases c : p
  · rw [if_pos c]; omega
  · rw [if_neg c]; omega
theorem st_q {xs : List Int32} {i t : Nat} {a : Ab} {h : Hp} {oc : Option (Int32 × Hp)} {fm : Hp → Option (Int32 × Hp)} {v tr : Int} (A : AW a) (N : NL a) (C : CI a t h) (R : RI a h) (X : LX xs i h) (hc : Cq oc h v tr) (hd : ∀ g, RI a g → Dq (fm g) g v tr) (ht : TQx tr) : ∃ h1 h2, oc = some (J v, h1) ∧ fm h1 = some (J v, h2) ∧ kd h1 1000000 = 100 ∧ iA h1 1000000 = xs ∧ INV xs (i + 1) h2 := by
  obtain ⟨h1, e1, s1, t1⟩ := hc
  have R1 := RI_fm s1.1 R
  obtain ⟨h2, e2, q2, t2, w2⟩ := hd h1 R1
  have X1 := LX_fm s1.1 (by omega) X
  unfold TQx at ht
  exact ⟨h1, h2, e1, e2, X1.2.2.2.2.2.2.1, X1.2.2.2.2.2.2.2, sTr a tr, t, AW_w (by omega) A, N, CI_fm q2.1 (CI_q s1 t1 C), RI_q q2 t2 w2 (by omega) R1, LX_s (LX_fm q2.1 (by omega) X1)⟩
theorem st_k {xs : List Int32} {i t : Nat} {a : Ab} {h : Hp} {oc : Option (Int64 × Hp)} {fm : Hp → Option (Int64 × Hp)} {v tr : Int} (A : AW a) (N : NL a) (C : CI a t h) (R : RI a h) (X : LX xs i h) (hc : Cqk oc h v tr) (hd : ∀ g, RI a g → Dqk (fm g) g v tr) (ht : TQx tr) : ∃ h1 h2, oc = some (K v, h1) ∧ fm h1 = some (K v, h2) ∧ kd h1 1000000 = 100 ∧ iA h1 1000000 = xs ∧ INV xs (i + 1) h2 := by
  obtain ⟨h1, e1, s1, t1⟩ := hc
  have R1 := RI_fm s1.1 R
  obtain ⟨h2, e2, q2, t2, w2⟩ := hd h1 R1
  have X1 := LX_fm s1.1 (by omega) X
  unfold TQx at ht
  exact ⟨h1, h2, e1, e2, X1.2.2.2.2.2.2.1, X1.2.2.2.2.2.2.2, sTr a tr, t, AW_w (by omega) A, N, CI_fm q2.1 (CI_q s1 t1 C), RI_q q2 t2 w2 (by omega) R1, LX_s (LX_fm q2.1 (by omega) X1)⟩
theorem st_a {xs : List Int32} {i t : Nat} {a a' : Ab} {h : Hp} {oc : Option (Int32 × Hp)} {fm : Hp → Option (Int32 × Hp)} {v : Int} (A : AW a') (N : NL a') (R : RI a h) (X : LX xs i h) (hc : Ca oc h v a' t) (hd : ∀ g, RI a g → Da (fm g) g v a') : ∃ h1 h2, oc = some (J v, h1) ∧ fm h1 = some (J v, h2) ∧ kd h1 1000000 = 100 ∧ iA h1 1000000 = xs ∧ INV xs (i + 1) h2 := by
  obtain ⟨h1, e1, s1, c1⟩ := hc
  have R1 := RI_fm s1 R
  obtain ⟨h2, e2, q2, r2⟩ := hd h1 R1
  have X1 := LX_fm s1 (by omega) X
  exact ⟨h1, h2, e1, e2, X1.2.2.2.2.2.2.1, X1.2.2.2.2.2.2.2, a', t, A, N, CI_fm q2 c1, r2, LX_s (LX_fm q2 (by omega) X1)⟩
theorem st_n {xs : List Int32} {i t : Nat} {a : Ab} {h : Hp} (A : AW a) (N : NL a) (C : CI a t h) (R : RI a h) (X : LX xs i h) : INV xs (i + 1) (wF h 88 0 0) := by
  have x : Fm 88 102 h (wF h 88 0 0) := fm_wF (by omega) (by omega)
  exact ⟨a, t, A, N, CI_fm x C, RI_w0 R, LX_s (LX_fm x (by omega) X)⟩
theorem NL_dri {a : Ab} {d z : Int} (N : NL a) : NL (a_dri a d z) := by
  unfold a_dri
  by_cases c : inr d (qL a 4 0) ∧ inr z (qL a 1 0)
  · rw [if_pos c]
    have b : ¬ qL a 1 0 = 0 := by omega
    by_cases e : qS a (5 * z + qL a 17 d) < 999
    · rw [if_pos e]; exact fun w => absurd w b
    · rw [if_neg e]; exact N
  · rw [if_neg c]; exact N
theorem NL_mov {a : Ab} {g z : Int} (N : NL a) : NL (a_mov a g z) := by
  unfold a_mov
  by_cases c : inr g (qL a 3 0) ∧ inr z (qL a 1 0)
  · rw [if_pos c]
    have b : ¬ qL a 1 0 = 0 := by omega
    by_cases e : qS a (25 + g) = z
    · rw [if_pos e]; exact N
    · rw [if_neg e]; exact fun w => absurd w b
  · rw [if_neg c]; exact N
theorem NL_chg {a : Ab} {k i : Int} (N : NL a) : NL (a_chg a k i) := by
  unfold a_chg
  by_cases c : inr k (qL a 2 0)
  · rw [if_pos c]
    have b : ¬ qL a 1 0 = 0 := fun w => by have := (N w).1 2 (by omega); omega
    by_cases e : cbt a k = i
    · rw [if_pos e]; exact N
    · rw [if_neg e]; exact fun w => absurd w b
  · rw [if_neg c]; exact N
theorem NL_sed {a : Ab} {v : Int} (N : NL a) : NL (a_sed a v) := by
  unfold a_sed
  by_cases c : ¬ qL a 1 0 = 0
  · rw [if_pos c]
    by_cases e : 0 ≤ v ∧ v ≤ 65536
    · rw [if_pos e]; exact fun w => absurd w c
    · rw [if_neg e]; exact N
  · rw [if_neg c]; exact N
theorem NL_wek {a : Ab} (N : NL a) : NL (a_wek a) := by
  unfold a_wek
  by_cases c : qL a 1 0 = 0
  · rw [if_pos c]; exact N
  · rw [if_neg c]
    by_cases e : qS a 29 < 999
    · rw [if_pos e]; exact fun w => absurd w c
    · rw [if_neg e]; exact N
theorem NL_und {a : Ab} (N : NL a) : NL (a_und a) := by
  unfold a_und
  by_cases c : qn a = 0
  · rw [if_pos c]; exact N
  · rw [if_neg c]; exact fun w => absurd (N w).2.2.2.1 c
theorem NL_img {a : Ab} (N : NL a) : NL (a_img a) := by
  unfold a_img
  by_cases c : qL a 1 0 = 0
  · rw [if_pos c]; exact N
  · rw [if_neg c]
    by_cases e : qm a < 3
    · rw [if_pos e]; exact fun w => absurd w c
    · rw [if_neg e]; exact N
theorem NL_bck {a : Ab} {i : Int} (N : NL a) : NL (a_bck a i) := by
  unfold a_bck
  by_cases c : inr i (qm a)
  · rw [if_pos c]
    have b : ¬ qL a 1 0 = 0 := fun w => by have := (N w).2.2.2.2; omega
    exact fun w => absurd w b
  · rw [if_neg c]; exact N
theorem NL_fed {a : Ab} {x0 x1 x2 x3 x4 : Int32} (N : NL a) : NL (a_fed a x0 x1 x2 x3 x4) := by
  unfold a_fed
  by_cases c : qtp a + 20 ≤ 1000
  · rw [if_pos c]; exact N
  · rw [if_neg c]; exact N
theorem lgc_s (x : Int64) : lg_cmp x x = (0 : Int32) := by
  unfold lg_cmp
  rw [if_neg (Int64.lt_irrefl), if_pos rfl]
theorem b01 {z : Int} (hz : rng z) : ∃ l : Int, (l = 0 ∨ l = 1) ∧ (if J z = (0 : Int32) then some (0 : Int32) else some (1 : Int32)) = some (J l) := by
  by_cases c : J z = (0 : Int32)
  · exact ⟨0, Or.inl rfl, by rw [if_pos c, j_0]⟩
  · exact ⟨1, Or.inr rfl, by rw [if_neg c, j_1]⟩
theorem law_0 {xs : List Int32} {i : Nat} {h : Hp} (I : INV xs i h) (hl : 6 * i + 6 ≤ xs.length) (hx : xs.length ≤ 3072) : LO xs i (bn (aI h 100 1000000 (J (6 * i : Nat) + (1 : Int32))) fun x18 => bn (aI h 100 1000000 (J (6 * i : Nat) + (2 : Int32))) fun x20 => bn (aI h 100 1000000 (J (6 * i : Nat) + (3 : Int32))) fun x22 => bn (aI h 100 1000000 (J (6 * i : Nat) + (4 : Int32))) fun x24 => bn (aI h 100 1000000 (J (6 * i : Nat) + (5 : Int32))) fun x26 => bd (F_cs_feed 0 x18 x20 x22 x24 x26 h) fun x29 h30 => bn (aI h30 100 1000000 (J (6 * i : Nat) + (1 : Int32))) fun x31 => bn (aI h30 100 1000000 (J (6 * i : Nat) + (2 : Int32))) fun x33 => bn (aI h30 100 1000000 (J (6 * i : Nat) + (3 : Int32))) fun x35 => bn (aI h30 100 1000000 (J (6 * i : Nat) + (4 : Int32))) fun x37 => bn (aI h30 100 1000000 (J (6 * i : Nat) + (5 : Int32))) fun x39 => bd (F_md_feed 88 x31 x33 x35 x37 x39 h30) fun x42 h43 => if x29 = x42 then (some (.inl (J (6 * i : Nat) + (6 : Int32)), h43)) else (some (.inr (.inr (0 : Int32)), h43))) := by
  obtain ⟨a, t, HA, HN, C, R, X⟩ := I
  have k0 := X.2.2.2.2.2.2.1
  have i0 := X.2.2.2.2.2.2.2
  have a1 := ax (i := i) (k := 1) (ks := (1 : Int32)) k0 i0 (by omega) hx (by decide)
  have r1 := xv_r xs (6 * i + 1)
  have a2 := ax (i := i) (k := 2) (ks := (2 : Int32)) k0 i0 (by omega) hx (by decide)
  have r2 := xv_r xs (6 * i + 2)
  have a3 := ax (i := i) (k := 3) (ks := (3 : Int32)) k0 i0 (by omega) hx (by decide)
  have r3 := xv_r xs (6 * i + 3)
  have a4 := ax (i := i) (k := 4) (ks := (4 : Int32)) k0 i0 (by omega) hx (by decide)
  have r4 := xv_r xs (6 * i + 4)
  have a5 := ax (i := i) (k := 5) (ks := (5 : Int32)) k0 i0 (by omega) hx (by decide)
  have r5 := xv_r xs (6 * i + 5)
  obtain ⟨h1, h2, e1, e2, k1, i1, I2⟩ := st_a (AW_fed HA) (NL_fed HN) R X (c_fed (x0 := J (xv xs (6 * i + 1))) (x1 := J (xv xs (6 * i + 2))) (x2 := J (xv xs (6 * i + 3))) (x3 := J (xv xs (6 * i + 4))) (x4 := J (xv xs (6 * i + 5))) HA C) (fun g G => d_fed HA G)
  have b1 := ax (i := i) (k := 1) (ks := (1 : Int32)) k1 i1 (by omega) hx (by decide)
  have b2 := ax (i := i) (k := 2) (ks := (2 : Int32)) k1 i1 (by omega) hx (by decide)
  have b3 := ax (i := i) (k := 3) (ks := (3 : Int32)) k1 i1 (by omega) hx (by decide)
  have b4 := ax (i := i) (k := 4) (ks := (4 : Int32)) k1 i1 (by omega) hx (by decide)
  have b5 := ax (i := i) (k := 5) (ks := (5 : Int32)) k1 i1 (by omega) hx (by decide)
  refine ⟨h2, ?_, I2⟩
  rw [bn_e a1, bn_e a2, bn_e a3, bn_e a4, bn_e a5, bd_e e1, bn_e b1, bn_e b2, bn_e b3, bn_e b4, bn_e b5, bd_e e2, if_pos rfl]
theorem law_1 {xs : List Int32} {i : Nat} {h : Hp} (I : INV xs i h) (hl : 6 * i + 6 ≤ xs.length) (hx : xs.length ≤ 3072) : LO xs i (bn (aI h 100 1000000 (J (6 * i : Nat) + (1 : Int32))) fun x44 => bd (F_cs_lake 0 x44 h) fun x47 h48 => bn (aI h48 100 1000000 (J (6 * i : Nat) + (1 : Int32))) fun x49 => bd (F_md_lake 88 x49 h48) fun x52 h53 => if x47 = x52 then (some (.inl (J (6 * i : Nat) + (6 : Int32)), h53)) else (some (.inr (.inr (0 : Int32)), h53))) := by
  obtain ⟨a, t, HA, HN, C, R, X⟩ := I
  have k0 := X.2.2.2.2.2.2.1
  have i0 := X.2.2.2.2.2.2.2
  have a1 := ax (i := i) (k := 1) (ks := (1 : Int32)) k0 i0 (by omega) hx (by decide)
  have r1 := xv_r xs (6 * i + 1)
  obtain ⟨h1, t', e1, C1, S1, cn1, wd1, A1, N1⟩ := c_lak HA HN C X.1 r1
  obtain ⟨X1, X2, X3, X4, X5, X6, X7, X8⟩ := X
  have R1 : RI a h1 := RI_se (m := cn h) (se_mo S1 (fun x hx => hx.1)) X2.1 X4 R
  have q88 : fR h1 88 3 = fR h 88 3 := by rw [(S1 88 (by omega)).2.2.2.1]
  have W1 : WR h1 := by
    have S1' : Se (fun a => 1000001 ≤ a) h h1 := se_mo S1 (fun x hx => by omega)
    intro k hk
    have q := X1 k hk
    obtain ⟨p1, p2, _, p4, _⟩ := S1' (1000003 + k) (by omega)
    obtain ⟨s1, _, _, _, s5, _⟩ := S1' (1000103 + k) (by omega)
    refine ⟨by rw [p1]; exact q.1, by rw [p4]; exact q.2.1, ?_, by rw [s1]; exact q.2.2.2.1, by rw [s5]; exact q.2.2.2.2⟩
    unfold fi
    rw [p2]
    exact q.2.2.1
  have B1 : HB (cn h1) h1 := fun b e => by rw [cn1]; exact X4 b (by rw [← q88]; exact e)
  have k1 : kd h1 1000000 = 100 := by rw [(S1 1000000 (by omega)).1]; exact X7
  have i1 : iA h1 1000000 = xs := by rw [(S1 1000000 (by omega)).2.2.2.2.1]; exact X8
  have ib : i ≤ 512 := by omega
  obtain ⟨h2, e2, R2, S2, ⟨g1, g2⟩, c2, w2, B2⟩ := d_lak HA R1 W1 r1 (by omega) (by omega) B1
  have b1 := ax (i := i) (k := 1) (ks := (1 : Int32)) k1 i1 (by omega) hx (by decide)
  refine ⟨h2, ?_, a_lak a (xv xs (6 * i + 1)), t', A1, N1, CI_se (se_mo S2 (fun x hx => by omega)) C1, R2, WR_wc (se_wc (se_mo S2 (fun x hx => by omega))) W1, by omega, by omega, B2, ?_, ?_, ?_, ?_⟩
  · rw [bn_e a1, bd_e e1, bn_e b1, bd_e e2, if_pos rfl]
  · rw [g1, (S1 101 (by omega)).1]; exact X5
  · rw [g2, (S1 101 (by omega)).2.2.2.2.2]; exact X6
  · rw [(S2 1000000 (by omega)).1]; exact k1
  · rw [(S2 1000000 (by omega)).2.2.2.2.1]; exact i1
theorem law_2 {xs : List Int32} {i : Nat} {h : Hp} (I : INV xs i h) (hl : 6 * i + 6 ≤ xs.length) (hx : xs.length ≤ 3072) : LO xs i (bn (F_cs_fault 0 h) fun x55 => bd (F_md_fault 88 h) fun x57 h58 => if x55 = x57 then (some (.inl (J (6 * i : Nat) + (6 : Int32)), h58)) else (some (.inr (.inr (0 : Int32)), h58))) := by
  obtain ⟨a, t, HA, HN, C, R, X⟩ := I
  have k0 := X.2.2.2.2.2.2.1
  have i0 := X.2.2.2.2.2.2.2
  have e1 := c_fau C
  have e2 := d_fau R
  unfold Cn at e1
  unfold Dn at e2
  refine ⟨wF h 88 0 0, ?_, st_n HA HN C R X⟩
  rw [bn_e e1, bd_e e2, if_pos rfl]
theorem law_3 {xs : List Int32} {i : Nat} {h : Hp} (I : INV xs i h) (hl : 6 * i + 6 ≤ xs.length) (hx : xs.length ≤ 3072) : LO xs i (bn (F_cs_where 0 h) fun x60 => bd (F_md_where 88 h) fun x62 h63 => if x60 = x62 then (some (.inl (J (6 * i : Nat) + (6 : Int32)), h63)) else (some (.inr (.inr (0 : Int32)), h63))) := by
  obtain ⟨a, t, HA, HN, C, R, X⟩ := I
  have k0 := X.2.2.2.2.2.2.1
  have i0 := X.2.2.2.2.2.2.2
  have e1 := c_whe HA C
  have e2 := d_whe R
  unfold Cn at e1
  unfold Dn at e2
  refine ⟨wF h 88 0 0, ?_, st_n HA HN C R X⟩
  rw [bn_e e1, bd_e e2, if_pos rfl]
theorem law_4 {xs : List Int32} {i : Nat} {h : Hp} (I : INV xs i h) (hl : 6 * i + 6 ≤ xs.length) (hx : xs.length ≤ 3072) : LO xs i (bn (aI h 100 1000000 (J (6 * i : Nat) + (1 : Int32))) fun x64 => bn (aI h 100 1000000 (J (6 * i : Nat) + (2 : Int32))) fun x66 => bd (F_cs_house 0 x64 x66 h) fun x69 h70 => bn (aI h70 100 1000000 (J (6 * i : Nat) + (1 : Int32))) fun x71 => bn (aI h70 100 1000000 (J (6 * i : Nat) + (2 : Int32))) fun x73 => bd (F_md_house 88 x71 x73 h70) fun x76 h77 => if x69 = x76 then (some (.inl (J (6 * i : Nat) + (6 : Int32)), h77)) else (some (.inr (.inr (0 : Int32)), h77))) := by
  obtain ⟨a, t, HA, HN, C, R, X⟩ := I
  have k0 := X.2.2.2.2.2.2.1
  have i0 := X.2.2.2.2.2.2.2
  have a1 := ax (i := i) (k := 1) (ks := (1 : Int32)) k0 i0 (by omega) hx (by decide)
  have r1 := xv_r xs (6 * i + 1)
  have a2 := ax (i := i) (k := 2) (ks := (2 : Int32)) k0 i0 (by omega) hx (by decide)
  have r2 := xv_r xs (6 * i + 2)
  obtain ⟨h1, h2, e1, e2, k1, i1, I2⟩ := st_q HA HN C R X (c_hou HA C r1 r2) (fun g G => d_hou HA G r1 r2) (by first | exact t_p_q | exact t_2_q | exact t_hk_q | exact t_3_q | exact t_if_q)
  have b1 := ax (i := i) (k := 1) (ks := (1 : Int32)) k1 i1 (by omega) hx (by decide)
  have b2 := ax (i := i) (k := 2) (ks := (2 : Int32)) k1 i1 (by omega) hx (by decide)
  refine ⟨h2, ?_, I2⟩
  rw [bn_e a1, bn_e a2, bd_e e1, bn_e b1, bn_e b2, bd_e e2, if_pos rfl]
theorem law_5 {xs : List Int32} {i : Nat} {h : Hp} (I : INV xs i h) (hl : 6 * i + 6 ≤ xs.length) (hx : xs.length ≤ 3072) : LO xs i (bn (aI h 100 1000000 (J (6 * i : Nat) + (1 : Int32))) fun x78 => bn (aI h 100 1000000 (J (6 * i : Nat) + (2 : Int32))) fun x80 => bd (F_cs_corks 0 x78 x80 h) fun x83 h84 => bn (aI h84 100 1000000 (J (6 * i : Nat) + (1 : Int32))) fun x85 => bn (aI h84 100 1000000 (J (6 * i : Nat) + (2 : Int32))) fun x87 => bd (F_md_corks 88 x85 x87 h84) fun x90 h91 => if x83 = x90 then (some (.inl (J (6 * i : Nat) + (6 : Int32)), h91)) else (some (.inr (.inr (0 : Int32)), h91))) := by
  obtain ⟨a, t, HA, HN, C, R, X⟩ := I
  have k0 := X.2.2.2.2.2.2.1
  have i0 := X.2.2.2.2.2.2.2
  have a1 := ax (i := i) (k := 1) (ks := (1 : Int32)) k0 i0 (by omega) hx (by decide)
  have r1 := xv_r xs (6 * i + 1)
  have a2 := ax (i := i) (k := 2) (ks := (2 : Int32)) k0 i0 (by omega) hx (by decide)
  have r2 := xv_r xs (6 * i + 2)
  obtain ⟨h1, h2, e1, e2, k1, i1, I2⟩ := st_q HA HN C R X (c_cor HA C r1 r2) (fun g G => d_cor HA G r1 r2) (by first | exact t_p_q | exact t_2_q | exact t_hk_q | exact t_3_q | exact t_if_q)
  have b1 := ax (i := i) (k := 1) (ks := (1 : Int32)) k1 i1 (by omega) hx (by decide)
  have b2 := ax (i := i) (k := 2) (ks := (2 : Int32)) k1 i1 (by omega) hx (by decide)
  refine ⟨h2, ?_, I2⟩
  rw [bn_e a1, bn_e a2, bd_e e1, bn_e b1, bn_e b2, bd_e e2, if_pos rfl]
theorem law_6 {xs : List Int32} {i : Nat} {h : Hp} (I : INV xs i h) (hl : 6 * i + 6 ≤ xs.length) (hx : xs.length ≤ 3072) : LO xs i (bn (aI h 100 1000000 (J (6 * i : Nat) + (1 : Int32))) fun x92 => bn (aI h 100 1000000 (J (6 * i : Nat) + (2 : Int32))) fun x94 => bd (F_cs_guest 0 x92 x94 h) fun x97 h98 => bn (aI h98 100 1000000 (J (6 * i : Nat) + (1 : Int32))) fun x99 => bn (aI h98 100 1000000 (J (6 * i : Nat) + (2 : Int32))) fun x101 => bd (F_md_guest 88 x99 x101 h98) fun x104 h105 => if x97 = x104 then (some (.inl (J (6 * i : Nat) + (6 : Int32)), h105)) else (some (.inr (.inr (0 : Int32)), h105))) := by
  obtain ⟨a, t, HA, HN, C, R, X⟩ := I
  have k0 := X.2.2.2.2.2.2.1
  have i0 := X.2.2.2.2.2.2.2
  have a1 := ax (i := i) (k := 1) (ks := (1 : Int32)) k0 i0 (by omega) hx (by decide)
  have r1 := xv_r xs (6 * i + 1)
  have a2 := ax (i := i) (k := 2) (ks := (2 : Int32)) k0 i0 (by omega) hx (by decide)
  have r2 := xv_r xs (6 * i + 2)
  obtain ⟨h1, h2, e1, e2, k1, i1, I2⟩ := st_q HA HN C R X (c_gue HA C r1 r2) (fun g G => d_gue HA G r1 r2) (by first | exact t_p_q | exact t_2_q | exact t_hk_q | exact t_3_q | exact t_if_q)
  have b1 := ax (i := i) (k := 1) (ks := (1 : Int32)) k1 i1 (by omega) hx (by decide)
  have b2 := ax (i := i) (k := 2) (ks := (2 : Int32)) k1 i1 (by omega) hx (by decide)
  refine ⟨h2, ?_, I2⟩
  rw [bn_e a1, bn_e a2, bd_e e1, bn_e b1, bn_e b2, bd_e e2, if_pos rfl]
theorem law_7 {xs : List Int32} {i : Nat} {h : Hp} (I : INV xs i h) (hl : 6 * i + 6 ≤ xs.length) (hx : xs.length ≤ 3072) : LO xs i (bn (aI h 100 1000000 (J (6 * i : Nat) + (1 : Int32))) fun x106 => bn (aI h 100 1000000 (J (6 * i : Nat) + (2 : Int32))) fun x108 => bd (F_cs_rope 0 x106 x108 h) fun x111 h112 => bn (aI h112 100 1000000 (J (6 * i : Nat) + (1 : Int32))) fun x113 => bn (aI h112 100 1000000 (J (6 * i : Nat) + (2 : Int32))) fun x115 => bd (F_md_rope 88 x113 x115 h112) fun x118 h119 => if x111 = x118 then (some (.inl (J (6 * i : Nat) + (6 : Int32)), h119)) else (some (.inr (.inr (0 : Int32)), h119))) := by
  obtain ⟨a, t, HA, HN, C, R, X⟩ := I
  have k0 := X.2.2.2.2.2.2.1
  have i0 := X.2.2.2.2.2.2.2
  have a1 := ax (i := i) (k := 1) (ks := (1 : Int32)) k0 i0 (by omega) hx (by decide)
  have r1 := xv_r xs (6 * i + 1)
  have a2 := ax (i := i) (k := 2) (ks := (2 : Int32)) k0 i0 (by omega) hx (by decide)
  have r2 := xv_r xs (6 * i + 2)
  obtain ⟨h1, h2, e1, e2, k1, i1, I2⟩ := st_q HA HN C R X (c_rop HA C r1 r2) (fun g G => d_rop HA G r1 r2) (by first | exact t_p_q | exact t_2_q | exact t_hk_q | exact t_3_q | exact t_if_q)
  have b1 := ax (i := i) (k := 1) (ks := (1 : Int32)) k1 i1 (by omega) hx (by decide)
  have b2 := ax (i := i) (k := 2) (ks := (2 : Int32)) k1 i1 (by omega) hx (by decide)
  refine ⟨h2, ?_, I2⟩
  rw [bn_e a1, bn_e a2, bd_e e1, bn_e b1, bn_e b2, bd_e e2, if_pos rfl]
theorem law_8 {xs : List Int32} {i : Nat} {h : Hp} (I : INV xs i h) (hl : 6 * i + 6 ≤ xs.length) (hx : xs.length ≤ 3072) : LO xs i (bd (F_cs_under 0 h) fun x121 h122 => bd (F_md_under 88 h122) fun x124 h125 => if x121 = x124 then (some (.inl (J (6 * i : Nat) + (6 : Int32)), h125)) else (some (.inr (.inr (0 : Int32)), h125))) := by
  obtain ⟨a, t, HA, HN, C, R, X⟩ := I
  have k0 := X.2.2.2.2.2.2.1
  have i0 := X.2.2.2.2.2.2.2
  obtain ⟨h1, h2, e1, e2, k1, i1, I2⟩ := st_q HA HN C R X (c_und HA C) (fun g G => d_und HA G) (by first | exact t_p_q | exact t_2_q | exact t_hk_q | exact t_3_q | exact t_if_q)
  refine ⟨h2, ?_, I2⟩
  rw [bd_e e1, bd_e e2, if_pos rfl]
theorem law_9 {xs : List Int32} {i : Nat} {h : Hp} (I : INV xs i h) (hl : 6 * i + 6 ≤ xs.length) (hx : xs.length ≤ 3072) : LO xs i (bd (F_cs_lowest 0 h) fun x127 h128 => bd (F_md_lowest 88 h128) fun x130 h131 => if x127 = x130 then (some (.inl (J (6 * i : Nat) + (6 : Int32)), h131)) else (some (.inr (.inr (0 : Int32)), h131))) := by
  obtain ⟨a, t, HA, HN, C, R, X⟩ := I
  have k0 := X.2.2.2.2.2.2.1
  have i0 := X.2.2.2.2.2.2.2
  obtain ⟨h1, h2, e1, e2, k1, i1, I2⟩ := st_q HA HN C R X (c_low HA C) (fun g G => d_low HA G) (by first | exact t_p_q | exact t_2_q | exact t_hk_q | exact t_3_q | exact t_if_q)
  refine ⟨h2, ?_, I2⟩
  rw [bd_e e1, bd_e e2, if_pos rfl]
theorem law_10 {xs : List Int32} {i : Nat} {h : Hp} (I : INV xs i h) (hl : 6 * i + 6 ≤ xs.length) (hx : xs.length ≤ 3072) : LO xs i (bd (F_cs_rafts 0 h) fun x133 h134 => bd (F_md_rafts 88 h134) fun x136 h137 => if x133 = x136 then (some (.inl (J (6 * i : Nat) + (6 : Int32)), h137)) else (some (.inr (.inr (0 : Int32)), h137))) := by
  obtain ⟨a, t, HA, HN, C, R, X⟩ := I
  have k0 := X.2.2.2.2.2.2.1
  have i0 := X.2.2.2.2.2.2.2
  obtain ⟨h1, h2, e1, e2, k1, i1, I2⟩ := st_q HA HN C R X (c_raf HA C) (fun g G => d_raf HA G) (by first | exact t_p_q | exact t_2_q | exact t_hk_q | exact t_3_q | exact t_if_q)
  refine ⟨h2, ?_, I2⟩
  rw [bd_e e1, bd_e e2, if_pos rfl]
theorem law_11 {xs : List Int32} {i : Nat} {h : Hp} (I : INV xs i h) (hl : 6 * i + 6 ≤ xs.length) (hx : xs.length ≤ 3072) : LO xs i (bn (aI h 100 1000000 (J (6 * i : Nat) + (1 : Int32))) fun x138 => bd (F_cs_tilt 0 x138 h) fun x141 h142 => bn (aI h142 100 1000000 (J (6 * i : Nat) + (1 : Int32))) fun x143 => bd (F_md_tilt 88 x143 h142) fun x146 h147 => if x141 = x146 then (some (.inl (J (6 * i : Nat) + (6 : Int32)), h147)) else (some (.inr (.inr (0 : Int32)), h147))) := by
  obtain ⟨a, t, HA, HN, C, R, X⟩ := I
  have k0 := X.2.2.2.2.2.2.1
  have i0 := X.2.2.2.2.2.2.2
  have a1 := ax (i := i) (k := 1) (ks := (1 : Int32)) k0 i0 (by omega) hx (by decide)
  have r1 := xv_r xs (6 * i + 1)
  obtain ⟨h1, h2, e1, e2, k1, i1, I2⟩ := st_q HA HN C R X (c_til HA C r1) (fun g G => d_til HA G r1) (by first | exact t_p_q | exact t_2_q | exact t_hk_q | exact t_3_q | exact t_if_q)
  have b1 := ax (i := i) (k := 1) (ks := (1 : Int32)) k1 i1 (by omega) hx (by decide)
  refine ⟨h2, ?_, I2⟩
  rw [bn_e a1, bd_e e1, bn_e b1, bd_e e2, if_pos rfl]
theorem law_12 {xs : List Int32} {i : Nat} {h : Hp} (I : INV xs i h) (hl : 6 * i + 6 ≤ xs.length) (hx : xs.length ≤ 3072) : LO xs i (bn (aI h 100 1000000 (J (6 * i : Nat) + (1 : Int32))) fun x148 => bn (aI h 100 1000000 (J (6 * i : Nat) + (2 : Int32))) fun x150 => bd (F_cs_heightIn 0 x148 x150 h) fun x153 h154 => bn (aI h154 100 1000000 (J (6 * i : Nat) + (1 : Int32))) fun x155 => bn (aI h154 100 1000000 (J (6 * i : Nat) + (2 : Int32))) fun x157 => bd (F_md_heightIn 88 x155 x157 h154) fun x160 h161 => if x153 = x160 then (some (.inl (J (6 * i : Nat) + (6 : Int32)), h161)) else (some (.inr (.inr (0 : Int32)), h161))) := by
  obtain ⟨a, t, HA, HN, C, R, X⟩ := I
  have k0 := X.2.2.2.2.2.2.1
  have i0 := X.2.2.2.2.2.2.2
  have a1 := ax (i := i) (k := 1) (ks := (1 : Int32)) k0 i0 (by omega) hx (by decide)
  have r1 := xv_r xs (6 * i + 1)
  have a2 := ax (i := i) (k := 2) (ks := (2 : Int32)) k0 i0 (by omega) hx (by decide)
  have r2 := xv_r xs (6 * i + 2)
  obtain ⟨h1, h2, e1, e2, k1, i1, I2⟩ := st_q HA HN C R X (c_hin HA C r1 r2) (fun g G => d_hin HA G r1 r2) (by first | exact t_p_q | exact t_2_q | exact t_hk_q | exact t_3_q | exact t_if_q)
  have b1 := ax (i := i) (k := 1) (ks := (1 : Int32)) k1 i1 (by omega) hx (by decide)
  have b2 := ax (i := i) (k := 2) (ks := (2 : Int32)) k1 i1 (by omega) hx (by decide)
  refine ⟨h2, ?_, I2⟩
  rw [bn_e a1, bn_e a2, bd_e e1, bn_e b1, bn_e b2, bd_e e2, if_pos rfl]
theorem law_13 {xs : List Int32} {i : Nat} {h : Hp} (I : INV xs i h) (hl : 6 * i + 6 ≤ xs.length) (hx : xs.length ≤ 3072) : LO xs i (bn (aI h 100 1000000 (J (6 * i : Nat) + (1 : Int32))) fun x162 => bd (F_cs_underIn 0 x162 h) fun x165 h166 => bn (aI h166 100 1000000 (J (6 * i : Nat) + (1 : Int32))) fun x167 => bd (F_md_underIn 88 x167 h166) fun x170 h171 => if x165 = x170 then (some (.inl (J (6 * i : Nat) + (6 : Int32)), h171)) else (some (.inr (.inr (0 : Int32)), h171))) := by
  obtain ⟨a, t, HA, HN, C, R, X⟩ := I
  have k0 := X.2.2.2.2.2.2.1
  have i0 := X.2.2.2.2.2.2.2
  have a1 := ax (i := i) (k := 1) (ks := (1 : Int32)) k0 i0 (by omega) hx (by decide)
  have r1 := xv_r xs (6 * i + 1)
  obtain ⟨h1, h2, e1, e2, k1, i1, I2⟩ := st_q HA HN C R X (c_uin HA C r1) (fun g G => d_uin HA G r1) (by first | exact t_p_q | exact t_2_q | exact t_hk_q | exact t_3_q | exact t_if_q)
  have b1 := ax (i := i) (k := 1) (ks := (1 : Int32)) k1 i1 (by omega) hx (by decide)
  refine ⟨h2, ?_, I2⟩
  rw [bn_e a1, bd_e e1, bn_e b1, bd_e e2, if_pos rfl]
theorem law_14 {xs : List Int32} {i : Nat} {h : Hp} (I : INV xs i h) (hl : 6 * i + 6 ≤ xs.length) (hx : xs.length ≤ 3072) : LO xs i (bn (aI h 100 1000000 (J (6 * i : Nat) + (1 : Int32))) fun x172 => bd (F_cs_sinks 0 x172 h) fun x175 h176 => bn (aI h176 100 1000000 (J (6 * i : Nat) + (1 : Int32))) fun x177 => bd (F_md_sinks 88 x177 h176) fun x180 h181 => if x175 = x180 then (some (.inl (J (6 * i : Nat) + (6 : Int32)), h181)) else (some (.inr (.inr (0 : Int32)), h181))) := by
  obtain ⟨a, t, HA, HN, C, R, X⟩ := I
  have k0 := X.2.2.2.2.2.2.1
  have i0 := X.2.2.2.2.2.2.2
  have a1 := ax (i := i) (k := 1) (ks := (1 : Int32)) k0 i0 (by omega) hx (by decide)
  have r1 := xv_r xs (6 * i + 1)
  obtain ⟨h1, h2, e1, e2, k1, i1, I2⟩ := st_q HA HN C R X (c_sin HA C r1) (fun g G => d_sin HA G r1) (by first | exact t_p_q | exact t_2_q | exact t_hk_q | exact t_3_q | exact t_if_q)
  have b1 := ax (i := i) (k := 1) (ks := (1 : Int32)) k1 i1 (by omega) hx (by decide)
  refine ⟨h2, ?_, I2⟩
  rw [bn_e a1, bd_e e1, bn_e b1, bd_e e2, if_pos rfl]
theorem law_15 {xs : List Int32} {i : Nat} {h : Hp} (I : INV xs i h) (hl : 6 * i + 6 ≤ xs.length) (hx : xs.length ≤ 3072) : LO xs i (bd (F_cs_wetFeast 0 h) fun x183 h184 => bd (F_md_wetFeast 88 h184) fun x186 h187 => if x183 = x186 then (some (.inl (J (6 * i : Nat) + (6 : Int32)), h187)) else (some (.inr (.inr (0 : Int32)), h187))) := by
  obtain ⟨a, t, HA, HN, C, R, X⟩ := I
  have k0 := X.2.2.2.2.2.2.1
  have i0 := X.2.2.2.2.2.2.2
  obtain ⟨h1, h2, e1, e2, k1, i1, I2⟩ := st_q HA HN C R X (c_wet HA C) (fun g G => d_wet HA G) (by first | exact t_p_q | exact t_2_q | exact t_hk_q | exact t_3_q | exact t_if_q)
  refine ⟨h2, ?_, I2⟩
  rw [bd_e e1, bd_e e2, if_pos rfl]
theorem law_16 {xs : List Int32} {i : Nat} {h : Hp} (I : INV xs i h) (hl : 6 * i + 6 ≤ xs.length) (hx : xs.length ≤ 3072) : LO xs i (bn (aI h 100 1000000 (J (6 * i : Nat) + (1 : Int32))) fun x188 => bn (aI h 100 1000000 (J (6 * i : Nat) + (2 : Int32))) fun x190 => bn (aI h 100 1000000 (J (6 * i : Nat) + (3 : Int32))) fun x192 => bd (F_cs_aunt 0 x188 x190 x192 h) fun x195 h196 => bn (aI h196 100 1000000 (J (6 * i : Nat) + (1 : Int32))) fun x197 => bn (aI h196 100 1000000 (J (6 * i : Nat) + (2 : Int32))) fun x199 => bn (aI h196 100 1000000 (J (6 * i : Nat) + (3 : Int32))) fun x201 => bd (F_md_aunt 88 x197 x199 x201 h196) fun x204 h205 => if x195 = x204 then (some (.inl (J (6 * i : Nat) + (6 : Int32)), h205)) else (some (.inr (.inr (0 : Int32)), h205))) := by
  obtain ⟨a, t, HA, HN, C, R, X⟩ := I
  have k0 := X.2.2.2.2.2.2.1
  have i0 := X.2.2.2.2.2.2.2
  have a1 := ax (i := i) (k := 1) (ks := (1 : Int32)) k0 i0 (by omega) hx (by decide)
  have r1 := xv_r xs (6 * i + 1)
  have a2 := ax (i := i) (k := 2) (ks := (2 : Int32)) k0 i0 (by omega) hx (by decide)
  have r2 := xv_r xs (6 * i + 2)
  have a3 := ax (i := i) (k := 3) (ks := (3 : Int32)) k0 i0 (by omega) hx (by decide)
  have r3 := xv_r xs (6 * i + 3)
  obtain ⟨h1, h2, e1, e2, k1, i1, I2⟩ := st_q HA HN C R X (c_aun HA C r1 r2 r3) (fun g G => d_aun HA G r1 r2 r3) (by first | exact t_p_q | exact t_2_q | exact t_hk_q | exact t_3_q | exact t_if_q)
  have b1 := ax (i := i) (k := 1) (ks := (1 : Int32)) k1 i1 (by omega) hx (by decide)
  have b2 := ax (i := i) (k := 2) (ks := (2 : Int32)) k1 i1 (by omega) hx (by decide)
  have b3 := ax (i := i) (k := 3) (ks := (3 : Int32)) k1 i1 (by omega) hx (by decide)
  refine ⟨h2, ?_, I2⟩
  rw [bn_e a1, bn_e a2, bn_e a3, bd_e e1, bn_e b1, bn_e b2, bn_e b3, bd_e e2, if_pos rfl]
theorem law_17 {xs : List Int32} {i : Nat} {h : Hp} (I : INV xs i h) (hl : 6 * i + 6 ≤ xs.length) (hx : xs.length ≤ 3072) : LO xs i (bn (aI h 100 1000000 (J (6 * i : Nat) + (1 : Int32))) fun x206 => bd (F_cs_bestStay 0 x206 h) fun x209 h210 => bn (aI h210 100 1000000 (J (6 * i : Nat) + (1 : Int32))) fun x211 => bd (F_md_bestStay 88 x211 h210) fun x214 h215 => if x209 = x214 then (some (.inl (J (6 * i : Nat) + (6 : Int32)), h215)) else (some (.inr (.inr (0 : Int32)), h215))) := by
  obtain ⟨a, t, HA, HN, C, R, X⟩ := I
  have k0 := X.2.2.2.2.2.2.1
  have i0 := X.2.2.2.2.2.2.2
  have a1 := ax (i := i) (k := 1) (ks := (1 : Int32)) k0 i0 (by omega) hx (by decide)
  have r1 := xv_r xs (6 * i + 1)
  obtain ⟨h1, h2, e1, e2, k1, i1, I2⟩ := st_q HA HN C R X (c_bst HA C r1) (fun g G => d_bst HA G r1) (by first | exact t_p_q | exact t_2_q | exact t_hk_q | exact t_3_q | exact t_if_q)
  have b1 := ax (i := i) (k := 1) (ks := (1 : Int32)) k1 i1 (by omega) hx (by decide)
  refine ⟨h2, ?_, I2⟩
  rw [bn_e a1, bd_e e1, bn_e b1, bd_e e2, if_pos rfl]
theorem law_18 {xs : List Int32} {i : Nat} {h : Hp} (I : INV xs i h) (hl : 6 * i + 6 ≤ xs.length) (hx : xs.length ≤ 3072) : LO xs i (bn (aI h 100 1000000 (J (6 * i : Nat) + (1 : Int32))) fun x216 => bd (F_cs_bestMove 0 x216 h) fun x219 h220 => bn (aI h220 100 1000000 (J (6 * i : Nat) + (1 : Int32))) fun x221 => bd (F_md_bestMove 88 x221 h220) fun x224 h225 => if x219 = x224 then (some (.inl (J (6 * i : Nat) + (6 : Int32)), h225)) else (some (.inr (.inr (0 : Int32)), h225))) := by
  obtain ⟨a, t, HA, HN, C, R, X⟩ := I
  have k0 := X.2.2.2.2.2.2.1
  have i0 := X.2.2.2.2.2.2.2
  have a1 := ax (i := i) (k := 1) (ks := (1 : Int32)) k0 i0 (by omega) hx (by decide)
  have r1 := xv_r xs (6 * i + 1)
  obtain ⟨h1, h2, e1, e2, k1, i1, I2⟩ := st_q HA HN C R X (c_bmv HA C r1) (fun g G => d_bmv HA G r1) (by first | exact t_p_q | exact t_2_q | exact t_hk_q | exact t_3_q | exact t_if_q)
  have b1 := ax (i := i) (k := 1) (ks := (1 : Int32)) k1 i1 (by omega) hx (by decide)
  refine ⟨h2, ?_, I2⟩
  rw [bn_e a1, bd_e e1, bn_e b1, bd_e e2, if_pos rfl]
theorem law_19 {xs : List Int32} {i : Nat} {h : Hp} (I : INV xs i h) (hl : 6 * i + 6 ≤ xs.length) (hx : xs.length ≤ 3072) : LO xs i (bd (F_cs_bestCut 0 h) fun x227 h228 => bd (F_md_bestCut 88 h228) fun x230 h231 => if x227 = x230 then (some (.inl (J (6 * i : Nat) + (6 : Int32)), h231)) else (some (.inr (.inr (0 : Int32)), h231))) := by
  obtain ⟨a, t, HA, HN, C, R, X⟩ := I
  have k0 := X.2.2.2.2.2.2.1
  have i0 := X.2.2.2.2.2.2.2
  obtain ⟨h1, h2, e1, e2, k1, i1, I2⟩ := st_q HA HN C R X (c_bct HA C) (fun g G => d_bct HA G) (by first | exact t_p_q | exact t_2_q | exact t_hk_q | exact t_3_q | exact t_if_q)
  refine ⟨h2, ?_, I2⟩
  rw [bd_e e1, bd_e e2, if_pos rfl]
theorem law_20 {xs : List Int32} {i : Nat} {h : Hp} (I : INV xs i h) (hl : 6 * i + 6 ≤ xs.length) (hx : xs.length ≤ 3072) : LO xs i (bn (aI h 100 1000000 (J (6 * i : Nat) + (1 : Int32))) fun x232 => bd (F_cs_plan 0 x232 h) fun x235 h236 => bn (aI h236 100 1000000 (J (6 * i : Nat) + (1 : Int32))) fun x237 => bd (F_md_plan 88 x237 h236) fun x240 h241 => if x235 = x240 then (some (.inl (J (6 * i : Nat) + (6 : Int32)), h241)) else (some (.inr (.inr (0 : Int32)), h241))) := by
  obtain ⟨a, t, HA, HN, C, R, X⟩ := I
  have k0 := X.2.2.2.2.2.2.1
  have i0 := X.2.2.2.2.2.2.2
  have a1 := ax (i := i) (k := 1) (ks := (1 : Int32)) k0 i0 (by omega) hx (by decide)
  have r1 := xv_r xs (6 * i + 1)
  obtain ⟨h1, h2, e1, e2, k1, i1, I2⟩ := st_q HA HN C R X (c_pln HA C r1) (fun g G => d_pln HA G r1) (by first | exact t_p_q | exact t_2_q | exact t_hk_q | exact t_3_q | exact t_if_q)
  have b1 := ax (i := i) (k := 1) (ks := (1 : Int32)) k1 i1 (by omega) hx (by decide)
  refine ⟨h2, ?_, I2⟩
  rw [bn_e a1, bd_e e1, bn_e b1, bd_e e2, if_pos rfl]
theorem law_21 {xs : List Int32} {i : Nat} {h : Hp} (I : INV xs i h) (hl : 6 * i + 6 ≤ xs.length) (hx : xs.length ≤ 3072) : LO xs i (bn (aI h 100 1000000 (J (6 * i : Nat) + (1 : Int32))) fun x242 => bn (aI h 100 1000000 (J (6 * i : Nat) + (2 : Int32))) fun x244 => bd (F_cs_planDays 0 x242 x244 h) fun x247 h248 => bn (aI h248 100 1000000 (J (6 * i : Nat) + (1 : Int32))) fun x249 => bn (aI h248 100 1000000 (J (6 * i : Nat) + (2 : Int32))) fun x251 => bd (F_md_planDays 88 x249 x251 h248) fun x254 h255 => if x247 = x254 then (some (.inl (J (6 * i : Nat) + (6 : Int32)), h255)) else (some (.inr (.inr (0 : Int32)), h255))) := by
  obtain ⟨a, t, HA, HN, C, R, X⟩ := I
  have k0 := X.2.2.2.2.2.2.1
  have i0 := X.2.2.2.2.2.2.2
  have a1 := ax (i := i) (k := 1) (ks := (1 : Int32)) k0 i0 (by omega) hx (by decide)
  have r1 := xv_r xs (6 * i + 1)
  have a2 := ax (i := i) (k := 2) (ks := (2 : Int32)) k0 i0 (by omega) hx (by decide)
  have r2 := xv_r xs (6 * i + 2)
  obtain ⟨h1, h2, e1, e2, k1, i1, I2⟩ := st_q HA HN C R X (c_pdy HA HN C r1 r2) (fun g G => d_pdy HA HN G r1 r2) (by first | exact t_p_q | exact t_2_q | exact t_hk_q | exact t_3_q | exact t_if_q)
  have b1 := ax (i := i) (k := 1) (ks := (1 : Int32)) k1 i1 (by omega) hx (by decide)
  have b2 := ax (i := i) (k := 2) (ks := (2 : Int32)) k1 i1 (by omega) hx (by decide)
  refine ⟨h2, ?_, I2⟩
  rw [bn_e a1, bn_e a2, bd_e e1, bn_e b1, bn_e b2, bd_e e2, if_pos rfl]
theorem law_22 {xs : List Int32} {i : Nat} {h : Hp} (I : INV xs i h) (hl : 6 * i + 6 ≤ xs.length) (hx : xs.length ≤ 3072) : LO xs i (bn (aI h 100 1000000 (J (6 * i : Nat) + (1 : Int32))) fun x256 => bn (aI h 100 1000000 (J (6 * i : Nat) + (2 : Int32))) fun x258 => bd (F_cs_planHouse 0 x256 x258 h) fun x261 h262 => bn (aI h262 100 1000000 (J (6 * i : Nat) + (1 : Int32))) fun x263 => bn (aI h262 100 1000000 (J (6 * i : Nat) + (2 : Int32))) fun x265 => bd (F_md_planHouse 88 x263 x265 h262) fun x268 h269 => if x261 = x268 then (some (.inl (J (6 * i : Nat) + (6 : Int32)), h269)) else (some (.inr (.inr (0 : Int32)), h269))) := by
  obtain ⟨a, t, HA, HN, C, R, X⟩ := I
  have k0 := X.2.2.2.2.2.2.1
  have i0 := X.2.2.2.2.2.2.2
  have a1 := ax (i := i) (k := 1) (ks := (1 : Int32)) k0 i0 (by omega) hx (by decide)
  have r1 := xv_r xs (6 * i + 1)
  have a2 := ax (i := i) (k := 2) (ks := (2 : Int32)) k0 i0 (by omega) hx (by decide)
  have r2 := xv_r xs (6 * i + 2)
  obtain ⟨h1, h2, e1, e2, k1, i1, I2⟩ := st_q HA HN C R X (c_phs HA HN C r1 r2) (fun g G => d_phs HA HN G r1 r2) (by first | exact t_p_q | exact t_2_q | exact t_hk_q | exact t_3_q | exact t_if_q)
  have b1 := ax (i := i) (k := 1) (ks := (1 : Int32)) k1 i1 (by omega) hx (by decide)
  have b2 := ax (i := i) (k := 2) (ks := (2 : Int32)) k1 i1 (by omega) hx (by decide)
  refine ⟨h2, ?_, I2⟩
  rw [bn_e a1, bn_e a2, bd_e e1, bn_e b1, bn_e b2, bd_e e2, if_pos rfl]
theorem law_23 {xs : List Int32} {i : Nat} {h : Hp} (I : INV xs i h) (hl : 6 * i + 6 ≤ xs.length) (hx : xs.length ≤ 3072) : LO xs i (bn (aI h 100 1000000 (J (6 * i : Nat) + (1 : Int32))) fun x270 => bd (F_cs_feasts 0 x270 h) fun x273 h274 => bn (aI h274 100 1000000 (J (6 * i : Nat) + (1 : Int32))) fun x275 => bd (F_md_feasts 88 x275 h274) fun x278 h279 => if x273 = x278 then (some (.inl (J (6 * i : Nat) + (6 : Int32)), h279)) else (some (.inr (.inr (0 : Int32)), h279))) := by
  obtain ⟨a, t, HA, HN, C, R, X⟩ := I
  have k0 := X.2.2.2.2.2.2.1
  have i0 := X.2.2.2.2.2.2.2
  have a1 := ax (i := i) (k := 1) (ks := (1 : Int32)) k0 i0 (by omega) hx (by decide)
  have r1 := xv_r xs (6 * i + 1)
  obtain ⟨h1, h2, e1, e2, k1, i1, I2⟩ := st_q HA HN C R X (c_fst HA C r1) (fun g G => d_fst HA G r1) (by first | exact t_p_q | exact t_2_q | exact t_hk_q | exact t_3_q | exact t_if_q)
  have b1 := ax (i := i) (k := 1) (ks := (1 : Int32)) k1 i1 (by omega) hx (by decide)
  refine ⟨h2, ?_, I2⟩
  rw [bn_e a1, bd_e e1, bn_e b1, bd_e e2, if_pos rfl]
theorem law_24 {xs : List Int32} {i : Nat} {h : Hp} (I : INV xs i h) (hl : 6 * i + 6 ≤ xs.length) (hx : xs.length ≤ 3072) : LO xs i (bn (aI h 100 1000000 (J (6 * i : Nat) + (1 : Int32))) fun x280 => bn (aI h 100 1000000 (J (6 * i : Nat) + (2 : Int32))) fun x282 => bd (F_cs_feastHouse 0 x280 x282 h) fun x285 h286 => bn (aI h286 100 1000000 (J (6 * i : Nat) + (1 : Int32))) fun x287 => bn (aI h286 100 1000000 (J (6 * i : Nat) + (2 : Int32))) fun x289 => bd (F_md_feastHouse 88 x287 x289 h286) fun x292 h293 => if x285 = x292 then (some (.inl (J (6 * i : Nat) + (6 : Int32)), h293)) else (some (.inr (.inr (0 : Int32)), h293))) := by
  obtain ⟨a, t, HA, HN, C, R, X⟩ := I
  have k0 := X.2.2.2.2.2.2.1
  have i0 := X.2.2.2.2.2.2.2
  have a1 := ax (i := i) (k := 1) (ks := (1 : Int32)) k0 i0 (by omega) hx (by decide)
  have r1 := xv_r xs (6 * i + 1)
  have a2 := ax (i := i) (k := 2) (ks := (2 : Int32)) k0 i0 (by omega) hx (by decide)
  have r2 := xv_r xs (6 * i + 2)
  obtain ⟨h1, h2, e1, e2, k1, i1, I2⟩ := st_q HA HN C R X (c_fhs HA HN C r1 r2) (fun g G => d_fhs HA HN G r1 r2) (by first | exact t_p_q | exact t_2_q | exact t_hk_q | exact t_3_q | exact t_if_q)
  have b1 := ax (i := i) (k := 1) (ks := (1 : Int32)) k1 i1 (by omega) hx (by decide)
  have b2 := ax (i := i) (k := 2) (ks := (2 : Int32)) k1 i1 (by omega) hx (by decide)
  refine ⟨h2, ?_, I2⟩
  rw [bn_e a1, bn_e a2, bd_e e1, bn_e b1, bn_e b2, bd_e e2, if_pos rfl]
theorem law_25 {xs : List Int32} {i : Nat} {h : Hp} (I : INV xs i h) (hl : 6 * i + 6 ≤ xs.length) (hx : xs.length ≤ 3072) : LO xs i (bd (F_cs_sets 0 h) fun x295 h296 => bd (F_md_sets 88 h296) fun x298 h299 => if x295 = x298 then (some (.inl (J (6 * i : Nat) + (6 : Int32)), h299)) else (some (.inr (.inr (0 : Int32)), h299))) := by
  obtain ⟨a, t, HA, HN, C, R, X⟩ := I
  have k0 := X.2.2.2.2.2.2.1
  have i0 := X.2.2.2.2.2.2.2
  obtain ⟨h1, h2, e1, e2, k1, i1, I2⟩ := st_q HA HN C R X (c_set HA C) (fun g G => d_set HA G) (by first | exact t_p_q | exact t_2_q | exact t_hk_q | exact t_3_q | exact t_if_q)
  refine ⟨h2, ?_, I2⟩
  rw [bd_e e1, bd_e e2, if_pos rfl]
theorem law_26 {xs : List Int32} {i : Nat} {h : Hp} (I : INV xs i h) (hl : 6 * i + 6 ≤ xs.length) (hx : xs.length ≤ 3072) : LO xs i (bn (aI h 100 1000000 (J (6 * i : Nat) + (1 : Int32))) fun x300 => bd (F_cs_setAt 0 x300 h) fun x303 h304 => bn (aI h304 100 1000000 (J (6 * i : Nat) + (1 : Int32))) fun x305 => bd (F_md_setAt 88 x305 h304) fun x308 h309 => if x303 = x308 then (some (.inl (J (6 * i : Nat) + (6 : Int32)), h309)) else (some (.inr (.inr (0 : Int32)), h309))) := by
  obtain ⟨a, t, HA, HN, C, R, X⟩ := I
  have k0 := X.2.2.2.2.2.2.1
  have i0 := X.2.2.2.2.2.2.2
  have a1 := ax (i := i) (k := 1) (ks := (1 : Int32)) k0 i0 (by omega) hx (by decide)
  have r1 := xv_r xs (6 * i + 1)
  obtain ⟨h1, h2, e1, e2, k1, i1, I2⟩ := st_q HA HN C R X (c_sat HA C r1) (fun g G => d_sat HA G r1) (by first | exact t_p_q | exact t_2_q | exact t_hk_q | exact t_3_q | exact t_if_q)
  have b1 := ax (i := i) (k := 1) (ks := (1 : Int32)) k1 i1 (by omega) hx (by decide)
  refine ⟨h2, ?_, I2⟩
  rw [bn_e a1, bd_e e1, bn_e b1, bd_e e2, if_pos rfl]
theorem law_27 {xs : List Int32} {i : Nat} {h : Hp} (I : INV xs i h) (hl : 6 * i + 6 ≤ xs.length) (hx : xs.length ≤ 3072) : LO xs i (bd (F_cs_could 0 h) fun x311 h312 => bd (F_md_could 88 h312) fun x314 h315 => if x311 = x314 then (some (.inl (J (6 * i : Nat) + (6 : Int32)), h315)) else (some (.inr (.inr (0 : Int32)), h315))) := by
  obtain ⟨a, t, HA, HN, C, R, X⟩ := I
  have k0 := X.2.2.2.2.2.2.1
  have i0 := X.2.2.2.2.2.2.2
  obtain ⟨h1, h2, e1, e2, k1, i1, I2⟩ := st_q HA HN C R X (c_cou HA C) (fun g G => d_cou HA G) (by first | exact t_p_q | exact t_2_q | exact t_hk_q | exact t_3_q | exact t_if_q)
  refine ⟨h2, ?_, I2⟩
  rw [bd_e e1, bd_e e2, if_pos rfl]
theorem law_28 {xs : List Int32} {i : Nat} {h : Hp} (I : INV xs i h) (hl : 6 * i + 6 ≤ xs.length) (hx : xs.length ≤ 3072) : LO xs i (bd (F_cs_surely 0 h) fun x317 h318 => bd (F_md_surely 88 h318) fun x320 h321 => if x317 = x320 then (some (.inl (J (6 * i : Nat) + (6 : Int32)), h321)) else (some (.inr (.inr (0 : Int32)), h321))) := by
  obtain ⟨a, t, HA, HN, C, R, X⟩ := I
  have k0 := X.2.2.2.2.2.2.1
  have i0 := X.2.2.2.2.2.2.2
  obtain ⟨h1, h2, e1, e2, k1, i1, I2⟩ := st_q HA HN C R X (c_sur HA C) (fun g G => d_sur HA G) (by first | exact t_p_q | exact t_2_q | exact t_hk_q | exact t_3_q | exact t_if_q)
  refine ⟨h2, ?_, I2⟩
  rw [bd_e e1, bd_e e2, if_pos rfl]
theorem law_29 {xs : List Int32} {i : Nat} {h : Hp} (I : INV xs i h) (hl : 6 * i + 6 ≤ xs.length) (hx : xs.length ≤ 3072) : LO xs i (bd (F_cs_ask 0 h) fun x323 h324 => bd (F_md_ask 88 h324) fun x326 h327 => if x323 = x326 then (some (.inl (J (6 * i : Nat) + (6 : Int32)), h327)) else (some (.inr (.inr (0 : Int32)), h327))) := by
  obtain ⟨a, t, HA, HN, C, R, X⟩ := I
  have k0 := X.2.2.2.2.2.2.1
  have i0 := X.2.2.2.2.2.2.2
  obtain ⟨h1, h2, e1, e2, k1, i1, I2⟩ := st_q HA HN C R X (c_ask HA C) (fun g G => d_ask HA G) (by first | exact t_p_q | exact t_2_q | exact t_hk_q | exact t_3_q | exact t_if_q)
  refine ⟨h2, ?_, I2⟩
  rw [bd_e e1, bd_e e2, if_pos rfl]
theorem law_30 {xs : List Int32} {i : Nat} {h : Hp} (I : INV xs i h) (hl : 6 * i + 6 ≤ xs.length) (hx : xs.length ≤ 3072) : LO xs i (bd (F_cs_askLeaves 0 h) fun x329 h330 => bd (F_md_askLeaves 88 h330) fun x332 h333 => if x329 = x332 then (some (.inl (J (6 * i : Nat) + (6 : Int32)), h333)) else (some (.inr (.inr (0 : Int32)), h333))) := by
  obtain ⟨a, t, HA, HN, C, R, X⟩ := I
  have k0 := X.2.2.2.2.2.2.1
  have i0 := X.2.2.2.2.2.2.2
  obtain ⟨h1, h2, e1, e2, k1, i1, I2⟩ := st_q HA HN C R X (c_asl HA C) (fun g G => d_asl HA G) (by first | exact t_p_q | exact t_2_q | exact t_hk_q | exact t_3_q | exact t_if_q)
  refine ⟨h2, ?_, I2⟩
  rw [bd_e e1, bd_e e2, if_pos rfl]
theorem law_31 {xs : List Int32} {i : Nat} {h : Hp} (I : INV xs i h) (hl : 6 * i + 6 ≤ xs.length) (hx : xs.length ≤ 3072) : LO xs i (bd (F_cs_judge 0 h) fun x335 h336 => bd (F_md_judge 88 h336) fun x338 h339 => if x335 = x338 then (some (.inl (J (6 * i : Nat) + (6 : Int32)), h339)) else (some (.inr (.inr (0 : Int32)), h339))) := by
  obtain ⟨a, t, HA, HN, C, R, X⟩ := I
  have k0 := X.2.2.2.2.2.2.1
  have i0 := X.2.2.2.2.2.2.2
  obtain ⟨h1, h2, e1, e2, k1, i1, I2⟩ := st_q HA HN C R X (c_jud HA C) (fun g G => d_jud HA G) (by first | exact t_p_q | exact t_2_q | exact t_hk_q | exact t_3_q | exact t_if_q)
  refine ⟨h2, ?_, I2⟩
  rw [bd_e e1, bd_e e2, if_pos rfl]
theorem law_32 {xs : List Int32} {i : Nat} {h : Hp} (I : INV xs i h) (hl : 6 * i + 6 ≤ xs.length) (hx : xs.length ≤ 3072) : LO xs i (bn (aI h 100 1000000 (J (6 * i : Nat) + (1 : Int32))) fun x340 => bd (F_cs_value 0 x340 h) fun x343 h344 => bn (aI h344 100 1000000 (J (6 * i : Nat) + (1 : Int32))) fun x345 => bd (F_md_value 88 x345 h344) fun x348 h349 => if x343 = x348 then (some (.inl (J (6 * i : Nat) + (6 : Int32)), h349)) else (some (.inr (.inr (0 : Int32)), h349))) := by
  obtain ⟨a, t, HA, HN, C, R, X⟩ := I
  have k0 := X.2.2.2.2.2.2.1
  have i0 := X.2.2.2.2.2.2.2
  have a1 := ax (i := i) (k := 1) (ks := (1 : Int32)) k0 i0 (by omega) hx (by decide)
  have r1 := xv_r xs (6 * i + 1)
  obtain ⟨h1, h2, e1, e2, k1, i1, I2⟩ := st_q HA HN C R X (c_val HA C r1) (fun g G => d_val HA G r1) (by first | exact t_p_q | exact t_2_q | exact t_hk_q | exact t_3_q | exact t_if_q)
  have b1 := ax (i := i) (k := 1) (ks := (1 : Int32)) k1 i1 (by omega) hx (by decide)
  refine ⟨h2, ?_, I2⟩
  rw [bn_e a1, bd_e e1, bn_e b1, bd_e e2, if_pos rfl]
theorem law_33 {xs : List Int32} {i : Nat} {h : Hp} (I : INV xs i h) (hl : 6 * i + 6 ≤ xs.length) (hx : xs.length ≤ 3072) : LO xs i (bn (aI h 100 1000000 (J (6 * i : Nat) + (1 : Int32))) fun x350 => bd (F_cs_kingCuts 0 x350 h) fun x353 h354 => bn (aI h354 100 1000000 (J (6 * i : Nat) + (1 : Int32))) fun x355 => bd (F_md_kingCuts 88 x355 h354) fun x358 h359 => if x353 = x358 then (some (.inl (J (6 * i : Nat) + (6 : Int32)), h359)) else (some (.inr (.inr (0 : Int32)), h359))) := by
  obtain ⟨a, t, HA, HN, C, R, X⟩ := I
  have k0 := X.2.2.2.2.2.2.1
  have i0 := X.2.2.2.2.2.2.2
  have a1 := ax (i := i) (k := 1) (ks := (1 : Int32)) k0 i0 (by omega) hx (by decide)
  have r1 := xv_r xs (6 * i + 1)
  obtain ⟨h1, h2, e1, e2, k1, i1, I2⟩ := st_q HA HN C R X (c_kcu HA C r1) (fun g G => d_kcu HA G r1) (by first | exact t_p_q | exact t_2_q | exact t_hk_q | exact t_3_q | exact t_if_q)
  have b1 := ax (i := i) (k := 1) (ks := (1 : Int32)) k1 i1 (by omega) hx (by decide)
  refine ⟨h2, ?_, I2⟩
  rw [bn_e a1, bd_e e1, bn_e b1, bd_e e2, if_pos rfl]
theorem law_34 {xs : List Int32} {i : Nat} {h : Hp} (I : INV xs i h) (hl : 6 * i + 6 ≤ xs.length) (hx : xs.length ≤ 3072) : LO xs i (bn (aI h 100 1000000 (J (6 * i : Nat) + (1 : Int32))) fun x360 => bn (aI h 100 1000000 (J (6 * i : Nat) + (2 : Int32))) fun x362 => bn (aI h 100 1000000 (J (6 * i : Nat) + (3 : Int32))) fun x364 => bn (if x364 = (0 : Int32) then (some (0 : Int32)) else (some (1 : Int32))) fun q366 => bd (F_cs_dry 0 x360 x362 q366 h) fun x368 h369 => bn (aI h369 100 1000000 (J (6 * i : Nat) + (1 : Int32))) fun x370 => bn (aI h369 100 1000000 (J (6 * i : Nat) + (2 : Int32))) fun x372 => bn (aI h369 100 1000000 (J (6 * i : Nat) + (3 : Int32))) fun x374 => bn (if x374 = (0 : Int32) then (some (0 : Int32)) else (some (1 : Int32))) fun q376 => bd (F_md_dry 88 x370 x372 q376 h369) fun x378 h379 => if (lg_cmp x368 x378) = (0 : Int32) then (some (.inl (J (6 * i : Nat) + (6 : Int32)), h379)) else (some (.inr (.inr (0 : Int32)), h379))) := by
  obtain ⟨a, t, HA, HN, C, R, X⟩ := I
  have k0 := X.2.2.2.2.2.2.1
  have i0 := X.2.2.2.2.2.2.2
  have a1 := ax (i := i) (k := 1) (ks := (1 : Int32)) k0 i0 (by omega) hx (by decide)
  have r1 := xv_r xs (6 * i + 1)
  have a2 := ax (i := i) (k := 2) (ks := (2 : Int32)) k0 i0 (by omega) hx (by decide)
  have r2 := xv_r xs (6 * i + 2)
  have a3 := ax (i := i) (k := 3) (ks := (3 : Int32)) k0 i0 (by omega) hx (by decide)
  have r3 := xv_r xs (6 * i + 3)
  obtain ⟨l, hl2, el⟩ := b01 r3
  obtain ⟨h1, h2, e1, e2, k1, i1, I2⟩ := st_k HA HN C R X (c_dry HA C r1 r2 hl2) (fun g G => d_dry HA G r1 r2 hl2) (by first | exact t_p_q | exact t_2_q | exact t_hk_q | exact t_3_q | exact t_if_q)
  have b1 := ax (i := i) (k := 1) (ks := (1 : Int32)) k1 i1 (by omega) hx (by decide)
  have b2 := ax (i := i) (k := 2) (ks := (2 : Int32)) k1 i1 (by omega) hx (by decide)
  have b3 := ax (i := i) (k := 3) (ks := (3 : Int32)) k1 i1 (by omega) hx (by decide)
  refine ⟨h2, ?_, I2⟩
  rw [bn_e a1, bn_e a2, bn_e a3, bn_e el, bd_e e1, bn_e b1, bn_e b2, bn_e b3, bn_e el, bd_e e2, if_pos (lgc_s _)]
theorem law_35 {xs : List Int32} {i : Nat} {h : Hp} (I : INV xs i h) (hl : 6 * i + 6 ≤ xs.length) (hx : xs.length ≤ 3072) : LO xs i (bn (aI h 100 1000000 (J (6 * i : Nat) + (1 : Int32))) fun x380 => bn (aI h 100 1000000 (J (6 * i : Nat) + (2 : Int32))) fun x382 => bn (aI h 100 1000000 (J (6 * i : Nat) + (3 : Int32))) fun x384 => bn (if x384 = (0 : Int32) then (some (0 : Int32)) else (some (1 : Int32))) fun q386 => bd (F_cs_mean 0 x380 x382 q386 h) fun x388 h389 => bn (aI h389 100 1000000 (J (6 * i : Nat) + (1 : Int32))) fun x390 => bn (aI h389 100 1000000 (J (6 * i : Nat) + (2 : Int32))) fun x392 => bn (aI h389 100 1000000 (J (6 * i : Nat) + (3 : Int32))) fun x394 => bn (if x394 = (0 : Int32) then (some (0 : Int32)) else (some (1 : Int32))) fun q396 => bd (F_md_mean 88 x390 x392 q396 h389) fun x398 h399 => if (lg_cmp x388 x398) = (0 : Int32) then (some (.inl (J (6 * i : Nat) + (6 : Int32)), h399)) else (some (.inr (.inr (0 : Int32)), h399))) := by
  obtain ⟨a, t, HA, HN, C, R, X⟩ := I
  have k0 := X.2.2.2.2.2.2.1
  have i0 := X.2.2.2.2.2.2.2
  have a1 := ax (i := i) (k := 1) (ks := (1 : Int32)) k0 i0 (by omega) hx (by decide)
  have r1 := xv_r xs (6 * i + 1)
  have a2 := ax (i := i) (k := 2) (ks := (2 : Int32)) k0 i0 (by omega) hx (by decide)
  have r2 := xv_r xs (6 * i + 2)
  have a3 := ax (i := i) (k := 3) (ks := (3 : Int32)) k0 i0 (by omega) hx (by decide)
  have r3 := xv_r xs (6 * i + 3)
  obtain ⟨l, hl2, el⟩ := b01 r3
  obtain ⟨h1, h2, e1, e2, k1, i1, I2⟩ := st_k HA HN C R X (c_mea HA C r1 r2 hl2) (fun g G => d_mea HA G r1 r2 hl2) (by first | exact t_p_q | exact t_2_q | exact t_hk_q | exact t_3_q | exact t_if_q)
  have b1 := ax (i := i) (k := 1) (ks := (1 : Int32)) k1 i1 (by omega) hx (by decide)
  have b2 := ax (i := i) (k := 2) (ks := (2 : Int32)) k1 i1 (by omega) hx (by decide)
  have b3 := ax (i := i) (k := 3) (ks := (3 : Int32)) k1 i1 (by omega) hx (by decide)
  refine ⟨h2, ?_, I2⟩
  rw [bn_e a1, bn_e a2, bn_e a3, bn_e el, bd_e e1, bn_e b1, bn_e b2, bn_e b3, bn_e el, bd_e e2, if_pos (lgc_s _)]
theorem law_36 {xs : List Int32} {i : Nat} {h : Hp} (I : INV xs i h) (hl : 6 * i + 6 ≤ xs.length) (hx : xs.length ≤ 3072) : LO xs i (bn (aI h 100 1000000 (J (6 * i : Nat) + (1 : Int32))) fun x400 => bd (F_cs_safest 0 x400 h) fun x403 h404 => bn (aI h404 100 1000000 (J (6 * i : Nat) + (1 : Int32))) fun x405 => bd (F_md_safest 88 x405 h404) fun x408 h409 => if x403 = x408 then (some (.inl (J (6 * i : Nat) + (6 : Int32)), h409)) else (some (.inr (.inr (0 : Int32)), h409))) := by
  obtain ⟨a, t, HA, HN, C, R, X⟩ := I
  have k0 := X.2.2.2.2.2.2.1
  have i0 := X.2.2.2.2.2.2.2
  have a1 := ax (i := i) (k := 1) (ks := (1 : Int32)) k0 i0 (by omega) hx (by decide)
  have r1 := xv_r xs (6 * i + 1)
  obtain ⟨h1, h2, e1, e2, k1, i1, I2⟩ := st_q HA HN C R X (c_saf HA C r1) (fun g G => d_saf HA G r1) (by first | exact t_p_q | exact t_2_q | exact t_hk_q | exact t_3_q | exact t_if_q)
  have b1 := ax (i := i) (k := 1) (ks := (1 : Int32)) k1 i1 (by omega) hx (by decide)
  refine ⟨h2, ?_, I2⟩
  rw [bn_e a1, bd_e e1, bn_e b1, bd_e e2, if_pos rfl]
theorem law_37 {xs : List Int32} {i : Nat} {h : Hp} (I : INV xs i h) (hl : 6 * i + 6 ≤ xs.length) (hx : xs.length ≤ 3072) : LO xs i (bn (aI h 100 1000000 (J (6 * i : Nat) + (1 : Int32))) fun x410 => bn (aI h 100 1000000 (J (6 * i : Nat) + (2 : Int32))) fun x412 => bn (aI h 100 1000000 (J (6 * i : Nat) + (3 : Int32))) fun x414 => bn (if x414 = (0 : Int32) then (some (0 : Int32)) else (some (1 : Int32))) fun q416 => bd (F_cs_losses 0 x410 x412 q416 h) fun x418 h419 => bn (aI h419 100 1000000 (J (6 * i : Nat) + (1 : Int32))) fun x420 => bn (aI h419 100 1000000 (J (6 * i : Nat) + (2 : Int32))) fun x422 => bn (aI h419 100 1000000 (J (6 * i : Nat) + (3 : Int32))) fun x424 => bn (if x424 = (0 : Int32) then (some (0 : Int32)) else (some (1 : Int32))) fun q426 => bd (F_md_losses 88 x420 x422 q426 h419) fun x428 h429 => if (lg_cmp x418 x428) = (0 : Int32) then (some (.inl (J (6 * i : Nat) + (6 : Int32)), h429)) else (some (.inr (.inr (0 : Int32)), h429))) := by
  obtain ⟨a, t, HA, HN, C, R, X⟩ := I
  have k0 := X.2.2.2.2.2.2.1
  have i0 := X.2.2.2.2.2.2.2
  have a1 := ax (i := i) (k := 1) (ks := (1 : Int32)) k0 i0 (by omega) hx (by decide)
  have r1 := xv_r xs (6 * i + 1)
  have a2 := ax (i := i) (k := 2) (ks := (2 : Int32)) k0 i0 (by omega) hx (by decide)
  have r2 := xv_r xs (6 * i + 2)
  have a3 := ax (i := i) (k := 3) (ks := (3 : Int32)) k0 i0 (by omega) hx (by decide)
  have r3 := xv_r xs (6 * i + 3)
  obtain ⟨l, hl2, el⟩ := b01 r3
  obtain ⟨h1, h2, e1, e2, k1, i1, I2⟩ := st_k HA HN C R X (c_los HA C r1 r2 hl2) (fun g G => d_los HA G r1 r2 hl2) (by first | exact t_p_q | exact t_2_q | exact t_hk_q | exact t_3_q | exact t_if_q)
  have b1 := ax (i := i) (k := 1) (ks := (1 : Int32)) k1 i1 (by omega) hx (by decide)
  have b2 := ax (i := i) (k := 2) (ks := (2 : Int32)) k1 i1 (by omega) hx (by decide)
  have b3 := ax (i := i) (k := 3) (ks := (3 : Int32)) k1 i1 (by omega) hx (by decide)
  refine ⟨h2, ?_, I2⟩
  rw [bn_e a1, bn_e a2, bn_e a3, bn_e el, bd_e e1, bn_e b1, bn_e b2, bn_e b3, bn_e el, bd_e e2, if_pos (lgc_s _)]
theorem law_38 {xs : List Int32} {i : Nat} {h : Hp} (I : INV xs i h) (hl : 6 * i + 6 ≤ xs.length) (hx : xs.length ≤ 3072) : LO xs i (bn (aI h 100 1000000 (J (6 * i : Nat) + (1 : Int32))) fun x430 => bn (aI h 100 1000000 (J (6 * i : Nat) + (2 : Int32))) fun x432 => bn (aI h 100 1000000 (J (6 * i : Nat) + (3 : Int32))) fun x434 => bd (F_cs_weeks 0 x430 x432 x434 h) fun x437 h438 => bn (aI h438 100 1000000 (J (6 * i : Nat) + (1 : Int32))) fun x439 => bn (aI h438 100 1000000 (J (6 * i : Nat) + (2 : Int32))) fun x441 => bn (aI h438 100 1000000 (J (6 * i : Nat) + (3 : Int32))) fun x443 => bd (F_md_weeks 88 x439 x441 x443 h438) fun x446 h447 => if x437 = x446 then (some (.inl (J (6 * i : Nat) + (6 : Int32)), h447)) else (some (.inr (.inr (0 : Int32)), h447))) := by
  obtain ⟨a, t, HA, HN, C, R, X⟩ := I
  have k0 := X.2.2.2.2.2.2.1
  have i0 := X.2.2.2.2.2.2.2
  have a1 := ax (i := i) (k := 1) (ks := (1 : Int32)) k0 i0 (by omega) hx (by decide)
  have r1 := xv_r xs (6 * i + 1)
  have a2 := ax (i := i) (k := 2) (ks := (2 : Int32)) k0 i0 (by omega) hx (by decide)
  have r2 := xv_r xs (6 * i + 2)
  have a3 := ax (i := i) (k := 3) (ks := (3 : Int32)) k0 i0 (by omega) hx (by decide)
  have r3 := xv_r xs (6 * i + 3)
  obtain ⟨h1, h2, e1, e2, k1, i1, I2⟩ := st_q HA HN C R X (c_wks HA C r1 r2 r3) (fun g G => d_wks HA G r1 r2 r3) (by first | exact t_p_q | exact t_2_q | exact t_hk_q | exact t_3_q | exact t_if_q)
  have b1 := ax (i := i) (k := 1) (ks := (1 : Int32)) k1 i1 (by omega) hx (by decide)
  have b2 := ax (i := i) (k := 2) (ks := (2 : Int32)) k1 i1 (by omega) hx (by decide)
  have b3 := ax (i := i) (k := 3) (ks := (3 : Int32)) k1 i1 (by omega) hx (by decide)
  refine ⟨h2, ?_, I2⟩
  rw [bn_e a1, bn_e a2, bn_e a3, bd_e e1, bn_e b1, bn_e b2, bn_e b3, bd_e e2, if_pos rfl]
theorem law_39 {xs : List Int32} {i : Nat} {h : Hp} (I : INV xs i h) (hl : 6 * i + 6 ≤ xs.length) (hx : xs.length ≤ 3072) : LO xs i (bn (aI h 100 1000000 (J (6 * i : Nat) + (1 : Int32))) fun x448 => bn (aI h 100 1000000 (J (6 * i : Nat) + (2 : Int32))) fun x450 => bd (F_cs_eaten 0 x448 x450 h) fun x453 h454 => bn (aI h454 100 1000000 (J (6 * i : Nat) + (1 : Int32))) fun x455 => bn (aI h454 100 1000000 (J (6 * i : Nat) + (2 : Int32))) fun x457 => bd (F_md_eaten 88 x455 x457 h454) fun x460 h461 => if x453 = x460 then (some (.inl (J (6 * i : Nat) + (6 : Int32)), h461)) else (some (.inr (.inr (0 : Int32)), h461))) := by
  obtain ⟨a, t, HA, HN, C, R, X⟩ := I
  have k0 := X.2.2.2.2.2.2.1
  have i0 := X.2.2.2.2.2.2.2
  have a1 := ax (i := i) (k := 1) (ks := (1 : Int32)) k0 i0 (by omega) hx (by decide)
  have r1 := xv_r xs (6 * i + 1)
  have a2 := ax (i := i) (k := 2) (ks := (2 : Int32)) k0 i0 (by omega) hx (by decide)
  have r2 := xv_r xs (6 * i + 2)
  obtain ⟨h1, h2, e1, e2, k1, i1, I2⟩ := st_q HA HN C R X (c_eat HA C r1 r2) (fun g G => d_eat HA G r1 r2) (by first | exact t_p_q | exact t_2_q | exact t_hk_q | exact t_3_q | exact t_if_q)
  have b1 := ax (i := i) (k := 1) (ks := (1 : Int32)) k1 i1 (by omega) hx (by decide)
  have b2 := ax (i := i) (k := 2) (ks := (2 : Int32)) k1 i1 (by omega) hx (by decide)
  refine ⟨h2, ?_, I2⟩
  rw [bn_e a1, bn_e a2, bd_e e1, bn_e b1, bn_e b2, bd_e e2, if_pos rfl]
theorem law_40 {xs : List Int32} {i : Nat} {h : Hp} (I : INV xs i h) (hl : 6 * i + 6 ≤ xs.length) (hx : xs.length ≤ 3072) : LO xs i (bn (aI h 100 1000000 (J (6 * i : Nat) + (1 : Int32))) fun x462 => bn (aI h 100 1000000 (J (6 * i : Nat) + (2 : Int32))) fun x464 => bd (F_cs_sunkAt 0 x462 x464 h) fun x467 h468 => bn (aI h468 100 1000000 (J (6 * i : Nat) + (1 : Int32))) fun x469 => bn (aI h468 100 1000000 (J (6 * i : Nat) + (2 : Int32))) fun x471 => bd (F_md_sunkAt 88 x469 x471 h468) fun x474 h475 => if x467 = x474 then (some (.inl (J (6 * i : Nat) + (6 : Int32)), h475)) else (some (.inr (.inr (0 : Int32)), h475))) := by
  obtain ⟨a, t, HA, HN, C, R, X⟩ := I
  have k0 := X.2.2.2.2.2.2.1
  have i0 := X.2.2.2.2.2.2.2
  have a1 := ax (i := i) (k := 1) (ks := (1 : Int32)) k0 i0 (by omega) hx (by decide)
  have r1 := xv_r xs (6 * i + 1)
  have a2 := ax (i := i) (k := 2) (ks := (2 : Int32)) k0 i0 (by omega) hx (by decide)
  have r2 := xv_r xs (6 * i + 2)
  obtain ⟨h1, h2, e1, e2, k1, i1, I2⟩ := st_q HA HN C R X (c_snk HA C r1 r2) (fun g G => d_snk HA G r1 r2) (by first | exact t_p_q | exact t_2_q | exact t_hk_q | exact t_3_q | exact t_if_q)
  have b1 := ax (i := i) (k := 1) (ks := (1 : Int32)) k1 i1 (by omega) hx (by decide)
  have b2 := ax (i := i) (k := 2) (ks := (2 : Int32)) k1 i1 (by omega) hx (by decide)
  refine ⟨h2, ?_, I2⟩
  rw [bn_e a1, bn_e a2, bd_e e1, bn_e b1, bn_e b2, bd_e e2, if_pos rfl]
theorem law_41 {xs : List Int32} {i : Nat} {h : Hp} (I : INV xs i h) (hl : 6 * i + 6 ≤ xs.length) (hx : xs.length ≤ 3072) : LO xs i (bn (aI h 100 1000000 (J (6 * i : Nat) + (1 : Int32))) fun x476 => bn (aI h 100 1000000 (J (6 * i : Nat) + (2 : Int32))) fun x478 => bd (F_cs_drink 0 x476 x478 h) fun x481 h482 => bn (aI h482 100 1000000 (J (6 * i : Nat) + (1 : Int32))) fun x483 => bn (aI h482 100 1000000 (J (6 * i : Nat) + (2 : Int32))) fun x485 => bd (F_md_drink 88 x483 x485 h482) fun x488 h489 => if x481 = x488 then (some (.inl (J (6 * i : Nat) + (6 : Int32)), h489)) else (some (.inr (.inr (0 : Int32)), h489))) := by
  obtain ⟨a, t, HA, HN, C, R, X⟩ := I
  have k0 := X.2.2.2.2.2.2.1
  have i0 := X.2.2.2.2.2.2.2
  have a1 := ax (i := i) (k := 1) (ks := (1 : Int32)) k0 i0 (by omega) hx (by decide)
  have r1 := xv_r xs (6 * i + 1)
  have a2 := ax (i := i) (k := 2) (ks := (2 : Int32)) k0 i0 (by omega) hx (by decide)
  have r2 := xv_r xs (6 * i + 2)
  obtain ⟨h1, h2, e1, e2, k1, i1, I2⟩ := st_a (AW_dri HA) (NL_dri HN) R X (c_dri HA C r1 r2) (fun g G => d_dri HA G r1 r2)
  have b1 := ax (i := i) (k := 1) (ks := (1 : Int32)) k1 i1 (by omega) hx (by decide)
  have b2 := ax (i := i) (k := 2) (ks := (2 : Int32)) k1 i1 (by omega) hx (by decide)
  refine ⟨h2, ?_, I2⟩
  rw [bn_e a1, bn_e a2, bd_e e1, bn_e b1, bn_e b2, bd_e e2, if_pos rfl]
theorem law_42 {xs : List Int32} {i : Nat} {h : Hp} (I : INV xs i h) (hl : 6 * i + 6 ≤ xs.length) (hx : xs.length ≤ 3072) : LO xs i (bn (aI h 100 1000000 (J (6 * i : Nat) + (1 : Int32))) fun x490 => bn (aI h 100 1000000 (J (6 * i : Nat) + (2 : Int32))) fun x492 => bd (F_cs_move 0 x490 x492 h) fun x495 h496 => bn (aI h496 100 1000000 (J (6 * i : Nat) + (1 : Int32))) fun x497 => bn (aI h496 100 1000000 (J (6 * i : Nat) + (2 : Int32))) fun x499 => bd (F_md_move 88 x497 x499 h496) fun x502 h503 => if x495 = x502 then (some (.inl (J (6 * i : Nat) + (6 : Int32)), h503)) else (some (.inr (.inr (0 : Int32)), h503))) := by
  obtain ⟨a, t, HA, HN, C, R, X⟩ := I
  have k0 := X.2.2.2.2.2.2.1
  have i0 := X.2.2.2.2.2.2.2
  have a1 := ax (i := i) (k := 1) (ks := (1 : Int32)) k0 i0 (by omega) hx (by decide)
  have r1 := xv_r xs (6 * i + 1)
  have a2 := ax (i := i) (k := 2) (ks := (2 : Int32)) k0 i0 (by omega) hx (by decide)
  have r2 := xv_r xs (6 * i + 2)
  obtain ⟨h1, h2, e1, e2, k1, i1, I2⟩ := st_a (AW_mov HA) (NL_mov HN) R X (c_mov HA C r1 r2) (fun g G => d_mov HA G r1 r2)
  have b1 := ax (i := i) (k := 1) (ks := (1 : Int32)) k1 i1 (by omega) hx (by decide)
  have b2 := ax (i := i) (k := 2) (ks := (2 : Int32)) k1 i1 (by omega) hx (by decide)
  refine ⟨h2, ?_, I2⟩
  rw [bn_e a1, bn_e a2, bd_e e1, bn_e b1, bn_e b2, bd_e e2, if_pos rfl]
theorem law_43 {xs : List Int32} {i : Nat} {h : Hp} (I : INV xs i h) (hl : 6 * i + 6 ≤ xs.length) (hx : xs.length ≤ 3072) : LO xs i (bn (aI h 100 1000000 (J (6 * i : Nat) + (1 : Int32))) fun x504 => bd (F_cs_cut 0 x504 h) fun x507 h508 => bn (aI h508 100 1000000 (J (6 * i : Nat) + (1 : Int32))) fun x509 => bd (F_md_cut 88 x509 h508) fun x512 h513 => if x507 = x512 then (some (.inl (J (6 * i : Nat) + (6 : Int32)), h513)) else (some (.inr (.inr (0 : Int32)), h513))) := by
  obtain ⟨a, t, HA, HN, C, R, X⟩ := I
  have k0 := X.2.2.2.2.2.2.1
  have i0 := X.2.2.2.2.2.2.2
  have a1 := ax (i := i) (k := 1) (ks := (1 : Int32)) k0 i0 (by omega) hx (by decide)
  have r1 := xv_r xs (6 * i + 1)
  obtain ⟨h1, h2, e1, e2, k1, i1, I2⟩ := st_a (AW_chg HA) (NL_chg HN) R X (c_cut HA C r1) (fun g G => d_cut HA G r1)
  have b1 := ax (i := i) (k := 1) (ks := (1 : Int32)) k1 i1 (by omega) hx (by decide)
  refine ⟨h2, ?_, I2⟩
  rw [bn_e a1, bd_e e1, bn_e b1, bd_e e2, if_pos rfl]
theorem law_44 {xs : List Int32} {i : Nat} {h : Hp} (I : INV xs i h) (hl : 6 * i + 6 ≤ xs.length) (hx : xs.length ≤ 3072) : LO xs i (bn (aI h 100 1000000 (J (6 * i : Nat) + (1 : Int32))) fun x514 => bd (F_cs_tie 0 x514 h) fun x517 h518 => bn (aI h518 100 1000000 (J (6 * i : Nat) + (1 : Int32))) fun x519 => bd (F_md_tie 88 x519 h518) fun x522 h523 => if x517 = x522 then (some (.inl (J (6 * i : Nat) + (6 : Int32)), h523)) else (some (.inr (.inr (0 : Int32)), h523))) := by
  obtain ⟨a, t, HA, HN, C, R, X⟩ := I
  have k0 := X.2.2.2.2.2.2.1
  have i0 := X.2.2.2.2.2.2.2
  have a1 := ax (i := i) (k := 1) (ks := (1 : Int32)) k0 i0 (by omega) hx (by decide)
  have r1 := xv_r xs (6 * i + 1)
  obtain ⟨h1, h2, e1, e2, k1, i1, I2⟩ := st_a (AW_chg HA) (NL_chg HN) R X (c_tie HA C r1) (fun g G => d_tie HA G r1)
  have b1 := ax (i := i) (k := 1) (ks := (1 : Int32)) k1 i1 (by omega) hx (by decide)
  refine ⟨h2, ?_, I2⟩
  rw [bn_e a1, bd_e e1, bn_e b1, bd_e e2, if_pos rfl]
theorem law_45 {xs : List Int32} {i : Nat} {h : Hp} (I : INV xs i h) (hl : 6 * i + 6 ≤ xs.length) (hx : xs.length ≤ 3072) : LO xs i (bd (F_cs_week 0 h) fun x525 h526 => bd (F_md_week 88 h526) fun x528 h529 => if x525 = x528 then (some (.inl (J (6 * i : Nat) + (6 : Int32)), h529)) else (some (.inr (.inr (0 : Int32)), h529))) := by
  obtain ⟨a, t, HA, HN, C, R, X⟩ := I
  have k0 := X.2.2.2.2.2.2.1
  have i0 := X.2.2.2.2.2.2.2
  obtain ⟨h1, h2, e1, e2, k1, i1, I2⟩ := st_a (AW_wek HA) (NL_wek HN) R X (c_wek HA C ) (fun g G => d_wek HA G )
  refine ⟨h2, ?_, I2⟩
  rw [bd_e e1, bd_e e2, if_pos rfl]
theorem law_46 {xs : List Int32} {i : Nat} {h : Hp} (I : INV xs i h) (hl : 6 * i + 6 ≤ xs.length) (hx : xs.length ≤ 3072) : LO xs i (bn (aI h 100 1000000 (J (6 * i : Nat) + (1 : Int32))) fun x530 => bd (F_cs_seed 0 x530 h) fun x533 h534 => bn (aI h534 100 1000000 (J (6 * i : Nat) + (1 : Int32))) fun x535 => bd (F_md_seed 88 x535 h534) fun x538 h539 => if x533 = x538 then (some (.inl (J (6 * i : Nat) + (6 : Int32)), h539)) else (some (.inr (.inr (0 : Int32)), h539))) := by
  obtain ⟨a, t, HA, HN, C, R, X⟩ := I
  have k0 := X.2.2.2.2.2.2.1
  have i0 := X.2.2.2.2.2.2.2
  have a1 := ax (i := i) (k := 1) (ks := (1 : Int32)) k0 i0 (by omega) hx (by decide)
  have r1 := xv_r xs (6 * i + 1)
  obtain ⟨h1, h2, e1, e2, k1, i1, I2⟩ := st_a (AW_sed HA) (NL_sed HN) R X (c_sed HA C r1) (fun g G => d_sed HA G r1)
  have b1 := ax (i := i) (k := 1) (ks := (1 : Int32)) k1 i1 (by omega) hx (by decide)
  refine ⟨h2, ?_, I2⟩
  rw [bn_e a1, bd_e e1, bn_e b1, bd_e e2, if_pos rfl]
theorem law_47 {xs : List Int32} {i : Nat} {h : Hp} (I : INV xs i h) (hl : 6 * i + 6 ≤ xs.length) (hx : xs.length ≤ 3072) : LO xs i (bd (F_cs_undo 0 h) fun x541 h542 => bd (F_md_undo 88 h542) fun x544 h545 => if x541 = x544 then (some (.inl (J (6 * i : Nat) + (6 : Int32)), h545)) else (some (.inr (.inr (0 : Int32)), h545))) := by
  obtain ⟨a, t, HA, HN, C, R, X⟩ := I
  have k0 := X.2.2.2.2.2.2.1
  have i0 := X.2.2.2.2.2.2.2
  obtain ⟨h1, h2, e1, e2, k1, i1, I2⟩ := st_a (AW_und HA) (NL_und HN) R X (c_und2 HA C ) (fun g G => d_und2 HN G )
  refine ⟨h2, ?_, I2⟩
  rw [bd_e e1, bd_e e2, if_pos rfl]
theorem law_48 {xs : List Int32} {i : Nat} {h : Hp} (I : INV xs i h) (hl : 6 * i + 6 ≤ xs.length) (hx : xs.length ≤ 3072) : LO xs i (bd (F_cs_image 0 h) fun x547 h548 => bd (F_md_image 88 h548) fun x550 h551 => if x547 = x550 then (some (.inl (J (6 * i : Nat) + (6 : Int32)), h551)) else (some (.inr (.inr (0 : Int32)), h551))) := by
  obtain ⟨a, t, HA, HN, C, R, X⟩ := I
  have k0 := X.2.2.2.2.2.2.1
  have i0 := X.2.2.2.2.2.2.2
  obtain ⟨h1, h2, e1, e2, k1, i1, I2⟩ := st_a (AW_img HA) (NL_img HN) R X (c_img HA C ) (fun g G => d_img HA G )
  refine ⟨h2, ?_, I2⟩
  rw [bd_e e1, bd_e e2, if_pos rfl]
theorem law_49 {xs : List Int32} {i : Nat} {h : Hp} (I : INV xs i h) (hl : 6 * i + 6 ≤ xs.length) (hx : xs.length ≤ 3072) : LO xs i (bn (aI h 100 1000000 (J (6 * i : Nat) + (1 : Int32))) fun x552 => bd (F_cs_back 0 x552 h) fun x555 h556 => bn (aI h556 100 1000000 (J (6 * i : Nat) + (1 : Int32))) fun x557 => bd (F_md_back 88 x557 h556) fun x560 h561 => if x555 = x560 then (some (.inl (J (6 * i : Nat) + (6 : Int32)), h561)) else (some (.inr (.inr (0 : Int32)), h561))) := by
  obtain ⟨a, t, HA, HN, C, R, X⟩ := I
  have k0 := X.2.2.2.2.2.2.1
  have i0 := X.2.2.2.2.2.2.2
  have a1 := ax (i := i) (k := 1) (ks := (1 : Int32)) k0 i0 (by omega) hx (by decide)
  have r1 := xv_r xs (6 * i + 1)
  obtain ⟨h1, h2, e1, e2, k1, i1, I2⟩ := st_a (AW_bck HA) (NL_bck HN) R X (c_bck HA C r1) (fun g G => d_bck HN G r1)
  have b1 := ax (i := i) (k := 1) (ks := (1 : Int32)) k1 i1 (by omega) hx (by decide)
  refine ⟨h2, ?_, I2⟩
  rw [bn_e a1, bd_e e1, bn_e b1, bd_e e2, if_pos rfl]
theorem law_50 {xs : List Int32} {i : Nat} {h : Hp} (I : INV xs i h) (hl : 6 * i + 6 ≤ xs.length) (hx : xs.length ≤ 3072) : LO xs i (bn (aI h 100 1000000 (J (6 * i : Nat) + (1 : Int32))) fun x562 => bd (F_lw_led 0 x562 101 h) fun x565 h566 => bn (aI h566 100 1000000 (J (6 * i : Nat) + (1 : Int32))) fun x567 => bd (F_md_led 88 x567 h566) fun x570 h571 => bn (F_md_thrown 88 h571) fun x573 => if x573 = x565 then (if x565 = (0 : Int32) then (bn (aL h571 101 (0 : Int32)) fun x574 => if (lg_cmp x574 x570.toInt64) = (0 : Int32) then (some (.inl (J (6 * i : Nat) + (6 : Int32)), h571)) else (some (.inr (.inr (0 : Int32)), h571))) else (some (.inl (J (6 * i : Nat) + (6 : Int32)), h571))) else (some (.inr (.inr (0 : Int32)), h571))) := by
  obtain ⟨a, t, HA, HN, C, R, X⟩ := I
  have k0 := X.2.2.2.2.2.2.1
  have i0 := X.2.2.2.2.2.2.2
  have a1 := ax (i := i) (k := 1) (ks := (1 : Int32)) k0 i0 (by omega) hx (by decide)
  have r1 := xv_r xs (6 * i + 1)
  have ib : i ≤ 512 := by omega
  obtain ⟨X1, X2, X3, X4, X5, X6, X7, X8⟩ := X
  obtain ⟨h1, s1, g1, e1⟩ := c_led HA C r1 (by omega)
  have X' : LX xs i h1 := LX_fm s1.1 (by omega) ⟨X1, X2, X3, X4, X5, X6, X7, X8⟩
  have C1 : CI a t h1 := by
    have z := CI_q s1 g1 C
    have e : sTr a (fi h 0 12) = a := by rw [C.2.2.2.2.2.1]; rfl
    rw [e] at z
    exact z
  have R1 : RI a h1 := RI_fm s1.1 R
  obtain ⟨Y1, Y2, Y3, Y4, Y5, Y6, Y7, Y8⟩ := X'
  have lb := LW_h HA.1
  by_cases w : (w_led a (xv xs (6 * i + 1)) : Int) < qL a 1 0
  · rw [if_pos w] at e1
    obtain ⟨v, hv⟩ : ∃ v : Nat, v = w_led a (xv xs (6 * i + 1)) := ⟨_, rfl⟩
    rw [← hv] at e1
    obtain ⟨h2, r2⟩ : ∃ y, y = sLA h1 101 ((lA h1 101).set 0 (J (v : Nat)).toInt64) := ⟨_, rfl⟩
    have el : F_lw_led 0 (J (xv xs (6 * i + 1))) 101 h = some (J 0, h2) := by
      have s2 : sL h1 101 (0 : Int32) (J (v : Nat)).toInt64 = some h2 := by
        unfold sL
        rw [if_pos ⟨Y5, by omega⟩, j_0, ix_J (by omega) (by omega) (by omega), r2]
        rfl
      unfold F_lw_led
      rw [bd_e e1]
      show bn (sL h1 101 (0 : Int32) (J (v : Nat)).toInt64) (fun h2 => some ((0 : Int32), h2)) = _
      rw [bn_e s2, j_0]
    have f2 : Fm 101 102 h1 h2 := by
      rw [r2]
      refine ⟨rfl, rfl, rfl, rfl, fun _ => rfl, fun y => ?_, fun y hy => ⟨rfl, rfl, rfl, ?_⟩⟩
      · show (if y = 101 then (lA h1 101).set 0 (J (v : Nat)).toInt64 else lA h1 y).length = _
        by_cases e : y = 101
        · rw [if_pos e, List.length_set, e]
        · rw [if_neg e]
      · show (if y = 101 then (lA h1 101).set 0 (J (v : Nat)).toInt64 else lA h1 y) = _
        rw [if_neg (by omega)]
    have R2 : RI a h2 := RI_k ⟨fm_wd f2 (by omega) (by omega), fun y hy => (f2.2.2.2.2.2.2 y (by omega)).2.2.1, fun y hy => by rw [(f2.2.2.2.2.2.2 88 (by omega)).1]⟩ (fm_fi f2 (by omega) 1) (fm_fi f2 (by omega) 2) R1
    have C2 : CI a t h2 := CI_fm (fm_wd f2 (by omega) (by omega)) C1
    obtain ⟨h3, R3, Q3, l3, q3⟩ := d_led HA R2 r1
    have e3 := (q3.1 w).1
    have e4 := (q3.1 w).2
    rw [← hv] at e3
    have X2' : LX xs i h2 := LX_fm f2 (by omega) ⟨Y1, Y2, Y3, Y4, Y5, Y6, Y7, Y8⟩
    have b1 := ax (i := i) (k := 1) (ks := (1 : Int32)) X2'.2.2.2.2.2.2.1 X2'.2.2.2.2.2.2.2 (by omega) hx (by decide)
    have X3' : LX xs i h3 := LX_fm Q3.1 (by omega) X2'
    have e5 : aL h3 101 (0 : Int32) = some (J (v : Nat)).toInt64 := by
      have q : lA h3 101 = (lA h1 101).set 0 (J (v : Nat)).toInt64 := by rw [l3, r2]; rfl
      unfold aL
      rw [if_pos X3'.2.2.2.2.1, j_0, ix_J (by omega) (by rw [X3'.2.2.2.2.2.1]; omega) (by omega), q]
      show ((lA h1 101).set 0 (J (v : Nat)).toInt64)[0]? = _
      rw [List.getElem?_set, if_pos rfl, if_pos (by omega)]
    refine ⟨h3, ?_, a, t, HA, HN, CI_fm Q3.1 C2, R3, LX_s X3'⟩
    rw [bn_e a1, bd_e el, bn_e b1, bd_e e3, bn_e e4, if_pos rfl, if_pos (show J 0 = (0 : Int32) by decide), bn_e e5, if_pos (lgc_s _)]
  · rw [if_neg w] at e1
    have el : F_lw_led 0 (J (xv xs (6 * i + 1))) 101 h = some (J 1, mkX h1 6) := by
      unfold F_lw_led
      rw [bd_e e1]
      show some ((1 : Int32), mkX h1 6) = _
      rw [j_1]
    have c1 : cn h1 = cn h := s1.1.2.2.1
    have sx : Se (fun y => y < cn h1 ∨ 1000000 ≤ y) h1 (mkX h1 6) := se_mkX (fun y hy => by omega)
    have C2 : CI a t (mkX h1 6) := CI_se (se_mo sx (fun y hy => by omega)) C1
    have R2 : RI a (mkX h1 6) := RI_se (m := cn h1) (se_mo sx (fun y hy => by omega)) Y2.1 Y4 R1
    obtain ⟨h3, R3, Q3, l3, q3⟩ := d_led HA R2 r1
    have e3 := (q3.2 w).1
    have e4 := (q3.2 w).2
    have X2' : LX xs (i + 1) (mkX h1 6) := by
      refine ⟨WR_wc (se_wc (se_mo sx (fun y hy => by omega))) Y1, ?_, ?_, fun b e => ?_, ?_, ?_, ?_, ?_⟩
      · show 102 ≤ cn h1 + 1 ∧ cn h1 + 1 ≤ 102 + 22 * (i + 1)
        omega
      · show wd h1 + 6 ≤ 100000 + 159 * (i + 1)
        omega
      · show b + 22 ≤ cn h1 + 1
        have := Y4 b e
        omega
      · rw [(sx 101 (by omega)).1]; exact Y5
      · exact Y6
      · rw [(sx 1000000 (by omega)).1]; exact Y7
      · exact Y8
    have b1 := ax (i := i) (k := 1) (ks := (1 : Int32)) X2'.2.2.2.2.2.2.1 X2'.2.2.2.2.2.2.2 (by omega) hx (by decide)
    refine ⟨h3, ?_, a, t, HA, HN, CI_fm Q3.1 C2, R3, LX_fm Q3.1 (by omega) X2'⟩
    rw [bn_e a1, bd_e el, bn_e b1, bd_e e3, bn_e e4, if_pos rfl, if_neg (show ¬ J 1 = (0 : Int32) by decide)]
theorem law_51 {xs : List Int32} {i : Nat} {h : Hp} (I : INV xs i h) (hl : 6 * i + 6 ≤ xs.length) (hx : xs.length ≤ 3072) : LO xs i (bn (aI h 100 1000000 (J (6 * i : Nat) + (1 : Int32))) fun x576 => bn (F_cs_size 0 x576 h) fun x579 => bn (aI h 100 1000000 (J (6 * i : Nat) + (1 : Int32))) fun x580 => bd (F_md_size 88 x580 h) fun x583 h584 => if x579 = x583 then (some (.inl (J (6 * i : Nat) + (6 : Int32)), h584)) else (some (.inr (.inr (0 : Int32)), h584))) := by
  obtain ⟨a, t, HA, HN, C, R, X⟩ := I
  have k0 := X.2.2.2.2.2.2.1
  have i0 := X.2.2.2.2.2.2.2
  have a1 := ax (i := i) (k := 1) (ks := (1 : Int32)) k0 i0 (by omega) hx (by decide)
  have r1 := xv_r xs (6 * i + 1)
  have e1 := c_siz HA C r1
  have e2 := d_siz HA HN R r1
  unfold Cn at e1
  unfold Dn at e2
  refine ⟨wF h 88 0 0, ?_, st_n HA HN C R X⟩
  rw [bn_e a1, bn_e e1, bn_e a1, bd_e e2, if_pos rfl]
theorem law_52 {xs : List Int32} {i : Nat} {h : Hp} (I : INV xs i h) (hl : 6 * i + 6 ≤ xs.length) (hx : xs.length ≤ 3072) : LO xs i (bn (F_cs_trouble 0 h) fun x586 => bd (F_md_trouble 88 h) fun x588 h589 => if x586 = x588 then (some (.inl (J (6 * i : Nat) + (6 : Int32)), h589)) else (some (.inr (.inr (0 : Int32)), h589))) := by
  obtain ⟨a, t, HA, HN, C, R, X⟩ := I
  have k0 := X.2.2.2.2.2.2.1
  have i0 := X.2.2.2.2.2.2.2
  have e1 := c_tro C
  have e2 := d_tro R
  unfold Cn at e1
  unfold Dn at e2
  refine ⟨wF h 88 0 0, ?_, st_n HA HN C R X⟩
  rw [bn_e e1, bd_e e2, if_pos rfl]
