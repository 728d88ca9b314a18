/-! steps of a line, in the class -/
theorem CO_tr {o : Lo} {u : Nat} {T : Int → Int} {n : Nat} {r : Option (Int32 × Hp)} {h g : Hp} (x : Cf u h g) (y0 : fi g 2 0 = fi h 2 0) (y1 : fi g 2 1 = fi h 2 1) (H : CO o u T n r g) : CO o u T n r h := by
  constructor
  · intro p L e
    obtain ⟨a, h', b, c, d, e, f0, f1⟩ := H.1 p L e
    exact ⟨a, h', b, cf_tr x c, d, e, f0.trans y0, f1.trans y1⟩
  · intro f q e
    obtain ⟨h', b, c, d⟩ := H.2 f q e
    exact ⟨h', b, cf_tr x c, d⟩
theorem CP_gu {L : Lk} {u : Nat} {T : Int → Int} {n : Nat} {h : Hp} (C : CP L u T n h) : gR h 2 7 3 = some u := gR_e (DS_k C.1.2.2.2) C.2.2.1
theorem CP_lw {L : Lk} {u : Nat} {T : Int → Int} {n : Nat} {h : Hp} (C : CP L u T n h) : LW L := C.2.2.2.2.1
theorem CP_nw {L : Lk} {u : Nat} {T : Int → Int} {n : Nat} {h : Hp} (C : CP L u T n h) : NW L := C.2.2.2.2.2.1
theorem CP_t {L : Lk} {u : Nat} {T : Int → Int} {n : Nat} {h : Hp} (C : CP L u T n h) : TR L u h := C.2.2.2.2.2.2.1
theorem CP_nc {L : Lk} {u : Nat} {T : Int → Int} {n : Nat} {h : Hp} (C : CP L u T n h) : NC L h := C.2.2.2.2.2.2.2.2.1
theorem CP_d {L : Lk} {u : Nat} {T : Int → Int} {n : Nat} {h : Hp} (C : CP L u T n h) : DS h := C.1.2.2.2
theorem nlt0 {z : Int} (h0 : 0 ≤ z) (h1 : z ≤ 1000) : ¬ J z < (0 : Int32) := by
  rw [j_0, J_lt (by omega) (by omega) (by omega) (by omega)]
  omega
theorem S_fail {L : Lk} {u : Nat} {T : Int → Int} {n p : Nat} {h : Hp} {x : Int} {xs : Int32} (C : CP L u T n h) (hp : p ≤ n) (H : CT T n p h) (hx : 0 ≤ x ∧ x ≤ 6) (e : xs = J x) : CO (.inr (x, (spn T n p : Nat))) u T n (bd (F_rd_fail 2 xs h) fun r g => if retV .boolean r = true then some (r, g) else none) h := by
  obtain ⟨g, e1, q⟩ := C_fail C.1 hp H hx
  rw [e, bd_e e1, if_pos rvb0]
  exact CO_r rfl (cf_fl C.2.2.2.1 q) q.2
theorem S_ad {L : Lk} {u : Nat} {T : Int → Int} {n p : Nat} {h : Hp} {o : Lo} {f : Hp → Option (Int32 × Hp)} (C : CP L u T n h) (hp : p ≤ n) (H : CT T n p h) (f1 : ∀ g, CP L u T n g → CT T n (tnx T n p) g → tnx T n p ≤ n → fi g 2 9 = fi h 2 9 → CO o u T n (f g) g) : CO o u T n (bn (F_tk_advance 3 h) f) h := by
  obtain ⟨g, e, s, w, c, _⟩ := C_ad C.1 hp H
  rw [bn_e e]
  exact CO_tr (cf_sf C.2.2.2.1 s) (s.2 0 (by omega)) (s.2 1 (by omega)) (f1 g (CP_sf s C) c (tln_b T n p hp).1 w)
theorem S_tw {L : Lk} {u : Nat} {T : Int → Int} {n p k w : Nat} {h : Hp} {o : Lo} {f : Int32 → Hp → Option (Int32 × Hp)} (C : CP L u T n h) (hp : p ≤ n) (H : CT T n p h) (hk : k < 24) (hw : w = 1000003 + k) (f1 : isW T n p k = true → ∀ g, CP L u T n g → CT T n (tnx T n p) g → tnx T n p ≤ n → fi g 2 9 = fi h 2 9 → CO o u T n (f (J 1) g) g) : CO (if isW T n p k = true then o else .inr (1, (spn T n p : Nat))) u T n (bd (F_rd_takeWord 2 w h) fun x g => if x = (0 : Int32) then some ((0 : Int32), g) else f x g) h := by
  have z := C_tw (k := k) C.1 hp H hk
  rw [← hw] at z
  by_cases c : isW T n p k = true
  · rw [if_pos c]
    obtain ⟨g, e, s, w9, c1, _⟩ := z.1 c
    rw [bd_e e, if_neg (by decide)]
    exact CO_tr (cf_sf C.2.2.2.1 s) (s.2 0 (by omega)) (s.2 1 (by omega)) (f1 c g (CP_sf s C) c1 (tln_b T n p hp).1 w9)
  · rw [if_neg c]
    obtain ⟨g, e, s⟩ := z.2 c
    rw [bd_e e, if_pos (by decide), j_0]
    exact CO_r rfl (cf_fl C.2.2.2.1 s) s.2
theorem S_twh {L : Lk} {u : Nat} {T : Int → Int} {n p : Nat} {h : Hp} {o : Lo} {lo hi : Int} {ls hs : Int32} {f : Int32 → Hp → Option (Int32 × Hp)} (C : CP L u T n h) (hp : p ≤ n) (H : CT T n p h) (el : ls = J lo) (eh : hs = J hi) (hl : 0 ≤ lo ∧ lo ≤ 1000) (hh : 0 ≤ hi ∧ hi ≤ 1000) (f1 : tso T n p = 1 → lo ≤ tnm T n p → tnm T n p ≤ hi → ∀ g, CP L u T n g → CT T n (tnx T n p) g → tnx T n p ≤ n → fi g 2 9 = tnm T n p → CO o u T n (f (J 1) g) g) : CO (if pwf T n p lo hi = 0 then o else .inr (pwf T n p lo hi, (spn T n p : Nat))) u T n (bd (F_rd_takeWhole 2 ls hs h) fun x g => if x = (0 : Int32) then some ((0 : Int32), g) else f x g) h := by
  have z := C_twh (lo := lo) (hi := hi) C.1 hp H hl hh
  rw [← el, ← eh] at z
  by_cases c : pwf T n p lo hi = 0
  · rw [if_pos c]
    obtain ⟨g, e, s, w9, c1, _⟩ := z.1 c
    have b := pwf_0 c
    rw [bd_e e, if_neg (by decide)]
    exact CO_tr (cf_sf C.2.2.2.1 s) (s.2 0 (by omega)) (s.2 1 (by omega)) (f1 b.1 b.2.1 b.2.2 g (CP_sf s C) c1 (tln_b T n p hp).1 w9)
  · rw [if_neg c]
    obtain ⟨g, e, s⟩ := z.2 c
    rw [bd_e e, if_pos (by decide), j_0]
    exact CO_r rfl (cf_fl C.2.2.2.1 s) s.2
theorem S_non {L : Lk} {u : Nat} {T : Int → Int} {n p : Nat} {h : Hp} {o : Lo} {s : Int} {cs : Int32} {f : Int32 → Hp → Option (Int32 × Hp)} (C : CP L u T n h) (hp : p ≤ n) (H : CT T n p h) (ec : cs = J (csr s)) (hs : s = 0 ∨ s = 1 ∨ s = 2) (f1 : pkf L T n p s = 0 → CO o u T n (f (J (knb L T n p)) h) h) : CO (if pkf L T n p s = 0 then o else .inr (pkf L T n p s, (spn T n p : Nat))) u T n (bd (F_rd_numberOfName 2 cs h) fun x g => if x < (0 : Int32) then some ((0 : Int32), g) else f x g) h := by
  have z := C_non (s := s) C.1 hp H (CP_nw C) (CP_nc C) hs
  rw [← ec] at z
  by_cases c : pkf L T n p s = 0
  · rw [if_pos c]
    have e := z.1 c
    have b := (pkf_0 (CP_nw C) c).2.2.2.2
    rw [bd_e e, if_neg (nlt0 b.1 (by omega))]
    exact f1 c
  · rw [if_neg c]
    obtain ⟨g, e, s⟩ := z.2 c
    rw [bd_e e, if_pos (by decide), j_0]
    exact CO_r rfl (cf_fl C.2.2.2.1 s) s.2
theorem LW_nml {L : Lk} {T : Int → Int} {n p : Nat} {s v : Int} (H : LW L) : LW (nml L T n p s v) := by
  unfold LW
  simp (disch := omega) only [nml_o]
  exact H
theorem TR_nml {L : Lk} {T : Int → Int} {n p u : Nat} {h : Hp} {s v : Int} (H : TR L u h) : TR (nml L T n p s v) u h := by
  obtain ⟨a, ⟨k, k1, k2⟩, b⟩ := H
  unfold TR
  simp (disch := omega) only [nml_o]
  refine ⟨a, ⟨k, k1, ?_⟩, b⟩
  unfold nbo at k2 ⊢
  simp (disch := omega) only [nml_o]
  exact k2
theorem lkx_nml {L : Lk} {T : Int → Int} {n p k : Nat} {s v : Int} (hk : k ≠ 8 ∧ k ≠ 27 ∧ k ≠ 28 ∧ k ≠ 29 ∧ k ≠ 30) (i : Int) : lkx (nml L T n p s v) k i = lkx L k i := by
  unfold lkx
  rw [nml_o hk, nml_o (by omega)]
theorem LR_nml {L : Lk} {T : Int → Int} {n p u : Nat} {h : Hp} {s v : Int} (H : LR (lkx L) u h) : LR (lkx (nml L T n p s v)) u h := by
  unfold LR at H ⊢
  simp (disch := omega) only [lkx_nml]
  exact H
theorem S_new {L : Lk} {u : Nat} {T : Int → Int} {n p : Nat} {h : Hp} {o : Lo} {s v : Int} {cs : Int32} {f : Int32 → Hp → Option (Int32 × Hp)} (C : CP L u T n h) (hp : p ≤ n) (H : CT T n p h) (hL : L 8 0 < 11) (ec : cs = J (csr s)) (hs : s = 0 ∨ s = 1 ∨ s = 2) (hv : 0 ≤ v ∧ v ≤ 4) (f1 : pnf L T n p = 0 → tso T n p = 0 → ∀ g, CP (nml L T n p s v) u T n g → CT T n (tnx T n p) g → tnx T n p ≤ n → CO o u T n (f (J 1) g) g) : CO (if pnf L T n p = 0 then o else .inr (pnf L T n p, (spn T n p : Nat))) u T n (bd (F_rd_takeNewName 2 cs (J v) h) fun x g => if x = (0 : Int32) then some ((0 : Int32), g) else f x g) h := by
  have z := C_new (s := s) (v := v) C.1 hp H (CP_nw C) (CP_nc C) hL hs hv
  rw [← ec] at z
  by_cases c : pnf L T n p = 0
  · rw [if_pos c]
    obtain ⟨c0, g, e, s1, w9, n1, c1, B1⟩ := z.1 c
    rw [bd_e e, if_neg (by decide)]
    refine CO_tr (cf_nf C.2.2.2.1 s1) (s1.2.2 0 (by omega) (by omega)) (s1.2.2 1 (by omega) (by omega)) (f1 c c0 g ?_ c1 (tln_b T n p hp).1)
    obtain ⟨a1, a2, a3, a4, a5, a6, a7, ⟨m, m1, m2⟩, a9, a10⟩ := C
    refine ⟨B1, TS_fm s1.1 a2, by rw [fm_fR s1.1]; exact a3, a4, LW_nml a5, NW_nml a6 hp c0 hL hs hv, TR_nml (nf_TR s1 a4 a7), ⟨m, ?_, ?_⟩, n1, ?_⟩
    · rw [(s1.2.1 u (by omega)).1]; exact m1
    · rw [nml_o (by omega)]; exact m2
    · rw [nml_o (by omega)]; exact a10
  · rw [if_neg c]
    obtain ⟨g, e, s⟩ := z.2 c
    rw [bd_e e, if_pos (by decide), j_0]
    exact CO_r rfl (cf_fl C.2.2.2.1 s) s.2
/-! steps of a line, in the reference -/
theorem DO_tr {o : Lo} {b : Nat} {T : Int → Int} {n : Nat} {r : Option Hp} {h g : Hp} (x : Dfr b h g) (y : fi g 88 12 = fi h 88 12) (H : DO o b T n r g) : DO o b T n r h := by
  constructor
  · intro p L e
    obtain ⟨a, h', e1, c, d, e2, f⟩ := H.1 p L e
    exact ⟨a, h', e1, df_tr x c, d, e2, f.trans y⟩
  · intro f q e
    obtain ⟨h', e1, c, d⟩ := H.2 f q e
    exact ⟨h', e1, df_tr x c, d⟩
theorem DO_fd {b : Nat} {T : Int → Int} {n : Nat} {r : Option Hp} {h g : Hp} {f q : Int} (hb : 102 ≤ b) (x : FD f q h g) (e : r = some g) : DO (.inr (f, q)) b T n r h := DO_r e (df_fd hb x) ⟨x.2.1, x.2.2.1, x.2.2.2.1⟩
theorem DO_gf {o : Lo} {b : Nat} {T : Int → Int} {n : Nat} {r : Option Hp} {h g : Hp} (hb : 102 ≤ b) (x : Gf h g) (H : DO o b T n r g) : DO o b T n r h := DO_tr (df_gf hb x) (x.2 12 (by omega)) H
theorem DP_gf {L : Lk} {b : Nat} {T : Int → Int} {n : Nat} {h h' : Hp} (x : Gf h h') (C : DP L b T n h) : DP L b T n h' := DP_fm x.1 (by omega) C
theorem DL_fd {L : Lk} {b : Nat} {T : Int → Int} {n : Nat} {h h' : Hp} {f q : Int} (x : FD f q h h') (C : DP L b T n h) : DL L b T n h' := DL_fm x.1 (by omega) C.1
theorem Sd_beg {L : Lk} {b : Nat} {T : Int → Int} {n p : Nat} {h : Hp} {o : Lo} {c m : Int} {cs ms : Int32} {f : Hp → Option Hp} (C : DP L b T n h) (hp : p ≤ n) (H : DT T n p h) (h0 : tso T n p = 0) (ec : cs = J c) (em : ms = J m) (hc : 0 ≤ c ∧ c ≤ 9) (hm : 0 ≤ m ∧ m ≤ 9) (hz : L 31 0 = 0 → ¬ c = m) (f5 : ∀ g, DL L b T n g → fi g 88 9 = 5 → f g = some g) (f1 : L 31 0 = 1 → ¬ c = m → ∀ g, DP L b T n g → DT T n (tnx T n p) g → tnx T n p ≤ n → DO o b T n (f g) g) : DO (if bgf L c m = 0 then o else .inr (bgf L c m, (spn T n p : Nat))) b T n (bn (F_md_lineBegins 88 cs ms h) f) h := by
  have hb := C.1.2.2.2.2.2.1
  have z := D_beg (c := c) (m := m) hp C H h0 hc hm hz
  rw [← ec, ← em] at z
  by_cases t : bgf L c m = 0
  · rw [if_pos t]
    obtain ⟨g, e, x, d⟩ := z.1 t
    rw [bn_e e]
    have q := C.2.2.2.2.1
    have t1 : ¬ L 31 0 = 0 := fun y => by unfold bgf at t; rw [if_pos y] at t; omega
    have t2 : ¬ c = m := fun y => by unfold bgf at t; rw [if_neg t1, if_pos y] at t; omega
    exact DO_gf hb x (f1 (by omega) t2 g (DP_gf x C) d (tln_b T n p hp).1)
  · rw [if_neg t]
    obtain ⟨g, e, x⟩ := z.2 t
    rw [bn_e e, f5 g (DL_fd x C) x.2.1]
    exact DO_fd hb x rfl
theorem Sd_go {L : Lk} {b : Nat} {T : Int → Int} {n p : Nat} {h : Hp} {o : Lo} {f : Hp → Option Hp} (C : DP L b T n h) (hp : p ≤ n) (H : DT T n p h) (h4 : tso T n p ≠ 4) (f1 : ∀ g, DP L b T n g → DT T n (tnx T n p) g → tnx T n p ≤ n → DO o b T n (f g) g) : DO o b T n (bn (F_md_goesOn 88 h) f) h := by
  obtain ⟨g, e, x, d, _⟩ := D_ad C.1.1 hp H h4
  rw [bn_e e]
  exact DO_gf C.1.2.2.2.2.2.1 x (f1 g (DP_gf x C) d (tln_b T n p hp).1)
theorem Sd_fl {L : Lk} {b : Nat} {T : Int → Int} {n p : Nat} {h : Hp} {x : Int} {xs : Int32} {f : Hp → Option Hp} (C : DP L b T n h) (hp : p ≤ n) (H : DT T n p h) (hx : 0 ≤ x ∧ x ≤ 6) (e : xs = J x) (f5 : ∀ g, DL L b T n g → fi g 88 9 = 5 → f g = some g) : DO (.inr (x, (spn T n p : Nat))) b T n (bn (F_md_flaw 88 xs h) f) h := by
  obtain ⟨g, e1, q⟩ := D_flaw C.1.1 hp H hx
  rw [e, bn_e e1, f5 g (DL_fd q C) q.2.1]
  exact DO_fd C.1.2.2.2.2.2.1 q rfl
theorem Sd_rk {L : Lk} {b : Nat} {T : Int → Int} {n p : Nat} {h : Hp} {o : Lo} {s : Int} {cs : Int32} {f : Int32 → Hp → Option Hp} (C : DP L b T n h) (hp : p ≤ n) (H : DT T n p h) (ec : cs = J s) (hs : s = 0 ∨ s = 1 ∨ s = 2) (f5 : ∀ g, DL L b T n g → fi g 88 9 = 5 → f (J 0) g = some g) (f1 : pkf L T n p s = 0 → ∀ g, DP L b T n g → DT T n (tnx T n p) g → tnx T n p ≤ n → DO o b T n (f (J (knb L T n p)) g) g) : DO (if pkf L T n p s = 0 then o else .inr (pkf L T n p s, (spn T n p : Nat))) b T n (bd (F_md_readKnown 88 cs h) f) h := by
  have hb := C.1.2.2.2.2.2.1
  have z := D_rk (s := s) C.1 hp H hs
  rw [← ec] at z
  by_cases t : pkf L T n p s = 0
  · rw [if_pos t]
    obtain ⟨g, e, x, d⟩ := z.1 t
    rw [bd_e e]
    exact DO_gf hb x (f1 t g (DP_gf x C) d (tln_b T n p hp).1)
  · rw [if_neg t]
    obtain ⟨g, e, x⟩ := z.2 t
    rw [bd_e e, f5 g (DL_fd x C) x.2.1]
    exact DO_fd hb x rfl
theorem Sd_kn {L : Lk} {b : Nat} {T : Int → Int} {n p : Nat} {h : Hp} {o : Lo} {s : Int} {cs : Int32} {f : Int32 → Hp → Option Hp} (C : DP L b T n h) (hp : p ≤ n) (H : DT T n p h) (ec : cs = J s) (hs : s = 0 ∨ s = 1 ∨ s = 2) (f5 : ∀ g, DL L b T n g → fi g 88 9 = 5 → f (J 0) g = some g) (f1 : pkf L T n p s = 0 → DO o b T n (f (J (knb L T n p)) h) h) : DO (if pkf L T n p s = 0 then o else .inr (pkf L T n p s, (spn T n p : Nat))) b T n (bd (F_md_knownOne 88 cs h) f) h := by
  have hb := C.1.2.2.2.2.2.1
  have z := D_kn (s := s) C.1 hp H hs
  rw [← ec] at z
  by_cases t : pkf L T n p s = 0
  · rw [if_pos t, bd_e (z.1 t)]
    exact f1 t
  · rw [if_neg t]
    obtain ⟨g, e, x⟩ := z.2 t
    rw [bd_e e, f5 g (DL_fd x C) x.2.1]
    exact DO_fd hb x rfl
theorem Sd_rf {L : Lk} {b : Nat} {T : Int → Int} {n p : Nat} {h : Hp} {o : Lo} {f : Int64 → Hp → Option Hp} (C : DP L b T n h) (hp : p ≤ n) (H : DT T n p h) (f5 : ∀ x g, DL L b T n g → fi g 88 9 = 5 → f (K x) g = some g) (f1 : pnf L T n p = 0 → tso T n p = 0 → ∀ g, DP L b T n g → DT T n (tnx T n p) g → tnx T n p ≤ n → DO o b T n (f (K (t32 T n p)) g) g) : DO (if pnf L T n p = 0 then o else .inr (pnf L T n p, (spn T n p : Nat))) b T n (bd (F_md_readFresh 88 h) f) h := by
  have hb := C.1.2.2.2.2.2.1
  have z := D_rf C.1 hp H
  by_cases t : pnf L T n p = 0
  · rw [if_pos t]
    obtain ⟨t0, g, e, x, d⟩ := z.1 t
    rw [bd_e e]
    exact DO_gf hb x (f1 t t0 g (DP_gf x C) d (tln_b T n p hp).1)
  · rw [if_neg t]
    obtain ⟨y, g, e, x⟩ := z.2 t
    rw [bd_e e, f5 y g (DL_fd x C) x.2.1]
    exact DO_fd hb x rfl
theorem Sd_rw {L : Lk} {b : Nat} {T : Int → Int} {n p : Nat} {h : Hp} {o : Lo} {lo hi : Int} {ls hs : Int32} {f : Int32 → Hp → Option Hp} (C : DP L b T n h) (hp : p ≤ n) (H : DT T n p h) (el : ls = J lo) (eh : hs = J hi) (hl : 0 ≤ lo ∧ lo ≤ 1000) (hh : 0 ≤ hi ∧ hi ≤ 1000) (f5 : ∀ g, DL L b T n g → fi g 88 9 = 5 → f (J lo) g = some g) (f1 : lo ≤ tnm T n p → tnm T n p ≤ hi → ∀ g, DP L b T n g → DT T n (tnx T n p) g → tnx T n p ≤ n → DO o b T n (f (J (tnm T n p)) g) g) : DO (if pwf T n p lo hi = 0 then o else .inr (pwf T n p lo hi, (spn T n p : Nat))) b T n (bd (F_md_readWhole 88 ls hs h) f) h := by
  have hb := C.1.2.2.2.2.2.1
  have z := D_rw (lo := lo) (hi := hi) C.1.1 hp H hl hh
  rw [← el, ← eh] at z
  by_cases t : pwf T n p lo hi = 0
  · rw [if_pos t]
    obtain ⟨g, e, x, d, _⟩ := z.1 t
    have q := pwf_0 t
    rw [bd_e e]
    exact DO_gf hb x (f1 q.2.1 q.2.2 g (DP_gf x C) d (tln_b T n p hp).1)
  · rw [if_neg t]
    obtain ⟨g, e, x⟩ := z.2 t
    rw [bd_e e, el, f5 g (DL_fd x C) x.2.1]
    exact DO_fd hb x rfl
theorem Sd_nd {L : Lk} {b : Nat} {T : Int → Int} {n p k w : Nat} {h : Hp} {o : Lo} {f : Hp → Option Hp} (C : DP L b T n h) (hp : p ≤ n) (H : DT T n p h) (hk : k < 24) (hw : w = 1000003 + k) (f5 : ∀ g, DL L b T n g → fi g 88 9 = 5 → f g = some g) (f1 : ∀ g, DP L b T n g → DT T n (tnx T n p) g → tnx T n p ≤ n → DO o b T n (f g) g) : DO (if isW T n p k = true then o else .inr (1, (spn T n p : Nat))) b T n (bn (F_md_needs 88 w h) f) h := by
  have hb := C.1.2.2.2.2.2.1
  have z := D_needs (k := k) C.1.1 hp H hk
  rw [← hw] at z
  by_cases t : isW T n p k = true
  · rw [if_pos t]
    obtain ⟨g, e, x, d, _⟩ := z.1 t
    rw [bn_e e]
    exact DO_gf hb x (f1 g (DP_gf x C) d (tln_b T n p hp).1)
  · rw [if_neg t]
    obtain ⟨g, e, x⟩ := z.2 t
    rw [bn_e e, f5 g (DL_fd x C) x.2.1]
    exact DO_fd hb x rfl
theorem Sd_pt {L : Lk} {b : Nat} {T : Int → Int} {n p k w : Nat} {h : Hp} {o : Lo} {lo hi : Int} {ls hs : Int32} {f : Int32 → Hp → Option Hp} (C : DP L b T n h) (hp : p ≤ n) (H : DT T n p h) (hk : k < 24) (hw : w = 1000003 + k) (el : ls = J lo) (eh : hs = J hi) (hl : 0 ≤ lo ∧ lo ≤ 1000) (hh : 0 ≤ hi ∧ hi ≤ 1000) (f5 : ∀ g, DL L b T n g → fi g 88 9 = 5 → f (J lo) g = some g) (f1 : lo ≤ tnm T n (tnx T n p) → tnm T n (tnx T n p) ≤ hi → tnx T n p ≤ n → ∀ g, DP L b T n g → DT T n (tnx T n (tnx T n p)) g → tnx T n (tnx T n p) ≤ n → DO o b T n (f (J (tnm T n (tnx T n p))) g) g) : DO (if isW T n p k = true then (if pwf T n (tnx T n p) lo hi = 0 then o else .inr (pwf T n (tnx T n p) lo hi, (spn T n (tnx T n p) : Nat))) else .inr (1, (spn T n p : Nat))) b T n (bd (F_md_readPart 88 w ls hs h) f) h := by
  have hb := C.1.2.2.2.2.2.1
  have p1 := (tln_b T n p hp).1
  have p2 := (tln_b T n _ p1).1
  have z := D_part (k := k) (lo := lo) (hi := hi) C.1.1 hp H hk hl hh
  rw [← hw, ← el, ← eh] at z
  by_cases t : isW T n p k = true
  · rw [if_pos t]
    by_cases t2 : pwf T n (tnx T n p) lo hi = 0
    · rw [if_pos t2]
      obtain ⟨g, e, x, d⟩ := z.1 t t2
      have q := pwf_0 t2
      rw [bd_e e]
      exact DO_gf hb x (f1 q.2.1 q.2.2 p1 g (DP_gf x C) d p2)
    · rw [if_neg t2]
      obtain ⟨g1, g, e, x1, x⟩ := z.2.1 t t2
      rw [bd_e e, el, f5 g (DL_fd x (DP_gf x1 C)) x.2.1]
      exact DO_gf hb x1 (DO_fd hb x rfl)
  · rw [if_neg t]
    obtain ⟨g, e, x⟩ := z.2.2 t
    rw [bd_e e, el, f5 g (DL_fd x C) x.2.1]
    exact DO_fd hb x rfl
/-! two rows take a value -/
def ap2 (L : Lk) (c k1 : Nat) (v1 : Int) (k2 : Nat) (v2 : Int) : Lk := fun k i => if k = c then (if i = 0 then L c 0 + 1 else L k i) else if k = k1 then (if i = L c 0 then v1 else L k i) else if k = k2 then (if i = L c 0 then v2 else L k i) else L k i
/-- a known house, a known drinker -/
theorem kn0 {L : Lk} {T : Int → Int} {n p : Nat} (N : NW L) (B : NB L) (c : pkf L T n p 0 = 0) : 0 ≤ knb L T n p ∧ knb L T n p < L 1 0 := by
  have k := pkf_0 N c
  exact ⟨k.2.2.2.2.1, (B.2 _ k.2.1 k.2.2.1).1 k.2.2.2.1⟩
/-! the names grow, in the reference -/
theorem D_nms {L : Lk} {b : Nat} {T : Int → Int} {n p : Nat} {h : Hp} {s v : Int} {ss vs : Int32} (C : DP L b T n h) (hp : p ≤ n) (c0 : tso T n p = 0) (hL : L 8 0 < 11) (hs : s = 0 ∨ s = 1 ∨ s = 2) (hv : 0 ≤ v ∧ v ≤ 4) (es : ss = J s) (ev : vs = J v) : ∃ h', F_md_names 88 (K (t32 T n p)) ss vs h = some h' ∧ Fm b (b + 22) h h' ∧ DP (nml L T n p s v) b T n h' := by
  obtain ⟨⟨B, a2, Y, N, A, hb⟩, lw, R, BB, a5, a6⟩ := C
  have M := B.1
  have n0 := N.1.1
  obtain ⟨m, hm⟩ : ∃ m, m = L 8 0 := ⟨_, rfl⟩
  have tb := (t27_b hp c0).2
  have rr : ∀ g, Fm b (b + 22) h g → gR g 88 13 4 = some b := fun g x => gR_e (MS_k (MS_fm x M)) (by rw [fm_fR x]; exact a2)
  have r0 := rr h (fm_rf _ _ _)
  have i0 : gI h b 12 8 = some (J m) := by rw [gI_J (YS_k Y), A.1, hm]
  have y0 : gR h b 12 27 = some (b + 19) := gR_e (YS_k Y) (YS_r27 Y)
  have l0 := YS_n27 Y
  obtain ⟨h1, e1⟩ : ∃ h1, h1 = wL h (b + 19) m (t32 T n p) := ⟨_, rfl⟩
  have f1 : Fm b (b + 22) h h1 := by rw [e1]; exact fm_wL (by omega) (by omega)
  have s1 : sL h (b + 19) (J m) (K (t32 T n p)) = some h1 := by rw [e1]; exact sL_J (YS_k27 Y) (by omega) (by omega) (by omega) (by omega)
  have Y1 := YS_fm f1 Y
  have r1 := rr h1 f1
  have i1 : gI h1 b 12 8 = some (J m) := by rw [gI_J (YS_k Y1), e1]; rw [gI_J (YS_k Y)] at i0; exact i0
  have y1 : gR h1 b 12 28 = some (b + 20) := gR_e (YS_k Y1) (YS_r28 Y1)
  have l1 := YS_n28 Y1
  obtain ⟨h2, e2⟩ : ∃ h2, h2 = wA h1 (b + 20) m s := ⟨_, rfl⟩
  have f2 : Fm b (b + 22) h1 h2 := by rw [e2]; exact fm_wA (by omega) (by omega)
  have s2 : sI h1 100 (b + 20) (J m) (J s) = some h2 := by rw [e2]; exact sI_J (YS_k28 Y1) (by omega) (by omega) (by omega) (by omega)
  have F2 := fm_tr f1 f2
  have Y2 := YS_fm f2 Y1
  have r2 := rr h2 F2
  have i2 : gI h2 b 12 8 = some (J m) := by rw [gI_J (YS_k Y2), e2]; rw [gI_J (YS_k Y1)] at i1; exact i1
  have y2 : gR h2 b 12 29 = some (b + 21) := gR_e (YS_k Y2) (YS_r29 Y2)
  have l2 := YS_n29 Y2
  obtain ⟨h3, e3⟩ : ∃ h3, h3 = wA h2 (b + 21) m v := ⟨_, rfl⟩
  have f3 : Fm b (b + 22) h2 h3 := by rw [e3]; exact fm_wA (by omega) (by omega)
  have s3 : sI h2 100 (b + 21) (J m) (J v) = some h3 := by rw [e3]; exact sI_J (YS_k29 Y2) (by omega) (by omega) (by omega) (by omega)
  have F3 := fm_tr F2 f3
  have Y3 := YS_fm f3 Y2
  have r3 := rr h3 F3
  have i3 : gI h3 b 12 8 = some (J m) := by rw [gI_J (YS_k Y3), e3]; rw [gI_J (YS_k Y2)] at i2; exact i2
  obtain ⟨h4, e4⟩ : ∃ h4, h4 = wF h3 b 8 (m + 1) := ⟨_, rfl⟩
  have f4 : Fm b (b + 22) h3 h4 := by rw [e4]; exact fm_wF (by omega) (by omega)
  have s4 : pI h3 b 12 8 (J (m + 1)) = some h4 := by rw [e4]; exact pI_J (YS_k Y3)
  have F4 := fm_tr F3 f4
  refine ⟨h4, ?_, F4, ⟨DB_fm F4 (by omega) (by omega) B, by rw [fm_fR F4]; exact a2, YS_fm F4 Y, NW_nml N hp c0 hL hs hv, ⟨?_, fun i i0 i1 => ?_⟩, hb⟩, LW_nml lw, ?_, ?_, ?_, ?_⟩
  · rw [es, ev]
    unfold F_md_names
    rw [ck_e (MS_k M)]
    try simp only [j_0, j_1, j_2, j_3, j_4, j_5, j_6, j_7, j_8, j_9, j_10, j_11, j_12, j_13, j_14, j_15, j_16, j_17, j_18, j_19, j_20, j_21, j_22, j_23, j_24, j_25, j_26, j_27, j_28, j_29, j_30, j_31, j_32, j_33, j_34, j_35, j_36, j_37, j_38, j_39, j_40, j_41, j_42, j_43, j_44, j_45, j_46, j_47, j_48, j_49, j_50, j_51, j_52, j_57, j_59, j_63, j_74, j_75, j_93, j_97, j_99, j_100, j_122, j_200, j_255, j_300, j_465, j_496, j_900, j_999, j_1000, j_65536, j_65537, j_99999, j_252645135, j_858993459, j_1431655765, k_0, k_1, k_27, k_32, k_74, k_75, k_100, k_1000, k_65537]
    simp (disch := first | with_reducible assumption | omega | trivial) only [↓bn_s1, ↓bd_s1, ↓ei_l1, ↓ei_r1, ↓bn_if, ↓ilt_1, ↓ilt_0, ↓ieq_1, ↓ieq_0, bn_s1, bd_s1, ei_l1, ei_r1, J_add, J_sub, J_mul, J_neg, J_lt, J_le, J_eq, dv_J, rm_J, if_pos, if_neg, ↓reduceIte, bitJ, shlJ, orJ, j_0, j_1, j_2, j_3, j_4, j_5, j_6, j_7, j_8, j_9, j_10, j_11, j_12, j_13, j_14, j_15, j_16, j_17, j_18, j_19, j_20, j_21, j_22, j_23, j_24, j_25, j_26, j_27, j_28, j_29, j_30, j_31, j_32, j_33, j_34, j_35, j_36, j_37, j_38, j_39, j_40, j_41, j_42, j_43, j_44, j_45, j_46, j_47, j_48, j_49, j_50, j_51, j_52, j_57, j_59, j_63, j_74, j_75, j_93, j_97, j_99, j_100, j_122, j_200, j_255, j_300, j_465, j_496, j_900, j_999, j_1000, j_65536, j_65537, j_99999, j_252645135, j_858993459, j_1431655765, k_0, k_1, k_27, k_32, k_74, k_75, k_100, k_1000, k_65537, ↓bn_e (r0), r0, ↓bn_e (y0), y0, ↓bn_e (i0), i0, ↓bn_e (s1), s1, ↓bn_e (r1), r1, ↓bn_e (y1), y1, ↓bn_e (i1), i1, ↓bn_e (s2), s2, ↓bn_e (r2), r2, ↓bn_e (y2), y2, ↓bn_e (i2), i2, ↓bn_e (s3), s3, ↓bn_e (r3), r3, ↓bn_e (i3), i3, ↓bn_e (s4), s4]
  · rw [e4, fi_same (by omega) (by omega), hm]; rfl
  · rw [nml_8, ← hm] at i1
    have u1 : la h4 (b + 19) i = if i = m then t32 T n p else la h (b + 19) i := by
      rw [e4]
      show la h3 (b + 19) i = _
      rw [e3, e2]
      show la h1 (b + 19) i = _
      by_cases e : i = m
      · rw [if_pos e, e1, e]; exact la_same (by omega) (by omega) (by omega) (by omega)
      · rw [if_neg e, e1]; exact la_ne (by omega) i0 e
    have u2 : ia h4 (b + 20) i = if i = m then s else ia h (b + 20) i := by
      rw [e4]
      show ia h3 (b + 20) i = _
      rw [e3, ia_wA (by omega), e2, ia_if (by omega) i0 (by omega) (by omega) (by omega), e1]
      rfl
    have u3 : ia h4 (b + 21) i = if i = m then v else ia h (b + 21) i := by
      rw [e4]
      show ia h3 (b + 21) i = _
      rw [e3, ia_if (by omega) i0 (by omega) (by omega) (by omega), e2, ia_wA (by omega), e1]
      rfl
    rw [u1, u2, u3]
    by_cases e : i = m
    · obtain ⟨w1, w2, w3, w4⟩ := nml_n L T n p s v (e.trans hm)
      rw [if_pos e, if_pos e, if_pos e, w1, w3, w4]
      exact ⟨rfl, rfl, rfl⟩
    · have ne : ¬ i = L 8 0 := by omega
      rw [if_neg e, if_neg e, if_neg e, nml_p L T n p s v (by omega) ne, nml_p L T n p s v (by omega) ne, nml_p L T n p s v (by omega) ne]
      exact A.2 i i0 (by omega)
  · have fo : ∀ a j, (a ≠ b ∨ j ≠ 8) → fi h4 a j = fi h a j := fun a j ha => by rw [e4, fi_ne ha, e3, e2, e1]; rfl
    have io : ∀ a, a ≠ b + 20 → a ≠ b + 21 → ∀ z, ia h4 a z = ia h a z := fun a a1 a2 z => by
      rw [e4]
      show ia h3 a z = _
      rw [e3, ia_wA a2, e2, ia_wA a1, e1]
      rfl
    refine LR_nml ?_
    unfold LR at R ⊢
    simp (disch := omega) only [fo, io]
    exact R
  · intro i hi
    obtain ⟨k, k1, k2, k3⟩ := BB i hi
    refine ⟨k, k1, ?_, fun j hj => ?_⟩
    · rw [e4]
      show ia h3 (b + 4) i = _
      rw [e3, ia_wA (by omega), e2, ia_wA (by omega), e1]
      exact k2
    · rw [nml_o (by omega)]; exact k3 j hj
  · rw [nml_o (by omega)]; exact a5
  · rw [nml_o (by omega)]
    intro z k hk
    rw [nml_o (by omega)]
    exact a6 z k hk
