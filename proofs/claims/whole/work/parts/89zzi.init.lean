/-! the first state -/
def tX (xs : List Int32) (h : Hp) : Hp := (kd h, fI h, fL h, fR h, fun i => if i = 1000000 then xs else iA h i, lA h, cn h, wd h)
theorem mkA_t {xs : List Int32} {h : Hp} {kk n : Nat} (hc : cn h < 900000) : mkA (tX xs h) kk n = tX xs (mkA h kk n) := by
  have e : up1 (iA (tX xs h)) (cn h) (List.replicate n 0) = (fun i => if i = 1000000 then xs else up1 (iA h) (cn h) (List.replicate n 0) i) := by
    funext i
    show (if i = cn h then List.replicate n 0 else (if i = 1000000 then xs else iA h i)) = (if i = 1000000 then xs else (if i = cn h then List.replicate n 0 else iA h i))
    by_cases c : i = cn h
    · rw [if_pos c, if_neg (by omega), if_pos c]
    · rw [if_neg c, if_neg c]
  show (up1 (kd h) (cn h) kk, fI h, fL h, fR h, up1 (iA (tX xs h)) (cn h) (List.replicate n 0), up1 (lA h) (cn h) (List.replicate n 0), cn h + 1, wd h + n) = _
  rw [e]
  rfl
theorem nA_t {xs : List Int32} {h : Hp} {kk : Nat} {n : Int32} : nA (tX xs h) kk n = (nA h kk n).map (fun q => (q.1, tX xs q.2)) := by
  unfold nA
  by_cases c : ¬ n < 0 ∧ n.toNatClampNeg ≤ 100000 ∧ cn h < 900000
  · rw [if_pos c, if_pos (show ¬ n < 0 ∧ n.toNatClampNeg ≤ 100000 ∧ cn (tX xs h) < 900000 from c), mkA_t c.2.2]
    rfl
  · rw [if_neg c, if_neg (show ¬ (¬ n < 0 ∧ n.toNatClampNeg ≤ 100000 ∧ cn (tX xs h) < 900000) from c)]
    rfl
theorem nO_t {xs : List Int32} {h : Hp} {ci : Nat} : nO (tX xs h) ci = (nO h ci).map (fun q => (q.1, tX xs q.2)) := by
  unfold nO
  by_cases c : cn h < 900000
  · rw [if_pos c, if_pos (show cn (tX xs h) < 900000 from c)]
    cases cty[ci]? with
    | none => rfl
    | some l => rfl
  · rw [if_neg c, if_neg (show ¬ cn (tX xs h) < 900000 from c)]
    rfl
theorem pR_t {xs : List Int32} {h : Hp} {a ci k : Nat} {v : Option Nat} : pR (tX xs h) a ci k v = (pR h a ci k v).map (tX xs) := by
  unfold pR
  by_cases c : kd h a = ci
  · rw [if_pos c, if_pos (show kd (tX xs h) a = ci from c)]
    rfl
  · rw [if_neg c, if_neg (show ¬ kd (tX xs h) a = ci from c)]
    rfl
theorem pI_t {xs : List Int32} {h : Hp} {a ci k : Nat} {v : Int32} : pI (tX xs h) a ci k v = (pI h a ci k v).map (tX xs) := by
  unfold pI
  by_cases c : kd h a = ci
  · rw [if_pos c, if_pos (show kd (tX xs h) a = ci from c)]
    rfl
  · rw [if_neg c, if_neg (show ¬ kd (tX xs h) a = ci from c)]
    rfl
theorem bd_t {xs : List Int32} {β : Type} {o : Option (Nat × Hp)} {f : Nat → Hp → Option β} : bd (o.map (fun q => (q.1, tX xs q.2))) f = bd o (fun x h => f x (tX xs h)) := by
  cases o <;> rfl
theorem bn_t {xs : List Int32} {β : Type} {o : Option Hp} {f : Hp → Option β} : bn (o.map (tX xs)) f = bn o (fun h => f (tX xs h)) := by
  cases o <;> rfl
theorem mp_bd {α β γ : Type} {o : Option (α × Hp)} {f : α → Hp → Option β} {g : β → γ} : (bd o f).map g = bd o (fun x h => (f x h).map g) := by
  cases o <;> rfl
theorem mp_bn {α β γ : Type} {o : Option α} {f : α → Option β} {g : β → γ} : (bn o f).map g = bn o (fun x => (f x).map g) := by
  cases o <;> rfl
theorem mp_s {α β : Type} {x : α} {g : α → β} : (some x).map g = some (g x) := rfl
theorem hs_t {xs : List Int32} {a : Nat} {h : Hp} : F_hs_init a (tX xs h) = (F_hs_init a h).map (tX xs) := by
  unfold F_hs_init
  simp only [nA_t, nO_t, pR_t, pI_t, bd_t, bn_t, mp_bd, mp_bn, mp_s]
theorem tk_t {xs : List Int32} {a : Nat} {h : Hp} : F_tk_init a (tX xs h) = (F_tk_init a h).map (tX xs) := by
  unfold F_tk_init
  simp only [nA_t, nO_t, pR_t, pI_t, bd_t, bn_t, mp_bd, mp_bn, mp_s, hs_t]
theorem st_t {xs : List Int32} {a : Nat} {h : Hp} : F_st_init a (tX xs h) = (F_st_init a h).map (tX xs) := by
  unfold F_st_init
  simp only [nA_t, nO_t, pR_t, pI_t, bd_t, bn_t, mp_bd, mp_bn, mp_s, hs_t, tk_t]
theorem ra_t {xs : List Int32} {a : Nat} {h : Hp} : F_ra_init a (tX xs h) = (F_ra_init a h).map (tX xs) := by
  unfold F_ra_init
  simp only [nA_t, nO_t, pR_t, pI_t, bd_t, bn_t, mp_bd, mp_bn, mp_s, hs_t, tk_t, st_t]
theorem to_t {xs : List Int32} {a : Nat} {h : Hp} : F_to_init a (tX xs h) = (F_to_init a h).map (tX xs) := by
  unfold F_to_init
  simp only [nA_t, nO_t, pR_t, pI_t, bd_t, bn_t, mp_bd, mp_bn, mp_s, hs_t, tk_t, st_t, ra_t]
theorem rd_t {xs : List Int32} {a : Nat} {h : Hp} : F_rd_init a (tX xs h) = (F_rd_init a h).map (tX xs) := by
  unfold F_rd_init
  simp only [nA_t, nO_t, pR_t, pI_t, bd_t, bn_t, mp_bd, mp_bn, mp_s, hs_t, tk_t, st_t, ra_t, to_t]
theorem me_t {xs : List Int32} {a : Nat} {h : Hp} : F_me_init a (tX xs h) = (F_me_init a h).map (tX xs) := by
  unfold F_me_init
  simp only [nA_t, nO_t, pR_t, pI_t, bd_t, bn_t, mp_bd, mp_bn, mp_s, hs_t, tk_t, st_t, ra_t, to_t, rd_t]
theorem pl_t {xs : List Int32} {a : Nat} {h : Hp} : F_pl_init a (tX xs h) = (F_pl_init a h).map (tX xs) := by
  unfold F_pl_init
  simp only [nA_t, nO_t, pR_t, pI_t, bd_t, bn_t, mp_bd, mp_bn, mp_s, hs_t, tk_t, st_t, ra_t, to_t, rd_t, me_t]
theorem ho_t {xs : List Int32} {a : Nat} {h : Hp} : F_ho_init a (tX xs h) = (F_ho_init a h).map (tX xs) := by
  unfold F_ho_init
  simp only [nA_t, nO_t, pR_t, pI_t, bd_t, bn_t, mp_bd, mp_bn, mp_s, hs_t, tk_t, st_t, ra_t, to_t, rd_t, me_t, pl_t]
theorem gm_t {xs : List Int32} {a : Nat} {h : Hp} : F_gm_init a (tX xs h) = (F_gm_init a h).map (tX xs) := by
  unfold F_gm_init
  simp only [nA_t, nO_t, pR_t, pI_t, bd_t, bn_t, mp_bd, mp_bn, mp_s, hs_t, tk_t, st_t, ra_t, to_t, rd_t, me_t, pl_t, ho_t]
theorem mo_t {xs : List Int32} {a : Nat} {h : Hp} : F_mo_init a (tX xs h) = (F_mo_init a h).map (tX xs) := by
  unfold F_mo_init
  simp only [nA_t, nO_t, pR_t, pI_t, bd_t, bn_t, mp_bd, mp_bn, mp_s, hs_t, tk_t, st_t, ra_t, to_t, rd_t, me_t, pl_t, ho_t, gm_t]
theorem cs_t {xs : List Int32} {a : Nat} {h : Hp} : F_cs_init a (tX xs h) = (F_cs_init a h).map (tX xs) := by
  unfold F_cs_init
  simp only [nA_t, nO_t, pR_t, pI_t, bd_t, bn_t, mp_bd, mp_bn, mp_s, hs_t, tk_t, st_t, ra_t, to_t, rd_t, me_t, pl_t, ho_t, gm_t, mo_t]
theorem md_t {xs : List Int32} {a : Nat} {h : Hp} : F_md_init a (tX xs h) = (F_md_init a h).map (tX xs) := by
  unfold F_md_init
  simp only [nA_t, nO_t, pR_t, pI_t, bd_t, bn_t, mp_bd, mp_bn, mp_s, hs_t, tk_t, st_t, ra_t, to_t, rd_t, me_t, pl_t, ho_t, gm_t, mo_t, cs_t]
def iniP (h : Hp) : Option (Nat × Nat × Nat × Hp) := bd (nO h 11) fun x1 h2 => bn (F_cs_init x1 h2) fun h5 => bd (nO h5 13) fun x6 h7 => bn (F_md_init x6 h7) fun h10 => bd (nA h10 102 (1 : Int32)) fun x11 h12 => some (x1, x6, x11, h12)
theorem iniP_t {xs : List Int32} {h : Hp} : iniP (tX xs h) = (iniP h).map (fun q => (q.1, q.2.1, q.2.2.1, tX xs q.2.2.2)) := by
  unfold iniP
  simp only [nA_t, nO_t, pR_t, pI_t, bd_t, bn_t, mp_bd, mp_bn, mp_s, cs_t, md_t]
theorem h0_t (xs : List Int32) : h0 xs = tX xs (h0 []) := by
  have e : iA0 xs = (fun i => if i = 1000000 then xs else iA0 [] i) := by
    funext i
    unfold iA0
    by_cases c : i = 1000000
    · rw [if_pos c, if_pos c]
    · rw [if_neg c, if_neg c, if_neg c]
  show (kd0, _, _, _, iA0 xs, _, 0, 0) = _
  rw [e]
  rfl
theorem ini_ids : (iniP (h0 [])).map (fun q => (q.1, q.2.1, q.2.2.1)) = some (0, 88, 101) := by decide +kernel
def hini : Hp := match iniP (h0 []) with
  | some q => q.2.2.2
  | none => h0 []
theorem ini_e : iniP (h0 []) = some (0, 88, 101, hini) := by
  have q := ini_ids
  have e : hini = (match iniP (h0 []) with | some q => q.2.2.2 | none => h0 []) := rfl
  rw [e]
  cases c : iniP (h0 []) with
  | none => rw [c] at q; cases q
  | some w =>
    obtain ⟨x1, x2, x3, w⟩ := w
    rw [c] at q
    have q2 : (x1, x2, x3) = (0, 88, 101) := Option.some.inj q
    cases q2
    rfl
theorem ini_x (xs : List Int32) : iniP (h0 xs) = some (0, 88, 101, tX xs hini) := by
  rw [h0_t, iniP_t, ini_e]
  rfl
theorem ini_XS : XS hini := by
  unfold XS
  decide +kernel
theorem ini_ES : ES hini := by
  unfold ES
  decide +kernel
theorem ini_PS : PS hini := by
  unfold PS
  decide +kernel
theorem ini_HS : HS hini := by
  unfold HS
  decide +kernel
theorem ini_GS : GS hini := by
  unfold GS
  decide +kernel
theorem ini_OS : OS hini := by
  unfold OS
  decide +kernel
theorem ini_DS : DS hini := by
  unfold DS
  decide +kernel
theorem ini_MS : MS hini := by
  unfold MS
  decide +kernel
theorem ini_SS44 : SS 44 hini := by
  unfold SS
  decide +kernel
theorem ini_SS47 : SS 47 hini := by
  unfold SS
  decide +kernel
theorem ini_SS62 : SS 62 hini := by
  unfold SS
  decide +kernel
theorem ini_SS76 : SS 76 hini := by
  unfold SS
  decide +kernel
theorem ini_SS85 : SS 85 hini := by
  unfold SS
  decide +kernel
theorem ini_RS50 : RS 50 hini := by
  unfold RS
  decide +kernel
theorem ini_RS58 : RS 58 hini := by
  unfold RS
  decide +kernel
theorem ini_RS72 : RS 72 hini := by
  unfold RS
  decide +kernel
theorem ini_RS80 : RS 80 hini := by
  unfold RS
  decide +kernel
theorem ini_TS5 : TS 5 hini := by
  unfold TS
  decide +kernel
theorem ini_TS26 : TS 26 hini := by
  unfold TS
  decide +kernel
theorem ini_CR : CR hini := by
  unfold CR
  decide +kernel
theorem ini_r : fR hini 0 3 = some 26 ∧ fR hini 2 3 = some 5 ∧ fR hini 88 3 = none := by decide +kernel
theorem ini_XV : XV 26 hini := ⟨ini_XS, ini_r.1, ini_r.2.1, Or.inr rfl, ini_SS44, ini_SS47, ini_RS50, ini_ES, ini_PS, ini_RS58, ini_SS62, ini_HS, ini_RS72, ini_SS76, ini_GS, ini_RS80, ini_OS, ini_SS85, ini_DS, ini_TS5, ini_TS26, ini_CR⟩
theorem ini_f : (fI hini 26 0 = 0 ∧ fI hini 26 1 = 0 ∧ fI hini 26 5 = 0 ∧ fI hini 26 8 = 0 ∧ fI hini 26 11 = 0 ∧ fI hini 26 14 = 0 ∧ fI hini 38 0 = 0 ∧ fI hini 38 4 = 0 ∧ fI hini 26 2 = 0) ∧ (fI hini 44 2 = 0 ∧ fI hini 44 3 = 0 ∧ fI hini 44 4 = 0) ∧ (fI hini 54 2 = 0 ∧ fI hini 54 3 = 0 ∧ fI hini 54 4 = 0) ∧ (fI hini 0 1 = 0 ∧ fI hini 0 12 = 0 ∧ fI hini 2 0 = 0 ∧ fI hini 2 1 = 0) ∧ (fI hini 88 19 = 0 ∧ fI hini 88 20 = 0 ∧ fI hini 88 6 = 0 ∧ fI hini 88 1 = 0 ∧ fI hini 88 12 = 0 ∧ fI hini 88 2 = -1) := by decide +kernel
theorem ini_i : iA hini 28 = List.replicate 25 0 ∧ iA hini 45 = List.replicate 25 0 ∧ iA hini 90 = List.replicate 31 0 := by decide +kernel
theorem ini_c : cn hini = 102 ∧ wd hini ≤ 100000 ∧ kd hini 101 = 102 ∧ (lA hini 101).length = 1 ∧ kd hini 1000000 = 100 := by decide +kernel
theorem ini_W : WR hini := by
  unfold WR
  decide +kernel
def ab0 : Ab := (Lz0, fun _ => 0, fun _ _ => 0, 0, fun _ _ => 0, 0, fun _ => 0, 0, 0, 0, 0)
theorem fi_z {h : Hp} {a k : Nat} (e : fI h a k = 0) : fi h a k = 0 := by
  unfold fi
  rw [e]
  decide
theorem AW_0 : AW ab0 := by
  refine ⟨LW_z, ⟨⟨fun i _ _ => ?_, ?_, ?_, ?_, ?_, ?_, ?_⟩, ?_, fun g g0 g1 => absurd (show g < 0 from g1) (by omega)⟩, fun j hj => absurd (show j < 0 from hj) (by omega), fun j hj => absurd (show j < 0 from hj) (by omega), ?_, ?_, ?_, ?_, fun i => ?_⟩
  · show (0 : Int) ≤ 0 ∧ (0 : Int) ≤ 999; omega
  · intro i i0 i1
    intros
    rfl
  · intro g g0 g1
    exact absurd (show g < 0 from g1) (by omega)
  · show (0 : Int) ≤ 0; omega
  · show ((0 : Int)).toNat < 2 ^ rn Lz0
    exact Nat.pow_pos (by decide)
  · show (0 : Int) ≤ 0; omega
  · show (0 : Int) ≤ 65536; omega
  · show (0 : Int) ≤ 0 ∧ (0 : Int) ≤ 999; omega
  · show (0 : Int) ≤ 0 ∧ (0 : Int) ≤ 1000; omega
  · show (0 : Int) ≤ 0 ∧ (0 : Int) ≤ 6; omega
  · show (0 : Int) ≤ 0 ∧ (0 : Int) ≤ 6; omega
  · show (0 : Int) ≤ 0 ∧ (0 : Int) ≤ 1000; omega
  · show (-128 : Int) ≤ 0 ∧ (0 : Int) ≤ 127; omega
theorem NL_0 : NL ab0 := fun _ => ⟨fun _ _ => rfl, rfl, rfl, rfl, rfl⟩
theorem ini_CI : CI ab0 26 hini := by
  obtain ⟨⟨f1, f2, f3, f4, f5, f6, f7, f8, f9⟩, ⟨s1, s2, s3⟩, ⟨m1, m2, m3⟩, ⟨c1, c2, c3, c4⟩, _⟩ := ini_f
  refine ⟨ini_XV, ⟨⟨fi_z f1, fi_z f2, fi_z f3, fi_z f4, fi_z f5, fi_z f6, fi_z f7, fi_z f8⟩, ⟨0, fi_z f9, by omega, fun i hi => absurd (show (i : Int) < 0 from hi) (by omega)⟩, ?_, ?_, ?_, ?_, ?_, ?_, ?_, ?_⟩, ⟨?_, ?_, ?_, fi_z s2, fi_z s3⟩, ⟨by show 0 ≤ 16; omega, by show 0 ≤ 3; omega, fi_z m2, fi_z m3, fun j hj => absurd (show j < 0 from hj) (by omega), 0, by omega, fi_z m1, fun j hj => absurd (show j < 0 from hj) (by omega)⟩, fi_z c1, fi_z c2, fi_z c3, fi_z c4, fun i i0 i1 => absurd (show i < 0 from i1) (by omega)⟩
  · intro i i0 i1; exact absurd (show i < 0 from i1) (by omega)
  · intro i i0 i1; exact ia_rep ini_i.1
  · intro i i0 i1; exact absurd (show i < 0 from i1) (by omega)
  · intro i i0 i1; exact absurd (show i < 0 from i1) (by omega)
  · intro i i0 i1; exact absurd (show i < 0 from i1) (by omega)
  · intro i i0 i1; exact absurd (show i < 0 from i1) (by omega)
  · intro i i0 i1; exact absurd (show i < 0 from i1) (by omega)
  · intro i i0 i1; exact absurd (show i < 0 from i1) (by omega)
  · intro i i0 i1; exact ia_rep ini_i.2.1
  · intro i i0 i1; exact absurd (show i < 0 from i1) (by omega)
  · rw [fi_z s1]
    show (0 : Int) = 2 ^ rn Lz0 - 1 - 0
    have : rn Lz0 = 0 := rfl
    rw [this]
    decide
theorem ini_RI : RI ab0 hini := by
  obtain ⟨_, _, _, _, d1, d2, d3, d4, d5, d6⟩ := ini_f
  refine ⟨ini_MS, Or.inl ⟨rfl, ini_r.2.2, fun _ _ => rfl⟩, ?_, ⟨fi_z d1, fun j hj => absurd (show j < 0 from hj) (by omega)⟩, ⟨fi_z d2, fun j hj => absurd (show j < 0 from hj) (by omega)⟩, ⟨fi_z d3, fun i i0 i1 => absurd (show i < 0 from i1) (by omega)⟩, fi_z d4, fi_z d5, ?_, by show 0 ≤ 16; omega, by show 0 ≤ 3; omega⟩
  · intro i i0 i1; exact ia_rep ini_i.2.2
  · unfold fi
    rw [d6]
    show _ = (if (0 : Int) = 4 then (0 : Int) else -1)
    decide
