/-! cells that come; constants; the step as a whole -/
theorem cty_ne : ∀ l ∈ cty, ∀ t ∈ l, tk t ≠ 0 := by decide +kernel
section STEP2
variable {G : Gx} {p : Program} {l : Launch} {e : Env} {R : Room} {s : State} {mid : MethodId} {args : Array Value} {below : List Frame} {meth : Method} {c : Code} {Q : State → Prop} {m : MI} {k0 w0 : Nat}
theorem kd_mkA (h : Hp) (kk n i : Nat) : kd (mkA h kk n) i = if i = cn h then kk else kd h i := rfl
theorem kd_mkO (h : Hp) (ci n i : Nat) : kd (mkO h ci n) i = if i = cn h then ci else kd h i := rfl
theorem HR_push {h h' : Hp} {H H1 : Heap} {kk : Nat} (hH : HR G h H) (hlt : cn h < 900000) (hz : H1.size = H.size + 1) (hkp : ∀ q, q < H.size → H1[q]? = H[q]?) (hc : cn h' = cn h + 1) (hkd : ∀ i, kd h' i = if i = cn h then kk else kd h i) (h50 : kk ≠ 50) (ho : ∀ i, i < cn h → ce G h' i = ce G h i) (ha : ∀ e, ce G h' (cn h) = some e → va_at (gD G) vwCl (gN G + cn h, e) H1) : HR G h' H1 := by
  obtain ⟨z1, z2, z3, z5, z4⟩ := hH
  refine ⟨by rw [hz, hc, z1]; omega, by rw [hc]; omega, fun i hi hl => ?_, fun i hi => ?_, ws_push z4 z1 hkp hc ho ha⟩
  · rw [hkd, if_neg (by omega)]; exact z3 i (by omega) hl
  · rw [hkd]
    by_cases e1 : i = cn h
    · rw [if_pos e1]; exact h50
    · rw [if_neg e1]; exact z5 i hi
theorem RO_push {h h' : Hp} (hO : RO G h) (hlt : cn h < 900000) (hh : ∀ i, i ≠ cn h → kd h' i = kd h i ∧ fI h' i = fI h i ∧ fR h' i = fR h i ∧ iA h' i = iA h i) : RO G h' := by
  intro i hi
  obtain ⟨e1, e2, e3, e4⟩ := hh i (by omega)
  obtain ⟨o1, o2, o3, o4⟩ := hO i hi
  exact ⟨e1.trans o1, e2.trans o2, e3.trans o3, e4.trans o4⟩
theorem mkA_off (h : Hp) (kk n i : Nat) (hi : i ≠ cn h) : kd (mkA h kk n) i = kd h i ∧ fI (mkA h kk n) i = fI h i ∧ fL (mkA h kk n) i = fL h i ∧ fR (mkA h kk n) i = fR h i ∧ iA (mkA h kk n) i = iA h i ∧ lA (mkA h kk n) i = lA h i := by
  refine ⟨by rw [kd_mkA, if_neg hi], rfl, rfl, rfl, ?_, ?_⟩
  · show up1 (iA h) (cn h) _ i = _; unfold up1; rw [if_neg hi]
  · show up1 (lA h) (cn h) _ i = _; unfold up1; rw [if_neg hi]
theorem mkO_off (h : Hp) (ci n i : Nat) (hi : i ≠ cn h) : kd (mkO h ci n) i = kd h i ∧ fI (mkO h ci n) i = fI h i ∧ fL (mkO h ci n) i = fL h i ∧ fR (mkO h ci n) i = fR h i ∧ iA (mkO h ci n) i = iA h i ∧ lA (mkO h ci n) i = lA h i := by
  refine ⟨by rw [kd_mkO, if_neg hi], ?_, ?_, ?_, rfl, rfl⟩
  · funext y; show zr (fI h) (cn h) 0 i y = _; unfold zr; rw [if_neg hi]
  · funext y; show zr (fL h) (cn h) 0 i y = _; unfold zr; rw [if_neg hi]
  · funext y; show zr (fR h) (cn h) none i y = _; unfold zr; rw [if_neg hi]
theorem st_newa (C : Cx G p s mid args meth c m) {pc kk : Nat} {ty : ArrayType} {t0 : Nat} {fty : FieldType} {cA0 : ClassId} {ls r : List Value} {h : Hp} {n : Int32} {q : Nat × Hp} (hty : newarray.typeOf ty = fty) (harr : Cond.arrayClass fty ∈ tw) (htys : (tysx G)[t0]? = some (cA0, fty)) (hkk : kk ≠ 50) (hby : componentBytes fty ≤ 8) (hnm : ∀ U : State, va_RA U cA0 fty → U.vm.findClass ("[" ++ fty.toString) = some cA0)
    (hat : ∀ (H1 : Heap) (e : va_E), ce G (mkA h kk n.toNatClampNeg) (cn h) = some e → H1[gN G + cn h]? = some (arrV cA0 n.toNatClampNeg (fun _ => defaultValue fty)) → va_at (gD G) vwCl (gN G + cn h, e) H1)
    (hg : nA h kk n = some q) (hd : decode (mi_cc m) pc = .ok (.newarray ty, 2)) (hcap : cn q.2 ≤ k0 + R.cells ∧ wd q.2 ≤ w0 + R.slots) (K : WW G p l e R s mid args below meth c Q m k0 w0 (pc + 2, ls, .ref q.1 :: r, q.2)) : WW G p l e R s mid args below meth c Q m k0 w0 (pc, ls, .int n :: r, h) := by
  intro L H locs cells slots hl hH hO hS hc hw
  have hc : cn h = k0 + cells := hc
  have hw : wd h = w0 + slots := hw
  have hH : HR G h H := hH
  have hO : RO G h := hO
  unfold nA at hg
  split at hg
  next hcn =>
    obtain ⟨h1, h2, h3⟩ := hcn
    cases hg
    have hsz : H.size = gN G + cn h := hH.1
    have e1 : cn (mkA h kk n.toNatClampNeg) = cn h + 1 := rfl
    have e2 : wd (mkA h kk n.toNatClampNeg) = wd h + n.toNatClampNeg := rfl
    rw [e1, e2] at hcap
    refine va_newaK (atype := ty) C.1 C.2.1 (by rw [hty]; exact cx_t C _ harr) (g := F0 mid pc L ((Value.int n :: r).map (vz G))) rfl hd (n := n) (rest := r.map (vz G)) rfl h1 rfl (by rw [hty]; exact Nat.le_trans (Nat.mul_le_mul h2 hby) (by decide)) (by omega) (by omega) hsz (fun H1 cA hc1 hz1 ho1 hAr hNm => ?_)
    rw [hty] at hc1 hAr hNm
    have hcA : cA = cA0 := by
      have := hnm s ((cx_K C).2 t0 _ htys).2
      exact Option.some.inj (hNm.symm.trans this)
    subst hcA
    have hH1 : HR G (mkA h kk n.toNatClampNeg) H1 := HR_push hH h3 (by rw [hz1, hsz]) (fun q hq => ho1 q (by rw [← hsz]; exact hq)) e1 (kd_mkA h kk _) hkk (fun i hi => by
      obtain ⟨a1, a2, a3, a4, a5, a6⟩ := mkA_off h kk n.toNatClampNeg i (by omega)
      exact ce_of a1 a2 a3 a4 a5 a6) (fun e he => hat H1 e he hc1)
    have hO1 : RO G (mkA h kk n.toNatClampNeg) := RO_push hO h3 (fun i hi => by
      obtain ⟨a1, a2, a3, a4, a5, a6⟩ := mkA_off h kk n.toNatClampNeg i hi
      exact ⟨a1, a2, a4, a5⟩)
    have hS1 : va_S (gA G) s.heap H1 locs := ⟨Nat.le_trans hS.1 (by rw [hz1, hsz]; omega), fun q hq hA => by rw [ho1 q (by rw [← hsz]; exact Nat.lt_of_lt_of_le hq hS.1)]; exact hS.2.1 q hq hA, hS.2.2⟩
    have k1 := K L H1 locs (cells + 1) (slots + n.toNatClampNeg) hl hH1 hO1 hS1 (by show cn h + 1 = _; omega) (by show wd h + n.toNatClampNeg = _; omega)
    have had : gN G + cn h = ad G (cn h) := ad_lo (by omega)
    rw [had]
    exact k1
  next => cases hg
theorem fval_mkO (h : Hp) (ci n j : Nat) : fval (mkO h ci n) ci (cn h) j = match ftk ci j with | 1 => .int 0 | 2 => .long 0 | 3 => .null | 4 => .int 0 | 5 => .int 0 | _ => .null := by
  have e1 : fI (mkO h ci n) (cn h) j = 0 := by show zr (fI h) (cn h) 0 (cn h) j = 0; unfold zr; rw [if_pos rfl]
  have e2 : fL (mkO h ci n) (cn h) j = 0 := by show zr (fL h) (cn h) 0 (cn h) j = 0; unfold zr; rw [if_pos rfl]
  have e3 : fR (mkO h ci n) (cn h) j = none := by show zr (fR h) (cn h) none (cn h) j = none; unfold zr; rw [if_pos rfl]
  unfold fval
  rw [e1, e2, e3]
  rfl
theorem dflt_v (ty : FieldType) (h : tk ty ≠ 0) : defaultValue ty = match tk ty with | 1 => .int 0 | 2 => .long 0 | 3 => .null | 4 => .int 0 | 5 => .int 0 | _ => .null := by
  cases ty <;> first | rfl | exact absurd rfl h
theorem st_new (C : Cx G p s mid args meth c m) {pc k ci : Nat} {is : List Nat} {ls st : List Value} {h : Hp} {q : Nat × Hp} (h60 : ¬ ci = 60) (hok : okNw (mi_own m) k ci is = true) (hg : nO h ci = some q) (hd : decode (mi_cc m) pc = .ok (.new k, 3)) (hcap : cn q.2 ≤ k0 + R.cells ∧ wd q.2 ≤ w0 + R.slots) (K : WW G p l e R s mid args below meth c Q m k0 w0 (pc + 3, ls, .ref q.1 :: st, q.2)) : WW G p l e R s mid args below meth c Q m k0 w0 (pc, ls, st, h) := by
  intro L H locs cells slots hl hH hO hS hc hw
  have hc : cn h = k0 + cells := hc
  have hw : wd h = w0 + slots := hw
  have hH : HR G h H := hH
  have hO : RO G h := hO
  unfold nO at hg
  split at hg
  next h3 =>
    obtain ⟨tl, htl, rfl⟩ := om_s hg
    unfold okNw at hok
    rw [if_neg h60] at hok
    cases hr : vwCl[ci]? with
    | none => rw [hr] at hok; simp only at hok; cases hok
    | some r =>
      rw [hr] at hok
      match is, hok with
      | [i1, i2, i3], hok =>
        simp only [Bool.and_eq_true] at hok
        obtain ⟨⟨w1, w2⟩, w3⟩ := hok
        obtain ⟨CC, T, N⟩ := r
        obtain ⟨hc14, hV1, hV2, ty, hty, hct⟩ := vk_all hr
        have hN : tl.length = N := by
          rw [htl] at hct
          rw [Option.some.inj hct]
          simp
        have hnf : nf ci = N := by unfold nf; rw [hr]
        have hsz : H.size = gN G + cn h := hH.1
        have e1 : cn (mkO h ci tl.length) = cn h + 1 := rfl
        have e2 : wd (mkO h ci tl.length) = wd h + tl.length := rfl
        have hcap : cn h + 1 ≤ k0 + R.cells ∧ wd h + tl.length ≤ w0 + R.slots := hcap
        rw [hN] at hcap
        have hKn := (cx_K C).1 ci _ hr
        refine W.newcK C.1 C.2.1 (cx_o C) (cx_t C _ (wat_s w1)) (cx_t C _ (wat_s w2)) (cx_t C _ (wat_s w3)) (g := F0 mid pc L (st.map (vz G))) rfl hd (by omega) (by show slots + N ≤ _; omega) hKn.2.1 hsz (fun H1 kC hkC hc1 hz1 ho1 => ?_)
        have hH1 : HR G (mkO h ci tl.length) H1 := HR_push hH h3 (by rw [hz1, hsz]) (fun q hq => ho1 q (by rw [← hsz]; exact hq)) e1 (kd_mkO h ci _) (by omega) (fun i hi => by
          obtain ⟨a1, a2, a3, a4, a5, a6⟩ := mkO_off h ci tl.length i (by omega)
          exact ce_of a1 a2 a3 a4 a5 a6) (fun e he => by
          rw [ce_o (by rw [kd_mkO, if_pos rfl]) hc14] at he
          cases he
          refine ⟨_, hr, (u_born ty (cx_t C) hV1 hKn hkC hc1 hty).to (fun j hj => ?_)⟩
          have hft : ftk ci j = tk (ty j) := cty_ftk (by omega) hct hj
          unfold vp_V
          rw [List.getD_eq_getElem?_getD, fls_get (by rw [hnf]; exact hj), fval_mkO, hft]
          have hne : tk (ty j) ≠ 0 := cty_ne _ (List.mem_of_getElem? hct) _ (List.mem_map.mpr ⟨j, List.mem_range.mpr hj, rfl⟩)
          rw [dflt_v _ hne]
          cases ty j <;> first | rfl | exact absurd rfl hne)
        have hO1 : RO G (mkO h ci tl.length) := RO_push hO h3 (fun i hi => by
          obtain ⟨a1, a2, a3, a4, a5, a6⟩ := mkO_off h ci tl.length i hi
          exact ⟨a1, a2, a4, a5⟩)
        have hS1 : va_S (gA G) s.heap H1 locs := ⟨Nat.le_trans hS.1 (by rw [hz1, hsz]; omega), fun q hq hA => by rw [ho1 q (by rw [← hsz]; exact Nat.lt_of_lt_of_le hq hS.1)]; exact hS.2.1 q hq hA, hS.2.2⟩
        have k1 := K L H1 locs (cells + 1) (slots + N) hl hH1 hO1 hS1 (by show cn h + 1 = _; omega) (by show wd h + tl.length = _; omega)
        have had : gN G + cn h = ad G (cn h) := ad_lo (by omega)
        rw [had]
        exact k1
  next => cases hg
theorem ldcwS (C : Cx G p s mid args meth c m) {H : Heap} {locs : List Loc} {cells slots : Nat} {pc index q : Nat} {tx : String} {L : Array Slot} {rest : List Value} (hZ : vk_R (mi_own m) index tx q s) (hdg : decode (mi_cc m) pc = .ok (.ldc_w index, 3))
    (k : W p l e R s mid args below meth c H locs cells slots Q (F0 mid (pc + 3) L (.ref q :: rest))) : W p l e R s mid args below meth c H locs cells slots Q (F0 mid pc L rest) := by
  intro T hT X
  obtain ⟨t, a1, b1⟩ := k T hT X
  refine ⟨t, ?_, b1⟩
  obtain ⟨k, cf, i, a', hk, hcf, hcp, -, hr, hev'⟩ := Cond.stringRef_spec (args := #[]) (cx_o C) hZ.1
  cases hZ.2.symm.trans hev'
  obtain ⟨k', hk', he⟩ := X.warmed.alike.2.2 _ _ hk
  have hr' : k'.resolved[index]? = some (some (.string q)) := by
    rcases X.warmed.entry hk hk' index with h | ⟨h, -⟩
    · rw [h]; exact hr
    · rw [hr] at h; cases h
  have hexec := C.1
  have hb := C.2.1
  jvm_step X.here [hexec, hb, hdg, ldc_w.wp_string (e := e) (s := T) (f := F0 mid pc L rest) X.here.top hk' (by rw [he]; exact hcf) hcp hr']
  exact a1
end STEP2
