/-! the abstract machine's runs are the machine's -/
theorem met_ofW {l : Launch} {y : MethodName} {ws ws' : List Cond} {rm : Room} {Pc : Array Value → State → Prop} {Qc : Array Value → State → Outcome → State → Prop} {mc ms : Nat} {free : Addr → Prop} {cc : ByteArray} {maxL : Nat} {ret : Option FieldType}
    (hy : plainFor y = true) (hw : ws = Cond.code y cc maxL ret :: ws')
    (body : ∀ p e s m args below meth c s₁, BodyLoose p l y (headSpec ws rm) cc maxL ret e s m args below meth c s₁ → c.maxLocals = maxL → Pc args s →
      W p l e (headSpec ws rm).room s m args below meth c s.heap [] 0 0 (MQ below Qc args s mc ms free) (entryFrame m args maxL)) : Met l y ws rm Pc Qc mc ms free := by
  refine MetFree.of_bodySF (code := cc) (maxLocals := maxL) (ret := ret) hy ?_ ?_
  · intro args s m h hn
    obtain ⟨meth, c, h1, h2, h3, h4, h5, h6, -, -⟩ := Cond.code_spec hn (atoms_spec (ws := ws) h _ (by rw [hw]; exact List.mem_cons_self))
    exact ⟨meth, c, h1, h2, h3, h4, h5, h6⟩
  · intro p e s m args below meth c s₁ B hml hP _
    have hh0 : s₁.heap = s.heap := by rw [B.state]; rfl
    obtain ⟨t, a1, o, b1, b2, b3⟩ := body p e s m args below meth c s₁ B hml hP s₁ hh0 (Stand.of_body B)
    exact ⟨t, o, a1, b1, b2, ⟨b3.1, b3.2⟩⟩
/-! the locals with which a method begins -/
def fl1 (as : List Value) : List Value := as.flatMap (fun v => if v.category = 2 then [v, unk] else [v])
theorem ini_eq (mx : Nat) (as : List Value) : ini mx as = fl1 as ++ List.replicate (mx - (fl1 as).length) unk := rfl
theorem fl1_cons (v : Value) (as : List Value) : fl1 (v :: as) = (if v.category = 2 then [v, unk] else [v]) ++ fl1 as := by unfold fl1; simp
theorem fl1_len {G : Gx} (hw : (gw G).category = 1) (as : List Value) : (lg_sl (as.map (vz G))).length = (fl1 as).length := by
  induction as with
  | nil => rfl
  | cons v t ih =>
    rw [fl1_cons]
    unfold lg_sl at ih ⊢
    simp only [List.map_cons, List.flatMap_cons, List.length_append, ih]
    rw [vz_cat hw]
    split <;> rfl
theorem fl1_args {G : Gx} (hw : (gw G).category = 1) (as : List Value) : ∀ (i0 i : Nat) (v : Value), (fl1 as)[i]? = some v → v ≠ unk → (i0 + i, vz G v) ∈ lv_args i0 (as.map (vz G)) := by
  induction as with
  | nil => intro i0 i v h; cases h
  | cons a t ih =>
    intro i0 i v h hu
    rw [fl1_cons] at h
    simp only [List.map_cons, lv_args]
    rw [vz_cat hw]
    by_cases hc : a.category = 2
    · rw [if_pos hc] at h ⊢
      match i, h with
      | 0, h => cases h; exact List.mem_cons_self
      | 1, h => cases h; exact absurd rfl hu
      | i + 2, h =>
        have := ih (i0 + 2) i v h hu
        rw [show i0 + 2 + i = i0 + (i + 2) by omega] at this
        exact List.mem_cons_of_mem _ this
    · rw [if_neg hc] at h ⊢
      match i, h with
      | 0, h => cases h; exact List.mem_cons_self
      | i + 1, h =>
        have := ih (i0 + 1) i v h hu
        rw [show i0 + 1 + i = i0 + (i + 1) by omega] at this
        exact List.mem_cons_of_mem _ this
theorem ini_lvr {G : Gx} (hw : (gw G).category = 1) {mx : Nat} {as : List Value} (hl : (ini mx as).length = mx) : lvr G ((lg_sl (as.map (vz G)) ++ List.replicate (mx - (lg_sl (as.map (vz G))).length) Slot.unset).toArray) mx (ini mx as) := by
  have hle : (fl1 as).length ≤ mx := by
    rw [ini_eq] at hl
    simp at hl
    omega
  have he := lv_entry (as.map (vz G)) (n := mx) (by rw [fl1_len hw]; exact hle)
  refine ⟨he.1, he.2.1, hl, fun i v hv hu => ?_⟩
  rw [ini_eq] at hv
  by_cases hi : i < (fl1 as).length
  · rw [List.getElem?_append_left hi] at hv
    have := fl1_args hw as 0 i v hv hu
    rw [Nat.zero_add] at this
    exact he.2.2 _ this
  · rw [List.getElem?_append_right (by omega)] at hv
    have := List.eq_of_mem_replicate (List.mem_of_getElem? hv)
    exact absurd this hu
/-! contracts -/
def QcR (G : Gx) (rv : Option Value) (hf : Hp) : Array Value → State → Outcome → State → Prop := fun _ st o t => o = .returned (rv.map (vz G)) ∧ HR G hf t.heap ∧ RO G hf ∧ va_F (gA G) st t
def PcR (G : Gx) (as : List Value) (h : Hp) : Array Value → State → Prop := va_Pc (as.map (vz G)) (fun U => FX G U ∧ HR G h U.heap ∧ RO G h)
def rmR (d mc ms : Nat) : Room := { frames := d + 12, cells := mc, slots := ms, locals := 64 * (d + 12) }
def wsR (mq : MI) : List Cond := Cond.code (mi_y mq) (mi_cc mq) (mi_mx mq) (mi_rt mq) :: tw
def MetR (G : Gx) (l : Launch) (d : Nat) (mq : MI) (as : List Value) (h : Hp) (rv : Option Value) (hf : Hp) : Prop := Met l (mi_y mq) (wsR mq) (rmR d (cn hf - cn h) (wd hf - wd h)) (PcR G as h) (QcR G rv hf) (cn hf - cn h) (wd hf - wd h) (gA G)
theorem PcR_blind (G : Gx) (as : List Value) (h : Hp) : FrameBlind (PcR G as h) := by
  intro a U g mk hp
  obtain ⟨h1, h2, h3, h4⟩ := hp
  exact ⟨h1, FX_same h2 rfl rfl, h3, h4⟩
theorem gi_tw {ws : List Cond} (h : ∀ w ∈ ws, w ∈ tw) : GoodIn tw ws := fun w hw => ⟨h w hw, good_of_word (List.mem_filter.mp (h w hw)).2⟩
def RetAt (m : MI) (pc : Nat) (r : Option Value) : Prop := (∃ v, r = some (.int v) ∧ decode (mi_cc m) pc = .ok (.ireturn, 1) ∧ (mi_rt m).any (fun t => retV t v) = true) ∨ (∃ v, r = some (.long v) ∧ decode (mi_cc m) pc = .ok (.lreturn, 1) ∧ mi_rt m = some .long) ∨ (∃ v, r = some (.ref v) ∧ decode (mi_cc m) pc = .ok (.areturn, 1) ∧ (mi_rt m).any (fun t => tk t == 3) = true) ∨ (r = none ∧ decode (mi_cc m) pc = .ok (.return_, 1) ∧ mi_rt m = none)
section SOUND
variable {G : Gx} {p : Program} {l : Launch} {e : Env} {R : Room} {s : State} {mid : MethodId} {args : Array Value} {below : List Frame} {meth : Method} {c : Code} {Q : State → Prop} {m : MI} {k0 w0 : Nat}
/-- the walk's end by a return -/
def RW (G : Gx) (p : Program) (l : Launch) (e : Env) (R : Room) (s : State) (mid : MethodId) (args : Array Value) (below : List Frame) (meth : Method) (c : Code) (Q : State → Prop) (m : MI) (k0 w0 : Nat) (r : Option Value) (hf : Hp) : Prop := ∀ (pc : Nat) (L : Array Slot) (H : Heap) (locs : List Loc) (cells slots : Nat), RetAt m pc r → HR G hf H → RO G hf → va_S (gA G) s.heap H locs → cn hf = k0 + cells → wd hf = w0 + slots → W p l e R s mid args below meth c H locs cells slots Q (F0 mid pc L (r.toList.map (vz G)))
/-- the walk's end by a throw -/
def TW (G : Gx) (p : Program) (l : Launch) (e : Env) (R : Room) (s : State) (mid : MethodId) (args : Array Value) (below : List Frame) (meth : Method) (c : Code) (Q : State → Prop) (m : MI) (k0 w0 : Nat) (r : Option Value) (hf : Hp) : Prop := r = some (.retAddr 1) → ∀ (pc k : Nat) (h2 : Hp) (L : Array Slot) (H : Heap) (locs : List Loc) (cells slots : Nat), L.size = mi_mx m → lk (mi_nl m) k = some 60 → (∃ len ks, lk (mi_ins m) pc = some (.new k, len, ks)) → decode (mi_cc m) pc = .ok (.new k, 3) → hf = mkX h2 6 → cn h2 < 900000 → HR G h2 H → RO G h2 → va_S (gA G) s.heap H locs → cn h2 = k0 + cells → wd h2 = w0 + slots → W p l e R s mid args below meth c H locs cells slots Q (F0 mid pc L [])
theorem narrow_r {t : FieldType} {v : Int32} (h : retV t v = true) : narrow t (.int v) = .int v := by
  cases t <;> first | (cases h; done) | rfl | (unfold retV at h; simp only [decide_eq_true_eq] at h; show Value.int _ = _; rw [h]; done) | (unfold retV isB at h; simp only [Bool.or_eq_true, beq_iff_eq] at h; rcases h with rfl | rfl <;> rfl)
theorem any_s {α : Type} {o : Option α} {f : α → Bool} (h : o.any f = true) : ∃ x, o = some x ∧ f x = true := by
  cases o with
  | none => cases h
  | some x => exact ⟨x, rfl, h⟩
/-- a method's own return, in its contract -/
theorem RW_met {as : List Value} {h hf : Hp} {r : Option Value} (C : Cx G p s mid args meth c m) (hH0 : s.heap.size = gN G + cn h) : RW G p l e R s mid args below meth c (MQ below (QcR G r hf) args s (cn hf - cn h) (wd hf - wd h) (gA G)) m (cn h) (wd h) r hf := by
  intro pc L H locs cells slots hr hH hO hS hc hw
  have e1 : cells = cn hf - cn h := by omega
  have e2 : slots = wd hf - wd h := by omega
  rw [← e1, ← e2]
  have hlocks := C.2.2.2.2.2.2.1
  have hq : ∀ (t : State) (rv : Option Value), rv = r.map (vz G) → t.heap = H → s.WarmedH t.vm → QcR G r hf args s (.returned rv) t := fun t rv hrv ht _ => ⟨by rw [hrv], by rw [ht]; exact hH, hO, hS.F ht⟩
  rcases hr with ⟨v, rfl, hd, hv⟩ | ⟨v, rfl, hd, hv⟩ | ⟨v, rfl, hd, hv⟩ | ⟨rfl, hd, hv⟩
  · obtain ⟨t, ht, hv⟩ := any_s hv
    exact W.zret C.1 C.2.1 (C.2.2.1.trans ht) (narrow_r hv) (fun t ht hW => hq t _ rfl ht hW) hS.2.2 hd hlocks
  · exact W.lret C.1 C.2.1 (C.2.2.1.trans hv) (fun t ht hW => hq t _ rfl ht hW) hS.2.2 hd hlocks
  · obtain ⟨t, ht, hv⟩ := any_s hv
    refine W.aret C.1 C.2.1 (C.2.2.1.trans ht) ?_ (Or.inr ⟨_, rfl⟩) (fun t ht hW => hq t _ rfl ht hW) hS.2.2 hd hlocks
    cases t <;> first | (cases hv; done) | exact Or.inl ⟨_, rfl⟩ | exact Or.inr ⟨_, rfl⟩
  · exact W.vret C.1 C.2.1 (C.2.2.1.trans hv) (fun t ht hW => hq t _ rfl ht hW) hS.2.2 hd hlocks
/-- behind a call -/
theorem call_end {h hf : Hp} {rv : Option Value} {pc : Nat} {ls rest st0 : List Value} {L : Array Slot} {H : Heap} {locs : List Loc} {cells slots : Nat} {a : Array Value} (hmono : cn h ≤ cn hf ∧ wd h ≤ wd hf) (hl : lvr G L (mi_mx m) ls) (hS : va_S (gA G) s.heap H locs) (hc : cn h = k0 + cells) (hw : wd h = w0 + slots) (K : WW G p l e R s mid args below meth c Q m k0 w0 (pc + 3, ls, rv.toList ++ rest, hf))
    (hr : va_Run p l e R s mid args below meth c H locs cells slots (cn hf - cn h) (wd hf - wd h) (F0 mid pc L st0) (rest.map (vz G)) (QcR G rv hf a) (gA G)) : W p l e R s mid args below meth c H locs cells slots Q (F0 mid pc L st0) := by
  intro T hT X
  obtain ⟨v, st₀, t, T', L2, h0, X', hL, e1, e2, ⟨hv, hH1, hO1, hF⟩, st⟩ := hr T hT X
  have hv : v = rv.map (vz G) := by cases hv; rfl
  have k1 := K L T'.heap (locs ++ L2) (cells + (cn hf - cn h)) (slots + (wd hf - wd h)) hl (by rw [e1]; exact hH1) hO1 ⟨Nat.le_trans hS.1 (by rw [e1]; have := hF.1; rw [h0] at this; exact this), fun q hq hA => by
      rw [e1, hF.2 q (by rw [h0]; exact Nat.lt_of_lt_of_le hq hS.1) hA, h0]
      exact hS.2.1 q hq hA, fun q hq => by
      rcases List.mem_append.mp hq with z | z
      · exact hS.2.2 q z
      · exact hL q z⟩ (by show cn hf = _; omega) (by show wd hf = _; omega)
  obtain ⟨t2, a1, b1⟩ := k1 T' rfl X'
  refine ⟨t2, st t2 ?_, b1⟩
  have es : v.toList ++ rest.map (vz G) = (rv.toList ++ rest).map (vz G) := by
    rw [hv]
    cases rv <;> simp
  rw [es]
  exact a1
theorem take_one {st : List Value} {np : Nat} {v : Value} (h0 : 0 < np) (hv : st[np - 1]? = some v) : st.take np = st.take (np - 1) ++ [v] ∧ st = st.take (np - 1) ++ v :: st.drop np := by
  obtain ⟨k, rfl⟩ : ∃ k, np = k + 1 := ⟨np - 1, by omega⟩
  rw [Nat.add_sub_cancel] at hv ⊢
  have hlt := (List.getElem?_eq_some_iff.mp hv).1
  have e1 : st.take (k + 1) = st.take k ++ [v] := by
    rw [List.take_add_one, hv]; rfl
  refine ⟨e1, ?_⟩
  have e2 := List.take_append_drop (k + 1) st
  rw [e1] at e2
  rw [List.append_assoc] at e2
  exact e2.symm
theorem st_call (C : Cx G p s mid args meth c m) {d : Nat} (hR : d + 1 + 12 ≤ R.frames ∧ 64 * (d + 1 + 12) ≤ R.locals) {X : Xw} {i : Instr} {len pc kq pc2 : Nat} {ls st as ls2 rest : List Value} {h hf : Hp} {rv : Option Value} {mq : MI} (hok : okL m X i = true) (hd : decode (mi_cc m) pc = .ok (i, ilen i len)) (ha : act2 P m i pc ls st h = some (.inr (.inr (kq, as, pc2, ls2, rest)))) (hP : P[kq]? = some mq) (hk2 : 2 ≤ kq) (hM : MetR G l d mq as h rv hf) (hmono : cn h ≤ cn hf ∧ wd h ≤ wd hf) (hcap : cn hf ≤ k0 + R.cells ∧ wd hf ≤ w0 + R.slots) (K : WW G p l e R s mid args below meth c Q m k0 w0 (pc2, ls2, rv.toList ++ rest, hf)) : WW G p l e R s mid args below meth c Q m k0 w0 (pc, ls, st, h) := by
  intro L H locs cells slots hl hH hO hS hc hw
  replace hc : cn h = k0 + cells := hc
  replace hw : wd h = w0 + slots := hw
  replace hH : HR G h H := hH
  replace hO : RO G h := hO
  obtain ⟨hcode, -⟩ := P_cd hP hk2
  have hfit : cells + (cn hf - cn h) ≤ R.cells ∧ slots + (wd hf - wd h) ≤ R.slots := by omega
  have hws : ∀ w ∈ wsR mq, w ∈ tw := fun w hw => by
    rcases List.mem_cons.mp hw with rfl | hw
    · exact hcode
    · exact hw
  have hpre : ∀ (As : List Value), As = as.map (vz G) → ∀ U : State, U.heap = H → s.WarmedH U.vm → PcR G as h As.toArray U := fun As hAs U hU hW => ⟨by rw [hAs], FX_moved (cx_F C) hS hU hW, by rw [hU]; exact hH, hO⟩
  rcases call_inv ha with ⟨k, q, mq', rfl, hq, hqk, hm, hisC, h0, hlt, hcal⟩ | ⟨k, q, mq', rfl, hq, hqk, hn0, hm, hisR, h0, hw2, hcal⟩ | ⟨k, q, mq', rfl, hq, hqk, hn0, hm, hw2, hcal⟩
  · have emq : mq' = mq := by rw [hqk, hP] at hm; exact (Option.some.inj hm).symm
    subst emq
    obtain ⟨c1, c2, c3, rfl, rfl, c6⟩ := hcal
    unfold isC at hisC
    split at hisC
    next b hb =>
      have hkb : kd h b = q.2 := Nat.eq_of_beq_eq_true hisC
      obtain ⟨t1, t2⟩ := take_one h0 hb
      replace hok : (match lk (mi_ml m) k, lk X.2.1 k with | some q, some w => okV (mi_own m) k q.1 q.2 w | none, _ => true | _, _ => false) = true := hok
      rw [hq] at hok
      cases hX : lk X.2.1 k with
      | none => rw [hX] at hok; cases hok
      | some w =>
        rw [hX] at hok
        replace hok : okV (mi_own m) k q.1 q.2 w = true := hok
        unfold okV at hok
        rw [hm] at hok
        match w, hok with
        | [i1, i2, i3, i4, i5], hok =>
          simp only [Bool.and_eq_true, decide_eq_true_eq] at hok
          obtain ⟨⟨⟨⟨⟨⟨⟨hy, hnp⟩, w1⟩, w2⟩, w3⟩, w4⟩, hcl⟩, hw14⟩ := hok
          unfold okY at hy
          simp only [Bool.and_eq_true, decide_eq_true_eq] at hy
          obtain ⟨⟨⟨hmx, hy1⟩, hy2⟩, hown⟩ := hy
          have eas : as = .ref b :: (st.take (mi_np mq' - 1)).reverse := by rw [c3, t1]; simp
          have cw := cwV (R := R) (s := s) (args := args) (own := mi_own m) (C := cnm q.2) (index := k) (y := mi_y mq') (bytes := mi_cc mq') (maxL := mi_mx mq') (ret := mi_rt mq') (ws := wsR mq') (rm := rmR d (cn hf - cn h) (wd hf - wd h)) (mi_np mq' - 1) (cx_t C) (gi_tw (fun w hw => by
            unfold wsV at hw
            rcases List.mem_append.mp hw with z | z
            · simp only [List.mem_cons, List.not_mem_nil, or_false] at z
              rcases z with rfl | rfl | rfl | rfl
              · exact wat_s w1
              · exact wat_s w2
              · exact wat_s w3
              · exact wat_s w4
            · exact hws w z)) rfl rfl rfl ⟨hcl, hy1, hy2, hnp⟩ ⟨by show d + 12 + 1 ≤ _; omega, by show 8 + (mi_mx mq' + 11) + 64 * (d + 12) ≤ _; omega⟩
          have hrecv : ∃ cellB : Cell, H[ad G b]? = some cellB ∧ cellB.vm.isStatics = false ∧ s.vm.findClass (cnm q.2) = some cellB.cls := by
            rcases hw14 with z | z
            · have hblt := RO_lt hO (cx_F C) (a := b) (Or.inl (by rw [hkb]; exact z))
              have hbc := HR_lt hH (a := b) (by rw [hkb]; omega) hblt
              obtain ⟨q0, hq0⟩ := ws_get hbc (ce_o (G := G) hkb z)
              rw [ad_lo hblt] at hq0
              cases hr : vwCl[q.2]? with
              | none => exact absurd (List.getElem?_eq_none_iff.mp hr) (by show ¬ 14 ≤ q.2; omega)
              | some r =>
                have := va_recv (cx_K C) hH.2.2.2.2 hr hq0
                unfold cnm
                rw [if_neg (by omega), hr]
                exact this
            · have hb2 : 1000000 ≤ b := by
                by_cases hbl : b < 1000000
                · exact absurd (hkb.trans z) (hH.2.2.2.1 b hbl)
                · exact Nat.le_of_not_lt hbl
              obtain ⟨cell, g1, g2, g3, -⟩ := ((((cx_F C).2.1 b hb2).2.2.1 (by rw [← (hO b hb2).1, hkb, z])).1).kept hS.2.1
              refine ⟨cell, g1, g2, ?_⟩
              unfold cnm
              rw [if_pos z]
              exact g3
          have hrun := va_runV (p := p) (e := e) (below := below) (meth := meth) (c := c) (H := H) (locs := locs) (cells := cells) (slots := slots) (As := ((st.take (mi_np mq' - 1)).reverse).map (vz G)) (rest := rest.map (vz G)) (b := ad G b) (g := F0 mid pc L (st.map (vz G))) ⟨C.1, C.2.1, C.2.2.2.1, cx_o C, cx_t C⟩ hM cw ⟨PcR_blind G as h, hrecv, fun U hU hW => hpre _ (by rw [eas]; rfl) U hU hW⟩ rfl (by
              have : (st.take (mi_np mq' - 1)).length = mi_np mq' - 1 := by simp; omega
              simp; omega) hl.1 (by
              have t3 := congrArg (List.map (vz G)) t2
              show st.map (vz G) = _
              refine t3.trans ?_
              rw [c6]
              simp [vz]) (by show 2 * 0 + _ ≤ 8; rw [map_cats (cx_c C), c6]; omega) hd hfit
          exact call_end hmono hl hS hc hw K hrun
    next => cases hisC
  · have emq : mq' = mq := by rw [hqk, hP] at hm; exact (Option.some.inj hm).symm
    subst emq
    obtain ⟨c1, c2, c3, rfl, rfl, c6⟩ := hcal
    unfold isR at hisR
    split at hisR
    next b hb =>
      obtain ⟨t1, t2⟩ := take_one h0 hb
      replace hok : (match lk (mi_ml m) k, lk X.2.1 k with | some q, some w => okN (mi_own m) k q.1 q.2 w | none, _ => true | _, _ => false) = true := hok
      rw [hq] at hok
      cases hX : lk X.2.1 k with
      | none => rw [hX] at hok; cases hok
      | some w =>
        rw [hX] at hok
        replace hok : okN (mi_own m) k q.1 q.2 w = true := hok
        unfold okN at hok
        rw [if_neg hn0, hm] at hok
        match w, hok with
        | [i1, i2, i3, i4, i5], hok =>
          simp only [Bool.and_eq_true, decide_eq_true_eq] at hok
          obtain ⟨⟨⟨⟨⟨⟨hy, hnp⟩, w2⟩, w4⟩, hnm⟩, hrt⟩, w1⟩ := hok
          unfold okY at hy
          simp only [Bool.and_eq_true, decide_eq_true_eq] at hy
          obtain ⟨⟨⟨hmx, hy1⟩, hy2⟩, hown⟩ := hy
          have eas : as = .ref b :: (st.take (mi_np mq' - 1)).reverse := by rw [c3, t1]; simp
          have hlen : ((((st.take (mi_np mq' - 1)).reverse).map (vz G))).length = mi_np mq' - 1 := by
            have : (st.take (mi_np mq' - 1)).length = mi_np mq' - 1 := by simp; omega
            simp; omega
          have hstk : (F0 mid pc L (st.map (vz G))).stack = (((st.take (mi_np mq' - 1)).reverse).map (vz G)).reverse ++ Value.ref (ad G b) :: rest.map (vz G) := by
            have t3 := congrArg (List.map (vz G)) t2
            show st.map (vz G) = _
            refine t3.trans ?_
            rw [c6]
            simp [vz]
          have hrm : (rmR d (cn hf - cn h) (wd hf - wd h)).frames + 1 ≤ R.frames ∧ 8 + (mi_mx mq' + 11) + (rmR d (cn hf - cn h) (wd hf - wd h)).locals ≤ R.locals := ⟨by show d + 12 + 1 ≤ _; omega, by show 8 + (mi_mx mq' + 11) + 64 * (d + 12) ≤ _; omega⟩
          have hwse : wsR mq' = Cond.code (mi_y mq') (mi_cc mq') (mi_mx mq') none :: tw := by unfold wsR; rw [hrt]
          have hps : PreS s H (PcR G as h) (.ref (ad G b) :: ((st.take (mi_np mq' - 1)).reverse).map (vz G)) := ⟨PcR_blind G as h, fun U hU hW => hpre _ (by rw [eas]; rfl) U hU hW⟩
          have hroom : 2 * (F0 mid pc L (st.map (vz G))).monitorRoom + ((rest.map (vz G)).map fun v => v.category).sum ≤ 8 := by
            show 2 * 0 + _ ≤ 8
            rw [map_cats (cx_c C), c6]; omega
          by_cases h202 : q.2 = 202
          · rw [if_pos h202] at w1
            have cw := va_cnB (R := R) (s := s) (args := args) (own := mi_own m) (host := "CorkStreetModel") (index := k) (y := mi_y mq') (bytes := mi_cc mq') (maxL := mi_mx mq') (ret := none) (rm := rmR d (cn hf - cn h) (wd hf - wd h)) (mi_np mq' - 1) (cx_t C) (gi_tw hws) hwse rfl rfl ((cx_F C).2.2.2.2.1 _ (watN_s w1)) (cx_t C _ (wat_s w4)) ⟨hy1, hy2, hnp⟩ hrm
            have hrun := va_runIN (p := p) (e := e) (below := below) (meth := meth) (c := c) (H := H) (locs := locs) (cells := cells) (slots := slots) (rest := rest.map (vz G)) (b := ad G b) (g := F0 mid pc L (st.map (vz G))) ⟨C.1, C.2.1, C.2.2.2.1, cx_o C, cx_t C⟩ hM ⟨cw, hnm, cx_t C _ (wat_s w2)⟩ hps rfl hlen hl.1 hstk hroom hd hfit
            exact call_end hmono hl hS hc hw K hrun
          · rw [if_neg h202] at w1
            have cw := cwI (R := R) (s := s) (args := args) (own := mi_own m) (index := k) (y := mi_y mq') (bytes := mi_cc mq') (maxL := mi_mx mq') (rm := rmR d (cn hf - cn h) (wd hf - wd h)) (mi_np mq' - 1) (cx_t C) (gi_tw hws) hwse rfl rfl (cx_t C _ (wat_s w4)) (cx_t C _ (wat_s w1)) (cx_t C _ (wat_s w2)) hnm ⟨hy1, hy2, hnp⟩ hrm
            have hrun := va_runI (p := p) (e := e) (below := below) (meth := meth) (c := c) (H := H) (locs := locs) (cells := cells) (slots := slots) (rest := rest.map (vz G)) (b := ad G b) (g := F0 mid pc L (st.map (vz G))) ⟨C.1, C.2.1, C.2.2.2.1, cx_o C, cx_t C⟩ hM cw hps rfl hlen hl.1 hstk hroom hd hfit
            exact call_end hmono hl hS hc hw K hrun
    next => cases hisR
  · have emq : mq' = mq := by rw [hqk, hP] at hm; exact (Option.some.inj hm).symm
    subst emq
    obtain ⟨c1, c2, c3, rfl, rfl, c6⟩ := hcal
    replace hok : (match lk (mi_ml m) k, lk X.2.1 k with | some q, some w => okS (mi_own m) k q.1 w | none, _ => true | _, _ => false) = true := hok
    rw [hq] at hok
    cases hX : lk X.2.1 k with
    | none => rw [hX] at hok; cases hok
    | some w =>
      rw [hX] at hok
      replace hok : okS (mi_own m) k q.1 w = true := hok
      unfold okS at hok
      rw [if_neg hn0, if_neg (by rw [hqk]; omega), hm] at hok
      match w, hok with
      | [i1, i2, i3, i4, i5], hok =>
        simp only [Bool.and_eq_true, decide_eq_true_eq] at hok
        obtain ⟨⟨⟨⟨hy, hnp⟩, w1⟩, w2⟩, w4⟩ := hok
        unfold okY at hy
        simp only [Bool.and_eq_true, decide_eq_true_eq] at hy
        obtain ⟨⟨⟨hmx, hy1⟩, hy2⟩, hown⟩ := hy
        have cw := callB_of (R := R) (s := s) (args := args) (own := mi_own m) (index := k) (y := mi_y mq') (bytes := mi_cc mq') (maxL := mi_mx mq') (ret := mi_rt mq') (ws := wsR mq') (rm := rmR d (cn hf - cn h) (wd hf - wd h)) (mi_np mq') (cx_t C) (gi_tw hws) rfl rfl rfl (cx_t C _ (wat_s w4)) (cx_t C _ (wat_s w1)) ⟨hy1, hy2, hnp⟩ ⟨by show d + 12 + 1 ≤ _; omega, by show 8 + (mi_mx mq' + 11) + 64 * (d + 12) ≤ _; omega⟩
        have hrun := va_runS (p := p) (e := e) (below := below) (meth := meth) (c := c) (H := H) (locs := locs) (cells := cells) (slots := slots) (As := as.map (vz G)) (rest := rest.map (vz G)) (g := F0 mid pc L (st.map (vz G))) ⟨C.1, C.2.1, C.2.2.2.1, cx_o C, cx_t C⟩ hM ⟨cw, cx_t C _ (wat_s w2)⟩ ⟨PcR_blind G as h, fun U hU hW => hpre _ rfl U hU hW⟩ rfl (by rw [c3]; simp; omega) hl.1 (by
            show st.map (vz G) = _
            rw [c3, c6, ← List.map_reverse, List.reverse_reverse, ← List.map_append, List.take_append_drop]) (by show 2 * 0 + _ ≤ 8; rw [map_cats (cx_c C), c6]; omega) hd hfit
        exact call_end hmono hl hS hc hw K hrun
end SOUND
