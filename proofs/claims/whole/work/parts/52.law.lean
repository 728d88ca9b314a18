/-! the law's call of its led; the law's end -/
theorem met_ofWH {l : Launch} {y : MethodName} {ws ws' : List Cond} {rm : Room} {Pc : Array Value → State → Prop} {Qc : Array Value → State → Outcome → State → Prop} {mc ms : Nat} {free : Addr → Prop} {cc : ByteArray} {maxL : Nat} {ret : Option FieldType} {hh : List (Nat × Nat × Nat × Nat)}
    (hy : plainName y.cls = true) (hw : ws = Cond.codeWith y cc maxL ret hh :: ws')
    (body : ∀ p e s m args below meth c s₁, BodyLoose p l y (headSpec ws rm) cc maxL ret e s m args below meth c s₁ → c.maxLocals = maxL → c.exceptionTable.toList = tableOf hh → Pc args s →
      W p l e (headSpec ws rm).room s m args below meth c s.heap [] 0 0 (MQ below Qc args s mc ms free) (entryFrame m args maxL)) : Met l y ws rm Pc Qc mc ms free := by
  refine MetFree.of_bodyS (code := cc) (maxLocals := maxL) (ret := ret) hy ?_ ?_
  · intro args s m h hn
    obtain ⟨m9, meth, c, hn9, h1, h2, h3, h4, -, h5, h6, -⟩ := Cond.codeWith_spec (atoms_spec (ws := ws) h _ (by rw [hw]; exact List.mem_cons_self))
    cases hn.symm.trans hn9
    exact ⟨meth, c, h1, h2, h3, h4, h5, h6⟩
  · intro p e s m args below meth c s₁ B hml hP _
    have hh0 : s₁.heap = s.heap := by rw [B.state]; rfl
    have ht := vx_table (x := y) B (atoms_spec (ws := ws) B.pre _ (by rw [hw]; exact List.mem_cons_self))
    obtain ⟨t, a1, o, b1, b2, b3⟩ := body p e s m args below meth c s₁ B hml ht hP s₁ hh0 (Stand.of_body B)
    exact ⟨t, o, a1, b1, b2, ⟨b3.1, b3.2⟩⟩
def wsL0 : List Cond := Cond.codeWith (mi_y m0) (mi_cc m0) (mi_mx m0) (mi_rt m0) [(0, 9, 12, 13)] :: tw
theorem led0_met {n d : Nat} {G : Gx} {l : Launch} (hst : l.stackTraces = false) {as : List Value} {h hf : Hp} {rv : Option Value} (hini : (ini (mi_mx m0) as).length = mi_mx m0) (hrun : run P n d 0 (0, ini (mi_mx m0) as, [], h) = some (rv, hf)) : Met l (mi_y m0) wsL0 (rmR d (cn hf - cn h) (wd hf - wd h)) (PcR G as h) (QcR G rv hf) (cn hf - cn h) (wd hf - wd h) (gA G) := by
  refine met_ofWH (cc := mi_cc m0) (maxL := mi_mx m0) (ret := mi_rt m0) (by decide) rfl ?_
  intro p e s mid args below meth c s₁ B hml ht hPc
  obtain ⟨hargs, hF, hH, hO⟩ := hPc
  have hts0 : ∀ w ∈ wsL0, w.before args s = true := atoms_spec (ws := wsL0) B.pre
  have C : Cx G p s mid args meth c m0 := ⟨B.exec, B.bytes, B.returns, hml, by rw [P_own pm0]; exact findClass_of_methodNamed B.named, fun w hw => hts0 w (List.mem_cons_of_mem _ hw), B.notSynchronized, (name_of_methodNamed B.named B.method).1, hF⟩
  have hm := run_mono n d 0 _ rv hf hrun
  replace hm : cn h ≤ cn hf ∧ wd h ≤ wd hf := hm
  subst hargs
  rw [lg_entry_eq mid (as.map (vz G)) (mi_mx m0)]
  exact sound0 n d (0, ini (mi_mx m0) as, [], h) rv hf hrun C hst ht hH.1 ⟨Nat.le_refl _, Nat.le_refl _⟩ (by show cn hf ≤ cn h + (cn hf - cn h) ∧ wd hf ≤ wd h + (wd hf - wd h); omega) (RW_met (as := as) C hH.1) _ s.heap [] 0 0 (ini_lvr hF.2.2.2.2.2.1 hini) hH hO ⟨Nat.le_refl _, fun _ _ _ => rfl, fun _ z => absurd z List.not_mem_nil⟩ rfl rfl
theorem m1_link0 : ∀ e ∈ mi_ml m1, e.2.1 < 2 → e = (227, 0, 200) := by decide +kernel
theorem m1_link {k : Nat} {q : Nat × Nat} (h : lk (mi_ml m1) k = some q) (h2 : q.1 < 2) : k = 227 ∧ q = (0, 200) := by
  have := m1_link0 _ (lk_mem h) h2
  cases this
  exact ⟨rfl, rfl⟩
theorem led_ml : Cond.methodLink RL 227 yL_led ∈ tw := tw_in 1377 (by decide +kernel) rfl
theorem led_st : Cond.static yL_led ∈ tw := tw_in 1378 (by decide +kernel) rfl
theorem led_in : Cond.initialized RL ∈ tw := tw_in 118 (by decide +kernel) rfl
section LAW
variable {G : Gx} {p : Program} {l : Launch} {e : Env} {R : Room} {s : State} {mid : MethodId} {args : Array Value} {below : List Frame} {meth : Method} {c : Code} {Q : State → Prop} {k0 w0 : Nat}
theorem ZC_law (hst : l.stackTraces = false) (C : Cx G p s mid args meth c m1) : ZC G p l e R s mid args below meth c Q m1 k0 w0 := by
  intro n d kq mq X i len pc pc2 ls st as ls2 rest h hf rv hk hq hok hd ha hini hrun hnr hR hcap K
  rcases call_inv ha with ⟨k, q, mq', rfl, hq1, hqk, hm, hisC, h0, hlt, hcal⟩ | ⟨k, q, mq', rfl, hq1, hqk, hn0, hm, hisR, h0, hw2, hcal⟩ | ⟨k, q, mq', rfl, hq1, hqk, hn0, hm, hw2, hcal⟩
  · obtain ⟨rfl, rfl⟩ := m1_link hq1 (by omega)
    exact absurd hlt (by decide)
  · obtain ⟨rfl, rfl⟩ := m1_link hq1 (by omega)
    rcases hw2 with z | z <;> cases z
  · obtain ⟨rfl, rfl⟩ := m1_link hq1 (by omega)
    have hkq : kq = 0 := hqk.symm
    subst hkq
    have emq : mq = m0 := Option.some.inj (hq.symm.trans pm0)
    subst emq
    have emq : mq' = m0 := Option.some.inj (hm.symm.trans pm0)
    subst emq
    intro L H locs cells slots hl hH hO hS hc hw
    replace hc : cn h = k0 + cells := hc
    replace hw : wd h = w0 + slots := hw
    replace hH : HR G h H := hH
    replace hO : RO G h := hO
    have hm1 := run_mono n d 0 _ rv hf hrun
    replace hm1 : cn h ≤ cn hf ∧ wd h ≤ wd hf := hm1
    have hfit : cells + (cn hf - cn h) ≤ R.cells ∧ slots + (wd hf - wd h) ≤ R.slots := by omega
    obtain ⟨c1, c2, c3, rfl, rfl, c6⟩ := hcal
    have cw := vx_cwSW (R := R) (s := s) (args := args) (own := mi_own m1) (index := 227) (y := mi_y m0) (bytes := mi_cc m0) (maxL := mi_mx m0) (ret := mi_rt m0) (hh := [(0, 9, 12, 13)]) (ws := wsL0) (rm := rmR d (cn hf - cn h) (wd hf - wd h)) (mi_np m0) (cx_t C) (gi_tw (fun w hw => by
      unfold va_wsS at hw
      rcases List.mem_append.mp hw with z | z
      · simp only [List.mem_cons, List.not_mem_nil, or_false] at z
        rcases z with rfl | rfl | rfl
        · exact led_ml
        · exact led_st
        · exact led_in
      · rcases List.mem_cons.mp z with rfl | z
        · exact led_w
        · exact z)) rfl rfl rfl ⟨by decide, by decide, by decide +kernel⟩ ⟨by show d + 12 + 1 ≤ _; omega, by show 8 + (4 + 11) + 64 * (d + 12) ≤ _; omega⟩
    have hrunX := vx_runSW (p := p) (e := e) (below := below) (meth := meth) (c := c) (H := H) (locs := locs) (cells := cells) (slots := slots) (As := as.map (vz G)) (rest := rest.map (vz G)) (g := F0 mid pc L (st.map (vz G))) ⟨C.1, C.2.1, C.2.2.2.1, cx_o C, cx_t C⟩ (led0_met hst hini hrun) cw ⟨PcR_blind G as h, fun U hU hW => ⟨rfl, FX_moved (cx_F C) hS hU hW, by rw [hU]; exact hH, hO⟩⟩ rfl (by
        rw [c3, List.length_map, List.length_reverse, List.length_take]
        exact Nat.min_eq_left c1) hl.1 (by
        show st.map (vz G) = _
        rw [c3, c6, ← List.map_reverse, List.reverse_reverse, ← List.map_append, List.take_append_drop]) (by
        show 2 * 0 + _ ≤ 8
        rw [map_cats (cx_c C), c6]
        omega) hd hfit
    exact call_end hm1 hl hS hc hw K hrunX
end LAW
/-- the law's run, out of the abstract machine's -/
theorem law_run {G : Gx} {p : Program} {l : Launch} {e : Env} {s : State} {mid : MethodId} {below : List Frame} {meth : Method} {c : Code} {b n d : Nat} {h0 hf : Hp} (hst : l.stackTraces = false) (hd : d ≤ 1000) (hz : gN G = s.heap.size) (C : Cx G p s mid #[Value.ref b] meth c m1) (hb : ad G 1000000 = b) (hH : HR G h0 s.heap) (hO : RO G h0) (h00 : cn h0 = 0 ∧ wd h0 = 0) (hcap : cn hf ≤ 601024 ∧ wd hf ≤ 7293033) (hrun : run P n d 1 (0, ini 7 [.ref 1000000], [], h0) = some (some (.int 1), hf)) : W p l e room_1 s mid #[Value.ref b] below meth c s.heap [] 0 0 (lw_Z below #[Value.ref b] s) (entryFrame mid ([Value.ref b] : List Value).toArray 7) := by
  have he : [Value.ref b] = ([.ref 1000000] : List Value).map (vz G) := by show _ = [Value.ref (ad G 1000000)]; rw [hb]
  have hini : (ini 7 [.ref 1000000]).length = 7 := rfl
  have hx := sound n 1 d m1 (0, ini 7 [.ref 1000000], [], h0) (some (.int 1)) hf (by omega) pm1 hrun (l := l) (e := e) (R := room_1) (below := below) (Q := lw_Z below #[Value.ref b] s) (k0 := 0) (w0 := 0) C (by rw [hz]; rfl) (by show d + 12 ≤ 2048 ∧ 64 * (d + 12) ≤ 84000; omega) (by show cn hf ≤ 0 + 601024 ∧ wd hf ≤ 0 + 7293033; omega) (ZC_law hst C) (fun pc L H locs cells slots hr hH1 hO1 hS hc hw => by
    rcases hr with ⟨v, hv, hd, -⟩ | ⟨v, hv, -⟩ | ⟨v, hv, -⟩ | ⟨hv, -⟩
    · cases hv
      refine va_forget (fun q hq => by have := hS.2.2 q hq; rw [← hz]; exact this) (W.widen (k := 601024) (n := 7293033) (by omega) (by omega) ?_)
      exact lw_ret C.1 C.2.1 C.2.2.1 C.2.2.2.2.2.2.1 hd
    · cases hv
    · cases hv
    · cases hv) (fun z => by cases z)
  have hk := hx ((lg_sl (([.ref 1000000] : List Value).map (vz G)) ++ List.replicate (7 - (lg_sl (([.ref 1000000] : List Value).map (vz G))).length) Slot.unset).toArray) s.heap [] 0 0 (ini_lvr C.2.2.2.2.2.2.2.2.2.2.2.2.2.1 hini) hH hO ⟨Nat.le_refl _, fun _ _ _ => rfl, fun _ z => absurd z List.not_mem_nil⟩ (by show cn h0 = _; omega) (by show wd h0 = _; omega)
  have hE : entryFrame mid ([Value.ref b] : List Value).toArray 7 = F0 mid 0 ((lg_sl (([.ref 1000000] : List Value).map (vz G)) ++ List.replicate (7 - (lg_sl (([.ref 1000000] : List Value).map (vz G))).length) Slot.unset).toArray) [] := by
    rw [he]
    exact lg_entry_eq mid (([.ref 1000000] : List Value).map (vz G)) 7
  rw [hE]
  exact hk
