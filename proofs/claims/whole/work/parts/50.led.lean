/-! the law's led: CorkStreet.led may throw, and it is caught -/
theorem HR_mkX {G : Gx} {h : Hp} {H H1 : Heap} (hH : HR G h H) (hlt : cn h < 900000) (hz : H1.size = H.size + 1) (hkp : ∀ q, q < H.size → H1[q]? = H[q]?) : HR G (mkX h 6) H1 := by
  have hkd : ∀ i, kd (mkX h 6) i = if i = cn h then 999 else kd h i := fun _ => rfl
  refine HR_push (kk := 999) hH hlt hz hkp rfl hkd (by decide) (fun i hi => ce_of (by rw [hkd, if_neg (by omega)]) rfl rfl rfl rfl rfl) (fun e he => ?_)
  have h9 : kd (mkX h 6) (cn h) = 999 := by rw [hkd, if_pos rfl]
  unfold ce at he
  rw [h9] at he
  cases he
theorem RO_mkX {G : Gx} {h : Hp} (hO : RO G h) (hlt : cn h < 900000) : RO G (mkX h 6) := RO_push hO hlt (fun i hi => ⟨by show (if i = cn h then 999 else kd h i) = _; rw [if_neg hi], rfl, rfl, rfl⟩)
def QcX (G : Gx) (rv : Option Value) (hf : Hp) : Array Value → State → Outcome → State → Prop := fun a st o t => QcR G rv hf a st o t ∧ ¬ rv = some (.retAddr 1)
def XCR (G : Gx) (rv : Option Value) (hf : Hp) : String → State → State → Prop := fun E st t => E = xN ∧ rv = some (.retAddr 1) ∧ HR G hf t.heap ∧ RO G hf ∧ va_F (gA G) st t
theorem led_new : ∀ e ∈ mi_ins m181, (match e.2.1 with | .new _ => decide (e.1 = 61) | _ => true) = true := by decide +kernel
theorem led_str : ∃ q ∈ stT, q.1 = RX11 ∧ q.2.1 = 371 := by decide +kernel
theorem xat_ot : ∀ w ∈ Cond.classLink RX11 369 xN :: Cond.initialized xN :: xat, vx_ot w = true := by decide +kernel
theorem led_k : Cond.classLink RX11 369 xN ∈ tw := tw_in 1385 (by decide +kernel) rfl
theorem led_i : Cond.initialized xN ∈ tw := tw_in 143 (by decide +kernel) rfl
theorem led_c : Cond.classLink RL 13 xN ∈ tw := tw_in 1380 (by decide +kernel) rfl
theorem led_w : Cond.codeWith yL_led cL_led 4 (some .int) [(0, 9, 12, 13)] ∈ tw := tw_in 1379 (by decide +kernel) rfl
theorem led_cast : Cond.castable xN xN ∈ xbad := by decide +kernel
theorem led_met {n d : Nat} {G : Gx} {l : Launch} (hst : l.stackTraces = false) {as : List Value} {h hf : Hp} {rv : Option Value} (hini : (ini (mi_mx m181) as).length = mi_mx m181) (hrun : run P n d 181 (0, ini (mi_mx m181) as, [], h) = some (rv, hf)) : vx_Met l (mi_y m181) (wsR m181) (rmR d (cn hf - cn h) (wd hf - wd h)) (PcR G as h) (QcX G rv hf) (XCR G rv hf) (cn hf - cn h) (wd hf - wd h) (gA G) := by
  have hP : P[181]? = some m181 := pm181
  refine vx_ofW (cc := mi_cc m181) (maxL := mi_mx m181) (ret := mi_rt m181) (by decide) rfl ?_
  intro p e s mid args below meth c s₁ B hml hnt hPc
  obtain ⟨hargs, hF, hH, hO⟩ := hPc
  have C := body_cx hP B hml hF
  have hm := run_mono n d 181 _ rv hf hrun
  replace hm : cn h ≤ cn hf ∧ wd h ≤ wd hf := hm
  subst hargs
  rw [lg_entry_eq mid (as.map (vz G)) (mi_mx m181)]
  refine sound n 181 d m181 (0, ini (mi_mx m181) as, [], h) rv hf (by omega) hP hrun C hH.1 ⟨Nat.le_refl _, Nat.le_refl _⟩ (by show cn hf ≤ cn h + (cn hf - cn h) ∧ wd hf ≤ wd h + (wd hf - wd h); omega) (ZC_no (M := 181) (by omega) hP) ?_ ?_ _ s.heap [] 0 0 (ini_lvr hF.2.2.2.2.2.1 hini) hH hO ⟨Nat.le_refl _, fun _ _ _ => rfl, fun _ z => absurd z List.not_mem_nil⟩ rfl rfl
  · intro pc L H locs cells slots hr hH1 hO1 hS hc hw
    have hn : ¬ rv = some (.retAddr 1) := by
      rcases hr with ⟨v, rfl, -⟩ | ⟨v, rfl, -⟩ | ⟨v, rfl, -⟩ | ⟨rfl, -⟩ <;> (intro z; cases z)
    intro T hT X
    obtain ⟨t, a1, o, b1, b2, b3, b4⟩ := RW_met (as := as) C hH.1 pc L H locs cells slots hr hH1 hO1 hS hc hw T hT X
    exact ⟨t, a1, o, b1, b2, Or.inl ⟨⟨b3, hn⟩, b4⟩⟩
  · intro hrv pc k h2 L H locs cells slots hL hk hi hd hfe hcn hH2 hO2 hS hc hw
    have hpc : pc = 61 := by
      obtain ⟨len, ks, hi⟩ := hi
      exact of_decide_eq_true (led_new _ (lk_mem hi))
    have hk9 : k = 369 := by
      have := lk_mem hk
      have h2 : (k, 60) ∈ [((369 : Nat), (60 : Nat))] := this
      simp at h2
      exact h2
    subst hpc
    subst hk9
    obtain ⟨q, hq, q1, q2⟩ := led_str
    have hstr := hF.2.2.2.1 q hq
    rw [q1, q2] at hstr
    have hEX := hF.2.2.2.2.2.2.2
    replace hc : cn h2 = cn h + cells := hc
    replace hw : wd h2 = wd h + slots := hw
    have e1 : cn hf = cn h2 + 1 := by rw [hfe]; rfl
    have e2 : wd hf = wd h2 + 6 := by rw [hfe]; rfl
    refine nx_throw (A := gA G) (names := ["java/lang/RuntimeException", "java/lang/Exception"]) (ic := 373) (cls := xN) C.1 C.2.1 hst (show s.vm.findClass RX11 = _ from cx_o C) (by decide +kernel) (by decide +kernel) (cx_t C _ led_k) (cx_t C _ led_i) hstr (fun w hw => ?_) xat_ot hEX.1 hEX.2.1 hS (hL.trans C.2.2.2.1.symm) hd (by decide +kernel) (by decide +kernel) (by decide +kernel) (by decide +kernel) (fun x hx => (hnt x hx).elim) ?_ ?_ ?_ ?_ C.2.2.2.2.2.2.1 (fun t hA hz1 hkp hz2 => ⟨rfl, hrv, ?_, ?_, ?_⟩) hS.2.2 (by omega) (by omega)
    · by_cases g : goodWord w = true
      · exact cx_t C _ (List.mem_filter.mpr ⟨xat_in w hw, g⟩)
      · exact bad_at (List.mem_filter.mpr ⟨hw, by cases hgw : goodWord w; rfl; exact absurd hgw g⟩) (Vm.Alike.refl _) (hEX.2.2 w (List.mem_filter.mpr ⟨hw, by cases hgw : goodWord w; rfl; exact absurd hgw g⟩))
    · show 2 + 3 < d + 12
      omega
    · show 0 + (13 * (2 + 1) + 43) ≤ 64 * (d + 12)
      omega
    · show cells + 1 ≤ cn hf - cn h
      omega
    · show slots + 6 ≤ wd hf - wd h
      omega
    · rw [hfe]; exact HR_mkX hH2 hcn hz2 hkp
    · rw [hfe]; exact RO_mkX hO2 hcn
    · exact ⟨Nat.le_trans hS.1 hz1, fun a ha hn => by rw [hkp a (Nat.lt_of_lt_of_le ha hS.1)]; exact hS.2.1 a ha hn⟩
