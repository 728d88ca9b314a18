/-! the law's led, with its handler -/
theorem led_call : ∀ e ∈ mi_ins m0, (match e.2.1 with | .invokevirtual _ => decide (e.1 = 4) | _ => true) = true := by decide +kernel
theorem led_tail {n d : Nat} {ls : List Value} {h hf : Hp} {r : Option Value} (hr : run P n d 0 (13, ls, [], h) = some (r, hf)) : r = some (.int 1) ∧ hf = h := by
  match n, hr with
  | 0, hr => cases hr
  | n + 1, hr =>
    obtain ⟨i, len, ks, hi, hr⟩ := run_inv pm0 hr
    have e1 : (i, len, ks) = (Instr.iconst 1, 1, ([] : List Nat)) := Option.some.inj (hi.symm.trans (show lk (mi_ins m0) 13 = some (Instr.iconst 1, 1, ([] : List Nat)) from rfl))
    cases e1
    rcases hr with ha | ⟨x', ha, hr⟩ | ⟨kq, as, pc2, ls2, rest, d', mq, rv, hf2, ha, -⟩
    · cases ha
    · have e2 := go_inj (show go (13 + 1) (kls [] ls) (.int (Int32.ofInt 1) :: []) h = _ from ha)
      subst e2
      match n, hr with
      | 0, hr => cases hr
      | n + 1, hr =>
        obtain ⟨i, len, ks, hi, hr⟩ := run_inv pm0 hr
        have e1 : (i, len, ks) = (Instr.ireturn, 1, ([] : List Nat)) := Option.some.inj (hi.symm.trans (show lk (mi_ins m0) 14 = some (Instr.ireturn, 1, ([] : List Nat)) from rfl))
        cases e1
        rcases hr with ha | ⟨x', ha, hr⟩ | ⟨kq, as, pc2, ls2, rest, d', mq, rv, hf2, ha, -⟩
        · rcases ret_inv ha with ⟨-, rfl, v, h1, rfl, hv⟩ | ⟨h0, -⟩ | ⟨h0, -⟩ | ⟨h0, -⟩ | ⟨k, h0, -⟩
          · cases h1; exact ⟨rfl, rfl⟩
          · cases h0
          · cases h0
          · cases h0
          · cases h0
        · replace ha : ((match ([Value.int (Int32.ofInt 1)] : List Value) with | [.int v] => if (mi_rt m0).any (fun t => retV t v) = true then some (.inl (some (.int v), h)) else none | _ => none) : Option Ac) = some (.inr (.inl x')) := ha
          simp only at ha
          split at ha <;> cases ha
        · replace ha : ((match ([Value.int (Int32.ofInt 1)] : List Value) with | [.int v] => if (mi_rt m0).any (fun t => retV t v) = true then some (.inl (some (.int v), h)) else none | _ => none) : Option Ac) = some (.inr (.inr (kq, as, pc2, ls2, rest))) := ha
          simp only at ha
          split at ha <;> cases ha
    · cases ha
theorem pm0_link {k : Nat} {q : Nat × Nat} (h : lk (mi_ml m0) k = some q) : k = 7 ∧ q = (181, 11) := by
  have h1 : (k, q) ∈ [((7 : Nat), ((181 : Nat), (11 : Nat)))] := lk_mem h
  simp at h1
  exact h1
def Snd0 (n : Nat) : Prop := ∀ (d : Nat) (x : Sx) (r : Option Value) (hf : Hp), run P n d 0 x = some (r, hf) → ∀ {G : Gx} {p : Program} {l : Launch} {e : Env} {R : Room} {s : State} {mid : MethodId} {args : Array Value} {below : List Frame} {meth : Method} {c : Code} {Q : State → Prop} {k0 w0 : Nat}, Cx G p s mid args meth c m0 → l.stackTraces = false → c.exceptionTable.toList = tableOf [(0, 9, 12, 13)] → s.heap.size = gN G + k0 → (d + 12 ≤ R.frames ∧ 64 * (d + 12) ≤ R.locals) → (cn hf ≤ k0 + R.cells ∧ wd hf ≤ w0 + R.slots) → RW G p l e R s mid args below meth c Q m0 k0 w0 r hf → WW G p l e R s mid args below meth c Q m0 k0 w0 x
theorem sound0 (n : Nat) : Snd0 n := by
  induction n with
  | zero => intro d x r hf hr; cases hr
  | succ n ih =>
    intro d x r hf hrun G p l e R s mid args below meth c Q k0 w0 C hst htab hz0 hR hcap hRW
    obtain ⟨i, len, ks, hi, hrun⟩ := run_inv pm0 hrun
    obtain ⟨pc, ls, st, h⟩ := x
    obtain ⟨X, hX⟩ := P_ok pm0
    have hE := hX _ (lk_mem hi)
    unfold okE at hE
    simp only [Bool.and_eq_true, decide_eq_true_eq] at hE
    obtain ⟨hd, hok⟩ := hE
    have hqi := P_okq pm0 hi
    suffices hs : WW G p l e R s mid args below meth c Q m0 k0 w0 (pc, kls ks ls, st, h) from fun L H locs cells slots hl => hs L H locs cells slots (lvr_kls ks hl)
    rcases hrun with ha | ⟨x', ha, hrun⟩ | ⟨kq, as, pc2, ls2, rest, d', mq, rv, hf2, ha, rfl, hq, hini, hc, hend⟩
    · rcases ret_inv ha with ⟨rfl, rfl, v, h1, rfl, hv⟩ | ⟨rfl, rfl, v, h1, rfl, hv⟩ | ⟨rfl, rfl, v, h1, rfl, hv⟩ | ⟨rfl, rfl, h1, rfl, hv⟩ | ⟨k, rfl, hk, h1, hcn, rfl, rfl⟩
      · replace h1 : st = _ := h1
        subst h1
        intro L H locs cells slots hl hH hO hS hc hw
        exact hRW pc L H locs cells slots (Or.inl ⟨v, rfl, hd, hv⟩) hH hO hS hc hw
      · cases hv
      · obtain ⟨t, ht, hv⟩ := any_s hv
        cases ht
        cases hv
      · cases hv
      · cases hk
    · have hm := run_mono n d 0 x' r hf hrun
      exact sp_step C hz0 ⟨by omega, by omega⟩ hok hqi hd ha ⟨by omega, by omega⟩ (ih d x' r hf hrun C hst htab hz0 hR hcap hRW)
    · rcases call_inv ha with ⟨k, q, mq', rfl, hq1, hqk, hm, hisC, h0, hlt, hcal⟩ | ⟨k, q, mq', rfl, hq1, hqk, hn0, hm, hisR, h0, hw2, hcal⟩ | ⟨k, q, mq', rfl, hq1, hqk, hn0, hm, hw2, hcal⟩
      · obtain ⟨rfl, rfl⟩ := pm0_link hq1
        have hkq : kq = 181 := hqk.symm
        subst hkq
        have emq : mq = m181 := Option.some.inj (hq.symm.trans pm181)
        subst emq
        have emq : mq' = m181 := Option.some.inj (hm.symm.trans pm181)
        subst emq
        have hpc : pc = 4 := of_decide_eq_true (led_call _ (lk_mem hi))
        subst hpc
        intro L H locs cells slots hl hH hO hS hcc hw
        replace hcc : cn h = k0 + cells := hcc
        replace hw : wd h = w0 + slots := hw
        replace hH : HR G h H := hH
        replace hO : RO G h := hO
        have hm1 := run_mono n d' 181 _ rv hf2 hc
        replace hm1 : cn h ≤ cn hf2 ∧ wd h ≤ wd hf2 := hm1
        have hm2 : cn hf2 ≤ cn hf ∧ wd hf2 ≤ wd hf := by
          rcases hend with ⟨-, -, hrun⟩ | ⟨-, hrun⟩
          · exact run_mono n (d' + 1) 0 _ r hf hrun
          · exact run_mono n (d' + 1) 0 _ r hf hrun
        have hfit : cells + (cn hf2 - cn h) ≤ R.cells ∧ slots + (wd hf2 - wd h) ≤ R.slots := by omega
        obtain ⟨hcode, -⟩ := P_cd (M := 181) pm181 (by omega)
        have hws : ∀ w ∈ wsR m181, w ∈ tw := fun w hw => by
          rcases List.mem_cons.mp hw with rfl | hw
          · exact hcode
          · exact hw
        obtain ⟨c1, c2, c3, rfl, rfl, c6⟩ := hcal
        replace c1 : mi_np m181 ≤ st.length := c1
        replace c2 : cats (st.drop (mi_np m181)) ≤ 8 := c2
        replace c3 : as = (st.take (mi_np m181)).reverse := c3
        replace c6 : rest = st.drop (mi_np m181) := c6
        subst c6
        unfold isC at hisC
        split at hisC
        next b hb =>
          have hkb : kd h b = 11 := Nat.eq_of_beq_eq_true hisC
          obtain ⟨t1, t2⟩ := take_one h0 hb
          replace hok : (match lk (mi_ml m0) 7, lk X.2.1 7 with | some q, some w => okV (mi_own m0) 7 q.1 q.2 w | none, _ => true | _, _ => false) = true := hok
          rw [hq1] at hok
          cases hX7 : lk X.2.1 7 with
          | none => rw [hX7] at hok; cases hok
          | some w =>
            rw [hX7] at hok
            replace hok : okV (mi_own m0) 7 181 11 w = true := hok
            unfold okV at hok
            rw [pm181] at hok
            match w, hok with
            | [i1, i2, i3, i4, i5], hok =>
              simp only [Bool.and_eq_true, decide_eq_true_eq] at hok
              obtain ⟨⟨⟨⟨⟨⟨⟨hy, hnp⟩, w1⟩, w2⟩, w3⟩, w4⟩, hcl⟩, hw14⟩ := hok
              unfold okY at hy
              simp only [Bool.and_eq_true, decide_eq_true_eq] at hy
              obtain ⟨⟨⟨hmx, hy1⟩, hy2⟩, hown⟩ := hy
              have eas : as = .ref b :: (st.take (mi_np m181 - 1)).reverse := by rw [c3, t1]; simp
              have cw := cwV (R := R) (s := s) (args := args) (own := mi_own m0) (C := cnm 11) (index := 7) (y := mi_y m181) (bytes := mi_cc m181) (maxL := mi_mx m181) (ret := mi_rt m181) (ws := wsR m181) (rm := rmR d' (cn hf2 - cn h) (wd hf2 - wd h)) (mi_np m181 - 1) (cx_t C) (gi_tw (fun w hw => by
                unfold wsV at hw
                rcases List.mem_append.mp hw with z | z
                · simp only [List.mem_cons, List.not_mem_nil, or_false] at z
                  rcases z with rfl | rfl | rfl | rfl
                  · exact wat_s w1
                  · exact wat_s w2
                  · exact wat_s w3
                  · exact wat_s w4
                · exact hws w z)) rfl rfl rfl ⟨hcl, hy1, hy2, hnp⟩ ⟨by show d' + 12 + 1 ≤ _; omega, by show 8 + (mi_mx m181 + 11) + 64 * (d' + 12) ≤ _; omega⟩
              have hblt := RO_lt hO (cx_F C) (a := b) (Or.inl (by rw [hkb]; decide))
              have hbc := HR_lt hH (a := b) (by rw [hkb]; decide) hblt
              obtain ⟨q0, hq0⟩ := ws_get hbc (ce_o (G := G) hkb (by decide))
              rw [ad_lo hblt] at hq0
              have hrecv : ∃ cellB : Cell, H[ad G b]? = some cellB ∧ cellB.vm.isStatics = false ∧ s.vm.findClass (cnm 11) = some cellB.cls := va_recv (cx_K C) hH.2.2.2.2 (show vwCl[11]? = some _ from rfl) hq0
              have hpre : ∀ U : State, U.heap = H → s.WarmedH U.vm → PcR G as h (Value.ref (ad G b) :: ((st.take (mi_np m181 - 1)).reverse).map (vz G)).toArray U := fun U hU hW => ⟨by rw [eas]; rfl, FX_moved (cx_F C) hS hU hW, by rw [hU]; exact hH, hO⟩
              have hrunX := vx_runV (p := p) (e := e) (below := below) (meth := meth) (c := c) (H := H) (locs := locs) (cells := cells) (slots := slots) (As := ((st.take (mi_np m181 - 1)).reverse).map (vz G)) (rest := (st.drop (mi_np m181)).map (vz G)) (b := ad G b) (g := F0 mid 4 L (st.map (vz G))) ⟨C.1, C.2.1, C.2.2.2.1, cx_o C, cx_t C⟩ (led_met hst hini hc) cw ⟨PcR_blind G as h, hrecv, hpre⟩ rfl (by
                  rw [List.length_map, List.length_reverse, List.length_take]
                  exact Nat.min_eq_left (Nat.le_trans (Nat.sub_le _ _) c1)) hl.1 (by
                  have t3 := congrArg (List.map (vz G)) t2
                  show st.map (vz G) = _
                  refine t3.trans ?_
                  simp [vz]) (by show 2 * 0 + _ ≤ 8; rw [map_cats (cx_c C)]; omega) hd hfit
              intro T hT XT
              have hS9 : ∀ (st₀ t T' : State) (L2 : List Loc), st₀.heap = H → T'.heap = t.heap → (∀ q ∈ L2, gA G q.base) → va_F (gA G) st₀ t → va_S (gA G) s.heap T'.heap (locs ++ L2) := fun st₀ t T' L2 h00 e1 hL2 hF => ⟨Nat.le_trans hS.1 (by rw [e1]; have := hF.1; rw [h00] at this; exact this), fun q hq hA => by
                  rw [e1, hF.2 q (by rw [h00]; exact Nat.lt_of_lt_of_le hq hS.1) hA, h00]
                  exact hS.2.1 q hq hA, fun q hq => by
                  rcases List.mem_append.mp hq with z | z
                  · exact hS.2.2 q z
                  · exact hL2 q z⟩
              rcases hrunX T hT XT with ⟨v, st₀, t, T', L2, h00, X', hL2, e1, e2, hQ, go⟩ | ⟨q, st₀, t, T', L2, E, ce9, h00, X', hL2, e1, e2, hQ, hce, hcv, hcl9, go⟩
              · obtain ⟨⟨hv, hH1, hO1, hF⟩, hnr⟩ := hQ
                rcases hend with ⟨z, -⟩ | ⟨-, hrun⟩
                · exact absurd z hnr
                · have hv : v = rv.map (vz G) := by cases hv; rfl
                  have K := ih (d' + 1) _ r hf hrun C hst htab hz0 hR hcap hRW
                  have k1 := K L T'.heap (locs ++ L2) (cells + (cn hf2 - cn h)) (slots + (wd hf2 - wd h)) hl (by rw [e1]; exact hH1) hO1 (hS9 st₀ t T' L2 h00 e1 hL2 hF) (by show cn hf2 = _; omega) (by show wd hf2 = _; omega)
                  obtain ⟨t2, a1, b1⟩ := k1 T' rfl X'
                  refine ⟨t2, go t2 ?_, b1⟩
                  have es : v.toList ++ (st.drop (mi_np m181)).map (vz G) = (rv.toList ++ st.drop (mi_np m181)).map (vz G) := by
                    rw [hv]
                    cases rv <;> simp
                  rw [es]
                  exact a1
              · obtain ⟨hE9, hrv, hH1, hO1, hF⟩ := hQ
                subst hE9
                rcases hend with ⟨-, -, hrun⟩ | ⟨z, -⟩
                · obtain ⟨hr1, hf1⟩ := led_tail hrun
                  subst hr1
                  subst hf1
                  have kk : W p l e R s mid args below meth c T'.heap (locs ++ L2) (cells + (cn hf - cn h)) (slots + (wd hf - wd h)) Q (F0 mid 12 L [.ref q]) := lv_astore_n C.1 C.2.1 (show decode (mi_cc m0) 12 = .ok (.astore_n 3, 1) by decide +kernel) rfl (lvr_has hl) (by show 3 < 4; decide) rfl (fun L1 hL1 => lv_iconst C.1 C.2.1 (show decode (mi_cc m0) 13 = .ok (.iconst 1, 1) by decide +kernel) rfl (hRW 14 L1 T'.heap (locs ++ L2) _ _ (Or.inl ⟨1, rfl, by decide +kernel, rfl⟩) (by rw [e1]; exact hH1) hO1 (hS9 st₀ t T' L2 h00 e1 hL2 hF) (by omega) (by omega)))
                  obtain ⟨t2, a1, b1⟩ := vx_catch (own := RL) (name := xN) (E := xN) (ce := ce9) (rest := (st.drop (mi_np m181)).map (vz G)) (pc := 4) (ls := L) (cx_o C) [] ⟨0, 9, 12, 13⟩ [] htab (fun z hz => nomatch hz) (by decide) (by decide) (cx_t C _ led_c) (bad_at led_cast (Vm.Alike.refl _) ((cx_F C).2.2.2.2.2.2.2.2.2 _ led_cast)) (by rw [e1]; exact hce) hcv hcl9 kk T' rfl X'
                  exact ⟨t2, go.trans a1, b1⟩
                · exact absurd hrv z
        next => cases hisC
      · obtain ⟨rfl, rfl⟩ := pm0_link hq1
        rcases hw2 with z | z <;> cases z
      · obtain ⟨rfl, rfl⟩ := pm0_link hq1
        cases hw2
