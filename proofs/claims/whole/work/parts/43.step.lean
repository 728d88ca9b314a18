/-! one step of the abstract machine is one of the machine's -/
def WW (G : Gx) (p : Program) (l : Launch) (e : Env) (R : Room) (s : State) (mid : MethodId) (args : Array Value) (below : List Frame) (meth : Method) (c : Code) (Q : State → Prop) (m : MI) (k0 w0 : Nat) (x : Sx) : Prop :=
  ∀ (L : Array Slot) (H : Heap) (locs : List Loc) (cells slots : Nat), lvr G L (mi_mx m) x.2.1 → HR G x.2.2.2 H → RO G x.2.2.2 → va_S (gA G) s.heap H locs → cn x.2.2.2 = k0 + cells → wd x.2.2.2 = w0 + slots → W p l e R s mid args below meth c H locs cells slots Q (F0 mid x.1 L (x.2.2.1.map (vz G)))
section STEP
variable {G : Gx} {p : Program} {l : Launch} {e : Env} {R : Room} {s : State} {mid : MethodId} {args : Array Value} {below : List Frame} {meth : Method} {c : Code} {Q : State → Prop} {m : MI} {k0 w0 : Nat}
theorem cx_F (C : Cx G p s mid args meth c m) : FX G s := C.2.2.2.2.2.2.2.2
theorem cx_c (C : Cx G p s mid args meth c m) : (gw G).category = 1 := (cx_F C).2.2.2.2.2.1
theorem cx_o (C : Cx G p s mid args meth c m) : s.vm.findClass (mi_own m) = some mid.cls := C.2.2.2.2.1
theorem cx_t (C : Cx G p s mid args meth c m) : ∀ w ∈ tw, w.before args s = true := C.2.2.2.2.2.1
theorem cx_K (C : Cx G p s mid args meth c m) : va_K (gD G) vwCl (tysx G) s := (cx_F C).1
theorem br_K {b : Bool} {t n : Nat} {ls st : List Value} {h : Hp} (K : WW G p l e R s mid args below meth c Q m k0 w0 (cond b t n, ls, st, h)) : (b = true → WW G p l e R s mid args below meth c Q m k0 w0 (t, ls, st, h)) ∧ (b = false → WW G p l e R s mid args below meth c Q m k0 w0 (n, ls, st, h)) := by
  cases b with
  | true => exact ⟨(fun _ => K), (fun z => by cases z)⟩
  | false => exact ⟨(fun z => by cases z), (fun _ => K)⟩
theorem va_S_tr {A : Nat → Prop} {H0 H H1 : Heap} {locs locs1 : List Loc} (h1 : va_S A H0 H locs) (h2 : va_S A H H1 locs1) : va_S A H0 H1 locs1 := ⟨Nat.le_trans h1.1 h2.1, fun q hq hA => by rw [h2.2.1 q (Nat.lt_of_lt_of_le hq h1.1) hA]; exact h1.2.1 q hq hA, h2.2.2⟩
theorem va_S_at {A : Nat → Prop} {H0 H : Heap} {locs : List Loc} (h1 : va_S A H0 H locs) : va_S A H H locs := ⟨Nat.le_refl _, fun _ _ _ => rfl, h1.2.2⟩
/-- behind a write: nothing comes, so the heap is as large as it was -/
theorem put_end {h h' : Hp} {a q0 : Nat} {e1 e' : va_E} {pc : Nat} {ls st : List Value} {L : Array Slot} {H : Heap} {locs : List Loc} {cells slots : Nat} (hz0 : s.heap.size = gN G + k0) (hl : lvr G L (mi_mx m) ls) (hH : HR G h H) (hO : RO G h) (hS : va_S (gA G) s.heap H locs) (hc : cn h = k0 + cells) (hw : wd h = w0 + slots) (hd : Df h h' a) (ha : a < 1000000) (hq : (wsof G h)[q0]? = some (gN G + a, e1)) (he : ce G h' a = some e') (K : WW G p l e R s mid args below meth c Q m k0 w0 (pc, ls, st, h')) (H1 : Heap) (locs1 : List Loc) (hP1 : va_P (gD G) vwCl ((wsof G h).set q0 (gN G + a, e')) H1) (hS1 : va_S (gA G) H H1 locs1) : W p l e R s mid args below meth c H1 locs1 cells slots Q (F0 mid pc L (st.map (vz G))) := by
  intro T hT X
  have hz := X.heapSize
  rw [hT] at hz
  have hzz : H1.size = H.size := by
    have h1 := hS1.1
    have h2 := hH.1
    omega
  exact K L H1 locs1 cells slots hl (HR_df hd hH hzz hq he hP1) (RO_df hd ha hO) (va_S_tr hS hS1) (by show cn h' = _; rw [hd.2.1]; exact hc) (by show wd h' = _; rw [hd.2.2.1]; exact hw) T hT X
theorem map_cats (hw : (gw G).category = 1) (st : List Value) : ((st.map (vz G)).map fun v => v.category).sum = cats st := by
  unfold cats
  rw [List.map_map]
  congr 1
  exact List.map_congr_left (fun v _ => vz_cat hw v)
theorem fit_v {ty : FieldType} {v : Value} (h : (tk ty = 1 ∧ ∃ x, v = .int x) ∨ (tk ty = 2 ∧ ∃ x, v = .long x) ∨ (tk ty = 3 ∧ ∃ x, v = .ref x) ∨ (tk ty = 4 ∧ ∃ x, v = .int x ∧ isB x = true)) : narrow ty (vz G v) = vz G v ∧ fits ty (vz G v) = true := by
  rcases h with ⟨ht, x, rfl⟩ | ⟨ht, x, rfl⟩ | ⟨ht, x, rfl⟩ | ⟨ht, x, rfl, hb⟩
  · cases ty <;> first | (cases ht; done) | exact ⟨rfl, rfl⟩
  · cases ty <;> first | (cases ht; done) | exact ⟨rfl, rfl⟩
  · cases ty <;> first | (cases ht; done) | exact ⟨rfl, rfl⟩
  · unfold isB at hb
    simp only [Bool.or_eq_true, beq_iff_eq] at hb
    cases ty <;> first | (cases ht; done) | (rcases hb with rfl | rfl <;> exact ⟨rfl, rfl⟩)
theorem st_getf (C : Cx G p s mid args meth c m) {k ci j w a pc : Nat} {ls r : List Value} {h : Hp} {v : Value} (hok : okF (mi_own m) k ci j w = true) (hg : gF h a ci j = some v) (hd : decode (mi_cc m) pc = .ok (.getfield k, 3)) (K : WW G p l e R s mid args below meth c Q m k0 w0 (pc + 3, ls, v :: r, h)) : WW G p l e R s mid args below meth c Q m k0 w0 (pc, ls, .ref a :: r, h) := by
  intro L H locs cells slots hl hH hO hS hc hw
  obtain ⟨hka, rfl⟩ := gF_inv hg
  have k1 := K L H locs cells slots hl hH hO hS hc hw
  unfold okF at hok
  by_cases h50 : ci = 50
  · rw [if_pos h50] at hok
    simp only [Bool.and_eq_true, decide_eq_true_eq] at hok
    have ha : 1000000 ≤ a := by
      by_cases hlt : a < 1000000
      · exact absurd (hka.trans h50) (hH.2.2.2.1 a hlt)
      · omega
    obtain ⟨o1, o2, o3, o4⟩ := hO a ha
    have hx := (((cx_F C).2.1 a ha).2.2.1 (by rw [← o1, hka, h50])).2 j hok.1
    have hv : fval h ci a j = fval (gh G) 50 a j := by
      rw [h50]
      unfold fval ftk
      rw [if_pos rfl]
      by_cases hj0 : j = 0
      · simp [hj0, o3]
      · have hj1 : j = 1 := by omega
        simp [hj1, o2]
    rw [hv] at k1
    exact vk_getf C.1 C.2.1 hx hS (cx_o C) (cx_t C _ (wat_s hok.2)) (fun _ z => z) hd k1
  · rw [if_neg h50] at hok
    cases hr : vwCl[ci]? with
    | none => rw [hr] at hok; cases hok
    | some q =>
      rw [hr] at hok
      obtain ⟨CC, T, N⟩ := q
      simp only [Bool.and_eq_true, decide_eq_true_eq, Bool.or_eq_true] at hok
      obtain ⟨hc14, hV⟩ := vk_all hr
      have hnf : nf ci = N := by unfold nf; rw [hr]
      have ha := RO_lt hO (cx_F C) (a := a) (Or.inl (by rw [hka]; exact hc14))
      have halt := HR_lt hH (a := a) (by rw [hka]; omega) ha
      obtain ⟨q0, hq0⟩ := ws_get halt (ce_o (G := G) hka hc14)
      have had : gN G + a = ad G a := by unfold ad; rw [if_pos ha]
      rw [had] at hq0
      have hv := fls_get (G := G) (h := h) (a := a) (ci := ci) (k := j) (by rw [hnf]; exact hok.1)
      rcases hok.2 with z | z
      · exact va_get C.1 C.2.1 (cx_t C) hV.1 (cx_o C) (cx_K C) hH.2.2.2.2 q0 hq0 hr j hok.1 (cx_t C _ (wat_s z)) (fun _ z => z) hv hd k1
      · exact va_getN C.1 C.2.1 (cx_t C) hV.1 (cx_o C) (cx_K C) hH.2.2.2.2 q0 hq0 hr j hok.1 (va_Nw.use rfl ((cx_F C).2.2.2.2.1 _ (watN_s z))) (fun _ z => z) hv hd k1
theorem st_putf (C : Cx G p s mid args meth c m) (hz0 : s.heap.size = gN G + k0) {k ci j w a pc : Nat} {ls r : List Value} {h h' : Hp} {v : Value} (hok : okP (mi_own m) (mi_y m).name k ci j w = true) (hg : pF h a ci j v = some h') (hd : decode (mi_cc m) pc = .ok (.putfield k, 3)) (K : WW G p l e R s mid args below meth c Q m k0 w0 (pc + 3, ls, r, h')) : WW G p l e R s mid args below meth c Q m k0 w0 (pc, ls, v :: .ref a :: r, h) := by
  intro L H locs cells slots hl hH hO hS hc hw
  obtain ⟨hka, hdf, hv1, hv2, hvt⟩ := pF_inv hg
  unfold okP at hok
  cases hr : vwCl[ci]? with
  | none => rw [hr] at hok; cases hok
  | some q =>
    rw [hr] at hok
    obtain ⟨CC, T, N⟩ := q
    simp only [Bool.and_eq_true, decide_eq_true_eq, Bool.or_eq_true, Bool.not_eq_true'] at hok
    obtain ⟨hc14, hV1, hV2, ty, hty, hct⟩ := vk_all hr
    have hnf : nf ci = N := by unfold nf; rw [hr]
    have ha := RO_lt hO (cx_F C) (a := a) (Or.inl (by rw [hka]; exact hc14))
    have halt := HR_lt hH (a := a) (by rw [hka]; omega) ha
    obtain ⟨q0, hq0⟩ := ws_get halt (ce_o (G := G) hka hc14)
    have had : gN G + a = ad G a := by unfold ad; rw [if_pos ha]
    have hjn : j < nf ci := by rw [hnf]; exact hok.1
    have hfl : j < (fls G h ci a).length := by rw [fls_len]; exact hjn
    have hft : ftk ci j = tk (ty j) := cty_ftk (by omega) hct hok.1
    rw [hft] at hvt
    obtain ⟨hn, hfit⟩ := fit_v (G := G) hvt
    have hka' : kd h' a = ci := by rw [hdf.1]; exact hka
    have hce : ce G h' a = some (.inr (ci, (fls G h ci a).set j (vz G v))) := by
      rw [ce_o hka' hc14, fls_set hjn hv1 hv2]
    have fin := put_end (l := l) (e := e) (R := R) (args := args) (below := below) (meth := meth) (c := c) (Q := Q) hz0 hl hH hO hS hc hw hdf ha hq0 hce K
    rcases hok.2 with ⟨z, hf⟩ | ⟨z, hf⟩
    · by_cases hfin : (T j).2.2.2 = true
      · have hf2 : (mi_y m).name = "<init>" ∧ (T j).1 = mi_own m := by
          rcases hf with hf | hf
          · rw [hfin] at hf; cases hf
          · exact hf
        have := va_putF (l := l) (e := e) (R := R) (below := below) (meth := meth) (Q := Q) (cells := cells) (slots := slots) (ls := L) (rest := r.map (vz G)) (A := gA G) (H0 := H) C.1 C.2.1 (cx_t C) hV1 ty hty hV2 (cx_o C) (cx_K C) hH.2.2.2.2 (ws_D G h) (va_S_at hS) q0 hq0 hr j hok.1 (cx_t C _ (wat_s z)) (fun _ z => z) hfin (by rw [C.2.2.2.2.2.2.2.1]; exact hf2.1) hf2.2 (hty j hok.1) hn hfit hfl hd (fun H1 locs1 hP1 _ hS1 => fin H1 locs1 hP1 hS1)
        rw [had] at this
        exact this
      · have hfin2 : (T j).2.2.2 = false := by simpa using hfin
        have := va_put (l := l) (e := e) (R := R) (below := below) (meth := meth) (Q := Q) (cells := cells) (slots := slots) (ls := L) (rest := r.map (vz G)) (A := gA G) (H0 := H) C.1 C.2.1 (cx_t C) hV1 ty hty hV2 (cx_o C) (cx_K C) hH.2.2.2.2 (ws_D G h) (va_S_at hS) q0 hq0 hr j hok.1 (cx_t C _ (wat_s z)) (fun _ z => z) hfin2 (hty j hok.1) hn hfit hfl hd (fun H1 locs1 hP1 _ hS1 => fin H1 locs1 hP1 hS1)
        rw [had] at this
        exact this
    · have := va_putN (l := l) (e := e) (R := R) (below := below) (meth := meth) (Q := Q) (cells := cells) (slots := slots) (ls := L) (rest := r.map (vz G)) (A := gA G) (H0 := H) C.1 C.2.1 (cx_t C) hV1 ty hty hV2 (cx_o C) (cx_K C) hH.2.2.2.2 (ws_D G h) (va_S_at hS) q0 hq0 hr j hok.1 (va_Nw.use rfl ((cx_F C).2.2.2.2.1 _ (watN_s z))) (fun _ z => z) hf (hty j hok.1) hn hfit hfl hd (fun H1 locs1 hP1 _ hS1 => fin H1 locs1 hP1 hS1)
      rw [had] at this
      exact this
theorem ad_lo {a : Nat} (ha : a < 1000000) : gN G + a = ad G a := by unfold ad; rw [if_pos ha]
theorem st_iald (C : Cx G p s mid args meth c m) {a pc : Nat} {ls r : List Value} {h : Hp} {j x : Int32} (hg : aI h 100 a j = some x) (hd : decode (mi_cc m) pc = .ok (.iaload, 1)) (K : WW G p l e R s mid args below meth c Q m k0 w0 (pc + 1, ls, .int x :: r, h)) : WW G p l e R s mid args below meth c Q m k0 w0 (pc, ls, .int j :: .ref a :: r, h) := by
  intro L H locs cells slots hl hH hO hS hc hw
  obtain ⟨hka, hin, rfl⟩ := aI_inv hg
  have k1 := K L H locs cells slots hl hH hO hS hc hw
  by_cases ha : a < 1000000
  · have halt := HR_lt hH (a := a) (by rw [hka]; decide) ha
    obtain ⟨q0, hq0⟩ := ws_get halt (ce_i (G := G) hka)
    rw [ad_lo ha] at hq0
    exact va_iald C.1 C.2.1 (cx_K C) hH.2.2.2.2 q0 0 hq0 rfl hin hd k1
  · obtain ⟨o1, o2, o3, o4⟩ := hO a (by omega)
    have hx := ((cx_F C).2.1 a (by omega)).1 (by rw [← o1, hka])
    rw [o4] at hin k1
    exact va_ti C.1 C.2.1 hx hS hin rfl hd k1
theorem st_bald (C : Cx G p s mid args meth c m) {a pc : Nat} {ls r : List Value} {h : Hp} {j x : Int32} (hg : aI h 101 a j = some x) (hd : decode (mi_cc m) pc = .ok (.baload, 1)) (K : WW G p l e R s mid args below meth c Q m k0 w0 (pc + 1, ls, .int x :: r, h)) : WW G p l e R s mid args below meth c Q m k0 w0 (pc, ls, .int j :: .ref a :: r, h) := by
  intro L H locs cells slots hl hH hO hS hc hw
  obtain ⟨hka, hin, rfl⟩ := aI_inv hg
  have k1 := K L H locs cells slots hl hH hO hS hc hw
  by_cases ha : a < 1000000
  · have halt := HR_lt hH (a := a) (by rw [hka]; decide) ha
    obtain ⟨q0, hq0⟩ := ws_get halt (ce_b (G := G) hka)
    rw [ad_lo ha] at hq0
    exact va_bald C.1 C.2.1 (cx_K C) hH.2.2.2.2 q0 1 hq0 rfl hin hd k1
  · obtain ⟨o1, o2, o3, o4⟩ := hO a (by omega)
    have hx := ((cx_F C).2.1 a (by omega)).2.1 (by rw [← o1, hka])
    rw [o4] at hin k1
    exact va_tb C.1 C.2.1 hx hS hin rfl hd k1
theorem st_lald (C : Cx G p s mid args meth c m) {a pc : Nat} {ls r : List Value} {h : Hp} {j : Int32} {x : Int64} (hg : aL h a j = some x) (hd : decode (mi_cc m) pc = .ok (.laload, 1)) (K : WW G p l e R s mid args below meth c Q m k0 w0 (pc + 1, ls, .long x :: r, h)) : WW G p l e R s mid args below meth c Q m k0 w0 (pc, ls, .int j :: .ref a :: r, h) := by
  intro L H locs cells slots hl hH hO hS hc hw
  obtain ⟨hka, hin, rfl⟩ := aL_inv hg
  have k1 := K L H locs cells slots hl hH hO hS hc hw
  have ha := RO_lt hO (cx_F C) (a := a) (Or.inr hka)
  have halt := HR_lt hH (a := a) (by rw [hka]; decide) ha
  obtain ⟨q0, hq0⟩ := ws_get halt (ce_j (G := G) hka)
  rw [ad_lo ha] at hq0
  exact va_lald C.1 C.2.1 (cx_K C) hH.2.2.2.2 q0 2 hq0 rfl hin hd k1
theorem st_iast (C : Cx G p s mid args meth c m) (hz0 : s.heap.size = gN G + k0) {a pc : Nat} {ls r : List Value} {h h' : Hp} {j x : Int32} (hg : sI h 100 a j x = some h') (hd : decode (mi_cc m) pc = .ok (.iastore, 1)) (K : WW G p l e R s mid args below meth c Q m k0 w0 (pc + 1, ls, r, h')) : WW G p l e R s mid args below meth c Q m k0 w0 (pc, ls, .int x :: .int j :: .ref a :: r, h) := by
  intro L H locs cells slots hl hH hO hS hc hw
  obtain ⟨hka, ha, hin, hlt, rfl⟩ := sI_inv hg
  have halt := HR_lt hH (a := a) (by rw [hka]; decide) ha
  obtain ⟨q0, hq0⟩ := ws_get halt (ce_i (G := G) hka)
  have hce : ce G (sIA h a ((iA h a).set j.toNatClampNeg x)) a = some (.inl ((gC G).1, (iA h a).length, .inl (upd (fun j => (iA h a).getD j 0) j.toNatClampNeg x))) := by
    rw [ce_i (show kd (sIA h a _) a = 100 from hka), iA_sIA, List.length_set, setA_getD _ _ _ hlt]
  have fin := put_end (l := l) (e := e) (R := R) (args := args) (below := below) (meth := meth) (c := c) (Q := Q) hz0 hl hH hO hS hc hw (Df_A h a _) ha hq0 hce K
  have := va_iast (l := l) (e := e) (R := R) (args := args) (below := below) (meth := meth) (Q := Q) (cells := cells) (slots := slots) (ls := L) (rest := r.map (vz G)) (A := gA G) (H0 := H) C.1 C.2.1 (cx_K C) hH.2.2.2.2 (ws_D G h) (va_S_at hS) q0 0 hq0 rfl hin hd (fun H1 locs1 hP1 _ hS1 => fin H1 locs1 hP1 hS1)
  rw [ad_lo ha] at this
  exact this
theorem st_bast (C : Cx G p s mid args meth c m) (hz0 : s.heap.size = gN G + k0) {a pc : Nat} {ls r : List Value} {h h' : Hp} {j x : Int32} (hg : sI h 101 a j x.toInt8.toInt32 = some h') (hd : decode (mi_cc m) pc = .ok (.bastore, 1)) (K : WW G p l e R s mid args below meth c Q m k0 w0 (pc + 1, ls, r, h')) : WW G p l e R s mid args below meth c Q m k0 w0 (pc, ls, .int x :: .int j :: .ref a :: r, h) := by
  intro L H locs cells slots hl hH hO hS hc hw
  obtain ⟨hka, ha, hin, hlt, rfl⟩ := sI_inv hg
  have halt := HR_lt hH (a := a) (by rw [hka]; decide) ha
  obtain ⟨q0, hq0⟩ := ws_get halt (ce_b (G := G) hka)
  have hce : ce G (sIA h a ((iA h a).set j.toNatClampNeg x.toInt8.toInt32)) a = some (.inl ((gC G).2.1, (iA h a).length, .inl (upd (fun j => (iA h a).getD j 0) j.toNatClampNeg (vp_nar .byte x)))) := by
    rw [ce_b (show kd (sIA h a _) a = 101 from hka), iA_sIA, List.length_set, vp_nar_byte, setA_getD _ _ _ hlt]
  have fin := put_end (l := l) (e := e) (R := R) (args := args) (below := below) (meth := meth) (c := c) (Q := Q) hz0 hl hH hO hS hc hw (Df_A h a _) ha hq0 hce K
  have := va_bast (l := l) (e := e) (R := R) (args := args) (below := below) (meth := meth) (Q := Q) (cells := cells) (slots := slots) (ls := L) (rest := r.map (vz G)) (A := gA G) (H0 := H) C.1 C.2.1 (cx_K C) hH.2.2.2.2 (ws_D G h) (va_S_at hS) q0 1 hq0 rfl hin hd (fun H1 locs1 hP1 _ hS1 => fin H1 locs1 hP1 hS1)
  rw [ad_lo ha] at this
  exact this
theorem st_last (C : Cx G p s mid args meth c m) (hz0 : s.heap.size = gN G + k0) {a pc : Nat} {ls r : List Value} {h h' : Hp} {j : Int32} {x : Int64} (hg : sL h a j x = some h') (hd : decode (mi_cc m) pc = .ok (.lastore, 1)) (K : WW G p l e R s mid args below meth c Q m k0 w0 (pc + 1, ls, r, h')) : WW G p l e R s mid args below meth c Q m k0 w0 (pc, ls, .long x :: .int j :: .ref a :: r, h) := by
  intro L H locs cells slots hl hH hO hS hc hw
  obtain ⟨hka, ha, hin, hlt, rfl⟩ := sL_inv hg
  have halt := HR_lt hH (a := a) (by rw [hka]; decide) ha
  obtain ⟨q0, hq0⟩ := ws_get halt (ce_j (G := G) hka)
  have hce : ce G (sLA h a ((lA h a).set j.toNatClampNeg x)) a = some (.inl ((gC G).2.2, (lA h a).length, .inr (.inl (vp_updL (fun j => (lA h a).getD j 0) j.toNatClampNeg x)))) := by
    rw [ce_j (show kd (sLA h a _) a = 102 from hka), lA_sLA, List.length_set, setA_getDL _ _ _ hlt]
  have fin := put_end (l := l) (e := e) (R := R) (args := args) (below := below) (meth := meth) (c := c) (Q := Q) hz0 hl hH hO hS hc hw (Df_J h a _) ha hq0 hce K
  have := va_last (l := l) (e := e) (R := R) (args := args) (below := below) (meth := meth) (Q := Q) (cells := cells) (slots := slots) (ls := L) (rest := r.map (vz G)) (A := gA G) (H0 := H) C.1 C.2.1 (cx_K C) hH.2.2.2.2 (ws_D G h) (va_S_at hS) q0 2 hq0 rfl hin hd (fun H1 locs1 hP1 _ hS1 => fin H1 locs1 hP1 hS1)
  rw [ad_lo ha] at this
  exact this
theorem st_copy (C : Cx G p s mid args meth c m) (hz0 : s.heap.size = gN G + k0) (hR : 1 ≤ R.frames ∧ 64 ≤ R.locals) {k a b pc : Nat} {is : List Nat} {ls r : List Value} {h h' : Hp} {sp dp n : Int32} (hok : okS (mi_own m) k 1001 is = true) (hcat : cats r ≤ 8) (hg : cpI h a sp b dp n = some h') (hd : decode (mi_cc m) pc = .ok (.invokestatic k, 3)) (K : WW G p l e R s mid args below meth c Q m k0 w0 (pc + 3, ls, r, h')) : WW G p l e R s mid args below meth c Q m k0 w0 (pc, ls, .int n :: .int dp :: .ref b :: .int sp :: .ref a :: r, h) := by
  intro L H locs cells slots hl hH hO hS hc hw
  obtain ⟨hka, hkb, ha, hb, h1, h2, h3, h4, h5, rfl⟩ := cpI_inv hg
  have halt := HR_lt hH (a := a) (by rw [hka]; decide) ha
  have hblt := HR_lt hH (a := b) (by rw [hkb]; decide) hb
  obtain ⟨q0, hq0⟩ := ws_get halt (ce_i (G := G) hka)
  obtain ⟨q1, hq1⟩ := ws_get hblt (ce_i (G := G) hkb)
  have hce : ce G (sIA h b (cpy (iA h a) (iA h b) sp.toNatClampNeg dp.toNatClampNeg n.toNatClampNeg)) b = some (.inl ((gC G).1, (iA h b).length, .inl (va_cpy (fun j => (iA h a).getD j 0) (fun j => (iA h b).getD j 0) sp.toNatClampNeg dp.toNatClampNeg n.toNatClampNeg))) := by
    rw [ce_i (show kd (sIA h b _) b = 100 from hkb), iA_sIA, cpy_len h4 h5, cpy_getD h4 h5]
  have fin := put_end (l := l) (e := e) (R := R) (args := args) (below := below) (meth := meth) (c := c) (Q := Q) hz0 hl hH hO hS hc hw (Df_A h b _) hb hq1 hce K
  unfold okS at hok
  rw [if_pos rfl] at hok
  match is, hok with
  | [i1, i2, i3, i4], hok =>
    simp only [Bool.and_eq_true] at hok
    obtain ⟨⟨⟨w1, w2⟩, w3⟩, w4⟩ := hok
    have := va_copyi (l := l) (e := e) (R := R) (below := below) (meth := meth) (Q := Q) (cells := cells) (slots := slots) (ls := L) (rest := r.map (vz G)) (A := gA G) (H0 := H) C.1 C.2.1 (by rw [C.2.2.2.1, hl.1]) (cx_o C) (cx_t C _ (wat_s w1)) (cx_t C _ (wat_s w2)) (cx_t C _ (wat_s w3)) (cx_t C _ (wat_s w4)) (cx_K C) hH.2.2.2.2 (ws_D G h) (va_S_at hS) q0 q1 0 0 hq0 hq1 rfl rfl rfl h1 h2 h3 h4 h5 (fun i _ => rfl) hR.1 (by
      rw [map_cats (cx_c C)]
      have : nativeFrameWords "java/lang/System" "arraycopy" 5 + 11 ≤ 56 := by decide
      omega) hd (fun H1 locs1 hP1 _ hS1 => fin H1 locs1 hP1 hS1)
    rw [ad_lo ha, ad_lo hb] at this
    exact this
theorem st_alen (C : Cx G p s mid args meth c m) {a pc : Nat} {ls r : List Value} {h : Hp} {x : Int32} (hg : aN h a = some x) (hd : decode (mi_cc m) pc = .ok (.arraylength, 1)) (K : WW G p l e R s mid args below meth c Q m k0 w0 (pc + 1, ls, .int x :: r, h)) : WW G p l e R s mid args below meth c Q m k0 w0 (pc, ls, .ref a :: r, h) := by
  intro L H locs cells slots hl hH hO hS hc hw
  have k1 := K L H locs cells slots hl hH hO hS hc hw
  unfold aN at hg
  by_cases h1 : kd h a = 100 ∨ kd h a = 101
  · rw [if_pos h1] at hg
    cases hg
    by_cases ha : a < 1000000
    · have halt := HR_lt hH (a := a) (by rcases h1 with z | z <;> (show kd h a ≠ 999) <;> rw [z] <;> decide) ha
      rcases h1 with h1 | h1
      · obtain ⟨q0, hq0⟩ := ws_get halt (ce_i (G := G) h1)
        rw [ad_lo ha] at hq0
        exact va_alen C.1 C.2.1 (cx_K C) hH.2.2.2.2 q0 0 hq0 rfl rfl hd k1
      · obtain ⟨q0, hq0⟩ := ws_get halt (ce_b (G := G) h1)
        rw [ad_lo ha] at hq0
        exact va_alen C.1 C.2.1 (cx_K C) hH.2.2.2.2 q0 1 hq0 rfl rfl hd k1
    · obtain ⟨o1, o2, o3, o4⟩ := hO a (by omega)
      rw [o4] at k1
      rcases h1 with h1 | h1
      · exact va_tlen C.1 C.2.1 (((cx_F C).2.1 a (by omega)).1 (by rw [← o1, h1])) hS rfl hd k1
      · exact va_tlen C.1 C.2.1 (((cx_F C).2.1 a (by omega)).2.1 (by rw [← o1, h1])) hS rfl hd k1
  · rw [if_neg h1] at hg
    by_cases h2 : kd h a = 102
    · rw [if_pos h2] at hg
      cases hg
      have ha := RO_lt hO (cx_F C) (a := a) (Or.inr h2)
      have halt := HR_lt hH (a := a) (by show kd h a ≠ 999; rw [h2]; decide) ha
      obtain ⟨q0, hq0⟩ := ws_get halt (ce_j (G := G) h2)
      rw [ad_lo ha] at hq0
      exact va_alen C.1 C.2.1 (cx_K C) hH.2.2.2.2 q0 2 hq0 rfl rfl hd k1
    · rw [if_neg h2] at hg; cases hg
end STEP
