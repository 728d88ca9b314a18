/-! what holds at a method's start, of the tables and of what is only read; the heap's rows -/
theorem nw_warm {w : Cond} {s U : State} (hn : isNest w = true) (hW : s.WarmedH U.vm) (h : va_Nw w s) : va_Nw w U := by
  cases w with
  | fieldLinkNest a i b n d g => exact va_Nw.warmF hW h
  | methodLinkNest a i x g => exact va_Nw.warmM hW h
  | _ => cases hn
def ROx (G : Gx) (s : State) : Prop := ∀ i, 1000000 ≤ i →
  (kd (gh G) i = 100 → va_T .int (ad G i) (iA (gh G) i).length (fun j => .int ((iA (gh G) i).getD j 0)) (gA G) s s.heap) ∧
  (kd (gh G) i = 101 → va_T .byte (ad G i) (iA (gh G) i).length (fun j => .int ((iA (gh G) i).getD j 0)) (gA G) s s.heap) ∧
  (kd (gh G) i = 50 → va_O "java/lang/String" (ad G i) (gA G) s s.heap ∧ ∀ j, j < 2 → va_OF "java/lang/String" (sgf j).1 (sgf j).2 (vz G (fval (gh G) 50 i j)) (ad G i) (gA G) s s.heap) ∧
  (kd (gh G) i = 100 ∨ kd (gh G) i = 101 ∨ kd (gh G) i = 50 ∨ kd (gh G) i = 999)
def STx (G : Gx) (s : State) : Prop := va_Z "CorkStreet$State" "LIFT" "[I" (.ref (ad G 1000001)) (gA G) s s.heap ∧ va_Z "CorkStreet$State" "EATEN_FIRST" "[I" (.ref (ad G 1000002)) (gA G) s s.heap ∧ va_Z "java/lang/String" "COMPACT_STRINGS" "Z" (.int 1) (gA G) s s.heap ∧ va_Z "jdk/internal/util/Preconditions" "SIOOBE_FORMATTER" "Ljava/util/function/BiFunction;" (gw G) (gA G) s s.heap
def tysx (G : Gx) : List (ClassId × FieldType) := [((gC G).1, .int), ((gC G).2.1, .byte), ((gC G).2.2, .long)]
/-! what the throw of CorkStreet.led needs -/
def xN : String := "java/util/NoSuchElementException"
def xat : List Cond := nx_at RX11 373 xN ["java/lang/RuntimeException", "java/lang/Exception"]
def xbad : List Cond := xat.filter (fun w => !goodWord w)
theorem xat_in : ∀ w ∈ xat, w ∈ lw_tbl := by decide +kernel
theorem xbad_ok : ∀ w ∈ xbad, w.onTables = true ∧ w.faceAtom = true := by decide +kernel
theorem bad_at {w : Cond} {s U : State} {args a' : Array Value} (hw : w ∈ xbad) (hA : s.vm.Alike U.vm) (h : w.before args s = true) : w.before a' U = true :=
  va_tabs (xbad_ok w hw).1 (show (s.setVm U.vm).vm = U.vm from rfl) (Cond.faceAtom_setVm hA w (xbad_ok w hw).2 h)
def EXx (G : Gx) (s : State) : Prop := vx_Zq Bundle.tN "UNASSIGNED_STACK" Bundle.steD (gA G) s s.heap ∧ vx_Zq Bundle.tN "SUPPRESSED_SENTINEL" Bundle.listD (gA G) s s.heap ∧ ∀ w ∈ xbad, w.before #[] s = true
theorem EXx_moved {G : Gx} {s U : State} (h : EXx G s) (hk : ∀ a : Nat, a < s.heap.size → ¬ gA G a → U.heap[a]? = s.heap[a]?) (hA : s.vm.Alike U.vm) : EXx G U := ⟨(h.1.kept hk).moved hA, (h.2.1.kept hk).moved hA, fun w hw => bad_at hw hA (h.2.2 w hw)⟩
def FX (G : Gx) (s : State) : Prop := va_K (gD G) vwCl (tysx G) s ∧ ROx G s ∧ STx G s ∧ (∀ q ∈ stT, vk_R q.1 q.2.1 q.2.2.1 (ad G q.2.2.2) s) ∧ (∀ w ∈ nw, va_Nw w s) ∧ (gw G).category = 1 ∧ gN G ≤ s.heap.size ∧ EXx G s
theorem FX_moved {G : Gx} {s U : State} {H : Heap} {locs : List Loc} (h : FX G s) (hS : va_S (gA G) s.heap H locs) (hU : U.heap = H) (hW : s.WarmedH U.vm) : FX G U := by
  obtain ⟨h1, h2, h3, h4, h5, h6, h7, h8⟩ := h
  have hk : ∀ a : Nat, a < s.heap.size → ¬ gA G a → U.heap[a]? = s.heap[a]? := fun a ha hn => by rw [hU]; exact hS.2.1 a ha hn
  refine ⟨va_K.moved hW.alike h1, fun i hi => ?_, ?_, fun q hq => vk_R.warm hW (h4 q hq), fun w hw => nw_warm (List.mem_filter.mp hw).2 hW (h5 w hw), h6, Nat.le_trans h7 (by rw [hU]; exact hS.1), EXx_moved h8 hk hW.alike⟩
  · obtain ⟨a1, a2, a3, a4⟩ := h2 i hi
    exact ⟨fun z => ((a1 z).kept hk).moved hW.alike, fun z => ((a2 z).kept hk).moved hW.alike, fun z => ⟨((a3 z).1.kept hk).moved hW.alike, fun j hj => (((a3 z).2 j hj).kept hk).moved hW.alike⟩, a4⟩
  · obtain ⟨a1, a2, a3, a4⟩ := h3
    exact ⟨(a1.kept hk).moved hW.alike, (a2.kept hk).moved hW.alike, (a3.kept hk).moved hW.alike, (a4.kept hk).moved hW.alike⟩
/-- the same tables and the same heap -/
theorem FX_same {G : Gx} {s U : State} (h : FX G s) (hU : U.heap = s.heap) (hv : U.vm = s.vm) : FX G U := by
  obtain ⟨h1, h2, h3, h4, h5, h6, h7, h8⟩ := h
  have hA : s.vm.Alike U.vm := by rw [hv]; exact Vm.Alike.refl _
  refine ⟨va_K.moved hA h1, fun i hi => ?_, ?_, fun q hq => vk_R.same hv (h4 q hq), fun w hw => ?_, h6, by rw [hU]; exact h7, EXx_moved h8 (fun a _ _ => by rw [hU]) hA⟩
  · obtain ⟨a1, a2, a3, a4⟩ := h2 i hi
    rw [hU]
    exact ⟨fun z => (a1 z).moved hA, fun z => (a2 z).moved hA, fun z => ⟨(a3 z).1.moved hA, fun j hj => ((a3 z).2 j hj).moved hA⟩, a4⟩
  · obtain ⟨a1, a2, a3, a4⟩ := h3
    unfold STx
    rw [hU]
    exact ⟨a1.moved hA, a2.moved hA, a3.moved hA, a4.moved hA⟩
  · have hn := (List.mem_filter.mp hw).2
    have := h5 w hw
    cases w with
    | fieldLinkNest a i b n d g => exact va_Nw.same rfl hv.symm this
    | methodLinkNest a i x g => exact va_Nw.same rfl hv.symm this
    | _ => cases hn
def Cx (G : Gx) (p : Program) (s : State) (mid : MethodId) (args : Array Value) (meth : Method) (c : Code) (m : MI) : Prop := p.tables.exec = Jvm.exec ∧ c.code = mi_cc m ∧ meth.sig.returnType = mi_rt m ∧ c.maxLocals = mi_mx m ∧ s.vm.findClass (mi_own m) = some mid.cls ∧ (∀ w ∈ tw, w.before args s = true) ∧ meth.locks = false ∧ meth.name = (mi_y m).name ∧ FX G s
/-! the heap's changes -/
theorem ce_of {G : Gx} {h h' : Hp} {i : Nat} (h1 : kd h' i = kd h i) (h2 : fI h' i = fI h i) (h3 : fL h' i = fL h i) (h4 : fR h' i = fR h i) (h5 : iA h' i = iA h i) (h6 : lA h' i = lA h i) : ce G h' i = ce G h i := by
  unfold ce fls fval
  rw [h1, h2, h3, h4, h5, h6]
theorem ce_o {G : Gx} {h : Hp} {a ci : Nat} (hk : kd h a = ci) (hc : ci < 14) : ce G h a = some (.inr (ci, fls G h ci a)) := by
  unfold ce
  rw [if_pos (by rw [hk]; exact hc), hk]
theorem ce_i {G : Gx} {h : Hp} {a : Nat} (hk : kd h a = 100) : ce G h a = some (.inl ((gC G).1, (iA h a).length, .inl (fun j => (iA h a).getD j 0))) := by
  unfold ce
  rw [if_neg (by rw [hk]; decide), if_pos hk]
theorem ce_b {G : Gx} {h : Hp} {a : Nat} (hk : kd h a = 101) : ce G h a = some (.inl ((gC G).2.1, (iA h a).length, .inl (fun j => (iA h a).getD j 0))) := by
  unfold ce
  rw [if_neg (by rw [hk]; decide), if_neg (by rw [hk]; decide), if_pos hk]
theorem ce_j {G : Gx} {h : Hp} {a : Nat} (hk : kd h a = 102) : ce G h a = some (.inl ((gC G).2.2, (lA h a).length, .inr (.inl (fun j => (lA h a).getD j 0)))) := by
  unfold ce
  rw [if_neg (by rw [hk]; decide), if_neg (by rw [hk]; decide), if_neg (by rw [hk]; decide), if_pos hk]
theorem HR_lt {G : Gx} {h : Hp} {H : Heap} (hH : HR G h H) {a : Nat} (hk : kd h a ≠ 999) (ha : a < 1000000) : a < cn h := by
  by_cases hc : a < cn h
  · exact hc
  · exact absurd (hH.2.2.1 a (by omega) ha) hk
theorem RO_lt {G : Gx} {h : Hp} {s : State} (hO : RO G h) (hF : FX G s) {a : Nat} (h1 : kd h a < 14 ∨ kd h a = 102) : a < 1000000 := by
  by_cases hc : a < 1000000
  · exact hc
  · have e := (hO a (by omega)).1
    have := (hF.2.1 a (by omega)).2.2.2
    omega
theorem fls_len (G : Gx) (h : Hp) (ci a : Nat) : (fls G h ci a).length = nf ci := by unfold fls; simp
theorem fls_get {G : Gx} {h : Hp} {ci a k : Nat} (hk : k < nf ci) : (fls G h ci a)[k]? = some (vz G (fval h ci a k)) := by
  unfold fls; simp [hk]
theorem up2_row {α : Type} (f : Nat → Nat → α) (a k : Nat) (v : α) {i : Nat} (hi : i ≠ a) : up2 f a k v i = f i := by
  funext y; unfold up2; rw [if_neg (fun z => hi z.1)]
/-- one field changes: v' is the new value -/
theorem fls_set {G : Gx} {h h' : Hp} {ci a k : Nat} {v : Value} (hk : k < nf ci) (hv : fval h' ci a k = v) (ho : ∀ j, j ≠ k → fval h' ci a j = fval h ci a j) : fls G h' ci a = (fls G h ci a).set k (vz G v) := by
  apply List.ext_getElem?
  intro j
  rw [List.getElem?_set]
  by_cases hj : k = j
  · subst hj
    rw [if_pos rfl, fls_len, if_pos hk, fls_get hk, hv]
  · rw [if_neg hj]
    by_cases hl : j < nf ci
    · rw [fls_get hl, fls_get hl, ho j (fun z => hj z.symm)]
    · rw [List.getElem?_eq_none (by rw [fls_len]; omega), List.getElem?_eq_none (by rw [fls_len]; omega)]
theorem fval_I {h : Hp} {ci a k : Nat} {x : Int32} (ht : ftk ci k = 1 ∨ ftk ci k = 4) : fval (sFI h a k x) ci a k = .int x ∧ ∀ j, j ≠ k → fval (sFI h a k x) ci a j = fval h ci a j := by
  constructor
  · unfold fval
    rcases ht with e | e <;> rw [e] <;> simp [sFI, fI, up2]
  · intro j hj
    have e : fI (sFI h a k x) a j = fI h a j := by simp [sFI, fI, up2, hj]
    unfold fval
    rw [e]
    rfl
theorem fval_L {h : Hp} {ci a k : Nat} {x : Int64} (ht : ftk ci k = 2) : fval (sFL h a k x) ci a k = .long x ∧ ∀ j, j ≠ k → fval (sFL h a k x) ci a j = fval h ci a j := by
  constructor
  · unfold fval
    rw [ht]; simp [sFL, fL, up2]
  · intro j hj
    have e : fL (sFL h a k x) a j = fL h a j := by simp [sFL, fL, up2, hj]
    unfold fval
    rw [e]
    rfl
theorem fval_R {h : Hp} {ci a k : Nat} {x : Option Nat} (ht : ftk ci k = 3) : fval (sFR h a k x) ci a k = rf x ∧ ∀ j, j ≠ k → fval (sFR h a k x) ci a j = fval h ci a j := by
  constructor
  · unfold fval
    rw [ht]; simp [sFR, fR, up2]
  · intro j hj
    have e : fR (sFR h a k x) a j = fR h a j := by simp [sFR, fR, up2, hj]
    unfold fval
    rw [e]
    rfl
/-- an abstract heap that differs in one cell of the same kind -/
def Df (h h' : Hp) (a : Nat) : Prop := kd h' = kd h ∧ cn h' = cn h ∧ wd h' = wd h ∧ ∀ i, i ≠ a → fI h' i = fI h i ∧ fL h' i = fL h i ∧ fR h' i = fR h i ∧ iA h' i = iA h i ∧ lA h' i = lA h i
theorem Df_I (h : Hp) (a k : Nat) (x : Int32) : Df h (sFI h a k x) a := ⟨rfl, rfl, rfl, fun i hi => ⟨up2_row _ _ _ _ hi, rfl, rfl, rfl, rfl⟩⟩
theorem Df_L (h : Hp) (a k : Nat) (x : Int64) : Df h (sFL h a k x) a := ⟨rfl, rfl, rfl, fun i hi => ⟨rfl, up2_row _ _ _ _ hi, rfl, rfl, rfl⟩⟩
theorem Df_R (h : Hp) (a k : Nat) (x : Option Nat) : Df h (sFR h a k x) a := ⟨rfl, rfl, rfl, fun i hi => ⟨rfl, rfl, up2_row _ _ _ _ hi, rfl, rfl⟩⟩
theorem Df_A (h : Hp) (a : Nat) (x : List Int32) : Df h (sIA h a x) a := ⟨rfl, rfl, rfl, fun i hi => ⟨rfl, rfl, rfl, by simp [sIA, iA, up1, hi], rfl⟩⟩
theorem Df_J (h : Hp) (a : Nat) (x : List Int64) : Df h (sLA h a x) a := ⟨rfl, rfl, rfl, fun i hi => ⟨rfl, rfl, rfl, rfl, by simp [sLA, lA, up1, hi]⟩⟩
theorem HR_df {G : Gx} {h h' : Hp} {H H1 : Heap} {a q0 : Nat} {e e' : va_E} (hd : Df h h' a) (hH : HR G h H) (hz : H1.size = H.size) (hq : (wsof G h)[q0]? = some (gN G + a, e)) (ha : ce G h' a = some e') (hP : va_P (gD G) vwCl ((wsof G h).set q0 (gN G + a, e')) H1) : HR G h' H1 := by
  obtain ⟨d1, d2, d3, d4⟩ := hd
  obtain ⟨z1, z2, z3, z5, z4⟩ := hH
  refine ⟨by rw [hz, d2]; exact z1, by rw [d2]; exact z2, fun i hi => by rw [d2] at hi; rw [d1]; exact z3 i hi, fun i hi => by rw [d1]; exact z5 i hi, ws_set hq d2 (fun i hi => ?_) ha hP⟩
  obtain ⟨e1, e2, e3, e4, e5⟩ := d4 i hi
  exact ce_of (by rw [d1]) e1 e2 e3 e4 e5
theorem RO_df {G : Gx} {h h' : Hp} {a : Nat} (hd : Df h h' a) (ha : a < 1000000) (hO : RO G h) : RO G h' := by
  intro i hi
  obtain ⟨e1, e2, e3, e4, e5⟩ := hd.2.2.2 i (by omega)
  obtain ⟨o1, o2, o3, o4⟩ := hO i hi
  exact ⟨by rw [hd.1]; exact o1, by rw [e1]; exact o2, by rw [e3]; exact o3, by rw [e4]; exact o4⟩
theorem setA_getD (xs : List Int32) (k : Nat) (x : Int32) (hk : k < xs.length) : upd (fun j => xs.getD j 0) k x = fun j => (xs.set k x).getD j 0 := by
  funext j
  unfold upd
  by_cases hj : j = k
  · subst hj; simp [hk]
  · rw [if_neg hj]
    simp only [List.getD_eq_getElem?_getD]
    rw [List.getElem?_set_ne (fun z => hj z.symm)]
theorem setA_getDL (xs : List Int64) (k : Nat) (x : Int64) (hk : k < xs.length) : vp_updL (fun j => xs.getD j 0) k x = fun j => (xs.set k x).getD j 0 := by
  funext j
  unfold vp_updL
  by_cases hj : j = k
  · subst hj; simp [hk]
  · rw [if_neg hj]
    simp only [List.getD_eq_getElem?_getD]
    rw [List.getElem?_set_ne (fun z => hj z.symm)]
theorem cpy_len {xs ys : List Int32} {sp dp n : Nat} (h1 : sp + n ≤ xs.length) (h2 : dp + n ≤ ys.length) : (cpy xs ys sp dp n).length = ys.length := by
  unfold cpy
  simp
  omega
theorem cpy_getD {xs ys : List Int32} {sp dp n : Nat} (h1 : sp + n ≤ xs.length) (h2 : dp + n ≤ ys.length) : va_cpy (fun j => xs.getD j 0) (fun j => ys.getD j 0) sp dp n = fun j => (cpy xs ys sp dp n).getD j 0 := by
  funext j
  unfold va_cpy cpy
  simp only [List.getD_eq_getElem?_getD]
  congr 1
  by_cases hj : j < dp
  · rw [if_neg (by omega), List.getElem?_append_left (by simp; omega), List.getElem?_take, if_pos hj]
  · rw [List.getElem?_append_right (by simp; omega)]
    have e1 : (ys.take dp).length = dp := by simp; omega
    rw [e1]
    by_cases hj2 : j < dp + n
    · rw [if_pos ⟨by omega, hj2⟩, List.getElem?_append_left (by simp; omega), List.getElem?_take, if_pos (by omega), List.getElem?_drop]
    · rw [if_neg (by omega), List.getElem?_append_right (by simp; omega), List.getElem?_drop]
      have e2 : ((xs.drop sp).take n).length = n := by simp; omega
      rw [e2, show dp + n + (j - dp - n) = j by omega]
