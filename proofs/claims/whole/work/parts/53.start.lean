/-! what holds at the law's start -/
def fa : List Cond := flatC (Jvm.Cond.and given_1 narrow_1)
/-- the texts: class and entry of the first constant, bytes, the place of its premises -/
def txs : List (String × Nat × List Int32 × Nat) := [("CorkStreet$Reader", 111, [108, 97, 107, 101], 41), ("CorkStreet$Reader", 117, [104, 111, 117, 115, 101], 49), ("CorkStreet$Reader", 119, [114, 111, 112, 101], 58), ("CorkStreet$Reader", 121, [99, 111, 114, 107, 115], 66), ("CorkStreet$Reader", 123, [103, 117, 101, 115, 116], 75), ("CorkStreet$Reader", 125, [100, 114, 105, 110, 107, 101, 114], 84), ("CorkStreet$Reader", 127, [102, 101, 97, 115, 116], 95), ("CorkStreet$Reader", 129, [103, 97, 118, 101], 104), ("CorkStreet$Reader", 131, [115, 101, 101, 110], 112), ("CorkStreet$Reader", 153, [109, 105, 99, 101], 120), ("CorkStreet$Reader", 170, [110, 111, 114, 116, 104], 128), ("CorkStreet$Reader", 175, [115, 111, 117, 116, 104], 137), ("CorkStreet$Reader", 177, [119, 101, 105, 103, 104, 116], 146), ("CorkStreet$Reader", 271, [114, 101, 100], 156), ("CorkStreet$Reader", 273, [115, 116, 97, 108, 101], 163), ("CorkStreet$Reader", 275, [115, 111, 102, 116], 172), ("CorkStreet$Reader", 277, [119, 104, 105, 116, 101], 180), ("CorkStreet$Reader", 279, [102, 105, 122, 122, 121], 189), ("CorkStreet$Reader", 210, [97, 116], 198), ("CorkStreet$Reader", 217, [100, 114, 105, 110, 107, 115], 204), ("CorkStreet$Reader", 224, [119, 101, 101, 107], 214), ("CorkStreet$Reader", 229, [104, 105, 103, 104], 222), ("CorkStreet$Reader", 249, [98, 101, 108, 111, 119], 230), ("CorkStreet$Reader", 251, [111, 118, 101, 114], 239), ("CorkStreet", 371, [110, 111, 32, 115, 117, 99, 104, 32, 104, 111, 117, 115, 101, 32, 105, 115, 32, 117, 110, 100, 101, 114], 247)]
def eqs : List (Nat × Nat) := [(0, 0), (1, 0), (2, 0), (3, 0), (4, 0), (5, 0), (6, 0), (7, 0), (8, 0), (9, 0), (10, 0), (11, 0), (12, 0), (13, 0), (14, 0), (15, 0), (16, 0), (17, 0), (18, 0), (19, 0), (20, 0), (21, 0), (22, 0), (23, 0), (24, 0), (0, 281), (9, 290), (1, 300), (2, 309), (3, 319), (4, 329), (5, 341), (6, 351), (7, 360), (8, 369), (10, 379), (11, 389), (12, 400), (13, 408), (14, 418), (15, 427), (16, 437), (17, 447), (18, 454), (19, 465), (20, 474), (21, 483), (22, 493), (23, 502)]
def tS (own : String) (k : Nat) : Term := .string own k
def tV (own : String) (k : Nat) : Term := .field (.string own k) "java/lang/String" "value" "[B"
def fis (i : Nat) (w : Cond) : Bool := decide (fa[i]? = some w)
def okTx (q : String × Nat × List Int32 × Nat) : Bool := fis q.2.2.2 (.exactly (tS q.1 q.2.1) "java/lang/String") && fis (q.2.2.2 + 1) (.eq (.field (tS q.1 q.2.1) "java/lang/String" "coder" "B") (.int 0)) && fis (q.2.2.2 + 2) (.arrayOf (tV q.1 q.2.1) .byte) && fis (q.2.2.2 + 3) (.eq (.length (tV q.1 q.2.1)) (.int (Int32.ofNat q.2.2.1.length))) && (List.range q.2.2.1.length).all (fun j => fis (q.2.2.2 + 4 + j) (.eq (.elem (tV q.1 q.2.1) (.int (Int32.ofNat j))) (.int (q.2.2.1.getD j 0))))
theorem txs_ok : txs.all okTx = true := by decide +kernel
/-- a constant of a text is its first, or said to be the same -/
def okEq (q : (String × Nat × String × Nat) × (Nat × Nat)) : Bool := match txs[q.2.1]? with
  | some z => decide (q.1.2.2.2 = 1000000 + (3 + q.2.1)) && decide (q.2.1 < 25) && ((decide (z.1 = q.1.1) && decide (z.2.1 = q.1.2.1)) || fis q.2.2 (.eq (tS z.1 z.2.1) (tS q.1.1 q.1.2.1)))
  | none => false
theorem eqs_ok : (stT.zip eqs).all okEq = true := by decide +kernel
theorem stT_len : stT.length = eqs.length := by decide +kernel
theorem str_in : ∀ q ∈ stT, Cond.stringRef q.1 q.2.1 q.2.2.1 ∈ lw_tbl := by decide +kernel
theorem inst_in : ∀ r ∈ vwCl, Cond.instantiable r.1 r.2.2 ∈ lw_tbl := by decide +kernel
theorem fis_s {i : Nat} {w : Cond} (h : fis i w = true) : w ∈ fa := List.mem_of_getElem? (of_decide_eq_true h)
def liftL : List Int32 := [3, 2, 1, 2, 4]
def eatL : List Int32 := [2, 1, 3, 0, 4]
def tLI : Term := .static "CorkStreet$State" "LIFT" "[I"
def tEA : Term := .static "CorkStreet$State" "EATEN_FIRST" "[I"
def okRow (t : Term) (i : Nat) (l : List Int32) : Bool := fis i (.arrayOf t .int) && fis (i + 1) (.eq (.length t) (.int (Int32.ofNat l.length))) && (List.range l.length).all (fun j => fis (i + 2 + j) (.eq (.elem t (.int (Int32.ofNat j))) (.int (l.getD j 0))))
theorem row_li : okRow tLI 10 liftL = true := by decide +kernel
theorem row_ea : okRow tEA 18 eatL = true := by decide +kernel
theorem fis_cs : fis 4 (.eq (.static "java/lang/String" "COMPACT_STRINGS" "Z") (.int 1)) = true := by decide +kernel
theorem fis_sf : fis 5 (.isRef (.static "jdk/internal/util/Preconditions" "SIOOBE_FORMATTER" "Ljava/util/function/BiFunction;")) = true := by decide +kernel
theorem fis_us : fis 25 (.isRef (.static Bundle.tN "UNASSIGNED_STACK" Bundle.steD)) = true := by decide +kernel
theorem fis_ss : fis 26 (.isRef (.static Bundle.tN "SUPPRESSED_SENTINEL" Bundle.listD)) = true := by decide +kernel
theorem ls_li : Cond.laysStatic "CorkStreet$State" "LIFT" "[I" ∈ lw_tbl ∧ Cond.initialized "CorkStreet$State" ∈ lw_tbl := by decide +kernel
theorem ls_ea : Cond.laysStatic "CorkStreet$State" "EATEN_FIRST" "[I" ∈ lw_tbl := by decide +kernel
theorem ls_cs : Cond.laysStatic "java/lang/String" "COMPACT_STRINGS" "Z" ∈ lw_tbl ∧ Cond.initialized "java/lang/String" ∈ lw_tbl := by decide +kernel
theorem ls_sf : Cond.laysStatic "jdk/internal/util/Preconditions" "SIOOBE_FORMATTER" "Ljava/util/function/BiFunction;" ∈ lw_tbl ∧ Cond.initialized "jdk/internal/util/Preconditions" ∈ lw_tbl := by decide +kernel
theorem ls_us : Cond.laysStatic Bundle.tN "UNASSIGNED_STACK" Bundle.steD ∈ lw_tbl ∧ Cond.laysStatic Bundle.tN "SUPPRESSED_SENTINEL" Bundle.listD ∈ lw_tbl ∧ Cond.initialized Bundle.tN ∈ lw_tbl := by decide +kernel
/-- the heap at the start: nothing but what is only read -/
def kd0 (i : Nat) : Nat := if 1000000 ≤ i ∧ i < 1000003 then 100 else if 1000003 ≤ i ∧ i < 1000028 then 50 else if 1000103 ≤ i ∧ i < 1000128 then 101 else 999
def iA0 (xs : List Int32) (i : Nat) : List Int32 := if i = 1000000 then xs else if i = 1000001 then liftL else if i = 1000002 then eatL else match txs[i - 1000103]? with
  | some q => q.2.2.1
  | none => []
def h0 (xs : List Int32) : Hp := (kd0, fun _ _ => 0, fun _ _ => 0, fun i _ => if 1000003 ≤ i ∧ i < 1000028 then some (i + 100) else none, iA0 xs, fun _ => [], 0, 0)
def rfa (s : State) (b : Nat) (t : Term) : Nat := match t.eval #[.ref b] s none [] s with
  | some (.ref a) => a
  | _ => 0
theorem rfa_of {s : State} {b a : Nat} {t : Term} (h : t.eval #[.ref b] s none [] s = some (.ref a)) : rfa s b t = a := by unfold rfa; rw [h]
def tmo (i : Nat) : Term := if i = 1 then tLI else if i = 2 then tEA else if i < 103 then (match txs[i - 3]? with
    | some q => tS q.1 q.2.1
    | none => .arg 0) else (match txs[i - 103]? with
    | some q => tV q.1 q.2.1
    | none => .arg 0)
def gr0 (s : State) (b i : Nat) : Nat := if i = 0 then b else rfa s b (tmo i)
theorem known_all {s : State} {args : Array Value} (ht : ∀ w ∈ lw_tbl, w.before args s = true) : ∃ D : va_G, ∀ (c : Nat) (q : vw_C), vwCl[c]? = some q → u_Kn s q.1 q.2.1 q.2.2 (D.1 c) (D.2 c) := by
  have key : ∀ c : Nat, ∃ x : ClassId × (Nat → Nat), ∀ q : vw_C, vwCl[c]? = some q → u_Kn s q.1 q.2.1 q.2.2 x.1 x.2 := by
    intro c
    cases hc : vwCl[c]? with
    | none => exact ⟨(0, fun _ => 0), fun q hq => by cases hq⟩
    | some r =>
      have hv := (vk_all hc).2
      obtain ⟨cC, iS, h⟩ := u_known (ws := lw_tbl) (args := args) ht (fun w hw => (List.mem_filter.mp (hv.1 w hw)).1) (ht _ (inst_in r (List.mem_of_getElem? hc)))
      exact ⟨(cC, iS), fun q hq => by cases hq; exact h⟩
  obtain ⟨f, hf⟩ := Classical.axiomOfChoice key
  exact ⟨(fun c => (f c).1, fun c => (f c).2), fun c q hq => hf c q hq⟩
theorem arr_known {s : State} {args : Array Value} {ty : FieldType} (h : (Cond.arrayClass ty).before args s = true) : ∃ cA : ClassId, ArrOfT s cA ty ∧ s.vm.findClass ("[" ++ ty.toString) = some cA := by
  obtain ⟨cA, kA, comp, h1, h2, h3⟩ := Cond.arrayClass_spec h
  exact ⟨cA, fun n z => ⟨fun k h => (by cases h), kA, h2, comp, h3⟩, h1⟩
section START
variable {s : State} {b : Nat}
theorem row_T {A : Nat → Prop} {t : Term} {i : Nat} {l : List Int32} (hfa : ∀ w ∈ fa, w.before #[Value.ref b] s = true) (hA : ∀ a : Nat, a < s.heap.size → ¬ A a) (hl : l.length < 2 ^ 31) (h : okRow t i l = true) : t.eval #[.ref b] s none [] s = some (.ref (rfa s b t)) ∧ va_T .int (rfa s b t) l.length (fun j => .int (l.getD j 0)) A s s.heap := by
  unfold okRow at h
  simp only [Bool.and_eq_true, List.all_eq_true, List.mem_range] at h
  obtain ⟨⟨h1, h2⟩, h3⟩ := h
  obtain ⟨a, ha, hT⟩ := va_Tof (A := A) (f := fun j => .int (l.getD j 0)) hl (hfa _ (fis_s h1)) (va_eqt (hfa _ (fis_s h2))) (fun j hj => va_eqt (hfa _ (fis_s (h3 j hj)))) hA
  rw [rfa_of ha]
  exact ⟨ha, hT⟩
theorem text_T {A : Nat → Prop} {q : String × Nat × List Int32 × Nat} (hfa : ∀ w ∈ fa, w.before #[Value.ref b] s = true) (hA : ∀ a : Nat, a < s.heap.size → ¬ A a) (hl : q.2.2.1.length < 2 ^ 31) (h : okTx q = true) : (tS q.1 q.2.1).eval #[.ref b] s none [] s = some (.ref (rfa s b (tS q.1 q.2.1))) ∧ va_T .byte (rfa s b (tV q.1 q.2.1)) q.2.2.1.length (fun j => .int (q.2.2.1.getD j 0)) A s s.heap ∧ va_O "java/lang/String" (rfa s b (tS q.1 q.2.1)) A s s.heap ∧ va_OF "java/lang/String" "value" "[B" (.ref (rfa s b (tV q.1 q.2.1))) (rfa s b (tS q.1 q.2.1)) A s s.heap ∧ va_OF "java/lang/String" "coder" "B" (.int 0) (rfa s b (tS q.1 q.2.1)) A s s.heap := by
  unfold okTx at h
  simp only [Bool.and_eq_true, List.all_eq_true, List.mem_range] at h
  obtain ⟨⟨⟨⟨h0, h1⟩, h2⟩, h3⟩, h4⟩ := h
  obtain ⟨a, ha, hT⟩ := va_Tof (A := A) (f := fun j => .int (q.2.2.1.getD j 0)) hl (hfa _ (fis_s h2)) (va_eqt (hfa _ (fis_s h3))) (fun j hj => va_eqt (hfa _ (fis_s (h4 j hj)))) hA
  have hc := va_eqt (hfa _ (fis_s h1))
  have ht : ∃ a, (tS q.1 q.2.1).eval #[.ref b] s none [] s = some (.ref a) := by
    obtain ⟨a2, c, cA, kA, q1, -⟩ := Cond.exactly_spec (args := #[Value.ref b]) (first := s) (o := none) (s := s) (idx := []) (t := tS q.1 q.2.1) (cls := "java/lang/String") (hfa _ (fis_s h0))
    exact ⟨a2, q1⟩
  obtain ⟨a2, ha2⟩ := ht
  rw [rfa_of ha, rfa_of ha2]
  exact ⟨ha2, hT, va_Oof (hfa _ (fis_s h0)) ha2 hA, vk_OFof ha2 ha hA, vk_OFof ha2 hc hA⟩
end START

theorem isRef_cat {s : State} {args : Array Value} {t : Term} (h : (Cond.isRef t).before args s = true) : ∃ w : Value, t.eval args s none [] s = some w ∧ w.category = 1 := by
  cases hv : t.eval args s none [] s with
  | none => simp [Cond.before, Cond.holds, Cond.value, hv] at h
  | some v =>
    refine ⟨v, rfl, ?_⟩
    cases v <;> first | rfl | (simp [Cond.before, Cond.holds, Cond.value, hv, Value.isRef] at h; done)
theorem txs_len : txs.length = 25 := by decide +kernel
theorem txs_at {k : Nat} (hk : k < 25) : ∃ q, txs[k]? = some q ∧ okTx q = true := by
  have h1 : k < txs.length := by rw [txs_len]; exact hk
  exact ⟨txs[k], List.getElem?_eq_getElem h1, List.all_eq_true.mp txs_ok _ (List.getElem_mem h1)⟩
theorem txs_short : ∀ q ∈ txs, q.2.2.1.length < 2 ^ 31 := by decide +kernel
theorem gr0_t {s : State} {b k : Nat} {q : String × Nat × List Int32 × Nat} (hk : k < 25) (hq : txs[k]? = some q) : gr0 s b (3 + k) = rfa s b (tS q.1 q.2.1) ∧ gr0 s b (103 + k) = rfa s b (tV q.1 q.2.1) := by
  unfold gr0 tmo
  constructor
  · rw [if_neg (by omega), if_neg (by omega), if_neg (by omega), if_pos (by omega), show 3 + k - 3 = k by omega, hq]
  · rw [if_neg (by omega), if_neg (by omega), if_neg (by omega), if_neg (by omega), show 103 + k - 103 = k by omega, hq]
theorem ad_hi {G : Gx} {i : Nat} : ad G (1000000 + i) = gr G i := by
  unfold ad
  rw [if_neg (by omega), show 1000000 + i - 1000000 = i by omega]
theorem start_RO {s : State} {b : Nat} {xs : List Int32} {w : Value} {D : va_G} {cI cB cJ : ClassId} (hxl : xs.length ≤ 3072) (hX : va_X b xs.length (fun j => xs.getD j 0) s s.heap) (hbl : b < s.heap.size) (hfa : ∀ w ∈ fa, w.before #[Value.ref b] s = true) : ROx (s.heap.size, gr0 s b, w, D, (cI, cB, cJ), h0 xs) s := by
  have hA : ∀ a : Nat, a < s.heap.size → ¬ gA (s.heap.size, gr0 s b, w, D, (cI, cB, cJ), h0 xs) a := fun a ha z => Nat.not_le.mpr ha z
  intro i hi
  obtain ⟨k, rfl⟩ : ∃ k, i = 1000000 + k := ⟨i - 1000000, by omega⟩
  by_cases h1 : k < 3
  · have hk : kd (gh (s.heap.size, gr0 s b, w, D, (cI, cB, cJ), h0 xs)) (1000000 + k) = 100 := by show kd0 _ = _; unfold kd0; rw [if_pos (by omega)]
    refine ⟨fun _ => ?_, fun z => absurd (hk.symm.trans z) (by decide), fun z => absurd (hk.symm.trans z) (by decide), Or.inl hk⟩
    rw [ad_hi]
    match k, h1 with
    | 0, _ =>
      obtain ⟨scr, a1, a2, a3, a4, a5⟩ := hX
      exact ⟨scr, a1, a2, a3, Nat.le_of_eq a4.symm, by rw [a4]; rfl, a5, hA b hbl⟩
    | 1, _ => exact (row_T hfa hA (by decide) row_li).2
    | 2, _ => exact (row_T hfa hA (by decide) row_ea).2
  · by_cases h2 : k < 28
    · obtain ⟨j, rfl⟩ : ∃ j, k = 3 + j := ⟨k - 3, by omega⟩
      have hk : kd (gh (s.heap.size, gr0 s b, w, D, (cI, cB, cJ), h0 xs)) (1000000 + (3 + j)) = 50 := by show kd0 _ = _; unfold kd0; rw [if_neg (by omega), if_pos (by omega)]
      refine ⟨fun z => absurd (hk.symm.trans z) (by decide), fun z => absurd (hk.symm.trans z) (by decide), fun _ => ?_, Or.inr (Or.inr (Or.inl hk))⟩
      obtain ⟨q, hq, hok⟩ := txs_at (k := j) (by omega)
      obtain ⟨g1, g2⟩ := gr0_t (s := s) (b := b) (by omega) hq
      obtain ⟨t1, t2, t3, t4, t5⟩ := text_T hfa hA (txs_short q (List.mem_of_getElem? hq)) hok
      rw [ad_hi]
      show va_O _ (gr0 s b (3 + j)) _ _ _ ∧ ∀ m, m < 2 → va_OF _ _ _ _ (gr0 s b (3 + j)) _ _ _
      rw [g1]
      refine ⟨t3, fun m hm => ?_⟩
      match m, hm with
      | 0, _ =>
        have e : vz (s.heap.size, gr0 s b, w, D, (cI, cB, cJ), h0 xs) (fval (gh (s.heap.size, gr0 s b, w, D, (cI, cB, cJ), h0 xs)) 50 (1000000 + (3 + j)) 0) = .ref (rfa s b (tV q.1 q.2.1)) := by
          show vz _ (rf (if 1000003 ≤ 1000000 + (3 + j) ∧ 1000000 + (3 + j) < 1000028 then some (1000000 + (3 + j) + 100) else none)) = _
          rw [if_pos (by omega), show 1000000 + (3 + j) + 100 = 1000000 + (103 + j) by omega]
          show Value.ref (ad _ (1000000 + (103 + j))) = _
          rw [ad_hi]
          show Value.ref (gr0 s b (103 + j)) = _
          rw [g2]
        rw [e]
        exact t4
      | 1, _ => exact t5
    · by_cases h3 : 103 ≤ k ∧ k < 128
      · obtain ⟨j, rfl⟩ : ∃ j, k = 103 + j := ⟨k - 103, by omega⟩
        have hk : kd (gh (s.heap.size, gr0 s b, w, D, (cI, cB, cJ), h0 xs)) (1000000 + (103 + j)) = 101 := by show kd0 _ = _; unfold kd0; rw [if_neg (by omega), if_neg (by omega), if_pos (by omega)]
        refine ⟨fun z => absurd (hk.symm.trans z) (by decide), fun _ => ?_, fun z => absurd (hk.symm.trans z) (by decide), Or.inr (Or.inl hk)⟩
        obtain ⟨q, hq, hok⟩ := txs_at (k := j) (by omega)
        obtain ⟨g1, g2⟩ := gr0_t (s := s) (b := b) (by omega) hq
        obtain ⟨t1, t2, t3, t4, t5⟩ := text_T hfa hA (txs_short q (List.mem_of_getElem? hq)) hok
        have e : iA (gh (s.heap.size, gr0 s b, w, D, (cI, cB, cJ), h0 xs)) (1000000 + (103 + j)) = q.2.2.1 := by
          show iA0 xs _ = _
          unfold iA0
          rw [if_neg (by omega), if_neg (by omega), if_neg (by omega), show 1000000 + (103 + j) - 1000103 = j by omega, hq]
        rw [ad_hi, e]
        show va_T .byte (gr0 s b (103 + j)) _ _ _ _ _
        rw [g2]
        exact t2
      · have hk : kd (gh (s.heap.size, gr0 s b, w, D, (cI, cB, cJ), h0 xs)) (1000000 + k) = 999 := by show kd0 _ = _; unfold kd0; rw [if_neg (by omega), if_neg (by omega), if_neg (by omega)]
        exact ⟨fun z => absurd (hk.symm.trans z) (by decide), fun z => absurd (hk.symm.trans z) (by decide), fun z => absurd (hk.symm.trans z) (by decide), Or.inr (Or.inr (Or.inr hk))⟩
theorem okEq_s {q : (String × Nat × String × Nat) × (Nat × Nat)} (h : okEq q = true) : ∃ k z, q.1.2.2.2 = 1000000 + (3 + k) ∧ k < 25 ∧ txs[k]? = some z ∧ ((z.1 = q.1.1 ∧ z.2.1 = q.1.2.1) ∨ fis q.2.2 (.eq (tS z.1 z.2.1) (tS q.1.1 q.1.2.1)) = true) := by
  unfold okEq at h
  cases hx : txs[q.2.1]? with
  | none => rw [hx] at h; cases h
  | some z =>
    rw [hx] at h
    simp only [Bool.and_eq_true, Bool.or_eq_true, decide_eq_true_eq] at h
    exact ⟨q.2.1, z, h.1.1, h.1.2, hx, h.2⟩
theorem start_str {s : State} {b : Nat} {xs : List Int32} {w : Value} {D : va_G} {cI cB cJ : ClassId} (hfa : ∀ w ∈ fa, w.before #[Value.ref b] s = true) {q : String × Nat × String × Nat} (hq : q ∈ stT) : (Term.string q.1 q.2.1).eval #[Value.ref b] s none [] s = some (.ref (ad (s.heap.size, gr0 s b, w, D, (cI, cB, cJ), h0 xs) q.2.2.2)) := by
  obtain ⟨n, hn⟩ := List.getElem?_of_mem hq
  have hlt : n < eqs.length := by rw [← stT_len]; exact (List.getElem?_eq_some_iff.mp hn).1
  have hz : (q, eqs[n]) ∈ stT.zip eqs := List.mem_of_getElem? (i := n) (List.getElem?_zip_eq_some.mpr ⟨hn, List.getElem?_eq_getElem hlt⟩)
  obtain ⟨k, z, hk, hk3, hx, h4⟩ := okEq_s (List.all_eq_true.mp eqs_ok _ hz)
  obtain ⟨g1, -⟩ := gr0_t (s := s) (b := b) hk3 hx
  obtain ⟨q9, hq9, hok⟩ := txs_at hk3
  cases Option.some.inj (hx.symm.trans hq9)
  obtain ⟨t1, -⟩ := text_T (A := fun _ => False) hfa (fun _ _ z => z) (txs_short z (List.mem_of_getElem? hx)) hok
  have e : ad (s.heap.size, gr0 s b, w, D, (cI, cB, cJ), h0 xs) q.2.2.2 = rfa s b (tS z.1 z.2.1) := by
    rw [hk, ad_hi]
    exact g1
  rw [e]
  rcases h4 with ⟨h5, h6⟩ | h5
  · rw [← h5, ← h6]; exact t1
  · exact va_eqR (hfa _ (fis_s h5)) t1
/-- everything that the walk needs at the law's start -/
theorem start_FX {s : State} {b : Nat} {xs : List Int32} (hxl : xs.length ≤ 3072) (hX : va_X b xs.length (fun j => xs.getD j 0) s s.heap) (hbl : b < s.heap.size) (ht : ∀ w ∈ lw_tbl, w.before #[Value.ref b] s = true) (hg : (Jvm.Cond.and given_1 narrow_1).before #[Value.ref b] s = true) : ∃ G : Gx, gN G = s.heap.size ∧ gh G = h0 xs ∧ ad G 1000000 = b ∧ FX G s ∧ HR G (h0 xs) s.heap ∧ RO G (h0 xs) := by
  have hfa : ∀ w ∈ fa, w.before #[Value.ref b] s = true := flat_of_before _ hg
  obtain ⟨D, hD⟩ := known_all ht
  obtain ⟨cI, hI1, hI2⟩ := arr_known (ht _ (List.mem_filter.mp aw_int).1)
  obtain ⟨cB, hB1, hB2⟩ := arr_known (ht _ (List.mem_filter.mp aw_byte).1)
  obtain ⟨cJ, hJ1, hJ2⟩ := arr_known (ht _ (List.mem_filter.mp aw_long).1)
  obtain ⟨w, hw, hwc⟩ : ∃ w : Value, (Term.static "jdk/internal/util/Preconditions" "SIOOBE_FORMATTER" "Ljava/util/function/BiFunction;").eval #[Value.ref b] s none [] s = some w ∧ w.category = 1 := isRef_cat (hfa _ (fis_s fis_sf))
  refine ⟨(s.heap.size, gr0 s b, w, D, (cI, cB, cJ), h0 xs), rfl, rfl, rfl, ?_, ?_, fun i hi => ⟨rfl, rfl, rfl, rfl⟩⟩
  · have hA : ∀ a : Nat, a < s.heap.size → ¬ gA (s.heap.size, gr0 s b, w, D, (cI, cB, cJ), h0 xs) a := fun a ha z => Nat.not_le.mpr ha z
    have hLI := row_T (A := gA (s.heap.size, gr0 s b, w, D, (cI, cB, cJ), h0 xs)) hfa hA (by decide) row_li
    have hEA := row_T (A := gA (s.heap.size, gr0 s b, w, D, (cI, cB, cJ), h0 xs)) hfa hA (by decide) row_ea
    refine ⟨⟨hD, fun k q hq => ?_⟩, fun i hi => ?_, ⟨?_, ?_, ?_, ?_⟩, fun q hq => ?_, fun z hz => ?_, hwc, Nat.le_refl _, ?_, ?_, fun z hz => ?_⟩
    · match k, hq with
      | 0, hq => cases hq; exact ⟨hI1, hI2⟩
      | 1, hq => cases hq; exact ⟨hB1, hB2⟩
      | 2, hq => cases hq; exact ⟨hJ1, hJ2⟩
      | n + 3, hq => cases hq
    · exact start_RO hxl hX hbl hfa i hi
    · exact va_Zof (ht _ ls_li.1) (ht _ ls_li.2) hLI.1 hA
    · exact va_Zof (ht _ ls_ea) (ht _ ls_li.2) hEA.1 hA
    · exact va_Zof (ht _ ls_cs.1) (ht _ ls_cs.2) (va_eqt (hfa _ (fis_s fis_cs))) hA
    · exact va_Zof (ht _ ls_sf.1) (ht _ ls_sf.2) hw hA
    · exact vk_R.of (A := #[Value.ref b]) (ht _ (str_in q hq)) (start_str hfa hq)
    · have h1 := (List.mem_filter.mp hz)
      cases z with
      | fieldLinkNest a i b n d g => exact va_Nw.of rfl (ht _ h1.1)
      | methodLinkNest a i x g => exact va_Nw.of rfl (ht _ h1.1)
      | _ => cases h1.2
    · exact vx_Zqof (ht _ ls_us.1) (ht _ ls_us.2.2) (hfa _ (fis_s fis_us)) hA
    · exact vx_Zqof (ht _ ls_us.2.1) (ht _ ls_us.2.2) (hfa _ (fis_s fis_ss)) hA
    · exact va_tabs (xbad_ok z hz).1 rfl (ht z (xat_in z (List.mem_filter.mp hz).1))
  · refine ⟨rfl, by show 0 ≤ 900000; omega, fun i _ hi => ?_, fun i hi => ?_, ?_⟩
    · show kd0 i = 999
      unfold kd0
      rw [if_neg (by omega), if_neg (by omega), if_neg (by omega)]
    · show kd0 i ≠ 50
      unfold kd0
      rw [if_neg (by omega), if_neg (by omega), if_neg (by omega)]
      decide
    · intro k q hq
      have : wsof (s.heap.size, gr0 s b, w, D, (cI, cB, cJ), h0 xs) (h0 xs) = [] := rfl
      rw [this] at hq
      cases hq
