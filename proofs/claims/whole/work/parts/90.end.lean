/-! the law's start, out of the small programs' answer -/
theorem whole_start {p : Program} {e : Env} {s : State} {m : MethodId} {below : List Frame} {meth : Method} {c : Code} (l : Launch) (hst : l.stackTraces = false) (hnm : meth.name = (mi_y m1).name) {b L : Nat} {xs : Nat → Int32} (hL : L ≤ 3072) (C0 : lw_At p s m meth c b L xs) : W p l e room_1 s m #[Value.ref b] below meth c s.heap [] 0 0 (lw_Z below #[Value.ref b] s) (entryFrame m ([Value.ref b] : List Value).toArray 7) := by
  obtain ⟨h1, h2, h3, h4, h5, h6, h7, h8, h9, h10⟩ := C0
  have hlen : ((List.range L).map xs).length = L := by simp
  have hX : va_X b ((List.range L).map xs).length (fun j => ((List.range L).map xs).getD j 0) s s.heap := by
    obtain ⟨scr, a1, a2, a3, a4, a5⟩ := h7
    refine ⟨scr, a1, a2, a3, by rw [hlen]; exact a4, fun j hj => ?_⟩
    rw [hlen] at hj
    have e : ((List.range L).map xs).getD j 0 = xs j := by simp [List.getD, hj]
    show scr.slots[j]? = some (.int (((List.range L).map xs).getD j 0))
    rw [e]
    exact a5 j hj
  obtain ⟨hf, hr, hc, hw⟩ := pure_law ((List.range L).map xs) (by rw [hlen]; exact hL)
  obtain ⟨G, g1, g2, g3, g4, g5, g6⟩ := start_FX (by rw [hlen]; exact hL) hX h8 h6 h10
  obtain ⟨n, hn⟩ := R_lw_law 24 (Nat.le_refl _) hr
  have C : Cx G p s m #[Value.ref b] meth c m1 := ⟨h1, h2, h3, h4, h5, fun w hw => h6 w (List.mem_filter.mp hw).1, h9, hnm, g4⟩
  exact law_run hst (by omega) g1 C g3 g5 g6 ⟨rfl, rfl⟩ ⟨hc, hw⟩ hn
