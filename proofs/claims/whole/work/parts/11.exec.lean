/-! more fuel, the same answer; the limit -/
theorem run_more {P : List MI} {al : Nat → Nat} (n : Nat) : ∀ (d M : Nat) (x : Sx) (r : Option Value × Hp), run P al n d M x = some r → run P al (n + 1) d M x = some r := by
  induction n with
  | zero => intro d M x r h; cases h
  | succ n ih =>
    intro d M x r h
    unfold run at h ⊢
    cases hm : P[M]? with
    | none => rw [hm] at h; cases h
    | some m =>
      rw [hm] at h
      simp only [Option.bind_some] at h ⊢
      cases ha : act P al m x with
      | none => rw [ha] at h; cases h
      | some a =>
        rw [ha] at h
        match a, h with
        | .inl r', h => exact h
        | .inr (.inl x'), h => exact ih _ _ _ _ h
        | .inr (.inr (k, as, pc, ls, rest)), h =>
          match d, h with
          | 0, h => cases h
          | d' + 1, h =>
            simp only at h ⊢
            cases hk : P[k]? with
            | none => rw [hk] at h; cases h
            | some mq =>
              rw [hk] at h
              simp only [Option.bind_some] at h ⊢
              cases hq : run P al n d' k (0, ini (mi_mx mq) as, [], x.2.2.2) with
              | none => rw [hq] at h; cases h
              | some q =>
                rw [hq] at h
                simp only [Option.bind_some] at h
                rw [ih _ _ _ _ hq]
                simp only [Option.bind_some]
                exact ih _ _ _ _ h
theorem run_le {P : List MI} {al : Nat → Nat} {n n2 : Nat} (hn : n ≤ n2) {d M : Nat} {x : Sx} {r : Option Value × Hp} (h : run P al n d M x = some r) : run P al n2 d M x = some r := by
  induction hn with
  | refl => exact h
  | step _ ih => exact run_more _ _ _ _ _ ih
theorem run_one {P : List MI} {al : Nat → Nat} {n n2 d M : Nat} {x : Sx} {r r2 : Option Value × Hp} (h : run P al n d M x = some r) (h2 : run P al n2 d M x = some r2) : r = r2 := by
  have a := run_le (Nat.le_max_left n n2) h
  have b := run_le (Nat.le_max_right n n2) h2
  rw [a] at b; exact Option.some.inj b
noncomputable def exec (P : List MI) (al : Nat → Nat) (d M : Nat) (x : Sx) : Option (Option Value × Hp) :=
  @dite _ (∃ r, ∃ n, run P al n d M x = some r) (Classical.propDecidable _) (fun h => some h.choose) (fun _ => none)
theorem exec_of {P : List MI} {al : Nat → Nat} {n d M : Nat} {x : Sx} {r : Option Value × Hp} (h : run P al n d M x = some r) : exec P al d M x = some r := by
  have hx : ∃ r, ∃ n, run P al n d M x = some r := ⟨r, n, h⟩
  unfold exec
  rw [dif_pos hx]
  obtain ⟨n2, h2⟩ := hx.choose_spec
  rw [run_one h2 h]
theorem of_exec {P : List MI} {al : Nat → Nat} {d M : Nat} {x : Sx} {r : Option Value × Hp} (h : exec P al d M x = some r) : ∃ n, run P al n d M x = some r := by
  unfold exec at h
  by_cases hx : ∃ r, ∃ n, run P al n d M x = some r
  · rw [dif_pos hx] at h
    rw [← Option.some.inj h]
    exact hx.choose_spec
  · rw [dif_neg hx] at h; cases h
theorem exec_eq {P : List MI} {al : Nat → Nat} {d M d2 M2 : Nat} {x y : Sx} (h1 : ∀ r, (∃ n, run P al n d M x = some r) → ∃ n, run P al n d2 M2 y = some r) (h2 : ∀ r, (∃ n, run P al n d2 M2 y = some r) → ∃ n, run P al n d M x = some r) : exec P al d M x = exec P al d2 M2 y := by
  cases hx : exec P al d M x with
  | some r => obtain ⟨n, hn⟩ := h1 r (of_exec hx); exact (exec_of hn).symm
  | none =>
    cases hy : exec P al d2 M2 y with
    | none => rfl
    | some r => obtain ⟨n, hn⟩ := h2 r (of_exec hy); rw [exec_of hn] at hx; cases hx
section XE
variable {P : List MI} {al : Nat → Nat} {d M : Nat} {m : MI} {x : Sx}
theorem ex_go {x' : Sx} (hM : P[M]? = some m) (ha : act P al m x = some (.inr (.inl x'))) : exec P al d M x = exec P al d M x' := by
  refine exec_eq (fun r h => ?_) (fun r h => ?_)
  · obtain ⟨n, hn⟩ := h
    cases n with
    | zero => cases hn
    | succ n =>
      unfold run at hn
      rw [hM] at hn
      simp only [Option.bind_some, ha] at hn
      exact ⟨n, hn⟩
  · obtain ⟨n, hn⟩ := h
    refine ⟨n + 1, ?_⟩
    unfold run
    rw [hM]
    simp only [Option.bind_some, ha]
    exact hn
theorem ex_no (hM : P[M]? = some m) (ha : act P al m x = none) : exec P al d M x = none := by
  cases hx : exec P al d M x with
  | none => rfl
  | some r =>
    obtain ⟨n, hn⟩ := of_exec hx
    cases n with
    | zero => cases hn
    | succ n =>
      unfold run at hn
      rw [hM] at hn
      simp only [Option.bind_some, ha] at hn
      cases hn
theorem ex_ret {r : Option Value × Hp} (hM : P[M]? = some m) (ha : act P al m x = some (.inl r)) : exec P al d M x = some r := by
  refine exec_of (n := 1) ?_
  unfold run
  rw [hM]
  simp only [Option.bind_some, ha]
theorem ex_call {k pc : Nat} {as ls rest : List Value} {mq : MI} (hM : P[M]? = some m) (ha : act P al m x = some (.inr (.inr (k, as, pc, ls, rest)))) (hk : P[k]? = some mq) :
    exec P al (d + 1) M x = (exec P al d k (0, ini (mi_mx mq) as, [], x.2.2.2)).bind (fun q => exec P al (d + 1) M (pc, ls, q.1.toList ++ rest, q.2)) := by
  cases hc : exec P al d k (0, ini (mi_mx mq) as, [], x.2.2.2) with
  | none =>
    cases hx : exec P al (d + 1) M x with
    | none => rfl
    | some r =>
      obtain ⟨n, hn⟩ := of_exec hx
      cases n with
      | zero => cases hn
      | succ n =>
        unfold run at hn
        rw [hM] at hn
        simp only [Option.bind_some, ha, hk] at hn
        cases hq : run P al n d k (0, ini (mi_mx mq) as, [], x.2.2.2) with
        | none => rw [hq] at hn; cases hn
        | some q => rw [exec_of hq] at hc; cases hc
  | some q =>
    simp only [Option.bind_some]
    obtain ⟨n1, hn1⟩ := of_exec hc
    refine exec_eq (fun r h => ?_) (fun r h => ?_)
    · obtain ⟨n, hn⟩ := h
      cases n with
      | zero => cases hn
      | succ n =>
        unfold run at hn
        rw [hM] at hn
        simp only [Option.bind_some, ha, hk] at hn
        cases hq : run P al n d k (0, ini (mi_mx mq) as, [], x.2.2.2) with
        | none => rw [hq] at hn; cases hn
        | some q2 =>
          rw [hq] at hn
          rw [run_one hn1 hq]
          exact ⟨n, hn⟩
    · obtain ⟨n, hn⟩ := h
      refine ⟨max n n1 + 1, ?_⟩
      unfold run
      rw [hM]
      simp only [Option.bind_some, ha, hk]
      rw [run_le (Nat.le_max_right n n1) hn1]
      simp only [Option.bind_some]
      exact run_le (Nat.le_max_left n n1) hn
end XE
