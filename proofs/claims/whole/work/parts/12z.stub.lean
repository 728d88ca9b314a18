def Cd (m : MI) : Prop := Cond.code (mi_y m) (mi_cc m) (mi_mx m) (mi_rt m) ∈ tw ∧ plainFor (mi_y m) = true
theorem P_ok {M : Nat} {m : MI} (h : P[M]? = some m) : okM m := sorry
theorem P_cd {M : Nat} {m : MI} (h : P[M]? = some m) (hM : 2 ≤ M) : Cd m := sorry
