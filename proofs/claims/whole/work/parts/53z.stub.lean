def F_lw_law (a0 : Nat) (h : Hp) : Option (Int32 × Hp) := sorry
theorem R_lw_law (d : Nat) (hd : 24 ≤ d) {a0 : Nat} {h : Hp} {v : Int32} {h' : Hp} (hS : F_lw_law a0 h = some (v, h')) : Ev P d 1 (0, [.ref a0, unk, unk, unk, unk, unk, unk], [], h) (some (.int v), h') := sorry
theorem pure_law (xs : List Int32) (hx : xs.length ≤ 3072) : ∃ hf, F_lw_law 1000000 (h0 xs) = some (1, hf) ∧ cn hf ≤ 601024 ∧ wd hf ≤ 7293033 := sorry
