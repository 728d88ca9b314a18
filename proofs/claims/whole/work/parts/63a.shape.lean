/-! shapes of the objects: kinds, references, lengths -/
def SS (b : Nat) (h : Hp) : Prop := kd h b = 8 ∧ fR h b 0 = some (b + 1) ∧ kd h (b + 1) = 100 ∧ (iA h (b + 1)).length = 25 ∧ fR h b 1 = some (b + 2) ∧ kd h (b + 2) = 100 ∧ (iA h (b + 2)).length = 3
theorem SS_k {b : Nat} {h : Hp} (H : SS b h) : kd h b = 8 := H.1
theorem SS_r0 {b : Nat} {h : Hp} (H : SS b h) : fR h b 0 = some (b + 1) := H.2.1
theorem SS_k0 {b : Nat} {h : Hp} (H : SS b h) : kd h (b + 1) = 100 := H.2.2.1
theorem SS_n0 {b : Nat} {h : Hp} (H : SS b h) : (iA h (b + 1)).length = 25 := H.2.2.2.1
theorem SS_r1 {b : Nat} {h : Hp} (H : SS b h) : fR h b 1 = some (b + 2) := H.2.2.2.2.1
theorem SS_k1 {b : Nat} {h : Hp} (H : SS b h) : kd h (b + 2) = 100 := H.2.2.2.2.2.1
theorem SS_n1 {b : Nat} {h : Hp} (H : SS b h) : (iA h (b + 2)).length = 3 := H.2.2.2.2.2.2
theorem SS_fm {lo hi : Nat} {b : Nat} {h h' : Hp} (x : Fm lo hi h h') (H : SS b h) : SS b h' := by
  unfold SS
  simp only [fm_kd x, fm_fR x, fm_len x, fm_lln x]
  exact H
def RS (r : Nat) (h : Hp) : Prop := kd h r = 6 ∧ fR h r 1 = some (r + 1) ∧ kd h (r + 1) = 100 ∧ (iA h (r + 1)).length = 5 ∧ fR h r 2 = some (r + 2) ∧ kd h (r + 2) = 100 ∧ (iA h (r + 2)).length = 5 ∧ fR h r 3 = some (r + 3) ∧ kd h (r + 3) = 100 ∧ (iA h (r + 3)).length = 5
theorem RS_k {r : Nat} {h : Hp} (H : RS r h) : kd h r = 6 := H.1
theorem RS_r1 {r : Nat} {h : Hp} (H : RS r h) : fR h r 1 = some (r + 1) := H.2.1
theorem RS_k1 {r : Nat} {h : Hp} (H : RS r h) : kd h (r + 1) = 100 := H.2.2.1
theorem RS_n1 {r : Nat} {h : Hp} (H : RS r h) : (iA h (r + 1)).length = 5 := H.2.2.2.1
theorem RS_r2 {r : Nat} {h : Hp} (H : RS r h) : fR h r 2 = some (r + 2) := H.2.2.2.2.1
theorem RS_k2 {r : Nat} {h : Hp} (H : RS r h) : kd h (r + 2) = 100 := H.2.2.2.2.2.1
theorem RS_n2 {r : Nat} {h : Hp} (H : RS r h) : (iA h (r + 2)).length = 5 := H.2.2.2.2.2.2.1
theorem RS_r3 {r : Nat} {h : Hp} (H : RS r h) : fR h r 3 = some (r + 3) := H.2.2.2.2.2.2.2.1
theorem RS_k3 {r : Nat} {h : Hp} (H : RS r h) : kd h (r + 3) = 100 := H.2.2.2.2.2.2.2.2.1
theorem RS_n3 {r : Nat} {h : Hp} (H : RS r h) : (iA h (r + 3)).length = 5 := H.2.2.2.2.2.2.2.2.2
theorem RS_fm {lo hi : Nat} {r : Nat} {h h' : Hp} (x : Fm lo hi h h') (H : RS r h) : RS r h' := by
  unfold RS
  simp only [fm_kd x, fm_fR x, fm_len x, fm_lln x]
  exact H
def TS (t : Nat) (h : Hp) : Prop := kd h t = 10 ∧ fR h t 3 = some (t + 1) ∧ kd h (t + 1) = 100 ∧ (iA h (t + 1)).length = 5 ∧ fR h t 4 = some (t + 2) ∧ kd h (t + 2) = 100 ∧ (iA h (t + 2)).length = 25 ∧ fR h t 6 = some (t + 3) ∧ kd h (t + 3) = 100 ∧ (iA h (t + 3)).length = 5 ∧ fR h t 7 = some (t + 4) ∧ kd h (t + 4) = 100 ∧ (iA h (t + 4)).length = 5 ∧ fR h t 9 = some (t + 5) ∧ kd h (t + 5) = 100 ∧ (iA h (t + 5)).length = 3 ∧ fR h t 10 = some (t + 6) ∧ kd h (t + 6) = 100 ∧ (iA h (t + 6)).length = 3 ∧ fR h t 12 = some (t + 7) ∧ kd h (t + 7) = 100 ∧ (iA h (t + 7)).length = 3 ∧ fR h t 13 = some (t + 8) ∧ kd h (t + 8) = 100 ∧ (iA h (t + 8)).length = 3 ∧ fR h t 15 = some (t + 9) ∧ kd h (t + 9) = 100 ∧ (iA h (t + 9)).length = 4 ∧ fR h t 16 = some (t + 10) ∧ kd h (t + 10) = 100 ∧ (iA h (t + 10)).length = 4 ∧ fR h t 17 = some (t + 11) ∧ kd h (t + 11) = 100 ∧ (iA h (t + 11)).length = 4 ∧ fR h t 18 = some (t + 12) ∧ kd h (t + 12) = 1 ∧ fR h (t + 12) 1 = some (t + 13) ∧ kd h (t + 13) = 100 ∧ (iA h (t + 13)).length = 4 ∧ fR h (t + 12) 2 = some (t + 14) ∧ kd h (t + 14) = 100 ∧ (iA h (t + 14)).length = 4 ∧ fR h (t + 12) 3 = some (t + 15) ∧ kd h (t + 15) = 100 ∧ (iA h (t + 15)).length = 4 ∧ fR h (t + 12) 5 = some (t + 16) ∧ kd h (t + 16) = 100 ∧ (iA h (t + 16)).length = 5 ∧ fR h (t + 12) 6 = some (t + 17) ∧ kd h (t + 17) = 100 ∧ (iA h (t + 17)).length = 5
theorem TS_k {t : Nat} {h : Hp} (H : TS t h) : kd h t = 10 := H.1
theorem TS_r3 {t : Nat} {h : Hp} (H : TS t h) : fR h t 3 = some (t + 1) := H.2.1
theorem TS_k3 {t : Nat} {h : Hp} (H : TS t h) : kd h (t + 1) = 100 := H.2.2.1
theorem TS_n3 {t : Nat} {h : Hp} (H : TS t h) : (iA h (t + 1)).length = 5 := H.2.2.2.1
theorem TS_r4 {t : Nat} {h : Hp} (H : TS t h) : fR h t 4 = some (t + 2) := H.2.2.2.2.1
theorem TS_k4 {t : Nat} {h : Hp} (H : TS t h) : kd h (t + 2) = 100 := H.2.2.2.2.2.1
theorem TS_n4 {t : Nat} {h : Hp} (H : TS t h) : (iA h (t + 2)).length = 25 := H.2.2.2.2.2.2.1
theorem TS_r6 {t : Nat} {h : Hp} (H : TS t h) : fR h t 6 = some (t + 3) := H.2.2.2.2.2.2.2.1
theorem TS_k6 {t : Nat} {h : Hp} (H : TS t h) : kd h (t + 3) = 100 := H.2.2.2.2.2.2.2.2.1
theorem TS_n6 {t : Nat} {h : Hp} (H : TS t h) : (iA h (t + 3)).length = 5 := H.2.2.2.2.2.2.2.2.2.1
theorem TS_r7 {t : Nat} {h : Hp} (H : TS t h) : fR h t 7 = some (t + 4) := H.2.2.2.2.2.2.2.2.2.2.1
theorem TS_k7 {t : Nat} {h : Hp} (H : TS t h) : kd h (t + 4) = 100 := H.2.2.2.2.2.2.2.2.2.2.2.1
theorem TS_n7 {t : Nat} {h : Hp} (H : TS t h) : (iA h (t + 4)).length = 5 := H.2.2.2.2.2.2.2.2.2.2.2.2.1
theorem TS_r9 {t : Nat} {h : Hp} (H : TS t h) : fR h t 9 = some (t + 5) := H.2.2.2.2.2.2.2.2.2.2.2.2.2.1
theorem TS_k9 {t : Nat} {h : Hp} (H : TS t h) : kd h (t + 5) = 100 := H.2.2.2.2.2.2.2.2.2.2.2.2.2.2.1
theorem TS_n9 {t : Nat} {h : Hp} (H : TS t h) : (iA h (t + 5)).length = 3 := H.2.2.2.2.2.2.2.2.2.2.2.2.2.2.2.1
theorem TS_r10 {t : Nat} {h : Hp} (H : TS t h) : fR h t 10 = some (t + 6) := H.2.2.2.2.2.2.2.2.2.2.2.2.2.2.2.2.1
theorem TS_k10 {t : Nat} {h : Hp} (H : TS t h) : kd h (t + 6) = 100 := H.2.2.2.2.2.2.2.2.2.2.2.2.2.2.2.2.2.1
theorem TS_n10 {t : Nat} {h : Hp} (H : TS t h) : (iA h (t + 6)).length = 3 := H.2.2.2.2.2.2.2.2.2.2.2.2.2.2.2.2.2.2.1
theorem TS_r12 {t : Nat} {h : Hp} (H : TS t h) : fR h t 12 = some (t + 7) := H.2.2.2.2.2.2.2.2.2.2.2.2.2.2.2.2.2.2.2.1
theorem TS_k12 {t : Nat} {h : Hp} (H : TS t h) : kd h (t + 7) = 100 := H.2.2.2.2.2.2.2.2.2.2.2.2.2.2.2.2.2.2.2.2.1
theorem TS_n12 {t : Nat} {h : Hp} (H : TS t h) : (iA h (t + 7)).length = 3 := H.2.2.2.2.2.2.2.2.2.2.2.2.2.2.2.2.2.2.2.2.2.1
theorem TS_r13 {t : Nat} {h : Hp} (H : TS t h) : fR h t 13 = some (t + 8) := H.2.2.2.2.2.2.2.2.2.2.2.2.2.2.2.2.2.2.2.2.2.2.1
theorem TS_k13 {t : Nat} {h : Hp} (H : TS t h) : kd h (t + 8) = 100 := H.2.2.2.2.2.2.2.2.2.2.2.2.2.2.2.2.2.2.2.2.2.2.2.1
theorem TS_n13 {t : Nat} {h : Hp} (H : TS t h) : (iA h (t + 8)).length = 3 := H.2.2.2.2.2.2.2.2.2.2.2.2.2.2.2.2.2.2.2.2.2.2.2.2.1
theorem TS_r15 {t : Nat} {h : Hp} (H : TS t h) : fR h t 15 = some (t + 9) := H.2.2.2.2.2.2.2.2.2.2.2.2.2.2.2.2.2.2.2.2.2.2.2.2.2.1
theorem TS_k15 {t : Nat} {h : Hp} (H : TS t h) : kd h (t + 9) = 100 := H.2.2.2.2.2.2.2.2.2.2.2.2.2.2.2.2.2.2.2.2.2.2.2.2.2.2.1
theorem TS_n15 {t : Nat} {h : Hp} (H : TS t h) : (iA h (t + 9)).length = 4 := H.2.2.2.2.2.2.2.2.2.2.2.2.2.2.2.2.2.2.2.2.2.2.2.2.2.2.2.1
theorem TS_r16 {t : Nat} {h : Hp} (H : TS t h) : fR h t 16 = some (t + 10) := H.2.2.2.2.2.2.2.2.2.2.2.2.2.2.2.2.2.2.2.2.2.2.2.2.2.2.2.2.1
theorem TS_k16 {t : Nat} {h : Hp} (H : TS t h) : kd h (t + 10) = 100 := H.2.2.2.2.2.2.2.2.2.2.2.2.2.2.2.2.2.2.2.2.2.2.2.2.2.2.2.2.2.1
theorem TS_n16 {t : Nat} {h : Hp} (H : TS t h) : (iA h (t + 10)).length = 4 := H.2.2.2.2.2.2.2.2.2.2.2.2.2.2.2.2.2.2.2.2.2.2.2.2.2.2.2.2.2.2.1
theorem TS_r17 {t : Nat} {h : Hp} (H : TS t h) : fR h t 17 = some (t + 11) := H.2.2.2.2.2.2.2.2.2.2.2.2.2.2.2.2.2.2.2.2.2.2.2.2.2.2.2.2.2.2.2.1
theorem TS_k17 {t : Nat} {h : Hp} (H : TS t h) : kd h (t + 11) = 100 := H.2.2.2.2.2.2.2.2.2.2.2.2.2.2.2.2.2.2.2.2.2.2.2.2.2.2.2.2.2.2.2.2.1
theorem TS_n17 {t : Nat} {h : Hp} (H : TS t h) : (iA h (t + 11)).length = 4 := H.2.2.2.2.2.2.2.2.2.2.2.2.2.2.2.2.2.2.2.2.2.2.2.2.2.2.2.2.2.2.2.2.2.1
theorem TS_r18 {t : Nat} {h : Hp} (H : TS t h) : fR h t 18 = some (t + 12) := H.2.2.2.2.2.2.2.2.2.2.2.2.2.2.2.2.2.2.2.2.2.2.2.2.2.2.2.2.2.2.2.2.2.2.1
theorem TS_ky {t : Nat} {h : Hp} (H : TS t h) : kd h (t + 12) = 1 := H.2.2.2.2.2.2.2.2.2.2.2.2.2.2.2.2.2.2.2.2.2.2.2.2.2.2.2.2.2.2.2.2.2.2.2.1
theorem TS_ry1 {t : Nat} {h : Hp} (H : TS t h) : fR h (t + 12) 1 = some (t + 13) := H.2.2.2.2.2.2.2.2.2.2.2.2.2.2.2.2.2.2.2.2.2.2.2.2.2.2.2.2.2.2.2.2.2.2.2.2.1
theorem TS_ky1 {t : Nat} {h : Hp} (H : TS t h) : kd h (t + 13) = 100 := H.2.2.2.2.2.2.2.2.2.2.2.2.2.2.2.2.2.2.2.2.2.2.2.2.2.2.2.2.2.2.2.2.2.2.2.2.2.1
theorem TS_ny1 {t : Nat} {h : Hp} (H : TS t h) : (iA h (t + 13)).length = 4 := H.2.2.2.2.2.2.2.2.2.2.2.2.2.2.2.2.2.2.2.2.2.2.2.2.2.2.2.2.2.2.2.2.2.2.2.2.2.2.1
theorem TS_ry2 {t : Nat} {h : Hp} (H : TS t h) : fR h (t + 12) 2 = some (t + 14) := H.2.2.2.2.2.2.2.2.2.2.2.2.2.2.2.2.2.2.2.2.2.2.2.2.2.2.2.2.2.2.2.2.2.2.2.2.2.2.2.1
theorem TS_ky2 {t : Nat} {h : Hp} (H : TS t h) : kd h (t + 14) = 100 := H.2.2.2.2.2.2.2.2.2.2.2.2.2.2.2.2.2.2.2.2.2.2.2.2.2.2.2.2.2.2.2.2.2.2.2.2.2.2.2.2.1
theorem TS_ny2 {t : Nat} {h : Hp} (H : TS t h) : (iA h (t + 14)).length = 4 := H.2.2.2.2.2.2.2.2.2.2.2.2.2.2.2.2.2.2.2.2.2.2.2.2.2.2.2.2.2.2.2.2.2.2.2.2.2.2.2.2.2.1
theorem TS_ry3 {t : Nat} {h : Hp} (H : TS t h) : fR h (t + 12) 3 = some (t + 15) := H.2.2.2.2.2.2.2.2.2.2.2.2.2.2.2.2.2.2.2.2.2.2.2.2.2.2.2.2.2.2.2.2.2.2.2.2.2.2.2.2.2.2.1
theorem TS_ky3 {t : Nat} {h : Hp} (H : TS t h) : kd h (t + 15) = 100 := H.2.2.2.2.2.2.2.2.2.2.2.2.2.2.2.2.2.2.2.2.2.2.2.2.2.2.2.2.2.2.2.2.2.2.2.2.2.2.2.2.2.2.2.1
theorem TS_ny3 {t : Nat} {h : Hp} (H : TS t h) : (iA h (t + 15)).length = 4 := H.2.2.2.2.2.2.2.2.2.2.2.2.2.2.2.2.2.2.2.2.2.2.2.2.2.2.2.2.2.2.2.2.2.2.2.2.2.2.2.2.2.2.2.2.1
theorem TS_ry5 {t : Nat} {h : Hp} (H : TS t h) : fR h (t + 12) 5 = some (t + 16) := H.2.2.2.2.2.2.2.2.2.2.2.2.2.2.2.2.2.2.2.2.2.2.2.2.2.2.2.2.2.2.2.2.2.2.2.2.2.2.2.2.2.2.2.2.2.1
theorem TS_ky5 {t : Nat} {h : Hp} (H : TS t h) : kd h (t + 16) = 100 := H.2.2.2.2.2.2.2.2.2.2.2.2.2.2.2.2.2.2.2.2.2.2.2.2.2.2.2.2.2.2.2.2.2.2.2.2.2.2.2.2.2.2.2.2.2.2.1
theorem TS_ny5 {t : Nat} {h : Hp} (H : TS t h) : (iA h (t + 16)).length = 5 := H.2.2.2.2.2.2.2.2.2.2.2.2.2.2.2.2.2.2.2.2.2.2.2.2.2.2.2.2.2.2.2.2.2.2.2.2.2.2.2.2.2.2.2.2.2.2.2.1
theorem TS_ry6 {t : Nat} {h : Hp} (H : TS t h) : fR h (t + 12) 6 = some (t + 17) := H.2.2.2.2.2.2.2.2.2.2.2.2.2.2.2.2.2.2.2.2.2.2.2.2.2.2.2.2.2.2.2.2.2.2.2.2.2.2.2.2.2.2.2.2.2.2.2.2.1
theorem TS_ky6 {t : Nat} {h : Hp} (H : TS t h) : kd h (t + 17) = 100 := H.2.2.2.2.2.2.2.2.2.2.2.2.2.2.2.2.2.2.2.2.2.2.2.2.2.2.2.2.2.2.2.2.2.2.2.2.2.2.2.2.2.2.2.2.2.2.2.2.2.1
theorem TS_ny6 {t : Nat} {h : Hp} (H : TS t h) : (iA h (t + 17)).length = 5 := H.2.2.2.2.2.2.2.2.2.2.2.2.2.2.2.2.2.2.2.2.2.2.2.2.2.2.2.2.2.2.2.2.2.2.2.2.2.2.2.2.2.2.2.2.2.2.2.2.2.2
theorem TS_fm {lo hi : Nat} {t : Nat} {h h' : Hp} (x : Fm lo hi h h') (H : TS t h) : TS t h' := by
  unfold TS
  simp only [fm_kd x, fm_fR x, fm_len x, fm_lln x]
  exact H
def YS (b : Nat) (h : Hp) : Prop := kd h b = 12 ∧ fR h b 9 = some (b + 1) ∧ kd h (b + 1) = 100 ∧ (iA h (b + 1)).length = 5 ∧ fR h b 10 = some (b + 2) ∧ kd h (b + 2) = 100 ∧ (iA h (b + 2)).length = 5 ∧ fR h b 11 = some (b + 3) ∧ kd h (b + 3) = 100 ∧ (iA h (b + 3)).length = 25 ∧ fR h b 12 = some (b + 4) ∧ kd h (b + 4) = 100 ∧ (iA h (b + 4)).length = 5 ∧ fR h b 13 = some (b + 5) ∧ kd h (b + 5) = 100 ∧ (iA h (b + 5)).length = 5 ∧ fR h b 14 = some (b + 6) ∧ kd h (b + 6) = 100 ∧ (iA h (b + 6)).length = 5 ∧ fR h b 15 = some (b + 7) ∧ kd h (b + 7) = 100 ∧ (iA h (b + 7)).length = 3 ∧ fR h b 16 = some (b + 8) ∧ kd h (b + 8) = 100 ∧ (iA h (b + 8)).length = 3 ∧ fR h b 17 = some (b + 9) ∧ kd h (b + 9) = 100 ∧ (iA h (b + 9)).length = 3 ∧ fR h b 18 = some (b + 10) ∧ kd h (b + 10) = 100 ∧ (iA h (b + 10)).length = 3 ∧ fR h b 19 = some (b + 11) ∧ kd h (b + 11) = 100 ∧ (iA h (b + 11)).length = 4 ∧ fR h b 20 = some (b + 12) ∧ kd h (b + 12) = 100 ∧ (iA h (b + 12)).length = 4 ∧ fR h b 21 = some (b + 13) ∧ kd h (b + 13) = 100 ∧ (iA h (b + 13)).length = 4 ∧ fR h b 22 = some (b + 14) ∧ kd h (b + 14) = 100 ∧ (iA h (b + 14)).length = 4 ∧ fR h b 23 = some (b + 15) ∧ kd h (b + 15) = 100 ∧ (iA h (b + 15)).length = 4 ∧ fR h b 24 = some (b + 16) ∧ kd h (b + 16) = 100 ∧ (iA h (b + 16)).length = 4 ∧ fR h b 25 = some (b + 17) ∧ kd h (b + 17) = 100 ∧ (iA h (b + 17)).length = 5 ∧ fR h b 26 = some (b + 18) ∧ kd h (b + 18) = 100 ∧ (iA h (b + 18)).length = 5 ∧ fR h b 27 = some (b + 19) ∧ kd h (b + 19) = 102 ∧ (lA h (b + 19)).length = 11 ∧ fR h b 28 = some (b + 20) ∧ kd h (b + 20) = 100 ∧ (iA h (b + 20)).length = 11 ∧ fR h b 29 = some (b + 21) ∧ kd h (b + 21) = 100 ∧ (iA h (b + 21)).length = 11
theorem YS_k {b : Nat} {h : Hp} (H : YS b h) : kd h b = 12 := H.1
theorem YS_r9 {b : Nat} {h : Hp} (H : YS b h) : fR h b 9 = some (b + 1) := H.2.1
theorem YS_k9 {b : Nat} {h : Hp} (H : YS b h) : kd h (b + 1) = 100 := H.2.2.1
theorem YS_n9 {b : Nat} {h : Hp} (H : YS b h) : (iA h (b + 1)).length = 5 := H.2.2.2.1
theorem YS_r10 {b : Nat} {h : Hp} (H : YS b h) : fR h b 10 = some (b + 2) := H.2.2.2.2.1
theorem YS_k10 {b : Nat} {h : Hp} (H : YS b h) : kd h (b + 2) = 100 := H.2.2.2.2.2.1
theorem YS_n10 {b : Nat} {h : Hp} (H : YS b h) : (iA h (b + 2)).length = 5 := H.2.2.2.2.2.2.1
theorem YS_r11 {b : Nat} {h : Hp} (H : YS b h) : fR h b 11 = some (b + 3) := H.2.2.2.2.2.2.2.1
theorem YS_k11 {b : Nat} {h : Hp} (H : YS b h) : kd h (b + 3) = 100 := H.2.2.2.2.2.2.2.2.1
theorem YS_n11 {b : Nat} {h : Hp} (H : YS b h) : (iA h (b + 3)).length = 25 := H.2.2.2.2.2.2.2.2.2.1
theorem YS_r12 {b : Nat} {h : Hp} (H : YS b h) : fR h b 12 = some (b + 4) := H.2.2.2.2.2.2.2.2.2.2.1
theorem YS_k12 {b : Nat} {h : Hp} (H : YS b h) : kd h (b + 4) = 100 := H.2.2.2.2.2.2.2.2.2.2.2.1
theorem YS_n12 {b : Nat} {h : Hp} (H : YS b h) : (iA h (b + 4)).length = 5 := H.2.2.2.2.2.2.2.2.2.2.2.2.1
theorem YS_r13 {b : Nat} {h : Hp} (H : YS b h) : fR h b 13 = some (b + 5) := H.2.2.2.2.2.2.2.2.2.2.2.2.2.1
theorem YS_k13 {b : Nat} {h : Hp} (H : YS b h) : kd h (b + 5) = 100 := H.2.2.2.2.2.2.2.2.2.2.2.2.2.2.1
theorem YS_n13 {b : Nat} {h : Hp} (H : YS b h) : (iA h (b + 5)).length = 5 := H.2.2.2.2.2.2.2.2.2.2.2.2.2.2.2.1
theorem YS_r14 {b : Nat} {h : Hp} (H : YS b h) : fR h b 14 = some (b + 6) := H.2.2.2.2.2.2.2.2.2.2.2.2.2.2.2.2.1
theorem YS_k14 {b : Nat} {h : Hp} (H : YS b h) : kd h (b + 6) = 100 := H.2.2.2.2.2.2.2.2.2.2.2.2.2.2.2.2.2.1
theorem YS_n14 {b : Nat} {h : Hp} (H : YS b h) : (iA h (b + 6)).length = 5 := H.2.2.2.2.2.2.2.2.2.2.2.2.2.2.2.2.2.2.1
theorem YS_r15 {b : Nat} {h : Hp} (H : YS b h) : fR h b 15 = some (b + 7) := H.2.2.2.2.2.2.2.2.2.2.2.2.2.2.2.2.2.2.2.1
theorem YS_k15 {b : Nat} {h : Hp} (H : YS b h) : kd h (b + 7) = 100 := H.2.2.2.2.2.2.2.2.2.2.2.2.2.2.2.2.2.2.2.2.1
theorem YS_n15 {b : Nat} {h : Hp} (H : YS b h) : (iA h (b + 7)).length = 3 := H.2.2.2.2.2.2.2.2.2.2.2.2.2.2.2.2.2.2.2.2.2.1
theorem YS_r16 {b : Nat} {h : Hp} (H : YS b h) : fR h b 16 = some (b + 8) := H.2.2.2.2.2.2.2.2.2.2.2.2.2.2.2.2.2.2.2.2.2.2.1
theorem YS_k16 {b : Nat} {h : Hp} (H : YS b h) : kd h (b + 8) = 100 := H.2.2.2.2.2.2.2.2.2.2.2.2.2.2.2.2.2.2.2.2.2.2.2.1
theorem YS_n16 {b : Nat} {h : Hp} (H : YS b h) : (iA h (b + 8)).length = 3 := H.2.2.2.2.2.2.2.2.2.2.2.2.2.2.2.2.2.2.2.2.2.2.2.2.1
theorem YS_r17 {b : Nat} {h : Hp} (H : YS b h) : fR h b 17 = some (b + 9) := H.2.2.2.2.2.2.2.2.2.2.2.2.2.2.2.2.2.2.2.2.2.2.2.2.2.1
theorem YS_k17 {b : Nat} {h : Hp} (H : YS b h) : kd h (b + 9) = 100 := H.2.2.2.2.2.2.2.2.2.2.2.2.2.2.2.2.2.2.2.2.2.2.2.2.2.2.1
theorem YS_n17 {b : Nat} {h : Hp} (H : YS b h) : (iA h (b + 9)).length = 3 := H.2.2.2.2.2.2.2.2.2.2.2.2.2.2.2.2.2.2.2.2.2.2.2.2.2.2.2.1
theorem YS_r18 {b : Nat} {h : Hp} (H : YS b h) : fR h b 18 = some (b + 10) := H.2.2.2.2.2.2.2.2.2.2.2.2.2.2.2.2.2.2.2.2.2.2.2.2.2.2.2.2.1
theorem YS_k18 {b : Nat} {h : Hp} (H : YS b h) : kd h (b + 10) = 100 := H.2.2.2.2.2.2.2.2.2.2.2.2.2.2.2.2.2.2.2.2.2.2.2.2.2.2.2.2.2.1
theorem YS_n18 {b : Nat} {h : Hp} (H : YS b h) : (iA h (b + 10)).length = 3 := H.2.2.2.2.2.2.2.2.2.2.2.2.2.2.2.2.2.2.2.2.2.2.2.2.2.2.2.2.2.2.1
theorem YS_r19 {b : Nat} {h : Hp} (H : YS b h) : fR h b 19 = some (b + 11) := H.2.2.2.2.2.2.2.2.2.2.2.2.2.2.2.2.2.2.2.2.2.2.2.2.2.2.2.2.2.2.2.1
theorem YS_k19 {b : Nat} {h : Hp} (H : YS b h) : kd h (b + 11) = 100 := H.2.2.2.2.2.2.2.2.2.2.2.2.2.2.2.2.2.2.2.2.2.2.2.2.2.2.2.2.2.2.2.2.1
theorem YS_n19 {b : Nat} {h : Hp} (H : YS b h) : (iA h (b + 11)).length = 4 := H.2.2.2.2.2.2.2.2.2.2.2.2.2.2.2.2.2.2.2.2.2.2.2.2.2.2.2.2.2.2.2.2.2.1
theorem YS_r20 {b : Nat} {h : Hp} (H : YS b h) : fR h b 20 = some (b + 12) := H.2.2.2.2.2.2.2.2.2.2.2.2.2.2.2.2.2.2.2.2.2.2.2.2.2.2.2.2.2.2.2.2.2.2.1
theorem YS_k20 {b : Nat} {h : Hp} (H : YS b h) : kd h (b + 12) = 100 := H.2.2.2.2.2.2.2.2.2.2.2.2.2.2.2.2.2.2.2.2.2.2.2.2.2.2.2.2.2.2.2.2.2.2.2.1
theorem YS_n20 {b : Nat} {h : Hp} (H : YS b h) : (iA h (b + 12)).length = 4 := H.2.2.2.2.2.2.2.2.2.2.2.2.2.2.2.2.2.2.2.2.2.2.2.2.2.2.2.2.2.2.2.2.2.2.2.2.1
theorem YS_r21 {b : Nat} {h : Hp} (H : YS b h) : fR h b 21 = some (b + 13) := H.2.2.2.2.2.2.2.2.2.2.2.2.2.2.2.2.2.2.2.2.2.2.2.2.2.2.2.2.2.2.2.2.2.2.2.2.2.1
theorem YS_k21 {b : Nat} {h : Hp} (H : YS b h) : kd h (b + 13) = 100 := H.2.2.2.2.2.2.2.2.2.2.2.2.2.2.2.2.2.2.2.2.2.2.2.2.2.2.2.2.2.2.2.2.2.2.2.2.2.2.1
theorem YS_n21 {b : Nat} {h : Hp} (H : YS b h) : (iA h (b + 13)).length = 4 := H.2.2.2.2.2.2.2.2.2.2.2.2.2.2.2.2.2.2.2.2.2.2.2.2.2.2.2.2.2.2.2.2.2.2.2.2.2.2.2.1
theorem YS_r22 {b : Nat} {h : Hp} (H : YS b h) : fR h b 22 = some (b + 14) := H.2.2.2.2.2.2.2.2.2.2.2.2.2.2.2.2.2.2.2.2.2.2.2.2.2.2.2.2.2.2.2.2.2.2.2.2.2.2.2.2.1
theorem YS_k22 {b : Nat} {h : Hp} (H : YS b h) : kd h (b + 14) = 100 := H.2.2.2.2.2.2.2.2.2.2.2.2.2.2.2.2.2.2.2.2.2.2.2.2.2.2.2.2.2.2.2.2.2.2.2.2.2.2.2.2.2.1
theorem YS_n22 {b : Nat} {h : Hp} (H : YS b h) : (iA h (b + 14)).length = 4 := H.2.2.2.2.2.2.2.2.2.2.2.2.2.2.2.2.2.2.2.2.2.2.2.2.2.2.2.2.2.2.2.2.2.2.2.2.2.2.2.2.2.2.1
theorem YS_r23 {b : Nat} {h : Hp} (H : YS b h) : fR h b 23 = some (b + 15) := H.2.2.2.2.2.2.2.2.2.2.2.2.2.2.2.2.2.2.2.2.2.2.2.2.2.2.2.2.2.2.2.2.2.2.2.2.2.2.2.2.2.2.2.1
theorem YS_k23 {b : Nat} {h : Hp} (H : YS b h) : kd h (b + 15) = 100 := H.2.2.2.2.2.2.2.2.2.2.2.2.2.2.2.2.2.2.2.2.2.2.2.2.2.2.2.2.2.2.2.2.2.2.2.2.2.2.2.2.2.2.2.2.1
theorem YS_n23 {b : Nat} {h : Hp} (H : YS b h) : (iA h (b + 15)).length = 4 := H.2.2.2.2.2.2.2.2.2.2.2.2.2.2.2.2.2.2.2.2.2.2.2.2.2.2.2.2.2.2.2.2.2.2.2.2.2.2.2.2.2.2.2.2.2.1
theorem YS_r24 {b : Nat} {h : Hp} (H : YS b h) : fR h b 24 = some (b + 16) := H.2.2.2.2.2.2.2.2.2.2.2.2.2.2.2.2.2.2.2.2.2.2.2.2.2.2.2.2.2.2.2.2.2.2.2.2.2.2.2.2.2.2.2.2.2.2.1
theorem YS_k24 {b : Nat} {h : Hp} (H : YS b h) : kd h (b + 16) = 100 := H.2.2.2.2.2.2.2.2.2.2.2.2.2.2.2.2.2.2.2.2.2.2.2.2.2.2.2.2.2.2.2.2.2.2.2.2.2.2.2.2.2.2.2.2.2.2.2.1
theorem YS_n24 {b : Nat} {h : Hp} (H : YS b h) : (iA h (b + 16)).length = 4 := H.2.2.2.2.2.2.2.2.2.2.2.2.2.2.2.2.2.2.2.2.2.2.2.2.2.2.2.2.2.2.2.2.2.2.2.2.2.2.2.2.2.2.2.2.2.2.2.2.1
theorem YS_r25 {b : Nat} {h : Hp} (H : YS b h) : fR h b 25 = some (b + 17) := H.2.2.2.2.2.2.2.2.2.2.2.2.2.2.2.2.2.2.2.2.2.2.2.2.2.2.2.2.2.2.2.2.2.2.2.2.2.2.2.2.2.2.2.2.2.2.2.2.2.1
theorem YS_k25 {b : Nat} {h : Hp} (H : YS b h) : kd h (b + 17) = 100 := H.2.2.2.2.2.2.2.2.2.2.2.2.2.2.2.2.2.2.2.2.2.2.2.2.2.2.2.2.2.2.2.2.2.2.2.2.2.2.2.2.2.2.2.2.2.2.2.2.2.2.1
theorem YS_n25 {b : Nat} {h : Hp} (H : YS b h) : (iA h (b + 17)).length = 5 := H.2.2.2.2.2.2.2.2.2.2.2.2.2.2.2.2.2.2.2.2.2.2.2.2.2.2.2.2.2.2.2.2.2.2.2.2.2.2.2.2.2.2.2.2.2.2.2.2.2.2.2.1
theorem YS_r26 {b : Nat} {h : Hp} (H : YS b h) : fR h b 26 = some (b + 18) := H.2.2.2.2.2.2.2.2.2.2.2.2.2.2.2.2.2.2.2.2.2.2.2.2.2.2.2.2.2.2.2.2.2.2.2.2.2.2.2.2.2.2.2.2.2.2.2.2.2.2.2.2.1
theorem YS_k26 {b : Nat} {h : Hp} (H : YS b h) : kd h (b + 18) = 100 := H.2.2.2.2.2.2.2.2.2.2.2.2.2.2.2.2.2.2.2.2.2.2.2.2.2.2.2.2.2.2.2.2.2.2.2.2.2.2.2.2.2.2.2.2.2.2.2.2.2.2.2.2.2.1
theorem YS_n26 {b : Nat} {h : Hp} (H : YS b h) : (iA h (b + 18)).length = 5 := H.2.2.2.2.2.2.2.2.2.2.2.2.2.2.2.2.2.2.2.2.2.2.2.2.2.2.2.2.2.2.2.2.2.2.2.2.2.2.2.2.2.2.2.2.2.2.2.2.2.2.2.2.2.2.1
theorem YS_r27 {b : Nat} {h : Hp} (H : YS b h) : fR h b 27 = some (b + 19) := H.2.2.2.2.2.2.2.2.2.2.2.2.2.2.2.2.2.2.2.2.2.2.2.2.2.2.2.2.2.2.2.2.2.2.2.2.2.2.2.2.2.2.2.2.2.2.2.2.2.2.2.2.2.2.2.1
theorem YS_k27 {b : Nat} {h : Hp} (H : YS b h) : kd h (b + 19) = 102 := H.2.2.2.2.2.2.2.2.2.2.2.2.2.2.2.2.2.2.2.2.2.2.2.2.2.2.2.2.2.2.2.2.2.2.2.2.2.2.2.2.2.2.2.2.2.2.2.2.2.2.2.2.2.2.2.2.1
theorem YS_n27 {b : Nat} {h : Hp} (H : YS b h) : (lA h (b + 19)).length = 11 := H.2.2.2.2.2.2.2.2.2.2.2.2.2.2.2.2.2.2.2.2.2.2.2.2.2.2.2.2.2.2.2.2.2.2.2.2.2.2.2.2.2.2.2.2.2.2.2.2.2.2.2.2.2.2.2.2.2.1
theorem YS_r28 {b : Nat} {h : Hp} (H : YS b h) : fR h b 28 = some (b + 20) := H.2.2.2.2.2.2.2.2.2.2.2.2.2.2.2.2.2.2.2.2.2.2.2.2.2.2.2.2.2.2.2.2.2.2.2.2.2.2.2.2.2.2.2.2.2.2.2.2.2.2.2.2.2.2.2.2.2.2.1
theorem YS_k28 {b : Nat} {h : Hp} (H : YS b h) : kd h (b + 20) = 100 := H.2.2.2.2.2.2.2.2.2.2.2.2.2.2.2.2.2.2.2.2.2.2.2.2.2.2.2.2.2.2.2.2.2.2.2.2.2.2.2.2.2.2.2.2.2.2.2.2.2.2.2.2.2.2.2.2.2.2.2.1
theorem YS_n28 {b : Nat} {h : Hp} (H : YS b h) : (iA h (b + 20)).length = 11 := H.2.2.2.2.2.2.2.2.2.2.2.2.2.2.2.2.2.2.2.2.2.2.2.2.2.2.2.2.2.2.2.2.2.2.2.2.2.2.2.2.2.2.2.2.2.2.2.2.2.2.2.2.2.2.2.2.2.2.2.2.1
theorem YS_r29 {b : Nat} {h : Hp} (H : YS b h) : fR h b 29 = some (b + 21) := H.2.2.2.2.2.2.2.2.2.2.2.2.2.2.2.2.2.2.2.2.2.2.2.2.2.2.2.2.2.2.2.2.2.2.2.2.2.2.2.2.2.2.2.2.2.2.2.2.2.2.2.2.2.2.2.2.2.2.2.2.2.1
theorem YS_k29 {b : Nat} {h : Hp} (H : YS b h) : kd h (b + 21) = 100 := H.2.2.2.2.2.2.2.2.2.2.2.2.2.2.2.2.2.2.2.2.2.2.2.2.2.2.2.2.2.2.2.2.2.2.2.2.2.2.2.2.2.2.2.2.2.2.2.2.2.2.2.2.2.2.2.2.2.2.2.2.2.2.1
theorem YS_n29 {b : Nat} {h : Hp} (H : YS b h) : (iA h (b + 21)).length = 11 := H.2.2.2.2.2.2.2.2.2.2.2.2.2.2.2.2.2.2.2.2.2.2.2.2.2.2.2.2.2.2.2.2.2.2.2.2.2.2.2.2.2.2.2.2.2.2.2.2.2.2.2.2.2.2.2.2.2.2.2.2.2.2.2
theorem YS_fm {lo hi : Nat} {b : Nat} {h h' : Hp} (x : Fm lo hi h h') (H : YS b h) : YS b h' := by
  unfold YS
  simp only [fm_kd x, fm_fR x, fm_len x, fm_lln x]
  exact H
def MS (h : Hp) : Prop := kd h 88 = 13 ∧ fR h 88 5 = some (89) ∧ kd h (89) = 101 ∧ (iA h (89)).length = 1000 ∧ fR h 88 15 = some (90) ∧ kd h (90) = 100 ∧ (iA h (90)).length = 31 ∧ fR h 88 16 = some (91) ∧ kd h (91) = 100 ∧ (iA h (91)).length = 31 ∧ fR h 88 17 = some (92) ∧ kd h (92) = 100 ∧ (iA h (92)).length = 496 ∧ fR h 88 18 = some (93) ∧ kd h (93) = 100 ∧ (iA h (93)).length = 93 ∧ fR h 88 21 = some (94) ∧ kd h (94) = 100 ∧ (iA h (94)).length = 3 ∧ fR h 88 22 = some (95) ∧ kd h (95) = 100 ∧ (iA h (95)).length = 3 ∧ fR h 88 23 = some (96) ∧ kd h (96) = 100 ∧ (iA h (96)).length = 3 ∧ fR h 88 24 = some (97) ∧ kd h (97) = 100 ∧ (iA h (97)).length = 3 ∧ fR h 88 25 = some (98) ∧ kd h (98) = 100 ∧ (iA h (98)).length = 3 ∧ fR h 88 30 = some (99) ∧ kd h (99) = 100 ∧ (iA h (99)).length = 900 ∧ fR h 88 31 = some (100) ∧ kd h (100) = 100 ∧ (iA h (100)).length = 4
theorem MS_k {h : Hp} (H : MS h) : kd h 88 = 13 := H.1
theorem MS_r5 {h : Hp} (H : MS h) : fR h 88 5 = some (89) := H.2.1
theorem MS_k5 {h : Hp} (H : MS h) : kd h (89) = 101 := H.2.2.1
theorem MS_n5 {h : Hp} (H : MS h) : (iA h (89)).length = 1000 := H.2.2.2.1
theorem MS_r15 {h : Hp} (H : MS h) : fR h 88 15 = some (90) := H.2.2.2.2.1
theorem MS_k15 {h : Hp} (H : MS h) : kd h (90) = 100 := H.2.2.2.2.2.1
theorem MS_n15 {h : Hp} (H : MS h) : (iA h (90)).length = 31 := H.2.2.2.2.2.2.1
theorem MS_r16 {h : Hp} (H : MS h) : fR h 88 16 = some (91) := H.2.2.2.2.2.2.2.1
theorem MS_k16 {h : Hp} (H : MS h) : kd h (91) = 100 := H.2.2.2.2.2.2.2.2.1
theorem MS_n16 {h : Hp} (H : MS h) : (iA h (91)).length = 31 := H.2.2.2.2.2.2.2.2.2.1
theorem MS_r17 {h : Hp} (H : MS h) : fR h 88 17 = some (92) := H.2.2.2.2.2.2.2.2.2.2.1
theorem MS_k17 {h : Hp} (H : MS h) : kd h (92) = 100 := H.2.2.2.2.2.2.2.2.2.2.2.1
theorem MS_n17 {h : Hp} (H : MS h) : (iA h (92)).length = 496 := H.2.2.2.2.2.2.2.2.2.2.2.2.1
theorem MS_r18 {h : Hp} (H : MS h) : fR h 88 18 = some (93) := H.2.2.2.2.2.2.2.2.2.2.2.2.2.1
theorem MS_k18 {h : Hp} (H : MS h) : kd h (93) = 100 := H.2.2.2.2.2.2.2.2.2.2.2.2.2.2.1
theorem MS_n18 {h : Hp} (H : MS h) : (iA h (93)).length = 93 := H.2.2.2.2.2.2.2.2.2.2.2.2.2.2.2.1
theorem MS_r21 {h : Hp} (H : MS h) : fR h 88 21 = some (94) := H.2.2.2.2.2.2.2.2.2.2.2.2.2.2.2.2.1
theorem MS_k21 {h : Hp} (H : MS h) : kd h (94) = 100 := H.2.2.2.2.2.2.2.2.2.2.2.2.2.2.2.2.2.1
theorem MS_n21 {h : Hp} (H : MS h) : (iA h (94)).length = 3 := H.2.2.2.2.2.2.2.2.2.2.2.2.2.2.2.2.2.2.1
theorem MS_r22 {h : Hp} (H : MS h) : fR h 88 22 = some (95) := H.2.2.2.2.2.2.2.2.2.2.2.2.2.2.2.2.2.2.2.1
theorem MS_k22 {h : Hp} (H : MS h) : kd h (95) = 100 := H.2.2.2.2.2.2.2.2.2.2.2.2.2.2.2.2.2.2.2.2.1
theorem MS_n22 {h : Hp} (H : MS h) : (iA h (95)).length = 3 := H.2.2.2.2.2.2.2.2.2.2.2.2.2.2.2.2.2.2.2.2.2.1
theorem MS_r23 {h : Hp} (H : MS h) : fR h 88 23 = some (96) := H.2.2.2.2.2.2.2.2.2.2.2.2.2.2.2.2.2.2.2.2.2.2.1
theorem MS_k23 {h : Hp} (H : MS h) : kd h (96) = 100 := H.2.2.2.2.2.2.2.2.2.2.2.2.2.2.2.2.2.2.2.2.2.2.2.1
theorem MS_n23 {h : Hp} (H : MS h) : (iA h (96)).length = 3 := H.2.2.2.2.2.2.2.2.2.2.2.2.2.2.2.2.2.2.2.2.2.2.2.2.1
theorem MS_r24 {h : Hp} (H : MS h) : fR h 88 24 = some (97) := H.2.2.2.2.2.2.2.2.2.2.2.2.2.2.2.2.2.2.2.2.2.2.2.2.2.1
theorem MS_k24 {h : Hp} (H : MS h) : kd h (97) = 100 := H.2.2.2.2.2.2.2.2.2.2.2.2.2.2.2.2.2.2.2.2.2.2.2.2.2.2.1
theorem MS_n24 {h : Hp} (H : MS h) : (iA h (97)).length = 3 := H.2.2.2.2.2.2.2.2.2.2.2.2.2.2.2.2.2.2.2.2.2.2.2.2.2.2.2.1
theorem MS_r25 {h : Hp} (H : MS h) : fR h 88 25 = some (98) := H.2.2.2.2.2.2.2.2.2.2.2.2.2.2.2.2.2.2.2.2.2.2.2.2.2.2.2.2.1
theorem MS_k25 {h : Hp} (H : MS h) : kd h (98) = 100 := H.2.2.2.2.2.2.2.2.2.2.2.2.2.2.2.2.2.2.2.2.2.2.2.2.2.2.2.2.2.1
theorem MS_n25 {h : Hp} (H : MS h) : (iA h (98)).length = 3 := H.2.2.2.2.2.2.2.2.2.2.2.2.2.2.2.2.2.2.2.2.2.2.2.2.2.2.2.2.2.2.1
theorem MS_r30 {h : Hp} (H : MS h) : fR h 88 30 = some (99) := H.2.2.2.2.2.2.2.2.2.2.2.2.2.2.2.2.2.2.2.2.2.2.2.2.2.2.2.2.2.2.2.1
theorem MS_k30 {h : Hp} (H : MS h) : kd h (99) = 100 := H.2.2.2.2.2.2.2.2.2.2.2.2.2.2.2.2.2.2.2.2.2.2.2.2.2.2.2.2.2.2.2.2.1
theorem MS_n30 {h : Hp} (H : MS h) : (iA h (99)).length = 900 := H.2.2.2.2.2.2.2.2.2.2.2.2.2.2.2.2.2.2.2.2.2.2.2.2.2.2.2.2.2.2.2.2.2.1
theorem MS_r31 {h : Hp} (H : MS h) : fR h 88 31 = some (100) := H.2.2.2.2.2.2.2.2.2.2.2.2.2.2.2.2.2.2.2.2.2.2.2.2.2.2.2.2.2.2.2.2.2.2.1
theorem MS_k31 {h : Hp} (H : MS h) : kd h (100) = 100 := H.2.2.2.2.2.2.2.2.2.2.2.2.2.2.2.2.2.2.2.2.2.2.2.2.2.2.2.2.2.2.2.2.2.2.2.1
theorem MS_n31 {h : Hp} (H : MS h) : (iA h (100)).length = 4 := H.2.2.2.2.2.2.2.2.2.2.2.2.2.2.2.2.2.2.2.2.2.2.2.2.2.2.2.2.2.2.2.2.2.2.2.2
theorem MS_fm {lo hi : Nat} {h h' : Hp} (x : Fm lo hi h h') (H : MS h) : MS h' := by
  unfold MS
  simp only [fm_kd x, fm_fR x, fm_len x, fm_lln x]
  exact H
def XS (h : Hp) : Prop := kd h 0 = 11 ∧ fR h 0 0 = some (1) ∧ kd h (1) = 101 ∧ (iA h (1)).length = 1000 ∧ fR h 0 2 = some (2) ∧ fR h 0 4 = some (44) ∧ fR h 0 5 = some (47) ∧ fR h 0 6 = some (50) ∧ fR h 0 7 = some (54) ∧ fR h 0 8 = some (57) ∧ fR h 0 9 = some (70) ∧ fR h 0 10 = some (79) ∧ fR h 0 11 = some (84)
theorem XS_k {h : Hp} (H : XS h) : kd h 0 = 11 := H.1
theorem XS_r0 {h : Hp} (H : XS h) : fR h 0 0 = some (1) := H.2.1
theorem XS_k0 {h : Hp} (H : XS h) : kd h (1) = 101 := H.2.2.1
theorem XS_n0 {h : Hp} (H : XS h) : (iA h (1)).length = 1000 := H.2.2.2.1
theorem XS_r2 {h : Hp} (H : XS h) : fR h 0 2 = some (2) := H.2.2.2.2.1
theorem XS_r4 {h : Hp} (H : XS h) : fR h 0 4 = some (44) := H.2.2.2.2.2.1
theorem XS_r5 {h : Hp} (H : XS h) : fR h 0 5 = some (47) := H.2.2.2.2.2.2.1
theorem XS_r6 {h : Hp} (H : XS h) : fR h 0 6 = some (50) := H.2.2.2.2.2.2.2.1
theorem XS_r7 {h : Hp} (H : XS h) : fR h 0 7 = some (54) := H.2.2.2.2.2.2.2.2.1
theorem XS_r8 {h : Hp} (H : XS h) : fR h 0 8 = some (57) := H.2.2.2.2.2.2.2.2.2.1
theorem XS_r9 {h : Hp} (H : XS h) : fR h 0 9 = some (70) := H.2.2.2.2.2.2.2.2.2.2.1
theorem XS_r10 {h : Hp} (H : XS h) : fR h 0 10 = some (79) := H.2.2.2.2.2.2.2.2.2.2.2.1
theorem XS_r11 {h : Hp} (H : XS h) : fR h 0 11 = some (84) := H.2.2.2.2.2.2.2.2.2.2.2.2
theorem XS_fm {lo hi : Nat} {h h' : Hp} (x : Fm lo hi h h') (H : XS h) : XS h' := by
  unfold XS
  simp only [fm_kd x, fm_fR x, fm_len x, fm_lln x]
  exact H
def ES (h : Hp) : Prop := kd h 54 = 3 ∧ fR h 54 0 = some (55) ∧ kd h (55) = 100 ∧ (iA h (55)).length = 496 ∧ fR h 54 1 = some (56) ∧ kd h (56) = 100 ∧ (iA h (56)).length = 93
theorem ES_k {h : Hp} (H : ES h) : kd h 54 = 3 := H.1
theorem ES_r0 {h : Hp} (H : ES h) : fR h 54 0 = some (55) := H.2.1
theorem ES_k0 {h : Hp} (H : ES h) : kd h (55) = 100 := H.2.2.1
theorem ES_n0 {h : Hp} (H : ES h) : (iA h (55)).length = 496 := H.2.2.2.1
theorem ES_r1 {h : Hp} (H : ES h) : fR h 54 1 = some (56) := H.2.2.2.2.1
theorem ES_k1 {h : Hp} (H : ES h) : kd h (56) = 100 := H.2.2.2.2.2.1
theorem ES_n1 {h : Hp} (H : ES h) : (iA h (56)).length = 93 := H.2.2.2.2.2.2
theorem ES_fm {lo hi : Nat} {h h' : Hp} (x : Fm lo hi h h') (H : ES h) : ES h' := by
  unfold ES
  simp only [fm_kd x, fm_fR x, fm_len x, fm_lln x]
  exact H
def PS (h : Hp) : Prop := kd h 57 = 5 ∧ fR h 57 1 = some (58) ∧ fR h 57 2 = some (62) ∧ fR h 57 4 = some (65) ∧ kd h (65) = 100 ∧ (iA h (65)).length = 20 ∧ fR h 57 5 = some (66) ∧ kd h (66) = 100 ∧ (iA h (66)).length = 3 ∧ fR h 57 6 = some (67) ∧ kd h (67) = 100 ∧ (iA h (67)).length = 3 ∧ fR h 57 7 = some (68) ∧ kd h (68) = 100 ∧ (iA h (68)).length = 3 ∧ fR h 57 8 = some (69) ∧ kd h (69) = 100 ∧ (iA h (69)).length = 3
theorem PS_k {h : Hp} (H : PS h) : kd h 57 = 5 := H.1
theorem PS_r1 {h : Hp} (H : PS h) : fR h 57 1 = some (58) := H.2.1
theorem PS_r2 {h : Hp} (H : PS h) : fR h 57 2 = some (62) := H.2.2.1
theorem PS_r4 {h : Hp} (H : PS h) : fR h 57 4 = some (65) := H.2.2.2.1
theorem PS_k4 {h : Hp} (H : PS h) : kd h (65) = 100 := H.2.2.2.2.1
theorem PS_n4 {h : Hp} (H : PS h) : (iA h (65)).length = 20 := H.2.2.2.2.2.1
theorem PS_r5 {h : Hp} (H : PS h) : fR h 57 5 = some (66) := H.2.2.2.2.2.2.1
theorem PS_k5 {h : Hp} (H : PS h) : kd h (66) = 100 := H.2.2.2.2.2.2.2.1
theorem PS_n5 {h : Hp} (H : PS h) : (iA h (66)).length = 3 := H.2.2.2.2.2.2.2.2.1
theorem PS_r6 {h : Hp} (H : PS h) : fR h 57 6 = some (67) := H.2.2.2.2.2.2.2.2.2.1
theorem PS_k6 {h : Hp} (H : PS h) : kd h (67) = 100 := H.2.2.2.2.2.2.2.2.2.2.1
theorem PS_n6 {h : Hp} (H : PS h) : (iA h (67)).length = 3 := H.2.2.2.2.2.2.2.2.2.2.2.1
theorem PS_r7 {h : Hp} (H : PS h) : fR h 57 7 = some (68) := H.2.2.2.2.2.2.2.2.2.2.2.2.1
theorem PS_k7 {h : Hp} (H : PS h) : kd h (68) = 100 := H.2.2.2.2.2.2.2.2.2.2.2.2.2.1
theorem PS_n7 {h : Hp} (H : PS h) : (iA h (68)).length = 3 := H.2.2.2.2.2.2.2.2.2.2.2.2.2.2.1
theorem PS_r8 {h : Hp} (H : PS h) : fR h 57 8 = some (69) := H.2.2.2.2.2.2.2.2.2.2.2.2.2.2.2.1
theorem PS_k8 {h : Hp} (H : PS h) : kd h (69) = 100 := H.2.2.2.2.2.2.2.2.2.2.2.2.2.2.2.2.1
theorem PS_n8 {h : Hp} (H : PS h) : (iA h (69)).length = 3 := H.2.2.2.2.2.2.2.2.2.2.2.2.2.2.2.2.2
theorem PS_fm {lo hi : Nat} {h h' : Hp} (x : Fm lo hi h h') (H : PS h) : PS h' := by
  unfold PS
  simp only [fm_kd x, fm_fR x, fm_len x, fm_lln x]
  exact H
def HS (h : Hp) : Prop := kd h 70 = 2 ∧ fR h 70 1 = some (71) ∧ kd h (71) = 100 ∧ (iA h (71)).length = 8 ∧ fR h 70 2 = some (72) ∧ fR h 70 3 = some (76)
theorem HS_k {h : Hp} (H : HS h) : kd h 70 = 2 := H.1
theorem HS_r1 {h : Hp} (H : HS h) : fR h 70 1 = some (71) := H.2.1
theorem HS_k1 {h : Hp} (H : HS h) : kd h (71) = 100 := H.2.2.1
theorem HS_n1 {h : Hp} (H : HS h) : (iA h (71)).length = 8 := H.2.2.2.1
theorem HS_r2 {h : Hp} (H : HS h) : fR h 70 2 = some (72) := H.2.2.2.2.1
theorem HS_r3 {h : Hp} (H : HS h) : fR h 70 3 = some (76) := H.2.2.2.2.2
theorem HS_fm {lo hi : Nat} {h h' : Hp} (x : Fm lo hi h h') (H : HS h) : HS h' := by
  unfold HS
  simp only [fm_kd x, fm_fR x, fm_len x, fm_lln x]
  exact H
def GS (h : Hp) : Prop := kd h 79 = 0 ∧ fR h 79 0 = some (80)
theorem GS_k {h : Hp} (H : GS h) : kd h 79 = 0 := H.1
theorem GS_r0 {h : Hp} (H : GS h) : fR h 79 0 = some (80) := H.2
theorem GS_fm {lo hi : Nat} {h h' : Hp} (x : Fm lo hi h h') (H : GS h) : GS h' := by
  unfold GS
  simp only [fm_kd x, fm_fR x, fm_len x, fm_lln x]
  exact H
def OS (h : Hp) : Prop := kd h 84 = 4 ∧ fR h 84 4 = some (85)
theorem OS_k {h : Hp} (H : OS h) : kd h 84 = 4 := H.1
theorem OS_r4 {h : Hp} (H : OS h) : fR h 84 4 = some (85) := H.2
theorem OS_fm {lo hi : Nat} {h h' : Hp} (x : Fm lo hi h h') (H : OS h) : OS h' := by
  unfold OS
  simp only [fm_kd x, fm_fR x, fm_len x, fm_lln x]
  exact H
def DS (h : Hp) : Prop := kd h 2 = 7 ∧ fR h 2 2 = some (3) ∧ fR h 2 6 = some (23) ∧ kd h (23) = 102 ∧ (lA h (23)).length = 11 ∧ fR h 2 7 = some (24) ∧ kd h (24) = 100 ∧ (iA h (24)).length = 11 ∧ fR h 2 8 = some (25) ∧ kd h (25) = 100 ∧ (iA h (25)).length = 11 ∧ kd h 3 = 9
theorem DS_k {h : Hp} (H : DS h) : kd h 2 = 7 := H.1
theorem DS_r2 {h : Hp} (H : DS h) : fR h 2 2 = some (3) := H.2.1
theorem DS_r6 {h : Hp} (H : DS h) : fR h 2 6 = some (23) := H.2.2.1
theorem DS_k6 {h : Hp} (H : DS h) : kd h (23) = 102 := H.2.2.2.1
theorem DS_n6 {h : Hp} (H : DS h) : (lA h (23)).length = 11 := H.2.2.2.2.1
theorem DS_r7 {h : Hp} (H : DS h) : fR h 2 7 = some (24) := H.2.2.2.2.2.1
theorem DS_k7 {h : Hp} (H : DS h) : kd h (24) = 100 := H.2.2.2.2.2.2.1
theorem DS_n7 {h : Hp} (H : DS h) : (iA h (24)).length = 11 := H.2.2.2.2.2.2.2.1
theorem DS_r8 {h : Hp} (H : DS h) : fR h 2 8 = some (25) := H.2.2.2.2.2.2.2.2.1
theorem DS_k8 {h : Hp} (H : DS h) : kd h (25) = 100 := H.2.2.2.2.2.2.2.2.2.1
theorem DS_n8 {h : Hp} (H : DS h) : (iA h (25)).length = 11 := H.2.2.2.2.2.2.2.2.2.2.1
theorem DS_kt {h : Hp} (H : DS h) : kd h 3 = 9 := H.2.2.2.2.2.2.2.2.2.2.2
theorem DS_fm {lo hi : Nat} {h h' : Hp} (x : Fm lo hi h h') (H : DS h) : DS h' := by
  unfold DS
  simp only [fm_kd x, fm_fR x, fm_len x, fm_lln x]
  exact H
