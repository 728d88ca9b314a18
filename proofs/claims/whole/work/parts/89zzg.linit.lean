/-! a new lake, in the reference -/
def ykd (j : Nat) : Nat := if j = 18 then 102 else 100
def yln (j : Nat) : Nat := if j < 2 then 5 else if j = 2 then 25 else if j < 6 then 5 else if j < 10 then 3 else if j < 16 then 4 else if j < 18 then 5 else 11
/-- the lake b with its first i rows; all below b is as before -/
def LZ (h0 : Hp) (b i : Nat) (h : Hp) : Prop := cn h = b + 1 + i ∧ b < 899000 ∧ kd h b = 12 ∧ (∀ j, j < i → fR h b (9 + j) = some (b + 1 + j) ∧ kd h (b + 1 + j) = ykd j ∧ iA h (b + 1 + j) = List.replicate (yln j) 0 ∧ lA h (b + 1 + j) = List.replicate (yln j) 0) ∧ fi h b 0 = -1 ∧ (∀ k, k ≠ 0 → fi h b k = 0) ∧ Se (fun a => a < b ∨ 1000000 ≤ a) h0 h
theorem LZ_s {h0 h : Hp} {b i : Nat} (hi : i < 21) (H : LZ h0 b i h) : ∃ h', (nA h (ykd i) (J (yln i)) = some (b + 1 + i, mkA h (ykd i) (yln i)) ∧ pR (mkA h (ykd i) (yln i)) b 12 (9 + i) (some (b + 1 + i)) = some h') ∧ LZ h0 b (i + 1) h' ∧ wd h' = wd h + yln i := by
  obtain ⟨a1, a2, a3, a4, a5, a6, a7⟩ := H
  have yb : yln i ≤ 25 := by unfold yln; split; omega; split; omega; split; omega; split; omega; split; omega; split <;> omega
  have ez : nA h (ykd i) (J (yln i)) = some (b + 1 + i, mkA h (ykd i) (yln i)) := by
    have q : (J (yln i : Int)).toNatClampNeg = yln i := by
      have w := J_to (z := (yln i : Int)) (by omega) (by omega)
      show (J (yln i : Int)).toInt.toNat = yln i
      rw [w]
      omega
    unfold nA
    rw [if_pos ⟨by rw [j_0, J_lt (by omega) (by omega) (by omega) (by omega)]; omega, by rw [q]; omega, by omega⟩, q, a1]
  have kb : kd (mkA h (ykd i) (yln i)) b = 12 := by
    show (if b = cn h then ykd i else kd h b) = 12
    rw [if_neg (by omega)]
    exact a3
  refine ⟨sFR (mkA h (ykd i) (yln i)) b (9 + i) (some (b + 1 + i)), ⟨ez, pR_e kb⟩, ⟨?_, a2, ?_, fun j hj => ?_, ?_, fun k hk => ?_, fun x hx => ?_⟩, rfl⟩
  · show cn h + 1 = _
    omega
  · exact kb
  · have fr : fR (sFR (mkA h (ykd i) (yln i)) b (9 + i) (some (b + 1 + i))) b (9 + j) = if b = b ∧ 9 + j = 9 + i then some (b + 1 + i) else fR h b (9 + j) := rfl
    have ek : kd (sFR (mkA h (ykd i) (yln i)) b (9 + i) (some (b + 1 + i))) (b + 1 + j) = if b + 1 + j = cn h then ykd i else kd h (b + 1 + j) := rfl
    have ei : iA (sFR (mkA h (ykd i) (yln i)) b (9 + i) (some (b + 1 + i))) (b + 1 + j) = if b + 1 + j = cn h then List.replicate (yln i) 0 else iA h (b + 1 + j) := rfl
    have el : lA (sFR (mkA h (ykd i) (yln i)) b (9 + i) (some (b + 1 + i))) (b + 1 + j) = if b + 1 + j = cn h then List.replicate (yln i) 0 else lA h (b + 1 + j) := rfl
    rw [fr, ek, ei, el]
    by_cases e : j = i
    · rw [e, if_pos ⟨rfl, rfl⟩, if_pos a1.symm, if_pos a1.symm, if_pos a1.symm]
      exact ⟨rfl, rfl, rfl, rfl⟩
    · rw [if_neg (by omega), if_neg (by omega), if_neg (by omega), if_neg (by omega)]
      exact a4 j (by omega)
  · exact a5
  · exact a6 k hk
  · obtain ⟨q1, q2, q3, q4, q5, q6⟩ := a7 x hx
    have nx : ¬ x = cn h := by omega
    refine ⟨?_, q2, q3, ?_, ?_, ?_⟩
    · show (if x = cn h then ykd i else kd h x) = _
      rw [if_neg nx]; exact q1
    · rw [← q4]
      funext k
      show (if x = b ∧ k = 9 + i then some (b + 1 + i) else fR h x k) = fR h x k
      rw [if_neg (by omega)]
    · show (if x = cn h then List.replicate (yln i) 0 else iA h x) = _
      rw [if_neg nx]; exact q5
    · show (if x = cn h then List.replicate (yln i) 0 else lA h x) = _
      rw [if_neg nx]; exact q6
theorem LZ_0 {h : Hp} (hc : cn h < 899000) : ∃ g h', nO h 12 = some (cn h, g) ∧ pI g (cn h) 12 0 (-1 : Int32) = some h' ∧ LZ h (cn h) 0 h' ∧ wd h' = wd h + 30 := by
  have l : (cty[12]?).map (fun l => l.length) = some 30 := by decide
  obtain ⟨w, e1, e2⟩ : ∃ w, cty[12]? = some w ∧ w.length = 30 := by
    cases q : cty[12]? with
    | none => rw [q] at l; cases l
    | some w => rw [q] at l; exact ⟨w, rfl, Option.some.inj l⟩
  have en : nO h 12 = some (cn h, mkO h 12 30) := by
    unfold nO
    rw [if_pos (by omega), e1]
    show some (cn h, mkO h 12 w.length) = _
    rw [e2]
  have kb : kd (mkO h 12 30) (cn h) = 12 := by
    show (if cn h = cn h then 12 else kd h (cn h)) = 12
    rw [if_pos rfl]
  refine ⟨mkO h 12 30, wF (mkO h 12 30) (cn h) 0 (-1), en, ?_, ⟨rfl, hc, kb, fun j hj => by omega, fi_same (by omega) (by omega), fun k hk => ?_, fun x hx => ?_⟩, rfl⟩
  · rw [jm1]; exact pI_J kb
  · rw [fi_ne (Or.inr hk)]
    unfold fi
    show (if cn h = cn h then (0 : Int32) else fI h (cn h) k).toInt = 0
    rw [if_pos rfl]
    decide
  · have nx : ¬ x = cn h := by omega
    refine ⟨?_, ?_, ?_, ?_, rfl, rfl⟩
    · show (if x = cn h then 12 else kd h x) = _
      rw [if_neg nx]
    · funext k
      show (if x = cn h ∧ k = 0 then J (-1) else (if x = cn h then 0 else fI h x k)) = _
      rw [if_neg (fun e => nx e.1), if_neg nx]
    · funext k
      show (if x = cn h then 0 else fL h x k) = _
      rw [if_neg nx]
    · funext k
      show (if x = cn h then none else fR h x k) = _
      rw [if_neg nx]
theorem D_linit {h : Hp} (hc : cn h < 899000) : ∃ g h', nO h 12 = some (cn h, g) ∧ F_la_init (cn h) g = some h' ∧ LZ h (cn h) 21 h' ∧ wd h' = wd h + 159 := by
  obtain ⟨g, h0, e0, p0, Z0, w0⟩ := LZ_0 hc
  obtain ⟨h1, ⟨e1, p1⟩, Z1, w1⟩ := LZ_s (i := 0) (by omega) Z0
  replace e1 : nA h0 100 (5 : Int32) = some (cn h + 1, _) := e1
  replace p1 : pR _ (cn h) 12 9 (some (cn h + 1)) = some h1 := p1
  obtain ⟨h2, ⟨e2, p2⟩, Z2, w2⟩ := LZ_s (i := 1) (by omega) Z1
  replace e2 : nA h1 100 (5 : Int32) = some (cn h + 2, _) := e2
  replace p2 : pR _ (cn h) 12 10 (some (cn h + 2)) = some h2 := p2
  obtain ⟨h3, ⟨e3, p3⟩, Z3, w3⟩ := LZ_s (i := 2) (by omega) Z2
  replace e3 : nA h2 100 (25 : Int32) = some (cn h + 3, _) := e3
  replace p3 : pR _ (cn h) 12 11 (some (cn h + 3)) = some h3 := p3
  obtain ⟨h4, ⟨e4, p4⟩, Z4, w4⟩ := LZ_s (i := 3) (by omega) Z3
  replace e4 : nA h3 100 (5 : Int32) = some (cn h + 4, _) := e4
  replace p4 : pR _ (cn h) 12 12 (some (cn h + 4)) = some h4 := p4
  obtain ⟨h5, ⟨e5, p5⟩, Z5, w5⟩ := LZ_s (i := 4) (by omega) Z4
  replace e5 : nA h4 100 (5 : Int32) = some (cn h + 5, _) := e5
  replace p5 : pR _ (cn h) 12 13 (some (cn h + 5)) = some h5 := p5
  obtain ⟨h6, ⟨e6, p6⟩, Z6, w6⟩ := LZ_s (i := 5) (by omega) Z5
  replace e6 : nA h5 100 (5 : Int32) = some (cn h + 6, _) := e6
  replace p6 : pR _ (cn h) 12 14 (some (cn h + 6)) = some h6 := p6
  obtain ⟨h7, ⟨e7, p7⟩, Z7, w7⟩ := LZ_s (i := 6) (by omega) Z6
  replace e7 : nA h6 100 (3 : Int32) = some (cn h + 7, _) := e7
  replace p7 : pR _ (cn h) 12 15 (some (cn h + 7)) = some h7 := p7
  obtain ⟨h8, ⟨e8, p8⟩, Z8, w8⟩ := LZ_s (i := 7) (by omega) Z7
  replace e8 : nA h7 100 (3 : Int32) = some (cn h + 8, _) := e8
  replace p8 : pR _ (cn h) 12 16 (some (cn h + 8)) = some h8 := p8
  obtain ⟨h9, ⟨e9, p9⟩, Z9, w9⟩ := LZ_s (i := 8) (by omega) Z8
  replace e9 : nA h8 100 (3 : Int32) = some (cn h + 9, _) := e9
  replace p9 : pR _ (cn h) 12 17 (some (cn h + 9)) = some h9 := p9
  obtain ⟨h10, ⟨e10, p10⟩, Z10, w10⟩ := LZ_s (i := 9) (by omega) Z9
  replace e10 : nA h9 100 (3 : Int32) = some (cn h + 10, _) := e10
  replace p10 : pR _ (cn h) 12 18 (some (cn h + 10)) = some h10 := p10
  obtain ⟨h11, ⟨e11, p11⟩, Z11, w11⟩ := LZ_s (i := 10) (by omega) Z10
  replace e11 : nA h10 100 (4 : Int32) = some (cn h + 11, _) := e11
  replace p11 : pR _ (cn h) 12 19 (some (cn h + 11)) = some h11 := p11
  obtain ⟨h12, ⟨e12, p12⟩, Z12, w12⟩ := LZ_s (i := 11) (by omega) Z11
  replace e12 : nA h11 100 (4 : Int32) = some (cn h + 12, _) := e12
  replace p12 : pR _ (cn h) 12 20 (some (cn h + 12)) = some h12 := p12
  obtain ⟨h13, ⟨e13, p13⟩, Z13, w13⟩ := LZ_s (i := 12) (by omega) Z12
  replace e13 : nA h12 100 (4 : Int32) = some (cn h + 13, _) := e13
  replace p13 : pR _ (cn h) 12 21 (some (cn h + 13)) = some h13 := p13
  obtain ⟨h14, ⟨e14, p14⟩, Z14, w14⟩ := LZ_s (i := 13) (by omega) Z13
  replace e14 : nA h13 100 (4 : Int32) = some (cn h + 14, _) := e14
  replace p14 : pR _ (cn h) 12 22 (some (cn h + 14)) = some h14 := p14
  obtain ⟨h15, ⟨e15, p15⟩, Z15, w15⟩ := LZ_s (i := 14) (by omega) Z14
  replace e15 : nA h14 100 (4 : Int32) = some (cn h + 15, _) := e15
  replace p15 : pR _ (cn h) 12 23 (some (cn h + 15)) = some h15 := p15
  obtain ⟨h16, ⟨e16, p16⟩, Z16, w16⟩ := LZ_s (i := 15) (by omega) Z15
  replace e16 : nA h15 100 (4 : Int32) = some (cn h + 16, _) := e16
  replace p16 : pR _ (cn h) 12 24 (some (cn h + 16)) = some h16 := p16
  obtain ⟨h17, ⟨e17, p17⟩, Z17, w17⟩ := LZ_s (i := 16) (by omega) Z16
  replace e17 : nA h16 100 (5 : Int32) = some (cn h + 17, _) := e17
  replace p17 : pR _ (cn h) 12 25 (some (cn h + 17)) = some h17 := p17
  obtain ⟨h18, ⟨e18, p18⟩, Z18, w18⟩ := LZ_s (i := 17) (by omega) Z17
  replace e18 : nA h17 100 (5 : Int32) = some (cn h + 18, _) := e18
  replace p18 : pR _ (cn h) 12 26 (some (cn h + 18)) = some h18 := p18
  obtain ⟨h19, ⟨e19, p19⟩, Z19, w19⟩ := LZ_s (i := 18) (by omega) Z18
  replace e19 : nA h18 102 (11 : Int32) = some (cn h + 19, _) := e19
  replace p19 : pR _ (cn h) 12 27 (some (cn h + 19)) = some h19 := p19
  obtain ⟨h20, ⟨e20, p20⟩, Z20, w20⟩ := LZ_s (i := 19) (by omega) Z19
  replace e20 : nA h19 100 (11 : Int32) = some (cn h + 20, _) := e20
  replace p20 : pR _ (cn h) 12 28 (some (cn h + 20)) = some h20 := p20
  obtain ⟨h21, ⟨e21, p21⟩, Z21, w21⟩ := LZ_s (i := 20) (by omega) Z20
  replace e21 : nA h20 100 (11 : Int32) = some (cn h + 21, _) := e21
  replace p21 : pR _ (cn h) 12 29 (some (cn h + 21)) = some h21 := p21
  refine ⟨g, h21, e0, ?_, Z21, ?_⟩
  · unfold F_la_init
    rw [bn_e p0, bd_e e1, bn_e p1, bd_e e2, bn_e p2, bd_e e3, bn_e p3, bd_e e4, bn_e p4, bd_e e5, bn_e p5, bd_e e6, bn_e p6, bd_e e7, bn_e p7, bd_e e8, bn_e p8, bd_e e9, bn_e p9, bd_e e10, bn_e p10, bd_e e11, bn_e p11, bd_e e12, bn_e p12, bd_e e13, bn_e p13, bd_e e14, bn_e p14, bd_e e15, bn_e p15, bd_e e16, bn_e p16, bd_e e17, bn_e p17, bd_e e18, bn_e p18, bd_e e19, bn_e p19, bd_e e20, bn_e p20, bd_e e21, bn_e p21]
  · rw [w21, w20, w19, w18, w17, w16, w15, w14, w13, w12, w11, w10, w9, w8, w7, w6, w5, w4, w3, w2, w1, w0]
    rfl
theorem YS_lz {h0 h : Hp} {b : Nat} (Z : LZ h0 b 21 h) : YS b h := by
  have q := Z.2.2.2.1
  exact ⟨Z.2.2.1, (q 0 (by omega)).1, (q 0 (by omega)).2.1, by rw [(q 0 (by omega)).2.2.1]; exact List.length_replicate, (q 1 (by omega)).1, (q 1 (by omega)).2.1, by rw [(q 1 (by omega)).2.2.1]; exact List.length_replicate, (q 2 (by omega)).1, (q 2 (by omega)).2.1, by rw [(q 2 (by omega)).2.2.1]; exact List.length_replicate, (q 3 (by omega)).1, (q 3 (by omega)).2.1, by rw [(q 3 (by omega)).2.2.1]; exact List.length_replicate, (q 4 (by omega)).1, (q 4 (by omega)).2.1, by rw [(q 4 (by omega)).2.2.1]; exact List.length_replicate, (q 5 (by omega)).1, (q 5 (by omega)).2.1, by rw [(q 5 (by omega)).2.2.1]; exact List.length_replicate, (q 6 (by omega)).1, (q 6 (by omega)).2.1, by rw [(q 6 (by omega)).2.2.1]; exact List.length_replicate, (q 7 (by omega)).1, (q 7 (by omega)).2.1, by rw [(q 7 (by omega)).2.2.1]; exact List.length_replicate, (q 8 (by omega)).1, (q 8 (by omega)).2.1, by rw [(q 8 (by omega)).2.2.1]; exact List.length_replicate, (q 9 (by omega)).1, (q 9 (by omega)).2.1, by rw [(q 9 (by omega)).2.2.1]; exact List.length_replicate, (q 10 (by omega)).1, (q 10 (by omega)).2.1, by rw [(q 10 (by omega)).2.2.1]; exact List.length_replicate, (q 11 (by omega)).1, (q 11 (by omega)).2.1, by rw [(q 11 (by omega)).2.2.1]; exact List.length_replicate, (q 12 (by omega)).1, (q 12 (by omega)).2.1, by rw [(q 12 (by omega)).2.2.1]; exact List.length_replicate, (q 13 (by omega)).1, (q 13 (by omega)).2.1, by rw [(q 13 (by omega)).2.2.1]; exact List.length_replicate, (q 14 (by omega)).1, (q 14 (by omega)).2.1, by rw [(q 14 (by omega)).2.2.1]; exact List.length_replicate, (q 15 (by omega)).1, (q 15 (by omega)).2.1, by rw [(q 15 (by omega)).2.2.1]; exact List.length_replicate, (q 16 (by omega)).1, (q 16 (by omega)).2.1, by rw [(q 16 (by omega)).2.2.1]; exact List.length_replicate, (q 17 (by omega)).1, (q 17 (by omega)).2.1, by rw [(q 17 (by omega)).2.2.1]; exact List.length_replicate, (q 18 (by omega)).1, (q 18 (by omega)).2.1, by rw [(q 18 (by omega)).2.2.2]; exact List.length_replicate, (q 19 (by omega)).1, (q 19 (by omega)).2.1, by rw [(q 19 (by omega)).2.2.1]; exact List.length_replicate, (q 20 (by omega)).1, (q 20 (by omega)).2.1, by rw [(q 20 (by omega)).2.2.1]; exact List.length_replicate⟩
