/-! every run of the abstract machine is the machine's -/
theorem P_own0 : P.all (fun m => decide (mi_own m = (mi_y m).cls)) = true := by decide +kernel
theorem P_own {M : Nat} {m : MI} (h : P[M]? = some m) : mi_own m = (mi_y m).cls := of_decide_eq_true (List.all_eq_true.mp P_own0 m (List.mem_of_getElem? h))
theorem P_low0 : (P.drop 2).all (fun m => (mi_ml m).all (fun q => decide (2 ≤ q.2.1))) = true := by decide +kernel
theorem P_low {M : Nat} {m : MI} (hM : 2 ≤ M) (h : P[M]? = some m) {k : Nat} {q : Nat × Nat} (hq : lk (mi_ml m) k = some q) : 2 ≤ q.1 := by
  have h1 : (P.drop 2)[M - 2]? = some m := by
    rw [List.getElem?_drop, show 2 + (M - 2) = M by omega]
    exact h
  have h2 := List.all_eq_true.mp P_low0 m (List.mem_of_getElem? h1)
  exact of_decide_eq_true (List.all_eq_true.mp h2 _ (lk_mem hq))
section MAIN
variable {G : Gx} {p : Program} {l : Launch} {e : Env} {R : Room} {s : State} {mid : MethodId} {args : Array Value} {below : List Frame} {meth : Method} {c : Code} {Q : State → Prop} {m : MI} {k0 w0 : Nat}
/-- a call of the law's own led, or of the law -/
def ZC (G : Gx) (p : Program) (l : Launch) (e : Env) (R : Room) (s : State) (mid : MethodId) (args : Array Value) (below : List Frame) (meth : Method) (c : Code) (Q : State → Prop) (m : MI) (k0 w0 : Nat) : Prop := ∀ (n d kq : Nat) (mq : MI) (X : Xw) (i : Instr) (len pc pc2 : Nat) (ls st as ls2 rest : List Value) (h hf : Hp) (rv : Option Value), kq < 2 → P[kq]? = some mq → okL m X i = true → decode (mi_cc m) pc = .ok (i, ilen i len) → act2 P m i pc ls st h = some (.inr (.inr (kq, as, pc2, ls2, rest))) → (ini (mi_mx mq) as).length = mi_mx mq → run P n d kq (0, ini (mi_mx mq) as, [], h) = some (rv, hf) → ¬ rv = some (.retAddr 1) → (d + 1 + 12 ≤ R.frames ∧ 64 * (d + 1 + 12) ≤ R.locals) → (cn hf ≤ k0 + R.cells ∧ wd hf ≤ w0 + R.slots) → WW G p l e R s mid args below meth c Q m k0 w0 (pc2, ls2, rv.toList ++ rest, hf) → WW G p l e R s mid args below meth c Q m k0 w0 (pc, ls, st, h)
theorem ZC_no {M : Nat} (hM : 2 ≤ M) (hP : P[M]? = some m) : ZC G p l e R s mid args below meth c Q m k0 w0 := by
  intro n d kq mq X i len pc pc2 ls st as ls2 rest h hf rv hk _ _ _ ha
  exfalso
  rcases call_inv ha with ⟨k, q, mq', _, hq, hqk, _⟩ | ⟨k, q, mq', _, hq, hqk, _⟩ | ⟨k, q, mq', _, hq, hqk, _⟩ <;> (have := P_low hM hP hq; omega)
end MAIN
def Snd (n : Nat) : Prop := ∀ (M d : Nat) (m : MI) (x : Sx) (r : Option Value) (hf : Hp), 1 ≤ M → P[M]? = some m → run P n d M x = some (r, hf) → ∀ {G : Gx} {p : Program} {l : Launch} {e : Env} {R : Room} {s : State} {mid : MethodId} {args : Array Value} {below : List Frame} {meth : Method} {c : Code} {Q : State → Prop} {k0 w0 : Nat}, Cx G p s mid args meth c m → s.heap.size = gN G + k0 → (d + 12 ≤ R.frames ∧ 64 * (d + 12) ≤ R.locals) → (cn hf ≤ k0 + R.cells ∧ wd hf ≤ w0 + R.slots) → ZC G p l e R s mid args below meth c Q m k0 w0 → RW G p l e R s mid args below meth c Q m k0 w0 r hf → TW G p l e R s mid args below meth c Q m k0 w0 r hf → WW G p l e R s mid args below meth c Q m k0 w0 x
theorem body_cx {G : Gx} {p : Program} {l : Launch} {e : Env} {s s₁ : State} {mid : MethodId} {args : Array Value} {below : List Frame} {meth : Method} {c : Code} {mq : MI} {rm : Room} {kq : Nat} (hP : P[kq]? = some mq) (B : BodyLoose p l (mi_y mq) (headSpec (wsR mq) rm) (mi_cc mq) (mi_mx mq) (mi_rt mq) e s mid args below meth c s₁) (hml : c.maxLocals = mi_mx mq) (hF : FX G s) : Cx G p s mid args meth c mq := by
  have hts0 : ∀ w ∈ wsR mq, w.before args s = true := atoms_spec (ws := wsR mq) B.pre
  exact ⟨B.exec, B.bytes, B.returns, hml, by rw [P_own hP]; exact findClass_of_methodNamed B.named, fun w hw => hts0 w (List.mem_cons_of_mem _ hw), B.notSynchronized, (name_of_methodNamed B.named B.method).1, hF⟩
theorem snd_met {n d kq : Nat} (ih : Snd n) {G : Gx} {l : Launch} {mq : MI} {as : List Value} {h hf : Hp} {rv : Option Value} (hk : 2 ≤ kq) (hP : P[kq]? = some mq) (hini : (ini (mi_mx mq) as).length = mi_mx mq) (hrun : run P n d kq (0, ini (mi_mx mq) as, [], h) = some (rv, hf)) (hnr : ¬ rv = some (.retAddr 1)) : MetR G l d mq as h rv hf := by
  obtain ⟨hcode, hpl⟩ := P_cd hP hk
  refine met_ofW hpl rfl ?_
  intro p e s mid args below meth c s₁ B hml hPc
  obtain ⟨hargs, hF, hH, hO⟩ := hPc
  have C := body_cx hP B hml hF
  have hm := run_mono n d kq _ rv hf hrun
  replace hm : cn h ≤ cn hf ∧ wd h ≤ wd hf := hm
  subst hargs
  rw [lg_entry_eq mid (as.map (vz G)) (mi_mx mq)]
  exact ih kq d mq (0, ini (mi_mx mq) as, [], h) rv hf (by omega) hP hrun C hH.1 ⟨Nat.le_refl _, Nat.le_refl _⟩ (by show cn hf ≤ cn h + (cn hf - cn h) ∧ wd hf ≤ wd h + (wd hf - wd h); omega) (ZC_no hk hP) (RW_met (as := as) C hH.1) (fun z => absurd z hnr) _ s.heap [] 0 0 (ini_lvr hF.2.2.2.2.2.1 hini) hH hO ⟨Nat.le_refl _, fun _ _ _ => rfl, fun _ z => absurd z List.not_mem_nil⟩ rfl rfl
theorem run_inv {n d M : Nat} {m : MI} {x : Sx} {r : Option Value} {hf : Hp} (hm : P[M]? = some m) (e : run P (n + 1) d M x = some (r, hf)) : ∃ i len ks, lk (mi_ins m) x.1 = some (i, len, ks) ∧ ((act2 P m i x.1 (kls ks x.2.1) x.2.2.1 x.2.2.2 = some (.inl (r, hf))) ∨ (∃ x', act2 P m i x.1 (kls ks x.2.1) x.2.2.1 x.2.2.2 = some (.inr (.inl x')) ∧ run P n d M x' = some (r, hf)) ∨ (∃ kq as pc2 ls2 rest d' mq rv hf2, act2 P m i x.1 (kls ks x.2.1) x.2.2.1 x.2.2.2 = some (.inr (.inr (kq, as, pc2, ls2, rest))) ∧ d = d' + 1 ∧ P[kq]? = some mq ∧ (ini (mi_mx mq) as).length = mi_mx mq ∧ run P n d' kq (0, ini (mi_mx mq) as, [], x.2.2.2) = some (rv, hf2) ∧ ((rv = some (.retAddr 1) ∧ M = 0 ∧ run P n d M (13, ls2, [], hf2) = some (r, hf)) ∨ (¬ rv = some (.retAddr 1) ∧ run P n d M (pc2, ls2, rv.toList ++ rest, hf2) = some (r, hf))))) := by
  unfold run at e
  rw [hm] at e
  simp only at e
  cases ha : act P m x with
  | none => rw [ha] at e; cases e
  | some a =>
    rw [ha] at e
    unfold act at ha
    cases hi : lk (mi_ins m) x.1 with
    | none => rw [hi] at ha; cases ha
    | some q =>
      obtain ⟨i, len, ks⟩ := q
      rw [hi] at ha
      simp only at ha
      refine ⟨i, len, ks, rfl, ?_⟩
      match a, ha, e with
      | .inl (r', h'), ha, e =>
        cases e
        exact Or.inl ha
      | .inr (.inl x'), ha, e => exact Or.inr (Or.inl ⟨x', ha, e⟩)
      | .inr (.inr (k, as, pc, ls, rest)), ha, e =>
        match d, e with
        | 0, e => cases e
        | d' + 1, e =>
          simp only at e
          cases hk : P[k]? with
          | none => rw [hk] at e; cases e
          | some mq =>
            rw [hk] at e
            simp only at e
            split at e
            · cases e
            next hini =>
              cases hq : run P n d' k (0, ini (mi_mx mq) as, [], x.2.2.2) with
              | none => rw [hq] at e; cases e
              | some q =>
                obtain ⟨rv, h1⟩ := q
                rw [hq] at e
                simp only at e
                refine Or.inr (Or.inr ⟨k, as, pc, ls, rest, d', mq, rv, h1, ha, rfl, hk, Decidable.not_not.mp hini, hq, ?_⟩)
                split at e
                next hv =>
                  split at e
                  next h0 => exact Or.inl ⟨hv, h0, e⟩
                  next => cases e
                next hv => exact Or.inr ⟨hv, e⟩
theorem sound (n : Nat) : Snd n := by
  induction n with
  | zero => intro M d m x r hf _ _ hr; cases hr
  | succ n ih =>
    intro M d m x r hf hM hP hrun G p l e R s mid args below meth c Q k0 w0 C hz0 hR hcap hZ hRW hTW
    obtain ⟨i, len, ks, hi, hrun⟩ := run_inv hP hrun
    obtain ⟨pc, ls, st, h⟩ := x
    obtain ⟨X, hX⟩ := P_ok hP
    have hE := hX _ (lk_mem hi)
    unfold okE at hE
    simp only [Bool.and_eq_true, decide_eq_true_eq] at hE
    obtain ⟨hd, hok⟩ := hE
    have hqi := P_okq hP hi
    suffices hs : WW G p l e R s mid args below meth c Q m k0 w0 (pc, kls ks ls, st, h) from fun L H locs cells slots hl => hs L H locs cells slots (lvr_kls ks hl)
    rcases hrun with ha | ⟨x', ha, hrun⟩ | ⟨kq, as, pc2, ls2, rest, d', mq, rv, hf2, ha, rfl, hq, hini, hc, hend⟩
    · rcases ret_inv ha with ⟨rfl, rfl, v, h1, rfl, hv⟩ | ⟨rfl, rfl, v, h1, rfl, hv⟩ | ⟨rfl, rfl, v, h1, rfl, hv⟩ | ⟨rfl, rfl, h1, rfl, hv⟩ | ⟨k, rfl, hk, h1, hcn, rfl, rfl⟩
      · replace h1 : st = _ := h1
        subst h1
        intro L H locs cells slots hl hH hO hS hc hw
        exact hRW pc L H locs cells slots (Or.inl ⟨v, rfl, hd, hv⟩) hH hO hS hc hw
      · replace h1 : st = _ := h1
        subst h1
        intro L H locs cells slots hl hH hO hS hc hw
        exact hRW pc L H locs cells slots (Or.inr (Or.inl ⟨v, rfl, hd, hv⟩)) hH hO hS hc hw
      · replace h1 : st = _ := h1
        subst h1
        intro L H locs cells slots hl hH hO hS hc hw
        exact hRW pc L H locs cells slots (Or.inr (Or.inr (Or.inl ⟨v, rfl, hd, hv⟩))) hH hO hS hc hw
      · replace h1 : st = _ := h1
        subst h1
        intro L H locs cells slots hl hH hO hS hc hw
        exact hRW pc L H locs cells slots (Or.inr (Or.inr (Or.inr ⟨rfl, hd, hv⟩))) hH hO hS hc hw
      · replace h1 : st = _ := h1
        subst h1
        intro L H locs cells slots hl hH hO hS hc hw
        exact hTW rfl pc k h L H locs cells slots hl.1 hk ⟨len, ks, hi⟩ hd rfl hcn hH hO hS hc hw
    · have hm := run_mono n d M x' r hf hrun
      exact sp_step C hz0 ⟨by omega, by omega⟩ hok hqi hd ha ⟨by omega, by omega⟩ (ih M d m x' r hf hM hP hrun C hz0 hR hcap hZ hRW hTW)
    · rcases hend with ⟨_, h0, _⟩ | ⟨hnr, hrun⟩
      · exact absurd h0 (by omega)
      · have K := ih M (d' + 1) m _ r hf hM hP hrun C hz0 hR hcap hZ hRW hTW
        have hm1 := run_mono n d' kq _ rv hf2 hc
        have hm2 := run_mono n (d' + 1) M _ r hf hrun
        replace hm1 : cn h ≤ cn hf2 ∧ wd h ≤ wd hf2 := hm1
        replace hm2 : cn hf2 ≤ cn hf ∧ wd hf2 ≤ wd hf := hm2
        have hcap2 : cn hf2 ≤ k0 + R.cells ∧ wd hf2 ≤ w0 + R.slots := by omega
        by_cases hk2 : 2 ≤ kq
        · exact st_call C hR hok hd ha hq hk2 (snd_met ih hk2 hq hini hc hnr) hm1 hcap2 K
        · exact hZ n d' kq mq X i len pc pc2 _ _ as ls2 rest h hf2 rv (by omega) hq hok hd ha hini hc hnr hR hcap2 K
