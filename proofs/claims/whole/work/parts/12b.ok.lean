/-! each instruction's links are among the tables' words: checked by program -/
def isNest (w : Cond) : Bool := match w with
  | .fieldLinkNest .. => true
  | .methodLinkNest .. => true
  | _ => false
def tw : List Cond := lw_tbl.filter goodWord
def nw : List Cond := lw_tbl.filter isNest
theorem tw_in {w : Cond} (i : Nat) (h : lw_tbl[i]? = some w) (hg : goodWord w = true) : w ∈ tw := List.mem_filter.mpr ⟨List.mem_of_getElem? h, hg⟩
theorem nw_in {w : Cond} (i : Nat) (h : lw_tbl[i]? = some w) (hg : isNest w = true) : w ∈ nw := List.mem_filter.mpr ⟨List.mem_of_getElem? h, hg⟩
/-- the texts: class, entry, text, id -/
def stT : List (String × Nat × String × Nat) := [("CorkStreet$Reader", 111, "lake", 1000003), ("CorkStreet$Reader", 117, "house", 1000004), ("CorkStreet$Reader", 119, "rope", 1000005), ("CorkStreet$Reader", 121, "corks", 1000006), ("CorkStreet$Reader", 123, "guest", 1000007), ("CorkStreet$Reader", 125, "drinker", 1000008), ("CorkStreet$Reader", 127, "feast", 1000009), ("CorkStreet$Reader", 129, "gave", 1000010), ("CorkStreet$Reader", 131, "seen", 1000011), ("CorkStreet$Reader", 153, "mice", 1000012), ("CorkStreet$Reader", 170, "north", 1000013), ("CorkStreet$Reader", 175, "south", 1000014), ("CorkStreet$Reader", 177, "weight", 1000015), ("CorkStreet$Reader", 271, "red", 1000016), ("CorkStreet$Reader", 273, "stale", 1000017), ("CorkStreet$Reader", 275, "soft", 1000018), ("CorkStreet$Reader", 277, "white", 1000019), ("CorkStreet$Reader", 279, "fizzy", 1000020), ("CorkStreet$Reader", 210, "at", 1000021), ("CorkStreet$Reader", 217, "drinks", 1000022), ("CorkStreet$Reader", 224, "week", 1000023), ("CorkStreet$Reader", 229, "high", 1000024), ("CorkStreet$Reader", 249, "below", 1000025), ("CorkStreet$Reader", 251, "over", 1000026), ("CorkStreet", 371, "no such house is under", 1000027), ("CorkStreetModel", 142, "lake", 1000003), ("CorkStreetModel", 239, "mice", 1000012), ("CorkStreetModel", 144, "house", 1000004), ("CorkStreetModel", 146, "rope", 1000005), ("CorkStreetModel", 148, "corks", 1000006), ("CorkStreetModel", 150, "guest", 1000007), ("CorkStreetModel", 152, "drinker", 1000008), ("CorkStreetModel", 154, "feast", 1000009), ("CorkStreetModel", 156, "gave", 1000010), ("CorkStreetModel", 158, "seen", 1000011), ("CorkStreetModel", 252, "north", 1000013), ("CorkStreetModel", 254, "south", 1000014), ("CorkStreetModel", 256, "weight", 1000015), ("CorkStreetModel", 193, "red", 1000016), ("CorkStreetModel", 195, "stale", 1000017), ("CorkStreetModel", 197, "soft", 1000018), ("CorkStreetModel", 199, "white", 1000019), ("CorkStreetModel", 201, "fizzy", 1000020), ("CorkStreetModel", 296, "at", 1000021), ("CorkStreetModel", 305, "drinks", 1000022), ("CorkStreetModel", 315, "week", 1000023), ("CorkStreetModel", 317, "high", 1000024), ("CorkStreetModel", 341, "below", 1000025), ("CorkStreetModel", 343, "over", 1000026)]
def sgf (j : Nat) : String × String := if j = 0 then ("value", "[B") else ("coder", "B")
abbrev Xw : Type := List (Nat × Nat) × List (Nat × List Nat) × List (Nat × List Nat) × List (Nat × Nat)
def wat (i : Nat) (w : Cond) : Bool := decide (lw_tbl[i]? = some w) && goodWord w
def watN (i : Nat) (w : Cond) : Bool := decide (lw_tbl[i]? = some w) && isNest w
theorem wat_s {i : Nat} {w : Cond} (h : wat i w = true) : w ∈ tw := by
  unfold wat at h
  simp only [Bool.and_eq_true, decide_eq_true_eq] at h
  exact tw_in i h.1 h.2
theorem watN_s {i : Nat} {w : Cond} (h : watN i w = true) : w ∈ nw := by
  unfold watN at h
  simp only [Bool.and_eq_true, decide_eq_true_eq] at h
  exact nw_in i h.1 h.2
def cnm (ci : Nat) : String := if ci = 50 then "java/lang/String" else match vwCl[ci]? with
  | some r => r.1
  | none => ""
def okF (own : String) (k ci j : Nat) (i : Nat) : Bool :=
  if ci = 50 then decide (j < 2) && wat i (.fieldLink own k "java/lang/String" (sgf j).1 (sgf j).2)
  else match vwCl[ci]? with
    | some r => decide (j < r.2.2) && (wat i (.fieldLink own k (r.2.1 j).1 (r.2.1 j).2.1 (r.2.1 j).2.2.1) || watN i (.fieldLinkNest own k (r.2.1 j).1 (r.2.1 j).2.1 (r.2.1 j).2.2.1 "CorkStreetModel"))
    | none => false
def okP (own nm : String) (k ci j : Nat) (i : Nat) : Bool := match vwCl[ci]? with
  | some r => decide (j < r.2.2) && ((wat i (.fieldLink own k (r.2.1 j).1 (r.2.1 j).2.1 (r.2.1 j).2.2.1) && (!(r.2.1 j).2.2.2 || (decide (nm = "<init>") && decide ((r.2.1 j).1 = own)))) || (watN i (.fieldLinkNest own k (r.2.1 j).1 (r.2.1 j).2.1 (r.2.1 j).2.2.1 "CorkStreetModel") && !(r.2.1 j).2.2.2))
  | none => false
def npar (y : MethodName) : Option Nat := (parseMethodDescriptor y.desc).map (fun d => d.parameters.length)
def okY (mq : MI) (_ : Nat) : Bool := decide (mi_mx mq ≤ 40) && decide ((mi_y mq).cls ≠ "java/lang/invoke/MethodHandle") && decide ((mi_y mq).cls ≠ "java/lang/invoke/VarHandle") && decide (mi_own mq = (mi_y mq).cls)
def okV (own : String) (k q w : Nat) (is : List Nat) : Bool := match P[q]?, is with
  | some mq, [a, b, c, d, f] => okY mq f && decide (npar (mi_y mq) = some (mi_np mq - 1)) && wat a (.methodLink own k (mi_y mq)) && wat b (.instanceMethod (mi_y mq)) && wat c (.selects (cnm w) (mi_y mq) (mi_y mq)) && wat d (.initialized (cnm w)) && decide ((mi_y mq).cls = cnm w) && decide (w < 14 ∨ w = 50)
  | _, _ => false
def okN (own : String) (k q w : Nat) (is : List Nat) : Bool :=
  if q = 1000 then (match is with
    | [a, b, c] => wat a (.methodLink own k objectInit) && wat b (.instanceMethod objectInit) && wat c (.code objectInit ⟨#[0xb1]⟩ 1 none)
    | _ => false)
  else match P[q]?, is with
    | some mq, [a, b, _, d, f] => okY mq f && decide (npar (mi_y mq) = some (mi_np mq - 1)) && wat b (.instanceMethod (mi_y mq)) && wat d (.initialized (mi_y mq).cls) && decide ((mi_y mq).name = "<init>") && decide (mi_rt mq = none) && (if w = 202 then watN a (.methodLinkNest own k (mi_y mq) "CorkStreetModel") else wat a (.methodLink own k (mi_y mq)))
    | _, _ => false
def okS (own : String) (k q : Nat) (is : List Nat) : Bool :=
  if q = 1001 then (match is with
    | [a, b, c, d] => wat a (.methodLink own k arraycopyName) && wat b (.native arraycopyName) && wat c (.static arraycopyName) && wat d (.initialized "java/lang/System")
    | _ => false)
  else if q = 0 then true
  else match P[q]?, is with
    | some mq, [a, b, _, d, f] => okY mq f && decide (npar (mi_y mq) = some (mi_np mq)) && wat a (.methodLink own k (mi_y mq)) && wat b (.static (mi_y mq)) && wat d (.initialized (mi_y mq).cls)
    | _, _ => false
def okNw (own : String) (k ci : Nat) (is : List Nat) : Bool := if ci = 60 then true else match vwCl[ci]?, is with
  | some r, [a, b, c] => wat a (.classLink own k r.1) && wat b (.instantiable r.1 r.2.2) && wat c (.initialized r.1)
  | _, _ => false
def okK (own : String) (k : Nat) (v : Value) (i : Nat) : Bool := match v with
  | .int c => wat i (.constant own k c)
  | .long c => wat i (.constantLong own k c)
  | .ref n => stT.any (fun q => decide (q.1 = own) && decide (q.2.1 = k) && decide (q.2.2.2 = n))
  | _ => false
def okG (own : String) (k : Nat) (v : Value) (i : Nat) : Bool := match v with
  | .int c => decide (c = 1) && wat i (.fieldLink own k "java/lang/String" "COMPACT_STRINGS" "Z")
  | .ref n => (decide (n = 1000001) && wat i (.fieldLink own k "CorkStreet$State" "LIFT" "[I")) || (decide (n = 1000002) && wat i (.fieldLink own k "CorkStreet$State" "EATEN_FIRST" "[I"))
  | .retAddr n => decide (n = 7) && wat i (.fieldLink own k "jdk/internal/util/Preconditions" "SIOOBE_FORMATTER" "Ljava/util/function/BiFunction;")
  | _ => false
def ilen (i : Instr) (n : Nat) : Nat := match i with
  | .bipush _ => 2
  | .sipush _ => 3
  | .iload _ => 2
  | .lload _ => 2
  | .aload _ => 2
  | .istore _ => 2
  | .lstore _ => 2
  | .astore _ => 2
  | .iinc _ _ => 3
  | .goto _ => 3
  | .ifCond _ _ => 3
  | .if_icmp _ _ => 3
  | .ifnull _ => 3
  | .ifnonnull _ => 3
  | .tableswitch _ _ _ _ => n
  | .ldc _ => 2
  | .ldc_w _ => 3
  | .ldc2_w _ => 3
  | .getstatic _ => 3
  | .getfield _ => 3
  | .putfield _ => 3
  | .newarray _ => 2
  | .new _ => 3
  | .invokevirtual _ => 3
  | .invokespecial _ => 3
  | .invokestatic _ => 3
  | _ => 1
def okL (m : MI) (X : Xw) (i : Instr) : Bool := match i with
  | .getfield k => (match lk (mi_fl m) k, lk X.1 k with
    | some q, some w => okF (mi_own m) k q.1 q.2 w
    | none, _ => true
    | _, _ => false)
  | .putfield k => (match lk (mi_fl m) k, lk X.1 k with
    | some q, some w => okP (mi_own m) (mi_y m).name k q.1 q.2 w
    | none, _ => true
    | _, _ => false)
  | .invokevirtual k => (match lk (mi_ml m) k, lk X.2.1 k with
    | some q, some w => okV (mi_own m) k q.1 q.2 w
    | none, _ => true
    | _, _ => false)
  | .invokespecial k => (match lk (mi_ml m) k, lk X.2.1 k with
    | some q, some w => okN (mi_own m) k q.1 q.2 w
    | none, _ => true
    | _, _ => false)
  | .invokestatic k => (match lk (mi_ml m) k, lk X.2.1 k with
    | some q, some w => okS (mi_own m) k q.1 w
    | none, _ => true
    | _, _ => false)
  | .new k => (match lk (mi_nl m) k, lk X.2.2.1 k with
    | some q, some w => okNw (mi_own m) k q w
    | none, _ => true
    | _, _ => false)
  | .ldc k => (match lk (mi_kl m) k, lk X.2.2.2 k with
    | some v, some w => okK (mi_own m) k v w
    | none, _ => true
    | _, _ => false)
  | .ldc_w k => (match lk (mi_kl m) k, lk X.2.2.2 k with
    | some v, some w => okK (mi_own m) k v w
    | none, _ => true
    | _, _ => false)
  | .ldc2_w k => (match lk (mi_kl m) k, lk X.2.2.2 k with
    | some v, some w => okK (mi_own m) k v w
    | none, _ => true
    | _, _ => false)
  | .getstatic k => (match lk (mi_kl m) k, lk X.2.2.2 k with
    | some v, some w => okG (mi_own m) k v w
    | none, _ => true
    | _, _ => false)
  | _ => true
def okE (m : MI) (X : Xw) (e : Nat × Instr × Nat × List Nat) : Bool := decide (decode (mi_cc m) e.1 = .ok (e.2.1, ilen e.2.1 e.2.2.1)) && okL m X e.2.1
def okM (m : MI) : Prop := ∃ X : Xw, ∀ e ∈ mi_ins m, okE m X e = true
theorem okM_all {m : MI} (X : Xw) (h : (mi_ins m).all (okE m X) = true) : okM m := ⟨X, fun e he => List.all_eq_true.mp h e he⟩
theorem okM_two {m : MI} (X : Xw) (n : Nat) (h1 : ((mi_ins m).take n).all (okE m X) = true) (h2 : ((mi_ins m).drop n).all (okE m X) = true) : okM m := okM_all X (by
  rw [← List.take_append_drop n (mi_ins m), List.all_append, h1, h2]; rfl)
