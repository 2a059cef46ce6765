/-! THE CLASS'S METHODS AS FUNCTIONS of its state. -/
def isIn (k : Int32) (n : Nat) : Prop := ∃ j : Nat, j < n ∧ k = nI j
def isLv (k : Int32) (n : Nat) : Prop := ∃ j : Nat, 1 ≤ j ∧ j ≤ n ∧ k = nI j
def isHr (h : Int64) : Prop := ∃ j : Nat, j ≤ 1000000 ∧ h = lN j
theorem isIn_lt {k : Int32} {n : Nat} (hn : n < 2 ^ 31) (h : k < 0) : ¬ isIn k n := by
  rintro ⟨j, hj, rfl⟩
  exact nI_pos (by omega) h
theorem isIn_ge {k : Int32} {n : Nat} (hn : n < 2 ^ 31) (h : nI n ≤ k) : ¬ isIn k n := by
  rintro ⟨j, hj, rfl⟩
  exact nI_ge hj hn h
theorem isIn_of {k : Int32} {n : Nat} (hn : n < 2 ^ 31) (h : ¬ k < 0) (h2 : ¬ nI n ≤ k) : isIn k n := by
  rcases pk_ix k hn with q | q | q
  · exact absurd q h
  · exact absurd q h2
  · exact q
theorem isLv_lt {k : Int32} {n : Nat} (hn : n < 2 ^ 31) (h : k < 1) : ¬ isLv k n := by
  rintro ⟨j, hj, hj2, rfl⟩
  exact nI_nlt (a := j) (b := 1) hj (by omega) h
theorem isLv_gt {k : Int32} {n : Nat} (hn : n < 2 ^ 31) (h : nI n < k) : ¬ isLv k n := by
  rintro ⟨j, hj, hj2, rfl⟩
  exact nI_nlt (a := n) (b := j) hj2 hn h
theorem isLv_of {k : Int32} {n : Nat} (hn : n < 2 ^ 31 - 1) (h : ¬ k < 1) (h2 : ¬ nI n < k) : isLv k n := by
  have e1 : (1 : Int32).toInt = 1 := by decide
  rw [Int32.lt_iff_toInt_lt, e1] at h
  rw [Int32.lt_iff_toInt_lt, nI_toInt (by omega)] at h2
  refine ⟨k.toInt.toNat, by omega, by omega, ?_⟩
  apply Int32.toInt_inj.mp
  rw [nI_toInt (by omega)]
  omega
theorem isHr_lt {h : Int64} (c : h < 0) : ¬ isHr h := by
  rintro ⟨j, hj, rfl⟩
  have e0 : (0 : Int64).toInt = 0 := by decide
  rw [Int64.lt_iff_toInt_lt, lN_toInt (by omega), e0] at c
  omega
theorem isHr_gt {h : Int64} (c : 1000000 < h) : ¬ isHr h := by
  rintro ⟨j, hj, rfl⟩
  have e0 : (1000000 : Int64).toInt = 1000000 := by decide
  rw [Int64.lt_iff_toInt_lt, lN_toInt (by omega), e0] at c
  omega
theorem isHr_of {h : Int64} (c : ¬ h < 0) (c2 : ¬ 1000000 < h) : isHr h := by
  have e0 : (0 : Int64).toInt = 0 := by decide
  have e1 : (1000000 : Int64).toInt = 1000000 := by decide
  rw [Int64.lt_iff_toInt_lt, e0] at c
  rw [Int64.lt_iff_toInt_lt, e1] at c2
  refine ⟨h.toInt.toNat, by omega, ?_⟩
  apply Int64.toInt_inj.mp
  rw [lN_toInt (by omega)]
  omega
/-- what a cleaning of level n is good for, gone hours later -/
def zLeft (la : Nat → Nat) (gone : Nat) : Nat → Nat
  | 0 => 0
  | n + 1 => if gone < la (n + 1) then n + 1 else zLeft la gone n
def zSame (z : zS) (t e : Nat) : Prop := zGr z e = zGr z t
def zState (z : zS) (t : Nat) : Nat := if (List.range (zT z)).any (fun e => decide (e ≠ t ∧ zGr z e = zGr z t)) = true then 1 else 0
def zOwn (z : zS) (st h : Nat) : List Nat → Nat → Nat
  | [], g => g
  | k :: ks, g => if eh (zVs z k) ≤ h then (if ei (zVs z k) = -1 then zOwn z st h ks (max g (zLeft (zLa z st) (h - eh (zVs z k)) (el (zVs z k)))) else g) else zOwn z st h ks g
def zGL (z : zS) (ch : Nat → List Nat) (t h : Nat) : Nat → Nat
  | 0 => zL z
  | n + 1 => if zGr z n = zGr z t then min (zGL z ch t h n) (zOwn z (zState z t) h (ch n) 0) else zGL z ch t h n
def zLC (z : zS) (h : Nat) : List Nat → Int32
  | [] => -1
  | k :: ks => if eh (zVs z k) ≤ h ∧ ei (zVs z k) ≠ -1 then ei (zVs z k) else zLC z h ks
/-- c the last content's kind, or none; k the kind to come, or none -/
def zNB (z : zS) : Option Nat → Option Nat → Nat
  | none, _ => 0
  | some _, none => zL z
  | some i, some j => if (nI (zAl z i) &&& (nI (zAl z j) ^^^ (-1))) = 0 then zNd z i j else zL z
/-- k is the number of a kind, or of none -/
def isOp (k : Int32) (n : Nat) (o : Option Nat) : Prop := match o with
  | none => ¬ isIn k n
  | some j => j < n ∧ k = nI j
def zGN (z : zS) (lc : Nat → Option Nat) (k : Option Nat) (t : Nat) : Nat → Nat
  | 0 => 0
  | n + 1 => if zGr z n = zGr z t then max (zGN z lc k t n) (zNB z (lc n) k) else zGN z lc k t n
/-- the cheapest of lo .. lo + d, the first of them -/
def zCh (z : zS) (lo : Nat) : Nat → Nat
  | 0 => lo
  | d + 1 => if zCo z (lo + d + 1) < zCo z (zCh z lo d) then lo + d + 1 else zCh z lo d
def zLH (z : zS) : List Nat → Nat
  | [] => 0
  | k :: ks => if ea (zVs z k) = 0 then eh (zVs z k) else zLH z ks
theorem zLeft_le (la : Nat → Nat) (gone : Nat) : ∀ n, zLeft la gone n ≤ n
  | 0 => Nat.le_refl _
  | n + 1 => by
    unfold zLeft
    split
    · exact Nat.le_refl _
    · exact Nat.le_succ_of_le (zLeft_le la gone n)
theorem nI_max {a b : Nat} (ha : a < 2 ^ 31) (hb : b < 2 ^ 31) : (if nI a < nI b then nI b else nI a) = nI (max a b) := by
  by_cases h : a < b
  · rw [if_pos ((nI_ltI ha hb).mpr h), Nat.max_eq_right (by omega)]
  · rw [if_neg (fun q => h ((nI_ltI ha hb).mp q)), Nat.max_eq_left (by omega)]
theorem nI_min {a b : Nat} (ha : a < 2 ^ 31) (hb : b < 2 ^ 31) : (if nI b < nI a then nI b else nI a) = nI (min a b) := by
  by_cases h : b < a
  · rw [if_pos ((nI_ltI hb ha).mpr h), Nat.min_eq_right (by omega)]
  · rw [if_neg (fun q => h ((nI_ltI hb ha).mp q)), Nat.min_eq_left (by omega)]
section ROWN
variable {p : Program} {l : Launch} {e : Env} {R : Room} {s : State} {m : MethodId} {args : Array Value} {below : List Frame} {meth : Method} {c : Code} {H : Heap} {locs : List Loc} {cells slots : Nat} {Q : State → Prop}
variable {cc : ByteArray} {pc : Nat} {ls : Array Slot} {rest : List Value} {D : va_G} {cl : List vw_C} {lo : Nat} {ad : Nat → Nat} {C : Nat → Option va_E} {tys : List (ClassId × FieldType)} {H0 : Heap}
theorem mh_ialn (hexec : p.tables.exec = Jvm.exec) (hb : c.code = cc) (hK : va_K D cl tys s) (hP : mh D cl lo ad C H) (r t0 : Nat) {cA : ClassId} {n : Nat} {f : Nat → Int32} (ha : C r = some (.inl (cA, n, .inl f))) (ht : tys[t0]? = some (cA, .int)) {i : Nat} (hi : i < n) (hn : n < 2 ^ 31) (hdg : decode cc pc = .ok (.iaload, 1)) {v : Int32} (hv : f i = v)
    (kk : W p l e R s m args below meth c H locs cells slots Q (F0 m (pc + 1) ls (.int v :: rest))) : W p l e R s m args below meth c H locs cells slots Q (F0 m pc ls (.int (nI i) :: .ref (ad r) :: rest)) :=
  mh_iald hexec hb hK hP r t0 ha ht (vp_in_nI hi hn) hdg (by rw [nI_clamp (by omega), hv]; exact kk)
theorem mh_laln (hexec : p.tables.exec = Jvm.exec) (hb : c.code = cc) (hK : va_K D cl tys s) (hP : mh D cl lo ad C H) (r t0 : Nat) {cA : ClassId} {n : Nat} {f : Nat → Int64} (ha : C r = some (.inl (cA, n, .inr (.inl f)))) (ht : tys[t0]? = some (cA, .long)) {i : Nat} (hi : i < n) (hn : n < 2 ^ 31) (hdg : decode cc pc = .ok (.laload, 1)) {v : Int64} (hv : f i = v)
    (kk : W p l e R s m args below meth c H locs cells slots Q (F0 m (pc + 1) ls (.long v :: rest))) : W p l e R s m args below meth c H locs cells slots Q (F0 m pc ls (.int (nI i) :: .ref (ad r) :: rest)) :=
  mh_lald hexec hb hK hP r t0 ha ht (vp_in_nI hi hn) hdg (by rw [nI_clamp (by omega), hv]; exact kk)
theorem mh_aqn (hexec : p.tables.exec = Jvm.exec) (hb : c.code = cc) (hK : va_K D cl tys s) (hP : mh D cl lo ad C H) (r t0 : Nat) {cA : ClassId} {Cn : String} {n : Nat} {f : Nat → Option Nat} (ha : C r = some (.inl (cA, n, .inr (.inr (.inr (.inr f)))))) (ht : tys[t0]? = some (cA, .object Cn)) {i : Nat} (hi : i < n) (hn : n < 2 ^ 31) (hdg : decode cc pc = .ok (.aaload, 1)) {v : Value} (hv : va_rf (f i) = v)
    (kk : W p l e R s m args below meth c H locs cells slots Q (F0 m (pc + 1) ls (v :: rest))) : W p l e R s m args below meth c H locs cells slots Q (F0 m pc ls (.int (nI i) :: .ref (ad r) :: rest)) :=
  mh_aldq hexec hb hK hP r t0 ha ht (vp_in_nI hi hn) hdg (by rw [nI_clamp (by omega), hv]; exact kk)
theorem mh_aan (hexec : p.tables.exec = Jvm.exec) (hb : c.code = cc) (hK : va_K D cl tys s) (hP : mh D cl lo ad C H) (r t0 : Nat) {cA : ClassId} {ty : FieldType} {n : Nat} {f : Nat → Option Nat} (ha : C r = some (.inl (cA, n, .inr (.inr (.inr (.inr f)))))) (ht : tys[t0]? = some (cA, .array ty)) {i : Nat} (hi : i < n) (hn : n < 2 ^ 31) (hdg : decode cc pc = .ok (.aaload, 1)) {v : Value} (hv : va_rf (f i) = v)
    (kk : W p l e R s m args below meth c H locs cells slots Q (F0 m (pc + 1) ls (v :: rest))) : W p l e R s m args below meth c H locs cells slots Q (F0 m pc ls (.int (nI i) :: .ref (ad r) :: rest)) :=
  mh_alda hexec hb hK hP r t0 ha ht (vp_in_nI hi hn) hdg (by rw [nI_clamp (by omega), hv]; exact kk)
theorem mh_iasn (hexec : p.tables.exec = Jvm.exec) (hb : c.code = cc) (hK : va_K D cl tys s) (hP : mh D cl lo ad C H) (hS : va_S (fun q => lo ≤ q) H0 H locs) (r t0 : Nat) {cA : ClassId} {n : Nat} {f : Nat → Int32} (ha : C r = some (.inl (cA, n, .inl f))) (ht : tys[t0]? = some (cA, .int)) {i : Nat} {x : Int32} (hi : i < n) (hn : n < 2 ^ 31) (hdg : decode cc pc = .ok (.iastore, 1))
    (kk : ∀ (H1 : Heap) (locs1 : List Loc), mh D cl lo ad (va_up C r (some (.inl (cA, n, .inl (upd f i x))))) H1 → va_S (fun q => lo ≤ q) H0 H1 locs1 → W p l e R s m args below meth c H1 locs1 cells slots Q (F0 m (pc + 1) ls rest)) : W p l e R s m args below meth c H locs cells slots Q (F0 m pc ls (.int x :: .int (nI i) :: .ref (ad r) :: rest)) :=
  mh_iast hexec hb hK hP hS r t0 ha ht (vp_in_nI hi hn) hdg (by rw [nI_clamp (by omega)]; exact kk)
theorem mh_lasn (hexec : p.tables.exec = Jvm.exec) (hb : c.code = cc) (hK : va_K D cl tys s) (hP : mh D cl lo ad C H) (hS : va_S (fun q => lo ≤ q) H0 H locs) (r t0 : Nat) {cA : ClassId} {n : Nat} {f : Nat → Int64} (ha : C r = some (.inl (cA, n, .inr (.inl f)))) (ht : tys[t0]? = some (cA, .long)) {i : Nat} {x : Int64} (hi : i < n) (hn : n < 2 ^ 31) (hdg : decode cc pc = .ok (.lastore, 1))
    (kk : ∀ (H1 : Heap) (locs1 : List Loc), mh D cl lo ad (va_up C r (some (.inl (cA, n, .inr (.inl (vp_updL f i x)))))) H1 → va_S (fun q => lo ≤ q) H0 H1 locs1 → W p l e R s m args below meth c H1 locs1 cells slots Q (F0 m (pc + 1) ls rest)) : W p l e R s m args below meth c H locs cells slots Q (F0 m pc ls (.long x :: .int (nI i) :: .ref (ad r) :: rest)) :=
  mh_last hexec hb hK hP hS r t0 ha ht (vp_in_nI hi hn) hdg (by rw [nI_clamp (by omega)]; exact kk)
end ROWN
