/-! THE REFERENCE'S PICTURE over the class's state z: et the things of the events, mn its needs (row by row of 20, -1: none told), gm its groups. Roles 1000 (the object), 1001 .. 1010 (its arrays). -/
def yC (cy : Nat → ClassId) (ad : Nat → Nat) (z : zS) (et : Nat → Nat) (mn : Nat → Int32) (gm : Nat → Nat) (G : Nat → Option va_E) : Nat → Option va_E := fun r =>
  if r = 1000 then some (.inr (2, [.int (nI (zK z)), .int (nI (zL z)), .ref (ad 1001), .ref (ad 1002), .ref (ad 1003), .ref (ad 1004), .ref (ad 1005), .int (nI (zT z)), .ref (ad 1006), .ref (ad 1007), .ref (ad 1008), .ref (ad 1009), .ref (ad 1010), .int (nI (zE z))]))
  else if r = 1001 then some (.inl (cy 0, 400, .inl mn))
  else if r = 1002 then some (.inl (cy 0, 20, .inl (fun i => nI (zAl z i))))
  else if r = 1003 then some (.inl (cy 0, 20, .inl (fun p => nI (zLa z (p % 2) (p / 2)))))
  else if r = 1004 then some (.inl (cy 1, 10, .inr (.inl (fun i => lN (zCo z i)))))
  else if r = 1005 then some (.inl (cy 0, 32, .inl (fun i => nI (gm i))))
  else if r = 1006 then some (.inl (cy 0, 200, .inl (fun k => nI (et k))))
  else if r = 1007 then some (.inl (cy 1, 200, .inr (.inl (fun k => lN (eh (zVs z k))))))
  else if r = 1008 then some (.inl (cy 0, 200, .inl (fun k => ei (zVs z k))))
  else if r = 1009 then some (.inl (cy 0, 200, .inl (fun k => nI (el (zVs z k)))))
  else if r = 1010 then some (.inl (cy 2, 200, .inl (fun k => nI (ea (zVs z k)))))
  else G r
/-- what holds of the reference's own parts -/
def yOk (z : zS) (ch : Nat → List Nat) (et : Nat → Nat) (mn : Nat → Int32) (gm : Nat → Nat) : Prop :=
  (∀ i j, i < zK z → j < zK z → (mn (i * 20 + j) = -1 ∧ zNd z i j = zL z) ∨ mn (i * 20 + j) = nI (zNd z i j)) ∧
  (∀ t, t < zT z → gm t < zT z) ∧ (∀ a b, a < zT z → b < zT z → (gm a = gm b ↔ zGr z a = zGr z b)) ∧
  (∀ k, k < zE z → et k < zT z) ∧
  (∀ t, t < zT z → (∀ k, k ∈ ch t ↔ k < zE z ∧ et k = t) ∧ (ch t).Pairwise (fun a b => eh (zVs z b) < eh (zVs z a) ∨ (eh (zVs z b) = eh (zVs z a) ∧ b < a)))
section MHZ
variable {p : Program} {l : Launch} {e : Env} {R : Room} {s : State} {m : MethodId} {args : Array Value} {below : List Frame} {meth : Method} {c : Code} {H : Heap} {locs : List Loc} {cells slots : Nat} {Q : State → Prop}
variable {cc : ByteArray} {pc : Nat} {ls : Array Slot} {rest : List Value} {D : va_G} {cl : List vw_C} {lo : Nat} {ad : Nat → Nat} {C : Nat → Option va_E} {tys : List (ClassId × FieldType)} {H0 : Heap}
theorem mh_zaln (hexec : p.tables.exec = Jvm.exec) (hb : c.code = cc) (hK : va_K D cl tys s) (hP : mh D cl lo ad C H) (r t0 : Nat) {cA : ClassId} {n : Nat} {f : Nat → Int32} (ha : C r = some (.inl (cA, n, .inl f))) (ht : tys[t0]? = some (cA, .boolean)) {i : Nat} (hi : i < n) (hn : n < 2 ^ 31) (hdg : decode cc pc = .ok (.baload, 1)) {v : Int32} (hv : f i = v)
    (kk : W p l e R s m args below meth c H locs cells slots Q (F0 m (pc + 1) ls (.int v :: rest))) : W p l e R s m args below meth c H locs cells slots Q (F0 m pc ls (.int (nI i) :: .ref (ad r) :: rest)) :=
  va_zald hexec hb hK (mh_at hP ha) 0 t0 rfl ht (vp_in_nI hi hn) hdg (by rw [nI_clamp (by omega), hv]; exact kk)
theorem mh_zasn (hexec : p.tables.exec = Jvm.exec) (hb : c.code = cc) (hK : va_K D cl tys s) (hP : mh D cl lo ad C H) (hS : va_S (fun q => lo ≤ q) H0 H locs) (r t0 : Nat) {cA : ClassId} {n : Nat} {f : Nat → Int32} (ha : C r = some (.inl (cA, n, .inl f))) (ht : tys[t0]? = some (cA, .boolean)) {i : Nat} {x : Int32} (hi : i < n) (hn : n < 2 ^ 31) (hx : vp_nar .boolean x = x) (hdg : decode cc pc = .ok (.bastore, 1))
    (kk : ∀ (H1 : Heap) (locs1 : List Loc), mh D cl lo ad (va_up C r (some (.inl (cA, n, .inl (upd f i x))))) H1 → va_S (fun q => lo ≤ q) H0 H1 locs1 → W p l e R s m args below meth c H1 locs1 cells slots Q (F0 m (pc + 1) ls rest)) : W p l e R s m args below meth c H locs cells slots Q (F0 m pc ls (.int x :: .int (nI i) :: .ref (ad r) :: rest)) := by
  obtain ⟨ws, hPw, hDw, h1, -⟩ := mh_open hP
  obtain ⟨q0, hq0⟩ := h1 r _ ha
  refine va_zast hexec hb hK hPw hDw hS q0 t0 hq0 ht (vp_in_nI hi hn) hdg (fun H1 locs1 hP1 _ hS1 => kk H1 locs1 ?_ hS1)
  rw [nI_clamp (by omega), hx] at hP1
  exact mh_set hP h1 ha hq0 hP1
end MHZ
/-! PURE ROWS: the reference's searches against the chains. -/
/-- a is later than b -/
def zAfter (z : zS) (a b : Nat) : Prop := eh (zVs z b) < eh (zVs z a) ∨ (eh (zVs z b) = eh (zVs z a) ∧ b < a)
def zAf (z : zS) (a : Nat) : Option Nat → Prop
  | none => True
  | some b => zAfter z a b
/-- a content up to the hour -/
def zCt (z : zS) (h k : Nat) : Prop := eh (zVs z k) ≤ h ∧ ei (zVs z k) ≠ -1
def zLK (z : zS) (h : Nat) : List Nat → Option Nat
  | [] => none
  | k :: ks => if eh (zVs z k) ≤ h ∧ ei (zVs z k) ≠ -1 then some k else zLK z h ks
theorem zLK_y {z : zS} {h k : Nat} {ks : List Nat} (q : zCt z h k) : zLK z h (k :: ks) = some k := if_pos q
theorem zLK_n {z : zS} {h k : Nat} {ks : List Nat} (q : ¬ zCt z h k) : zLK z h (k :: ks) = zLK z h ks := if_neg q
def lkS (z : zS) (h : Nat) (P : Nat → Prop) : Option Nat → Prop
  | none => ∀ k, P k → ¬ zCt z h k
  | some a => P a ∧ zCt z h a ∧ ∀ k, P k → zCt z h k → k ≠ a → zAfter z a k
theorem zLK_spec {z : zS} {h : Nat} : ∀ (l : List Nat), l.Pairwise (zAfter z) → lkS z h (fun k => k ∈ l) (zLK z h l)
  | [], _ => fun k hk => absurd hk List.not_mem_nil
  | k :: ks, hp => by
    obtain ⟨h1, h2⟩ := List.pairwise_cons.mp hp
    by_cases c : zCt z h k
    · rw [zLK_y c]
      refine ⟨List.mem_cons_self, c, fun x hx _ hne => ?_⟩
      rcases List.mem_cons.mp hx with q | q
      · exact absurd q hne
      · exact h1 x q
    · rw [zLK_n c]
      have ih := zLK_spec (z := z) (h := h) ks h2
      cases hl : zLK z h ks with
      | none =>
        rw [hl] at ih
        intro x hx
        rcases List.mem_cons.mp hx with q | q
        · rw [q]; exact c
        · exact ih x q
      | some a =>
        rw [hl] at ih
        obtain ⟨i1, i2, i3⟩ := ih
        refine ⟨List.mem_cons_of_mem _ i1, i2, fun x hx hc hne => ?_⟩
        rcases List.mem_cons.mp hx with q | q
        · rw [q] at hc; exact absurd hc c
        · exact i3 x q hc hne
theorem lkS_uniq {z : zS} {h : Nat} {P P' : Nat → Prop} (hPP : ∀ k, P k ↔ P' k) {o o' : Option Nat} (h1 : lkS z h P o) (h2 : lkS z h P' o') : o = o' := by
  cases o with
  | none =>
    cases o' with
    | none => rfl
    | some b => exact absurd h2.2.1 (h1 b ((hPP b).mpr h2.1))
  | some a =>
    cases o' with
    | none => exact absurd h1.2.1 (h2 a ((hPP a).mp h1.1))
    | some b =>
      by_cases e : a = b
      · rw [e]
      · have q1 := h1.2.2 b ((hPP b).mpr h2.1) h2.2.1 (fun q => e q.symm)
        have q2 := h2.2.2 a ((hPP a).mp h1.1) h1.2.1 e
        unfold zAfter at q1 q2
        omega
/-- the reference's search for the last content among the first n events -/
def yCt (z : zS) (et : Nat → Nat) (t h : Nat) : Nat → Option Nat
  | 0 => none
  | n + 1 => if et n = t ∧ (eh (zVs z n) ≤ h ∧ ei (zVs z n) ≠ -1) ∧ (∀ b, yCt z et t h n = some b → eh (zVs z b) ≤ eh (zVs z n)) then some n else yCt z et t h n
