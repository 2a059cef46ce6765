/-! THE CLASS'S STATE AS NUMBERS. zEv: kind (-1: a cleaning), level, hour, late, the event before. zS: (kinds, levels, things, events), needs, allergens, lasting, costs, groups, last events, events. -/
abbrev zEv : Type := Int32 × Nat × Nat × Nat × Option Nat
abbrev zS : Type := (Nat × Nat × Nat × Nat) × (Nat → Nat → Nat) × (Nat → Nat) × (Nat → Nat → Nat) × (Nat → Nat) × (Nat → Nat) × (Nat → Option Nat) × (Nat → zEv)
abbrev zK (z : zS) : Nat := z.1.1
abbrev zL (z : zS) : Nat := z.1.2.1
abbrev zT (z : zS) : Nat := z.1.2.2.1
abbrev zE (z : zS) : Nat := z.1.2.2.2
abbrev zNd (z : zS) : Nat → Nat → Nat := z.2.1
abbrev zAl (z : zS) : Nat → Nat := z.2.2.1
abbrev zLa (z : zS) : Nat → Nat → Nat := z.2.2.2.1
abbrev zCo (z : zS) : Nat → Nat := z.2.2.2.2.1
abbrev zGr (z : zS) : Nat → Nat := z.2.2.2.2.2.1
abbrev zLt (z : zS) : Nat → Option Nat := z.2.2.2.2.2.2.1
abbrev zVs (z : zS) : Nat → zEv := z.2.2.2.2.2.2.2
abbrev ei (v : zEv) : Int32 := v.1
abbrev el (v : zEv) : Nat := v.2.1
abbrev eh (v : zEv) : Nat := v.2.2.1
abbrev ea (v : zEv) : Nat := v.2.2.2.1
abbrev eb (v : zEv) : Option Nat := v.2.2.2.2
/-- an event's cell -/
def zVc (ad : Nat → Nat) (v : zEv) : va_E := .inr (0, [.int (ei v), .int (nI (el v)), .long (lN (eh v)), .int (nI (ea v)), va_rf ((eb v).map (fun k => ad (100 + k)))])
/-- the class's cells: 0 the object; 1 needs, 2 allergens, 3 lasting, 4 costs, 5 groups, 6 lasts; 7, 8 the rows of lasting; 20 + i the rows of needs; 100 + k the events; F: all that isn't the class's -/
def zC (cy : Nat → ClassId) (ad : Nat → Nat) (z : zS) (F : Nat → Option va_E) : Nat → Option va_E := fun r =>
  if r = 0 then some (.inr (1, [.int (nI (zK z)), .int (nI (zL z)), .ref (ad 1), .ref (ad 2), .ref (ad 3), .ref (ad 4), .ref (ad 5), .ref (ad 6), .int (nI (zT z)), .int (nI (zE z))]))
  else if r = 1 then some (.inl (cy 3, zK z, .inr (.inr (.inr (.inr (fun i => if i < zK z then some (ad (20 + i)) else none))))))
  else if r = 2 then some (.inl (cy 0, zK z, .inl (fun i => nI (zAl z i))))
  else if r = 3 then some (.inl (cy 3, 2, .inr (.inr (.inr (.inr (fun i => if i < 2 then some (ad (7 + i)) else none))))))
  else if r = 4 then some (.inl (cy 1, zL z + 1, .inr (.inl (fun i => lN (zCo z i)))))
  else if r = 5 then some (.inl (cy 0, 32, .inl (fun i => nI (zGr z i))))
  else if r = 6 then some (.inl (cy 4, 32, .inr (.inr (.inr (.inr (fun i => (zLt z i).map (fun k => ad (100 + k))))))))
  else if 7 ≤ r ∧ r < 9 then some (.inl (cy 0, zL z + 1, .inl (fun i => nI (zLa z (r - 7) i))))
  else if 20 ≤ r ∧ r < 20 + zK z then some (.inl (cy 0, zK z, .inl (fun j => nI (zNd z (r - 20) j))))
  else if 100 ≤ r ∧ r < 100 + zE z then some (zVc ad (zVs z (r - 100)))
  else F r
theorem zC_la {cy : Nat → ClassId} {ad : Nat → Nat} {z : zS} {F : Nat → Option va_E} (st : Nat) (h : st < 2) : zC cy ad z F (7 + st) = some (.inl (cy 0, zL z + 1, .inl (fun i => nI (zLa z st i)))) := by
  unfold zC
  rw [if_neg (by omega), if_neg (by omega), if_neg (by omega), if_neg (by omega), if_neg (by omega), if_neg (by omega), if_neg (by omega), if_pos (by omega), Nat.add_sub_cancel_left]
theorem zC_nd {cy : Nat → ClassId} {ad : Nat → Nat} {z : zS} {F : Nat → Option va_E} (i : Nat) (h : i < zK z) : zC cy ad z F (20 + i) = some (.inl (cy 0, zK z, .inl (fun j => nI (zNd z i j)))) := by
  unfold zC
  rw [if_neg (by omega), if_neg (by omega), if_neg (by omega), if_neg (by omega), if_neg (by omega), if_neg (by omega), if_neg (by omega), if_neg (by omega), if_pos (by omega), Nat.add_sub_cancel_left]
theorem zC_ev {cy : Nat → ClassId} {ad : Nat → Nat} {z : zS} {F : Nat → Option va_E} (k : Nat) (hK : zK z ≤ 20) (h : k < zE z) : zC cy ad z F (100 + k) = some (zVc ad (zVs z k)) := by
  unfold zC
  rw [if_neg (by omega), if_neg (by omega), if_neg (by omega), if_neg (by omega), if_neg (by omega), if_neg (by omega), if_neg (by omega), if_neg (by omega), if_neg (by omega), if_pos (by omega), Nat.add_sub_cancel_left]
theorem zC_hi {cy : Nat → ClassId} {ad : Nat → Nat} {z : zS} {F : Nat → Option va_E} {r : Nat} (hK : zK z ≤ 20) (h : 100 + zE z ≤ r) : zC cy ad z F r = F r := by
  unfold zC
  rw [if_neg (by omega), if_neg (by omega), if_neg (by omega), if_neg (by omega), if_neg (by omega), if_neg (by omega), if_neg (by omega), if_neg (by omega), if_neg (by omega), if_neg (by omega)]
/-- the events of a thing, from its last one back, by their numbers -/
def lnk (z : zS) : Option Nat → List Nat → Prop
  | o, [] => o = none
  | o, k :: ks => o = some k ∧ k < zE z ∧ lnk z (eb (zVs z k)) ks
/-- what holds of every state of the class -/
def zOk (z : zS) (ch : Nat → List Nat) : Prop :=
  1 ≤ zK z ∧ zK z ≤ 20 ∧ 1 ≤ zL z ∧ zL z ≤ 9 ∧ zT z ≤ 32 ∧ zE z ≤ 200 ∧
  (∀ i j, i < zK z → j < zK z → zNd z i j ≤ zL z) ∧ (∀ i, i < zK z → zAl z i < 65536) ∧ (∀ st i, zLa z st i ≤ 100000) ∧ (∀ i, zCo z i ≤ 1000000) ∧
  (∀ t, t < zT z → zGr z t < zT z) ∧ (∀ t, t < zT z → lnk z (zLt z t) (ch t)) ∧ (∀ t, zT z ≤ t → zLt z t = none) ∧
  (∀ k, k < zE z → eh (zVs z k) ≤ 1000000 ∧ el (zVs z k) ≤ zL z ∧ ea (zVs z k) ≤ 1 ∧ (ei (zVs z k) = -1 ∨ ∃ j, j < zK z ∧ ei (zVs z k) = nI j)) ∧
  (∀ k, k < zE z → ∀ j, eb (zVs z k) = some j → j < zE z)

/-- changes of single parts of the state -/
abbrev uNd (z : zS) (i j v : Nat) : zS := (z.1, (fun a b => if a = i ∧ b = j then v else zNd z a b), z.2.2)
abbrev uAl (z : zS) (i v : Nat) : zS := (z.1, zNd z, (fun a => if a = i then v else zAl z a), z.2.2.2)
abbrev uLa (z : zS) (i j v : Nat) : zS := (z.1, zNd z, zAl z, (fun a b => if a = i ∧ b = j then v else zLa z a b), z.2.2.2.2)
abbrev uCo (z : zS) (i v : Nat) : zS := (z.1, zNd z, zAl z, zLa z, (fun a => if a = i then v else zCo z a), z.2.2.2.2.2)
abbrev uGr (z : zS) (g : Nat → Nat) : zS := (z.1, zNd z, zAl z, zLa z, zCo z, g, z.2.2.2.2.2.2)
abbrev uLt (z : zS) (t : Nat) (k : Nat) : zS := (z.1, zNd z, zAl z, zLa z, zCo z, zGr z, (fun a => if a = t then some k else zLt z a), zVs z)
abbrev uVs (z : zS) (k : Nat) (v : zEv) : zS := (z.1, zNd z, zAl z, zLa z, zCo z, zGr z, zLt z, (fun a => if a = k then v else zVs z a))
abbrev uT (z : zS) (n : Nat) : zS := ((zK z, zL z, n, zE z), z.2)
abbrev uE (z : zS) (n : Nat) : zS := ((zK z, zL z, zT z, n), z.2)
theorem fn_i {f : Nat → Nat} {i v : Nat} : upd (fun a => nI (f a)) i (nI v) = fun a => nI (if a = i then v else f a) := by
  funext a
  unfold upd
  split <;> rfl
theorem fn_l {f : Nat → Nat} {i v : Nat} : vp_updL (fun a => lN (f a)) i (lN v) = fun a => lN (if a = i then v else f a) := by
  funext a
  unfold vp_updL
  split <;> rfl
section ZU
variable {cy : Nat → ClassId} {ad : Nat → Nat} {z : zS} {F : Nat → Option va_E}
theorem zC_uNd {i j v : Nat} (hK : zK z ≤ 20) (hi : i < zK z) (r : Nat) : zC cy ad (uNd z i j v) F r = va_up (zC cy ad z F) (20 + i) (some (.inl (cy 0, zK z, .inl (upd (fun b => nI (zNd z i b)) j (nI v))))) r := by
  by_cases h : r = 20 + i
  · subst h
    rw [va_up_self, zC_nd (z := uNd z i j v) i hi, fn_i]
    refine congrArg (fun f => some (Sum.inl (cy 0, zK z, Sum.inl f))) (funext fun b => ?_)
    show nI (if i = i ∧ b = j then v else zNd z i b) = _
    by_cases hb : b = j <;> simp [hb]
  · rw [va_up_ne _ _ h]
    unfold zC
    by_cases c0 : r = 0
    · rw [if_pos c0, if_pos c0]
    rw [if_neg c0, if_neg c0]
    by_cases c1 : r = 1
    · rw [if_pos c1, if_pos c1]
    rw [if_neg c1, if_neg c1]
    by_cases c2 : r = 2
    · rw [if_pos c2, if_pos c2]
    rw [if_neg c2, if_neg c2]
    by_cases c3 : r = 3
    · rw [if_pos c3, if_pos c3]
    rw [if_neg c3, if_neg c3]
    by_cases c4 : r = 4
    · rw [if_pos c4, if_pos c4]
    rw [if_neg c4, if_neg c4]
    by_cases c5 : r = 5
    · rw [if_pos c5, if_pos c5]
    rw [if_neg c5, if_neg c5]
    by_cases c6 : r = 6
    · rw [if_pos c6, if_pos c6]
    rw [if_neg c6, if_neg c6]
    by_cases c7 : 7 ≤ r ∧ r < 9
    · rw [if_pos c7, if_pos c7]
    rw [if_neg c7, if_neg c7]
    by_cases c8 : 20 ≤ r ∧ r < 20 + zK z
    · rw [if_pos c8, if_pos c8]
      refine congrArg (fun f => some (Sum.inl (cy 0, zK z, Sum.inl f))) (funext fun b => ?_)
      show nI (if r - 20 = i ∧ b = j then v else zNd z (r - 20) b) = _
      rw [if_neg (by omega)]
    · rw [if_neg c8, if_neg c8]
theorem zC_uAl {i v : Nat} (r : Nat) : zC cy ad (uAl z i v) F r = va_up (zC cy ad z F) 2 (some (.inl (cy 0, zK z, .inl (upd (fun b => nI (zAl z b)) i (nI v))))) r := by
  by_cases h : r = 2
  · subst h
    rw [va_up_self, fn_i]
    rfl
  · rw [va_up_ne _ _ h]
    unfold zC
    rw [if_neg h, if_neg h]
theorem zC_uLa {i j v : Nat} (hi : i < 2) (r : Nat) : zC cy ad (uLa z i j v) F r = va_up (zC cy ad z F) (7 + i) (some (.inl (cy 0, zL z + 1, .inl (upd (fun b => nI (zLa z i b)) j (nI v))))) r := by
  by_cases h : r = 7 + i
  · subst h
    rw [va_up_self, zC_la (z := uLa z i j v) i hi, fn_i]
    refine congrArg (fun f => some (Sum.inl (cy 0, zL z + 1, Sum.inl f))) (funext fun b => ?_)
    show nI (if i = i ∧ b = j then v else zLa z i b) = _
    by_cases hb : b = j <;> simp [hb]
  · rw [va_up_ne _ _ h]
    unfold zC
    by_cases c0 : r = 0
    · rw [if_pos c0, if_pos c0]
    rw [if_neg c0, if_neg c0]
    by_cases c1 : r = 1
    · rw [if_pos c1, if_pos c1]
    rw [if_neg c1, if_neg c1]
    by_cases c2 : r = 2
    · rw [if_pos c2, if_pos c2]
    rw [if_neg c2, if_neg c2]
    by_cases c3 : r = 3
    · rw [if_pos c3, if_pos c3]
    rw [if_neg c3, if_neg c3]
    by_cases c4 : r = 4
    · rw [if_pos c4, if_pos c4]
    rw [if_neg c4, if_neg c4]
    by_cases c5 : r = 5
    · rw [if_pos c5, if_pos c5]
    rw [if_neg c5, if_neg c5]
    by_cases c6 : r = 6
    · rw [if_pos c6, if_pos c6]
    rw [if_neg c6, if_neg c6]
    by_cases c7 : 7 ≤ r ∧ r < 9
    · rw [if_pos c7, if_pos c7]
      refine congrArg (fun f => some (Sum.inl (cy 0, zL z + 1, Sum.inl f))) (funext fun b => ?_)
      show nI (if r - 7 = i ∧ b = j then v else zLa z (r - 7) b) = _
      rw [if_neg (by omega)]
    · rw [if_neg c7, if_neg c7]
theorem zC_uCo {i v : Nat} (r : Nat) : zC cy ad (uCo z i v) F r = va_up (zC cy ad z F) 4 (some (.inl (cy 1, zL z + 1, .inr (.inl (vp_updL (fun b => lN (zCo z b)) i (lN v)))))) r := by
  by_cases h : r = 4
  · subst h
    rw [va_up_self, fn_l]
    rfl
  · rw [va_up_ne _ _ h]
    unfold zC
    rw [if_neg h, if_neg h]
theorem zC_uGr {g : Nat → Nat} (r : Nat) : zC cy ad (uGr z g) F r = va_up (zC cy ad z F) 5 (some (.inl (cy 0, 32, .inl (fun b => nI (g b))))) r := by
  by_cases h : r = 5
  · subst h
    rw [va_up_self]
    rfl
  · rw [va_up_ne _ _ h]
    unfold zC
    rw [if_neg h, if_neg h]
theorem zC_uLt {t k : Nat} (r : Nat) : zC cy ad (uLt z t k) F r = va_up (zC cy ad z F) 6 (some (.inl (cy 4, 32, .inr (.inr (.inr (.inr (va_up (fun i => (zLt z i).map (fun k => ad (100 + k))) t (some (ad (100 + k)))))))))) r := by
  by_cases h : r = 6
  · subst h
    rw [va_up_self]
    have e : (fun i => (if i = t then some k else zLt z i).map (fun k => ad (100 + k))) = va_up (fun i => (zLt z i).map (fun k => ad (100 + k))) t (some (ad (100 + k))) := by
      funext a
      unfold va_up
      split <;> rfl
    rw [← e]
    rfl
  · rw [va_up_ne _ _ h]
    unfold zC
    rw [if_neg h, if_neg h]
theorem zC_uT {n : Nat} (r : Nat) : zC cy ad (uT z n) F r = va_up (zC cy ad z F) 0 (some (.inr (1, [.int (nI (zK z)), .int (nI (zL z)), .ref (ad 1), .ref (ad 2), .ref (ad 3), .ref (ad 4), .ref (ad 5), .ref (ad 6), .int (nI n), .int (nI (zE z))]))) r := by
  by_cases h : r = 0
  · subst h
    rw [va_up_self]
    rfl
  · rw [va_up_ne _ _ h]
    unfold zC
    rw [if_neg h, if_neg h]
theorem zC_uVs {k : Nat} {v : zEv} (hK : zK z ≤ 20) (hk : k < zE z) (r : Nat) : zC cy ad (uVs z k v) F r = va_up (zC cy ad z F) (100 + k) (some (zVc ad v)) r := by
  by_cases h : r = 100 + k
  · subst h
    rw [va_up_self, zC_ev (z := uVs z k v) k hK hk]
    show some (zVc ad (if k = k then v else zVs z k)) = _
    rw [if_pos rfl]
  · rw [va_up_ne _ _ h]
    unfold zC
    by_cases c0 : r = 0
    · rw [if_pos c0, if_pos c0]
    rw [if_neg c0, if_neg c0]
    by_cases c1 : r = 1
    · rw [if_pos c1, if_pos c1]
    rw [if_neg c1, if_neg c1]
    by_cases c2 : r = 2
    · rw [if_pos c2, if_pos c2]
    rw [if_neg c2, if_neg c2]
    by_cases c3 : r = 3
    · rw [if_pos c3, if_pos c3]
    rw [if_neg c3, if_neg c3]
    by_cases c4 : r = 4
    · rw [if_pos c4, if_pos c4]
    rw [if_neg c4, if_neg c4]
    by_cases c5 : r = 5
    · rw [if_pos c5, if_pos c5]
    rw [if_neg c5, if_neg c5]
    by_cases c6 : r = 6
    · rw [if_pos c6, if_pos c6]
    rw [if_neg c6, if_neg c6]
    by_cases c7 : 7 ≤ r ∧ r < 9
    · rw [if_pos c7, if_pos c7]
    rw [if_neg c7, if_neg c7]
    by_cases c8 : 20 ≤ r ∧ r < 20 + zK z
    · rw [if_pos c8, if_pos c8]
    rw [if_neg c8, if_neg c8]
    by_cases c9 : 100 ≤ r ∧ r < 100 + zE z
    · rw [if_pos c9, if_pos c9]
      show some (zVc ad (if r - 100 = k then v else zVs z (r - 100))) = _
      rw [if_neg (by omega)]
    · rw [if_neg c9, if_neg c9]
/-- one event more -/
theorem zC_add {v : zEv} (hK : zK z ≤ 20) (r : Nat) : zC cy ad (uE (uVs z (zE z) v) (zE z + 1)) F r = va_up (va_up (zC cy ad z F) (100 + zE z) (some (zVc ad v))) 0 (some (.inr (1, [.int (nI (zK z)), .int (nI (zL z)), .ref (ad 1), .ref (ad 2), .ref (ad 3), .ref (ad 4), .ref (ad 5), .ref (ad 6), .int (nI (zT z)), .int (nI (zE z + 1))]))) r := by
  by_cases h0 : r = 0
  · subst h0
    rw [va_up_self]
    rfl
  rw [va_up_ne _ _ h0]
  by_cases h : r = 100 + zE z
  · subst h
    rw [va_up_self, zC_ev (z := uE (uVs z (zE z) v) (zE z + 1)) (zE z) hK (Nat.lt_succ_self _)]
    show some (zVc ad (if zE z = zE z then v else zVs z (zE z))) = _
    rw [if_pos rfl]
  · rw [va_up_ne _ _ h]
    unfold zC
    rw [if_neg h0, if_neg h0]
    by_cases c1 : r = 1
    · rw [if_pos c1, if_pos c1]
    rw [if_neg c1, if_neg c1]
    by_cases c2 : r = 2
    · rw [if_pos c2, if_pos c2]
    rw [if_neg c2, if_neg c2]
    by_cases c3 : r = 3
    · rw [if_pos c3, if_pos c3]
    rw [if_neg c3, if_neg c3]
    by_cases c4 : r = 4
    · rw [if_pos c4, if_pos c4]
    rw [if_neg c4, if_neg c4]
    by_cases c5 : r = 5
    · rw [if_pos c5, if_pos c5]
    rw [if_neg c5, if_neg c5]
    by_cases c6 : r = 6
    · rw [if_pos c6, if_pos c6]
    rw [if_neg c6, if_neg c6]
    by_cases c7 : 7 ≤ r ∧ r < 9
    · rw [if_pos c7, if_pos c7]
    rw [if_neg c7, if_neg c7]
    by_cases c8 : 20 ≤ r ∧ r < 20 + zK z
    · rw [if_pos c8, if_pos c8]
    rw [if_neg c8, if_neg c8]
    by_cases c9 : 100 ≤ r ∧ r < 100 + zE z
    · rw [if_pos (show 100 ≤ r ∧ r < 100 + (zE z + 1) by omega), if_pos c9]
      show some (zVc ad (if r - 100 = zE z then v else zVs z (r - 100))) = _
      rw [if_neg (by omega)]
    · rw [if_neg (show ¬ (100 ≤ r ∧ r < 100 + (zE z + 1)) by omega), if_neg c9]
theorem om_congr {f g : Nat → Nat} {o : Option Nat} (h : ∀ k, o = some k → f k = g k) : o.map f = o.map g := by
  cases o with
  | none => rfl
  | some k => exact congrArg some (h k rfl)
/-- addresses of roles that the picture doesn't have don't matter -/
theorem zC_ad {ad' : Nat → Nat} (hK : zK z ≤ 20) (hlt : ∀ t k, zLt z t = some k → k < zE z) (hbf : ∀ k, k < zE z → ∀ j, eb (zVs z k) = some j → j < zE z) (ha : ∀ r, r < 100 + zE z → ad' r = ad r) (r : Nat) : zC cy ad' z F r = zC cy ad z F r := by
  unfold zC
  rw [ha 1 (by omega), ha 2 (by omega), ha 3 (by omega), ha 4 (by omega), ha 5 (by omega), ha 6 (by omega)]
  rw [show (fun i => if i < zK z then some (ad' (20 + i)) else none) = (fun i => if i < zK z then some (ad (20 + i)) else none) from funext fun i => by
    by_cases c : i < zK z
    · rw [if_pos c, if_pos c, ha (20 + i) (by omega)]
    · rw [if_neg c, if_neg c]]
  rw [show (fun i => if i < 2 then some (ad' (7 + i)) else none) = (fun i => if i < 2 then some (ad (7 + i)) else none) from funext fun i => by
    by_cases c : i < 2
    · rw [if_pos c, if_pos c, ha (7 + i) (by omega)]
    · rw [if_neg c, if_neg c]]
  rw [show (fun i => (zLt z i).map (fun k => ad' (100 + k))) = (fun i => (zLt z i).map (fun k => ad (100 + k))) from funext fun i => om_congr (fun k hk => ha (100 + k) (by have := hlt i k hk; omega))]
  by_cases c9 : 100 ≤ r ∧ r < 100 + zE z
  · have e : zVc ad' (zVs z (r - 100)) = zVc ad (zVs z (r - 100)) := by
      unfold zVc
      rw [om_congr (f := fun k => ad' (100 + k)) (g := fun k => ad (100 + k)) (fun k hk => ha (100 + k) (by have := hbf (r - 100) (by omega) k hk; omega))]
    rw [e]
  · rw [if_neg c9, if_neg c9]
end ZU
