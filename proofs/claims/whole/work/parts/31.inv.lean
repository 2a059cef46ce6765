/-! WHAT HOLDS OF BOTH STATES TOGETHER, kept by every step. -/
theorem lnk_cong {z z' : zS} (hE : zE z ≤ zE z') : ∀ (l : List Nat) (o : Option Nat), (∀ k ∈ l, eb (zVs z' k) = eb (zVs z k)) → lnk z o l → lnk z' o l
  | [], _, _, h => h
  | k :: ks, _, hv, h => ⟨h.1, Nat.lt_of_lt_of_le h.2.1 hE, by
      rw [hv k List.mem_cons_self]
      exact lnk_cong hE ks _ (fun x hx => hv x (List.mem_cons_of_mem _ hx)) h.2.2⟩
theorem lnk_same {z : zS} (z' : zS) {o : Option Nat} {l : List Nat} (hE : zE z = zE z') (hv : zVs z' = zVs z) (h : lnk z o l) : lnk z' o l := lnk_cong (Nat.le_of_eq hE) l o (fun k _ => by rw [hv]) h
theorem lnk_head {z : zS} : ∀ (l : List Nat) (o : Option Nat), lnk z o l → o = l.head?
  | [], _, h => h
  | _ :: _, _, h => h.1
theorem lnk_mlt {z : zS} : ∀ (l : List Nat) (o : Option Nat), lnk z o l → ∀ k ∈ l, k < zE z
  | [], _, _ => fun _ hk => absurd hk List.not_mem_nil
  | a :: ks, _, h => fun k hk => by
      rcases List.mem_cons.mp hk with q | q
      · rw [q]; exact h.2.1
      · exact lnk_mlt ks _ h.2.2 k q
theorem lnk_tail {z : zS} : ∀ (l : List Nat) (o : Option Nat) (suf : List Nat), lnk z o (l ++ suf) → lnk z suf.head? suf
  | [], o, suf, h => by
      have e : o = suf.head? := lnk_head suf o h
      rw [← e]
      exact h
  | _ :: ks, _, suf, h => lnk_tail ks _ suf h.2.2
/-- the chain, once E is laid behind a -/
theorem lnk_ins {z z' : zS} {a E : Nat} {suf : List Nat} (hE : zE z ≤ zE z') (hE2 : E < zE z') (ha : eb (zVs z' a) = some E) (hEb : eb (zVs z' E) = suf.head?) : ∀ (l : List Nat) (o : Option Nat), (∀ k ∈ l, eb (zVs z' k) = eb (zVs z k)) → (∀ k ∈ suf, eb (zVs z' k) = eb (zVs z k)) → lnk z o (l ++ a :: suf) → lnk z' o (l ++ a :: E :: suf)
  | [], _, _, h2, h => ⟨h.1, Nat.lt_of_lt_of_le h.2.1 hE, by
      rw [ha]
      refine ⟨rfl, hE2, ?_⟩
      rw [hEb]
      exact lnk_cong hE suf _ h2 (lnk_tail [a] _ suf h)⟩
  | k :: ks, _, h1, h2, h => ⟨h.1, Nat.lt_of_lt_of_le h.2.1 hE, by
      rw [h1 k List.mem_cons_self]
      exact lnk_ins hE hE2 ha hEb ks _ (fun x hx => h1 x (List.mem_cons_of_mem _ hx)) h2 h.2.2⟩
/-- the event v is laid: its place in the chain aside, all is as if it stood at the end of the table -/
theorem zIns_v {z : zS} {t : Nat} {v : zEv} {pre suf : List Nat} (hp : ∀ a ∈ pre, a < zE z) (k : Nat) : ei (zVs (zIns z t v pre suf) k) = ei (if k = zE z then v else zVs z k) ∧ el (zVs (zIns z t v pre suf) k) = el (if k = zE z then v else zVs z k) ∧ eh (zVs (zIns z t v pre suf) k) = eh (if k = zE z then v else zVs z k) ∧ ea (zVs (zIns z t v pre suf) k) = ea (if k = zE z then v else zVs z k) := by
  unfold zIns
  cases h : pre.getLast? with
  | none =>
    show ei (if k = zE z then wB v suf.head? else zVs z k) = _ ∧ el (if k = zE z then wB v suf.head? else zVs z k) = _ ∧ eh (if k = zE z then wB v suf.head? else zVs z k) = _ ∧ ea (if k = zE z then wB v suf.head? else zVs z k) = _
    by_cases c : k = zE z
    · rw [if_pos c, if_pos c]
      exact ⟨rfl, rfl, rfl, rfl⟩
    · rw [if_neg c, if_neg c]
      exact ⟨rfl, rfl, rfl, rfl⟩
  | some a =>
    have ha : a < zE z := hp a (List.mem_of_getLast? h)
    show ei (if k = a then wB (zVs z a) (some (zE z)) else if k = zE z then wB v suf.head? else zVs z k) = _ ∧ el (if k = a then wB (zVs z a) (some (zE z)) else if k = zE z then wB v suf.head? else zVs z k) = _ ∧ eh (if k = a then wB (zVs z a) (some (zE z)) else if k = zE z then wB v suf.head? else zVs z k) = _ ∧ ea (if k = a then wB (zVs z a) (some (zE z)) else if k = zE z then wB v suf.head? else zVs z k) = _
    by_cases c2 : k = a
    · have c : ¬ k = zE z := by omega
      rw [if_pos c2, if_neg c, c2]
      exact ⟨rfl, rfl, rfl, rfl⟩
    · rw [if_neg c2]
      by_cases c : k = zE z
      · rw [if_pos c, if_pos c]
        exact ⟨rfl, rfl, rfl, rfl⟩
      · rw [if_neg c, if_neg c]
        exact ⟨rfl, rfl, rfl, rfl⟩
theorem zIns_1 {z : zS} {t : Nat} {v : zEv} {pre suf : List Nat} : (zIns z t v pre suf).1 = (zK z, zL z, zT z, zE z + 1) ∧ zNd (zIns z t v pre suf) = zNd z ∧ zAl (zIns z t v pre suf) = zAl z ∧ zLa (zIns z t v pre suf) = zLa z ∧ zCo (zIns z t v pre suf) = zCo z ∧ zGr (zIns z t v pre suf) = zGr z := by
  unfold zIns
  cases pre.getLast? with
  | none => exact ⟨rfl, rfl, rfl, rfl, rfl, rfl⟩
  | some a => exact ⟨rfl, rfl, rfl, rfl, rfl, rfl⟩
/-- the reference's picture doesn't see the chain -/
theorem yC_see {cy : Nat → ClassId} {ad : Nat → Nat} {z z' : zS} {et : Nat → Nat} {mn : Nat → Int32} {gm : Nat → Nat} {G : Nat → Option va_E} (h1 : z.1 = z'.1) (h2 : zAl z = zAl z') (h3 : zLa z = zLa z') (h4 : zCo z = zCo z') (h5 : ∀ k, ei (zVs z k) = ei (zVs z' k) ∧ el (zVs z k) = el (zVs z' k) ∧ eh (zVs z k) = eh (zVs z' k) ∧ ea (zVs z k) = ea (zVs z' k)) : yC cy ad z et mn gm G = yC cy ad z' et mn gm G := by
  have e1 : (fun k => lN (eh (zVs z k))) = (fun k => lN (eh (zVs z' k))) := funext fun k => by rw [(h5 k).2.2.1]
  have e2 : (fun k => ei (zVs z k)) = (fun k => ei (zVs z' k)) := funext fun k => (h5 k).1
  have e3 : (fun k => nI (el (zVs z k))) = (fun k => nI (el (zVs z' k))) := funext fun k => by rw [(h5 k).2.1]
  have e4 : (fun k => nI (ea (zVs z k))) = (fun k => nI (ea (zVs z' k))) := funext fun k => by rw [(h5 k).2.2.2]
  have eK : zK z = zK z' := by show z.1.1 = z'.1.1; rw [h1]
  have eL : zL z = zL z' := by show z.1.2.1 = z'.1.2.1; rw [h1]
  have eT : zT z = zT z' := by show z.1.2.2.1 = z'.1.2.2.1; rw [h1]
  have eE : zE z = zE z' := by show z.1.2.2.2 = z'.1.2.2.2; rw [h1]
  funext r
  unfold yC
  rw [e1, e2, e3, e4, h2, h3, h4, eK, eL, eT, eE]
theorem yC_zIns {cy : Nat → ClassId} {ad : Nat → Nat} {z : zS} {et : Nat → Nat} {mn : Nat → Int32} {gm : Nat → Nat} {G : Nat → Option va_E} {t : Nat} {v : zEv} {pre suf : List Nat} (hp : ∀ a ∈ pre, a < zE z) : yC cy ad (uE (uVs z (zE z) v) (zE z + 1)) et mn gm G = yC cy ad (zIns z t v pre suf) et mn gm G := by
  obtain ⟨i1, i2, i3, i4, i5, i6⟩ := zIns_1 (z := z) (t := t) (v := v) (pre := pre) (suf := suf)
  refine yC_see ?_ i3.symm i4.symm i5.symm (fun k => ?_)
  · rw [i1]
  · obtain ⟨j1, j2, j3, j4⟩ := zIns_v (z := z) (t := t) (v := v) (suf := suf) hp k
    exact ⟨j1.symm, j2.symm, j3.symm, j4.symm⟩
theorem yC_ad {cy : Nat → ClassId} {ad ad' : Nat → Nat} {z : zS} {et : Nat → Nat} {mn : Nat → Int32} {gm : Nat → Nat} {G : Nat → Option va_E} (h : ∀ r, 1000 < r → ad' r = ad r) : yC cy ad' z et mn gm G = yC cy ad z et mn gm G := by
  funext r
  unfold yC
  rw [h 1001 (by decide), h 1002 (by decide), h 1003 (by decide), h 1004 (by decide), h 1005 (by decide), h 1006 (by decide), h 1007 (by decide), h 1008 (by decide), h 1009 (by decide), h 1010 (by decide)]
theorem yC_lo {cy : Nat → ClassId} {ad : Nat → Nat} {z : zS} {et : Nat → Nat} {mn : Nat → Int32} {gm : Nat → Nat} {G : Nat → Option va_E} {r : Nat} (h : r < 1000) : yC cy ad z et mn gm G r = G r := by
  unfold yC
  rw [if_neg (by omega), if_neg (by omega), if_neg (by omega), if_neg (by omega), if_neg (by omega), if_neg (by omega), if_neg (by omega), if_neg (by omega), if_neg (by omega), if_neg (by omega), if_neg (by omega)]
theorem zC_F {cy : Nat → ClassId} {ad : Nat → Nat} {z : zS} {F F' : Nat → Option va_E} {r : Nat} (h : F r = F' r) : zC cy ad z F r = zC cy ad z F' r := by
  unfold zC
  rw [h]
theorem yC_G {cy : Nat → ClassId} {ad : Nat → Nat} {z : zS} {et : Nat → Nat} {mn : Nat → Int32} {gm : Nat → Nat} {G G' : Nat → Option va_E} {r : Nat} (h : G r = G' r) : yC cy ad z et mn gm G r = yC cy ad z et mn gm G' r := by
  unfold yC
  rw [h]
/-- the class's cells and the reference's lie apart -/
theorem zy_swap {cy : Nat → ClassId} {ad : Nat → Nat} {z z' : zS} {et : Nat → Nat} {mn : Nat → Int32} {gm : Nat → Nat} (hK : zK z ≤ 20) (hE : zE z ≤ 200) (r : Nat) : yC cy ad z' et mn gm (zC cy ad z (fun _ => none)) r = zC cy ad z (yC cy ad z' et mn gm (fun _ => none)) r := by
  rcases Nat.lt_or_ge r 1000 with h | h
  · rw [yC_lo h]
    exact zC_F (F := fun _ => none) (yC_lo (G := fun _ => none) h).symm
  · rw [zC_hi hK (by omega)]
    exact yC_G (zC_hi hK (by omega))
/-- what holds of both -/
def iv (z : zS) (ch : Nat → List Nat) (et : Nat → Nat) (mn : Nat → Int32) (gm : Nat → Nat) : Prop := zOk z ch ∧ yOk z ch et mn gm
theorem iv_0 {K L : Nat} (h1 : 1 ≤ K) (h2 : K ≤ 20) (h3 : 1 ≤ L) (h4 : L ≤ 9) : iv (z0 K L) (fun _ => []) (fun _ => 0) (fun _ => -1) (fun _ => 0) :=
  ⟨⟨h1, h2, h3, h4, Nat.zero_le _, Nat.zero_le _, fun _ _ _ _ => Nat.le_refl _, fun _ _ => by show 0 < 65536; decide, fun _ _ => by show 24 ≤ 100000; decide, fun _ => Nat.zero_le _, fun _ h => absurd h (Nat.not_lt_zero _), fun _ h => absurd h (Nat.not_lt_zero _), fun _ _ => rfl, fun _ h => absurd h (Nat.not_lt_zero _), fun _ h => absurd h (Nat.not_lt_zero _)⟩,
   ⟨fun _ _ _ _ => Or.inl ⟨rfl, rfl⟩, fun _ h => absurd h (Nat.not_lt_zero _), fun _ _ h => absurd h (Nat.not_lt_zero _), fun _ h => absurd h (Nat.not_lt_zero _), fun _ h => absurd h (Nat.not_lt_zero _)⟩⟩
theorem if_an {P Q : Prop} [Decidable P] [Decidable Q] {a b : Nat} (h : P) : (if P ∧ Q then a else b) = if Q then a else b := by
  by_cases c : Q
  · rw [if_pos c, if_pos ⟨h, c⟩]
  · rw [if_neg c, if_neg (fun q => c q.2)]
theorem join_iff {A B X Y a b x y : Nat} (hab : a ≠ b) (q1 : A = B ↔ a = b) (q2 : X = A ↔ x = a) (q3 : X = B ↔ x = b) (q4 : Y = A ↔ y = a) (q5 : Y = B ↔ y = b) (q6 : X = Y ↔ x = y) : ((if X = max A B then min A B else X) = (if Y = max A B then min A B else Y)) ↔ ((if x = b then a else x) = (if y = b then a else y)) := by
  by_cases c1 : x = b <;> by_cases c2 : y = b <;> by_cases c3 : X = max A B <;> by_cases c4 : Y = max A B <;> (first | rw [if_pos c1] | rw [if_neg c1]) <;> (first | rw [if_pos c2] | rw [if_neg c2]) <;> (first | rw [if_pos c3] | rw [if_neg c3]) <;> (first | rw [if_pos c4] | rw [if_neg c4]) <;> (constructor <;> intro h <;> omega)
section IV
variable {z : zS} {ch : Nat → List Nat} {et : Nat → Nat} {mn : Nat → Int32} {gm : Nat → Nat}
theorem iv_uNd {i j v : Nat} (h : iv z ch et mn gm) (hi : i < zK z) (hj : j < zK z) (hv : v ≤ zL z) : iv (uNd z i j v) ch et (upd mn (i * 20 + j) (nI v)) gm := by
  obtain ⟨⟨a1, a2, a3, a4, a5, a6, a7, a8, a9, a10, a11, a12, a13, a14, a15⟩, b1, b2, b3, b4, b5⟩ := h
  refine ⟨⟨a1, a2, a3, a4, a5, a6, fun a b ha hb => ?_, a8, a9, a10, a11, fun t ht => lnk_same (z := z) _ rfl rfl (a12 t ht), a13, a14, a15⟩, fun a b ha hb => ?_, b2, b3, b4, b5⟩
  · show (if a = i ∧ b = j then v else zNd z a b) ≤ zL z
    split
    · exact hv
    · exact a7 a b ha hb
  · show ((if a * 20 + b = i * 20 + j then nI v else mn (a * 20 + b)) = -1 ∧ (if a = i ∧ b = j then v else zNd z a b) = zL z) ∨ (if a * 20 + b = i * 20 + j then nI v else mn (a * 20 + b)) = nI (if a = i ∧ b = j then v else zNd z a b)
    have ha : a < zK z := ha
    have hb : b < zK z := hb
    by_cases c : a = i ∧ b = j
    · rw [if_pos c, if_pos (by rw [c.1, c.2])]
      exact Or.inr rfl
    · rw [if_neg c, if_neg (by omega)]
      exact b1 a b ha hb
theorem iv_uLa {i st v : Nat} (h : iv z ch et mn gm) (hv : v ≤ 100000) : iv (uLa z st i v) ch et mn gm := by
  obtain ⟨⟨a1, a2, a3, a4, a5, a6, a7, a8, a9, a10, a11, a12, a13, a14, a15⟩, b1, b2, b3, b4, b5⟩ := h
  refine ⟨⟨a1, a2, a3, a4, a5, a6, a7, a8, fun a b => ?_, a10, a11, fun t ht => lnk_same (z := z) _ rfl rfl (a12 t ht), a13, a14, a15⟩, b1, b2, b3, b4, b5⟩
  show (if a = st ∧ b = i then v else zLa z a b) ≤ 100000
  split
  · exact hv
  · exact a9 a b
theorem iv_uCo {i v : Nat} (h : iv z ch et mn gm) (hv : v ≤ 1000000) : iv (uCo z i v) ch et mn gm := by
  obtain ⟨⟨a1, a2, a3, a4, a5, a6, a7, a8, a9, a10, a11, a12, a13, a14, a15⟩, b1, b2, b3, b4, b5⟩ := h
  refine ⟨⟨a1, a2, a3, a4, a5, a6, a7, a8, a9, fun a => ?_, a11, fun t ht => lnk_same (z := z) _ rfl rfl (a12 t ht), a13, a14, a15⟩, b1, b2, b3, b4, b5⟩
  show (if a = i then v else zCo z a) ≤ 1000000
  split
  · exact hv
  · exact a10 a
theorem iv_uAl {i v : Nat} (h : iv z ch et mn gm) (hv : v < 65536) : iv (uAl z i v) ch et mn gm := by
  obtain ⟨⟨a1, a2, a3, a4, a5, a6, a7, a8, a9, a10, a11, a12, a13, a14, a15⟩, b1, b2, b3, b4, b5⟩ := h
  refine ⟨⟨a1, a2, a3, a4, a5, a6, a7, fun a ha => ?_, a9, a10, a11, fun t ht => lnk_same (z := z) _ rfl rfl (a12 t ht), a13, a14, a15⟩, b1, b2, b3, b4, b5⟩
  show (if a = i then v else zAl z a) < 65536
  split
  · exact hv
  · exact a8 a ha
theorem iv_thing (h : iv z ch et mn gm) (hT : zT z < 32) : iv (uT (uGr z (fun a => if a = zT z then zT z else zGr z a)) (zT z + 1)) (fun t => if t = zT z then [] else ch t) et mn (fun a => if a = zT z then zT z else gm a) := by
  obtain ⟨⟨a1, a2, a3, a4, a5, a6, a7, a8, a9, a10, a11, a12, a13, a14, a15⟩, b1, b2, b3, b4, b5⟩ := h
  refine ⟨⟨a1, a2, a3, a4, hT, a6, a7, a8, a9, a10, fun t ht => ?_, fun t ht => ?_, fun t ht => a13 t (by have : zT z + 1 ≤ t := ht; omega), a14, a15⟩, b1, fun t ht => ?_, fun a b ha hb => ?_, fun k hk => Nat.lt_succ_of_lt (b4 k hk), fun t ht => ?_⟩
  · show (if t = zT z then zT z else zGr z t) < zT z + 1
    have ht : t < zT z + 1 := ht
    split
    · exact Nat.lt_succ_self _
    · exact Nat.lt_succ_of_lt (a11 t (by omega))
  · show lnk _ (zLt z t) (if t = zT z then [] else ch t)
    have ht : t < zT z + 1 := ht
    by_cases c : t = zT z
    · rw [if_pos c, a13 t (by omega)]
      rfl
    · rw [if_neg c]
      exact lnk_same (z := z) _ rfl rfl (a12 t (by omega))
  · show (if t = zT z then zT z else gm t) < zT z + 1
    have ht : t < zT z + 1 := ht
    split
    · exact Nat.lt_succ_self _
    · exact Nat.lt_succ_of_lt (b2 t (by omega))
  · show ((if a = zT z then zT z else gm a) = (if b = zT z then zT z else gm b)) ↔ ((if a = zT z then zT z else zGr z a) = (if b = zT z then zT z else zGr z b))
    have ha : a < zT z + 1 := ha
    have hb : b < zT z + 1 := hb
    by_cases c : a = zT z
    · by_cases c2 : b = zT z
      · rw [if_pos c, if_pos c2, if_pos c, if_pos c2]
      · have q1 := b2 b (by omega)
        have q2 := a11 b (by omega)
        rw [if_pos c, if_neg c2, if_pos c, if_neg c2]
        omega
    · have q1 := b2 a (by omega)
      have q2 := a11 a (by omega)
      by_cases c2 : b = zT z
      · rw [if_neg c, if_pos c2, if_neg c, if_pos c2]
        omega
      · rw [if_neg c, if_neg c2, if_neg c, if_neg c2]
        exact b3 a b (by omega) (by omega)
  · show (∀ k, k ∈ (if t = zT z then [] else ch t) ↔ k < zE z ∧ et k = t) ∧ (if t = zT z then [] else ch t).Pairwise (fun a b => eh (zVs z b) < eh (zVs z a) ∨ (eh (zVs z b) = eh (zVs z a) ∧ b < a))
    have ht : t < zT z + 1 := ht
    by_cases c : t = zT z
    · rw [if_pos c]
      refine ⟨fun k => ⟨fun q => absurd q List.not_mem_nil, fun q => ?_⟩, List.Pairwise.nil⟩
      have := b4 k q.1
      omega
    · rw [if_neg c]
      exact b5 t (by omega)
theorem iv_join {a b : Nat} (h : iv z ch et mn gm) (ha : a < zT z) (hb : b < zT z) (hab : zGr z a ≠ zGr z b) : iv (uGr z (fun e => if e < zT z ∧ zGr z e = zGr z b then zGr z a else zGr z e)) ch et mn (fun e => if e < zT z ∧ gm e = max (gm a) (gm b) then min (gm a) (gm b) else gm e) := by
  obtain ⟨⟨a1, a2, a3, a4, a5, a6, a7, a8, a9, a10, a11, a12, a13, a14, a15⟩, b1, b2, b3, b4, b5⟩ := h
  refine ⟨⟨a1, a2, a3, a4, a5, a6, a7, a8, a9, a10, fun t ht => ?_, fun t ht => lnk_same (z := z) _ rfl rfl (a12 t ht), a13, a14, a15⟩, b1, fun t ht => ?_, fun x y hx hy => ?_, b4, b5⟩
  · show (if t < zT z ∧ zGr z t = zGr z b then zGr z a else zGr z t) < zT z
    split
    · exact a11 a ha
    · exact a11 t ht
  · show (if t < zT z ∧ gm t = max (gm a) (gm b) then min (gm a) (gm b) else gm t) < zT z
    have q1 := b2 a ha
    have q2 := b2 t ht
    split <;> omega
  · show ((if x < zT z ∧ gm x = max (gm a) (gm b) then min (gm a) (gm b) else gm x) = (if y < zT z ∧ gm y = max (gm a) (gm b) then min (gm a) (gm b) else gm y)) ↔ ((if x < zT z ∧ zGr z x = zGr z b then zGr z a else zGr z x) = (if y < zT z ∧ zGr z y = zGr z b then zGr z a else zGr z y))
    have hx : x < zT z := hx
    have hy : y < zT z := hy
    have q1 := b3 a b ha hb
    have q2 := b3 x a hx ha
    have q3 := b3 x b hx hb
    have q4 := b3 y a hy ha
    have q5 := b3 y b hy hb
    have q6 := b3 x y hx hy
    rw [if_an hx, if_an hy, if_an hx, if_an hy]
    exact join_iff hab q1 q2 q3 q4 q5 q6
theorem iv_ins {t j i la : Nat} {kd : Int32} {pre suf : List Nat} (h : iv z ch et mn gm) (ht : t < zT z) (hE : zE z < 200) (hj : j ≤ 1000000) (hi : i ≤ zL z) (hla : la ≤ 1) (hkd : kd = -1 ∨ ∃ q, q < zK z ∧ kd = nI q) (hsp : zSp z j (ch t) pre suf) : (∀ a ∈ pre, a < zE z) ∧ iv (zIns z t (kd, i, j, la, none) pre suf) (fun x => if x = t then pre ++ zE z :: suf else ch x) (fun k => if k = zE z then t else et k) mn gm := by
  obtain ⟨⟨a1, a2, a3, a4, a5, a6, a7, a8, a9, a10, a11, a12, a13, a14, a15⟩, b1, b2, b3, b4, b5⟩ := h
  obtain ⟨s1, s2, s3⟩ := hsp
  obtain ⟨m1, m2⟩ := b5 t ht
  have hlk := a12 t ht
  have hmem : ∀ k ∈ ch t, k < zE z := fun k hk => ((m1 k).mp hk).1
  have hpre : ∀ a ∈ pre, a < zE z := fun k hk => hmem k (by rw [s1]; exact List.mem_append_left _ hk)
  have hsuf : ∀ a ∈ suf, a < zE z := fun k hk => hmem k (by rw [s1]; exact List.mem_append_right _ hk)
  refine ⟨hpre, ?_⟩
  obtain ⟨i1, i2, i3, i4, i5, i6⟩ := zIns_1 (z := z) (t := t) (v := (kd, i, j, la, none)) (pre := pre) (suf := suf)
  have hv := fun k => zIns_v (z := z) (t := t) (v := (kd, i, j, la, none)) (suf := suf) hpre k
  -- the links
  have hL : (∀ x, x < zT z → lnk (zIns z t (kd, i, j, la, none) pre suf) (zLt (zIns z t (kd, i, j, la, none) pre suf) x) (if x = t then pre ++ zE z :: suf else ch x)) ∧ (∀ x, zT z ≤ x → zLt (zIns z t (kd, i, j, la, none) pre suf) x = none) ∧ (∀ k, k < zE z + 1 → ∀ q, eb (zVs (zIns z t (kd, i, j, la, none) pre suf) k) = some q → q < zE z + 1) := by
    have hh : ∀ q, suf.head? = some q → q < zE z := fun q hq => hsuf q (List.mem_of_head? hq)
    unfold zIns
    cases hg : pre.getLast? with
    | none =>
      have hp0 : pre = [] := List.getLast?_eq_none_iff.mp hg
      subst hp0
      have hsame : ∀ k, k < zE z → eb (zVs (uLt (uE (uVs z (zE z) (wB (kd, i, j, la, none) suf.head?)) (zE z + 1)) t (zE z)) k) = eb (zVs z k) := fun k hk => by
        show eb (if k = zE z then wB (kd, i, j, la, none) suf.head? else zVs z k) = _
        rw [if_neg (by omega)]
      have hnew : eb (zVs (uLt (uE (uVs z (zE z) (wB (kd, i, j, la, none) suf.head?)) (zE z + 1)) t (zE z)) (zE z)) = suf.head? := by
        show eb (if zE z = zE z then wB (kd, i, j, la, none) suf.head? else zVs z (zE z)) = _
        rw [if_pos rfl]
        rfl
      refine ⟨fun x hx => ?_, fun x hx => ?_, fun k hk q hq => ?_⟩
      · show lnk _ (if x = t then some (zE z) else zLt z x) _
        by_cases c : x = t
        · rw [if_pos c, if_pos c]
          refine ⟨rfl, Nat.lt_succ_self _, ?_⟩
          have e := hnew
          rw [e]
          refine lnk_cong (z := z) (Nat.le_succ _) suf _ (fun k hk => hsame k (hsuf k hk)) ?_
          rw [s1] at hlk
          exact lnk_tail [] _ suf hlk
        · rw [if_neg c, if_neg c]
          exact lnk_cong (z := z) (Nat.le_succ _) _ _ (fun k hk => hsame k (((b5 x hx).1 k).mp hk).1) (a12 x hx)
      · show (if x = t then some (zE z) else zLt z x) = none
        rw [if_neg (by omega)]
        exact a13 x hx
      · by_cases c : k = zE z
        · rw [c, hnew] at hq
          exact Nat.lt_succ_of_lt (hh q hq)
        · rw [hsame k (by omega)] at hq
          exact Nat.lt_succ_of_lt (a15 k (by omega) q hq)
    | some a =>
      obtain ⟨pr, rfl⟩ : ∃ pr, pre = pr ++ [a] := by
        obtain ⟨pr, h⟩ := List.getLast?_eq_some_iff.mp hg
        exact ⟨pr, h⟩
      have haE : a < zE z := hpre a (by simp)
      have hat : a ∈ ch t := by rw [s1]; simp
      have hsame : ∀ k, k < zE z → k ≠ a → eb (zVs (uVs (uE (uVs z (zE z) (wB (kd, i, j, la, none) suf.head?)) (zE z + 1)) a (wB (zVs z a) (some (zE z)))) k) = eb (zVs z k) := fun k hk hka => by
        show eb (if k = a then wB (zVs z a) (some (zE z)) else if k = zE z then wB (kd, i, j, la, none) suf.head? else zVs z k) = _
        rw [if_neg hka, if_neg (by omega)]
      have hnew : eb (zVs (uVs (uE (uVs z (zE z) (wB (kd, i, j, la, none) suf.head?)) (zE z + 1)) a (wB (zVs z a) (some (zE z)))) (zE z)) = suf.head? := by
        show eb (if zE z = a then wB (zVs z a) (some (zE z)) else if zE z = zE z then wB (kd, i, j, la, none) suf.head? else zVs z (zE z)) = _
        rw [if_neg (by omega), if_pos rfl]
        rfl
      have hna : eb (zVs (uVs (uE (uVs z (zE z) (wB (kd, i, j, la, none) suf.head?)) (zE z + 1)) a (wB (zVs z a) (some (zE z)))) a) = some (zE z) := by
        show eb (if a = a then wB (zVs z a) (some (zE z)) else if a = zE z then wB (kd, i, j, la, none) suf.head? else zVs z a) = _
        rw [if_pos rfl]
        rfl
      have s1' : ch t = pr ++ a :: suf := by rw [s1]; simp
      have hpw := m2
      rw [s1'] at hpw
      obtain ⟨w1, w2, w3⟩ := List.pairwise_append.mp hpw
      obtain ⟨w4, w5⟩ := List.pairwise_cons.mp w2
      have hpra : ∀ k ∈ pr, k ≠ a := fun k hk e => by
        have := w3 k hk a List.mem_cons_self
        rw [e] at this
        omega
      have hsfa : ∀ k ∈ suf, k ≠ a := fun k hk e => by
        have := w4 k hk
        rw [e] at this
        omega
      have hprE : ∀ k ∈ pr, k < zE z := fun k hk => hpre k (List.mem_append_left _ hk)
      refine ⟨fun x hx => ?_, fun x hx => a13 x hx, fun k hk q hq => ?_⟩
      · show lnk _ (zLt z x) _
        by_cases c : x = t
        · rw [if_pos c, c, List.append_assoc]
          rw [s1'] at hlk
          exact lnk_ins (z := z) (Nat.le_succ _) (Nat.lt_succ_self _) hna hnew pr _ (fun k hk => hsame k (hprE k hk) (hpra k hk)) (fun k hk => hsame k (hsuf k hk) (hsfa k hk)) hlk
        · rw [if_neg c]
          refine lnk_cong (z := z) (Nat.le_succ _) _ _ (fun k hk => ?_) (a12 x hx)
          have q1 := ((b5 x hx).1 k).mp hk
          have q2 := (m1 a).mp hat
          refine hsame k q1.1 (fun e => c ?_)
          rw [← q1.2, e, q2.2]
      · by_cases c : k = zE z
        · rw [c, hnew] at hq
          exact Nat.lt_succ_of_lt (hh q hq)
        · by_cases c2 : k = a
          · rw [c2, hna] at hq
            cases hq
            exact Nat.lt_succ_self _
          · rw [hsame k (by omega) c2] at hq
            exact Nat.lt_succ_of_lt (a15 k (by omega) q hq)
  have eK : zK (zIns z t (kd, i, j, la, none) pre suf) = zK z := by show (zIns z t (kd, i, j, la, none) pre suf).1.1 = _; rw [i1]
  have eL : zL (zIns z t (kd, i, j, la, none) pre suf) = zL z := by show (zIns z t (kd, i, j, la, none) pre suf).1.2.1 = _; rw [i1]
  have eT : zT (zIns z t (kd, i, j, la, none) pre suf) = zT z := by show (zIns z t (kd, i, j, la, none) pre suf).1.2.2.1 = _; rw [i1]
  have eE : zE (zIns z t (kd, i, j, la, none) pre suf) = zE z + 1 := by show (zIns z t (kd, i, j, la, none) pre suf).1.2.2.2 = _; rw [i1]
  have hold : ∀ k, k ≠ zE z → eh (zVs (zIns z t (kd, i, j, la, none) pre suf) k) = eh (zVs z k) := fun k hk => by rw [(hv k).2.2.1, if_neg hk]
  have hnw : eh (zVs (zIns z t (kd, i, j, la, none) pre suf) (zE z)) = j := by rw [(hv _).2.2.1, if_pos rfl]
  unfold iv zOk yOk
  rw [eK, eL, eT, eE, i2, i3, i4, i5, i6]
  refine ⟨⟨a1, a2, a3, a4, a5, hE, a7, a8, a9, a10, a11, hL.1, hL.2.1, fun k hk => ?_, hL.2.2⟩, b1, b2, b3, fun k hk => ?_, fun x hx => ⟨fun k => ?_, ?_⟩⟩
  · obtain ⟨v1, v2, v3, v4⟩ := hv k
    rw [v1, v2, v3, v4]
    by_cases c : k = zE z
    · rw [if_pos c]
      exact ⟨hj, hi, hla, hkd⟩
    · rw [if_neg c]
      exact a14 k (by omega)
  · show (if k = zE z then t else et k) < zT z
    split
    · exact ht
    · exact b4 k (by omega)
  · show k ∈ (if x = t then pre ++ zE z :: suf else ch x) ↔ k < zE z + 1 ∧ (if k = zE z then t else et k) = x
    by_cases c : x = t
    · rw [if_pos c]
      have q := m1 k
      rw [s1, List.mem_append] at q
      rw [List.mem_append, List.mem_cons]
      by_cases c2 : k = zE z
      · rw [if_pos c2]
        exact ⟨fun _ => ⟨by omega, c.symm⟩, fun _ => Or.inr (Or.inl c2)⟩
      · rw [if_neg c2, c]
        constructor
        · intro hm
          have := q.mp (by
            rcases hm with m | m | m
            · exact Or.inl m
            · exact absurd m c2
            · exact Or.inr m)
          exact ⟨by omega, this.2⟩
        · intro hm
          rcases q.mpr ⟨by omega, hm.2⟩ with m | m
          · exact Or.inl m
          · exact Or.inr (Or.inr m)
    · rw [if_neg c, (b5 x hx).1 k]
      by_cases c2 : k = zE z
      · rw [if_pos c2]
        constructor
        · intro hm
          omega
        · intro hm
          exact absurd hm.2.symm c
      · rw [if_neg c2]
        constructor
        · intro hm
          exact ⟨by omega, hm.2⟩
        · intro hm
          exact ⟨by omega, hm.2⟩
  · have hpw : ∀ l : List Nat, (∀ k ∈ l, k < zE z) → l.Pairwise (fun a b => eh (zVs z b) < eh (zVs z a) ∨ (eh (zVs z b) = eh (zVs z a) ∧ b < a)) → l.Pairwise (fun a b => eh (zVs (zIns z t (kd, i, j, la, none) pre suf) b) < eh (zVs (zIns z t (kd, i, j, la, none) pre suf) a) ∨ (eh (zVs (zIns z t (kd, i, j, la, none) pre suf) b) = eh (zVs (zIns z t (kd, i, j, la, none) pre suf) a) ∧ b < a)) := fun l hl hq =>
      List.Pairwise.imp_of_mem (fun {a b} ha hb h => by
        have qa := hl a ha
        have qb := hl b hb
        rw [hold a (by omega), hold b (by omega)]
        exact h) hq
    show (if x = t then pre ++ zE z :: suf else ch x).Pairwise _
    by_cases c : x = t
    · rw [if_pos c]
      have m2' := m2
      rw [s1] at m2'
      obtain ⟨w1, w2, w3⟩ := List.pairwise_append.mp m2'
      refine List.pairwise_append.mpr ⟨hpw pre hpre w1, List.pairwise_cons.mpr ⟨fun b hb => ?_, hpw suf hsuf w2⟩, fun a ha b hb => ?_⟩
      · have hbE := hsuf b hb
        rw [hold b (by omega), hnw]
        have hbj : eh (zVs z b) ≤ j := by
          cases hs : suf with
          | nil => rw [hs] at hb; exact absurd hb List.not_mem_nil
          | cons k ks =>
            have hk0 := s3 k ks hs
            rw [hs] at hb w2
            rcases List.mem_cons.mp hb with e | e
            · rw [e]; exact hk0
            · have := (List.pairwise_cons.mp w2).1 b e
              omega
        omega
      · have haE := hpre a ha
        have haj := s2 a ha
        rcases List.mem_cons.mp hb with e | e
        · rw [e, hnw, hold a (by omega)]
          omega
        · have hbE := hsuf b e
          rw [hold b (by omega), hold a (by omega)]
          exact w3 a ha b e
    · rw [if_neg c]
      exact hpw (ch x) (fun k hk => (((b5 x hx).1 k).mp hk).1) (b5 x hx).2
end IV
