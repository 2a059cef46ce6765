theorem yCt_y {z : zS} {et : Nat → Nat} {t h n : Nat} (q : et n = t ∧ (eh (zVs z n) ≤ h ∧ ei (zVs z n) ≠ -1) ∧ (∀ b, yCt z et t h n = some b → eh (zVs z b) ≤ eh (zVs z n))) : yCt z et t h (n + 1) = some n := if_pos q
theorem yCt_n {z : zS} {et : Nat → Nat} {t h n : Nat} (q : ¬ (et n = t ∧ (eh (zVs z n) ≤ h ∧ ei (zVs z n) ≠ -1) ∧ (∀ b, yCt z et t h n = some b → eh (zVs z b) ≤ eh (zVs z n)))) : yCt z et t h (n + 1) = yCt z et t h n := if_neg q
theorem yCt_spec {z : zS} {et : Nat → Nat} {t h : Nat} : ∀ n, lkS z h (fun k => k < n ∧ et k = t) (yCt z et t h n)
  | 0 => fun k hk => absurd hk.1 (Nat.not_lt_zero _)
  | n + 1 => by
    have ih := yCt_spec (z := z) (et := et) (t := t) (h := h) n
    by_cases q : et n = t ∧ (eh (zVs z n) ≤ h ∧ ei (zVs z n) ≠ -1) ∧ (∀ b, yCt z et t h n = some b → eh (zVs z b) ≤ eh (zVs z n))
    · rw [yCt_y q]
      refine ⟨⟨Nat.lt_succ_self n, q.1⟩, q.2.1, fun k hk hc hne => ?_⟩
      have hkn : k < n := by omega
      cases ho : yCt z et t h n with
      | none => rw [ho] at ih; exact absurd hc (ih k ⟨hkn, hk.2⟩)
      | some b =>
        have hb := q.2.2 b ho
        rw [ho] at ih
        by_cases e : k = b
        · subst e
          unfold zAfter
          omega
        · have := ih.2.2 k ⟨hkn, hk.2⟩ hc e
          unfold zAfter at this ⊢
          omega
    · rw [yCt_n q]
      cases ho : yCt z et t h n with
      | none =>
        rw [ho] at ih
        intro k hk hc
        by_cases e : k = n
        · subst e
          exact q ⟨hk.2, hc, fun b hb => by rw [ho] at hb; cases hb⟩
        · exact ih k ⟨by omega, hk.2⟩ hc
      | some b =>
        rw [ho] at ih
        refine ⟨⟨by have := ih.1.1; omega, ih.1.2⟩, ih.2.1, fun k hk hc hne => ?_⟩
        by_cases e : k = n
        · subst e
          have : ¬ eh (zVs z b) ≤ eh (zVs z k) := fun q1 => q ⟨hk.2, hc, fun b' hb' => by rw [ho] at hb'; cases hb'; exact q1⟩
          unfold zAfter
          omega
        · exact ih.2.2 k ⟨by omega, hk.2⟩ hc hne
/-- the reference finds what the chain has first -/
theorem yCt_eq {z : zS} {ch : Nat → List Nat} {et : Nat → Nat} {mn : Nat → Int32} {gm : Nat → Nat} (hy : yOk z ch et mn gm) {t : Nat} (ht : t < zT z) (h : Nat) : yCt z et t h (zE z) = zLK z h (ch t) := by
  obtain ⟨h1, h2⟩ := hy.2.2.2.2 t ht
  exact lkS_uniq (fun k => (h1 k).symm) (yCt_spec (zE z)) (zLK_spec (ch t) h2)
theorem zLK_mem {z : zS} {h a : Nat} : ∀ (l : List Nat), zLK z h l = some a → a ∈ l
  | [], q => by cases q
  | k :: ks, q => by
    by_cases c : zCt z h k
    · rw [zLK_y c] at q
      cases q
      exact List.mem_cons_self
    · rw [zLK_n c] at q
      exact List.mem_cons_of_mem _ (zLK_mem ks q)
theorem zLeft_ge {la : Nat → Nat} {g l : Nat} (hg : g < la l) : ∀ n, l ≤ n → l ≤ zLeft la g n
  | 0, h => by omega
  | n + 1, h => by
    unfold zLeft
    split
    · exact h
    · rename_i q
      by_cases e : l = n + 1
      · subst e
        exact absurd hg q
      · exact zLeft_ge hg n (by omega)
theorem zLeft_ok {la : Nat → Nat} {g : Nat} : ∀ n, 0 < zLeft la g n → g < la (zLeft la g n)
  | 0, h => by exact absurd h (Nat.lt_irrefl 0)
  | n + 1, h => by
    by_cases q : g < la (n + 1)
    · have e : zLeft la g (n + 1) = n + 1 := if_pos q
      rw [e]
      exact q
    · have e : zLeft la g (n + 1) = zLeft la g n := if_neg q
      rw [e] at h ⊢
      exact zLeft_ok n h
/-- a cleaning that counts -/
def zCl (z : zS) (h : Nat) (o : Option Nat) (k : Nat) : Prop := ei (zVs z k) = -1 ∧ eh (zVs z k) ≤ h ∧ zAf z k o
theorem zOwn_spec {z : zS} {st h : Nat} : ∀ (l : List Nat) (g : Nat), l.Pairwise (zAfter z) → g ≤ zOwn z st h l g ∧ (∀ k, k ∈ l → zCl z h (zLK z h l) k → zLeft (zLa z st) (h - eh (zVs z k)) (el (zVs z k)) ≤ zOwn z st h l g) ∧ (zOwn z st h l g = g ∨ ∃ k, k ∈ l ∧ zCl z h (zLK z h l) k ∧ zOwn z st h l g = zLeft (zLa z st) (h - eh (zVs z k)) (el (zVs z k)))
  | [], g, _ => ⟨Nat.le_refl _, fun k hk => absurd hk List.not_mem_nil, Or.inl rfl⟩
  | k :: ks, g, hp => by
    obtain ⟨h1, h2⟩ := List.pairwise_cons.mp hp
    by_cases c : eh (zVs z k) ≤ h
    · by_cases c2 : ei (zVs z k) = -1
      · have hn : ¬ zCt z h k := fun q => q.2 c2
        rw [zOwn_cl c c2, zLK_n hn]
        obtain ⟨i1, i2, i3⟩ := zOwn_spec (z := z) (st := st) (h := h) ks (max g (zLeft (zLa z st) (h - eh (zVs z k)) (el (zVs z k)))) h2
        have hkc : zCl z h (zLK z h ks) k := by
          refine ⟨c2, c, ?_⟩
          cases ho : zLK z h ks with
          | none => trivial
          | some a => exact h1 a (zLK_mem ks ho)
        refine ⟨by omega, fun x hx hc => ?_, ?_⟩
        · rcases List.mem_cons.mp hx with q | q
          · rw [q]; omega
          · exact i2 x q hc
        · rcases i3 with q | ⟨x, q1, q2, q3⟩
          · rcases Nat.le_total g (zLeft (zLa z st) (h - eh (zVs z k)) (el (zVs z k))) with m | m
            · refine Or.inr ⟨k, List.mem_cons_self, hkc, ?_⟩
              rw [q, Nat.max_eq_right m]
            · refine Or.inl ?_
              rw [q, Nat.max_eq_left m]
          · exact Or.inr ⟨x, List.mem_cons_of_mem _ q1, q2, q3⟩
      · have hy : zCt z h k := ⟨c, c2⟩
        rw [zOwn_co c c2, zLK_y hy]
        refine ⟨Nat.le_refl _, fun x hx hc => ?_, Or.inl rfl⟩
        have ha : zAfter z x k := hc.2.2
        rcases List.mem_cons.mp hx with q | q
        · rw [q] at ha
          unfold zAfter at ha
          omega
        · have hb := h1 x q
          unfold zAfter at ha hb
          omega
    · have hn : ¬ zCt z h k := fun q => c q.1
      rw [zOwn_hi c, zLK_n hn]
      obtain ⟨i1, i2, i3⟩ := zOwn_spec (z := z) (st := st) (h := h) ks g h2
      refine ⟨i1, fun x hx hc => ?_, ?_⟩
      · rcases List.mem_cons.mp hx with q | q
        · rw [q] at hc; exact absurd hc.2.1 c
        · exact i2 x q hc
      · rcases i3 with q | ⟨x, q1, q2, q3⟩
        · exact Or.inl q
        · exact Or.inr ⟨x, List.mem_cons_of_mem _ q1, q2, q3⟩
/-- the reference's 'holds' -/
def yHo (z : zS) (et : Nat → Nat) (st t lv h : Nat) (o : Option Nat) : Prop := ∃ k, k < zE z ∧ et k = t ∧ ei (zVs z k) = -1 ∧ lv ≤ el (zVs z k) ∧ eh (zVs z k) ≤ h ∧ zAf z k o ∧ h - eh (zVs z k) < zLa z st lv
/-- the level of a thing is the greatest that it holds -/
theorem zOwn_is {z : zS} {ch : Nat → List Nat} {et : Nat → Nat} {mn : Nat → Int32} {gm : Nat → Nat} (hy : yOk z ch et mn gm) {t : Nat} (ht : t < zT z) (st h lv : Nat) (h1 : lv = 0 ∨ yHo z et st t lv h (zLK z h (ch t))) (h2 : ∀ l, lv < l → l ≤ zL z → ¬ yHo z et st t l h (zLK z h (ch t))) (h3 : ∀ k, k < zE z → el (zVs z k) ≤ zL z) : zOwn z st h (ch t) 0 = lv := by
  obtain ⟨m1, m2⟩ := hy.2.2.2.2 t ht
  obtain ⟨i1, i2, i3⟩ := zOwn_spec (z := z) (st := st) (h := h) (ch t) 0 m2
  have hle : lv ≤ zOwn z st h (ch t) 0 := by
    rcases h1 with q | ⟨k, k1, k2, k3, k4, k5, k6, k7⟩
    · omega
    · exact Nat.le_trans (zLeft_ge k7 _ k4) (i2 k ((m1 k).mpr ⟨k1, k2⟩) ⟨k3, k5, k6⟩)
  rcases i3 with q | ⟨k, k1, k2, k3⟩
  · omega
  · by_cases e : zOwn z st h (ch t) 0 = lv
    · exact e
    · have hk := (m1 k).mp k1
      have hle2 := zLeft_le (zLa z st) (h - eh (zVs z k)) (el (zVs z k))
      have hok := zLeft_ok (la := zLa z st) (g := h - eh (zVs z k)) (el (zVs z k)) (by omega)
      have h3k := h3 k hk.1
      rw [← k3] at hok hle2
      exact absurd ⟨k, hk.1, hk.2, k2.1, hle2, k2.2.1, k2.2.2, hok⟩ (h2 _ (by omega) (by omega))
/-- things of one group are in one state -/
theorem zState_same {z : zS} {t e : Nat} (ht : t < zT z) (he : e < zT z) (hs : zGr z e = zGr z t) : zState z e = zState z t := by
  by_cases q : ∃ x, x < zT z ∧ x ≠ t ∧ zGr z x = zGr z t
  · obtain ⟨x, x1, x2, x3⟩ := q
    rw [zState_1 x1 x2 x3]
    by_cases c : x = e
    · subst c
      exact zState_1 ht (fun q => x2 q.symm) x3.symm
    · exact zState_1 x1 c (by rw [x3, hs])
  · rw [zState_0 (fun x hx h => q ⟨x, hx, h.1, h.2⟩)]
    have het : e = t := Classical.byContradiction fun h => q ⟨e, he, h, hs⟩
    subst het
    exact zState_0 (fun x hx h => q ⟨x, hx, h.1, h.2⟩)
def yCn (gm : Nat → Nat) (t : Nat) : Nat → Nat
  | 0 => 0
  | n + 1 => yCn gm t n + (if gm n = gm t then 1 else 0)
theorem yCn_le (gm : Nat → Nat) (t : Nat) : ∀ n, yCn gm t n ≤ n
  | 0 => Nat.le_refl _
  | n + 1 => by
    have := yCn_le gm t n
    unfold yCn
    split <;> omega
theorem yCn_c {gm : Nat → Nat} {t : Nat} : ∀ n, (n ≤ t → (1 ≤ yCn gm t n ↔ ∃ x, x < n ∧ gm x = gm t)) ∧ (t < n → 1 ≤ yCn gm t n ∧ (2 ≤ yCn gm t n ↔ ∃ x, x < n ∧ x ≠ t ∧ gm x = gm t))
  | 0 => ⟨fun _ => ⟨fun q => absurd q (by unfold yCn; omega), fun ⟨x, hx, _⟩ => absurd hx (Nat.not_lt_zero _)⟩, fun q => absurd q (Nat.not_lt_zero _)⟩
  | n + 1 => by
    obtain ⟨i1, i2⟩ := yCn_c (gm := gm) (t := t) n
    have e : yCn gm t (n + 1) = yCn gm t n + (if gm n = gm t then 1 else 0) := rfl
    refine ⟨fun q => ?_, fun q => ?_⟩
    · have i := i1 (by omega)
      rw [e]
      by_cases c : gm n = gm t
      · rw [if_pos c]
        exact ⟨fun _ => ⟨n, Nat.lt_succ_self n, c⟩, fun _ => by omega⟩
      · rw [if_neg c, Nat.add_zero, i]
        exact ⟨fun ⟨x, x1, x2⟩ => ⟨x, by omega, x2⟩, fun ⟨x, x1, x2⟩ => ⟨x, by
          rcases Nat.lt_or_ge x n with h | h
          · exact h
          · exact absurd (by rw [show n = x by omega]; exact x2) c, x2⟩⟩
    · rw [e]
      by_cases c0 : n = t
      · subst c0
        have i := i1 (Nat.le_refl _)
        rw [if_pos rfl]
        refine ⟨by omega, ⟨fun q => ?_, fun ⟨x, x1, x2, x3⟩ => ?_⟩⟩
        · obtain ⟨x, x1, x2⟩ := i.mp (by omega)
          exact ⟨x, by omega, by omega, x2⟩
        · have := i.mpr ⟨x, by omega, x3⟩
          omega
      · obtain ⟨j1, j2⟩ := i2 (by omega)
        by_cases c : gm n = gm t
        · rw [if_pos c]
          exact ⟨by omega, ⟨fun _ => ⟨n, Nat.lt_succ_self n, c0, c⟩, fun _ => by omega⟩⟩
        · rw [if_neg c, Nat.add_zero]
          refine ⟨j1, ⟨fun q => ?_, fun ⟨x, x1, x2, x3⟩ => ?_⟩⟩
          · obtain ⟨x, x1, x2, x3⟩ := j2.mp q
            exact ⟨x, by omega, x2, x3⟩
          · refine j2.mpr ⟨x, ?_, x2, x3⟩
            rcases Nat.lt_or_ge x n with h | h
            · exact h
            · exact absurd (by rw [show n = x by omega]; exact x3) c
theorem yCn_st {z : zS} {ch : Nat → List Nat} {et : Nat → Nat} {mn : Nat → Int32} {gm : Nat → Nat} (hy : yOk z ch et mn gm) {t : Nat} (ht : t < zT z) : (if 1 < yCn gm t (zT z) then 1 else 0) = zState z t := by
  have i := ((yCn_c (gm := gm) (t := t) (zT z)).2 ht).2
  by_cases c : 1 < yCn gm t (zT z)
  · obtain ⟨x, x1, x2, x3⟩ := i.mp c
    rw [if_pos c, zState_1 x1 x2 ((hy.2.2.1 x t x1 ht).mp x3)]
  · rw [if_neg c, zState_0 (fun x hx h => c (i.mpr ⟨x, hx, h.1, (hy.2.2.1 x t hx ht).mpr h.2⟩))]
def oI : Option Nat → Int32
  | none => -1
  | some n => nI n
/-- the last content's kind out of the last content -/
theorem zLO_K {z : zS} {h : Nat} : ∀ (l : List Nat), zLO z h l = (zLK z h l).map (fun k => (ei (zVs z k)).toNatClampNeg)
  | [] => rfl
  | k :: ks => by
    by_cases c : zCt z h k
    · rw [zLK_y c]
      exact if_pos c
    · rw [zLK_n c, ← zLO_K ks]
      exact if_neg c
