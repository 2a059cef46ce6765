/-! THE HEAP BY ROLES: 'C r' is what the cell of role r holds (none: no such cell), 'ad r' its address. Addresses of roles are apart, and all of them lie from lo on. A write changes C at one role; a making takes a role that was free. -/
def mh (D : va_G) (cl : List vw_C) (lo : Nat) (ad : Nat → Nat) (C : Nat → Option va_E) (H : Heap) : Prop :=
  (∀ (r : Nat) (e : va_E), C r = some e → lo ≤ ad r ∧ va_at D cl (ad r, e) H) ∧ (∀ r1 r2 : Nat, C r1 ≠ none → C r2 ≠ none → ad r1 = ad r2 → r1 = r2)
theorem mh_ap {ws : va_W} {x : Nat × va_E} (q0 : Nat) (q : Nat × va_E) (hq : (ws ++ [x])[q0]? = some q) : (q0 < ws.length ∧ ws[q0]? = some q) ∨ (q0 = ws.length ∧ q = x) := by
  by_cases hl : q0 < ws.length
  · rw [List.getElem?_append_left hl] at hq
    exact Or.inl ⟨hl, hq⟩
  · rw [List.getElem?_append_right (by omega)] at hq
    have hz : q0 - ws.length < 1 := (List.getElem?_eq_some_iff.mp hq).1
    rw [show q0 - ws.length = 0 by omega] at hq
    exact Or.inr ⟨by omega, by simpa using hq.symm⟩
theorem mh_enum {ad : Nat → Nat} {C : Nat → Option va_E} (inj : ∀ r1 r2 : Nat, C r1 ≠ none → C r2 ≠ none → ad r1 = ad r2 → r1 = r2) : ∀ n : Nat, ∃ ws : va_W,
    (∀ (r : Nat) (e : va_E), C r = some e → ad r < n → ∃ q0 : Nat, ws[q0]? = some (ad r, e)) ∧
    (∀ (q0 : Nat) (q : Nat × va_E), ws[q0]? = some q → q.1 < n ∧ ∃ r : Nat, C r = some q.2 ∧ q.1 = ad r) ∧
    (∀ (i j : Nat) (p q : Nat × va_E), ws[i]? = some p → ws[j]? = some q → p.1 = q.1 → i = j) := by
  intro n
  induction n with
  | zero => exact ⟨[], fun r e _ h => absurd h (Nat.not_lt_zero _), fun q0 q h => by simp at h, fun i j p q h => by simp at h⟩
  | succ n ih =>
    obtain ⟨ws, h1, h2, h3⟩ := ih
    by_cases hx : ∃ (r : Nat) (e : va_E), C r = some e ∧ ad r = n
    · obtain ⟨r, e, hr, hn⟩ := hx
      refine ⟨ws ++ [(n, e)], ?_, ?_, ?_⟩
      · intro r' e' hr' hlt
        by_cases hl : ad r' < n
        · obtain ⟨q0, hq0⟩ := h1 r' e' hr' hl
          exact ⟨q0, by rw [List.getElem?_append_left (List.getElem?_eq_some_iff.mp hq0).1]; exact hq0⟩
        · have e1 : ad r' = ad r := by omega
          have e2 := inj r' r (by rw [hr']; simp) (by rw [hr]; simp) e1
          subst e2
          rw [hr] at hr'
          cases hr'
          exact ⟨ws.length, by rw [List.getElem?_append_right (Nat.le_refl _)]; simp [hn]⟩
      · intro q0 q hq
        rcases mh_ap q0 q hq with ⟨hl, h⟩ | ⟨hl, h⟩
        · obtain ⟨g1, g2⟩ := h2 q0 q h
          exact ⟨by omega, g2⟩
        · subst h
          exact ⟨Nat.lt_succ_self n, r, hr, hn.symm⟩
      · intro i j p q hp hq hpq
        rcases mh_ap i p hp with ⟨hi, a1⟩ | ⟨hi, a1⟩ <;> rcases mh_ap j q hq with ⟨hj, b1⟩ | ⟨hj, b1⟩
        · exact h3 i j p q a1 b1 hpq
        · have hz := (h2 i p a1).1
          subst b1
          dsimp only at hpq
          omega
        · have hz := (h2 j q b1).1
          subst a1
          dsimp only at hpq
          omega
        · omega
    · refine ⟨ws, ?_, ?_, h3⟩
      · intro r e hr hlt
        refine h1 r e hr ?_
        rcases Nat.lt_or_ge (ad r) n with h | h
        · exact h
        · exact absurd ⟨r, e, hr, by omega⟩ hx
      · intro q0 q hq
        obtain ⟨g1, g2⟩ := h2 q0 q hq
        exact ⟨by omega, g2⟩
/-- the world as a list, for the kit's rows -/
theorem mh_open {D : va_G} {cl : List vw_C} {lo : Nat} {ad : Nat → Nat} {C : Nat → Option va_E} {H : Heap} (h : mh D cl lo ad C H) : ∃ ws : va_W, va_P D cl ws H ∧ va_D (fun q => lo ≤ q) ws ∧
    (∀ (r : Nat) (e : va_E), C r = some e → ∃ q0 : Nat, ws[q0]? = some (ad r, e)) ∧ (∀ (q0 : Nat) (q : Nat × va_E), ws[q0]? = some q → ∃ r : Nat, C r = some q.2 ∧ q.1 = ad r) := by
  obtain ⟨ws, h1, h2, h3⟩ := mh_enum h.2 H.size
  refine ⟨ws, fun k q hk => ?_, ⟨h3, fun k q hk => ?_⟩, fun r e hr => h1 r e hr (h.1 r e hr).2.lt, fun q0 q hq => (h2 q0 q hq).2⟩
  · obtain ⟨-, r, hr, he⟩ := h2 k q hk
    have := (h.1 r _ hr).2
    rw [← he] at this
    exact this
  · obtain ⟨-, r, hr, he⟩ := h2 k q hk
    rw [he]
    exact (h.1 r _ hr).1
theorem mh_at {D : va_G} {cl : List vw_C} {lo : Nat} {ad : Nat → Nat} {C : Nat → Option va_E} {H : Heap} (h : mh D cl lo ad C H) {r : Nat} {e : va_E} (he : C r = some e) : va_P D cl [(ad r, e)] H := by
  intro k q hk
  have hz : k < 1 := (List.getElem?_eq_some_iff.mp hk).1
  rw [show k = 0 by omega] at hk
  cases hk
  exact (h.1 r e he).2
theorem mh_set {D : va_G} {cl : List vw_C} {lo : Nat} {ad : Nat → Nat} {C : Nat → Option va_E} {H H1 : Heap} (h : mh D cl lo ad C H) {ws : va_W} (hin : ∀ (r : Nat) (e : va_E), C r = some e → ∃ q0 : Nat, ws[q0]? = some (ad r, e)) {r q0 : Nat} {e0 e : va_E} (he : C r = some e0) (hq : ws[q0]? = some (ad r, e0)) (hP : va_P D cl (ws.set q0 (ad r, e)) H1) : mh D cl lo ad (va_up C r (some e)) H1 := by
  have hn : ∀ r', va_up C r (some e) r' ≠ none → C r' ≠ none := by
    intro r' hr'
    by_cases hrr : r' = r
    · subst hrr
      rw [he]
      simp
    · rwa [va_up_ne _ _ hrr] at hr'
  refine ⟨fun r' e' hr' => ?_, fun r1 r2 h1 h2 => h.2 r1 r2 (hn r1 h1) (hn r2 h2)⟩
  by_cases hrr : r' = r
  · subst hrr
    rw [va_up_self] at hr'
    cases hr'
    refine ⟨(h.1 r' e0 he).1, hP q0 _ ?_⟩
    rw [List.getElem?_set_self (List.getElem?_eq_some_iff.mp hq).1]
  · rw [va_up_ne _ _ hrr] at hr'
    refine ⟨(h.1 r' e' hr').1, ?_⟩
    obtain ⟨q1, hq1⟩ := hin r' e' hr'
    refine hP q1 _ ?_
    rw [List.getElem?_set_ne]
    · exact hq1
    · intro hqq
      subst hqq
      rw [hq] at hq1
      have e1 : ad r = ad r' := congrArg Prod.fst (Option.some.inj hq1)
      exact hrr (h.2 r' r (by rw [hr']; simp) (by rw [he]; simp) e1.symm)
theorem mh_add {D : va_G} {cl : List vw_C} {lo : Nat} {ad : Nat → Nat} {C : Nat → Option va_E} {H H1 : Heap} (h : mh D cl lo ad C H) {ws : va_W} (hin : ∀ (r : Nat) (e : va_E), C r = some e → ∃ q0 : Nat, ws[q0]? = some (ad r, e)) {r q : Nat} {e : va_E} (he : C r = none) (hP : va_P D cl (ws ++ [(q, e)]) H1) (hD : va_D (fun q => lo ≤ q) (ws ++ [(q, e)])) : mh D cl lo (va_up ad r q) (va_up C r (some e)) H1 := by
  have hlast : (ws ++ [(q, e)])[ws.length]? = some (q, e) := by
    rw [List.getElem?_append_right (Nat.le_refl _)]
    simp
  have hold : ∀ (r' : Nat) (e' : va_E), C r' = some e' → ∃ q1 : Nat, q1 < ws.length ∧ (ws ++ [(q, e)])[q1]? = some (ad r', e') := by
    intro r' e' hr'
    obtain ⟨q1, hq1⟩ := hin r' e' hr'
    have hlt := (List.getElem?_eq_some_iff.mp hq1).1
    exact ⟨q1, hlt, by rw [List.getElem?_append_left hlt]; exact hq1⟩
  have hne : ∀ r', C r' ≠ none → ad r' ≠ q := by
    intro r' hr' hq'
    cases hc : C r' with
    | none => exact hr' hc
    | some e' =>
      obtain ⟨q1, hlt, hq1⟩ := hold r' e' hc
      have := hD.1 q1 ws.length _ _ hq1 hlast hq'
      omega
  refine ⟨fun r' e' hr' => ?_, fun r1 r2 h1 h2 h3 => ?_⟩
  · by_cases hrr : r' = r
    · subst hrr
      rw [va_up_self] at hr' ⊢
      cases hr'
      exact ⟨hD.2 ws.length _ hlast, hP ws.length _ hlast⟩
    · rw [va_up_ne _ _ hrr] at hr' ⊢
      obtain ⟨q1, hlt, hq1⟩ := hold r' e' hr'
      exact ⟨(h.1 r' e' hr').1, hP q1 _ hq1⟩
  · by_cases e1 : r1 = r <;> by_cases e2 : r2 = r
    · rw [e1, e2]
    · subst e1
      rw [va_up_ne _ _ e2] at h2
      rw [va_up_self, va_up_ne _ _ e2] at h3
      exact absurd h3.symm (hne r2 h2)
    · subst e2
      rw [va_up_ne _ _ e1] at h1
      rw [va_up_self, va_up_ne _ _ e1] at h3
      exact absurd h3 (hne r1 h1)
    · rw [va_up_ne _ _ e1] at h1
      rw [va_up_ne _ _ e2] at h2
      rw [va_up_ne _ _ e1, va_up_ne _ _ e2] at h3
      exact h.2 r1 r2 h1 h2 h3
/-- another way to write the same picture -/
theorem mh_to {D : va_G} {cl : List vw_C} {lo : Nat} {ad ad' : Nat → Nat} {C C' : Nat → Option va_E} {H : Heap} (h : mh D cl lo ad C H) (ha : ∀ r, C' r ≠ none → ad' r = ad r) (hC : ∀ r, C' r ≠ none → C' r = C r) : mh D cl lo ad' C' H := by
  refine ⟨fun r e hr => ?_, fun r1 r2 h1 h2 h3 => ?_⟩
  · have hn : C' r ≠ none := by rw [hr]; simp
    rw [ha r hn]
    exact h.1 r e (by rw [← hC r hn]; exact hr)
  · rw [ha r1 h1, ha r2 h2] at h3
    exact h.2 r1 r2 (by rw [← hC r1 h1]; exact h1) (by rw [← hC r2 h2]; exact h2) h3
theorem mh_eq {D : va_G} {cl : List vw_C} {lo : Nat} {ad : Nat → Nat} {C C' : Nat → Option va_E} {H : Heap} (h : mh D cl lo ad C H) (hC : ∀ r, C' r = C r) : mh D cl lo ad C' H := by
  rw [show C' = C from funext hC]
  exact h
section MHW
variable {p : Program} {l : Launch} {e : Env} {R : Room} {s : State} {m : MethodId} {args : Array Value} {below : List Frame} {meth : Method} {c : Code} {H : Heap} {locs : List Loc} {cells slots : Nat} {Q : State → Prop}
variable {cc : ByteArray} {pc : Nat} {ls : Array Slot} {rest : List Value} {D : va_G} {cl : List vw_C} {lo : Nat} {ad : Nat → Nat} {C : Nat → Option va_E} {tys : List (ClassId × FieldType)} {H0 : Heap}
theorem mh_get (hexec : p.tables.exec = Jvm.exec) (hb : c.code = cc) {own ref Cn : String} {T : u_T} {N ci index : Nat} {Ts : List Cond} (hts : ∀ w ∈ Ts, w.before args s = true) (hin : ∀ w ∈ u_ws Cn T N, w ∈ Ts) (hown : s.vm.findClass own = some m.cls) (hK : va_K D cl tys s) (hP : mh D cl lo ad C H) (r : Nat) {fs : List Value} (he : C r = some (.inr (ci, fs))) (hc : cl[ci]? = some (Cn, T, N)) (k : Nat) (hk : k < N) (hlink : (Cond.fieldLink own index ref (T k).2.1 (T k).2.2.1).before args s = true) (hsame : ∀ x, s.fieldFound? (T k).1 (T k).2.1 (T k).2.2.1 = some x → s.fieldFound? ref (T k).2.1 (T k).2.2.1 = some x) {v : Value} (hv : fs[k]? = some v) (hdg : decode cc pc = .ok (.getfield index, 3))
    (kk : W p l e R s m args below meth c H locs cells slots Q (F0 m (pc + 3) ls (v :: rest))) : W p l e R s m args below meth c H locs cells slots Q (F0 m pc ls (.ref (ad r) :: rest)) :=
  va_get hexec hb hts hin hown hK (mh_at hP he) 0 rfl hc k hk hlink hsame hv hdg kk
theorem mh_getN (hexec : p.tables.exec = Jvm.exec) (hb : c.code = cc) {own ref Cn host : String} {T : u_T} {N ci index : Nat} {Ts : List Cond} (hts : ∀ w ∈ Ts, w.before args s = true) (hin : ∀ w ∈ u_ws Cn T N, w ∈ Ts) (hown : s.vm.findClass own = some m.cls) (hK : va_K D cl tys s) (hP : mh D cl lo ad C H) (r : Nat) {fs : List Value} (he : C r = some (.inr (ci, fs))) (hc : cl[ci]? = some (Cn, T, N)) (k : Nat) (hk : k < N) (hlink : (Cond.fieldLinkNest own index ref (T k).2.1 (T k).2.2.1 host).before args s = true) (hsame : ∀ x, s.fieldFound? (T k).1 (T k).2.1 (T k).2.2.1 = some x → s.fieldFound? ref (T k).2.1 (T k).2.2.1 = some x) {v : Value} (hv : fs[k]? = some v) (hdg : decode cc pc = .ok (.getfield index, 3))
    (kk : W p l e R s m args below meth c H locs cells slots Q (F0 m (pc + 3) ls (v :: rest))) : W p l e R s m args below meth c H locs cells slots Q (F0 m pc ls (.ref (ad r) :: rest)) :=
  va_getN hexec hb hts hin hown hK (mh_at hP he) 0 rfl hc k hk hlink hsame hv hdg kk
theorem mh_put (hexec : p.tables.exec = Jvm.exec) (hb : c.code = cc) {own ref Cn : String} {T : u_T} {N ci index : Nat} {Ts : List Cond} (hts : ∀ w ∈ Ts, w.before args s = true) (hin : ∀ w ∈ u_ws Cn T N, w ∈ Ts) (ty0 : Nat → FieldType) (hty : ∀ k, k < N → parseFieldDescriptor (T k).2.2.1 = some (ty0 k)) (hnm : ∀ a, a < N → ∀ b, b < N → a ≠ b → (T a).2.1 ≠ (T b).2.1) (hown : s.vm.findClass own = some m.cls) (hK : va_K D cl tys s) (hP : mh D cl lo ad C H) (hS0 : va_S (fun q => lo ≤ q) H0 H locs) (r : Nat) {fs : List Value} (he : C r = some (.inr (ci, fs))) (hc : cl[ci]? = some (Cn, T, N)) (k : Nat) (hk : k < N) (hlink : (Cond.fieldLink own index ref (T k).2.1 (T k).2.2.1).before args s = true) (hsame : ∀ x, s.fieldFound? (T k).1 (T k).2.1 (T k).2.2.1 = some x → s.fieldFound? ref (T k).2.1 (T k).2.2.1 = some x) (hfin : (T k).2.2.2 = false) {ty : FieldType} {v : Value} (hd : parseFieldDescriptor (T k).2.2.1 = some ty) (hn : narrow ty v = v) (hfit : fits ty v = true) (hl : k < fs.length)
    (hdg : decode cc pc = .ok (.putfield index, 3)) (kk : ∀ (H1 : Heap) (locs1 : List Loc), mh D cl lo ad (va_up C r (some (.inr (ci, fs.set k v)))) H1 → va_S (fun q => lo ≤ q) H0 H1 locs1 → W p l e R s m args below meth c H1 locs1 cells slots Q (F0 m (pc + 3) ls rest)) : W p l e R s m args below meth c H locs cells slots Q (F0 m pc ls (v :: .ref (ad r) :: rest)) := by
  obtain ⟨ws, hPw, hDw, h1, -⟩ := mh_open hP
  obtain ⟨q0, hq0⟩ := h1 r _ he
  exact va_put hexec hb hts hin ty0 hty hnm hown hK hPw hDw hS0 q0 hq0 hc k hk hlink hsame hfin hd hn hfit hl hdg (fun H1 locs1 hP1 _ hS1 => kk H1 locs1 (mh_set hP h1 he hq0 hP1) hS1)
theorem mh_putN (hexec : p.tables.exec = Jvm.exec) (hb : c.code = cc) {own ref Cn host : String} {T : u_T} {N ci index : Nat} {Ts : List Cond} (hts : ∀ w ∈ Ts, w.before args s = true) (hin : ∀ w ∈ u_ws Cn T N, w ∈ Ts) (ty0 : Nat → FieldType) (hty : ∀ k, k < N → parseFieldDescriptor (T k).2.2.1 = some (ty0 k)) (hnm : ∀ a, a < N → ∀ b, b < N → a ≠ b → (T a).2.1 ≠ (T b).2.1) (hown : s.vm.findClass own = some m.cls) (hK : va_K D cl tys s) (hP : mh D cl lo ad C H) (hS0 : va_S (fun q => lo ≤ q) H0 H locs) (r : Nat) {fs : List Value} (he : C r = some (.inr (ci, fs))) (hc : cl[ci]? = some (Cn, T, N)) (k : Nat) (hk : k < N) (hlink : (Cond.fieldLinkNest own index ref (T k).2.1 (T k).2.2.1 host).before args s = true) (hsame : ∀ x, s.fieldFound? (T k).1 (T k).2.1 (T k).2.2.1 = some x → s.fieldFound? ref (T k).2.1 (T k).2.2.1 = some x) (hfin : (T k).2.2.2 = false) {ty : FieldType} {v : Value} (hd : parseFieldDescriptor (T k).2.2.1 = some ty) (hn : narrow ty v = v) (hfit : fits ty v = true) (hl : k < fs.length)
    (hdg : decode cc pc = .ok (.putfield index, 3)) (kk : ∀ (H1 : Heap) (locs1 : List Loc), mh D cl lo ad (va_up C r (some (.inr (ci, fs.set k v)))) H1 → va_S (fun q => lo ≤ q) H0 H1 locs1 → W p l e R s m args below meth c H1 locs1 cells slots Q (F0 m (pc + 3) ls rest)) : W p l e R s m args below meth c H locs cells slots Q (F0 m pc ls (v :: .ref (ad r) :: rest)) := by
  obtain ⟨ws, hPw, hDw, h1, -⟩ := mh_open hP
  obtain ⟨q0, hq0⟩ := h1 r _ he
  exact va_putN hexec hb hts hin ty0 hty hnm hown hK hPw hDw hS0 q0 hq0 hc k hk hlink hsame hfin hd hn hfit hl hdg (fun H1 locs1 hP1 _ hS1 => kk H1 locs1 (mh_set hP h1 he hq0 hP1) hS1)
theorem mh_putF (hexec : p.tables.exec = Jvm.exec) (hb : c.code = cc) {own ref Cn : String} {T : u_T} {N ci index : Nat} {Ts : List Cond} (hts : ∀ w ∈ Ts, w.before args s = true) (hin : ∀ w ∈ u_ws Cn T N, w ∈ Ts) (ty0 : Nat → FieldType) (hty : ∀ k, k < N → parseFieldDescriptor (T k).2.2.1 = some (ty0 k)) (hnm : ∀ a, a < N → ∀ b, b < N → a ≠ b → (T a).2.1 ≠ (T b).2.1) (hown : s.vm.findClass own = some m.cls) (hK : va_K D cl tys s) (hP : mh D cl lo ad C H) (hS0 : va_S (fun q => lo ≤ q) H0 H locs) (r : Nat) {fs : List Value} (he : C r = some (.inr (ci, fs))) (hc : cl[ci]? = some (Cn, T, N)) (k : Nat) (hk : k < N) (hlink : (Cond.fieldLink own index ref (T k).2.1 (T k).2.2.1).before args s = true) (hsame : ∀ x, s.fieldFound? (T k).1 (T k).2.1 (T k).2.2.1 = some x → s.fieldFound? ref (T k).2.1 (T k).2.2.1 = some x) (hfin : (T k).2.2.2 = true) (hin2 : meth.name = "<init>") (hdecl : (T k).1 = own) {ty : FieldType} {v : Value} (hd : parseFieldDescriptor (T k).2.2.1 = some ty) (hn : narrow ty v = v) (hfit : fits ty v = true) (hl : k < fs.length)
    (hdg : decode cc pc = .ok (.putfield index, 3)) (kk : ∀ (H1 : Heap) (locs1 : List Loc), mh D cl lo ad (va_up C r (some (.inr (ci, fs.set k v)))) H1 → va_S (fun q => lo ≤ q) H0 H1 locs1 → W p l e R s m args below meth c H1 locs1 cells slots Q (F0 m (pc + 3) ls rest)) : W p l e R s m args below meth c H locs cells slots Q (F0 m pc ls (v :: .ref (ad r) :: rest)) := by
  obtain ⟨ws, hPw, hDw, h1, -⟩ := mh_open hP
  obtain ⟨q0, hq0⟩ := h1 r _ he
  exact va_putF hexec hb hts hin ty0 hty hnm hown hK hPw hDw hS0 q0 hq0 hc k hk hlink hsame hfin hin2 hdecl hd hn hfit hl hdg (fun H1 locs1 hP1 _ hS1 => kk H1 locs1 (mh_set hP h1 he hq0 hP1) hS1)
theorem mh_iald (hexec : p.tables.exec = Jvm.exec) (hb : c.code = cc) (hK : va_K D cl tys s) (hP : mh D cl lo ad C H) (r t0 : Nat) {cA : ClassId} {n : Nat} {f : Nat → Int32} (ha : C r = some (.inl (cA, n, .inl f))) (ht : tys[t0]? = some (cA, .int)) {i : Int32} (hin : vp_in i n) (hdg : decode cc pc = .ok (.iaload, 1))
    (kk : W p l e R s m args below meth c H locs cells slots Q (F0 m (pc + 1) ls (.int (f i.toNatClampNeg) :: rest))) : W p l e R s m args below meth c H locs cells slots Q (F0 m pc ls (.int i :: .ref (ad r) :: rest)) :=
  va_iald hexec hb hK (mh_at hP ha) 0 t0 rfl ht hin hdg kk
theorem mh_lald (hexec : p.tables.exec = Jvm.exec) (hb : c.code = cc) (hK : va_K D cl tys s) (hP : mh D cl lo ad C H) (r t0 : Nat) {cA : ClassId} {n : Nat} {f : Nat → Int64} (ha : C r = some (.inl (cA, n, .inr (.inl f)))) (ht : tys[t0]? = some (cA, .long)) {i : Int32} (hin : vp_in i n) (hdg : decode cc pc = .ok (.laload, 1))
    (kk : W p l e R s m args below meth c H locs cells slots Q (F0 m (pc + 1) ls (.long (f i.toNatClampNeg) :: rest))) : W p l e R s m args below meth c H locs cells slots Q (F0 m pc ls (.int i :: .ref (ad r) :: rest)) :=
  va_lald hexec hb hK (mh_at hP ha) 0 t0 rfl ht hin hdg kk
theorem mh_aldq (hexec : p.tables.exec = Jvm.exec) (hb : c.code = cc) (hK : va_K D cl tys s) (hP : mh D cl lo ad C H) (r t0 : Nat) {cA : ClassId} {Cn : String} {n : Nat} {f : Nat → Option Nat} (ha : C r = some (.inl (cA, n, .inr (.inr (.inr (.inr f)))))) (ht : tys[t0]? = some (cA, .object Cn)) {i : Int32} (hin : vp_in i n) (hdg : decode cc pc = .ok (.aaload, 1))
    (kk : W p l e R s m args below meth c H locs cells slots Q (F0 m (pc + 1) ls (va_rf (f i.toNatClampNeg) :: rest))) : W p l e R s m args below meth c H locs cells slots Q (F0 m pc ls (.int i :: .ref (ad r) :: rest)) :=
  va_aldq hexec hb hK (mh_at hP ha) 0 t0 rfl ht hin hdg kk
/-- out of an array of arrays -/
theorem mh_alda (hexec : p.tables.exec = Jvm.exec) (hb : c.code = cc) (hK : va_K D cl tys s) (hP : mh D cl lo ad C H) (r t0 : Nat) {cA : ClassId} {ty : FieldType} {n : Nat} {f : Nat → Option Nat} (ha : C r = some (.inl (cA, n, .inr (.inr (.inr (.inr f)))))) (ht : tys[t0]? = some (cA, .array ty)) {i : Int32} (hin : vp_in i n) (hdg : decode cc pc = .ok (.aaload, 1))
    (kk : W p l e R s m args below meth c H locs cells slots Q (F0 m (pc + 1) ls (va_rf (f i.toNatClampNeg) :: rest))) : W p l e R s m args below meth c H locs cells slots Q (F0 m pc ls (.int i :: .ref (ad r) :: rest)) := by
  have hlt : i.toNatClampNeg < n := Nat.not_le.mp fun q => hin (Or.inr q)
  exact W.aald (v := va_rf (f i.toNatClampNeg)) (ty := .array ty) hexec hb (hP.1 r _ ha).2 ((hK.2 t0 _ ht).1 n (fun j => va_rf (f j))) rfl (fun q => by cases q) (by show ¬ (i < 0 ∨ (arrV _ _ _).slots.size ≤ _); rw [arrV_size]; exact hin) (by show (arrV _ _ _).slots[_]? = _; rw [arrV_read _ _ hlt]) rfl rfl hdg kk
theorem mh_alen (hexec : p.tables.exec = Jvm.exec) (hb : c.code = cc) (hK : va_K D cl tys s) (hP : mh D cl lo ad C H) (r t0 : Nat) {cA : ClassId} {x : vp_A} (ha : C r = some (.inl (cA, x))) {ty : FieldType} (ht : tys[t0]? = some (cA, ty)) {v : Int32} (hv : Int32.ofNat x.1 = v) (hdg : decode cc pc = .ok (.arraylength, 1))
    (kk : W p l e R s m args below meth c H locs cells slots Q (F0 m (pc + 1) ls (.int v :: rest))) : W p l e R s m args below meth c H locs cells slots Q (F0 m pc ls (.ref (ad r) :: rest)) :=
  va_alen hexec hb hK (mh_at hP ha) 0 t0 rfl ht hv hdg kk
theorem mh_iast (hexec : p.tables.exec = Jvm.exec) (hb : c.code = cc) (hK : va_K D cl tys s) (hP : mh D cl lo ad C H) (hS : va_S (fun q => lo ≤ q) H0 H locs) (r t0 : Nat) {cA : ClassId} {n : Nat} {f : Nat → Int32} (ha : C r = some (.inl (cA, n, .inl f))) (ht : tys[t0]? = some (cA, .int)) {i : Int32} {x : Int32} (hin : vp_in i n) (hdg : decode cc pc = .ok (.iastore, 1))
    (kk : ∀ (H1 : Heap) (locs1 : List Loc), mh D cl lo ad (va_up C r (some (.inl (cA, n, .inl (upd f i.toNatClampNeg x))))) H1 → va_S (fun q => lo ≤ q) H0 H1 locs1 → W p l e R s m args below meth c H1 locs1 cells slots Q (F0 m (pc + 1) ls rest)) : W p l e R s m args below meth c H locs cells slots Q (F0 m pc ls (.int x :: .int i :: .ref (ad r) :: rest)) := by
  obtain ⟨ws, hPw, hDw, h1, -⟩ := mh_open hP
  obtain ⟨q0, hq0⟩ := h1 r _ ha
  exact va_iast hexec hb hK hPw hDw hS q0 t0 hq0 ht hin hdg (fun H1 locs1 hP1 _ hS1 => kk H1 locs1 (mh_set hP h1 ha hq0 hP1) hS1)
theorem mh_last (hexec : p.tables.exec = Jvm.exec) (hb : c.code = cc) (hK : va_K D cl tys s) (hP : mh D cl lo ad C H) (hS : va_S (fun q => lo ≤ q) H0 H locs) (r t0 : Nat) {cA : ClassId} {n : Nat} {f : Nat → Int64} (ha : C r = some (.inl (cA, n, .inr (.inl f)))) (ht : tys[t0]? = some (cA, .long)) {i : Int32} {x : Int64} (hin : vp_in i n) (hdg : decode cc pc = .ok (.lastore, 1))
    (kk : ∀ (H1 : Heap) (locs1 : List Loc), mh D cl lo ad (va_up C r (some (.inl (cA, n, .inr (.inl (vp_updL f i.toNatClampNeg x)))))) H1 → va_S (fun q => lo ≤ q) H0 H1 locs1 → W p l e R s m args below meth c H1 locs1 cells slots Q (F0 m (pc + 1) ls rest)) : W p l e R s m args below meth c H locs cells slots Q (F0 m pc ls (.long x :: .int i :: .ref (ad r) :: rest)) := by
  obtain ⟨ws, hPw, hDw, h1, -⟩ := mh_open hP
  obtain ⟨q0, hq0⟩ := h1 r _ ha
  exact va_last hexec hb hK hPw hDw hS q0 t0 hq0 ht hin hdg (fun H1 locs1 hP1 _ hS1 => kk H1 locs1 (mh_set hP h1 ha hq0 hP1) hS1)
theorem mh_astq (hexec : p.tables.exec = Jvm.exec) (hb : c.code = cc) (hK : va_K D cl tys s) (hP : mh D cl lo ad C H) (hS : va_S (fun q => lo ≤ q) H0 H locs) (r t0 rk ci : Nat) {cA : ClassId} {rc : vw_C} {n : Nat} {vs : List Value} {f : Nat → Option Nat} (ha : C r = some (.inl (cA, n, .inr (.inr (.inr (.inr f)))))) (ht : tys[t0]? = some (cA, .object rc.1)) (hv : C rk = some (.inr (ci, vs))) (hc : cl[ci]? = some rc) {i : Int32} (hin : vp_in i n) (hdg : decode cc pc = .ok (.aastore, 1))
    (kk : ∀ (H1 : Heap) (locs1 : List Loc), mh D cl lo ad (va_up C r (some (.inl (cA, n, .inr (.inr (.inr (.inr (va_up f i.toNatClampNeg (some (ad rk)))))))))) H1 → va_S (fun q => lo ≤ q) H0 H1 locs1 → W p l e R s m args below meth c H1 locs1 cells slots Q (F0 m (pc + 1) ls rest)) : W p l e R s m args below meth c H locs cells slots Q (F0 m pc ls (.ref (ad rk) :: .int i :: .ref (ad r) :: rest)) := by
  obtain ⟨ws, hPw, hDw, h1, -⟩ := mh_open hP
  obtain ⟨q0, hq0⟩ := h1 r _ ha
  obtain ⟨q1, hq1⟩ := h1 rk _ hv
  exact va_astq hexec hb hK hPw hDw hS q0 t0 q1 ci hq0 ht hq1 hc hin hdg (fun H1 locs1 hP1 _ hS1 => kk H1 locs1 (mh_set hP h1 ha hq0 hP1) hS1)
theorem mh_newa (hexec : p.tables.exec = Jvm.exec) (hb : c.code = cc) {atype : ArrayType} (harr : (Cond.arrayClass (newarray.typeOf atype)).before args s = true) {ty : FieldType} (hty : newarray.typeOf atype = ty) (hK : va_K D cl tys s) (hP : mh D cl lo ad C H) (hS : va_S (fun q => lo ≤ q) H0 H locs) (hlo : lo ≤ H0.size) (r t0 : Nat) (hr : C r = none) {cA : ClassId} (ht : tys[t0]? = some (cA, ty)) (hra : va_RA s cA ty → s.vm.findClass ("[" ++ ty.toString) = some cA) (har : ∀ cB, va_RA s cB ty → s.vm.findClass ("[" ++ ty.toString) = some cB)
    {n : Int32} {N' : Nat} {a0 : vp_A} (ha : ∀ cA : ClassId, vp_cell cA a0 = arrV cA N' (fun _ => defaultValue ty)) (hn : ¬ n < 0) (hN : n.toNatClampNeg = N') (hbytes : N' * componentBytes ty ≤ 536870912) (hcells : cells + 1 ≤ R.cells) (hslots : slots + N' ≤ R.slots) (hdg : decode cc pc = .ok (.newarray atype, 2))
    (kk : ∀ (q : Nat) (H1 : Heap), mh D cl lo (va_up ad r q) (va_up C r (some (.inl (cA, a0)))) H1 → va_S (fun q => lo ≤ q) H0 H1 locs →
      W p l e R s m args below meth c H1 locs (cells + 1) (slots + N') Q (F0 m (pc + 2) ls (.ref q :: rest))) : W p l e R s m args below meth c H locs cells slots Q (F0 m pc ls (.int n :: rest)) := by
  obtain ⟨ws, hPw, hDw, h1, -⟩ := mh_open hP
  refine va_newa hexec hb harr hty hK hPw hDw hS (fun q h => Nat.le_trans hlo h) ha hn hN hbytes hcells hslots hdg (fun q cB H1 hK1 hP1 hD1 hS1 => ?_)
  have e1 : s.vm.findClass ("[" ++ ty.toString) = some cB := har cB (hK1.2 tys.length (cB, ty) (by rw [List.getElem?_append_right (Nat.le_refl _)]; simp)).2
  have e2 := hra (hK.2 t0 _ ht).2
  have e3 : cB = cA := Option.some.inj (e1.symm.trans e2)
  subst e3
  exact kk q H1 (mh_add hP h1 hr hP1 hD1) hS1
theorem mh_newq (hexec : p.tables.exec = Jvm.exec) (hb : c.code = cc) {own Cn : String} {index : Nat} (hown : s.vm.findClass own = some m.cls) (hclink : (Cond.classLink own index Cn).before args s = true) (hover : va_AO Cn s) (hK : va_K D cl tys s) (hP : mh D cl lo ad C H) (hS : va_S (fun q => lo ≤ q) H0 H locs) (hlo : lo ≤ H0.size) (r t0 : Nat) (hr : C r = none) {cA : ClassId} (ht : tys[t0]? = some (cA, .object Cn))
    {n : Int32} {N' : Nat} (hn : ¬ n < 0) (hN : n.toNatClampNeg = N') (hbytes : N' * 4 ≤ 536870912) (hcells : cells + 1 ≤ R.cells) (hslots : slots + N' ≤ R.slots) (hdg : decode cc pc = .ok (.anewarray index, 3))
    (kk : ∀ (q : Nat) (H1 : Heap), mh D cl lo (va_up ad r q) (va_up C r (some (.inl (cA, N', .inr (.inr (.inr (.inr (fun _ => none)))))))) H1 → va_S (fun q => lo ≤ q) H0 H1 locs →
      W p l e R s m args below meth c H1 locs (cells + 1) (slots + N') Q (F0 m (pc + 3) ls (.ref q :: rest))) : W p l e R s m args below meth c H locs cells slots Q (F0 m pc ls (.int n :: rest)) := by
  obtain ⟨ws, hPw, hDw, h1, -⟩ := mh_open hP
  refine va_newq hexec hb hown hclink hover hK hPw hDw hS (fun q h => Nat.le_trans hlo h) hn hN hbytes hcells hslots hdg (fun q cB H1 hK1 hP1 hD1 hS1 => ?_)
  obtain ⟨-, -, -, -, -, e1⟩ := (hK1.2 tys.length (cB, .object Cn) (by rw [List.getElem?_append_right (Nat.le_refl _)]; simp)).2
  obtain ⟨-, -, -, -, -, e2⟩ := (hK.2 t0 _ ht).2
  have e3 : cB = cA := Option.some.inj (e1.symm.trans e2)
  subst e3
  exact kk q H1 (mh_add hP h1 hr hP1 hD1) hS1
theorem mh_new {c0 : Code} (hexec : p.tables.exec = Jvm.exec) (hb : c0.code = cc) {own Cn : String} {T : u_T} {N ci index : Nat} {Ts : List Cond} (hts : ∀ w ∈ Ts, w.before args s = true) (hin : ∀ w ∈ u_ws Cn T N, w ∈ Ts) (ty : Nat → FieldType) (hty : ∀ k, k < N → parseFieldDescriptor (T k).2.2.1 = some (ty k)) (hown : s.vm.findClass own = some m.cls) (hcl : (Cond.classLink own index Cn).before args s = true) (hinst : (Cond.instantiable Cn N).before args s = true) (hini : (Cond.initialized Cn).before args s = true)
    (hK : va_K D cl tys s) (hP : mh D cl lo ad C H) (hS : va_S (fun q => lo ≤ q) H0 H locs) (hlo : lo ≤ H0.size) (r : Nat) (hr : C r = none) (hc : cl[ci]? = some (Cn, T, N)) {fs : List Value} (hfs : ∀ j, j < N → defaultValue (ty j) = vp_V fs j) (hcells : cells + 1 ≤ R.cells) (hslots : slots + N ≤ R.slots) (hdg : decode cc pc = .ok (.new index, 3))
    (kk : ∀ (q : Nat) (H1 : Heap), mh D cl lo (va_up ad r q) (va_up C r (some (.inr (ci, fs)))) H1 → va_S (fun q => lo ≤ q) H0 H1 locs →
      W p l e R s m args below meth c0 H1 locs (cells + 1) (slots + N) Q (F0 m (pc + 3) ls (.ref q :: rest))) : W p l e R s m args below meth c0 H locs cells slots Q (F0 m pc ls rest) := by
  obtain ⟨ws, hPw, hDw, h1, -⟩ := mh_open hP
  exact va_new hexec hb hts hin ty hty hown hcl hinst hini hK hPw hDw hS (fun q h => Nat.le_trans hlo h) hc hfs hcells hslots hdg (fun q H1 hP1 hD1 hS1 => kk q H1 (mh_add hP h1 hr hP1 hD1) hS1)
end MHW
theorem mh_recv {s : State} {H : Heap} {D : va_G} {cl : List vw_C} {lo : Nat} {ad : Nat → Nat} {C : Nat → Option va_E} {r ci : Nat} {q : vw_C} {fs : List Value} {tys : List (ClassId × FieldType)} (hK : va_K D cl tys s) (hP : mh D cl lo ad C H) (hc : cl[ci]? = some q) (he : C r = some (.inr (ci, fs))) : ∃ cell : Cell, H[ad r]? = some cell ∧ cell.vm.isStatics = false ∧ s.vm.findClass q.1 = some cell.cls :=
  va_recv hK (mh_at hP he) (q0 := 0) hc rfl
