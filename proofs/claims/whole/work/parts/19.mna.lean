/-! new int[n][k] by roles: the outer array's role r0, its rows' roles rb .. -/
theorem vp_cong {cA : ClassId} {n : Nat} {f g : Nat → Int32} (h : ∀ j, j < n → f j = g j) : vp_cell cA (n, .inl f) = vp_cell cA (n, .inl g) := by
  rw [vp_cell_i, vp_cell_i]
  unfold arrV
  congr 1
  apply Array.ext
  · simp
  · intro i h1 h2
    simp only [Array.getElem_ofFn]
    rw [h i (by simpa using h1)]
theorem vp_congq {cA : ClassId} {n : Nat} {f g : Nat → Option Nat} (h : ∀ j, j < n → f j = g j) : vp_cell cA (n, .inr (.inr (.inr (.inr f)))) = vp_cell cA (n, .inr (.inr (.inr (.inr g)))) := by
  rw [vp_cell_q, vp_cell_q]
  unfold arrV
  congr 1
  apply Array.ext
  · simp
  · intro i h1 h2
    simp only [Array.getElem_ofFn]
    rw [h i (by simpa using h1)]
/-- an int array's contents matter within its length alone -/
theorem mh_cong {D : va_G} {cl : List vw_C} {lo : Nat} {ad : Nat → Nat} {C : Nat → Option va_E} {H : Heap} {r n : Nat} {cA : ClassId} {f g : Nat → Int32} (h : mh D cl lo ad (va_up C r (some (.inl (cA, n, .inl f)))) H) (hfg : ∀ j, j < n → f j = g j) : mh D cl lo ad (va_up C r (some (.inl (cA, n, .inl g)))) H := by
  have hn : ∀ x, va_up C r (some (.inl (cA, n, .inl g))) x ≠ none → va_up C r (some (.inl (cA, n, .inl f))) x ≠ none := by
    intro x hx
    by_cases e : x = r
    · subst e
      rw [va_up_self]
      simp
    · rw [va_up_ne _ _ e] at hx ⊢
      exact hx
  refine ⟨fun x e hx => ?_, fun a b ha hb => h.2 a b (hn a ha) (hn b hb)⟩
  by_cases q : x = r
  · subst q
    rw [va_up_self] at hx
    cases hx
    obtain ⟨g1, g2⟩ := h.1 x _ (va_up_self _ _ _)
    refine ⟨g1, ?_⟩
    show H[ad x]? = some (vp_cell cA (n, .inl g))
    rw [← vp_cong hfg]
    exact g2
  · rw [va_up_ne _ _ q] at hx
    exact h.1 x e (by rw [va_up_ne _ _ q]; exact hx)
theorem vo_out (c : ClassId) (N h0 : Nat) : ∀ i : Nat, Jvm.Free.Multi.outerC c N h0 i = arrV c N (fun j => va_rf (if j < i then some (h0 + 1 + j) else none))
  | 0 => by
    refine (arrV_new c N .null).trans (congrArg (arrV c N) (funext fun j => ?_))
    rw [if_neg (Nat.not_lt_zero j)]
    rfl
  | i + 1 => by
    have ih := vo_out c N h0 i
    show (Jvm.Free.Multi.outerC c N h0 i).setSlot i (.ref (h0 + 1 + i)) = _
    rw [ih, arrV_store]
    refine congrArg (arrV c N) (funext fun j => ?_)
    unfold updV
    by_cases q : j = i
    · rw [if_pos q, if_pos (show j < i + 1 by omega), q]
      rfl
    · rw [if_neg q]
      show va_rf (if j < i then some (h0 + 1 + j) else none) = _
      by_cases w : j < i
      · rw [if_pos w, if_pos (show j < i + 1 by omega)]
      · rw [if_neg w, if_neg (show ¬ j < i + 1 by omega)]
theorem vo_outer (c : ClassId) (N h0 : Nat) : Jvm.Free.Multi.outerC c N h0 N = vp_cell c (N, .inr (.inr (.inr (.inr (fun i => if i < N then some (h0 + 1 + i) else none))))) := by
  rw [vp_cell_q]
  exact vo_out c N h0 N
section MNA
variable {p : Program} {l : Launch} {e : Env} {R : Room} {s : State} {m : MethodId} {args : Array Value} {below : List Frame} {meth : Method} {c : Code} {H : Heap} {locs : List Loc} {cells slots : Nat} {Q : State → Prop}
variable {cc : ByteArray} {pc : Nat} {ls : Array Slot} {rest : List Value} {D : va_G} {cl : List vw_C} {lo : Nat} {ad : Nat → Nat} {C : Nat → Option va_E} {tys : List (ClassId × FieldType)} {H0 : Heap}
theorem mh_mna (hexec : p.tables.exec = Jvm.exec) (hb : c.code = cc) {own : String} {index : Nat} (hown : s.vm.findClass own = some m.cls) (hclink : (Cond.classLink own index "[[I").before args s = true) (hover : va_Nw (.arrayOver (.array .int)) s) (harr : (Cond.arrayClass .int).before args s = true)
    (hK : va_K D cl tys s) (hP : mh D cl lo ad C H) (hS : va_S (fun q => lo ≤ q) H0 H locs) (hlo : lo ≤ H0.size) (r0 rb t0 t1 : Nat) {N' K' : Nat} {cI cG : ClassId} (ht0 : tys[t0]? = some (cI, .int)) (ht1 : tys[t1]? = some (cG, .array .int)) (hr0 : r0 < rb) (hN : N' ≤ 100000) (hKb : K' ≤ 100000) (hcells : cells + (1 + N') ≤ R.cells) (hslots : slots + (N' + N' * K') ≤ R.slots) (hdg : decode cc pc = .ok (.multianewarray index 2, 4))
    (kk : ∀ (q : Nat) (rr : Nat → Nat) (H1 : Heap), mh D cl lo (fun r => if rb ≤ r ∧ r < rb + N' then rr (r - rb) else if r = r0 then q else ad r) (fun r => if rb ≤ r ∧ r < rb + N' then some (.inl (cI, K', .inl (fun _ => 0))) else if r = r0 then some (.inl (cG, N', .inr (.inr (.inr (.inr (fun i => if i < N' then some (rr i) else none)))))) else C r) H1 → va_S (fun q => lo ≤ q) H0 H1 locs →
      W p l e R s m args below meth c H1 locs (cells + 1 + N') (slots + N' + N' * K') Q (F0 m (pc + 4) ls (.ref q :: rest))) : W p l e R s m args below meth c H locs cells slots Q (F0 m pc ls (.int (nI K') :: .int (nI N') :: rest)) := by
  intro T hT Xs
  have cN : (nI N').toNatClampNeg = N' := nI_clamp (by omega)
  have cK : (nI K').toNatClampNeg = K' := nI_clamp (by omega)
  obtain ⟨vm₁, cA, comp, -, fA, fC, -, -, X', step⟩ := Xs.multianewarray2F (ty := .int) hexec hown hclink hover harr (g := F0 m pc ls (.int (nI K') :: .int (nI N') :: rest)) rfl (by rw [hb]; exact hdg) rfl (nI_pos (by omega)) (nI_pos (by omega)) (by rw [cN]; omega) (by rw [cK]; show K' * 4 ≤ _; omega) (by rw [cK]; omega) rfl rfl (by rw [cN]; exact hcells) (by rw [cN, cK]; exact hslots)
  rw [cN, cK] at X' step
  have e1 : s.vm.findClass "[I" = some cI := (hK.2 t0 _ ht0).2
  have e2 : s.vm.findClass "[[I" = some cG := (hK.2 t1 _ ht1).2
  have ec : comp = cI := Option.some.inj (fC.symm.trans e1)
  have eg : cA = cG := Option.some.inj (fA.symm.trans e2)
  subst ec eg
  obtain ⟨f1, f2, -, -⟩ := Jvm.Free.Multi.fill_facts (T.setVm vm₁) cA comp N' K' (defaultValue .int) N'
  have fo := fun (x : Nat) (hx : x < (T.setVm vm₁).heap.size) => Jvm.Free.Multi.fill_old (T.setVm vm₁) cA comp N' K' (defaultValue .int) (a := x) hx N'
  have fi := Jvm.Free.Multi.fill_inner (T.setVm vm₁) cA comp N' K' (defaultValue .int) N'
  have hTh : (T.setVm vm₁).heap = H := hT
  rw [hTh] at f1 f2 fo fi
  generalize Jvm.Free.Multi.fill (T.setVm vm₁) cA comp N' K' (defaultValue .int) N' = F at X' step f1 f2 fo fi
  rw [vo_outer] at f2
  have hlt : ∀ (r : Nat) (e : va_E), C r = some e → ad r < H.size := fun r e hr => (hP.1 r e hr).2.lt
  have hloH : lo ≤ H.size := Nat.le_trans hlo hS.1
  have hM : mh D cl lo (fun r => if rb ≤ r ∧ r < rb + N' then H.size + 1 + (r - rb) else if r = r0 then H.size else ad r) (fun r => if rb ≤ r ∧ r < rb + N' then some (.inl (comp, K', .inl (fun _ => 0))) else if r = r0 then some (.inl (cA, N', .inr (.inr (.inr (.inr (fun i => if i < N' then some (H.size + 1 + i) else none)))))) else C r) F.heap := by
    refine ⟨fun r e hr => ?_, fun a b ha hb hab => ?_⟩
    · by_cases c1 : rb ≤ r ∧ r < rb + N'
      · simp only [if_pos c1] at hr ⊢
        cases hr
        refine ⟨by omega, ?_⟩
        show F.heap[_]? = some (vp_cell comp (K', .inl (fun _ => 0)))
        rw [fi (r - rb) (by omega), vp_cell_i]
        exact congrArg some (arrV_new comp K' (.int 0))
      · simp only [if_neg c1] at hr ⊢
        by_cases c2 : r = r0
        · simp only [if_pos c2] at hr ⊢
          cases hr
          exact ⟨hloH, f2⟩
        · simp only [if_neg c2] at hr ⊢
          exact ⟨(hP.1 r e hr).1, (hP.1 r e hr).2.kept (fo _ (hlt r e hr))⟩
    · have key : ∀ x, (if rb ≤ x ∧ x < rb + N' then some (.inl (comp, K', .inl (fun _ => 0))) else if x = r0 then some (.inl (cA, N', .inr (.inr (.inr (.inr (fun i => if i < N' then some (H.size + 1 + i) else none)))))) else C x) ≠ (none : Option va_E) → (rb ≤ x ∧ x < rb + N') ∨ x = r0 ∨ (¬ (rb ≤ x ∧ x < rb + N') ∧ x ≠ r0 ∧ C x ≠ none ∧ ad x < H.size) := by
        intro x hx
        by_cases c1 : rb ≤ x ∧ x < rb + N'
        · exact Or.inl c1
        · rw [if_neg c1] at hx
          by_cases c2 : x = r0
          · exact Or.inr (Or.inl c2)
          · rw [if_neg c2] at hx
            refine Or.inr (Or.inr ⟨c1, c2, hx, ?_⟩)
            cases hc : C x with
            | none => exact absurd hc hx
            | some e => exact hlt x e hc
      dsimp only at hab
      rcases key a ha with q1 | q1 | ⟨q1, q2, q3, q4⟩ <;> rcases key b hb with w1 | w1 | ⟨w1, w2, w3, w4⟩
      · rw [if_pos q1, if_pos w1] at hab; omega
      · rw [if_pos q1, if_neg (by omega), if_pos w1] at hab; omega
      · rw [if_pos q1, if_neg w1, if_neg w2] at hab; omega
      · rw [if_neg (by omega), if_pos q1, if_pos w1] at hab; omega
      · omega
      · rw [if_neg (by omega), if_pos q1, if_neg w1, if_neg w2] at hab; omega
      · rw [if_neg q1, if_neg q2, if_pos w1] at hab; omega
      · rw [if_neg q1, if_neg q2, if_neg (by omega), if_pos w1] at hab; omega
      · rw [if_neg q1, if_neg q2, if_neg w1, if_neg w2] at hab
        exact hP.2 a b q3 w3 hab
  obtain ⟨t, a1, b1⟩ := kk H.size (fun i => H.size + 1 + i) F.heap hM ⟨by rw [f1]; have := hS.1; omega, fun x h1 h2 => (fo x (Nat.lt_of_lt_of_le h1 hS.1)).trans (hS.2.1 x h1 h2), hS.2.2⟩ F rfl X'
  refine ⟨t, step t ?_, b1⟩
  rw [show T.heap.size = H.size by rw [hT]]
  exact a1
end MNA
