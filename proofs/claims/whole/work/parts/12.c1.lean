section MV
variable {p : Program} {l : Launch} {e : Env} {R : Room} {s : State} {m : MethodId} {args : Array Value} {below : List Frame} {meth : Method} {c : Code} {H : Heap} {locs : List Loc} {cells slots : Nat} {Q : State → Prop}
variable {cc : ByteArray} {pc : Nat} {ls : Array Slot} {rest : List Value}
theorem mv_astore (hexec : p.tables.exec = Jvm.exec) (hb : c.code = cc) {i nL : Nat} {o : Option Nat} {lv lv' : List (Nat × Value)} (hdg : decode cc pc = .ok (.astore i, 2)) (h : lv_has ls nL lv) (hn : i < nL) (hl : (i, va_rf o) :: lv.filter (fun q => !(q.1 == i) && !(q.1 + 1 == i && q.2.category == 2)) = lv')
    (kk : ∀ ls' : Array Slot, lv_has ls' nL lv' → W p l e R s m args below meth c H locs cells slots Q (F0 m (pc + 2) ls' rest)) : W p l e R s m args below meth c H locs cells slots Q (F0 m pc ls (va_rf o :: rest)) := by
  cases o with
  | none => exact lv_astoreN hexec hb hdg h hn hl kk
  | some x => exact lv_astore hexec hb hdg h hn hl kk
theorem mv_astore_n (hexec : p.tables.exec = Jvm.exec) (hb : c.code = cc) {k : Fin 4} {i nL : Nat} {o : Option Nat} {lv lv' : List (Nat × Value)} (hdg : decode cc pc = .ok (.astore_n k, 1)) (hi : (k : Nat) = i) (h : lv_has ls nL lv) (hn : i < nL) (hl : (i, va_rf o) :: lv.filter (fun q => !(q.1 == i) && !(q.1 + 1 == i && q.2.category == 2)) = lv')
    (kk : ∀ ls' : Array Slot, lv_has ls' nL lv' → W p l e R s m args below meth c H locs cells slots Q (F0 m (pc + 1) ls' rest)) : W p l e R s m args below meth c H locs cells slots Q (F0 m pc ls (va_rf o :: rest)) := by
  cases o with
  | none => exact lv_astore_nN hexec hb hdg hi h hn hl kk
  | some x => exact lv_astore_n hexec hb hdg hi h hn hl kk
end MV
theorem zLeft_no {la : Nat → Nat} {g n : Nat} (h : la (n + 1) ≤ g) : zLeft la g n = zLeft la g (n + 1) := by
  conv => rhs; unfold zLeft
  rw [if_neg (by omega)]
set_option maxHeartbeats 4000000 in
set_option maxRecDepth 100000 in
/-- isKind -/
theorem kX1_isKind (l : Launch) (D : va_G) (cy : Nat → ClassId) (lo : Nat) (ad : Nat → Nat) (z : zS) (F : Nat → Option va_E) (k : Int32) (hok : zK z ≤ 20 ∧ zL z ≤ 9 ∧ zT z ≤ 32) : Met l yX1_isKind wX1_isKind { frames := 0, cells := 0, slots := 0, locals := 0 } (pcs D cy lo ad (zC cy ad z F) [.ref (ad 0), .int k]) (vp_Si (fun r => sb r (isIn k (zK z)))) 0 0 (fun _ => False) := by
  refine Met.ofW (cc := cX1_isKind) (maxL := 2) (ret := (some .boolean)) (by decide) rfl ?_
  intro p e s m args below meth c s₁ B hml hv
  obtain ⟨rfl, hz, hP, hK⟩ := hv
  have hx := B.exec
  have hb := B.bytes
  have hr := B.returns
  have hts : ∀ w ∈ wA, w.before [.ref (ad 0), .int k].toArray s = true := fun w h => atoms_spec (ws := wX1_isKind) B.pre w (List.mem_cons_of_mem _ h)
  have hown : s.vm.findClass RX1 = some m.cls := findClass_of_methodNamed B.named
  have hlocks := B.notSynchronized
  have hl := lv_entry ([.ref (ad 0), .int k]) (n := 2) (Nat.le_of_ble_eq_true rfl)
  rw [lg_entry_eq]
  generalize (lg_sl ([.ref (ad 0), .int k]) ++ List.replicate (2 - (lg_sl ([.ref (ad 0), .int k])).length) Slot.unset).toArray = ls at hl ⊢
  have hl : lv_has ls 2 [(0, .ref (ad 0)), (1, .int k)] := hl
  obtain ⟨Q, hQ⟩ : ∃ Q, Q = MQ below (vp_Si (fun r => sb r (isIn k (zK z)))) [.ref (ad 0), .int k].toArray s 0 0 (fun _ => False) := ⟨_, rfl⟩
  rw [← hQ]
  refine lv_iload_n hx hb dX1_isKind_0 rfl (lv_at hl 1 rfl) ?_
  refine lv_if_lt (tgt := 16) hx hb dX1_isKind_1 (by decide) (fun c1 => ?_) (fun c1 => ?_)
  · skip
    refine lv_iconst (v := 0) hx hb dX1_isKind_16 (by decide) ?_
    rw [hQ]
    exact W.zret (v := 0) hx hb hr (by decide) (fun t9 ht9 _ => ⟨_, rfl, sb_f (by first | exact isIn_lt (by omega) c1 | exact isIn_ge (by omega) c9), ht9⟩) (fun q h => by cases h) dX1_isKind_17
  · skip
    refine lv_iload_n hx hb dX1_isKind_4 rfl (lv_at hl 1 rfl) ?_
    refine lv_aload_n hx hb dX1_isKind_5 rfl (lv_at hl 0 rfl) ?_
    refine mh_get (ci := 1) (v := .int (nI (zK z))) hx hb hts wfX1 hown hK.1 hP 0 rfl rfl 0 (by decide) (hts _ flX1_35) (fun _ h9 => h9) rfl dX1_isKind_6 ?_
    refine lv_icmp_ge (tgt := 16) hx hb dX1_isKind_9 (by decide) (fun c9 => ?_) (fun c9 => ?_)
    · skip
      refine lv_iconst (v := 0) hx hb dX1_isKind_16 (by decide) ?_
      rw [hQ]
      exact W.zret (v := 0) hx hb hr (by decide) (fun t9 ht9 _ => ⟨_, rfl, sb_f (by first | exact isIn_lt (by omega) c1 | exact isIn_ge (by omega) c9), ht9⟩) (fun q h => by cases h) dX1_isKind_17
    · skip
      refine lv_iconst (v := 1) hx hb dX1_isKind_12 (by decide) ?_
      refine lv_goto (tgt := 17) hx hb dX1_isKind_13 (by decide) ?_
      rw [hQ]
      exact W.zret (v := 1) hx hb hr (by decide) (fun t9 ht9 _ => ⟨_, rfl, sb_t (isIn_of (by omega) c1 c9), ht9⟩) (fun q h => by cases h) dX1_isKind_17
set_option maxHeartbeats 4000000 in
set_option maxRecDepth 100000 in
/-- isThing -/
theorem kX1_isThing (l : Launch) (D : va_G) (cy : Nat → ClassId) (lo : Nat) (ad : Nat → Nat) (z : zS) (F : Nat → Option va_E) (k : Int32) (hok : zK z ≤ 20 ∧ zL z ≤ 9 ∧ zT z ≤ 32) : Met l yX1_isThing wX1_isThing { frames := 0, cells := 0, slots := 0, locals := 0 } (pcs D cy lo ad (zC cy ad z F) [.ref (ad 0), .int k]) (vp_Si (fun r => sb r (isIn k (zT z)))) 0 0 (fun _ => False) := by
  refine Met.ofW (cc := cX1_isThing) (maxL := 2) (ret := (some .boolean)) (by decide) rfl ?_
  intro p e s m args below meth c s₁ B hml hv
  obtain ⟨rfl, hz, hP, hK⟩ := hv
  have hx := B.exec
  have hb := B.bytes
  have hr := B.returns
  have hts : ∀ w ∈ wA, w.before [.ref (ad 0), .int k].toArray s = true := fun w h => atoms_spec (ws := wX1_isThing) B.pre w (List.mem_cons_of_mem _ h)
  have hown : s.vm.findClass RX1 = some m.cls := findClass_of_methodNamed B.named
  have hlocks := B.notSynchronized
  have hl := lv_entry ([.ref (ad 0), .int k]) (n := 2) (Nat.le_of_ble_eq_true rfl)
  rw [lg_entry_eq]
  generalize (lg_sl ([.ref (ad 0), .int k]) ++ List.replicate (2 - (lg_sl ([.ref (ad 0), .int k])).length) Slot.unset).toArray = ls at hl ⊢
  have hl : lv_has ls 2 [(0, .ref (ad 0)), (1, .int k)] := hl
  obtain ⟨Q, hQ⟩ : ∃ Q, Q = MQ below (vp_Si (fun r => sb r (isIn k (zT z)))) [.ref (ad 0), .int k].toArray s 0 0 (fun _ => False) := ⟨_, rfl⟩
  rw [← hQ]
  refine lv_iload_n hx hb dX1_isThing_0 rfl (lv_at hl 1 rfl) ?_
  refine lv_if_lt (tgt := 16) hx hb dX1_isThing_1 (by decide) (fun c1 => ?_) (fun c1 => ?_)
  · skip
    refine lv_iconst (v := 0) hx hb dX1_isThing_16 (by decide) ?_
    rw [hQ]
    exact W.zret (v := 0) hx hb hr (by decide) (fun t9 ht9 _ => ⟨_, rfl, sb_f (by first | exact isIn_lt (by omega) c1 | exact isIn_ge (by omega) c9), ht9⟩) (fun q h => by cases h) dX1_isThing_17
  · skip
    refine lv_iload_n hx hb dX1_isThing_4 rfl (lv_at hl 1 rfl) ?_
    refine lv_aload_n hx hb dX1_isThing_5 rfl (lv_at hl 0 rfl) ?_
    refine mh_get (ci := 1) (v := .int (nI (zT z))) hx hb hts wfX1 hown hK.1 hP 0 rfl rfl 8 (by decide) (hts _ flX1_19) (fun _ h9 => h9) rfl dX1_isThing_6 ?_
    refine lv_icmp_ge (tgt := 16) hx hb dX1_isThing_9 (by decide) (fun c9 => ?_) (fun c9 => ?_)
    · skip
      refine lv_iconst (v := 0) hx hb dX1_isThing_16 (by decide) ?_
      rw [hQ]
      exact W.zret (v := 0) hx hb hr (by decide) (fun t9 ht9 _ => ⟨_, rfl, sb_f (by first | exact isIn_lt (by omega) c1 | exact isIn_ge (by omega) c9), ht9⟩) (fun q h => by cases h) dX1_isThing_17
    · skip
      refine lv_iconst (v := 1) hx hb dX1_isThing_12 (by decide) ?_
      refine lv_goto (tgt := 17) hx hb dX1_isThing_13 (by decide) ?_
      rw [hQ]
      exact W.zret (v := 1) hx hb hr (by decide) (fun t9 ht9 _ => ⟨_, rfl, sb_t (isIn_of (by omega) c1 c9), ht9⟩) (fun q h => by cases h) dX1_isThing_17
set_option maxHeartbeats 4000000 in
set_option maxRecDepth 100000 in
/-- isCleaningLevel -/
theorem kX1_isCleaningLevel (l : Launch) (D : va_G) (cy : Nat → ClassId) (lo : Nat) (ad : Nat → Nat) (z : zS) (F : Nat → Option va_E) (k : Int32) (hok : zK z ≤ 20 ∧ zL z ≤ 9 ∧ zT z ≤ 32) : Met l yX1_isCleaningLevel wX1_isCleaningLevel { frames := 0, cells := 0, slots := 0, locals := 0 } (pcs D cy lo ad (zC cy ad z F) [.ref (ad 0), .int k]) (vp_Si (fun r => sb r (isLv k (zL z)))) 0 0 (fun _ => False) := by
  refine Met.ofW (cc := cX1_isCleaningLevel) (maxL := 2) (ret := (some .boolean)) (by decide) rfl ?_
  intro p e s m args below meth c s₁ B hml hv
  obtain ⟨rfl, hz, hP, hK⟩ := hv
  have hx := B.exec
  have hb := B.bytes
  have hr := B.returns
  have hts : ∀ w ∈ wA, w.before [.ref (ad 0), .int k].toArray s = true := fun w h => atoms_spec (ws := wX1_isCleaningLevel) B.pre w (List.mem_cons_of_mem _ h)
  have hown : s.vm.findClass RX1 = some m.cls := findClass_of_methodNamed B.named
  have hlocks := B.notSynchronized
  have hl := lv_entry ([.ref (ad 0), .int k]) (n := 2) (Nat.le_of_ble_eq_true rfl)
  rw [lg_entry_eq]
  generalize (lg_sl ([.ref (ad 0), .int k]) ++ List.replicate (2 - (lg_sl ([.ref (ad 0), .int k])).length) Slot.unset).toArray = ls at hl ⊢
  have hl : lv_has ls 2 [(0, .ref (ad 0)), (1, .int k)] := hl
  obtain ⟨Q, hQ⟩ : ∃ Q, Q = MQ below (vp_Si (fun r => sb r (isLv k (zL z)))) [.ref (ad 0), .int k].toArray s 0 0 (fun _ => False) := ⟨_, rfl⟩
  rw [← hQ]
  refine lv_iload_n hx hb dX1_isCleaningLevel_0 rfl (lv_at hl 1 rfl) ?_
  refine lv_iconst (v := 1) hx hb dX1_isCleaningLevel_1 (by decide) ?_
  refine lv_icmp_lt (tgt := 17) hx hb dX1_isCleaningLevel_2 (by decide) (fun c2 => ?_) (fun c2 => ?_)
  · skip
    refine lv_iconst (v := 0) hx hb dX1_isCleaningLevel_17 (by decide) ?_
    rw [hQ]
    exact W.zret (v := 0) hx hb hr (by decide) (fun t9 ht9 _ => ⟨_, rfl, sb_f (by first | exact isLv_lt (by omega) c2 | exact isLv_gt (by omega) c10), ht9⟩) (fun q h => by cases h) dX1_isCleaningLevel_18
  · skip
    refine lv_iload_n hx hb dX1_isCleaningLevel_5 rfl (lv_at hl 1 rfl) ?_
    refine lv_aload_n hx hb dX1_isCleaningLevel_6 rfl (lv_at hl 0 rfl) ?_
    refine mh_get (ci := 1) (v := .int (nI (zL z))) hx hb hts wfX1 hown hK.1 hP 0 rfl rfl 1 (by decide) (hts _ flX1_38) (fun _ h9 => h9) rfl dX1_isCleaningLevel_7 ?_
    refine lv_icmp_gt (tgt := 17) hx hb dX1_isCleaningLevel_10 (by decide) (fun c10 => ?_) (fun c10 => ?_)
    · skip
      refine lv_iconst (v := 0) hx hb dX1_isCleaningLevel_17 (by decide) ?_
      rw [hQ]
      exact W.zret (v := 0) hx hb hr (by decide) (fun t9 ht9 _ => ⟨_, rfl, sb_f (by first | exact isLv_lt (by omega) c2 | exact isLv_gt (by omega) c10), ht9⟩) (fun q h => by cases h) dX1_isCleaningLevel_18
    · skip
      refine lv_iconst (v := 1) hx hb dX1_isCleaningLevel_13 (by decide) ?_
      refine lv_goto (tgt := 18) hx hb dX1_isCleaningLevel_14 (by decide) ?_
      rw [hQ]
      exact W.zret (v := 1) hx hb hr (by decide) (fun t9 ht9 _ => ⟨_, rfl, sb_t (isLv_of (by omega) c2 c10), ht9⟩) (fun q h => by cases h) dX1_isCleaningLevel_18
set_option maxHeartbeats 4000000 in
set_option maxRecDepth 100000 in
/-- isHour -/
theorem kX1_isHour (l : Launch) (D : va_G) (cy : Nat → ClassId) (lo : Nat) (ad : Nat → Nat) (C : Nat → Option va_E) (h : Int64) : Met l yX1_isHour wX1_isHour { frames := 0, cells := 0, slots := 0, locals := 0 } (pcs D cy lo ad C [.long h]) (vp_Si (fun r => sb r (isHr h))) 0 0 (fun _ => False) := by
  refine Met.ofW (cc := cX1_isHour) (maxL := 2) (ret := (some .boolean)) (by decide) rfl ?_
  intro p e s m args below meth c s₁ B hml hv
  obtain ⟨rfl, hz, hP, hK⟩ := hv
  have hx := B.exec
  have hb := B.bytes
  have hr := B.returns
  have hts : ∀ w ∈ wA, w.before [.long h].toArray s = true := fun w h => atoms_spec (ws := wX1_isHour) B.pre w (List.mem_cons_of_mem _ h)
  have hown : s.vm.findClass RX1 = some m.cls := findClass_of_methodNamed B.named
  have hlocks := B.notSynchronized
  have hl := lv_entry ([.long h]) (n := 2) (Nat.le_of_ble_eq_true rfl)
  rw [lg_entry_eq]
  generalize (lg_sl ([.long h]) ++ List.replicate (2 - (lg_sl ([.long h])).length) Slot.unset).toArray = ls at hl ⊢
  have hl : lv_has ls 2 [(0, .long h)] := hl
  obtain ⟨Q, hQ⟩ : ∃ Q, Q = MQ below (vp_Si (fun r => sb r (isHr h))) [.long h].toArray s 0 0 (fun _ => False) := ⟨_, rfl⟩
  rw [← hQ]
  refine lv_lload_n hx hb dX1_isHour_0 rfl (lv_at hl 0 rfl) ?_
  refine lv_lconst (v := 0) hx hb dX1_isHour_1 (by decide) ?_
  refine W.lcmp hx hb dX1_isHour_2 ?_
  refine lv_if_lt (tgt := 18) hx hb dX1_isHour_3 (by decide) (fun c3 => ?_) (fun c3 => ?_)
  · skip
    refine lv_iconst (v := 0) hx hb dX1_isHour_18 (by decide) ?_
    rw [hQ]
    exact W.zret (v := 0) hx hb hr (by decide) (fun t9 ht9 _ => ⟨_, rfl, sb_f (by first | exact isHr_lt ((lg_cmp_lt _ _).mp c3) | exact isHr_gt ((lg_cmp_gt _ _).mp c11)), ht9⟩) (fun q h => by cases h) dX1_isHour_19
  · skip
    refine lv_lload_n hx hb dX1_isHour_6 rfl (lv_at hl 0 rfl) ?_
    refine lv_ldc2 (v := 1000000) hx hb hown (hts _ ctX1_100) dX1_isHour_7 ?_
    refine W.lcmp hx hb dX1_isHour_10 ?_
    refine lv_if_gt (tgt := 18) hx hb dX1_isHour_11 (by decide) (fun c11 => ?_) (fun c11 => ?_)
    · skip
      refine lv_iconst (v := 0) hx hb dX1_isHour_18 (by decide) ?_
      rw [hQ]
      exact W.zret (v := 0) hx hb hr (by decide) (fun t9 ht9 _ => ⟨_, rfl, sb_f (by first | exact isHr_lt ((lg_cmp_lt _ _).mp c3) | exact isHr_gt ((lg_cmp_gt _ _).mp c11)), ht9⟩) (fun q h => by cases h) dX1_isHour_19
    · skip
      refine lv_iconst (v := 1) hx hb dX1_isHour_14 (by decide) ?_
      refine lv_goto (tgt := 19) hx hb dX1_isHour_15 (by decide) ?_
      rw [hQ]
      exact W.zret (v := 1) hx hb hr (by decide) (fun t9 ht9 _ => ⟨_, rfl, sb_t (isHr_of (fun q => c3 ((lg_cmp_lt _ _).mpr q)) (fun q => c11 ((lg_cmp_gt _ _).mpr q))), ht9⟩) (fun q h => by cases h) dX1_isHour_19
set_option maxHeartbeats 4000000 in
set_option maxRecDepth 100000 in
/-- levelLeft -/
theorem kX1_levelLeft (l : Launch) (D : va_G) (cy : Nat → ClassId) (lo : Nat) (ad : Nat → Nat) (z : zS) (F : Nat → Option va_E) (n g t : Nat) (hn : n ≤ zL z) (hL : zL z ≤ 9) (ht : t < 2) (hg : g ≤ 1000000) (hla : ∀ a b, zLa z a b ≤ 100000) : Met l yX1_levelLeft wX1_levelLeft { frames := 0, cells := 0, slots := 0, locals := 0 } (pcs D cy lo ad (zC cy ad z F) [.ref (ad 0), .int (nI n), .long (lN g), .int (nI t)]) (vp_Si (fun r => r = nI (zLeft (zLa z t) g n))) 0 0 (fun _ => False) := by
  refine Met.ofW (cc := cX1_levelLeft) (maxL := 6) (ret := (some .int)) (by decide) rfl ?_
  intro p e s m args below meth c s₁ B hml hv
  obtain ⟨rfl, hz, hP, hK⟩ := hv
  have hx := B.exec
  have hb := B.bytes
  have hr := B.returns
  have hts : ∀ w ∈ wA, w.before [.ref (ad 0), .int (nI n), .long (lN g), .int (nI t)].toArray s = true := fun w h => atoms_spec (ws := wX1_levelLeft) B.pre w (List.mem_cons_of_mem _ h)
  have hown : s.vm.findClass RX1 = some m.cls := findClass_of_methodNamed B.named
  have hlocks := B.notSynchronized
  have hl := lv_entry ([.ref (ad 0), .int (nI n), .long (lN g), .int (nI t)]) (n := 6) (Nat.le_of_ble_eq_true rfl)
  rw [lg_entry_eq]
  generalize (lg_sl ([.ref (ad 0), .int (nI n), .long (lN g), .int (nI t)]) ++ List.replicate (6 - (lg_sl ([.ref (ad 0), .int (nI n), .long (lN g), .int (nI t)])).length) Slot.unset).toArray = ls at hl ⊢
  have hl : lv_has ls 6 [(0, .ref (ad 0)), (1, .int (nI n)), (2, .long (lN g)), (4, .int (nI t))] := hl
  obtain ⟨Q, hQ⟩ : ∃ Q, Q = MQ below (vp_Si (fun r => r = nI (zLeft (zLa z t) g n))) [.ref (ad 0), .int (nI n), .long (lN g), .int (nI t)].toArray s 0 0 (fun _ => False) := ⟨_, rfl⟩
  rw [← hQ]
  have loop : ∀ (i : Nat), i ≤ zL z → zLeft (zLa z t) g i = zLeft (zLa z t) g n → ∀ (ls : Array Slot), lv_has ls 6 [(5, .int (nI i)), (0, .ref (ad 0)), (1, .int (nI n)), (2, .long (lN g)), (4, .int (nI t))] → W p l e (headSpec wX1_levelLeft { frames := 0, cells := 0, slots := 0, locals := 0 }).room s m [.ref (ad 0), .int (nI n), .long (lN g), .int (nI t)].toArray below meth c s.heap [] 0 0 Q (F0 m 3 ls []) := by
    intro i
    induction i with
    | zero =>
      intro hi e0 ls hl
      refine lv_iload hx hb dX1_levelLeft_3 (lv_at hl 0 rfl) ?_
      refine lv_iconst (v := 1) hx hb dX1_levelLeft_5 (by decide) ?_
      refine lv_icmp_lt (tgt := 34) hx hb dX1_levelLeft_6 (by decide) (fun c6 => ?_) (fun c6 => ?_)
      · skip
        refine lv_iconst (v := 0) hx hb dX1_levelLeft_34 (by decide) ?_
        rw [hQ]
        exact W.iret (v := 0) hx hb hr (fun t9 ht9 _ => ⟨_, rfl, by rw [← e0]; rfl, ht9⟩) (fun q h => by cases h) dX1_levelLeft_35
      · skip
        exact absurd (by decide : nI 0 < (1 : Int32)) c6
    | succ i ih =>
      intro hi e0 ls hl
      refine lv_iload hx hb dX1_levelLeft_3 (lv_at hl 0 rfl) ?_
      refine lv_iconst (v := 1) hx hb dX1_levelLeft_5 (by decide) ?_
      refine lv_icmp_lt (tgt := 34) hx hb dX1_levelLeft_6 (by decide) (fun c6 => ?_) (fun c6 => ?_)
      · skip
        exact absurd c6 (nI_nlt (a := i + 1) (b := 1) (by omega) (by omega))
      · skip
        refine lv_lload_n hx hb dX1_levelLeft_9 rfl (lv_at hl 3 rfl) ?_
        refine lv_aload_n hx hb dX1_levelLeft_10 rfl (lv_at hl 1 rfl) ?_
        refine mh_get (ci := 1) (v := .ref (ad 3)) hx hb hts wfX1 hown hK.1 hP 0 rfl rfl 4 (by decide) (hts _ flX1_55) (fun _ h9 => h9) rfl dX1_levelLeft_11 ?_
        refine lv_iload hx hb dX1_levelLeft_14 (lv_at hl 4 rfl) ?_
        refine mh_aan (i := t) (v := .ref (ad (7 + t))) hx hb hK.1 hP 3 3 rfl rfl ht (by decide) dX1_levelLeft_16 (congrArg va_rf (if_pos ht)) ?_
        refine lv_iload hx hb dX1_levelLeft_17 (lv_at hl 0 rfl) ?_
        refine mh_ialn (i := i + 1) (v := nI (zLa z t (i + 1))) hx hb hK.1 hP (7 + t) 0 (zC_la t ht) rfl (by omega) (by omega) dX1_levelLeft_19 rfl ?_
        refine lv_i2l (v := lN (zLa z t (i + 1))) hx hb dX1_levelLeft_20 (nI_l (by have := hla t (i + 1); omega)) ?_
        refine W.lcmp hx hb dX1_levelLeft_21 ?_
        refine lv_if_ge (tgt := 28) hx hb dX1_levelLeft_22 (by decide) (fun c22 => ?_) (fun c22 => ?_)
        · skip
          have hge := (lN_le (by have := hla t (i + 1); omega) (by omega)).mp ((lg_cmp_ge _ _).mp c22)
          obtain ⟨y, ey⟩ : ∃ y : Int32, y = nI (i + 1) + (-1) := ⟨_, rfl⟩
          refine lv_iinc (v := y) (lv' := [(5, .int y), (0, .ref (ad 0)), (1, .int (nI n)), (2, .long (lN g)), (4, .int (nI t))]) hx hb dX1_levelLeft_28 hl (k := 0) rfl (by rw [ey]; rfl) (by decide) rfl (fun ls hl => ?_)
          refine lv_goto (tgt := 3) hx hb dX1_levelLeft_31 (by decide) ?_
          rw [pk_m1] at ey
          subst ey
          exact ih (by omega) ((zLeft_no hge).trans e0) ls (lv_sub hl [0, 1, 2, 3, 4] rfl)
        · skip
          have hlt : g < zLa z t (i + 1) := Nat.lt_of_not_le (fun q => c22 ((lg_cmp_ge _ _).mpr ((lN_le (by have := hla t (i + 1); omega) (by omega)).mpr q)))
          refine lv_iload hx hb dX1_levelLeft_25 (lv_at hl 0 rfl) ?_
          rw [hQ]
          exact W.iret (v := nI (i + 1)) hx hb hr (fun t9 ht9 _ => ⟨_, rfl, by rw [← e0]; unfold zLeft; rw [if_pos hlt], ht9⟩) (fun q h => by cases h) dX1_levelLeft_27
  refine lv_iload_n hx hb dX1_levelLeft_0 rfl (lv_at hl 1 rfl) ?_
  refine lv_istore (lv' := [(5, .int (nI n)), (0, .ref (ad 0)), (1, .int (nI n)), (2, .long (lN g)), (4, .int (nI t))]) hx hb dX1_levelLeft_1 hl (by decide) rfl (fun ls hl => ?_)
  exact loop n hn rfl ls hl
