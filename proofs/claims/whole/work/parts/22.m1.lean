theorem nI_m1 {b : Nat} (h : b < 2 ^ 31) : ¬ nI b = -1 := fun q => nI_pos h (by rw [q]; decide)
theorem yCn_y {gm : Nat → Nat} {t n : Nat} (h : gm n = gm t) : nI (yCn gm t n) + 1 = nI (yCn gm t (n + 1)) := by
  rw [nI_1, show yCn gm t (n + 1) = yCn gm t n + (if gm n = gm t then 1 else 0) from rfl, if_pos h]
theorem yCn_z {gm : Nat → Nat} {t n : Nat} (h : ¬ gm n = gm t) : nI (yCn gm t n) + 0 = nI (yCn gm t (n + 1)) := by
  rw [show yCn gm t (n + 1) = yCn gm t n + (if gm n = gm t then 1 else 0) from rfl, if_neg h]
  exact nI_add _ 0
set_option maxHeartbeats 4000000 in
set_option maxRecDepth 100000 in
/-- X2_isKind -/
theorem kX2_isKind (l : Launch) (D : va_G) (cy : Nat → ClassId) (lo : Nat) (ad : Nat → Nat) (z : zS) (et : Nat → Nat) (mn : Nat → Int32) (gm : Nat → Nat) (G : Nat → Option va_E) (k : Int32) (hok : zK z ≤ 20 ∧ zL z ≤ 9 ∧ zT z ≤ 32) : Met l yX2_isKind wX2_isKind { frames := 0, cells := 0, slots := 0, locals := 0 } (pcs D cy lo ad (yC cy ad z et mn gm G) [.ref (ad 1000), .int k]) (vp_Si (fun r => sb r (isIn k (zK z)))) 0 0 (fun _ => False) := by
  refine Met.ofW (cc := cX2_isKind) (maxL := 2) (ret := (some .boolean)) (by decide) rfl ?_
  intro p e s m args below meth c s₁ B hml hv
  obtain ⟨rfl, hz, hP, hK⟩ := hv
  have hx := B.exec
  have hb := B.bytes
  have hr := B.returns
  have hts : ∀ w ∈ wA, w.before [.ref (ad 1000), .int k].toArray s = true := fun w h => atoms_spec (ws := wX2_isKind) B.pre w (List.mem_cons_of_mem _ h)
  have hown : s.vm.findClass RX2 = some m.cls := findClass_of_methodNamed B.named
  have hlocks := B.notSynchronized
  have hl := lv_entry ([.ref (ad 1000), .int k]) (n := 2) (Nat.le_of_ble_eq_true rfl)
  rw [lg_entry_eq]
  generalize (lg_sl ([.ref (ad 1000), .int k]) ++ List.replicate (2 - (lg_sl ([.ref (ad 1000), .int k])).length) Slot.unset).toArray = ls at hl ⊢
  have hl : lv_has ls 2 [(0, .ref (ad 1000)), (1, .int k)] := hl
  obtain ⟨Q, hQ⟩ : ∃ Q, Q = MQ below (vp_Si (fun r => sb r (isIn k (zK z)))) [.ref (ad 1000), .int k].toArray s 0 0 (fun _ => False) := ⟨_, rfl⟩
  rw [← hQ]
  refine lv_iload_n hx hb dX2_isKind_0 rfl (lv_at hl 1 rfl) ?_
  refine lv_if_lt (tgt := 16) hx hb dX2_isKind_1 (by decide) (fun c1 => ?_) (fun c1 => ?_)
  · skip
    refine lv_iconst (v := 0) hx hb dX2_isKind_16 (by decide) ?_
    rw [hQ]
    exact W.zret (v := 0) hx hb hr (by decide) (fun t9 ht9 _ => ⟨_, rfl, sb_f (by first | exact isIn_lt (by omega) c1 | exact isIn_ge (by omega) c9), ht9⟩) (fun q h => by cases h) dX2_isKind_17
  · skip
    refine lv_iload_n hx hb dX2_isKind_4 rfl (lv_at hl 1 rfl) ?_
    refine lv_aload_n hx hb dX2_isKind_5 rfl (lv_at hl 0 rfl) ?_
    refine mh_get (ci := 2) (v := .int (nI (zK z))) hx hb hts wfX2 hown hK.1 hP 1000 rfl rfl 0 (by decide) (hts _ flX2_42) (fun _ h9 => h9) rfl dX2_isKind_6 ?_
    refine lv_icmp_ge (tgt := 16) hx hb dX2_isKind_9 (by decide) (fun c9 => ?_) (fun c9 => ?_)
    · skip
      refine lv_iconst (v := 0) hx hb dX2_isKind_16 (by decide) ?_
      rw [hQ]
      exact W.zret (v := 0) hx hb hr (by decide) (fun t9 ht9 _ => ⟨_, rfl, sb_f (by first | exact isIn_lt (by omega) c1 | exact isIn_ge (by omega) c9), ht9⟩) (fun q h => by cases h) dX2_isKind_17
    · skip
      refine lv_iconst (v := 1) hx hb dX2_isKind_12 (by decide) ?_
      refine lv_goto (tgt := 17) hx hb dX2_isKind_13 (by decide) ?_
      rw [hQ]
      exact W.zret (v := 1) hx hb hr (by decide) (fun t9 ht9 _ => ⟨_, rfl, sb_t (isIn_of (by omega) c1 c9), ht9⟩) (fun q h => by cases h) dX2_isKind_17
set_option maxHeartbeats 4000000 in
set_option maxRecDepth 100000 in
/-- X2_isThing -/
theorem kX2_isThing (l : Launch) (D : va_G) (cy : Nat → ClassId) (lo : Nat) (ad : Nat → Nat) (z : zS) (et : Nat → Nat) (mn : Nat → Int32) (gm : Nat → Nat) (G : Nat → Option va_E) (k : Int32) (hok : zK z ≤ 20 ∧ zL z ≤ 9 ∧ zT z ≤ 32) : Met l yX2_isThing wX2_isThing { frames := 0, cells := 0, slots := 0, locals := 0 } (pcs D cy lo ad (yC cy ad z et mn gm G) [.ref (ad 1000), .int k]) (vp_Si (fun r => sb r (isIn k (zT z)))) 0 0 (fun _ => False) := by
  refine Met.ofW (cc := cX2_isThing) (maxL := 2) (ret := (some .boolean)) (by decide) rfl ?_
  intro p e s m args below meth c s₁ B hml hv
  obtain ⟨rfl, hz, hP, hK⟩ := hv
  have hx := B.exec
  have hb := B.bytes
  have hr := B.returns
  have hts : ∀ w ∈ wA, w.before [.ref (ad 1000), .int k].toArray s = true := fun w h => atoms_spec (ws := wX2_isThing) B.pre w (List.mem_cons_of_mem _ h)
  have hown : s.vm.findClass RX2 = some m.cls := findClass_of_methodNamed B.named
  have hlocks := B.notSynchronized
  have hl := lv_entry ([.ref (ad 1000), .int k]) (n := 2) (Nat.le_of_ble_eq_true rfl)
  rw [lg_entry_eq]
  generalize (lg_sl ([.ref (ad 1000), .int k]) ++ List.replicate (2 - (lg_sl ([.ref (ad 1000), .int k])).length) Slot.unset).toArray = ls at hl ⊢
  have hl : lv_has ls 2 [(0, .ref (ad 1000)), (1, .int k)] := hl
  obtain ⟨Q, hQ⟩ : ∃ Q, Q = MQ below (vp_Si (fun r => sb r (isIn k (zT z)))) [.ref (ad 1000), .int k].toArray s 0 0 (fun _ => False) := ⟨_, rfl⟩
  rw [← hQ]
  refine lv_iload_n hx hb dX2_isThing_0 rfl (lv_at hl 1 rfl) ?_
  refine lv_if_lt (tgt := 16) hx hb dX2_isThing_1 (by decide) (fun c1 => ?_) (fun c1 => ?_)
  · skip
    refine lv_iconst (v := 0) hx hb dX2_isThing_16 (by decide) ?_
    rw [hQ]
    exact W.zret (v := 0) hx hb hr (by decide) (fun t9 ht9 _ => ⟨_, rfl, sb_f (by first | exact isIn_lt (by omega) c1 | exact isIn_ge (by omega) c9), ht9⟩) (fun q h => by cases h) dX2_isThing_17
  · skip
    refine lv_iload_n hx hb dX2_isThing_4 rfl (lv_at hl 1 rfl) ?_
    refine lv_aload_n hx hb dX2_isThing_5 rfl (lv_at hl 0 rfl) ?_
    refine mh_get (ci := 2) (v := .int (nI (zT z))) hx hb hts wfX2 hown hK.1 hP 1000 rfl rfl 7 (by decide) (hts _ flX2_49) (fun _ h9 => h9) rfl dX2_isThing_6 ?_
    refine lv_icmp_ge (tgt := 16) hx hb dX2_isThing_9 (by decide) (fun c9 => ?_) (fun c9 => ?_)
    · skip
      refine lv_iconst (v := 0) hx hb dX2_isThing_16 (by decide) ?_
      rw [hQ]
      exact W.zret (v := 0) hx hb hr (by decide) (fun t9 ht9 _ => ⟨_, rfl, sb_f (by first | exact isIn_lt (by omega) c1 | exact isIn_ge (by omega) c9), ht9⟩) (fun q h => by cases h) dX2_isThing_17
    · skip
      refine lv_iconst (v := 1) hx hb dX2_isThing_12 (by decide) ?_
      refine lv_goto (tgt := 17) hx hb dX2_isThing_13 (by decide) ?_
      rw [hQ]
      exact W.zret (v := 1) hx hb hr (by decide) (fun t9 ht9 _ => ⟨_, rfl, sb_t (isIn_of (by omega) c1 c9), ht9⟩) (fun q h => by cases h) dX2_isThing_17
set_option maxHeartbeats 4000000 in
set_option maxRecDepth 100000 in
/-- X2_isLevel -/
theorem kX2_isLevel (l : Launch) (D : va_G) (cy : Nat → ClassId) (lo : Nat) (ad : Nat → Nat) (z : zS) (et : Nat → Nat) (mn : Nat → Int32) (gm : Nat → Nat) (G : Nat → Option va_E) (k : Int32) (hok : zK z ≤ 20 ∧ zL z ≤ 9 ∧ zT z ≤ 32) : Met l yX2_isLevel wX2_isLevel { frames := 0, cells := 0, slots := 0, locals := 0 } (pcs D cy lo ad (yC cy ad z et mn gm G) [.ref (ad 1000), .int k]) (vp_Si (fun r => sb r (isLv k (zL z)))) 0 0 (fun _ => False) := by
  refine Met.ofW (cc := cX2_isLevel) (maxL := 2) (ret := (some .boolean)) (by decide) rfl ?_
  intro p e s m args below meth c s₁ B hml hv
  obtain ⟨rfl, hz, hP, hK⟩ := hv
  have hx := B.exec
  have hb := B.bytes
  have hr := B.returns
  have hts : ∀ w ∈ wA, w.before [.ref (ad 1000), .int k].toArray s = true := fun w h => atoms_spec (ws := wX2_isLevel) B.pre w (List.mem_cons_of_mem _ h)
  have hown : s.vm.findClass RX2 = some m.cls := findClass_of_methodNamed B.named
  have hlocks := B.notSynchronized
  have hl := lv_entry ([.ref (ad 1000), .int k]) (n := 2) (Nat.le_of_ble_eq_true rfl)
  rw [lg_entry_eq]
  generalize (lg_sl ([.ref (ad 1000), .int k]) ++ List.replicate (2 - (lg_sl ([.ref (ad 1000), .int k])).length) Slot.unset).toArray = ls at hl ⊢
  have hl : lv_has ls 2 [(0, .ref (ad 1000)), (1, .int k)] := hl
  obtain ⟨Q, hQ⟩ : ∃ Q, Q = MQ below (vp_Si (fun r => sb r (isLv k (zL z)))) [.ref (ad 1000), .int k].toArray s 0 0 (fun _ => False) := ⟨_, rfl⟩
  rw [← hQ]
  refine lv_iload_n hx hb dX2_isLevel_0 rfl (lv_at hl 1 rfl) ?_
  refine lv_iconst (v := 1) hx hb dX2_isLevel_1 (by decide) ?_
  refine lv_icmp_lt (tgt := 17) hx hb dX2_isLevel_2 (by decide) (fun c2 => ?_) (fun c2 => ?_)
  · skip
    refine lv_iconst (v := 0) hx hb dX2_isLevel_17 (by decide) ?_
    rw [hQ]
    exact W.zret (v := 0) hx hb hr (by decide) (fun t9 ht9 _ => ⟨_, rfl, sb_f (by first | exact isLv_lt (by omega) c2 | exact isLv_gt (by omega) c10), ht9⟩) (fun q h => by cases h) dX2_isLevel_18
  · skip
    refine lv_iload_n hx hb dX2_isLevel_5 rfl (lv_at hl 1 rfl) ?_
    refine lv_aload_n hx hb dX2_isLevel_6 rfl (lv_at hl 0 rfl) ?_
    refine mh_get (ci := 2) (v := .int (nI (zL z))) hx hb hts wfX2 hown hK.1 hP 1000 rfl rfl 1 (by decide) (hts _ flX2_46) (fun _ h9 => h9) rfl dX2_isLevel_7 ?_
    refine lv_icmp_gt (tgt := 17) hx hb dX2_isLevel_10 (by decide) (fun c10 => ?_) (fun c10 => ?_)
    · skip
      refine lv_iconst (v := 0) hx hb dX2_isLevel_17 (by decide) ?_
      rw [hQ]
      exact W.zret (v := 0) hx hb hr (by decide) (fun t9 ht9 _ => ⟨_, rfl, sb_f (by first | exact isLv_lt (by omega) c2 | exact isLv_gt (by omega) c10), ht9⟩) (fun q h => by cases h) dX2_isLevel_18
    · skip
      refine lv_iconst (v := 1) hx hb dX2_isLevel_13 (by decide) ?_
      refine lv_goto (tgt := 18) hx hb dX2_isLevel_14 (by decide) ?_
      rw [hQ]
      exact W.zret (v := 1) hx hb hr (by decide) (fun t9 ht9 _ => ⟨_, rfl, sb_t (isLv_of (by omega) c2 c10), ht9⟩) (fun q h => by cases h) dX2_isLevel_18
set_option maxHeartbeats 4000000 in
set_option maxRecDepth 100000 in
/-- isHour -/
theorem kX2_isHour (l : Launch) (D : va_G) (cy : Nat → ClassId) (lo : Nat) (ad : Nat → Nat) (C : Nat → Option va_E) (h : Int64) : Met l yX2_isHour wX2_isHour { frames := 0, cells := 0, slots := 0, locals := 0 } (pcs D cy lo ad C [.long h]) (vp_Si (fun r => sb r (isHr h))) 0 0 (fun _ => False) := by
  refine Met.ofW (cc := cX2_isHour) (maxL := 2) (ret := (some .boolean)) (by decide) rfl ?_
  intro p e s m args below meth c s₁ B hml hv
  obtain ⟨rfl, hz, hP, hK⟩ := hv
  have hx := B.exec
  have hb := B.bytes
  have hr := B.returns
  have hts : ∀ w ∈ wA, w.before [.long h].toArray s = true := fun w h => atoms_spec (ws := wX2_isHour) B.pre w (List.mem_cons_of_mem _ h)
  have hown : s.vm.findClass RX2 = some m.cls := findClass_of_methodNamed B.named
  have hlocks := B.notSynchronized
  have hl := lv_entry ([.long h]) (n := 2) (Nat.le_of_ble_eq_true rfl)
  rw [lg_entry_eq]
  generalize (lg_sl ([.long h]) ++ List.replicate (2 - (lg_sl ([.long h])).length) Slot.unset).toArray = ls at hl ⊢
  have hl : lv_has ls 2 [(0, .long h)] := hl
  obtain ⟨Q, hQ⟩ : ∃ Q, Q = MQ below (vp_Si (fun r => sb r (isHr h))) [.long h].toArray s 0 0 (fun _ => False) := ⟨_, rfl⟩
  rw [← hQ]
  refine lv_lload_n hx hb dX2_isHour_0 rfl (lv_at hl 0 rfl) ?_
  refine lv_lconst (v := 0) hx hb dX2_isHour_1 (by decide) ?_
  refine W.lcmp hx hb dX2_isHour_2 ?_
  refine lv_if_lt (tgt := 18) hx hb dX2_isHour_3 (by decide) (fun c3 => ?_) (fun c3 => ?_)
  · skip
    refine lv_iconst (v := 0) hx hb dX2_isHour_18 (by decide) ?_
    rw [hQ]
    exact W.zret (v := 0) hx hb hr (by decide) (fun t9 ht9 _ => ⟨_, rfl, sb_f (by first | exact isHr_lt ((lg_cmp_lt _ _).mp c3) | exact isHr_gt ((lg_cmp_gt _ _).mp c11)), ht9⟩) (fun q h => by cases h) dX2_isHour_19
  · skip
    refine lv_lload_n hx hb dX2_isHour_6 rfl (lv_at hl 0 rfl) ?_
    refine lv_ldc2 (v := 1000000) hx hb hown (hts _ ctX2_52) dX2_isHour_7 ?_
    refine W.lcmp hx hb dX2_isHour_10 ?_
    refine lv_if_gt (tgt := 18) hx hb dX2_isHour_11 (by decide) (fun c11 => ?_) (fun c11 => ?_)
    · skip
      refine lv_iconst (v := 0) hx hb dX2_isHour_18 (by decide) ?_
      rw [hQ]
      exact W.zret (v := 0) hx hb hr (by decide) (fun t9 ht9 _ => ⟨_, rfl, sb_f (by first | exact isHr_lt ((lg_cmp_lt _ _).mp c3) | exact isHr_gt ((lg_cmp_gt _ _).mp c11)), ht9⟩) (fun q h => by cases h) dX2_isHour_19
    · skip
      refine lv_iconst (v := 1) hx hb dX2_isHour_14 (by decide) ?_
      refine lv_goto (tgt := 19) hx hb dX2_isHour_15 (by decide) ?_
      rw [hQ]
      exact W.zret (v := 1) hx hb hr (by decide) (fun t9 ht9 _ => ⟨_, rfl, sb_t (isHr_of (fun q => c3 ((lg_cmp_lt _ _).mpr q)) (fun q => c11 ((lg_cmp_gt _ _).mpr q))), ht9⟩) (fun q h => by cases h) dX2_isHour_19
set_option maxHeartbeats 4000000 in
set_option maxRecDepth 100000 in
/-- isBehind -/
theorem kX2_isBehind (l : Launch) (D : va_G) (cy : Nat → ClassId) (lo : Nat) (ad : Nat → Nat) (z : zS) (et : Nat → Nat) (mn : Nat → Int32) (gm : Nat → Nat) (G : Nat → Option va_E) (ch : Nat → List Nat) (hok : zOk z ch) (hy : yOk z ch et mn gm) (t h : Nat) (kb : Int32) (ht : t < zT z) (hh : h ≤ 1000000) : Met l yX2_isBehind wX2_isBehind { frames := 0, cells := 0, slots := 0, locals := 0 } (pcs D cy lo ad (yC cy ad z et mn gm G) [.ref (ad 1000), .int (nI t), .long (lN h), .int kb]) (vp_Si (fun r => sb r (∀ k, k < zE z → (et k ≠ t ∨ (kb = 0 ∧ ea (zVs z k) ≠ 0) ∨ eh (zVs z k) ≤ h)))) 0 0 (fun _ => False) := by
  refine Met.ofW (cc := cX2_isBehind) (maxL := 7) (ret := (some .boolean)) (by decide) rfl ?_
  intro p e s m args below meth c s₁ B hml hv
  obtain ⟨rfl, hz, hP, hK⟩ := hv
  have hx := B.exec
  have hb := B.bytes
  have hr := B.returns
  have hts : ∀ w ∈ wA, w.before [.ref (ad 1000), .int (nI t), .long (lN h), .int kb].toArray s = true := fun w h => atoms_spec (ws := wX2_isBehind) B.pre w (List.mem_cons_of_mem _ h)
  have hown : s.vm.findClass RX2 = some m.cls := findClass_of_methodNamed B.named
  have hlocks := B.notSynchronized
  have hl := lv_entry ([.ref (ad 1000), .int (nI t), .long (lN h), .int kb]) (n := 7) (Nat.le_of_ble_eq_true rfl)
  rw [lg_entry_eq]
  generalize (lg_sl ([.ref (ad 1000), .int (nI t), .long (lN h), .int kb]) ++ List.replicate (7 - (lg_sl ([.ref (ad 1000), .int (nI t), .long (lN h), .int kb])).length) Slot.unset).toArray = ls at hl ⊢
  have hl : lv_has ls 7 [(0, .ref (ad 1000)), (1, .int (nI t)), (2, .long (lN h)), (4, .int kb)] := hl
  obtain ⟨Q, hQ⟩ : ∃ Q, Q = MQ below (vp_Si (fun r => sb r (∀ k, k < zE z → (et k ≠ t ∨ (kb = 0 ∧ ea (zVs z k) ≠ 0) ∨ eh (zVs z k) ≤ h)))) [.ref (ad 1000), .int (nI t), .long (lN h), .int kb].toArray s 0 0 (fun _ => False) := ⟨_, rfl⟩
  rw [← hQ]
  obtain ⟨hK1, hK20, hL1, hL9, hT32, hE200, hnd, hal, hla, hco, hgr, hch, hlt0, hev, hbf⟩ := id hok
  obtain ⟨hmn, hgm, hgg, het, hcc⟩ := id hy
  have loop : ∀ (d i : Nat) (v : Int32), i + d = zE z → ((v = 1 ∧ ∀ k, k < i → (et k ≠ t ∨ (kb = 0 ∧ ea (zVs z k) ≠ 0) ∨ eh (zVs z k) ≤ h)) ∨ (v = 0 ∧ ∃ k, k < zE z ∧ ¬ (et k ≠ t ∨ (kb = 0 ∧ ea (zVs z k) ≠ 0) ∨ eh (zVs z k) ≤ h))) → ∀ (ls : Array Slot), lv_has ls 7 [(6, .int (nI i)), (5, .int v), (0, .ref (ad 1000)), (1, .int (nI t)), (2, .long (lN h)), (4, .int kb)] → W p l e (headSpec wX2_isBehind { frames := 0, cells := 0, slots := 0, locals := 0 }).room s m [.ref (ad 1000), .int (nI t), .long (lN h), .int kb].toArray below meth c s.heap [] 0 0 Q (F0 m 6 ls []) := by
    intro d
    induction d with
    | zero =>
      intro i v hid hin ls hl
      refine lv_iload hx hb dX2_isBehind_6 (lv_at hl 0 rfl) ?_
      refine lv_aload_n hx hb dX2_isBehind_8 rfl (lv_at hl 2 rfl) ?_
      refine mh_get (ci := 2) (v := .int (nI (zE z))) hx hb hts wfX2 hown hK.1 hP 1000 rfl rfl 13 (by decide) (hts _ flX2_66) (fun _ h9 => h9) rfl dX2_isBehind_9 ?_
      refine lv_icmp_ge (tgt := 71) hx hb dX2_isBehind_12 (by decide) (fun c12 => ?_) (fun c12 => ?_)
      · skip
        refine lv_iload hx hb dX2_isBehind_71 (lv_at hl 1 rfl) ?_
        rw [hQ]
        exact W.zret (v := v) hx hb hr (by rcases hin with q | q <;> rw [q.1] <;> decide) (fun t9 ht9 _ => ⟨_, rfl, (by
          rcases hin with ⟨q1, q2⟩ | ⟨q1, k, q2, q3⟩
          · exact sb_t (fun k hk => q2 k (by omega)) q1
          · exact sb_f (fun q => q3 (q k q2)) q1), ht9⟩) (fun q h => by cases h) dX2_isBehind_73
      · skip
        exact absurd (nI_le (by omega) (by omega)) c12
    | succ d ih =>
      intro i v hid hin ls hl
      refine lv_iload hx hb dX2_isBehind_6 (lv_at hl 0 rfl) ?_
      refine lv_aload_n hx hb dX2_isBehind_8 rfl (lv_at hl 2 rfl) ?_
      refine mh_get (ci := 2) (v := .int (nI (zE z))) hx hb hts wfX2 hown hK.1 hP 1000 rfl rfl 13 (by decide) (hts _ flX2_66) (fun _ h9 => h9) rfl dX2_isBehind_9 ?_
      refine lv_icmp_ge (tgt := 71) hx hb dX2_isBehind_12 (by decide) (fun c12 => ?_) (fun c12 => ?_)
      · skip
        exact absurd c12 (nI_ge (by omega) (by omega))
      · skip
        obtain ⟨ev1, ev2, ev3, ev4⟩ := hev i (by omega)
        have eet := het i (by omega)
        refine lv_iload hx hb dX2_isBehind_15 (lv_at hl 1 rfl) ?_
        refine lv_if_eq (tgt := 71) hx hb dX2_isBehind_17 (by decide) (fun c17 => ?_) (fun c17 => ?_)
        · skip
          refine lv_iload hx hb dX2_isBehind_71 (lv_at hl 1 rfl) ?_
          rw [hQ]
          exact W.zret (v := v) hx hb hr (by rw [c17]; decide) (fun t9 ht9 _ => ⟨_, rfl, (by
            rcases hin with ⟨q1, q2⟩ | ⟨q1, k, q2, q3⟩
            · rw [q1] at c17; exact absurd c17 (by decide)
            · exact sb_f (fun q => q3 (q k q2)) q1), ht9⟩) (fun q h => by cases h) dX2_isBehind_73
        · skip
          have hall : v = 1 ∧ ∀ k, k < i → (et k ≠ t ∨ (kb = 0 ∧ ea (zVs z k) ≠ 0) ∨ eh (zVs z k) ≤ h) := by
            rcases hin with q | q
            · exact q
            · exact absurd q.1 c17
          refine lv_aload_n hx hb dX2_isBehind_20 rfl (lv_at hl 2 rfl) ?_
          refine mh_get (ci := 2) (v := .ref (ad 1006)) hx hb hts wfX2 hown hK.1 hP 1000 rfl rfl 8 (by decide) (hts _ flX2_26) (fun _ h9 => h9) rfl dX2_isBehind_21 ?_
          refine lv_iload hx hb dX2_isBehind_24 (lv_at hl 0 rfl) ?_
          refine mh_ialn (i := i) (v := nI (et i)) hx hb hK.1 hP 1006 0 rfl rfl (by omega) (by decide) dX2_isBehind_26 rfl ?_
          refine lv_iload_n hx hb dX2_isBehind_27 rfl (lv_at hl 3 rfl) ?_
          refine lv_icmp_ne (tgt := 58) hx hb dX2_isBehind_28 (by decide) (fun c28 => ?_) (fun c28 => ?_)
          · skip
            have hPi : (et i ≠ t ∨ (kb = 0 ∧ ea (zVs z i) ≠ 0) ∨ eh (zVs z i) ≤ h) := Or.inl (fun q => c28 (by rw [q]))
            refine lv_iconst (v := 1) hx hb dX2_isBehind_58 (by decide) ?_
            refine lv_goto (tgt := 63) hx hb dX2_isBehind_59 (by decide) ?_
            refine lv_istore (lv' := [(5, .int 1), (6, .int (nI i)), (0, .ref (ad 1000)), (1, .int (nI t)), (2, .long (lN h)), (4, .int kb)]) hx hb dX2_isBehind_63 hl (by decide) rfl (fun ls hl => ?_)
            obtain ⟨y, ey⟩ : ∃ y : Int32, y = nI i + 1 := ⟨_, rfl⟩
            refine lv_iinc (v := y) (lv' := [(6, .int y), (5, .int 1), (0, .ref (ad 1000)), (1, .int (nI t)), (2, .long (lN h)), (4, .int kb)]) hx hb dX2_isBehind_65 hl (k := 1) rfl (by rw [ey]; rfl) (by decide) rfl (fun ls hl => ?_)
            refine lv_goto (tgt := 6) hx hb dX2_isBehind_68 (by decide) ?_
            rw [nI_1] at ey
            subst ey
            exact ih (i + 1) 1 (by omega) (Or.inl ⟨rfl, lt_s hall.2 hPi⟩) ls (lv_sub hl [0, 1, 2, 3, 4, 5] rfl)
          · skip
            have het1 : et i = t := (nI_eq (by omega) (by omega)).mp c28
            refine lv_iload hx hb dX2_isBehind_31 (lv_at hl 5 rfl) ?_
            refine lv_if_ne (tgt := 46) hx hb dX2_isBehind_33 (by decide) (fun c33 => ?_) (fun c33 => ?_)
            · skip
              have hkb : ¬ kb = 0 := c33
              refine lv_aload_n hx hb dX2_isBehind_46 rfl (lv_at hl 2 rfl) ?_
              refine mh_get (ci := 2) (v := .ref (ad 1007)) hx hb hts wfX2 hown hK.1 hP 1000 rfl rfl 9 (by decide) (hts _ flX2_29) (fun _ h9 => h9) rfl dX2_isBehind_47 ?_
              refine lv_iload hx hb dX2_isBehind_50 (lv_at hl 0 rfl) ?_
              refine mh_laln (i := i) (v := lN (eh (zVs z i))) hx hb hK.1 hP 1007 1 rfl rfl (by omega) (by decide) dX2_isBehind_52 rfl ?_
              refine lv_lload_n hx hb dX2_isBehind_53 rfl (lv_at hl 4 rfl) ?_
              refine W.lcmp hx hb dX2_isBehind_54 ?_
              refine lv_if_gt (tgt := 62) hx hb dX2_isBehind_55 (by decide) (fun c55 => ?_) (fun c55 => ?_)
              · skip
                have hNi : ¬ (et i ≠ t ∨ (kb = 0 ∧ ea (zVs z i) ≠ 0) ∨ eh (zVs z i) ≤ h) := by
                  have q1 := (lN_lt (by omega) (by omega)).mp ((lg_cmp_gt _ _).mp c55)
                  rintro (q | q | q)
                  · exact q het1
                  · first | exact hkb q.1 | exact q.2 hea
                  · omega
                refine lv_iconst (v := 0) hx hb dX2_isBehind_62 (by decide) ?_
                refine lv_istore (lv' := [(5, .int 0), (6, .int (nI i)), (0, .ref (ad 1000)), (1, .int (nI t)), (2, .long (lN h)), (4, .int kb)]) hx hb dX2_isBehind_63 hl (by decide) rfl (fun ls hl => ?_)
                obtain ⟨y, ey⟩ : ∃ y : Int32, y = nI i + 1 := ⟨_, rfl⟩
                refine lv_iinc (v := y) (lv' := [(6, .int y), (5, .int 0), (0, .ref (ad 1000)), (1, .int (nI t)), (2, .long (lN h)), (4, .int kb)]) hx hb dX2_isBehind_65 hl (k := 1) rfl (by rw [ey]; rfl) (by decide) rfl (fun ls hl => ?_)
                refine lv_goto (tgt := 6) hx hb dX2_isBehind_68 (by decide) ?_
                rw [nI_1] at ey
                subst ey
                exact ih (i + 1) 0 (by omega) (Or.inr ⟨rfl, i, by omega, hNi⟩) ls (lv_sub hl [0, 1, 2, 3, 4, 5] rfl)
              · skip
                have hPi : (et i ≠ t ∨ (kb = 0 ∧ ea (zVs z i) ≠ 0) ∨ eh (zVs z i) ≤ h) := Or.inr (Or.inr (Nat.le_of_not_lt (fun q => c55 ((lg_cmp_gt _ _).mpr ((lN_lt (by omega) (by omega)).mpr q)))))
                refine lv_iconst (v := 1) hx hb dX2_isBehind_58 (by decide) ?_
                refine lv_goto (tgt := 63) hx hb dX2_isBehind_59 (by decide) ?_
                refine lv_istore (lv' := [(5, .int 1), (6, .int (nI i)), (0, .ref (ad 1000)), (1, .int (nI t)), (2, .long (lN h)), (4, .int kb)]) hx hb dX2_isBehind_63 hl (by decide) rfl (fun ls hl => ?_)
                obtain ⟨y, ey⟩ : ∃ y : Int32, y = nI i + 1 := ⟨_, rfl⟩
                refine lv_iinc (v := y) (lv' := [(6, .int y), (5, .int 1), (0, .ref (ad 1000)), (1, .int (nI t)), (2, .long (lN h)), (4, .int kb)]) hx hb dX2_isBehind_65 hl (k := 1) rfl (by rw [ey]; rfl) (by decide) rfl (fun ls hl => ?_)
                refine lv_goto (tgt := 6) hx hb dX2_isBehind_68 (by decide) ?_
                rw [nI_1] at ey
                subst ey
                exact ih (i + 1) 1 (by omega) (Or.inl ⟨rfl, lt_s hall.2 hPi⟩) ls (lv_sub hl [0, 1, 2, 3, 4, 5] rfl)
            · skip
              have hkb : kb = 0 := c33
              refine lv_aload_n hx hb dX2_isBehind_36 rfl (lv_at hl 2 rfl) ?_
              refine mh_get (ci := 2) (v := .ref (ad 1010)) hx hb hts wfX2 hown hK.1 hP 1000 rfl rfl 12 (by decide) (hts _ flX2_38) (fun _ h9 => h9) rfl dX2_isBehind_37 ?_
              refine lv_iload hx hb dX2_isBehind_40 (lv_at hl 0 rfl) ?_
              refine mh_zaln (i := i) (v := nI (ea (zVs z i))) hx hb hK.1 hP 1010 2 rfl rfl (by omega) (by decide) dX2_isBehind_42 rfl ?_
              refine lv_if_ne (tgt := 58) hx hb dX2_isBehind_43 (by decide) (fun c43 => ?_) (fun c43 => ?_)
              · skip
                have hPi : (et i ≠ t ∨ (kb = 0 ∧ ea (zVs z i) ≠ 0) ∨ eh (zVs z i) ≤ h) := Or.inr (Or.inl ⟨hkb, fun q => c43 (by rw [q]; rfl)⟩)
                refine lv_iconst (v := 1) hx hb dX2_isBehind_58 (by decide) ?_
                refine lv_goto (tgt := 63) hx hb dX2_isBehind_59 (by decide) ?_
                refine lv_istore (lv' := [(5, .int 1), (6, .int (nI i)), (0, .ref (ad 1000)), (1, .int (nI t)), (2, .long (lN h)), (4, .int kb)]) hx hb dX2_isBehind_63 hl (by decide) rfl (fun ls hl => ?_)
                obtain ⟨y, ey⟩ : ∃ y : Int32, y = nI i + 1 := ⟨_, rfl⟩
                refine lv_iinc (v := y) (lv' := [(6, .int y), (5, .int 1), (0, .ref (ad 1000)), (1, .int (nI t)), (2, .long (lN h)), (4, .int kb)]) hx hb dX2_isBehind_65 hl (k := 1) rfl (by rw [ey]; rfl) (by decide) rfl (fun ls hl => ?_)
                refine lv_goto (tgt := 6) hx hb dX2_isBehind_68 (by decide) ?_
                rw [nI_1] at ey
                subst ey
                exact ih (i + 1) 1 (by omega) (Or.inl ⟨rfl, lt_s hall.2 hPi⟩) ls (lv_sub hl [0, 1, 2, 3, 4, 5] rfl)
              · skip
                have hea : ea (zVs z i) = 0 := (nI_eq (b := 0) (by omega) (by omega)).mp c43
                refine lv_aload_n hx hb dX2_isBehind_46 rfl (lv_at hl 2 rfl) ?_
                refine mh_get (ci := 2) (v := .ref (ad 1007)) hx hb hts wfX2 hown hK.1 hP 1000 rfl rfl 9 (by decide) (hts _ flX2_29) (fun _ h9 => h9) rfl dX2_isBehind_47 ?_
                refine lv_iload hx hb dX2_isBehind_50 (lv_at hl 0 rfl) ?_
                refine mh_laln (i := i) (v := lN (eh (zVs z i))) hx hb hK.1 hP 1007 1 rfl rfl (by omega) (by decide) dX2_isBehind_52 rfl ?_
                refine lv_lload_n hx hb dX2_isBehind_53 rfl (lv_at hl 4 rfl) ?_
                refine W.lcmp hx hb dX2_isBehind_54 ?_
                refine lv_if_gt (tgt := 62) hx hb dX2_isBehind_55 (by decide) (fun c55 => ?_) (fun c55 => ?_)
                · skip
                  have hNi : ¬ (et i ≠ t ∨ (kb = 0 ∧ ea (zVs z i) ≠ 0) ∨ eh (zVs z i) ≤ h) := by
                    have q1 := (lN_lt (by omega) (by omega)).mp ((lg_cmp_gt _ _).mp c55)
                    rintro (q | q | q)
                    · exact q het1
                    · first | exact hkb q.1 | exact q.2 hea
                    · omega
                  refine lv_iconst (v := 0) hx hb dX2_isBehind_62 (by decide) ?_
                  refine lv_istore (lv' := [(5, .int 0), (6, .int (nI i)), (0, .ref (ad 1000)), (1, .int (nI t)), (2, .long (lN h)), (4, .int kb)]) hx hb dX2_isBehind_63 hl (by decide) rfl (fun ls hl => ?_)
                  obtain ⟨y, ey⟩ : ∃ y : Int32, y = nI i + 1 := ⟨_, rfl⟩
                  refine lv_iinc (v := y) (lv' := [(6, .int y), (5, .int 0), (0, .ref (ad 1000)), (1, .int (nI t)), (2, .long (lN h)), (4, .int kb)]) hx hb dX2_isBehind_65 hl (k := 1) rfl (by rw [ey]; rfl) (by decide) rfl (fun ls hl => ?_)
                  refine lv_goto (tgt := 6) hx hb dX2_isBehind_68 (by decide) ?_
                  rw [nI_1] at ey
                  subst ey
                  exact ih (i + 1) 0 (by omega) (Or.inr ⟨rfl, i, by omega, hNi⟩) ls (lv_sub hl [0, 1, 2, 3, 4, 5] rfl)
                · skip
                  have hPi : (et i ≠ t ∨ (kb = 0 ∧ ea (zVs z i) ≠ 0) ∨ eh (zVs z i) ≤ h) := Or.inr (Or.inr (Nat.le_of_not_lt (fun q => c55 ((lg_cmp_gt _ _).mpr ((lN_lt (by omega) (by omega)).mpr q)))))
                  refine lv_iconst (v := 1) hx hb dX2_isBehind_58 (by decide) ?_
                  refine lv_goto (tgt := 63) hx hb dX2_isBehind_59 (by decide) ?_
                  refine lv_istore (lv' := [(5, .int 1), (6, .int (nI i)), (0, .ref (ad 1000)), (1, .int (nI t)), (2, .long (lN h)), (4, .int kb)]) hx hb dX2_isBehind_63 hl (by decide) rfl (fun ls hl => ?_)
                  obtain ⟨y, ey⟩ : ∃ y : Int32, y = nI i + 1 := ⟨_, rfl⟩
                  refine lv_iinc (v := y) (lv' := [(6, .int y), (5, .int 1), (0, .ref (ad 1000)), (1, .int (nI t)), (2, .long (lN h)), (4, .int kb)]) hx hb dX2_isBehind_65 hl (k := 1) rfl (by rw [ey]; rfl) (by decide) rfl (fun ls hl => ?_)
                  refine lv_goto (tgt := 6) hx hb dX2_isBehind_68 (by decide) ?_
                  rw [nI_1] at ey
                  subst ey
                  exact ih (i + 1) 1 (by omega) (Or.inl ⟨rfl, lt_s hall.2 hPi⟩) ls (lv_sub hl [0, 1, 2, 3, 4, 5] rfl)
  refine lv_iconst (v := 1) hx hb dX2_isBehind_0 (by decide) ?_
  refine lv_istore (lv' := [(5, .int 1), (0, .ref (ad 1000)), (1, .int (nI t)), (2, .long (lN h)), (4, .int kb)]) hx hb dX2_isBehind_1 hl (by decide) rfl (fun ls hl => ?_)
  refine lv_iconst (v := 0) hx hb dX2_isBehind_3 (by decide) ?_
  refine lv_istore (lv' := [(6, .int 0), (5, .int 1), (0, .ref (ad 1000)), (1, .int (nI t)), (2, .long (lN h)), (4, .int kb)]) hx hb dX2_isBehind_4 hl (by decide) rfl (fun ls hl => ?_)
  exact loop (zE z) 0 1 (Nat.zero_add _) (Or.inl ⟨rfl, fun k hk => absurd hk (Nat.not_lt_zero _)⟩) ls (lv_sub hl [0, 1, 2, 3, 4, 5] rfl)
set_option maxHeartbeats 4000000 in
set_option maxRecDepth 100000 in
/-- content -/
theorem kX2_content (l : Launch) (D : va_G) (cy : Nat → ClassId) (lo : Nat) (ad : Nat → Nat) (z : zS) (et : Nat → Nat) (mn : Nat → Int32) (gm : Nat → Nat) (G : Nat → Option va_E) (ch : Nat → List Nat) (hok : zOk z ch) (hy : yOk z ch et mn gm) (t h : Nat) (ht : t < zT z) (hh : h ≤ 1000000) : Met l yX2_content wX2_content { frames := 0, cells := 0, slots := 0, locals := 0 } (pcs D cy lo ad (yC cy ad z et mn gm G) [.ref (ad 1000), .int (nI t), .long (lN h)]) (vp_Si (fun r => r = oI (zLK z h (ch t)))) 0 0 (fun _ => False) := by
  refine Met.ofW (cc := cX2_content) (maxL := 7) (ret := (some .int)) (by decide) rfl ?_
  intro p e s m args below meth c s₁ B hml hv
  obtain ⟨rfl, hz, hP, hK⟩ := hv
  have hx := B.exec
  have hb := B.bytes
  have hr := B.returns
  have hts : ∀ w ∈ wA, w.before [.ref (ad 1000), .int (nI t), .long (lN h)].toArray s = true := fun w h => atoms_spec (ws := wX2_content) B.pre w (List.mem_cons_of_mem _ h)
  have hown : s.vm.findClass RX2 = some m.cls := findClass_of_methodNamed B.named
  have hlocks := B.notSynchronized
  have hl := lv_entry ([.ref (ad 1000), .int (nI t), .long (lN h)]) (n := 7) (Nat.le_of_ble_eq_true rfl)
  rw [lg_entry_eq]
  generalize (lg_sl ([.ref (ad 1000), .int (nI t), .long (lN h)]) ++ List.replicate (7 - (lg_sl ([.ref (ad 1000), .int (nI t), .long (lN h)])).length) Slot.unset).toArray = ls at hl ⊢
  have hl : lv_has ls 7 [(0, .ref (ad 1000)), (1, .int (nI t)), (2, .long (lN h))] := hl
  obtain ⟨Q, hQ⟩ : ∃ Q, Q = MQ below (vp_Si (fun r => r = oI (zLK z h (ch t)))) [.ref (ad 1000), .int (nI t), .long (lN h)].toArray s 0 0 (fun _ => False) := ⟨_, rfl⟩
  rw [← hQ]
  obtain ⟨hK1, hK20, hL1, hL9, hT32, hE200, hnd, hal, hla, hco, hgr, hch, hlt0, hev, hbf⟩ := id hok
  obtain ⟨hmn, hgm, hgg, het, hcc⟩ := id hy
  rw [← yCt_eq hy ht h] at hQ
  have loop : ∀ (d i : Nat) (o : Option Nat), i + d = zE z → o = yCt z et t h i → ∀ (ls : Array Slot), lv_has ls 7 [(5, .int (nI i)), (4, .int (oI o)), (0, .ref (ad 1000)), (1, .int (nI t)), (2, .long (lN h))] → W p l e (headSpec wX2_content { frames := 0, cells := 0, slots := 0, locals := 0 }).room s m [.ref (ad 1000), .int (nI t), .long (lN h)].toArray below meth c s.heap [] 0 0 Q (F0 m 6 ls []) := by
    intro d
    induction d with
    | zero =>
      intro i o hid ho ls hl
      refine lv_iload hx hb dX2_content_6 (lv_at hl 0 rfl) ?_
      refine lv_aload_n hx hb dX2_content_8 rfl (lv_at hl 2 rfl) ?_
      refine mh_get (ci := 2) (v := .int (nI (zE z))) hx hb hts wfX2 hown hK.1 hP 1000 rfl rfl 13 (by decide) (hts _ flX2_66) (fun _ h9 => h9) rfl dX2_content_9 ?_
      refine lv_icmp_ge (tgt := 100) hx hb dX2_content_12 (by decide) (fun c12 => ?_) (fun c12 => ?_)
      · skip
        refine lv_iload hx hb dX2_content_100 (lv_at hl 1 rfl) ?_
        rw [hQ]
        exact W.iret (v := oI o) hx hb hr (fun t9 ht9 _ => ⟨_, rfl, by rw [ho, show i = zE z by omega], ht9⟩) (fun q h => by cases h) dX2_content_102
      · skip
        exact absurd (nI_le (by omega) (by omega)) c12
    | succ d ih =>
      intro i o hid ho ls hl
      rcases o with _ | b
      · skip
        have hl : lv_has ls 7 [(5, .int (nI i)), (4, .int (-1)), (0, .ref (ad 1000)), (1, .int (nI t)), (2, .long (lN h))] := hl
        refine lv_iload hx hb dX2_content_6 (lv_at hl 0 rfl) ?_
        refine lv_aload_n hx hb dX2_content_8 rfl (lv_at hl 2 rfl) ?_
        refine mh_get (ci := 2) (v := .int (nI (zE z))) hx hb hts wfX2 hown hK.1 hP 1000 rfl rfl 13 (by decide) (hts _ flX2_66) (fun _ h9 => h9) rfl dX2_content_9 ?_
        refine lv_icmp_ge (tgt := 100) hx hb dX2_content_12 (by decide) (fun c12 => ?_) (fun c12 => ?_)
        · skip
          exact absurd c12 (nI_ge (by omega) (by omega))
        · skip
          obtain ⟨ev1, ev2, ev3, ev4⟩ := hev i (by omega)
          have eet := het i (by omega)
          refine lv_aload_n hx hb dX2_content_15 rfl (lv_at hl 2 rfl) ?_
          refine mh_get (ci := 2) (v := .ref (ad 1006)) hx hb hts wfX2 hown hK.1 hP 1000 rfl rfl 8 (by decide) (hts _ flX2_26) (fun _ h9 => h9) rfl dX2_content_16 ?_
          refine lv_iload hx hb dX2_content_19 (lv_at hl 0 rfl) ?_
          refine mh_ialn (i := i) (v := nI (et i)) hx hb hK.1 hP 1006 0 rfl rfl (by omega) (by decide) dX2_content_21 rfl ?_
          refine lv_iload_n hx hb dX2_content_22 rfl (lv_at hl 3 rfl) ?_
          refine lv_icmp_ne (tgt := 53) hx hb dX2_content_23 (by decide) (fun c23 => ?_) (fun c23 => ?_)
          · skip
            have hnq : ¬ (et i = t ∧ (eh (zVs z i) ≤ h ∧ ei (zVs z i) ≠ -1) ∧ (∀ b, yCt z et t h i = some b → eh (zVs z b) ≤ eh (zVs z i))) := fun q => c23 (by rw [q.1])
            refine lv_iconst (v := 0) hx hb dX2_content_53 (by decide) ?_
            refine lv_istore (lv' := [(6, .int 0), (5, .int (nI i)), (4, .int (-1)), (0, .ref (ad 1000)), (1, .int (nI t)), (2, .long (lN h))]) hx hb dX2_content_54 hl (by decide) rfl (fun ls hl => ?_)
            refine lv_iload hx hb dX2_content_56 (lv_at hl 0 rfl) ?_
            refine lv_if_eq (tgt := 90) hx hb dX2_content_58 (by decide) (fun c58 => ?_) (fun c58 => ?_)
            · skip
              refine lv_iload hx hb dX2_content_90 (lv_at hl 2 rfl) ?_
              refine lv_istore (lv' := [(4, .int (-1)), (6, .int 0), (5, .int (nI i)), (0, .ref (ad 1000)), (1, .int (nI t)), (2, .long (lN h))]) hx hb dX2_content_92 hl (by decide) rfl (fun ls hl => ?_)
              obtain ⟨y, ey⟩ : ∃ y : Int32, y = nI i + 1 := ⟨_, rfl⟩
              refine lv_iinc (v := y) (lv' := [(5, .int y), (4, .int (-1)), (6, .int 0), (0, .ref (ad 1000)), (1, .int (nI t)), (2, .long (lN h))]) hx hb dX2_content_94 hl (k := 2) rfl (by rw [ey]; rfl) (by decide) rfl (fun ls hl => ?_)
              refine lv_goto (tgt := 6) hx hb dX2_content_97 (by decide) ?_
              rw [nI_1] at ey
              subst ey
              exact ih (i + 1) none (by omega) (ho.trans (yCt_n hnq).symm) ls (lv_sub hl [0, 1, 3, 4, 5] rfl)
            · skip
              exact absurd rfl c58
          · skip
            have het1 : et i = t := (nI_eq (by omega) (by omega)).mp c23
            refine lv_aload_n hx hb dX2_content_26 rfl (lv_at hl 2 rfl) ?_
            refine mh_get (ci := 2) (v := .ref (ad 1008)) hx hb hts wfX2 hown hK.1 hP 1000 rfl rfl 10 (by decide) (hts _ flX2_32) (fun _ h9 => h9) rfl dX2_content_27 ?_
            refine lv_iload hx hb dX2_content_30 (lv_at hl 0 rfl) ?_
            refine mh_ialn (i := i) (v := ei (zVs z i)) hx hb hK.1 hP 1008 0 rfl rfl (by omega) (by decide) dX2_content_32 rfl ?_
            refine lv_iconst (v := (-1)) hx hb dX2_content_33 (by decide) ?_
            refine lv_icmp_eq (tgt := 53) hx hb dX2_content_34 (by decide) (fun c34 => ?_) (fun c34 => ?_)
            · skip
              have hnq : ¬ (et i = t ∧ (eh (zVs z i) ≤ h ∧ ei (zVs z i) ≠ -1) ∧ (∀ b, yCt z et t h i = some b → eh (zVs z b) ≤ eh (zVs z i))) := fun q => q.2.1.2 c34
              refine lv_iconst (v := 0) hx hb dX2_content_53 (by decide) ?_
              refine lv_istore (lv' := [(6, .int 0), (5, .int (nI i)), (4, .int (-1)), (0, .ref (ad 1000)), (1, .int (nI t)), (2, .long (lN h))]) hx hb dX2_content_54 hl (by decide) rfl (fun ls hl => ?_)
              refine lv_iload hx hb dX2_content_56 (lv_at hl 0 rfl) ?_
              refine lv_if_eq (tgt := 90) hx hb dX2_content_58 (by decide) (fun c58 => ?_) (fun c58 => ?_)
              · skip
                refine lv_iload hx hb dX2_content_90 (lv_at hl 2 rfl) ?_
                refine lv_istore (lv' := [(4, .int (-1)), (6, .int 0), (5, .int (nI i)), (0, .ref (ad 1000)), (1, .int (nI t)), (2, .long (lN h))]) hx hb dX2_content_92 hl (by decide) rfl (fun ls hl => ?_)
                obtain ⟨y, ey⟩ : ∃ y : Int32, y = nI i + 1 := ⟨_, rfl⟩
                refine lv_iinc (v := y) (lv' := [(5, .int y), (4, .int (-1)), (6, .int 0), (0, .ref (ad 1000)), (1, .int (nI t)), (2, .long (lN h))]) hx hb dX2_content_94 hl (k := 2) rfl (by rw [ey]; rfl) (by decide) rfl (fun ls hl => ?_)
                refine lv_goto (tgt := 6) hx hb dX2_content_97 (by decide) ?_
                rw [nI_1] at ey
                subst ey
                exact ih (i + 1) none (by omega) (ho.trans (yCt_n hnq).symm) ls (lv_sub hl [0, 1, 3, 4, 5] rfl)
              · skip
                exact absurd rfl c58
            · skip
              refine lv_aload_n hx hb dX2_content_37 rfl (lv_at hl 2 rfl) ?_
              refine mh_get (ci := 2) (v := .ref (ad 1007)) hx hb hts wfX2 hown hK.1 hP 1000 rfl rfl 9 (by decide) (hts _ flX2_29) (fun _ h9 => h9) rfl dX2_content_38 ?_
              refine lv_iload hx hb dX2_content_41 (lv_at hl 0 rfl) ?_
              refine mh_laln (i := i) (v := lN (eh (zVs z i))) hx hb hK.1 hP 1007 1 rfl rfl (by omega) (by decide) dX2_content_43 rfl ?_
              refine lv_lload_n hx hb dX2_content_44 rfl (lv_at hl 4 rfl) ?_
              refine W.lcmp hx hb dX2_content_45 ?_
              refine lv_if_gt (tgt := 53) hx hb dX2_content_46 (by decide) (fun c46 => ?_) (fun c46 => ?_)
              · skip
                have hnq : ¬ (et i = t ∧ (eh (zVs z i) ≤ h ∧ ei (zVs z i) ≠ -1) ∧ (∀ b, yCt z et t h i = some b → eh (zVs z b) ≤ eh (zVs z i))) := fun q => by
                  have q1 := (lN_lt (by omega) (by omega)).mp ((lg_cmp_gt _ _).mp c46)
                  have := q.2.1.1
                  omega
                refine lv_iconst (v := 0) hx hb dX2_content_53 (by decide) ?_
                refine lv_istore (lv' := [(6, .int 0), (5, .int (nI i)), (4, .int (-1)), (0, .ref (ad 1000)), (1, .int (nI t)), (2, .long (lN h))]) hx hb dX2_content_54 hl (by decide) rfl (fun ls hl => ?_)
                refine lv_iload hx hb dX2_content_56 (lv_at hl 0 rfl) ?_
                refine lv_if_eq (tgt := 90) hx hb dX2_content_58 (by decide) (fun c58 => ?_) (fun c58 => ?_)
                · skip
                  refine lv_iload hx hb dX2_content_90 (lv_at hl 2 rfl) ?_
                  refine lv_istore (lv' := [(4, .int (-1)), (6, .int 0), (5, .int (nI i)), (0, .ref (ad 1000)), (1, .int (nI t)), (2, .long (lN h))]) hx hb dX2_content_92 hl (by decide) rfl (fun ls hl => ?_)
                  obtain ⟨y, ey⟩ : ∃ y : Int32, y = nI i + 1 := ⟨_, rfl⟩
                  refine lv_iinc (v := y) (lv' := [(5, .int y), (4, .int (-1)), (6, .int 0), (0, .ref (ad 1000)), (1, .int (nI t)), (2, .long (lN h))]) hx hb dX2_content_94 hl (k := 2) rfl (by rw [ey]; rfl) (by decide) rfl (fun ls hl => ?_)
                  refine lv_goto (tgt := 6) hx hb dX2_content_97 (by decide) ?_
                  rw [nI_1] at ey
                  subst ey
                  exact ih (i + 1) none (by omega) (ho.trans (yCt_n hnq).symm) ls (lv_sub hl [0, 1, 3, 4, 5] rfl)
                · skip
                  exact absurd rfl c58
              · skip
                have hle : eh (zVs z i) ≤ h := Nat.le_of_not_lt (fun q => c46 ((lg_cmp_gt _ _).mpr ((lN_lt (by omega) (by omega)).mpr q)))
                refine lv_iconst (v := 1) hx hb dX2_content_49 (by decide) ?_
                refine lv_goto (tgt := 54) hx hb dX2_content_50 (by decide) ?_
                refine lv_istore (lv' := [(6, .int 1), (5, .int (nI i)), (4, .int (-1)), (0, .ref (ad 1000)), (1, .int (nI t)), (2, .long (lN h))]) hx hb dX2_content_54 hl (by decide) rfl (fun ls hl => ?_)
                refine lv_iload hx hb dX2_content_56 (lv_at hl 0 rfl) ?_
                refine lv_if_eq (tgt := 90) hx hb dX2_content_58 (by decide) (fun c58 => ?_) (fun c58 => ?_)
                · skip
                  exact absurd c58 (by decide)
                · skip
                  refine lv_iload hx hb dX2_content_61 (lv_at hl 2 rfl) ?_
                  refine lv_iconst (v := (-1)) hx hb dX2_content_63 (by decide) ?_
                  refine lv_icmp_eq (tgt := 85) hx hb dX2_content_64 (by decide) (fun c64 => ?_) (fun c64 => ?_)
                  · skip
                    have hyq : et i = t ∧ (eh (zVs z i) ≤ h ∧ ei (zVs z i) ≠ -1) ∧ (∀ b, yCt z et t h i = some b → eh (zVs z b) ≤ eh (zVs z i)) := ⟨het1, ⟨hle, c34⟩, fun b1 hb1 => by rw [← ho] at hb1; cases hb1⟩
                    refine lv_iload hx hb dX2_content_85 (lv_at hl 1 rfl) ?_
                    refine lv_goto (tgt := 92) hx hb dX2_content_87 (by decide) ?_
                    refine lv_istore (lv' := [(4, .int (nI i)), (6, .int 1), (5, .int (nI i)), (0, .ref (ad 1000)), (1, .int (nI t)), (2, .long (lN h))]) hx hb dX2_content_92 hl (by decide) rfl (fun ls hl => ?_)
                    obtain ⟨y, ey⟩ : ∃ y : Int32, y = nI i + 1 := ⟨_, rfl⟩
                    refine lv_iinc (v := y) (lv' := [(5, .int y), (4, .int (nI i)), (6, .int 1), (0, .ref (ad 1000)), (1, .int (nI t)), (2, .long (lN h))]) hx hb dX2_content_94 hl (k := 2) rfl (by rw [ey]; rfl) (by decide) rfl (fun ls hl => ?_)
                    refine lv_goto (tgt := 6) hx hb dX2_content_97 (by decide) ?_
                    rw [nI_1] at ey
                    subst ey
                    exact ih (i + 1) (some i) (by omega) (yCt_y hyq).symm ls (lv_sub hl [0, 1, 3, 4, 5] rfl)
                  · skip
                    exact absurd rfl c64
      · skip
        have hl : lv_has ls 7 [(5, .int (nI i)), (4, .int (nI b)), (0, .ref (ad 1000)), (1, .int (nI t)), (2, .long (lN h))] := hl
        refine lv_iload hx hb dX2_content_6 (lv_at hl 0 rfl) ?_
        refine lv_aload_n hx hb dX2_content_8 rfl (lv_at hl 2 rfl) ?_
        refine mh_get (ci := 2) (v := .int (nI (zE z))) hx hb hts wfX2 hown hK.1 hP 1000 rfl rfl 13 (by decide) (hts _ flX2_66) (fun _ h9 => h9) rfl dX2_content_9 ?_
        refine lv_icmp_ge (tgt := 100) hx hb dX2_content_12 (by decide) (fun c12 => ?_) (fun c12 => ?_)
        · skip
          exact absurd c12 (nI_ge (by omega) (by omega))
        · skip
          obtain ⟨ev1, ev2, ev3, ev4⟩ := hev i (by omega)
          have eet := het i (by omega)
          have hbi : b < i := by
            have q := yCt_spec (z := z) (et := et) (t := t) (h := h) i
            rw [← ho] at q
            exact q.1.1
          obtain ⟨eb1, eb2, eb3, eb4⟩ := hev b (by omega)
          refine lv_aload_n hx hb dX2_content_15 rfl (lv_at hl 2 rfl) ?_
          refine mh_get (ci := 2) (v := .ref (ad 1006)) hx hb hts wfX2 hown hK.1 hP 1000 rfl rfl 8 (by decide) (hts _ flX2_26) (fun _ h9 => h9) rfl dX2_content_16 ?_
          refine lv_iload hx hb dX2_content_19 (lv_at hl 0 rfl) ?_
          refine mh_ialn (i := i) (v := nI (et i)) hx hb hK.1 hP 1006 0 rfl rfl (by omega) (by decide) dX2_content_21 rfl ?_
          refine lv_iload_n hx hb dX2_content_22 rfl (lv_at hl 3 rfl) ?_
          refine lv_icmp_ne (tgt := 53) hx hb dX2_content_23 (by decide) (fun c23 => ?_) (fun c23 => ?_)
          · skip
            have hnq : ¬ (et i = t ∧ (eh (zVs z i) ≤ h ∧ ei (zVs z i) ≠ -1) ∧ (∀ b, yCt z et t h i = some b → eh (zVs z b) ≤ eh (zVs z i))) := fun q => c23 (by rw [q.1])
            refine lv_iconst (v := 0) hx hb dX2_content_53 (by decide) ?_
            refine lv_istore (lv' := [(6, .int 0), (5, .int (nI i)), (4, .int (nI b)), (0, .ref (ad 1000)), (1, .int (nI t)), (2, .long (lN h))]) hx hb dX2_content_54 hl (by decide) rfl (fun ls hl => ?_)
            refine lv_iload hx hb dX2_content_56 (lv_at hl 0 rfl) ?_
            refine lv_if_eq (tgt := 90) hx hb dX2_content_58 (by decide) (fun c58 => ?_) (fun c58 => ?_)
            · skip
              refine lv_iload hx hb dX2_content_90 (lv_at hl 2 rfl) ?_
              refine lv_istore (lv' := [(4, .int (nI b)), (6, .int 0), (5, .int (nI i)), (0, .ref (ad 1000)), (1, .int (nI t)), (2, .long (lN h))]) hx hb dX2_content_92 hl (by decide) rfl (fun ls hl => ?_)
              obtain ⟨y, ey⟩ : ∃ y : Int32, y = nI i + 1 := ⟨_, rfl⟩
              refine lv_iinc (v := y) (lv' := [(5, .int y), (4, .int (nI b)), (6, .int 0), (0, .ref (ad 1000)), (1, .int (nI t)), (2, .long (lN h))]) hx hb dX2_content_94 hl (k := 2) rfl (by rw [ey]; rfl) (by decide) rfl (fun ls hl => ?_)
              refine lv_goto (tgt := 6) hx hb dX2_content_97 (by decide) ?_
              rw [nI_1] at ey
              subst ey
              exact ih (i + 1) (some b) (by omega) (ho.trans (yCt_n hnq).symm) ls (lv_sub hl [0, 1, 3, 4, 5] rfl)
            · skip
              exact absurd rfl c58
          · skip
            have het1 : et i = t := (nI_eq (by omega) (by omega)).mp c23
            refine lv_aload_n hx hb dX2_content_26 rfl (lv_at hl 2 rfl) ?_
            refine mh_get (ci := 2) (v := .ref (ad 1008)) hx hb hts wfX2 hown hK.1 hP 1000 rfl rfl 10 (by decide) (hts _ flX2_32) (fun _ h9 => h9) rfl dX2_content_27 ?_
            refine lv_iload hx hb dX2_content_30 (lv_at hl 0 rfl) ?_
            refine mh_ialn (i := i) (v := ei (zVs z i)) hx hb hK.1 hP 1008 0 rfl rfl (by omega) (by decide) dX2_content_32 rfl ?_
            refine lv_iconst (v := (-1)) hx hb dX2_content_33 (by decide) ?_
            refine lv_icmp_eq (tgt := 53) hx hb dX2_content_34 (by decide) (fun c34 => ?_) (fun c34 => ?_)
            · skip
              have hnq : ¬ (et i = t ∧ (eh (zVs z i) ≤ h ∧ ei (zVs z i) ≠ -1) ∧ (∀ b, yCt z et t h i = some b → eh (zVs z b) ≤ eh (zVs z i))) := fun q => q.2.1.2 c34
              refine lv_iconst (v := 0) hx hb dX2_content_53 (by decide) ?_
              refine lv_istore (lv' := [(6, .int 0), (5, .int (nI i)), (4, .int (nI b)), (0, .ref (ad 1000)), (1, .int (nI t)), (2, .long (lN h))]) hx hb dX2_content_54 hl (by decide) rfl (fun ls hl => ?_)
              refine lv_iload hx hb dX2_content_56 (lv_at hl 0 rfl) ?_
              refine lv_if_eq (tgt := 90) hx hb dX2_content_58 (by decide) (fun c58 => ?_) (fun c58 => ?_)
              · skip
                refine lv_iload hx hb dX2_content_90 (lv_at hl 2 rfl) ?_
                refine lv_istore (lv' := [(4, .int (nI b)), (6, .int 0), (5, .int (nI i)), (0, .ref (ad 1000)), (1, .int (nI t)), (2, .long (lN h))]) hx hb dX2_content_92 hl (by decide) rfl (fun ls hl => ?_)
                obtain ⟨y, ey⟩ : ∃ y : Int32, y = nI i + 1 := ⟨_, rfl⟩
                refine lv_iinc (v := y) (lv' := [(5, .int y), (4, .int (nI b)), (6, .int 0), (0, .ref (ad 1000)), (1, .int (nI t)), (2, .long (lN h))]) hx hb dX2_content_94 hl (k := 2) rfl (by rw [ey]; rfl) (by decide) rfl (fun ls hl => ?_)
                refine lv_goto (tgt := 6) hx hb dX2_content_97 (by decide) ?_
                rw [nI_1] at ey
                subst ey
                exact ih (i + 1) (some b) (by omega) (ho.trans (yCt_n hnq).symm) ls (lv_sub hl [0, 1, 3, 4, 5] rfl)
              · skip
                exact absurd rfl c58
            · skip
              refine lv_aload_n hx hb dX2_content_37 rfl (lv_at hl 2 rfl) ?_
              refine mh_get (ci := 2) (v := .ref (ad 1007)) hx hb hts wfX2 hown hK.1 hP 1000 rfl rfl 9 (by decide) (hts _ flX2_29) (fun _ h9 => h9) rfl dX2_content_38 ?_
              refine lv_iload hx hb dX2_content_41 (lv_at hl 0 rfl) ?_
              refine mh_laln (i := i) (v := lN (eh (zVs z i))) hx hb hK.1 hP 1007 1 rfl rfl (by omega) (by decide) dX2_content_43 rfl ?_
              refine lv_lload_n hx hb dX2_content_44 rfl (lv_at hl 4 rfl) ?_
              refine W.lcmp hx hb dX2_content_45 ?_
              refine lv_if_gt (tgt := 53) hx hb dX2_content_46 (by decide) (fun c46 => ?_) (fun c46 => ?_)
              · skip
                have hnq : ¬ (et i = t ∧ (eh (zVs z i) ≤ h ∧ ei (zVs z i) ≠ -1) ∧ (∀ b, yCt z et t h i = some b → eh (zVs z b) ≤ eh (zVs z i))) := fun q => by
                  have q1 := (lN_lt (by omega) (by omega)).mp ((lg_cmp_gt _ _).mp c46)
                  have := q.2.1.1
                  omega
                refine lv_iconst (v := 0) hx hb dX2_content_53 (by decide) ?_
                refine lv_istore (lv' := [(6, .int 0), (5, .int (nI i)), (4, .int (nI b)), (0, .ref (ad 1000)), (1, .int (nI t)), (2, .long (lN h))]) hx hb dX2_content_54 hl (by decide) rfl (fun ls hl => ?_)
                refine lv_iload hx hb dX2_content_56 (lv_at hl 0 rfl) ?_
                refine lv_if_eq (tgt := 90) hx hb dX2_content_58 (by decide) (fun c58 => ?_) (fun c58 => ?_)
                · skip
                  refine lv_iload hx hb dX2_content_90 (lv_at hl 2 rfl) ?_
                  refine lv_istore (lv' := [(4, .int (nI b)), (6, .int 0), (5, .int (nI i)), (0, .ref (ad 1000)), (1, .int (nI t)), (2, .long (lN h))]) hx hb dX2_content_92 hl (by decide) rfl (fun ls hl => ?_)
                  obtain ⟨y, ey⟩ : ∃ y : Int32, y = nI i + 1 := ⟨_, rfl⟩
                  refine lv_iinc (v := y) (lv' := [(5, .int y), (4, .int (nI b)), (6, .int 0), (0, .ref (ad 1000)), (1, .int (nI t)), (2, .long (lN h))]) hx hb dX2_content_94 hl (k := 2) rfl (by rw [ey]; rfl) (by decide) rfl (fun ls hl => ?_)
                  refine lv_goto (tgt := 6) hx hb dX2_content_97 (by decide) ?_
                  rw [nI_1] at ey
                  subst ey
                  exact ih (i + 1) (some b) (by omega) (ho.trans (yCt_n hnq).symm) ls (lv_sub hl [0, 1, 3, 4, 5] rfl)
                · skip
                  exact absurd rfl c58
              · skip
                have hle : eh (zVs z i) ≤ h := Nat.le_of_not_lt (fun q => c46 ((lg_cmp_gt _ _).mpr ((lN_lt (by omega) (by omega)).mpr q)))
                refine lv_iconst (v := 1) hx hb dX2_content_49 (by decide) ?_
                refine lv_goto (tgt := 54) hx hb dX2_content_50 (by decide) ?_
                refine lv_istore (lv' := [(6, .int 1), (5, .int (nI i)), (4, .int (nI b)), (0, .ref (ad 1000)), (1, .int (nI t)), (2, .long (lN h))]) hx hb dX2_content_54 hl (by decide) rfl (fun ls hl => ?_)
                refine lv_iload hx hb dX2_content_56 (lv_at hl 0 rfl) ?_
                refine lv_if_eq (tgt := 90) hx hb dX2_content_58 (by decide) (fun c58 => ?_) (fun c58 => ?_)
                · skip
                  exact absurd c58 (by decide)
                · skip
                  refine lv_iload hx hb dX2_content_61 (lv_at hl 2 rfl) ?_
                  refine lv_iconst (v := (-1)) hx hb dX2_content_63 (by decide) ?_
                  refine lv_icmp_eq (tgt := 85) hx hb dX2_content_64 (by decide) (fun c64 => ?_) (fun c64 => ?_)
                  · skip
                    exact absurd c64 (nI_m1 (by omega))
                  · skip
                    refine lv_aload_n hx hb dX2_content_67 rfl (lv_at hl 3 rfl) ?_
                    refine mh_get (ci := 2) (v := .ref (ad 1007)) hx hb hts wfX2 hown hK.1 hP 1000 rfl rfl 9 (by decide) (hts _ flX2_29) (fun _ h9 => h9) rfl dX2_content_68 ?_
                    refine lv_iload hx hb dX2_content_71 (lv_at hl 1 rfl) ?_
                    refine mh_laln (i := i) (v := lN (eh (zVs z i))) hx hb hK.1 hP 1007 1 rfl rfl (by omega) (by decide) dX2_content_73 rfl ?_
                    refine lv_aload_n hx hb dX2_content_74 rfl (lv_at hl 3 rfl) ?_
                    refine mh_get (ci := 2) (v := .ref (ad 1007)) hx hb hts wfX2 hown hK.1 hP 1000 rfl rfl 9 (by decide) (hts _ flX2_29) (fun _ h9 => h9) rfl dX2_content_75 ?_
                    refine lv_iload hx hb dX2_content_78 (lv_at hl 2 rfl) ?_
                    refine mh_laln (i := b) (v := lN (eh (zVs z b))) hx hb hK.1 hP 1007 1 rfl rfl (by omega) (by decide) dX2_content_80 rfl ?_
                    refine W.lcmp hx hb dX2_content_81 ?_
                    refine lv_if_lt (tgt := 90) hx hb dX2_content_82 (by decide) (fun c82 => ?_) (fun c82 => ?_)
                    · skip
                      have hnq : ¬ (et i = t ∧ (eh (zVs z i) ≤ h ∧ ei (zVs z i) ≠ -1) ∧ (∀ b, yCt z et t h i = some b → eh (zVs z b) ≤ eh (zVs z i))) := fun q => by
                        have q1 := (lN_lt (by omega) (by omega)).mp ((lg_cmp_lt _ _).mp c82)
                        have := q.2.2 b ho.symm
                        omega
                      refine lv_iload hx hb dX2_content_90 (lv_at hl 2 rfl) ?_
                      refine lv_istore (lv' := [(4, .int (nI b)), (6, .int 1), (5, .int (nI i)), (0, .ref (ad 1000)), (1, .int (nI t)), (2, .long (lN h))]) hx hb dX2_content_92 hl (by decide) rfl (fun ls hl => ?_)
                      obtain ⟨y, ey⟩ : ∃ y : Int32, y = nI i + 1 := ⟨_, rfl⟩
                      refine lv_iinc (v := y) (lv' := [(5, .int y), (4, .int (nI b)), (6, .int 1), (0, .ref (ad 1000)), (1, .int (nI t)), (2, .long (lN h))]) hx hb dX2_content_94 hl (k := 2) rfl (by rw [ey]; rfl) (by decide) rfl (fun ls hl => ?_)
                      refine lv_goto (tgt := 6) hx hb dX2_content_97 (by decide) ?_
                      rw [nI_1] at ey
                      subst ey
                      exact ih (i + 1) (some b) (by omega) (ho.trans (yCt_n hnq).symm) ls (lv_sub hl [0, 1, 3, 4, 5] rfl)
                    · skip
                      have hbl : eh (zVs z b) ≤ eh (zVs z i) := Nat.le_of_not_lt (fun q => c82 ((lg_cmp_lt _ _).mpr ((lN_lt (by omega) (by omega)).mpr q)))
                      have hyq : et i = t ∧ (eh (zVs z i) ≤ h ∧ ei (zVs z i) ≠ -1) ∧ (∀ b, yCt z et t h i = some b → eh (zVs z b) ≤ eh (zVs z i)) := ⟨het1, ⟨hle, c34⟩, fun b1 hb1 => by rw [← ho] at hb1; cases hb1; exact hbl⟩
                      refine lv_iload hx hb dX2_content_85 (lv_at hl 1 rfl) ?_
                      refine lv_goto (tgt := 92) hx hb dX2_content_87 (by decide) ?_
                      refine lv_istore (lv' := [(4, .int (nI i)), (6, .int 1), (5, .int (nI i)), (0, .ref (ad 1000)), (1, .int (nI t)), (2, .long (lN h))]) hx hb dX2_content_92 hl (by decide) rfl (fun ls hl => ?_)
                      obtain ⟨y, ey⟩ : ∃ y : Int32, y = nI i + 1 := ⟨_, rfl⟩
                      refine lv_iinc (v := y) (lv' := [(5, .int y), (4, .int (nI i)), (6, .int 1), (0, .ref (ad 1000)), (1, .int (nI t)), (2, .long (lN h))]) hx hb dX2_content_94 hl (k := 2) rfl (by rw [ey]; rfl) (by decide) rfl (fun ls hl => ?_)
                      refine lv_goto (tgt := 6) hx hb dX2_content_97 (by decide) ?_
                      rw [nI_1] at ey
                      subst ey
                      exact ih (i + 1) (some i) (by omega) (yCt_y hyq).symm ls (lv_sub hl [0, 1, 3, 4, 5] rfl)
  refine lv_iconst (v := (-1)) hx hb dX2_content_0 (by decide) ?_
  refine lv_istore (lv' := [(4, .int (-1)), (0, .ref (ad 1000)), (1, .int (nI t)), (2, .long (lN h))]) hx hb dX2_content_1 hl (by decide) rfl (fun ls hl => ?_)
  refine lv_iconst (v := 0) hx hb dX2_content_3 (by decide) ?_
  refine lv_istore (lv' := [(5, .int 0), (4, .int (-1)), (0, .ref (ad 1000)), (1, .int (nI t)), (2, .long (lN h))]) hx hb dX2_content_4 hl (by decide) rfl (fun ls hl => ?_)
  exact loop (zE z) 0 none (Nat.zero_add _) rfl ls (lv_sub hl [0, 1, 2, 3, 4] rfl)
set_option maxHeartbeats 4000000 in
set_option maxRecDepth 100000 in
/-- isAfter -/
theorem kX2_isAfter (l : Launch) (D : va_G) (cy : Nat → ClassId) (lo : Nat) (ad : Nat → Nat) (z : zS) (et : Nat → Nat) (mn : Nat → Int32) (gm : Nat → Nat) (G : Nat → Option va_E) (ch : Nat → List Nat) (hok : zOk z ch) (hy : yOk z ch et mn gm) (k : Nat) (o : Option Nat) (hk : k < zE z) (ho : ∀ b, o = some b → b < zE z) : Met l yX2_isAfter wX2_isAfter { frames := 0, cells := 0, slots := 0, locals := 0 } (pcs D cy lo ad (yC cy ad z et mn gm G) [.ref (ad 1000), .int (nI k), .int (oI o)]) (vp_Si (fun r => sb r (zAf z k o))) 0 0 (fun _ => False) := by
  refine Met.ofW (cc := cX2_isAfter) (maxL := 3) (ret := (some .boolean)) (by decide) rfl ?_
  intro p e s m args below meth c s₁ B hml hv
  obtain ⟨rfl, hz, hP, hK⟩ := hv
  have hx := B.exec
  have hb := B.bytes
  have hr := B.returns
  have hts : ∀ w ∈ wA, w.before [.ref (ad 1000), .int (nI k), .int (oI o)].toArray s = true := fun w h => atoms_spec (ws := wX2_isAfter) B.pre w (List.mem_cons_of_mem _ h)
  have hown : s.vm.findClass RX2 = some m.cls := findClass_of_methodNamed B.named
  have hlocks := B.notSynchronized
  have hl := lv_entry ([.ref (ad 1000), .int (nI k), .int (oI o)]) (n := 3) (Nat.le_of_ble_eq_true rfl)
  rw [lg_entry_eq]
  generalize (lg_sl ([.ref (ad 1000), .int (nI k), .int (oI o)]) ++ List.replicate (3 - (lg_sl ([.ref (ad 1000), .int (nI k), .int (oI o)])).length) Slot.unset).toArray = ls at hl ⊢
  have hl : lv_has ls 3 [(0, .ref (ad 1000)), (1, .int (nI k)), (2, .int (oI o))] := hl
  obtain ⟨Q, hQ⟩ : ∃ Q, Q = MQ below (vp_Si (fun r => sb r (zAf z k o))) [.ref (ad 1000), .int (nI k), .int (oI o)].toArray s 0 0 (fun _ => False) := ⟨_, rfl⟩
  rw [← hQ]
  obtain ⟨hK1, hK20, hL1, hL9, hT32, hE200, hnd, hal, hla, hco, hgr, hch, hlt0, hev, hbf⟩ := id hok
  obtain ⟨hmn, hgm, hgg, het, hcc⟩ := id hy
  obtain ⟨ev1, ev2, ev3, ev4⟩ := hev k hk
  rcases o with _ | b
  · skip
    have hl : lv_has ls 3 [(0, .ref (ad 1000)), (1, .int (nI k)), (2, .int (-1))] := hl
    refine lv_iload_n hx hb dX2_isAfter_0 rfl (lv_at hl 2 rfl) ?_
    refine lv_iconst (v := (-1)) hx hb dX2_isAfter_1 (by decide) ?_
    refine lv_icmp_eq (tgt := 42) hx hb dX2_isAfter_2 (by decide) (fun c2 => ?_) (fun c2 => ?_)
    · skip
      refine lv_iconst (v := 1) hx hb dX2_isAfter_42 (by decide) ?_
      refine lv_goto (tgt := 47) hx hb dX2_isAfter_43 (by decide) ?_
      rw [hQ]
      exact W.zret (v := 1) hx hb hr (by decide) (fun t9 ht9 _ => ⟨_, rfl, sb_t trivial, ht9⟩) (fun q h => by cases h) dX2_isAfter_47
    · skip
      exact absurd rfl c2
  · skip
    have hbE := ho b rfl
    obtain ⟨eb1, eb2, eb3, eb4⟩ := hev b hbE
    have hl : lv_has ls 3 [(0, .ref (ad 1000)), (1, .int (nI k)), (2, .int (nI b))] := hl
    refine lv_iload_n hx hb dX2_isAfter_0 rfl (lv_at hl 2 rfl) ?_
    refine lv_iconst (v := (-1)) hx hb dX2_isAfter_1 (by decide) ?_
    refine lv_icmp_eq (tgt := 42) hx hb dX2_isAfter_2 (by decide) (fun c2 => ?_) (fun c2 => ?_)
    · skip
      exact absurd c2 (nI_m1 (by omega))
    · skip
      refine lv_aload_n hx hb dX2_isAfter_5 rfl (lv_at hl 0 rfl) ?_
      refine mh_get (ci := 2) (v := .ref (ad 1007)) hx hb hts wfX2 hown hK.1 hP 1000 rfl rfl 9 (by decide) (hts _ flX2_29) (fun _ h9 => h9) rfl dX2_isAfter_6 ?_
      refine lv_iload_n hx hb dX2_isAfter_9 rfl (lv_at hl 1 rfl) ?_
      refine mh_laln (i := k) (v := lN (eh (zVs z k))) hx hb hK.1 hP 1007 1 rfl rfl (by omega) (by decide) dX2_isAfter_10 rfl ?_
      refine lv_aload_n hx hb dX2_isAfter_11 rfl (lv_at hl 0 rfl) ?_
      refine mh_get (ci := 2) (v := .ref (ad 1007)) hx hb hts wfX2 hown hK.1 hP 1000 rfl rfl 9 (by decide) (hts _ flX2_29) (fun _ h9 => h9) rfl dX2_isAfter_12 ?_
      refine lv_iload_n hx hb dX2_isAfter_15 rfl (lv_at hl 2 rfl) ?_
      refine mh_laln (i := b) (v := lN (eh (zVs z b))) hx hb hK.1 hP 1007 1 rfl rfl (by omega) (by decide) dX2_isAfter_16 rfl ?_
      refine W.lcmp hx hb dX2_isAfter_17 ?_
      refine lv_if_gt (tgt := 42) hx hb dX2_isAfter_18 (by decide) (fun c18 => ?_) (fun c18 => ?_)
      · skip
        have hy1 : zAf z k (some b) := Or.inl ((lN_lt (by omega) (by omega)).mp ((lg_cmp_gt _ _).mp c18))
        refine lv_iconst (v := 1) hx hb dX2_isAfter_42 (by decide) ?_
        refine lv_goto (tgt := 47) hx hb dX2_isAfter_43 (by decide) ?_
        rw [hQ]
        exact W.zret (v := 1) hx hb hr (by decide) (fun t9 ht9 _ => ⟨_, rfl, sb_t hy1, ht9⟩) (fun q h => by cases h) dX2_isAfter_47
      · skip
        have hle : eh (zVs z k) ≤ eh (zVs z b) := Nat.le_of_not_lt (fun q => c18 ((lg_cmp_gt _ _).mpr ((lN_lt (by omega) (by omega)).mpr q)))
        refine lv_aload_n hx hb dX2_isAfter_21 rfl (lv_at hl 0 rfl) ?_
        refine mh_get (ci := 2) (v := .ref (ad 1007)) hx hb hts wfX2 hown hK.1 hP 1000 rfl rfl 9 (by decide) (hts _ flX2_29) (fun _ h9 => h9) rfl dX2_isAfter_22 ?_
        refine lv_iload_n hx hb dX2_isAfter_25 rfl (lv_at hl 1 rfl) ?_
        refine mh_laln (i := k) (v := lN (eh (zVs z k))) hx hb hK.1 hP 1007 1 rfl rfl (by omega) (by decide) dX2_isAfter_26 rfl ?_
        refine lv_aload_n hx hb dX2_isAfter_27 rfl (lv_at hl 0 rfl) ?_
        refine mh_get (ci := 2) (v := .ref (ad 1007)) hx hb hts wfX2 hown hK.1 hP 1000 rfl rfl 9 (by decide) (hts _ flX2_29) (fun _ h9 => h9) rfl dX2_isAfter_28 ?_
        refine lv_iload_n hx hb dX2_isAfter_31 rfl (lv_at hl 2 rfl) ?_
        refine mh_laln (i := b) (v := lN (eh (zVs z b))) hx hb hK.1 hP 1007 1 rfl rfl (by omega) (by decide) dX2_isAfter_32 rfl ?_
        refine W.lcmp hx hb dX2_isAfter_33 ?_
        refine lv_if_ne (tgt := 46) hx hb dX2_isAfter_34 (by decide) (fun c34 => ?_) (fun c34 => ?_)
        · skip
          have hn1 : ¬ zAf z k (some b) := by
            rintro (q | q)
            · omega
            · exact c34 ((lg_cmp_eq _ _).mpr (by rw [q.1]))
          refine lv_iconst (v := 0) hx hb dX2_isAfter_46 (by decide) ?_
          rw [hQ]
          exact W.zret (v := 0) hx hb hr (by decide) (fun t9 ht9 _ => ⟨_, rfl, sb_f hn1, ht9⟩) (fun q h => by cases h) dX2_isAfter_47
        · skip
          have heq : eh (zVs z k) = eh (zVs z b) := (lN_eq (by omega) (by omega)).mp ((lg_cmp_eq _ _).mp c34)
          refine lv_iload_n hx hb dX2_isAfter_37 rfl (lv_at hl 1 rfl) ?_
          refine lv_iload_n hx hb dX2_isAfter_38 rfl (lv_at hl 2 rfl) ?_
          refine lv_icmp_le (tgt := 46) hx hb dX2_isAfter_39 (by decide) (fun c39 => ?_) (fun c39 => ?_)
          · skip
            have hn1 : ¬ zAf z k (some b) := by
              have q2 := (nI_leI (by omega) (by omega)).mp c39
              rintro (q | q) <;> omega
            refine lv_iconst (v := 0) hx hb dX2_isAfter_46 (by decide) ?_
            rw [hQ]
            exact W.zret (v := 0) hx hb hr (by decide) (fun t9 ht9 _ => ⟨_, rfl, sb_f hn1, ht9⟩) (fun q h => by cases h) dX2_isAfter_47
          · skip
            have hy1 : zAf z k (some b) := Or.inr ⟨heq.symm, Nat.lt_of_not_le (fun q => c39 (nI_le q (by omega)))⟩
            refine lv_iconst (v := 1) hx hb dX2_isAfter_42 (by decide) ?_
            refine lv_goto (tgt := 47) hx hb dX2_isAfter_43 (by decide) ?_
            rw [hQ]
            exact W.zret (v := 1) hx hb hr (by decide) (fun t9 ht9 _ => ⟨_, rfl, sb_t hy1, ht9⟩) (fun q h => by cases h) dX2_isAfter_47
set_option maxHeartbeats 4000000 in
set_option maxRecDepth 100000 in
/-- state -/
theorem kX2_state (l : Launch) (D : va_G) (cy : Nat → ClassId) (lo : Nat) (ad : Nat → Nat) (z : zS) (et : Nat → Nat) (mn : Nat → Int32) (gm : Nat → Nat) (G : Nat → Option va_E) (ch : Nat → List Nat) (hok : zOk z ch) (hy : yOk z ch et mn gm) (t : Nat) (ht : t < zT z) : Met l yX2_state wX2_state { frames := 0, cells := 0, slots := 0, locals := 0 } (pcs D cy lo ad (yC cy ad z et mn gm G) [.ref (ad 1000), .int (nI t)]) (vp_Si (fun r => r = nI (zState z t))) 0 0 (fun _ => False) := by
  refine Met.ofW (cc := cX2_state) (maxL := 4) (ret := (some .int)) (by decide) rfl ?_
  intro p e s m args below meth c s₁ B hml hv
  obtain ⟨rfl, hz, hP, hK⟩ := hv
  have hx := B.exec
  have hb := B.bytes
  have hr := B.returns
  have hts : ∀ w ∈ wA, w.before [.ref (ad 1000), .int (nI t)].toArray s = true := fun w h => atoms_spec (ws := wX2_state) B.pre w (List.mem_cons_of_mem _ h)
  have hown : s.vm.findClass RX2 = some m.cls := findClass_of_methodNamed B.named
  have hlocks := B.notSynchronized
  have hl := lv_entry ([.ref (ad 1000), .int (nI t)]) (n := 4) (Nat.le_of_ble_eq_true rfl)
  rw [lg_entry_eq]
  generalize (lg_sl ([.ref (ad 1000), .int (nI t)]) ++ List.replicate (4 - (lg_sl ([.ref (ad 1000), .int (nI t)])).length) Slot.unset).toArray = ls at hl ⊢
  have hl : lv_has ls 4 [(0, .ref (ad 1000)), (1, .int (nI t))] := hl
  obtain ⟨Q, hQ⟩ : ∃ Q, Q = MQ below (vp_Si (fun r => r = nI (zState z t))) [.ref (ad 1000), .int (nI t)].toArray s 0 0 (fun _ => False) := ⟨_, rfl⟩
  rw [← hQ]
  obtain ⟨hK1, hK20, hL1, hL9, hT32, hE200, hnd, hal, hla, hco, hgr, hch, hlt0, hev, hbf⟩ := id hok
  obtain ⟨hmn, hgm, hgg, het, hcc⟩ := id hy
  have loop : ∀ (d i : Nat), i + d = zT z → ∀ (ls : Array Slot), lv_has ls 4 [(3, .int (nI i)), (2, .int (nI (yCn gm t i))), (0, .ref (ad 1000)), (1, .int (nI t))] → W p l e (headSpec wX2_state { frames := 0, cells := 0, slots := 0, locals := 0 }).room s m [.ref (ad 1000), .int (nI t)].toArray below meth c s.heap [] 0 0 Q (F0 m 4 ls []) := by
    intro d
    induction d with
    | zero =>
      intro i  hid  ls hl
      refine lv_iload_n hx hb dX2_state_4 rfl (lv_at hl 0 rfl) ?_
      refine lv_aload_n hx hb dX2_state_5 rfl (lv_at hl 2 rfl) ?_
      refine mh_get (ci := 2) (v := .int (nI (zT z))) hx hb hts wfX2 hown hK.1 hP 1000 rfl rfl 7 (by decide) (hts _ flX2_49) (fun _ h9 => h9) rfl dX2_state_6 ?_
      refine lv_icmp_ge (tgt := 41) hx hb dX2_state_9 (by decide) (fun c9 => ?_) (fun c9 => ?_)
      · skip
        have hi : i = zT z := by omega
        subst hi
        have hcn := yCn_le gm t (zT z)
        have hst := yCn_st hy ht
        refine lv_iload_n hx hb dX2_state_41 rfl (lv_at hl 1 rfl) ?_
        refine lv_iconst (v := 1) hx hb dX2_state_42 (by decide) ?_
        refine lv_icmp_le (tgt := 50) hx hb dX2_state_43 (by decide) (fun c43 => ?_) (fun c43 => ?_)
        · skip
          have hq := (nI_leI (b := 1) (by omega) (by omega)).mp c43
          rw [if_neg (by omega)] at hst
          refine lv_iconst (v := 0) hx hb dX2_state_50 (by decide) ?_
          rw [hQ]
          exact W.iret (v := 0) hx hb hr (fun t9 ht9 _ => ⟨_, rfl, by rw [← hst]; rfl, ht9⟩) (fun q h => by cases h) dX2_state_51
        · skip
          have hq : 1 < yCn gm t (zT z) := Nat.lt_of_not_le (fun q => c43 (nI_le (b := 1) q (by omega)))
          rw [if_pos hq] at hst
          refine lv_iconst (v := 1) hx hb dX2_state_46 (by decide) ?_
          refine lv_goto (tgt := 51) hx hb dX2_state_47 (by decide) ?_
          rw [hQ]
          exact W.iret (v := 1) hx hb hr (fun t9 ht9 _ => ⟨_, rfl, by rw [← hst]; rfl, ht9⟩) (fun q h => by cases h) dX2_state_51
      · skip
        exact absurd (nI_le (by omega) (by omega)) c9
    | succ d ih =>
      intro i  hid  ls hl
      refine lv_iload_n hx hb dX2_state_4 rfl (lv_at hl 0 rfl) ?_
      refine lv_aload_n hx hb dX2_state_5 rfl (lv_at hl 2 rfl) ?_
      refine mh_get (ci := 2) (v := .int (nI (zT z))) hx hb hts wfX2 hown hK.1 hP 1000 rfl rfl 7 (by decide) (hts _ flX2_49) (fun _ h9 => h9) rfl dX2_state_6 ?_
      refine lv_icmp_ge (tgt := 41) hx hb dX2_state_9 (by decide) (fun c9 => ?_) (fun c9 => ?_)
      · skip
        exact absurd c9 (nI_ge (by omega) (by omega))
      · skip
        have hg1 := hgm i (by omega)
        have hg2 := hgm t ht
        refine lv_iload_n hx hb dX2_state_12 rfl (lv_at hl 1 rfl) ?_
        refine lv_aload_n hx hb dX2_state_13 rfl (lv_at hl 2 rfl) ?_
        refine mh_get (ci := 2) (v := .ref (ad 1005)) hx hb hts wfX2 hown hK.1 hP 1000 rfl rfl 6 (by decide) (hts _ flX2_23) (fun _ h9 => h9) rfl dX2_state_14 ?_
        refine lv_iload_n hx hb dX2_state_17 rfl (lv_at hl 0 rfl) ?_
        refine mh_ialn (i := i) (v := nI (gm i)) hx hb hK.1 hP 1005 0 rfl rfl (by omega) (by decide) dX2_state_18 rfl ?_
        refine lv_aload_n hx hb dX2_state_19 rfl (lv_at hl 2 rfl) ?_
        refine mh_get (ci := 2) (v := .ref (ad 1005)) hx hb hts wfX2 hown hK.1 hP 1000 rfl rfl 6 (by decide) (hts _ flX2_23) (fun _ h9 => h9) rfl dX2_state_20 ?_
        refine lv_iload_n hx hb dX2_state_23 rfl (lv_at hl 3 rfl) ?_
        refine mh_ialn (i := t) (v := nI (gm t)) hx hb hK.1 hP 1005 0 rfl rfl (by omega) (by decide) dX2_state_24 rfl ?_
        refine lv_icmp_ne (tgt := 32) hx hb dX2_state_25 (by decide) (fun c25 => ?_) (fun c25 => ?_)
        · skip
          have hne : ¬ gm i = gm t := fun q => c25 (by rw [q])
          refine lv_iconst (v := 0) hx hb dX2_state_32 (by decide) ?_
          refine lv_iadd hx hb dX2_state_33 ?_
          rw [yCn_z hne]
          refine lv_istore_n (lv' := [(2, .int (nI (yCn gm t (i + 1)))), (3, .int (nI i)), (0, .ref (ad 1000)), (1, .int (nI t))]) hx hb dX2_state_34 rfl hl (by decide) rfl (fun ls hl => ?_)
          obtain ⟨y, ey⟩ : ∃ y : Int32, y = nI i + 1 := ⟨_, rfl⟩
          refine lv_iinc (v := y) (lv' := [(3, .int y), (2, .int (nI (yCn gm t (i + 1)))), (0, .ref (ad 1000)), (1, .int (nI t))]) hx hb dX2_state_35 hl (k := 1) rfl (by rw [ey]; rfl) (by decide) rfl (fun ls hl => ?_)
          refine lv_goto (tgt := 4) hx hb dX2_state_38 (by decide) ?_
          rw [nI_1] at ey
          subst ey
          exact ih (i + 1) (by omega) ls (lv_sub hl [0, 1, 2, 3] rfl)
        · skip
          have heq : gm i = gm t := (nI_eq (by omega) (by omega)).mp c25
          refine lv_iconst (v := 1) hx hb dX2_state_28 (by decide) ?_
          refine lv_goto (tgt := 33) hx hb dX2_state_29 (by decide) ?_
          refine lv_iadd hx hb dX2_state_33 ?_
          rw [yCn_y heq]
          refine lv_istore_n (lv' := [(2, .int (nI (yCn gm t (i + 1)))), (3, .int (nI i)), (0, .ref (ad 1000)), (1, .int (nI t))]) hx hb dX2_state_34 rfl hl (by decide) rfl (fun ls hl => ?_)
          obtain ⟨y, ey⟩ : ∃ y : Int32, y = nI i + 1 := ⟨_, rfl⟩
          refine lv_iinc (v := y) (lv' := [(3, .int y), (2, .int (nI (yCn gm t (i + 1)))), (0, .ref (ad 1000)), (1, .int (nI t))]) hx hb dX2_state_35 hl (k := 1) rfl (by rw [ey]; rfl) (by decide) rfl (fun ls hl => ?_)
          refine lv_goto (tgt := 4) hx hb dX2_state_38 (by decide) ?_
          rw [nI_1] at ey
          subst ey
          exact ih (i + 1) (by omega) ls (lv_sub hl [0, 1, 2, 3] rfl)
  refine lv_iconst (v := 0) hx hb dX2_state_0 (by decide) ?_
  refine lv_istore_n (lv' := [(2, .int 0), (0, .ref (ad 1000)), (1, .int (nI t))]) hx hb dX2_state_1 rfl hl (by decide) rfl (fun ls hl => ?_)
  refine lv_iconst (v := 0) hx hb dX2_state_2 (by decide) ?_
  refine lv_istore_n (lv' := [(3, .int 0), (2, .int 0), (0, .ref (ad 1000)), (1, .int (nI t))]) hx hb dX2_state_3 rfl hl (by decide) rfl (fun ls hl => ?_)
  exact loop (zT z) 0 (Nat.zero_add _) ls (lv_sub hl [0, 1, 2, 3] rfl)
