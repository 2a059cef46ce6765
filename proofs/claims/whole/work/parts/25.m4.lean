set_option maxHeartbeats 4000000 in
set_option maxRecDepth 100000 in
/-- X2_level -/
theorem kX2_level (l : Launch) (D : va_G) (cy : Nat → ClassId) (lo : Nat) (ad : Nat → Nat) (z : zS) (et : Nat → Nat) (mn : Nat → Int32) (gm : Nat → Nat) (G : Nat → Option va_E) (ch : Nat → List Nat) (hok : zOk z ch) (hy : yOk z ch et mn gm) (kt : Int32) (h : Int64)  : Met l yX2_level wX2_level { frames := 4, cells := 0, slots := 0, locals := 104 } (pcs D cy lo ad (yC cy ad z et mn gm G) [.ref (ad 1000), .int kt, .long h]) (vp_Si (fun r => ans (zT z) kt h (fun t j => nI (zGL z ch t j (zT z))) r)) 0 0 (fun _ => False) := by
  refine Met.ofW (cc := cX2_level) (maxL := 4) (ret := (some .int)) (by decide) rfl ?_
  intro p e s m args below meth c s₁ B hml hv
  obtain ⟨rfl, hz, hP, hK⟩ := hv
  have hx := B.exec
  have hb := B.bytes
  have hr := B.returns
  have hts : ∀ w ∈ wA, w.before [.ref (ad 1000), .int kt, .long h].toArray s = true := fun w h => atoms_spec (ws := wX2_level) B.pre w (List.mem_cons_of_mem _ h)
  have hown : s.vm.findClass RX2 = some m.cls := findClass_of_methodNamed B.named
  have hlocks := B.notSynchronized
  have hl := lv_entry ([.ref (ad 1000), .int kt, .long h]) (n := 4) (Nat.le_of_ble_eq_true rfl)
  rw [lg_entry_eq]
  generalize (lg_sl ([.ref (ad 1000), .int kt, .long h]) ++ List.replicate (4 - (lg_sl ([.ref (ad 1000), .int kt, .long h])).length) Slot.unset).toArray = ls at hl ⊢
  have hl : lv_has ls 4 [(0, .ref (ad 1000)), (1, .int kt), (2, .long h)] := hl
  obtain ⟨Q, hQ⟩ : ∃ Q, Q = MQ below (vp_Si (fun r => ans (zT z) kt h (fun t j => nI (zGL z ch t j (zT z))) r)) [.ref (ad 1000), .int kt, .long h].toArray s 0 0 (fun _ => False) := ⟨_, rfl⟩
  rw [← hQ]
  obtain ⟨hK1, hK20, hL1, hL9, hT32, hE200, hnd, hal, hla, hco, hgr, hch, hlt0, hev, hbf⟩ := id hok
  obtain ⟨hmn, hgm, hgg, het, hcc⟩ := id hy
  refine lv_aload_n hx hb dX2_level_0 rfl (lv_at hl 0 rfl) ?_
  refine lv_iload_n hx hb dX2_level_1 rfl (lv_at hl 1 rfl) ?_
  refine rcV (n := 1) (As := [.int kt]) (rest := []) ⟨hx, hb, hml, hown, hts⟩ (kX2_isThing l D cy lo ad z et mn gm G kt ⟨hK20, hL9, hT32⟩) mlX2_63 imX2_isThing seX2_isThing inX2 cdX2_isThing (by decide +kernel) rfl rfl ⟨Nat.le_of_ble_eq_true rfl, Nat.le_of_ble_eq_true rfl⟩ hK hP hz rfl rfl rfl hl.1 rfl (Nat.le_of_ble_eq_true rfl) dX2_level_2 ⟨Nat.zero_le _, Nat.zero_le _⟩ (fun r2 hr2 => ?_)
  refine lv_if_eq (tgt := 24) hx hb dX2_level_5 (by decide) (fun c5 => ?_) (fun c5 => ?_)
  · skip
    have hno : ¬ (isIn kt (zT z) ∧ isHr h) := fun q => sb_0 hr2 c5 q.1
    refine lv_iconst (v := (-1)) hx hb dX2_level_24 (by decide) ?_
    rw [hQ]
    exact W.iret (v := (-1)) hx hb hr (fun t9 ht9 _ => ⟨_, rfl, Or.inr ⟨hno, rfl⟩, ht9⟩) (fun q h => by cases h) dX2_level_25
  · skip
    obtain ⟨t, ht, rfl⟩ := sb_1 hr2 c5
    refine lv_lload_n hx hb dX2_level_8 rfl (lv_at hl 2 rfl) ?_
    refine rcS (n := 1) (As := [.long h]) (rest := []) ⟨hx, hb, hml, hown, hts⟩ (kX2_isHour l D cy lo ad (yC cy ad z et mn gm G) h) mlX2_69 stX2_isHour inX2 cdX2_isHour (by decide +kernel) rfl rfl ⟨Nat.le_of_ble_eq_true rfl, Nat.le_of_ble_eq_true rfl⟩ hK hP hz rfl hl.1 rfl (Nat.le_of_ble_eq_true rfl) dX2_level_9 ⟨Nat.zero_le _, Nat.zero_le _⟩ (fun r9 hr9 => ?_)
    refine lv_if_eq (tgt := 24) hx hb dX2_level_12 (by decide) (fun c12 => ?_) (fun c12 => ?_)
    · skip
      have hno : ¬ (isIn (nI t) (zT z) ∧ isHr h) := fun q => sb_0 hr9 c12 q.2
      refine lv_iconst (v := (-1)) hx hb dX2_level_24 (by decide) ?_
      rw [hQ]
      exact W.iret (v := (-1)) hx hb hr (fun t9 ht9 _ => ⟨_, rfl, Or.inr ⟨hno, rfl⟩, ht9⟩) (fun q h => by cases h) dX2_level_25
    · skip
      obtain ⟨j, hj, rfl⟩ := sb_1 hr9 c12
      refine lv_aload_n hx hb dX2_level_15 rfl (lv_at hl 0 rfl) ?_
      refine lv_iload_n hx hb dX2_level_16 rfl (lv_at hl 1 rfl) ?_
      refine lv_lload_n hx hb dX2_level_17 rfl (lv_at hl 2 rfl) ?_
      refine rcV (n := 2) (As := [.int (nI t), .long (lN j)]) (rest := []) ⟨hx, hb, hml, hown, hts⟩ (kX2_levelOfGroup l D cy lo ad z et mn gm G ch hok hy t j ht hj) mlX2_100 imX2_levelOfGroup seX2_levelOfGroup inX2 cdX2_levelOfGroup (by decide +kernel) rfl rfl ⟨Nat.le_of_ble_eq_true rfl, Nat.le_of_ble_eq_true rfl⟩ hK hP hz rfl rfl rfl hl.1 rfl (Nat.le_of_ble_eq_true rfl) dX2_level_18 ⟨Nat.zero_le _, Nat.zero_le _⟩ (fun r18 hr18 => ?_)
      subst hr18
      refine lv_goto (tgt := 25) hx hb dX2_level_21 (by decide) ?_
      rw [hQ]
      exact W.iret (v := nI (zGL z ch t j (zT z))) hx hb hr (fun t9 ht9 _ => ⟨_, rfl, Or.inl ⟨t, j, ht, rfl, hj, rfl, rfl⟩, ht9⟩) (fun q h => by cases h) dX2_level_25
set_option maxHeartbeats 4000000 in
set_option maxRecDepth 100000 in
/-- X2_may -/
theorem kX2_may (l : Launch) (D : va_G) (cy : Nat → ClassId) (lo : Nat) (ad : Nat → Nat) (z : zS) (et : Nat → Nat) (mn : Nat → Int32) (gm : Nat → Nat) (G : Nat → Option va_E) (ch : Nat → List Nat) (hok : zOk z ch) (hy : yOk z ch et mn gm) (kt : Int32) (h : Int64) (kk : Int32) (ok : Option Nat) (hk : isOp kk (zK z) ok) : Met l yX2_may wX2_may { frames := 4, cells := 0, slots := 0, locals := 104 } (pcs D cy lo ad (yC cy ad z et mn gm G) [.ref (ad 1000), .int kt, .int kk, .long h]) (vp_Si (fun r => ans (zT z) kt h (fun t j => if zGN z (fun e => zLO z j (ch e)) ok t (zT z) ≤ zGL z ch t j (zT z) then 1 else 0) r)) 0 0 (fun _ => False) := by
  refine Met.ofW (cc := cX2_may) (maxL := 5) (ret := (some .int)) (by decide) rfl ?_
  intro p e s m args below meth c s₁ B hml hv
  obtain ⟨rfl, hz, hP, hK⟩ := hv
  have hx := B.exec
  have hb := B.bytes
  have hr := B.returns
  have hts : ∀ w ∈ wA, w.before [.ref (ad 1000), .int kt, .int kk, .long h].toArray s = true := fun w h => atoms_spec (ws := wX2_may) B.pre w (List.mem_cons_of_mem _ h)
  have hown : s.vm.findClass RX2 = some m.cls := findClass_of_methodNamed B.named
  have hlocks := B.notSynchronized
  have hl := lv_entry ([.ref (ad 1000), .int kt, .int kk, .long h]) (n := 5) (Nat.le_of_ble_eq_true rfl)
  rw [lg_entry_eq]
  generalize (lg_sl ([.ref (ad 1000), .int kt, .int kk, .long h]) ++ List.replicate (5 - (lg_sl ([.ref (ad 1000), .int kt, .int kk, .long h])).length) Slot.unset).toArray = ls at hl ⊢
  have hl : lv_has ls 5 [(0, .ref (ad 1000)), (1, .int kt), (2, .int kk), (3, .long h)] := hl
  obtain ⟨Q, hQ⟩ : ∃ Q, Q = MQ below (vp_Si (fun r => ans (zT z) kt h (fun t j => if zGN z (fun e => zLO z j (ch e)) ok t (zT z) ≤ zGL z ch t j (zT z) then 1 else 0) r)) [.ref (ad 1000), .int kt, .int kk, .long h].toArray s 0 0 (fun _ => False) := ⟨_, rfl⟩
  rw [← hQ]
  obtain ⟨hK1, hK20, hL1, hL9, hT32, hE200, hnd, hal, hla, hco, hgr, hch, hlt0, hev, hbf⟩ := id hok
  obtain ⟨hmn, hgm, hgg, het, hcc⟩ := id hy
  refine lv_aload_n hx hb dX2_may_0 rfl (lv_at hl 0 rfl) ?_
  refine lv_iload_n hx hb dX2_may_1 rfl (lv_at hl 1 rfl) ?_
  refine rcV (n := 1) (As := [.int kt]) (rest := []) ⟨hx, hb, hml, hown, hts⟩ (kX2_isThing l D cy lo ad z et mn gm G kt ⟨hK20, hL9, hT32⟩) mlX2_63 imX2_isThing seX2_isThing inX2 cdX2_isThing (by decide +kernel) rfl rfl ⟨Nat.le_of_ble_eq_true rfl, Nat.le_of_ble_eq_true rfl⟩ hK hP hz rfl rfl rfl hl.1 rfl (Nat.le_of_ble_eq_true rfl) dX2_may_2 ⟨Nat.zero_le _, Nat.zero_le _⟩ (fun r2 hr2 => ?_)
  refine lv_if_eq (tgt := 15) hx hb dX2_may_5 (by decide) (fun c5 => ?_) (fun c5 => ?_)
  · skip
    have hno : ¬ (isIn kt (zT z) ∧ isHr h) := fun q => sb_0 hr2 c5 q.1
    refine lv_iconst (v := (-1)) hx hb dX2_may_15 (by decide) ?_
    rw [hQ]
    exact W.iret (v := (-1)) hx hb hr (fun t9 ht9 _ => ⟨_, rfl, Or.inr ⟨hno, rfl⟩, ht9⟩) (fun q h => by cases h) dX2_may_16
  · skip
    obtain ⟨t, ht, rfl⟩ := sb_1 hr2 c5
    refine lv_lload_n hx hb dX2_may_8 rfl (lv_at hl 3 rfl) ?_
    refine rcS (n := 1) (As := [.long h]) (rest := []) ⟨hx, hb, hml, hown, hts⟩ (kX2_isHour l D cy lo ad (yC cy ad z et mn gm G) h) mlX2_69 stX2_isHour inX2 cdX2_isHour (by decide +kernel) rfl rfl ⟨Nat.le_of_ble_eq_true rfl, Nat.le_of_ble_eq_true rfl⟩ hK hP hz rfl hl.1 rfl (Nat.le_of_ble_eq_true rfl) dX2_may_9 ⟨Nat.zero_le _, Nat.zero_le _⟩ (fun r9 hr9 => ?_)
    refine lv_if_ne (tgt := 17) hx hb dX2_may_12 (by decide) (fun c12 => ?_) (fun c12 => ?_)
    · skip
      obtain ⟨j, hj, rfl⟩ := sb_1 hr9 c12
      refine lv_aload_n hx hb dX2_may_17 rfl (lv_at hl 0 rfl) ?_
      refine lv_iload_n hx hb dX2_may_18 rfl (lv_at hl 1 rfl) ?_
      refine lv_lload_n hx hb dX2_may_19 rfl (lv_at hl 3 rfl) ?_
      refine rcV (n := 2) (As := [.int (nI t), .long (lN j)]) (rest := []) ⟨hx, hb, hml, hown, hts⟩ (kX2_levelOfGroup l D cy lo ad z et mn gm G ch hok hy t j ht hj) mlX2_100 imX2_levelOfGroup seX2_levelOfGroup inX2 cdX2_levelOfGroup (by decide +kernel) rfl rfl ⟨Nat.le_of_ble_eq_true rfl, Nat.le_of_ble_eq_true rfl⟩ hK hP hz rfl rfl rfl hl.1 rfl (Nat.le_of_ble_eq_true rfl) dX2_may_20 ⟨Nat.zero_le _, Nat.zero_le _⟩ (fun r20 hr20 => ?_)
      subst hr20
      refine lv_aload_n hx hb dX2_may_23 rfl (lv_at hl 0 rfl) ?_
      refine lv_iload_n hx hb dX2_may_24 rfl (lv_at hl 1 rfl) ?_
      refine lv_iload_n hx hb dX2_may_25 rfl (lv_at hl 2 rfl) ?_
      refine lv_lload_n hx hb dX2_may_26 rfl (lv_at hl 3 rfl) ?_
      refine rcV (n := 3) (As := [.int (nI t), .int kk, .long (lN j)]) (rest := [.int (nI (zGL z ch t j (zT z)))]) ⟨hx, hb, hml, hown, hts⟩ (kX2_needed l D cy lo ad z et mn gm G ch hok hy t j kk ok hk ht hj) mlX2_103 imX2_needed seX2_needed inX2 cdX2_needed (by decide +kernel) rfl rfl ⟨Nat.le_of_ble_eq_true rfl, Nat.le_of_ble_eq_true rfl⟩ hK hP hz rfl rfl rfl hl.1 rfl (Nat.le_of_ble_eq_true rfl) dX2_may_27 ⟨Nat.zero_le _, Nat.zero_le _⟩ (fun r27 hr27 => ?_)
      subst hr27
      have hb1 := zGL_le z ch t j (zT z)
      have hb2 : zGN z (fun e => zLO z j (ch e)) ok t (zT z) ≤ zL z := zGN_le _ (fun e he => zNB_le hnd (zLO_op hK20 (fun k hk => (hev k hk).2.2.2) j (ch e) (zLt z e) (hch e he)) hk)
      refine lv_icmp_lt (tgt := 37) hx hb dX2_may_30 (by decide) (fun c30 => ?_) (fun c30 => ?_)
      · skip
        have hq : ¬ zGN z (fun e => zLO z j (ch e)) ok t (zT z) ≤ zGL z ch t j (zT z) := fun q => nI_nlt q (by omega) c30
        refine lv_iconst (v := 0) hx hb dX2_may_37 (by decide) ?_
        rw [hQ]
        exact W.iret (v := 0) hx hb hr (fun t9 ht9 _ => ⟨_, rfl, Or.inl ⟨t, j, ht, rfl, hj, rfl, (if_neg hq).symm⟩, ht9⟩) (fun q h => by cases h) dX2_may_38
      · skip
        have hq : zGN z (fun e => zLO z j (ch e)) ok t (zT z) ≤ zGL z ch t j (zT z) := Nat.le_of_not_lt (fun q => c30 (nI_lt q (by omega)))
        refine lv_iconst (v := 1) hx hb dX2_may_33 (by decide) ?_
        refine lv_goto (tgt := 38) hx hb dX2_may_34 (by decide) ?_
        rw [hQ]
        exact W.iret (v := 1) hx hb hr (fun t9 ht9 _ => ⟨_, rfl, Or.inl ⟨t, j, ht, rfl, hj, rfl, (if_pos hq).symm⟩, ht9⟩) (fun q h => by cases h) dX2_may_38
    · skip
      have hno : ¬ (isIn (nI t) (zT z) ∧ isHr h) := fun q => sb_0 hr9 c12 q.2
      refine lv_iconst (v := (-1)) hx hb dX2_may_15 (by decide) ?_
      rw [hQ]
      exact W.iret (v := (-1)) hx hb hr (fun t9 ht9 _ => ⟨_, rfl, Or.inr ⟨hno, rfl⟩, ht9⟩) (fun q h => by cases h) dX2_may_16
set_option maxHeartbeats 4000000 in
set_option maxRecDepth 100000 in
/-- X2_least -/
theorem kX2_least (l : Launch) (D : va_G) (cy : Nat → ClassId) (lo : Nat) (ad : Nat → Nat) (z : zS) (et : Nat → Nat) (mn : Nat → Int32) (gm : Nat → Nat) (G : Nat → Option va_E) (ch : Nat → List Nat) (hok : zOk z ch) (hy : yOk z ch et mn gm) (kt : Int32) (h : Int64) (kk : Int32) (ok : Option Nat) (hk : isOp kk (zK z) ok) : Met l yX2_least wX2_least { frames := 4, cells := 0, slots := 0, locals := 104 } (pcs D cy lo ad (yC cy ad z et mn gm G) [.ref (ad 1000), .int kt, .int kk, .long h]) (vp_Si (fun r => ans (zT z) kt h (fun t j => if zGN z (fun e => zLO z j (ch e)) ok t (zT z) ≤ zGL z ch t j (zT z) then 0 else nI (zCh z (zGN z (fun e => zLO z j (ch e)) ok t (zT z)) (zL z - zGN z (fun e => zLO z j (ch e)) ok t (zT z)))) r)) 0 0 (fun _ => False) := by
  refine Met.ofW (cc := cX2_least) (maxL := 8) (ret := (some .int)) (by decide) rfl ?_
  intro p e s m args below meth c s₁ B hml hv
  obtain ⟨rfl, hz, hP, hK⟩ := hv
  have hx := B.exec
  have hb := B.bytes
  have hr := B.returns
  have hts : ∀ w ∈ wA, w.before [.ref (ad 1000), .int kt, .int kk, .long h].toArray s = true := fun w h => atoms_spec (ws := wX2_least) B.pre w (List.mem_cons_of_mem _ h)
  have hown : s.vm.findClass RX2 = some m.cls := findClass_of_methodNamed B.named
  have hlocks := B.notSynchronized
  have hl := lv_entry ([.ref (ad 1000), .int kt, .int kk, .long h]) (n := 8) (Nat.le_of_ble_eq_true rfl)
  rw [lg_entry_eq]
  generalize (lg_sl ([.ref (ad 1000), .int kt, .int kk, .long h]) ++ List.replicate (8 - (lg_sl ([.ref (ad 1000), .int kt, .int kk, .long h])).length) Slot.unset).toArray = ls at hl ⊢
  have hl : lv_has ls 8 [(0, .ref (ad 1000)), (1, .int kt), (2, .int kk), (3, .long h)] := hl
  obtain ⟨Q, hQ⟩ : ∃ Q, Q = MQ below (vp_Si (fun r => ans (zT z) kt h (fun t j => if zGN z (fun e => zLO z j (ch e)) ok t (zT z) ≤ zGL z ch t j (zT z) then 0 else nI (zCh z (zGN z (fun e => zLO z j (ch e)) ok t (zT z)) (zL z - zGN z (fun e => zLO z j (ch e)) ok t (zT z)))) r)) [.ref (ad 1000), .int kt, .int kk, .long h].toArray s 0 0 (fun _ => False) := ⟨_, rfl⟩
  rw [← hQ]
  obtain ⟨hK1, hK20, hL1, hL9, hT32, hE200, hnd, hal, hla, hco, hgr, hch, hlt0, hev, hbf⟩ := id hok
  obtain ⟨hmn, hgm, hgg, het, hcc⟩ := id hy
  refine lv_aload_n hx hb dX2_least_0 rfl (lv_at hl 0 rfl) ?_
  refine lv_iload_n hx hb dX2_least_1 rfl (lv_at hl 1 rfl) ?_
  refine rcV (n := 1) (As := [.int kt]) (rest := []) ⟨hx, hb, hml, hown, hts⟩ (kX2_isThing l D cy lo ad z et mn gm G kt ⟨hK20, hL9, hT32⟩) mlX2_63 imX2_isThing seX2_isThing inX2 cdX2_isThing (by decide +kernel) rfl rfl ⟨Nat.le_of_ble_eq_true rfl, Nat.le_of_ble_eq_true rfl⟩ hK hP hz rfl rfl rfl hl.1 rfl (Nat.le_of_ble_eq_true rfl) dX2_least_2 ⟨Nat.zero_le _, Nat.zero_le _⟩ (fun r2 hr2 => ?_)
  refine lv_if_eq (tgt := 15) hx hb dX2_least_5 (by decide) (fun c5 => ?_) (fun c5 => ?_)
  · skip
    have hno : ¬ (isIn kt (zT z) ∧ isHr h) := fun q => sb_0 hr2 c5 q.1
    refine lv_iconst (v := (-1)) hx hb dX2_least_15 (by decide) ?_
    rw [hQ]
    exact W.iret (v := (-1)) hx hb hr (fun t9 ht9 _ => ⟨_, rfl, Or.inr ⟨hno, rfl⟩, ht9⟩) (fun q h => by cases h) dX2_least_16
  · skip
    obtain ⟨t, ht, rfl⟩ := sb_1 hr2 c5
    refine lv_lload_n hx hb dX2_least_8 rfl (lv_at hl 3 rfl) ?_
    refine rcS (n := 1) (As := [.long h]) (rest := []) ⟨hx, hb, hml, hown, hts⟩ (kX2_isHour l D cy lo ad (yC cy ad z et mn gm G) h) mlX2_69 stX2_isHour inX2 cdX2_isHour (by decide +kernel) rfl rfl ⟨Nat.le_of_ble_eq_true rfl, Nat.le_of_ble_eq_true rfl⟩ hK hP hz rfl hl.1 rfl (Nat.le_of_ble_eq_true rfl) dX2_least_9 ⟨Nat.zero_le _, Nat.zero_le _⟩ (fun r9 hr9 => ?_)
    refine lv_if_ne (tgt := 17) hx hb dX2_least_12 (by decide) (fun c12 => ?_) (fun c12 => ?_)
    · skip
      obtain ⟨j, hj, rfl⟩ := sb_1 hr9 c12
      refine lv_aload_n hx hb dX2_least_17 rfl (lv_at hl 0 rfl) ?_
      refine lv_iload_n hx hb dX2_least_18 rfl (lv_at hl 1 rfl) ?_
      refine lv_iload_n hx hb dX2_least_19 rfl (lv_at hl 2 rfl) ?_
      refine lv_lload_n hx hb dX2_least_20 rfl (lv_at hl 3 rfl) ?_
      refine rcV (n := 3) (As := [.int (nI t), .int kk, .long (lN j)]) (rest := []) ⟨hx, hb, hml, hown, hts⟩ (kX2_needed l D cy lo ad z et mn gm G ch hok hy t j kk ok hk ht hj) mlX2_103 imX2_needed seX2_needed inX2 cdX2_needed (by decide +kernel) rfl rfl ⟨Nat.le_of_ble_eq_true rfl, Nat.le_of_ble_eq_true rfl⟩ hK hP hz rfl rfl rfl hl.1 rfl (Nat.le_of_ble_eq_true rfl) dX2_least_21 ⟨Nat.zero_le _, Nat.zero_le _⟩ (fun r21 hr21 => ?_)
      subst hr21
      have hb1 := zGL_le z ch t j (zT z)
      have hb2 : zGN z (fun e => zLO z j (ch e)) ok t (zT z) ≤ zL z := zGN_le _ (fun e he => zNB_le hnd (zLO_op hK20 (fun k hk => (hev k hk).2.2.2) j (ch e) (zLt z e) (hch e he)) hk)
      refine lv_istore (lv' := [(5, .int (nI (zGN z (fun e => zLO z j (ch e)) ok t (zT z)))), (0, .ref (ad 1000)), (1, .int (nI t)), (2, .int kk), (3, .long (lN j))]) hx hb dX2_least_24 hl (by decide) rfl (fun ls hl => ?_)
      refine lv_aload_n hx hb dX2_least_26 rfl (lv_at hl 1 rfl) ?_
      refine lv_iload_n hx hb dX2_least_27 rfl (lv_at hl 2 rfl) ?_
      refine lv_lload_n hx hb dX2_least_28 rfl (lv_at hl 4 rfl) ?_
      refine rcV (n := 2) (As := [.int (nI t), .long (lN j)]) (rest := []) ⟨hx, hb, hml, hown, hts⟩ (kX2_levelOfGroup l D cy lo ad z et mn gm G ch hok hy t j ht hj) mlX2_100 imX2_levelOfGroup seX2_levelOfGroup inX2 cdX2_levelOfGroup (by decide +kernel) rfl rfl ⟨Nat.le_of_ble_eq_true rfl, Nat.le_of_ble_eq_true rfl⟩ hK hP hz rfl rfl rfl hl.1 rfl (Nat.le_of_ble_eq_true rfl) dX2_least_29 ⟨Nat.zero_le _, Nat.zero_le _⟩ (fun r29 hr29 => ?_)
      subst hr29
      refine lv_iload hx hb dX2_least_32 (lv_at hl 0 rfl) ?_
      refine lv_icmp_lt (tgt := 39) hx hb dX2_least_34 (by decide) (fun c34 => ?_) (fun c34 => ?_)
      · skip
        have hq : ¬ zGN z (fun e => zLO z j (ch e)) ok t (zT z) ≤ zGL z ch t j (zT z) := fun q => nI_nlt q (by omega) c34
        refine lv_iload hx hb dX2_least_39 (lv_at hl 0 rfl) ?_
        refine lv_istore (lv' := [(6, .int (nI (zGN z (fun e => zLO z j (ch e)) ok t (zT z)))), (5, .int (nI (zGN z (fun e => zLO z j (ch e)) ok t (zT z)))), (0, .ref (ad 1000)), (1, .int (nI t)), (2, .int kk), (3, .long (lN j))]) hx hb dX2_least_41 hl (by decide) rfl (fun ls hl => ?_)
        refine lv_iload hx hb dX2_least_43 (lv_at hl 1 rfl) ?_
        refine lv_istore (lv' := [(7, .int (nI (zGN z (fun e => zLO z j (ch e)) ok t (zT z)))), (6, .int (nI (zGN z (fun e => zLO z j (ch e)) ok t (zT z)))), (5, .int (nI (zGN z (fun e => zLO z j (ch e)) ok t (zT z)))), (0, .ref (ad 1000)), (1, .int (nI t)), (2, .int kk), (3, .long (lN j))]) hx hb dX2_least_45 hl (by decide) rfl (fun ls hl => ?_)
        have loop : ∀ (d i : Nat), i + d = zL z + 1 - zGN z (fun e => zLO z j (ch e)) ok t (zT z) → ∀ (ls : Array Slot), lv_has ls 8 [(7, .int (nI (zGN z (fun e => zLO z j (ch e)) ok t (zT z) + i))), (6, .int (nI (zCh z (zGN z (fun e => zLO z j (ch e)) ok t (zT z)) (i - 1)))), (5, .int (nI (zGN z (fun e => zLO z j (ch e)) ok t (zT z)))), (0, .ref (ad 1000)), (1, .int (nI t)), (2, .int kk), (3, .long (lN j))] → W p l e (headSpec wX2_least { frames := 4, cells := 0, slots := 0, locals := 104 }).room s m [.ref (ad 1000), .int (nI t), .int kk, .long (lN j)].toArray below meth c s.heap [] 0 0 Q (F0 m 47 ls []) := by
          intro d
          induction d with
          | zero =>
            intro i  hid  ls hl
            refine lv_iload hx hb dX2_least_47 (lv_at hl 0 rfl) ?_
            refine lv_aload_n hx hb dX2_least_49 rfl (lv_at hl 3 rfl) ?_
            refine mh_get (ci := 2) (v := .int (nI (zL z))) hx hb hts wfX2 hown hK.1 hP 1000 rfl rfl 1 (by decide) (hts _ flX2_46) (fun _ h9 => h9) rfl dX2_least_50 ?_
            refine lv_icmp_gt (tgt := 89) hx hb dX2_least_53 (by decide) (fun c53 => ?_) (fun c53 => ?_)
            · skip
              refine lv_iload hx hb dX2_least_89 (lv_at hl 1 rfl) ?_
              rw [hQ]
              exact W.iret (v := nI (zCh z (zGN z (fun e => zLO z j (ch e)) ok t (zT z)) (i - 1))) hx hb hr (fun t9 ht9 _ => ⟨_, rfl, Or.inl ⟨t, j, ht, rfl, hj, rfl, by
                show nI (zCh z (zGN z (fun e => zLO z j (ch e)) ok t (zT z)) (i - 1)) = if _ then _ else _
                rw [if_neg hq, show i - 1 = zL z - zGN z (fun e => zLO z j (ch e)) ok t (zT z) by omega]⟩, ht9⟩) (fun q h => by cases h) dX2_least_91
            · skip
              exact absurd (nI_lt (by omega) (by omega)) c53
          | succ d ih =>
            intro i  hid  ls hl
            refine lv_iload hx hb dX2_least_47 (lv_at hl 0 rfl) ?_
            refine lv_aload_n hx hb dX2_least_49 rfl (lv_at hl 3 rfl) ?_
            refine mh_get (ci := 2) (v := .int (nI (zL z))) hx hb hts wfX2 hown hK.1 hP 1000 rfl rfl 1 (by decide) (hts _ flX2_46) (fun _ h9 => h9) rfl dX2_least_50 ?_
            refine lv_icmp_gt (tgt := 89) hx hb dX2_least_53 (by decide) (fun c53 => ?_) (fun c53 => ?_)
            · skip
              exact absurd c53 (nI_nlt (by omega) (by omega))
            · skip
              have hci := zCh_in z (zGN z (fun e => zLO z j (ch e)) ok t (zT z)) (i - 1)
              have hc1 := hco (zGN z (fun e => zLO z j (ch e)) ok t (zT z) + i)
              have hc2 := hco (zCh z (zGN z (fun e => zLO z j (ch e)) ok t (zT z)) (i - 1))
              have hzm := zChM (z := z) (n := zGN z (fun e => zLO z j (ch e)) ok t (zT z)) i
              refine lv_aload_n hx hb dX2_least_56 rfl (lv_at hl 3 rfl) ?_
              refine mh_get (ci := 2) (v := .ref (ad 1004)) hx hb hts wfX2 hown hK.1 hP 1000 rfl rfl 5 (by decide) (hts _ flX2_19) (fun _ h9 => h9) rfl dX2_least_57 ?_
              refine lv_iload hx hb dX2_least_60 (lv_at hl 0 rfl) ?_
              refine mh_laln (i := zGN z (fun e => zLO z j (ch e)) ok t (zT z) + i) (v := lN (zCo z (zGN z (fun e => zLO z j (ch e)) ok t (zT z) + i))) hx hb hK.1 hP 1004 1 rfl rfl (by omega) (by decide) dX2_least_62 rfl ?_
              refine lv_aload_n hx hb dX2_least_63 rfl (lv_at hl 3 rfl) ?_
              refine mh_get (ci := 2) (v := .ref (ad 1004)) hx hb hts wfX2 hown hK.1 hP 1000 rfl rfl 5 (by decide) (hts _ flX2_19) (fun _ h9 => h9) rfl dX2_least_64 ?_
              refine lv_iload hx hb dX2_least_67 (lv_at hl 1 rfl) ?_
              refine mh_laln (i := zCh z (zGN z (fun e => zLO z j (ch e)) ok t (zT z)) (i - 1)) (v := lN (zCo z (zCh z (zGN z (fun e => zLO z j (ch e)) ok t (zT z)) (i - 1)))) hx hb hK.1 hP 1004 1 rfl rfl (by omega) (by decide) dX2_least_69 rfl ?_
              refine W.lcmp hx hb dX2_least_70 ?_
              refine lv_if_ge (tgt := 79) hx hb dX2_least_71 (by decide) (fun c71 => ?_) (fun c71 => ?_)
              · skip
                have hge := (lN_le (by omega) (by omega)).mp ((lg_cmp_ge _ _).mp c71)
                rw [if_neg (by omega)] at hzm
                have hl : lv_has ls 8 [(7, .int (nI (zGN z (fun e => zLO z j (ch e)) ok t (zT z) + i))), (6, .int (nI (zCh z (zGN z (fun e => zLO z j (ch e)) ok t (zT z)) (i + 1 - 1)))), (5, .int (nI (zGN z (fun e => zLO z j (ch e)) ok t (zT z)))), (0, .ref (ad 1000)), (1, .int (nI t)), (2, .int kk), (3, .long (lN j))] := by rw [Nat.add_sub_cancel, ← hzm]; exact hl
                refine lv_iload hx hb dX2_least_79 (lv_at hl 1 rfl) ?_
                refine lv_istore (lv' := [(6, .int (nI (zCh z (zGN z (fun e => zLO z j (ch e)) ok t (zT z)) (i + 1 - 1)))), (7, .int (nI (zGN z (fun e => zLO z j (ch e)) ok t (zT z) + i))), (5, .int (nI (zGN z (fun e => zLO z j (ch e)) ok t (zT z)))), (0, .ref (ad 1000)), (1, .int (nI t)), (2, .int kk), (3, .long (lN j))]) hx hb dX2_least_81 hl (by decide) rfl (fun ls hl => ?_)
                obtain ⟨y, ey⟩ : ∃ y : Int32, y = nI (zGN z (fun e => zLO z j (ch e)) ok t (zT z) + i) + 1 := ⟨_, rfl⟩
                refine lv_iinc (v := y) (lv' := [(7, .int y), (6, .int (nI (zCh z (zGN z (fun e => zLO z j (ch e)) ok t (zT z)) (i + 1 - 1)))), (5, .int (nI (zGN z (fun e => zLO z j (ch e)) ok t (zT z)))), (0, .ref (ad 1000)), (1, .int (nI t)), (2, .int kk), (3, .long (lN j))]) hx hb dX2_least_83 hl (k := 1) rfl (by rw [ey]; rfl) (by decide) rfl (fun ls hl => ?_)
                refine lv_goto (tgt := 47) hx hb dX2_least_86 (by decide) ?_
                rw [nI_1] at ey
                subst ey
                exact ih (i + 1) (by omega) ls (lv_sub hl [0, 1, 2, 3, 4, 5, 6] rfl)
              · skip
                have hlt := Nat.lt_of_not_le (fun q => c71 ((lg_cmp_ge _ _).mpr ((lN_le (by omega) (by omega)).mpr q)))
                rw [if_pos hlt] at hzm
                refine lv_iload hx hb dX2_least_74 (lv_at hl 0 rfl) ?_
                refine lv_goto (tgt := 81) hx hb dX2_least_76 (by decide) ?_
                refine W.eq (g2 := F0 m 81 ls [.int (nI (zCh z (zGN z (fun e => zLO z j (ch e)) ok t (zT z)) (i + 1 - 1)))]) (by rw [Nat.add_sub_cancel, ← hzm]) ?_
                refine lv_istore (lv' := [(6, .int (nI (zCh z (zGN z (fun e => zLO z j (ch e)) ok t (zT z)) (i + 1 - 1)))), (7, .int (nI (zGN z (fun e => zLO z j (ch e)) ok t (zT z) + i))), (5, .int (nI (zGN z (fun e => zLO z j (ch e)) ok t (zT z)))), (0, .ref (ad 1000)), (1, .int (nI t)), (2, .int kk), (3, .long (lN j))]) hx hb dX2_least_81 hl (by decide) rfl (fun ls hl => ?_)
                obtain ⟨y, ey⟩ : ∃ y : Int32, y = nI (zGN z (fun e => zLO z j (ch e)) ok t (zT z) + i) + 1 := ⟨_, rfl⟩
                refine lv_iinc (v := y) (lv' := [(7, .int y), (6, .int (nI (zCh z (zGN z (fun e => zLO z j (ch e)) ok t (zT z)) (i + 1 - 1)))), (5, .int (nI (zGN z (fun e => zLO z j (ch e)) ok t (zT z)))), (0, .ref (ad 1000)), (1, .int (nI t)), (2, .int kk), (3, .long (lN j))]) hx hb dX2_least_83 hl (k := 1) rfl (by rw [ey]; rfl) (by decide) rfl (fun ls hl => ?_)
                refine lv_goto (tgt := 47) hx hb dX2_least_86 (by decide) ?_
                rw [nI_1] at ey
                subst ey
                exact ih (i + 1) (by omega) ls (lv_sub hl [0, 1, 2, 3, 4, 5, 6] rfl)
        exact loop (zL z + 1 - zGN z (fun e => zLO z j (ch e)) ok t (zT z)) 0 (Nat.zero_add _) ls (lv_sub hl [0, 1, 2, 3, 4, 5, 6] rfl)
      · skip
        have hq : zGN z (fun e => zLO z j (ch e)) ok t (zT z) ≤ zGL z ch t j (zT z) := Nat.le_of_not_lt (fun q => c34 (nI_lt q (by omega)))
        refine lv_iconst (v := 0) hx hb dX2_least_37 (by decide) ?_
        rw [hQ]
        exact W.iret (v := 0) hx hb hr (fun t9 ht9 _ => ⟨_, rfl, Or.inl ⟨t, j, ht, rfl, hj, rfl, (if_pos hq).symm⟩, ht9⟩) (fun q h => by cases h) dX2_least_38
    · skip
      have hno : ¬ (isIn (nI t) (zT z) ∧ isHr h) := fun q => sb_0 hr9 c12 q.2
      refine lv_iconst (v := (-1)) hx hb dX2_least_15 (by decide) ?_
      rw [hQ]
      exact W.iret (v := (-1)) hx hb hr (fun t9 ht9 _ => ⟨_, rfl, Or.inr ⟨hno, rfl⟩, ht9⟩) (fun q h => by cases h) dX2_least_16
