set_option maxHeartbeats 4000000 in
set_option maxRecDepth 100000 in
/-- takesNext -/
theorem kX1_takesNext (l : Launch) (D : va_G) (cy : Nat → ClassId) (lo : Nat) (ad : Nat → Nat) (z : zS) (F : Nat → Option va_E) (ch : Nat → List Nat) (hok : zOk z ch) (kt : Int32) (h : Int64) : Met l yX1_takesNext wX1_takesNext { frames := 1, cells := 0, slots := 0, locals := 21 } (pcs D cy lo ad (zC cy ad z F) [.ref (ad 0), .int kt, .long h]) (vp_Si (fun r => sb r (∃ t j, t < zT z ∧ kt = nI t ∧ j ≤ 1000000 ∧ h = lN j ∧ zE z < 200 ∧ zNx z ch t j))) 0 0 (fun _ => False) := by
  refine Met.ofW (cc := cX1_takesNext) (maxL := 5) (ret := (some .boolean)) (by decide) rfl ?_
  intro p e s m args below meth c s₁ B hml hv
  obtain ⟨rfl, hz, hP, hK⟩ := hv
  have hx := B.exec
  have hb := B.bytes
  have hr := B.returns
  have hts : ∀ w ∈ wA, w.before [.ref (ad 0), .int kt, .long h].toArray s = true := fun w h => atoms_spec (ws := wX1_takesNext) B.pre w (List.mem_cons_of_mem _ h)
  have hown : s.vm.findClass RX1 = some m.cls := findClass_of_methodNamed B.named
  have hlocks := B.notSynchronized
  have hl := lv_entry ([.ref (ad 0), .int kt, .long h]) (n := 5) (Nat.le_of_ble_eq_true rfl)
  rw [lg_entry_eq]
  generalize (lg_sl ([.ref (ad 0), .int kt, .long h]) ++ List.replicate (5 - (lg_sl ([.ref (ad 0), .int kt, .long h])).length) Slot.unset).toArray = ls at hl ⊢
  have hl : lv_has ls 5 [(0, .ref (ad 0)), (1, .int kt), (2, .long h)] := hl
  obtain ⟨Q, hQ⟩ : ∃ Q, Q = MQ below (vp_Si (fun r => sb r (∃ t j, t < zT z ∧ kt = nI t ∧ j ≤ 1000000 ∧ h = lN j ∧ zE z < 200 ∧ zNx z ch t j))) [.ref (ad 0), .int kt, .long h].toArray s 0 0 (fun _ => False) := ⟨_, rfl⟩
  rw [← hQ]
  obtain ⟨hK1, hK20, hL1, hL9, hT32, hE200, hnd, hal, hla, hco, hgr, hch, hlt0, hev, hbf⟩ := id hok
  refine lv_aload_n hx hb dX1_takesNext_0 rfl (lv_at hl 0 rfl) ?_
  refine lv_iload_n hx hb dX1_takesNext_1 rfl (lv_at hl 1 rfl) ?_
  refine rcV (n := 1) (As := [.int kt]) (rest := []) ⟨hx, hb, hml, hown, hts⟩ (kX1_isThing l D cy lo ad z F kt ⟨hK20, hL9, hT32⟩) mlX1_70 imX1_isThing seX1_isThing inX1 cdX1_isThing (by decide +kernel) rfl rfl ⟨Nat.le_of_ble_eq_true rfl, Nat.le_of_ble_eq_true rfl⟩ hK hP hz rfl rfl rfl hl.1 rfl (Nat.le_of_ble_eq_true rfl) dX1_takesNext_2 ⟨Nat.zero_le _, Nat.zero_le _⟩ (fun r2 hr2 => ?_)
  refine lv_if_eq (tgt := 25) hx hb dX1_takesNext_5 (by decide) (fun c5 => ?_) (fun c5 => ?_)
  · skip
    have hno : ¬ ∃ t j, t < zT z ∧ kt = nI t ∧ j ≤ 1000000 ∧ h = lN j ∧ zE z < 200 ∧ zNx z ch t j := fun ⟨t, j, q1, q2, _⟩ => sb_0 hr2 c5 ⟨t, q1, q2⟩
    refine lv_iconst (v := 0) hx hb dX1_takesNext_25 (by decide) ?_
    rw [hQ]
    exact W.zret (v := 0) hx hb hr (by decide) (fun t9 ht9 _ => ⟨_, rfl, sb_f hno, ht9⟩) (fun q h => by cases h) dX1_takesNext_26
  · skip
    obtain ⟨t, ht, rfl⟩ := sb_1 hr2 c5
    refine lv_lload_n hx hb dX1_takesNext_8 rfl (lv_at hl 2 rfl) ?_
    refine rcS (n := 1) (As := [.long h]) (rest := []) ⟨hx, hb, hml, hown, hts⟩ (kX1_isHour l D cy lo ad (zC cy ad z F) h) mlX1_84 stX1_isHour inX1 cdX1_isHour (by decide +kernel) rfl rfl ⟨Nat.le_of_ble_eq_true rfl, Nat.le_of_ble_eq_true rfl⟩ hK hP hz rfl hl.1 rfl (Nat.le_of_ble_eq_true rfl) dX1_takesNext_9 ⟨Nat.zero_le _, Nat.zero_le _⟩ (fun r9 hr9 => ?_)
    refine lv_if_eq (tgt := 25) hx hb dX1_takesNext_12 (by decide) (fun c12 => ?_) (fun c12 => ?_)
    · skip
      have hno : ¬ ∃ t1 j, t1 < zT z ∧ nI t = nI t1 ∧ j ≤ 1000000 ∧ h = lN j ∧ zE z < 200 ∧ zNx z ch t1 j := fun ⟨_, j, _, _, q1, q2, _⟩ => sb_0 hr9 c12 ⟨j, q1, q2⟩
      refine lv_iconst (v := 0) hx hb dX1_takesNext_25 (by decide) ?_
      rw [hQ]
      exact W.zret (v := 0) hx hb hr (by decide) (fun t9 ht9 _ => ⟨_, rfl, sb_f hno, ht9⟩) (fun q h => by cases h) dX1_takesNext_26
    · skip
      obtain ⟨j, hj, rfl⟩ := sb_1 hr9 c12
      refine lv_aload_n hx hb dX1_takesNext_15 rfl (lv_at hl 0 rfl) ?_
      refine mh_get (ci := 1) (v := .int (nI (zE z))) hx hb hts wfX1 hown hK.1 hP 0 rfl rfl 9 (by decide) (hts _ flX1_23) (fun _ h9 => h9) rfl dX1_takesNext_16 ?_
      refine lv_sipush (v := 200) hx hb dX1_takesNext_19 (by decide) ?_
      refine lv_icmp_lt (tgt := 27) hx hb dX1_takesNext_22 (by decide) (fun c22 => ?_) (fun c22 => ?_)
      · skip
        have hlt : zE z < 200 := (nI_ltI (b := 200) (by omega) (by omega)).mp c22
        refine lv_aload_n hx hb dX1_takesNext_27 rfl (lv_at hl 0 rfl) ?_
        refine mh_get (ci := 1) (v := .ref (ad 6)) hx hb hts wfX1 hown hK.1 hP 0 rfl rfl 7 (by decide) (hts _ flX1_15) (fun _ h9 => h9) rfl dX1_takesNext_28 ?_
        refine lv_iload_n hx hb dX1_takesNext_31 rfl (lv_at hl 1 rfl) ?_
        refine mh_aqn (i := t) (v := (va_rf ((zLt z t).map (fun k => ad (100 + k))))) hx hb hK.1 hP 6 4 rfl rfl (by omega) (by decide) dX1_takesNext_32 rfl ?_
        refine mv_astore (lv' := [(4, (va_rf ((zLt z t).map (fun k => ad (100 + k))))), (0, .ref (ad 0)), (1, .int (nI t)), (2, .long (lN j))]) hx hb dX1_takesNext_33 hl (by decide) rfl (fun ls hl => ?_)
        have hlk := hch t ht
        generalize hct : ch t = cl at hlk
        cases cl with
        | nil =>
          have hlk : zLt z t = none := hlk
          rw [hlk] at hl
          have hl : lv_has ls 5 [(4, .null), (0, .ref (ad 0)), (1, .int (nI t)), (2, .long (lN j))] := hl
          refine lv_aloadN hx hb dX1_takesNext_35 (lv_at hl 0 rfl) ?_
          refine lv_ifnullN (tgt := 50) hx hb dX1_takesNext_37 (by decide) ?_
          refine lv_iconst (v := 1) hx hb dX1_takesNext_50 (by decide) ?_
          refine lv_goto (tgt := 55) hx hb dX1_takesNext_51 (by decide) ?_
          rw [hQ]
          exact W.zret (v := 1) hx hb hr (by decide) (fun t9 ht9 _ => ⟨_, rfl, sb_t ⟨t, j, ht, rfl, hj, rfl, hlt, fun k ks q => by rw [hct] at q; cases q⟩, ht9⟩) (fun q h => by cases h) dX1_takesNext_55
        | cons k ks =>
          obtain ⟨hlk, hk, -⟩ := hlk
          obtain ⟨hv1, hv2, hv3, hv4⟩ := hev k hk
          rw [hlk] at hl
          have hl : lv_has ls 5 [(4, .ref (ad (100 + k))), (0, .ref (ad 0)), (1, .int (nI t)), (2, .long (lN j))] := hl
          refine lv_aload hx hb dX1_takesNext_35 (lv_at hl 0 rfl) ?_
          refine lv_ifnull hx hb dX1_takesNext_37 ?_
          refine lv_lload_n hx hb dX1_takesNext_40 rfl (lv_at hl 3 rfl) ?_
          refine lv_aload hx hb dX1_takesNext_41 (lv_at hl 0 rfl) ?_
          refine mh_getN (ci := 0) (v := .long (lN (eh (zVs z k)))) hx hb hts wfX0 hown hK.1 hP (100 + k) (zC_ev k hK20 hk) rfl 2 (by decide) (va_Nw.use rfl hK.2.1.2.2.1) (fun _ h9 => h9) rfl dX1_takesNext_43 ?_
          refine W.lcmp hx hb dX1_takesNext_46 ?_
          refine lv_if_lt (tgt := 54) hx hb dX1_takesNext_47 (by decide) (fun c47 => ?_) (fun c47 => ?_)
          · skip
            have hgt : ¬ eh (zVs z k) ≤ j := fun q => by
              have q1 := (lN_lt (by omega) (by omega)).mp ((lg_cmp_lt _ _).mp c47)
              omega
            refine lv_iconst (v := 0) hx hb dX1_takesNext_54 (by decide) ?_
            rw [hQ]
            exact W.zret (v := 0) hx hb hr (by decide) (fun t9 ht9 _ => ⟨_, rfl, sb_f (fun ⟨t1, j1, q1, q2, q3, q4, _, q5⟩ => by
              have e1 := (nI_eq (by omega) (by omega)).mp q2
              have e2 := (lN_eq (by omega) (by omega)).mp q4
              subst e1 e2
              exact hgt (q5 k ks hct)), ht9⟩) (fun q h => by cases h) dX1_takesNext_55
          · skip
            have hle : eh (zVs z k) ≤ j := Nat.le_of_not_lt (fun q => c47 ((lg_cmp_lt _ _).mpr ((lN_lt (by omega) (by omega)).mpr q)))
            refine lv_iconst (v := 1) hx hb dX1_takesNext_50 (by decide) ?_
            refine lv_goto (tgt := 55) hx hb dX1_takesNext_51 (by decide) ?_
            rw [hQ]
            exact W.zret (v := 1) hx hb hr (by decide) (fun t9 ht9 _ => ⟨_, rfl, sb_t ⟨t, j, ht, rfl, hj, rfl, hlt, fun k1 ks1 q => by rw [hct] at q; cases q; exact hle⟩, ht9⟩) (fun q h => by cases h) dX1_takesNext_55
      · skip
        have hno : ¬ ∃ t1 j1, t1 < zT z ∧ nI t = nI t1 ∧ j1 ≤ 1000000 ∧ lN j = lN j1 ∧ zE z < 200 ∧ zNx z ch t1 j1 := fun ⟨_, _, _, _, _, _, q, _⟩ => c22 (nI_lt (b := 200) q (by omega))
        refine lv_iconst (v := 0) hx hb dX1_takesNext_25 (by decide) ?_
        rw [hQ]
        exact W.zret (v := 0) hx hb hr (by decide) (fun t9 ht9 _ => ⟨_, rfl, sb_f hno, ht9⟩) (fun q h => by cases h) dX1_takesNext_26
set_option maxHeartbeats 4000000 in
set_option maxRecDepth 100000 in
/-- X1_level -/
theorem kX1_level (l : Launch) (D : va_G) (cy : Nat → ClassId) (lo : Nat) (ad : Nat → Nat) (z : zS) (F : Nat → Option va_E) (ch : Nat → List Nat) (hok : zOk z ch) (kt : Int32) (h : Int64)  : Met l yX1_level wX1_level { frames := 3, cells := 0, slots := 0, locals := 77 } (pcs D cy lo ad (zC cy ad z F) [.ref (ad 0), .int kt, .long h]) (vp_Si (fun r => ans (zT z) kt h (fun t j => nI (zGL z ch t j (zT z))) r)) 0 0 (fun _ => False) := by
  refine Met.ofW (cc := cX1_level) (maxL := 4) (ret := (some .int)) (by decide) rfl ?_
  intro p e s m args below meth c s₁ B hml hv
  obtain ⟨rfl, hz, hP, hK⟩ := hv
  have hx := B.exec
  have hb := B.bytes
  have hr := B.returns
  have hts : ∀ w ∈ wA, w.before [.ref (ad 0), .int kt, .long h].toArray s = true := fun w h => atoms_spec (ws := wX1_level) B.pre w (List.mem_cons_of_mem _ h)
  have hown : s.vm.findClass RX1 = some m.cls := findClass_of_methodNamed B.named
  have hlocks := B.notSynchronized
  have hl := lv_entry ([.ref (ad 0), .int kt, .long h]) (n := 4) (Nat.le_of_ble_eq_true rfl)
  rw [lg_entry_eq]
  generalize (lg_sl ([.ref (ad 0), .int kt, .long h]) ++ List.replicate (4 - (lg_sl ([.ref (ad 0), .int kt, .long h])).length) Slot.unset).toArray = ls at hl ⊢
  have hl : lv_has ls 4 [(0, .ref (ad 0)), (1, .int kt), (2, .long h)] := hl
  obtain ⟨Q, hQ⟩ : ∃ Q, Q = MQ below (vp_Si (fun r => ans (zT z) kt h (fun t j => nI (zGL z ch t j (zT z))) r)) [.ref (ad 0), .int kt, .long h].toArray s 0 0 (fun _ => False) := ⟨_, rfl⟩
  rw [← hQ]
  obtain ⟨hK1, hK20, hL1, hL9, hT32, hE200, hnd, hal, hla, hco, hgr, hch, hlt0, hev, hbf⟩ := id hok
  refine lv_aload_n hx hb dX1_level_0 rfl (lv_at hl 0 rfl) ?_
  refine lv_iload_n hx hb dX1_level_1 rfl (lv_at hl 1 rfl) ?_
  refine rcV (n := 1) (As := [.int kt]) (rest := []) ⟨hx, hb, hml, hown, hts⟩ (kX1_isThing l D cy lo ad z F kt ⟨hK20, hL9, hT32⟩) mlX1_70 imX1_isThing seX1_isThing inX1 cdX1_isThing (by decide +kernel) rfl rfl ⟨Nat.le_of_ble_eq_true rfl, Nat.le_of_ble_eq_true rfl⟩ hK hP hz rfl rfl rfl hl.1 rfl (Nat.le_of_ble_eq_true rfl) dX1_level_2 ⟨Nat.zero_le _, Nat.zero_le _⟩ (fun r2 hr2 => ?_)
  refine lv_if_eq (tgt := 15) hx hb dX1_level_5 (by decide) (fun c5 => ?_) (fun c5 => ?_)
  · skip
    have hno : ¬ (isIn kt (zT z) ∧ isHr h) := fun q => sb_0 hr2 c5 q.1
    refine lv_iconst (v := (-1)) hx hb dX1_level_15 (by decide) ?_
    rw [hQ]
    exact W.iret (v := (-1)) hx hb hr (fun t9 ht9 _ => ⟨_, rfl, Or.inr ⟨hno, rfl⟩, ht9⟩) (fun q h => by cases h) dX1_level_16
  · skip
    obtain ⟨t, ht, rfl⟩ := sb_1 hr2 c5
    refine lv_lload_n hx hb dX1_level_8 rfl (lv_at hl 2 rfl) ?_
    refine rcS (n := 1) (As := [.long h]) (rest := []) ⟨hx, hb, hml, hown, hts⟩ (kX1_isHour l D cy lo ad (zC cy ad z F) h) mlX1_84 stX1_isHour inX1 cdX1_isHour (by decide +kernel) rfl rfl ⟨Nat.le_of_ble_eq_true rfl, Nat.le_of_ble_eq_true rfl⟩ hK hP hz rfl hl.1 rfl (Nat.le_of_ble_eq_true rfl) dX1_level_9 ⟨Nat.zero_le _, Nat.zero_le _⟩ (fun r9 hr9 => ?_)
    refine lv_if_ne (tgt := 17) hx hb dX1_level_12 (by decide) (fun c12 => ?_) (fun c12 => ?_)
    · skip
      obtain ⟨j, hj, rfl⟩ := sb_1 hr9 c12
      refine lv_aload_n hx hb dX1_level_17 rfl (lv_at hl 0 rfl) ?_
      refine lv_iload_n hx hb dX1_level_18 rfl (lv_at hl 1 rfl) ?_
      refine lv_lload_n hx hb dX1_level_19 rfl (lv_at hl 2 rfl) ?_
      refine rcV (n := 2) (As := [.int (nI t), .long (lN j)]) (rest := []) ⟨hx, hb, hml, hown, hts⟩ (kX1_groupLevel l D cy lo ad z F ch hok t j ht hj) mlX1_88 imX1_groupLevel seX1_groupLevel inX1 cdX1_groupLevel (by decide +kernel) rfl rfl ⟨Nat.le_of_ble_eq_true rfl, Nat.le_of_ble_eq_true rfl⟩ hK hP hz rfl rfl rfl hl.1 rfl (Nat.le_of_ble_eq_true rfl) dX1_level_20 ⟨Nat.zero_le _, Nat.zero_le _⟩ (fun r20 hr20 => ?_)
      subst hr20
      rw [hQ]
      exact W.iret (v := nI (zGL z ch t j (zT z))) hx hb hr (fun t9 ht9 _ => ⟨_, rfl, Or.inl ⟨t, j, ht, rfl, hj, rfl, rfl⟩, ht9⟩) (fun q h => by cases h) dX1_level_23
    · skip
      have hno : ¬ (isIn (nI t) (zT z) ∧ isHr h) := fun q => sb_0 hr9 c12 q.2
      refine lv_iconst (v := (-1)) hx hb dX1_level_15 (by decide) ?_
      rw [hQ]
      exact W.iret (v := (-1)) hx hb hr (fun t9 ht9 _ => ⟨_, rfl, Or.inr ⟨hno, rfl⟩, ht9⟩) (fun q h => by cases h) dX1_level_16
set_option maxHeartbeats 4000000 in
set_option maxRecDepth 100000 in
/-- X1_may -/
theorem kX1_may (l : Launch) (D : va_G) (cy : Nat → ClassId) (lo : Nat) (ad : Nat → Nat) (z : zS) (F : Nat → Option va_E) (ch : Nat → List Nat) (hok : zOk z ch) (kt : Int32) (h : Int64) (kk : Int32) (ok : Option Nat) (hk : isOp kk (zK z) ok) : Met l yX1_may wX1_may { frames := 3, cells := 0, slots := 0, locals := 77 } (pcs D cy lo ad (zC cy ad z F) [.ref (ad 0), .int kt, .int kk, .long h]) (vp_Si (fun r => ans (zT z) kt h (fun t j => if zGN z (fun e => zLO z j (ch e)) ok t (zT z) ≤ zGL z ch t j (zT z) then 1 else 0) r)) 0 0 (fun _ => False) := by
  refine Met.ofW (cc := cX1_may) (maxL := 5) (ret := (some .int)) (by decide) rfl ?_
  intro p e s m args below meth c s₁ B hml hv
  obtain ⟨rfl, hz, hP, hK⟩ := hv
  have hx := B.exec
  have hb := B.bytes
  have hr := B.returns
  have hts : ∀ w ∈ wA, w.before [.ref (ad 0), .int kt, .int kk, .long h].toArray s = true := fun w h => atoms_spec (ws := wX1_may) B.pre w (List.mem_cons_of_mem _ h)
  have hown : s.vm.findClass RX1 = some m.cls := findClass_of_methodNamed B.named
  have hlocks := B.notSynchronized
  have hl := lv_entry ([.ref (ad 0), .int kt, .int kk, .long h]) (n := 5) (Nat.le_of_ble_eq_true rfl)
  rw [lg_entry_eq]
  generalize (lg_sl ([.ref (ad 0), .int kt, .int kk, .long h]) ++ List.replicate (5 - (lg_sl ([.ref (ad 0), .int kt, .int kk, .long h])).length) Slot.unset).toArray = ls at hl ⊢
  have hl : lv_has ls 5 [(0, .ref (ad 0)), (1, .int kt), (2, .int kk), (3, .long h)] := hl
  obtain ⟨Q, hQ⟩ : ∃ Q, Q = MQ below (vp_Si (fun r => ans (zT z) kt h (fun t j => if zGN z (fun e => zLO z j (ch e)) ok t (zT z) ≤ zGL z ch t j (zT z) then 1 else 0) r)) [.ref (ad 0), .int kt, .int kk, .long h].toArray s 0 0 (fun _ => False) := ⟨_, rfl⟩
  rw [← hQ]
  obtain ⟨hK1, hK20, hL1, hL9, hT32, hE200, hnd, hal, hla, hco, hgr, hch, hlt0, hev, hbf⟩ := id hok
  refine lv_aload_n hx hb dX1_may_0 rfl (lv_at hl 0 rfl) ?_
  refine lv_iload_n hx hb dX1_may_1 rfl (lv_at hl 1 rfl) ?_
  refine rcV (n := 1) (As := [.int kt]) (rest := []) ⟨hx, hb, hml, hown, hts⟩ (kX1_isThing l D cy lo ad z F kt ⟨hK20, hL9, hT32⟩) mlX1_70 imX1_isThing seX1_isThing inX1 cdX1_isThing (by decide +kernel) rfl rfl ⟨Nat.le_of_ble_eq_true rfl, Nat.le_of_ble_eq_true rfl⟩ hK hP hz rfl rfl rfl hl.1 rfl (Nat.le_of_ble_eq_true rfl) dX1_may_2 ⟨Nat.zero_le _, Nat.zero_le _⟩ (fun r2 hr2 => ?_)
  refine lv_if_eq (tgt := 15) hx hb dX1_may_5 (by decide) (fun c5 => ?_) (fun c5 => ?_)
  · skip
    have hno : ¬ (isIn kt (zT z) ∧ isHr h) := fun q => sb_0 hr2 c5 q.1
    refine lv_iconst (v := (-1)) hx hb dX1_may_15 (by decide) ?_
    rw [hQ]
    exact W.iret (v := (-1)) hx hb hr (fun t9 ht9 _ => ⟨_, rfl, Or.inr ⟨hno, rfl⟩, ht9⟩) (fun q h => by cases h) dX1_may_16
  · skip
    obtain ⟨t, ht, rfl⟩ := sb_1 hr2 c5
    refine lv_lload_n hx hb dX1_may_8 rfl (lv_at hl 3 rfl) ?_
    refine rcS (n := 1) (As := [.long h]) (rest := []) ⟨hx, hb, hml, hown, hts⟩ (kX1_isHour l D cy lo ad (zC cy ad z F) h) mlX1_84 stX1_isHour inX1 cdX1_isHour (by decide +kernel) rfl rfl ⟨Nat.le_of_ble_eq_true rfl, Nat.le_of_ble_eq_true rfl⟩ hK hP hz rfl hl.1 rfl (Nat.le_of_ble_eq_true rfl) dX1_may_9 ⟨Nat.zero_le _, Nat.zero_le _⟩ (fun r9 hr9 => ?_)
    refine lv_if_ne (tgt := 17) hx hb dX1_may_12 (by decide) (fun c12 => ?_) (fun c12 => ?_)
    · skip
      obtain ⟨j, hj, rfl⟩ := sb_1 hr9 c12
      refine lv_aload_n hx hb dX1_may_17 rfl (lv_at hl 0 rfl) ?_
      refine lv_iload_n hx hb dX1_may_18 rfl (lv_at hl 1 rfl) ?_
      refine lv_lload_n hx hb dX1_may_19 rfl (lv_at hl 3 rfl) ?_
      refine rcV (n := 2) (As := [.int (nI t), .long (lN j)]) (rest := []) ⟨hx, hb, hml, hown, hts⟩ (kX1_groupLevel l D cy lo ad z F ch hok t j ht hj) mlX1_88 imX1_groupLevel seX1_groupLevel inX1 cdX1_groupLevel (by decide +kernel) rfl rfl ⟨Nat.le_of_ble_eq_true rfl, Nat.le_of_ble_eq_true rfl⟩ hK hP hz rfl rfl rfl hl.1 rfl (Nat.le_of_ble_eq_true rfl) dX1_may_20 ⟨Nat.zero_le _, Nat.zero_le _⟩ (fun r20 hr20 => ?_)
      subst hr20
      refine lv_aload_n hx hb dX1_may_23 rfl (lv_at hl 0 rfl) ?_
      refine lv_iload_n hx hb dX1_may_24 rfl (lv_at hl 1 rfl) ?_
      refine lv_iload_n hx hb dX1_may_25 rfl (lv_at hl 2 rfl) ?_
      refine lv_lload_n hx hb dX1_may_26 rfl (lv_at hl 3 rfl) ?_
      refine rcV (n := 3) (As := [.int (nI t), .int kk, .long (lN j)]) (rest := [.int (nI (zGL z ch t j (zT z)))]) ⟨hx, hb, hml, hown, hts⟩ (kX1_groupNeed l D cy lo ad z F ch hok t j kk ok hk ht hj) mlX1_92 imX1_groupNeed seX1_groupNeed inX1 cdX1_groupNeed (by decide +kernel) rfl rfl ⟨Nat.le_of_ble_eq_true rfl, Nat.le_of_ble_eq_true rfl⟩ hK hP hz rfl rfl rfl hl.1 rfl (Nat.le_of_ble_eq_true rfl) dX1_may_27 ⟨Nat.zero_le _, Nat.zero_le _⟩ (fun r27 hr27 => ?_)
      subst hr27
      have hb1 := zGL_le z ch t j (zT z)
      have hb2 : zGN z (fun e => zLO z j (ch e)) ok t (zT z) ≤ zL z := zGN_le _ (fun e he => zNB_le hnd (zLO_op hK20 (fun k hk => (hev k hk).2.2.2) j (ch e) (zLt z e) (hch e he)) hk)
      refine lv_icmp_lt (tgt := 37) hx hb dX1_may_30 (by decide) (fun c30 => ?_) (fun c30 => ?_)
      · skip
        have hq : ¬ zGN z (fun e => zLO z j (ch e)) ok t (zT z) ≤ zGL z ch t j (zT z) := fun q => nI_nlt q (by omega) c30
        refine lv_iconst (v := 0) hx hb dX1_may_37 (by decide) ?_
        rw [hQ]
        exact W.iret (v := 0) hx hb hr (fun t9 ht9 _ => ⟨_, rfl, Or.inl ⟨t, j, ht, rfl, hj, rfl, (if_neg hq).symm⟩, ht9⟩) (fun q h => by cases h) dX1_may_38
      · skip
        have hq : zGN z (fun e => zLO z j (ch e)) ok t (zT z) ≤ zGL z ch t j (zT z) := Nat.le_of_not_lt (fun q => c30 (nI_lt q (by omega)))
        refine lv_iconst (v := 1) hx hb dX1_may_33 (by decide) ?_
        refine lv_goto (tgt := 38) hx hb dX1_may_34 (by decide) ?_
        rw [hQ]
        exact W.iret (v := 1) hx hb hr (fun t9 ht9 _ => ⟨_, rfl, Or.inl ⟨t, j, ht, rfl, hj, rfl, (if_pos hq).symm⟩, ht9⟩) (fun q h => by cases h) dX1_may_38
    · skip
      have hno : ¬ (isIn (nI t) (zT z) ∧ isHr h) := fun q => sb_0 hr9 c12 q.2
      refine lv_iconst (v := (-1)) hx hb dX1_may_15 (by decide) ?_
      rw [hQ]
      exact W.iret (v := (-1)) hx hb hr (fun t9 ht9 _ => ⟨_, rfl, Or.inr ⟨hno, rfl⟩, ht9⟩) (fun q h => by cases h) dX1_may_16
set_option maxHeartbeats 4000000 in
set_option maxRecDepth 100000 in
/-- X1_least -/
theorem kX1_least (l : Launch) (D : va_G) (cy : Nat → ClassId) (lo : Nat) (ad : Nat → Nat) (z : zS) (F : Nat → Option va_E) (ch : Nat → List Nat) (hok : zOk z ch) (kt : Int32) (h : Int64) (kk : Int32) (ok : Option Nat) (hk : isOp kk (zK z) ok) : Met l yX1_least wX1_least { frames := 3, cells := 0, slots := 0, locals := 77 } (pcs D cy lo ad (zC cy ad z F) [.ref (ad 0), .int kt, .int kk, .long h]) (vp_Si (fun r => ans (zT z) kt h (fun t j => if zGN z (fun e => zLO z j (ch e)) ok t (zT z) ≤ zGL z ch t j (zT z) then 0 else nI (zCh z (zGN z (fun e => zLO z j (ch e)) ok t (zT z)) (zL z - zGN z (fun e => zLO z j (ch e)) ok t (zT z)))) r)) 0 0 (fun _ => False) := by
  refine Met.ofW (cc := cX1_least) (maxL := 6) (ret := (some .int)) (by decide) rfl ?_
  intro p e s m args below meth c s₁ B hml hv
  obtain ⟨rfl, hz, hP, hK⟩ := hv
  have hx := B.exec
  have hb := B.bytes
  have hr := B.returns
  have hts : ∀ w ∈ wA, w.before [.ref (ad 0), .int kt, .int kk, .long h].toArray s = true := fun w h => atoms_spec (ws := wX1_least) B.pre w (List.mem_cons_of_mem _ h)
  have hown : s.vm.findClass RX1 = some m.cls := findClass_of_methodNamed B.named
  have hlocks := B.notSynchronized
  have hl := lv_entry ([.ref (ad 0), .int kt, .int kk, .long h]) (n := 6) (Nat.le_of_ble_eq_true rfl)
  rw [lg_entry_eq]
  generalize (lg_sl ([.ref (ad 0), .int kt, .int kk, .long h]) ++ List.replicate (6 - (lg_sl ([.ref (ad 0), .int kt, .int kk, .long h])).length) Slot.unset).toArray = ls at hl ⊢
  have hl : lv_has ls 6 [(0, .ref (ad 0)), (1, .int kt), (2, .int kk), (3, .long h)] := hl
  obtain ⟨Q, hQ⟩ : ∃ Q, Q = MQ below (vp_Si (fun r => ans (zT z) kt h (fun t j => if zGN z (fun e => zLO z j (ch e)) ok t (zT z) ≤ zGL z ch t j (zT z) then 0 else nI (zCh z (zGN z (fun e => zLO z j (ch e)) ok t (zT z)) (zL z - zGN z (fun e => zLO z j (ch e)) ok t (zT z)))) r)) [.ref (ad 0), .int kt, .int kk, .long h].toArray s 0 0 (fun _ => False) := ⟨_, rfl⟩
  rw [← hQ]
  obtain ⟨hK1, hK20, hL1, hL9, hT32, hE200, hnd, hal, hla, hco, hgr, hch, hlt0, hev, hbf⟩ := id hok
  refine lv_aload_n hx hb dX1_least_0 rfl (lv_at hl 0 rfl) ?_
  refine lv_iload_n hx hb dX1_least_1 rfl (lv_at hl 1 rfl) ?_
  refine rcV (n := 1) (As := [.int kt]) (rest := []) ⟨hx, hb, hml, hown, hts⟩ (kX1_isThing l D cy lo ad z F kt ⟨hK20, hL9, hT32⟩) mlX1_70 imX1_isThing seX1_isThing inX1 cdX1_isThing (by decide +kernel) rfl rfl ⟨Nat.le_of_ble_eq_true rfl, Nat.le_of_ble_eq_true rfl⟩ hK hP hz rfl rfl rfl hl.1 rfl (Nat.le_of_ble_eq_true rfl) dX1_least_2 ⟨Nat.zero_le _, Nat.zero_le _⟩ (fun r2 hr2 => ?_)
  refine lv_if_eq (tgt := 15) hx hb dX1_least_5 (by decide) (fun c5 => ?_) (fun c5 => ?_)
  · skip
    have hno : ¬ (isIn kt (zT z) ∧ isHr h) := fun q => sb_0 hr2 c5 q.1
    refine lv_iconst (v := (-1)) hx hb dX1_least_15 (by decide) ?_
    rw [hQ]
    exact W.iret (v := (-1)) hx hb hr (fun t9 ht9 _ => ⟨_, rfl, Or.inr ⟨hno, rfl⟩, ht9⟩) (fun q h => by cases h) dX1_least_16
  · skip
    obtain ⟨t, ht, rfl⟩ := sb_1 hr2 c5
    refine lv_lload_n hx hb dX1_least_8 rfl (lv_at hl 3 rfl) ?_
    refine rcS (n := 1) (As := [.long h]) (rest := []) ⟨hx, hb, hml, hown, hts⟩ (kX1_isHour l D cy lo ad (zC cy ad z F) h) mlX1_84 stX1_isHour inX1 cdX1_isHour (by decide +kernel) rfl rfl ⟨Nat.le_of_ble_eq_true rfl, Nat.le_of_ble_eq_true rfl⟩ hK hP hz rfl hl.1 rfl (Nat.le_of_ble_eq_true rfl) dX1_least_9 ⟨Nat.zero_le _, Nat.zero_le _⟩ (fun r9 hr9 => ?_)
    refine lv_if_ne (tgt := 17) hx hb dX1_least_12 (by decide) (fun c12 => ?_) (fun c12 => ?_)
    · skip
      obtain ⟨j, hj, rfl⟩ := sb_1 hr9 c12
      refine lv_aload_n hx hb dX1_least_17 rfl (lv_at hl 0 rfl) ?_
      refine lv_iload_n hx hb dX1_least_18 rfl (lv_at hl 1 rfl) ?_
      refine lv_iload_n hx hb dX1_least_19 rfl (lv_at hl 2 rfl) ?_
      refine lv_lload_n hx hb dX1_least_20 rfl (lv_at hl 3 rfl) ?_
      refine rcV (n := 3) (As := [.int (nI t), .int kk, .long (lN j)]) (rest := []) ⟨hx, hb, hml, hown, hts⟩ (kX1_groupNeed l D cy lo ad z F ch hok t j kk ok hk ht hj) mlX1_92 imX1_groupNeed seX1_groupNeed inX1 cdX1_groupNeed (by decide +kernel) rfl rfl ⟨Nat.le_of_ble_eq_true rfl, Nat.le_of_ble_eq_true rfl⟩ hK hP hz rfl rfl rfl hl.1 rfl (Nat.le_of_ble_eq_true rfl) dX1_least_21 ⟨Nat.zero_le _, Nat.zero_le _⟩ (fun r21 hr21 => ?_)
      subst hr21
      have hb1 := zGL_le z ch t j (zT z)
      have hb2 : zGN z (fun e => zLO z j (ch e)) ok t (zT z) ≤ zL z := zGN_le _ (fun e he => zNB_le hnd (zLO_op hK20 (fun k hk => (hev k hk).2.2.2) j (ch e) (zLt z e) (hch e he)) hk)
      refine lv_istore (lv' := [(5, .int (nI (zGN z (fun e => zLO z j (ch e)) ok t (zT z)))), (0, .ref (ad 0)), (1, .int (nI t)), (2, .int kk), (3, .long (lN j))]) hx hb dX1_least_24 hl (by decide) rfl (fun ls hl => ?_)
      refine lv_aload_n hx hb dX1_least_26 rfl (lv_at hl 1 rfl) ?_
      refine lv_iload_n hx hb dX1_least_27 rfl (lv_at hl 2 rfl) ?_
      refine lv_lload_n hx hb dX1_least_28 rfl (lv_at hl 4 rfl) ?_
      refine rcV (n := 2) (As := [.int (nI t), .long (lN j)]) (rest := []) ⟨hx, hb, hml, hown, hts⟩ (kX1_groupLevel l D cy lo ad z F ch hok t j ht hj) mlX1_88 imX1_groupLevel seX1_groupLevel inX1 cdX1_groupLevel (by decide +kernel) rfl rfl ⟨Nat.le_of_ble_eq_true rfl, Nat.le_of_ble_eq_true rfl⟩ hK hP hz rfl rfl rfl hl.1 rfl (Nat.le_of_ble_eq_true rfl) dX1_least_29 ⟨Nat.zero_le _, Nat.zero_le _⟩ (fun r29 hr29 => ?_)
      subst hr29
      refine lv_iload hx hb dX1_least_32 (lv_at hl 0 rfl) ?_
      refine lv_icmp_lt (tgt := 41) hx hb dX1_least_34 (by decide) (fun c34 => ?_) (fun c34 => ?_)
      · skip
        have hq : ¬ zGN z (fun e => zLO z j (ch e)) ok t (zT z) ≤ zGL z ch t j (zT z) := fun q => nI_nlt q (by omega) c34
        refine lv_aload_n hx hb dX1_least_41 rfl (lv_at hl 1 rfl) ?_
        refine lv_iload hx hb dX1_least_42 (lv_at hl 0 rfl) ?_
        refine rcV (n := 1) (As := [.int (nI (zGN z (fun e => zLO z j (ch e)) ok t (zT z)))]) (rest := []) ⟨hx, hb, hml, hown, hts⟩ (kX1_cheapestFrom l D cy lo ad z F ch hok (zGN z (fun e => zLO z j (ch e)) ok t (zT z)) (by omega) hb2) mlX1_96 imX1_cheapestFrom seX1_cheapestFrom inX1 cdX1_cheapestFrom (by decide +kernel) rfl rfl ⟨Nat.le_of_ble_eq_true rfl, Nat.le_of_ble_eq_true rfl⟩ hK hP hz rfl rfl rfl hl.1 rfl (Nat.le_of_ble_eq_true rfl) dX1_least_44 ⟨Nat.zero_le _, Nat.zero_le _⟩ (fun r44 hr44 => ?_)
        subst hr44
        rw [hQ]
        exact W.iret (v := nI (zCh z (zGN z (fun e => zLO z j (ch e)) ok t (zT z)) (zL z - zGN z (fun e => zLO z j (ch e)) ok t (zT z)))) hx hb hr (fun t9 ht9 _ => ⟨_, rfl, Or.inl ⟨t, j, ht, rfl, hj, rfl, (if_neg hq).symm⟩, ht9⟩) (fun q h => by cases h) dX1_least_47
      · skip
        have hq : zGN z (fun e => zLO z j (ch e)) ok t (zT z) ≤ zGL z ch t j (zT z) := Nat.le_of_not_lt (fun q => c34 (nI_lt q (by omega)))
        refine lv_iconst (v := 0) hx hb dX1_least_37 (by decide) ?_
        refine lv_goto (tgt := 47) hx hb dX1_least_38 (by decide) ?_
        rw [hQ]
        exact W.iret (v := 0) hx hb hr (fun t9 ht9 _ => ⟨_, rfl, Or.inl ⟨t, j, ht, rfl, hj, rfl, (if_pos hq).symm⟩, ht9⟩) (fun q h => by cases h) dX1_least_47
    · skip
      have hno : ¬ (isIn (nI t) (zT z) ∧ isHr h) := fun q => sb_0 hr9 c12 q.2
      refine lv_iconst (v := (-1)) hx hb dX1_least_15 (by decide) ?_
      rw [hQ]
      exact W.iret (v := (-1)) hx hb hr (fun t9 ht9 _ => ⟨_, rfl, Or.inr ⟨hno, rfl⟩, ht9⟩) (fun q h => by cases h) dX1_least_16
