theorem zGL_s {z : zS} {ch : Nat → List Nat} {t h n : Nat} (q : zGr z n = zGr z t) : zGL z ch t h (n + 1) = min (zGL z ch t h n) (zOwn z (zState z t) h (ch n) 0) := if_pos q
theorem zGL_n {z : zS} {ch : Nat → List Nat} {t h n : Nat} (q : ¬ zGr z n = zGr z t) : zGL z ch t h (n + 1) = zGL z ch t h n := if_neg q
theorem zGN_s {z : zS} {lc : Nat → Option Nat} {k : Option Nat} {t n : Nat} (q : zGr z n = zGr z t) : zGN z lc k t (n + 1) = max (zGN z lc k t n) (zNB z (lc n) k) := if_pos q
theorem zGN_n {z : zS} {lc : Nat → Option Nat} {k : Option Nat} {t n : Nat} (q : ¬ zGr z n = zGr z t) : zGN z lc k t (n + 1) = zGN z lc k t n := if_neg q
theorem zLC_y {z : zS} {h k : Nat} {ks : List Nat} (q : eh (zVs z k) ≤ h ∧ ei (zVs z k) ≠ -1) : zLC z h (k :: ks) = ei (zVs z k) := if_pos q
theorem zLC_n {z : zS} {h k : Nat} {ks : List Nat} (q : ¬ (eh (zVs z k) ≤ h ∧ ei (zVs z k) ≠ -1)) : zLC z h (k :: ks) = zLC z h ks := if_neg q
theorem zLH_y {z : zS} {k : Nat} {ks : List Nat} (q : ea (zVs z k) = 0) : zLH z (k :: ks) = eh (zVs z k) := if_pos q
theorem zLH_n {z : zS} {k : Nat} {ks : List Nat} (q : ¬ ea (zVs z k) = 0) : zLH z (k :: ks) = zLH z ks := if_neg q
theorem zCh_y {z : zS} {lo d : Nat} (q : zCo z (lo + d + 1) < zCo z (zCh z lo d)) : zCh z lo (d + 1) = lo + d + 1 := if_pos q
theorem zCh_n {z : zS} {lo d : Nat} (q : ¬ zCo z (lo + d + 1) < zCo z (zCh z lo d)) : zCh z lo (d + 1) = zCh z lo d := if_neg q
set_option maxHeartbeats 4000000 in
set_option maxRecDepth 100000 in
/-- groupLevel -/
theorem kX1_groupLevel (l : Launch) (D : va_G) (cy : Nat → ClassId) (lo : Nat) (ad : Nat → Nat) (z : zS) (F : Nat → Option va_E) (ch : Nat → List Nat) (hok : zOk z ch) (t h : Nat) (ht : t < zT z) (hh : h ≤ 1000000) : Met l yX1_groupLevel wX1_groupLevel { frames := 2, cells := 0, slots := 0, locals := 51 } (pcs D cy lo ad (zC cy ad z F) [.ref (ad 0), .int (nI t), .long (lN h)]) (vp_Si (fun r => r = nI (zGL z ch t h (zT z)))) 0 0 (fun _ => False) := by
  refine Met.ofW (cc := cX1_groupLevel) (maxL := 7) (ret := (some .int)) (by decide) rfl ?_
  intro p e s m args below meth c s₁ B hml hv
  obtain ⟨rfl, hz, hP, hK⟩ := hv
  have hx := B.exec
  have hb := B.bytes
  have hr := B.returns
  have hts : ∀ w ∈ wA, w.before [.ref (ad 0), .int (nI t), .long (lN h)].toArray s = true := fun w h => atoms_spec (ws := wX1_groupLevel) B.pre w (List.mem_cons_of_mem _ h)
  have hown : s.vm.findClass RX1 = some m.cls := findClass_of_methodNamed B.named
  have hlocks := B.notSynchronized
  have hl := lv_entry ([.ref (ad 0), .int (nI t), .long (lN h)]) (n := 7) (Nat.le_of_ble_eq_true rfl)
  rw [lg_entry_eq]
  generalize (lg_sl ([.ref (ad 0), .int (nI t), .long (lN h)]) ++ List.replicate (7 - (lg_sl ([.ref (ad 0), .int (nI t), .long (lN h)])).length) Slot.unset).toArray = ls at hl ⊢
  have hl : lv_has ls 7 [(0, .ref (ad 0)), (1, .int (nI t)), (2, .long (lN h))] := hl
  obtain ⟨Q, hQ⟩ : ∃ Q, Q = MQ below (vp_Si (fun r => r = nI (zGL z ch t h (zT z)))) [.ref (ad 0), .int (nI t), .long (lN h)].toArray s 0 0 (fun _ => False) := ⟨_, rfl⟩
  rw [← hQ]
  obtain ⟨hK1, hK20, hL1, hL9, hT32, hE200, hnd, hal, hla, hco, hgr, hch, hlt0, hev, hbf⟩ := id hok
  have hst := zState_lt z t
  have loop : ∀ (d i : Nat), i + d = zT z → ∀ (ls : Array Slot), lv_has ls 7 [(6, .int (nI i)), (5, .int (nI (zGL z ch t h i))), (4, .int (nI (zState z t))), (0, .ref (ad 0)), (1, .int (nI t)), (2, .long (lN h))] → W p l e (headSpec wX1_groupLevel { frames := 2, cells := 0, slots := 0, locals := 51 }).room s m [.ref (ad 0), .int (nI t), .long (lN h)].toArray below meth c s.heap [] 0 0 Q (F0 m 16 ls []) := by
    intro d
    induction d with
    | zero =>
      intro i  hid  ls hl
      refine lv_iload hx hb dX1_groupLevel_16 (lv_at hl 0 rfl) ?_
      refine lv_aload_n hx hb dX1_groupLevel_18 rfl (lv_at hl 3 rfl) ?_
      refine mh_get (ci := 1) (v := .int (nI (zT z))) hx hb hts wfX1 hown hK.1 hP 0 rfl rfl 8 (by decide) (hts _ flX1_19) (fun _ h9 => h9) rfl dX1_groupLevel_19 ?_
      refine lv_icmp_ge (tgt := 63) hx hb dX1_groupLevel_22 (by decide) (fun c22 => ?_) (fun c22 => ?_)
      · skip
        refine lv_iload hx hb dX1_groupLevel_63 (lv_at hl 1 rfl) ?_
        rw [hQ]
        exact W.iret (v := nI (zGL z ch t h i)) hx hb hr (fun t9 ht9 _ => ⟨_, rfl, by rw [show i = zT z by omega], ht9⟩) (fun q h => by cases h) dX1_groupLevel_65
      · skip
        exact absurd (nI_le (by omega) (by omega)) c22
    | succ d ih =>
      intro i  hid  ls hl
      refine lv_iload hx hb dX1_groupLevel_16 (lv_at hl 0 rfl) ?_
      refine lv_aload_n hx hb dX1_groupLevel_18 rfl (lv_at hl 3 rfl) ?_
      refine mh_get (ci := 1) (v := .int (nI (zT z))) hx hb hts wfX1 hown hK.1 hP 0 rfl rfl 8 (by decide) (hts _ flX1_19) (fun _ h9 => h9) rfl dX1_groupLevel_19 ?_
      refine lv_icmp_ge (tgt := 63) hx hb dX1_groupLevel_22 (by decide) (fun c22 => ?_) (fun c22 => ?_)
      · skip
        exact absurd c22 (nI_ge (by omega) (by omega))
      · skip
        refine lv_aload_n hx hb dX1_groupLevel_25 rfl (lv_at hl 3 rfl) ?_
        refine mh_get (ci := 1) (v := .ref (ad 5)) hx hb hts wfX1 hown hK.1 hP 0 rfl rfl 6 (by decide) (hts _ flX1_9) (fun _ h9 => h9) rfl dX1_groupLevel_26 ?_
        refine lv_iload hx hb dX1_groupLevel_29 (lv_at hl 0 rfl) ?_
        refine mh_ialn (i := i) (v := nI (zGr z i)) hx hb hK.1 hP 5 0 rfl rfl (by omega) (by decide) dX1_groupLevel_31 rfl ?_
        refine lv_aload_n hx hb dX1_groupLevel_32 rfl (lv_at hl 3 rfl) ?_
        refine mh_get (ci := 1) (v := .ref (ad 5)) hx hb hts wfX1 hown hK.1 hP 0 rfl rfl 6 (by decide) (hts _ flX1_9) (fun _ h9 => h9) rfl dX1_groupLevel_33 ?_
        refine lv_iload_n hx hb dX1_groupLevel_36 rfl (lv_at hl 4 rfl) ?_
        refine mh_ialn (i := t) (v := nI (zGr z t)) hx hb hK.1 hP 5 0 rfl rfl (by omega) (by decide) dX1_groupLevel_37 rfl ?_
        refine lv_icmp_ne (tgt := 57) hx hb dX1_groupLevel_38 (by decide) (fun c38 => ?_) (fun c38 => ?_)
        · skip
          have hns : ¬ zGr z i = zGr z t := fun q => c38 (by rw [q])
          rw [← zGL_n hns] at hl
          obtain ⟨y, ey⟩ : ∃ y : Int32, y = nI i + 1 := ⟨_, rfl⟩
          refine lv_iinc (v := y) (lv' := [(6, .int y), (5, .int (nI (zGL z ch t h (i + 1)))), (4, .int (nI (zState z t))), (0, .ref (ad 0)), (1, .int (nI t)), (2, .long (lN h))]) hx hb dX1_groupLevel_57 hl (k := 0) rfl (by rw [ey]; rfl) (by decide) rfl (fun ls hl => ?_)
          refine lv_goto (tgt := 16) hx hb dX1_groupLevel_60 (by decide) ?_
          rw [nI_1] at ey
          subst ey
          exact ih (i + 1) (by omega) ls (lv_sub hl [0, 1, 2, 3, 4, 5] rfl)
        · skip
          have hsm : zGr z i = zGr z t := (nI_eq (by have := hgr i (by omega); omega) (by have := hgr t ht; omega)).mp c38
          refine lv_iload hx hb dX1_groupLevel_41 (lv_at hl 1 rfl) ?_
          refine lv_aload_n hx hb dX1_groupLevel_43 rfl (lv_at hl 3 rfl) ?_
          refine lv_iload hx hb dX1_groupLevel_44 (lv_at hl 0 rfl) ?_
          refine lv_lload_n hx hb dX1_groupLevel_46 rfl (lv_at hl 5 rfl) ?_
          refine lv_iload hx hb dX1_groupLevel_47 (lv_at hl 2 rfl) ?_
          refine rcV (n := 3) (As := [.int (nI i), .long (lN h), .int (nI (zState z t))]) (rest := [.int (nI (zGL z ch t h i))]) ⟨hx, hb, hml, hown, hts⟩ (kX1_ownLevel l D cy lo ad z F ch hok i h (zState z t) (by omega) hh hst) mlX1_122 imX1_ownLevel seX1_ownLevel inX1 cdX1_ownLevel (by decide +kernel) rfl rfl ⟨Nat.le_of_ble_eq_true rfl, Nat.le_of_ble_eq_true rfl⟩ hK hP hz rfl rfl rfl hl.1 rfl (Nat.le_of_ble_eq_true rfl) dX1_groupLevel_49 ⟨Nat.zero_le _, Nat.zero_le _⟩ (fun r49 hr49 => ?_)
          subst hr49
          have hb1 := zGL_le z ch t h i
          have hb2 := zOwn_le (fun k hk => (hev k hk).2.1) (zState z t) h (ch i) (zLt z i) 0 (hch i (by omega)) (Nat.zero_le _)
          refine va_mmin hx hb (hml.trans hl.1.symm) hown (hts _ mlX1_32) (hts _ stJ9_min) (hts _ inJ9) (hts _ cdJ9_min) (Nat.le_of_ble_eq_true rfl) (Nat.le_of_ble_eq_true rfl) (Nat.zero_le _) (Nat.zero_le _) dX1_groupLevel_52 ?_
          rw [nI_min (by omega) (by omega)]
          rw [← zGL_s hsm]
          refine lv_istore (lv' := [(5, .int (nI (zGL z ch t h (i + 1)))), (6, .int (nI i)), (4, .int (nI (zState z t))), (0, .ref (ad 0)), (1, .int (nI t)), (2, .long (lN h))]) hx hb dX1_groupLevel_55 hl (by decide) rfl (fun ls hl => ?_)
          obtain ⟨y, ey⟩ : ∃ y : Int32, y = nI i + 1 := ⟨_, rfl⟩
          refine lv_iinc (v := y) (lv' := [(6, .int y), (5, .int (nI (zGL z ch t h (i + 1)))), (4, .int (nI (zState z t))), (0, .ref (ad 0)), (1, .int (nI t)), (2, .long (lN h))]) hx hb dX1_groupLevel_57 hl (k := 1) rfl (by rw [ey]; rfl) (by decide) rfl (fun ls hl => ?_)
          refine lv_goto (tgt := 16) hx hb dX1_groupLevel_60 (by decide) ?_
          rw [nI_1] at ey
          subst ey
          exact ih (i + 1) (by omega) ls (lv_sub hl [0, 1, 2, 3, 4, 5] rfl)
  refine lv_aload_n hx hb dX1_groupLevel_0 rfl (lv_at hl 0 rfl) ?_
  refine lv_iload_n hx hb dX1_groupLevel_1 rfl (lv_at hl 1 rfl) ?_
  refine rcV (n := 1) (As := [.int (nI t)]) (rest := []) ⟨hx, hb, hml, hown, hts⟩ (kX1_stateOf l D cy lo ad z F ch hok t ht) mlX1_119 imX1_stateOf seX1_stateOf inX1 cdX1_stateOf (by decide +kernel) rfl rfl ⟨Nat.le_of_ble_eq_true rfl, Nat.le_of_ble_eq_true rfl⟩ hK hP hz rfl rfl rfl hl.1 rfl (Nat.le_of_ble_eq_true rfl) dX1_groupLevel_2 ⟨Nat.zero_le _, Nat.zero_le _⟩ (fun r2 hr2 => ?_)
  subst hr2
  refine lv_istore (lv' := [(4, .int (nI (zState z t))), (0, .ref (ad 0)), (1, .int (nI t)), (2, .long (lN h))]) hx hb dX1_groupLevel_5 hl (by decide) rfl (fun ls hl => ?_)
  refine lv_aload_n hx hb dX1_groupLevel_7 rfl (lv_at hl 1 rfl) ?_
  refine mh_get (ci := 1) (v := .int (nI (zL z))) hx hb hts wfX1 hown hK.1 hP 0 rfl rfl 1 (by decide) (hts _ flX1_38) (fun _ h9 => h9) rfl dX1_groupLevel_8 ?_
  refine lv_istore (lv' := [(5, .int (nI (zL z))), (4, .int (nI (zState z t))), (0, .ref (ad 0)), (1, .int (nI t)), (2, .long (lN h))]) hx hb dX1_groupLevel_11 hl (by decide) rfl (fun ls hl => ?_)
  refine lv_iconst (v := 0) hx hb dX1_groupLevel_13 (by decide) ?_
  refine lv_istore (lv' := [(6, .int 0), (5, .int (nI (zL z))), (4, .int (nI (zState z t))), (0, .ref (ad 0)), (1, .int (nI t)), (2, .long (lN h))]) hx hb dX1_groupLevel_14 hl (by decide) rfl (fun ls hl => ?_)
  exact loop (zT z) 0 (Nat.zero_add _) ls (lv_sub hl [0, 1, 2, 3, 4, 5] rfl)
set_option maxHeartbeats 4000000 in
set_option maxRecDepth 100000 in
/-- lastContent -/
theorem kX1_lastContent (l : Launch) (D : va_G) (cy : Nat → ClassId) (lo : Nat) (ad : Nat → Nat) (z : zS) (F : Nat → Option va_E) (ch : Nat → List Nat) (hok : zOk z ch) (t h : Nat) (ht : t < zT z) (hh : h ≤ 1000000) : Met l yX1_lastContent wX1_lastContent { frames := 0, cells := 0, slots := 0, locals := 0 } (pcs D cy lo ad (zC cy ad z F) [.ref (ad 0), .int (nI t), .long (lN h)]) (vp_Si (fun r => r = zLC z h (ch t))) 0 0 (fun _ => False) := by
  refine Met.ofW (cc := cX1_lastContent) (maxL := 5) (ret := (some .int)) (by decide) rfl ?_
  intro p e s m args below meth c s₁ B hml hv
  obtain ⟨rfl, hz, hP, hK⟩ := hv
  have hx := B.exec
  have hb := B.bytes
  have hr := B.returns
  have hts : ∀ w ∈ wA, w.before [.ref (ad 0), .int (nI t), .long (lN h)].toArray s = true := fun w h => atoms_spec (ws := wX1_lastContent) B.pre w (List.mem_cons_of_mem _ h)
  have hown : s.vm.findClass RX1 = some m.cls := findClass_of_methodNamed B.named
  have hlocks := B.notSynchronized
  have hl := lv_entry ([.ref (ad 0), .int (nI t), .long (lN h)]) (n := 5) (Nat.le_of_ble_eq_true rfl)
  rw [lg_entry_eq]
  generalize (lg_sl ([.ref (ad 0), .int (nI t), .long (lN h)]) ++ List.replicate (5 - (lg_sl ([.ref (ad 0), .int (nI t), .long (lN h)])).length) Slot.unset).toArray = ls at hl ⊢
  have hl : lv_has ls 5 [(0, .ref (ad 0)), (1, .int (nI t)), (2, .long (lN h))] := hl
  obtain ⟨Q, hQ⟩ : ∃ Q, Q = MQ below (vp_Si (fun r => r = zLC z h (ch t))) [.ref (ad 0), .int (nI t), .long (lN h)].toArray s 0 0 (fun _ => False) := ⟨_, rfl⟩
  rw [← hQ]
  obtain ⟨hK1, hK20, hL1, hL9, hT32, hE200, hnd, hal, hla, hco, hgr, hch, hlt0, hev, hbf⟩ := id hok
  have loop : ∀ (ks : List Nat) (o : Option Nat), lnk z o ks → zLC z h ks = zLC z h (ch t) → ∀ (ls : Array Slot), lv_has ls 5 [(4, (va_rf (o.map (fun k => ad (100 + k))))), (0, .ref (ad 0)), (1, .int (nI t)), (2, .long (lN h))] → W p l e (headSpec wX1_lastContent { frames := 0, cells := 0, slots := 0, locals := 0 }).room s m [.ref (ad 0), .int (nI t), .long (lN h)].toArray below meth c s.heap [] 0 0 Q (F0 m 8 ls []) := by
    intro ks
    induction ks with
    | nil =>
      intro o  ho hin ls hl
      have ho : o = none := ho
      subst ho
      have hl : lv_has ls 5 [(4, .null), (0, .ref (ad 0)), (1, .int (nI t)), (2, .long (lN h))] := hl
      refine lv_aloadN hx hb dX1_lastContent_8 (lv_at hl 0 rfl) ?_
      refine lv_ifnullN (tgt := 48) hx hb dX1_lastContent_10 (by decide) ?_
      refine lv_iconst (v := (-1)) hx hb dX1_lastContent_48 (by decide) ?_
      rw [hQ]
      exact W.iret (v := (-1)) hx hb hr (fun t9 ht9 _ => ⟨_, rfl, by rw [← hin]; rfl, ht9⟩) (fun q h => by cases h) dX1_lastContent_49
    | cons k ks ih =>
      intro o  ho hin ls hl
      obtain ⟨rfl, hk, hnx⟩ := ho
      obtain ⟨hv1, hv2, hv3, hv4⟩ := hev k hk
      have hl : lv_has ls 5 [(4, .ref (ad (100 + k))), (0, .ref (ad 0)), (1, .int (nI t)), (2, .long (lN h))] := hl
      refine lv_aload hx hb dX1_lastContent_8 (lv_at hl 0 rfl) ?_
      refine lv_ifnull hx hb dX1_lastContent_10 ?_
      refine lv_aload hx hb dX1_lastContent_13 (lv_at hl 0 rfl) ?_
      refine mh_getN (ci := 0) (v := .long (lN (eh (zVs z k)))) hx hb hts wfX0 hown hK.1 hP (100 + k) (zC_ev k hK20 hk) rfl 2 (by decide) (va_Nw.use rfl hK.2.1.2.2.1) (fun _ h9 => h9) rfl dX1_lastContent_15 ?_
      refine lv_lload_n hx hb dX1_lastContent_18 rfl (lv_at hl 3 rfl) ?_
      refine W.lcmp hx hb dX1_lastContent_19 ?_
      refine lv_if_gt (tgt := 38) hx hb dX1_lastContent_20 (by decide) (fun c20 => ?_) (fun c20 => ?_)
      · skip
        have hgt : ¬ eh (zVs z k) ≤ h := fun q => by
          have q1 := (lg_cmp_gt _ _).mp c20
          rw [lN_lt (by omega) (by omega)] at q1
          omega
        have hin := (zLC_n (fun q => hgt q.1)).symm.trans hin
        refine lv_aload hx hb dX1_lastContent_38 (lv_at hl 0 rfl) ?_
        refine mh_getN (ci := 0) (v := (va_rf ((eb (zVs z k)).map (fun k => ad (100 + k))))) hx hb hts wfX0 hown hK.1 hP (100 + k) (zC_ev k hK20 hk) rfl 4 (by decide) (va_Nw.use rfl hK.2.1.2.2.2.2) (fun _ h9 => h9) rfl dX1_lastContent_40 ?_
        refine mv_astore (lv' := [(4, (va_rf ((eb (zVs z k)).map (fun k => ad (100 + k))))), (0, .ref (ad 0)), (1, .int (nI t)), (2, .long (lN h))]) hx hb dX1_lastContent_43 hl (by decide) rfl (fun ls hl => ?_)
        refine lv_goto (tgt := 8) hx hb dX1_lastContent_45 (by decide) ?_
        exact ih _ hnx hin ls (lv_sub hl [0, 1, 2, 3] rfl)
      · skip
        have hle : eh (zVs z k) ≤ h := Nat.le_of_not_lt (fun q => c20 ((lg_cmp_gt _ _).mpr ((lN_lt (by omega) (by omega)).mpr q)))
        refine lv_aload hx hb dX1_lastContent_23 (lv_at hl 0 rfl) ?_
        refine mh_getN (ci := 0) (v := .int (ei (zVs z k))) hx hb hts wfX0 hown hK.1 hP (100 + k) (zC_ev k hK20 hk) rfl 0 (by decide) (va_Nw.use rfl hK.2.1.1) (fun _ h9 => h9) rfl dX1_lastContent_25 ?_
        refine lv_iconst (v := (-1)) hx hb dX1_lastContent_28 (by decide) ?_
        refine lv_icmp_eq (tgt := 38) hx hb dX1_lastContent_29 (by decide) (fun c29 => ?_) (fun c29 => ?_)
        · skip
          have hin := (zLC_n (fun q => q.2 c29)).symm.trans hin
          refine lv_aload hx hb dX1_lastContent_38 (lv_at hl 0 rfl) ?_
          refine mh_getN (ci := 0) (v := (va_rf ((eb (zVs z k)).map (fun k => ad (100 + k))))) hx hb hts wfX0 hown hK.1 hP (100 + k) (zC_ev k hK20 hk) rfl 4 (by decide) (va_Nw.use rfl hK.2.1.2.2.2.2) (fun _ h9 => h9) rfl dX1_lastContent_40 ?_
          refine mv_astore (lv' := [(4, (va_rf ((eb (zVs z k)).map (fun k => ad (100 + k))))), (0, .ref (ad 0)), (1, .int (nI t)), (2, .long (lN h))]) hx hb dX1_lastContent_43 hl (by decide) rfl (fun ls hl => ?_)
          refine lv_goto (tgt := 8) hx hb dX1_lastContent_45 (by decide) ?_
          exact ih _ hnx hin ls (lv_sub hl [0, 1, 2, 3] rfl)
        · skip
          refine lv_aload hx hb dX1_lastContent_32 (lv_at hl 0 rfl) ?_
          refine mh_getN (ci := 0) (v := .int (ei (zVs z k))) hx hb hts wfX0 hown hK.1 hP (100 + k) (zC_ev k hK20 hk) rfl 0 (by decide) (va_Nw.use rfl hK.2.1.1) (fun _ h9 => h9) rfl dX1_lastContent_34 ?_
          rw [hQ]
          exact W.iret (v := ei (zVs z k)) hx hb hr (fun t9 ht9 _ => ⟨_, rfl, by rw [← hin, zLC_y ⟨hle, c29⟩], ht9⟩) (fun q h => by cases h) dX1_lastContent_37
  refine lv_aload_n hx hb dX1_lastContent_0 rfl (lv_at hl 0 rfl) ?_
  refine mh_get (ci := 1) (v := .ref (ad 6)) hx hb hts wfX1 hown hK.1 hP 0 rfl rfl 7 (by decide) (hts _ flX1_15) (fun _ h9 => h9) rfl dX1_lastContent_1 ?_
  refine lv_iload_n hx hb dX1_lastContent_4 rfl (lv_at hl 1 rfl) ?_
  refine mh_aqn (i := t) (v := (va_rf ((zLt z t).map (fun k => ad (100 + k))))) hx hb hK.1 hP 6 4 rfl rfl (by omega) (by decide) dX1_lastContent_5 rfl ?_
  refine mv_astore (lv' := [(4, (va_rf ((zLt z t).map (fun k => ad (100 + k))))), (0, .ref (ad 0)), (1, .int (nI t)), (2, .long (lN h))]) hx hb dX1_lastContent_6 hl (by decide) rfl (fun ls hl => ?_)
  exact loop (ch t) (zLt z t) (hch t ht) rfl ls hl
set_option maxHeartbeats 4000000 in
set_option maxRecDepth 100000 in
/-- needBehind -/
theorem kX1_needBehind (l : Launch) (D : va_G) (cy : Nat → ClassId) (lo : Nat) (ad : Nat → Nat) (z : zS) (F : Nat → Option va_E) (ch : Nat → List Nat) (hok : zOk z ch) (kc kk : Int32) (oc ok : Option Nat) (hc : isOp kc (zK z) oc) (hk : isOp kk (zK z) ok) : Met l yX1_needBehind wX1_needBehind { frames := 1, cells := 0, slots := 0, locals := 21 } (pcs D cy lo ad (zC cy ad z F) [.ref (ad 0), .int kc, .int kk]) (vp_Si (fun r => r = nI (zNB z oc ok))) 0 0 (fun _ => False) := by
  refine Met.ofW (cc := cX1_needBehind) (maxL := 3) (ret := (some .int)) (by decide) rfl ?_
  intro p e s m args below meth c s₁ B hml hv
  obtain ⟨rfl, hz, hP, hK⟩ := hv
  have hx := B.exec
  have hb := B.bytes
  have hr := B.returns
  have hts : ∀ w ∈ wA, w.before [.ref (ad 0), .int kc, .int kk].toArray s = true := fun w h => atoms_spec (ws := wX1_needBehind) B.pre w (List.mem_cons_of_mem _ h)
  have hown : s.vm.findClass RX1 = some m.cls := findClass_of_methodNamed B.named
  have hlocks := B.notSynchronized
  have hl := lv_entry ([.ref (ad 0), .int kc, .int kk]) (n := 3) (Nat.le_of_ble_eq_true rfl)
  rw [lg_entry_eq]
  generalize (lg_sl ([.ref (ad 0), .int kc, .int kk]) ++ List.replicate (3 - (lg_sl ([.ref (ad 0), .int kc, .int kk])).length) Slot.unset).toArray = ls at hl ⊢
  have hl : lv_has ls 3 [(0, .ref (ad 0)), (1, .int kc), (2, .int kk)] := hl
  obtain ⟨Q, hQ⟩ : ∃ Q, Q = MQ below (vp_Si (fun r => r = nI (zNB z oc ok))) [.ref (ad 0), .int kc, .int kk].toArray s 0 0 (fun _ => False) := ⟨_, rfl⟩
  rw [← hQ]
  obtain ⟨hK1, hK20, hL1, hL9, hT32, hE200, hnd, hal, hla, hco, hgr, hch, hlt0, hev, hbf⟩ := id hok
  refine lv_aload_n hx hb dX1_needBehind_0 rfl (lv_at hl 0 rfl) ?_
  refine lv_iload_n hx hb dX1_needBehind_1 rfl (lv_at hl 1 rfl) ?_
  refine rcV (n := 1) (As := [.int kc]) (rest := []) ⟨hx, hb, hml, hown, hts⟩ (kX1_isKind l D cy lo ad z F kc ⟨hK20, hL9, hT32⟩) mlX1_62 imX1_isKind seX1_isKind inX1 cdX1_isKind (by decide +kernel) rfl rfl ⟨Nat.le_of_ble_eq_true rfl, Nat.le_of_ble_eq_true rfl⟩ hK hP hz rfl rfl rfl hl.1 rfl (Nat.le_of_ble_eq_true rfl) dX1_needBehind_2 ⟨Nat.zero_le _, Nat.zero_le _⟩ (fun r2 hr2 => ?_)
  refine lv_if_ne (tgt := 10) hx hb dX1_needBehind_5 (by decide) (fun c5 => ?_) (fun c5 => ?_)
  · skip
    obtain ⟨i, rfl, hi, rfl⟩ := isOp_some hc (sb_1 hr2 c5)
    refine lv_aload_n hx hb dX1_needBehind_10 rfl (lv_at hl 0 rfl) ?_
    refine lv_iload_n hx hb dX1_needBehind_11 rfl (lv_at hl 2 rfl) ?_
    refine rcV (n := 1) (As := [.int kk]) (rest := []) ⟨hx, hb, hml, hown, hts⟩ (kX1_isKind l D cy lo ad z F kk ⟨hK20, hL9, hT32⟩) mlX1_62 imX1_isKind seX1_isKind inX1 cdX1_isKind (by decide +kernel) rfl rfl ⟨Nat.le_of_ble_eq_true rfl, Nat.le_of_ble_eq_true rfl⟩ hK hP hz rfl rfl rfl hl.1 rfl (Nat.le_of_ble_eq_true rfl) dX1_needBehind_12 ⟨Nat.zero_le _, Nat.zero_le _⟩ (fun r12 hr12 => ?_)
    refine lv_if_eq (tgt := 36) hx hb dX1_needBehind_15 (by decide) (fun c15 => ?_) (fun c15 => ?_)
    · skip
      have hn := isOp_none hk (sb_0 hr12 c15)
      subst hn
      refine lv_aload_n hx hb dX1_needBehind_36 rfl (lv_at hl 0 rfl) ?_
      refine mh_get (ci := 1) (v := .int (nI (zL z))) hx hb hts wfX1 hown hK.1 hP 0 rfl rfl 1 (by decide) (hts _ flX1_38) (fun _ h9 => h9) rfl dX1_needBehind_37 ?_
      rw [hQ]
      exact W.iret (v := nI (zL z)) hx hb hr (fun t9 ht9 _ => ⟨_, rfl, by first | rfl | (show _ = nI (if _ then _ else _); rw [if_neg c33]), ht9⟩) (fun q h => by cases h) dX1_needBehind_40
    · skip
      obtain ⟨j, rfl, hj, rfl⟩ := isOp_some hk (sb_1 hr12 c15)
      refine lv_aload_n hx hb dX1_needBehind_18 rfl (lv_at hl 0 rfl) ?_
      refine mh_get (ci := 1) (v := .ref (ad 2)) hx hb hts wfX1 hown hK.1 hP 0 rfl rfl 3 (by decide) (hts _ flX1_52) (fun _ h9 => h9) rfl dX1_needBehind_19 ?_
      refine lv_iload_n hx hb dX1_needBehind_22 rfl (lv_at hl 1 rfl) ?_
      refine mh_ialn (i := i) (v := nI (zAl z i)) hx hb hK.1 hP 2 0 rfl rfl hi (by omega) dX1_needBehind_23 rfl ?_
      refine lv_aload_n hx hb dX1_needBehind_24 rfl (lv_at hl 0 rfl) ?_
      refine mh_get (ci := 1) (v := .ref (ad 2)) hx hb hts wfX1 hown hK.1 hP 0 rfl rfl 3 (by decide) (hts _ flX1_52) (fun _ h9 => h9) rfl dX1_needBehind_25 ?_
      refine lv_iload_n hx hb dX1_needBehind_28 rfl (lv_at hl 2 rfl) ?_
      refine mh_ialn (i := j) (v := nI (zAl z j)) hx hb hK.1 hP 2 0 rfl rfl hj (by omega) dX1_needBehind_29 rfl ?_
      refine lv_iconst (v := (-1)) hx hb dX1_needBehind_30 (by decide) ?_
      refine lv_ixor hx hb dX1_needBehind_31 ?_
      refine lv_iand hx hb dX1_needBehind_32 ?_
      refine lv_if_eq (tgt := 41) hx hb dX1_needBehind_33 (by decide) (fun c33 => ?_) (fun c33 => ?_)
      · skip
        refine lv_aload_n hx hb dX1_needBehind_41 rfl (lv_at hl 0 rfl) ?_
        refine mh_get (ci := 1) (v := .ref (ad 1)) hx hb hts wfX1 hown hK.1 hP 0 rfl rfl 2 (by decide) (hts _ flX1_43) (fun _ h9 => h9) rfl dX1_needBehind_42 ?_
        refine lv_iload_n hx hb dX1_needBehind_45 rfl (lv_at hl 1 rfl) ?_
        refine mh_aan (i := i) (v := .ref (ad (20 + i))) hx hb hK.1 hP 1 3 rfl rfl hi (by omega) dX1_needBehind_46 (congrArg va_rf (if_pos hi)) ?_
        refine lv_iload_n hx hb dX1_needBehind_47 rfl (lv_at hl 2 rfl) ?_
        refine mh_ialn (i := j) (v := nI (zNd z i j)) hx hb hK.1 hP (20 + i) 0 (zC_nd i hi) rfl hj (by omega) dX1_needBehind_48 rfl ?_
        rw [hQ]
        exact W.iret (v := nI (zNd z i j)) hx hb hr (fun t9 ht9 _ => ⟨_, rfl, by show _ = nI (if _ then _ else _); rw [if_pos c33], ht9⟩) (fun q h => by cases h) dX1_needBehind_49
      · skip
        refine lv_aload_n hx hb dX1_needBehind_36 rfl (lv_at hl 0 rfl) ?_
        refine mh_get (ci := 1) (v := .int (nI (zL z))) hx hb hts wfX1 hown hK.1 hP 0 rfl rfl 1 (by decide) (hts _ flX1_38) (fun _ h9 => h9) rfl dX1_needBehind_37 ?_
        rw [hQ]
        exact W.iret (v := nI (zL z)) hx hb hr (fun t9 ht9 _ => ⟨_, rfl, by first | rfl | (show _ = nI (if _ then _ else _); rw [if_neg c33]), ht9⟩) (fun q h => by cases h) dX1_needBehind_40
  · skip
    have hn := isOp_none hc (sb_0 hr2 c5)
    subst hn
    refine lv_iconst (v := 0) hx hb dX1_needBehind_8 (by decide) ?_
    rw [hQ]
    exact W.iret (v := 0) hx hb hr (fun t9 ht9 _ => ⟨_, rfl, by rfl, ht9⟩) (fun q h => by cases h) dX1_needBehind_9
set_option maxHeartbeats 4000000 in
set_option maxRecDepth 100000 in
/-- groupNeed -/
theorem kX1_groupNeed (l : Launch) (D : va_G) (cy : Nat → ClassId) (lo : Nat) (ad : Nat → Nat) (z : zS) (F : Nat → Option va_E) (ch : Nat → List Nat) (hok : zOk z ch) (t h : Nat) (kk : Int32) (ok : Option Nat) (hk : isOp kk (zK z) ok) (ht : t < zT z) (hh : h ≤ 1000000) : Met l yX1_groupNeed wX1_groupNeed { frames := 2, cells := 0, slots := 0, locals := 46 } (pcs D cy lo ad (zC cy ad z F) [.ref (ad 0), .int (nI t), .int kk, .long (lN h)]) (vp_Si (fun r => r = nI (zGN z (fun e => zLO z h (ch e)) ok t (zT z)))) 0 0 (fun _ => False) := by
  refine Met.ofW (cc := cX1_groupNeed) (maxL := 7) (ret := (some .int)) (by decide) rfl ?_
  intro p e s m args below meth c s₁ B hml hv
  obtain ⟨rfl, hz, hP, hK⟩ := hv
  have hx := B.exec
  have hb := B.bytes
  have hr := B.returns
  have hts : ∀ w ∈ wA, w.before [.ref (ad 0), .int (nI t), .int kk, .long (lN h)].toArray s = true := fun w h => atoms_spec (ws := wX1_groupNeed) B.pre w (List.mem_cons_of_mem _ h)
  have hown : s.vm.findClass RX1 = some m.cls := findClass_of_methodNamed B.named
  have hlocks := B.notSynchronized
  have hl := lv_entry ([.ref (ad 0), .int (nI t), .int kk, .long (lN h)]) (n := 7) (Nat.le_of_ble_eq_true rfl)
  rw [lg_entry_eq]
  generalize (lg_sl ([.ref (ad 0), .int (nI t), .int kk, .long (lN h)]) ++ List.replicate (7 - (lg_sl ([.ref (ad 0), .int (nI t), .int kk, .long (lN h)])).length) Slot.unset).toArray = ls at hl ⊢
  have hl : lv_has ls 7 [(0, .ref (ad 0)), (1, .int (nI t)), (2, .int kk), (3, .long (lN h))] := hl
  obtain ⟨Q, hQ⟩ : ∃ Q, Q = MQ below (vp_Si (fun r => r = nI (zGN z (fun e => zLO z h (ch e)) ok t (zT z)))) [.ref (ad 0), .int (nI t), .int kk, .long (lN h)].toArray s 0 0 (fun _ => False) := ⟨_, rfl⟩
  rw [← hQ]
  obtain ⟨hK1, hK20, hL1, hL9, hT32, hE200, hnd, hal, hla, hco, hgr, hch, hlt0, hev, hbf⟩ := id hok
  have loop : ∀ (d i : Nat), i + d = zT z → ∀ (ls : Array Slot), lv_has ls 7 [(6, .int (nI i)), (5, .int (nI (zGN z (fun e => zLO z h (ch e)) ok t i))), (0, .ref (ad 0)), (1, .int (nI t)), (2, .int kk), (3, .long (lN h))] → W p l e (headSpec wX1_groupNeed { frames := 2, cells := 0, slots := 0, locals := 46 }).room s m [.ref (ad 0), .int (nI t), .int kk, .long (lN h)].toArray below meth c s.heap [] 0 0 Q (F0 m 6 ls []) := by
    intro d
    induction d with
    | zero =>
      intro i  hid  ls hl
      refine lv_iload hx hb dX1_groupNeed_6 (lv_at hl 0 rfl) ?_
      refine lv_aload_n hx hb dX1_groupNeed_8 rfl (lv_at hl 2 rfl) ?_
      refine mh_get (ci := 1) (v := .int (nI (zT z))) hx hb hts wfX1 hown hK.1 hP 0 rfl rfl 8 (by decide) (hts _ flX1_19) (fun _ h9 => h9) rfl dX1_groupNeed_9 ?_
      refine lv_icmp_ge (tgt := 56) hx hb dX1_groupNeed_12 (by decide) (fun c12 => ?_) (fun c12 => ?_)
      · skip
        refine lv_iload hx hb dX1_groupNeed_56 (lv_at hl 1 rfl) ?_
        rw [hQ]
        exact W.iret (v := nI (zGN z (fun e => zLO z h (ch e)) ok t i)) hx hb hr (fun t9 ht9 _ => ⟨_, rfl, by rw [show i = zT z by omega], ht9⟩) (fun q h => by cases h) dX1_groupNeed_58
      · skip
        exact absurd (nI_le (by omega) (by omega)) c12
    | succ d ih =>
      intro i  hid  ls hl
      refine lv_iload hx hb dX1_groupNeed_6 (lv_at hl 0 rfl) ?_
      refine lv_aload_n hx hb dX1_groupNeed_8 rfl (lv_at hl 2 rfl) ?_
      refine mh_get (ci := 1) (v := .int (nI (zT z))) hx hb hts wfX1 hown hK.1 hP 0 rfl rfl 8 (by decide) (hts _ flX1_19) (fun _ h9 => h9) rfl dX1_groupNeed_9 ?_
      refine lv_icmp_ge (tgt := 56) hx hb dX1_groupNeed_12 (by decide) (fun c12 => ?_) (fun c12 => ?_)
      · skip
        exact absurd c12 (nI_ge (by omega) (by omega))
      · skip
        refine lv_aload_n hx hb dX1_groupNeed_15 rfl (lv_at hl 2 rfl) ?_
        refine mh_get (ci := 1) (v := .ref (ad 5)) hx hb hts wfX1 hown hK.1 hP 0 rfl rfl 6 (by decide) (hts _ flX1_9) (fun _ h9 => h9) rfl dX1_groupNeed_16 ?_
        refine lv_iload hx hb dX1_groupNeed_19 (lv_at hl 0 rfl) ?_
        refine mh_ialn (i := i) (v := nI (zGr z i)) hx hb hK.1 hP 5 0 rfl rfl (by omega) (by decide) dX1_groupNeed_21 rfl ?_
        refine lv_aload_n hx hb dX1_groupNeed_22 rfl (lv_at hl 2 rfl) ?_
        refine mh_get (ci := 1) (v := .ref (ad 5)) hx hb hts wfX1 hown hK.1 hP 0 rfl rfl 6 (by decide) (hts _ flX1_9) (fun _ h9 => h9) rfl dX1_groupNeed_23 ?_
        refine lv_iload_n hx hb dX1_groupNeed_26 rfl (lv_at hl 3 rfl) ?_
        refine mh_ialn (i := t) (v := nI (zGr z t)) hx hb hK.1 hP 5 0 rfl rfl (by omega) (by decide) dX1_groupNeed_27 rfl ?_
        refine lv_icmp_ne (tgt := 50) hx hb dX1_groupNeed_28 (by decide) (fun c28 => ?_) (fun c28 => ?_)
        · skip
          have hns : ¬ zGr z i = zGr z t := fun q => c28 (by rw [q])
          rw [← zGN_n hns] at hl
          obtain ⟨y, ey⟩ : ∃ y : Int32, y = nI i + 1 := ⟨_, rfl⟩
          refine lv_iinc (v := y) (lv' := [(6, .int y), (5, .int (nI (zGN z (fun e => zLO z h (ch e)) ok t (i + 1)))), (0, .ref (ad 0)), (1, .int (nI t)), (2, .int kk), (3, .long (lN h))]) hx hb dX1_groupNeed_50 hl (k := 0) rfl (by rw [ey]; rfl) (by decide) rfl (fun ls hl => ?_)
          refine lv_goto (tgt := 6) hx hb dX1_groupNeed_53 (by decide) ?_
          rw [nI_1] at ey
          subst ey
          exact ih (i + 1) (by omega) ls (lv_sub hl [0, 1, 2, 3, 4, 5] rfl)
        · skip
          have hsm : zGr z i = zGr z t := (nI_eq (by have := hgr i (by omega); omega) (by have := hgr t ht; omega)).mp c28
          refine lv_iload hx hb dX1_groupNeed_31 (lv_at hl 1 rfl) ?_
          refine lv_aload_n hx hb dX1_groupNeed_33 rfl (lv_at hl 2 rfl) ?_
          refine lv_aload_n hx hb dX1_groupNeed_34 rfl (lv_at hl 2 rfl) ?_
          refine lv_iload hx hb dX1_groupNeed_35 (lv_at hl 0 rfl) ?_
          refine lv_lload_n hx hb dX1_groupNeed_37 rfl (lv_at hl 5 rfl) ?_
          refine rcV (n := 2) (As := [.int (nI i), .long (lN h)]) (rest := [.ref (ad 0), .int (nI (zGN z (fun e => zLO z h (ch e)) ok t i))]) ⟨hx, hb, hml, hown, hts⟩ (kX1_lastContent l D cy lo ad z F ch hok i h (by omega) hh) mlX1_135 imX1_lastContent seX1_lastContent inX1 cdX1_lastContent (by decide +kernel) rfl rfl ⟨Nat.le_of_ble_eq_true rfl, Nat.le_of_ble_eq_true rfl⟩ hK hP hz rfl rfl rfl hl.1 rfl (Nat.le_of_ble_eq_true rfl) dX1_groupNeed_38 ⟨Nat.zero_le _, Nat.zero_le _⟩ (fun r38 hr38 => ?_)
          subst hr38
          have hop := zLO_op hK20 (fun k hk => (hev k hk).2.2.2) h (ch i) (zLt z i) (hch i (by omega))
          refine lv_iload_n hx hb dX1_groupNeed_41 rfl (lv_at hl 4 rfl) ?_
          refine rcV (n := 2) (As := [.int (zLC z h (ch i)), .int kk]) (rest := [.int (nI (zGN z (fun e => zLO z h (ch e)) ok t i))]) ⟨hx, hb, hml, hown, hts⟩ (kX1_needBehind l D cy lo ad z F ch hok (zLC z h (ch i)) kk (zLO z h (ch i)) ok hop hk) mlX1_138 imX1_needBehind seX1_needBehind inX1 cdX1_needBehind (by decide +kernel) rfl rfl ⟨Nat.le_of_ble_eq_true rfl, Nat.le_of_ble_eq_true rfl⟩ hK hP hz rfl rfl rfl hl.1 rfl (Nat.le_of_ble_eq_true rfl) dX1_groupNeed_42 ⟨Nat.zero_le _, Nat.zero_le _⟩ (fun r42 hr42 => ?_)
          subst hr42
          have hb1 : zGN z (fun e => zLO z h (ch e)) ok t i ≤ zL z := zGN_le i (fun e he => zNB_le hnd (zLO_op hK20 (fun k hk => (hev k hk).2.2.2) h (ch e) (zLt z e) (hch e (by omega))) hk)
          have hb2 := zNB_le hnd hop hk
          refine va_mmax hx hb (hml.trans hl.1.symm) hown (hts _ mlX1_26) (hts _ stJ9_max) (hts _ inJ9) (hts _ cdJ9_max) (Nat.le_of_ble_eq_true rfl) (Nat.le_of_ble_eq_true rfl) (Nat.zero_le _) (Nat.zero_le _) dX1_groupNeed_45 ?_
          rw [nI_max (by omega) (by omega)]
          rw [← zGN_s (lc := fun e => zLO z h (ch e)) hsm]
          refine lv_istore (lv' := [(5, .int (nI (zGN z (fun e => zLO z h (ch e)) ok t (i + 1)))), (6, .int (nI i)), (0, .ref (ad 0)), (1, .int (nI t)), (2, .int kk), (3, .long (lN h))]) hx hb dX1_groupNeed_48 hl (by decide) rfl (fun ls hl => ?_)
          obtain ⟨y, ey⟩ : ∃ y : Int32, y = nI i + 1 := ⟨_, rfl⟩
          refine lv_iinc (v := y) (lv' := [(6, .int y), (5, .int (nI (zGN z (fun e => zLO z h (ch e)) ok t (i + 1)))), (0, .ref (ad 0)), (1, .int (nI t)), (2, .int kk), (3, .long (lN h))]) hx hb dX1_groupNeed_50 hl (k := 1) rfl (by rw [ey]; rfl) (by decide) rfl (fun ls hl => ?_)
          refine lv_goto (tgt := 6) hx hb dX1_groupNeed_53 (by decide) ?_
          rw [nI_1] at ey
          subst ey
          exact ih (i + 1) (by omega) ls (lv_sub hl [0, 1, 2, 3, 4, 5] rfl)
  refine lv_iconst (v := 0) hx hb dX1_groupNeed_0 (by decide) ?_
  refine lv_istore (lv' := [(5, .int 0), (0, .ref (ad 0)), (1, .int (nI t)), (2, .int kk), (3, .long (lN h))]) hx hb dX1_groupNeed_1 hl (by decide) rfl (fun ls hl => ?_)
  refine lv_iconst (v := 0) hx hb dX1_groupNeed_3 (by decide) ?_
  refine lv_istore (lv' := [(6, .int 0), (5, .int 0), (0, .ref (ad 0)), (1, .int (nI t)), (2, .int kk), (3, .long (lN h))]) hx hb dX1_groupNeed_4 hl (by decide) rfl (fun ls hl => ?_)
  exact loop (zT z) 0 (Nat.zero_add _) ls (lv_sub hl [0, 1, 2, 3, 4, 5] rfl)
set_option maxHeartbeats 4000000 in
set_option maxRecDepth 100000 in
/-- cheapestFrom -/
theorem kX1_cheapestFrom (l : Launch) (D : va_G) (cy : Nat → ClassId) (lo : Nat) (ad : Nat → Nat) (z : zS) (F : Nat → Option va_E) (ch : Nat → List Nat) (hok : zOk z ch) (n : Nat) (hn1 : 1 ≤ n) (hn : n ≤ zL z) : Met l yX1_cheapestFrom wX1_cheapestFrom { frames := 0, cells := 0, slots := 0, locals := 0 } (pcs D cy lo ad (zC cy ad z F) [.ref (ad 0), .int (nI n)]) (vp_Si (fun r => r = nI (zCh z n (zL z - n)))) 0 0 (fun _ => False) := by
  refine Met.ofW (cc := cX1_cheapestFrom) (maxL := 4) (ret := (some .int)) (by decide) rfl ?_
  intro p e s m args below meth c s₁ B hml hv
  obtain ⟨rfl, hz, hP, hK⟩ := hv
  have hx := B.exec
  have hb := B.bytes
  have hr := B.returns
  have hts : ∀ w ∈ wA, w.before [.ref (ad 0), .int (nI n)].toArray s = true := fun w h => atoms_spec (ws := wX1_cheapestFrom) B.pre w (List.mem_cons_of_mem _ h)
  have hown : s.vm.findClass RX1 = some m.cls := findClass_of_methodNamed B.named
  have hlocks := B.notSynchronized
  have hl := lv_entry ([.ref (ad 0), .int (nI n)]) (n := 4) (Nat.le_of_ble_eq_true rfl)
  rw [lg_entry_eq]
  generalize (lg_sl ([.ref (ad 0), .int (nI n)]) ++ List.replicate (4 - (lg_sl ([.ref (ad 0), .int (nI n)])).length) Slot.unset).toArray = ls at hl ⊢
  have hl : lv_has ls 4 [(0, .ref (ad 0)), (1, .int (nI n))] := hl
  obtain ⟨Q, hQ⟩ : ∃ Q, Q = MQ below (vp_Si (fun r => r = nI (zCh z n (zL z - n)))) [.ref (ad 0), .int (nI n)].toArray s 0 0 (fun _ => False) := ⟨_, rfl⟩
  rw [← hQ]
  obtain ⟨hK1, hK20, hL1, hL9, hT32, hE200, hnd, hal, hla, hco, hgr, hch, hlt0, hev, hbf⟩ := id hok
  have loop : ∀ (d i : Nat), i + d = zL z - n → ∀ (ls : Array Slot), lv_has ls 4 [(3, .int (nI (n + i + 1))), (2, .int (nI (zCh z n i))), (0, .ref (ad 0)), (1, .int (nI n))] → W p l e (headSpec wX1_cheapestFrom { frames := 0, cells := 0, slots := 0, locals := 0 }).room s m [.ref (ad 0), .int (nI n)].toArray below meth c s.heap [] 0 0 Q (F0 m 6 ls []) := by
    intro d
    induction d with
    | zero =>
      intro i  hid  ls hl
      refine lv_iload_n hx hb dX1_cheapestFrom_6 rfl (lv_at hl 0 rfl) ?_
      refine lv_aload_n hx hb dX1_cheapestFrom_7 rfl (lv_at hl 2 rfl) ?_
      refine mh_get (ci := 1) (v := .int (nI (zL z))) hx hb hts wfX1 hown hK.1 hP 0 rfl rfl 1 (by decide) (hts _ flX1_38) (fun _ h9 => h9) rfl dX1_cheapestFrom_8 ?_
      refine lv_icmp_gt (tgt := 38) hx hb dX1_cheapestFrom_11 (by decide) (fun c11 => ?_) (fun c11 => ?_)
      · skip
        refine lv_iload_n hx hb dX1_cheapestFrom_38 rfl (lv_at hl 1 rfl) ?_
        rw [hQ]
        exact W.iret (v := nI (zCh z n i)) hx hb hr (fun t9 ht9 _ => ⟨_, rfl, by rw [show i = zL z - n by omega], ht9⟩) (fun q h => by cases h) dX1_cheapestFrom_39
      · skip
        exact absurd (nI_lt (by omega) (by omega)) c11
    | succ d ih =>
      intro i  hid  ls hl
      refine lv_iload_n hx hb dX1_cheapestFrom_6 rfl (lv_at hl 0 rfl) ?_
      refine lv_aload_n hx hb dX1_cheapestFrom_7 rfl (lv_at hl 2 rfl) ?_
      refine mh_get (ci := 1) (v := .int (nI (zL z))) hx hb hts wfX1 hown hK.1 hP 0 rfl rfl 1 (by decide) (hts _ flX1_38) (fun _ h9 => h9) rfl dX1_cheapestFrom_8 ?_
      refine lv_icmp_gt (tgt := 38) hx hb dX1_cheapestFrom_11 (by decide) (fun c11 => ?_) (fun c11 => ?_)
      · skip
        exact absurd c11 (nI_nlt (by omega) (by omega))
      · skip
        have hci := zCh_in z n i
        have hc1 := hco (n + i + 1)
        have hc2 := hco (zCh z n i)
        refine lv_aload_n hx hb dX1_cheapestFrom_14 rfl (lv_at hl 2 rfl) ?_
        refine mh_get (ci := 1) (v := .ref (ad 4)) hx hb hts wfX1 hown hK.1 hP 0 rfl rfl 5 (by decide) (hts _ flX1_58) (fun _ h9 => h9) rfl dX1_cheapestFrom_15 ?_
        refine lv_iload_n hx hb dX1_cheapestFrom_18 rfl (lv_at hl 0 rfl) ?_
        refine mh_laln (i := n + i + 1) (v := lN (zCo z (n + i + 1))) hx hb hK.1 hP 4 1 rfl rfl (by omega) (by omega) dX1_cheapestFrom_19 rfl ?_
        refine lv_aload_n hx hb dX1_cheapestFrom_20 rfl (lv_at hl 2 rfl) ?_
        refine mh_get (ci := 1) (v := .ref (ad 4)) hx hb hts wfX1 hown hK.1 hP 0 rfl rfl 5 (by decide) (hts _ flX1_58) (fun _ h9 => h9) rfl dX1_cheapestFrom_21 ?_
        refine lv_iload_n hx hb dX1_cheapestFrom_24 rfl (lv_at hl 1 rfl) ?_
        refine mh_laln (i := zCh z n i) (v := lN (zCo z (zCh z n i))) hx hb hK.1 hP 4 1 rfl rfl (by omega) (by omega) dX1_cheapestFrom_25 rfl ?_
        refine W.lcmp hx hb dX1_cheapestFrom_26 ?_
        refine lv_if_ge (tgt := 32) hx hb dX1_cheapestFrom_27 (by decide) (fun c27 => ?_) (fun c27 => ?_)
        · skip
          have hge : ¬ zCo z (n + i + 1) < zCo z (zCh z n i) := fun q => by
            have q1 := (lN_le (by omega) (by omega)).mp ((lg_cmp_ge _ _).mp c27)
            omega
          rw [← zCh_n hge] at hl
          obtain ⟨y, ey⟩ : ∃ y : Int32, y = nI (n + i + 1) + 1 := ⟨_, rfl⟩
          refine lv_iinc (v := y) (lv' := [(3, .int y), (2, .int (nI (zCh z n (i + 1)))), (0, .ref (ad 0)), (1, .int (nI n))]) hx hb dX1_cheapestFrom_32 hl (k := 0) rfl (by rw [ey]; rfl) (by decide) rfl (fun ls hl => ?_)
          refine lv_goto (tgt := 6) hx hb dX1_cheapestFrom_35 (by decide) ?_
          rw [nI_1] at ey
          subst ey
          exact ih (i + 1) (by omega) ls (lv_sub hl [0, 1, 2, 3] rfl)
        · skip
          have hlt : zCo z (n + i + 1) < zCo z (zCh z n i) := Nat.lt_of_not_le (fun q => c27 ((lg_cmp_ge _ _).mpr ((lN_le (by omega) (by omega)).mpr q)))
          refine lv_iload_n hx hb dX1_cheapestFrom_30 rfl (lv_at hl 0 rfl) ?_
          refine lv_istore_n (lv' := [(2, .int (nI (n + i + 1))), (3, .int (nI (n + i + 1))), (0, .ref (ad 0)), (1, .int (nI n))]) hx hb dX1_cheapestFrom_31 rfl hl (by decide) rfl (fun ls hl => ?_)
          have hl : lv_has ls 4 [(2, .int (nI (zCh z n (i + 1)))), (3, .int (nI (n + i + 1))), (0, .ref (ad 0)), (1, .int (nI n))] := by rw [zCh_y hlt]; exact hl
          obtain ⟨y, ey⟩ : ∃ y : Int32, y = nI (n + i + 1) + 1 := ⟨_, rfl⟩
          refine lv_iinc (v := y) (lv' := [(3, .int y), (2, .int (nI (zCh z n (i + 1)))), (0, .ref (ad 0)), (1, .int (nI n))]) hx hb dX1_cheapestFrom_32 hl (k := 1) rfl (by rw [ey]; rfl) (by decide) rfl (fun ls hl => ?_)
          refine lv_goto (tgt := 6) hx hb dX1_cheapestFrom_35 (by decide) ?_
          rw [nI_1] at ey
          subst ey
          exact ih (i + 1) (by omega) ls (lv_sub hl [0, 1, 2, 3] rfl)
  refine lv_iload_n hx hb dX1_cheapestFrom_0 rfl (lv_at hl 1 rfl) ?_
  refine lv_istore_n (lv' := [(2, .int (nI n)), (0, .ref (ad 0)), (1, .int (nI n))]) hx hb dX1_cheapestFrom_1 rfl hl (by decide) rfl (fun ls hl => ?_)
  refine lv_iload_n hx hb dX1_cheapestFrom_2 rfl (lv_at hl 2 rfl) ?_
  refine lv_iconst (v := 1) hx hb dX1_cheapestFrom_3 (by decide) ?_
  refine lv_iadd hx hb dX1_cheapestFrom_4 ?_
  rw [nI_1]
  refine lv_istore_n (lv' := [(3, .int (nI (n + 1))), (2, .int (nI n)), (0, .ref (ad 0)), (1, .int (nI n))]) hx hb dX1_cheapestFrom_5 rfl hl (by decide) rfl (fun ls hl => ?_)
  exact loop (zL z - n) 0 (Nat.zero_add _) ls (lv_sub hl [0, 1, 2, 3] rfl)
set_option maxHeartbeats 4000000 in
set_option maxRecDepth 100000 in
/-- lastHourInTime -/
theorem kX1_lastHourInTime (l : Launch) (D : va_G) (cy : Nat → ClassId) (lo : Nat) (ad : Nat → Nat) (z : zS) (F : Nat → Option va_E) (ch : Nat → List Nat) (hok : zOk z ch) (t : Nat) (ht : t < zT z) : Met l yX1_lastHourInTime wX1_lastHourInTime { frames := 0, cells := 0, slots := 0, locals := 0 } (pcs D cy lo ad (zC cy ad z F) [.ref (ad 0), .int (nI t)]) (vp_Sl (fun r => r = lN (zLH z (ch t)))) 0 0 (fun _ => False) := by
  refine Met.ofW (cc := cX1_lastHourInTime) (maxL := 3) (ret := (some .long)) (by decide) rfl ?_
  intro p e s m args below meth c s₁ B hml hv
  obtain ⟨rfl, hz, hP, hK⟩ := hv
  have hx := B.exec
  have hb := B.bytes
  have hr := B.returns
  have hts : ∀ w ∈ wA, w.before [.ref (ad 0), .int (nI t)].toArray s = true := fun w h => atoms_spec (ws := wX1_lastHourInTime) B.pre w (List.mem_cons_of_mem _ h)
  have hown : s.vm.findClass RX1 = some m.cls := findClass_of_methodNamed B.named
  have hlocks := B.notSynchronized
  have hl := lv_entry ([.ref (ad 0), .int (nI t)]) (n := 3) (Nat.le_of_ble_eq_true rfl)
  rw [lg_entry_eq]
  generalize (lg_sl ([.ref (ad 0), .int (nI t)]) ++ List.replicate (3 - (lg_sl ([.ref (ad 0), .int (nI t)])).length) Slot.unset).toArray = ls at hl ⊢
  have hl : lv_has ls 3 [(0, .ref (ad 0)), (1, .int (nI t))] := hl
  obtain ⟨Q, hQ⟩ : ∃ Q, Q = MQ below (vp_Sl (fun r => r = lN (zLH z (ch t)))) [.ref (ad 0), .int (nI t)].toArray s 0 0 (fun _ => False) := ⟨_, rfl⟩
  rw [← hQ]
  obtain ⟨hK1, hK20, hL1, hL9, hT32, hE200, hnd, hal, hla, hco, hgr, hch, hlt0, hev, hbf⟩ := id hok
  have loop : ∀ (ks : List Nat) (o : Option Nat), lnk z o ks → zLH z ks = zLH z (ch t) → ∀ (ls : Array Slot), lv_has ls 3 [(2, (va_rf (o.map (fun k => ad (100 + k))))), (0, .ref (ad 0)), (1, .int (nI t))] → W p l e (headSpec wX1_lastHourInTime { frames := 0, cells := 0, slots := 0, locals := 0 }).room s m [.ref (ad 0), .int (nI t)].toArray below meth c s.heap [] 0 0 Q (F0 m 7 ls []) := by
    intro ks
    induction ks with
    | nil =>
      intro o  ho hin ls hl
      have ho : o = none := ho
      subst ho
      have hl : lv_has ls 3 [(2, .null), (0, .ref (ad 0)), (1, .int (nI t))] := hl
      refine lv_aload_nN hx hb dX1_lastHourInTime_7 rfl (lv_at hl 0 rfl) ?_
      refine lv_ifnullN (tgt := 31) hx hb dX1_lastHourInTime_8 (by decide) ?_
      refine lv_lconst (v := 0) hx hb dX1_lastHourInTime_31 (by decide) ?_
      rw [hQ]
      exact W.lret (v := 0) hx hb hr (fun t9 ht9 _ => ⟨_, rfl, by rw [← hin]; rfl, ht9⟩) (fun q h => by cases h) dX1_lastHourInTime_32
    | cons k ks ih =>
      intro o  ho hin ls hl
      obtain ⟨rfl, hk, hnx⟩ := ho
      obtain ⟨hv1, hv2, hv3, hv4⟩ := hev k hk
      have hl : lv_has ls 3 [(2, .ref (ad (100 + k))), (0, .ref (ad 0)), (1, .int (nI t))] := hl
      refine lv_aload_n hx hb dX1_lastHourInTime_7 rfl (lv_at hl 0 rfl) ?_
      refine lv_ifnull hx hb dX1_lastHourInTime_8 ?_
      refine lv_aload_n hx hb dX1_lastHourInTime_11 rfl (lv_at hl 0 rfl) ?_
      refine mh_getN (ci := 0) (v := .int (nI (ea (zVs z k)))) hx hb hts wfX0 hown hK.1 hP (100 + k) (zC_ev k hK20 hk) rfl 3 (by decide) (va_Nw.use rfl hK.2.1.2.2.2.1) (fun _ h9 => h9) rfl dX1_lastHourInTime_12 ?_
      refine lv_if_ne (tgt := 23) hx hb dX1_lastHourInTime_15 (by decide) (fun c15 => ?_) (fun c15 => ?_)
      · skip
        have hin := (zLH_n (fun q => c15 (by rw [q]; rfl))).symm.trans hin
        refine lv_aload_n hx hb dX1_lastHourInTime_23 rfl (lv_at hl 0 rfl) ?_
        refine mh_getN (ci := 0) (v := (va_rf ((eb (zVs z k)).map (fun k => ad (100 + k))))) hx hb hts wfX0 hown hK.1 hP (100 + k) (zC_ev k hK20 hk) rfl 4 (by decide) (va_Nw.use rfl hK.2.1.2.2.2.2) (fun _ h9 => h9) rfl dX1_lastHourInTime_24 ?_
        refine mv_astore_n (lv' := [(2, (va_rf ((eb (zVs z k)).map (fun k => ad (100 + k))))), (0, .ref (ad 0)), (1, .int (nI t))]) hx hb dX1_lastHourInTime_27 rfl hl (by decide) rfl (fun ls hl => ?_)
        refine lv_goto (tgt := 7) hx hb dX1_lastHourInTime_28 (by decide) ?_
        exact ih _ hnx hin ls (lv_sub hl [0, 1, 2] rfl)
      · skip
        have he0 : ea (zVs z k) = 0 := (nI_eq (b := 0) (by omega) (by omega)).mp c15
        refine lv_aload_n hx hb dX1_lastHourInTime_18 rfl (lv_at hl 0 rfl) ?_
        refine mh_getN (ci := 0) (v := .long (lN (eh (zVs z k)))) hx hb hts wfX0 hown hK.1 hP (100 + k) (zC_ev k hK20 hk) rfl 2 (by decide) (va_Nw.use rfl hK.2.1.2.2.1) (fun _ h9 => h9) rfl dX1_lastHourInTime_19 ?_
        rw [hQ]
        exact W.lret (v := lN (eh (zVs z k))) hx hb hr (fun t9 ht9 _ => ⟨_, rfl, by rw [← hin, zLH_y he0], ht9⟩) (fun q h => by cases h) dX1_lastHourInTime_22
  refine lv_aload_n hx hb dX1_lastHourInTime_0 rfl (lv_at hl 0 rfl) ?_
  refine mh_get (ci := 1) (v := .ref (ad 6)) hx hb hts wfX1 hown hK.1 hP 0 rfl rfl 7 (by decide) (hts _ flX1_15) (fun _ h9 => h9) rfl dX1_lastHourInTime_1 ?_
  refine lv_iload_n hx hb dX1_lastHourInTime_4 rfl (lv_at hl 1 rfl) ?_
  refine mh_aqn (i := t) (v := (va_rf ((zLt z t).map (fun k => ad (100 + k))))) hx hb hK.1 hP 6 4 rfl rfl (by omega) (by decide) dX1_lastHourInTime_5 rfl ?_
  refine mv_astore_n (lv' := [(2, (va_rf ((zLt z t).map (fun k => ad (100 + k))))), (0, .ref (ad 0)), (1, .int (nI t))]) hx hb dX1_lastHourInTime_6 rfl hl (by decide) rfl (fun ls hl => ?_)
  exact loop (ch t) (zLt z t) (hch t ht) rfl ls hl
