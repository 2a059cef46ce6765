theorem zOwn_hi {z : zS} {st h k g : Nat} {ks : List Nat} (h1 : ¬ eh (zVs z k) ≤ h) : zOwn z st h (k :: ks) g = zOwn z st h ks g := if_neg h1
theorem zOwn_cl {z : zS} {st h k g : Nat} {ks : List Nat} (h1 : eh (zVs z k) ≤ h) (h2 : ei (zVs z k) = -1) : zOwn z st h (k :: ks) g = zOwn z st h ks (max g (zLeft (zLa z st) (h - eh (zVs z k)) (el (zVs z k)))) := (if_pos h1).trans (if_pos h2)
theorem zOwn_co {z : zS} {st h k g : Nat} {ks : List Nat} (h1 : eh (zVs z k) ≤ h) (h2 : ¬ ei (zVs z k) = -1) : zOwn z st h (k :: ks) g = g := (if_pos h1).trans (if_neg h2)
theorem zState_1 {z : zS} {t e : Nat} (he : e < zT z) (h1 : e ≠ t) (h2 : zGr z e = zGr z t) : zState z t = 1 := by
  unfold zState
  rw [if_pos]
  exact List.any_eq_true.mpr ⟨e, List.mem_range.mpr he, by simp [h1, h2]⟩
theorem zState_0 {z : zS} {t : Nat} (h : ∀ e, e < zT z → ¬ (e ≠ t ∧ zGr z e = zGr z t)) : zState z t = 0 := by
  unfold zState
  rw [if_neg]
  intro q
  obtain ⟨e, he, h2⟩ := List.any_eq_true.mp q
  exact h e (List.mem_range.mp he) (of_decide_eq_true h2)
theorem zState_lt (z : zS) (t : Nat) : zState z t < 2 := by
  unfold zState
  split <;> decide
theorem zOwn_le {z : zS} (hev : ∀ k, k < zE z → el (zVs z k) ≤ zL z) (st h : Nat) : ∀ (ks : List Nat) (o : Option Nat) (g : Nat), lnk z o ks → g ≤ zL z → zOwn z st h ks g ≤ zL z
  | [], _, g, _, hg => hg
  | k :: ks, o, g, ho, hg => by
    obtain ⟨-, hk, hn⟩ := ho
    unfold zOwn
    split
    · split
      · refine zOwn_le hev st h ks _ _ hn ?_
        have := zLeft_le (zLa z st) (h - eh (zVs z k)) (el (zVs z k))
        have := hev k hk
        omega
      · exact hg
    · exact zOwn_le hev st h ks _ _ hn hg
theorem zGL_le (z : zS) (ch : Nat → List Nat) (t h : Nat) : ∀ n, zGL z ch t h n ≤ zL z
  | 0 => Nat.le_refl _
  | n + 1 => by
    have := zGL_le z ch t h n
    unfold zGL
    split <;> omega
theorem zCh_in (z : zS) (lo : Nat) : ∀ d, lo ≤ zCh z lo d ∧ zCh z lo d ≤ lo + d
  | 0 => ⟨Nat.le_refl _, Nat.le_refl _⟩
  | d + 1 => by
    have := zCh_in z lo d
    unfold zCh
    split <;> omega
def zLO (z : zS) (h : Nat) : List Nat → Option Nat
  | [] => none
  | k :: ks => if eh (zVs z k) ≤ h ∧ ei (zVs z k) ≠ -1 then some (ei (zVs z k)).toNatClampNeg else zLO z h ks
theorem not_isIn_m1 (n : Nat) (hn : n < 2 ^ 31) : ¬ isIn (-1) n := isIn_lt hn (by decide)
theorem zLO_op {z : zS} (hK : zK z ≤ 20) (hev : ∀ k, k < zE z → ei (zVs z k) = -1 ∨ ∃ j, j < zK z ∧ ei (zVs z k) = nI j) (h : Nat) : ∀ (ks : List Nat) (o : Option Nat), lnk z o ks → isOp (zLC z h ks) (zK z) (zLO z h ks)
  | [], _, _ => not_isIn_m1 _ (by omega)
  | k :: ks, o, ho => by
    obtain ⟨-, hk, hn⟩ := ho
    unfold zLC zLO
    by_cases c : eh (zVs z k) ≤ h ∧ ei (zVs z k) ≠ -1
    · rw [if_pos c, if_pos c]
      rcases hev k hk with q | ⟨j, hj, q⟩
      · exact absurd q c.2
      · rw [q, nI_clamp (by omega)]
        exact ⟨hj, rfl⟩
    · rw [if_neg c, if_neg c]
      exact zLO_op hK hev h ks _ hn
theorem zNB_le {z : zS} (hnd : ∀ i j, i < zK z → j < zK z → zNd z i j ≤ zL z) {kc kk : Int32} {a b : Option Nat} (ha : isOp kc (zK z) a) (hb : isOp kk (zK z) b) : zNB z a b ≤ zL z := by
  unfold zNB
  split
  · exact Nat.zero_le _
  · exact Nat.le_refl _
  · split
    · exact hnd _ _ ha.1 hb.1
    · exact Nat.le_refl _
theorem zGN_le {z : zS} {lc : Nat → Option Nat} {k : Option Nat} {t : Nat} : ∀ n, (∀ e, e < n → zNB z (lc e) k ≤ zL z) → zGN z lc k t n ≤ zL z
  | 0, _ => Nat.zero_le _
  | n + 1, h => by
    have h1 := zGN_le (z := z) (lc := lc) (k := k) (t := t) n (fun e he => h e (by omega))
    have h2 := h n (by omega)
    unfold zGN
    split <;> omega
/-- the thing may take an event at the hour j that is told in time -/
def zNx (z : zS) (ch : Nat → List Nat) (t j : Nat) : Prop := ∀ k ks, ch t = k :: ks → eh (zVs z k) ≤ j
/-- an answer that asks for a thing and an hour -/
def ans (T : Nat) (k : Int32) (h : Int64) (f : Nat → Nat → Int32) (r : Int32) : Prop := (∃ t j : Nat, t < T ∧ k = nI t ∧ j ≤ 1000000 ∧ h = lN j ∧ r = f t j) ∨ (¬ (isIn k T ∧ isHr h) ∧ r = -1)
theorem isOp_some {k : Int32} {n : Nat} {o : Option Nat} (h : isOp k n o) (hi : isIn k n) : ∃ j, o = some j ∧ j < n ∧ k = nI j := by
  cases o with
  | none => exact absurd hi h
  | some j => exact ⟨j, rfl, h.1, h.2⟩
theorem isOp_none {k : Int32} {n : Nat} {o : Option Nat} (h : isOp k n o) (hi : ¬ isIn k n) : o = none := by
  cases o with
  | none => rfl
  | some j => exact absurd ⟨j, h.1, h.2⟩ hi
set_option maxHeartbeats 4000000 in
set_option maxRecDepth 100000 in
/-- stateOf -/
theorem kX1_stateOf (l : Launch) (D : va_G) (cy : Nat → ClassId) (lo : Nat) (ad : Nat → Nat) (z : zS) (F : Nat → Option va_E) (ch : Nat → List Nat) (hok : zOk z ch) (t : Nat) (ht : t < zT z) : Met l yX1_stateOf wX1_stateOf { frames := 0, cells := 0, slots := 0, locals := 0 } (pcs D cy lo ad (zC cy ad z F) [.ref (ad 0), .int (nI t)]) (vp_Si (fun r => r = nI (zState z t))) 0 0 (fun _ => False) := by
  refine Met.ofW (cc := cX1_stateOf) (maxL := 3) (ret := (some .int)) (by decide) rfl ?_
  intro p e s m args below meth c s₁ B hml hv
  obtain ⟨rfl, hz, hP, hK⟩ := hv
  have hx := B.exec
  have hb := B.bytes
  have hr := B.returns
  have hts : ∀ w ∈ wA, w.before [.ref (ad 0), .int (nI t)].toArray s = true := fun w h => atoms_spec (ws := wX1_stateOf) B.pre w (List.mem_cons_of_mem _ h)
  have hown : s.vm.findClass RX1 = some m.cls := findClass_of_methodNamed B.named
  have hlocks := B.notSynchronized
  have hl := lv_entry ([.ref (ad 0), .int (nI t)]) (n := 3) (Nat.le_of_ble_eq_true rfl)
  rw [lg_entry_eq]
  generalize (lg_sl ([.ref (ad 0), .int (nI t)]) ++ List.replicate (3 - (lg_sl ([.ref (ad 0), .int (nI t)])).length) Slot.unset).toArray = ls at hl ⊢
  have hl : lv_has ls 3 [(0, .ref (ad 0)), (1, .int (nI t))] := hl
  obtain ⟨Q, hQ⟩ : ∃ Q, Q = MQ below (vp_Si (fun r => r = nI (zState z t))) [.ref (ad 0), .int (nI t)].toArray s 0 0 (fun _ => False) := ⟨_, rfl⟩
  rw [← hQ]
  obtain ⟨hK1, hK20, hL1, hL9, hT32, hE200, hnd, hal, hla, hco, hgr, hch, hlt0, hev, hbf⟩ := id hok
  have loop : ∀ (d i : Nat), i + d = zT z → (∀ e, e < i → ¬ (e ≠ t ∧ zGr z e = zGr z t)) → ∀ (ls : Array Slot), lv_has ls 3 [(2, .int (nI i)), (0, .ref (ad 0)), (1, .int (nI t))] → W p l e (headSpec wX1_stateOf { frames := 0, cells := 0, slots := 0, locals := 0 }).room s m [.ref (ad 0), .int (nI t)].toArray below meth c s.heap [] 0 0 Q (F0 m 2 ls []) := by
    intro d
    induction d with
    | zero =>
      intro i  hid hin ls hl
      refine lv_iload_n hx hb dX1_stateOf_2 rfl (lv_at hl 0 rfl) ?_
      refine lv_aload_n hx hb dX1_stateOf_3 rfl (lv_at hl 1 rfl) ?_
      refine mh_get (ci := 1) (v := .int (nI (zT z))) hx hb hts wfX1 hown hK.1 hP 0 rfl rfl 8 (by decide) (hts _ flX1_19) (fun _ h9 => h9) rfl dX1_stateOf_4 ?_
      refine lv_icmp_ge (tgt := 38) hx hb dX1_stateOf_7 (by decide) (fun c7 => ?_) (fun c7 => ?_)
      · skip
        refine lv_iconst (v := 0) hx hb dX1_stateOf_38 (by decide) ?_
        rw [hQ]
        exact W.iret (v := 0) hx hb hr (fun t9 ht9 _ => ⟨_, rfl, by rw [zState_0 (fun e he => hin e (by omega))]; rfl, ht9⟩) (fun q h => by cases h) dX1_stateOf_39
      · skip
        exact absurd (nI_le (by omega) (by omega)) c7
    | succ d ih =>
      intro i  hid hin ls hl
      refine lv_iload_n hx hb dX1_stateOf_2 rfl (lv_at hl 0 rfl) ?_
      refine lv_aload_n hx hb dX1_stateOf_3 rfl (lv_at hl 1 rfl) ?_
      refine mh_get (ci := 1) (v := .int (nI (zT z))) hx hb hts wfX1 hown hK.1 hP 0 rfl rfl 8 (by decide) (hts _ flX1_19) (fun _ h9 => h9) rfl dX1_stateOf_4 ?_
      refine lv_icmp_ge (tgt := 38) hx hb dX1_stateOf_7 (by decide) (fun c7 => ?_) (fun c7 => ?_)
      · skip
        exact absurd c7 (nI_ge (by omega) (by omega))
      · skip
        refine lv_iload_n hx hb dX1_stateOf_10 rfl (lv_at hl 0 rfl) ?_
        refine lv_iload_n hx hb dX1_stateOf_11 rfl (lv_at hl 2 rfl) ?_
        refine lv_icmp_eq (tgt := 32) hx hb dX1_stateOf_12 (by decide) (fun c12 => ?_) (fun c12 => ?_)
        · skip
          have hns : ¬ (i ≠ t ∧ zGr z i = zGr z t) := fun q => q.1 ((nI_eq (by omega) (by omega)).mp c12)
          obtain ⟨y, ey⟩ : ∃ y : Int32, y = nI i + 1 := ⟨_, rfl⟩
          refine lv_iinc (v := y) (lv' := [(2, .int y), (0, .ref (ad 0)), (1, .int (nI t))]) hx hb dX1_stateOf_32 hl (k := 0) rfl (by rw [ey]; rfl) (by decide) rfl (fun ls hl => ?_)
          refine lv_goto (tgt := 2) hx hb dX1_stateOf_35 (by decide) ?_
          rw [nI_1] at ey
          subst ey
          exact ih (i + 1) (by omega) (lt_s hin hns) ls (lv_sub hl [0, 1, 2] rfl)
        · skip
          have hne : i ≠ t := fun q => c12 (by rw [q])
          refine lv_aload_n hx hb dX1_stateOf_15 rfl (lv_at hl 1 rfl) ?_
          refine mh_get (ci := 1) (v := .ref (ad 5)) hx hb hts wfX1 hown hK.1 hP 0 rfl rfl 6 (by decide) (hts _ flX1_9) (fun _ h9 => h9) rfl dX1_stateOf_16 ?_
          refine lv_iload_n hx hb dX1_stateOf_19 rfl (lv_at hl 0 rfl) ?_
          refine mh_ialn (i := i) (v := nI (zGr z i)) hx hb hK.1 hP 5 0 rfl rfl (by omega) (by decide) dX1_stateOf_20 rfl ?_
          refine lv_aload_n hx hb dX1_stateOf_21 rfl (lv_at hl 1 rfl) ?_
          refine mh_get (ci := 1) (v := .ref (ad 5)) hx hb hts wfX1 hown hK.1 hP 0 rfl rfl 6 (by decide) (hts _ flX1_9) (fun _ h9 => h9) rfl dX1_stateOf_22 ?_
          refine lv_iload_n hx hb dX1_stateOf_25 rfl (lv_at hl 2 rfl) ?_
          refine mh_ialn (i := t) (v := nI (zGr z t)) hx hb hK.1 hP 5 0 rfl rfl (by omega) (by decide) dX1_stateOf_26 rfl ?_
          refine lv_icmp_ne (tgt := 32) hx hb dX1_stateOf_27 (by decide) (fun c27 => ?_) (fun c27 => ?_)
          · skip
            have hns : ¬ (i ≠ t ∧ zGr z i = zGr z t) := fun q => c27 (by rw [q.2])
            obtain ⟨y, ey⟩ : ∃ y : Int32, y = nI i + 1 := ⟨_, rfl⟩
            refine lv_iinc (v := y) (lv' := [(2, .int y), (0, .ref (ad 0)), (1, .int (nI t))]) hx hb dX1_stateOf_32 hl (k := 0) rfl (by rw [ey]; rfl) (by decide) rfl (fun ls hl => ?_)
            refine lv_goto (tgt := 2) hx hb dX1_stateOf_35 (by decide) ?_
            rw [nI_1] at ey
            subst ey
            exact ih (i + 1) (by omega) (lt_s hin hns) ls (lv_sub hl [0, 1, 2] rfl)
          · skip
            have hsm : zGr z i = zGr z t := (nI_eq (by have := hgr i (by omega); omega) (by have := hgr t ht; omega)).mp c27
            refine lv_iconst (v := 1) hx hb dX1_stateOf_30 (by decide) ?_
            rw [hQ]
            exact W.iret (v := 1) hx hb hr (fun t9 ht9 _ => ⟨_, rfl, by rw [zState_1 (by omega) hne hsm]; rfl, ht9⟩) (fun q h => by cases h) dX1_stateOf_31
  refine lv_iconst (v := 0) hx hb dX1_stateOf_0 (by decide) ?_
  refine lv_istore_n (lv' := [(2, .int 0), (0, .ref (ad 0)), (1, .int (nI t))]) hx hb dX1_stateOf_1 rfl hl (by decide) rfl (fun ls hl => ?_)
  exact loop (zT z) 0 (Nat.zero_add _) (fun e he => absurd he (Nat.not_lt_zero _)) ls hl
set_option maxHeartbeats 4000000 in
set_option maxRecDepth 100000 in
/-- ownLevel -/
theorem kX1_ownLevel (l : Launch) (D : va_G) (cy : Nat → ClassId) (lo : Nat) (ad : Nat → Nat) (z : zS) (F : Nat → Option va_E) (ch : Nat → List Nat) (hok : zOk z ch) (t h st : Nat) (ht : t < zT z) (hh : h ≤ 1000000) (hst : st < 2) : Met l yX1_ownLevel wX1_ownLevel { frames := 1, cells := 0, slots := 0, locals := 25 } (pcs D cy lo ad (zC cy ad z F) [.ref (ad 0), .int (nI t), .long (lN h), .int (nI st)]) (vp_Si (fun r => r = nI (zOwn z st h (ch t) 0))) 0 0 (fun _ => False) := by
  refine Met.ofW (cc := cX1_ownLevel) (maxL := 7) (ret := (some .int)) (by decide) rfl ?_
  intro p e s m args below meth c s₁ B hml hv
  obtain ⟨rfl, hz, hP, hK⟩ := hv
  have hx := B.exec
  have hb := B.bytes
  have hr := B.returns
  have hts : ∀ w ∈ wA, w.before [.ref (ad 0), .int (nI t), .long (lN h), .int (nI st)].toArray s = true := fun w h => atoms_spec (ws := wX1_ownLevel) B.pre w (List.mem_cons_of_mem _ h)
  have hown : s.vm.findClass RX1 = some m.cls := findClass_of_methodNamed B.named
  have hlocks := B.notSynchronized
  have hl := lv_entry ([.ref (ad 0), .int (nI t), .long (lN h), .int (nI st)]) (n := 7) (Nat.le_of_ble_eq_true rfl)
  rw [lg_entry_eq]
  generalize (lg_sl ([.ref (ad 0), .int (nI t), .long (lN h), .int (nI st)]) ++ List.replicate (7 - (lg_sl ([.ref (ad 0), .int (nI t), .long (lN h), .int (nI st)])).length) Slot.unset).toArray = ls at hl ⊢
  have hl : lv_has ls 7 [(0, .ref (ad 0)), (1, .int (nI t)), (2, .long (lN h)), (4, .int (nI st))] := hl
  obtain ⟨Q, hQ⟩ : ∃ Q, Q = MQ below (vp_Si (fun r => r = nI (zOwn z st h (ch t) 0))) [.ref (ad 0), .int (nI t), .long (lN h), .int (nI st)].toArray s 0 0 (fun _ => False) := ⟨_, rfl⟩
  rw [← hQ]
  obtain ⟨hK1, hK20, hL1, hL9, hT32, hE200, hnd, hal, hla, hco, hgr, hch, hlt0, hev, hbf⟩ := id hok
  have loop : ∀ (ks : List Nat) (o : Option Nat) (g : Nat), lnk z o ks → g ≤ zL z → zOwn z st h ks g = zOwn z st h (ch t) 0 → ∀ (ls : Array Slot), lv_has ls 7 [(6, (va_rf (o.map (fun k => ad (100 + k))))), (5, .int (nI g)), (0, .ref (ad 0)), (1, .int (nI t)), (2, .long (lN h)), (4, .int (nI st))] → W p l e (headSpec wX1_ownLevel { frames := 1, cells := 0, slots := 0, locals := 25 }).room s m [.ref (ad 0), .int (nI t), .long (lN h), .int (nI st)].toArray below meth c s.heap [] 0 0 Q (F0 m 11 ls []) := by
    intro ks
    induction ks with
    | nil =>
      intro o g ho hg hin ls hl
      have ho : o = none := ho
      subst ho
      have hl : lv_has ls 7 [(6, .null), (5, .int (nI g)), (0, .ref (ad 0)), (1, .int (nI t)), (2, .long (lN h)), (4, .int (nI st))] := hl
      refine lv_aloadN hx hb dX1_ownLevel_11 (lv_at hl 0 rfl) ?_
      refine lv_ifnullN (tgt := 73) hx hb dX1_ownLevel_13 (by decide) ?_
      refine lv_iload hx hb dX1_ownLevel_73 (lv_at hl 1 rfl) ?_
      rw [hQ]
      exact W.iret (v := nI g) hx hb hr (fun t9 ht9 _ => ⟨_, rfl, by rw [← hin]; rfl, ht9⟩) (fun q h => by cases h) dX1_ownLevel_75
    | cons k ks ih =>
      intro o g ho hg hin ls hl
      obtain ⟨rfl, hk, hnx⟩ := ho
      obtain ⟨hv1, hv2, hv3, hv4⟩ := hev k hk
      have hl : lv_has ls 7 [(6, .ref (ad (100 + k))), (5, .int (nI g)), (0, .ref (ad 0)), (1, .int (nI t)), (2, .long (lN h)), (4, .int (nI st))] := hl
      refine lv_aload hx hb dX1_ownLevel_11 (lv_at hl 0 rfl) ?_
      refine lv_ifnull hx hb dX1_ownLevel_13 ?_
      refine lv_aload hx hb dX1_ownLevel_16 (lv_at hl 0 rfl) ?_
      refine mh_getN (ci := 0) (v := .long (lN (eh (zVs z k)))) hx hb hts wfX0 hown hK.1 hP (100 + k) (zC_ev k hK20 hk) rfl 2 (by decide) (va_Nw.use rfl hK.2.1.2.2.1) (fun _ h9 => h9) rfl dX1_ownLevel_18 ?_
      refine lv_lload_n hx hb dX1_ownLevel_21 rfl (lv_at hl 4 rfl) ?_
      refine W.lcmp hx hb dX1_ownLevel_22 ?_
      refine lv_if_gt (tgt := 63) hx hb dX1_ownLevel_23 (by decide) (fun c23 => ?_) (fun c23 => ?_)
      · skip
        have hgt : ¬ eh (zVs z k) ≤ h := fun q => by
          have q1 := (lg_cmp_gt _ _).mp c23
          rw [lN_lt (by omega) (by omega)] at q1
          omega
        have hin : zOwn z st h ks g = zOwn z st h (ch t) 0 := (zOwn_hi hgt).symm.trans hin
        refine lv_aload hx hb dX1_ownLevel_63 (lv_at hl 0 rfl) ?_
        refine mh_getN (ci := 0) (v := (va_rf ((eb (zVs z k)).map (fun k => ad (100 + k))))) hx hb hts wfX0 hown hK.1 hP (100 + k) (zC_ev k hK20 hk) rfl 4 (by decide) (va_Nw.use rfl hK.2.1.2.2.2.2) (fun _ h9 => h9) rfl dX1_ownLevel_65 ?_
        refine mv_astore (lv' := [(6, (va_rf ((eb (zVs z k)).map (fun k => ad (100 + k))))), (5, .int (nI g)), (0, .ref (ad 0)), (1, .int (nI t)), (2, .long (lN h)), (4, .int (nI st))]) hx hb dX1_ownLevel_68 hl (by decide) rfl (fun ls hl => ?_)
        refine lv_goto (tgt := 11) hx hb dX1_ownLevel_70 (by decide) ?_
        exact ih _ _ hnx (by omega) hin ls (lv_sub hl [0, 1, 2, 3, 4, 5] rfl)
      · skip
        have hle : eh (zVs z k) ≤ h := Nat.le_of_not_lt (fun q => c23 ((lg_cmp_gt _ _).mpr ((lN_lt (by omega) (by omega)).mpr q)))
        refine lv_aload hx hb dX1_ownLevel_26 (lv_at hl 0 rfl) ?_
        refine mh_getN (ci := 0) (v := .int (ei (zVs z k))) hx hb hts wfX0 hown hK.1 hP (100 + k) (zC_ev k hK20 hk) rfl 0 (by decide) (va_Nw.use rfl hK.2.1.1) (fun _ h9 => h9) rfl dX1_ownLevel_28 ?_
        refine lv_iconst (v := (-1)) hx hb dX1_ownLevel_31 (by decide) ?_
        refine lv_icmp_eq (tgt := 38) hx hb dX1_ownLevel_32 (by decide) (fun c32 => ?_) (fun c32 => ?_)
        · skip
          have hin : zOwn z st h ks (max g (zLeft (zLa z st) (h - eh (zVs z k)) (el (zVs z k)))) = zOwn z st h (ch t) 0 := (zOwn_cl hle c32).symm.trans hin
          have hzl := zLeft_le (zLa z st) (h - eh (zVs z k)) (el (zVs z k))
          refine lv_iload hx hb dX1_ownLevel_38 (lv_at hl 1 rfl) ?_
          refine lv_aload_n hx hb dX1_ownLevel_40 rfl (lv_at hl 2 rfl) ?_
          refine lv_aload hx hb dX1_ownLevel_41 (lv_at hl 0 rfl) ?_
          refine mh_getN (ci := 0) (v := .int (nI (el (zVs z k)))) hx hb hts wfX0 hown hK.1 hP (100 + k) (zC_ev k hK20 hk) rfl 1 (by decide) (va_Nw.use rfl hK.2.1.2.1) (fun _ h9 => h9) rfl dX1_ownLevel_43 ?_
          refine lv_lload_n hx hb dX1_ownLevel_46 rfl (lv_at hl 4 rfl) ?_
          refine lv_aload hx hb dX1_ownLevel_47 (lv_at hl 0 rfl) ?_
          refine mh_getN (ci := 0) (v := .long (lN (eh (zVs z k)))) hx hb hts wfX0 hown hK.1 hP (100 + k) (zC_ev k hK20 hk) rfl 2 (by decide) (va_Nw.use rfl hK.2.1.2.2.1) (fun _ h9 => h9) rfl dX1_ownLevel_49 ?_
          refine lv_lsub hx hb dX1_ownLevel_52 ?_
          rw [lN_sub hle]
          refine lv_iload hx hb dX1_ownLevel_53 (lv_at hl 5 rfl) ?_
          refine rcV (n := 3) (As := [.int (nI (el (zVs z k))), .long (lN (h - eh (zVs z k))), .int (nI st)]) (rest := [.int (nI g)]) ⟨hx, hb, hml, hown, hts⟩ (kX1_levelLeft l D cy lo ad z F (el (zVs z k)) (h - eh (zVs z k)) st hv2 hL9 hst (by omega) hla) mlX1_132 imX1_levelLeft seX1_levelLeft inX1 cdX1_levelLeft (by decide +kernel) rfl rfl ⟨Nat.le_of_ble_eq_true rfl, Nat.le_of_ble_eq_true rfl⟩ hK hP hz rfl rfl rfl hl.1 rfl (Nat.le_of_ble_eq_true rfl) dX1_ownLevel_55 ⟨Nat.zero_le _, Nat.zero_le _⟩ (fun r55 hr55 => ?_)
          subst hr55
          refine va_mmax hx hb (hml.trans hl.1.symm) hown (hts _ mlX1_26) (hts _ stJ9_max) (hts _ inJ9) (hts _ cdJ9_max) (Nat.le_of_ble_eq_true rfl) (Nat.le_of_ble_eq_true rfl) (Nat.zero_le _) (Nat.zero_le _) dX1_ownLevel_58 ?_
          rw [nI_max (by omega) (by omega)]
          refine lv_istore (lv' := [(5, .int (nI (max g (zLeft (zLa z st) (h - eh (zVs z k)) (el (zVs z k)))))), (6, .ref (ad (100 + k))), (0, .ref (ad 0)), (1, .int (nI t)), (2, .long (lN h)), (4, .int (nI st))]) hx hb dX1_ownLevel_61 hl (by decide) rfl (fun ls hl => ?_)
          refine lv_aload hx hb dX1_ownLevel_63 (lv_at hl 1 rfl) ?_
          refine mh_getN (ci := 0) (v := (va_rf ((eb (zVs z k)).map (fun k => ad (100 + k))))) hx hb hts wfX0 hown hK.1 hP (100 + k) (zC_ev k hK20 hk) rfl 4 (by decide) (va_Nw.use rfl hK.2.1.2.2.2.2) (fun _ h9 => h9) rfl dX1_ownLevel_65 ?_
          refine mv_astore (lv' := [(6, (va_rf ((eb (zVs z k)).map (fun k => ad (100 + k))))), (5, .int (nI (max g (zLeft (zLa z st) (h - eh (zVs z k)) (el (zVs z k)))))), (0, .ref (ad 0)), (1, .int (nI t)), (2, .long (lN h)), (4, .int (nI st))]) hx hb dX1_ownLevel_68 hl (by decide) rfl (fun ls hl => ?_)
          refine lv_goto (tgt := 11) hx hb dX1_ownLevel_70 (by decide) ?_
          exact ih _ _ hnx (by omega) hin ls (lv_sub hl [0, 1, 2, 3, 4, 5] rfl)
        · skip
          refine lv_iload hx hb dX1_ownLevel_35 (lv_at hl 1 rfl) ?_
          rw [hQ]
          exact W.iret (v := nI g) hx hb hr (fun t9 ht9 _ => ⟨_, rfl, by rw [← hin, zOwn_co hle c32], ht9⟩) (fun q h => by cases h) dX1_ownLevel_37
  refine lv_iconst (v := 0) hx hb dX1_ownLevel_0 (by decide) ?_
  refine lv_istore (lv' := [(5, .int 0), (0, .ref (ad 0)), (1, .int (nI t)), (2, .long (lN h)), (4, .int (nI st))]) hx hb dX1_ownLevel_1 hl (by decide) rfl (fun ls hl => ?_)
  refine lv_aload_n hx hb dX1_ownLevel_3 rfl (lv_at hl 1 rfl) ?_
  refine mh_get (ci := 1) (v := .ref (ad 6)) hx hb hts wfX1 hown hK.1 hP 0 rfl rfl 7 (by decide) (hts _ flX1_15) (fun _ h9 => h9) rfl dX1_ownLevel_4 ?_
  refine lv_iload_n hx hb dX1_ownLevel_7 rfl (lv_at hl 2 rfl) ?_
  refine mh_aqn (i := t) (v := (va_rf ((zLt z t).map (fun k => ad (100 + k))))) hx hb hK.1 hP 6 4 rfl rfl (by omega) (by decide) dX1_ownLevel_8 rfl ?_
  refine mv_astore (lv' := [(6, (va_rf ((zLt z t).map (fun k => ad (100 + k))))), (5, .int 0), (0, .ref (ad 0)), (1, .int (nI t)), (2, .long (lN h)), (4, .int (nI st))]) hx hb dX1_ownLevel_9 hl (by decide) rfl (fun ls hl => ?_)
  exact loop (ch t) (zLt z t) 0 (hch t ht) (Nat.zero_le _) rfl ls hl
