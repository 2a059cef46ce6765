theorem mh_hp {D : va_G} {cl : List vw_C} {lo : Nat} {ad : Nat → Nat} {C : Nat → Option va_E} {t : State} {H : Heap} (ht : t.heap = H) (h : mh D cl lo ad C H) : mh D cl lo ad C t.heap := by
  rw [ht]
  exact h
theorem isIn_le {k : Int32} {n : Nat} (hn : n < 2 ^ 31 - 1) (h : ¬ k < 0) (h2 : k ≤ nI n) : isIn k (n + 1) := by
  refine isIn_of (by omega) h (fun q => ?_)
  rw [Int32.le_iff_toInt_le, nI_toInt (by omega)] at h2 q
  omega
theorem isIn_nle {k : Int32} {n : Nat} (hn : n < 2 ^ 31 - 1) (h2 : ¬ k ≤ nI n) : ¬ isIn k (n + 1) := by
  rintro ⟨j, hj, rfl⟩
  exact h2 (nI_le (by omega) (by omega))
theorem isHr_cs {h : Int64} (c1 : ¬ lg_cmp h 0 < 0) (c2 : lg_cmp h 1000000 ≤ 0) : isHr h := isHr_of (fun q => c1 ((lg_cmp_lt _ _).mpr q)) (fun q => by
  have := (lg_cmp_le _ _).mp c2
  rw [Int64.le_iff_toInt_le] at this
  rw [Int64.lt_iff_toInt_lt] at q
  omega)
theorem isHr_nle {h : Int64} (c2 : ¬ lg_cmp h 1000000 ≤ 0) : ¬ isHr h := by
  rintro ⟨j, hj, rfl⟩
  apply c2
  rw [lg_cmp_le, Int64.le_iff_toInt_le, lN_toInt (by omega)]
  have e0 : (1000000 : Int64).toInt = 1000000 := by decide
  omega
set_option maxHeartbeats 4000000 in
set_option maxRecDepth 100000 in
/-- need -/
theorem kX1_need (l : Launch) (D : va_G) (cy : Nat → ClassId) (lo : Nat) (ad : Nat → Nat) (z : zS) (F : Nat → Option va_E) (ch : Nat → List Nat) (hok : zOk z ch) (kf kt kl : Int32) : Met l yX1_need wX1_need { frames := 1, cells := 0, slots := 0, locals := 21 } (pcs D cy lo ad (zC cy ad z F) [.ref (ad 0), .int kf, .int kt, .int kl]) (qwi D lo (fun r u => (r = 1 ∧ ∃ i j v, i < zK z ∧ j < zK z ∧ v ≤ zL z ∧ kf = nI i ∧ kt = nI j ∧ kl = nI v ∧ u = (ad, zC cy ad (uNd z i j v) F)) ∨ (r = 0 ∧ ¬ (isIn kf (zK z) ∧ isIn kt (zK z) ∧ isIn kl (zL z + 1)) ∧ u = (ad, zC cy ad z F)))) 0 0 (fun q => lo ≤ q) := by
  refine Met.ofW (cc := cX1_need) (maxL := 4) (ret := (some .boolean)) (by decide) rfl ?_
  intro p e s m args below meth c s₁ B hml hv
  obtain ⟨rfl, hz, hP, hK⟩ := hv
  have hx := B.exec
  have hb := B.bytes
  have hr := B.returns
  have hts : ∀ w ∈ wA, w.before [.ref (ad 0), .int kf, .int kt, .int kl].toArray s = true := fun w h => atoms_spec (ws := wX1_need) B.pre w (List.mem_cons_of_mem _ h)
  have hown : s.vm.findClass RX1 = some m.cls := findClass_of_methodNamed B.named
  have hlocks := B.notSynchronized
  have hS : va_S (fun q => lo ≤ q) s.heap s.heap [] := va_S.rf
  have hl := lv_entry ([.ref (ad 0), .int kf, .int kt, .int kl]) (n := 4) (Nat.le_of_ble_eq_true rfl)
  rw [lg_entry_eq]
  generalize (lg_sl ([.ref (ad 0), .int kf, .int kt, .int kl]) ++ List.replicate (4 - (lg_sl ([.ref (ad 0), .int kf, .int kt, .int kl])).length) Slot.unset).toArray = ls at hl ⊢
  have hl : lv_has ls 4 [(0, .ref (ad 0)), (1, .int kf), (2, .int kt), (3, .int kl)] := hl
  obtain ⟨Q, hQ⟩ : ∃ Q, Q = MQ below (qwi D lo (fun r u => (r = 1 ∧ ∃ i j v, i < zK z ∧ j < zK z ∧ v ≤ zL z ∧ kf = nI i ∧ kt = nI j ∧ kl = nI v ∧ u = (ad, zC cy ad (uNd z i j v) F)) ∨ (r = 0 ∧ ¬ (isIn kf (zK z) ∧ isIn kt (zK z) ∧ isIn kl (zL z + 1)) ∧ u = (ad, zC cy ad z F)))) [.ref (ad 0), .int kf, .int kt, .int kl].toArray s 0 0 (fun q => lo ≤ q) := ⟨_, rfl⟩
  rw [← hQ]
  obtain ⟨hK1, hK20, hL1, hL9, hT32, hE200, hnd, hal, hla, hco, hgr, hch, hlt0, hev, hbf⟩ := id hok
  refine lv_aload_n hx hb dX1_need_0 rfl (lv_at hl 0 rfl) ?_
  refine lv_iload_n hx hb dX1_need_1 rfl (lv_at hl 1 rfl) ?_
  refine rcV (n := 1) (As := [.int kf]) (rest := []) ⟨hx, hb, hml, hown, hts⟩ (kX1_isKind l D cy lo ad z F kf ⟨hK20, hL9, hT32⟩) mlX1_62 imX1_isKind seX1_isKind inX1 cdX1_isKind (by decide +kernel) rfl rfl ⟨Nat.le_of_ble_eq_true rfl, Nat.le_of_ble_eq_true rfl⟩ hK hP hz rfl rfl rfl hl.1 rfl (Nat.le_of_ble_eq_true rfl) dX1_need_2 ⟨Nat.zero_le _, Nat.zero_le _⟩ (fun r2 hr2 => ?_)
  refine lv_if_eq (tgt := 28) hx hb dX1_need_5 (by decide) (fun c5 => ?_) (fun c5 => ?_)
  · skip
    have hno : ¬ (isIn kf (zK z) ∧ isIn kt (zK z) ∧ isIn kl (zL z + 1)) := fun q => sb_0 hr2 c5 q.1
    refine lv_iconst (v := 0) hx hb dX1_need_28 (by decide) ?_
    rw [hQ]
    exact W.zret (v := 0) hx hb hr (by decide) (fun t9 ht9 _ => ⟨⟨_, (ad, zC cy ad z F), rfl, Or.inr ⟨rfl, hno, rfl⟩, mh_hp ht9 (hP)⟩, hS.F ht9⟩) hS.2.2 dX1_need_29
  · skip
    have hA := sb_1 hr2 c5
    refine lv_aload_n hx hb dX1_need_8 rfl (lv_at hl 0 rfl) ?_
    refine lv_iload_n hx hb dX1_need_9 rfl (lv_at hl 2 rfl) ?_
    refine rcV (n := 1) (As := [.int kt]) (rest := []) ⟨hx, hb, hml, hown, hts⟩ (kX1_isKind l D cy lo ad z F kt ⟨hK20, hL9, hT32⟩) mlX1_62 imX1_isKind seX1_isKind inX1 cdX1_isKind (by decide +kernel) rfl rfl ⟨Nat.le_of_ble_eq_true rfl, Nat.le_of_ble_eq_true rfl⟩ hK hP hz rfl rfl rfl hl.1 rfl (Nat.le_of_ble_eq_true rfl) dX1_need_10 ⟨Nat.zero_le _, Nat.zero_le _⟩ (fun r10 hr10 => ?_)
    refine lv_if_eq (tgt := 28) hx hb dX1_need_13 (by decide) (fun c13 => ?_) (fun c13 => ?_)
    · skip
      have hno : ¬ (isIn kf (zK z) ∧ isIn kt (zK z) ∧ isIn kl (zL z + 1)) := fun q => sb_0 hr10 c13 q.2.1
      refine lv_iconst (v := 0) hx hb dX1_need_28 (by decide) ?_
      rw [hQ]
      exact W.zret (v := 0) hx hb hr (by decide) (fun t9 ht9 _ => ⟨⟨_, (ad, zC cy ad z F), rfl, Or.inr ⟨rfl, hno, rfl⟩, mh_hp ht9 (hP)⟩, hS.F ht9⟩) hS.2.2 dX1_need_29
    · skip
      have hB := sb_1 hr10 c13
      refine lv_iload_n hx hb dX1_need_16 rfl (lv_at hl 3 rfl) ?_
      refine lv_if_lt (tgt := 28) hx hb dX1_need_17 (by decide) (fun c17 => ?_) (fun c17 => ?_)
      · skip
        have hno : ¬ (isIn kf (zK z) ∧ isIn kt (zK z) ∧ isIn kl (zL z + 1)) := fun q => isIn_lt (by omega) c17 q.2.2
        refine lv_iconst (v := 0) hx hb dX1_need_28 (by decide) ?_
        rw [hQ]
        exact W.zret (v := 0) hx hb hr (by decide) (fun t9 ht9 _ => ⟨⟨_, (ad, zC cy ad z F), rfl, Or.inr ⟨rfl, hno, rfl⟩, mh_hp ht9 (hP)⟩, hS.F ht9⟩) hS.2.2 dX1_need_29
      · skip
        refine lv_iload_n hx hb dX1_need_20 rfl (lv_at hl 3 rfl) ?_
        refine lv_aload_n hx hb dX1_need_21 rfl (lv_at hl 0 rfl) ?_
        refine mh_get (ci := 1) (v := .int (nI (zL z))) hx hb hts wfX1 hown hK.1 hP 0 rfl rfl 1 (by decide) (hts _ flX1_38) (fun _ h9 => h9) rfl dX1_need_22 ?_
        refine lv_icmp_le (tgt := 30) hx hb dX1_need_25 (by decide) (fun c25 => ?_) (fun c25 => ?_)
        · skip
          obtain ⟨v, hv, rfl⟩ := isIn_le (by omega) c17 c25
          obtain ⟨i, hi, rfl⟩ := hA
          obtain ⟨j, hj, rfl⟩ := hB
          refine lv_aload_n hx hb dX1_need_30 rfl (lv_at hl 0 rfl) ?_
          refine mh_get (ci := 1) (v := .ref (ad 1)) hx hb hts wfX1 hown hK.1 hP 0 rfl rfl 2 (by decide) (hts _ flX1_43) (fun _ h9 => h9) rfl dX1_need_31 ?_
          refine lv_iload_n hx hb dX1_need_34 rfl (lv_at hl 1 rfl) ?_
          refine mh_aan (i := i) (v := .ref (ad (20 + i))) hx hb hK.1 hP 1 3 rfl rfl hi (by omega) dX1_need_35 (congrArg va_rf (if_pos hi)) ?_
          refine lv_iload_n hx hb dX1_need_36 rfl (lv_at hl 2 rfl) ?_
          refine lv_iload_n hx hb dX1_need_37 rfl (lv_at hl 3 rfl) ?_
          refine mh_iasn (i := j) hx hb hK.1 hP hS (20 + i) 0 (zC_nd i hi) rfl hj (by omega) dX1_need_38 (fun H locs hP hS => ?_)
          refine lv_iconst (v := 1) hx hb dX1_need_39 (by decide) ?_
          rw [hQ]
          exact W.zret (v := 1) hx hb hr (by decide) (fun t9 ht9 _ => ⟨⟨_, (ad, zC cy ad (uNd z i j v) F), rfl, Or.inl ⟨rfl, i, j, v, hi, hj, by omega, rfl, rfl, rfl, rfl⟩, mh_hp ht9 (mh_eq hP (zC_uNd hK20 hi))⟩, hS.F ht9⟩) hS.2.2 dX1_need_40
        · skip
          have hno : ¬ (isIn kf (zK z) ∧ isIn kt (zK z) ∧ isIn kl (zL z + 1)) := fun q => isIn_nle (by omega) c25 q.2.2
          refine lv_iconst (v := 0) hx hb dX1_need_28 (by decide) ?_
          rw [hQ]
          exact W.zret (v := 0) hx hb hr (by decide) (fun t9 ht9 _ => ⟨⟨_, (ad, zC cy ad z F), rfl, Or.inr ⟨rfl, hno, rfl⟩, mh_hp ht9 (hP)⟩, hS.F ht9⟩) hS.2.2 dX1_need_29
set_option maxHeartbeats 4000000 in
set_option maxRecDepth 100000 in
/-- hours -/
theorem kX1_hours (l : Launch) (D : va_G) (cy : Nat → ClassId) (lo : Nat) (ad : Nat → Nat) (z : zS) (F : Nat → Option va_E) (ch : Nat → List Nat) (hok : zOk z ch) (kl ks kh : Int32) : Met l yX1_hours wX1_hours { frames := 1, cells := 0, slots := 0, locals := 21 } (pcs D cy lo ad (zC cy ad z F) [.ref (ad 0), .int kl, .int ks, .int kh]) (qwi D lo (fun r u => (r = 1 ∧ ∃ i st v, 1 ≤ i ∧ i ≤ zL z ∧ st < 2 ∧ v ≤ 100000 ∧ kl = nI i ∧ ks = nI st ∧ kh = nI v ∧ u = (ad, zC cy ad (uLa z st i v) F)) ∨ (r = 0 ∧ ¬ (isLv kl (zL z) ∧ isIn ks 2 ∧ isIn kh 100001) ∧ u = (ad, zC cy ad z F)))) 0 0 (fun q => lo ≤ q) := by
  refine Met.ofW (cc := cX1_hours) (maxL := 4) (ret := (some .boolean)) (by decide) rfl ?_
  intro p e s m args below meth c s₁ B hml hv
  obtain ⟨rfl, hz, hP, hK⟩ := hv
  have hx := B.exec
  have hb := B.bytes
  have hr := B.returns
  have hts : ∀ w ∈ wA, w.before [.ref (ad 0), .int kl, .int ks, .int kh].toArray s = true := fun w h => atoms_spec (ws := wX1_hours) B.pre w (List.mem_cons_of_mem _ h)
  have hown : s.vm.findClass RX1 = some m.cls := findClass_of_methodNamed B.named
  have hlocks := B.notSynchronized
  have hS : va_S (fun q => lo ≤ q) s.heap s.heap [] := va_S.rf
  have hl := lv_entry ([.ref (ad 0), .int kl, .int ks, .int kh]) (n := 4) (Nat.le_of_ble_eq_true rfl)
  rw [lg_entry_eq]
  generalize (lg_sl ([.ref (ad 0), .int kl, .int ks, .int kh]) ++ List.replicate (4 - (lg_sl ([.ref (ad 0), .int kl, .int ks, .int kh])).length) Slot.unset).toArray = ls at hl ⊢
  have hl : lv_has ls 4 [(0, .ref (ad 0)), (1, .int kl), (2, .int ks), (3, .int kh)] := hl
  obtain ⟨Q, hQ⟩ : ∃ Q, Q = MQ below (qwi D lo (fun r u => (r = 1 ∧ ∃ i st v, 1 ≤ i ∧ i ≤ zL z ∧ st < 2 ∧ v ≤ 100000 ∧ kl = nI i ∧ ks = nI st ∧ kh = nI v ∧ u = (ad, zC cy ad (uLa z st i v) F)) ∨ (r = 0 ∧ ¬ (isLv kl (zL z) ∧ isIn ks 2 ∧ isIn kh 100001) ∧ u = (ad, zC cy ad z F)))) [.ref (ad 0), .int kl, .int ks, .int kh].toArray s 0 0 (fun q => lo ≤ q) := ⟨_, rfl⟩
  rw [← hQ]
  obtain ⟨hK1, hK20, hL1, hL9, hT32, hE200, hnd, hal, hla, hco, hgr, hch, hlt0, hev, hbf⟩ := id hok
  refine lv_aload_n hx hb dX1_hours_0 rfl (lv_at hl 0 rfl) ?_
  refine lv_iload_n hx hb dX1_hours_1 rfl (lv_at hl 1 rfl) ?_
  refine rcV (n := 1) (As := [.int kl]) (rest := []) ⟨hx, hb, hml, hown, hts⟩ (kX1_isCleaningLevel l D cy lo ad z F kl ⟨hK20, hL9, hT32⟩) mlX1_66 imX1_isCleaningLevel seX1_isCleaningLevel inX1 cdX1_isCleaningLevel (by decide +kernel) rfl rfl ⟨Nat.le_of_ble_eq_true rfl, Nat.le_of_ble_eq_true rfl⟩ hK hP hz rfl rfl rfl hl.1 rfl (Nat.le_of_ble_eq_true rfl) dX1_hours_2 ⟨Nat.zero_le _, Nat.zero_le _⟩ (fun r2 hr2 => ?_)
  refine lv_if_eq (tgt := 17) hx hb dX1_hours_5 (by decide) (fun c5 => ?_) (fun c5 => ?_)
  · skip
    have hno : ¬ (isLv kl (zL z) ∧ isIn ks 2 ∧ isIn kh 100001) := fun q => sb_0 hr2 c5 q.1
    refine lv_iconst (v := 0) hx hb dX1_hours_17 (by decide) ?_
    rw [hQ]
    exact W.zret (v := 0) hx hb hr (by decide) (fun t9 ht9 _ => ⟨⟨_, (ad, zC cy ad z F), rfl, Or.inr ⟨rfl, hno, rfl⟩, mh_hp ht9 (hP)⟩, hS.F ht9⟩) hS.2.2 dX1_hours_18
  · skip
    have hA := sb_1 hr2 c5
    refine lv_iload_n hx hb dX1_hours_8 rfl (lv_at hl 2 rfl) ?_
    refine lv_if_eq (tgt := 19) hx hb dX1_hours_9 (by decide) (fun c9 => ?_) (fun c9 => ?_)
    · skip
      have hst : isIn ks 2 := ⟨0, by decide, c9⟩
      refine lv_iload_n hx hb dX1_hours_19 rfl (lv_at hl 3 rfl) ?_
      refine lv_if_lt (tgt := 29) hx hb dX1_hours_20 (by decide) (fun c20 => ?_) (fun c20 => ?_)
      · skip
        have hno : ¬ (isLv kl (zL z) ∧ isIn ks 2 ∧ isIn kh 100001) := fun q => isIn_lt (by omega) c20 q.2.2
        refine lv_iconst (v := 0) hx hb dX1_hours_29 (by decide) ?_
        rw [hQ]
        exact W.zret (v := 0) hx hb hr (by decide) (fun t9 ht9 _ => ⟨⟨_, (ad, zC cy ad z F), rfl, Or.inr ⟨rfl, hno, rfl⟩, mh_hp ht9 (hP)⟩, hS.F ht9⟩) hS.2.2 dX1_hours_30
      · skip
        refine lv_iload_n hx hb dX1_hours_23 rfl (lv_at hl 3 rfl) ?_
        refine lv_ldc (v := 100000) hx hb hown (hts _ ctX1_69) dX1_hours_24 ?_
        refine lv_icmp_le (tgt := 31) hx hb dX1_hours_26 (by decide) (fun c26 => ?_) (fun c26 => ?_)
        · skip
          obtain ⟨v, hv, rfl⟩ := isIn_le (n := 100000) (by omega) c20 c26
          obtain ⟨i, hi1, hi, rfl⟩ := hA
          obtain ⟨st, hst, rfl⟩ := hst
          refine lv_aload_n hx hb dX1_hours_31 rfl (lv_at hl 0 rfl) ?_
          refine mh_get (ci := 1) (v := .ref (ad 3)) hx hb hts wfX1 hown hK.1 hP 0 rfl rfl 4 (by decide) (hts _ flX1_55) (fun _ h9 => h9) rfl dX1_hours_32 ?_
          refine lv_iload_n hx hb dX1_hours_35 rfl (lv_at hl 2 rfl) ?_
          refine mh_aan (i := st) (v := .ref (ad (7 + st))) hx hb hK.1 hP 3 3 rfl rfl hst (by decide) dX1_hours_36 (congrArg va_rf (if_pos hst)) ?_
          refine lv_iload_n hx hb dX1_hours_37 rfl (lv_at hl 1 rfl) ?_
          refine lv_iload_n hx hb dX1_hours_38 rfl (lv_at hl 3 rfl) ?_
          refine mh_iasn (i := i) hx hb hK.1 hP hS (7 + st) 0 (zC_la st hst) rfl (by omega) (by omega) dX1_hours_39 (fun H locs hP hS => ?_)
          refine lv_iconst (v := 1) hx hb dX1_hours_40 (by decide) ?_
          rw [hQ]
          exact W.zret (v := 1) hx hb hr (by decide) (fun t9 ht9 _ => ⟨⟨_, (ad, zC cy ad (uLa z st i v) F), rfl, Or.inl ⟨rfl, i, st, v, hi1, hi, hst, by omega, rfl, rfl, rfl, rfl⟩, mh_hp ht9 (mh_eq hP (zC_uLa hst))⟩, hS.F ht9⟩) hS.2.2 dX1_hours_41
        · skip
          have hno : ¬ (isLv kl (zL z) ∧ isIn ks 2 ∧ isIn kh 100001) := fun q => isIn_nle (n := 100000) (by omega) c26 q.2.2
          refine lv_iconst (v := 0) hx hb dX1_hours_29 (by decide) ?_
          rw [hQ]
          exact W.zret (v := 0) hx hb hr (by decide) (fun t9 ht9 _ => ⟨⟨_, (ad, zC cy ad z F), rfl, Or.inr ⟨rfl, hno, rfl⟩, mh_hp ht9 (hP)⟩, hS.F ht9⟩) hS.2.2 dX1_hours_30
    · skip
      refine lv_iload_n hx hb dX1_hours_12 rfl (lv_at hl 2 rfl) ?_
      refine lv_iconst (v := 1) hx hb dX1_hours_13 (by decide) ?_
      refine lv_icmp_eq (tgt := 19) hx hb dX1_hours_14 (by decide) (fun c14 => ?_) (fun c14 => ?_)
      · skip
        have hst : isIn ks 2 := ⟨1, by decide, c14⟩
        refine lv_iload_n hx hb dX1_hours_19 rfl (lv_at hl 3 rfl) ?_
        refine lv_if_lt (tgt := 29) hx hb dX1_hours_20 (by decide) (fun c20 => ?_) (fun c20 => ?_)
        · skip
          have hno : ¬ (isLv kl (zL z) ∧ isIn ks 2 ∧ isIn kh 100001) := fun q => isIn_lt (by omega) c20 q.2.2
          refine lv_iconst (v := 0) hx hb dX1_hours_29 (by decide) ?_
          rw [hQ]
          exact W.zret (v := 0) hx hb hr (by decide) (fun t9 ht9 _ => ⟨⟨_, (ad, zC cy ad z F), rfl, Or.inr ⟨rfl, hno, rfl⟩, mh_hp ht9 (hP)⟩, hS.F ht9⟩) hS.2.2 dX1_hours_30
        · skip
          refine lv_iload_n hx hb dX1_hours_23 rfl (lv_at hl 3 rfl) ?_
          refine lv_ldc (v := 100000) hx hb hown (hts _ ctX1_69) dX1_hours_24 ?_
          refine lv_icmp_le (tgt := 31) hx hb dX1_hours_26 (by decide) (fun c26 => ?_) (fun c26 => ?_)
          · skip
            obtain ⟨v, hv, rfl⟩ := isIn_le (n := 100000) (by omega) c20 c26
            obtain ⟨i, hi1, hi, rfl⟩ := hA
            obtain ⟨st, hst, rfl⟩ := hst
            refine lv_aload_n hx hb dX1_hours_31 rfl (lv_at hl 0 rfl) ?_
            refine mh_get (ci := 1) (v := .ref (ad 3)) hx hb hts wfX1 hown hK.1 hP 0 rfl rfl 4 (by decide) (hts _ flX1_55) (fun _ h9 => h9) rfl dX1_hours_32 ?_
            refine lv_iload_n hx hb dX1_hours_35 rfl (lv_at hl 2 rfl) ?_
            refine mh_aan (i := st) (v := .ref (ad (7 + st))) hx hb hK.1 hP 3 3 rfl rfl hst (by decide) dX1_hours_36 (congrArg va_rf (if_pos hst)) ?_
            refine lv_iload_n hx hb dX1_hours_37 rfl (lv_at hl 1 rfl) ?_
            refine lv_iload_n hx hb dX1_hours_38 rfl (lv_at hl 3 rfl) ?_
            refine mh_iasn (i := i) hx hb hK.1 hP hS (7 + st) 0 (zC_la st hst) rfl (by omega) (by omega) dX1_hours_39 (fun H locs hP hS => ?_)
            refine lv_iconst (v := 1) hx hb dX1_hours_40 (by decide) ?_
            rw [hQ]
            exact W.zret (v := 1) hx hb hr (by decide) (fun t9 ht9 _ => ⟨⟨_, (ad, zC cy ad (uLa z st i v) F), rfl, Or.inl ⟨rfl, i, st, v, hi1, hi, hst, by omega, rfl, rfl, rfl, rfl⟩, mh_hp ht9 (mh_eq hP (zC_uLa hst))⟩, hS.F ht9⟩) hS.2.2 dX1_hours_41
          · skip
            have hno : ¬ (isLv kl (zL z) ∧ isIn ks 2 ∧ isIn kh 100001) := fun q => isIn_nle (n := 100000) (by omega) c26 q.2.2
            refine lv_iconst (v := 0) hx hb dX1_hours_29 (by decide) ?_
            rw [hQ]
            exact W.zret (v := 0) hx hb hr (by decide) (fun t9 ht9 _ => ⟨⟨_, (ad, zC cy ad z F), rfl, Or.inr ⟨rfl, hno, rfl⟩, mh_hp ht9 (hP)⟩, hS.F ht9⟩) hS.2.2 dX1_hours_30
      · skip
        have hno : ¬ (isLv kl (zL z) ∧ isIn ks 2 ∧ isIn kh 100001) := fun q => by
          obtain ⟨-, ⟨j, hj, q⟩, -⟩ := q
          rcases (show j = 0 ∨ j = 1 by omega) with rfl | rfl
          · exact c9 q
          · exact c14 q
        refine lv_iconst (v := 0) hx hb dX1_hours_17 (by decide) ?_
        rw [hQ]
        exact W.zret (v := 0) hx hb hr (by decide) (fun t9 ht9 _ => ⟨⟨_, (ad, zC cy ad z F), rfl, Or.inr ⟨rfl, hno, rfl⟩, mh_hp ht9 (hP)⟩, hS.F ht9⟩) hS.2.2 dX1_hours_18
set_option maxHeartbeats 4000000 in
set_option maxRecDepth 100000 in
/-- cost -/
theorem kX1_cost (l : Launch) (D : va_G) (cy : Nat → ClassId) (lo : Nat) (ad : Nat → Nat) (z : zS) (F : Nat → Option va_E) (ch : Nat → List Nat) (hok : zOk z ch) (kl : Int32) (kc : Int64) : Met l yX1_cost wX1_cost { frames := 1, cells := 0, slots := 0, locals := 21 } (pcs D cy lo ad (zC cy ad z F) [.ref (ad 0), .int kl, .long kc]) (qwi D lo (fun r u => (r = 1 ∧ ∃ i v, 1 ≤ i ∧ i ≤ zL z ∧ v ≤ 1000000 ∧ kl = nI i ∧ kc = lN v ∧ u = (ad, zC cy ad (uCo z i v) F)) ∨ (r = 0 ∧ ¬ (isLv kl (zL z) ∧ isHr kc) ∧ u = (ad, zC cy ad z F)))) 0 0 (fun q => lo ≤ q) := by
  refine Met.ofW (cc := cX1_cost) (maxL := 4) (ret := (some .boolean)) (by decide) rfl ?_
  intro p e s m args below meth c s₁ B hml hv
  obtain ⟨rfl, hz, hP, hK⟩ := hv
  have hx := B.exec
  have hb := B.bytes
  have hr := B.returns
  have hts : ∀ w ∈ wA, w.before [.ref (ad 0), .int kl, .long kc].toArray s = true := fun w h => atoms_spec (ws := wX1_cost) B.pre w (List.mem_cons_of_mem _ h)
  have hown : s.vm.findClass RX1 = some m.cls := findClass_of_methodNamed B.named
  have hlocks := B.notSynchronized
  have hS : va_S (fun q => lo ≤ q) s.heap s.heap [] := va_S.rf
  have hl := lv_entry ([.ref (ad 0), .int kl, .long kc]) (n := 4) (Nat.le_of_ble_eq_true rfl)
  rw [lg_entry_eq]
  generalize (lg_sl ([.ref (ad 0), .int kl, .long kc]) ++ List.replicate (4 - (lg_sl ([.ref (ad 0), .int kl, .long kc])).length) Slot.unset).toArray = ls at hl ⊢
  have hl : lv_has ls 4 [(0, .ref (ad 0)), (1, .int kl), (2, .long kc)] := hl
  obtain ⟨Q, hQ⟩ : ∃ Q, Q = MQ below (qwi D lo (fun r u => (r = 1 ∧ ∃ i v, 1 ≤ i ∧ i ≤ zL z ∧ v ≤ 1000000 ∧ kl = nI i ∧ kc = lN v ∧ u = (ad, zC cy ad (uCo z i v) F)) ∨ (r = 0 ∧ ¬ (isLv kl (zL z) ∧ isHr kc) ∧ u = (ad, zC cy ad z F)))) [.ref (ad 0), .int kl, .long kc].toArray s 0 0 (fun q => lo ≤ q) := ⟨_, rfl⟩
  rw [← hQ]
  obtain ⟨hK1, hK20, hL1, hL9, hT32, hE200, hnd, hal, hla, hco, hgr, hch, hlt0, hev, hbf⟩ := id hok
  refine lv_aload_n hx hb dX1_cost_0 rfl (lv_at hl 0 rfl) ?_
  refine lv_iload_n hx hb dX1_cost_1 rfl (lv_at hl 1 rfl) ?_
  refine rcV (n := 1) (As := [.int kl]) (rest := []) ⟨hx, hb, hml, hown, hts⟩ (kX1_isCleaningLevel l D cy lo ad z F kl ⟨hK20, hL9, hT32⟩) mlX1_66 imX1_isCleaningLevel seX1_isCleaningLevel inX1 cdX1_isCleaningLevel (by decide +kernel) rfl rfl ⟨Nat.le_of_ble_eq_true rfl, Nat.le_of_ble_eq_true rfl⟩ hK hP hz rfl rfl rfl hl.1 rfl (Nat.le_of_ble_eq_true rfl) dX1_cost_2 ⟨Nat.zero_le _, Nat.zero_le _⟩ (fun r2 hr2 => ?_)
  refine lv_if_eq (tgt := 22) hx hb dX1_cost_5 (by decide) (fun c5 => ?_) (fun c5 => ?_)
  · skip
    have hno : ¬ (isLv kl (zL z) ∧ isHr kc) := fun q => sb_0 hr2 c5 q.1
    refine lv_iconst (v := 0) hx hb dX1_cost_22 (by decide) ?_
    rw [hQ]
    exact W.zret (v := 0) hx hb hr (by decide) (fun t9 ht9 _ => ⟨⟨_, (ad, zC cy ad z F), rfl, Or.inr ⟨rfl, hno, rfl⟩, mh_hp ht9 (hP)⟩, hS.F ht9⟩) hS.2.2 dX1_cost_23
  · skip
    have hA := sb_1 hr2 c5
    refine lv_lload_n hx hb dX1_cost_8 rfl (lv_at hl 2 rfl) ?_
    refine lv_lconst (v := 0) hx hb dX1_cost_9 (by decide) ?_
    refine W.lcmp hx hb dX1_cost_10 ?_
    refine lv_if_lt (tgt := 22) hx hb dX1_cost_11 (by decide) (fun c11 => ?_) (fun c11 => ?_)
    · skip
      have hno : ¬ (isLv kl (zL z) ∧ isHr kc) := fun q => isHr_lt ((lg_cmp_lt _ _).mp c11) q.2
      refine lv_iconst (v := 0) hx hb dX1_cost_22 (by decide) ?_
      rw [hQ]
      exact W.zret (v := 0) hx hb hr (by decide) (fun t9 ht9 _ => ⟨⟨_, (ad, zC cy ad z F), rfl, Or.inr ⟨rfl, hno, rfl⟩, mh_hp ht9 (hP)⟩, hS.F ht9⟩) hS.2.2 dX1_cost_23
    · skip
      refine lv_lload_n hx hb dX1_cost_14 rfl (lv_at hl 2 rfl) ?_
      refine lv_ldc2 (v := 1000000) hx hb hown (hts _ ctX1_100) dX1_cost_15 ?_
      refine W.lcmp hx hb dX1_cost_18 ?_
      refine lv_if_le (tgt := 24) hx hb dX1_cost_19 (by decide) (fun c19 => ?_) (fun c19 => ?_)
      · skip
        obtain ⟨v, hv, rfl⟩ := isHr_cs c11 c19
        obtain ⟨i, hi1, hi, rfl⟩ := hA
        refine lv_aload_n hx hb dX1_cost_24 rfl (lv_at hl 0 rfl) ?_
        refine mh_get (ci := 1) (v := .ref (ad 4)) hx hb hts wfX1 hown hK.1 hP 0 rfl rfl 5 (by decide) (hts _ flX1_58) (fun _ h9 => h9) rfl dX1_cost_25 ?_
        refine lv_iload_n hx hb dX1_cost_28 rfl (lv_at hl 1 rfl) ?_
        refine lv_lload_n hx hb dX1_cost_29 rfl (lv_at hl 2 rfl) ?_
        refine mh_lasn (i := i) hx hb hK.1 hP hS 4 1 rfl rfl (by omega) (by omega) dX1_cost_30 (fun H locs hP hS => ?_)
        refine lv_iconst (v := 1) hx hb dX1_cost_31 (by decide) ?_
        rw [hQ]
        exact W.zret (v := 1) hx hb hr (by decide) (fun t9 ht9 _ => ⟨⟨_, (ad, zC cy ad (uCo z i v) F), rfl, Or.inl ⟨rfl, i, v, hi1, hi, hv, rfl, rfl, rfl⟩, mh_hp ht9 (mh_eq hP zC_uCo)⟩, hS.F ht9⟩) hS.2.2 dX1_cost_32
      · skip
        have hno : ¬ (isLv kl (zL z) ∧ isHr kc) := fun q => isHr_nle c19 q.2
        refine lv_iconst (v := 0) hx hb dX1_cost_22 (by decide) ?_
        rw [hQ]
        exact W.zret (v := 0) hx hb hr (by decide) (fun t9 ht9 _ => ⟨⟨_, (ad, zC cy ad z F), rfl, Or.inr ⟨rfl, hno, rfl⟩, mh_hp ht9 (hP)⟩, hS.F ht9⟩) hS.2.2 dX1_cost_23
set_option maxHeartbeats 4000000 in
set_option maxRecDepth 100000 in
/-- allergen -/
theorem kX1_allergen (l : Launch) (D : va_G) (cy : Nat → ClassId) (lo : Nat) (ad : Nat → Nat) (z : zS) (F : Nat → Option va_E) (ch : Nat → List Nat) (hok : zOk z ch) (kk kb : Int32) : Met l yX1_allergen wX1_allergen { frames := 1, cells := 0, slots := 0, locals := 21 } (pcs D cy lo ad (zC cy ad z F) [.ref (ad 0), .int kk, .int kb]) (qwi D lo (fun r u => (∃ i v, i < zK z ∧ v < 65536 ∧ kk = nI i ∧ kb = nI v ∧ r = nI (zAl z i) ∧ u = (ad, zC cy ad (uAl z i v) F)) ∨ (r = -1 ∧ ¬ (isIn kk (zK z) ∧ isIn kb 65536) ∧ u = (ad, zC cy ad z F)))) 0 0 (fun q => lo ≤ q) := by
  refine Met.ofW (cc := cX1_allergen) (maxL := 4) (ret := (some .int)) (by decide) rfl ?_
  intro p e s m args below meth c s₁ B hml hv
  obtain ⟨rfl, hz, hP, hK⟩ := hv
  have hx := B.exec
  have hb := B.bytes
  have hr := B.returns
  have hts : ∀ w ∈ wA, w.before [.ref (ad 0), .int kk, .int kb].toArray s = true := fun w h => atoms_spec (ws := wX1_allergen) B.pre w (List.mem_cons_of_mem _ h)
  have hown : s.vm.findClass RX1 = some m.cls := findClass_of_methodNamed B.named
  have hlocks := B.notSynchronized
  have hS : va_S (fun q => lo ≤ q) s.heap s.heap [] := va_S.rf
  have hl := lv_entry ([.ref (ad 0), .int kk, .int kb]) (n := 4) (Nat.le_of_ble_eq_true rfl)
  rw [lg_entry_eq]
  generalize (lg_sl ([.ref (ad 0), .int kk, .int kb]) ++ List.replicate (4 - (lg_sl ([.ref (ad 0), .int kk, .int kb])).length) Slot.unset).toArray = ls at hl ⊢
  have hl : lv_has ls 4 [(0, .ref (ad 0)), (1, .int kk), (2, .int kb)] := hl
  obtain ⟨Q, hQ⟩ : ∃ Q, Q = MQ below (qwi D lo (fun r u => (∃ i v, i < zK z ∧ v < 65536 ∧ kk = nI i ∧ kb = nI v ∧ r = nI (zAl z i) ∧ u = (ad, zC cy ad (uAl z i v) F)) ∨ (r = -1 ∧ ¬ (isIn kk (zK z) ∧ isIn kb 65536) ∧ u = (ad, zC cy ad z F)))) [.ref (ad 0), .int kk, .int kb].toArray s 0 0 (fun q => lo ≤ q) := ⟨_, rfl⟩
  rw [← hQ]
  obtain ⟨hK1, hK20, hL1, hL9, hT32, hE200, hnd, hal, hla, hco, hgr, hch, hlt0, hev, hbf⟩ := id hok
  refine lv_aload_n hx hb dX1_allergen_0 rfl (lv_at hl 0 rfl) ?_
  refine lv_iload_n hx hb dX1_allergen_1 rfl (lv_at hl 1 rfl) ?_
  refine rcV (n := 1) (As := [.int kk]) (rest := []) ⟨hx, hb, hml, hown, hts⟩ (kX1_isKind l D cy lo ad z F kk ⟨hK20, hL9, hT32⟩) mlX1_62 imX1_isKind seX1_isKind inX1 cdX1_isKind (by decide +kernel) rfl rfl ⟨Nat.le_of_ble_eq_true rfl, Nat.le_of_ble_eq_true rfl⟩ hK hP hz rfl rfl rfl hl.1 rfl (Nat.le_of_ble_eq_true rfl) dX1_allergen_2 ⟨Nat.zero_le _, Nat.zero_le _⟩ (fun r2 hr2 => ?_)
  refine lv_if_eq (tgt := 18) hx hb dX1_allergen_5 (by decide) (fun c5 => ?_) (fun c5 => ?_)
  · skip
    have hno : ¬ (isIn kk (zK z) ∧ isIn kb 65536) := fun q => sb_0 hr2 c5 q.1
    refine lv_iconst (v := (-1)) hx hb dX1_allergen_18 (by decide) ?_
    rw [hQ]
    exact W.iret (v := (-1)) hx hb hr (fun t9 ht9 _ => ⟨⟨_, (ad, zC cy ad z F), rfl, Or.inr ⟨rfl, hno, rfl⟩, mh_hp ht9 (hP)⟩, hS.F ht9⟩) hS.2.2 dX1_allergen_19
  · skip
    have hA := sb_1 hr2 c5
    refine lv_iload_n hx hb dX1_allergen_8 rfl (lv_at hl 2 rfl) ?_
    refine lv_if_lt (tgt := 18) hx hb dX1_allergen_9 (by decide) (fun c9 => ?_) (fun c9 => ?_)
    · skip
      have hno : ¬ (isIn kk (zK z) ∧ isIn kb 65536) := fun q => isIn_lt (by omega) c9 q.2
      refine lv_iconst (v := (-1)) hx hb dX1_allergen_18 (by decide) ?_
      rw [hQ]
      exact W.iret (v := (-1)) hx hb hr (fun t9 ht9 _ => ⟨⟨_, (ad, zC cy ad z F), rfl, Or.inr ⟨rfl, hno, rfl⟩, mh_hp ht9 (hP)⟩, hS.F ht9⟩) hS.2.2 dX1_allergen_19
    · skip
      refine lv_iload_n hx hb dX1_allergen_12 rfl (lv_at hl 2 rfl) ?_
      refine lv_ldc (v := 65535) hx hb hown (hts _ ctX1_106) dX1_allergen_13 ?_
      refine lv_icmp_le (tgt := 20) hx hb dX1_allergen_15 (by decide) (fun c15 => ?_) (fun c15 => ?_)
      · skip
        obtain ⟨v, hv, rfl⟩ := isIn_le (n := 65535) (by omega) c9 c15
        obtain ⟨i, hi, rfl⟩ := hA
        refine lv_aload_n hx hb dX1_allergen_20 rfl (lv_at hl 0 rfl) ?_
        refine mh_get (ci := 1) (v := .ref (ad 2)) hx hb hts wfX1 hown hK.1 hP 0 rfl rfl 3 (by decide) (hts _ flX1_52) (fun _ h9 => h9) rfl dX1_allergen_21 ?_
        refine lv_iload_n hx hb dX1_allergen_24 rfl (lv_at hl 1 rfl) ?_
        refine mh_ialn (i := i) (v := nI (zAl z i)) hx hb hK.1 hP 2 0 rfl rfl hi (by omega) dX1_allergen_25 rfl ?_
        refine lv_istore_n (lv' := [(3, .int (nI (zAl z i))), (0, .ref (ad 0)), (1, .int (nI i)), (2, .int (nI v))]) hx hb dX1_allergen_26 rfl hl (by decide) rfl (fun ls hl => ?_)
        refine lv_aload_n hx hb dX1_allergen_27 rfl (lv_at hl 1 rfl) ?_
        refine mh_get (ci := 1) (v := .ref (ad 2)) hx hb hts wfX1 hown hK.1 hP 0 rfl rfl 3 (by decide) (hts _ flX1_52) (fun _ h9 => h9) rfl dX1_allergen_28 ?_
        refine lv_iload_n hx hb dX1_allergen_31 rfl (lv_at hl 2 rfl) ?_
        refine lv_iload_n hx hb dX1_allergen_32 rfl (lv_at hl 3 rfl) ?_
        refine mh_iasn (i := i) hx hb hK.1 hP hS 2 0 rfl rfl hi (by omega) dX1_allergen_33 (fun H locs hP hS => ?_)
        refine lv_iload_n hx hb dX1_allergen_34 rfl (lv_at hl 0 rfl) ?_
        rw [hQ]
        exact W.iret (v := nI (zAl z i)) hx hb hr (fun t9 ht9 _ => ⟨⟨_, (ad, zC cy ad (uAl z i v) F), rfl, Or.inl ⟨i, v, hi, hv, rfl, rfl, rfl, rfl⟩, mh_hp ht9 (mh_eq hP zC_uAl)⟩, hS.F ht9⟩) hS.2.2 dX1_allergen_35
      · skip
        have hno : ¬ (isIn kk (zK z) ∧ isIn kb 65536) := fun q => isIn_nle (n := 65535) (by omega) c15 q.2
        refine lv_iconst (v := (-1)) hx hb dX1_allergen_18 (by decide) ?_
        rw [hQ]
        exact W.iret (v := (-1)) hx hb hr (fun t9 ht9 _ => ⟨⟨_, (ad, zC cy ad z F), rfl, Or.inr ⟨rfl, hno, rfl⟩, mh_hp ht9 (hP)⟩, hS.F ht9⟩) hS.2.2 dX1_allergen_19
set_option maxHeartbeats 4000000 in
set_option maxRecDepth 100000 in
/-- thing -/
theorem kX1_thing (l : Launch) (D : va_G) (cy : Nat → ClassId) (lo : Nat) (ad : Nat → Nat) (z : zS) (F : Nat → Option va_E) (ch : Nat → List Nat) (hok : zOk z ch) : Met l yX1_thing wX1_thing { frames := 0, cells := 0, slots := 0, locals := 0 } (pcs D cy lo ad (zC cy ad z F) [.ref (ad 0)]) (qwi D lo (fun r u => (zT z < 32 ∧ r = nI (zT z) ∧ u = (ad, zC cy ad (uT (uGr z (fun a => if a = zT z then zT z else zGr z a)) (zT z + 1)) F)) ∨ (zT z = 32 ∧ r = -2 ∧ u = (ad, zC cy ad z F)))) 0 0 (fun q => lo ≤ q) := by
  refine Met.ofW (cc := cX1_thing) (maxL := 2) (ret := (some .int)) (by decide) rfl ?_
  intro p e s m args below meth c s₁ B hml hv
  obtain ⟨rfl, hz, hP, hK⟩ := hv
  have hx := B.exec
  have hb := B.bytes
  have hr := B.returns
  have hts : ∀ w ∈ wA, w.before [.ref (ad 0)].toArray s = true := fun w h => atoms_spec (ws := wX1_thing) B.pre w (List.mem_cons_of_mem _ h)
  have hown : s.vm.findClass RX1 = some m.cls := findClass_of_methodNamed B.named
  have hlocks := B.notSynchronized
  have hS : va_S (fun q => lo ≤ q) s.heap s.heap [] := va_S.rf
  have hl := lv_entry ([.ref (ad 0)]) (n := 2) (Nat.le_of_ble_eq_true rfl)
  rw [lg_entry_eq]
  generalize (lg_sl ([.ref (ad 0)]) ++ List.replicate (2 - (lg_sl ([.ref (ad 0)])).length) Slot.unset).toArray = ls at hl ⊢
  have hl : lv_has ls 2 [(0, .ref (ad 0))] := hl
  obtain ⟨Q, hQ⟩ : ∃ Q, Q = MQ below (qwi D lo (fun r u => (zT z < 32 ∧ r = nI (zT z) ∧ u = (ad, zC cy ad (uT (uGr z (fun a => if a = zT z then zT z else zGr z a)) (zT z + 1)) F)) ∨ (zT z = 32 ∧ r = -2 ∧ u = (ad, zC cy ad z F)))) [.ref (ad 0)].toArray s 0 0 (fun q => lo ≤ q) := ⟨_, rfl⟩
  rw [← hQ]
  obtain ⟨hK1, hK20, hL1, hL9, hT32, hE200, hnd, hal, hla, hco, hgr, hch, hlt0, hev, hbf⟩ := id hok
  refine lv_aload_n hx hb dX1_thing_0 rfl (lv_at hl 0 rfl) ?_
  refine mh_get (ci := 1) (v := .int (nI (zT z))) hx hb hts wfX1 hown hK.1 hP 0 rfl rfl 8 (by decide) (hts _ flX1_19) (fun _ h9 => h9) rfl dX1_thing_1 ?_
  refine lv_bipush (v := 32) hx hb dX1_thing_4 (by decide) ?_
  refine lv_icmp_lt (tgt := 12) hx hb dX1_thing_6 (by decide) (fun c6 => ?_) (fun c6 => ?_)
  · skip
    have hlt : zT z < 32 := (nI_ltI (b := 32) (by omega) (by omega)).mp c6
    refine lv_aload_n hx hb dX1_thing_12 rfl (lv_at hl 0 rfl) ?_
    refine mh_get (ci := 1) (v := .int (nI (zT z))) hx hb hts wfX1 hown hK.1 hP 0 rfl rfl 8 (by decide) (hts _ flX1_19) (fun _ h9 => h9) rfl dX1_thing_13 ?_
    refine lv_istore_n (lv' := [(1, .int (nI (zT z))), (0, .ref (ad 0))]) hx hb dX1_thing_16 rfl hl (by decide) rfl (fun ls hl => ?_)
    refine lv_aload_n hx hb dX1_thing_17 rfl (lv_at hl 1 rfl) ?_
    refine mh_get (ci := 1) (v := .ref (ad 5)) hx hb hts wfX1 hown hK.1 hP 0 rfl rfl 6 (by decide) (hts _ flX1_9) (fun _ h9 => h9) rfl dX1_thing_18 ?_
    refine lv_iload_n hx hb dX1_thing_21 rfl (lv_at hl 0 rfl) ?_
    refine lv_iload_n hx hb dX1_thing_22 rfl (lv_at hl 0 rfl) ?_
    refine mh_iasn (i := (zT z)) hx hb hK.1 hP hS 5 0 rfl rfl hlt (by decide) dX1_thing_23 (fun H locs hP hS => ?_)
    rw [fn_i] at hP
    have hP := mh_eq hP (zC_uGr (g := fun a => if a = zT z then zT z else zGr z a))
    refine lv_aload_n hx hb dX1_thing_24 rfl (lv_at hl 1 rfl) ?_
    refine lv_dup hx hb dX1_thing_25 rfl ?_
    refine mh_get (ci := 1) (v := .int (nI (zT z))) hx hb hts wfX1 hown hK.1 hP 0 rfl rfl 8 (by decide) (hts _ flX1_19) (fun _ h9 => h9) rfl dX1_thing_26 ?_
    refine lv_iconst (v := 1) hx hb dX1_thing_29 (by decide) ?_
    refine lv_iadd hx hb dX1_thing_30 ?_
    rw [nI_1]
    refine mh_put (ci := 1) (v := .int (nI (zT z + 1))) (ty := .int) hx hb hts wfX1 tyX1 tyX1_ok nmX1 hown hK.1 hP hS 0 rfl rfl 8 (by decide) (hts _ flX1_19) (fun _ h9 => h9) rfl (by decide +kernel) rfl rfl (Nat.le_of_ble_eq_true rfl) dX1_thing_31 (fun H locs hP hS => ?_)
    refine lv_iload_n hx hb dX1_thing_34 rfl (lv_at hl 0 rfl) ?_
    rw [hQ]
    exact W.iret (v := nI (zT z)) hx hb hr (fun t9 ht9 _ => ⟨⟨_, (ad, zC cy ad (uT (uGr z (fun a => if a = zT z then zT z else zGr z a)) (zT z + 1)) F), rfl, Or.inl ⟨hlt, rfl, rfl⟩, mh_hp ht9 (mh_eq hP zC_uT)⟩, hS.F ht9⟩) hS.2.2 dX1_thing_35
  · skip
    have hge : zT z = 32 := by
      rcases Nat.lt_or_ge (zT z) 32 with q | q
      · exact absurd (nI_lt (b := 32) q (by omega)) c6
      · omega
    refine lv_bipush (v := (-2)) hx hb dX1_thing_9 (by decide) ?_
    rw [hQ]
    exact W.iret (v := (-2)) hx hb hr (fun t9 ht9 _ => ⟨⟨_, (ad, zC cy ad z F), rfl, Or.inr ⟨hge, rfl, rfl⟩, mh_hp ht9 (hP)⟩, hS.F ht9⟩) hS.2.2 dX1_thing_11
set_option maxHeartbeats 4000000 in
set_option maxRecDepth 100000 in
/-- joinPipe -/
theorem kX1_joinPipe (l : Launch) (D : va_G) (cy : Nat → ClassId) (lo : Nat) (ad : Nat → Nat) (z : zS) (F : Nat → Option va_E) (ch : Nat → List Nat) (hok : zOk z ch) (ka kb : Int32) : Met l yX1_joinPipe wX1_joinPipe { frames := 1, cells := 0, slots := 0, locals := 21 } (pcs D cy lo ad (zC cy ad z F) [.ref (ad 0), .int ka, .int kb]) (qwi D lo (fun r u => (r = 1 ∧ ∃ a b, a < zT z ∧ b < zT z ∧ ka = nI a ∧ kb = nI b ∧ zGr z a ≠ zGr z b ∧ u = (ad, zC cy ad (uGr z (fun e => if e < zT z ∧ zGr z e = zGr z b then zGr z a else zGr z e)) F)) ∨ (r = 0 ∧ ¬ (∃ a b, a < zT z ∧ b < zT z ∧ ka = nI a ∧ kb = nI b ∧ zGr z a ≠ zGr z b) ∧ u = (ad, zC cy ad z F)))) 0 0 (fun q => lo ≤ q) := by
  refine Met.ofW (cc := cX1_joinPipe) (maxL := 6) (ret := (some .boolean)) (by decide) rfl ?_
  intro p e s m args below meth c s₁ B hml hv
  obtain ⟨rfl, hz, hP, hK⟩ := hv
  have hx := B.exec
  have hb := B.bytes
  have hr := B.returns
  have hts : ∀ w ∈ wA, w.before [.ref (ad 0), .int ka, .int kb].toArray s = true := fun w h => atoms_spec (ws := wX1_joinPipe) B.pre w (List.mem_cons_of_mem _ h)
  have hown : s.vm.findClass RX1 = some m.cls := findClass_of_methodNamed B.named
  have hlocks := B.notSynchronized
  have hS : va_S (fun q => lo ≤ q) s.heap s.heap [] := va_S.rf
  have hl := lv_entry ([.ref (ad 0), .int ka, .int kb]) (n := 6) (Nat.le_of_ble_eq_true rfl)
  rw [lg_entry_eq]
  generalize (lg_sl ([.ref (ad 0), .int ka, .int kb]) ++ List.replicate (6 - (lg_sl ([.ref (ad 0), .int ka, .int kb])).length) Slot.unset).toArray = ls at hl ⊢
  have hl : lv_has ls 6 [(0, .ref (ad 0)), (1, .int ka), (2, .int kb)] := hl
  obtain ⟨Q, hQ⟩ : ∃ Q, Q = MQ below (qwi D lo (fun r u => (r = 1 ∧ ∃ a b, a < zT z ∧ b < zT z ∧ ka = nI a ∧ kb = nI b ∧ zGr z a ≠ zGr z b ∧ u = (ad, zC cy ad (uGr z (fun e => if e < zT z ∧ zGr z e = zGr z b then zGr z a else zGr z e)) F)) ∨ (r = 0 ∧ ¬ (∃ a b, a < zT z ∧ b < zT z ∧ ka = nI a ∧ kb = nI b ∧ zGr z a ≠ zGr z b) ∧ u = (ad, zC cy ad z F)))) [.ref (ad 0), .int ka, .int kb].toArray s 0 0 (fun q => lo ≤ q) := ⟨_, rfl⟩
  rw [← hQ]
  obtain ⟨hK1, hK20, hL1, hL9, hT32, hE200, hnd, hal, hla, hco, hgr, hch, hlt0, hev, hbf⟩ := id hok
  refine lv_aload_n hx hb dX1_joinPipe_0 rfl (lv_at hl 0 rfl) ?_
  refine lv_iload_n hx hb dX1_joinPipe_1 rfl (lv_at hl 1 rfl) ?_
  refine rcV (n := 1) (As := [.int ka]) (rest := []) ⟨hx, hb, hml, hown, hts⟩ (kX1_isThing l D cy lo ad z F ka ⟨hK20, hL9, hT32⟩) mlX1_70 imX1_isThing seX1_isThing inX1 cdX1_isThing (by decide +kernel) rfl rfl ⟨Nat.le_of_ble_eq_true rfl, Nat.le_of_ble_eq_true rfl⟩ hK hP hz rfl rfl rfl hl.1 rfl (Nat.le_of_ble_eq_true rfl) dX1_joinPipe_2 ⟨Nat.zero_le _, Nat.zero_le _⟩ (fun r2 hr2 => ?_)
  refine lv_if_eq (tgt := 31) hx hb dX1_joinPipe_5 (by decide) (fun c5 => ?_) (fun c5 => ?_)
  · skip
    have hno : ¬ (∃ a b, a < zT z ∧ b < zT z ∧ ka = nI a ∧ kb = nI b ∧ zGr z a ≠ zGr z b) := fun ⟨a, b, q1, q2, q3, q4, _⟩ => sb_0 hr2 c5 ⟨a, q1, q3⟩
    refine lv_iconst (v := 0) hx hb dX1_joinPipe_31 (by decide) ?_
    rw [hQ]
    exact W.zret (v := 0) hx hb hr (by decide) (fun t9 ht9 _ => ⟨⟨_, (ad, zC cy ad z F), rfl, Or.inr ⟨rfl, hno, rfl⟩, mh_hp ht9 (hP)⟩, hS.F ht9⟩) hS.2.2 dX1_joinPipe_32
  · skip
    obtain ⟨a, ha, rfl⟩ := sb_1 hr2 c5
    refine lv_aload_n hx hb dX1_joinPipe_8 rfl (lv_at hl 0 rfl) ?_
    refine lv_iload_n hx hb dX1_joinPipe_9 rfl (lv_at hl 2 rfl) ?_
    refine rcV (n := 1) (As := [.int kb]) (rest := []) ⟨hx, hb, hml, hown, hts⟩ (kX1_isThing l D cy lo ad z F kb ⟨hK20, hL9, hT32⟩) mlX1_70 imX1_isThing seX1_isThing inX1 cdX1_isThing (by decide +kernel) rfl rfl ⟨Nat.le_of_ble_eq_true rfl, Nat.le_of_ble_eq_true rfl⟩ hK hP hz rfl rfl rfl hl.1 rfl (Nat.le_of_ble_eq_true rfl) dX1_joinPipe_10 ⟨Nat.zero_le _, Nat.zero_le _⟩ (fun r10 hr10 => ?_)
    refine lv_if_eq (tgt := 31) hx hb dX1_joinPipe_13 (by decide) (fun c13 => ?_) (fun c13 => ?_)
    · skip
      have hno : ¬ (∃ a1 b, a1 < zT z ∧ b < zT z ∧ nI a = nI a1 ∧ kb = nI b ∧ zGr z a1 ≠ zGr z b) := fun ⟨_, b, _, q2, _, q4, _⟩ => sb_0 hr10 c13 ⟨b, q2, q4⟩
      refine lv_iconst (v := 0) hx hb dX1_joinPipe_31 (by decide) ?_
      rw [hQ]
      exact W.zret (v := 0) hx hb hr (by decide) (fun t9 ht9 _ => ⟨⟨_, (ad, zC cy ad z F), rfl, Or.inr ⟨rfl, hno, rfl⟩, mh_hp ht9 (hP)⟩, hS.F ht9⟩) hS.2.2 dX1_joinPipe_32
    · skip
      obtain ⟨b, hb2, rfl⟩ := sb_1 hr10 c13
      refine lv_aload_n hx hb dX1_joinPipe_16 rfl (lv_at hl 0 rfl) ?_
      refine mh_get (ci := 1) (v := .ref (ad 5)) hx hb hts wfX1 hown hK.1 hP 0 rfl rfl 6 (by decide) (hts _ flX1_9) (fun _ h9 => h9) rfl dX1_joinPipe_17 ?_
      refine lv_iload_n hx hb dX1_joinPipe_20 rfl (lv_at hl 1 rfl) ?_
      refine mh_ialn (i := a) (v := nI (zGr z a)) hx hb hK.1 hP 5 0 rfl rfl (by omega) (by decide) dX1_joinPipe_21 rfl ?_
      refine lv_aload_n hx hb dX1_joinPipe_22 rfl (lv_at hl 0 rfl) ?_
      refine mh_get (ci := 1) (v := .ref (ad 5)) hx hb hts wfX1 hown hK.1 hP 0 rfl rfl 6 (by decide) (hts _ flX1_9) (fun _ h9 => h9) rfl dX1_joinPipe_23 ?_
      refine lv_iload_n hx hb dX1_joinPipe_26 rfl (lv_at hl 2 rfl) ?_
      refine mh_ialn (i := b) (v := nI (zGr z b)) hx hb hK.1 hP 5 0 rfl rfl (by omega) (by decide) dX1_joinPipe_27 rfl ?_
      refine lv_icmp_ne (tgt := 33) hx hb dX1_joinPipe_28 (by decide) (fun c28 => ?_) (fun c28 => ?_)
      · skip
        have hne : zGr z a ≠ zGr z b := fun q => c28 (by rw [q])
        refine lv_aload_n hx hb dX1_joinPipe_33 rfl (lv_at hl 0 rfl) ?_
        refine mh_get (ci := 1) (v := .ref (ad 5)) hx hb hts wfX1 hown hK.1 hP 0 rfl rfl 6 (by decide) (hts _ flX1_9) (fun _ h9 => h9) rfl dX1_joinPipe_34 ?_
        refine lv_iload_n hx hb dX1_joinPipe_37 rfl (lv_at hl 1 rfl) ?_
        refine mh_ialn (i := a) (v := nI (zGr z a)) hx hb hK.1 hP 5 0 rfl rfl (by omega) (by decide) dX1_joinPipe_38 rfl ?_
        refine lv_istore_n (lv' := [(3, .int (nI (zGr z a))), (0, .ref (ad 0)), (1, .int (nI a)), (2, .int (nI b))]) hx hb dX1_joinPipe_39 rfl hl (by decide) rfl (fun ls hl => ?_)
        refine lv_aload_n hx hb dX1_joinPipe_40 rfl (lv_at hl 1 rfl) ?_
        refine mh_get (ci := 1) (v := .ref (ad 5)) hx hb hts wfX1 hown hK.1 hP 0 rfl rfl 6 (by decide) (hts _ flX1_9) (fun _ h9 => h9) rfl dX1_joinPipe_41 ?_
        refine lv_iload_n hx hb dX1_joinPipe_44 rfl (lv_at hl 3 rfl) ?_
        refine mh_ialn (i := b) (v := nI (zGr z b)) hx hb hK.1 hP 5 0 rfl rfl (by omega) (by decide) dX1_joinPipe_45 rfl ?_
        refine lv_istore (lv' := [(4, .int (nI (zGr z b))), (3, .int (nI (zGr z a))), (0, .ref (ad 0)), (1, .int (nI a)), (2, .int (nI b))]) hx hb dX1_joinPipe_46 hl (by decide) rfl (fun ls hl => ?_)
        refine lv_iconst (v := 0) hx hb dX1_joinPipe_48 (by decide) ?_
        refine lv_istore (lv' := [(5, .int 0), (4, .int (nI (zGr z b))), (3, .int (nI (zGr z a))), (0, .ref (ad 0)), (1, .int (nI a)), (2, .int (nI b))]) hx hb dX1_joinPipe_49 hl (by decide) rfl (fun ls hl => ?_)
        have loop : ∀ (d i : Nat) (H : Heap) (locs : List Loc), i + d = zT z → mh D vwCl lo ad (zC cy ad (uGr z (fun e => if e < i ∧ zGr z e = zGr z b then zGr z a else zGr z e)) F) H → va_S (fun q => lo ≤ q) s.heap H locs → ∀ (ls : Array Slot), lv_has ls 6 [(5, .int (nI i)), (4, .int (nI (zGr z b))), (3, .int (nI (zGr z a))), (0, .ref (ad 0)), (1, .int (nI a)), (2, .int (nI b))] → W p l e (headSpec wX1_joinPipe { frames := 1, cells := 0, slots := 0, locals := 21 }).room s m [.ref (ad 0), .int (nI a), .int (nI b)].toArray below meth c H locs 0 0 Q (F0 m 51 ls []) := by
          intro d
          induction d with
          | zero =>
            intro i H locs hid hP hS ls hl
            refine lv_iload hx hb dX1_joinPipe_51 (lv_at hl 0 rfl) ?_
            refine lv_aload_n hx hb dX1_joinPipe_53 rfl (lv_at hl 3 rfl) ?_
            refine mh_get (ci := 1) (v := .int (nI (zT z))) hx hb hts wfX1 hown hK.1 hP 0 rfl rfl 8 (by decide) (hts _ flX1_19) (fun _ h9 => h9) rfl dX1_joinPipe_54 ?_
            refine lv_icmp_ge (tgt := 86) hx hb dX1_joinPipe_57 (by decide) (fun c57 => ?_) (fun c57 => ?_)
            · skip
              refine lv_iconst (v := 1) hx hb dX1_joinPipe_86 (by decide) ?_
              rw [hQ]
              exact W.zret (v := 1) hx hb hr (by decide) (fun t9 ht9 _ => ⟨⟨_, (ad, zC cy ad (uGr z (fun e => if e < zT z ∧ zGr z e = zGr z b then zGr z a else zGr z e)) F), rfl, Or.inl ⟨rfl, a, b, ha, hb2, rfl, rfl, hne, rfl⟩, mh_hp ht9 (by rw [show zT z = i by omega]; exact hP)⟩, hS.F ht9⟩) hS.2.2 dX1_joinPipe_87
            · skip
              exact absurd (nI_le (by omega) (by omega)) c57
          | succ d ih =>
            intro i H locs hid hP hS ls hl
            have hgi : (if i < i ∧ zGr z i = zGr z b then zGr z a else zGr z i) = zGr z i := if_neg (by omega)
            refine lv_iload hx hb dX1_joinPipe_51 (lv_at hl 0 rfl) ?_
            refine lv_aload_n hx hb dX1_joinPipe_53 rfl (lv_at hl 3 rfl) ?_
            refine mh_get (ci := 1) (v := .int (nI (zT z))) hx hb hts wfX1 hown hK.1 hP 0 rfl rfl 8 (by decide) (hts _ flX1_19) (fun _ h9 => h9) rfl dX1_joinPipe_54 ?_
            refine lv_icmp_ge (tgt := 86) hx hb dX1_joinPipe_57 (by decide) (fun c57 => ?_) (fun c57 => ?_)
            · skip
              exact absurd c57 (nI_ge (by omega) (by omega))
            · skip
              refine lv_aload_n hx hb dX1_joinPipe_60 rfl (lv_at hl 3 rfl) ?_
              refine mh_get (ci := 1) (v := .ref (ad 5)) hx hb hts wfX1 hown hK.1 hP 0 rfl rfl 6 (by decide) (hts _ flX1_9) (fun _ h9 => h9) rfl dX1_joinPipe_61 ?_
              refine lv_iload hx hb dX1_joinPipe_64 (lv_at hl 0 rfl) ?_
              refine mh_ialn (i := i) (v := nI (if i < i ∧ zGr z i = zGr z b then zGr z a else zGr z i)) hx hb hK.1 hP 5 0 rfl rfl (by omega) (by decide) dX1_joinPipe_66 rfl ?_
              refine lv_iload hx hb dX1_joinPipe_67 (lv_at hl 1 rfl) ?_
              refine lv_icmp_ne (tgt := 80) hx hb dX1_joinPipe_69 (by decide) (fun c69 => ?_) (fun c69 => ?_)
              · skip
                rw [hgi] at c69
                have hP := mh_eq (C' := zC cy ad (uGr z (fun e => if e < i + 1 ∧ zGr z e = zGr z b then zGr z a else zGr z e)) F) hP (fun r => by
                  congr 3
                  funext e
                  by_cases he : e = i
                  · subst he
                    rw [if_neg (fun q => c69 (by rw [q.2])), if_neg (by omega)]
                  · exact ite_congr (propext ⟨fun q => ⟨by omega, q.2⟩, fun q => ⟨by omega, q.2⟩⟩) (fun _ => rfl) (fun _ => rfl))
                obtain ⟨y, ey⟩ : ∃ y : Int32, y = nI i + 1 := ⟨_, rfl⟩
                refine lv_iinc (v := y) (lv' := [(5, .int y), (4, .int (nI (zGr z b))), (3, .int (nI (zGr z a))), (0, .ref (ad 0)), (1, .int (nI a)), (2, .int (nI b))]) hx hb dX1_joinPipe_80 hl (k := 0) rfl (by rw [ey]; rfl) (by decide) rfl (fun ls hl => ?_)
                refine lv_goto (tgt := 51) hx hb dX1_joinPipe_83 (by decide) ?_
                rw [nI_1] at ey
                subst ey
                exact ih (i + 1) H locs (by omega) hP hS ls (lv_sub hl [0, 1, 2, 3, 4, 5] rfl)
              · skip
                rw [hgi] at c69
                have hsm : zGr z i = zGr z b := (nI_eq (by have := hgr i (by omega); omega) (by have := hgr b hb2; omega)).mp c69
                refine lv_aload_n hx hb dX1_joinPipe_72 rfl (lv_at hl 3 rfl) ?_
                refine mh_get (ci := 1) (v := .ref (ad 5)) hx hb hts wfX1 hown hK.1 hP 0 rfl rfl 6 (by decide) (hts _ flX1_9) (fun _ h9 => h9) rfl dX1_joinPipe_73 ?_
                refine lv_iload hx hb dX1_joinPipe_76 (lv_at hl 0 rfl) ?_
                refine lv_iload_n hx hb dX1_joinPipe_78 rfl (lv_at hl 2 rfl) ?_
                refine mh_iasn (i := i) hx hb hK.1 hP hS 5 0 rfl rfl (by omega) (by decide) dX1_joinPipe_79 (fun H locs hP hS => ?_)
                rw [fn_i (f := fun e => if e < i ∧ zGr z e = zGr z b then zGr z a else zGr z e)] at hP
                have hP := mh_eq (C' := zC cy ad (uGr z (fun e => if e < i + 1 ∧ zGr z e = zGr z b then zGr z a else zGr z e)) F) (mh_eq (C' := zC cy ad (uGr z (fun e => if e = i then zGr z a else (if e < i ∧ zGr z e = zGr z b then zGr z a else zGr z e))) F) hP (zC_uGr (z := uGr z (fun e => if e < i ∧ zGr z e = zGr z b then zGr z a else zGr z e)) (g := fun e => if e = i then zGr z a else (if e < i ∧ zGr z e = zGr z b then zGr z a else zGr z e)))) (fun r => by
                  congr 3
                  funext e
                  by_cases he : e = i
                  · subst he
                    rw [if_pos ⟨by omega, hsm⟩, if_pos rfl]
                  · rw [if_neg he]
                    exact ite_congr (propext ⟨fun q => ⟨by omega, q.2⟩, fun q => ⟨by omega, q.2⟩⟩) (fun _ => rfl) (fun _ => rfl))
                obtain ⟨y, ey⟩ : ∃ y : Int32, y = nI i + 1 := ⟨_, rfl⟩
                refine lv_iinc (v := y) (lv' := [(5, .int y), (4, .int (nI (zGr z b))), (3, .int (nI (zGr z a))), (0, .ref (ad 0)), (1, .int (nI a)), (2, .int (nI b))]) hx hb dX1_joinPipe_80 hl (k := 0) rfl (by rw [ey]; rfl) (by decide) rfl (fun ls hl => ?_)
                refine lv_goto (tgt := 51) hx hb dX1_joinPipe_83 (by decide) ?_
                rw [nI_1] at ey
                subst ey
                exact ih (i + 1) H locs (by omega) hP hS ls (lv_sub hl [0, 1, 2, 3, 4, 5] rfl)
        have hP := mh_eq (C' := zC cy ad (uGr z (fun e => if e < 0 ∧ zGr z e = zGr z b then zGr z a else zGr z e)) F) hP (fun r => by
          congr 3)
        exact loop (zT z) 0 s.heap [] (Nat.zero_add _) hP hS ls (lv_sub hl [0, 1, 2, 3, 4, 5] rfl)
      · skip
        have hno : ¬ (∃ a1 b1, a1 < zT z ∧ b1 < zT z ∧ nI a = nI a1 ∧ nI b = nI b1 ∧ zGr z a1 ≠ zGr z b1) := fun ⟨a1, b1, q1, q2, q3, q4, q5⟩ => by
          have e1 := (nI_eq (by omega) (by omega)).mp q3
          have e2 := (nI_eq (by omega) (by omega)).mp q4
          subst e1 e2
          exact q5 ((nI_eq (by have := hgr a ha; omega) (by have := hgr b hb2; omega)).mp c28)
        refine lv_iconst (v := 0) hx hb dX1_joinPipe_31 (by decide) ?_
        rw [hQ]
        exact W.zret (v := 0) hx hb hr (by decide) (fun t9 ht9 _ => ⟨⟨_, (ad, zC cy ad z F), rfl, Or.inr ⟨rfl, hno, rfl⟩, mh_hp ht9 (hP)⟩, hS.F ht9⟩) hS.2.2 dX1_joinPipe_32
