theorem zOk_lt {z : zS} {ch : Nat → List Nat} (hok : zOk z ch) : ∀ t k, zLt z t = some k → k < zE z := by
  intro t k hk
  obtain ⟨-, -, -, -, -, -, -, -, -, -, -, hch, hlt0, -, -⟩ := hok
  rcases Nat.lt_or_ge t (zT z) with h | h
  · have q := hch t h
    rw [hk] at q
    cases hc : ch t with
    | nil => rw [hc] at q; exact absurd (show some k = none from q) (by simp)
    | cons a l =>
      rw [hc] at q
      obtain ⟨e1, e2, -⟩ := q
      cases e1
      exact e2
  · rw [hlt0 t h] at hk
    cases hk
theorem zLH_lk {z : zS} (hev : ∀ k, k < zE z → eh (zVs z k) ≤ 1000000) : ∀ (l : List Nat) (o : Option Nat), lnk z o l → zLH z l ≤ 1000000
  | [], _, _ => Nat.zero_le _
  | k :: ks, o, h => by
    obtain ⟨-, h1, h2⟩ := h
    unfold zLH
    split
    · exact hev k h1
    · exact zLH_lk hev ks _ h2
theorem zLH_le {z : zS} {ch : Nat → List Nat} (hok : zOk z ch) {t : Nat} (ht : t < zT z) : zLH z (ch t) ≤ 1000000 := by
  obtain ⟨-, -, -, -, -, -, -, -, -, -, -, hch, -, hev, -⟩ := hok
  exact zLH_lk (fun k hk => (hev k hk).1) _ _ (hch t ht)
set_option maxHeartbeats 4000000 in
set_option maxRecDepth 100000 in
/-- held -/
theorem kX1_held (l : Launch) (D : va_G) (cy : Nat → ClassId) (lo : Nat) (ad : Nat → Nat) (z : zS) (F : Nat → Option va_E) (ch : Nat → List Nat) (hok : zOk z ch) (hF : ∀ r, r < 1000 → F r = none) (kt kk : Int32) (h : Int64) : Met l yX1_held wX1_held { frames := 2, cells := 1, slots := 5, locals := 48 } (pcs D cy lo ad (zC cy ad z F) [.ref (ad 0), .int kt, .int kk, .long h]) (qwi D lo (fun r u => (r = 1 ∧ ∃ t i j q pre suf, (t < zT z ∧ kt = nI t ∧ i < zK z ∧ kk = nI i ∧ j ≤ 1000000 ∧ h = lN j ∧ zE z < 200 ∧ zNx z ch t j) ∧ zSp z j (ch t) pre suf ∧ u = (va_up ad (100 + zE z) q, zC cy (va_up ad (100 + zE z) q) (zIns z t (nI i, 0, j, 0, none) pre suf) F)) ∨ (r = 0 ∧ ¬ (∃ t i j, t < zT z ∧ kt = nI t ∧ i < zK z ∧ kk = nI i ∧ j ≤ 1000000 ∧ h = lN j ∧ zE z < 200 ∧ zNx z ch t j) ∧ u = (ad, zC cy ad z F)))) 1 5 (fun q => lo ≤ q) := by
  refine Met.ofW (cc := cX1_held) (maxL := 5) (ret := (some .boolean)) (by decide) rfl ?_
  intro p e s m args below meth c s₁ B hml hv
  obtain ⟨rfl, hz, hP, hK⟩ := hv
  have hx := B.exec
  have hb := B.bytes
  have hr := B.returns
  have hts : ∀ w ∈ wA, w.before [.ref (ad 0), .int kt, .int kk, .long h].toArray s = true := fun w h => atoms_spec (ws := wX1_held) B.pre w (List.mem_cons_of_mem _ h)
  have hown : s.vm.findClass RX1 = some m.cls := findClass_of_methodNamed B.named
  have hlocks := B.notSynchronized
  have hS : va_S (fun q => lo ≤ q) s.heap s.heap [] := va_S.rf
  have hl := lv_entry ([.ref (ad 0), .int kt, .int kk, .long h]) (n := 5) (Nat.le_of_ble_eq_true rfl)
  rw [lg_entry_eq]
  generalize (lg_sl ([.ref (ad 0), .int kt, .int kk, .long h]) ++ List.replicate (5 - (lg_sl ([.ref (ad 0), .int kt, .int kk, .long h])).length) Slot.unset).toArray = ls at hl ⊢
  have hl : lv_has ls 5 [(0, .ref (ad 0)), (1, .int kt), (2, .int kk), (3, .long h)] := hl
  obtain ⟨Q, hQ⟩ : ∃ Q, Q = MQ below (qwi D lo (fun r u => (r = 1 ∧ ∃ t i j q pre suf, (t < zT z ∧ kt = nI t ∧ i < zK z ∧ kk = nI i ∧ j ≤ 1000000 ∧ h = lN j ∧ zE z < 200 ∧ zNx z ch t j) ∧ zSp z j (ch t) pre suf ∧ u = (va_up ad (100 + zE z) q, zC cy (va_up ad (100 + zE z) q) (zIns z t (nI i, 0, j, 0, none) pre suf) F)) ∨ (r = 0 ∧ ¬ (∃ t i j, t < zT z ∧ kt = nI t ∧ i < zK z ∧ kk = nI i ∧ j ≤ 1000000 ∧ h = lN j ∧ zE z < 200 ∧ zNx z ch t j) ∧ u = (ad, zC cy ad z F)))) [.ref (ad 0), .int kt, .int kk, .long h].toArray s 1 5 (fun q => lo ≤ q) := ⟨_, rfl⟩
  rw [← hQ]
  obtain ⟨hK1, hK20, hL1, hL9, hT32, hE200, hnd, hal, hla, hco, hgr, hch, hlt0, hev, hbf⟩ := id hok
  refine lv_aload_n hx hb dX1_held_0 rfl (lv_at hl 0 rfl) ?_
  refine lv_iload_n hx hb dX1_held_1 rfl (lv_at hl 2 rfl) ?_
  refine rcV (n := 1) (As := [.int kk]) (rest := []) ⟨hx, hb, hml, hown, hts⟩ (kX1_isKind l D cy lo ad z F kk ⟨hK20, hL9, hT32⟩) mlX1_62 imX1_isKind seX1_isKind inX1 cdX1_isKind (by decide +kernel) rfl rfl ⟨Nat.le_of_ble_eq_true rfl, Nat.le_of_ble_eq_true rfl⟩ hK hP hz rfl rfl rfl hl.1 rfl (Nat.le_of_ble_eq_true rfl) dX1_held_2 ⟨Nat.zero_le _, Nat.zero_le _⟩ (fun r2 hr2 => ?_)
  refine lv_if_eq (tgt := 17) hx hb dX1_held_5 (by decide) (fun c5 => ?_) (fun c5 => ?_)
  · skip
    have hno : ¬ (∃ t i j, t < zT z ∧ kt = nI t ∧ i < zK z ∧ kk = nI i ∧ j ≤ 1000000 ∧ h = lN j ∧ zE z < 200 ∧ zNx z ch t j) := fun ⟨_, i, _, _, _, q1, q2, _⟩ => sb_0 hr2 c5 ⟨i, q1, q2⟩
    refine lv_iconst (v := 0) hx hb dX1_held_17 (by decide) ?_
    rw [hQ]
    refine W.widen (k := 1) (n := 5) (by first | exact Nat.zero_le _ | omega) (by first | exact Nat.zero_le _ | omega) ?_
    exact W.zret (v := 0) hx hb hr (by decide) (fun t9 ht9 _ => ⟨⟨_, (ad, zC cy ad z F), rfl, Or.inr ⟨rfl, hno, rfl⟩, mh_hp ht9 (hP)⟩, hS.F ht9⟩) hS.2.2 dX1_held_18
  · skip
    have hA := sb_1 hr2 c5
    refine lv_aload_n hx hb dX1_held_8 rfl (lv_at hl 0 rfl) ?_
    refine lv_iload_n hx hb dX1_held_9 rfl (lv_at hl 1 rfl) ?_
    refine lv_lload_n hx hb dX1_held_10 rfl (lv_at hl 3 rfl) ?_
    refine rcV (n := 2) (As := [.int kt, .long h]) (rest := []) ⟨hx, hb, hml, hown, hts⟩ (kX1_takesNext l D cy lo ad z F ch hok kt h) mlX1_73 imX1_takesNext seX1_takesNext inX1 cdX1_takesNext (by decide +kernel) rfl rfl ⟨Nat.le_of_ble_eq_true rfl, Nat.le_of_ble_eq_true rfl⟩ hK hP hz rfl rfl rfl hl.1 rfl (Nat.le_of_ble_eq_true rfl) dX1_held_11 ⟨Nat.zero_le _, Nat.zero_le _⟩ (fun r11 hr11 => ?_)
    refine lv_if_ne (tgt := 19) hx hb dX1_held_14 (by decide) (fun c14 => ?_) (fun c14 => ?_)
    · skip
      obtain ⟨t, j, ht, rfl, hj, rfl, hE, hnx⟩ := sb_1 hr11 c14
      obtain ⟨i, hi, rfl⟩ := hA
      refine lv_aload_n hx hb dX1_held_19 rfl (lv_at hl 0 rfl) ?_
      refine lv_iload_n hx hb dX1_held_20 rfl (lv_at hl 1 rfl) ?_
      refine mh_new (ci := 0) (fs := [.int 0, .int 0, .long 0, .int 0, .null]) hx hb hts wfX0 tyX0 tyX0_ok hown (hts _ clX1_13) (hts _ itX0) (hts _ inX0) hK.1 hP hS hz (100 + zE z) ((zC_hi hK20 (Nat.le_refl _)).trans (hF _ (by omega))) rfl (fun j hj => by rcases (show j = 0 ∨ j = 1 ∨ j = 2 ∨ j = 3 ∨ j = 4 by omega) with rfl | rfl | rfl | rfl | rfl <;> rfl) (Nat.le_of_ble_eq_true rfl) (Nat.le_of_ble_eq_true rfl) dX1_held_21 (fun q9 H hP hS => ?_)
      obtain ⟨ad1, had⟩ : ∃ z9, z9 = va_up ad (100 + zE z) q9 := ⟨_, rfl⟩
      rw [← had] at hP
      have e0 : ad 0 = ad1 0 := by rw [had, va_up_ne _ _ (by omega)]
      have eq9 : q9 = ad1 (100 + zE z) := by rw [had, va_up_self]
      rw [show zC cy ad z F = zC cy ad1 z F from funext fun r => (zC_ad (ad := ad) (ad' := ad1) hK20 (zOk_lt hok) hbf (fun r hr => by rw [had, va_up_ne _ _ (by omega)]) r).symm] at hP
      refine W.eq (g2 := F0 m 24 ls [.ref (ad1 (100 + zE z)), .int (nI t), .ref (ad1 0)]) (by rw [eq9, e0]) ?_
      have hl : lv_has ls 5 [(0, .ref (ad1 0)), (1, .int (nI t)), (2, .int (nI i)), (3, .long (lN j))] := by rw [← e0]; exact hl
      refine lv_dup hx hb dX1_held_24 rfl ?_
      refine lv_iload_n hx hb dX1_held_25 rfl (lv_at hl 2 rfl) ?_
      refine lv_iconst (v := 0) hx hb dX1_held_26 (by decide) ?_
      refine lv_lload_n hx hb dX1_held_27 rfl (lv_at hl 3 rfl) ?_
      refine lv_iconst (v := 0) hx hb dX1_held_28 (by decide) ?_
      refine rwIN (n := 4) (As := [.int (nI i), .int 0, .long (lN j), .int 0]) (rest := [.ref (ad1 (100 + zE z)), .int (nI t), .ref (ad1 0)]) (b := ad1 (100 + zE z)) ⟨hx, hb, hml, hown, hts⟩ (kX0_init l D cy lo ad1 (100 + zE z) _ (va_up_self _ _ _) (nI i) 0 0 (lN j) ⟨by decide, by decide⟩) hK.2.2.1 imX0_init inX0 cdX0_init rfl (by decide +kernel) rfl rfl ⟨Nat.le_of_ble_eq_true rfl, Nat.le_of_ble_eq_true rfl⟩ hK hP (Nat.le_trans hz hS.1) hS rfl hl.1 rfl (Nat.le_of_ble_eq_true rfl) dX1_held_29 ⟨Nat.le_of_ble_eq_true rfl, Nat.le_of_ble_eq_true rfl⟩ (fun u H locs hu hP _ hS => ?_)
      subst hu
      dsimp only at hP
      rw [bx_uu] at hP
      have hP : mh D vwCl lo ad1 (va_up (zC cy ad1 z F) (100 + zE z) (some (zVc ad1 (nI i, 0, j, 0, none)))) H := hP
      refine rwVv (n := 2) (As := [.int (nI t), .ref (ad1 (100 + zE z))]) (rest := []) ⟨hx, hb, hml, hown, hts⟩ (kX1_place l D cy lo ad1 z F ch hok t ht (nI i) 0 j 0 hj hE) mlX1_80 imX1_place seX1_place inX1 cdX1_place (by decide +kernel) rfl rfl ⟨Nat.le_of_ble_eq_true rfl, Nat.le_of_ble_eq_true rfl⟩ hK hP (Nat.le_trans hz hS.1) (va_up_ne _ _ (by omega)) rfl hS rfl hl.1 rfl (Nat.le_of_ble_eq_true rfl) dX1_held_32 ⟨Nat.le_of_ble_eq_true rfl, Nat.le_of_ble_eq_true rfl⟩ (fun u H locs hu hP _ hS => ?_)
      obtain ⟨pre, suf, hsp, hu⟩ := hu
      subst hu
      dsimp only at hP
      refine lv_iconst (v := 1) hx hb dX1_held_35 (by decide) ?_
      rw [hQ]
      refine W.widen (k := 1) (n := 5) (by first | exact Nat.zero_le _ | omega) (by first | exact Nat.zero_le _ | omega) ?_
      exact W.zret (v := 1) hx hb hr (by decide) (fun t9 ht9 _ => ⟨⟨_, (ad1, zC cy ad1 (zIns z t (nI i, 0, j, 0, none) pre suf) F), rfl, Or.inl ⟨rfl, t, i, j, q9, pre, suf, ⟨ht, rfl, hi, rfl, hj, rfl, hE, hnx⟩, hsp, by rw [had]⟩, mh_hp ht9 (hP)⟩, hS.F ht9⟩) hS.2.2 dX1_held_36
    · skip
      have hno : ¬ (∃ t i j, t < zT z ∧ kt = nI t ∧ i < zK z ∧ kk = nI i ∧ j ≤ 1000000 ∧ h = lN j ∧ zE z < 200 ∧ zNx z ch t j) := fun ⟨t, i, j, q1, q2, _, _, q5, q6, q7, q8⟩ => sb_0 hr11 c14 ⟨t, j, q1, q2, q5, q6, q7, q8⟩
      refine lv_iconst (v := 0) hx hb dX1_held_17 (by decide) ?_
      rw [hQ]
      refine W.widen (k := 1) (n := 5) (by first | exact Nat.zero_le _ | omega) (by first | exact Nat.zero_le _ | omega) ?_
      exact W.zret (v := 0) hx hb hr (by decide) (fun t9 ht9 _ => ⟨⟨_, (ad, zC cy ad z F), rfl, Or.inr ⟨rfl, hno, rfl⟩, mh_hp ht9 (hP)⟩, hS.F ht9⟩) hS.2.2 dX1_held_18
set_option maxHeartbeats 4000000 in
set_option maxRecDepth 100000 in
/-- cleaned -/
theorem kX1_cleaned (l : Launch) (D : va_G) (cy : Nat → ClassId) (lo : Nat) (ad : Nat → Nat) (z : zS) (F : Nat → Option va_E) (ch : Nat → List Nat) (hok : zOk z ch) (hF : ∀ r, r < 1000 → F r = none) (kt kk : Int32) (h : Int64) : Met l yX1_cleaned wX1_cleaned { frames := 2, cells := 1, slots := 5, locals := 48 } (pcs D cy lo ad (zC cy ad z F) [.ref (ad 0), .int kt, .int kk, .long h]) (qwi D lo (fun r u => (r = 1 ∧ ∃ t i j q pre suf, (t < zT z ∧ kt = nI t ∧ 1 ≤ i ∧ i ≤ zL z ∧ kk = nI i ∧ j ≤ 1000000 ∧ h = lN j ∧ zE z < 200 ∧ zNx z ch t j) ∧ zSp z j (ch t) pre suf ∧ u = (va_up ad (100 + zE z) q, zC cy (va_up ad (100 + zE z) q) (zIns z t (-1, i, j, 0, none) pre suf) F)) ∨ (r = 0 ∧ ¬ (∃ t i j, t < zT z ∧ kt = nI t ∧ 1 ≤ i ∧ i ≤ zL z ∧ kk = nI i ∧ j ≤ 1000000 ∧ h = lN j ∧ zE z < 200 ∧ zNx z ch t j) ∧ u = (ad, zC cy ad z F)))) 1 5 (fun q => lo ≤ q) := by
  refine Met.ofW (cc := cX1_cleaned) (maxL := 5) (ret := (some .boolean)) (by decide) rfl ?_
  intro p e s m args below meth c s₁ B hml hv
  obtain ⟨rfl, hz, hP, hK⟩ := hv
  have hx := B.exec
  have hb := B.bytes
  have hr := B.returns
  have hts : ∀ w ∈ wA, w.before [.ref (ad 0), .int kt, .int kk, .long h].toArray s = true := fun w h => atoms_spec (ws := wX1_cleaned) B.pre w (List.mem_cons_of_mem _ h)
  have hown : s.vm.findClass RX1 = some m.cls := findClass_of_methodNamed B.named
  have hlocks := B.notSynchronized
  have hS : va_S (fun q => lo ≤ q) s.heap s.heap [] := va_S.rf
  have hl := lv_entry ([.ref (ad 0), .int kt, .int kk, .long h]) (n := 5) (Nat.le_of_ble_eq_true rfl)
  rw [lg_entry_eq]
  generalize (lg_sl ([.ref (ad 0), .int kt, .int kk, .long h]) ++ List.replicate (5 - (lg_sl ([.ref (ad 0), .int kt, .int kk, .long h])).length) Slot.unset).toArray = ls at hl ⊢
  have hl : lv_has ls 5 [(0, .ref (ad 0)), (1, .int kt), (2, .int kk), (3, .long h)] := hl
  obtain ⟨Q, hQ⟩ : ∃ Q, Q = MQ below (qwi D lo (fun r u => (r = 1 ∧ ∃ t i j q pre suf, (t < zT z ∧ kt = nI t ∧ 1 ≤ i ∧ i ≤ zL z ∧ kk = nI i ∧ j ≤ 1000000 ∧ h = lN j ∧ zE z < 200 ∧ zNx z ch t j) ∧ zSp z j (ch t) pre suf ∧ u = (va_up ad (100 + zE z) q, zC cy (va_up ad (100 + zE z) q) (zIns z t (-1, i, j, 0, none) pre suf) F)) ∨ (r = 0 ∧ ¬ (∃ t i j, t < zT z ∧ kt = nI t ∧ 1 ≤ i ∧ i ≤ zL z ∧ kk = nI i ∧ j ≤ 1000000 ∧ h = lN j ∧ zE z < 200 ∧ zNx z ch t j) ∧ u = (ad, zC cy ad z F)))) [.ref (ad 0), .int kt, .int kk, .long h].toArray s 1 5 (fun q => lo ≤ q) := ⟨_, rfl⟩
  rw [← hQ]
  obtain ⟨hK1, hK20, hL1, hL9, hT32, hE200, hnd, hal, hla, hco, hgr, hch, hlt0, hev, hbf⟩ := id hok
  refine lv_aload_n hx hb dX1_cleaned_0 rfl (lv_at hl 0 rfl) ?_
  refine lv_iload_n hx hb dX1_cleaned_1 rfl (lv_at hl 2 rfl) ?_
  refine rcV (n := 1) (As := [.int kk]) (rest := []) ⟨hx, hb, hml, hown, hts⟩ (kX1_isCleaningLevel l D cy lo ad z F kk ⟨hK20, hL9, hT32⟩) mlX1_66 imX1_isCleaningLevel seX1_isCleaningLevel inX1 cdX1_isCleaningLevel (by decide +kernel) rfl rfl ⟨Nat.le_of_ble_eq_true rfl, Nat.le_of_ble_eq_true rfl⟩ hK hP hz rfl rfl rfl hl.1 rfl (Nat.le_of_ble_eq_true rfl) dX1_cleaned_2 ⟨Nat.zero_le _, Nat.zero_le _⟩ (fun r2 hr2 => ?_)
  refine lv_if_eq (tgt := 17) hx hb dX1_cleaned_5 (by decide) (fun c5 => ?_) (fun c5 => ?_)
  · skip
    have hno : ¬ (∃ t i j, t < zT z ∧ kt = nI t ∧ 1 ≤ i ∧ i ≤ zL z ∧ kk = nI i ∧ j ≤ 1000000 ∧ h = lN j ∧ zE z < 200 ∧ zNx z ch t j) := fun ⟨_, i, _, _, _, q1, q2, q3, _⟩ => sb_0 hr2 c5 ⟨i, q1, q2, q3⟩
    refine lv_iconst (v := 0) hx hb dX1_cleaned_17 (by decide) ?_
    rw [hQ]
    refine W.widen (k := 1) (n := 5) (by first | exact Nat.zero_le _ | omega) (by first | exact Nat.zero_le _ | omega) ?_
    exact W.zret (v := 0) hx hb hr (by decide) (fun t9 ht9 _ => ⟨⟨_, (ad, zC cy ad z F), rfl, Or.inr ⟨rfl, hno, rfl⟩, mh_hp ht9 (hP)⟩, hS.F ht9⟩) hS.2.2 dX1_cleaned_18
  · skip
    have hA := sb_1 hr2 c5
    refine lv_aload_n hx hb dX1_cleaned_8 rfl (lv_at hl 0 rfl) ?_
    refine lv_iload_n hx hb dX1_cleaned_9 rfl (lv_at hl 1 rfl) ?_
    refine lv_lload_n hx hb dX1_cleaned_10 rfl (lv_at hl 3 rfl) ?_
    refine rcV (n := 2) (As := [.int kt, .long h]) (rest := []) ⟨hx, hb, hml, hown, hts⟩ (kX1_takesNext l D cy lo ad z F ch hok kt h) mlX1_73 imX1_takesNext seX1_takesNext inX1 cdX1_takesNext (by decide +kernel) rfl rfl ⟨Nat.le_of_ble_eq_true rfl, Nat.le_of_ble_eq_true rfl⟩ hK hP hz rfl rfl rfl hl.1 rfl (Nat.le_of_ble_eq_true rfl) dX1_cleaned_11 ⟨Nat.zero_le _, Nat.zero_le _⟩ (fun r11 hr11 => ?_)
    refine lv_if_ne (tgt := 19) hx hb dX1_cleaned_14 (by decide) (fun c14 => ?_) (fun c14 => ?_)
    · skip
      obtain ⟨t, j, ht, rfl, hj, rfl, hE, hnx⟩ := sb_1 hr11 c14
      obtain ⟨i, hi1, hi, rfl⟩ := hA
      refine lv_aload_n hx hb dX1_cleaned_19 rfl (lv_at hl 0 rfl) ?_
      refine lv_iload_n hx hb dX1_cleaned_20 rfl (lv_at hl 1 rfl) ?_
      refine mh_new (ci := 0) (fs := [.int 0, .int 0, .long 0, .int 0, .null]) hx hb hts wfX0 tyX0 tyX0_ok hown (hts _ clX1_13) (hts _ itX0) (hts _ inX0) hK.1 hP hS hz (100 + zE z) ((zC_hi hK20 (Nat.le_refl _)).trans (hF _ (by omega))) rfl (fun j hj => by rcases (show j = 0 ∨ j = 1 ∨ j = 2 ∨ j = 3 ∨ j = 4 by omega) with rfl | rfl | rfl | rfl | rfl <;> rfl) (Nat.le_of_ble_eq_true rfl) (Nat.le_of_ble_eq_true rfl) dX1_cleaned_21 (fun q9 H hP hS => ?_)
      obtain ⟨ad1, had⟩ : ∃ z9, z9 = va_up ad (100 + zE z) q9 := ⟨_, rfl⟩
      rw [← had] at hP
      have e0 : ad 0 = ad1 0 := by rw [had, va_up_ne _ _ (by omega)]
      have eq9 : q9 = ad1 (100 + zE z) := by rw [had, va_up_self]
      rw [show zC cy ad z F = zC cy ad1 z F from funext fun r => (zC_ad (ad := ad) (ad' := ad1) hK20 (zOk_lt hok) hbf (fun r hr => by rw [had, va_up_ne _ _ (by omega)]) r).symm] at hP
      refine W.eq (g2 := F0 m 24 ls [.ref (ad1 (100 + zE z)), .int (nI t), .ref (ad1 0)]) (by rw [eq9, e0]) ?_
      have hl : lv_has ls 5 [(0, .ref (ad1 0)), (1, .int (nI t)), (2, .int (nI i)), (3, .long (lN j))] := by rw [← e0]; exact hl
      refine lv_dup hx hb dX1_cleaned_24 rfl ?_
      refine lv_iconst (v := (-1)) hx hb dX1_cleaned_25 (by decide) ?_
      refine lv_iload_n hx hb dX1_cleaned_26 rfl (lv_at hl 2 rfl) ?_
      refine lv_lload_n hx hb dX1_cleaned_27 rfl (lv_at hl 3 rfl) ?_
      refine lv_iconst (v := 0) hx hb dX1_cleaned_28 (by decide) ?_
      refine rwIN (n := 4) (As := [.int (-1), .int (nI i), .long (lN j), .int 0]) (rest := [.ref (ad1 (100 + zE z)), .int (nI t), .ref (ad1 0)]) (b := ad1 (100 + zE z)) ⟨hx, hb, hml, hown, hts⟩ (kX0_init l D cy lo ad1 (100 + zE z) _ (va_up_self _ _ _) (-1) (nI i) 0 (lN j) ⟨by decide, by decide⟩) hK.2.2.1 imX0_init inX0 cdX0_init rfl (by decide +kernel) rfl rfl ⟨Nat.le_of_ble_eq_true rfl, Nat.le_of_ble_eq_true rfl⟩ hK hP (Nat.le_trans hz hS.1) hS rfl hl.1 rfl (Nat.le_of_ble_eq_true rfl) dX1_cleaned_29 ⟨Nat.le_of_ble_eq_true rfl, Nat.le_of_ble_eq_true rfl⟩ (fun u H locs hu hP _ hS => ?_)
      subst hu
      dsimp only at hP
      rw [bx_uu] at hP
      have hP : mh D vwCl lo ad1 (va_up (zC cy ad1 z F) (100 + zE z) (some (zVc ad1 (-1, i, j, 0, none)))) H := hP
      refine rwVv (n := 2) (As := [.int (nI t), .ref (ad1 (100 + zE z))]) (rest := []) ⟨hx, hb, hml, hown, hts⟩ (kX1_place l D cy lo ad1 z F ch hok t ht (-1) i j 0 hj hE) mlX1_80 imX1_place seX1_place inX1 cdX1_place (by decide +kernel) rfl rfl ⟨Nat.le_of_ble_eq_true rfl, Nat.le_of_ble_eq_true rfl⟩ hK hP (Nat.le_trans hz hS.1) (va_up_ne _ _ (by omega)) rfl hS rfl hl.1 rfl (Nat.le_of_ble_eq_true rfl) dX1_cleaned_32 ⟨Nat.le_of_ble_eq_true rfl, Nat.le_of_ble_eq_true rfl⟩ (fun u H locs hu hP _ hS => ?_)
      obtain ⟨pre, suf, hsp, hu⟩ := hu
      subst hu
      dsimp only at hP
      refine lv_iconst (v := 1) hx hb dX1_cleaned_35 (by decide) ?_
      rw [hQ]
      refine W.widen (k := 1) (n := 5) (by first | exact Nat.zero_le _ | omega) (by first | exact Nat.zero_le _ | omega) ?_
      exact W.zret (v := 1) hx hb hr (by decide) (fun t9 ht9 _ => ⟨⟨_, (ad1, zC cy ad1 (zIns z t (-1, i, j, 0, none) pre suf) F), rfl, Or.inl ⟨rfl, t, i, j, q9, pre, suf, ⟨ht, rfl, hi1, hi, rfl, hj, rfl, hE, hnx⟩, hsp, by rw [had]⟩, mh_hp ht9 (hP)⟩, hS.F ht9⟩) hS.2.2 dX1_cleaned_36
    · skip
      have hno : ¬ (∃ t i j, t < zT z ∧ kt = nI t ∧ 1 ≤ i ∧ i ≤ zL z ∧ kk = nI i ∧ j ≤ 1000000 ∧ h = lN j ∧ zE z < 200 ∧ zNx z ch t j) := fun ⟨t, i, j, q1, q2, _, _, _, q5, q6, q7, q8⟩ => sb_0 hr11 c14 ⟨t, j, q1, q2, q5, q6, q7, q8⟩
      refine lv_iconst (v := 0) hx hb dX1_cleaned_17 (by decide) ?_
      rw [hQ]
      refine W.widen (k := 1) (n := 5) (by first | exact Nat.zero_le _ | omega) (by first | exact Nat.zero_le _ | omega) ?_
      exact W.zret (v := 0) hx hb hr (by decide) (fun t9 ht9 _ => ⟨⟨_, (ad, zC cy ad z F), rfl, Or.inr ⟨rfl, hno, rfl⟩, mh_hp ht9 (hP)⟩, hS.F ht9⟩) hS.2.2 dX1_cleaned_18
set_option maxHeartbeats 4000000 in
set_option maxRecDepth 100000 in
/-- told -/
theorem kX1_told (l : Launch) (D : va_G) (cy : Nat → ClassId) (lo : Nat) (ad : Nat → Nat) (z : zS) (F : Nat → Option va_E) (ch : Nat → List Nat) (hok : zOk z ch) (hF : ∀ r, r < 1000 → F r = none) (kt kk : Int32) (h on : Int64) : Met l yX1_told wX1_told { frames := 2, cells := 1, slots := 5, locals := 48 } (pcs D cy lo ad (zC cy ad z F) [.ref (ad 0), .int kt, .int kk, .long h, .long on]) (qwi D lo (fun r u => (r = 1 ∧ ∃ t i j o q pre suf, (t < zT z ∧ kt = nI t ∧ i < zK z ∧ kk = nI i ∧ j ≤ 1000000 ∧ h = lN j ∧ o ≤ 1000000 ∧ on = lN o ∧ j ≤ o ∧ zLH z (ch t) ≤ o ∧ zE z < 200) ∧ zSp z j (ch t) pre suf ∧ u = (va_up ad (100 + zE z) q, zC cy (va_up ad (100 + zE z) q) (zIns z t (nI i, 0, j, 1, none) pre suf) F)) ∨ (r = 0 ∧ ¬ (∃ t i j o, t < zT z ∧ kt = nI t ∧ i < zK z ∧ kk = nI i ∧ j ≤ 1000000 ∧ h = lN j ∧ o ≤ 1000000 ∧ on = lN o ∧ j ≤ o ∧ zLH z (ch t) ≤ o ∧ zE z < 200) ∧ u = (ad, zC cy ad z F)))) 1 5 (fun q => lo ≤ q) := by
  refine Met.ofW (cc := cX1_told) (maxL := 7) (ret := (some .boolean)) (by decide) rfl ?_
  intro p e s m args below meth c s₁ B hml hv
  obtain ⟨rfl, hz, hP, hK⟩ := hv
  have hx := B.exec
  have hb := B.bytes
  have hr := B.returns
  have hts : ∀ w ∈ wA, w.before [.ref (ad 0), .int kt, .int kk, .long h, .long on].toArray s = true := fun w h => atoms_spec (ws := wX1_told) B.pre w (List.mem_cons_of_mem _ h)
  have hown : s.vm.findClass RX1 = some m.cls := findClass_of_methodNamed B.named
  have hlocks := B.notSynchronized
  have hS : va_S (fun q => lo ≤ q) s.heap s.heap [] := va_S.rf
  have hl := lv_entry ([.ref (ad 0), .int kt, .int kk, .long h, .long on]) (n := 7) (Nat.le_of_ble_eq_true rfl)
  rw [lg_entry_eq]
  generalize (lg_sl ([.ref (ad 0), .int kt, .int kk, .long h, .long on]) ++ List.replicate (7 - (lg_sl ([.ref (ad 0), .int kt, .int kk, .long h, .long on])).length) Slot.unset).toArray = ls at hl ⊢
  have hl : lv_has ls 7 [(0, .ref (ad 0)), (1, .int kt), (2, .int kk), (3, .long h), (5, .long on)] := hl
  obtain ⟨Q, hQ⟩ : ∃ Q, Q = MQ below (qwi D lo (fun r u => (r = 1 ∧ ∃ t i j o q pre suf, (t < zT z ∧ kt = nI t ∧ i < zK z ∧ kk = nI i ∧ j ≤ 1000000 ∧ h = lN j ∧ o ≤ 1000000 ∧ on = lN o ∧ j ≤ o ∧ zLH z (ch t) ≤ o ∧ zE z < 200) ∧ zSp z j (ch t) pre suf ∧ u = (va_up ad (100 + zE z) q, zC cy (va_up ad (100 + zE z) q) (zIns z t (nI i, 0, j, 1, none) pre suf) F)) ∨ (r = 0 ∧ ¬ (∃ t i j o, t < zT z ∧ kt = nI t ∧ i < zK z ∧ kk = nI i ∧ j ≤ 1000000 ∧ h = lN j ∧ o ≤ 1000000 ∧ on = lN o ∧ j ≤ o ∧ zLH z (ch t) ≤ o ∧ zE z < 200) ∧ u = (ad, zC cy ad z F)))) [.ref (ad 0), .int kt, .int kk, .long h, .long on].toArray s 1 5 (fun q => lo ≤ q) := ⟨_, rfl⟩
  rw [← hQ]
  obtain ⟨hK1, hK20, hL1, hL9, hT32, hE200, hnd, hal, hla, hco, hgr, hch, hlt0, hev, hbf⟩ := id hok
  refine lv_aload_n hx hb dX1_told_0 rfl (lv_at hl 0 rfl) ?_
  refine lv_iload_n hx hb dX1_told_1 rfl (lv_at hl 1 rfl) ?_
  refine rcV (n := 1) (As := [.int kt]) (rest := []) ⟨hx, hb, hml, hown, hts⟩ (kX1_isThing l D cy lo ad z F kt ⟨hK20, hL9, hT32⟩) mlX1_70 imX1_isThing seX1_isThing inX1 cdX1_isThing (by decide +kernel) rfl rfl ⟨Nat.le_of_ble_eq_true rfl, Nat.le_of_ble_eq_true rfl⟩ hK hP hz rfl rfl rfl hl.1 rfl (Nat.le_of_ble_eq_true rfl) dX1_told_2 ⟨Nat.zero_le _, Nat.zero_le _⟩ (fun r2 hr2 => ?_)
  refine lv_if_eq (tgt := 31) hx hb dX1_told_5 (by decide) (fun c5 => ?_) (fun c5 => ?_)
  · skip
    have hno : ¬ (∃ t i j o, t < zT z ∧ kt = nI t ∧ i < zK z ∧ kk = nI i ∧ j ≤ 1000000 ∧ h = lN j ∧ o ≤ 1000000 ∧ on = lN o ∧ j ≤ o ∧ zLH z (ch t) ≤ o ∧ zE z < 200) := fun ⟨t, _, _, _, q1, q2, _⟩ => sb_0 hr2 c5 ⟨t, q1, q2⟩
    refine lv_iconst (v := 0) hx hb dX1_told_31 (by decide) ?_
    rw [hQ]
    refine W.widen (k := 1) (n := 5) (by first | exact Nat.zero_le _ | omega) (by first | exact Nat.zero_le _ | omega) ?_
    exact W.zret (v := 0) hx hb hr (by decide) (fun t9 ht9 _ => ⟨⟨_, (ad, zC cy ad z F), rfl, Or.inr ⟨rfl, hno, rfl⟩, mh_hp ht9 (hP)⟩, hS.F ht9⟩) hS.2.2 dX1_told_32
  · skip
    have hA := sb_1 hr2 c5
    refine lv_aload_n hx hb dX1_told_8 rfl (lv_at hl 0 rfl) ?_
    refine lv_iload_n hx hb dX1_told_9 rfl (lv_at hl 2 rfl) ?_
    refine rcV (n := 1) (As := [.int kk]) (rest := []) ⟨hx, hb, hml, hown, hts⟩ (kX1_isKind l D cy lo ad z F kk ⟨hK20, hL9, hT32⟩) mlX1_62 imX1_isKind seX1_isKind inX1 cdX1_isKind (by decide +kernel) rfl rfl ⟨Nat.le_of_ble_eq_true rfl, Nat.le_of_ble_eq_true rfl⟩ hK hP hz rfl rfl rfl hl.1 rfl (Nat.le_of_ble_eq_true rfl) dX1_told_10 ⟨Nat.zero_le _, Nat.zero_le _⟩ (fun r10 hr10 => ?_)
    refine lv_if_eq (tgt := 31) hx hb dX1_told_13 (by decide) (fun c13 => ?_) (fun c13 => ?_)
    · skip
      have hno : ¬ (∃ t i j o, t < zT z ∧ kt = nI t ∧ i < zK z ∧ kk = nI i ∧ j ≤ 1000000 ∧ h = lN j ∧ o ≤ 1000000 ∧ on = lN o ∧ j ≤ o ∧ zLH z (ch t) ≤ o ∧ zE z < 200) := fun ⟨_, i, _, _, _, _, q1, q2, _⟩ => sb_0 hr10 c13 ⟨i, q1, q2⟩
      refine lv_iconst (v := 0) hx hb dX1_told_31 (by decide) ?_
      rw [hQ]
      refine W.widen (k := 1) (n := 5) (by first | exact Nat.zero_le _ | omega) (by first | exact Nat.zero_le _ | omega) ?_
      exact W.zret (v := 0) hx hb hr (by decide) (fun t9 ht9 _ => ⟨⟨_, (ad, zC cy ad z F), rfl, Or.inr ⟨rfl, hno, rfl⟩, mh_hp ht9 (hP)⟩, hS.F ht9⟩) hS.2.2 dX1_told_32
    · skip
      have hB := sb_1 hr10 c13
      refine lv_lload_n hx hb dX1_told_16 rfl (lv_at hl 3 rfl) ?_
      refine rcS (n := 1) (As := [.long h]) (rest := []) ⟨hx, hb, hml, hown, hts⟩ (kX1_isHour l D cy lo ad (zC cy ad z F) h) mlX1_84 stX1_isHour inX1 cdX1_isHour (by decide +kernel) rfl rfl ⟨Nat.le_of_ble_eq_true rfl, Nat.le_of_ble_eq_true rfl⟩ hK hP hz rfl hl.1 rfl (Nat.le_of_ble_eq_true rfl) dX1_told_17 ⟨Nat.zero_le _, Nat.zero_le _⟩ (fun r17 hr17 => ?_)
      refine lv_if_eq (tgt := 31) hx hb dX1_told_20 (by decide) (fun c20 => ?_) (fun c20 => ?_)
      · skip
        have hno : ¬ (∃ t i j o, t < zT z ∧ kt = nI t ∧ i < zK z ∧ kk = nI i ∧ j ≤ 1000000 ∧ h = lN j ∧ o ≤ 1000000 ∧ on = lN o ∧ j ≤ o ∧ zLH z (ch t) ≤ o ∧ zE z < 200) := fun ⟨_, _, j, _, _, _, _, _, q1, q2, _⟩ => sb_0 hr17 c20 ⟨j, q1, q2⟩
        refine lv_iconst (v := 0) hx hb dX1_told_31 (by decide) ?_
        rw [hQ]
        refine W.widen (k := 1) (n := 5) (by first | exact Nat.zero_le _ | omega) (by first | exact Nat.zero_le _ | omega) ?_
        exact W.zret (v := 0) hx hb hr (by decide) (fun t9 ht9 _ => ⟨⟨_, (ad, zC cy ad z F), rfl, Or.inr ⟨rfl, hno, rfl⟩, mh_hp ht9 (hP)⟩, hS.F ht9⟩) hS.2.2 dX1_told_32
      · skip
        have hH := sb_1 hr17 c20
        refine lv_lload hx hb dX1_told_23 (lv_at hl 4 rfl) ?_
        refine rcS (n := 1) (As := [.long on]) (rest := []) ⟨hx, hb, hml, hown, hts⟩ (kX1_isHour l D cy lo ad (zC cy ad z F) on) mlX1_84 stX1_isHour inX1 cdX1_isHour (by decide +kernel) rfl rfl ⟨Nat.le_of_ble_eq_true rfl, Nat.le_of_ble_eq_true rfl⟩ hK hP hz rfl hl.1 rfl (Nat.le_of_ble_eq_true rfl) dX1_told_25 ⟨Nat.zero_le _, Nat.zero_le _⟩ (fun r25 hr25 => ?_)
        refine lv_if_ne (tgt := 33) hx hb dX1_told_28 (by decide) (fun c28 => ?_) (fun c28 => ?_)
        · skip
          obtain ⟨o, ho, rfl⟩ := sb_1 hr25 c28
          obtain ⟨t, ht, rfl⟩ := hA
          obtain ⟨i, hi, rfl⟩ := hB
          obtain ⟨j, hj, rfl⟩ := hH
          refine lv_lload hx hb dX1_told_33 (lv_at hl 4 rfl) ?_
          refine lv_lload_n hx hb dX1_told_35 rfl (lv_at hl 3 rfl) ?_
          refine W.lcmp hx hb dX1_told_36 ?_
          refine lv_if_lt (tgt := 61) hx hb dX1_told_37 (by decide) (fun c37 => ?_) (fun c37 => ?_)
          · skip
            have hno : ¬ (∃ t1 i1 j1 o1, t1 < zT z ∧ nI t = nI t1 ∧ i1 < zK z ∧ nI i = nI i1 ∧ j1 ≤ 1000000 ∧ lN j = lN j1 ∧ o1 ≤ 1000000 ∧ lN o = lN o1 ∧ j1 ≤ o1 ∧ zLH z (ch t1) ≤ o1 ∧ zE z < 200) := fun ⟨t1, i1, j1, o1, _, q1, _, _, _, q2, _, q3, q4, _, _⟩ => by
              have e1 := (nI_eq (by omega) (by omega)).mp q1
              have e2 := (lN_eq (by omega) (by omega)).mp q2
              have e3 := (lN_eq (by omega) (by omega)).mp q3
              subst e1 e2 e3
              have q := (lN_lt (by omega) (by omega)).mp ((lg_cmp_lt _ _).mp c37)
              omega
            refine lv_iconst (v := 0) hx hb dX1_told_61 (by decide) ?_
            rw [hQ]
            refine W.widen (k := 1) (n := 5) (by first | exact Nat.zero_le _ | omega) (by first | exact Nat.zero_le _ | omega) ?_
            exact W.zret (v := 0) hx hb hr (by decide) (fun t9 ht9 _ => ⟨⟨_, (ad, zC cy ad z F), rfl, Or.inr ⟨rfl, hno, rfl⟩, mh_hp ht9 (hP)⟩, hS.F ht9⟩) hS.2.2 dX1_told_62
          · skip
            have hjo : j ≤ o := Nat.le_of_not_lt (fun q => c37 ((lg_cmp_lt _ _).mpr ((lN_lt (by omega) (by omega)).mpr q)))
            refine lv_lload hx hb dX1_told_40 (lv_at hl 4 rfl) ?_
            refine lv_aload_n hx hb dX1_told_42 rfl (lv_at hl 0 rfl) ?_
            refine lv_iload_n hx hb dX1_told_43 rfl (lv_at hl 1 rfl) ?_
            refine rcVl (n := 1) (As := [.int (nI t)]) (rest := [.long (lN o)]) ⟨hx, hb, hml, hown, hts⟩ (kX1_lastHourInTime l D cy lo ad z F ch hok t ht) mlX1_102 imX1_lastHourInTime seX1_lastHourInTime inX1 cdX1_lastHourInTime (by decide +kernel) rfl rfl ⟨Nat.le_of_ble_eq_true rfl, Nat.le_of_ble_eq_true rfl⟩ hK hP hz rfl rfl rfl hl.1 rfl (Nat.le_of_ble_eq_true rfl) dX1_told_44 ⟨Nat.zero_le _, Nat.zero_le _⟩ (fun r44 hr44 => ?_)
            subst hr44
            have hlh : zLH z (ch t) ≤ 1000000 := zLH_le hok ht
            refine W.lcmp hx hb dX1_told_47 ?_
            refine lv_if_lt (tgt := 61) hx hb dX1_told_48 (by decide) (fun c48 => ?_) (fun c48 => ?_)
            · skip
              have hno : ¬ (∃ t1 i1 j1 o1, t1 < zT z ∧ nI t = nI t1 ∧ i1 < zK z ∧ nI i = nI i1 ∧ j1 ≤ 1000000 ∧ lN j = lN j1 ∧ o1 ≤ 1000000 ∧ lN o = lN o1 ∧ j1 ≤ o1 ∧ zLH z (ch t1) ≤ o1 ∧ zE z < 200) := fun ⟨t1, i1, j1, o1, _, q1, _, _, _, q2, _, q3, _, q4, _⟩ => by
                have e1 := (nI_eq (by omega) (by omega)).mp q1
                have e2 := (lN_eq (by omega) (by omega)).mp q2
                have e3 := (lN_eq (by omega) (by omega)).mp q3
                subst e1 e2 e3
                have q := (lN_lt (by omega) (by omega)).mp ((lg_cmp_lt _ _).mp c48)
                omega
              refine lv_iconst (v := 0) hx hb dX1_told_61 (by decide) ?_
              rw [hQ]
              refine W.widen (k := 1) (n := 5) (by first | exact Nat.zero_le _ | omega) (by first | exact Nat.zero_le _ | omega) ?_
              exact W.zret (v := 0) hx hb hr (by decide) (fun t9 ht9 _ => ⟨⟨_, (ad, zC cy ad z F), rfl, Or.inr ⟨rfl, hno, rfl⟩, mh_hp ht9 (hP)⟩, hS.F ht9⟩) hS.2.2 dX1_told_62
            · skip
              have hlo : zLH z (ch t) ≤ o := Nat.le_of_not_lt (fun q => c48 ((lg_cmp_lt _ _).mpr ((lN_lt (by omega) (by omega)).mpr q)))
              refine lv_aload_n hx hb dX1_told_51 rfl (lv_at hl 0 rfl) ?_
              refine mh_get (ci := 1) (v := .int (nI (zE z))) hx hb hts wfX1 hown hK.1 hP 0 rfl rfl 9 (by decide) (hts _ flX1_23) (fun _ h9 => h9) rfl dX1_told_52 ?_
              refine lv_sipush (v := 200) hx hb dX1_told_55 (by decide) ?_
              refine lv_icmp_lt (tgt := 63) hx hb dX1_told_58 (by decide) (fun c58 => ?_) (fun c58 => ?_)
              · skip
                have hE : zE z < 200 := (nI_ltI (b := 200) (by omega) (by omega)).mp c58
                refine lv_aload_n hx hb dX1_told_63 rfl (lv_at hl 0 rfl) ?_
                refine lv_iload_n hx hb dX1_told_64 rfl (lv_at hl 1 rfl) ?_
                refine mh_new (ci := 0) (fs := [.int 0, .int 0, .long 0, .int 0, .null]) hx hb hts wfX0 tyX0 tyX0_ok hown (hts _ clX1_13) (hts _ itX0) (hts _ inX0) hK.1 hP hS hz (100 + zE z) ((zC_hi hK20 (Nat.le_refl _)).trans (hF _ (by omega))) rfl (fun j hj => by rcases (show j = 0 ∨ j = 1 ∨ j = 2 ∨ j = 3 ∨ j = 4 by omega) with rfl | rfl | rfl | rfl | rfl <;> rfl) (Nat.le_of_ble_eq_true rfl) (Nat.le_of_ble_eq_true rfl) dX1_told_65 (fun q9 H hP hS => ?_)
                obtain ⟨ad1, had⟩ : ∃ z9, z9 = va_up ad (100 + zE z) q9 := ⟨_, rfl⟩
                rw [← had] at hP
                have e0 : ad 0 = ad1 0 := by rw [had, va_up_ne _ _ (by omega)]
                have eq9 : q9 = ad1 (100 + zE z) := by rw [had, va_up_self]
                rw [show zC cy ad z F = zC cy ad1 z F from funext fun r => (zC_ad (ad := ad) (ad' := ad1) hK20 (zOk_lt hok) hbf (fun r hr => by rw [had, va_up_ne _ _ (by omega)]) r).symm] at hP
                refine W.eq (g2 := F0 m 68 ls [.ref (ad1 (100 + zE z)), .int (nI t), .ref (ad1 0)]) (by rw [eq9, e0]) ?_
                have hl : lv_has ls 7 [(0, .ref (ad1 0)), (1, .int (nI t)), (2, .int (nI i)), (3, .long (lN j)), (5, .long (lN o))] := by rw [← e0]; exact hl
                refine lv_dup hx hb dX1_told_68 rfl ?_
                refine lv_iload_n hx hb dX1_told_69 rfl (lv_at hl 2 rfl) ?_
                refine lv_iconst (v := 0) hx hb dX1_told_70 (by decide) ?_
                refine lv_lload_n hx hb dX1_told_71 rfl (lv_at hl 3 rfl) ?_
                refine lv_iconst (v := 1) hx hb dX1_told_72 (by decide) ?_
                refine rwIN (n := 4) (As := [.int (nI i), .int 0, .long (lN j), .int 1]) (rest := [.ref (ad1 (100 + zE z)), .int (nI t), .ref (ad1 0)]) (b := ad1 (100 + zE z)) ⟨hx, hb, hml, hown, hts⟩ (kX0_init l D cy lo ad1 (100 + zE z) _ (va_up_self _ _ _) (nI i) 0 1 (lN j) ⟨by decide, by decide⟩) hK.2.2.1 imX0_init inX0 cdX0_init rfl (by decide +kernel) rfl rfl ⟨Nat.le_of_ble_eq_true rfl, Nat.le_of_ble_eq_true rfl⟩ hK hP (Nat.le_trans hz hS.1) hS rfl hl.1 rfl (Nat.le_of_ble_eq_true rfl) dX1_told_73 ⟨Nat.le_of_ble_eq_true rfl, Nat.le_of_ble_eq_true rfl⟩ (fun u H locs hu hP _ hS => ?_)
                subst hu
                dsimp only at hP
                rw [bx_uu] at hP
                have hP : mh D vwCl lo ad1 (va_up (zC cy ad1 z F) (100 + zE z) (some (zVc ad1 (nI i, 0, j, 1, none)))) H := hP
                refine rwVv (n := 2) (As := [.int (nI t), .ref (ad1 (100 + zE z))]) (rest := []) ⟨hx, hb, hml, hown, hts⟩ (kX1_place l D cy lo ad1 z F ch hok t ht (nI i) 0 j 1 hj hE) mlX1_80 imX1_place seX1_place inX1 cdX1_place (by decide +kernel) rfl rfl ⟨Nat.le_of_ble_eq_true rfl, Nat.le_of_ble_eq_true rfl⟩ hK hP (Nat.le_trans hz hS.1) (va_up_ne _ _ (by omega)) rfl hS rfl hl.1 rfl (Nat.le_of_ble_eq_true rfl) dX1_told_76 ⟨Nat.le_of_ble_eq_true rfl, Nat.le_of_ble_eq_true rfl⟩ (fun u H locs hu hP _ hS => ?_)
                obtain ⟨pre, suf, hsp, hu⟩ := hu
                subst hu
                dsimp only at hP
                refine lv_iconst (v := 1) hx hb dX1_told_79 (by decide) ?_
                rw [hQ]
                refine W.widen (k := 1) (n := 5) (by first | exact Nat.zero_le _ | omega) (by first | exact Nat.zero_le _ | omega) ?_
                exact W.zret (v := 1) hx hb hr (by decide) (fun t9 ht9 _ => ⟨⟨_, (ad1, zC cy ad1 (zIns z t (nI i, 0, j, 1, none) pre suf) F), rfl, Or.inl ⟨rfl, t, i, j, o, q9, pre, suf, ⟨ht, rfl, hi, rfl, hj, rfl, ho, rfl, hjo, hlo, hE⟩, hsp, by rw [had]⟩, mh_hp ht9 (hP)⟩, hS.F ht9⟩) hS.2.2 dX1_told_80
              · skip
                have hno : ¬ (∃ t1 i1 j1 o1, t1 < zT z ∧ nI t = nI t1 ∧ i1 < zK z ∧ nI i = nI i1 ∧ j1 ≤ 1000000 ∧ lN j = lN j1 ∧ o1 ≤ 1000000 ∧ lN o = lN o1 ∧ j1 ≤ o1 ∧ zLH z (ch t1) ≤ o1 ∧ zE z < 200) := fun ⟨_, _, _, _, _, _, _, _, _, _, _, _, _, _, q⟩ => c58 (nI_lt (b := 200) q (by omega))
                refine lv_iconst (v := 0) hx hb dX1_told_61 (by decide) ?_
                rw [hQ]
                refine W.widen (k := 1) (n := 5) (by first | exact Nat.zero_le _ | omega) (by first | exact Nat.zero_le _ | omega) ?_
                exact W.zret (v := 0) hx hb hr (by decide) (fun t9 ht9 _ => ⟨⟨_, (ad, zC cy ad z F), rfl, Or.inr ⟨rfl, hno, rfl⟩, mh_hp ht9 (hP)⟩, hS.F ht9⟩) hS.2.2 dX1_told_62
        · skip
          have hno : ¬ (∃ t i j o, t < zT z ∧ kt = nI t ∧ i < zK z ∧ kk = nI i ∧ j ≤ 1000000 ∧ h = lN j ∧ o ≤ 1000000 ∧ on = lN o ∧ j ≤ o ∧ zLH z (ch t) ≤ o ∧ zE z < 200) := fun ⟨_, _, _, o, _, _, _, _, _, _, q1, q2, _⟩ => sb_0 hr25 c28 ⟨o, q1, q2⟩
          refine lv_iconst (v := 0) hx hb dX1_told_31 (by decide) ?_
          rw [hQ]
          refine W.widen (k := 1) (n := 5) (by first | exact Nat.zero_le _ | omega) (by first | exact Nat.zero_le _ | omega) ?_
          exact W.zret (v := 0) hx hb hr (by decide) (fun t9 ht9 _ => ⟨⟨_, (ad, zC cy ad z F), rfl, Or.inr ⟨rfl, hno, rfl⟩, mh_hp ht9 (hP)⟩, hS.F ht9⟩) hS.2.2 dX1_told_32
