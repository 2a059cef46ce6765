/-! THE LAW FROM ITS ENTRY. -/
theorem arr_of {args : Array Value} {s : State} {ty : FieldType} (h : (Cond.arrayClass ty).before args s = true) (hra : ∀ cA, s.vm.findClass ("[" ++ ty.toString) = some cA → va_RA s cA ty) : ∃ cA : ClassId, ArrOfT s cA ty ∧ va_RA s cA ty := by
  obtain ⟨cA, kA, comp, f1, f2, f3⟩ := Cond.arrayClass_spec h
  exact ⟨cA, fun N z => ⟨(fun k h => by cases h), kA, f2, comp, f3⟩, hra cA f1⟩
/-- what the tables say -/
theorem kn_of {s : State} {b : Nat} (hts0 : ∀ w ∈ lw_tbl, w.before #[Value.ref b] s = true) : ∃ (D : va_G) (cy : Nat → ClassId), kn D cy s := by
  have hts : ∀ w ∈ wA, w.before #[Value.ref b] s = true := fun w h => hts0 w (wA_tbl w h)
  obtain ⟨c0, i0, k0⟩ := u_known (C := RX0) (T := TX0) (N := 5) (n := 5) hts wfX0 (hts _ itX0)
  obtain ⟨c1, i1, k1⟩ := u_known (C := RX1) (T := TX1) (N := 10) (n := 10) hts wfX1 (hts _ itX1)
  obtain ⟨c2, i2, k2⟩ := u_known (C := RX2) (T := TX2) (N := 14) (n := 14) hts wfX2 (hts _ itX2)
  have hoA : (Cond.arrayOver (.array .int)).before #[Value.ref b] s = true := hts0 (.arrayOver (.array .int)) (by decide +kernel)
  have hoE : (Cond.arrayOver (.object RX0)).before #[Value.ref b] s = true := hts0 (.arrayOver (.object RX0)) (by decide +kernel)
  obtain ⟨a0, a0a, a0r⟩ := arr_of (ty := .int) (hts _ ac_int) (fun _ h => h)
  obtain ⟨a1, a1a, a1r⟩ := arr_of (ty := .long) (hts _ ac_long) (fun _ h => h)
  obtain ⟨a2, a2a, a2r⟩ := arr_of (ty := .boolean) (hts _ ac_boolean) (fun _ h => h)
  obtain ⟨cp3, a3, q3, f1, f2, f3, f4⟩ := mn_over hoA
  obtain ⟨cp4, a4, q4, g1, g2, g3, g4, g5⟩ := Cond.arrayOver_spec hoE
  refine ⟨(fun k => if k = 0 then c0 else if k = 1 then c1 else c2, fun k => if k = 0 then i0 else if k = 1 then i1 else i2), fun k => if k = 0 then a0 else if k = 1 then a1 else if k = 2 then a2 else if k = 3 then a3 else a4, ⟨fun k q hq => ?_, fun k q hq => ?_⟩, ⟨va_Nw.of rfl (hts0 (.fieldLinkNest RX1 126 "CleanMatrix$Event" "kind" "I" "CleanMatrix") (by decide +kernel)), va_Nw.of rfl (hts0 (.fieldLinkNest RX1 129 "CleanMatrix$Event" "level" "I" "CleanMatrix") (by decide +kernel)), va_Nw.of rfl (hts0 (.fieldLinkNest RX1 107 "CleanMatrix$Event" "hour" "J" "CleanMatrix") (by decide +kernel)), va_Nw.of rfl (hts0 (.fieldLinkNest RX1 111 "CleanMatrix$Event" "late" "Z" "CleanMatrix") (by decide +kernel)), va_Nw.of rfl (hts0 (.fieldLinkNest RX1 115 "CleanMatrix$Event" "before" "LCleanMatrix$Event;" "CleanMatrix") (by decide +kernel))⟩, va_Nw.of rfl (hts0 (.methodLinkNest RX1 77 yX0_init "CleanMatrix") (by decide +kernel)), va_AO.of hoE, hoA⟩
  · match k, hq with
    | 0, hq => cases hq; exact k0
    | 1, hq => cases hq; exact k1
    | 2, hq => cases hq; exact k2
    | k + 3, hq => simp [vwCl] at hq
  · match k, hq with
    | 0, hq => cases hq; exact ⟨a0a, a0r⟩
    | 1, hq => cases hq; exact ⟨a1a, a1r⟩
    | 2, hq => cases hq; exact ⟨a2a, a2r⟩
    | 3, hq => cases hq; exact ⟨fun N z => ⟨(fun k h => by cases h), q3, f2, cp3, f3⟩, f4⟩
    | 4, hq => cases hq; exact ⟨fun N z => ⟨(fun k h => by cases h), q4, g3, cp4, g4⟩, q4, cp4, g3, g4, g1, g5⟩
    | k + 5, hq => simp at hq
set_option maxHeartbeats 4000000 in
set_option maxRecDepth 100000 in
/-- the law, from its entry -/
theorem whole_start {p : Program} {e : Env} {s : State} {m : MethodId} {below : List Frame} {meth : Method} {c : Code} (l : Launch) {b L : Nat} {xs : Nat → Int32} (hL : L ≤ 3586) (C0 : lw_At p s m meth c b L xs) : W p l e room_1 s m #[Value.ref b] below meth c s.heap [] 0 0 (lw_Z below #[Value.ref b] s) (entryFrame m ([Value.ref b] : List Value).toArray 4) := by
  obtain ⟨hx, hb, hr, hml, hown0, hts0, hX, hbl, hlocks, hgv⟩ := id C0
  have hown : s.vm.findClass RL = some m.cls := hown0
  have hts : ∀ w ∈ wA, w.before #[Value.ref b] s = true := fun w h => hts0 w (wA_tbl w h)
  have hbA : ¬ (fun q : Nat => s.heap.size ≤ q) b := Nat.not_le.mpr hbl
  obtain ⟨D, cy, hK⟩ := kn_of hts0
  have hS : va_S (fun q : Nat => s.heap.size ≤ q) s.heap s.heap [] := va_S.rf
  have hP : mh D vwCl s.heap.size (fun _ => 0) (fun _ => none) s.heap := ⟨fun r e h => (by cases h), fun r1 r2 h => absurd rfl h⟩
  have hl := lv_entry ([.ref b]) (n := 4) (Nat.le_of_ble_eq_true rfl)
  rw [lg_entry_eq]
  generalize (lg_sl ([.ref b]) ++ List.replicate (4 - (lg_sl ([.ref b])).length) Slot.unset).toArray = ls at hl ⊢
  have hl : lv_has ls 4 [(0, .ref b)] := hl
  have hloop := law_loop (below := below) (e := e) l hL C0 hK 600 2 (by omega) (by omega)
  unfold lcA at hloop
  obtain ⟨Q, hQ⟩ : ∃ Q, Q = lw_Z below #[Value.ref b] s := ⟨_, rfl⟩
  rw [← hQ] at hloop ⊢
  refine mh_new (ci := 1) (fs := [.int 0, .int 0, .null, .null, .null, .null, .null, .null, .int 0, .int 0]) hx hb hts wfX1 tyX1 tyX1_ok hown (hts _ clL_7) (hts _ itX1) (hts _ inX1) hK.1 hP hS (Nat.le_refl _) 0 rfl rfl (fun j hj => by rcases (show j = 0 ∨ j = 1 ∨ j = 2 ∨ j = 3 ∨ j = 4 ∨ j = 5 ∨ j = 6 ∨ j = 7 ∨ j = 8 ∨ j = 9 by omega) with rfl | rfl | rfl | rfl | rfl | rfl | rfl | rfl | rfl | rfl <;> rfl) (Nat.le_of_ble_eq_true rfl) (Nat.le_of_ble_eq_true rfl) dL_law_0 (fun q0 H hP hS => ?_)
  refine W.widen (k := 1) (n := 10) (by omega) (by omega) ?_
  refine lv_dup hx hb dL_law_3 rfl ?_
  refine lv_aload_n hx hb dL_law_4 rfl (lv_at hl 0 rfl) ?_
  refine lv_iconst (v := 0) hx hb dL_law_5 (by decide) ?_
  refine rcX (idx := 9) ⟨hx, hb, hml, hown, hts⟩ hL hX hbl hbA hS 0 (by decide) rfl mlL_9 ⟨Nat.le_of_ble_eq_true rfl, Nat.le_of_ble_eq_true rfl⟩ hl.1 (Nat.le_of_ble_eq_true rfl) dL_law_6 ⟨Nat.le_of_ble_eq_true rfl, Nat.le_of_ble_eq_true rfl⟩ ?_
  refine lv_aload_n hx hb dL_law_9 rfl (lv_at hl 0 rfl) ?_
  refine lv_iconst (v := 1) hx hb dL_law_10 (by decide) ?_
  refine rcX (idx := 9) ⟨hx, hb, hml, hown, hts⟩ hL hX hbl hbA hS 1 (by decide) rfl mlL_9 ⟨Nat.le_of_ble_eq_true rfl, Nat.le_of_ble_eq_true rfl⟩ hl.1 (Nat.le_of_ble_eq_true rfl) dL_law_11 ⟨Nat.le_of_ble_eq_true rfl, Nat.le_of_ble_eq_true rfl⟩ ?_
  obtain ⟨kk, ekk⟩ : ∃ y, y = cw L xs 0 := ⟨_, rfl⟩
  obtain ⟨kl, ekl⟩ : ∃ y, y = cw L xs 1 := ⟨_, rfl⟩
  rw [← ekk, ← ekl]
  obtain ⟨C1, eC1⟩ : ∃ C1 : Nat → Option va_E, C1 = va_up (fun _ => none) 0 (some (.inr (1, [.int 0, .int 0, .null, .null, .null, .null, .null, .null, .int 0, .int 0]))) := ⟨_, rfl⟩
  rw [← eC1] at hP
  obtain ⟨ad0, ead⟩ : ∃ ad0 : Nat → Nat, ad0 = va_up (fun _ => 0) 0 q0 := ⟨_, rfl⟩
  rw [← ead] at hP
  have eq0 : q0 = ad0 0 := by rw [ead, va_up_self]
  rw [eq0]
  refine rwI (n := 2) (As := [.int kk, .int kl]) (rest := [.ref (ad0 0)]) ⟨hx, hb, hml, hown, hts⟩ (kX1_init l D cy s.heap.size ad0 C1 (by rw [eC1, va_up_self]) (fun r h1 h2 => by rw [eC1, va_up_ne _ _ (by omega)]) kk kl) mlL_15 imX1_init inX1 cdX1_init rfl (by decide +kernel) rfl rfl ⟨Nat.le_of_ble_eq_true rfl, Nat.le_of_ble_eq_true rfl⟩ hK hP (hS.1) hS rfl hl.1 rfl (Nat.le_of_ble_eq_true rfl) dL_law_14 ⟨Nat.le_of_ble_eq_true rfl, Nat.le_of_ble_eq_true rfl⟩ (fun u H locs hp hP hz1 hS => ?_)
  obtain ⟨ad1, CC⟩ := u
  obtain ⟨eCC, ea0, ea1⟩ := hp
  have eCC : CC = zC cy ad1 (z0 (clampN kk 20) (clampN kl 9)) (fun r => if r < 1000 then none else C1 r) := eCC
  have ea0 : ad1 0 = ad0 0 := ea0
  have hz : s.heap.size ≤ H.size := hS.1
  obtain ⟨hk1, hk2⟩ := clampN_in (k := kk) (n := 20) (by decide) (by decide)
  obtain ⟨hl1, hl2⟩ := clampN_in (k := kl) (n := 9) (by decide) (by decide)
  obtain ⟨K, eK⟩ : ∃ K, clampN kk 20 = K := ⟨_, rfl⟩
  obtain ⟨LV, eLV⟩ : ∃ LV, clampN kl 9 = LV := ⟨_, rfl⟩
  rw [eK] at hk1 hk2 eCC
  rw [eLV] at hl1 hl2 eCC
  have hP : mh D vwCl s.heap.size ad1 (zC cy ad1 (z0 K LV) (fun _ => none)) H := mh_eq hP (fun r => by
    show _ = CC r
    rw [eCC]
    refine zC_F ?_
    show none = if r < 1000 then none else C1 r
    split
    · rfl
    · rw [eC1, va_up_ne _ _ (by omega)])
  rw [← ea0]
  refine lv_astore_n (lv' := [(1, .ref (ad1 0)), (0, .ref b)]) hx hb dL_law_17 rfl hl (by decide) rfl (fun ls hl => ?_)
  refine W.widen (k := 29) (n := 546) (by omega) (by omega) ?_
  refine mh_new (ci := 2) (fs := [.int 0, .int 0, .null, .null, .null, .null, .null, .int 0, .null, .null, .null, .null, .null, .int 0]) hx hb hts wfX2 tyX2 tyX2_ok hown (hts _ clL_18) (hts _ itX2) (hts _ inX2) hK.1 hP hS (Nat.le_refl _) 1000 (zC_hi hk2 (by show 100 + 0 ≤ 1000; decide)) rfl (fun j hj => by rcases (show j = 0 ∨ j = 1 ∨ j = 2 ∨ j = 3 ∨ j = 4 ∨ j = 5 ∨ j = 6 ∨ j = 7 ∨ j = 8 ∨ j = 9 ∨ j = 10 ∨ j = 11 ∨ j = 12 ∨ j = 13 by omega) with rfl | rfl | rfl | rfl | rfl | rfl | rfl | rfl | rfl | rfl | rfl | rfl | rfl | rfl <;> rfl) (Nat.le_of_ble_eq_true rfl) (Nat.le_of_ble_eq_true rfl) dL_law_18 (fun q1 H hP hS => ?_)
  refine lv_dup hx hb dL_law_21 rfl ?_
  refine lv_aload_n hx hb dL_law_22 rfl (lv_at hl 1 rfl) ?_
  refine lv_iconst (v := 0) hx hb dL_law_23 (by decide) ?_
  refine rcX (idx := 9) ⟨hx, hb, hml, hown, hts⟩ hL hX hbl hbA hS 0 (by decide) rfl mlL_9 ⟨Nat.le_of_ble_eq_true rfl, Nat.le_of_ble_eq_true rfl⟩ hl.1 (Nat.le_of_ble_eq_true rfl) dL_law_24 ⟨Nat.le_of_ble_eq_true rfl, Nat.le_of_ble_eq_true rfl⟩ ?_
  refine lv_aload_n hx hb dL_law_27 rfl (lv_at hl 1 rfl) ?_
  refine lv_iconst (v := 1) hx hb dL_law_28 (by decide) ?_
  refine rcX (idx := 9) ⟨hx, hb, hml, hown, hts⟩ hL hX hbl hbA hS 1 (by decide) rfl mlL_9 ⟨Nat.le_of_ble_eq_true rfl, Nat.le_of_ble_eq_true rfl⟩ hl.1 (Nat.le_of_ble_eq_true rfl) dL_law_29 ⟨Nat.le_of_ble_eq_true rfl, Nat.le_of_ble_eq_true rfl⟩ ?_
  rw [← ekk, ← ekl]
  obtain ⟨C2, eC2⟩ : ∃ C2 : Nat → Option va_E, C2 = va_up (zC cy ad1 (z0 K LV) (fun _ => none)) 1000 (some (.inr (2, [.int 0, .int 0, .null, .null, .null, .null, .null, .int 0, .null, .null, .null, .null, .null, .int 0]))) := ⟨_, rfl⟩
  rw [← eC2] at hP
  obtain ⟨ad2, ead2⟩ : ∃ ad2 : Nat → Nat, ad2 = va_up ad1 1000 q1 := ⟨_, rfl⟩
  rw [← ead2] at hP
  have eq1 : q1 = ad2 1000 := by rw [ead2, va_up_self]
  rw [eq1]
  refine rwI (n := 2) (As := [.int kk, .int kl]) (rest := [.ref (ad2 1000)]) ⟨hx, hb, hml, hown, hts⟩ (kX2_init l D cy s.heap.size ad2 C2 (by rw [eC2, va_up_self]) (fun r h1 => by rw [eC2, va_up_ne _ _ (by omega)]; exact zC_hi hk2 (by show 100 + 0 ≤ r; omega)) kk kl) mlL_20 imX2_init inX2 cdX2_init rfl (by decide +kernel) rfl rfl ⟨Nat.le_of_ble_eq_true rfl, Nat.le_of_ble_eq_true rfl⟩ hK hP (hS.1) hS rfl hl.1 rfl (Nat.le_of_ble_eq_true rfl) dL_law_32 ⟨Nat.le_of_ble_eq_true rfl, Nat.le_of_ble_eq_true rfl⟩ (fun u H locs hp hP hz1 hS => ?_)
  obtain ⟨ad3, CC3⟩ := u
  obtain ⟨eCC3, eb⟩ := hp
  have eCC3 : CC3 = yC cy ad3 (z0 (clampN kk 20) (clampN kl 9)) (fun _ => 0) (fun _ => -1) (fun _ => 0) (fun r => if r < 1000 then C2 r else none) := eCC3
  have eb : ∀ r, r ≤ 1000 → ad3 r = ad2 r := eb
  rw [eK, eLV] at eCC3
  have e30 : ad3 0 = ad1 0 := by rw [eb 0 (by decide), ead2, va_up_ne _ _ (by decide)]
  have hP : mh D vwCl s.heap.size ad3 (zC cy ad3 (z0 K LV) (yC cy ad3 (z0 K LV) (fun _ => 0) (fun _ => -1) (fun _ => 0) (fun _ => none))) H := mh_eq hP (fun r => by
    show _ = CC3 r
    rw [eCC3, ← zy_swap (z := z0 K LV) hk2 (by show 0 ≤ 200; decide)]
    refine yC_G ?_
    show _ = if r < 1000 then C2 r else none
    split
    · rename_i hr
      rw [eC2, va_up_ne _ _ (by omega)]
      refine zC_ad hk2 (fun t k h => by cases h) (fun k h => absurd h (Nat.not_lt_zero _)) (fun r hr => ?_) r
      have hr : r < 100 + 0 := hr
      rw [eb r (by omega), ead2, va_up_ne _ _ (by omega)]
    · rename_i hr
      exact zC_hi hk2 (by show 100 + 0 ≤ r; omega))
  rw [← eb 1000 (Nat.le_refl _)]
  rw [← e30] at hl
  refine lv_astore_n (lv' := [(2, .ref (ad3 1000)), (1, .ref (ad3 0)), (0, .ref b)]) hx hb dL_law_35 rfl hl (by decide) rfl (fun ls hl => ?_)
  refine lv_iconst (v := 2) hx hb dL_law_36 (by decide) ?_
  refine lv_istore_n (lv' := [(3, .int (nI 2)), (2, .ref (ad3 1000)), (1, .ref (ad3 0)), (0, .ref b)]) hx hb dL_law_37 rfl hl (by decide) rfl (fun ls hl => ?_)
  refine W.widen (k := 100 + 2) (n := 6000 + 5 * 2) (by omega) (by omega) ?_
  exact hloop ad3 (z0 K LV) (fun _ => []) (fun _ => 0) (fun _ => -1) (fun _ => 0) H locs (iv_0 hk1 hk2 hl1 hl2) hP hS.1 hS ls (lv_sub hl [3, 2, 1, 0] rfl)
