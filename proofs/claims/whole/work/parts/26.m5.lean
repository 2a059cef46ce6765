section YU
variable {cy : Nat → ClassId} {ad : Nat → Nat} {z : zS} {et : Nat → Nat} {mn : Nat → Int32} {gm : Nat → Nat} {G : Nat → Option va_E}
theorem yC_mn {mn' : Nat → Int32} (r : Nat) : yC cy ad z et mn' gm G r = va_up (yC cy ad z et mn gm G) 1001 (some (.inl (cy 0, 400, .inl mn'))) r := by
  by_cases h : r = 1001
  · subst h
    rw [va_up_self]
    rfl
  · rw [va_up_ne _ _ h]
    unfold yC
    rw [if_neg h, if_neg h]
theorem yC_uAl {i v : Nat} (r : Nat) : yC cy ad (uAl z i v) et mn gm G r = va_up (yC cy ad z et mn gm G) 1002 (some (.inl (cy 0, 20, .inl (upd (fun b => nI (zAl z b)) i (nI v))))) r := by
  by_cases h : r = 1002
  · subst h
    rw [va_up_self, fn_i]
    rfl
  · rw [va_up_ne _ _ h]
    unfold yC
    rw [if_neg h, if_neg h]
theorem yC_uLa {i st v : Nat} (hst : st < 2) (r : Nat) : yC cy ad (uLa z st i v) et mn gm G r = va_up (yC cy ad z et mn gm G) 1003 (some (.inl (cy 0, 20, .inl (upd (fun p => nI (zLa z (p % 2) (p / 2))) (2 * i + st) (nI v))))) r := by
  by_cases h : r = 1003
  · subst h
    rw [va_up_self, fn_i (f := fun p => zLa z (p % 2) (p / 2))]
    show some (Sum.inl (cy 0, 20, Sum.inl (fun p => nI (if p % 2 = st ∧ p / 2 = i then v else zLa z (p % 2) (p / 2))))) = _
    refine congrArg (fun f => some (Sum.inl (cy 0, 20, Sum.inl f))) (funext fun p => ?_)
    by_cases q : p = 2 * i + st
    · rw [if_pos q, if_pos (by omega)]
    · rw [if_neg q, if_neg (by omega)]
  · rw [va_up_ne _ _ h]
    unfold yC
    rw [if_neg h, if_neg h]
theorem yC_uCo {i v : Nat} (r : Nat) : yC cy ad (uCo z i v) et mn gm G r = va_up (yC cy ad z et mn gm G) 1004 (some (.inl (cy 1, 10, .inr (.inl (vp_updL (fun b => lN (zCo z b)) i (lN v)))))) r := by
  by_cases h : r = 1004
  · subst h
    rw [va_up_self, fn_l]
    rfl
  · rw [va_up_ne _ _ h]
    unfold yC
    rw [if_neg h, if_neg h]
theorem yC_gm {g : Nat → Nat} (r : Nat) : yC cy ad z et mn g G r = va_up (yC cy ad z et mn gm G) 1005 (some (.inl (cy 0, 32, .inl (fun b => nI (g b))))) r := by
  by_cases h : r = 1005
  · subst h
    rw [va_up_self]
    rfl
  · rw [va_up_ne _ _ h]
    unfold yC
    rw [if_neg h, if_neg h]
theorem yC_uT {n : Nat} (r : Nat) : yC cy ad (uT z n) et mn gm G r = va_up (yC cy ad z et mn gm G) 1000 (some (.inr (2, [.int (nI (zK z)), .int (nI (zL z)), .ref (ad 1001), .ref (ad 1002), .ref (ad 1003), .ref (ad 1004), .ref (ad 1005), .int (nI n), .ref (ad 1006), .ref (ad 1007), .ref (ad 1008), .ref (ad 1009), .ref (ad 1010), .int (nI (zE z))]))) r := by
  by_cases h : r = 1000
  · subst h
    rw [va_up_self]
    rfl
  · rw [va_up_ne _ _ h]
    unfold yC
    rw [if_neg h, if_neg h]
theorem yC_add {kk : Int32} {t lv j la : Nat} (r : Nat) : yC cy ad (uE (uVs z (zE z) (kk, lv, j, la, none)) (zE z + 1)) (fun k => if k = zE z then t else et k) mn gm G r =
    va_up (va_up (va_up (va_up (va_up (va_up (yC cy ad z et mn gm G) 1006 (some (.inl (cy 0, 200, .inl (upd (fun k => nI (et k)) (zE z) (nI t)))))) 1008 (some (.inl (cy 0, 200, .inl (upd (fun k => ei (zVs z k)) (zE z) kk))))) 1009 (some (.inl (cy 0, 200, .inl (upd (fun k => nI (el (zVs z k))) (zE z) (nI lv)))))) 1007 (some (.inl (cy 1, 200, .inr (.inl (vp_updL (fun k => lN (eh (zVs z k))) (zE z) (lN j))))))) 1010 (some (.inl (cy 2, 200, .inl (upd (fun k => nI (ea (zVs z k))) (zE z) (nI la)))))) 1000 (some (.inr (2, [.int (nI (zK z)), .int (nI (zL z)), .ref (ad 1001), .ref (ad 1002), .ref (ad 1003), .ref (ad 1004), .ref (ad 1005), .int (nI (zT z)), .ref (ad 1006), .ref (ad 1007), .ref (ad 1008), .ref (ad 1009), .ref (ad 1010), .int (nI (zE z + 1))]))) r := by
  by_cases h0 : r = 1000
  · subst h0
    rw [va_up_self]
    rfl
  rw [va_up_ne _ _ h0]
  by_cases h1 : r = 1010
  · subst h1
    rw [va_up_self]
    refine congrArg (fun f => some (Sum.inl (cy 2, 200, Sum.inl f))) (funext fun k => ?_)
    show nI (ea (if k = zE z then (kk, lv, j, la, none) else zVs z k)) = if k = zE z then nI la else nI (ea (zVs z k))
    split <;> rfl
  rw [va_up_ne _ _ h1]
  by_cases h2 : r = 1007
  · subst h2
    rw [va_up_self]
    refine congrArg (fun f => some (Sum.inl (cy 1, 200, Sum.inr (Sum.inl f)))) (funext fun k => ?_)
    show lN (eh (if k = zE z then (kk, lv, j, la, none) else zVs z k)) = if k = zE z then lN j else lN (eh (zVs z k))
    split <;> rfl
  rw [va_up_ne _ _ h2]
  by_cases h3 : r = 1009
  · subst h3
    rw [va_up_self]
    refine congrArg (fun f => some (Sum.inl (cy 0, 200, Sum.inl f))) (funext fun k => ?_)
    show nI (el (if k = zE z then (kk, lv, j, la, none) else zVs z k)) = if k = zE z then nI lv else nI (el (zVs z k))
    split <;> rfl
  rw [va_up_ne _ _ h3]
  by_cases h4 : r = 1008
  · subst h4
    rw [va_up_self]
    refine congrArg (fun f => some (Sum.inl (cy 0, 200, Sum.inl f))) (funext fun k => ?_)
    show ei (if k = zE z then (kk, lv, j, la, none) else zVs z k) = if k = zE z then kk else ei (zVs z k)
    split <;> rfl
  rw [va_up_ne _ _ h4]
  by_cases h5 : r = 1006
  · subst h5
    rw [va_up_self]
    refine congrArg (fun f => some (Sum.inl (cy 0, 200, Sum.inl f))) (funext fun k => ?_)
    show nI (if k = zE z then t else et k) = if k = zE z then nI t else nI (et k)
    split <;> rfl
  rw [va_up_ne _ _ h5]
  unfold yC
  simp only [if_neg h0, if_neg h1, if_neg h2, if_neg h3, if_neg h4, if_neg h5]
end YU
theorem bh_nx {z : zS} {ch : Nat → List Nat} {et : Nat → Nat} {mn : Nat → Int32} {gm : Nat → Nat} (hy : yOk z ch et mn gm) {t j : Nat} (ht : t < zT z) : (∀ k, k < zE z → (et k ≠ t ∨ ((1 : Int32) = 0 ∧ ea (zVs z k) ≠ 0) ∨ eh (zVs z k) ≤ j)) ↔ zNx z ch t j := by
  obtain ⟨h1, h2⟩ := hy.2.2.2.2 t ht
  constructor
  · intro q k ks hk
    have hm := (h1 k).mp (by rw [hk]; exact List.mem_cons_self)
    rcases q k hm.1 with r | r | r
    · exact absurd hm.2 r
    · exact absurd r.1 (by decide)
    · exact r
  · intro q k hk
    by_cases e : et k = t
    · refine Or.inr (Or.inr ?_)
      have hm := (h1 k).mpr ⟨hk, e⟩
      cases hc : ch t with
      | nil => rw [hc] at hm; exact absurd hm List.not_mem_nil
      | cons a l =>
        have ha := q a l hc
        rw [hc] at hm h2
        rcases List.mem_cons.mp hm with r | r
        · rw [r]; exact ha
        · have := (List.pairwise_cons.mp h2).1 k r
          omega
    · exact Or.inl e
theorem zLH_all {z : zS} {o : Nat} : ∀ (l : List Nat), l.Pairwise (zAfter z) → (zLH z l ≤ o ↔ ∀ k, k ∈ l → (ea (zVs z k) ≠ 0 ∨ eh (zVs z k) ≤ o))
  | [], _ => ⟨fun _ k hk => absurd hk List.not_mem_nil, fun _ => Nat.zero_le _⟩
  | k :: ks, hp => by
    obtain ⟨h1, h2⟩ := List.pairwise_cons.mp hp
    by_cases c : ea (zVs z k) = 0
    · rw [zLH_y c]
      refine ⟨fun q x hx => ?_, fun q => ?_⟩
      · rcases List.mem_cons.mp hx with r | r
        · rw [r]; exact Or.inr q
        · have := h1 x r
          unfold zAfter at this
          exact Or.inr (by omega)
      · rcases q k List.mem_cons_self with r | r
        · exact absurd c r
        · exact r
    · rw [zLH_n c, zLH_all ks h2]
      refine ⟨fun q x hx => ?_, fun q x hx => q x (List.mem_cons_of_mem _ hx)⟩
      rcases List.mem_cons.mp hx with r | r
      · rw [r]; exact Or.inl c
      · exact q x r
theorem bh_lh {z : zS} {ch : Nat → List Nat} {et : Nat → Nat} {mn : Nat → Int32} {gm : Nat → Nat} (hy : yOk z ch et mn gm) {t o : Nat} (ht : t < zT z) : (∀ k, k < zE z → (et k ≠ t ∨ ((0 : Int32) = 0 ∧ ea (zVs z k) ≠ 0) ∨ eh (zVs z k) ≤ o)) ↔ zLH z (ch t) ≤ o := by
  obtain ⟨h1, h2⟩ := hy.2.2.2.2 t ht
  rw [zLH_all (ch t) h2]
  constructor
  · intro q k hk
    have hm := (h1 k).mp hk
    rcases q k hm.1 with r | r | r
    · exact absurd hm.2 r
    · exact Or.inl r.2
    · exact Or.inr r
  · intro q k hk
    by_cases e : et k = t
    · rcases q k ((h1 k).mpr ⟨hk, e⟩) with r | r
      · exact Or.inr (Or.inl ⟨rfl, r⟩)
      · exact Or.inr (Or.inr r)
    · exact Or.inl e
set_option maxHeartbeats 4000000 in
set_option maxRecDepth 100000 in
/-- need -/
theorem kX2_need (l : Launch) (D : va_G) (cy : Nat → ClassId) (lo : Nat) (ad : Nat → Nat) (z : zS) (et : Nat → Nat) (mn : Nat → Int32) (gm : Nat → Nat) (G : Nat → Option va_E) (ch : Nat → List Nat) (hok : zOk z ch) (hy : yOk z ch et mn gm) (kf kt kl : Int32) : Met l yX2_need wX2_need { frames := 1, cells := 0, slots := 0, locals := 21 } (pcs D cy lo ad (yC cy ad z et mn gm G) [.ref (ad 1000), .int kf, .int kt, .int kl]) (qwi D lo (fun r u => (r = 1 ∧ ∃ i j v, i < zK z ∧ j < zK z ∧ v ≤ zL z ∧ kf = nI i ∧ kt = nI j ∧ kl = nI v ∧ u = (ad, yC cy ad z et (upd mn (i * 20 + j) (nI v)) gm G)) ∨ (r = 0 ∧ ¬ (isIn kf (zK z) ∧ isIn kt (zK z) ∧ isIn kl (zL z + 1)) ∧ u = (ad, yC cy ad z et mn gm G)))) 0 0 (fun q => lo ≤ q) := by
  refine Met.ofW (cc := cX2_need) (maxL := 4) (ret := (some .boolean)) (by decide) rfl ?_
  intro p e s m args below meth c s₁ B hml hv
  obtain ⟨rfl, hz, hP, hK⟩ := hv
  have hx := B.exec
  have hb := B.bytes
  have hr := B.returns
  have hts : ∀ w ∈ wA, w.before [.ref (ad 1000), .int kf, .int kt, .int kl].toArray s = true := fun w h => atoms_spec (ws := wX2_need) B.pre w (List.mem_cons_of_mem _ h)
  have hown : s.vm.findClass RX2 = some m.cls := findClass_of_methodNamed B.named
  have hlocks := B.notSynchronized
  have hS : va_S (fun q => lo ≤ q) s.heap s.heap [] := va_S.rf
  have hl := lv_entry ([.ref (ad 1000), .int kf, .int kt, .int kl]) (n := 4) (Nat.le_of_ble_eq_true rfl)
  rw [lg_entry_eq]
  generalize (lg_sl ([.ref (ad 1000), .int kf, .int kt, .int kl]) ++ List.replicate (4 - (lg_sl ([.ref (ad 1000), .int kf, .int kt, .int kl])).length) Slot.unset).toArray = ls at hl ⊢
  have hl : lv_has ls 4 [(0, .ref (ad 1000)), (1, .int kf), (2, .int kt), (3, .int kl)] := hl
  obtain ⟨Q, hQ⟩ : ∃ Q, Q = MQ below (qwi D lo (fun r u => (r = 1 ∧ ∃ i j v, i < zK z ∧ j < zK z ∧ v ≤ zL z ∧ kf = nI i ∧ kt = nI j ∧ kl = nI v ∧ u = (ad, yC cy ad z et (upd mn (i * 20 + j) (nI v)) gm G)) ∨ (r = 0 ∧ ¬ (isIn kf (zK z) ∧ isIn kt (zK z) ∧ isIn kl (zL z + 1)) ∧ u = (ad, yC cy ad z et mn gm G)))) [.ref (ad 1000), .int kf, .int kt, .int kl].toArray s 0 0 (fun q => lo ≤ q) := ⟨_, rfl⟩
  rw [← hQ]
  obtain ⟨hK1, hK20, hL1, hL9, hT32, hE200, hnd, hal, hla, hco, hgr, hch, hlt0, hev, hbf⟩ := id hok
  obtain ⟨hmn, hgm, hgg, het, hcc⟩ := id hy
  refine lv_aload_n hx hb dX2_need_0 rfl (lv_at hl 0 rfl) ?_
  refine lv_iload_n hx hb dX2_need_1 rfl (lv_at hl 1 rfl) ?_
  refine rcV (n := 1) (As := [.int kf]) (rest := []) ⟨hx, hb, hml, hown, hts⟩ (kX2_isKind l D cy lo ad z et mn gm G kf ⟨hK20, hL9, hT32⟩) mlX2_54 imX2_isKind seX2_isKind inX2 cdX2_isKind (by decide +kernel) rfl rfl ⟨Nat.le_of_ble_eq_true rfl, Nat.le_of_ble_eq_true rfl⟩ hK hP hz rfl rfl rfl hl.1 rfl (Nat.le_of_ble_eq_true rfl) dX2_need_2 ⟨Nat.zero_le _, Nat.zero_le _⟩ (fun r2 hr2 => ?_)
  refine lv_if_eq (tgt := 28) hx hb dX2_need_5 (by decide) (fun c5 => ?_) (fun c5 => ?_)
  · skip
    have hno : ¬ (isIn kf (zK z) ∧ isIn kt (zK z) ∧ isIn kl (zL z + 1)) := fun q => sb_0 hr2 c5 q.1
    refine lv_iconst (v := 0) hx hb dX2_need_28 (by decide) ?_
    rw [hQ]
    exact W.zret (v := 0) hx hb hr (by decide) (fun t9 ht9 _ => ⟨⟨_, (ad, yC cy ad z et mn gm G), rfl, Or.inr ⟨rfl, hno, rfl⟩, mh_hp ht9 (hP)⟩, hS.F ht9⟩) hS.2.2 dX2_need_29
  · skip
    have hA := sb_1 hr2 c5
    refine lv_aload_n hx hb dX2_need_8 rfl (lv_at hl 0 rfl) ?_
    refine lv_iload_n hx hb dX2_need_9 rfl (lv_at hl 2 rfl) ?_
    refine rcV (n := 1) (As := [.int kt]) (rest := []) ⟨hx, hb, hml, hown, hts⟩ (kX2_isKind l D cy lo ad z et mn gm G kt ⟨hK20, hL9, hT32⟩) mlX2_54 imX2_isKind seX2_isKind inX2 cdX2_isKind (by decide +kernel) rfl rfl ⟨Nat.le_of_ble_eq_true rfl, Nat.le_of_ble_eq_true rfl⟩ hK hP hz rfl rfl rfl hl.1 rfl (Nat.le_of_ble_eq_true rfl) dX2_need_10 ⟨Nat.zero_le _, Nat.zero_le _⟩ (fun r10 hr10 => ?_)
    refine lv_if_eq (tgt := 28) hx hb dX2_need_13 (by decide) (fun c13 => ?_) (fun c13 => ?_)
    · skip
      have hno : ¬ (isIn kf (zK z) ∧ isIn kt (zK z) ∧ isIn kl (zL z + 1)) := fun q => sb_0 hr10 c13 q.2.1
      refine lv_iconst (v := 0) hx hb dX2_need_28 (by decide) ?_
      rw [hQ]
      exact W.zret (v := 0) hx hb hr (by decide) (fun t9 ht9 _ => ⟨⟨_, (ad, yC cy ad z et mn gm G), rfl, Or.inr ⟨rfl, hno, rfl⟩, mh_hp ht9 (hP)⟩, hS.F ht9⟩) hS.2.2 dX2_need_29
    · skip
      have hB := sb_1 hr10 c13
      refine lv_iload_n hx hb dX2_need_16 rfl (lv_at hl 3 rfl) ?_
      refine lv_if_eq (tgt := 30) hx hb dX2_need_17 (by decide) (fun c17 => ?_) (fun c17 => ?_)
      · skip
        have hV : isIn kl (zL z + 1) := ⟨0, by omega, c17⟩
        obtain ⟨v, hv, rfl⟩ := hV
        obtain ⟨i, hi, rfl⟩ := hA
        obtain ⟨j, hj, rfl⟩ := hB
        refine lv_aload_n hx hb dX2_need_30 rfl (lv_at hl 0 rfl) ?_
        refine mh_get (ci := 2) (v := .ref (ad 1001)) hx hb hts wfX2 hown hK.1 hP 1000 rfl rfl 2 (by decide) (hts _ flX2_9) (fun _ h9 => h9) rfl dX2_need_31 ?_
        refine lv_iload_n hx hb dX2_need_34 rfl (lv_at hl 1 rfl) ?_
        refine lv_bipush (v := 20) hx hb dX2_need_35 (by decide) ?_
        refine lv_imul hx hb dX2_need_37 ?_
        rw [show nI i * (20 : Int32) = nI (i * 20) from pk_mul i 20]
        refine lv_iload_n hx hb dX2_need_38 rfl (lv_at hl 2 rfl) ?_
        refine lv_iadd hx hb dX2_need_39 ?_
        rw [nI_add]
        refine lv_iload_n hx hb dX2_need_40 rfl (lv_at hl 3 rfl) ?_
        refine mh_iasn (i := (i * 20 + j)) hx hb hK.1 hP hS 1001 0 rfl rfl (by omega) (by decide) dX2_need_41 (fun H locs hP hS => ?_)
        refine lv_iconst (v := 1) hx hb dX2_need_42 (by decide) ?_
        rw [hQ]
        exact W.zret (v := 1) hx hb hr (by decide) (fun t9 ht9 _ => ⟨⟨_, (ad, yC cy ad z et (upd mn (i * 20 + j) (nI v)) gm G), rfl, Or.inl ⟨rfl, i, j, v, hi, hj, by omega, rfl, rfl, rfl, rfl⟩, mh_hp ht9 (mh_eq hP yC_mn)⟩, hS.F ht9⟩) hS.2.2 dX2_need_43
      · skip
        refine lv_aload_n hx hb dX2_need_20 rfl (lv_at hl 0 rfl) ?_
        refine lv_iload_n hx hb dX2_need_21 rfl (lv_at hl 3 rfl) ?_
        refine rcV (n := 1) (As := [.int kl]) (rest := []) ⟨hx, hb, hml, hown, hts⟩ (kX2_isLevel l D cy lo ad z et mn gm G kl ⟨hK20, hL9, hT32⟩) mlX2_58 imX2_isLevel seX2_isLevel inX2 cdX2_isLevel (by decide +kernel) rfl rfl ⟨Nat.le_of_ble_eq_true rfl, Nat.le_of_ble_eq_true rfl⟩ hK hP hz rfl rfl rfl hl.1 rfl (Nat.le_of_ble_eq_true rfl) dX2_need_22 ⟨Nat.zero_le _, Nat.zero_le _⟩ (fun r22 hr22 => ?_)
        refine lv_if_ne (tgt := 30) hx hb dX2_need_25 (by decide) (fun c25 => ?_) (fun c25 => ?_)
        · skip
          have hV : isIn kl (zL z + 1) := by
            obtain ⟨v, v1, v2, v3⟩ := sb_1 hr22 c25
            exact ⟨v, by omega, v3⟩
          obtain ⟨v, hv, rfl⟩ := hV
          obtain ⟨i, hi, rfl⟩ := hA
          obtain ⟨j, hj, rfl⟩ := hB
          refine lv_aload_n hx hb dX2_need_30 rfl (lv_at hl 0 rfl) ?_
          refine mh_get (ci := 2) (v := .ref (ad 1001)) hx hb hts wfX2 hown hK.1 hP 1000 rfl rfl 2 (by decide) (hts _ flX2_9) (fun _ h9 => h9) rfl dX2_need_31 ?_
          refine lv_iload_n hx hb dX2_need_34 rfl (lv_at hl 1 rfl) ?_
          refine lv_bipush (v := 20) hx hb dX2_need_35 (by decide) ?_
          refine lv_imul hx hb dX2_need_37 ?_
          rw [show nI i * (20 : Int32) = nI (i * 20) from pk_mul i 20]
          refine lv_iload_n hx hb dX2_need_38 rfl (lv_at hl 2 rfl) ?_
          refine lv_iadd hx hb dX2_need_39 ?_
          rw [nI_add]
          refine lv_iload_n hx hb dX2_need_40 rfl (lv_at hl 3 rfl) ?_
          refine mh_iasn (i := (i * 20 + j)) hx hb hK.1 hP hS 1001 0 rfl rfl (by omega) (by decide) dX2_need_41 (fun H locs hP hS => ?_)
          refine lv_iconst (v := 1) hx hb dX2_need_42 (by decide) ?_
          rw [hQ]
          exact W.zret (v := 1) hx hb hr (by decide) (fun t9 ht9 _ => ⟨⟨_, (ad, yC cy ad z et (upd mn (i * 20 + j) (nI v)) gm G), rfl, Or.inl ⟨rfl, i, j, v, hi, hj, by omega, rfl, rfl, rfl, rfl⟩, mh_hp ht9 (mh_eq hP yC_mn)⟩, hS.F ht9⟩) hS.2.2 dX2_need_43
        · skip
          have hno : ¬ (isIn kf (zK z) ∧ isIn kt (zK z) ∧ isIn kl (zL z + 1)) := fun q => by
            obtain ⟨v, v1, v2⟩ := q.2.2
            refine sb_0 hr22 c25 ⟨v, ?_, by omega, v2⟩
            rcases Nat.eq_zero_or_pos v with r | r
            · rw [r] at v2; exact absurd v2 c17
            · exact r
          refine lv_iconst (v := 0) hx hb dX2_need_28 (by decide) ?_
          rw [hQ]
          exact W.zret (v := 0) hx hb hr (by decide) (fun t9 ht9 _ => ⟨⟨_, (ad, yC cy ad z et mn gm G), rfl, Or.inr ⟨rfl, hno, rfl⟩, mh_hp ht9 (hP)⟩, hS.F ht9⟩) hS.2.2 dX2_need_29
set_option maxHeartbeats 4000000 in
set_option maxRecDepth 100000 in
/-- hours -/
theorem kX2_hours (l : Launch) (D : va_G) (cy : Nat → ClassId) (lo : Nat) (ad : Nat → Nat) (z : zS) (et : Nat → Nat) (mn : Nat → Int32) (gm : Nat → Nat) (G : Nat → Option va_E) (ch : Nat → List Nat) (hok : zOk z ch) (hy : yOk z ch et mn gm) (kl ks kh : Int32) : Met l yX2_hours wX2_hours { frames := 1, cells := 0, slots := 0, locals := 21 } (pcs D cy lo ad (yC cy ad z et mn gm G) [.ref (ad 1000), .int kl, .int ks, .int kh]) (qwi D lo (fun r u => (r = 1 ∧ ∃ i st v, 1 ≤ i ∧ i ≤ zL z ∧ st < 2 ∧ v ≤ 100000 ∧ kl = nI i ∧ ks = nI st ∧ kh = nI v ∧ u = (ad, yC cy ad (uLa z st i v) et mn gm G)) ∨ (r = 0 ∧ ¬ (isLv kl (zL z) ∧ isIn ks 2 ∧ isIn kh 100001) ∧ u = (ad, yC cy ad z et mn gm G)))) 0 0 (fun q => lo ≤ q) := by
  refine Met.ofW (cc := cX2_hours) (maxL := 4) (ret := (some .boolean)) (by decide) rfl ?_
  intro p e s m args below meth c s₁ B hml hv
  obtain ⟨rfl, hz, hP, hK⟩ := hv
  have hx := B.exec
  have hb := B.bytes
  have hr := B.returns
  have hts : ∀ w ∈ wA, w.before [.ref (ad 1000), .int kl, .int ks, .int kh].toArray s = true := fun w h => atoms_spec (ws := wX2_hours) B.pre w (List.mem_cons_of_mem _ h)
  have hown : s.vm.findClass RX2 = some m.cls := findClass_of_methodNamed B.named
  have hlocks := B.notSynchronized
  have hS : va_S (fun q => lo ≤ q) s.heap s.heap [] := va_S.rf
  have hl := lv_entry ([.ref (ad 1000), .int kl, .int ks, .int kh]) (n := 4) (Nat.le_of_ble_eq_true rfl)
  rw [lg_entry_eq]
  generalize (lg_sl ([.ref (ad 1000), .int kl, .int ks, .int kh]) ++ List.replicate (4 - (lg_sl ([.ref (ad 1000), .int kl, .int ks, .int kh])).length) Slot.unset).toArray = ls at hl ⊢
  have hl : lv_has ls 4 [(0, .ref (ad 1000)), (1, .int kl), (2, .int ks), (3, .int kh)] := hl
  obtain ⟨Q, hQ⟩ : ∃ Q, Q = MQ below (qwi D lo (fun r u => (r = 1 ∧ ∃ i st v, 1 ≤ i ∧ i ≤ zL z ∧ st < 2 ∧ v ≤ 100000 ∧ kl = nI i ∧ ks = nI st ∧ kh = nI v ∧ u = (ad, yC cy ad (uLa z st i v) et mn gm G)) ∨ (r = 0 ∧ ¬ (isLv kl (zL z) ∧ isIn ks 2 ∧ isIn kh 100001) ∧ u = (ad, yC cy ad z et mn gm G)))) [.ref (ad 1000), .int kl, .int ks, .int kh].toArray s 0 0 (fun q => lo ≤ q) := ⟨_, rfl⟩
  rw [← hQ]
  obtain ⟨hK1, hK20, hL1, hL9, hT32, hE200, hnd, hal, hla, hco, hgr, hch, hlt0, hev, hbf⟩ := id hok
  obtain ⟨hmn, hgm, hgg, het, hcc⟩ := id hy
  refine lv_aload_n hx hb dX2_hours_0 rfl (lv_at hl 0 rfl) ?_
  refine lv_iload_n hx hb dX2_hours_1 rfl (lv_at hl 1 rfl) ?_
  refine rcV (n := 1) (As := [.int kl]) (rest := []) ⟨hx, hb, hml, hown, hts⟩ (kX2_isLevel l D cy lo ad z et mn gm G kl ⟨hK20, hL9, hT32⟩) mlX2_58 imX2_isLevel seX2_isLevel inX2 cdX2_isLevel (by decide +kernel) rfl rfl ⟨Nat.le_of_ble_eq_true rfl, Nat.le_of_ble_eq_true rfl⟩ hK hP hz rfl rfl rfl hl.1 rfl (Nat.le_of_ble_eq_true rfl) dX2_hours_2 ⟨Nat.zero_le _, Nat.zero_le _⟩ (fun r2 hr2 => ?_)
  refine lv_if_eq (tgt := 27) hx hb dX2_hours_5 (by decide) (fun c5 => ?_) (fun c5 => ?_)
  · skip
    have hno : ¬ (isLv kl (zL z) ∧ isIn ks 2 ∧ isIn kh 100001) := fun q => sb_0 hr2 c5 q.1
    refine lv_iconst (v := 0) hx hb dX2_hours_27 (by decide) ?_
    rw [hQ]
    exact W.zret (v := 0) hx hb hr (by decide) (fun t9 ht9 _ => ⟨⟨_, (ad, yC cy ad z et mn gm G), rfl, Or.inr ⟨rfl, hno, rfl⟩, mh_hp ht9 (hP)⟩, hS.F ht9⟩) hS.2.2 dX2_hours_28
  · skip
    have hA := sb_1 hr2 c5
    refine lv_iload_n hx hb dX2_hours_8 rfl (lv_at hl 2 rfl) ?_
    refine lv_if_lt (tgt := 27) hx hb dX2_hours_9 (by decide) (fun c9 => ?_) (fun c9 => ?_)
    · skip
      have hno : ¬ (isLv kl (zL z) ∧ isIn ks 2 ∧ isIn kh 100001) := fun q => isIn_lt (by omega) c9 q.2.1
      refine lv_iconst (v := 0) hx hb dX2_hours_27 (by decide) ?_
      rw [hQ]
      exact W.zret (v := 0) hx hb hr (by decide) (fun t9 ht9 _ => ⟨⟨_, (ad, yC cy ad z et mn gm G), rfl, Or.inr ⟨rfl, hno, rfl⟩, mh_hp ht9 (hP)⟩, hS.F ht9⟩) hS.2.2 dX2_hours_28
    · skip
      refine lv_iload_n hx hb dX2_hours_12 rfl (lv_at hl 2 rfl) ?_
      refine lv_iconst (v := 1) hx hb dX2_hours_13 (by decide) ?_
      refine lv_icmp_gt (tgt := 27) hx hb dX2_hours_14 (by decide) (fun c14 => ?_) (fun c14 => ?_)
      · skip
        have hno : ¬ (isLv kl (zL z) ∧ isIn ks 2 ∧ isIn kh 100001) := fun q => by
          obtain ⟨v, v1, v2⟩ := q.2.1
          rw [v2] at c14
          exact nI_nlt (a := 1) (b := v) (by omega) (by omega) c14
        refine lv_iconst (v := 0) hx hb dX2_hours_27 (by decide) ?_
        rw [hQ]
        exact W.zret (v := 0) hx hb hr (by decide) (fun t9 ht9 _ => ⟨⟨_, (ad, yC cy ad z et mn gm G), rfl, Or.inr ⟨rfl, hno, rfl⟩, mh_hp ht9 (hP)⟩, hS.F ht9⟩) hS.2.2 dX2_hours_28
      · skip
        have hst : isIn ks 2 := isIn_le (n := 1) (by omega) c9 (Int32.not_lt.mp c14)
        refine lv_iload_n hx hb dX2_hours_17 rfl (lv_at hl 3 rfl) ?_
        refine lv_if_lt (tgt := 27) hx hb dX2_hours_18 (by decide) (fun c18 => ?_) (fun c18 => ?_)
        · skip
          have hno : ¬ (isLv kl (zL z) ∧ isIn ks 2 ∧ isIn kh 100001) := fun q => isIn_lt (by omega) c18 q.2.2
          refine lv_iconst (v := 0) hx hb dX2_hours_27 (by decide) ?_
          rw [hQ]
          exact W.zret (v := 0) hx hb hr (by decide) (fun t9 ht9 _ => ⟨⟨_, (ad, yC cy ad z et mn gm G), rfl, Or.inr ⟨rfl, hno, rfl⟩, mh_hp ht9 (hP)⟩, hS.F ht9⟩) hS.2.2 dX2_hours_28
        · skip
          refine lv_iload_n hx hb dX2_hours_21 rfl (lv_at hl 3 rfl) ?_
          refine lv_ldc (v := 100000) hx hb hown (hts _ ctX2_61) dX2_hours_22 ?_
          refine lv_icmp_le (tgt := 29) hx hb dX2_hours_24 (by decide) (fun c24 => ?_) (fun c24 => ?_)
          · skip
            obtain ⟨v, hv, rfl⟩ := isIn_le (n := 100000) (by omega) c18 c24
            obtain ⟨i, hi1, hi, rfl⟩ := hA
            obtain ⟨st, hst, rfl⟩ := hst
            refine lv_aload_n hx hb dX2_hours_29 rfl (lv_at hl 0 rfl) ?_
            refine mh_get (ci := 2) (v := .ref (ad 1003)) hx hb hts wfX2 hown hK.1 hP 1000 rfl rfl 4 (by decide) (hts _ flX2_16) (fun _ h9 => h9) rfl dX2_hours_30 ?_
            refine lv_iconst (v := 2) hx hb dX2_hours_33 (by decide) ?_
            refine lv_iload_n hx hb dX2_hours_34 rfl (lv_at hl 1 rfl) ?_
            refine lv_imul hx hb dX2_hours_35 ?_
            rw [show (2 : Int32) * nI i = nI (2 * i) from pk_mul 2 i]
            refine lv_iload_n hx hb dX2_hours_36 rfl (lv_at hl 2 rfl) ?_
            refine lv_iadd hx hb dX2_hours_37 ?_
            rw [nI_add]
            refine lv_iload_n hx hb dX2_hours_38 rfl (lv_at hl 3 rfl) ?_
            refine mh_iasn (i := (2 * i + st)) hx hb hK.1 hP hS 1003 0 rfl rfl (by omega) (by decide) dX2_hours_39 (fun H locs hP hS => ?_)
            refine lv_iconst (v := 1) hx hb dX2_hours_40 (by decide) ?_
            rw [hQ]
            exact W.zret (v := 1) hx hb hr (by decide) (fun t9 ht9 _ => ⟨⟨_, (ad, yC cy ad (uLa z st i v) et mn gm G), rfl, Or.inl ⟨rfl, i, st, v, hi1, hi, hst, by omega, rfl, rfl, rfl, rfl⟩, mh_hp ht9 (mh_eq hP (yC_uLa hst))⟩, hS.F ht9⟩) hS.2.2 dX2_hours_41
          · skip
            have hno : ¬ (isLv kl (zL z) ∧ isIn ks 2 ∧ isIn kh 100001) := fun q => isIn_nle (n := 100000) (by omega) c24 q.2.2
            refine lv_iconst (v := 0) hx hb dX2_hours_27 (by decide) ?_
            rw [hQ]
            exact W.zret (v := 0) hx hb hr (by decide) (fun t9 ht9 _ => ⟨⟨_, (ad, yC cy ad z et mn gm G), rfl, Or.inr ⟨rfl, hno, rfl⟩, mh_hp ht9 (hP)⟩, hS.F ht9⟩) hS.2.2 dX2_hours_28
set_option maxHeartbeats 4000000 in
set_option maxRecDepth 100000 in
/-- cost -/
theorem kX2_cost (l : Launch) (D : va_G) (cy : Nat → ClassId) (lo : Nat) (ad : Nat → Nat) (z : zS) (et : Nat → Nat) (mn : Nat → Int32) (gm : Nat → Nat) (G : Nat → Option va_E) (ch : Nat → List Nat) (hok : zOk z ch) (hy : yOk z ch et mn gm) (kl : Int32) (kc : Int64) : Met l yX2_cost wX2_cost { frames := 1, cells := 0, slots := 0, locals := 21 } (pcs D cy lo ad (yC cy ad z et mn gm G) [.ref (ad 1000), .int kl, .long kc]) (qwi D lo (fun r u => (r = 1 ∧ ∃ i v, 1 ≤ i ∧ i ≤ zL z ∧ v ≤ 1000000 ∧ kl = nI i ∧ kc = lN v ∧ u = (ad, yC cy ad (uCo z i v) et mn gm G)) ∨ (r = 0 ∧ ¬ (isLv kl (zL z) ∧ isHr kc) ∧ u = (ad, yC cy ad z et mn gm G)))) 0 0 (fun q => lo ≤ q) := by
  refine Met.ofW (cc := cX2_cost) (maxL := 4) (ret := (some .boolean)) (by decide) rfl ?_
  intro p e s m args below meth c s₁ B hml hv
  obtain ⟨rfl, hz, hP, hK⟩ := hv
  have hx := B.exec
  have hb := B.bytes
  have hr := B.returns
  have hts : ∀ w ∈ wA, w.before [.ref (ad 1000), .int kl, .long kc].toArray s = true := fun w h => atoms_spec (ws := wX2_cost) B.pre w (List.mem_cons_of_mem _ h)
  have hown : s.vm.findClass RX2 = some m.cls := findClass_of_methodNamed B.named
  have hlocks := B.notSynchronized
  have hS : va_S (fun q => lo ≤ q) s.heap s.heap [] := va_S.rf
  have hl := lv_entry ([.ref (ad 1000), .int kl, .long kc]) (n := 4) (Nat.le_of_ble_eq_true rfl)
  rw [lg_entry_eq]
  generalize (lg_sl ([.ref (ad 1000), .int kl, .long kc]) ++ List.replicate (4 - (lg_sl ([.ref (ad 1000), .int kl, .long kc])).length) Slot.unset).toArray = ls at hl ⊢
  have hl : lv_has ls 4 [(0, .ref (ad 1000)), (1, .int kl), (2, .long kc)] := hl
  obtain ⟨Q, hQ⟩ : ∃ Q, Q = MQ below (qwi D lo (fun r u => (r = 1 ∧ ∃ i v, 1 ≤ i ∧ i ≤ zL z ∧ v ≤ 1000000 ∧ kl = nI i ∧ kc = lN v ∧ u = (ad, yC cy ad (uCo z i v) et mn gm G)) ∨ (r = 0 ∧ ¬ (isLv kl (zL z) ∧ isHr kc) ∧ u = (ad, yC cy ad z et mn gm G)))) [.ref (ad 1000), .int kl, .long kc].toArray s 0 0 (fun q => lo ≤ q) := ⟨_, rfl⟩
  rw [← hQ]
  obtain ⟨hK1, hK20, hL1, hL9, hT32, hE200, hnd, hal, hla, hco, hgr, hch, hlt0, hev, hbf⟩ := id hok
  obtain ⟨hmn, hgm, hgg, het, hcc⟩ := id hy
  refine lv_aload_n hx hb dX2_cost_0 rfl (lv_at hl 0 rfl) ?_
  refine lv_iload_n hx hb dX2_cost_1 rfl (lv_at hl 1 rfl) ?_
  refine rcV (n := 1) (As := [.int kl]) (rest := []) ⟨hx, hb, hml, hown, hts⟩ (kX2_isLevel l D cy lo ad z et mn gm G kl ⟨hK20, hL9, hT32⟩) mlX2_58 imX2_isLevel seX2_isLevel inX2 cdX2_isLevel (by decide +kernel) rfl rfl ⟨Nat.le_of_ble_eq_true rfl, Nat.le_of_ble_eq_true rfl⟩ hK hP hz rfl rfl rfl hl.1 rfl (Nat.le_of_ble_eq_true rfl) dX2_cost_2 ⟨Nat.zero_le _, Nat.zero_le _⟩ (fun r2 hr2 => ?_)
  refine lv_if_eq (tgt := 22) hx hb dX2_cost_5 (by decide) (fun c5 => ?_) (fun c5 => ?_)
  · skip
    have hno : ¬ (isLv kl (zL z) ∧ isHr kc) := fun q => sb_0 hr2 c5 q.1
    refine lv_iconst (v := 0) hx hb dX2_cost_22 (by decide) ?_
    rw [hQ]
    exact W.zret (v := 0) hx hb hr (by decide) (fun t9 ht9 _ => ⟨⟨_, (ad, yC cy ad z et mn gm G), rfl, Or.inr ⟨rfl, hno, rfl⟩, mh_hp ht9 (hP)⟩, hS.F ht9⟩) hS.2.2 dX2_cost_23
  · skip
    have hA := sb_1 hr2 c5
    refine lv_lload_n hx hb dX2_cost_8 rfl (lv_at hl 2 rfl) ?_
    refine lv_lconst (v := 0) hx hb dX2_cost_9 (by decide) ?_
    refine W.lcmp hx hb dX2_cost_10 ?_
    refine lv_if_lt (tgt := 22) hx hb dX2_cost_11 (by decide) (fun c11 => ?_) (fun c11 => ?_)
    · skip
      have hno : ¬ (isLv kl (zL z) ∧ isHr kc) := fun q => isHr_lt ((lg_cmp_lt _ _).mp c11) q.2
      refine lv_iconst (v := 0) hx hb dX2_cost_22 (by decide) ?_
      rw [hQ]
      exact W.zret (v := 0) hx hb hr (by decide) (fun t9 ht9 _ => ⟨⟨_, (ad, yC cy ad z et mn gm G), rfl, Or.inr ⟨rfl, hno, rfl⟩, mh_hp ht9 (hP)⟩, hS.F ht9⟩) hS.2.2 dX2_cost_23
    · skip
      refine lv_lload_n hx hb dX2_cost_14 rfl (lv_at hl 2 rfl) ?_
      refine lv_ldc2 (v := 1000000) hx hb hown (hts _ ctX2_52) dX2_cost_15 ?_
      refine W.lcmp hx hb dX2_cost_18 ?_
      refine lv_if_le (tgt := 24) hx hb dX2_cost_19 (by decide) (fun c19 => ?_) (fun c19 => ?_)
      · skip
        obtain ⟨v, hv, rfl⟩ := isHr_cs c11 c19
        obtain ⟨i, hi1, hi, rfl⟩ := hA
        refine lv_aload_n hx hb dX2_cost_24 rfl (lv_at hl 0 rfl) ?_
        refine mh_get (ci := 2) (v := .ref (ad 1004)) hx hb hts wfX2 hown hK.1 hP 1000 rfl rfl 5 (by decide) (hts _ flX2_19) (fun _ h9 => h9) rfl dX2_cost_25 ?_
        refine lv_iload_n hx hb dX2_cost_28 rfl (lv_at hl 1 rfl) ?_
        refine lv_lload_n hx hb dX2_cost_29 rfl (lv_at hl 2 rfl) ?_
        refine mh_lasn (i := i) hx hb hK.1 hP hS 1004 1 rfl rfl (by omega) (by decide) dX2_cost_30 (fun H locs hP hS => ?_)
        refine lv_iconst (v := 1) hx hb dX2_cost_31 (by decide) ?_
        rw [hQ]
        exact W.zret (v := 1) hx hb hr (by decide) (fun t9 ht9 _ => ⟨⟨_, (ad, yC cy ad (uCo z i v) et mn gm G), rfl, Or.inl ⟨rfl, i, v, hi1, hi, hv, rfl, rfl, rfl⟩, mh_hp ht9 (mh_eq hP yC_uCo)⟩, hS.F ht9⟩) hS.2.2 dX2_cost_32
      · skip
        have hno : ¬ (isLv kl (zL z) ∧ isHr kc) := fun q => isHr_nle c19 q.2
        refine lv_iconst (v := 0) hx hb dX2_cost_22 (by decide) ?_
        rw [hQ]
        exact W.zret (v := 0) hx hb hr (by decide) (fun t9 ht9 _ => ⟨⟨_, (ad, yC cy ad z et mn gm G), rfl, Or.inr ⟨rfl, hno, rfl⟩, mh_hp ht9 (hP)⟩, hS.F ht9⟩) hS.2.2 dX2_cost_23
set_option maxHeartbeats 4000000 in
set_option maxRecDepth 100000 in
/-- allergen -/
theorem kX2_allergen (l : Launch) (D : va_G) (cy : Nat → ClassId) (lo : Nat) (ad : Nat → Nat) (z : zS) (et : Nat → Nat) (mn : Nat → Int32) (gm : Nat → Nat) (G : Nat → Option va_E) (ch : Nat → List Nat) (hok : zOk z ch) (hy : yOk z ch et mn gm) (kk kb : Int32) : Met l yX2_allergen wX2_allergen { frames := 1, cells := 0, slots := 0, locals := 21 } (pcs D cy lo ad (yC cy ad z et mn gm G) [.ref (ad 1000), .int kk, .int kb]) (qwi D lo (fun r u => (∃ i v, i < zK z ∧ v < 65536 ∧ kk = nI i ∧ kb = nI v ∧ r = nI (zAl z i) ∧ u = (ad, yC cy ad (uAl z i v) et mn gm G)) ∨ (r = -1 ∧ ¬ (isIn kk (zK z) ∧ isIn kb 65536) ∧ u = (ad, yC cy ad z et mn gm G)))) 0 0 (fun q => lo ≤ q) := by
  refine Met.ofW (cc := cX2_allergen) (maxL := 4) (ret := (some .int)) (by decide) rfl ?_
  intro p e s m args below meth c s₁ B hml hv
  obtain ⟨rfl, hz, hP, hK⟩ := hv
  have hx := B.exec
  have hb := B.bytes
  have hr := B.returns
  have hts : ∀ w ∈ wA, w.before [.ref (ad 1000), .int kk, .int kb].toArray s = true := fun w h => atoms_spec (ws := wX2_allergen) B.pre w (List.mem_cons_of_mem _ h)
  have hown : s.vm.findClass RX2 = some m.cls := findClass_of_methodNamed B.named
  have hlocks := B.notSynchronized
  have hS : va_S (fun q => lo ≤ q) s.heap s.heap [] := va_S.rf
  have hl := lv_entry ([.ref (ad 1000), .int kk, .int kb]) (n := 4) (Nat.le_of_ble_eq_true rfl)
  rw [lg_entry_eq]
  generalize (lg_sl ([.ref (ad 1000), .int kk, .int kb]) ++ List.replicate (4 - (lg_sl ([.ref (ad 1000), .int kk, .int kb])).length) Slot.unset).toArray = ls at hl ⊢
  have hl : lv_has ls 4 [(0, .ref (ad 1000)), (1, .int kk), (2, .int kb)] := hl
  obtain ⟨Q, hQ⟩ : ∃ Q, Q = MQ below (qwi D lo (fun r u => (∃ i v, i < zK z ∧ v < 65536 ∧ kk = nI i ∧ kb = nI v ∧ r = nI (zAl z i) ∧ u = (ad, yC cy ad (uAl z i v) et mn gm G)) ∨ (r = -1 ∧ ¬ (isIn kk (zK z) ∧ isIn kb 65536) ∧ u = (ad, yC cy ad z et mn gm G)))) [.ref (ad 1000), .int kk, .int kb].toArray s 0 0 (fun q => lo ≤ q) := ⟨_, rfl⟩
  rw [← hQ]
  obtain ⟨hK1, hK20, hL1, hL9, hT32, hE200, hnd, hal, hla, hco, hgr, hch, hlt0, hev, hbf⟩ := id hok
  obtain ⟨hmn, hgm, hgg, het, hcc⟩ := id hy
  refine lv_aload_n hx hb dX2_allergen_0 rfl (lv_at hl 0 rfl) ?_
  refine lv_iload_n hx hb dX2_allergen_1 rfl (lv_at hl 1 rfl) ?_
  refine rcV (n := 1) (As := [.int kk]) (rest := []) ⟨hx, hb, hml, hown, hts⟩ (kX2_isKind l D cy lo ad z et mn gm G kk ⟨hK20, hL9, hT32⟩) mlX2_54 imX2_isKind seX2_isKind inX2 cdX2_isKind (by decide +kernel) rfl rfl ⟨Nat.le_of_ble_eq_true rfl, Nat.le_of_ble_eq_true rfl⟩ hK hP hz rfl rfl rfl hl.1 rfl (Nat.le_of_ble_eq_true rfl) dX2_allergen_2 ⟨Nat.zero_le _, Nat.zero_le _⟩ (fun r2 hr2 => ?_)
  refine lv_if_eq (tgt := 18) hx hb dX2_allergen_5 (by decide) (fun c5 => ?_) (fun c5 => ?_)
  · skip
    have hno : ¬ (isIn kk (zK z) ∧ isIn kb 65536) := fun q => sb_0 hr2 c5 q.1
    refine lv_iconst (v := (-1)) hx hb dX2_allergen_18 (by decide) ?_
    rw [hQ]
    exact W.iret (v := (-1)) hx hb hr (fun t9 ht9 _ => ⟨⟨_, (ad, yC cy ad z et mn gm G), rfl, Or.inr ⟨rfl, hno, rfl⟩, mh_hp ht9 (hP)⟩, hS.F ht9⟩) hS.2.2 dX2_allergen_19
  · skip
    have hA := sb_1 hr2 c5
    refine lv_iload_n hx hb dX2_allergen_8 rfl (lv_at hl 2 rfl) ?_
    refine lv_if_lt (tgt := 18) hx hb dX2_allergen_9 (by decide) (fun c9 => ?_) (fun c9 => ?_)
    · skip
      have hno : ¬ (isIn kk (zK z) ∧ isIn kb 65536) := fun q => isIn_lt (by omega) c9 q.2
      refine lv_iconst (v := (-1)) hx hb dX2_allergen_18 (by decide) ?_
      rw [hQ]
      exact W.iret (v := (-1)) hx hb hr (fun t9 ht9 _ => ⟨⟨_, (ad, yC cy ad z et mn gm G), rfl, Or.inr ⟨rfl, hno, rfl⟩, mh_hp ht9 (hP)⟩, hS.F ht9⟩) hS.2.2 dX2_allergen_19
    · skip
      refine lv_iload_n hx hb dX2_allergen_12 rfl (lv_at hl 2 rfl) ?_
      refine lv_ldc (v := 65535) hx hb hown (hts _ ctX2_62) dX2_allergen_13 ?_
      refine lv_icmp_le (tgt := 20) hx hb dX2_allergen_15 (by decide) (fun c15 => ?_) (fun c15 => ?_)
      · skip
        obtain ⟨v, hv, rfl⟩ := isIn_le (n := 65535) (by omega) c9 c15
        obtain ⟨i, hi, rfl⟩ := hA
        refine lv_aload_n hx hb dX2_allergen_20 rfl (lv_at hl 0 rfl) ?_
        refine mh_get (ci := 2) (v := .ref (ad 1002)) hx hb hts wfX2 hown hK.1 hP 1000 rfl rfl 3 (by decide) (hts _ flX2_13) (fun _ h9 => h9) rfl dX2_allergen_21 ?_
        refine lv_iload_n hx hb dX2_allergen_24 rfl (lv_at hl 1 rfl) ?_
        refine mh_ialn (i := i) (v := nI (zAl z i)) hx hb hK.1 hP 1002 0 rfl rfl (by omega) (by decide) dX2_allergen_25 rfl ?_
        refine lv_istore_n (lv' := [(3, .int (nI (zAl z i))), (0, .ref (ad 1000)), (1, .int (nI i)), (2, .int (nI v))]) hx hb dX2_allergen_26 rfl hl (by decide) rfl (fun ls hl => ?_)
        refine lv_aload_n hx hb dX2_allergen_27 rfl (lv_at hl 1 rfl) ?_
        refine mh_get (ci := 2) (v := .ref (ad 1002)) hx hb hts wfX2 hown hK.1 hP 1000 rfl rfl 3 (by decide) (hts _ flX2_13) (fun _ h9 => h9) rfl dX2_allergen_28 ?_
        refine lv_iload_n hx hb dX2_allergen_31 rfl (lv_at hl 2 rfl) ?_
        refine lv_iload_n hx hb dX2_allergen_32 rfl (lv_at hl 3 rfl) ?_
        refine mh_iasn (i := i) hx hb hK.1 hP hS 1002 0 rfl rfl (by omega) (by decide) dX2_allergen_33 (fun H locs hP hS => ?_)
        refine lv_iload_n hx hb dX2_allergen_34 rfl (lv_at hl 0 rfl) ?_
        rw [hQ]
        exact W.iret (v := nI (zAl z i)) hx hb hr (fun t9 ht9 _ => ⟨⟨_, (ad, yC cy ad (uAl z i v) et mn gm G), rfl, Or.inl ⟨i, v, hi, hv, rfl, rfl, rfl, rfl⟩, mh_hp ht9 (mh_eq hP yC_uAl)⟩, hS.F ht9⟩) hS.2.2 dX2_allergen_35
      · skip
        have hno : ¬ (isIn kk (zK z) ∧ isIn kb 65536) := fun q => isIn_nle (n := 65535) (by omega) c15 q.2
        refine lv_iconst (v := (-1)) hx hb dX2_allergen_18 (by decide) ?_
        rw [hQ]
        exact W.iret (v := (-1)) hx hb hr (fun t9 ht9 _ => ⟨⟨_, (ad, yC cy ad z et mn gm G), rfl, Or.inr ⟨rfl, hno, rfl⟩, mh_hp ht9 (hP)⟩, hS.F ht9⟩) hS.2.2 dX2_allergen_19
set_option maxHeartbeats 4000000 in
set_option maxRecDepth 100000 in
/-- thing -/
theorem kX2_thing (l : Launch) (D : va_G) (cy : Nat → ClassId) (lo : Nat) (ad : Nat → Nat) (z : zS) (et : Nat → Nat) (mn : Nat → Int32) (gm : Nat → Nat) (G : Nat → Option va_E) (ch : Nat → List Nat) (hok : zOk z ch) (hy : yOk z ch et mn gm) : Met l yX2_thing wX2_thing { frames := 0, cells := 0, slots := 0, locals := 0 } (pcs D cy lo ad (yC cy ad z et mn gm G) [.ref (ad 1000)]) (qwi D lo (fun r u => (zT z < 32 ∧ r = nI (zT z) ∧ u = (ad, yC cy ad (uT z (zT z + 1)) et mn (fun a => if a = zT z then zT z else gm a) G)) ∨ (zT z = 32 ∧ r = -2 ∧ u = (ad, yC cy ad z et mn gm G)))) 0 0 (fun q => lo ≤ q) := by
  refine Met.ofW (cc := cX2_thing) (maxL := 1) (ret := (some .int)) (by decide) rfl ?_
  intro p e s m args below meth c s₁ B hml hv
  obtain ⟨rfl, hz, hP, hK⟩ := hv
  have hx := B.exec
  have hb := B.bytes
  have hr := B.returns
  have hts : ∀ w ∈ wA, w.before [.ref (ad 1000)].toArray s = true := fun w h => atoms_spec (ws := wX2_thing) B.pre w (List.mem_cons_of_mem _ h)
  have hown : s.vm.findClass RX2 = some m.cls := findClass_of_methodNamed B.named
  have hlocks := B.notSynchronized
  have hS : va_S (fun q => lo ≤ q) s.heap s.heap [] := va_S.rf
  have hl := lv_entry ([.ref (ad 1000)]) (n := 1) (Nat.le_of_ble_eq_true rfl)
  rw [lg_entry_eq]
  generalize (lg_sl ([.ref (ad 1000)]) ++ List.replicate (1 - (lg_sl ([.ref (ad 1000)])).length) Slot.unset).toArray = ls at hl ⊢
  have hl : lv_has ls 1 [(0, .ref (ad 1000))] := hl
  obtain ⟨Q, hQ⟩ : ∃ Q, Q = MQ below (qwi D lo (fun r u => (zT z < 32 ∧ r = nI (zT z) ∧ u = (ad, yC cy ad (uT z (zT z + 1)) et mn (fun a => if a = zT z then zT z else gm a) G)) ∨ (zT z = 32 ∧ r = -2 ∧ u = (ad, yC cy ad z et mn gm G)))) [.ref (ad 1000)].toArray s 0 0 (fun q => lo ≤ q) := ⟨_, rfl⟩
  rw [← hQ]
  obtain ⟨hK1, hK20, hL1, hL9, hT32, hE200, hnd, hal, hla, hco, hgr, hch, hlt0, hev, hbf⟩ := id hok
  obtain ⟨hmn, hgm, hgg, het, hcc⟩ := id hy
  refine lv_aload_n hx hb dX2_thing_0 rfl (lv_at hl 0 rfl) ?_
  refine mh_get (ci := 2) (v := .int (nI (zT z))) hx hb hts wfX2 hown hK.1 hP 1000 rfl rfl 7 (by decide) (hts _ flX2_49) (fun _ h9 => h9) rfl dX2_thing_1 ?_
  refine lv_bipush (v := 32) hx hb dX2_thing_4 (by decide) ?_
  refine lv_icmp_ne (tgt := 12) hx hb dX2_thing_6 (by decide) (fun c6 => ?_) (fun c6 => ?_)
  · skip
    have hlt : zT z < 32 := by
      rcases Nat.lt_or_ge (zT z) 32 with q | q
      · exact q
      · exact absurd (by rw [show zT z = 32 by omega]; rfl) c6
    refine lv_aload_n hx hb dX2_thing_12 rfl (lv_at hl 0 rfl) ?_
    refine mh_get (ci := 2) (v := .ref (ad 1005)) hx hb hts wfX2 hown hK.1 hP 1000 rfl rfl 6 (by decide) (hts _ flX2_23) (fun _ h9 => h9) rfl dX2_thing_13 ?_
    refine lv_aload_n hx hb dX2_thing_16 rfl (lv_at hl 0 rfl) ?_
    refine mh_get (ci := 2) (v := .int (nI (zT z))) hx hb hts wfX2 hown hK.1 hP 1000 rfl rfl 7 (by decide) (hts _ flX2_49) (fun _ h9 => h9) rfl dX2_thing_17 ?_
    refine lv_aload_n hx hb dX2_thing_20 rfl (lv_at hl 0 rfl) ?_
    refine mh_get (ci := 2) (v := .int (nI (zT z))) hx hb hts wfX2 hown hK.1 hP 1000 rfl rfl 7 (by decide) (hts _ flX2_49) (fun _ h9 => h9) rfl dX2_thing_21 ?_
    refine mh_iasn (i := (zT z)) hx hb hK.1 hP hS 1005 0 rfl rfl hlt (by decide) dX2_thing_24 (fun H locs hP hS => ?_)
    rw [fn_i] at hP
    have hP := mh_eq hP (yC_gm (g := (fun a => if a = zT z then zT z else gm a)))
    refine lv_aload_n hx hb dX2_thing_25 rfl (lv_at hl 0 rfl) ?_
    refine lv_dup hx hb dX2_thing_26 rfl ?_
    refine mh_get (ci := 2) (v := .int (nI (zT z))) hx hb hts wfX2 hown hK.1 hP 1000 rfl rfl 7 (by decide) (hts _ flX2_49) (fun _ h9 => h9) rfl dX2_thing_27 ?_
    refine lv_iconst (v := 1) hx hb dX2_thing_30 (by decide) ?_
    refine lv_iadd hx hb dX2_thing_31 ?_
    rw [nI_1]
    refine mh_put (ci := 2) (v := .int (nI (zT z + 1))) (ty := .int) hx hb hts wfX2 tyX2 tyX2_ok nmX2 hown hK.1 hP hS 1000 rfl rfl 7 (by decide) (hts _ flX2_49) (fun _ h9 => h9) rfl (by decide +kernel) rfl rfl (Nat.le_of_ble_eq_true rfl) dX2_thing_32 (fun H locs hP hS => ?_)
    have hP := mh_eq hP (yC_uT (z := z) (n := zT z + 1))
    refine lv_aload_n hx hb dX2_thing_35 rfl (lv_at hl 0 rfl) ?_
    refine mh_get (ci := 2) (v := .int (nI (zT z + 1))) hx hb hts wfX2 hown hK.1 hP 1000 rfl rfl 7 (by decide) (hts _ flX2_49) (fun _ h9 => h9) rfl dX2_thing_36 ?_
    refine lv_iconst (v := 1) hx hb dX2_thing_39 (by decide) ?_
    refine lv_isub hx hb dX2_thing_40 ?_
    rw [nI_pred]
    rw [hQ]
    exact W.iret (v := nI (zT z)) hx hb hr (fun t9 ht9 _ => ⟨⟨_, (ad, yC cy ad (uT z (zT z + 1)) et mn (fun a => if a = zT z then zT z else gm a) G), rfl, Or.inl ⟨hlt, rfl, rfl⟩, mh_hp ht9 (hP)⟩, hS.F ht9⟩) hS.2.2 dX2_thing_41
  · skip
    have hge : zT z = 32 := (nI_eq (b := 32) (by omega) (by omega)).mp c6
    refine lv_bipush (v := (-2)) hx hb dX2_thing_9 (by decide) ?_
    rw [hQ]
    exact W.iret (v := (-2)) hx hb hr (fun t9 ht9 _ => ⟨⟨_, (ad, yC cy ad z et mn gm G), rfl, Or.inr ⟨hge, rfl, rfl⟩, mh_hp ht9 (hP)⟩, hS.F ht9⟩) hS.2.2 dX2_thing_11
