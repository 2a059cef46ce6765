set_option maxHeartbeats 4000000 in
set_option maxRecDepth 100000 in
/-- joinPipe -/
theorem kX2_joinPipe (l : Launch) (D : va_G) (cy : Nat → ClassId) (lo : Nat) (ad : Nat → Nat) (z : zS) (et : Nat → Nat) (mn : Nat → Int32) (gm : Nat → Nat) (G : Nat → Option va_E) (ch : Nat → List Nat) (hok : zOk z ch) (hy : yOk z ch et mn gm) (ka kb : Int32) : Met l yX2_joinPipe wX2_joinPipe { frames := 1, cells := 0, slots := 0, locals := 21 } (pcs D cy lo ad (yC cy ad z et mn gm G) [.ref (ad 1000), .int ka, .int kb]) (qwi D lo (fun r u => (r = 1 ∧ ∃ a b, a < zT z ∧ b < zT z ∧ ka = nI a ∧ kb = nI b ∧ zGr z a ≠ zGr z b ∧ u = (ad, yC cy ad z et mn (fun e => if e < zT z ∧ gm e = max (gm a) (gm b) then min (gm a) (gm b) else gm e) G)) ∨ (r = 0 ∧ ¬ (∃ a b, a < zT z ∧ b < zT z ∧ ka = nI a ∧ kb = nI b ∧ zGr z a ≠ zGr z b) ∧ u = (ad, yC cy ad z et mn gm G)))) 0 0 (fun q => lo ≤ q) := by
  refine Met.ofW (cc := cX2_joinPipe) (maxL := 6) (ret := (some .boolean)) (by decide) rfl ?_
  intro p e s m args below meth c s₁ B hml hv
  obtain ⟨rfl, hz, hP, hK⟩ := hv
  have hx := B.exec
  have hb := B.bytes
  have hr := B.returns
  have hts : ∀ w ∈ wA, w.before [.ref (ad 1000), .int ka, .int kb].toArray s = true := fun w h => atoms_spec (ws := wX2_joinPipe) B.pre w (List.mem_cons_of_mem _ h)
  have hown : s.vm.findClass RX2 = some m.cls := findClass_of_methodNamed B.named
  have hlocks := B.notSynchronized
  have hS : va_S (fun q => lo ≤ q) s.heap s.heap [] := va_S.rf
  have hl := lv_entry ([.ref (ad 1000), .int ka, .int kb]) (n := 6) (Nat.le_of_ble_eq_true rfl)
  rw [lg_entry_eq]
  generalize (lg_sl ([.ref (ad 1000), .int ka, .int kb]) ++ List.replicate (6 - (lg_sl ([.ref (ad 1000), .int ka, .int kb])).length) Slot.unset).toArray = ls at hl ⊢
  have hl : lv_has ls 6 [(0, .ref (ad 1000)), (1, .int ka), (2, .int kb)] := hl
  obtain ⟨Q, hQ⟩ : ∃ Q, Q = MQ below (qwi D lo (fun r u => (r = 1 ∧ ∃ a b, a < zT z ∧ b < zT z ∧ ka = nI a ∧ kb = nI b ∧ zGr z a ≠ zGr z b ∧ u = (ad, yC cy ad z et mn (fun e => if e < zT z ∧ gm e = max (gm a) (gm b) then min (gm a) (gm b) else gm e) G)) ∨ (r = 0 ∧ ¬ (∃ a b, a < zT z ∧ b < zT z ∧ ka = nI a ∧ kb = nI b ∧ zGr z a ≠ zGr z b) ∧ u = (ad, yC cy ad z et mn gm G)))) [.ref (ad 1000), .int ka, .int kb].toArray s 0 0 (fun q => lo ≤ q) := ⟨_, rfl⟩
  rw [← hQ]
  obtain ⟨hK1, hK20, hL1, hL9, hT32, hE200, hnd, hal, hla, hco, hgr, hch, hlt0, hev, hbf⟩ := id hok
  obtain ⟨hmn, hgm, hgg, het, hcc⟩ := id hy
  refine lv_aload_n hx hb dX2_joinPipe_0 rfl (lv_at hl 0 rfl) ?_
  refine lv_iload_n hx hb dX2_joinPipe_1 rfl (lv_at hl 1 rfl) ?_
  refine rcV (n := 1) (As := [.int ka]) (rest := []) ⟨hx, hb, hml, hown, hts⟩ (kX2_isThing l D cy lo ad z et mn gm G ka ⟨hK20, hL9, hT32⟩) mlX2_63 imX2_isThing seX2_isThing inX2 cdX2_isThing (by decide +kernel) rfl rfl ⟨Nat.le_of_ble_eq_true rfl, Nat.le_of_ble_eq_true rfl⟩ hK hP hz rfl rfl rfl hl.1 rfl (Nat.le_of_ble_eq_true rfl) dX2_joinPipe_2 ⟨Nat.zero_le _, Nat.zero_le _⟩ (fun r2 hr2 => ?_)
  refine lv_if_eq (tgt := 31) hx hb dX2_joinPipe_5 (by decide) (fun c5 => ?_) (fun c5 => ?_)
  · skip
    have hno : ¬ (∃ a b, a < zT z ∧ b < zT z ∧ ka = nI a ∧ kb = nI b ∧ zGr z a ≠ zGr z b) := fun ⟨a, b, q1, q2, q3, q4, _⟩ => sb_0 hr2 c5 ⟨a, q1, q3⟩
    refine lv_iconst (v := 0) hx hb dX2_joinPipe_31 (by decide) ?_
    rw [hQ]
    exact W.zret (v := 0) hx hb hr (by decide) (fun t9 ht9 _ => ⟨⟨_, (ad, yC cy ad z et mn gm G), rfl, Or.inr ⟨rfl, hno, rfl⟩, mh_hp ht9 (hP)⟩, hS.F ht9⟩) hS.2.2 dX2_joinPipe_32
  · skip
    obtain ⟨a, ha, rfl⟩ := sb_1 hr2 c5
    have hga := hgm a ha
    refine lv_aload_n hx hb dX2_joinPipe_8 rfl (lv_at hl 0 rfl) ?_
    refine lv_iload_n hx hb dX2_joinPipe_9 rfl (lv_at hl 2 rfl) ?_
    refine rcV (n := 1) (As := [.int kb]) (rest := []) ⟨hx, hb, hml, hown, hts⟩ (kX2_isThing l D cy lo ad z et mn gm G kb ⟨hK20, hL9, hT32⟩) mlX2_63 imX2_isThing seX2_isThing inX2 cdX2_isThing (by decide +kernel) rfl rfl ⟨Nat.le_of_ble_eq_true rfl, Nat.le_of_ble_eq_true rfl⟩ hK hP hz rfl rfl rfl hl.1 rfl (Nat.le_of_ble_eq_true rfl) dX2_joinPipe_10 ⟨Nat.zero_le _, Nat.zero_le _⟩ (fun r10 hr10 => ?_)
    refine lv_if_eq (tgt := 31) hx hb dX2_joinPipe_13 (by decide) (fun c13 => ?_) (fun c13 => ?_)
    · skip
      have hno : ¬ (∃ a1 b, a1 < zT z ∧ b < zT z ∧ nI a = nI a1 ∧ kb = nI b ∧ zGr z a1 ≠ zGr z b) := fun ⟨_, b, _, q2, _, q4, _⟩ => sb_0 hr10 c13 ⟨b, q2, q4⟩
      refine lv_iconst (v := 0) hx hb dX2_joinPipe_31 (by decide) ?_
      rw [hQ]
      exact W.zret (v := 0) hx hb hr (by decide) (fun t9 ht9 _ => ⟨⟨_, (ad, yC cy ad z et mn gm G), rfl, Or.inr ⟨rfl, hno, rfl⟩, mh_hp ht9 (hP)⟩, hS.F ht9⟩) hS.2.2 dX2_joinPipe_32
    · skip
      obtain ⟨b, hb2, rfl⟩ := sb_1 hr10 c13
      have hgb := hgm b hb2
      refine lv_aload_n hx hb dX2_joinPipe_16 rfl (lv_at hl 0 rfl) ?_
      refine mh_get (ci := 2) (v := .ref (ad 1005)) hx hb hts wfX2 hown hK.1 hP 1000 rfl rfl 6 (by decide) (hts _ flX2_23) (fun _ h9 => h9) rfl dX2_joinPipe_17 ?_
      refine lv_iload_n hx hb dX2_joinPipe_20 rfl (lv_at hl 1 rfl) ?_
      refine mh_ialn (i := a) (v := nI (gm a)) hx hb hK.1 hP 1005 0 rfl rfl (by omega) (by decide) dX2_joinPipe_21 rfl ?_
      refine lv_aload_n hx hb dX2_joinPipe_22 rfl (lv_at hl 0 rfl) ?_
      refine mh_get (ci := 2) (v := .ref (ad 1005)) hx hb hts wfX2 hown hK.1 hP 1000 rfl rfl 6 (by decide) (hts _ flX2_23) (fun _ h9 => h9) rfl dX2_joinPipe_23 ?_
      refine lv_iload_n hx hb dX2_joinPipe_26 rfl (lv_at hl 2 rfl) ?_
      refine mh_ialn (i := b) (v := nI (gm b)) hx hb hK.1 hP 1005 0 rfl rfl (by omega) (by decide) dX2_joinPipe_27 rfl ?_
      refine lv_icmp_ne (tgt := 33) hx hb dX2_joinPipe_28 (by decide) (fun c28 => ?_) (fun c28 => ?_)
      · skip
        have hne : zGr z a ≠ zGr z b := fun q => c28 (by rw [(hgg a b ha hb2).mpr q])
        refine lv_aload_n hx hb dX2_joinPipe_33 rfl (lv_at hl 0 rfl) ?_
        refine mh_get (ci := 2) (v := .ref (ad 1005)) hx hb hts wfX2 hown hK.1 hP 1000 rfl rfl 6 (by decide) (hts _ flX2_23) (fun _ h9 => h9) rfl dX2_joinPipe_34 ?_
        refine lv_iload_n hx hb dX2_joinPipe_37 rfl (lv_at hl 1 rfl) ?_
        refine mh_ialn (i := a) (v := nI (gm a)) hx hb hK.1 hP 1005 0 rfl rfl (by omega) (by decide) dX2_joinPipe_38 rfl ?_
        refine lv_aload_n hx hb dX2_joinPipe_39 rfl (lv_at hl 0 rfl) ?_
        refine mh_get (ci := 2) (v := .ref (ad 1005)) hx hb hts wfX2 hown hK.1 hP 1000 rfl rfl 6 (by decide) (hts _ flX2_23) (fun _ h9 => h9) rfl dX2_joinPipe_40 ?_
        refine lv_iload_n hx hb dX2_joinPipe_43 rfl (lv_at hl 2 rfl) ?_
        refine mh_ialn (i := b) (v := nI (gm b)) hx hb hK.1 hP 1005 0 rfl rfl (by omega) (by decide) dX2_joinPipe_44 rfl ?_
        refine lv_icmp_ge (tgt := 57) hx hb dX2_joinPipe_45 (by decide) (fun c45 => ?_) (fun c45 => ?_)
        · skip
          have hab := (nI_leI (by omega) (by omega)).mp c45
          refine lv_aload_n hx hb dX2_joinPipe_57 rfl (lv_at hl 0 rfl) ?_
          refine mh_get (ci := 2) (v := .ref (ad 1005)) hx hb hts wfX2 hown hK.1 hP 1000 rfl rfl 6 (by decide) (hts _ flX2_23) (fun _ h9 => h9) rfl dX2_joinPipe_58 ?_
          refine lv_iload_n hx hb dX2_joinPipe_61 rfl (lv_at hl 2 rfl) ?_
          refine mh_ialn (i := b) (v := nI (gm b)) hx hb hK.1 hP 1005 0 rfl rfl (by omega) (by decide) dX2_joinPipe_62 rfl ?_
          rw [show nI (gm b) = nI (min (gm a) (gm b)) by congr 1; omega]
          refine lv_istore_n (lv' := [(3, .int (nI (min (gm a) (gm b)))), (0, .ref (ad 1000)), (1, .int (nI a)), (2, .int (nI b))]) hx hb dX2_joinPipe_63 rfl hl (by decide) rfl (fun ls hl => ?_)
          refine lv_aload_n hx hb dX2_joinPipe_64 rfl (lv_at hl 1 rfl) ?_
          refine mh_get (ci := 2) (v := .ref (ad 1005)) hx hb hts wfX2 hown hK.1 hP 1000 rfl rfl 6 (by decide) (hts _ flX2_23) (fun _ h9 => h9) rfl dX2_joinPipe_65 ?_
          refine lv_iload_n hx hb dX2_joinPipe_68 rfl (lv_at hl 2 rfl) ?_
          refine mh_ialn (i := a) (v := nI (gm a)) hx hb hK.1 hP 1005 0 rfl rfl (by omega) (by decide) dX2_joinPipe_69 rfl ?_
          refine lv_aload_n hx hb dX2_joinPipe_70 rfl (lv_at hl 1 rfl) ?_
          refine mh_get (ci := 2) (v := .ref (ad 1005)) hx hb hts wfX2 hown hK.1 hP 1000 rfl rfl 6 (by decide) (hts _ flX2_23) (fun _ h9 => h9) rfl dX2_joinPipe_71 ?_
          refine lv_iload_n hx hb dX2_joinPipe_74 rfl (lv_at hl 3 rfl) ?_
          refine mh_ialn (i := b) (v := nI (gm b)) hx hb hK.1 hP 1005 0 rfl rfl (by omega) (by decide) dX2_joinPipe_75 rfl ?_
          refine lv_icmp_ge (tgt := 88) hx hb dX2_joinPipe_76 (by decide) (fun c76 => ?_) (fun c76 => ?_)
          · skip
            have hab2 := (nI_leI (by omega) (by omega)).mp c76
            refine lv_aload_n hx hb dX2_joinPipe_88 rfl (lv_at hl 1 rfl) ?_
            refine mh_get (ci := 2) (v := .ref (ad 1005)) hx hb hts wfX2 hown hK.1 hP 1000 rfl rfl 6 (by decide) (hts _ flX2_23) (fun _ h9 => h9) rfl dX2_joinPipe_89 ?_
            refine lv_iload_n hx hb dX2_joinPipe_92 rfl (lv_at hl 2 rfl) ?_
            refine mh_ialn (i := a) (v := nI (gm a)) hx hb hK.1 hP 1005 0 rfl rfl (by omega) (by decide) dX2_joinPipe_93 rfl ?_
            rw [show nI (gm a) = nI (max (gm a) (gm b)) by congr 1; omega]
            refine lv_istore (lv' := [(4, .int (nI (max (gm a) (gm b)))), (3, .int (nI (min (gm a) (gm b)))), (0, .ref (ad 1000)), (1, .int (nI a)), (2, .int (nI b))]) hx hb dX2_joinPipe_94 hl (by decide) rfl (fun ls hl => ?_)
            refine lv_iconst (v := 0) hx hb dX2_joinPipe_96 (by decide) ?_
            refine lv_istore (lv' := [(5, .int 0), (4, .int (nI (max (gm a) (gm b)))), (3, .int (nI (min (gm a) (gm b)))), (0, .ref (ad 1000)), (1, .int (nI a)), (2, .int (nI b))]) hx hb dX2_joinPipe_97 hl (by decide) rfl (fun ls hl => ?_)
            have loop : ∀ (d i : Nat) (H : Heap) (locs : List Loc), i + d = zT z → mh D vwCl lo ad (yC cy ad z et mn (fun e => if e < i ∧ gm e = max (gm a) (gm b) then min (gm a) (gm b) else gm e) G) H → va_S (fun q => lo ≤ q) s.heap H locs → ∀ (ls : Array Slot), lv_has ls 6 [(5, .int (nI i)), (4, .int (nI (max (gm a) (gm b)))), (3, .int (nI (min (gm a) (gm b)))), (0, .ref (ad 1000)), (1, .int (nI a)), (2, .int (nI b))] → W p l e (headSpec wX2_joinPipe { frames := 1, cells := 0, slots := 0, locals := 21 }).room s m [.ref (ad 1000), .int (nI a), .int (nI b)].toArray below meth c H locs 0 0 Q (F0 m 99 ls []) := by
              intro d
              induction d with
              | zero =>
                intro i H locs hid hP hS ls hl
                refine lv_iload hx hb dX2_joinPipe_99 (lv_at hl 0 rfl) ?_
                refine lv_aload_n hx hb dX2_joinPipe_101 rfl (lv_at hl 3 rfl) ?_
                refine mh_get (ci := 2) (v := .int (nI (zT z))) hx hb hts wfX2 hown hK.1 hP 1000 rfl rfl 7 (by decide) (hts _ flX2_49) (fun _ h9 => h9) rfl dX2_joinPipe_102 ?_
                refine lv_icmp_ge (tgt := 144) hx hb dX2_joinPipe_105 (by decide) (fun c105 => ?_) (fun c105 => ?_)
                · skip
                  refine lv_iconst (v := 1) hx hb dX2_joinPipe_144 (by decide) ?_
                  rw [hQ]
                  exact W.zret (v := 1) hx hb hr (by decide) (fun t9 ht9 _ => ⟨⟨_, (ad, yC cy ad z et mn (fun e => if e < zT z ∧ gm e = max (gm a) (gm b) then min (gm a) (gm b) else gm e) G), rfl, Or.inl ⟨rfl, a, b, ha, hb2, rfl, rfl, hne, rfl⟩, mh_hp ht9 (by rw [show zT z = i by omega]; exact hP)⟩, hS.F ht9⟩) hS.2.2 dX2_joinPipe_145
                · skip
                  exact absurd (nI_le (by omega) (by omega)) c105
              | succ d ih =>
                intro i H locs hid hP hS ls hl
                have hgi : (if i < i ∧ gm i = max (gm a) (gm b) then min (gm a) (gm b) else gm i) = gm i := if_neg (by omega)
                have hgmi := hgm i (by omega)
                refine lv_iload hx hb dX2_joinPipe_99 (lv_at hl 0 rfl) ?_
                refine lv_aload_n hx hb dX2_joinPipe_101 rfl (lv_at hl 3 rfl) ?_
                refine mh_get (ci := 2) (v := .int (nI (zT z))) hx hb hts wfX2 hown hK.1 hP 1000 rfl rfl 7 (by decide) (hts _ flX2_49) (fun _ h9 => h9) rfl dX2_joinPipe_102 ?_
                refine lv_icmp_ge (tgt := 144) hx hb dX2_joinPipe_105 (by decide) (fun c105 => ?_) (fun c105 => ?_)
                · skip
                  exact absurd c105 (nI_ge (by omega) (by omega))
                · skip
                  refine lv_aload_n hx hb dX2_joinPipe_108 rfl (lv_at hl 3 rfl) ?_
                  refine mh_get (ci := 2) (v := .ref (ad 1005)) hx hb hts wfX2 hown hK.1 hP 1000 rfl rfl 6 (by decide) (hts _ flX2_23) (fun _ h9 => h9) rfl dX2_joinPipe_109 ?_
                  refine lv_iload hx hb dX2_joinPipe_112 (lv_at hl 0 rfl) ?_
                  refine lv_aload_n hx hb dX2_joinPipe_114 rfl (lv_at hl 3 rfl) ?_
                  refine mh_get (ci := 2) (v := .ref (ad 1005)) hx hb hts wfX2 hown hK.1 hP 1000 rfl rfl 6 (by decide) (hts _ flX2_23) (fun _ h9 => h9) rfl dX2_joinPipe_115 ?_
                  refine lv_iload hx hb dX2_joinPipe_118 (lv_at hl 0 rfl) ?_
                  refine mh_ialn (i := i) (v := nI (gm i)) hx hb hK.1 hP 1005 0 rfl rfl (by omega) (by decide) dX2_joinPipe_120 (congrArg nI hgi) ?_
                  refine lv_iload hx hb dX2_joinPipe_121 (lv_at hl 1 rfl) ?_
                  refine lv_icmp_ne (tgt := 130) hx hb dX2_joinPipe_123 (by decide) (fun c123 => ?_) (fun c123 => ?_)
                  · skip
                    have hns : ¬ gm i = max (gm a) (gm b) := fun q => c123 (by rw [q])
                    refine lv_aload_n hx hb dX2_joinPipe_130 rfl (lv_at hl 3 rfl) ?_
                    refine mh_get (ci := 2) (v := .ref (ad 1005)) hx hb hts wfX2 hown hK.1 hP 1000 rfl rfl 6 (by decide) (hts _ flX2_23) (fun _ h9 => h9) rfl dX2_joinPipe_131 ?_
                    refine lv_iload hx hb dX2_joinPipe_134 (lv_at hl 0 rfl) ?_
                    refine mh_ialn (i := i) (v := nI (gm i)) hx hb hK.1 hP 1005 0 rfl rfl (by omega) (by decide) dX2_joinPipe_136 (congrArg nI hgi) ?_
                    refine mh_iasn (i := i) (f := fun e => nI ((fun e => if e < i ∧ gm e = max (gm a) (gm b) then min (gm a) (gm b) else gm e) e)) hx hb hK.1 hP hS 1005 0 rfl rfl (by omega) (by decide) dX2_joinPipe_137 (fun H locs hP hS => ?_)
                    rw [fn_i (f := (fun e => if e < i ∧ gm e = max (gm a) (gm b) then min (gm a) (gm b) else gm e)) (v := gm i)] at hP
                    have hP := mh_eq (C' := yC cy ad z et mn (fun e => if e < (i + 1) ∧ gm e = max (gm a) (gm b) then min (gm a) (gm b) else gm e) G) (mh_eq (C' := yC cy ad z et mn (fun e => if e = i then gm i else (fun e => if e < i ∧ gm e = max (gm a) (gm b) then min (gm a) (gm b) else gm e) e) G) hP (yC_gm (gm := (fun e => if e < i ∧ gm e = max (gm a) (gm b) then min (gm a) (gm b) else gm e)) (g := fun e => if e = i then gm i else (fun e => if e < i ∧ gm e = max (gm a) (gm b) then min (gm a) (gm b) else gm e) e))) (fun r => by
                      congr 3
                      funext e
                      by_cases he : e = i
                      · subst he
                        rw [if_neg (fun q => hns q.2), if_pos rfl]
                      · rw [if_neg he]
                        exact ite_congr (propext ⟨fun q => ⟨by omega, q.2⟩, fun q => ⟨by omega, q.2⟩⟩) (fun _ => rfl) (fun _ => rfl))
                    obtain ⟨y, ey⟩ : ∃ y : Int32, y = nI i + 1 := ⟨_, rfl⟩
                    refine lv_iinc (v := y) (lv' := [(5, .int y), (4, .int (nI (max (gm a) (gm b)))), (3, .int (nI (min (gm a) (gm b)))), (0, .ref (ad 1000)), (1, .int (nI a)), (2, .int (nI b))]) hx hb dX2_joinPipe_138 hl (k := 0) rfl (by rw [ey]; rfl) (by decide) rfl (fun ls hl => ?_)
                    refine lv_goto (tgt := 99) hx hb dX2_joinPipe_141 (by decide) ?_
                    rw [nI_1] at ey
                    subst ey
                    exact ih (i + 1) H locs (by omega) hP hS ls (lv_sub hl [0, 1, 2, 3, 4, 5] rfl)
                  · skip
                    have hsm : gm i = max (gm a) (gm b) := (nI_eq (by omega) (by omega)).mp c123
                    refine lv_iload_n hx hb dX2_joinPipe_126 rfl (lv_at hl 2 rfl) ?_
                    refine lv_goto (tgt := 137) hx hb dX2_joinPipe_127 (by decide) ?_
                    refine mh_iasn (i := i) (f := fun e => nI ((fun e => if e < i ∧ gm e = max (gm a) (gm b) then min (gm a) (gm b) else gm e) e)) hx hb hK.1 hP hS 1005 0 rfl rfl (by omega) (by decide) dX2_joinPipe_137 (fun H locs hP hS => ?_)
                    rw [fn_i (f := (fun e => if e < i ∧ gm e = max (gm a) (gm b) then min (gm a) (gm b) else gm e)) (v := min (gm a) (gm b))] at hP
                    have hP := mh_eq (C' := yC cy ad z et mn (fun e => if e < (i + 1) ∧ gm e = max (gm a) (gm b) then min (gm a) (gm b) else gm e) G) (mh_eq (C' := yC cy ad z et mn (fun e => if e = i then min (gm a) (gm b) else (fun e => if e < i ∧ gm e = max (gm a) (gm b) then min (gm a) (gm b) else gm e) e) G) hP (yC_gm (gm := (fun e => if e < i ∧ gm e = max (gm a) (gm b) then min (gm a) (gm b) else gm e)) (g := fun e => if e = i then min (gm a) (gm b) else (fun e => if e < i ∧ gm e = max (gm a) (gm b) then min (gm a) (gm b) else gm e) e))) (fun r => by
                      congr 3
                      funext e
                      by_cases he : e = i
                      · subst he
                        rw [if_pos ⟨by omega, hsm⟩, if_pos rfl]
                      · rw [if_neg he]
                        exact ite_congr (propext ⟨fun q => ⟨by omega, q.2⟩, fun q => ⟨by omega, q.2⟩⟩) (fun _ => rfl) (fun _ => rfl))
                    obtain ⟨y, ey⟩ : ∃ y : Int32, y = nI i + 1 := ⟨_, rfl⟩
                    refine lv_iinc (v := y) (lv' := [(5, .int y), (4, .int (nI (max (gm a) (gm b)))), (3, .int (nI (min (gm a) (gm b)))), (0, .ref (ad 1000)), (1, .int (nI a)), (2, .int (nI b))]) hx hb dX2_joinPipe_138 hl (k := 0) rfl (by rw [ey]; rfl) (by decide) rfl (fun ls hl => ?_)
                    refine lv_goto (tgt := 99) hx hb dX2_joinPipe_141 (by decide) ?_
                    rw [nI_1] at ey
                    subst ey
                    exact ih (i + 1) H locs (by omega) hP hS ls (lv_sub hl [0, 1, 2, 3, 4, 5] rfl)
            have hP := mh_eq (C' := yC cy ad z et mn (fun e => if e < 0 ∧ gm e = max (gm a) (gm b) then min (gm a) (gm b) else gm e) G) hP (fun r => by
              congr 3)
            exact loop (zT z) 0 s.heap [] (Nat.zero_add _) hP hS ls (lv_sub hl [0, 1, 2, 3, 4, 5] rfl)
          · skip
            have hab2 := Nat.lt_of_not_le (fun q => c76 (nI_le q (by omega)))
            refine lv_aload_n hx hb dX2_joinPipe_79 rfl (lv_at hl 1 rfl) ?_
            refine mh_get (ci := 2) (v := .ref (ad 1005)) hx hb hts wfX2 hown hK.1 hP 1000 rfl rfl 6 (by decide) (hts _ flX2_23) (fun _ h9 => h9) rfl dX2_joinPipe_80 ?_
            refine lv_iload_n hx hb dX2_joinPipe_83 rfl (lv_at hl 3 rfl) ?_
            refine mh_ialn (i := b) (v := nI (gm b)) hx hb hK.1 hP 1005 0 rfl rfl (by omega) (by decide) dX2_joinPipe_84 rfl ?_
            refine lv_goto (tgt := 94) hx hb dX2_joinPipe_85 (by decide) ?_
            rw [show nI (gm b) = nI (max (gm a) (gm b)) by congr 1; omega]
            refine lv_istore (lv' := [(4, .int (nI (max (gm a) (gm b)))), (3, .int (nI (min (gm a) (gm b)))), (0, .ref (ad 1000)), (1, .int (nI a)), (2, .int (nI b))]) hx hb dX2_joinPipe_94 hl (by decide) rfl (fun ls hl => ?_)
            refine lv_iconst (v := 0) hx hb dX2_joinPipe_96 (by decide) ?_
            refine lv_istore (lv' := [(5, .int 0), (4, .int (nI (max (gm a) (gm b)))), (3, .int (nI (min (gm a) (gm b)))), (0, .ref (ad 1000)), (1, .int (nI a)), (2, .int (nI b))]) hx hb dX2_joinPipe_97 hl (by decide) rfl (fun ls hl => ?_)
            have loop : ∀ (d i : Nat) (H : Heap) (locs : List Loc), i + d = zT z → mh D vwCl lo ad (yC cy ad z et mn (fun e => if e < i ∧ gm e = max (gm a) (gm b) then min (gm a) (gm b) else gm e) G) H → va_S (fun q => lo ≤ q) s.heap H locs → ∀ (ls : Array Slot), lv_has ls 6 [(5, .int (nI i)), (4, .int (nI (max (gm a) (gm b)))), (3, .int (nI (min (gm a) (gm b)))), (0, .ref (ad 1000)), (1, .int (nI a)), (2, .int (nI b))] → W p l e (headSpec wX2_joinPipe { frames := 1, cells := 0, slots := 0, locals := 21 }).room s m [.ref (ad 1000), .int (nI a), .int (nI b)].toArray below meth c H locs 0 0 Q (F0 m 99 ls []) := by
              intro d
              induction d with
              | zero =>
                intro i H locs hid hP hS ls hl
                refine lv_iload hx hb dX2_joinPipe_99 (lv_at hl 0 rfl) ?_
                refine lv_aload_n hx hb dX2_joinPipe_101 rfl (lv_at hl 3 rfl) ?_
                refine mh_get (ci := 2) (v := .int (nI (zT z))) hx hb hts wfX2 hown hK.1 hP 1000 rfl rfl 7 (by decide) (hts _ flX2_49) (fun _ h9 => h9) rfl dX2_joinPipe_102 ?_
                refine lv_icmp_ge (tgt := 144) hx hb dX2_joinPipe_105 (by decide) (fun c105 => ?_) (fun c105 => ?_)
                · skip
                  refine lv_iconst (v := 1) hx hb dX2_joinPipe_144 (by decide) ?_
                  rw [hQ]
                  exact W.zret (v := 1) hx hb hr (by decide) (fun t9 ht9 _ => ⟨⟨_, (ad, yC cy ad z et mn (fun e => if e < zT z ∧ gm e = max (gm a) (gm b) then min (gm a) (gm b) else gm e) G), rfl, Or.inl ⟨rfl, a, b, ha, hb2, rfl, rfl, hne, rfl⟩, mh_hp ht9 (by rw [show zT z = i by omega]; exact hP)⟩, hS.F ht9⟩) hS.2.2 dX2_joinPipe_145
                · skip
                  exact absurd (nI_le (by omega) (by omega)) c105
              | succ d ih =>
                intro i H locs hid hP hS ls hl
                have hgi : (if i < i ∧ gm i = max (gm a) (gm b) then min (gm a) (gm b) else gm i) = gm i := if_neg (by omega)
                have hgmi := hgm i (by omega)
                refine lv_iload hx hb dX2_joinPipe_99 (lv_at hl 0 rfl) ?_
                refine lv_aload_n hx hb dX2_joinPipe_101 rfl (lv_at hl 3 rfl) ?_
                refine mh_get (ci := 2) (v := .int (nI (zT z))) hx hb hts wfX2 hown hK.1 hP 1000 rfl rfl 7 (by decide) (hts _ flX2_49) (fun _ h9 => h9) rfl dX2_joinPipe_102 ?_
                refine lv_icmp_ge (tgt := 144) hx hb dX2_joinPipe_105 (by decide) (fun c105 => ?_) (fun c105 => ?_)
                · skip
                  exact absurd c105 (nI_ge (by omega) (by omega))
                · skip
                  refine lv_aload_n hx hb dX2_joinPipe_108 rfl (lv_at hl 3 rfl) ?_
                  refine mh_get (ci := 2) (v := .ref (ad 1005)) hx hb hts wfX2 hown hK.1 hP 1000 rfl rfl 6 (by decide) (hts _ flX2_23) (fun _ h9 => h9) rfl dX2_joinPipe_109 ?_
                  refine lv_iload hx hb dX2_joinPipe_112 (lv_at hl 0 rfl) ?_
                  refine lv_aload_n hx hb dX2_joinPipe_114 rfl (lv_at hl 3 rfl) ?_
                  refine mh_get (ci := 2) (v := .ref (ad 1005)) hx hb hts wfX2 hown hK.1 hP 1000 rfl rfl 6 (by decide) (hts _ flX2_23) (fun _ h9 => h9) rfl dX2_joinPipe_115 ?_
                  refine lv_iload hx hb dX2_joinPipe_118 (lv_at hl 0 rfl) ?_
                  refine mh_ialn (i := i) (v := nI (gm i)) hx hb hK.1 hP 1005 0 rfl rfl (by omega) (by decide) dX2_joinPipe_120 (congrArg nI hgi) ?_
                  refine lv_iload hx hb dX2_joinPipe_121 (lv_at hl 1 rfl) ?_
                  refine lv_icmp_ne (tgt := 130) hx hb dX2_joinPipe_123 (by decide) (fun c123 => ?_) (fun c123 => ?_)
                  · skip
                    have hns : ¬ gm i = max (gm a) (gm b) := fun q => c123 (by rw [q])
                    refine lv_aload_n hx hb dX2_joinPipe_130 rfl (lv_at hl 3 rfl) ?_
                    refine mh_get (ci := 2) (v := .ref (ad 1005)) hx hb hts wfX2 hown hK.1 hP 1000 rfl rfl 6 (by decide) (hts _ flX2_23) (fun _ h9 => h9) rfl dX2_joinPipe_131 ?_
                    refine lv_iload hx hb dX2_joinPipe_134 (lv_at hl 0 rfl) ?_
                    refine mh_ialn (i := i) (v := nI (gm i)) hx hb hK.1 hP 1005 0 rfl rfl (by omega) (by decide) dX2_joinPipe_136 (congrArg nI hgi) ?_
                    refine mh_iasn (i := i) (f := fun e => nI ((fun e => if e < i ∧ gm e = max (gm a) (gm b) then min (gm a) (gm b) else gm e) e)) hx hb hK.1 hP hS 1005 0 rfl rfl (by omega) (by decide) dX2_joinPipe_137 (fun H locs hP hS => ?_)
                    rw [fn_i (f := (fun e => if e < i ∧ gm e = max (gm a) (gm b) then min (gm a) (gm b) else gm e)) (v := gm i)] at hP
                    have hP := mh_eq (C' := yC cy ad z et mn (fun e => if e < (i + 1) ∧ gm e = max (gm a) (gm b) then min (gm a) (gm b) else gm e) G) (mh_eq (C' := yC cy ad z et mn (fun e => if e = i then gm i else (fun e => if e < i ∧ gm e = max (gm a) (gm b) then min (gm a) (gm b) else gm e) e) G) hP (yC_gm (gm := (fun e => if e < i ∧ gm e = max (gm a) (gm b) then min (gm a) (gm b) else gm e)) (g := fun e => if e = i then gm i else (fun e => if e < i ∧ gm e = max (gm a) (gm b) then min (gm a) (gm b) else gm e) e))) (fun r => by
                      congr 3
                      funext e
                      by_cases he : e = i
                      · subst he
                        rw [if_neg (fun q => hns q.2), if_pos rfl]
                      · rw [if_neg he]
                        exact ite_congr (propext ⟨fun q => ⟨by omega, q.2⟩, fun q => ⟨by omega, q.2⟩⟩) (fun _ => rfl) (fun _ => rfl))
                    obtain ⟨y, ey⟩ : ∃ y : Int32, y = nI i + 1 := ⟨_, rfl⟩
                    refine lv_iinc (v := y) (lv' := [(5, .int y), (4, .int (nI (max (gm a) (gm b)))), (3, .int (nI (min (gm a) (gm b)))), (0, .ref (ad 1000)), (1, .int (nI a)), (2, .int (nI b))]) hx hb dX2_joinPipe_138 hl (k := 0) rfl (by rw [ey]; rfl) (by decide) rfl (fun ls hl => ?_)
                    refine lv_goto (tgt := 99) hx hb dX2_joinPipe_141 (by decide) ?_
                    rw [nI_1] at ey
                    subst ey
                    exact ih (i + 1) H locs (by omega) hP hS ls (lv_sub hl [0, 1, 2, 3, 4, 5] rfl)
                  · skip
                    have hsm : gm i = max (gm a) (gm b) := (nI_eq (by omega) (by omega)).mp c123
                    refine lv_iload_n hx hb dX2_joinPipe_126 rfl (lv_at hl 2 rfl) ?_
                    refine lv_goto (tgt := 137) hx hb dX2_joinPipe_127 (by decide) ?_
                    refine mh_iasn (i := i) (f := fun e => nI ((fun e => if e < i ∧ gm e = max (gm a) (gm b) then min (gm a) (gm b) else gm e) e)) hx hb hK.1 hP hS 1005 0 rfl rfl (by omega) (by decide) dX2_joinPipe_137 (fun H locs hP hS => ?_)
                    rw [fn_i (f := (fun e => if e < i ∧ gm e = max (gm a) (gm b) then min (gm a) (gm b) else gm e)) (v := min (gm a) (gm b))] at hP
                    have hP := mh_eq (C' := yC cy ad z et mn (fun e => if e < (i + 1) ∧ gm e = max (gm a) (gm b) then min (gm a) (gm b) else gm e) G) (mh_eq (C' := yC cy ad z et mn (fun e => if e = i then min (gm a) (gm b) else (fun e => if e < i ∧ gm e = max (gm a) (gm b) then min (gm a) (gm b) else gm e) e) G) hP (yC_gm (gm := (fun e => if e < i ∧ gm e = max (gm a) (gm b) then min (gm a) (gm b) else gm e)) (g := fun e => if e = i then min (gm a) (gm b) else (fun e => if e < i ∧ gm e = max (gm a) (gm b) then min (gm a) (gm b) else gm e) e))) (fun r => by
                      congr 3
                      funext e
                      by_cases he : e = i
                      · subst he
                        rw [if_pos ⟨by omega, hsm⟩, if_pos rfl]
                      · rw [if_neg he]
                        exact ite_congr (propext ⟨fun q => ⟨by omega, q.2⟩, fun q => ⟨by omega, q.2⟩⟩) (fun _ => rfl) (fun _ => rfl))
                    obtain ⟨y, ey⟩ : ∃ y : Int32, y = nI i + 1 := ⟨_, rfl⟩
                    refine lv_iinc (v := y) (lv' := [(5, .int y), (4, .int (nI (max (gm a) (gm b)))), (3, .int (nI (min (gm a) (gm b)))), (0, .ref (ad 1000)), (1, .int (nI a)), (2, .int (nI b))]) hx hb dX2_joinPipe_138 hl (k := 0) rfl (by rw [ey]; rfl) (by decide) rfl (fun ls hl => ?_)
                    refine lv_goto (tgt := 99) hx hb dX2_joinPipe_141 (by decide) ?_
                    rw [nI_1] at ey
                    subst ey
                    exact ih (i + 1) H locs (by omega) hP hS ls (lv_sub hl [0, 1, 2, 3, 4, 5] rfl)
            have hP := mh_eq (C' := yC cy ad z et mn (fun e => if e < 0 ∧ gm e = max (gm a) (gm b) then min (gm a) (gm b) else gm e) G) hP (fun r => by
              congr 3)
            exact loop (zT z) 0 s.heap [] (Nat.zero_add _) hP hS ls (lv_sub hl [0, 1, 2, 3, 4, 5] rfl)
        · skip
          have hab := Nat.lt_of_not_le (fun q => c45 (nI_le q (by omega)))
          refine lv_aload_n hx hb dX2_joinPipe_48 rfl (lv_at hl 0 rfl) ?_
          refine mh_get (ci := 2) (v := .ref (ad 1005)) hx hb hts wfX2 hown hK.1 hP 1000 rfl rfl 6 (by decide) (hts _ flX2_23) (fun _ h9 => h9) rfl dX2_joinPipe_49 ?_
          refine lv_iload_n hx hb dX2_joinPipe_52 rfl (lv_at hl 1 rfl) ?_
          refine mh_ialn (i := a) (v := nI (gm a)) hx hb hK.1 hP 1005 0 rfl rfl (by omega) (by decide) dX2_joinPipe_53 rfl ?_
          refine lv_goto (tgt := 63) hx hb dX2_joinPipe_54 (by decide) ?_
          rw [show nI (gm a) = nI (min (gm a) (gm b)) by congr 1; omega]
          refine lv_istore_n (lv' := [(3, .int (nI (min (gm a) (gm b)))), (0, .ref (ad 1000)), (1, .int (nI a)), (2, .int (nI b))]) hx hb dX2_joinPipe_63 rfl hl (by decide) rfl (fun ls hl => ?_)
          refine lv_aload_n hx hb dX2_joinPipe_64 rfl (lv_at hl 1 rfl) ?_
          refine mh_get (ci := 2) (v := .ref (ad 1005)) hx hb hts wfX2 hown hK.1 hP 1000 rfl rfl 6 (by decide) (hts _ flX2_23) (fun _ h9 => h9) rfl dX2_joinPipe_65 ?_
          refine lv_iload_n hx hb dX2_joinPipe_68 rfl (lv_at hl 2 rfl) ?_
          refine mh_ialn (i := a) (v := nI (gm a)) hx hb hK.1 hP 1005 0 rfl rfl (by omega) (by decide) dX2_joinPipe_69 rfl ?_
          refine lv_aload_n hx hb dX2_joinPipe_70 rfl (lv_at hl 1 rfl) ?_
          refine mh_get (ci := 2) (v := .ref (ad 1005)) hx hb hts wfX2 hown hK.1 hP 1000 rfl rfl 6 (by decide) (hts _ flX2_23) (fun _ h9 => h9) rfl dX2_joinPipe_71 ?_
          refine lv_iload_n hx hb dX2_joinPipe_74 rfl (lv_at hl 3 rfl) ?_
          refine mh_ialn (i := b) (v := nI (gm b)) hx hb hK.1 hP 1005 0 rfl rfl (by omega) (by decide) dX2_joinPipe_75 rfl ?_
          refine lv_icmp_ge (tgt := 88) hx hb dX2_joinPipe_76 (by decide) (fun c76 => ?_) (fun c76 => ?_)
          · skip
            have hab2 := (nI_leI (by omega) (by omega)).mp c76
            refine lv_aload_n hx hb dX2_joinPipe_88 rfl (lv_at hl 1 rfl) ?_
            refine mh_get (ci := 2) (v := .ref (ad 1005)) hx hb hts wfX2 hown hK.1 hP 1000 rfl rfl 6 (by decide) (hts _ flX2_23) (fun _ h9 => h9) rfl dX2_joinPipe_89 ?_
            refine lv_iload_n hx hb dX2_joinPipe_92 rfl (lv_at hl 2 rfl) ?_
            refine mh_ialn (i := a) (v := nI (gm a)) hx hb hK.1 hP 1005 0 rfl rfl (by omega) (by decide) dX2_joinPipe_93 rfl ?_
            rw [show nI (gm a) = nI (max (gm a) (gm b)) by congr 1; omega]
            refine lv_istore (lv' := [(4, .int (nI (max (gm a) (gm b)))), (3, .int (nI (min (gm a) (gm b)))), (0, .ref (ad 1000)), (1, .int (nI a)), (2, .int (nI b))]) hx hb dX2_joinPipe_94 hl (by decide) rfl (fun ls hl => ?_)
            refine lv_iconst (v := 0) hx hb dX2_joinPipe_96 (by decide) ?_
            refine lv_istore (lv' := [(5, .int 0), (4, .int (nI (max (gm a) (gm b)))), (3, .int (nI (min (gm a) (gm b)))), (0, .ref (ad 1000)), (1, .int (nI a)), (2, .int (nI b))]) hx hb dX2_joinPipe_97 hl (by decide) rfl (fun ls hl => ?_)
            have loop : ∀ (d i : Nat) (H : Heap) (locs : List Loc), i + d = zT z → mh D vwCl lo ad (yC cy ad z et mn (fun e => if e < i ∧ gm e = max (gm a) (gm b) then min (gm a) (gm b) else gm e) G) H → va_S (fun q => lo ≤ q) s.heap H locs → ∀ (ls : Array Slot), lv_has ls 6 [(5, .int (nI i)), (4, .int (nI (max (gm a) (gm b)))), (3, .int (nI (min (gm a) (gm b)))), (0, .ref (ad 1000)), (1, .int (nI a)), (2, .int (nI b))] → W p l e (headSpec wX2_joinPipe { frames := 1, cells := 0, slots := 0, locals := 21 }).room s m [.ref (ad 1000), .int (nI a), .int (nI b)].toArray below meth c H locs 0 0 Q (F0 m 99 ls []) := by
              intro d
              induction d with
              | zero =>
                intro i H locs hid hP hS ls hl
                refine lv_iload hx hb dX2_joinPipe_99 (lv_at hl 0 rfl) ?_
                refine lv_aload_n hx hb dX2_joinPipe_101 rfl (lv_at hl 3 rfl) ?_
                refine mh_get (ci := 2) (v := .int (nI (zT z))) hx hb hts wfX2 hown hK.1 hP 1000 rfl rfl 7 (by decide) (hts _ flX2_49) (fun _ h9 => h9) rfl dX2_joinPipe_102 ?_
                refine lv_icmp_ge (tgt := 144) hx hb dX2_joinPipe_105 (by decide) (fun c105 => ?_) (fun c105 => ?_)
                · skip
                  refine lv_iconst (v := 1) hx hb dX2_joinPipe_144 (by decide) ?_
                  rw [hQ]
                  exact W.zret (v := 1) hx hb hr (by decide) (fun t9 ht9 _ => ⟨⟨_, (ad, yC cy ad z et mn (fun e => if e < zT z ∧ gm e = max (gm a) (gm b) then min (gm a) (gm b) else gm e) G), rfl, Or.inl ⟨rfl, a, b, ha, hb2, rfl, rfl, hne, rfl⟩, mh_hp ht9 (by rw [show zT z = i by omega]; exact hP)⟩, hS.F ht9⟩) hS.2.2 dX2_joinPipe_145
                · skip
                  exact absurd (nI_le (by omega) (by omega)) c105
              | succ d ih =>
                intro i H locs hid hP hS ls hl
                have hgi : (if i < i ∧ gm i = max (gm a) (gm b) then min (gm a) (gm b) else gm i) = gm i := if_neg (by omega)
                have hgmi := hgm i (by omega)
                refine lv_iload hx hb dX2_joinPipe_99 (lv_at hl 0 rfl) ?_
                refine lv_aload_n hx hb dX2_joinPipe_101 rfl (lv_at hl 3 rfl) ?_
                refine mh_get (ci := 2) (v := .int (nI (zT z))) hx hb hts wfX2 hown hK.1 hP 1000 rfl rfl 7 (by decide) (hts _ flX2_49) (fun _ h9 => h9) rfl dX2_joinPipe_102 ?_
                refine lv_icmp_ge (tgt := 144) hx hb dX2_joinPipe_105 (by decide) (fun c105 => ?_) (fun c105 => ?_)
                · skip
                  exact absurd c105 (nI_ge (by omega) (by omega))
                · skip
                  refine lv_aload_n hx hb dX2_joinPipe_108 rfl (lv_at hl 3 rfl) ?_
                  refine mh_get (ci := 2) (v := .ref (ad 1005)) hx hb hts wfX2 hown hK.1 hP 1000 rfl rfl 6 (by decide) (hts _ flX2_23) (fun _ h9 => h9) rfl dX2_joinPipe_109 ?_
                  refine lv_iload hx hb dX2_joinPipe_112 (lv_at hl 0 rfl) ?_
                  refine lv_aload_n hx hb dX2_joinPipe_114 rfl (lv_at hl 3 rfl) ?_
                  refine mh_get (ci := 2) (v := .ref (ad 1005)) hx hb hts wfX2 hown hK.1 hP 1000 rfl rfl 6 (by decide) (hts _ flX2_23) (fun _ h9 => h9) rfl dX2_joinPipe_115 ?_
                  refine lv_iload hx hb dX2_joinPipe_118 (lv_at hl 0 rfl) ?_
                  refine mh_ialn (i := i) (v := nI (gm i)) hx hb hK.1 hP 1005 0 rfl rfl (by omega) (by decide) dX2_joinPipe_120 (congrArg nI hgi) ?_
                  refine lv_iload hx hb dX2_joinPipe_121 (lv_at hl 1 rfl) ?_
                  refine lv_icmp_ne (tgt := 130) hx hb dX2_joinPipe_123 (by decide) (fun c123 => ?_) (fun c123 => ?_)
                  · skip
                    have hns : ¬ gm i = max (gm a) (gm b) := fun q => c123 (by rw [q])
                    refine lv_aload_n hx hb dX2_joinPipe_130 rfl (lv_at hl 3 rfl) ?_
                    refine mh_get (ci := 2) (v := .ref (ad 1005)) hx hb hts wfX2 hown hK.1 hP 1000 rfl rfl 6 (by decide) (hts _ flX2_23) (fun _ h9 => h9) rfl dX2_joinPipe_131 ?_
                    refine lv_iload hx hb dX2_joinPipe_134 (lv_at hl 0 rfl) ?_
                    refine mh_ialn (i := i) (v := nI (gm i)) hx hb hK.1 hP 1005 0 rfl rfl (by omega) (by decide) dX2_joinPipe_136 (congrArg nI hgi) ?_
                    refine mh_iasn (i := i) (f := fun e => nI ((fun e => if e < i ∧ gm e = max (gm a) (gm b) then min (gm a) (gm b) else gm e) e)) hx hb hK.1 hP hS 1005 0 rfl rfl (by omega) (by decide) dX2_joinPipe_137 (fun H locs hP hS => ?_)
                    rw [fn_i (f := (fun e => if e < i ∧ gm e = max (gm a) (gm b) then min (gm a) (gm b) else gm e)) (v := gm i)] at hP
                    have hP := mh_eq (C' := yC cy ad z et mn (fun e => if e < (i + 1) ∧ gm e = max (gm a) (gm b) then min (gm a) (gm b) else gm e) G) (mh_eq (C' := yC cy ad z et mn (fun e => if e = i then gm i else (fun e => if e < i ∧ gm e = max (gm a) (gm b) then min (gm a) (gm b) else gm e) e) G) hP (yC_gm (gm := (fun e => if e < i ∧ gm e = max (gm a) (gm b) then min (gm a) (gm b) else gm e)) (g := fun e => if e = i then gm i else (fun e => if e < i ∧ gm e = max (gm a) (gm b) then min (gm a) (gm b) else gm e) e))) (fun r => by
                      congr 3
                      funext e
                      by_cases he : e = i
                      · subst he
                        rw [if_neg (fun q => hns q.2), if_pos rfl]
                      · rw [if_neg he]
                        exact ite_congr (propext ⟨fun q => ⟨by omega, q.2⟩, fun q => ⟨by omega, q.2⟩⟩) (fun _ => rfl) (fun _ => rfl))
                    obtain ⟨y, ey⟩ : ∃ y : Int32, y = nI i + 1 := ⟨_, rfl⟩
                    refine lv_iinc (v := y) (lv' := [(5, .int y), (4, .int (nI (max (gm a) (gm b)))), (3, .int (nI (min (gm a) (gm b)))), (0, .ref (ad 1000)), (1, .int (nI a)), (2, .int (nI b))]) hx hb dX2_joinPipe_138 hl (k := 0) rfl (by rw [ey]; rfl) (by decide) rfl (fun ls hl => ?_)
                    refine lv_goto (tgt := 99) hx hb dX2_joinPipe_141 (by decide) ?_
                    rw [nI_1] at ey
                    subst ey
                    exact ih (i + 1) H locs (by omega) hP hS ls (lv_sub hl [0, 1, 2, 3, 4, 5] rfl)
                  · skip
                    have hsm : gm i = max (gm a) (gm b) := (nI_eq (by omega) (by omega)).mp c123
                    refine lv_iload_n hx hb dX2_joinPipe_126 rfl (lv_at hl 2 rfl) ?_
                    refine lv_goto (tgt := 137) hx hb dX2_joinPipe_127 (by decide) ?_
                    refine mh_iasn (i := i) (f := fun e => nI ((fun e => if e < i ∧ gm e = max (gm a) (gm b) then min (gm a) (gm b) else gm e) e)) hx hb hK.1 hP hS 1005 0 rfl rfl (by omega) (by decide) dX2_joinPipe_137 (fun H locs hP hS => ?_)
                    rw [fn_i (f := (fun e => if e < i ∧ gm e = max (gm a) (gm b) then min (gm a) (gm b) else gm e)) (v := min (gm a) (gm b))] at hP
                    have hP := mh_eq (C' := yC cy ad z et mn (fun e => if e < (i + 1) ∧ gm e = max (gm a) (gm b) then min (gm a) (gm b) else gm e) G) (mh_eq (C' := yC cy ad z et mn (fun e => if e = i then min (gm a) (gm b) else (fun e => if e < i ∧ gm e = max (gm a) (gm b) then min (gm a) (gm b) else gm e) e) G) hP (yC_gm (gm := (fun e => if e < i ∧ gm e = max (gm a) (gm b) then min (gm a) (gm b) else gm e)) (g := fun e => if e = i then min (gm a) (gm b) else (fun e => if e < i ∧ gm e = max (gm a) (gm b) then min (gm a) (gm b) else gm e) e))) (fun r => by
                      congr 3
                      funext e
                      by_cases he : e = i
                      · subst he
                        rw [if_pos ⟨by omega, hsm⟩, if_pos rfl]
                      · rw [if_neg he]
                        exact ite_congr (propext ⟨fun q => ⟨by omega, q.2⟩, fun q => ⟨by omega, q.2⟩⟩) (fun _ => rfl) (fun _ => rfl))
                    obtain ⟨y, ey⟩ : ∃ y : Int32, y = nI i + 1 := ⟨_, rfl⟩
                    refine lv_iinc (v := y) (lv' := [(5, .int y), (4, .int (nI (max (gm a) (gm b)))), (3, .int (nI (min (gm a) (gm b)))), (0, .ref (ad 1000)), (1, .int (nI a)), (2, .int (nI b))]) hx hb dX2_joinPipe_138 hl (k := 0) rfl (by rw [ey]; rfl) (by decide) rfl (fun ls hl => ?_)
                    refine lv_goto (tgt := 99) hx hb dX2_joinPipe_141 (by decide) ?_
                    rw [nI_1] at ey
                    subst ey
                    exact ih (i + 1) H locs (by omega) hP hS ls (lv_sub hl [0, 1, 2, 3, 4, 5] rfl)
            have hP := mh_eq (C' := yC cy ad z et mn (fun e => if e < 0 ∧ gm e = max (gm a) (gm b) then min (gm a) (gm b) else gm e) G) hP (fun r => by
              congr 3)
            exact loop (zT z) 0 s.heap [] (Nat.zero_add _) hP hS ls (lv_sub hl [0, 1, 2, 3, 4, 5] rfl)
          · skip
            have hab2 := Nat.lt_of_not_le (fun q => c76 (nI_le q (by omega)))
            refine lv_aload_n hx hb dX2_joinPipe_79 rfl (lv_at hl 1 rfl) ?_
            refine mh_get (ci := 2) (v := .ref (ad 1005)) hx hb hts wfX2 hown hK.1 hP 1000 rfl rfl 6 (by decide) (hts _ flX2_23) (fun _ h9 => h9) rfl dX2_joinPipe_80 ?_
            refine lv_iload_n hx hb dX2_joinPipe_83 rfl (lv_at hl 3 rfl) ?_
            refine mh_ialn (i := b) (v := nI (gm b)) hx hb hK.1 hP 1005 0 rfl rfl (by omega) (by decide) dX2_joinPipe_84 rfl ?_
            refine lv_goto (tgt := 94) hx hb dX2_joinPipe_85 (by decide) ?_
            rw [show nI (gm b) = nI (max (gm a) (gm b)) by congr 1; omega]
            refine lv_istore (lv' := [(4, .int (nI (max (gm a) (gm b)))), (3, .int (nI (min (gm a) (gm b)))), (0, .ref (ad 1000)), (1, .int (nI a)), (2, .int (nI b))]) hx hb dX2_joinPipe_94 hl (by decide) rfl (fun ls hl => ?_)
            refine lv_iconst (v := 0) hx hb dX2_joinPipe_96 (by decide) ?_
            refine lv_istore (lv' := [(5, .int 0), (4, .int (nI (max (gm a) (gm b)))), (3, .int (nI (min (gm a) (gm b)))), (0, .ref (ad 1000)), (1, .int (nI a)), (2, .int (nI b))]) hx hb dX2_joinPipe_97 hl (by decide) rfl (fun ls hl => ?_)
            have loop : ∀ (d i : Nat) (H : Heap) (locs : List Loc), i + d = zT z → mh D vwCl lo ad (yC cy ad z et mn (fun e => if e < i ∧ gm e = max (gm a) (gm b) then min (gm a) (gm b) else gm e) G) H → va_S (fun q => lo ≤ q) s.heap H locs → ∀ (ls : Array Slot), lv_has ls 6 [(5, .int (nI i)), (4, .int (nI (max (gm a) (gm b)))), (3, .int (nI (min (gm a) (gm b)))), (0, .ref (ad 1000)), (1, .int (nI a)), (2, .int (nI b))] → W p l e (headSpec wX2_joinPipe { frames := 1, cells := 0, slots := 0, locals := 21 }).room s m [.ref (ad 1000), .int (nI a), .int (nI b)].toArray below meth c H locs 0 0 Q (F0 m 99 ls []) := by
              intro d
              induction d with
              | zero =>
                intro i H locs hid hP hS ls hl
                refine lv_iload hx hb dX2_joinPipe_99 (lv_at hl 0 rfl) ?_
                refine lv_aload_n hx hb dX2_joinPipe_101 rfl (lv_at hl 3 rfl) ?_
                refine mh_get (ci := 2) (v := .int (nI (zT z))) hx hb hts wfX2 hown hK.1 hP 1000 rfl rfl 7 (by decide) (hts _ flX2_49) (fun _ h9 => h9) rfl dX2_joinPipe_102 ?_
                refine lv_icmp_ge (tgt := 144) hx hb dX2_joinPipe_105 (by decide) (fun c105 => ?_) (fun c105 => ?_)
                · skip
                  refine lv_iconst (v := 1) hx hb dX2_joinPipe_144 (by decide) ?_
                  rw [hQ]
                  exact W.zret (v := 1) hx hb hr (by decide) (fun t9 ht9 _ => ⟨⟨_, (ad, yC cy ad z et mn (fun e => if e < zT z ∧ gm e = max (gm a) (gm b) then min (gm a) (gm b) else gm e) G), rfl, Or.inl ⟨rfl, a, b, ha, hb2, rfl, rfl, hne, rfl⟩, mh_hp ht9 (by rw [show zT z = i by omega]; exact hP)⟩, hS.F ht9⟩) hS.2.2 dX2_joinPipe_145
                · skip
                  exact absurd (nI_le (by omega) (by omega)) c105
              | succ d ih =>
                intro i H locs hid hP hS ls hl
                have hgi : (if i < i ∧ gm i = max (gm a) (gm b) then min (gm a) (gm b) else gm i) = gm i := if_neg (by omega)
                have hgmi := hgm i (by omega)
                refine lv_iload hx hb dX2_joinPipe_99 (lv_at hl 0 rfl) ?_
                refine lv_aload_n hx hb dX2_joinPipe_101 rfl (lv_at hl 3 rfl) ?_
                refine mh_get (ci := 2) (v := .int (nI (zT z))) hx hb hts wfX2 hown hK.1 hP 1000 rfl rfl 7 (by decide) (hts _ flX2_49) (fun _ h9 => h9) rfl dX2_joinPipe_102 ?_
                refine lv_icmp_ge (tgt := 144) hx hb dX2_joinPipe_105 (by decide) (fun c105 => ?_) (fun c105 => ?_)
                · skip
                  exact absurd c105 (nI_ge (by omega) (by omega))
                · skip
                  refine lv_aload_n hx hb dX2_joinPipe_108 rfl (lv_at hl 3 rfl) ?_
                  refine mh_get (ci := 2) (v := .ref (ad 1005)) hx hb hts wfX2 hown hK.1 hP 1000 rfl rfl 6 (by decide) (hts _ flX2_23) (fun _ h9 => h9) rfl dX2_joinPipe_109 ?_
                  refine lv_iload hx hb dX2_joinPipe_112 (lv_at hl 0 rfl) ?_
                  refine lv_aload_n hx hb dX2_joinPipe_114 rfl (lv_at hl 3 rfl) ?_
                  refine mh_get (ci := 2) (v := .ref (ad 1005)) hx hb hts wfX2 hown hK.1 hP 1000 rfl rfl 6 (by decide) (hts _ flX2_23) (fun _ h9 => h9) rfl dX2_joinPipe_115 ?_
                  refine lv_iload hx hb dX2_joinPipe_118 (lv_at hl 0 rfl) ?_
                  refine mh_ialn (i := i) (v := nI (gm i)) hx hb hK.1 hP 1005 0 rfl rfl (by omega) (by decide) dX2_joinPipe_120 (congrArg nI hgi) ?_
                  refine lv_iload hx hb dX2_joinPipe_121 (lv_at hl 1 rfl) ?_
                  refine lv_icmp_ne (tgt := 130) hx hb dX2_joinPipe_123 (by decide) (fun c123 => ?_) (fun c123 => ?_)
                  · skip
                    have hns : ¬ gm i = max (gm a) (gm b) := fun q => c123 (by rw [q])
                    refine lv_aload_n hx hb dX2_joinPipe_130 rfl (lv_at hl 3 rfl) ?_
                    refine mh_get (ci := 2) (v := .ref (ad 1005)) hx hb hts wfX2 hown hK.1 hP 1000 rfl rfl 6 (by decide) (hts _ flX2_23) (fun _ h9 => h9) rfl dX2_joinPipe_131 ?_
                    refine lv_iload hx hb dX2_joinPipe_134 (lv_at hl 0 rfl) ?_
                    refine mh_ialn (i := i) (v := nI (gm i)) hx hb hK.1 hP 1005 0 rfl rfl (by omega) (by decide) dX2_joinPipe_136 (congrArg nI hgi) ?_
                    refine mh_iasn (i := i) (f := fun e => nI ((fun e => if e < i ∧ gm e = max (gm a) (gm b) then min (gm a) (gm b) else gm e) e)) hx hb hK.1 hP hS 1005 0 rfl rfl (by omega) (by decide) dX2_joinPipe_137 (fun H locs hP hS => ?_)
                    rw [fn_i (f := (fun e => if e < i ∧ gm e = max (gm a) (gm b) then min (gm a) (gm b) else gm e)) (v := gm i)] at hP
                    have hP := mh_eq (C' := yC cy ad z et mn (fun e => if e < (i + 1) ∧ gm e = max (gm a) (gm b) then min (gm a) (gm b) else gm e) G) (mh_eq (C' := yC cy ad z et mn (fun e => if e = i then gm i else (fun e => if e < i ∧ gm e = max (gm a) (gm b) then min (gm a) (gm b) else gm e) e) G) hP (yC_gm (gm := (fun e => if e < i ∧ gm e = max (gm a) (gm b) then min (gm a) (gm b) else gm e)) (g := fun e => if e = i then gm i else (fun e => if e < i ∧ gm e = max (gm a) (gm b) then min (gm a) (gm b) else gm e) e))) (fun r => by
                      congr 3
                      funext e
                      by_cases he : e = i
                      · subst he
                        rw [if_neg (fun q => hns q.2), if_pos rfl]
                      · rw [if_neg he]
                        exact ite_congr (propext ⟨fun q => ⟨by omega, q.2⟩, fun q => ⟨by omega, q.2⟩⟩) (fun _ => rfl) (fun _ => rfl))
                    obtain ⟨y, ey⟩ : ∃ y : Int32, y = nI i + 1 := ⟨_, rfl⟩
                    refine lv_iinc (v := y) (lv' := [(5, .int y), (4, .int (nI (max (gm a) (gm b)))), (3, .int (nI (min (gm a) (gm b)))), (0, .ref (ad 1000)), (1, .int (nI a)), (2, .int (nI b))]) hx hb dX2_joinPipe_138 hl (k := 0) rfl (by rw [ey]; rfl) (by decide) rfl (fun ls hl => ?_)
                    refine lv_goto (tgt := 99) hx hb dX2_joinPipe_141 (by decide) ?_
                    rw [nI_1] at ey
                    subst ey
                    exact ih (i + 1) H locs (by omega) hP hS ls (lv_sub hl [0, 1, 2, 3, 4, 5] rfl)
                  · skip
                    have hsm : gm i = max (gm a) (gm b) := (nI_eq (by omega) (by omega)).mp c123
                    refine lv_iload_n hx hb dX2_joinPipe_126 rfl (lv_at hl 2 rfl) ?_
                    refine lv_goto (tgt := 137) hx hb dX2_joinPipe_127 (by decide) ?_
                    refine mh_iasn (i := i) (f := fun e => nI ((fun e => if e < i ∧ gm e = max (gm a) (gm b) then min (gm a) (gm b) else gm e) e)) hx hb hK.1 hP hS 1005 0 rfl rfl (by omega) (by decide) dX2_joinPipe_137 (fun H locs hP hS => ?_)
                    rw [fn_i (f := (fun e => if e < i ∧ gm e = max (gm a) (gm b) then min (gm a) (gm b) else gm e)) (v := min (gm a) (gm b))] at hP
                    have hP := mh_eq (C' := yC cy ad z et mn (fun e => if e < (i + 1) ∧ gm e = max (gm a) (gm b) then min (gm a) (gm b) else gm e) G) (mh_eq (C' := yC cy ad z et mn (fun e => if e = i then min (gm a) (gm b) else (fun e => if e < i ∧ gm e = max (gm a) (gm b) then min (gm a) (gm b) else gm e) e) G) hP (yC_gm (gm := (fun e => if e < i ∧ gm e = max (gm a) (gm b) then min (gm a) (gm b) else gm e)) (g := fun e => if e = i then min (gm a) (gm b) else (fun e => if e < i ∧ gm e = max (gm a) (gm b) then min (gm a) (gm b) else gm e) e))) (fun r => by
                      congr 3
                      funext e
                      by_cases he : e = i
                      · subst he
                        rw [if_pos ⟨by omega, hsm⟩, if_pos rfl]
                      · rw [if_neg he]
                        exact ite_congr (propext ⟨fun q => ⟨by omega, q.2⟩, fun q => ⟨by omega, q.2⟩⟩) (fun _ => rfl) (fun _ => rfl))
                    obtain ⟨y, ey⟩ : ∃ y : Int32, y = nI i + 1 := ⟨_, rfl⟩
                    refine lv_iinc (v := y) (lv' := [(5, .int y), (4, .int (nI (max (gm a) (gm b)))), (3, .int (nI (min (gm a) (gm b)))), (0, .ref (ad 1000)), (1, .int (nI a)), (2, .int (nI b))]) hx hb dX2_joinPipe_138 hl (k := 0) rfl (by rw [ey]; rfl) (by decide) rfl (fun ls hl => ?_)
                    refine lv_goto (tgt := 99) hx hb dX2_joinPipe_141 (by decide) ?_
                    rw [nI_1] at ey
                    subst ey
                    exact ih (i + 1) H locs (by omega) hP hS ls (lv_sub hl [0, 1, 2, 3, 4, 5] rfl)
            have hP := mh_eq (C' := yC cy ad z et mn (fun e => if e < 0 ∧ gm e = max (gm a) (gm b) then min (gm a) (gm b) else gm e) G) hP (fun r => by
              congr 3)
            exact loop (zT z) 0 s.heap [] (Nat.zero_add _) hP hS ls (lv_sub hl [0, 1, 2, 3, 4, 5] rfl)
      · skip
        have hno : ¬ (∃ a1 b1, a1 < zT z ∧ b1 < zT z ∧ nI a = nI a1 ∧ nI b = nI b1 ∧ zGr z a1 ≠ zGr z b1) := fun ⟨a1, b1, q1, q2, q3, q4, q5⟩ => by
          have e1 := (nI_eq (by omega) (by omega)).mp q3
          have e2 := (nI_eq (by omega) (by omega)).mp q4
          subst e1 e2
          exact q5 ((hgg a b ha hb2).mp ((nI_eq (by omega) (by omega)).mp c28))
        refine lv_iconst (v := 0) hx hb dX2_joinPipe_31 (by decide) ?_
        rw [hQ]
        exact W.zret (v := 0) hx hb hr (by decide) (fun t9 ht9 _ => ⟨⟨_, (ad, yC cy ad z et mn gm G), rfl, Or.inr ⟨rfl, hno, rfl⟩, mh_hp ht9 (hP)⟩, hS.F ht9⟩) hS.2.2 dX2_joinPipe_32
set_option maxHeartbeats 4000000 in
set_option maxRecDepth 100000 in
/-- add -/
theorem kX2_add (l : Launch) (D : va_G) (cy : Nat → ClassId) (lo : Nat) (ad : Nat → Nat) (z : zS) (et : Nat → Nat) (mn : Nat → Int32) (gm : Nat → Nat) (G : Nat → Option va_E) (ch : Nat → List Nat) (hok : zOk z ch) (hy : yOk z ch et mn gm) (t lv j la : Nat) (kk : Int32) (hE : zE z < 200) (hla1 : la ≤ 1) : Met l yX2_add wX2_add { frames := 0, cells := 0, slots := 0, locals := 0 } (pcs D cy lo ad (yC cy ad z et mn gm G) [.ref (ad 1000), .int (nI t), .int kk, .int (nI lv), .long (lN j), .int (nI la)]) (qwi D lo (fun r u => r = 1 ∧ u = (ad, yC cy ad (uE (uVs z (zE z) (kk, lv, j, la, none)) (zE z + 1)) (fun k => if k = zE z then t else et k) mn gm G))) 0 0 (fun q => lo ≤ q) := by
  refine Met.ofW (cc := cX2_add) (maxL := 7) (ret := (some .boolean)) (by decide) rfl ?_
  intro p e s m args below meth c s₁ B hml hv
  obtain ⟨rfl, hz, hP, hK⟩ := hv
  have hx := B.exec
  have hb := B.bytes
  have hr := B.returns
  have hts : ∀ w ∈ wA, w.before [.ref (ad 1000), .int (nI t), .int kk, .int (nI lv), .long (lN j), .int (nI la)].toArray s = true := fun w h => atoms_spec (ws := wX2_add) B.pre w (List.mem_cons_of_mem _ h)
  have hown : s.vm.findClass RX2 = some m.cls := findClass_of_methodNamed B.named
  have hlocks := B.notSynchronized
  have hS : va_S (fun q => lo ≤ q) s.heap s.heap [] := va_S.rf
  have hl := lv_entry ([.ref (ad 1000), .int (nI t), .int kk, .int (nI lv), .long (lN j), .int (nI la)]) (n := 7) (Nat.le_of_ble_eq_true rfl)
  rw [lg_entry_eq]
  generalize (lg_sl ([.ref (ad 1000), .int (nI t), .int kk, .int (nI lv), .long (lN j), .int (nI la)]) ++ List.replicate (7 - (lg_sl ([.ref (ad 1000), .int (nI t), .int kk, .int (nI lv), .long (lN j), .int (nI la)])).length) Slot.unset).toArray = ls at hl ⊢
  have hl : lv_has ls 7 [(0, .ref (ad 1000)), (1, .int (nI t)), (2, .int kk), (3, .int (nI lv)), (4, .long (lN j)), (6, .int (nI la))] := hl
  obtain ⟨Q, hQ⟩ : ∃ Q, Q = MQ below (qwi D lo (fun r u => r = 1 ∧ u = (ad, yC cy ad (uE (uVs z (zE z) (kk, lv, j, la, none)) (zE z + 1)) (fun k => if k = zE z then t else et k) mn gm G))) [.ref (ad 1000), .int (nI t), .int kk, .int (nI lv), .long (lN j), .int (nI la)].toArray s 0 0 (fun q => lo ≤ q) := ⟨_, rfl⟩
  rw [← hQ]
  obtain ⟨hK1, hK20, hL1, hL9, hT32, hE200, hnd, hal, hla, hco, hgr, hch, hlt0, hev, hbf⟩ := id hok
  obtain ⟨hmn, hgm, hgg, het, hcc⟩ := id hy
  have hnar : vp_nar .boolean (nI la) = nI la := by
    rcases (show la = 0 ∨ la = 1 by omega) with q | q <;> rw [q] <;> decide
  refine lv_aload_n hx hb dX2_add_0 rfl (lv_at hl 0 rfl) ?_
  refine mh_get (ci := 2) (v := .ref (ad 1006)) hx hb hts wfX2 hown hK.1 hP 1000 rfl rfl 8 (by decide) (hts _ flX2_26) (fun _ h9 => h9) rfl dX2_add_1 ?_
  refine lv_aload_n hx hb dX2_add_4 rfl (lv_at hl 0 rfl) ?_
  refine mh_get (ci := 2) (v := .int (nI (zE z))) hx hb hts wfX2 hown hK.1 hP 1000 rfl rfl 13 (by decide) (hts _ flX2_66) (fun _ h9 => h9) rfl dX2_add_5 ?_
  refine lv_iload_n hx hb dX2_add_8 rfl (lv_at hl 1 rfl) ?_
  refine mh_iasn (i := (zE z)) hx hb hK.1 hP hS 1006 0 rfl rfl (by omega) (by decide) dX2_add_9 (fun H locs hP hS => ?_)
  refine lv_aload_n hx hb dX2_add_10 rfl (lv_at hl 0 rfl) ?_
  refine mh_get (ci := 2) (v := .ref (ad 1008)) hx hb hts wfX2 hown hK.1 hP 1000 rfl rfl 10 (by decide) (hts _ flX2_32) (fun _ h9 => h9) rfl dX2_add_11 ?_
  refine lv_aload_n hx hb dX2_add_14 rfl (lv_at hl 0 rfl) ?_
  refine mh_get (ci := 2) (v := .int (nI (zE z))) hx hb hts wfX2 hown hK.1 hP 1000 rfl rfl 13 (by decide) (hts _ flX2_66) (fun _ h9 => h9) rfl dX2_add_15 ?_
  refine lv_iload_n hx hb dX2_add_18 rfl (lv_at hl 2 rfl) ?_
  refine mh_iasn (i := (zE z)) hx hb hK.1 hP hS 1008 0 rfl rfl (by omega) (by decide) dX2_add_19 (fun H locs hP hS => ?_)
  refine lv_aload_n hx hb dX2_add_20 rfl (lv_at hl 0 rfl) ?_
  refine mh_get (ci := 2) (v := .ref (ad 1009)) hx hb hts wfX2 hown hK.1 hP 1000 rfl rfl 11 (by decide) (hts _ flX2_35) (fun _ h9 => h9) rfl dX2_add_21 ?_
  refine lv_aload_n hx hb dX2_add_24 rfl (lv_at hl 0 rfl) ?_
  refine mh_get (ci := 2) (v := .int (nI (zE z))) hx hb hts wfX2 hown hK.1 hP 1000 rfl rfl 13 (by decide) (hts _ flX2_66) (fun _ h9 => h9) rfl dX2_add_25 ?_
  refine lv_iload_n hx hb dX2_add_28 rfl (lv_at hl 3 rfl) ?_
  refine mh_iasn (i := (zE z)) hx hb hK.1 hP hS 1009 0 rfl rfl (by omega) (by decide) dX2_add_29 (fun H locs hP hS => ?_)
  refine lv_aload_n hx hb dX2_add_30 rfl (lv_at hl 0 rfl) ?_
  refine mh_get (ci := 2) (v := .ref (ad 1007)) hx hb hts wfX2 hown hK.1 hP 1000 rfl rfl 9 (by decide) (hts _ flX2_29) (fun _ h9 => h9) rfl dX2_add_31 ?_
  refine lv_aload_n hx hb dX2_add_34 rfl (lv_at hl 0 rfl) ?_
  refine mh_get (ci := 2) (v := .int (nI (zE z))) hx hb hts wfX2 hown hK.1 hP 1000 rfl rfl 13 (by decide) (hts _ flX2_66) (fun _ h9 => h9) rfl dX2_add_35 ?_
  refine lv_lload hx hb dX2_add_38 (lv_at hl 4 rfl) ?_
  refine mh_lasn (i := (zE z)) hx hb hK.1 hP hS 1007 1 rfl rfl (by omega) (by decide) dX2_add_40 (fun H locs hP hS => ?_)
  refine lv_aload_n hx hb dX2_add_41 rfl (lv_at hl 0 rfl) ?_
  refine mh_get (ci := 2) (v := .ref (ad 1010)) hx hb hts wfX2 hown hK.1 hP 1000 rfl rfl 12 (by decide) (hts _ flX2_38) (fun _ h9 => h9) rfl dX2_add_42 ?_
  refine lv_aload_n hx hb dX2_add_45 rfl (lv_at hl 0 rfl) ?_
  refine mh_get (ci := 2) (v := .int (nI (zE z))) hx hb hts wfX2 hown hK.1 hP 1000 rfl rfl 13 (by decide) (hts _ flX2_66) (fun _ h9 => h9) rfl dX2_add_46 ?_
  refine lv_iload hx hb dX2_add_49 (lv_at hl 5 rfl) ?_
  refine mh_zasn (i := zE z) hx hb hK.1 hP hS 1010 2 rfl rfl (by omega) (by decide) hnar dX2_add_51 (fun H locs hP hS => ?_)
  refine lv_aload_n hx hb dX2_add_52 rfl (lv_at hl 0 rfl) ?_
  refine lv_dup hx hb dX2_add_53 rfl ?_
  refine mh_get (ci := 2) (v := .int (nI (zE z))) hx hb hts wfX2 hown hK.1 hP 1000 rfl rfl 13 (by decide) (hts _ flX2_66) (fun _ h9 => h9) rfl dX2_add_54 ?_
  refine lv_iconst (v := 1) hx hb dX2_add_57 (by decide) ?_
  refine lv_iadd hx hb dX2_add_58 ?_
  rw [nI_1]
  refine mh_put (ci := 2) (v := .int (nI (zE z + 1))) (ty := .int) hx hb hts wfX2 tyX2 tyX2_ok nmX2 hown hK.1 hP hS 1000 rfl rfl 13 (by decide) (hts _ flX2_66) (fun _ h9 => h9) rfl (by decide +kernel) rfl rfl (Nat.le_of_ble_eq_true rfl) dX2_add_59 (fun H locs hP hS => ?_)
  refine lv_iconst (v := 1) hx hb dX2_add_62 (by decide) ?_
  rw [hQ]
  exact W.zret (v := 1) hx hb hr (by decide) (fun t9 ht9 _ => ⟨⟨_, (ad, yC cy ad (uE (uVs z (zE z) (kk, lv, j, la, none)) (zE z + 1)) (fun k => if k = zE z then t else et k) mn gm G), rfl, ⟨rfl, rfl⟩, mh_hp ht9 (mh_eq hP yC_add)⟩, hS.F ht9⟩) hS.2.2 dX2_add_63
set_option maxHeartbeats 4000000 in
set_option maxRecDepth 100000 in
/-- X2_held -/
theorem kX2_held (l : Launch) (D : va_G) (cy : Nat → ClassId) (lo : Nat) (ad : Nat → Nat) (z : zS) (et : Nat → Nat) (mn : Nat → Int32) (gm : Nat → Nat) (G : Nat → Option va_E) (ch : Nat → List Nat) (hok : zOk z ch) (hy : yOk z ch et mn gm) (kt kk : Int32) (h : Int64) : Met l yX2_held wX2_held { frames := 1, cells := 0, slots := 0, locals := 26 } (pcs D cy lo ad (yC cy ad z et mn gm G) [.ref (ad 1000), .int kt, .int kk, .long h]) (qwi D lo (fun r u => (r = 1 ∧ ∃ t i j, (t < zT z ∧ kt = nI t ∧ i < zK z ∧ kk = nI i ∧ j ≤ 1000000 ∧ h = lN j ∧ zE z < 200 ∧ zNx z ch t j) ∧ u = (ad, yC cy ad (uE (uVs z (zE z) (nI i, 0, j, 0, none)) (zE z + 1)) (fun k => if k = zE z then t else et k) mn gm G)) ∨ (r = 0 ∧ ¬ (∃ t i j, t < zT z ∧ kt = nI t ∧ i < zK z ∧ kk = nI i ∧ j ≤ 1000000 ∧ h = lN j ∧ zE z < 200 ∧ zNx z ch t j) ∧ u = (ad, yC cy ad z et mn gm G)))) 0 0 (fun q => lo ≤ q) := by
  refine Met.ofW (cc := cX2_held) (maxL := 5) (ret := (some .boolean)) (by decide) rfl ?_
  intro p e s m args below meth c s₁ B hml hv
  obtain ⟨rfl, hz, hP, hK⟩ := hv
  have hx := B.exec
  have hb := B.bytes
  have hr := B.returns
  have hts : ∀ w ∈ wA, w.before [.ref (ad 1000), .int kt, .int kk, .long h].toArray s = true := fun w h => atoms_spec (ws := wX2_held) B.pre w (List.mem_cons_of_mem _ h)
  have hown : s.vm.findClass RX2 = some m.cls := findClass_of_methodNamed B.named
  have hlocks := B.notSynchronized
  have hS : va_S (fun q => lo ≤ q) s.heap s.heap [] := va_S.rf
  have hl := lv_entry ([.ref (ad 1000), .int kt, .int kk, .long h]) (n := 5) (Nat.le_of_ble_eq_true rfl)
  rw [lg_entry_eq]
  generalize (lg_sl ([.ref (ad 1000), .int kt, .int kk, .long h]) ++ List.replicate (5 - (lg_sl ([.ref (ad 1000), .int kt, .int kk, .long h])).length) Slot.unset).toArray = ls at hl ⊢
  have hl : lv_has ls 5 [(0, .ref (ad 1000)), (1, .int kt), (2, .int kk), (3, .long h)] := hl
  obtain ⟨Q, hQ⟩ : ∃ Q, Q = MQ below (qwi D lo (fun r u => (r = 1 ∧ ∃ t i j, (t < zT z ∧ kt = nI t ∧ i < zK z ∧ kk = nI i ∧ j ≤ 1000000 ∧ h = lN j ∧ zE z < 200 ∧ zNx z ch t j) ∧ u = (ad, yC cy ad (uE (uVs z (zE z) (nI i, 0, j, 0, none)) (zE z + 1)) (fun k => if k = zE z then t else et k) mn gm G)) ∨ (r = 0 ∧ ¬ (∃ t i j, t < zT z ∧ kt = nI t ∧ i < zK z ∧ kk = nI i ∧ j ≤ 1000000 ∧ h = lN j ∧ zE z < 200 ∧ zNx z ch t j) ∧ u = (ad, yC cy ad z et mn gm G)))) [.ref (ad 1000), .int kt, .int kk, .long h].toArray s 0 0 (fun q => lo ≤ q) := ⟨_, rfl⟩
  rw [← hQ]
  obtain ⟨hK1, hK20, hL1, hL9, hT32, hE200, hnd, hal, hla, hco, hgr, hch, hlt0, hev, hbf⟩ := id hok
  obtain ⟨hmn, hgm, hgg, het, hcc⟩ := id hy
  refine lv_aload_n hx hb dX2_held_0 rfl (lv_at hl 0 rfl) ?_
  refine lv_iload_n hx hb dX2_held_1 rfl (lv_at hl 1 rfl) ?_
  refine rcV (n := 1) (As := [.int kt]) (rest := []) ⟨hx, hb, hml, hown, hts⟩ (kX2_isThing l D cy lo ad z et mn gm G kt ⟨hK20, hL9, hT32⟩) mlX2_63 imX2_isThing seX2_isThing inX2 cdX2_isThing (by decide +kernel) rfl rfl ⟨Nat.le_of_ble_eq_true rfl, Nat.le_of_ble_eq_true rfl⟩ hK hP hz rfl rfl rfl hl.1 rfl (Nat.le_of_ble_eq_true rfl) dX2_held_2 ⟨Nat.zero_le _, Nat.zero_le _⟩ (fun r2 hr2 => ?_)
  refine lv_if_eq (tgt := 59) hx hb dX2_held_5 (by decide) (fun c5 => ?_) (fun c5 => ?_)
  · skip
    have hno : ¬ (∃ t i j, t < zT z ∧ kt = nI t ∧ i < zK z ∧ kk = nI i ∧ j ≤ 1000000 ∧ h = lN j ∧ zE z < 200 ∧ zNx z ch t j) := fun ⟨t, _, _, q1, q2, _⟩ => sb_0 hr2 c5 ⟨t, q1, q2⟩
    refine lv_iconst (v := 0) hx hb dX2_held_59 (by decide) ?_
    rw [hQ]
    exact W.zret (v := 0) hx hb hr (by decide) (fun t9 ht9 _ => ⟨⟨_, (ad, yC cy ad z et mn gm G), rfl, Or.inr ⟨rfl, hno, rfl⟩, mh_hp ht9 (hP)⟩, hS.F ht9⟩) hS.2.2 dX2_held_60
  · skip
    have hA := sb_1 hr2 c5
    refine lv_aload_n hx hb dX2_held_8 rfl (lv_at hl 0 rfl) ?_
    refine lv_iload_n hx hb dX2_held_9 rfl (lv_at hl 2 rfl) ?_
    refine rcV (n := 1) (As := [.int kk]) (rest := []) ⟨hx, hb, hml, hown, hts⟩ (kX2_isKind l D cy lo ad z et mn gm G kk ⟨hK20, hL9, hT32⟩) mlX2_54 imX2_isKind seX2_isKind inX2 cdX2_isKind (by decide +kernel) rfl rfl ⟨Nat.le_of_ble_eq_true rfl, Nat.le_of_ble_eq_true rfl⟩ hK hP hz rfl rfl rfl hl.1 rfl (Nat.le_of_ble_eq_true rfl) dX2_held_10 ⟨Nat.zero_le _, Nat.zero_le _⟩ (fun r10 hr10 => ?_)
    refine lv_if_eq (tgt := 59) hx hb dX2_held_13 (by decide) (fun c13 => ?_) (fun c13 => ?_)
    · skip
      have hno : ¬ (∃ t i j, t < zT z ∧ kt = nI t ∧ i < zK z ∧ kk = nI i ∧ j ≤ 1000000 ∧ h = lN j ∧ zE z < 200 ∧ zNx z ch t j) := fun ⟨_, i, _, _, _, q1, q2, _⟩ => sb_0 hr10 c13 ⟨i, q1, q2⟩
      refine lv_iconst (v := 0) hx hb dX2_held_59 (by decide) ?_
      rw [hQ]
      exact W.zret (v := 0) hx hb hr (by decide) (fun t9 ht9 _ => ⟨⟨_, (ad, yC cy ad z et mn gm G), rfl, Or.inr ⟨rfl, hno, rfl⟩, mh_hp ht9 (hP)⟩, hS.F ht9⟩) hS.2.2 dX2_held_60
    · skip
      have hB := sb_1 hr10 c13
      refine lv_lload_n hx hb dX2_held_16 rfl (lv_at hl 3 rfl) ?_
      refine rcS (n := 1) (As := [.long h]) (rest := []) ⟨hx, hb, hml, hown, hts⟩ (kX2_isHour l D cy lo ad (yC cy ad z et mn gm G) h) mlX2_69 stX2_isHour inX2 cdX2_isHour (by decide +kernel) rfl rfl ⟨Nat.le_of_ble_eq_true rfl, Nat.le_of_ble_eq_true rfl⟩ hK hP hz rfl hl.1 rfl (Nat.le_of_ble_eq_true rfl) dX2_held_17 ⟨Nat.zero_le _, Nat.zero_le _⟩ (fun r17 hr17 => ?_)
      refine lv_if_eq (tgt := 59) hx hb dX2_held_20 (by decide) (fun c20 => ?_) (fun c20 => ?_)
      · skip
        have hno : ¬ (∃ t i j, t < zT z ∧ kt = nI t ∧ i < zK z ∧ kk = nI i ∧ j ≤ 1000000 ∧ h = lN j ∧ zE z < 200 ∧ zNx z ch t j) := fun ⟨_, _, j, _, _, _, _, q1, q2, _⟩ => sb_0 hr17 c20 ⟨j, q1, q2⟩
        refine lv_iconst (v := 0) hx hb dX2_held_59 (by decide) ?_
        rw [hQ]
        exact W.zret (v := 0) hx hb hr (by decide) (fun t9 ht9 _ => ⟨⟨_, (ad, yC cy ad z et mn gm G), rfl, Or.inr ⟨rfl, hno, rfl⟩, mh_hp ht9 (hP)⟩, hS.F ht9⟩) hS.2.2 dX2_held_60
      · skip
        obtain ⟨t, ht, rfl⟩ := hA
        obtain ⟨i, hi, rfl⟩ := hB
        obtain ⟨j, hj, rfl⟩ := sb_1 hr17 c20
        refine lv_aload_n hx hb dX2_held_23 rfl (lv_at hl 0 rfl) ?_
        refine lv_iload_n hx hb dX2_held_24 rfl (lv_at hl 1 rfl) ?_
        refine lv_lload_n hx hb dX2_held_25 rfl (lv_at hl 3 rfl) ?_
        refine lv_iconst (v := 1) hx hb dX2_held_26 (by decide) ?_
        refine rcV (n := 3) (As := [.int (nI t), .long (lN j), .int 1]) (rest := []) ⟨hx, hb, hml, hown, hts⟩ (kX2_isBehind l D cy lo ad z et mn gm G ch hok hy t j 1 ht hj) mlX2_73 imX2_isBehind seX2_isBehind inX2 cdX2_isBehind (by decide +kernel) rfl rfl ⟨Nat.le_of_ble_eq_true rfl, Nat.le_of_ble_eq_true rfl⟩ hK hP hz rfl rfl rfl hl.1 rfl (Nat.le_of_ble_eq_true rfl) dX2_held_27 ⟨Nat.zero_le _, Nat.zero_le _⟩ (fun r27 hr27 => ?_)
        rw [bh_nx hy ht] at hr27
        refine lv_if_eq (tgt := 59) hx hb dX2_held_30 (by decide) (fun c30 => ?_) (fun c30 => ?_)
        · skip
          have hno : ¬ (∃ t1 i1 j1, t1 < zT z ∧ nI t = nI t1 ∧ i1 < zK z ∧ nI i = nI i1 ∧ j1 ≤ 1000000 ∧ lN j = lN j1 ∧ zE z < 200 ∧ zNx z ch t1 j1) := fun ⟨t1, i1, j1, _, q1, _, _, _, q2, _, q4⟩ => by
            have e1 := (nI_eq (by omega) (by omega)).mp q1
            have e2 := (lN_eq (by omega) (by omega)).mp q2
            subst e1 e2
            exact sb_0 hr27 c30 q4
          refine lv_iconst (v := 0) hx hb dX2_held_59 (by decide) ?_
          rw [hQ]
          exact W.zret (v := 0) hx hb hr (by decide) (fun t9 ht9 _ => ⟨⟨_, (ad, yC cy ad z et mn gm G), rfl, Or.inr ⟨rfl, hno, rfl⟩, mh_hp ht9 (hP)⟩, hS.F ht9⟩) hS.2.2 dX2_held_60
        · skip
          have hnx := sb_1 hr27 c30
          refine lv_aload_n hx hb dX2_held_33 rfl (lv_at hl 0 rfl) ?_
          refine mh_get (ci := 2) (v := .int (nI (zE z))) hx hb hts wfX2 hown hK.1 hP 1000 rfl rfl 13 (by decide) (hts _ flX2_66) (fun _ h9 => h9) rfl dX2_held_34 ?_
          refine lv_sipush (v := 200) hx hb dX2_held_37 (by decide) ?_
          refine lv_icmp_ge (tgt := 59) hx hb dX2_held_40 (by decide) (fun c40 => ?_) (fun c40 => ?_)
          · skip
            have hno : ¬ (∃ t1 i1 j1, t1 < zT z ∧ nI t = nI t1 ∧ i1 < zK z ∧ nI i = nI i1 ∧ j1 ≤ 1000000 ∧ lN j = lN j1 ∧ zE z < 200 ∧ zNx z ch t1 j1) := fun ⟨_, _, _, _, _, _, _, _, _, q, _⟩ => nI_ge (b := 200) q (by omega) c40
            refine lv_iconst (v := 0) hx hb dX2_held_59 (by decide) ?_
            rw [hQ]
            exact W.zret (v := 0) hx hb hr (by decide) (fun t9 ht9 _ => ⟨⟨_, (ad, yC cy ad z et mn gm G), rfl, Or.inr ⟨rfl, hno, rfl⟩, mh_hp ht9 (hP)⟩, hS.F ht9⟩) hS.2.2 dX2_held_60
          · skip
            have hE : zE z < 200 := Nat.lt_of_not_le (fun q => c40 (nI_le (a := 200) q (by omega)))
            refine lv_aload_n hx hb dX2_held_43 rfl (lv_at hl 0 rfl) ?_
            refine lv_iload_n hx hb dX2_held_44 rfl (lv_at hl 1 rfl) ?_
            refine lv_iload_n hx hb dX2_held_45 rfl (lv_at hl 2 rfl) ?_
            refine lv_iconst (v := 0) hx hb dX2_held_46 (by decide) ?_
            refine lv_lload_n hx hb dX2_held_47 rfl (lv_at hl 3 rfl) ?_
            refine lv_iconst (v := 0) hx hb dX2_held_48 (by decide) ?_
            refine rwV (n := 5) (As := [.int (nI t), .int (nI i), .int 0, .long (lN j), .int 0]) (rest := []) ⟨hx, hb, hml, hown, hts⟩ (kX2_add l D cy lo ad z et mn gm G ch hok hy t 0 j 0 (nI i) hE (by decide)) mlX2_77 imX2_add seX2_add inX2 cdX2_add (by decide +kernel) rfl rfl ⟨Nat.le_of_ble_eq_true rfl, Nat.le_of_ble_eq_true rfl⟩ hK hP hz rfl rfl hS rfl hl.1 rfl (Nat.le_of_ble_eq_true rfl) dX2_held_49 ⟨Nat.zero_le _, Nat.zero_le _⟩ (fun r9 u9 H locs hu hP _ hS => ?_)
            obtain ⟨rfl, rfl⟩ := hu
            dsimp only at hP
            refine lv_if_eq (tgt := 59) hx hb dX2_held_52 (by decide) (fun c52 => ?_) (fun c52 => ?_)
            · skip
              exact absurd c52 (by decide)
            · skip
              refine lv_iconst (v := 1) hx hb dX2_held_55 (by decide) ?_
              refine lv_goto (tgt := 60) hx hb dX2_held_56 (by decide) ?_
              rw [hQ]
              exact W.zret (v := 1) hx hb hr (by decide) (fun t9 ht9 _ => ⟨⟨_, (ad, yC cy ad (uE (uVs z (zE z) (nI i, 0, j, 0, none)) (zE z + 1)) (fun k => if k = zE z then t else et k) mn gm G), rfl, Or.inl ⟨rfl, t, i, j, ⟨ht, rfl, hi, rfl, hj, rfl, hE, hnx⟩, rfl⟩, mh_hp ht9 (hP)⟩, hS.F ht9⟩) hS.2.2 dX2_held_60
set_option maxHeartbeats 4000000 in
set_option maxRecDepth 100000 in
/-- X2_cleaned -/
theorem kX2_cleaned (l : Launch) (D : va_G) (cy : Nat → ClassId) (lo : Nat) (ad : Nat → Nat) (z : zS) (et : Nat → Nat) (mn : Nat → Int32) (gm : Nat → Nat) (G : Nat → Option va_E) (ch : Nat → List Nat) (hok : zOk z ch) (hy : yOk z ch et mn gm) (kt kk : Int32) (h : Int64) : Met l yX2_cleaned wX2_cleaned { frames := 1, cells := 0, slots := 0, locals := 26 } (pcs D cy lo ad (yC cy ad z et mn gm G) [.ref (ad 1000), .int kt, .int kk, .long h]) (qwi D lo (fun r u => (r = 1 ∧ ∃ t i j, (t < zT z ∧ kt = nI t ∧ 1 ≤ i ∧ i ≤ zL z ∧ kk = nI i ∧ j ≤ 1000000 ∧ h = lN j ∧ zE z < 200 ∧ zNx z ch t j) ∧ u = (ad, yC cy ad (uE (uVs z (zE z) (-1, i, j, 0, none)) (zE z + 1)) (fun k => if k = zE z then t else et k) mn gm G)) ∨ (r = 0 ∧ ¬ (∃ t i j, t < zT z ∧ kt = nI t ∧ 1 ≤ i ∧ i ≤ zL z ∧ kk = nI i ∧ j ≤ 1000000 ∧ h = lN j ∧ zE z < 200 ∧ zNx z ch t j) ∧ u = (ad, yC cy ad z et mn gm G)))) 0 0 (fun q => lo ≤ q) := by
  refine Met.ofW (cc := cX2_cleaned) (maxL := 5) (ret := (some .boolean)) (by decide) rfl ?_
  intro p e s m args below meth c s₁ B hml hv
  obtain ⟨rfl, hz, hP, hK⟩ := hv
  have hx := B.exec
  have hb := B.bytes
  have hr := B.returns
  have hts : ∀ w ∈ wA, w.before [.ref (ad 1000), .int kt, .int kk, .long h].toArray s = true := fun w h => atoms_spec (ws := wX2_cleaned) B.pre w (List.mem_cons_of_mem _ h)
  have hown : s.vm.findClass RX2 = some m.cls := findClass_of_methodNamed B.named
  have hlocks := B.notSynchronized
  have hS : va_S (fun q => lo ≤ q) s.heap s.heap [] := va_S.rf
  have hl := lv_entry ([.ref (ad 1000), .int kt, .int kk, .long h]) (n := 5) (Nat.le_of_ble_eq_true rfl)
  rw [lg_entry_eq]
  generalize (lg_sl ([.ref (ad 1000), .int kt, .int kk, .long h]) ++ List.replicate (5 - (lg_sl ([.ref (ad 1000), .int kt, .int kk, .long h])).length) Slot.unset).toArray = ls at hl ⊢
  have hl : lv_has ls 5 [(0, .ref (ad 1000)), (1, .int kt), (2, .int kk), (3, .long h)] := hl
  obtain ⟨Q, hQ⟩ : ∃ Q, Q = MQ below (qwi D lo (fun r u => (r = 1 ∧ ∃ t i j, (t < zT z ∧ kt = nI t ∧ 1 ≤ i ∧ i ≤ zL z ∧ kk = nI i ∧ j ≤ 1000000 ∧ h = lN j ∧ zE z < 200 ∧ zNx z ch t j) ∧ u = (ad, yC cy ad (uE (uVs z (zE z) (-1, i, j, 0, none)) (zE z + 1)) (fun k => if k = zE z then t else et k) mn gm G)) ∨ (r = 0 ∧ ¬ (∃ t i j, t < zT z ∧ kt = nI t ∧ 1 ≤ i ∧ i ≤ zL z ∧ kk = nI i ∧ j ≤ 1000000 ∧ h = lN j ∧ zE z < 200 ∧ zNx z ch t j) ∧ u = (ad, yC cy ad z et mn gm G)))) [.ref (ad 1000), .int kt, .int kk, .long h].toArray s 0 0 (fun q => lo ≤ q) := ⟨_, rfl⟩
  rw [← hQ]
  obtain ⟨hK1, hK20, hL1, hL9, hT32, hE200, hnd, hal, hla, hco, hgr, hch, hlt0, hev, hbf⟩ := id hok
  obtain ⟨hmn, hgm, hgg, het, hcc⟩ := id hy
  refine lv_aload_n hx hb dX2_cleaned_0 rfl (lv_at hl 0 rfl) ?_
  refine lv_iload_n hx hb dX2_cleaned_1 rfl (lv_at hl 1 rfl) ?_
  refine rcV (n := 1) (As := [.int kt]) (rest := []) ⟨hx, hb, hml, hown, hts⟩ (kX2_isThing l D cy lo ad z et mn gm G kt ⟨hK20, hL9, hT32⟩) mlX2_63 imX2_isThing seX2_isThing inX2 cdX2_isThing (by decide +kernel) rfl rfl ⟨Nat.le_of_ble_eq_true rfl, Nat.le_of_ble_eq_true rfl⟩ hK hP hz rfl rfl rfl hl.1 rfl (Nat.le_of_ble_eq_true rfl) dX2_cleaned_2 ⟨Nat.zero_le _, Nat.zero_le _⟩ (fun r2 hr2 => ?_)
  refine lv_if_eq (tgt := 59) hx hb dX2_cleaned_5 (by decide) (fun c5 => ?_) (fun c5 => ?_)
  · skip
    have hno : ¬ (∃ t i j, t < zT z ∧ kt = nI t ∧ 1 ≤ i ∧ i ≤ zL z ∧ kk = nI i ∧ j ≤ 1000000 ∧ h = lN j ∧ zE z < 200 ∧ zNx z ch t j) := fun ⟨t, _, _, q1, q2, _⟩ => sb_0 hr2 c5 ⟨t, q1, q2⟩
    refine lv_iconst (v := 0) hx hb dX2_cleaned_59 (by decide) ?_
    rw [hQ]
    exact W.zret (v := 0) hx hb hr (by decide) (fun t9 ht9 _ => ⟨⟨_, (ad, yC cy ad z et mn gm G), rfl, Or.inr ⟨rfl, hno, rfl⟩, mh_hp ht9 (hP)⟩, hS.F ht9⟩) hS.2.2 dX2_cleaned_60
  · skip
    have hA := sb_1 hr2 c5
    refine lv_aload_n hx hb dX2_cleaned_8 rfl (lv_at hl 0 rfl) ?_
    refine lv_iload_n hx hb dX2_cleaned_9 rfl (lv_at hl 2 rfl) ?_
    refine rcV (n := 1) (As := [.int kk]) (rest := []) ⟨hx, hb, hml, hown, hts⟩ (kX2_isLevel l D cy lo ad z et mn gm G kk ⟨hK20, hL9, hT32⟩) mlX2_58 imX2_isLevel seX2_isLevel inX2 cdX2_isLevel (by decide +kernel) rfl rfl ⟨Nat.le_of_ble_eq_true rfl, Nat.le_of_ble_eq_true rfl⟩ hK hP hz rfl rfl rfl hl.1 rfl (Nat.le_of_ble_eq_true rfl) dX2_cleaned_10 ⟨Nat.zero_le _, Nat.zero_le _⟩ (fun r10 hr10 => ?_)
    refine lv_if_eq (tgt := 59) hx hb dX2_cleaned_13 (by decide) (fun c13 => ?_) (fun c13 => ?_)
    · skip
      have hno : ¬ (∃ t i j, t < zT z ∧ kt = nI t ∧ 1 ≤ i ∧ i ≤ zL z ∧ kk = nI i ∧ j ≤ 1000000 ∧ h = lN j ∧ zE z < 200 ∧ zNx z ch t j) := fun ⟨_, i, _, _, _, q1, q2, q3, _⟩ => sb_0 hr10 c13 ⟨i, q1, q2, q3⟩
      refine lv_iconst (v := 0) hx hb dX2_cleaned_59 (by decide) ?_
      rw [hQ]
      exact W.zret (v := 0) hx hb hr (by decide) (fun t9 ht9 _ => ⟨⟨_, (ad, yC cy ad z et mn gm G), rfl, Or.inr ⟨rfl, hno, rfl⟩, mh_hp ht9 (hP)⟩, hS.F ht9⟩) hS.2.2 dX2_cleaned_60
    · skip
      have hB := sb_1 hr10 c13
      refine lv_lload_n hx hb dX2_cleaned_16 rfl (lv_at hl 3 rfl) ?_
      refine rcS (n := 1) (As := [.long h]) (rest := []) ⟨hx, hb, hml, hown, hts⟩ (kX2_isHour l D cy lo ad (yC cy ad z et mn gm G) h) mlX2_69 stX2_isHour inX2 cdX2_isHour (by decide +kernel) rfl rfl ⟨Nat.le_of_ble_eq_true rfl, Nat.le_of_ble_eq_true rfl⟩ hK hP hz rfl hl.1 rfl (Nat.le_of_ble_eq_true rfl) dX2_cleaned_17 ⟨Nat.zero_le _, Nat.zero_le _⟩ (fun r17 hr17 => ?_)
      refine lv_if_eq (tgt := 59) hx hb dX2_cleaned_20 (by decide) (fun c20 => ?_) (fun c20 => ?_)
      · skip
        have hno : ¬ (∃ t i j, t < zT z ∧ kt = nI t ∧ 1 ≤ i ∧ i ≤ zL z ∧ kk = nI i ∧ j ≤ 1000000 ∧ h = lN j ∧ zE z < 200 ∧ zNx z ch t j) := fun ⟨_, _, j, _, _, _, _, _, q1, q2, _⟩ => sb_0 hr17 c20 ⟨j, q1, q2⟩
        refine lv_iconst (v := 0) hx hb dX2_cleaned_59 (by decide) ?_
        rw [hQ]
        exact W.zret (v := 0) hx hb hr (by decide) (fun t9 ht9 _ => ⟨⟨_, (ad, yC cy ad z et mn gm G), rfl, Or.inr ⟨rfl, hno, rfl⟩, mh_hp ht9 (hP)⟩, hS.F ht9⟩) hS.2.2 dX2_cleaned_60
      · skip
        obtain ⟨t, ht, rfl⟩ := hA
        obtain ⟨i, hi1, hi, rfl⟩ := hB
        obtain ⟨j, hj, rfl⟩ := sb_1 hr17 c20
        refine lv_aload_n hx hb dX2_cleaned_23 rfl (lv_at hl 0 rfl) ?_
        refine lv_iload_n hx hb dX2_cleaned_24 rfl (lv_at hl 1 rfl) ?_
        refine lv_lload_n hx hb dX2_cleaned_25 rfl (lv_at hl 3 rfl) ?_
        refine lv_iconst (v := 1) hx hb dX2_cleaned_26 (by decide) ?_
        refine rcV (n := 3) (As := [.int (nI t), .long (lN j), .int 1]) (rest := []) ⟨hx, hb, hml, hown, hts⟩ (kX2_isBehind l D cy lo ad z et mn gm G ch hok hy t j 1 ht hj) mlX2_73 imX2_isBehind seX2_isBehind inX2 cdX2_isBehind (by decide +kernel) rfl rfl ⟨Nat.le_of_ble_eq_true rfl, Nat.le_of_ble_eq_true rfl⟩ hK hP hz rfl rfl rfl hl.1 rfl (Nat.le_of_ble_eq_true rfl) dX2_cleaned_27 ⟨Nat.zero_le _, Nat.zero_le _⟩ (fun r27 hr27 => ?_)
        rw [bh_nx hy ht] at hr27
        refine lv_if_eq (tgt := 59) hx hb dX2_cleaned_30 (by decide) (fun c30 => ?_) (fun c30 => ?_)
        · skip
          have hno : ¬ (∃ t1 i1 j1, t1 < zT z ∧ nI t = nI t1 ∧ 1 ≤ i1 ∧ i1 ≤ zL z ∧ nI i = nI i1 ∧ j1 ≤ 1000000 ∧ lN j = lN j1 ∧ zE z < 200 ∧ zNx z ch t1 j1) := fun ⟨t1, i1, j1, _, q1, _, _, _, _, q2, _, q4⟩ => by
            have e1 := (nI_eq (by omega) (by omega)).mp q1
            have e2 := (lN_eq (by omega) (by omega)).mp q2
            subst e1 e2
            exact sb_0 hr27 c30 q4
          refine lv_iconst (v := 0) hx hb dX2_cleaned_59 (by decide) ?_
          rw [hQ]
          exact W.zret (v := 0) hx hb hr (by decide) (fun t9 ht9 _ => ⟨⟨_, (ad, yC cy ad z et mn gm G), rfl, Or.inr ⟨rfl, hno, rfl⟩, mh_hp ht9 (hP)⟩, hS.F ht9⟩) hS.2.2 dX2_cleaned_60
        · skip
          have hnx := sb_1 hr27 c30
          refine lv_aload_n hx hb dX2_cleaned_33 rfl (lv_at hl 0 rfl) ?_
          refine mh_get (ci := 2) (v := .int (nI (zE z))) hx hb hts wfX2 hown hK.1 hP 1000 rfl rfl 13 (by decide) (hts _ flX2_66) (fun _ h9 => h9) rfl dX2_cleaned_34 ?_
          refine lv_sipush (v := 200) hx hb dX2_cleaned_37 (by decide) ?_
          refine lv_icmp_ge (tgt := 59) hx hb dX2_cleaned_40 (by decide) (fun c40 => ?_) (fun c40 => ?_)
          · skip
            have hno : ¬ (∃ t1 i1 j1, t1 < zT z ∧ nI t = nI t1 ∧ 1 ≤ i1 ∧ i1 ≤ zL z ∧ nI i = nI i1 ∧ j1 ≤ 1000000 ∧ lN j = lN j1 ∧ zE z < 200 ∧ zNx z ch t1 j1) := fun ⟨_, _, _, _, _, _, _, _, _, _, q, _⟩ => nI_ge (b := 200) q (by omega) c40
            refine lv_iconst (v := 0) hx hb dX2_cleaned_59 (by decide) ?_
            rw [hQ]
            exact W.zret (v := 0) hx hb hr (by decide) (fun t9 ht9 _ => ⟨⟨_, (ad, yC cy ad z et mn gm G), rfl, Or.inr ⟨rfl, hno, rfl⟩, mh_hp ht9 (hP)⟩, hS.F ht9⟩) hS.2.2 dX2_cleaned_60
          · skip
            have hE : zE z < 200 := Nat.lt_of_not_le (fun q => c40 (nI_le (a := 200) q (by omega)))
            refine lv_aload_n hx hb dX2_cleaned_43 rfl (lv_at hl 0 rfl) ?_
            refine lv_iload_n hx hb dX2_cleaned_44 rfl (lv_at hl 1 rfl) ?_
            refine lv_iconst (v := (-1)) hx hb dX2_cleaned_45 (by decide) ?_
            refine lv_iload_n hx hb dX2_cleaned_46 rfl (lv_at hl 2 rfl) ?_
            refine lv_lload_n hx hb dX2_cleaned_47 rfl (lv_at hl 3 rfl) ?_
            refine lv_iconst (v := 0) hx hb dX2_cleaned_48 (by decide) ?_
            refine rwV (n := 5) (As := [.int (nI t), .int (-1), .int (nI i), .long (lN j), .int 0]) (rest := []) ⟨hx, hb, hml, hown, hts⟩ (kX2_add l D cy lo ad z et mn gm G ch hok hy t i j 0 (-1) hE (by decide)) mlX2_77 imX2_add seX2_add inX2 cdX2_add (by decide +kernel) rfl rfl ⟨Nat.le_of_ble_eq_true rfl, Nat.le_of_ble_eq_true rfl⟩ hK hP hz rfl rfl hS rfl hl.1 rfl (Nat.le_of_ble_eq_true rfl) dX2_cleaned_49 ⟨Nat.zero_le _, Nat.zero_le _⟩ (fun r9 u9 H locs hu hP _ hS => ?_)
            obtain ⟨rfl, rfl⟩ := hu
            dsimp only at hP
            refine lv_if_eq (tgt := 59) hx hb dX2_cleaned_52 (by decide) (fun c52 => ?_) (fun c52 => ?_)
            · skip
              exact absurd c52 (by decide)
            · skip
              refine lv_iconst (v := 1) hx hb dX2_cleaned_55 (by decide) ?_
              refine lv_goto (tgt := 60) hx hb dX2_cleaned_56 (by decide) ?_
              rw [hQ]
              exact W.zret (v := 1) hx hb hr (by decide) (fun t9 ht9 _ => ⟨⟨_, (ad, yC cy ad (uE (uVs z (zE z) (-1, i, j, 0, none)) (zE z + 1)) (fun k => if k = zE z then t else et k) mn gm G), rfl, Or.inl ⟨rfl, t, i, j, ⟨ht, rfl, hi1, hi, rfl, hj, rfl, hE, hnx⟩, rfl⟩, mh_hp ht9 (hP)⟩, hS.F ht9⟩) hS.2.2 dX2_cleaned_60
set_option maxHeartbeats 4000000 in
set_option maxRecDepth 100000 in
/-- told -/
theorem kX2_told (l : Launch) (D : va_G) (cy : Nat → ClassId) (lo : Nat) (ad : Nat → Nat) (z : zS) (et : Nat → Nat) (mn : Nat → Int32) (gm : Nat → Nat) (G : Nat → Option va_E) (ch : Nat → List Nat) (hok : zOk z ch) (hy : yOk z ch et mn gm) (kt kk : Int32) (h on : Int64) : Met l yX2_told wX2_told { frames := 1, cells := 0, slots := 0, locals := 26 } (pcs D cy lo ad (yC cy ad z et mn gm G) [.ref (ad 1000), .int kt, .int kk, .long h, .long on]) (qwi D lo (fun r u => (r = 1 ∧ ∃ t i j o, (t < zT z ∧ kt = nI t ∧ i < zK z ∧ kk = nI i ∧ j ≤ 1000000 ∧ h = lN j ∧ o ≤ 1000000 ∧ on = lN o ∧ j ≤ o ∧ zLH z (ch t) ≤ o ∧ zE z < 200) ∧ u = (ad, yC cy ad (uE (uVs z (zE z) (nI i, 0, j, 1, none)) (zE z + 1)) (fun k => if k = zE z then t else et k) mn gm G)) ∨ (r = 0 ∧ ¬ (∃ t i j o, t < zT z ∧ kt = nI t ∧ i < zK z ∧ kk = nI i ∧ j ≤ 1000000 ∧ h = lN j ∧ o ≤ 1000000 ∧ on = lN o ∧ j ≤ o ∧ zLH z (ch t) ≤ o ∧ zE z < 200) ∧ u = (ad, yC cy ad z et mn gm G)))) 0 0 (fun q => lo ≤ q) := by
  refine Met.ofW (cc := cX2_told) (maxL := 7) (ret := (some .boolean)) (by decide) rfl ?_
  intro p e s m args below meth c s₁ B hml hv
  obtain ⟨rfl, hz, hP, hK⟩ := hv
  have hx := B.exec
  have hb := B.bytes
  have hr := B.returns
  have hts : ∀ w ∈ wA, w.before [.ref (ad 1000), .int kt, .int kk, .long h, .long on].toArray s = true := fun w h => atoms_spec (ws := wX2_told) B.pre w (List.mem_cons_of_mem _ h)
  have hown : s.vm.findClass RX2 = some m.cls := findClass_of_methodNamed B.named
  have hlocks := B.notSynchronized
  have hS : va_S (fun q => lo ≤ q) s.heap s.heap [] := va_S.rf
  have hl := lv_entry ([.ref (ad 1000), .int kt, .int kk, .long h, .long on]) (n := 7) (Nat.le_of_ble_eq_true rfl)
  rw [lg_entry_eq]
  generalize (lg_sl ([.ref (ad 1000), .int kt, .int kk, .long h, .long on]) ++ List.replicate (7 - (lg_sl ([.ref (ad 1000), .int kt, .int kk, .long h, .long on])).length) Slot.unset).toArray = ls at hl ⊢
  have hl : lv_has ls 7 [(0, .ref (ad 1000)), (1, .int kt), (2, .int kk), (3, .long h), (5, .long on)] := hl
  obtain ⟨Q, hQ⟩ : ∃ Q, Q = MQ below (qwi D lo (fun r u => (r = 1 ∧ ∃ t i j o, (t < zT z ∧ kt = nI t ∧ i < zK z ∧ kk = nI i ∧ j ≤ 1000000 ∧ h = lN j ∧ o ≤ 1000000 ∧ on = lN o ∧ j ≤ o ∧ zLH z (ch t) ≤ o ∧ zE z < 200) ∧ u = (ad, yC cy ad (uE (uVs z (zE z) (nI i, 0, j, 1, none)) (zE z + 1)) (fun k => if k = zE z then t else et k) mn gm G)) ∨ (r = 0 ∧ ¬ (∃ t i j o, t < zT z ∧ kt = nI t ∧ i < zK z ∧ kk = nI i ∧ j ≤ 1000000 ∧ h = lN j ∧ o ≤ 1000000 ∧ on = lN o ∧ j ≤ o ∧ zLH z (ch t) ≤ o ∧ zE z < 200) ∧ u = (ad, yC cy ad z et mn gm G)))) [.ref (ad 1000), .int kt, .int kk, .long h, .long on].toArray s 0 0 (fun q => lo ≤ q) := ⟨_, rfl⟩
  rw [← hQ]
  obtain ⟨hK1, hK20, hL1, hL9, hT32, hE200, hnd, hal, hla, hco, hgr, hch, hlt0, hev, hbf⟩ := id hok
  obtain ⟨hmn, hgm, hgg, het, hcc⟩ := id hy
  refine lv_aload_n hx hb dX2_told_0 rfl (lv_at hl 0 rfl) ?_
  refine lv_iload_n hx hb dX2_told_1 rfl (lv_at hl 1 rfl) ?_
  refine rcV (n := 1) (As := [.int kt]) (rest := []) ⟨hx, hb, hml, hown, hts⟩ (kX2_isThing l D cy lo ad z et mn gm G kt ⟨hK20, hL9, hT32⟩) mlX2_63 imX2_isThing seX2_isThing inX2 cdX2_isThing (by decide +kernel) rfl rfl ⟨Nat.le_of_ble_eq_true rfl, Nat.le_of_ble_eq_true rfl⟩ hK hP hz rfl rfl rfl hl.1 rfl (Nat.le_of_ble_eq_true rfl) dX2_told_2 ⟨Nat.zero_le _, Nat.zero_le _⟩ (fun r2 hr2 => ?_)
  refine lv_if_eq (tgt := 75) hx hb dX2_told_5 (by decide) (fun c5 => ?_) (fun c5 => ?_)
  · skip
    have hno : ¬ (∃ t i j o, t < zT z ∧ kt = nI t ∧ i < zK z ∧ kk = nI i ∧ j ≤ 1000000 ∧ h = lN j ∧ o ≤ 1000000 ∧ on = lN o ∧ j ≤ o ∧ zLH z (ch t) ≤ o ∧ zE z < 200) := fun ⟨t, _, _, _, q1, q2, _⟩ => sb_0 hr2 c5 ⟨t, q1, q2⟩
    refine lv_iconst (v := 0) hx hb dX2_told_75 (by decide) ?_
    rw [hQ]
    exact W.zret (v := 0) hx hb hr (by decide) (fun t9 ht9 _ => ⟨⟨_, (ad, yC cy ad z et mn gm G), rfl, Or.inr ⟨rfl, hno, rfl⟩, mh_hp ht9 (hP)⟩, hS.F ht9⟩) hS.2.2 dX2_told_76
  · skip
    have hA := sb_1 hr2 c5
    refine lv_aload_n hx hb dX2_told_8 rfl (lv_at hl 0 rfl) ?_
    refine lv_iload_n hx hb dX2_told_9 rfl (lv_at hl 2 rfl) ?_
    refine rcV (n := 1) (As := [.int kk]) (rest := []) ⟨hx, hb, hml, hown, hts⟩ (kX2_isKind l D cy lo ad z et mn gm G kk ⟨hK20, hL9, hT32⟩) mlX2_54 imX2_isKind seX2_isKind inX2 cdX2_isKind (by decide +kernel) rfl rfl ⟨Nat.le_of_ble_eq_true rfl, Nat.le_of_ble_eq_true rfl⟩ hK hP hz rfl rfl rfl hl.1 rfl (Nat.le_of_ble_eq_true rfl) dX2_told_10 ⟨Nat.zero_le _, Nat.zero_le _⟩ (fun r10 hr10 => ?_)
    refine lv_if_eq (tgt := 75) hx hb dX2_told_13 (by decide) (fun c13 => ?_) (fun c13 => ?_)
    · skip
      have hno : ¬ (∃ t i j o, t < zT z ∧ kt = nI t ∧ i < zK z ∧ kk = nI i ∧ j ≤ 1000000 ∧ h = lN j ∧ o ≤ 1000000 ∧ on = lN o ∧ j ≤ o ∧ zLH z (ch t) ≤ o ∧ zE z < 200) := fun ⟨_, i, _, _, _, _, q1, q2, _⟩ => sb_0 hr10 c13 ⟨i, q1, q2⟩
      refine lv_iconst (v := 0) hx hb dX2_told_75 (by decide) ?_
      rw [hQ]
      exact W.zret (v := 0) hx hb hr (by decide) (fun t9 ht9 _ => ⟨⟨_, (ad, yC cy ad z et mn gm G), rfl, Or.inr ⟨rfl, hno, rfl⟩, mh_hp ht9 (hP)⟩, hS.F ht9⟩) hS.2.2 dX2_told_76
    · skip
      have hB := sb_1 hr10 c13
      refine lv_lload_n hx hb dX2_told_16 rfl (lv_at hl 3 rfl) ?_
      refine rcS (n := 1) (As := [.long h]) (rest := []) ⟨hx, hb, hml, hown, hts⟩ (kX2_isHour l D cy lo ad (yC cy ad z et mn gm G) h) mlX2_69 stX2_isHour inX2 cdX2_isHour (by decide +kernel) rfl rfl ⟨Nat.le_of_ble_eq_true rfl, Nat.le_of_ble_eq_true rfl⟩ hK hP hz rfl hl.1 rfl (Nat.le_of_ble_eq_true rfl) dX2_told_17 ⟨Nat.zero_le _, Nat.zero_le _⟩ (fun r17 hr17 => ?_)
      refine lv_if_eq (tgt := 75) hx hb dX2_told_20 (by decide) (fun c20 => ?_) (fun c20 => ?_)
      · skip
        have hno : ¬ (∃ t i j o, t < zT z ∧ kt = nI t ∧ i < zK z ∧ kk = nI i ∧ j ≤ 1000000 ∧ h = lN j ∧ o ≤ 1000000 ∧ on = lN o ∧ j ≤ o ∧ zLH z (ch t) ≤ o ∧ zE z < 200) := fun ⟨_, _, j, _, _, _, _, _, q1, q2, _⟩ => sb_0 hr17 c20 ⟨j, q1, q2⟩
        refine lv_iconst (v := 0) hx hb dX2_told_75 (by decide) ?_
        rw [hQ]
        exact W.zret (v := 0) hx hb hr (by decide) (fun t9 ht9 _ => ⟨⟨_, (ad, yC cy ad z et mn gm G), rfl, Or.inr ⟨rfl, hno, rfl⟩, mh_hp ht9 (hP)⟩, hS.F ht9⟩) hS.2.2 dX2_told_76
      · skip
        have hH := sb_1 hr17 c20
        refine lv_lload hx hb dX2_told_23 (lv_at hl 4 rfl) ?_
        refine rcS (n := 1) (As := [.long on]) (rest := []) ⟨hx, hb, hml, hown, hts⟩ (kX2_isHour l D cy lo ad (yC cy ad z et mn gm G) on) mlX2_69 stX2_isHour inX2 cdX2_isHour (by decide +kernel) rfl rfl ⟨Nat.le_of_ble_eq_true rfl, Nat.le_of_ble_eq_true rfl⟩ hK hP hz rfl hl.1 rfl (Nat.le_of_ble_eq_true rfl) dX2_told_25 ⟨Nat.zero_le _, Nat.zero_le _⟩ (fun r25 hr25 => ?_)
        refine lv_if_eq (tgt := 75) hx hb dX2_told_28 (by decide) (fun c28 => ?_) (fun c28 => ?_)
        · skip
          have hno : ¬ (∃ t i j o, t < zT z ∧ kt = nI t ∧ i < zK z ∧ kk = nI i ∧ j ≤ 1000000 ∧ h = lN j ∧ o ≤ 1000000 ∧ on = lN o ∧ j ≤ o ∧ zLH z (ch t) ≤ o ∧ zE z < 200) := fun ⟨_, _, _, o, _, _, _, _, _, _, q1, q2, _⟩ => sb_0 hr25 c28 ⟨o, q1, q2⟩
          refine lv_iconst (v := 0) hx hb dX2_told_75 (by decide) ?_
          rw [hQ]
          exact W.zret (v := 0) hx hb hr (by decide) (fun t9 ht9 _ => ⟨⟨_, (ad, yC cy ad z et mn gm G), rfl, Or.inr ⟨rfl, hno, rfl⟩, mh_hp ht9 (hP)⟩, hS.F ht9⟩) hS.2.2 dX2_told_76
        · skip
          obtain ⟨o, ho, rfl⟩ := sb_1 hr25 c28
          obtain ⟨t, ht, rfl⟩ := hA
          obtain ⟨i, hi, rfl⟩ := hB
          obtain ⟨j, hj, rfl⟩ := hH
          refine lv_lload hx hb dX2_told_31 (lv_at hl 4 rfl) ?_
          refine lv_lload_n hx hb dX2_told_33 rfl (lv_at hl 3 rfl) ?_
          refine W.lcmp hx hb dX2_told_34 ?_
          refine lv_if_lt (tgt := 75) hx hb dX2_told_35 (by decide) (fun c35 => ?_) (fun c35 => ?_)
          · skip
            have hno : ¬ (∃ t1 i1 j1 o1, t1 < zT z ∧ nI t = nI t1 ∧ i1 < zK z ∧ nI i = nI i1 ∧ j1 ≤ 1000000 ∧ lN j = lN j1 ∧ o1 ≤ 1000000 ∧ lN o = lN o1 ∧ j1 ≤ o1 ∧ zLH z (ch t1) ≤ o1 ∧ zE z < 200) := fun ⟨t1, i1, j1, o1, _, q1, _, _, _, q2, _, q3, q4, _, _⟩ => by
              have e1 := (nI_eq (by omega) (by omega)).mp q1
              have e2 := (lN_eq (by omega) (by omega)).mp q2
              have e3 := (lN_eq (by omega) (by omega)).mp q3
              subst e1 e2 e3
              have q := (lN_lt (by omega) (by omega)).mp ((lg_cmp_lt _ _).mp c35)
              omega
            refine lv_iconst (v := 0) hx hb dX2_told_75 (by decide) ?_
            rw [hQ]
            exact W.zret (v := 0) hx hb hr (by decide) (fun t9 ht9 _ => ⟨⟨_, (ad, yC cy ad z et mn gm G), rfl, Or.inr ⟨rfl, hno, rfl⟩, mh_hp ht9 (hP)⟩, hS.F ht9⟩) hS.2.2 dX2_told_76
          · skip
            have hjo : j ≤ o := Nat.le_of_not_lt (fun q => c35 ((lg_cmp_lt _ _).mpr ((lN_lt (by omega) (by omega)).mpr q)))
            refine lv_aload_n hx hb dX2_told_38 rfl (lv_at hl 0 rfl) ?_
            refine lv_iload_n hx hb dX2_told_39 rfl (lv_at hl 1 rfl) ?_
            refine lv_lload hx hb dX2_told_40 (lv_at hl 4 rfl) ?_
            refine lv_iconst (v := 0) hx hb dX2_told_42 (by decide) ?_
            refine rcV (n := 3) (As := [.int (nI t), .long (lN o), .int 0]) (rest := []) ⟨hx, hb, hml, hown, hts⟩ (kX2_isBehind l D cy lo ad z et mn gm G ch hok hy t o 0 ht ho) mlX2_73 imX2_isBehind seX2_isBehind inX2 cdX2_isBehind (by decide +kernel) rfl rfl ⟨Nat.le_of_ble_eq_true rfl, Nat.le_of_ble_eq_true rfl⟩ hK hP hz rfl rfl rfl hl.1 rfl (Nat.le_of_ble_eq_true rfl) dX2_told_43 ⟨Nat.zero_le _, Nat.zero_le _⟩ (fun r43 hr43 => ?_)
            rw [bh_lh hy ht] at hr43
            refine lv_if_eq (tgt := 75) hx hb dX2_told_46 (by decide) (fun c46 => ?_) (fun c46 => ?_)
            · skip
              have hno : ¬ (∃ t1 i1 j1 o1, t1 < zT z ∧ nI t = nI t1 ∧ i1 < zK z ∧ nI i = nI i1 ∧ j1 ≤ 1000000 ∧ lN j = lN j1 ∧ o1 ≤ 1000000 ∧ lN o = lN o1 ∧ j1 ≤ o1 ∧ zLH z (ch t1) ≤ o1 ∧ zE z < 200) := fun ⟨t1, i1, j1, o1, _, q1, _, _, _, q2, _, q3, _, q4, _⟩ => by
                have e1 := (nI_eq (by omega) (by omega)).mp q1
                have e2 := (lN_eq (by omega) (by omega)).mp q2
                have e3 := (lN_eq (by omega) (by omega)).mp q3
                subst e1 e2 e3
                exact sb_0 hr43 c46 q4
              refine lv_iconst (v := 0) hx hb dX2_told_75 (by decide) ?_
              rw [hQ]
              exact W.zret (v := 0) hx hb hr (by decide) (fun t9 ht9 _ => ⟨⟨_, (ad, yC cy ad z et mn gm G), rfl, Or.inr ⟨rfl, hno, rfl⟩, mh_hp ht9 (hP)⟩, hS.F ht9⟩) hS.2.2 dX2_told_76
            · skip
              have hlo := sb_1 hr43 c46
              refine lv_aload_n hx hb dX2_told_49 rfl (lv_at hl 0 rfl) ?_
              refine mh_get (ci := 2) (v := .int (nI (zE z))) hx hb hts wfX2 hown hK.1 hP 1000 rfl rfl 13 (by decide) (hts _ flX2_66) (fun _ h9 => h9) rfl dX2_told_50 ?_
              refine lv_sipush (v := 200) hx hb dX2_told_53 (by decide) ?_
              refine lv_icmp_ge (tgt := 75) hx hb dX2_told_56 (by decide) (fun c56 => ?_) (fun c56 => ?_)
              · skip
                have hno : ¬ (∃ t1 i1 j1 o1, t1 < zT z ∧ nI t = nI t1 ∧ i1 < zK z ∧ nI i = nI i1 ∧ j1 ≤ 1000000 ∧ lN j = lN j1 ∧ o1 ≤ 1000000 ∧ lN o = lN o1 ∧ j1 ≤ o1 ∧ zLH z (ch t1) ≤ o1 ∧ zE z < 200) := fun ⟨_, _, _, _, _, _, _, _, _, _, _, _, _, _, q⟩ => nI_ge (b := 200) q (by omega) c56
                refine lv_iconst (v := 0) hx hb dX2_told_75 (by decide) ?_
                rw [hQ]
                exact W.zret (v := 0) hx hb hr (by decide) (fun t9 ht9 _ => ⟨⟨_, (ad, yC cy ad z et mn gm G), rfl, Or.inr ⟨rfl, hno, rfl⟩, mh_hp ht9 (hP)⟩, hS.F ht9⟩) hS.2.2 dX2_told_76
              · skip
                have hE : zE z < 200 := Nat.lt_of_not_le (fun q => c56 (nI_le (a := 200) q (by omega)))
                refine lv_aload_n hx hb dX2_told_59 rfl (lv_at hl 0 rfl) ?_
                refine lv_iload_n hx hb dX2_told_60 rfl (lv_at hl 1 rfl) ?_
                refine lv_iload_n hx hb dX2_told_61 rfl (lv_at hl 2 rfl) ?_
                refine lv_iconst (v := 0) hx hb dX2_told_62 (by decide) ?_
                refine lv_lload_n hx hb dX2_told_63 rfl (lv_at hl 3 rfl) ?_
                refine lv_iconst (v := 1) hx hb dX2_told_64 (by decide) ?_
                refine rwV (n := 5) (As := [.int (nI t), .int (nI i), .int 0, .long (lN j), .int 1]) (rest := []) ⟨hx, hb, hml, hown, hts⟩ (kX2_add l D cy lo ad z et mn gm G ch hok hy t 0 j 1 (nI i) hE (by decide)) mlX2_77 imX2_add seX2_add inX2 cdX2_add (by decide +kernel) rfl rfl ⟨Nat.le_of_ble_eq_true rfl, Nat.le_of_ble_eq_true rfl⟩ hK hP hz rfl rfl hS rfl hl.1 rfl (Nat.le_of_ble_eq_true rfl) dX2_told_65 ⟨Nat.zero_le _, Nat.zero_le _⟩ (fun r9 u9 H locs hu hP _ hS => ?_)
                obtain ⟨rfl, rfl⟩ := hu
                dsimp only at hP
                refine lv_if_eq (tgt := 75) hx hb dX2_told_68 (by decide) (fun c68 => ?_) (fun c68 => ?_)
                · skip
                  exact absurd c68 (by decide)
                · skip
                  refine lv_iconst (v := 1) hx hb dX2_told_71 (by decide) ?_
                  refine lv_goto (tgt := 76) hx hb dX2_told_72 (by decide) ?_
                  rw [hQ]
                  exact W.zret (v := 1) hx hb hr (by decide) (fun t9 ht9 _ => ⟨⟨_, (ad, yC cy ad (uE (uVs z (zE z) (nI i, 0, j, 1, none)) (zE z + 1)) (fun k => if k = zE z then t else et k) mn gm G), rfl, Or.inl ⟨rfl, t, i, j, o, ⟨ht, rfl, hi, rfl, hj, rfl, ho, rfl, hjo, hlo, hE⟩, rfl⟩, mh_hp ht9 (hP)⟩, hS.F ht9⟩) hS.2.2 dX2_told_76
