set_option maxHeartbeats 4000000 in
set_option maxRecDepth 100000 in
/-- needed -/
theorem kX2_needed (l : Launch) (D : va_G) (cy : Nat → ClassId) (lo : Nat) (ad : Nat → Nat) (z : zS) (et : Nat → Nat) (mn : Nat → Int32) (gm : Nat → Nat) (G : Nat → Option va_E) (ch : Nat → List Nat) (hok : zOk z ch) (hy : yOk z ch et mn gm) (t h : Nat) (kk : Int32) (ok : Option Nat) (hk : isOp kk (zK z) ok) (ht : t < zT z) (hh : h ≤ 1000000) : Met l yX2_needed wX2_needed { frames := 1, cells := 0, slots := 0, locals := 26 } (pcs D cy lo ad (yC cy ad z et mn gm G) [.ref (ad 1000), .int (nI t), .int kk, .long (lN h)]) (vp_Si (fun r => r = nI (zGN z (fun e => zLO z h (ch e)) ok t (zT z)))) 0 0 (fun _ => False) := by
  refine Met.ofW (cc := cX2_needed) (maxL := 12) (ret := (some .int)) (by decide) rfl ?_
  intro p e s m args below meth c s₁ B hml hv
  obtain ⟨rfl, hz, hP, hK⟩ := hv
  have hx := B.exec
  have hb := B.bytes
  have hr := B.returns
  have hts : ∀ w ∈ wA, w.before [.ref (ad 1000), .int (nI t), .int kk, .long (lN h)].toArray s = true := fun w h => atoms_spec (ws := wX2_needed) B.pre w (List.mem_cons_of_mem _ h)
  have hown : s.vm.findClass RX2 = some m.cls := findClass_of_methodNamed B.named
  have hlocks := B.notSynchronized
  have hl := lv_entry ([.ref (ad 1000), .int (nI t), .int kk, .long (lN h)]) (n := 12) (Nat.le_of_ble_eq_true rfl)
  rw [lg_entry_eq]
  generalize (lg_sl ([.ref (ad 1000), .int (nI t), .int kk, .long (lN h)]) ++ List.replicate (12 - (lg_sl ([.ref (ad 1000), .int (nI t), .int kk, .long (lN h)])).length) Slot.unset).toArray = ls at hl ⊢
  have hl : lv_has ls 12 [(0, .ref (ad 1000)), (1, .int (nI t)), (2, .int kk), (3, .long (lN h))] := hl
  obtain ⟨Q, hQ⟩ : ∃ Q, Q = MQ below (vp_Si (fun r => r = nI (zGN z (fun e => zLO z h (ch e)) ok t (zT z)))) [.ref (ad 1000), .int (nI t), .int kk, .long (lN h)].toArray s 0 0 (fun _ => False) := ⟨_, rfl⟩
  rw [← hQ]
  obtain ⟨hK1, hK20, hL1, hL9, hT32, hE200, hnd, hal, hla, hco, hgr, hch, hlt0, hev, hbf⟩ := id hok
  obtain ⟨hmn, hgm, hgg, het, hcc⟩ := id hy
  have loop : ∀ (d i : Nat), i + d = zT z → ∀ (ls : Array Slot), lv_has ls 12 [(6, .int (nI i)), (5, .int (nI (zGN z (fun e => zLO z h (ch e)) ok t i))), (0, .ref (ad 1000)), (1, .int (nI t)), (2, .int kk), (3, .long (lN h))] → W p l e (headSpec wX2_needed { frames := 1, cells := 0, slots := 0, locals := 26 }).room s m [.ref (ad 1000), .int (nI t), .int kk, .long (lN h)].toArray below meth c s.heap [] 0 0 Q (F0 m 6 ls []) := by
    intro d
    induction d with
    | zero =>
      intro i  hid  ls hl
      refine lv_iload hx hb dX2_needed_6 (lv_at hl 0 rfl) ?_
      refine lv_aload_n hx hb dX2_needed_8 rfl (lv_at hl 2 rfl) ?_
      refine mh_get (ci := 2) (v := .int (nI (zT z))) hx hb hts wfX2 hown hK.1 hP 1000 rfl rfl 7 (by decide) (hts _ flX2_49) (fun _ h9 => h9) rfl dX2_needed_9 ?_
      refine lv_icmp_ge (tgt := 159) hx hb dX2_needed_12 (by decide) (fun c12 => ?_) (fun c12 => ?_)
      · skip
        refine lv_iload hx hb dX2_needed_159 (lv_at hl 1 rfl) ?_
        rw [hQ]
        exact W.iret (v := nI (zGN z (fun e => zLO z h (ch e)) ok t i)) hx hb hr (fun t9 ht9 _ => ⟨_, rfl, by rw [show i = zT z by omega], ht9⟩) (fun q h => by cases h) dX2_needed_161
      · skip
        exact absurd (nI_le (by omega) (by omega)) c12
    | succ d ih =>
      intro i  hid  ls hl
      refine lv_iload hx hb dX2_needed_6 (lv_at hl 0 rfl) ?_
      refine lv_aload_n hx hb dX2_needed_8 rfl (lv_at hl 2 rfl) ?_
      refine mh_get (ci := 2) (v := .int (nI (zT z))) hx hb hts wfX2 hown hK.1 hP 1000 rfl rfl 7 (by decide) (hts _ flX2_49) (fun _ h9 => h9) rfl dX2_needed_9 ?_
      refine lv_icmp_ge (tgt := 159) hx hb dX2_needed_12 (by decide) (fun c12 => ?_) (fun c12 => ?_)
      · skip
        exact absurd c12 (nI_ge (by omega) (by omega))
      · skip
        have hg1 := hgm i (by omega)
        have hg2 := hgm t ht
        refine lv_aload_n hx hb dX2_needed_15 rfl (lv_at hl 2 rfl) ?_
        refine mh_get (ci := 2) (v := .ref (ad 1005)) hx hb hts wfX2 hown hK.1 hP 1000 rfl rfl 6 (by decide) (hts _ flX2_23) (fun _ h9 => h9) rfl dX2_needed_16 ?_
        refine lv_iload hx hb dX2_needed_19 (lv_at hl 0 rfl) ?_
        refine mh_ialn (i := i) (v := nI (gm i)) hx hb hK.1 hP 1005 0 rfl rfl (by omega) (by decide) dX2_needed_21 rfl ?_
        refine lv_aload_n hx hb dX2_needed_22 rfl (lv_at hl 2 rfl) ?_
        refine mh_get (ci := 2) (v := .ref (ad 1005)) hx hb hts wfX2 hown hK.1 hP 1000 rfl rfl 6 (by decide) (hts _ flX2_23) (fun _ h9 => h9) rfl dX2_needed_23 ?_
        refine lv_iload_n hx hb dX2_needed_26 rfl (lv_at hl 3 rfl) ?_
        refine mh_ialn (i := t) (v := nI (gm t)) hx hb hK.1 hP 1005 0 rfl rfl (by omega) (by decide) dX2_needed_27 rfl ?_
        refine lv_icmp_ne (tgt := 41) hx hb dX2_needed_28 (by decide) (fun c28 => ?_) (fun c28 => ?_)
        · skip
          have hns : ¬ zGr z i = zGr z t := fun q => c28 (by rw [(hgg i t (by omega) ht).mpr q])
          refine lv_iconst (v := (-1)) hx hb dX2_needed_41 (by decide) ?_
          refine lv_istore (lv' := [(7, .int (-1)), (6, .int (nI i)), (5, .int (nI (zGN z (fun e => zLO z h (ch e)) ok t i))), (0, .ref (ad 1000)), (1, .int (nI t)), (2, .int kk), (3, .long (lN h))]) hx hb dX2_needed_42 hl (by decide) rfl (fun ls hl => ?_)
          refine lv_iload hx hb dX2_needed_44 (lv_at hl 0 rfl) ?_
          refine lv_iconst (v := (-1)) hx hb dX2_needed_46 (by decide) ?_
          refine lv_icmp_eq (tgt := 153) hx hb dX2_needed_47 (by decide) (fun c47 => ?_) (fun c47 => ?_)
          · skip
            have hl : lv_has ls 12 [(7, .int (-1)), (6, .int (nI i)), (5, .int (nI (zGN z (fun e => zLO z h (ch e)) ok t (i + 1)))), (0, .ref (ad 1000)), (1, .int (nI t)), (2, .int kk), (3, .long (lN h))] := by rw [zGN_n hns]; exact hl
            obtain ⟨y, ey⟩ : ∃ y : Int32, y = nI i + 1 := ⟨_, rfl⟩
            refine lv_iinc (v := y) (lv' := [(6, .int y), (7, .int (-1)), (5, .int (nI (zGN z (fun e => zLO z h (ch e)) ok t (i + 1)))), (0, .ref (ad 1000)), (1, .int (nI t)), (2, .int kk), (3, .long (lN h))]) hx hb dX2_needed_153 hl (k := 1) rfl (by rw [ey]; rfl) (by decide) rfl (fun ls hl => ?_)
            refine lv_goto (tgt := 6) hx hb dX2_needed_156 (by decide) ?_
            rw [nI_1] at ey
            subst ey
            exact ih (i + 1) (by omega) ls (lv_sub hl [0, 2, 3, 4, 5, 6] rfl)
          · skip
            exact absurd rfl c47
        · skip
          have hsm : zGr z i = zGr z t := (hgg i t (by omega) ht).mp ((nI_eq (by omega) (by omega)).mp c28)
          refine lv_aload_n hx hb dX2_needed_31 rfl (lv_at hl 2 rfl) ?_
          refine lv_iload hx hb dX2_needed_32 (lv_at hl 0 rfl) ?_
          refine lv_lload_n hx hb dX2_needed_34 rfl (lv_at hl 5 rfl) ?_
          refine rcV (n := 2) (As := [.int (nI i), .long (lN h)]) (rest := []) ⟨hx, hb, hml, hown, hts⟩ (kX2_content l D cy lo ad z et mn gm G ch hok hy i h (by omega) hh) mlX2_81 imX2_content seX2_content inX2 cdX2_content (by decide +kernel) rfl rfl ⟨Nat.le_of_ble_eq_true rfl, Nat.le_of_ble_eq_true rfl⟩ hK hP hz rfl rfl rfl hl.1 rfl (Nat.le_of_ble_eq_true rfl) dX2_needed_35 ⟨Nat.zero_le _, Nat.zero_le _⟩ (fun r35 hr35 => ?_)
          subst hr35
          refine lv_goto (tgt := 42) hx hb dX2_needed_38 (by decide) ?_
          have hop := zLO_op hK20 (fun k hk => (hev k hk).2.2.2) h (ch i) (zLt z i) (hch i (by omega))
          cases hlk : zLK z h (ch i) with
          | none =>
            have hlo : zLO z h (ch i) = none := by rw [zLO_K, hlk]; rfl
            refine W.eq (g2 := F0 m 42 ls [.int (-1)]) rfl ?_
            refine lv_istore (lv' := [(7, .int (-1)), (6, .int (nI i)), (5, .int (nI (zGN z (fun e => zLO z h (ch e)) ok t i))), (0, .ref (ad 1000)), (1, .int (nI t)), (2, .int kk), (3, .long (lN h))]) hx hb dX2_needed_42 hl (by decide) rfl (fun ls hl => ?_)
            refine lv_iload hx hb dX2_needed_44 (lv_at hl 0 rfl) ?_
            refine lv_iconst (v := (-1)) hx hb dX2_needed_46 (by decide) ?_
            refine lv_icmp_eq (tgt := 153) hx hb dX2_needed_47 (by decide) (fun c47 => ?_) (fun c47 => ?_)
            · skip
              have hl : lv_has ls 12 [(7, .int (-1)), (6, .int (nI i)), (5, .int (nI (zGN z (fun e => zLO z h (ch e)) ok t (i + 1)))), (0, .ref (ad 1000)), (1, .int (nI t)), (2, .int kk), (3, .long (lN h))] := by rw [zGN_s hsm, hlo, zNB_none, Nat.max_eq_left (Nat.zero_le _)]; exact hl
              obtain ⟨y, ey⟩ : ∃ y : Int32, y = nI i + 1 := ⟨_, rfl⟩
              refine lv_iinc (v := y) (lv' := [(6, .int y), (7, .int (-1)), (5, .int (nI (zGN z (fun e => zLO z h (ch e)) ok t (i + 1)))), (0, .ref (ad 1000)), (1, .int (nI t)), (2, .int kk), (3, .long (lN h))]) hx hb dX2_needed_153 hl (k := 1) rfl (by rw [ey]; rfl) (by decide) rfl (fun ls hl => ?_)
              refine lv_goto (tgt := 6) hx hb dX2_needed_156 (by decide) ?_
              rw [nI_1] at ey
              subst ey
              exact ih (i + 1) (by omega) ls (lv_sub hl [0, 2, 3, 4, 5, 6] rfl)
            · skip
              exact absurd rfl c47
          | some a =>
            have haE : a < zE z := ((hcc i (by omega)).1 a |>.mp (zLK_mem _ hlk)).1
            have hac : zCt z h a := by
              have q := zLK_spec (z := z) (h := h) (ch i) (hcc i (by omega)).2
              rw [hlk] at q
              exact q.2.1
            obtain ⟨f, hf, hef⟩ : ∃ f, f < zK z ∧ ei (zVs z a) = nI f := by
              rcases (hev a haE).2.2.2 with q | q
              · exact absurd q hac.2
              · exact q
            have hlo : zLO z h (ch i) = some f := by rw [zLO_K, hlk]; show some (ei (zVs z a)).toNatClampNeg = _; rw [hef, nI_clamp (by omega)]
            have hgn : zGN z (fun e => zLO z h (ch e)) ok t (i + 1) = max (zGN z (fun e => zLO z h (ch e)) ok t i) (zNB z (some f) ok) := by rw [zGN_s hsm, hlo]
            have hb1 : zGN z (fun e => zLO z h (ch e)) ok t i ≤ zL z := zGN_le i (fun e he => zNB_le hnd (zLO_op hK20 (fun k hk => (hev k hk).2.2.2) h (ch e) (zLt z e) (hch e (by omega))) hk)
            have hb2 : zNB z (some f) ok ≤ zL z := zNB_le (kc := nI f) hnd ⟨hf, rfl⟩ hk
            refine W.eq (g2 := F0 m 42 ls [.int (nI a)]) rfl ?_
            refine lv_istore (lv' := [(7, .int (nI a)), (6, .int (nI i)), (5, .int (nI (zGN z (fun e => zLO z h (ch e)) ok t i))), (0, .ref (ad 1000)), (1, .int (nI t)), (2, .int kk), (3, .long (lN h))]) hx hb dX2_needed_42 hl (by decide) rfl (fun ls hl => ?_)
            refine lv_iload hx hb dX2_needed_44 (lv_at hl 0 rfl) ?_
            refine lv_iconst (v := (-1)) hx hb dX2_needed_46 (by decide) ?_
            refine lv_icmp_eq (tgt := 153) hx hb dX2_needed_47 (by decide) (fun c47 => ?_) (fun c47 => ?_)
            · skip
              exact absurd c47 (nI_m1 (by omega))
            · skip
              refine lv_aload_n hx hb dX2_needed_50 rfl (lv_at hl 3 rfl) ?_
              refine mh_get (ci := 2) (v := .ref (ad 1008)) hx hb hts wfX2 hown hK.1 hP 1000 rfl rfl 10 (by decide) (hts _ flX2_32) (fun _ h9 => h9) rfl dX2_needed_51 ?_
              refine lv_iload hx hb dX2_needed_54 (lv_at hl 0 rfl) ?_
              refine mh_ialn (i := a) (v := nI f) hx hb hK.1 hP 1008 0 rfl rfl (by omega) (by decide) dX2_needed_56 hef ?_
              refine lv_istore (lv' := [(8, .int (nI f)), (7, .int (nI a)), (6, .int (nI i)), (5, .int (nI (zGN z (fun e => zLO z h (ch e)) ok t i))), (0, .ref (ad 1000)), (1, .int (nI t)), (2, .int kk), (3, .long (lN h))]) hx hb dX2_needed_57 hl (by decide) rfl (fun ls hl => ?_)
              refine lv_aload_n hx hb dX2_needed_59 rfl (lv_at hl 4 rfl) ?_
              refine lv_iload_n hx hb dX2_needed_60 rfl (lv_at hl 6 rfl) ?_
              refine rcV (n := 1) (As := [.int kk]) (rest := []) ⟨hx, hb, hml, hown, hts⟩ (kX2_isKind l D cy lo ad z et mn gm G kk ⟨hK20, hL9, hT32⟩) mlX2_54 imX2_isKind seX2_isKind inX2 cdX2_isKind (by decide +kernel) rfl rfl ⟨Nat.le_of_ble_eq_true rfl, Nat.le_of_ble_eq_true rfl⟩ hK hP hz rfl rfl rfl hl.1 rfl (Nat.le_of_ble_eq_true rfl) dX2_needed_61 ⟨Nat.zero_le _, Nat.zero_le _⟩ (fun r61 hr61 => ?_)
              refine lv_if_eq (tgt := 82) hx hb dX2_needed_64 (by decide) (fun c64 => ?_) (fun c64 => ?_)
              · skip
                have hn0 := isOp_none hk (sb_0 hr61 c64)
                subst hn0
                refine lv_iconst (v := (-1)) hx hb dX2_needed_82 (by decide) ?_
                refine lv_istore (lv' := [(9, .int (-1)), (8, .int (nI f)), (7, .int (nI a)), (6, .int (nI i)), (5, .int (nI (zGN z (fun e => zLO z h (ch e)) none t i))), (0, .ref (ad 1000)), (1, .int (nI t)), (2, .int kk), (3, .long (lN h))]) hx hb dX2_needed_83 hl (by decide) rfl (fun ls hl => ?_)
                refine lv_aload_n hx hb dX2_needed_85 rfl (lv_at hl 5 rfl) ?_
                refine lv_iload_n hx hb dX2_needed_86 rfl (lv_at hl 7 rfl) ?_
                refine rcV (n := 1) (As := [.int kk]) (rest := []) ⟨hx, hb, hml, hown, hts⟩ (kX2_isKind l D cy lo ad z et mn gm G kk ⟨hK20, hL9, hT32⟩) mlX2_54 imX2_isKind seX2_isKind inX2 cdX2_isKind (by decide +kernel) rfl rfl ⟨Nat.le_of_ble_eq_true rfl, Nat.le_of_ble_eq_true rfl⟩ hK hP hz rfl rfl rfl hl.1 rfl (Nat.le_of_ble_eq_true rfl) dX2_needed_87 ⟨Nat.zero_le _, Nat.zero_le _⟩ (fun r87 hr87 => ?_)
                refine lv_if_eq (tgt := 102) hx hb dX2_needed_90 (by decide) (fun c90 => ?_) (fun c90 => ?_)
                · skip
                  refine lv_iconst (v := 0) hx hb dX2_needed_102 (by decide) ?_
                  refine lv_istore (lv' := [(10, .int 0), (9, .int (-1)), (8, .int (nI f)), (7, .int (nI a)), (6, .int (nI i)), (5, .int (nI (zGN z (fun e => zLO z h (ch e)) none t i))), (0, .ref (ad 1000)), (1, .int (nI t)), (2, .int kk), (3, .long (lN h))]) hx hb dX2_needed_103 hl (by decide) rfl (fun ls hl => ?_)
                  refine lv_iload hx hb dX2_needed_105 (lv_at hl 1 rfl) ?_
                  refine lv_iconst (v := (-1)) hx hb dX2_needed_107 (by decide) ?_
                  refine lv_icmp_eq (tgt := 126) hx hb dX2_needed_108 (by decide) (fun c108 => ?_) (fun c108 => ?_)
                  · skip
                    have hn : zNB z (some f) none = zL z := rfl
                    refine lv_aload_n hx hb dX2_needed_126 rfl (lv_at hl 6 rfl) ?_
                    refine mh_get (ci := 2) (v := .int (nI (zL z))) hx hb hts wfX2 hown hK.1 hP 1000 rfl rfl 1 (by decide) (hts _ flX2_46) (fun _ h9 => h9) rfl dX2_needed_127 ?_
                    refine lv_goto (tgt := 135) hx hb dX2_needed_130 (by decide) ?_
                    rw [← hn]
                    refine lv_istore (lv' := [(11, .int (nI (zNB z (some f) none))), (10, .int 0), (9, .int (-1)), (8, .int (nI f)), (7, .int (nI a)), (6, .int (nI i)), (5, .int (nI (zGN z (fun e => zLO z h (ch e)) none t i))), (0, .ref (ad 1000)), (1, .int (nI t)), (2, .int kk), (3, .long (lN h))]) hx hb dX2_needed_135 hl (by decide) rfl (fun ls hl => ?_)
                    refine lv_iload hx hb dX2_needed_137 (lv_at hl 0 rfl) ?_
                    refine lv_iload hx hb dX2_needed_139 (lv_at hl 6 rfl) ?_
                    refine lv_icmp_le (tgt := 149) hx hb dX2_needed_141 (by decide) (fun c141 => ?_) (fun c141 => ?_)
                    · skip
                      have hle := (nI_leI (by omega) (by omega)).mp c141
                      have hl : lv_has ls 12 [(11, .int (nI (zNB z (some f) none))), (10, .int 0), (9, .int (-1)), (8, .int (nI f)), (7, .int (nI a)), (6, .int (nI i)), (5, .int (nI (zGN z (fun e => zLO z h (ch e)) none t (i + 1)))), (0, .ref (ad 1000)), (1, .int (nI t)), (2, .int kk), (3, .long (lN h))] := by rw [hgn, Nat.max_eq_left hle]; exact hl
                      refine lv_iload hx hb dX2_needed_149 (lv_at hl 6 rfl) ?_
                      refine lv_istore (lv' := [(5, .int (nI (zGN z (fun e => zLO z h (ch e)) none t (i + 1)))), (11, .int (nI (zNB z (some f) none))), (10, .int 0), (9, .int (-1)), (8, .int (nI f)), (7, .int (nI a)), (6, .int (nI i)), (0, .ref (ad 1000)), (1, .int (nI t)), (2, .int kk), (3, .long (lN h))]) hx hb dX2_needed_151 hl (by decide) rfl (fun ls hl => ?_)
                      obtain ⟨y, ey⟩ : ∃ y : Int32, y = nI i + 1 := ⟨_, rfl⟩
                      refine lv_iinc (v := y) (lv' := [(6, .int y), (5, .int (nI (zGN z (fun e => zLO z h (ch e)) none t (i + 1)))), (11, .int (nI (zNB z (some f) none))), (10, .int 0), (9, .int (-1)), (8, .int (nI f)), (7, .int (nI a)), (0, .ref (ad 1000)), (1, .int (nI t)), (2, .int kk), (3, .long (lN h))]) hx hb dX2_needed_153 hl (k := 6) rfl (by rw [ey]; rfl) (by decide) rfl (fun ls hl => ?_)
                      refine lv_goto (tgt := 6) hx hb dX2_needed_156 (by decide) ?_
                      rw [nI_1] at ey
                      subst ey
                      exact ih (i + 1) (by omega) ls (lv_sub hl [0, 1, 7, 8, 9, 10] rfl)
                    · skip
                      have hgt := Nat.lt_of_not_le (fun q => c141 (nI_le q (by omega)))
                      refine lv_iload hx hb dX2_needed_144 (lv_at hl 0 rfl) ?_
                      refine lv_goto (tgt := 151) hx hb dX2_needed_146 (by decide) ?_
                      rw [show zNB z (some f) none = zGN z (fun e => zLO z h (ch e)) none t (i + 1) by rw [hgn, Nat.max_eq_right (by omega)]]
                      refine lv_istore (lv' := [(5, .int (nI (zGN z (fun e => zLO z h (ch e)) none t (i + 1)))), (11, .int (nI (zNB z (some f) none))), (10, .int 0), (9, .int (-1)), (8, .int (nI f)), (7, .int (nI a)), (6, .int (nI i)), (0, .ref (ad 1000)), (1, .int (nI t)), (2, .int kk), (3, .long (lN h))]) hx hb dX2_needed_151 hl (by decide) rfl (fun ls hl => ?_)
                      obtain ⟨y, ey⟩ : ∃ y : Int32, y = nI i + 1 := ⟨_, rfl⟩
                      refine lv_iinc (v := y) (lv' := [(6, .int y), (5, .int (nI (zGN z (fun e => zLO z h (ch e)) none t (i + 1)))), (11, .int (nI (zNB z (some f) none))), (10, .int 0), (9, .int (-1)), (8, .int (nI f)), (7, .int (nI a)), (0, .ref (ad 1000)), (1, .int (nI t)), (2, .int kk), (3, .long (lN h))]) hx hb dX2_needed_153 hl (k := 6) rfl (by rw [ey]; rfl) (by decide) rfl (fun ls hl => ?_)
                      refine lv_goto (tgt := 6) hx hb dX2_needed_156 (by decide) ?_
                      rw [nI_1] at ey
                      subst ey
                      exact ih (i + 1) (by omega) ls (lv_sub hl [0, 1, 7, 8, 9, 10] rfl)
                  · skip
                    exact absurd rfl c108
                · skip
                  exact absurd (sb_1 hr87 c90) hk
              · skip
                obtain ⟨j, rfl, hj, rfl⟩ := isOp_some hk (sb_1 hr61 c64)
                refine lv_aload_n hx hb dX2_needed_67 rfl (lv_at hl 4 rfl) ?_
                refine mh_get (ci := 2) (v := .ref (ad 1001)) hx hb hts wfX2 hown hK.1 hP 1000 rfl rfl 2 (by decide) (hts _ flX2_9) (fun _ h9 => h9) rfl dX2_needed_68 ?_
                refine lv_iload hx hb dX2_needed_71 (lv_at hl 0 rfl) ?_
                refine lv_bipush (v := 20) hx hb dX2_needed_73 (by decide) ?_
                refine lv_imul hx hb dX2_needed_75 ?_
                rw [show nI f * (20 : Int32) = nI (f * 20) from pk_mul f 20]
                refine lv_iload_n hx hb dX2_needed_76 rfl (lv_at hl 6 rfl) ?_
                refine lv_iadd hx hb dX2_needed_77 ?_
                rw [nI_add]
                refine mh_ialn (i := f * 20 + j) (v := mn (f * 20 + j)) hx hb hK.1 hP 1001 0 rfl rfl (by omega) (by decide) dX2_needed_78 rfl ?_
                refine lv_goto (tgt := 83) hx hb dX2_needed_79 (by decide) ?_
                refine lv_istore (lv' := [(9, .int (mn (f * 20 + j))), (8, .int (nI f)), (7, .int (nI a)), (6, .int (nI i)), (5, .int (nI (zGN z (fun e => zLO z h (ch e)) (some j) t i))), (0, .ref (ad 1000)), (1, .int (nI t)), (2, .int (nI j)), (3, .long (lN h))]) hx hb dX2_needed_83 hl (by decide) rfl (fun ls hl => ?_)
                refine lv_aload_n hx hb dX2_needed_85 rfl (lv_at hl 5 rfl) ?_
                refine lv_iload_n hx hb dX2_needed_86 rfl (lv_at hl 7 rfl) ?_
                refine rcV (n := 1) (As := [.int (nI j)]) (rest := []) ⟨hx, hb, hml, hown, hts⟩ (kX2_isKind l D cy lo ad z et mn gm G (nI j) ⟨hK20, hL9, hT32⟩) mlX2_54 imX2_isKind seX2_isKind inX2 cdX2_isKind (by decide +kernel) rfl rfl ⟨Nat.le_of_ble_eq_true rfl, Nat.le_of_ble_eq_true rfl⟩ hK hP hz rfl rfl rfl hl.1 rfl (Nat.le_of_ble_eq_true rfl) dX2_needed_87 ⟨Nat.zero_le _, Nat.zero_le _⟩ (fun r87 hr87 => ?_)
                refine lv_if_eq (tgt := 102) hx hb dX2_needed_90 (by decide) (fun c90 => ?_) (fun c90 => ?_)
                · skip
                  exact absurd ⟨j, hj, rfl⟩ (sb_0 hr87 c90)
                · skip
                  refine lv_aload_n hx hb dX2_needed_93 rfl (lv_at hl 5 rfl) ?_
                  refine mh_get (ci := 2) (v := .ref (ad 1002)) hx hb hts wfX2 hown hK.1 hP 1000 rfl rfl 3 (by decide) (hts _ flX2_13) (fun _ h9 => h9) rfl dX2_needed_94 ?_
                  refine lv_iload_n hx hb dX2_needed_97 rfl (lv_at hl 7 rfl) ?_
                  refine mh_ialn (i := j) (v := nI (zAl z j)) hx hb hK.1 hP 1002 0 rfl rfl (by omega) (by decide) dX2_needed_98 rfl ?_
                  refine lv_goto (tgt := 103) hx hb dX2_needed_99 (by decide) ?_
                  refine lv_istore (lv' := [(10, .int (nI (zAl z j))), (9, .int (mn (f * 20 + j))), (8, .int (nI f)), (7, .int (nI a)), (6, .int (nI i)), (5, .int (nI (zGN z (fun e => zLO z h (ch e)) (some j) t i))), (0, .ref (ad 1000)), (1, .int (nI t)), (2, .int (nI j)), (3, .long (lN h))]) hx hb dX2_needed_103 hl (by decide) rfl (fun ls hl => ?_)
                  refine lv_iload hx hb dX2_needed_105 (lv_at hl 1 rfl) ?_
                  refine lv_iconst (v := (-1)) hx hb dX2_needed_107 (by decide) ?_
                  refine lv_icmp_eq (tgt := 126) hx hb dX2_needed_108 (by decide) (fun c108 => ?_) (fun c108 => ?_)
                  · skip
                    have hn : zNB z (some f) (some j) = zL z := by
                      rcases hmn f j hf hj with q | q
                      · show (if _ then _ else _) = _
                        split
                        · exact q.2
                        · rfl
                      · rw [q] at c108
                        exact absurd c108 (nI_m1 (by have := hnd f j hf hj; omega))
                    refine lv_aload_n hx hb dX2_needed_126 rfl (lv_at hl 6 rfl) ?_
                    refine mh_get (ci := 2) (v := .int (nI (zL z))) hx hb hts wfX2 hown hK.1 hP 1000 rfl rfl 1 (by decide) (hts _ flX2_46) (fun _ h9 => h9) rfl dX2_needed_127 ?_
                    refine lv_goto (tgt := 135) hx hb dX2_needed_130 (by decide) ?_
                    rw [← hn]
                    refine lv_istore (lv' := [(11, .int (nI (zNB z (some f) (some j)))), (10, .int (nI (zAl z j))), (9, .int (mn (f * 20 + j))), (8, .int (nI f)), (7, .int (nI a)), (6, .int (nI i)), (5, .int (nI (zGN z (fun e => zLO z h (ch e)) (some j) t i))), (0, .ref (ad 1000)), (1, .int (nI t)), (2, .int (nI j)), (3, .long (lN h))]) hx hb dX2_needed_135 hl (by decide) rfl (fun ls hl => ?_)
                    refine lv_iload hx hb dX2_needed_137 (lv_at hl 0 rfl) ?_
                    refine lv_iload hx hb dX2_needed_139 (lv_at hl 6 rfl) ?_
                    refine lv_icmp_le (tgt := 149) hx hb dX2_needed_141 (by decide) (fun c141 => ?_) (fun c141 => ?_)
                    · skip
                      have hle := (nI_leI (by omega) (by omega)).mp c141
                      have hl : lv_has ls 12 [(11, .int (nI (zNB z (some f) (some j)))), (10, .int (nI (zAl z j))), (9, .int (mn (f * 20 + j))), (8, .int (nI f)), (7, .int (nI a)), (6, .int (nI i)), (5, .int (nI (zGN z (fun e => zLO z h (ch e)) (some j) t (i + 1)))), (0, .ref (ad 1000)), (1, .int (nI t)), (2, .int (nI j)), (3, .long (lN h))] := by rw [hgn, Nat.max_eq_left hle]; exact hl
                      refine lv_iload hx hb dX2_needed_149 (lv_at hl 6 rfl) ?_
                      refine lv_istore (lv' := [(5, .int (nI (zGN z (fun e => zLO z h (ch e)) (some j) t (i + 1)))), (11, .int (nI (zNB z (some f) (some j)))), (10, .int (nI (zAl z j))), (9, .int (mn (f * 20 + j))), (8, .int (nI f)), (7, .int (nI a)), (6, .int (nI i)), (0, .ref (ad 1000)), (1, .int (nI t)), (2, .int (nI j)), (3, .long (lN h))]) hx hb dX2_needed_151 hl (by decide) rfl (fun ls hl => ?_)
                      obtain ⟨y, ey⟩ : ∃ y : Int32, y = nI i + 1 := ⟨_, rfl⟩
                      refine lv_iinc (v := y) (lv' := [(6, .int y), (5, .int (nI (zGN z (fun e => zLO z h (ch e)) (some j) t (i + 1)))), (11, .int (nI (zNB z (some f) (some j)))), (10, .int (nI (zAl z j))), (9, .int (mn (f * 20 + j))), (8, .int (nI f)), (7, .int (nI a)), (0, .ref (ad 1000)), (1, .int (nI t)), (2, .int (nI j)), (3, .long (lN h))]) hx hb dX2_needed_153 hl (k := 6) rfl (by rw [ey]; rfl) (by decide) rfl (fun ls hl => ?_)
                      refine lv_goto (tgt := 6) hx hb dX2_needed_156 (by decide) ?_
                      rw [nI_1] at ey
                      subst ey
                      exact ih (i + 1) (by omega) ls (lv_sub hl [0, 1, 7, 8, 9, 10] rfl)
                    · skip
                      have hgt := Nat.lt_of_not_le (fun q => c141 (nI_le q (by omega)))
                      refine lv_iload hx hb dX2_needed_144 (lv_at hl 0 rfl) ?_
                      refine lv_goto (tgt := 151) hx hb dX2_needed_146 (by decide) ?_
                      rw [show zNB z (some f) (some j) = zGN z (fun e => zLO z h (ch e)) (some j) t (i + 1) by rw [hgn, Nat.max_eq_right (by omega)]]
                      refine lv_istore (lv' := [(5, .int (nI (zGN z (fun e => zLO z h (ch e)) (some j) t (i + 1)))), (11, .int (nI (zNB z (some f) (some j)))), (10, .int (nI (zAl z j))), (9, .int (mn (f * 20 + j))), (8, .int (nI f)), (7, .int (nI a)), (6, .int (nI i)), (0, .ref (ad 1000)), (1, .int (nI t)), (2, .int (nI j)), (3, .long (lN h))]) hx hb dX2_needed_151 hl (by decide) rfl (fun ls hl => ?_)
                      obtain ⟨y, ey⟩ : ∃ y : Int32, y = nI i + 1 := ⟨_, rfl⟩
                      refine lv_iinc (v := y) (lv' := [(6, .int y), (5, .int (nI (zGN z (fun e => zLO z h (ch e)) (some j) t (i + 1)))), (11, .int (nI (zNB z (some f) (some j)))), (10, .int (nI (zAl z j))), (9, .int (mn (f * 20 + j))), (8, .int (nI f)), (7, .int (nI a)), (0, .ref (ad 1000)), (1, .int (nI t)), (2, .int (nI j)), (3, .long (lN h))]) hx hb dX2_needed_153 hl (k := 6) rfl (by rw [ey]; rfl) (by decide) rfl (fun ls hl => ?_)
                      refine lv_goto (tgt := 6) hx hb dX2_needed_156 (by decide) ?_
                      rw [nI_1] at ey
                      subst ey
                      exact ih (i + 1) (by omega) ls (lv_sub hl [0, 1, 7, 8, 9, 10] rfl)
                  · skip
                    have hmv : mn (f * 20 + j) = nI (zNd z f j) := by
                      rcases hmn f j hf hj with q | q
                      · exact absurd q.1 c108
                      · exact q
                    refine lv_aload_n hx hb dX2_needed_111 rfl (lv_at hl 6 rfl) ?_
                    refine mh_get (ci := 2) (v := .ref (ad 1002)) hx hb hts wfX2 hown hK.1 hP 1000 rfl rfl 3 (by decide) (hts _ flX2_13) (fun _ h9 => h9) rfl dX2_needed_112 ?_
                    refine lv_iload hx hb dX2_needed_115 (lv_at hl 2 rfl) ?_
                    refine mh_ialn (i := f) (v := nI (zAl z f)) hx hb hK.1 hP 1002 0 rfl rfl (by omega) (by decide) dX2_needed_117 rfl ?_
                    refine lv_iload hx hb dX2_needed_118 (lv_at hl 0 rfl) ?_
                    refine lv_iconst (v := (-1)) hx hb dX2_needed_120 (by decide) ?_
                    refine lv_ixor hx hb dX2_needed_121 ?_
                    refine lv_iand hx hb dX2_needed_122 ?_
                    refine lv_if_eq (tgt := 133) hx hb dX2_needed_123 (by decide) (fun c123 => ?_) (fun c123 => ?_)
                    · skip
                      have hn : zNB z (some f) (some j) = zNd z f j := if_pos c123
                      refine lv_iload hx hb dX2_needed_133 (lv_at hl 1 rfl) ?_
                      rw [hmv]
                      rw [← hn]
                      refine lv_istore (lv' := [(11, .int (nI (zNB z (some f) (some j)))), (10, .int (nI (zAl z j))), (9, .int (mn (f * 20 + j))), (8, .int (nI f)), (7, .int (nI a)), (6, .int (nI i)), (5, .int (nI (zGN z (fun e => zLO z h (ch e)) (some j) t i))), (0, .ref (ad 1000)), (1, .int (nI t)), (2, .int (nI j)), (3, .long (lN h))]) hx hb dX2_needed_135 hl (by decide) rfl (fun ls hl => ?_)
                      refine lv_iload hx hb dX2_needed_137 (lv_at hl 0 rfl) ?_
                      refine lv_iload hx hb dX2_needed_139 (lv_at hl 6 rfl) ?_
                      refine lv_icmp_le (tgt := 149) hx hb dX2_needed_141 (by decide) (fun c141 => ?_) (fun c141 => ?_)
                      · skip
                        have hle := (nI_leI (by omega) (by omega)).mp c141
                        have hl : lv_has ls 12 [(11, .int (nI (zNB z (some f) (some j)))), (10, .int (nI (zAl z j))), (9, .int (mn (f * 20 + j))), (8, .int (nI f)), (7, .int (nI a)), (6, .int (nI i)), (5, .int (nI (zGN z (fun e => zLO z h (ch e)) (some j) t (i + 1)))), (0, .ref (ad 1000)), (1, .int (nI t)), (2, .int (nI j)), (3, .long (lN h))] := by rw [hgn, Nat.max_eq_left hle]; exact hl
                        refine lv_iload hx hb dX2_needed_149 (lv_at hl 6 rfl) ?_
                        refine lv_istore (lv' := [(5, .int (nI (zGN z (fun e => zLO z h (ch e)) (some j) t (i + 1)))), (11, .int (nI (zNB z (some f) (some j)))), (10, .int (nI (zAl z j))), (9, .int (mn (f * 20 + j))), (8, .int (nI f)), (7, .int (nI a)), (6, .int (nI i)), (0, .ref (ad 1000)), (1, .int (nI t)), (2, .int (nI j)), (3, .long (lN h))]) hx hb dX2_needed_151 hl (by decide) rfl (fun ls hl => ?_)
                        obtain ⟨y, ey⟩ : ∃ y : Int32, y = nI i + 1 := ⟨_, rfl⟩
                        refine lv_iinc (v := y) (lv' := [(6, .int y), (5, .int (nI (zGN z (fun e => zLO z h (ch e)) (some j) t (i + 1)))), (11, .int (nI (zNB z (some f) (some j)))), (10, .int (nI (zAl z j))), (9, .int (mn (f * 20 + j))), (8, .int (nI f)), (7, .int (nI a)), (0, .ref (ad 1000)), (1, .int (nI t)), (2, .int (nI j)), (3, .long (lN h))]) hx hb dX2_needed_153 hl (k := 6) rfl (by rw [ey]; rfl) (by decide) rfl (fun ls hl => ?_)
                        refine lv_goto (tgt := 6) hx hb dX2_needed_156 (by decide) ?_
                        rw [nI_1] at ey
                        subst ey
                        exact ih (i + 1) (by omega) ls (lv_sub hl [0, 1, 7, 8, 9, 10] rfl)
                      · skip
                        have hgt := Nat.lt_of_not_le (fun q => c141 (nI_le q (by omega)))
                        refine lv_iload hx hb dX2_needed_144 (lv_at hl 0 rfl) ?_
                        refine lv_goto (tgt := 151) hx hb dX2_needed_146 (by decide) ?_
                        rw [show zNB z (some f) (some j) = zGN z (fun e => zLO z h (ch e)) (some j) t (i + 1) by rw [hgn, Nat.max_eq_right (by omega)]]
                        refine lv_istore (lv' := [(5, .int (nI (zGN z (fun e => zLO z h (ch e)) (some j) t (i + 1)))), (11, .int (nI (zNB z (some f) (some j)))), (10, .int (nI (zAl z j))), (9, .int (mn (f * 20 + j))), (8, .int (nI f)), (7, .int (nI a)), (6, .int (nI i)), (0, .ref (ad 1000)), (1, .int (nI t)), (2, .int (nI j)), (3, .long (lN h))]) hx hb dX2_needed_151 hl (by decide) rfl (fun ls hl => ?_)
                        obtain ⟨y, ey⟩ : ∃ y : Int32, y = nI i + 1 := ⟨_, rfl⟩
                        refine lv_iinc (v := y) (lv' := [(6, .int y), (5, .int (nI (zGN z (fun e => zLO z h (ch e)) (some j) t (i + 1)))), (11, .int (nI (zNB z (some f) (some j)))), (10, .int (nI (zAl z j))), (9, .int (mn (f * 20 + j))), (8, .int (nI f)), (7, .int (nI a)), (0, .ref (ad 1000)), (1, .int (nI t)), (2, .int (nI j)), (3, .long (lN h))]) hx hb dX2_needed_153 hl (k := 6) rfl (by rw [ey]; rfl) (by decide) rfl (fun ls hl => ?_)
                        refine lv_goto (tgt := 6) hx hb dX2_needed_156 (by decide) ?_
                        rw [nI_1] at ey
                        subst ey
                        exact ih (i + 1) (by omega) ls (lv_sub hl [0, 1, 7, 8, 9, 10] rfl)
                    · skip
                      have hn : zNB z (some f) (some j) = zL z := if_neg c123
                      refine lv_aload_n hx hb dX2_needed_126 rfl (lv_at hl 6 rfl) ?_
                      refine mh_get (ci := 2) (v := .int (nI (zL z))) hx hb hts wfX2 hown hK.1 hP 1000 rfl rfl 1 (by decide) (hts _ flX2_46) (fun _ h9 => h9) rfl dX2_needed_127 ?_
                      refine lv_goto (tgt := 135) hx hb dX2_needed_130 (by decide) ?_
                      rw [← hn]
                      refine lv_istore (lv' := [(11, .int (nI (zNB z (some f) (some j)))), (10, .int (nI (zAl z j))), (9, .int (mn (f * 20 + j))), (8, .int (nI f)), (7, .int (nI a)), (6, .int (nI i)), (5, .int (nI (zGN z (fun e => zLO z h (ch e)) (some j) t i))), (0, .ref (ad 1000)), (1, .int (nI t)), (2, .int (nI j)), (3, .long (lN h))]) hx hb dX2_needed_135 hl (by decide) rfl (fun ls hl => ?_)
                      refine lv_iload hx hb dX2_needed_137 (lv_at hl 0 rfl) ?_
                      refine lv_iload hx hb dX2_needed_139 (lv_at hl 6 rfl) ?_
                      refine lv_icmp_le (tgt := 149) hx hb dX2_needed_141 (by decide) (fun c141 => ?_) (fun c141 => ?_)
                      · skip
                        have hle := (nI_leI (by omega) (by omega)).mp c141
                        have hl : lv_has ls 12 [(11, .int (nI (zNB z (some f) (some j)))), (10, .int (nI (zAl z j))), (9, .int (mn (f * 20 + j))), (8, .int (nI f)), (7, .int (nI a)), (6, .int (nI i)), (5, .int (nI (zGN z (fun e => zLO z h (ch e)) (some j) t (i + 1)))), (0, .ref (ad 1000)), (1, .int (nI t)), (2, .int (nI j)), (3, .long (lN h))] := by rw [hgn, Nat.max_eq_left hle]; exact hl
                        refine lv_iload hx hb dX2_needed_149 (lv_at hl 6 rfl) ?_
                        refine lv_istore (lv' := [(5, .int (nI (zGN z (fun e => zLO z h (ch e)) (some j) t (i + 1)))), (11, .int (nI (zNB z (some f) (some j)))), (10, .int (nI (zAl z j))), (9, .int (mn (f * 20 + j))), (8, .int (nI f)), (7, .int (nI a)), (6, .int (nI i)), (0, .ref (ad 1000)), (1, .int (nI t)), (2, .int (nI j)), (3, .long (lN h))]) hx hb dX2_needed_151 hl (by decide) rfl (fun ls hl => ?_)
                        obtain ⟨y, ey⟩ : ∃ y : Int32, y = nI i + 1 := ⟨_, rfl⟩
                        refine lv_iinc (v := y) (lv' := [(6, .int y), (5, .int (nI (zGN z (fun e => zLO z h (ch e)) (some j) t (i + 1)))), (11, .int (nI (zNB z (some f) (some j)))), (10, .int (nI (zAl z j))), (9, .int (mn (f * 20 + j))), (8, .int (nI f)), (7, .int (nI a)), (0, .ref (ad 1000)), (1, .int (nI t)), (2, .int (nI j)), (3, .long (lN h))]) hx hb dX2_needed_153 hl (k := 6) rfl (by rw [ey]; rfl) (by decide) rfl (fun ls hl => ?_)
                        refine lv_goto (tgt := 6) hx hb dX2_needed_156 (by decide) ?_
                        rw [nI_1] at ey
                        subst ey
                        exact ih (i + 1) (by omega) ls (lv_sub hl [0, 1, 7, 8, 9, 10] rfl)
                      · skip
                        have hgt := Nat.lt_of_not_le (fun q => c141 (nI_le q (by omega)))
                        refine lv_iload hx hb dX2_needed_144 (lv_at hl 0 rfl) ?_
                        refine lv_goto (tgt := 151) hx hb dX2_needed_146 (by decide) ?_
                        rw [show zNB z (some f) (some j) = zGN z (fun e => zLO z h (ch e)) (some j) t (i + 1) by rw [hgn, Nat.max_eq_right (by omega)]]
                        refine lv_istore (lv' := [(5, .int (nI (zGN z (fun e => zLO z h (ch e)) (some j) t (i + 1)))), (11, .int (nI (zNB z (some f) (some j)))), (10, .int (nI (zAl z j))), (9, .int (mn (f * 20 + j))), (8, .int (nI f)), (7, .int (nI a)), (6, .int (nI i)), (0, .ref (ad 1000)), (1, .int (nI t)), (2, .int (nI j)), (3, .long (lN h))]) hx hb dX2_needed_151 hl (by decide) rfl (fun ls hl => ?_)
                        obtain ⟨y, ey⟩ : ∃ y : Int32, y = nI i + 1 := ⟨_, rfl⟩
                        refine lv_iinc (v := y) (lv' := [(6, .int y), (5, .int (nI (zGN z (fun e => zLO z h (ch e)) (some j) t (i + 1)))), (11, .int (nI (zNB z (some f) (some j)))), (10, .int (nI (zAl z j))), (9, .int (mn (f * 20 + j))), (8, .int (nI f)), (7, .int (nI a)), (0, .ref (ad 1000)), (1, .int (nI t)), (2, .int (nI j)), (3, .long (lN h))]) hx hb dX2_needed_153 hl (k := 6) rfl (by rw [ey]; rfl) (by decide) rfl (fun ls hl => ?_)
                        refine lv_goto (tgt := 6) hx hb dX2_needed_156 (by decide) ?_
                        rw [nI_1] at ey
                        subst ey
                        exact ih (i + 1) (by omega) ls (lv_sub hl [0, 1, 7, 8, 9, 10] rfl)
  refine lv_iconst (v := 0) hx hb dX2_needed_0 (by decide) ?_
  refine lv_istore (lv' := [(5, .int 0), (0, .ref (ad 1000)), (1, .int (nI t)), (2, .int kk), (3, .long (lN h))]) hx hb dX2_needed_1 hl (by decide) rfl (fun ls hl => ?_)
  refine lv_iconst (v := 0) hx hb dX2_needed_3 (by decide) ?_
  refine lv_istore (lv' := [(6, .int 0), (5, .int 0), (0, .ref (ad 1000)), (1, .int (nI t)), (2, .int kk), (3, .long (lN h))]) hx hb dX2_needed_4 hl (by decide) rfl (fun ls hl => ?_)
  exact loop (zT z) 0 (Nat.zero_add _) ls (lv_sub hl [0, 1, 2, 3, 4, 5] rfl)
