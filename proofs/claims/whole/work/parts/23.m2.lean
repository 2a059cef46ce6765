theorem la_flat {z : zS} {lv st : Nat} (h : st < 2) : zLa z ((2 * lv + st) % 2) ((2 * lv + st) / 2) = zLa z st lv := by
  rw [show (2 * lv + st) % 2 = st by omega, show (2 * lv + st) / 2 = lv by omega]
theorem zChM {z : zS} {n : Nat} : ∀ i, (if zCo z (n + i) < zCo z (zCh z n (i - 1)) then n + i else zCh z n (i - 1)) = zCh z n i
  | 0 => by
    show (if zCo z n < zCo z n then n else n) = n
    rw [if_neg (Nat.lt_irrefl _)]
  | i + 1 => rfl
theorem zNB_none (z : zS) (o : Option Nat) : zNB z none o = 0 := rfl
set_option maxHeartbeats 4000000 in
set_option maxRecDepth 100000 in
/-- holds -/
theorem kX2_holds (l : Launch) (D : va_G) (cy : Nat → ClassId) (lo : Nat) (ad : Nat → Nat) (z : zS) (et : Nat → Nat) (mn : Nat → Int32) (gm : Nat → Nat) (G : Nat → Option va_E) (ch : Nat → List Nat) (hok : zOk z ch) (hy : yOk z ch et mn gm) (t lv h : Nat) (ht : t < zT z) (hl1 : 1 ≤ lv) (hl2 : lv ≤ zL z) (hh : h ≤ 1000000) : Met l yX2_holds wX2_holds { frames := 1, cells := 0, slots := 0, locals := 26 } (pcs D cy lo ad (yC cy ad z et mn gm G) [.ref (ad 1000), .int (nI t), .int (nI lv), .long (lN h)]) (vp_Si (fun r => sb r (yHo z et (zState z t) t lv h (zLK z h (ch t))))) 0 0 (fun _ => False) := by
  refine Met.ofW (cc := cX2_holds) (maxL := 9) (ret := (some .boolean)) (by decide) rfl ?_
  intro p e s m args below meth c s₁ B hml hv
  obtain ⟨rfl, hz, hP, hK⟩ := hv
  have hx := B.exec
  have hb := B.bytes
  have hr := B.returns
  have hts : ∀ w ∈ wA, w.before [.ref (ad 1000), .int (nI t), .int (nI lv), .long (lN h)].toArray s = true := fun w h => atoms_spec (ws := wX2_holds) B.pre w (List.mem_cons_of_mem _ h)
  have hown : s.vm.findClass RX2 = some m.cls := findClass_of_methodNamed B.named
  have hlocks := B.notSynchronized
  have hl := lv_entry ([.ref (ad 1000), .int (nI t), .int (nI lv), .long (lN h)]) (n := 9) (Nat.le_of_ble_eq_true rfl)
  rw [lg_entry_eq]
  generalize (lg_sl ([.ref (ad 1000), .int (nI t), .int (nI lv), .long (lN h)]) ++ List.replicate (9 - (lg_sl ([.ref (ad 1000), .int (nI t), .int (nI lv), .long (lN h)])).length) Slot.unset).toArray = ls at hl ⊢
  have hl : lv_has ls 9 [(0, .ref (ad 1000)), (1, .int (nI t)), (2, .int (nI lv)), (3, .long (lN h))] := hl
  obtain ⟨Q, hQ⟩ : ∃ Q, Q = MQ below (vp_Si (fun r => sb r (yHo z et (zState z t) t lv h (zLK z h (ch t))))) [.ref (ad 1000), .int (nI t), .int (nI lv), .long (lN h)].toArray s 0 0 (fun _ => False) := ⟨_, rfl⟩
  rw [← hQ]
  obtain ⟨hK1, hK20, hL1, hL9, hT32, hE200, hnd, hal, hla, hco, hgr, hch, hlt0, hev, hbf⟩ := id hok
  obtain ⟨hmn, hgm, hgg, het, hcc⟩ := id hy
  have hst := zState_lt z t
  have hlkE : ∀ b, zLK z h (ch t) = some b → b < zE z := fun b hb => ((hcc t ht).1 b |>.mp (zLK_mem _ hb)).1
  have loop : ∀ (d i : Nat) (v : Int32), i + d = zE z → ((v = 0 ∧ ∀ k, k < i → ¬ (et k = t ∧ ei (zVs z k) = -1 ∧ lv ≤ el (zVs z k) ∧ eh (zVs z k) ≤ h ∧ zAf z k (zLK z h (ch t)) ∧ h - eh (zVs z k) < zLa z (zState z t) lv)) ∨ (v = 1 ∧ ∃ k, k < zE z ∧ (et k = t ∧ ei (zVs z k) = -1 ∧ lv ≤ el (zVs z k) ∧ eh (zVs z k) ≤ h ∧ zAf z k (zLK z h (ch t)) ∧ h - eh (zVs z k) < zLa z (zState z t) lv))) → ∀ (ls : Array Slot), lv_has ls 9 [(7, .int (nI i)), (6, .int v), (5, .int (oI (zLK z h (ch t)))), (0, .ref (ad 1000)), (1, .int (nI t)), (2, .int (nI lv)), (3, .long (lN h))] → W p l e (headSpec wX2_holds { frames := 1, cells := 0, slots := 0, locals := 26 }).room s m [.ref (ad 1000), .int (nI t), .int (nI lv), .long (lN h)].toArray below meth c s.heap [] 0 0 Q (F0 m 14 ls []) := by
    intro d
    induction d with
    | zero =>
      intro i v hid hin ls hl
      refine lv_iload hx hb dX2_holds_14 (lv_at hl 0 rfl) ?_
      refine lv_aload_n hx hb dX2_holds_16 rfl (lv_at hl 3 rfl) ?_
      refine mh_get (ci := 2) (v := .int (nI (zE z))) hx hb hts wfX2 hown hK.1 hP 1000 rfl rfl 13 (by decide) (hts _ flX2_66) (fun _ h9 => h9) rfl dX2_holds_17 ?_
      refine lv_icmp_ge (tgt := 137) hx hb dX2_holds_20 (by decide) (fun c20 => ?_) (fun c20 => ?_)
      · skip
        refine lv_iload hx hb dX2_holds_137 (lv_at hl 1 rfl) ?_
        rw [hQ]
        exact W.zret (v := v) hx hb hr (by rcases hin with q | q <;> rw [q.1] <;> decide) (fun t9 ht9 _ => ⟨_, rfl, (by
          rcases hin with ⟨q1, q2⟩ | ⟨q1, k, q2, q3⟩
          · exact sb_f (fun ⟨k, k1, k2⟩ => q2 k (by omega) k2) q1
          · exact sb_t ⟨k, q2, q3⟩ q1), ht9⟩) (fun q h => by cases h) dX2_holds_139
      · skip
        exact absurd (nI_le (by omega) (by omega)) c20
    | succ d ih =>
      intro i v hid hin ls hl
      refine lv_iload hx hb dX2_holds_14 (lv_at hl 0 rfl) ?_
      refine lv_aload_n hx hb dX2_holds_16 rfl (lv_at hl 3 rfl) ?_
      refine mh_get (ci := 2) (v := .int (nI (zE z))) hx hb hts wfX2 hown hK.1 hP 1000 rfl rfl 13 (by decide) (hts _ flX2_66) (fun _ h9 => h9) rfl dX2_holds_17 ?_
      refine lv_icmp_ge (tgt := 137) hx hb dX2_holds_20 (by decide) (fun c20 => ?_) (fun c20 => ?_)
      · skip
        exact absurd c20 (nI_ge (by omega) (by omega))
      · skip
        obtain ⟨ev1, ev2, ev3, ev4⟩ := hev i (by omega)
        have eet := het i (by omega)
        have ela := hla (zState z t) lv
        refine lv_iload hx hb dX2_holds_23 (lv_at hl 1 rfl) ?_
        refine lv_if_ne (tgt := 137) hx hb dX2_holds_25 (by decide) (fun c25 => ?_) (fun c25 => ?_)
        · skip
          refine lv_iload hx hb dX2_holds_137 (lv_at hl 1 rfl) ?_
          rw [hQ]
          exact W.zret (v := v) hx hb hr (by rcases hin with q | q <;> rw [q.1] <;> decide) (fun t9 ht9 _ => ⟨_, rfl, (by
            rcases hin with ⟨q1, q2⟩ | ⟨q1, k, q2, q3⟩
            · exact absurd q1 c25
            · exact sb_t ⟨k, q2, q3⟩ q1), ht9⟩) (fun q h => by cases h) dX2_holds_139
        · skip
          have hall : v = 0 ∧ ∀ k, k < i → ¬ (et k = t ∧ ei (zVs z k) = -1 ∧ lv ≤ el (zVs z k) ∧ eh (zVs z k) ≤ h ∧ zAf z k (zLK z h (ch t)) ∧ h - eh (zVs z k) < zLa z (zState z t) lv) := by
            rcases hin with q | q
            · exact q
            · rw [q.1] at c25; exact absurd c25 (by decide)
          refine lv_aload_n hx hb dX2_holds_28 rfl (lv_at hl 3 rfl) ?_
          refine mh_get (ci := 2) (v := .ref (ad 1006)) hx hb hts wfX2 hown hK.1 hP 1000 rfl rfl 8 (by decide) (hts _ flX2_26) (fun _ h9 => h9) rfl dX2_holds_29 ?_
          refine lv_iload hx hb dX2_holds_32 (lv_at hl 0 rfl) ?_
          refine mh_ialn (i := i) (v := nI (et i)) hx hb hK.1 hP 1006 0 rfl rfl (by omega) (by decide) dX2_holds_34 rfl ?_
          refine lv_iload_n hx hb dX2_holds_35 rfl (lv_at hl 4 rfl) ?_
          refine lv_icmp_ne (tgt := 88) hx hb dX2_holds_36 (by decide) (fun c36 => ?_) (fun c36 => ?_)
          · skip
            have hNi : ¬ (et i = t ∧ ei (zVs z i) = -1 ∧ lv ≤ el (zVs z i) ∧ eh (zVs z i) ≤ h ∧ zAf z i (zLK z h (ch t)) ∧ h - eh (zVs z i) < zLa z (zState z t) lv) := fun q => c36 (by rw [q.1])
            refine lv_iconst (v := 0) hx hb dX2_holds_88 (by decide) ?_
            refine lv_istore (lv' := [(8, .int 0), (7, .int (nI i)), (6, .int v), (5, .int (oI (zLK z h (ch t)))), (0, .ref (ad 1000)), (1, .int (nI t)), (2, .int (nI lv)), (3, .long (lN h))]) hx hb dX2_holds_89 hl (by decide) rfl (fun ls hl => ?_)
            refine lv_iload hx hb dX2_holds_91 (lv_at hl 0 rfl) ?_
            refine lv_if_eq (tgt := 128) hx hb dX2_holds_93 (by decide) (fun c93 => ?_) (fun c93 => ?_)
            · skip
              refine lv_iconst (v := 0) hx hb dX2_holds_128 (by decide) ?_
              refine lv_istore (lv' := [(6, .int 0), (8, .int 0), (7, .int (nI i)), (5, .int (oI (zLK z h (ch t)))), (0, .ref (ad 1000)), (1, .int (nI t)), (2, .int (nI lv)), (3, .long (lN h))]) hx hb dX2_holds_129 hl (by decide) rfl (fun ls hl => ?_)
              obtain ⟨y, ey⟩ : ∃ y : Int32, y = nI i + 1 := ⟨_, rfl⟩
              refine lv_iinc (v := y) (lv' := [(7, .int y), (6, .int 0), (8, .int 0), (5, .int (oI (zLK z h (ch t)))), (0, .ref (ad 1000)), (1, .int (nI t)), (2, .int (nI lv)), (3, .long (lN h))]) hx hb dX2_holds_131 hl (k := 2) rfl (by rw [ey]; rfl) (by decide) rfl (fun ls hl => ?_)
              refine lv_goto (tgt := 14) hx hb dX2_holds_134 (by decide) ?_
              rw [nI_1] at ey
              subst ey
              exact ih (i + 1) 0 (by omega) (Or.inl ⟨rfl, lt_s hall.2 hNi⟩) ls (lv_sub hl [0, 1, 3, 4, 5, 6, 7] rfl)
            · skip
              exact absurd rfl c93
          · skip
            have het1 : et i = t := (nI_eq (by omega) (by omega)).mp c36
            refine lv_aload_n hx hb dX2_holds_39 rfl (lv_at hl 3 rfl) ?_
            refine mh_get (ci := 2) (v := .ref (ad 1008)) hx hb hts wfX2 hown hK.1 hP 1000 rfl rfl 10 (by decide) (hts _ flX2_32) (fun _ h9 => h9) rfl dX2_holds_40 ?_
            refine lv_iload hx hb dX2_holds_43 (lv_at hl 0 rfl) ?_
            refine mh_ialn (i := i) (v := ei (zVs z i)) hx hb hK.1 hP 1008 0 rfl rfl (by omega) (by decide) dX2_holds_45 rfl ?_
            refine lv_iconst (v := (-1)) hx hb dX2_holds_46 (by decide) ?_
            refine lv_icmp_ne (tgt := 88) hx hb dX2_holds_47 (by decide) (fun c47 => ?_) (fun c47 => ?_)
            · skip
              have hNi : ¬ (et i = t ∧ ei (zVs z i) = -1 ∧ lv ≤ el (zVs z i) ∧ eh (zVs z i) ≤ h ∧ zAf z i (zLK z h (ch t)) ∧ h - eh (zVs z i) < zLa z (zState z t) lv) := fun q => c47 q.2.1
              refine lv_iconst (v := 0) hx hb dX2_holds_88 (by decide) ?_
              refine lv_istore (lv' := [(8, .int 0), (7, .int (nI i)), (6, .int v), (5, .int (oI (zLK z h (ch t)))), (0, .ref (ad 1000)), (1, .int (nI t)), (2, .int (nI lv)), (3, .long (lN h))]) hx hb dX2_holds_89 hl (by decide) rfl (fun ls hl => ?_)
              refine lv_iload hx hb dX2_holds_91 (lv_at hl 0 rfl) ?_
              refine lv_if_eq (tgt := 128) hx hb dX2_holds_93 (by decide) (fun c93 => ?_) (fun c93 => ?_)
              · skip
                refine lv_iconst (v := 0) hx hb dX2_holds_128 (by decide) ?_
                refine lv_istore (lv' := [(6, .int 0), (8, .int 0), (7, .int (nI i)), (5, .int (oI (zLK z h (ch t)))), (0, .ref (ad 1000)), (1, .int (nI t)), (2, .int (nI lv)), (3, .long (lN h))]) hx hb dX2_holds_129 hl (by decide) rfl (fun ls hl => ?_)
                obtain ⟨y, ey⟩ : ∃ y : Int32, y = nI i + 1 := ⟨_, rfl⟩
                refine lv_iinc (v := y) (lv' := [(7, .int y), (6, .int 0), (8, .int 0), (5, .int (oI (zLK z h (ch t)))), (0, .ref (ad 1000)), (1, .int (nI t)), (2, .int (nI lv)), (3, .long (lN h))]) hx hb dX2_holds_131 hl (k := 2) rfl (by rw [ey]; rfl) (by decide) rfl (fun ls hl => ?_)
                refine lv_goto (tgt := 14) hx hb dX2_holds_134 (by decide) ?_
                rw [nI_1] at ey
                subst ey
                exact ih (i + 1) 0 (by omega) (Or.inl ⟨rfl, lt_s hall.2 hNi⟩) ls (lv_sub hl [0, 1, 3, 4, 5, 6, 7] rfl)
              · skip
                exact absurd rfl c93
            · skip
              refine lv_aload_n hx hb dX2_holds_50 rfl (lv_at hl 3 rfl) ?_
              refine mh_get (ci := 2) (v := .ref (ad 1009)) hx hb hts wfX2 hown hK.1 hP 1000 rfl rfl 11 (by decide) (hts _ flX2_35) (fun _ h9 => h9) rfl dX2_holds_51 ?_
              refine lv_iload hx hb dX2_holds_54 (lv_at hl 0 rfl) ?_
              refine mh_ialn (i := i) (v := nI (el (zVs z i))) hx hb hK.1 hP 1009 0 rfl rfl (by omega) (by decide) dX2_holds_56 rfl ?_
              refine lv_iload_n hx hb dX2_holds_57 rfl (lv_at hl 5 rfl) ?_
              refine lv_icmp_lt (tgt := 88) hx hb dX2_holds_58 (by decide) (fun c58 => ?_) (fun c58 => ?_)
              · skip
                have hNi : ¬ (et i = t ∧ ei (zVs z i) = -1 ∧ lv ≤ el (zVs z i) ∧ eh (zVs z i) ≤ h ∧ zAf z i (zLK z h (ch t)) ∧ h - eh (zVs z i) < zLa z (zState z t) lv) := fun q => by
                  have q1 := (nI_ltI (by omega) (by omega)).mp c58
                  have := q.2.2.1
                  omega
                refine lv_iconst (v := 0) hx hb dX2_holds_88 (by decide) ?_
                refine lv_istore (lv' := [(8, .int 0), (7, .int (nI i)), (6, .int v), (5, .int (oI (zLK z h (ch t)))), (0, .ref (ad 1000)), (1, .int (nI t)), (2, .int (nI lv)), (3, .long (lN h))]) hx hb dX2_holds_89 hl (by decide) rfl (fun ls hl => ?_)
                refine lv_iload hx hb dX2_holds_91 (lv_at hl 0 rfl) ?_
                refine lv_if_eq (tgt := 128) hx hb dX2_holds_93 (by decide) (fun c93 => ?_) (fun c93 => ?_)
                · skip
                  refine lv_iconst (v := 0) hx hb dX2_holds_128 (by decide) ?_
                  refine lv_istore (lv' := [(6, .int 0), (8, .int 0), (7, .int (nI i)), (5, .int (oI (zLK z h (ch t)))), (0, .ref (ad 1000)), (1, .int (nI t)), (2, .int (nI lv)), (3, .long (lN h))]) hx hb dX2_holds_129 hl (by decide) rfl (fun ls hl => ?_)
                  obtain ⟨y, ey⟩ : ∃ y : Int32, y = nI i + 1 := ⟨_, rfl⟩
                  refine lv_iinc (v := y) (lv' := [(7, .int y), (6, .int 0), (8, .int 0), (5, .int (oI (zLK z h (ch t)))), (0, .ref (ad 1000)), (1, .int (nI t)), (2, .int (nI lv)), (3, .long (lN h))]) hx hb dX2_holds_131 hl (k := 2) rfl (by rw [ey]; rfl) (by decide) rfl (fun ls hl => ?_)
                  refine lv_goto (tgt := 14) hx hb dX2_holds_134 (by decide) ?_
                  rw [nI_1] at ey
                  subst ey
                  exact ih (i + 1) 0 (by omega) (Or.inl ⟨rfl, lt_s hall.2 hNi⟩) ls (lv_sub hl [0, 1, 3, 4, 5, 6, 7] rfl)
                · skip
                  exact absurd rfl c93
              · skip
                have hlv : lv ≤ el (zVs z i) := Nat.le_of_not_lt (fun q => c58 (nI_lt q (by omega)))
                refine lv_aload_n hx hb dX2_holds_61 rfl (lv_at hl 3 rfl) ?_
                refine mh_get (ci := 2) (v := .ref (ad 1007)) hx hb hts wfX2 hown hK.1 hP 1000 rfl rfl 9 (by decide) (hts _ flX2_29) (fun _ h9 => h9) rfl dX2_holds_62 ?_
                refine lv_iload hx hb dX2_holds_65 (lv_at hl 0 rfl) ?_
                refine mh_laln (i := i) (v := lN (eh (zVs z i))) hx hb hK.1 hP 1007 1 rfl rfl (by omega) (by decide) dX2_holds_67 rfl ?_
                refine lv_lload_n hx hb dX2_holds_68 rfl (lv_at hl 6 rfl) ?_
                refine W.lcmp hx hb dX2_holds_69 ?_
                refine lv_if_gt (tgt := 88) hx hb dX2_holds_70 (by decide) (fun c70 => ?_) (fun c70 => ?_)
                · skip
                  have hNi : ¬ (et i = t ∧ ei (zVs z i) = -1 ∧ lv ≤ el (zVs z i) ∧ eh (zVs z i) ≤ h ∧ zAf z i (zLK z h (ch t)) ∧ h - eh (zVs z i) < zLa z (zState z t) lv) := fun q => by
                    have q1 := (lN_lt (by omega) (by omega)).mp ((lg_cmp_gt _ _).mp c70)
                    have := q.2.2.2.1
                    omega
                  refine lv_iconst (v := 0) hx hb dX2_holds_88 (by decide) ?_
                  refine lv_istore (lv' := [(8, .int 0), (7, .int (nI i)), (6, .int v), (5, .int (oI (zLK z h (ch t)))), (0, .ref (ad 1000)), (1, .int (nI t)), (2, .int (nI lv)), (3, .long (lN h))]) hx hb dX2_holds_89 hl (by decide) rfl (fun ls hl => ?_)
                  refine lv_iload hx hb dX2_holds_91 (lv_at hl 0 rfl) ?_
                  refine lv_if_eq (tgt := 128) hx hb dX2_holds_93 (by decide) (fun c93 => ?_) (fun c93 => ?_)
                  · skip
                    refine lv_iconst (v := 0) hx hb dX2_holds_128 (by decide) ?_
                    refine lv_istore (lv' := [(6, .int 0), (8, .int 0), (7, .int (nI i)), (5, .int (oI (zLK z h (ch t)))), (0, .ref (ad 1000)), (1, .int (nI t)), (2, .int (nI lv)), (3, .long (lN h))]) hx hb dX2_holds_129 hl (by decide) rfl (fun ls hl => ?_)
                    obtain ⟨y, ey⟩ : ∃ y : Int32, y = nI i + 1 := ⟨_, rfl⟩
                    refine lv_iinc (v := y) (lv' := [(7, .int y), (6, .int 0), (8, .int 0), (5, .int (oI (zLK z h (ch t)))), (0, .ref (ad 1000)), (1, .int (nI t)), (2, .int (nI lv)), (3, .long (lN h))]) hx hb dX2_holds_131 hl (k := 2) rfl (by rw [ey]; rfl) (by decide) rfl (fun ls hl => ?_)
                    refine lv_goto (tgt := 14) hx hb dX2_holds_134 (by decide) ?_
                    rw [nI_1] at ey
                    subst ey
                    exact ih (i + 1) 0 (by omega) (Or.inl ⟨rfl, lt_s hall.2 hNi⟩) ls (lv_sub hl [0, 1, 3, 4, 5, 6, 7] rfl)
                  · skip
                    exact absurd rfl c93
                · skip
                  have hle : eh (zVs z i) ≤ h := Nat.le_of_not_lt (fun q => c70 ((lg_cmp_gt _ _).mpr ((lN_lt (by omega) (by omega)).mpr q)))
                  refine lv_aload_n hx hb dX2_holds_73 rfl (lv_at hl 3 rfl) ?_
                  refine lv_iload hx hb dX2_holds_74 (lv_at hl 0 rfl) ?_
                  refine lv_iload hx hb dX2_holds_76 (lv_at hl 2 rfl) ?_
                  refine rcV (n := 2) (As := [.int (nI i), .int (oI (zLK z h (ch t)))]) (rest := []) ⟨hx, hb, hml, hown, hts⟩ (kX2_isAfter l D cy lo ad z et mn gm G ch hok hy i (zLK z h (ch t)) (by omega) hlkE) mlX2_85 imX2_isAfter seX2_isAfter inX2 cdX2_isAfter (by decide +kernel) rfl rfl ⟨Nat.le_of_ble_eq_true rfl, Nat.le_of_ble_eq_true rfl⟩ hK hP hz rfl rfl rfl hl.1 rfl (Nat.le_of_ble_eq_true rfl) dX2_holds_78 ⟨Nat.zero_le _, Nat.zero_le _⟩ (fun r78 hr78 => ?_)
                  refine lv_if_eq (tgt := 88) hx hb dX2_holds_81 (by decide) (fun c81 => ?_) (fun c81 => ?_)
                  · skip
                    have hNi : ¬ (et i = t ∧ ei (zVs z i) = -1 ∧ lv ≤ el (zVs z i) ∧ eh (zVs z i) ≤ h ∧ zAf z i (zLK z h (ch t)) ∧ h - eh (zVs z i) < zLa z (zState z t) lv) := fun q => sb_0 hr78 c81 q.2.2.2.2.1
                    refine lv_iconst (v := 0) hx hb dX2_holds_88 (by decide) ?_
                    refine lv_istore (lv' := [(8, .int 0), (7, .int (nI i)), (6, .int v), (5, .int (oI (zLK z h (ch t)))), (0, .ref (ad 1000)), (1, .int (nI t)), (2, .int (nI lv)), (3, .long (lN h))]) hx hb dX2_holds_89 hl (by decide) rfl (fun ls hl => ?_)
                    refine lv_iload hx hb dX2_holds_91 (lv_at hl 0 rfl) ?_
                    refine lv_if_eq (tgt := 128) hx hb dX2_holds_93 (by decide) (fun c93 => ?_) (fun c93 => ?_)
                    · skip
                      refine lv_iconst (v := 0) hx hb dX2_holds_128 (by decide) ?_
                      refine lv_istore (lv' := [(6, .int 0), (8, .int 0), (7, .int (nI i)), (5, .int (oI (zLK z h (ch t)))), (0, .ref (ad 1000)), (1, .int (nI t)), (2, .int (nI lv)), (3, .long (lN h))]) hx hb dX2_holds_129 hl (by decide) rfl (fun ls hl => ?_)
                      obtain ⟨y, ey⟩ : ∃ y : Int32, y = nI i + 1 := ⟨_, rfl⟩
                      refine lv_iinc (v := y) (lv' := [(7, .int y), (6, .int 0), (8, .int 0), (5, .int (oI (zLK z h (ch t)))), (0, .ref (ad 1000)), (1, .int (nI t)), (2, .int (nI lv)), (3, .long (lN h))]) hx hb dX2_holds_131 hl (k := 2) rfl (by rw [ey]; rfl) (by decide) rfl (fun ls hl => ?_)
                      refine lv_goto (tgt := 14) hx hb dX2_holds_134 (by decide) ?_
                      rw [nI_1] at ey
                      subst ey
                      exact ih (i + 1) 0 (by omega) (Or.inl ⟨rfl, lt_s hall.2 hNi⟩) ls (lv_sub hl [0, 1, 3, 4, 5, 6, 7] rfl)
                    · skip
                      exact absurd rfl c93
                  · skip
                    have haf := sb_1 hr78 c81
                    refine lv_iconst (v := 1) hx hb dX2_holds_84 (by decide) ?_
                    refine lv_goto (tgt := 89) hx hb dX2_holds_85 (by decide) ?_
                    refine lv_istore (lv' := [(8, .int 1), (7, .int (nI i)), (6, .int v), (5, .int (oI (zLK z h (ch t)))), (0, .ref (ad 1000)), (1, .int (nI t)), (2, .int (nI lv)), (3, .long (lN h))]) hx hb dX2_holds_89 hl (by decide) rfl (fun ls hl => ?_)
                    refine lv_iload hx hb dX2_holds_91 (lv_at hl 0 rfl) ?_
                    refine lv_if_eq (tgt := 128) hx hb dX2_holds_93 (by decide) (fun c93 => ?_) (fun c93 => ?_)
                    · skip
                      exact absurd c93 (by decide)
                    · skip
                      refine lv_lload_n hx hb dX2_holds_96 rfl (lv_at hl 7 rfl) ?_
                      refine lv_aload_n hx hb dX2_holds_97 rfl (lv_at hl 4 rfl) ?_
                      refine mh_get (ci := 2) (v := .ref (ad 1007)) hx hb hts wfX2 hown hK.1 hP 1000 rfl rfl 9 (by decide) (hts _ flX2_29) (fun _ h9 => h9) rfl dX2_holds_98 ?_
                      refine lv_iload hx hb dX2_holds_101 (lv_at hl 1 rfl) ?_
                      refine mh_laln (i := i) (v := lN (eh (zVs z i))) hx hb hK.1 hP 1007 1 rfl rfl (by omega) (by decide) dX2_holds_103 rfl ?_
                      refine lv_lsub hx hb dX2_holds_104 ?_
                      rw [lN_sub hle]
                      refine lv_aload_n hx hb dX2_holds_105 rfl (lv_at hl 4 rfl) ?_
                      refine mh_get (ci := 2) (v := .ref (ad 1003)) hx hb hts wfX2 hown hK.1 hP 1000 rfl rfl 4 (by decide) (hts _ flX2_16) (fun _ h9 => h9) rfl dX2_holds_106 ?_
                      refine lv_iconst (v := 2) hx hb dX2_holds_109 (by decide) ?_
                      refine lv_iload_n hx hb dX2_holds_110 rfl (lv_at hl 6 rfl) ?_
                      refine lv_imul hx hb dX2_holds_111 ?_
                      rw [show (2 : Int32) * nI lv = nI (2 * lv) from pk_mul 2 lv]
                      refine lv_aload_n hx hb dX2_holds_112 rfl (lv_at hl 4 rfl) ?_
                      refine lv_iload_n hx hb dX2_holds_113 rfl (lv_at hl 5 rfl) ?_
                      refine rcV (n := 1) (As := [.int (nI t)]) (rest := [.int (nI (2 * lv)), .ref (ad 1003), .long (lN (h - eh (zVs z i)))]) ⟨hx, hb, hml, hown, hts⟩ (kX2_state l D cy lo ad z et mn gm G ch hok hy t ht) mlX2_89 imX2_state seX2_state inX2 cdX2_state (by decide +kernel) rfl rfl ⟨Nat.le_of_ble_eq_true rfl, Nat.le_of_ble_eq_true rfl⟩ hK hP hz rfl rfl rfl hl.1 rfl (Nat.le_of_ble_eq_true rfl) dX2_holds_114 ⟨Nat.zero_le _, Nat.zero_le _⟩ (fun r114 hr114 => ?_)
                      subst hr114
                      refine lv_iadd hx hb dX2_holds_117 ?_
                      rw [nI_add]
                      refine mh_ialn (i := 2 * lv + zState z t) (v := nI (zLa z (zState z t) lv)) hx hb hK.1 hP 1003 0 rfl rfl (by omega) (by decide) dX2_holds_118 (congrArg nI (la_flat hst)) ?_
                      refine lv_i2l (v := lN (zLa z (zState z t) lv)) hx hb dX2_holds_119 (nI_l (by omega)) ?_
                      refine W.lcmp hx hb dX2_holds_120 ?_
                      refine lv_if_ge (tgt := 128) hx hb dX2_holds_121 (by decide) (fun c121 => ?_) (fun c121 => ?_)
                      · skip
                        have hNi : ¬ (et i = t ∧ ei (zVs z i) = -1 ∧ lv ≤ el (zVs z i) ∧ eh (zVs z i) ≤ h ∧ zAf z i (zLK z h (ch t)) ∧ h - eh (zVs z i) < zLa z (zState z t) lv) := fun q => by
                          have q1 := (lN_le (by omega) (by omega)).mp ((lg_cmp_ge _ _).mp c121)
                          have := q.2.2.2.2.2
                          omega
                        refine lv_iconst (v := 0) hx hb dX2_holds_128 (by decide) ?_
                        refine lv_istore (lv' := [(6, .int 0), (8, .int 1), (7, .int (nI i)), (5, .int (oI (zLK z h (ch t)))), (0, .ref (ad 1000)), (1, .int (nI t)), (2, .int (nI lv)), (3, .long (lN h))]) hx hb dX2_holds_129 hl (by decide) rfl (fun ls hl => ?_)
                        obtain ⟨y, ey⟩ : ∃ y : Int32, y = nI i + 1 := ⟨_, rfl⟩
                        refine lv_iinc (v := y) (lv' := [(7, .int y), (6, .int 0), (8, .int 1), (5, .int (oI (zLK z h (ch t)))), (0, .ref (ad 1000)), (1, .int (nI t)), (2, .int (nI lv)), (3, .long (lN h))]) hx hb dX2_holds_131 hl (k := 2) rfl (by rw [ey]; rfl) (by decide) rfl (fun ls hl => ?_)
                        refine lv_goto (tgt := 14) hx hb dX2_holds_134 (by decide) ?_
                        rw [nI_1] at ey
                        subst ey
                        exact ih (i + 1) 0 (by omega) (Or.inl ⟨rfl, lt_s hall.2 hNi⟩) ls (lv_sub hl [0, 1, 3, 4, 5, 6, 7] rfl)
                      · skip
                        have hPi : (et i = t ∧ ei (zVs z i) = -1 ∧ lv ≤ el (zVs z i) ∧ eh (zVs z i) ≤ h ∧ zAf z i (zLK z h (ch t)) ∧ h - eh (zVs z i) < zLa z (zState z t) lv) := ⟨het1, c47, hlv, hle, haf, Nat.lt_of_not_le (fun q => c121 ((lg_cmp_ge _ _).mpr ((lN_le (by omega) (by omega)).mpr q)))⟩
                        refine lv_iconst (v := 1) hx hb dX2_holds_124 (by decide) ?_
                        refine lv_goto (tgt := 129) hx hb dX2_holds_125 (by decide) ?_
                        refine lv_istore (lv' := [(6, .int 1), (8, .int 1), (7, .int (nI i)), (5, .int (oI (zLK z h (ch t)))), (0, .ref (ad 1000)), (1, .int (nI t)), (2, .int (nI lv)), (3, .long (lN h))]) hx hb dX2_holds_129 hl (by decide) rfl (fun ls hl => ?_)
                        obtain ⟨y, ey⟩ : ∃ y : Int32, y = nI i + 1 := ⟨_, rfl⟩
                        refine lv_iinc (v := y) (lv' := [(7, .int y), (6, .int 1), (8, .int 1), (5, .int (oI (zLK z h (ch t)))), (0, .ref (ad 1000)), (1, .int (nI t)), (2, .int (nI lv)), (3, .long (lN h))]) hx hb dX2_holds_131 hl (k := 2) rfl (by rw [ey]; rfl) (by decide) rfl (fun ls hl => ?_)
                        refine lv_goto (tgt := 14) hx hb dX2_holds_134 (by decide) ?_
                        rw [nI_1] at ey
                        subst ey
                        exact ih (i + 1) 1 (by omega) (Or.inr ⟨rfl, i, by omega, hPi⟩) ls (lv_sub hl [0, 1, 3, 4, 5, 6, 7] rfl)
  refine lv_aload_n hx hb dX2_holds_0 rfl (lv_at hl 0 rfl) ?_
  refine lv_iload_n hx hb dX2_holds_1 rfl (lv_at hl 1 rfl) ?_
  refine lv_lload_n hx hb dX2_holds_2 rfl (lv_at hl 3 rfl) ?_
  refine rcV (n := 2) (As := [.int (nI t), .long (lN h)]) (rest := []) ⟨hx, hb, hml, hown, hts⟩ (kX2_content l D cy lo ad z et mn gm G ch hok hy t h ht hh) mlX2_81 imX2_content seX2_content inX2 cdX2_content (by decide +kernel) rfl rfl ⟨Nat.le_of_ble_eq_true rfl, Nat.le_of_ble_eq_true rfl⟩ hK hP hz rfl rfl rfl hl.1 rfl (Nat.le_of_ble_eq_true rfl) dX2_holds_3 ⟨Nat.zero_le _, Nat.zero_le _⟩ (fun r3 hr3 => ?_)
  subst hr3
  refine lv_istore (lv' := [(5, .int (oI (zLK z h (ch t)))), (0, .ref (ad 1000)), (1, .int (nI t)), (2, .int (nI lv)), (3, .long (lN h))]) hx hb dX2_holds_6 hl (by decide) rfl (fun ls hl => ?_)
  refine lv_iconst (v := 0) hx hb dX2_holds_8 (by decide) ?_
  refine lv_istore (lv' := [(6, .int 0), (5, .int (oI (zLK z h (ch t)))), (0, .ref (ad 1000)), (1, .int (nI t)), (2, .int (nI lv)), (3, .long (lN h))]) hx hb dX2_holds_9 hl (by decide) rfl (fun ls hl => ?_)
  refine lv_iconst (v := 0) hx hb dX2_holds_11 (by decide) ?_
  refine lv_istore (lv' := [(7, .int 0), (6, .int 0), (5, .int (oI (zLK z h (ch t)))), (0, .ref (ad 1000)), (1, .int (nI t)), (2, .int (nI lv)), (3, .long (lN h))]) hx hb dX2_holds_12 hl (by decide) rfl (fun ls hl => ?_)
  exact loop (zE z) 0 0 (Nat.zero_add _) (Or.inl ⟨rfl, fun k hk => absurd hk (Nat.not_lt_zero _)⟩) ls (lv_sub hl [0, 1, 2, 3, 4, 5, 6] rfl)
set_option maxHeartbeats 4000000 in
set_option maxRecDepth 100000 in
/-- levelOf -/
theorem kX2_levelOf (l : Launch) (D : va_G) (cy : Nat → ClassId) (lo : Nat) (ad : Nat → Nat) (z : zS) (et : Nat → Nat) (mn : Nat → Int32) (gm : Nat → Nat) (G : Nat → Option va_E) (ch : Nat → List Nat) (hok : zOk z ch) (hy : yOk z ch et mn gm) (t h : Nat) (ht : t < zT z) (hh : h ≤ 1000000) : Met l yX2_levelOf wX2_levelOf { frames := 2, cells := 0, slots := 0, locals := 54 } (pcs D cy lo ad (yC cy ad z et mn gm G) [.ref (ad 1000), .int (nI t), .long (lN h)]) (vp_Si (fun r => r = nI (zOwn z (zState z t) h (ch t) 0))) 0 0 (fun _ => False) := by
  refine Met.ofW (cc := cX2_levelOf) (maxL := 5) (ret := (some .int)) (by decide) rfl ?_
  intro p e s m args below meth c s₁ B hml hv
  obtain ⟨rfl, hz, hP, hK⟩ := hv
  have hx := B.exec
  have hb := B.bytes
  have hr := B.returns
  have hts : ∀ w ∈ wA, w.before [.ref (ad 1000), .int (nI t), .long (lN h)].toArray s = true := fun w h => atoms_spec (ws := wX2_levelOf) B.pre w (List.mem_cons_of_mem _ h)
  have hown : s.vm.findClass RX2 = some m.cls := findClass_of_methodNamed B.named
  have hlocks := B.notSynchronized
  have hl := lv_entry ([.ref (ad 1000), .int (nI t), .long (lN h)]) (n := 5) (Nat.le_of_ble_eq_true rfl)
  rw [lg_entry_eq]
  generalize (lg_sl ([.ref (ad 1000), .int (nI t), .long (lN h)]) ++ List.replicate (5 - (lg_sl ([.ref (ad 1000), .int (nI t), .long (lN h)])).length) Slot.unset).toArray = ls at hl ⊢
  have hl : lv_has ls 5 [(0, .ref (ad 1000)), (1, .int (nI t)), (2, .long (lN h))] := hl
  obtain ⟨Q, hQ⟩ : ∃ Q, Q = MQ below (vp_Si (fun r => r = nI (zOwn z (zState z t) h (ch t) 0))) [.ref (ad 1000), .int (nI t), .long (lN h)].toArray s 0 0 (fun _ => False) := ⟨_, rfl⟩
  rw [← hQ]
  obtain ⟨hK1, hK20, hL1, hL9, hT32, hE200, hnd, hal, hla, hco, hgr, hch, hlt0, hev, hbf⟩ := id hok
  obtain ⟨hmn, hgm, hgg, het, hcc⟩ := id hy
  have loop : ∀ (n : Nat), n ≤ zL z → (∀ l, n < l → l ≤ zL z → ¬ yHo z et (zState z t) t l h (zLK z h (ch t))) → ∀ (ls : Array Slot), lv_has ls 5 [(4, .int (nI n)), (0, .ref (ad 1000)), (1, .int (nI t)), (2, .long (lN h))] → W p l e (headSpec wX2_levelOf { frames := 2, cells := 0, slots := 0, locals := 54 }).room s m [.ref (ad 1000), .int (nI t), .long (lN h)].toArray below meth c s.heap [] 0 0 Q (F0 m 6 ls []) := by
    intro n
    induction n with
    | zero =>
      intro hn hin ls hl
      refine lv_iload hx hb dX2_levelOf_6 (lv_at hl 0 rfl) ?_
      refine lv_if_le (tgt := 28) hx hb dX2_levelOf_8 (by decide) (fun c8 => ?_) (fun c8 => ?_)
      · skip
        refine lv_iload hx hb dX2_levelOf_28 (lv_at hl 0 rfl) ?_
        rw [hQ]
        exact W.iret (v := nI 0) hx hb hr (fun t9 ht9 _ => ⟨_, rfl, by rw [zOwn_is hy ht _ h 0 (Or.inl rfl) hin (fun k hk => (hev k hk).2.1)], ht9⟩) (fun q h => by cases h) dX2_levelOf_30
      · skip
        exact absurd (by decide) c8
    | succ n ih =>
      intro hn hin ls hl
      refine lv_iload hx hb dX2_levelOf_6 (lv_at hl 0 rfl) ?_
      refine lv_if_le (tgt := 28) hx hb dX2_levelOf_8 (by decide) (fun c8 => ?_) (fun c8 => ?_)
      · skip
        exact absurd c8 (nI_nle (by omega) (by omega))
      · skip
        refine lv_aload_n hx hb dX2_levelOf_11 rfl (lv_at hl 1 rfl) ?_
        refine lv_iload_n hx hb dX2_levelOf_12 rfl (lv_at hl 2 rfl) ?_
        refine lv_iload hx hb dX2_levelOf_13 (lv_at hl 0 rfl) ?_
        refine lv_lload_n hx hb dX2_levelOf_15 rfl (lv_at hl 3 rfl) ?_
        refine rcV (n := 3) (As := [.int (nI t), .int (nI (n + 1)), .long (lN h)]) (rest := []) ⟨hx, hb, hml, hown, hts⟩ (kX2_holds l D cy lo ad z et mn gm G ch hok hy t (n + 1) h ht (by omega) hn hh) mlX2_93 imX2_holds seX2_holds inX2 cdX2_holds (by decide +kernel) rfl rfl ⟨Nat.le_of_ble_eq_true rfl, Nat.le_of_ble_eq_true rfl⟩ hK hP hz rfl rfl rfl hl.1 rfl (Nat.le_of_ble_eq_true rfl) dX2_levelOf_16 ⟨Nat.zero_le _, Nat.zero_le _⟩ (fun r16 hr16 => ?_)
        refine lv_if_ne (tgt := 28) hx hb dX2_levelOf_19 (by decide) (fun c19 => ?_) (fun c19 => ?_)
        · skip
          have hho := sb_1 hr16 c19
          refine lv_iload hx hb dX2_levelOf_28 (lv_at hl 0 rfl) ?_
          rw [hQ]
          exact W.iret (v := nI (n + 1)) hx hb hr (fun t9 ht9 _ => ⟨_, rfl, by rw [zOwn_is hy ht _ h (n + 1) (Or.inr hho) hin (fun k hk => (hev k hk).2.1)], ht9⟩) (fun q h => by cases h) dX2_levelOf_30
        · skip
          have hno := sb_0 hr16 c19
          obtain ⟨y, ey⟩ : ∃ y : Int32, y = nI (n + 1) + (-1) := ⟨_, rfl⟩
          refine lv_iinc (v := y) (lv' := [(4, .int y), (0, .ref (ad 1000)), (1, .int (nI t)), (2, .long (lN h))]) hx hb dX2_levelOf_22 hl (k := 0) rfl (by rw [ey]; rfl) (by decide) rfl (fun ls hl => ?_)
          refine lv_goto (tgt := 6) hx hb dX2_levelOf_25 (by decide) ?_
          rw [pk_m1] at ey
          subst ey
          exact ih (by omega) (fun l h1 h2 => by
            by_cases e1 : l = n + 1
            · rw [e1]; exact hno
            · exact hin l (by omega) h2) ls (lv_sub hl [0, 1, 2, 3] rfl)
  refine lv_aload_n hx hb dX2_levelOf_0 rfl (lv_at hl 0 rfl) ?_
  refine mh_get (ci := 2) (v := .int (nI (zL z))) hx hb hts wfX2 hown hK.1 hP 1000 rfl rfl 1 (by decide) (hts _ flX2_46) (fun _ h9 => h9) rfl dX2_levelOf_1 ?_
  refine lv_istore (lv' := [(4, .int (nI (zL z))), (0, .ref (ad 1000)), (1, .int (nI t)), (2, .long (lN h))]) hx hb dX2_levelOf_4 hl (by decide) rfl (fun ls hl => ?_)
  exact loop (zL z) (Nat.le_refl _) (fun l h1 h2 => by omega) ls (lv_sub hl [0, 1, 2, 3] rfl)
set_option maxHeartbeats 4000000 in
set_option maxRecDepth 100000 in
/-- levelOfGroup -/
theorem kX2_levelOfGroup (l : Launch) (D : va_G) (cy : Nat → ClassId) (lo : Nat) (ad : Nat → Nat) (z : zS) (et : Nat → Nat) (mn : Nat → Int32) (gm : Nat → Nat) (G : Nat → Option va_E) (ch : Nat → List Nat) (hok : zOk z ch) (hy : yOk z ch et mn gm) (t h : Nat) (ht : t < zT z) (hh : h ≤ 1000000) : Met l yX2_levelOfGroup wX2_levelOfGroup { frames := 3, cells := 0, slots := 0, locals := 78 } (pcs D cy lo ad (yC cy ad z et mn gm G) [.ref (ad 1000), .int (nI t), .long (lN h)]) (vp_Si (fun r => r = nI (zGL z ch t h (zT z)))) 0 0 (fun _ => False) := by
  refine Met.ofW (cc := cX2_levelOfGroup) (maxL := 7) (ret := (some .int)) (by decide) rfl ?_
  intro p e s m args below meth c s₁ B hml hv
  obtain ⟨rfl, hz, hP, hK⟩ := hv
  have hx := B.exec
  have hb := B.bytes
  have hr := B.returns
  have hts : ∀ w ∈ wA, w.before [.ref (ad 1000), .int (nI t), .long (lN h)].toArray s = true := fun w h => atoms_spec (ws := wX2_levelOfGroup) B.pre w (List.mem_cons_of_mem _ h)
  have hown : s.vm.findClass RX2 = some m.cls := findClass_of_methodNamed B.named
  have hlocks := B.notSynchronized
  have hl := lv_entry ([.ref (ad 1000), .int (nI t), .long (lN h)]) (n := 7) (Nat.le_of_ble_eq_true rfl)
  rw [lg_entry_eq]
  generalize (lg_sl ([.ref (ad 1000), .int (nI t), .long (lN h)]) ++ List.replicate (7 - (lg_sl ([.ref (ad 1000), .int (nI t), .long (lN h)])).length) Slot.unset).toArray = ls at hl ⊢
  have hl : lv_has ls 7 [(0, .ref (ad 1000)), (1, .int (nI t)), (2, .long (lN h))] := hl
  obtain ⟨Q, hQ⟩ : ∃ Q, Q = MQ below (vp_Si (fun r => r = nI (zGL z ch t h (zT z)))) [.ref (ad 1000), .int (nI t), .long (lN h)].toArray s 0 0 (fun _ => False) := ⟨_, rfl⟩
  rw [← hQ]
  obtain ⟨hK1, hK20, hL1, hL9, hT32, hE200, hnd, hal, hla, hco, hgr, hch, hlt0, hev, hbf⟩ := id hok
  obtain ⟨hmn, hgm, hgg, het, hcc⟩ := id hy
  have loop : ∀ (d i : Nat), i + d = zT z → ∀ (ls : Array Slot), lv_has ls 7 [(5, .int (nI i)), (4, .int (nI (zGL z ch t h i))), (0, .ref (ad 1000)), (1, .int (nI t)), (2, .long (lN h))] → W p l e (headSpec wX2_levelOfGroup { frames := 3, cells := 0, slots := 0, locals := 78 }).room s m [.ref (ad 1000), .int (nI t), .long (lN h)].toArray below meth c s.heap [] 0 0 Q (F0 m 9 ls []) := by
    intro d
    induction d with
    | zero =>
      intro i  hid  ls hl
      refine lv_iload hx hb dX2_levelOfGroup_9 (lv_at hl 0 rfl) ?_
      refine lv_aload_n hx hb dX2_levelOfGroup_11 rfl (lv_at hl 2 rfl) ?_
      refine mh_get (ci := 2) (v := .int (nI (zT z))) hx hb hts wfX2 hown hK.1 hP 1000 rfl rfl 7 (by decide) (hts _ flX2_49) (fun _ h9 => h9) rfl dX2_levelOfGroup_12 ?_
      refine lv_icmp_ge (tgt := 70) hx hb dX2_levelOfGroup_15 (by decide) (fun c15 => ?_) (fun c15 => ?_)
      · skip
        refine lv_iload hx hb dX2_levelOfGroup_70 (lv_at hl 1 rfl) ?_
        rw [hQ]
        exact W.iret (v := nI (zGL z ch t h i)) hx hb hr (fun t9 ht9 _ => ⟨_, rfl, by rw [show i = zT z by omega], ht9⟩) (fun q h => by cases h) dX2_levelOfGroup_72
      · skip
        exact absurd (nI_le (by omega) (by omega)) c15
    | succ d ih =>
      intro i  hid  ls hl
      refine lv_iload hx hb dX2_levelOfGroup_9 (lv_at hl 0 rfl) ?_
      refine lv_aload_n hx hb dX2_levelOfGroup_11 rfl (lv_at hl 2 rfl) ?_
      refine mh_get (ci := 2) (v := .int (nI (zT z))) hx hb hts wfX2 hown hK.1 hP 1000 rfl rfl 7 (by decide) (hts _ flX2_49) (fun _ h9 => h9) rfl dX2_levelOfGroup_12 ?_
      refine lv_icmp_ge (tgt := 70) hx hb dX2_levelOfGroup_15 (by decide) (fun c15 => ?_) (fun c15 => ?_)
      · skip
        exact absurd c15 (nI_ge (by omega) (by omega))
      · skip
        have hg1 := hgm i (by omega)
        have hg2 := hgm t ht
        have hb1 := zGL_le z ch t h i
        have hb2 := zOwn_le (fun k hk => (hev k hk).2.1) (zState z t) h (ch i) (zLt z i) 0 (hch i (by omega)) (Nat.zero_le _)
        refine lv_aload_n hx hb dX2_levelOfGroup_18 rfl (lv_at hl 2 rfl) ?_
        refine mh_get (ci := 2) (v := .ref (ad 1005)) hx hb hts wfX2 hown hK.1 hP 1000 rfl rfl 6 (by decide) (hts _ flX2_23) (fun _ h9 => h9) rfl dX2_levelOfGroup_19 ?_
        refine lv_iload hx hb dX2_levelOfGroup_22 (lv_at hl 0 rfl) ?_
        refine mh_ialn (i := i) (v := nI (gm i)) hx hb hK.1 hP 1005 0 rfl rfl (by omega) (by decide) dX2_levelOfGroup_24 rfl ?_
        refine lv_aload_n hx hb dX2_levelOfGroup_25 rfl (lv_at hl 2 rfl) ?_
        refine mh_get (ci := 2) (v := .ref (ad 1005)) hx hb hts wfX2 hown hK.1 hP 1000 rfl rfl 6 (by decide) (hts _ flX2_23) (fun _ h9 => h9) rfl dX2_levelOfGroup_26 ?_
        refine lv_iload_n hx hb dX2_levelOfGroup_29 rfl (lv_at hl 3 rfl) ?_
        refine mh_ialn (i := t) (v := nI (gm t)) hx hb hK.1 hP 1005 0 rfl rfl (by omega) (by decide) dX2_levelOfGroup_30 rfl ?_
        refine lv_icmp_ne (tgt := 44) hx hb dX2_levelOfGroup_31 (by decide) (fun c31 => ?_) (fun c31 => ?_)
        · skip
          have hns : ¬ zGr z i = zGr z t := fun q => c31 (by rw [(hgg i t (by omega) ht).mpr q])
          refine lv_iload hx hb dX2_levelOfGroup_44 (lv_at hl 1 rfl) ?_
          refine lv_istore (lv' := [(6, .int (nI (zGL z ch t h i))), (5, .int (nI i)), (4, .int (nI (zGL z ch t h i))), (0, .ref (ad 1000)), (1, .int (nI t)), (2, .long (lN h))]) hx hb dX2_levelOfGroup_46 hl (by decide) rfl (fun ls hl => ?_)
          refine lv_iload hx hb dX2_levelOfGroup_48 (lv_at hl 0 rfl) ?_
          refine lv_iload hx hb dX2_levelOfGroup_50 (lv_at hl 2 rfl) ?_
          refine lv_icmp_ge (tgt := 60) hx hb dX2_levelOfGroup_52 (by decide) (fun c52 => ?_) (fun c52 => ?_)
          · skip
            have hl : lv_has ls 7 [(6, .int (nI (zGL z ch t h i))), (5, .int (nI i)), (4, .int (nI (zGL z ch t h (i + 1)))), (0, .ref (ad 1000)), (1, .int (nI t)), (2, .long (lN h))] := by rw [zGL_n hns]; exact hl
            refine lv_iload hx hb dX2_levelOfGroup_60 (lv_at hl 2 rfl) ?_
            refine lv_istore (lv' := [(4, .int (nI (zGL z ch t h (i + 1)))), (6, .int (nI (zGL z ch t h i))), (5, .int (nI i)), (0, .ref (ad 1000)), (1, .int (nI t)), (2, .long (lN h))]) hx hb dX2_levelOfGroup_62 hl (by decide) rfl (fun ls hl => ?_)
            obtain ⟨y, ey⟩ : ∃ y : Int32, y = nI i + 1 := ⟨_, rfl⟩
            refine lv_iinc (v := y) (lv' := [(5, .int y), (4, .int (nI (zGL z ch t h (i + 1)))), (6, .int (nI (zGL z ch t h i))), (0, .ref (ad 1000)), (1, .int (nI t)), (2, .long (lN h))]) hx hb dX2_levelOfGroup_64 hl (k := 2) rfl (by rw [ey]; rfl) (by decide) rfl (fun ls hl => ?_)
            refine lv_goto (tgt := 9) hx hb dX2_levelOfGroup_67 (by decide) ?_
            rw [nI_1] at ey
            subst ey
            exact ih (i + 1) (by omega) ls (lv_sub hl [0, 1, 3, 4, 5] rfl)
          · skip
            exact absurd (Int32.le_refl _) c52
        · skip
          have hsm : zGr z i = zGr z t := (hgg i t (by omega) ht).mp ((nI_eq (by omega) (by omega)).mp c31)
          refine lv_aload_n hx hb dX2_levelOfGroup_34 rfl (lv_at hl 2 rfl) ?_
          refine lv_iload hx hb dX2_levelOfGroup_35 (lv_at hl 0 rfl) ?_
          refine lv_lload_n hx hb dX2_levelOfGroup_37 rfl (lv_at hl 4 rfl) ?_
          refine rcV (n := 2) (As := [.int (nI i), .long (lN h)]) (rest := []) ⟨hx, hb, hml, hown, hts⟩ (kX2_levelOf l D cy lo ad z et mn gm G ch hok hy i h (by omega) hh) mlX2_97 imX2_levelOf seX2_levelOf inX2 cdX2_levelOf (by decide +kernel) rfl rfl ⟨Nat.le_of_ble_eq_true rfl, Nat.le_of_ble_eq_true rfl⟩ hK hP hz rfl rfl rfl hl.1 rfl (Nat.le_of_ble_eq_true rfl) dX2_levelOfGroup_38 ⟨Nat.zero_le _, Nat.zero_le _⟩ (fun r38 hr38 => ?_)
          rw [zState_same ht (by omega) hsm] at hr38
          subst hr38
          refine lv_goto (tgt := 46) hx hb dX2_levelOfGroup_41 (by decide) ?_
          refine lv_istore (lv' := [(6, .int (nI (zOwn z (zState z t) h (ch i) 0))), (5, .int (nI i)), (4, .int (nI (zGL z ch t h i))), (0, .ref (ad 1000)), (1, .int (nI t)), (2, .long (lN h))]) hx hb dX2_levelOfGroup_46 hl (by decide) rfl (fun ls hl => ?_)
          refine lv_iload hx hb dX2_levelOfGroup_48 (lv_at hl 0 rfl) ?_
          refine lv_iload hx hb dX2_levelOfGroup_50 (lv_at hl 2 rfl) ?_
          refine lv_icmp_ge (tgt := 60) hx hb dX2_levelOfGroup_52 (by decide) (fun c52 => ?_) (fun c52 => ?_)
          · skip
            have hge := (nI_leI (by omega) (by omega)).mp c52
            have hl : lv_has ls 7 [(6, .int (nI (zOwn z (zState z t) h (ch i) 0))), (5, .int (nI i)), (4, .int (nI (zGL z ch t h (i + 1)))), (0, .ref (ad 1000)), (1, .int (nI t)), (2, .long (lN h))] := by rw [zGL_s hsm, Nat.min_eq_left hge]; exact hl
            refine lv_iload hx hb dX2_levelOfGroup_60 (lv_at hl 2 rfl) ?_
            refine lv_istore (lv' := [(4, .int (nI (zGL z ch t h (i + 1)))), (6, .int (nI (zOwn z (zState z t) h (ch i) 0))), (5, .int (nI i)), (0, .ref (ad 1000)), (1, .int (nI t)), (2, .long (lN h))]) hx hb dX2_levelOfGroup_62 hl (by decide) rfl (fun ls hl => ?_)
            obtain ⟨y, ey⟩ : ∃ y : Int32, y = nI i + 1 := ⟨_, rfl⟩
            refine lv_iinc (v := y) (lv' := [(5, .int y), (4, .int (nI (zGL z ch t h (i + 1)))), (6, .int (nI (zOwn z (zState z t) h (ch i) 0))), (0, .ref (ad 1000)), (1, .int (nI t)), (2, .long (lN h))]) hx hb dX2_levelOfGroup_64 hl (k := 2) rfl (by rw [ey]; rfl) (by decide) rfl (fun ls hl => ?_)
            refine lv_goto (tgt := 9) hx hb dX2_levelOfGroup_67 (by decide) ?_
            rw [nI_1] at ey
            subst ey
            exact ih (i + 1) (by omega) ls (lv_sub hl [0, 1, 3, 4, 5] rfl)
          · skip
            have hlt := Nat.lt_of_not_le (fun q => c52 (nI_le q (by omega)))
            refine lv_iload hx hb dX2_levelOfGroup_55 (lv_at hl 0 rfl) ?_
            refine lv_goto (tgt := 62) hx hb dX2_levelOfGroup_57 (by decide) ?_
            rw [show zOwn z (zState z t) h (ch i) 0 = zGL z ch t h (i + 1) by rw [zGL_s hsm, Nat.min_eq_right (by omega)]]
            refine lv_istore (lv' := [(4, .int (nI (zGL z ch t h (i + 1)))), (6, .int (nI (zOwn z (zState z t) h (ch i) 0))), (5, .int (nI i)), (0, .ref (ad 1000)), (1, .int (nI t)), (2, .long (lN h))]) hx hb dX2_levelOfGroup_62 hl (by decide) rfl (fun ls hl => ?_)
            obtain ⟨y, ey⟩ : ∃ y : Int32, y = nI i + 1 := ⟨_, rfl⟩
            refine lv_iinc (v := y) (lv' := [(5, .int y), (4, .int (nI (zGL z ch t h (i + 1)))), (6, .int (nI (zOwn z (zState z t) h (ch i) 0))), (0, .ref (ad 1000)), (1, .int (nI t)), (2, .long (lN h))]) hx hb dX2_levelOfGroup_64 hl (k := 2) rfl (by rw [ey]; rfl) (by decide) rfl (fun ls hl => ?_)
            refine lv_goto (tgt := 9) hx hb dX2_levelOfGroup_67 (by decide) ?_
            rw [nI_1] at ey
            subst ey
            exact ih (i + 1) (by omega) ls (lv_sub hl [0, 1, 3, 4, 5] rfl)
  refine lv_aload_n hx hb dX2_levelOfGroup_0 rfl (lv_at hl 0 rfl) ?_
  refine mh_get (ci := 2) (v := .int (nI (zL z))) hx hb hts wfX2 hown hK.1 hP 1000 rfl rfl 1 (by decide) (hts _ flX2_46) (fun _ h9 => h9) rfl dX2_levelOfGroup_1 ?_
  refine lv_istore (lv' := [(4, .int (nI (zL z))), (0, .ref (ad 1000)), (1, .int (nI t)), (2, .long (lN h))]) hx hb dX2_levelOfGroup_4 hl (by decide) rfl (fun ls hl => ?_)
  refine lv_iconst (v := 0) hx hb dX2_levelOfGroup_6 (by decide) ?_
  refine lv_istore (lv' := [(5, .int 0), (4, .int (nI (zL z))), (0, .ref (ad 1000)), (1, .int (nI t)), (2, .long (lN h))]) hx hb dX2_levelOfGroup_7 hl (by decide) rfl (fun ls hl => ?_)
  exact loop (zT z) 0 (Nat.zero_add _) ls (lv_sub hl [0, 1, 2, 3, 4] rfl)
