section MHB
variable {p : Program} {l : Launch} {e : Env} {R : Room} {s : State} {m : MethodId} {args : Array Value} {below : List Frame} {meth : Method} {c : Code} {H : Heap} {locs : List Loc} {cells slots : Nat} {Q : State → Prop}
variable {cc : ByteArray} {pc : Nat} {ls : Array Slot} {rest : List Value} {D : va_G} {cl : List vw_C} {lo a : Nat} {ad : Nat → Nat} {C : Nat → Option va_E} {tys : List (ClassId × FieldType)} {H0 : Heap}
theorem mh_alena (hexec : p.tables.exec = Jvm.exec) (hb : c.code = cc) (hK : va_K D cl tys s) (hP : mh D cl lo ad C H) (r t0 : Nat) (har : ad r = a) {cA : ClassId} {x : vp_A} (ha : C r = some (.inl (cA, x))) {ty : FieldType} (ht : tys[t0]? = some (cA, ty)) {v : Int32} (hv : Int32.ofNat x.1 = v) (hdg : decode cc pc = .ok (.arraylength, 1))
    (kk : W p l e R s m args below meth c H locs cells slots Q (F0 m (pc + 1) ls (.int v :: rest))) : W p l e R s m args below meth c H locs cells slots Q (F0 m pc ls (.ref a :: rest)) := by
  subst har
  exact mh_alen hexec hb hK hP r t0 ha ht hv hdg kk
theorem mh_iasna (hexec : p.tables.exec = Jvm.exec) (hb : c.code = cc) (hK : va_K D cl tys s) (hP : mh D cl lo ad C H) (hS : va_S (fun q => lo ≤ q) H0 H locs) (r t0 : Nat) (har : ad r = a) {cA : ClassId} {n : Nat} {f : Nat → Int32} (ha : C r = some (.inl (cA, n, .inl f))) (ht : tys[t0]? = some (cA, .int)) {i : Nat} {x : Int32} (hi : i < n) (hn : n < 2 ^ 31) (hdg : decode cc pc = .ok (.iastore, 1))
    (kk : ∀ (H1 : Heap) (locs1 : List Loc), mh D cl lo ad (va_up C r (some (.inl (cA, n, .inl (upd f i x))))) H1 → va_S (fun q => lo ≤ q) H0 H1 locs1 → W p l e R s m args below meth c H1 locs1 cells slots Q (F0 m (pc + 1) ls rest)) : W p l e R s m args below meth c H locs cells slots Q (F0 m pc ls (.int x :: .int (nI i) :: .ref a :: rest)) := by
  subst har
  exact mh_iasn hexec hb hK hP hS r t0 ha ht hi hn hdg kk
end MHB
abbrev jA (cy : Nat → ClassId) (C : Nat → Option va_E) (fn fl : Nat → Int32) : Nat → Option va_E := (va_up (va_up (va_up (va_up (va_up (va_up (va_up (va_up (va_up (va_up C 1001 (some (.inl (cy 0, 400, .inl (fn))))) 1002 (some (.inl (cy 0, 20, .inl (fun _ => 0))))) 1003 (some (.inl (cy 0, 20, .inl (fl))))) 1004 (some (.inl (cy 1, 10, .inr (.inl (fun _ => 0)))))) 1005 (some (.inl (cy 0, 32, .inl (fun _ => 0))))) 1006 (some (.inl (cy 0, 200, .inl (fun _ => 0))))) 1007 (some (.inl (cy 1, 200, .inr (.inl (fun _ => 0)))))) 1008 (some (.inl (cy 0, 200, .inl (fun _ => 0))))) 1009 (some (.inl (cy 0, 200, .inl (fun _ => 0))))) 1010 (some (.inl (cy 2, 200, .inl (fun _ => 0)))))
abbrev bA (ad : Nat → Nat) (n1 n2 n3 n4 n5 n6 n7 n8 n9 n10 : Nat) : Nat → Nat := (va_up (va_up (va_up (va_up (va_up (va_up (va_up (va_up (va_up (va_up ad 1001 n1) 1002 n2) 1003 n3) 1004 n4) 1005 n5) 1006 n6) 1007 n7) 1008 n8) 1009 n9) 1010 n10)
theorem upd_fill {n i : Nat} {v : Int32} {f : Nat → Int32} (k : Nat) : upd (fun k => if k < i then v else f k) i v k = if k < i + 1 then v else f k := by
  show (if k = i then v else (if k < i then v else f k)) = _
  by_cases q : k = i
  · rw [if_pos q, if_pos (by omega)]
  · rw [if_neg q]
    by_cases q2 : k < i
    · rw [if_pos q2, if_pos (by omega)]
    · rw [if_neg q2, if_neg (by omega)]
theorem jA_1 {cy : Nat → ClassId} {C : Nat → Option va_E} {fn fl fn' : Nat → Int32} {o : Option va_E} (r : Nat) : va_up (jA cy C fn' fl) 1000 o r = va_up (va_up (jA cy C fn fl) 1000 o) 1001 (some (.inl (cy 0, 400, .inl fn'))) r := by
  by_cases c0 : r = 1000
  · subst c0
    rfl
  by_cases c1 : r = 1001
  · subst c1
    rfl
  rw [va_up_ne _ _ c0, va_up_ne _ _ c1, va_up_ne _ _ c0]
  unfold jA
  simp only [va_up, if_neg c1]
theorem jA_3 {cy : Nat → ClassId} {C : Nat → Option va_E} {fn fl fl' : Nat → Int32} {o : Option va_E} (r : Nat) : va_up (jA cy C fn fl') 1000 o r = va_up (va_up (jA cy C fn fl) 1000 o) 1003 (some (.inl (cy 0, 20, .inl fl'))) r := by
  by_cases c0 : r = 1000
  · subst c0
    rfl
  by_cases c1 : r = 1003
  · subst c1
    rfl
  rw [va_up_ne _ _ c0, va_up_ne _ _ c1, va_up_ne _ _ c0]
  unfold jA
  simp only [va_up, if_neg c1]
theorem yI_fin {cy : Nat → ClassId} {ad : Nat → Nat} {C : Nat → Option va_E} {K L n1 n2 n3 n4 n5 n6 n7 n8 n9 n10 : Nat} (hCn : ∀ r, 1000 < r → C r = none) (r : Nat) : yC cy (bA ad n1 n2 n3 n4 n5 n6 n7 n8 n9 n10) (z0 K L) (fun _ => 0) (fun _ => -1) (fun _ => 0) (fun r => if r < 1000 then C r else none) r = va_up (jA cy C (fun _ => -1) (fun _ => 24)) 1000 (some (.inr (2, [.int (nI K), .int (nI L), .ref n1, .ref n2, .ref n3, .ref n4, .ref n5, .int 0, .ref n6, .ref n7, .ref n8, .ref n9, .ref n10, .int 0]))) r := by
  by_cases c0 : r = 1000
  · subst c0
    rfl
  by_cases c1 : r = 1001
  · subst c1
    rfl
  by_cases c2 : r = 1002
  · subst c2
    rfl
  by_cases c3 : r = 1003
  · subst c3
    rfl
  by_cases c4 : r = 1004
  · subst c4
    rfl
  by_cases c5 : r = 1005
  · subst c5
    rfl
  by_cases c6 : r = 1006
  · subst c6
    rfl
  by_cases c7 : r = 1007
  · subst c7
    rfl
  by_cases c8 : r = 1008
  · subst c8
    rfl
  by_cases c9 : r = 1009
  · subst c9
    rfl
  by_cases c10 : r = 1010
  · subst c10
    rfl
  have e : yC cy (bA ad n1 n2 n3 n4 n5 n6 n7 n8 n9 n10) (z0 K L) (fun _ => 0) (fun _ => -1) (fun _ => 0) (fun r => if r < 1000 then C r else none) r = if r < 1000 then C r else none := by
    unfold yC
    rw [if_neg c0, if_neg c1, if_neg c2, if_neg c3, if_neg c4, if_neg c5, if_neg c6, if_neg c7, if_neg c8, if_neg c9, if_neg c10]
  rw [e, va_up_ne _ _ c0]
  unfold jA
  rw [va_up_ne _ _ c10, va_up_ne _ _ c9, va_up_ne _ _ c8, va_up_ne _ _ c7, va_up_ne _ _ c6, va_up_ne _ _ c5, va_up_ne _ _ c4, va_up_ne _ _ c3, va_up_ne _ _ c2, va_up_ne _ _ c1]
  by_cases q : r < 1000
  · rw [if_pos q]
  · rw [if_neg q, hCn r (by omega)]
set_option maxHeartbeats 4000000 in
set_option maxRecDepth 100000 in
/-- CleanMatrixModel(kinds, levels) -/
theorem kX2_init (l : Launch) (D : va_G) (cy : Nat → ClassId) (lo : Nat) (ad : Nat → Nat) (C : Nat → Option va_E) (hC0 : C 1000 = some (.inr (2, [.int 0, .int 0, .null, .null, .null, .null, .null, .int 0, .null, .null, .null, .null, .null, .int 0]))) (hCn : ∀ r, 1000 < r → C r = none) (kk kl : Int32) : Met l yX2_init wX2_init { frames := 1, cells := 10, slots := 1482, locals := 30 } (pcs D cy lo ad C [.ref (ad 1000), .int kk, .int kl]) (qwv D lo (fun u => u.2 = yC cy u.1 (z0 (clampN kk 20) (clampN kl 9)) (fun _ => 0) (fun _ => -1) (fun _ => 0) (fun r => if r < 1000 then C r else none) ∧ (∀ r, r ≤ 1000 → u.1 r = ad r))) 10 1482 (fun q => lo ≤ q) := by
  refine Met.ofW (cc := cX2_init) (maxL := 4) (ret := none) (by decide) rfl ?_
  intro p e s m args below meth c s₁ B hml hv
  obtain ⟨rfl, hz, hP, hK⟩ := hv
  have hx := B.exec
  have hb := B.bytes
  have hr := B.returns
  have hts : ∀ w ∈ wA, w.before [.ref (ad 1000), .int kk, .int kl].toArray s = true := fun w h => atoms_spec (ws := wX2_init) B.pre w (List.mem_cons_of_mem _ h)
  have hown : s.vm.findClass RX2 = some m.cls := findClass_of_methodNamed B.named
  have hlocks := B.notSynchronized
  have hS : va_S (fun q => lo ≤ q) s.heap s.heap [] := va_S.rf
  have hl := lv_entry ([.ref (ad 1000), .int kk, .int kl]) (n := 4) (Nat.le_of_ble_eq_true rfl)
  rw [lg_entry_eq]
  generalize (lg_sl ([.ref (ad 1000), .int kk, .int kl]) ++ List.replicate (4 - (lg_sl ([.ref (ad 1000), .int kk, .int kl])).length) Slot.unset).toArray = ls at hl ⊢
  have hl : lv_has ls 4 [(0, .ref (ad 1000)), (1, .int kk), (2, .int kl)] := hl
  obtain ⟨Q, hQ⟩ : ∃ Q, Q = MQ below (qwv D lo (fun u => u.2 = yC cy u.1 (z0 (clampN kk 20) (clampN kl 9)) (fun _ => 0) (fun _ => -1) (fun _ => 0) (fun r => if r < 1000 then C r else none) ∧ (∀ r, r ≤ 1000 → u.1 r = ad r))) [.ref (ad 1000), .int kk, .int kl].toArray s 10 1482 (fun q => lo ≤ q) := ⟨_, rfl⟩
  rw [← hQ]
  have hin : meth.name = "<init>" := (name_of_methodNamed B.named B.method).1
  obtain ⟨K, eK⟩ : ∃ K, K = clampN kk 20 := ⟨_, rfl⟩
  obtain ⟨L, eL⟩ : ∃ L, L = clampN kl 9 := ⟨_, rfl⟩
  rw [← eK, ← eL] at hQ
  have hP : mh D vwCl lo ad (va_up C 1000 (some (.inr (2, [.int 0, .int 0, .null, .null, .null, .null, .null, .int 0, .null, .null, .null, .null, .null, .int 0])))) s.heap := mh_eq hP (fun r => by
    by_cases q : r = 1000
    · rw [q, va_up_self, hC0]
    · rw [va_up_ne _ _ q])
  refine lv_aload_n hx hb dX2_init_0 rfl (lv_at hl 0 rfl) ?_
  refine W.objInit hx hb hown (hts _ mlX2_1) (hts _ imO_init) (hts _ cdO_init) rfl (by rw [hml]; exact hl.1) rfl dX2_init_1 (Nat.le_of_ble_eq_true rfl) (Nat.le_of_ble_eq_true rfl) ?_
  refine W.eq (g2 := F0 m 4 ls []) rfl ?_
  refine lv_aload_n hx hb dX2_init_4 rfl (lv_at hl 0 rfl) ?_
  refine lv_sipush (v := 400) hx hb dX2_init_5 (by decide) ?_
  refine mh_newa (atype := .int) (ty := .int) hx hb (hts _ ac_int) rfl hK.1 hP hS hz 1001 0 ((va_up_ne _ _ (by decide)).trans (hCn 1001 (by decide))) rfl (fun h9 => h9) (fun _ h9 => h9) (N' := 400) (a0 := (400, .inl (fun _ => 0))) (fun cA => by rw [vp_cell_i]; rfl) (by decide) rfl (by decide) (Nat.le_of_ble_eq_true rfl) (Nat.le_of_ble_eq_true rfl) dX2_init_8 (fun n1 H hP hS => ?_)
  rw [va_up_comm (show 1000 ≠ 1001 by decide)] at hP
  have hP : mh D vwCl lo (va_up ad 1001 n1) (va_up (va_up C 1001 (some (.inl (cy 0, 400, .inl (fun _ => 0))))) 1000 (some (.inr (2, [.int 0, .int 0, .null, .null, .null, .null, .null, .int 0, .null, .null, .null, .null, .null, .int 0])))) H := hP
  refine mh_putFa (r := 1000) (ci := 2) (v := .ref n1) (ty := (.array .int)) (fs' := [.int 0, .int 0, .ref n1, .null, .null, .null, .null, .int 0, .null, .null, .null, .null, .null, .int 0]) hx hb hts wfX2 tyX2 tyX2_ok nmX2 hown hK.1 hP hS rfl rfl 2 (by decide) (hts _ flX2_9) (fun _ h9 => h9) rfl hin rfl (by decide +kernel) rfl rfl (Nat.le_of_ble_eq_true rfl) rfl dX2_init_10 (fun H locs hP hS => ?_)
  refine lv_aload_n hx hb dX2_init_13 rfl (lv_at hl 0 rfl) ?_
  refine lv_bipush (v := 20) hx hb dX2_init_14 (by decide) ?_
  refine mh_newa (atype := .int) (ty := .int) hx hb (hts _ ac_int) rfl hK.1 hP hS hz 1002 0 ((va_up_ne _ _ (by decide)).trans ((va_up_ne _ _ (by decide)).trans (hCn 1002 (by decide)))) rfl (fun h9 => h9) (fun _ h9 => h9) (N' := 20) (a0 := (20, .inl (fun _ => 0))) (fun cA => by rw [vp_cell_i]; rfl) (by decide) rfl (by decide) (Nat.le_of_ble_eq_true rfl) (Nat.le_of_ble_eq_true rfl) dX2_init_16 (fun n2 H hP hS => ?_)
  rw [va_up_comm (show 1000 ≠ 1002 by decide)] at hP
  have hP : mh D vwCl lo (va_up (va_up ad 1001 n1) 1002 n2) (va_up (va_up (va_up C 1001 (some (.inl (cy 0, 400, .inl (fun _ => 0))))) 1002 (some (.inl (cy 0, 20, .inl (fun _ => 0))))) 1000 (some (.inr (2, [.int 0, .int 0, .ref n1, .null, .null, .null, .null, .int 0, .null, .null, .null, .null, .null, .int 0])))) H := hP
  refine mh_putFa (r := 1000) (ci := 2) (v := .ref n2) (ty := (.array .int)) (fs' := [.int 0, .int 0, .ref n1, .ref n2, .null, .null, .null, .int 0, .null, .null, .null, .null, .null, .int 0]) hx hb hts wfX2 tyX2 tyX2_ok nmX2 hown hK.1 hP hS rfl rfl 3 (by decide) (hts _ flX2_13) (fun _ h9 => h9) rfl hin rfl (by decide +kernel) rfl rfl (Nat.le_of_ble_eq_true rfl) rfl dX2_init_18 (fun H locs hP hS => ?_)
  refine lv_aload_n hx hb dX2_init_21 rfl (lv_at hl 0 rfl) ?_
  refine lv_bipush (v := 20) hx hb dX2_init_22 (by decide) ?_
  refine mh_newa (atype := .int) (ty := .int) hx hb (hts _ ac_int) rfl hK.1 hP hS hz 1003 0 ((va_up_ne _ _ (by decide)).trans ((va_up_ne _ _ (by decide)).trans ((va_up_ne _ _ (by decide)).trans (hCn 1003 (by decide))))) rfl (fun h9 => h9) (fun _ h9 => h9) (N' := 20) (a0 := (20, .inl (fun _ => 0))) (fun cA => by rw [vp_cell_i]; rfl) (by decide) rfl (by decide) (Nat.le_of_ble_eq_true rfl) (Nat.le_of_ble_eq_true rfl) dX2_init_24 (fun n3 H hP hS => ?_)
  rw [va_up_comm (show 1000 ≠ 1003 by decide)] at hP
  have hP : mh D vwCl lo (va_up (va_up (va_up ad 1001 n1) 1002 n2) 1003 n3) (va_up (va_up (va_up (va_up C 1001 (some (.inl (cy 0, 400, .inl (fun _ => 0))))) 1002 (some (.inl (cy 0, 20, .inl (fun _ => 0))))) 1003 (some (.inl (cy 0, 20, .inl (fun _ => 0))))) 1000 (some (.inr (2, [.int 0, .int 0, .ref n1, .ref n2, .null, .null, .null, .int 0, .null, .null, .null, .null, .null, .int 0])))) H := hP
  refine mh_putFa (r := 1000) (ci := 2) (v := .ref n3) (ty := (.array .int)) (fs' := [.int 0, .int 0, .ref n1, .ref n2, .ref n3, .null, .null, .int 0, .null, .null, .null, .null, .null, .int 0]) hx hb hts wfX2 tyX2 tyX2_ok nmX2 hown hK.1 hP hS rfl rfl 4 (by decide) (hts _ flX2_16) (fun _ h9 => h9) rfl hin rfl (by decide +kernel) rfl rfl (Nat.le_of_ble_eq_true rfl) rfl dX2_init_26 (fun H locs hP hS => ?_)
  refine lv_aload_n hx hb dX2_init_29 rfl (lv_at hl 0 rfl) ?_
  refine lv_bipush (v := 10) hx hb dX2_init_30 (by decide) ?_
  refine mh_newa (atype := .long) (ty := .long) hx hb (hts _ ac_long) rfl hK.1 hP hS hz 1004 1 ((va_up_ne _ _ (by decide)).trans ((va_up_ne _ _ (by decide)).trans ((va_up_ne _ _ (by decide)).trans ((va_up_ne _ _ (by decide)).trans (hCn 1004 (by decide)))))) rfl (fun h9 => h9) (fun _ h9 => h9) (N' := 10) (a0 := (10, .inr (.inl (fun _ => 0)))) (fun cA => by rw [vp_cell_l]; rfl) (by decide) rfl (by decide) (Nat.le_of_ble_eq_true rfl) (Nat.le_of_ble_eq_true rfl) dX2_init_32 (fun n4 H hP hS => ?_)
  rw [va_up_comm (show 1000 ≠ 1004 by decide)] at hP
  have hP : mh D vwCl lo (va_up (va_up (va_up (va_up ad 1001 n1) 1002 n2) 1003 n3) 1004 n4) (va_up (va_up (va_up (va_up (va_up C 1001 (some (.inl (cy 0, 400, .inl (fun _ => 0))))) 1002 (some (.inl (cy 0, 20, .inl (fun _ => 0))))) 1003 (some (.inl (cy 0, 20, .inl (fun _ => 0))))) 1004 (some (.inl (cy 1, 10, .inr (.inl (fun _ => 0)))))) 1000 (some (.inr (2, [.int 0, .int 0, .ref n1, .ref n2, .ref n3, .null, .null, .int 0, .null, .null, .null, .null, .null, .int 0])))) H := hP
  refine mh_putFa (r := 1000) (ci := 2) (v := .ref n4) (ty := (.array .long)) (fs' := [.int 0, .int 0, .ref n1, .ref n2, .ref n3, .ref n4, .null, .int 0, .null, .null, .null, .null, .null, .int 0]) hx hb hts wfX2 tyX2 tyX2_ok nmX2 hown hK.1 hP hS rfl rfl 5 (by decide) (hts _ flX2_19) (fun _ h9 => h9) rfl hin rfl (by decide +kernel) rfl rfl (Nat.le_of_ble_eq_true rfl) rfl dX2_init_34 (fun H locs hP hS => ?_)
  refine lv_aload_n hx hb dX2_init_37 rfl (lv_at hl 0 rfl) ?_
  refine lv_bipush (v := 32) hx hb dX2_init_38 (by decide) ?_
  refine mh_newa (atype := .int) (ty := .int) hx hb (hts _ ac_int) rfl hK.1 hP hS hz 1005 0 ((va_up_ne _ _ (by decide)).trans ((va_up_ne _ _ (by decide)).trans ((va_up_ne _ _ (by decide)).trans ((va_up_ne _ _ (by decide)).trans ((va_up_ne _ _ (by decide)).trans (hCn 1005 (by decide))))))) rfl (fun h9 => h9) (fun _ h9 => h9) (N' := 32) (a0 := (32, .inl (fun _ => 0))) (fun cA => by rw [vp_cell_i]; rfl) (by decide) rfl (by decide) (Nat.le_of_ble_eq_true rfl) (Nat.le_of_ble_eq_true rfl) dX2_init_40 (fun n5 H hP hS => ?_)
  rw [va_up_comm (show 1000 ≠ 1005 by decide)] at hP
  have hP : mh D vwCl lo (va_up (va_up (va_up (va_up (va_up ad 1001 n1) 1002 n2) 1003 n3) 1004 n4) 1005 n5) (va_up (va_up (va_up (va_up (va_up (va_up C 1001 (some (.inl (cy 0, 400, .inl (fun _ => 0))))) 1002 (some (.inl (cy 0, 20, .inl (fun _ => 0))))) 1003 (some (.inl (cy 0, 20, .inl (fun _ => 0))))) 1004 (some (.inl (cy 1, 10, .inr (.inl (fun _ => 0)))))) 1005 (some (.inl (cy 0, 32, .inl (fun _ => 0))))) 1000 (some (.inr (2, [.int 0, .int 0, .ref n1, .ref n2, .ref n3, .ref n4, .null, .int 0, .null, .null, .null, .null, .null, .int 0])))) H := hP
  refine mh_putFa (r := 1000) (ci := 2) (v := .ref n5) (ty := (.array .int)) (fs' := [.int 0, .int 0, .ref n1, .ref n2, .ref n3, .ref n4, .ref n5, .int 0, .null, .null, .null, .null, .null, .int 0]) hx hb hts wfX2 tyX2 tyX2_ok nmX2 hown hK.1 hP hS rfl rfl 6 (by decide) (hts _ flX2_23) (fun _ h9 => h9) rfl hin rfl (by decide +kernel) rfl rfl (Nat.le_of_ble_eq_true rfl) rfl dX2_init_42 (fun H locs hP hS => ?_)
  refine lv_aload_n hx hb dX2_init_45 rfl (lv_at hl 0 rfl) ?_
  refine lv_sipush (v := 200) hx hb dX2_init_46 (by decide) ?_
  refine mh_newa (atype := .int) (ty := .int) hx hb (hts _ ac_int) rfl hK.1 hP hS hz 1006 0 ((va_up_ne _ _ (by decide)).trans ((va_up_ne _ _ (by decide)).trans ((va_up_ne _ _ (by decide)).trans ((va_up_ne _ _ (by decide)).trans ((va_up_ne _ _ (by decide)).trans ((va_up_ne _ _ (by decide)).trans (hCn 1006 (by decide)))))))) rfl (fun h9 => h9) (fun _ h9 => h9) (N' := 200) (a0 := (200, .inl (fun _ => 0))) (fun cA => by rw [vp_cell_i]; rfl) (by decide) rfl (by decide) (Nat.le_of_ble_eq_true rfl) (Nat.le_of_ble_eq_true rfl) dX2_init_49 (fun n6 H hP hS => ?_)
  rw [va_up_comm (show 1000 ≠ 1006 by decide)] at hP
  have hP : mh D vwCl lo (va_up (va_up (va_up (va_up (va_up (va_up ad 1001 n1) 1002 n2) 1003 n3) 1004 n4) 1005 n5) 1006 n6) (va_up (va_up (va_up (va_up (va_up (va_up (va_up C 1001 (some (.inl (cy 0, 400, .inl (fun _ => 0))))) 1002 (some (.inl (cy 0, 20, .inl (fun _ => 0))))) 1003 (some (.inl (cy 0, 20, .inl (fun _ => 0))))) 1004 (some (.inl (cy 1, 10, .inr (.inl (fun _ => 0)))))) 1005 (some (.inl (cy 0, 32, .inl (fun _ => 0))))) 1006 (some (.inl (cy 0, 200, .inl (fun _ => 0))))) 1000 (some (.inr (2, [.int 0, .int 0, .ref n1, .ref n2, .ref n3, .ref n4, .ref n5, .int 0, .null, .null, .null, .null, .null, .int 0])))) H := hP
  refine mh_putFa (r := 1000) (ci := 2) (v := .ref n6) (ty := (.array .int)) (fs' := [.int 0, .int 0, .ref n1, .ref n2, .ref n3, .ref n4, .ref n5, .int 0, .ref n6, .null, .null, .null, .null, .int 0]) hx hb hts wfX2 tyX2 tyX2_ok nmX2 hown hK.1 hP hS rfl rfl 8 (by decide) (hts _ flX2_26) (fun _ h9 => h9) rfl hin rfl (by decide +kernel) rfl rfl (Nat.le_of_ble_eq_true rfl) rfl dX2_init_51 (fun H locs hP hS => ?_)
  refine lv_aload_n hx hb dX2_init_54 rfl (lv_at hl 0 rfl) ?_
  refine lv_sipush (v := 200) hx hb dX2_init_55 (by decide) ?_
  refine mh_newa (atype := .long) (ty := .long) hx hb (hts _ ac_long) rfl hK.1 hP hS hz 1007 1 ((va_up_ne _ _ (by decide)).trans ((va_up_ne _ _ (by decide)).trans ((va_up_ne _ _ (by decide)).trans ((va_up_ne _ _ (by decide)).trans ((va_up_ne _ _ (by decide)).trans ((va_up_ne _ _ (by decide)).trans ((va_up_ne _ _ (by decide)).trans (hCn 1007 (by decide))))))))) rfl (fun h9 => h9) (fun _ h9 => h9) (N' := 200) (a0 := (200, .inr (.inl (fun _ => 0)))) (fun cA => by rw [vp_cell_l]; rfl) (by decide) rfl (by decide) (Nat.le_of_ble_eq_true rfl) (Nat.le_of_ble_eq_true rfl) dX2_init_58 (fun n7 H hP hS => ?_)
  rw [va_up_comm (show 1000 ≠ 1007 by decide)] at hP
  have hP : mh D vwCl lo (va_up (va_up (va_up (va_up (va_up (va_up (va_up ad 1001 n1) 1002 n2) 1003 n3) 1004 n4) 1005 n5) 1006 n6) 1007 n7) (va_up (va_up (va_up (va_up (va_up (va_up (va_up (va_up C 1001 (some (.inl (cy 0, 400, .inl (fun _ => 0))))) 1002 (some (.inl (cy 0, 20, .inl (fun _ => 0))))) 1003 (some (.inl (cy 0, 20, .inl (fun _ => 0))))) 1004 (some (.inl (cy 1, 10, .inr (.inl (fun _ => 0)))))) 1005 (some (.inl (cy 0, 32, .inl (fun _ => 0))))) 1006 (some (.inl (cy 0, 200, .inl (fun _ => 0))))) 1007 (some (.inl (cy 1, 200, .inr (.inl (fun _ => 0)))))) 1000 (some (.inr (2, [.int 0, .int 0, .ref n1, .ref n2, .ref n3, .ref n4, .ref n5, .int 0, .ref n6, .null, .null, .null, .null, .int 0])))) H := hP
  refine mh_putFa (r := 1000) (ci := 2) (v := .ref n7) (ty := (.array .long)) (fs' := [.int 0, .int 0, .ref n1, .ref n2, .ref n3, .ref n4, .ref n5, .int 0, .ref n6, .ref n7, .null, .null, .null, .int 0]) hx hb hts wfX2 tyX2 tyX2_ok nmX2 hown hK.1 hP hS rfl rfl 9 (by decide) (hts _ flX2_29) (fun _ h9 => h9) rfl hin rfl (by decide +kernel) rfl rfl (Nat.le_of_ble_eq_true rfl) rfl dX2_init_60 (fun H locs hP hS => ?_)
  refine lv_aload_n hx hb dX2_init_63 rfl (lv_at hl 0 rfl) ?_
  refine lv_sipush (v := 200) hx hb dX2_init_64 (by decide) ?_
  refine mh_newa (atype := .int) (ty := .int) hx hb (hts _ ac_int) rfl hK.1 hP hS hz 1008 0 ((va_up_ne _ _ (by decide)).trans ((va_up_ne _ _ (by decide)).trans ((va_up_ne _ _ (by decide)).trans ((va_up_ne _ _ (by decide)).trans ((va_up_ne _ _ (by decide)).trans ((va_up_ne _ _ (by decide)).trans ((va_up_ne _ _ (by decide)).trans ((va_up_ne _ _ (by decide)).trans (hCn 1008 (by decide)))))))))) rfl (fun h9 => h9) (fun _ h9 => h9) (N' := 200) (a0 := (200, .inl (fun _ => 0))) (fun cA => by rw [vp_cell_i]; rfl) (by decide) rfl (by decide) (Nat.le_of_ble_eq_true rfl) (Nat.le_of_ble_eq_true rfl) dX2_init_67 (fun n8 H hP hS => ?_)
  rw [va_up_comm (show 1000 ≠ 1008 by decide)] at hP
  have hP : mh D vwCl lo (va_up (va_up (va_up (va_up (va_up (va_up (va_up (va_up ad 1001 n1) 1002 n2) 1003 n3) 1004 n4) 1005 n5) 1006 n6) 1007 n7) 1008 n8) (va_up (va_up (va_up (va_up (va_up (va_up (va_up (va_up (va_up C 1001 (some (.inl (cy 0, 400, .inl (fun _ => 0))))) 1002 (some (.inl (cy 0, 20, .inl (fun _ => 0))))) 1003 (some (.inl (cy 0, 20, .inl (fun _ => 0))))) 1004 (some (.inl (cy 1, 10, .inr (.inl (fun _ => 0)))))) 1005 (some (.inl (cy 0, 32, .inl (fun _ => 0))))) 1006 (some (.inl (cy 0, 200, .inl (fun _ => 0))))) 1007 (some (.inl (cy 1, 200, .inr (.inl (fun _ => 0)))))) 1008 (some (.inl (cy 0, 200, .inl (fun _ => 0))))) 1000 (some (.inr (2, [.int 0, .int 0, .ref n1, .ref n2, .ref n3, .ref n4, .ref n5, .int 0, .ref n6, .ref n7, .null, .null, .null, .int 0])))) H := hP
  refine mh_putFa (r := 1000) (ci := 2) (v := .ref n8) (ty := (.array .int)) (fs' := [.int 0, .int 0, .ref n1, .ref n2, .ref n3, .ref n4, .ref n5, .int 0, .ref n6, .ref n7, .ref n8, .null, .null, .int 0]) hx hb hts wfX2 tyX2 tyX2_ok nmX2 hown hK.1 hP hS rfl rfl 10 (by decide) (hts _ flX2_32) (fun _ h9 => h9) rfl hin rfl (by decide +kernel) rfl rfl (Nat.le_of_ble_eq_true rfl) rfl dX2_init_69 (fun H locs hP hS => ?_)
  refine lv_aload_n hx hb dX2_init_72 rfl (lv_at hl 0 rfl) ?_
  refine lv_sipush (v := 200) hx hb dX2_init_73 (by decide) ?_
  refine mh_newa (atype := .int) (ty := .int) hx hb (hts _ ac_int) rfl hK.1 hP hS hz 1009 0 ((va_up_ne _ _ (by decide)).trans ((va_up_ne _ _ (by decide)).trans ((va_up_ne _ _ (by decide)).trans ((va_up_ne _ _ (by decide)).trans ((va_up_ne _ _ (by decide)).trans ((va_up_ne _ _ (by decide)).trans ((va_up_ne _ _ (by decide)).trans ((va_up_ne _ _ (by decide)).trans ((va_up_ne _ _ (by decide)).trans (hCn 1009 (by decide))))))))))) rfl (fun h9 => h9) (fun _ h9 => h9) (N' := 200) (a0 := (200, .inl (fun _ => 0))) (fun cA => by rw [vp_cell_i]; rfl) (by decide) rfl (by decide) (Nat.le_of_ble_eq_true rfl) (Nat.le_of_ble_eq_true rfl) dX2_init_76 (fun n9 H hP hS => ?_)
  rw [va_up_comm (show 1000 ≠ 1009 by decide)] at hP
  have hP : mh D vwCl lo (va_up (va_up (va_up (va_up (va_up (va_up (va_up (va_up (va_up ad 1001 n1) 1002 n2) 1003 n3) 1004 n4) 1005 n5) 1006 n6) 1007 n7) 1008 n8) 1009 n9) (va_up (va_up (va_up (va_up (va_up (va_up (va_up (va_up (va_up (va_up C 1001 (some (.inl (cy 0, 400, .inl (fun _ => 0))))) 1002 (some (.inl (cy 0, 20, .inl (fun _ => 0))))) 1003 (some (.inl (cy 0, 20, .inl (fun _ => 0))))) 1004 (some (.inl (cy 1, 10, .inr (.inl (fun _ => 0)))))) 1005 (some (.inl (cy 0, 32, .inl (fun _ => 0))))) 1006 (some (.inl (cy 0, 200, .inl (fun _ => 0))))) 1007 (some (.inl (cy 1, 200, .inr (.inl (fun _ => 0)))))) 1008 (some (.inl (cy 0, 200, .inl (fun _ => 0))))) 1009 (some (.inl (cy 0, 200, .inl (fun _ => 0))))) 1000 (some (.inr (2, [.int 0, .int 0, .ref n1, .ref n2, .ref n3, .ref n4, .ref n5, .int 0, .ref n6, .ref n7, .ref n8, .null, .null, .int 0])))) H := hP
  refine mh_putFa (r := 1000) (ci := 2) (v := .ref n9) (ty := (.array .int)) (fs' := [.int 0, .int 0, .ref n1, .ref n2, .ref n3, .ref n4, .ref n5, .int 0, .ref n6, .ref n7, .ref n8, .ref n9, .null, .int 0]) hx hb hts wfX2 tyX2 tyX2_ok nmX2 hown hK.1 hP hS rfl rfl 11 (by decide) (hts _ flX2_35) (fun _ h9 => h9) rfl hin rfl (by decide +kernel) rfl rfl (Nat.le_of_ble_eq_true rfl) rfl dX2_init_78 (fun H locs hP hS => ?_)
  refine lv_aload_n hx hb dX2_init_81 rfl (lv_at hl 0 rfl) ?_
  refine lv_sipush (v := 200) hx hb dX2_init_82 (by decide) ?_
  refine mh_newa (atype := .boolean) (ty := .boolean) hx hb (hts _ ac_boolean) rfl hK.1 hP hS hz 1010 2 ((va_up_ne _ _ (by decide)).trans ((va_up_ne _ _ (by decide)).trans ((va_up_ne _ _ (by decide)).trans ((va_up_ne _ _ (by decide)).trans ((va_up_ne _ _ (by decide)).trans ((va_up_ne _ _ (by decide)).trans ((va_up_ne _ _ (by decide)).trans ((va_up_ne _ _ (by decide)).trans ((va_up_ne _ _ (by decide)).trans ((va_up_ne _ _ (by decide)).trans (hCn 1010 (by decide)))))))))))) rfl (fun h9 => h9) (fun _ h9 => h9) (N' := 200) (a0 := (200, .inl (fun _ => 0))) (fun cA => by rw [vp_cell_i]; rfl) (by decide) rfl (by decide) (Nat.le_of_ble_eq_true rfl) (Nat.le_of_ble_eq_true rfl) dX2_init_85 (fun n10 H hP hS => ?_)
  rw [va_up_comm (show 1000 ≠ 1010 by decide)] at hP
  have hP : mh D vwCl lo (bA ad n1 n2 n3 n4 n5 n6 n7 n8 n9 n10) (va_up (jA cy C (fun _ => 0) (fun _ => 0)) 1000 (some (.inr (2, [.int 0, .int 0, .ref n1, .ref n2, .ref n3, .ref n4, .ref n5, .int 0, .ref n6, .ref n7, .ref n8, .ref n9, .null, .int 0])))) H := hP
  refine mh_putFa (r := 1000) (ci := 2) (v := .ref n10) (ty := (.array .boolean)) (fs' := [.int 0, .int 0, .ref n1, .ref n2, .ref n3, .ref n4, .ref n5, .int 0, .ref n6, .ref n7, .ref n8, .ref n9, .ref n10, .int 0]) hx hb hts wfX2 tyX2 tyX2_ok nmX2 hown hK.1 hP hS rfl rfl 12 (by decide) (hts _ flX2_38) (fun _ h9 => h9) rfl hin rfl (by decide +kernel) rfl rfl (Nat.le_of_ble_eq_true rfl) rfl dX2_init_87 (fun H locs hP hS => ?_)
  refine W.widen (k := 10) (n := 1482) (by omega) (by omega) ?_
  have loop2 : ∀ (d i : Nat) (H : Heap) (locs : List Loc), i + d = 20 → mh D vwCl lo (bA ad n1 n2 n3 n4 n5 n6 n7 n8 n9 n10) (va_up (jA cy C (fun _ => -1) (fun k => if k < i then 24 else 0)) 1000 (some (.inr (2, [.int (nI K), .int (nI L), .ref n1, .ref n2, .ref n3, .ref n4, .ref n5, .int 0, .ref n6, .ref n7, .ref n8, .ref n9, .ref n10, .int 0])))) H → va_S (fun q => lo ≤ q) s.heap H locs → ∀ (ls : Array Slot), lv_has ls 4 [(3, .int (nI i)), (0, .ref (ad 1000)), (1, .int kk), (2, .int kl)] → W p l e (headSpec wX2_init { frames := 1, cells := 10, slots := 1482, locals := 30 }).room s m [.ref (ad 1000), .int kk, .int kl].toArray below meth c H locs 10 1482 Q (F0 m 166 ls []) := by
    intro d
    induction d with
    | zero =>
      intro i H locs hid hP hS ls hl
      refine lv_iload_n hx hb dX2_init_166 rfl (lv_at hl 0 rfl) ?_
      refine lv_aload_n hx hb dX2_init_167 rfl (lv_at hl 1 rfl) ?_
      refine mh_geta (ci := 2) (v := .ref n3) hx hb hts wfX2 hown hK.1 hP 1000 rfl (va_up_self _ _ _) rfl 4 (by decide) (hts _ flX2_16) (fun _ h9 => h9) rfl dX2_init_168 ?_
      refine mh_alena (v := nI 20) hx hb hK.1 hP 1003 0 rfl ((va_up_ne _ _ (by decide)).trans rfl) rfl rfl dX2_init_171 ?_
      refine lv_icmp_ge (tgt := 189) hx hb dX2_init_172 (by decide) (fun c172 => ?_) (fun c172 => ?_)
      · skip
        rw [hQ]
        refine W.widen (k := 10) (n := 1482) (by first | exact Nat.zero_le _ | omega) (by first | exact Nat.zero_le _ | omega) ?_
        exact W.vret hx hb hr (fun t9 ht9 _ => ⟨⟨(bA ad n1 n2 n3 n4 n5 n6 n7 n8 n9 n10, yC cy (bA ad n1 n2 n3 n4 n5 n6 n7 n8 n9 n10) (z0 K L) (fun _ => 0) (fun _ => -1) (fun _ => 0) (fun r => if r < 1000 then C r else none)), rfl, ⟨rfl, fun r hr => by
          show bA ad n1 n2 n3 n4 n5 n6 n7 n8 n9 n10 r = _
          unfold bA
          rw [va_up_ne _ _ (by omega), va_up_ne _ _ (by omega), va_up_ne _ _ (by omega), va_up_ne _ _ (by omega), va_up_ne _ _ (by omega), va_up_ne _ _ (by omega), va_up_ne _ _ (by omega), va_up_ne _ _ (by omega), va_up_ne _ _ (by omega), va_up_ne _ _ (by omega)]⟩, mh_hp ht9 (mh_eq (mh_cong (g := fun _ => 24) (mh_eq (C' := va_up (va_up (jA cy C (fun _ => -1) (fun k => if k < i then 24 else 0)) 1000 (some (.inr (2, [.int (nI K), .int (nI L), .ref n1, .ref n2, .ref n3, .ref n4, .ref n5, .int 0, .ref n6, .ref n7, .ref n8, .ref n9, .ref n10, .int 0])))) 1003 (some (.inl (cy 0, 20, .inl (fun k => if k < i then 24 else 0))))) hP (fun r => (jA_3 (fl' := fun k => if k < i then 24 else 0) r).symm)) (fun k hk => if_pos (by omega))) (fun r => (yI_fin hCn r).trans (jA_3 r)))⟩, hS.F ht9⟩) hS.2.2 dX2_init_189
      · skip
        exact absurd (nI_le (by omega) (by omega)) c172
    | succ d ih =>
      intro i H locs hid hP hS ls hl
      refine lv_iload_n hx hb dX2_init_166 rfl (lv_at hl 0 rfl) ?_
      refine lv_aload_n hx hb dX2_init_167 rfl (lv_at hl 1 rfl) ?_
      refine mh_geta (ci := 2) (v := .ref n3) hx hb hts wfX2 hown hK.1 hP 1000 rfl (va_up_self _ _ _) rfl 4 (by decide) (hts _ flX2_16) (fun _ h9 => h9) rfl dX2_init_168 ?_
      refine mh_alena (v := nI 20) hx hb hK.1 hP 1003 0 rfl ((va_up_ne _ _ (by decide)).trans rfl) rfl rfl dX2_init_171 ?_
      refine lv_icmp_ge (tgt := 189) hx hb dX2_init_172 (by decide) (fun c172 => ?_) (fun c172 => ?_)
      · skip
        exact absurd c172 (nI_ge (by omega) (by omega))
      · skip
        refine lv_aload_n hx hb dX2_init_175 rfl (lv_at hl 1 rfl) ?_
        refine mh_geta (ci := 2) (v := .ref n3) hx hb hts wfX2 hown hK.1 hP 1000 rfl (va_up_self _ _ _) rfl 4 (by decide) (hts _ flX2_16) (fun _ h9 => h9) rfl dX2_init_176 ?_
        refine lv_iload_n hx hb dX2_init_179 rfl (lv_at hl 0 rfl) ?_
        refine lv_bipush (v := 24) hx hb dX2_init_180 (by decide) ?_
        refine mh_iasna (i := i) hx hb hK.1 hP hS 1003 0 rfl ((va_up_ne _ _ (by decide)).trans rfl) rfl (by omega) (by decide) dX2_init_182 (fun H locs hP hS => ?_)
        have hP : mh D vwCl lo (bA ad n1 n2 n3 n4 n5 n6 n7 n8 n9 n10) (va_up (jA cy C (fun _ => -1) (fun k => if k < i + 1 then 24 else 0)) 1000 (some (.inr (2, [.int (nI K), .int (nI L), .ref n1, .ref n2, .ref n3, .ref n4, .ref n5, .int 0, .ref n6, .ref n7, .ref n8, .ref n9, .ref n10, .int 0])))) H := mh_eq (mh_cong (g := fun k => if k < i + 1 then 24 else 0) hP (fun k _ => upd_fill (n := 20) (f := fun _ => 0) k)) jA_3
        obtain ⟨y, ey⟩ : ∃ y : Int32, y = nI i + 1 := ⟨_, rfl⟩
        refine lv_iinc (v := y) (lv' := [(3, .int y), (0, .ref (ad 1000)), (1, .int kk), (2, .int kl)]) hx hb dX2_init_183 hl (k := 0) rfl (by rw [ey]; rfl) (by decide) rfl (fun ls hl => ?_)
        refine lv_goto (tgt := 166) hx hb dX2_init_186 (by decide) ?_
        rw [nI_1] at ey
        subst ey
        exact ih (i + 1) H locs (by omega) hP hS ls (lv_sub hl [0, 1, 2, 3] rfl)
  have loop1 : ∀ (d i : Nat) (H : Heap) (locs : List Loc), i + d = 400 → mh D vwCl lo (bA ad n1 n2 n3 n4 n5 n6 n7 n8 n9 n10) (va_up (jA cy C (fun k => if k < i then -1 else 0) (fun _ => 0)) 1000 (some (.inr (2, [.int (nI K), .int (nI L), .ref n1, .ref n2, .ref n3, .ref n4, .ref n5, .int 0, .ref n6, .ref n7, .ref n8, .ref n9, .ref n10, .int 0])))) H → va_S (fun q => lo ≤ q) s.heap H locs → ∀ (ls : Array Slot), lv_has ls 4 [(3, .int (nI i)), (0, .ref (ad 1000)), (1, .int kk), (2, .int kl)] → W p l e (headSpec wX2_init { frames := 1, cells := 10, slots := 1482, locals := 30 }).room s m [.ref (ad 1000), .int kk, .int kl].toArray below meth c H locs 10 1482 Q (F0 m 142 ls []) := by
    intro d
    induction d with
    | zero =>
      intro i H locs hid hP hS ls hl
      refine lv_iload_n hx hb dX2_init_142 rfl (lv_at hl 0 rfl) ?_
      refine lv_aload_n hx hb dX2_init_143 rfl (lv_at hl 1 rfl) ?_
      refine mh_geta (ci := 2) (v := .ref n1) hx hb hts wfX2 hown hK.1 hP 1000 rfl (va_up_self _ _ _) rfl 2 (by decide) (hts _ flX2_9) (fun _ h9 => h9) rfl dX2_init_144 ?_
      refine mh_alena (v := nI 400) hx hb hK.1 hP 1001 0 rfl ((va_up_ne _ _ (by decide)).trans rfl) rfl rfl dX2_init_147 ?_
      refine lv_icmp_ge (tgt := 164) hx hb dX2_init_148 (by decide) (fun c148 => ?_) (fun c148 => ?_)
      · skip
        refine lv_iconst (v := 0) hx hb dX2_init_164 (by decide) ?_
        refine lv_istore_n (lv' := [(3, .int 0), (0, .ref (ad 1000)), (1, .int kk), (2, .int kl)]) hx hb dX2_init_165 rfl hl (by decide) rfl (fun ls hl => ?_)
        have hP : mh D vwCl lo (bA ad n1 n2 n3 n4 n5 n6 n7 n8 n9 n10) (va_up (jA cy C (fun _ => -1) (fun _ => 0)) 1000 (some (.inr (2, [.int (nI K), .int (nI L), .ref n1, .ref n2, .ref n3, .ref n4, .ref n5, .int 0, .ref n6, .ref n7, .ref n8, .ref n9, .ref n10, .int 0])))) H := mh_eq (mh_cong (g := fun _ => -1) (mh_eq (C' := va_up (va_up (jA cy C (fun k => if k < i then -1 else 0) (fun _ => 0)) 1000 (some (.inr (2, [.int (nI K), .int (nI L), .ref n1, .ref n2, .ref n3, .ref n4, .ref n5, .int 0, .ref n6, .ref n7, .ref n8, .ref n9, .ref n10, .int 0])))) 1001 (some (.inl (cy 0, 400, .inl (fun k => if k < i then -1 else 0))))) hP (fun r => (jA_1 (fn' := fun k => if k < i then -1 else 0) r).symm)) (fun k hk => if_pos (by omega))) jA_1
        exact loop2 20 0 H locs (Nat.zero_add _) hP hS ls (lv_sub hl [0, 1, 2, 3] rfl)
      · skip
        exact absurd (nI_le (by omega) (by omega)) c148
    | succ d ih =>
      intro i H locs hid hP hS ls hl
      refine lv_iload_n hx hb dX2_init_142 rfl (lv_at hl 0 rfl) ?_
      refine lv_aload_n hx hb dX2_init_143 rfl (lv_at hl 1 rfl) ?_
      refine mh_geta (ci := 2) (v := .ref n1) hx hb hts wfX2 hown hK.1 hP 1000 rfl (va_up_self _ _ _) rfl 2 (by decide) (hts _ flX2_9) (fun _ h9 => h9) rfl dX2_init_144 ?_
      refine mh_alena (v := nI 400) hx hb hK.1 hP 1001 0 rfl ((va_up_ne _ _ (by decide)).trans rfl) rfl rfl dX2_init_147 ?_
      refine lv_icmp_ge (tgt := 164) hx hb dX2_init_148 (by decide) (fun c148 => ?_) (fun c148 => ?_)
      · skip
        exact absurd c148 (nI_ge (by omega) (by omega))
      · skip
        refine lv_aload_n hx hb dX2_init_151 rfl (lv_at hl 1 rfl) ?_
        refine mh_geta (ci := 2) (v := .ref n1) hx hb hts wfX2 hown hK.1 hP 1000 rfl (va_up_self _ _ _) rfl 2 (by decide) (hts _ flX2_9) (fun _ h9 => h9) rfl dX2_init_152 ?_
        refine lv_iload_n hx hb dX2_init_155 rfl (lv_at hl 0 rfl) ?_
        refine lv_iconst (v := (-1)) hx hb dX2_init_156 (by decide) ?_
        refine mh_iasna (i := i) hx hb hK.1 hP hS 1001 0 rfl ((va_up_ne _ _ (by decide)).trans rfl) rfl (by omega) (by decide) dX2_init_157 (fun H locs hP hS => ?_)
        have hP : mh D vwCl lo (bA ad n1 n2 n3 n4 n5 n6 n7 n8 n9 n10) (va_up (jA cy C (fun k => if k < i + 1 then -1 else 0) (fun _ => 0)) 1000 (some (.inr (2, [.int (nI K), .int (nI L), .ref n1, .ref n2, .ref n3, .ref n4, .ref n5, .int 0, .ref n6, .ref n7, .ref n8, .ref n9, .ref n10, .int 0])))) H := mh_eq (mh_cong (g := fun k => if k < i + 1 then -1 else 0) hP (fun k _ => upd_fill (n := 400) (f := fun _ => 0) k)) jA_1
        obtain ⟨y, ey⟩ : ∃ y : Int32, y = nI i + 1 := ⟨_, rfl⟩
        refine lv_iinc (v := y) (lv' := [(3, .int y), (0, .ref (ad 1000)), (1, .int kk), (2, .int kl)]) hx hb dX2_init_158 hl (k := 0) rfl (by rw [ey]; rfl) (by decide) rfl (fun ls hl => ?_)
        refine lv_goto (tgt := 142) hx hb dX2_init_161 (by decide) ?_
        rw [nI_1] at ey
        subst ey
        exact ih (i + 1) H locs (by omega) hP hS ls (lv_sub hl [0, 1, 2, 3] rfl)
  have tail2 : ∀ (H : Heap) (locs : List Loc), mh D vwCl lo (bA ad n1 n2 n3 n4 n5 n6 n7 n8 n9 n10) (va_up (jA cy C (fun _ => 0) (fun _ => 0)) 1000 (some (.inr (2, [.int (nI K), .int 0, .ref n1, .ref n2, .ref n3, .ref n4, .ref n5, .int 0, .ref n6, .ref n7, .ref n8, .ref n9, .ref n10, .int 0])))) H → va_S (fun q => lo ≤ q) s.heap H locs → ∀ (ls : Array Slot), lv_has ls 4 [(0, .ref (ad 1000)), (1, .int kk), (2, .int kl)] → W p l e (headSpec wX2_init { frames := 1, cells := 10, slots := 1482, locals := 30 }).room s m [.ref (ad 1000), .int kk, .int kl].toArray below meth c H locs 10 1482 Q (F0 m 137 ls [.int (nI L), .ref (ad 1000)]) := by
    intro H locs hP hS ls hl
    refine mh_putFa (r := 1000) (ci := 2) (v := .int (nI L)) (ty := .int) (fs' := [.int (nI K), .int (nI L), .ref n1, .ref n2, .ref n3, .ref n4, .ref n5, .int 0, .ref n6, .ref n7, .ref n8, .ref n9, .ref n10, .int 0]) hx hb hts wfX2 tyX2 tyX2_ok nmX2 hown hK.1 hP hS rfl rfl 1 (by decide) (hts _ flX2_46) (fun _ h9 => h9) rfl hin rfl (by decide +kernel) rfl rfl (Nat.le_of_ble_eq_true rfl) rfl dX2_init_137 (fun H locs hP hS => ?_)
    refine lv_iconst (v := 0) hx hb dX2_init_140 (by decide) ?_
    refine lv_istore_n (lv' := [(3, .int 0), (0, .ref (ad 1000)), (1, .int kk), (2, .int kl)]) hx hb dX2_init_141 rfl hl (by decide) rfl (fun ls hl => ?_)
    exact loop1 400 0 H locs (Nat.zero_add _) hP hS ls (lv_sub hl [0, 1, 2, 3] rfl)
  have tail1 : ∀ (H : Heap) (locs : List Loc), mh D vwCl lo (bA ad n1 n2 n3 n4 n5 n6 n7 n8 n9 n10) (va_up (jA cy C (fun _ => 0) (fun _ => 0)) 1000 (some (.inr (2, [.int 0, .int 0, .ref n1, .ref n2, .ref n3, .ref n4, .ref n5, .int 0, .ref n6, .ref n7, .ref n8, .ref n9, .ref n10, .int 0])))) H → va_S (fun q => lo ≤ q) s.heap H locs → ∀ (ls : Array Slot), lv_has ls 4 [(0, .ref (ad 1000)), (1, .int kk), (2, .int kl)] → W p l e (headSpec wX2_init { frames := 1, cells := 10, slots := 1482, locals := 30 }).room s m [.ref (ad 1000), .int kk, .int kl].toArray below meth c H locs 10 1482 Q (F0 m 112 ls [.int (nI K), .ref (ad 1000)]) := by
    intro H locs hP hS ls hl
    refine mh_putFa (r := 1000) (ci := 2) (v := .int (nI K)) (ty := .int) (fs' := [.int (nI K), .int 0, .ref n1, .ref n2, .ref n3, .ref n4, .ref n5, .int 0, .ref n6, .ref n7, .ref n8, .ref n9, .ref n10, .int 0]) hx hb hts wfX2 tyX2 tyX2_ok nmX2 hown hK.1 hP hS rfl rfl 0 (by decide) (hts _ flX2_42) (fun _ h9 => h9) rfl hin rfl (by decide +kernel) rfl rfl (Nat.le_of_ble_eq_true rfl) rfl dX2_init_112 (fun H locs hP hS => ?_)
    refine lv_aload_n hx hb dX2_init_115 rfl (lv_at hl 0 rfl) ?_
    refine lv_iload_n hx hb dX2_init_116 rfl (lv_at hl 2 rfl) ?_
    refine lv_iconst (v := 1) hx hb dX2_init_117 (by decide) ?_
    refine lv_icmp_ge (tgt := 125) hx hb dX2_init_118 (by decide) (fun c118 => ?_) (fun c118 => ?_)
    · skip
      have hn1 : ¬ kl < 1 := Int32.not_lt.mpr c118
      refine lv_iload_n hx hb dX2_init_125 rfl (lv_at hl 2 rfl) ?_
      refine lv_bipush (v := 9) hx hb dX2_init_126 (by decide) ?_
      refine lv_icmp_le (tgt := 136) hx hb dX2_init_128 (by decide) (fun c128 => ?_) (fun c128 => ?_)
      · skip
        have hn2 : ¬ nI 9 < kl := Int32.not_lt.mpr c128
        refine lv_iload_n hx hb dX2_init_136 rfl (lv_at hl 2 rfl) ?_
        refine W.eq (g2 := F0 m 137 ls [.int (nI L), .ref (ad 1000)]) (by rw [show nI L = kl by rw [eL, clampN_3 (by decide) hn1 hn2]]) ?_
        exact tail2 H locs hP hS ls hl
      · skip
        have hgt : nI 9 < kl := Int32.not_le.mp c128
        refine lv_bipush (v := 9) hx hb dX2_init_131 (by decide) ?_
        refine lv_goto (tgt := 137) hx hb dX2_init_133 (by decide) ?_
        refine W.eq (g2 := F0 m 137 ls [.int (nI L), .ref (ad 1000)]) (by rw [show nI L = 9 by rw [eL, clampN_2 hn1 hgt]; rfl]) ?_
        exact tail2 H locs hP hS ls hl
    · skip
      have hlt : kl < 1 := Int32.not_le.mp c118
      refine lv_iconst (v := 1) hx hb dX2_init_121 (by decide) ?_
      refine lv_goto (tgt := 137) hx hb dX2_init_122 (by decide) ?_
      refine W.eq (g2 := F0 m 137 ls [.int (nI L), .ref (ad 1000)]) (by rw [show nI L = 1 by rw [eL, clampN_1 hlt]; rfl]) ?_
      exact tail2 H locs hP hS ls hl
  refine lv_aload_n hx hb dX2_init_90 rfl (lv_at hl 0 rfl) ?_
  refine lv_iload_n hx hb dX2_init_91 rfl (lv_at hl 1 rfl) ?_
  refine lv_iconst (v := 1) hx hb dX2_init_92 (by decide) ?_
  refine lv_icmp_ge (tgt := 100) hx hb dX2_init_93 (by decide) (fun c93 => ?_) (fun c93 => ?_)
  · skip
    have hn1 : ¬ kk < 1 := Int32.not_lt.mpr c93
    refine lv_iload_n hx hb dX2_init_100 rfl (lv_at hl 1 rfl) ?_
    refine lv_bipush (v := 20) hx hb dX2_init_101 (by decide) ?_
    refine lv_icmp_le (tgt := 111) hx hb dX2_init_103 (by decide) (fun c103 => ?_) (fun c103 => ?_)
    · skip
      have hn2 : ¬ nI 20 < kk := Int32.not_lt.mpr c103
      refine lv_iload_n hx hb dX2_init_111 rfl (lv_at hl 1 rfl) ?_
      refine W.eq (g2 := F0 m 112 ls [.int (nI K), .ref (ad 1000)]) (by rw [show nI K = kk by rw [eK, clampN_3 (by decide) hn1 hn2]]) ?_
      exact tail1 H locs hP hS ls hl
    · skip
      have hgt : nI 20 < kk := Int32.not_le.mp c103
      refine lv_bipush (v := 20) hx hb dX2_init_106 (by decide) ?_
      refine lv_goto (tgt := 112) hx hb dX2_init_108 (by decide) ?_
      refine W.eq (g2 := F0 m 112 ls [.int (nI K), .ref (ad 1000)]) (by rw [show nI K = 20 by rw [eK, clampN_2 hn1 hgt]; rfl]) ?_
      exact tail1 H locs hP hS ls hl
  · skip
    have hlt : kk < 1 := Int32.not_le.mp c93
    refine lv_iconst (v := 1) hx hb dX2_init_96 (by decide) ?_
    refine lv_goto (tgt := 112) hx hb dX2_init_97 (by decide) ?_
    refine W.eq (g2 := F0 m 112 ls [.int (nI K), .ref (ad 1000)]) (by rw [show nI K = 1 by rw [eK, clampN_1 hlt]; rfl]) ?_
    exact tail1 H locs hP hS ls hl
