section RCI
variable {p : Program} {l : Launch} {e : Env} {R : Room} {s : State} {m : MethodId} {args : Array Value} {below : List Frame} {meth : Method} {c : Code} {H : Heap} {locs : List Loc} {cells slots : Nat} {Q : State → Prop}
variable {cc : ByteArray} {pc : Nat} {ls : Array Slot} {rest st0 As : List Value} {D : va_G} {cy : Nat → ClassId} {lo : Nat} {ad : Nat → Nat} {C : Nat → Option va_E} {own host : String} {idx nL maxL n mc ms b : Nat} {y : MethodName} {bytes : ByteArray} {rm : Room} {H0 : Heap}
theorem rwIN {post : (Nat → Nat) × (Nat → Option va_E) → Prop} (S : CallFix p m c cc nL s args wA own) (hM : Met l y (Cond.code y bytes maxL none :: wA) rm (pcs D cy lo ad C (.ref b :: As)) (qwv D lo post) mc ms (fun q => lo ≤ q))
    (h1 : va_Nw (.methodLinkNest own idx y host) s) (h2 : Cond.instanceMethod y ∈ wA) (h4 : Cond.initialized y.cls ∈ wA) (h5 : Cond.code y bytes maxL none ∈ wA) (hy1 : y.name = "<init>")
    (hd : y.cls ≠ "java/lang/invoke/MethodHandle" ∧ y.cls ≠ "java/lang/invoke/VarHandle" ∧ (parseMethodDescriptor y.desc).map (fun d => d.parameters.length) = some n) (hrc : rm.cells = mc) (hrs : rm.slots = ms) (hR : rm.frames + 1 ≤ R.frames ∧ 8 + (maxL + 11) + rm.locals ≤ R.locals)
    (hK : kn D cy s) (hP : mh D vwCl lo ad C H) (hz : lo ≤ H.size) (hS : va_S (fun q => lo ≤ q) H0 H locs)
    (hn : As.length = n) (hsize : ls.size = nL) (hst : st0 = As.reverse ++ .ref b :: rest) (hW : (rest.map fun v => v.category).sum ≤ 8) (hdg : decode cc pc = .ok (.invokespecial idx, 3)) (hf : cells + mc ≤ R.cells ∧ slots + ms ≤ R.slots)
    (kk : ∀ (u : (Nat → Nat) × (Nat → Option va_E)) (H1 : Heap) (locs1 : List Loc), post u → mh D vwCl lo u.1 u.2 H1 → H.size ≤ H1.size → va_S (fun q => lo ≤ q) H0 H1 locs1 → W p l e R s m args below meth c H1 locs1 (cells + mc) (slots + ms) Q (F0 m (pc + 3) ls rest)) : W p l e R s m args below meth c H locs cells slots Q (F0 m pc ls st0) :=
  va_callv (va_runIN (g := F0 m pc ls st0) S hM ⟨va_cnB n S.2.2.2.2 (gI h5) rfl hrc hrs h1 (S.2.2.2.2 _ h4) hd hR, hy1, S.2.2.2.2 _ h2⟩ (pcs_S hK hP hz) rfl hn hsize hst (lv_room hW) hdg hf) hS (fun _ _ h => h) (fun _ h => h) (fun u t H1 locs1 ht _ hw hB hz1 _ hS1 => kk u H1 locs1 hw (by rw [← ht]; exact hB) hz1 hS1)
theorem rwI {post : (Nat → Nat) × (Nat → Option va_E) → Prop} (S : CallFix p m c cc nL s args wA own) (hM : Met l y (Cond.code y bytes maxL none :: wA) rm (pcs D cy lo ad C (.ref b :: As)) (qwv D lo post) mc ms (fun q => lo ≤ q))
    (h1 : Cond.methodLink own idx y ∈ wA) (h2 : Cond.instanceMethod y ∈ wA) (h4 : Cond.initialized y.cls ∈ wA) (h5 : Cond.code y bytes maxL none ∈ wA) (hy1 : y.name = "<init>")
    (hd : y.cls ≠ "java/lang/invoke/MethodHandle" ∧ y.cls ≠ "java/lang/invoke/VarHandle" ∧ (parseMethodDescriptor y.desc).map (fun d => d.parameters.length) = some n) (hrc : rm.cells = mc) (hrs : rm.slots = ms) (hR : rm.frames + 1 ≤ R.frames ∧ 8 + (maxL + 11) + rm.locals ≤ R.locals)
    (hK : kn D cy s) (hP : mh D vwCl lo ad C H) (hz : lo ≤ H.size) (hS : va_S (fun q => lo ≤ q) H0 H locs)
    (hn : As.length = n) (hsize : ls.size = nL) (hst : st0 = As.reverse ++ .ref b :: rest) (hW : (rest.map fun v => v.category).sum ≤ 8) (hdg : decode cc pc = .ok (.invokespecial idx, 3)) (hf : cells + mc ≤ R.cells ∧ slots + ms ≤ R.slots)
    (kk : ∀ (u : (Nat → Nat) × (Nat → Option va_E)) (H1 : Heap) (locs1 : List Loc), post u → mh D vwCl lo u.1 u.2 H1 → H.size ≤ H1.size → va_S (fun q => lo ≤ q) H0 H1 locs1 → W p l e R s m args below meth c H1 locs1 (cells + mc) (slots + ms) Q (F0 m (pc + 3) ls rest)) : W p l e R s m args below meth c H locs cells slots Q (F0 m pc ls st0) :=
  va_callv (va_runI (g := F0 m pc ls st0) S hM (cwI n S.2.2.2.2 (gI h5) rfl hrc hrs (S.2.2.2.2 _ h4) (S.2.2.2.2 _ h1) (S.2.2.2.2 _ h2) hy1 hd hR) (pcs_S hK hP hz) rfl hn hsize hst (lv_room hW) hdg hf) hS (fun _ _ h => h) (fun _ h => h) (fun u t H1 locs1 ht _ hw hB hz1 _ hS1 => kk u H1 locs1 hw (by rw [← ht]; exact hB) hz1 hS1)
theorem mv_aload (hexec : p.tables.exec = Jvm.exec) (hb : c.code = cc) {i : Nat} {o : Option Nat} (hdg : decode cc pc = .ok (.aload i, 2)) (hl : ls[i]? = some (.val (va_rf o)))
    (k : W p l e R s m args below meth c H locs cells slots Q (F0 m (pc + 2) ls (va_rf o :: rest))) : W p l e R s m args below meth c H locs cells slots Q (F0 m pc ls rest) := by
  cases o with
  | none => exact lv_aloadN hexec hb hdg hl k
  | some x => exact lv_aload hexec hb hdg hl k
theorem mh_asqn {cl : List vw_C} {tys : List (ClassId × FieldType)} (hexec : p.tables.exec = Jvm.exec) (hb : c.code = cc) (hK : va_K D cl tys s) (hP : mh D cl lo ad C H) (hS : va_S (fun q => lo ≤ q) H0 H locs) (r t0 rk ci : Nat) {cA : ClassId} {rc : vw_C} {n : Nat} {vs : List Value} {f : Nat → Option Nat} (ha : C r = some (.inl (cA, n, .inr (.inr (.inr (.inr f)))))) (ht : tys[t0]? = some (cA, .object rc.1)) (hv : C rk = some (.inr (ci, vs))) (hc : cl[ci]? = some rc) {i : Nat} (hi : i < n) (hn : n < 2 ^ 31) (hdg : decode cc pc = .ok (.aastore, 1))
    (kk : ∀ (H1 : Heap) (locs1 : List Loc), mh D cl lo ad (va_up C r (some (.inl (cA, n, .inr (.inr (.inr (.inr (va_up f i (some (ad rk)))))))))) H1 → va_S (fun q => lo ≤ q) H0 H1 locs1 → W p l e R s m args below meth c H1 locs1 cells slots Q (F0 m (pc + 1) ls rest)) : W p l e R s m args below meth c H locs cells slots Q (F0 m pc ls (.ref (ad rk) :: .int (nI i) :: .ref (ad r) :: rest)) :=
  mh_astq hexec hb hK hP hS r t0 rk ci ha ht hv hc (vp_in_nI hi hn) hdg (by rw [nI_clamp (by omega)]; exact kk)
end RCI
theorem nar_rf {o : Option Nat} {C : String} : narrow (.object C) (va_rf o) = va_rf o := by cases o <;> rfl
theorem fit_rf {o : Option Nat} {C : String} : fits (.object C) (va_rf o) = true := by cases o <;> rfl
theorem va_up_comm {α : Type} {f : Nat → α} {j k : Nat} {a b : α} (h : j ≠ k) : va_up (va_up f j a) k b = va_up (va_up f k b) j a := by
  funext i
  unfold va_up
  by_cases h1 : i = j
  · subst h1
    rw [if_neg h, if_pos rfl, if_pos rfl]
  · by_cases h2 : i = k
    · subst h2
      rw [if_pos rfl, if_neg h1, if_pos rfl]
    · simp [h1, h2]
/-- the events of the thing that are later than the hour j, and the others -/
def zSp (z : zS) (j : Nat) (l pre suf : List Nat) : Prop := l = pre ++ suf ∧ (∀ k ∈ pre, j < eh (zVs z k)) ∧ (∀ k ks, suf = k :: ks → eh (zVs z k) ≤ j)
def wB (v : zEv) (b : Option Nat) : zEv := (v.1, v.2.1, v.2.2.1, v.2.2.2.1, b)
/-- the event v is laid between 'pre' and 'suf' of the thing t -/
def zIns (z : zS) (t : Nat) (v : zEv) (pre suf : List Nat) : zS := match pre.getLast? with
  | none => uLt (uE (uVs z (zE z) (wB v suf.head?)) (zE z + 1)) t (zE z)
  | some a => uVs (uE (uVs z (zE z) (wB v suf.head?)) (zE z + 1)) a (wB (zVs z a) (some (zE z)))
set_option maxHeartbeats 4000000 in
set_option maxRecDepth 100000 in
/-- Event(kind, level, hour, late) -/
theorem kX0_init (l : Launch) (D : va_G) (cy : Nat → ClassId) (lo : Nat) (ad : Nat → Nat) (r : Nat) (C : Nat → Option va_E) (hC : C r = some (.inr (0, [.int 0, .int 0, .long 0, .int 0, .null]))) (kk kl ka : Int32) (h : Int64) (hka : narrow .boolean (.int ka) = .int ka ∧ fits .boolean (.int ka) = true) : Met l yX0_init wX0_init { frames := 1, cells := 0, slots := 0, locals := 12 } (pcs D cy lo ad C [.ref (ad r), .int kk, .int kl, .long h, .int ka]) (qwv D lo (fun u => u = (ad, va_up C r (some (.inr (0, [.int kk, .int kl, .long h, .int ka, .null])))))) 0 0 (fun q => lo ≤ q) := by
  refine Met.ofW (cc := cX0_init) (maxL := 6) (ret := none) (by decide) rfl ?_
  intro p e s m args below meth c s₁ B hml hv
  obtain ⟨rfl, hz, hP, hK⟩ := hv
  have hx := B.exec
  have hb := B.bytes
  have hr := B.returns
  have hts : ∀ w ∈ wA, w.before [.ref (ad r), .int kk, .int kl, .long h, .int ka].toArray s = true := fun w h => atoms_spec (ws := wX0_init) B.pre w (List.mem_cons_of_mem _ h)
  have hown : s.vm.findClass RX0 = some m.cls := findClass_of_methodNamed B.named
  have hlocks := B.notSynchronized
  have hS : va_S (fun q => lo ≤ q) s.heap s.heap [] := va_S.rf
  have hl := lv_entry ([.ref (ad r), .int kk, .int kl, .long h, .int ka]) (n := 6) (Nat.le_of_ble_eq_true rfl)
  rw [lg_entry_eq]
  generalize (lg_sl ([.ref (ad r), .int kk, .int kl, .long h, .int ka]) ++ List.replicate (6 - (lg_sl ([.ref (ad r), .int kk, .int kl, .long h, .int ka])).length) Slot.unset).toArray = ls at hl ⊢
  have hl : lv_has ls 6 [(0, .ref (ad r)), (1, .int kk), (2, .int kl), (3, .long h), (5, .int ka)] := hl
  obtain ⟨Q, hQ⟩ : ∃ Q, Q = MQ below (qwv D lo (fun u => u = (ad, va_up C r (some (.inr (0, [.int kk, .int kl, .long h, .int ka, .null])))))) [.ref (ad r), .int kk, .int kl, .long h, .int ka].toArray s 0 0 (fun q => lo ≤ q) := ⟨_, rfl⟩
  rw [← hQ]
  have hin : meth.name = "<init>" := (name_of_methodNamed B.named B.method).1
  refine lv_aload_n hx hb dX0_init_0 rfl (lv_at hl 0 rfl) ?_
  refine W.objInit hx hb hown (hts _ mlX0_1) (hts _ imO_init) (hts _ cdO_init) rfl (by rw [hml]; exact hl.1) rfl dX0_init_1 (Nat.le_of_ble_eq_true rfl) (Nat.le_of_ble_eq_true rfl) ?_
  refine W.eq (g2 := F0 m 4 ls []) rfl ?_
  refine lv_aload_n hx hb dX0_init_4 rfl (lv_at hl 0 rfl) ?_
  refine lv_null hx hb dX0_init_5 ?_
  refine mh_put (ci := 0) (v := .null) (ty := (.object "CleanMatrix$Event")) hx hb hts wfX0 tyX0 tyX0_ok nmX0 hown hK.1 hP hS r hC rfl 4 (by decide) (hts _ flX0_7) (fun _ h9 => h9) rfl (by decide +kernel) rfl rfl (Nat.le_of_ble_eq_true rfl) dX0_init_6 (fun H locs hP hS => ?_)
  have hP : mh D vwCl lo ad (va_up C r (some (.inr (0, [.int 0, .int 0, .long 0, .int 0, .null])))) H := hP
  refine lv_aload_n hx hb dX0_init_9 rfl (lv_at hl 0 rfl) ?_
  refine lv_iload_n hx hb dX0_init_10 rfl (lv_at hl 1 rfl) ?_
  refine mh_putF (ci := 0) (v := .int kk) (ty := .int) hx hb hts wfX0 tyX0 tyX0_ok nmX0 hown hK.1 hP hS r (va_up_self _ _ _) rfl 0 (by decide) (hts _ flX0_13) (fun _ h9 => h9) rfl hin rfl (by decide +kernel) rfl rfl (Nat.le_of_ble_eq_true rfl) dX0_init_11 (fun H locs hP hS => ?_)
  rw [bx_uu] at hP
  have hP : mh D vwCl lo ad (va_up C r (some (.inr (0, [.int kk, .int 0, .long 0, .int 0, .null])))) H := hP
  refine lv_aload_n hx hb dX0_init_14 rfl (lv_at hl 0 rfl) ?_
  refine lv_iload_n hx hb dX0_init_15 rfl (lv_at hl 2 rfl) ?_
  refine mh_putF (ci := 0) (v := .int kl) (ty := .int) hx hb hts wfX0 tyX0 tyX0_ok nmX0 hown hK.1 hP hS r (va_up_self _ _ _) rfl 1 (by decide) (hts _ flX0_17) (fun _ h9 => h9) rfl hin rfl (by decide +kernel) rfl rfl (Nat.le_of_ble_eq_true rfl) dX0_init_16 (fun H locs hP hS => ?_)
  rw [bx_uu] at hP
  have hP : mh D vwCl lo ad (va_up C r (some (.inr (0, [.int kk, .int kl, .long 0, .int 0, .null])))) H := hP
  refine lv_aload_n hx hb dX0_init_19 rfl (lv_at hl 0 rfl) ?_
  refine lv_lload_n hx hb dX0_init_20 rfl (lv_at hl 3 rfl) ?_
  refine mh_putF (ci := 0) (v := .long h) (ty := .long) hx hb hts wfX0 tyX0 tyX0_ok nmX0 hown hK.1 hP hS r (va_up_self _ _ _) rfl 2 (by decide) (hts _ flX0_20) (fun _ h9 => h9) rfl hin rfl (by decide +kernel) rfl rfl (Nat.le_of_ble_eq_true rfl) dX0_init_21 (fun H locs hP hS => ?_)
  rw [bx_uu] at hP
  have hP : mh D vwCl lo ad (va_up C r (some (.inr (0, [.int kk, .int kl, .long h, .int 0, .null])))) H := hP
  refine lv_aload_n hx hb dX0_init_24 rfl (lv_at hl 0 rfl) ?_
  refine lv_iload hx hb dX0_init_25 (lv_at hl 4 rfl) ?_
  refine mh_putF (ci := 0) (v := .int ka) (ty := .boolean) hx hb hts wfX0 tyX0 tyX0_ok nmX0 hown hK.1 hP hS r (va_up_self _ _ _) rfl 3 (by decide) (hts _ flX0_24) (fun _ h9 => h9) rfl hin rfl (by decide +kernel) hka.1 hka.2 (Nat.le_of_ble_eq_true rfl) dX0_init_27 (fun H locs hP hS => ?_)
  rw [bx_uu] at hP
  have hP : mh D vwCl lo ad (va_up C r (some (.inr (0, [.int kk, .int kl, .long h, .int ka, .null])))) H := hP
  rw [hQ]
  exact W.vret hx hb hr (fun t9 ht9 _ => ⟨⟨(ad, va_up C r (some (.inr (0, [.int kk, .int kl, .long h, .int ka, .null])))), rfl, rfl, mh_hp ht9 (hP)⟩, hS.F ht9⟩) hS.2.2 dX0_init_30
set_option maxHeartbeats 4000000 in
set_option maxRecDepth 100000 in
/-- place -/
theorem kX1_place (l : Launch) (D : va_G) (cy : Nat → ClassId) (lo : Nat) (ad : Nat → Nat) (z : zS) (F : Nat → Option va_E) (ch : Nat → List Nat) (hok : zOk z ch) (t : Nat) (ht : t < zT z) (kk : Int32) (lv j la : Nat) (hj : j ≤ 1000000) (hE : zE z < 200) : Met l yX1_place wX1_place { frames := 0, cells := 0, slots := 0, locals := 0 } (pcs D cy lo ad (va_up (zC cy ad z F) (100 + zE z) (some (zVc ad (kk, lv, j, la, none)))) [.ref (ad 0), .int (nI t), .ref (ad (100 + zE z))]) (qwv D lo (fun u => ∃ pre suf, zSp z j (ch t) pre suf ∧ u = (ad, zC cy ad (zIns z t (kk, lv, j, la, none) pre suf) F))) 0 0 (fun q => lo ≤ q) := by
  refine Met.ofW (cc := cX1_place) (maxL := 5) (ret := none) (by decide) rfl ?_
  intro p e s m args below meth c s₁ B hml hv
  obtain ⟨rfl, hz, hP, hK⟩ := hv
  have hx := B.exec
  have hb := B.bytes
  have hr := B.returns
  have hts : ∀ w ∈ wA, w.before [.ref (ad 0), .int (nI t), .ref (ad (100 + zE z))].toArray s = true := fun w h => atoms_spec (ws := wX1_place) B.pre w (List.mem_cons_of_mem _ h)
  have hown : s.vm.findClass RX1 = some m.cls := findClass_of_methodNamed B.named
  have hlocks := B.notSynchronized
  have hS : va_S (fun q => lo ≤ q) s.heap s.heap [] := va_S.rf
  have hl := lv_entry ([.ref (ad 0), .int (nI t), .ref (ad (100 + zE z))]) (n := 5) (Nat.le_of_ble_eq_true rfl)
  rw [lg_entry_eq]
  generalize (lg_sl ([.ref (ad 0), .int (nI t), .ref (ad (100 + zE z))]) ++ List.replicate (5 - (lg_sl ([.ref (ad 0), .int (nI t), .ref (ad (100 + zE z))])).length) Slot.unset).toArray = ls at hl ⊢
  have hl : lv_has ls 5 [(0, .ref (ad 0)), (1, .int (nI t)), (2, .ref (ad (100 + zE z)))] := hl
  obtain ⟨Q, hQ⟩ : ∃ Q, Q = MQ below (qwv D lo (fun u => ∃ pre suf, zSp z j (ch t) pre suf ∧ u = (ad, zC cy ad (zIns z t (kk, lv, j, la, none) pre suf) F))) [.ref (ad 0), .int (nI t), .ref (ad (100 + zE z))].toArray s 0 0 (fun q => lo ≤ q) := ⟨_, rfl⟩
  rw [← hQ]
  obtain ⟨hK1, hK20, hL1, hL9, hT32, hE200, hnd, hal, hla, hco, hgr, hch, hlt0, hev, hbf⟩ := id hok
  have tail : ∀ (pre suf : List Nat), zSp z j (ch t) pre suf → (∀ a, pre.getLast? = some a → a < zE z) → ∀ (H : Heap) (locs : List Loc), mh D vwCl lo ad (va_up (zC cy ad z F) (100 + zE z) (some (zVc ad (kk, lv, j, la, none)))) H → va_S (fun q => lo ≤ q) s.heap H locs → ∀ (ls : Array Slot), lv_has ls 5 [(4, (va_rf (suf.head?.map (fun k => ad (100 + k))))), (3, (va_rf (pre.getLast?.map (fun k => ad (100 + k))))), (0, .ref (ad 0)), (1, .int (nI t)), (2, .ref (ad (100 + zE z)))] → W p l e (headSpec wX1_place { frames := 0, cells := 0, slots := 0, locals := 0 }).room s m [.ref (ad 0), .int (nI t), .ref (ad (100 + zE z))].toArray below meth c H locs 0 0 Q (F0 m 41 ls []) := by
    intro pre suf hsp hpa H locs hP hS ls hl
    refine lv_aload_n hx hb dX1_place_41 rfl (lv_at hl 4 rfl) ?_
    refine mv_aload hx hb dX1_place_42 (lv_at hl 0 rfl) ?_
    refine mh_putN (ci := 0) (v := (va_rf (suf.head?.map (fun k => ad (100 + k))))) (ty := (.object "CleanMatrix$Event")) hx hb hts wfX0 tyX0 tyX0_ok nmX0 hown hK.1 hP hS (100 + zE z) (va_up_self _ _ _) rfl 4 (by decide) (va_Nw.use rfl hK.2.1.2.2.2.2) (fun _ h9 => h9) rfl (by decide +kernel) nar_rf fit_rf (Nat.le_of_ble_eq_true rfl) dX1_place_44 (fun H locs hP hS => ?_)
    rw [bx_uu] at hP
    have hP : mh D vwCl lo ad (va_up (zC cy ad z F) (100 + zE z) (some (zVc ad (wB (kk, lv, j, la, none) suf.head?)))) H := hP
    cases hgl : pre.getLast? with
    | none =>
      rw [hgl] at hl
      have hl : lv_has ls 5 [(4, (va_rf (suf.head?.map (fun k => ad (100 + k))))), (3, .null), (0, .ref (ad 0)), (1, .int (nI t)), (2, .ref (ad (100 + zE z)))] := hl
      refine lv_aload_nN hx hb dX1_place_47 rfl (lv_at hl 1 rfl) ?_
      refine lv_ifnonnullN hx hb dX1_place_48 ?_
      refine lv_aload_n hx hb dX1_place_51 rfl (lv_at hl 2 rfl) ?_
      refine mh_get (ci := 1) (v := .ref (ad 6)) hx hb hts wfX1 hown hK.1 hP 0 (va_up_ne _ _ (by omega)) rfl 7 (by decide) (hts _ flX1_15) (fun _ h9 => h9) rfl dX1_place_52 ?_
      refine lv_iload_n hx hb dX1_place_55 rfl (lv_at hl 3 rfl) ?_
      refine lv_aload_n hx hb dX1_place_56 rfl (lv_at hl 4 rfl) ?_
      refine mh_asqn (i := t) hx hb hK.1 hP hS 6 4 (100 + zE z) 0 (va_up_ne _ _ (by omega)) rfl (va_up_self _ _ _) rfl (by omega) (by decide) dX1_place_57 (fun H locs hP hS => ?_)
      refine lv_goto (tgt := 66) hx hb dX1_place_58 (by decide) ?_
      refine lv_aload_n hx hb dX1_place_66 rfl (lv_at hl 2 rfl) ?_
      refine lv_dup hx hb dX1_place_67 rfl ?_
      refine mh_get (ci := 1) (v := .int (nI (zE z))) hx hb hts wfX1 hown hK.1 hP 0 ((va_up_ne _ _ (by decide)).trans (va_up_ne _ _ (by omega))) rfl 9 (by decide) (hts _ flX1_23) (fun _ h9 => h9) rfl dX1_place_68 ?_
      refine lv_iconst (v := 1) hx hb dX1_place_71 (by decide) ?_
      refine lv_iadd hx hb dX1_place_72 ?_
      rw [nI_1]
      refine mh_put (ci := 1) (v := .int (nI (zE z + 1))) (ty := .int) hx hb hts wfX1 tyX1 tyX1_ok nmX1 hown hK.1 hP hS 0 ((va_up_ne _ _ (by decide)).trans (va_up_ne _ _ (by omega))) rfl 9 (by decide) (hts _ flX1_23) (fun _ h9 => h9) rfl (by decide +kernel) rfl rfl (Nat.le_of_ble_eq_true rfl) dX1_place_73 (fun H locs hP hS => ?_)
      rw [hQ]
      exact W.vret hx hb hr (fun t9 ht9 _ => ⟨⟨(ad, zC cy ad (zIns z t (kk, lv, j, la, none) pre suf) F), rfl, ⟨pre, suf, hsp, rfl⟩, mh_hp ht9 (mh_eq hP (fun r => by
        unfold zIns
        rw [hgl]
        show zC cy ad (uLt (uE (uVs z (zE z) (wB (kk, lv, j, la, none) suf.head?)) (zE z + 1)) t (zE z)) F r = _
        rw [zC_uLt (z := uE (uVs z (zE z) (wB (kk, lv, j, la, none) suf.head?)) (zE z + 1)), show zC cy ad (uE (uVs z (zE z) (wB (kk, lv, j, la, none) suf.head?)) (zE z + 1)) F = _ from funext (zC_add hK20), va_up_comm (show 0 ≠ 6 by decide)]
        rfl))⟩, hS.F ht9⟩) hS.2.2 dX1_place_76
    | some a =>
      rw [hgl] at hl
      have haE := hpa a hgl
      have hl : lv_has ls 5 [(4, (va_rf (suf.head?.map (fun k => ad (100 + k))))), (3, .ref (ad (100 + a))), (0, .ref (ad 0)), (1, .int (nI t)), (2, .ref (ad (100 + zE z)))] := hl
      refine lv_aload_n hx hb dX1_place_47 rfl (lv_at hl 1 rfl) ?_
      refine lv_ifnonnull (tgt := 61) hx hb dX1_place_48 (by decide) ?_
      refine lv_aload_n hx hb dX1_place_61 rfl (lv_at hl 1 rfl) ?_
      refine lv_aload_n hx hb dX1_place_62 rfl (lv_at hl 4 rfl) ?_
      refine mh_putN (ci := 0) (v := .ref (ad (100 + zE z))) (ty := (.object "CleanMatrix$Event")) hx hb hts wfX0 tyX0 tyX0_ok nmX0 hown hK.1 hP hS (100 + a) ((va_up_ne _ _ (by omega)).trans (zC_ev a hK20 haE)) rfl 4 (by decide) (va_Nw.use rfl hK.2.1.2.2.2.2) (fun _ h9 => h9) rfl (by decide +kernel) rfl rfl (Nat.le_of_ble_eq_true rfl) dX1_place_63 (fun H locs hP hS => ?_)
      have hP : mh D vwCl lo ad (va_up (va_up (zC cy ad z F) (100 + zE z) (some (zVc ad (wB (kk, lv, j, la, none) suf.head?)))) (100 + a) (some (zVc ad (wB (zVs z a) (some (zE z)))))) H := hP
      refine lv_aload_n hx hb dX1_place_66 rfl (lv_at hl 2 rfl) ?_
      refine lv_dup hx hb dX1_place_67 rfl ?_
      refine mh_get (ci := 1) (v := .int (nI (zE z))) hx hb hts wfX1 hown hK.1 hP 0 ((va_up_ne _ _ (by omega)).trans (va_up_ne _ _ (by omega))) rfl 9 (by decide) (hts _ flX1_23) (fun _ h9 => h9) rfl dX1_place_68 ?_
      refine lv_iconst (v := 1) hx hb dX1_place_71 (by decide) ?_
      refine lv_iadd hx hb dX1_place_72 ?_
      rw [nI_1]
      refine mh_put (ci := 1) (v := .int (nI (zE z + 1))) (ty := .int) hx hb hts wfX1 tyX1 tyX1_ok nmX1 hown hK.1 hP hS 0 ((va_up_ne _ _ (by omega)).trans (va_up_ne _ _ (by omega))) rfl 9 (by decide) (hts _ flX1_23) (fun _ h9 => h9) rfl (by decide +kernel) rfl rfl (Nat.le_of_ble_eq_true rfl) dX1_place_73 (fun H locs hP hS => ?_)
      rw [hQ]
      exact W.vret hx hb hr (fun t9 ht9 _ => ⟨⟨(ad, zC cy ad (zIns z t (kk, lv, j, la, none) pre suf) F), rfl, ⟨pre, suf, hsp, rfl⟩, mh_hp ht9 (mh_eq hP (fun r => by
        unfold zIns
        rw [hgl]
        show zC cy ad (uVs (uE (uVs z (zE z) (wB (kk, lv, j, la, none) suf.head?)) (zE z + 1)) a (wB (zVs z a) (some (zE z)))) F r = _
        rw [zC_uVs (z := uE (uVs z (zE z) (wB (kk, lv, j, la, none) suf.head?)) (zE z + 1)) hK20 (Nat.lt_succ_of_lt haE), show zC cy ad (uE (uVs z (zE z) (wB (kk, lv, j, la, none) suf.head?)) (zE z + 1)) F = _ from funext (zC_add hK20), va_up_comm (show 0 ≠ 100 + a by omega)]
        rfl))⟩, hS.F ht9⟩) hS.2.2 dX1_place_76
  have loop : ∀ (ks : List Nat) (o : Option Nat) (pre : List Nat), lnk z o ks → ch t = pre ++ ks → (∀ k ∈ pre, j < eh (zVs z k) ∧ k < zE z) → ∀ (H : Heap) (locs : List Loc), mh D vwCl lo ad (va_up (zC cy ad z F) (100 + zE z) (some (zVc ad (kk, lv, j, la, none)))) H → va_S (fun q => lo ≤ q) s.heap H locs → ∀ (ls : Array Slot), lv_has ls 5 [(4, (va_rf (o.map (fun k => ad (100 + k))))), (3, (va_rf (pre.getLast?.map (fun k => ad (100 + k))))), (0, .ref (ad 0)), (1, .int (nI t)), (2, .ref (ad (100 + zE z)))] → W p l e (headSpec wX1_place { frames := 0, cells := 0, slots := 0, locals := 0 }).room s m [.ref (ad 0), .int (nI t), .ref (ad (100 + zE z))].toArray below meth c H locs 0 0 Q (F0 m 10 ls []) := by
    intro ks
    induction ks with
    | nil =>
      intro o pre ho hcp hpre H locs hP hS ls hl
      have ho : o = none := ho
      subst ho
      have hl : lv_has ls 5 [(4, .null), (3, (va_rf (pre.getLast?.map (fun k => ad (100 + k))))), (0, .ref (ad 0)), (1, .int (nI t)), (2, .ref (ad (100 + zE z)))] := hl
      refine lv_aloadN hx hb dX1_place_10 (lv_at hl 0 rfl) ?_
      refine lv_ifnullN (tgt := 41) hx hb dX1_place_12 (by decide) ?_
      exact tail pre [] ⟨hcp, fun k hk => (hpre k hk).1, fun _ _ q => by cases q⟩ (fun a ha => (hpre a (List.mem_of_getLast? ha)).2) H locs hP hS ls hl
    | cons k ks ih =>
      intro o pre ho hcp hpre H locs hP hS ls hl
      obtain ⟨rfl, hk, hnx⟩ := ho
      obtain ⟨hv1, hv2, hv3, hv4⟩ := hev k hk
      have hl : lv_has ls 5 [(4, .ref (ad (100 + k))), (3, (va_rf (pre.getLast?.map (fun k => ad (100 + k))))), (0, .ref (ad 0)), (1, .int (nI t)), (2, .ref (ad (100 + zE z)))] := hl
      refine lv_aload hx hb dX1_place_10 (lv_at hl 0 rfl) ?_
      refine lv_ifnull hx hb dX1_place_12 ?_
      refine lv_aload hx hb dX1_place_15 (lv_at hl 0 rfl) ?_
      refine mh_getN (ci := 0) (v := .long (lN (eh (zVs z k)))) hx hb hts wfX0 hown hK.1 hP (100 + k) ((va_up_ne _ _ (by omega)).trans (zC_ev k hK20 hk)) rfl 2 (by decide) (va_Nw.use rfl hK.2.1.2.2.1) (fun _ h9 => h9) rfl dX1_place_17 ?_
      refine lv_aload_n hx hb dX1_place_20 rfl (lv_at hl 4 rfl) ?_
      refine mh_getN (ci := 0) (v := .long (lN j)) hx hb hts wfX0 hown hK.1 hP (100 + zE z) (va_up_self _ _ _) rfl 2 (by decide) (va_Nw.use rfl hK.2.1.2.2.1) (fun _ h9 => h9) rfl dX1_place_21 ?_
      refine W.lcmp hx hb dX1_place_24 ?_
      refine lv_if_le (tgt := 41) hx hb dX1_place_25 (by decide) (fun c25 => ?_) (fun c25 => ?_)
      · skip
        have hle : eh (zVs z k) ≤ j := (lN_le (by omega) (by omega)).mp ((lg_cmp_le _ _).mp c25)
        exact tail pre (k :: ks) ⟨hcp, fun k hk => (hpre k hk).1, fun _ _ q => by cases q; exact hle⟩ (fun a ha => (hpre a (List.mem_of_getLast? ha)).2) H locs hP hS ls hl
      · skip
        have hgt : j < eh (zVs z k) := Nat.lt_of_not_le (fun q => c25 ((lg_cmp_le _ _).mpr ((lN_le (by omega) (by omega)).mpr q)))
        refine lv_aload hx hb dX1_place_28 (lv_at hl 0 rfl) ?_
        refine lv_astore_n (lv' := [(3, .ref (ad (100 + k))), (4, .ref (ad (100 + k))), (0, .ref (ad 0)), (1, .int (nI t)), (2, .ref (ad (100 + zE z)))]) hx hb dX1_place_30 rfl hl (by decide) rfl (fun ls hl => ?_)
        refine lv_aload hx hb dX1_place_31 (lv_at hl 1 rfl) ?_
        refine mh_getN (ci := 0) (v := (va_rf ((eb (zVs z k)).map (fun k => ad (100 + k))))) hx hb hts wfX0 hown hK.1 hP (100 + k) ((va_up_ne _ _ (by omega)).trans (zC_ev k hK20 hk)) rfl 4 (by decide) (va_Nw.use rfl hK.2.1.2.2.2.2) (fun _ h9 => h9) rfl dX1_place_33 ?_
        refine mv_astore (lv' := [(4, (va_rf ((eb (zVs z k)).map (fun k => ad (100 + k))))), (3, .ref (ad (100 + k))), (0, .ref (ad 0)), (1, .int (nI t)), (2, .ref (ad (100 + zE z)))]) hx hb dX1_place_36 hl (by decide) rfl (fun ls hl => ?_)
        refine lv_goto (tgt := 10) hx hb dX1_place_38 (by decide) ?_
        exact ih _ (pre ++ [k]) hnx (by rw [hcp, List.append_assoc]; rfl) (fun k1 hk1 => by
          rcases List.mem_append.mp hk1 with q | q
          · exact hpre k1 q
          · rw [List.mem_singleton.mp q]
            exact ⟨hgt, hk⟩) H locs hP hS ls (by
          rw [List.getLast?_append]
          exact (lv_sub hl [0, 1, 2, 3, 4] rfl))
  refine lv_null hx hb dX1_place_0 ?_
  refine lv_astore_nN (lv' := [(3, .null), (0, .ref (ad 0)), (1, .int (nI t)), (2, .ref (ad (100 + zE z)))]) hx hb dX1_place_1 rfl hl (by decide) rfl (fun ls hl => ?_)
  refine lv_aload_n hx hb dX1_place_2 rfl (lv_at hl 1 rfl) ?_
  refine mh_get (ci := 1) (v := .ref (ad 6)) hx hb hts wfX1 hown hK.1 hP 0 (va_up_ne _ _ (by omega)) rfl 7 (by decide) (hts _ flX1_15) (fun _ h9 => h9) rfl dX1_place_3 ?_
  refine lv_iload_n hx hb dX1_place_6 rfl (lv_at hl 2 rfl) ?_
  refine mh_aqn (i := t) (v := (va_rf ((zLt z t).map (fun k => ad (100 + k))))) hx hb hK.1 hP 6 4 (va_up_ne _ _ (by omega)) rfl (by omega) (by decide) dX1_place_7 rfl ?_
  refine mv_astore (lv' := [(4, (va_rf ((zLt z t).map (fun k => ad (100 + k))))), (3, .null), (0, .ref (ad 0)), (1, .int (nI t)), (2, .ref (ad (100 + zE z)))]) hx hb dX1_place_8 hl (by decide) rfl (fun ls hl => ?_)
  exact loop (ch t) (zLt z t) [] (hch t ht) rfl (fun k hk => absurd hk List.not_mem_nil) s.heap [] hP hS ls hl
