section MHA
variable {p : Program} {l : Launch} {e : Env} {R : Room} {s : State} {m : MethodId} {args : Array Value} {below : List Frame} {meth : Method} {c : Code} {H : Heap} {locs : List Loc} {cells slots : Nat} {Q : State → Prop}
variable {cc : ByteArray} {pc : Nat} {ls : Array Slot} {rest : List Value} {D : va_G} {cl : List vw_C} {lo a : Nat} {ad : Nat → Nat} {C : Nat → Option va_E} {tys : List (ClassId × FieldType)} {H0 : Heap}
theorem mh_geta (hexec : p.tables.exec = Jvm.exec) (hb : c.code = cc) {own ref Cn : String} {T : u_T} {N ci index : Nat} {Ts : List Cond} (hts : ∀ w ∈ Ts, w.before args s = true) (hin : ∀ w ∈ u_ws Cn T N, w ∈ Ts) (hown : s.vm.findClass own = some m.cls) (hK : va_K D cl tys s) (hP : mh D cl lo ad C H) (r : Nat) (ha : ad r = a) {fs : List Value} (he : C r = some (.inr (ci, fs))) (hc : cl[ci]? = some (Cn, T, N)) (k : Nat) (hk : k < N) (hlink : (Cond.fieldLink own index ref (T k).2.1 (T k).2.2.1).before args s = true) (hsame : ∀ x, s.fieldFound? (T k).1 (T k).2.1 (T k).2.2.1 = some x → s.fieldFound? ref (T k).2.1 (T k).2.2.1 = some x) {v : Value} (hv : fs[k]? = some v) (hdg : decode cc pc = .ok (.getfield index, 3))
    (kk : W p l e R s m args below meth c H locs cells slots Q (F0 m (pc + 3) ls (v :: rest))) : W p l e R s m args below meth c H locs cells slots Q (F0 m pc ls (.ref a :: rest)) := by
  subst ha
  exact mh_get hexec hb hts hin hown hK hP r he hc k hk hlink hsame hv hdg kk
theorem mh_puta (hexec : p.tables.exec = Jvm.exec) (hb : c.code = cc) {own ref Cn : String} {T : u_T} {N ci index : Nat} {Ts : List Cond} (hts : ∀ w ∈ Ts, w.before args s = true) (hin : ∀ w ∈ u_ws Cn T N, w ∈ Ts) (ty0 : Nat → FieldType) (hty : ∀ k, k < N → parseFieldDescriptor (T k).2.2.1 = some (ty0 k)) (hnm : ∀ a, a < N → ∀ b, b < N → a ≠ b → (T a).2.1 ≠ (T b).2.1) (hown : s.vm.findClass own = some m.cls) (hK : va_K D cl tys s) {r : Nat} {Dp : Nat → Option va_E} {fs : List Value} (hP : mh D cl lo ad (va_up Dp r (some (.inr (ci, fs)))) H) (hS0 : va_S (fun q => lo ≤ q) H0 H locs) (ha : ad r = a) (hc : cl[ci]? = some (Cn, T, N)) (k : Nat) (hk : k < N) (hlink : (Cond.fieldLink own index ref (T k).2.1 (T k).2.2.1).before args s = true) (hsame : ∀ x, s.fieldFound? (T k).1 (T k).2.1 (T k).2.2.1 = some x → s.fieldFound? ref (T k).2.1 (T k).2.2.1 = some x) (hfin : (T k).2.2.2 = false) {ty : FieldType} {v : Value} (hd : parseFieldDescriptor (T k).2.2.1 = some ty) (hn : narrow ty v = v) (hfit : fits ty v = true) (hl : k < fs.length) {fs' : List Value} (hfs : fs.set k v = fs')
    (hdg : decode cc pc = .ok (.putfield index, 3)) (kk : ∀ (H1 : Heap) (locs1 : List Loc), mh D cl lo ad (va_up Dp r (some (.inr (ci, fs')))) H1 → va_S (fun q => lo ≤ q) H0 H1 locs1 → W p l e R s m args below meth c H1 locs1 cells slots Q (F0 m (pc + 3) ls rest)) : W p l e R s m args below meth c H locs cells slots Q (F0 m pc ls (v :: .ref a :: rest)) := by
  subst ha hfs
  exact mh_put hexec hb hts hin ty0 hty hnm hown hK hP hS0 r (va_up_self _ _ _) hc k hk hlink hsame hfin hd hn hfit hl hdg (fun H1 locs1 hP1 hS1 => kk H1 locs1 (by rw [bx_uu] at hP1; exact hP1) hS1)
theorem mh_putFa (hexec : p.tables.exec = Jvm.exec) (hb : c.code = cc) {own ref Cn : String} {T : u_T} {N ci index : Nat} {Ts : List Cond} (hts : ∀ w ∈ Ts, w.before args s = true) (hin : ∀ w ∈ u_ws Cn T N, w ∈ Ts) (ty0 : Nat → FieldType) (hty : ∀ k, k < N → parseFieldDescriptor (T k).2.2.1 = some (ty0 k)) (hnm : ∀ a, a < N → ∀ b, b < N → a ≠ b → (T a).2.1 ≠ (T b).2.1) (hown : s.vm.findClass own = some m.cls) (hK : va_K D cl tys s) {r : Nat} {Dp : Nat → Option va_E} {fs : List Value} (hP : mh D cl lo ad (va_up Dp r (some (.inr (ci, fs)))) H) (hS0 : va_S (fun q => lo ≤ q) H0 H locs) (ha : ad r = a) (hc : cl[ci]? = some (Cn, T, N)) (k : Nat) (hk : k < N) (hlink : (Cond.fieldLink own index ref (T k).2.1 (T k).2.2.1).before args s = true) (hsame : ∀ x, s.fieldFound? (T k).1 (T k).2.1 (T k).2.2.1 = some x → s.fieldFound? ref (T k).2.1 (T k).2.2.1 = some x) (hfin : (T k).2.2.2 = true) (hin2 : meth.name = "<init>") (hdecl : (T k).1 = own) {ty : FieldType} {v : Value} (hd : parseFieldDescriptor (T k).2.2.1 = some ty) (hn : narrow ty v = v) (hfit : fits ty v = true) (hl : k < fs.length) {fs' : List Value} (hfs : fs.set k v = fs')
    (hdg : decode cc pc = .ok (.putfield index, 3)) (kk : ∀ (H1 : Heap) (locs1 : List Loc), mh D cl lo ad (va_up Dp r (some (.inr (ci, fs')))) H1 → va_S (fun q => lo ≤ q) H0 H1 locs1 → W p l e R s m args below meth c H1 locs1 cells slots Q (F0 m (pc + 3) ls rest)) : W p l e R s m args below meth c H locs cells slots Q (F0 m pc ls (v :: .ref a :: rest)) := by
  subst ha hfs
  exact mh_putF hexec hb hts hin ty0 hty hnm hown hK hP hS0 r (va_up_self _ _ _) hc k hk hlink hsame hfin hin2 hdecl hd hn hfit hl hdg (fun H1 locs1 hP1 hS1 => kk H1 locs1 (by rw [bx_uu] at hP1; exact hP1) hS1)
theorem mh_aana (hexec : p.tables.exec = Jvm.exec) (hb : c.code = cc) (hK : va_K D cl tys s) (hP : mh D cl lo ad C H) (r t0 : Nat) (har : ad r = a) {cA : ClassId} {ty : FieldType} {n : Nat} {f : Nat → Option Nat} (ha : C r = some (.inl (cA, n, .inr (.inr (.inr (.inr f)))))) (ht : tys[t0]? = some (cA, .array ty)) {i : Nat} (hi : i < n) (hn : n < 2 ^ 31) (hdg : decode cc pc = .ok (.aaload, 1)) {v : Value} (hv : va_rf (f i) = v)
    (kk : W p l e R s m args below meth c H locs cells slots Q (F0 m (pc + 1) ls (v :: rest))) : W p l e R s m args below meth c H locs cells slots Q (F0 m pc ls (.int (nI i) :: .ref a :: rest)) := by
  subst har
  exact mh_aan hexec hb hK hP r t0 ha ht hi hn hdg hv kk
end MHA
/-! The stages of CleanMatrix(): i.. the pictures without the object, a.. the addresses. -/
abbrev iA (cy : Nat → ClassId) (C : Nat → Option va_E) : Nat → Option va_E := va_up (va_up C 5 (some (.inl (cy 0, 32, .inl (fun _ => 0))))) 6 (some (.inl (cy 4, 32, .inr (.inr (.inr (.inr (fun _ => none)))))))
abbrev iB (cy : Nat → ClassId) (C : Nat → Option va_E) (K L i : Nat) (rr : Nat → Nat) : Nat → Option va_E := fun r => if 20 ≤ r ∧ r < 20 + K then some (.inl (cy 0, K, .inl (fun _ => if r - 20 < i then nI L else 0))) else if r = 1 then some (.inl (cy 3, K, .inr (.inr (.inr (.inr (fun i => if i < K then some (rr i) else none)))))) else iA cy C r
abbrev iC (cy : Nat → ClassId) (C : Nat → Option va_E) (K L : Nat) (rr : Nat → Nat) : Nat → Option va_E := va_up (iB cy C K L K rr) 2 (some (.inl (cy 0, K, .inl (fun _ => 0))))
abbrev iD (cy : Nat → ClassId) (C : Nat → Option va_E) (K L : Nat) (rr : Nat → Nat) (i : Nat) (r3 : Nat → Nat) : Nat → Option va_E := fun r => if 7 ≤ r ∧ r < 7 + 2 then some (.inl (cy 0, L + 1, .inl (fun _ => if r - 7 < i then 24 else 0))) else if r = 3 then some (.inl (cy 3, 2, .inr (.inr (.inr (.inr (fun i => if i < 2 then some (r3 i) else none)))))) else iC cy C K L rr r
abbrev iE (cy : Nat → ClassId) (C : Nat → Option va_E) (K L : Nat) (rr r3 : Nat → Nat) : Nat → Option va_E := va_up (iD cy C K L rr 2 r3) 4 (some (.inl (cy 1, L + 1, .inr (.inl (fun _ => 0)))))
abbrev aA (ad : Nat → Nat) (q5 q6 : Nat) : Nat → Nat := va_up (va_up ad 5 q5) 6 q6
abbrev aB (ad : Nat → Nat) (q5 q6 q1 K : Nat) (rr : Nat → Nat) : Nat → Nat := fun r => if 20 ≤ r ∧ r < 20 + K then rr (r - 20) else if r = 1 then q1 else aA ad q5 q6 r
abbrev aC (ad : Nat → Nat) (q5 q6 q1 K : Nat) (rr : Nat → Nat) (q2 : Nat) : Nat → Nat := va_up (aB ad q5 q6 q1 K rr) 2 q2
abbrev aD (ad : Nat → Nat) (q5 q6 q1 K : Nat) (rr : Nat → Nat) (q2 q3 : Nat) (r3 : Nat → Nat) : Nat → Nat := fun r => if 7 ≤ r ∧ r < 7 + 2 then r3 (r - 7) else if r = 3 then q3 else aC ad q5 q6 q1 K rr q2 r
abbrev aE (ad : Nat → Nat) (q5 q6 q1 K : Nat) (rr : Nat → Nat) (q2 q3 : Nat) (r3 : Nat → Nat) (q4 : Nat) : Nat → Nat := va_up (aD ad q5 q6 q1 K rr q2 q3 r3) 4 q4
theorem zI_fin {cy : Nat → ClassId} {ad : Nat → Nat} {C : Nat → Option va_E} {q5 q6 q1 K q2 q3 q4 L : Nat} {rr r3 : Nat → Nat} (hK : K ≤ 20) (r : Nat) (hr : zC cy (aE ad q5 q6 q1 K rr q2 q3 r3 q4) (z0 K L) (fun r => if r < 1000 then none else C r) r ≠ none) : zC cy (aE ad q5 q6 q1 K rr q2 q3 r3 q4) (z0 K L) (fun r => if r < 1000 then none else C r) r = va_up (iE cy C K L rr r3) 0 (some (.inr (1, [.int (nI K), .int (nI L), .ref q1, .ref q2, .ref q3, .ref q4, .ref q5, .ref q6, .int 0, .int 0]))) r := by
  by_cases c0 : r = 0
  · subst c0
    rw [va_up_self]
    rfl
  rw [va_up_ne _ _ c0]
  by_cases c4 : r = 4
  · subst c4
    rfl
  by_cases c7 : 7 ≤ r ∧ r < 9
  · obtain ⟨a, ha, rfl⟩ : ∃ a, a < 2 ∧ r = 7 + a := ⟨r - 7, by omega, by omega⟩
    rw [zC_la (z := z0 K L) a ha]
    unfold iE
    rw [va_up_ne _ _ (by omega)]
    unfold iD
    rw [if_pos (by omega)]
    exact congrArg (fun f => some (Sum.inl (cy 0, L + 1, Sum.inl f))) (funext fun j => by rw [if_pos (by omega)]; rfl)
  by_cases c3 : r = 3
  · subst c3
    show some (Sum.inl (cy 3, 2, Sum.inr (Sum.inr (Sum.inr (Sum.inr (fun i => if i < 2 then some (aE ad q5 q6 q1 K rr q2 q3 r3 q4 (7 + i)) else none)))))) = some (Sum.inl (cy 3, 2, Sum.inr (Sum.inr (Sum.inr (Sum.inr (fun i => if i < 2 then some (r3 i) else none))))))
    refine congrArg (fun f => some (Sum.inl (cy 3, 2, Sum.inr (Sum.inr (Sum.inr (Sum.inr f)))))) (funext fun i => ?_)
    by_cases ci : i < 2
    · rw [if_pos ci, if_pos ci]
      show some (va_up (aD ad q5 q6 q1 K rr q2 q3 r3) 4 q4 (7 + i)) = _
      rw [va_up_ne _ _ (by omega)]
      unfold aD
      rw [if_pos (by omega), Nat.add_sub_cancel_left]
    · rw [if_neg ci, if_neg ci]
  by_cases c2 : r = 2
  · subst c2
    rfl
  by_cases c20 : 20 ≤ r ∧ r < 20 + K
  · obtain ⟨a, ha, rfl⟩ : ∃ a, a < K ∧ r = 20 + a := ⟨r - 20, by omega, by omega⟩
    rw [zC_nd (z := z0 K L) a ha]
    unfold iE
    rw [va_up_ne _ _ (by omega)]
    unfold iD
    rw [if_neg (by omega), if_neg (by omega)]
    unfold iC
    rw [va_up_ne _ _ (by omega)]
    unfold iB
    rw [if_pos (by omega)]
    exact congrArg (fun f => some (Sum.inl (cy 0, K, Sum.inl f))) (funext fun j => by rw [if_pos (by omega)]; rfl)
  by_cases c1 : r = 1
  · subst c1
    show some (Sum.inl (cy 3, K, Sum.inr (Sum.inr (Sum.inr (Sum.inr (fun i => if i < K then some (aE ad q5 q6 q1 K rr q2 q3 r3 q4 (20 + i)) else none)))))) = iB cy C K L K rr 1
    unfold iB
    rw [if_neg (by omega), if_pos rfl]
    refine congrArg (fun f => some (Sum.inl (cy 3, K, Sum.inr (Sum.inr (Sum.inr (Sum.inr f)))))) (funext fun i => ?_)
    by_cases ci : i < K
    · rw [if_pos ci, if_pos ci]
      show some (va_up (aD ad q5 q6 q1 K rr q2 q3 r3) 4 q4 (20 + i)) = _
      rw [va_up_ne _ _ (by omega)]
      unfold aD
      rw [if_neg (by omega), if_neg (by omega)]
      unfold aC
      rw [va_up_ne _ _ (by omega)]
      unfold aB
      rw [if_pos (by omega), Nat.add_sub_cancel_left]
    · rw [if_neg ci, if_neg ci]
  by_cases c6 : r = 6
  · subst c6
    rfl
  by_cases c5 : r = 5
  · subst c5
    rfl
  unfold iE
  rw [va_up_ne _ _ c4]
  unfold iD
  rw [if_neg (by omega), if_neg c3]
  unfold iC
  rw [va_up_ne _ _ c2]
  unfold iB
  rw [if_neg c20, if_neg c1]
  unfold iA
  rw [va_up_ne _ _ c6, va_up_ne _ _ c5]
  have e : zC cy (aE ad q5 q6 q1 K rr q2 q3 r3 q4) (z0 K L) (fun r => if r < 1000 then none else C r) r = (if r < 1000 then none else C r) := by
    unfold zC
    rw [if_neg c0, if_neg c1, if_neg c2, if_neg c3, if_neg c4, if_neg c5, if_neg c6, if_neg c7, if_neg (show ¬ (20 ≤ r ∧ r < 20 + zK (z0 K L)) from c20), if_neg (show ¬ (100 ≤ r ∧ r < 100 + zE (z0 K L)) from fun q => by have : r < 100 + 0 := q.2; omega)]
  rw [e] at hr ⊢
  by_cases c9 : r < 1000
  · rw [if_pos c9] at hr
    exact absurd rfl hr
  · rw [if_neg c9]
set_option maxHeartbeats 4000000 in
set_option maxRecDepth 100000 in
/-- CleanMatrix(kinds, levels) -/
theorem kX1_init (l : Launch) (D : va_G) (cy : Nat → ClassId) (lo : Nat) (ad : Nat → Nat) (C : Nat → Option va_E) (hC0 : C 0 = some (.inr (1, [.int 0, .int 0, .null, .null, .null, .null, .null, .null, .int 0, .int 0]))) (hCn : ∀ r, 0 < r → r < 1000 → C r = none) (kk kl : Int32) : Met l yX1_init wX1_init { frames := 1, cells := 28, slots := 536, locals := 30 } (pcs D cy lo ad C [.ref (ad 0), .int kk, .int kl]) (qwv D lo (fun u => u.2 = zC cy u.1 (z0 (clampN kk 20) (clampN kl 9)) (fun r => if r < 1000 then none else C r) ∧ u.1 0 = ad 0 ∧ (∀ r, 1000 ≤ r → u.1 r = ad r))) 28 536 (fun q => lo ≤ q) := by
  refine Met.ofW (cc := cX1_init) (maxL := 4) (ret := none) (by decide) rfl ?_
  intro p e s m args below meth c s₁ B hml hv
  obtain ⟨rfl, hz, hP, hK⟩ := hv
  have hx := B.exec
  have hb := B.bytes
  have hr := B.returns
  have hts : ∀ w ∈ wA, w.before [.ref (ad 0), .int kk, .int kl].toArray s = true := fun w h => atoms_spec (ws := wX1_init) B.pre w (List.mem_cons_of_mem _ h)
  have hown : s.vm.findClass RX1 = some m.cls := findClass_of_methodNamed B.named
  have hlocks := B.notSynchronized
  have hS : va_S (fun q => lo ≤ q) s.heap s.heap [] := va_S.rf
  have hl := lv_entry ([.ref (ad 0), .int kk, .int kl]) (n := 4) (Nat.le_of_ble_eq_true rfl)
  rw [lg_entry_eq]
  generalize (lg_sl ([.ref (ad 0), .int kk, .int kl]) ++ List.replicate (4 - (lg_sl ([.ref (ad 0), .int kk, .int kl])).length) Slot.unset).toArray = ls at hl ⊢
  have hl : lv_has ls 4 [(0, .ref (ad 0)), (1, .int kk), (2, .int kl)] := hl
  obtain ⟨Q, hQ⟩ : ∃ Q, Q = MQ below (qwv D lo (fun u => u.2 = zC cy u.1 (z0 (clampN kk 20) (clampN kl 9)) (fun r => if r < 1000 then none else C r) ∧ u.1 0 = ad 0 ∧ (∀ r, 1000 ≤ r → u.1 r = ad r))) [.ref (ad 0), .int kk, .int kl].toArray s 28 536 (fun q => lo ≤ q) := ⟨_, rfl⟩
  rw [← hQ]
  have hin : meth.name = "<init>" := (name_of_methodNamed B.named B.method).1
  obtain ⟨K, eK⟩ : ∃ K, K = clampN kk 20 := ⟨_, rfl⟩
  obtain ⟨L, eL⟩ : ∃ L, L = clampN kl 9 := ⟨_, rfl⟩
  have hK1 : 1 ≤ K ∧ K ≤ 20 := by rw [eK]; exact clampN_in (by decide) (by decide)
  have hL1 : 1 ≤ L ∧ L ≤ 9 := by rw [eL]; exact clampN_in (by decide) (by decide)
  have hKK : K * K ≤ 400 := Nat.mul_le_mul hK1.2 hK1.2
  rw [← eK, ← eL] at hQ
  have hP : mh D vwCl lo ad (va_up C 0 (some (.inr (1, [.int 0, .int 0, .null, .null, .null, .null, .null, .null, .int 0, .int 0])))) s.heap := mh_eq hP (fun r => by
    by_cases q : r = 0
    · rw [q, va_up_self, hC0]
    · rw [va_up_ne _ _ q])
  refine lv_aload_n hx hb dX1_init_0 rfl (lv_at hl 0 rfl) ?_
  refine W.objInit hx hb hown (hts _ mlX1_1) (hts _ imO_init) (hts _ cdO_init) rfl (by rw [hml]; exact hl.1) rfl dX1_init_1 (Nat.le_of_ble_eq_true rfl) (Nat.le_of_ble_eq_true rfl) ?_
  refine W.eq (g2 := F0 m 4 ls []) rfl ?_
  refine lv_aload_n hx hb dX1_init_4 rfl (lv_at hl 0 rfl) ?_
  refine lv_bipush (v := 32) hx hb dX1_init_5 (by decide) ?_
  refine mh_newa (atype := .int) (ty := .int) hx hb (hts _ ac_int) rfl hK.1 hP hS hz 5 0 ((va_up_ne _ _ (by decide)).trans (hCn 5 (by decide) (by decide))) rfl (fun h9 => h9) (fun _ h9 => h9) (N' := 32) (a0 := (32, .inl (fun _ => 0))) (fun cA => by rw [vp_cell_i]; rfl) (by decide) rfl (by decide) (Nat.le_of_ble_eq_true rfl) (Nat.le_of_ble_eq_true rfl) dX1_init_7 (fun q5 H hP hS => ?_)
  rw [va_up_comm (show 0 ≠ 5 by decide)] at hP
  have hP : mh D vwCl lo (va_up ad 5 q5) (va_up (va_up C 5 (some (.inl (cy 0, 32, .inl (fun _ => 0))))) 0 (some (.inr (1, [.int 0, .int 0, .null, .null, .null, .null, .null, .null, .int 0, .int 0])))) H := hP
  refine mh_putFa (r := 0) (ci := 1) (v := .ref q5) (ty := (.array .int)) (fs' := [.int 0, .int 0, .null, .null, .null, .null, .ref q5, .null, .int 0, .int 0]) hx hb hts wfX1 tyX1 tyX1_ok nmX1 hown hK.1 hP hS rfl rfl 6 (by decide) (hts _ flX1_9) (fun _ h9 => h9) rfl hin rfl (by decide +kernel) rfl rfl (Nat.le_of_ble_eq_true rfl) rfl dX1_init_9 (fun H locs hP hS => ?_)
  refine lv_aload_n hx hb dX1_init_12 rfl (lv_at hl 0 rfl) ?_
  refine lv_bipush (v := 32) hx hb dX1_init_13 (by decide) ?_
  refine mh_newq hx hb hown (hts _ clX1_13) hK.2.2.2.1 hK.1 hP hS hz 6 4 ((va_up_ne _ _ (by decide)).trans ((va_up_ne _ _ (by decide)).trans (hCn 6 (by decide) (by decide)))) rfl (N' := 32) (by decide) rfl (by decide) (Nat.le_of_ble_eq_true rfl) (Nat.le_of_ble_eq_true rfl) dX1_init_15 (fun q6 H hP hS => ?_)
  rw [va_up_comm (show 0 ≠ 6 by decide)] at hP
  have hP : mh D vwCl lo (aA ad q5 q6) (va_up (iA cy C) 0 (some (.inr (1, [.int 0, .int 0, .null, .null, .null, .null, .ref q5, .null, .int 0, .int 0])))) H := hP
  refine mh_putFa (r := 0) (ci := 1) (v := .ref q6) (ty := (.array (.object "CleanMatrix$Event"))) (fs' := [.int 0, .int 0, .null, .null, .null, .null, .ref q5, .ref q6, .int 0, .int 0]) hx hb hts wfX1 tyX1 tyX1_ok nmX1 hown hK.1 hP hS rfl rfl 7 (by decide) (hts _ flX1_15) (fun _ h9 => h9) rfl hin rfl (by decide +kernel) rfl rfl (Nat.le_of_ble_eq_true rfl) rfl dX1_init_18 (fun H locs hP hS => ?_)
  refine lv_aload_n hx hb dX1_init_21 rfl (lv_at hl 0 rfl) ?_
  refine lv_iconst (v := 0) hx hb dX1_init_22 (by decide) ?_
  refine mh_puta (r := 0) (ci := 1) (v := .int 0) (ty := .int) (fs' := [.int 0, .int 0, .null, .null, .null, .null, .ref q5, .ref q6, .int 0, .int 0]) hx hb hts wfX1 tyX1 tyX1_ok nmX1 hown hK.1 hP hS rfl rfl 8 (by decide) (hts _ flX1_19) (fun _ h9 => h9) rfl (by decide +kernel) rfl rfl (Nat.le_of_ble_eq_true rfl) rfl dX1_init_23 (fun H locs hP hS => ?_)
  refine lv_aload_n hx hb dX1_init_26 rfl (lv_at hl 0 rfl) ?_
  refine lv_iconst (v := 0) hx hb dX1_init_27 (by decide) ?_
  refine mh_puta (r := 0) (ci := 1) (v := .int 0) (ty := .int) (fs' := [.int 0, .int 0, .null, .null, .null, .null, .ref q5, .ref q6, .int 0, .int 0]) hx hb hts wfX1 tyX1 tyX1_ok nmX1 hown hK.1 hP hS rfl rfl 9 (by decide) (hts _ flX1_23) (fun _ h9 => h9) rfl (by decide +kernel) rfl rfl (Nat.le_of_ble_eq_true rfl) rfl dX1_init_28 (fun H locs hP hS => ?_)
  refine lv_aload_n hx hb dX1_init_31 rfl (lv_at hl 0 rfl) ?_
  refine lv_iload_n hx hb dX1_init_32 rfl (lv_at hl 1 rfl) ?_
  refine lv_iconst (v := 1) hx hb dX1_init_33 (by decide) ?_
  refine va_mmax hx hb (hml.trans hl.1.symm) hown (hts _ mlX1_26) (hts _ stJ9_max) (hts _ inJ9) (hts _ cdJ9_max) (Nat.le_of_ble_eq_true rfl) (Nat.le_of_ble_eq_true rfl) (Nat.le_of_ble_eq_true rfl) (Nat.le_of_ble_eq_true rfl) dX1_init_34 ?_
  refine lv_bipush (v := 20) hx hb dX1_init_37 (by decide) ?_
  refine va_mmin hx hb (hml.trans hl.1.symm) hown (hts _ mlX1_32) (hts _ stJ9_min) (hts _ inJ9) (hts _ cdJ9_min) (Nat.le_of_ble_eq_true rfl) (Nat.le_of_ble_eq_true rfl) (Nat.le_of_ble_eq_true rfl) (Nat.le_of_ble_eq_true rfl) dX1_init_39 ?_
  rw [show (if (20 : Int32) < (if kk < 1 then 1 else kk) then 20 else (if kk < 1 then 1 else kk)) = nI K by rw [eK]; exact clampN_mm (k := kk) (n := 20) (by decide) (by decide)]
  refine mh_putFa (r := 0) (ci := 1) (v := .int (nI K)) (ty := .int) (fs' := [.int (nI K), .int 0, .null, .null, .null, .null, .ref q5, .ref q6, .int 0, .int 0]) hx hb hts wfX1 tyX1 tyX1_ok nmX1 hown hK.1 hP hS rfl rfl 0 (by decide) (hts _ flX1_35) (fun _ h9 => h9) rfl hin rfl (by decide +kernel) rfl rfl (Nat.le_of_ble_eq_true rfl) rfl dX1_init_42 (fun H locs hP hS => ?_)
  refine lv_aload_n hx hb dX1_init_45 rfl (lv_at hl 0 rfl) ?_
  refine lv_iload_n hx hb dX1_init_46 rfl (lv_at hl 2 rfl) ?_
  refine lv_iconst (v := 1) hx hb dX1_init_47 (by decide) ?_
  refine va_mmax hx hb (hml.trans hl.1.symm) hown (hts _ mlX1_26) (hts _ stJ9_max) (hts _ inJ9) (hts _ cdJ9_max) (Nat.le_of_ble_eq_true rfl) (Nat.le_of_ble_eq_true rfl) (Nat.le_of_ble_eq_true rfl) (Nat.le_of_ble_eq_true rfl) dX1_init_48 ?_
  refine lv_bipush (v := 9) hx hb dX1_init_51 (by decide) ?_
  refine va_mmin hx hb (hml.trans hl.1.symm) hown (hts _ mlX1_32) (hts _ stJ9_min) (hts _ inJ9) (hts _ cdJ9_min) (Nat.le_of_ble_eq_true rfl) (Nat.le_of_ble_eq_true rfl) (Nat.le_of_ble_eq_true rfl) (Nat.le_of_ble_eq_true rfl) dX1_init_53 ?_
  rw [show (if (9 : Int32) < (if kl < 1 then 1 else kl) then 9 else (if kl < 1 then 1 else kl)) = nI L by rw [eL]; exact clampN_mm (k := kl) (n := 9) (by decide) (by decide)]
  refine mh_putFa (r := 0) (ci := 1) (v := .int (nI L)) (ty := .int) (fs' := [.int (nI K), .int (nI L), .null, .null, .null, .null, .ref q5, .ref q6, .int 0, .int 0]) hx hb hts wfX1 tyX1 tyX1_ok nmX1 hown hK.1 hP hS rfl rfl 1 (by decide) (hts _ flX1_38) (fun _ h9 => h9) rfl hin rfl (by decide +kernel) rfl rfl (Nat.le_of_ble_eq_true rfl) rfl dX1_init_56 (fun H locs hP hS => ?_)
  refine lv_aload_n hx hb dX1_init_59 rfl (lv_at hl 0 rfl) ?_
  refine lv_aload_n hx hb dX1_init_60 rfl (lv_at hl 0 rfl) ?_
  refine mh_geta (ci := 1) (v := .int (nI K)) hx hb hts wfX1 hown hK.1 hP 0 rfl (va_up_self _ _ _) rfl 0 (by decide) (hts _ flX1_35) (fun _ h9 => h9) rfl dX1_init_61 ?_
  refine lv_aload_n hx hb dX1_init_64 rfl (lv_at hl 0 rfl) ?_
  refine mh_geta (ci := 1) (v := .int (nI K)) hx hb hts wfX1 hown hK.1 hP 0 rfl (va_up_self _ _ _) rfl 0 (by decide) (hts _ flX1_35) (fun _ h9 => h9) rfl dX1_init_65 ?_
  refine mh_mna (N' := K) (K' := K) hx hb hown (hts _ clX1_41) hK.2.2.2.2 (hts _ ac_int) hK.1 hP hS hz 1 20 0 3 rfl rfl (by decide) (by omega) (by omega) (by show 0 + 1 + 1 + (1 + K) ≤ 28; omega) (by show 0 + 32 + 32 + (K + K * K) ≤ 536; omega) dX1_init_68 (fun q1 rr H hP hS => ?_)
  have hP : mh D vwCl lo (aB ad q5 q6 q1 K rr) (va_up (iB cy C K L 0 rr) 0 (some (.inr (1, [.int (nI K), .int (nI L), .null, .null, .null, .null, .ref q5, .ref q6, .int 0, .int 0])))) H := mh_eq hP (fun r => by
    by_cases c0 : r = 0
    · subst c0
      rw [va_up_self]
      rfl
    · rw [va_up_ne _ _ c0]
      unfold iB
      by_cases c1 : 20 ≤ r ∧ r < 20 + K
      · rw [if_pos c1, if_pos c1]
        exact congrArg (fun f => some (Sum.inl (cy 0, K, Sum.inl f))) (funext fun j => if_neg (by omega))
      · rw [if_neg c1, if_neg c1]
        by_cases c2 : r = 1
        · rw [if_pos c2, if_pos c2]
        · rw [if_neg c2, if_neg c2, va_up_ne _ _ c0])
  refine W.widen (k := 23) (n := 484) (by omega) (by omega) ?_
  refine mh_putFa (r := 0) (ci := 1) (v := .ref q1) (ty := (.array (.array .int))) (fs' := [.int (nI K), .int (nI L), .ref q1, .null, .null, .null, .ref q5, .ref q6, .int 0, .int 0]) hx hb hts wfX1 tyX1 tyX1_ok nmX1 hown hK.1 hP hS rfl rfl 2 (by decide) (hts _ flX1_43) (fun _ h9 => h9) rfl hin rfl (by decide +kernel) rfl rfl (Nat.le_of_ble_eq_true rfl) rfl dX1_init_72 (fun H locs hP hS => ?_)
  refine lv_iconst (v := 0) hx hb dX1_init_75 (by decide) ?_
  refine lv_istore_n (lv' := [(3, .int 0), (0, .ref (ad 0)), (1, .int kk), (2, .int kl)]) hx hb dX1_init_76 rfl hl (by decide) rfl (fun ls hl => ?_)
  have loop : ∀ (d i : Nat) (H : Heap) (locs : List Loc), i + d = K → mh D vwCl lo (aB ad q5 q6 q1 K rr) (va_up (iB cy C K L i rr) 0 (some (.inr (1, [.int (nI K), .int (nI L), .ref q1, .null, .null, .null, .ref q5, .ref q6, .int 0, .int 0])))) H → va_S (fun q => lo ≤ q) s.heap H locs → ∀ (ls : Array Slot), lv_has ls 4 [(3, .int (nI i)), (0, .ref (ad 0)), (1, .int kk), (2, .int kl)] → W p l e (headSpec wX1_init { frames := 1, cells := 28, slots := 536, locals := 30 }).room s m [.ref (ad 0), .int kk, .int kl].toArray below meth c H locs 23 484 Q (F0 m 77 ls []) := by
    intro d
    induction d with
    | zero =>
      intro i H locs hid hP hS ls hl
      have hiK : i = K := by omega
      subst hiK
      refine lv_iload_n hx hb dX1_init_77 rfl (lv_at hl 0 rfl) ?_
      refine lv_aload_n hx hb dX1_init_78 rfl (lv_at hl 1 rfl) ?_
      refine mh_geta (ci := 1) (v := .int (nI i)) hx hb hts wfX1 hown hK.1 hP 0 rfl (va_up_self _ _ _) rfl 0 (by decide) (hts _ flX1_35) (fun _ h9 => h9) rfl dX1_init_79 ?_
      refine lv_icmp_ge (tgt := 104) hx hb dX1_init_82 (by decide) (fun c82 => ?_) (fun c82 => ?_)
      · skip
        refine lv_aload_n hx hb dX1_init_104 rfl (lv_at hl 1 rfl) ?_
        refine lv_aload_n hx hb dX1_init_105 rfl (lv_at hl 1 rfl) ?_
        refine mh_geta (ci := 1) (v := .int (nI i)) hx hb hts wfX1 hown hK.1 hP 0 rfl (va_up_self _ _ _) rfl 0 (by decide) (hts _ flX1_35) (fun _ h9 => h9) rfl dX1_init_106 ?_
        refine mh_newa (atype := .int) (ty := .int) hx hb (hts _ ac_int) rfl hK.1 hP hS hz 2 0 ((va_up_ne _ _ (by decide)).trans ((if_neg (by omega)).trans ((if_neg (by decide)).trans ((va_up_ne _ _ (by decide)).trans ((va_up_ne _ _ (by decide)).trans (hCn 2 (by decide) (by decide))))))) rfl (fun h9 => h9) (fun _ h9 => h9) (N' := i) (a0 := (i, .inl (fun _ => 0))) (fun cA => by rw [vp_cell_i]; rfl) (nI_pos (by omega)) (nI_clamp (by omega)) (by show i * 4 ≤ _; omega) (by show 23 + 1 ≤ 28; omega) (by show 484 + i ≤ 536; omega) dX1_init_109 (fun q2 H hP hS => ?_)
        rw [va_up_comm (show 0 ≠ 2 by decide)] at hP
        have hP : mh D vwCl lo (aC ad q5 q6 q1 i rr q2) (va_up (iC cy C i L rr) 0 (some (.inr (1, [.int (nI i), .int (nI L), .ref q1, .null, .null, .null, .ref q5, .ref q6, .int 0, .int 0])))) H := hP
        refine W.widen (k := 24) (n := 504) (by omega) (by omega) ?_
        refine mh_putFa (r := 0) (ci := 1) (v := .ref q2) (ty := (.array .int)) (fs' := [.int (nI i), .int (nI L), .ref q1, .ref q2, .null, .null, .ref q5, .ref q6, .int 0, .int 0]) hx hb hts wfX1 tyX1 tyX1_ok nmX1 hown hK.1 hP hS rfl rfl 3 (by decide) (hts _ flX1_52) (fun _ h9 => h9) rfl hin rfl (by decide +kernel) rfl rfl (Nat.le_of_ble_eq_true rfl) rfl dX1_init_111 (fun H locs hP hS => ?_)
        refine lv_aload_n hx hb dX1_init_114 rfl (lv_at hl 1 rfl) ?_
        refine lv_iconst (v := 2) hx hb dX1_init_115 (by decide) ?_
        refine lv_aload_n hx hb dX1_init_116 rfl (lv_at hl 1 rfl) ?_
        refine mh_geta (ci := 1) (v := .int (nI L)) hx hb hts wfX1 hown hK.1 hP 0 rfl (va_up_self _ _ _) rfl 1 (by decide) (hts _ flX1_38) (fun _ h9 => h9) rfl dX1_init_117 ?_
        refine lv_iconst (v := 1) hx hb dX1_init_120 (by decide) ?_
        refine lv_iadd hx hb dX1_init_121 ?_
        rw [nI_1]
        refine mh_mna (N' := 2) (K' := (L + 1)) hx hb hown (hts _ clX1_41) hK.2.2.2.2 (hts _ ac_int) hK.1 hP hS hz 3 7 0 3 rfl rfl (by decide) (by omega) (by omega) (by show 24 + (1 + 2) ≤ 28; omega) (by show 504 + (2 + 2 * (L + 1)) ≤ 536; omega) dX1_init_122 (fun q3 r3 H hP hS => ?_)
        have hP : mh D vwCl lo (aD ad q5 q6 q1 i rr q2 q3 r3) (va_up (iD cy C i L rr 0 r3) 0 (some (.inr (1, [.int (nI i), .int (nI L), .ref q1, .ref q2, .null, .null, .ref q5, .ref q6, .int 0, .int 0])))) H := mh_eq hP (fun r => by
          by_cases c0 : r = 0
          · subst c0
            rw [va_up_self]
            rfl
          · rw [va_up_ne _ _ c0]
            unfold iD
            by_cases c1 : 7 ≤ r ∧ r < 7 + 2
            · rw [if_pos c1, if_pos c1]
              exact congrArg (fun f => some (Sum.inl (cy 0, (L + 1), Sum.inl f))) (funext fun j => if_neg (by omega))
            · rw [if_neg c1, if_neg c1]
              by_cases c2 : r = 3
              · rw [if_pos c2, if_pos c2]
              · rw [if_neg c2, if_neg c2, va_up_ne _ _ c0])
        refine W.widen (k := 27) (n := 526) (by omega) (by omega) ?_
        refine mh_putFa (r := 0) (ci := 1) (v := .ref q3) (ty := (.array (.array .int))) (fs' := [.int (nI i), .int (nI L), .ref q1, .ref q2, .ref q3, .null, .ref q5, .ref q6, .int 0, .int 0]) hx hb hts wfX1 tyX1 tyX1_ok nmX1 hown hK.1 hP hS rfl rfl 4 (by decide) (hts _ flX1_55) (fun _ h9 => h9) rfl hin rfl (by decide +kernel) rfl rfl (Nat.le_of_ble_eq_true rfl) rfl dX1_init_126 (fun H locs hP hS => ?_)
        refine lv_aload_n hx hb dX1_init_129 rfl (lv_at hl 1 rfl) ?_
        refine mh_geta (ci := 1) (v := .ref q3) hx hb hts wfX1 hown hK.1 hP 0 rfl (va_up_self _ _ _) rfl 4 (by decide) (hts _ flX1_55) (fun _ h9 => h9) rfl dX1_init_130 ?_
        refine lv_iconst (v := 0) hx hb dX1_init_133 (by decide) ?_
        refine mh_aana (i := 0) (v := .ref (r3 0)) hx hb hK.1 hP 3 3 rfl ((va_up_ne _ _ (by decide)).trans rfl) rfl (by decide) (by decide) dX1_init_134 rfl ?_
        refine lv_bipush (v := 24) hx hb dX1_init_135 (by decide) ?_
        refine W.eq (g2 := F0 m 137 ls [.int 24, .ref ((aD ad q5 q6 q1 i rr q2 q3 r3) (7 + 0))]) (by rw [show aD ad q5 q6 q1 i rr q2 q3 r3 (7 + 0) = r3 0 from rfl]) ?_
        refine rwSv (n := 2) (As := [.ref ((aD ad q5 q6 q1 i rr q2 q3 r3) (7 + 0)), .int 24]) (rest := []) ⟨hx, hb, hml, hown, hts⟩ (kJ7_fill l D cy lo (aD ad q5 q6 q1 i rr q2 q3 r3) _ (7 + 0) (L + 1) _ 24 ((va_up_ne _ _ (by decide)).trans rfl) (by omega)) mlX1_46 stJ7_fill inJ7 cdJ7_fill (by decide +kernel) rfl rfl ⟨(Nat.le_of_ble_eq_true rfl), (Nat.le_of_ble_eq_true rfl)⟩ hK hP (Nat.le_trans hz hS.1) hS rfl hl.1 rfl (Nat.le_of_ble_eq_true rfl) dX1_init_137 ⟨(Nat.le_of_ble_eq_true rfl), (Nat.le_of_ble_eq_true rfl)⟩ (fun u H locs hu hP _ hS => ?_)
        subst hu
        dsimp only at hP
        have hP : mh D vwCl lo (aD ad q5 q6 q1 i rr q2 q3 r3) (va_up (iD cy C i L rr 1 r3) 0 (some (.inr (1, [.int (nI i), .int (nI L), .ref q1, .ref q2, .ref q3, .null, .ref q5, .ref q6, .int 0, .int 0])))) H := mh_eq hP (fun r => by
          by_cases c0 : r = 0
          · subst c0
            rw [va_up_self, va_up_ne _ _ (by decide), va_up_self]
          · rw [va_up_ne _ _ c0]
            by_cases c9 : r = 7 + 0
            · subst c9
              rw [va_up_self]
              rfl
            · rw [va_up_ne _ _ c9, va_up_ne _ _ c0]
              unfold iD
              by_cases c1 : 7 ≤ r ∧ r < 7 + 2
              · rw [if_pos c1, if_pos c1]
                refine congrArg (fun f => some (Sum.inl (cy 0, L + 1, Sum.inl f))) (funext fun j => ?_)
                by_cases c2 : r - 7 < 0
                · rw [if_pos c2, if_pos (by omega)]
                · rw [if_neg c2, if_neg (by omega)]
              · rw [if_neg c1, if_neg c1])
        refine lv_aload_n hx hb dX1_init_140 rfl (lv_at hl 1 rfl) ?_
        refine mh_geta (ci := 1) (v := .ref q3) hx hb hts wfX1 hown hK.1 hP 0 rfl (va_up_self _ _ _) rfl 4 (by decide) (hts _ flX1_55) (fun _ h9 => h9) rfl dX1_init_141 ?_
        refine lv_iconst (v := 1) hx hb dX1_init_144 (by decide) ?_
        refine mh_aana (i := 1) (v := .ref (r3 1)) hx hb hK.1 hP 3 3 rfl ((va_up_ne _ _ (by decide)).trans rfl) rfl (by decide) (by decide) dX1_init_145 rfl ?_
        refine lv_bipush (v := 24) hx hb dX1_init_146 (by decide) ?_
        refine W.eq (g2 := F0 m 148 ls [.int 24, .ref ((aD ad q5 q6 q1 i rr q2 q3 r3) (7 + 1))]) (by rw [show aD ad q5 q6 q1 i rr q2 q3 r3 (7 + 1) = r3 1 from rfl]) ?_
        refine rwSv (n := 2) (As := [.ref ((aD ad q5 q6 q1 i rr q2 q3 r3) (7 + 1)), .int 24]) (rest := []) ⟨hx, hb, hml, hown, hts⟩ (kJ7_fill l D cy lo (aD ad q5 q6 q1 i rr q2 q3 r3) _ (7 + 1) (L + 1) _ 24 ((va_up_ne _ _ (by decide)).trans rfl) (by omega)) mlX1_46 stJ7_fill inJ7 cdJ7_fill (by decide +kernel) rfl rfl ⟨(Nat.le_of_ble_eq_true rfl), (Nat.le_of_ble_eq_true rfl)⟩ hK hP (Nat.le_trans hz hS.1) hS rfl hl.1 rfl (Nat.le_of_ble_eq_true rfl) dX1_init_148 ⟨(Nat.le_of_ble_eq_true rfl), (Nat.le_of_ble_eq_true rfl)⟩ (fun u H locs hu hP _ hS => ?_)
        subst hu
        dsimp only at hP
        have hP : mh D vwCl lo (aD ad q5 q6 q1 i rr q2 q3 r3) (va_up (iD cy C i L rr 2 r3) 0 (some (.inr (1, [.int (nI i), .int (nI L), .ref q1, .ref q2, .ref q3, .null, .ref q5, .ref q6, .int 0, .int 0])))) H := mh_eq hP (fun r => by
          by_cases c0 : r = 0
          · subst c0
            rw [va_up_self, va_up_ne _ _ (by decide), va_up_self]
          · rw [va_up_ne _ _ c0]
            by_cases c9 : r = 7 + 1
            · subst c9
              rw [va_up_self]
              rfl
            · rw [va_up_ne _ _ c9, va_up_ne _ _ c0]
              unfold iD
              by_cases c1 : 7 ≤ r ∧ r < 7 + 2
              · rw [if_pos c1, if_pos c1]
                refine congrArg (fun f => some (Sum.inl (cy 0, L + 1, Sum.inl f))) (funext fun j => ?_)
                by_cases c2 : r - 7 < 1
                · rw [if_pos c2, if_pos (by omega)]
                · rw [if_neg c2, if_neg (by omega)]
              · rw [if_neg c1, if_neg c1])
        refine lv_aload_n hx hb dX1_init_151 rfl (lv_at hl 1 rfl) ?_
        refine lv_aload_n hx hb dX1_init_152 rfl (lv_at hl 1 rfl) ?_
        refine mh_geta (ci := 1) (v := .int (nI L)) hx hb hts wfX1 hown hK.1 hP 0 rfl (va_up_self _ _ _) rfl 1 (by decide) (hts _ flX1_38) (fun _ h9 => h9) rfl dX1_init_153 ?_
        refine lv_iconst (v := 1) hx hb dX1_init_156 (by decide) ?_
        refine lv_iadd hx hb dX1_init_157 ?_
        rw [nI_1]
        refine mh_newa (atype := .long) (ty := .long) hx hb (hts _ ac_long) rfl hK.1 hP hS hz 4 1 ((va_up_ne _ _ (by decide)).trans ((if_neg (by decide)).trans ((if_neg (by decide)).trans ((va_up_ne _ _ (by decide)).trans ((if_neg (by omega)).trans ((if_neg (by decide)).trans ((va_up_ne _ _ (by decide)).trans ((va_up_ne _ _ (by decide)).trans (hCn 4 (by decide) (by decide)))))))))) rfl (fun h9 => h9) (fun _ h9 => h9) (N' := L + 1) (a0 := (L + 1, .inr (.inl (fun _ => 0)))) (fun cA => by rw [vp_cell_l]; rfl) (nI_pos (by omega)) (nI_clamp (by omega)) (by show (L + 1) * 8 ≤ _; omega) (by show 27 + 1 ≤ 28; omega) (by show 526 + (L + 1) ≤ 536; omega) dX1_init_158 (fun q4 H hP hS => ?_)
        rw [va_up_comm (show 0 ≠ 4 by decide)] at hP
        have hP : mh D vwCl lo (aE ad q5 q6 q1 i rr q2 q3 r3 q4) (va_up (iE cy C i L rr r3) 0 (some (.inr (1, [.int (nI i), .int (nI L), .ref q1, .ref q2, .ref q3, .null, .ref q5, .ref q6, .int 0, .int 0])))) H := hP
        refine W.widen (k := 28) (n := 536) (by omega) (by omega) ?_
        refine mh_putFa (r := 0) (ci := 1) (v := .ref q4) (ty := (.array .long)) (fs' := [.int (nI i), .int (nI L), .ref q1, .ref q2, .ref q3, .ref q4, .ref q5, .ref q6, .int 0, .int 0]) hx hb hts wfX1 tyX1 tyX1_ok nmX1 hown hK.1 hP hS rfl rfl 5 (by decide) (hts _ flX1_58) (fun _ h9 => h9) rfl hin rfl (by decide +kernel) rfl rfl (Nat.le_of_ble_eq_true rfl) rfl dX1_init_160 (fun H locs hP hS => ?_)
        rw [hQ]
        refine W.widen (k := 28) (n := 536) (by first | exact Nat.zero_le _ | omega) (by first | exact Nat.zero_le _ | omega) ?_
        exact W.vret hx hb hr (fun t9 ht9 _ => ⟨⟨(aE ad q5 q6 q1 i rr q2 q3 r3 q4, zC cy (aE ad q5 q6 q1 i rr q2 q3 r3 q4) (z0 i L) (fun r => if r < 1000 then none else C r)), rfl, ⟨rfl, rfl, fun r hr => by
          show va_up (aD ad q5 q6 q1 i rr q2 q3 r3) 4 q4 r = _
          rw [va_up_ne _ _ (by omega)]
          unfold aD
          rw [if_neg (by omega), if_neg (by omega)]
          unfold aC
          rw [va_up_ne _ _ (by omega)]
          unfold aB
          rw [if_neg (by omega), if_neg (by omega)]
          unfold aA
          rw [va_up_ne _ _ (by omega), va_up_ne _ _ (by omega)]⟩, mh_hp ht9 (mh_to hP (fun r _ => rfl) (zI_fin (by omega)))⟩, hS.F ht9⟩) hS.2.2 dX1_init_163
      · skip
        exact absurd (Int32.le_refl _) c82
    | succ d ih =>
      intro i H locs hid hP hS ls hl
      refine lv_iload_n hx hb dX1_init_77 rfl (lv_at hl 0 rfl) ?_
      refine lv_aload_n hx hb dX1_init_78 rfl (lv_at hl 1 rfl) ?_
      refine mh_geta (ci := 1) (v := .int (nI K)) hx hb hts wfX1 hown hK.1 hP 0 rfl (va_up_self _ _ _) rfl 0 (by decide) (hts _ flX1_35) (fun _ h9 => h9) rfl dX1_init_79 ?_
      refine lv_icmp_ge (tgt := 104) hx hb dX1_init_82 (by decide) (fun c82 => ?_) (fun c82 => ?_)
      · skip
        exact absurd c82 (nI_ge (by omega) (by omega))
      · skip
        refine lv_aload_n hx hb dX1_init_85 rfl (lv_at hl 1 rfl) ?_
        refine mh_geta (ci := 1) (v := .ref q1) hx hb hts wfX1 hown hK.1 hP 0 rfl (va_up_self _ _ _) rfl 2 (by decide) (hts _ flX1_43) (fun _ h9 => h9) rfl dX1_init_86 ?_
        refine lv_iload_n hx hb dX1_init_89 rfl (lv_at hl 0 rfl) ?_
        refine mh_aana (i := i) (v := .ref (rr i)) hx hb hK.1 hP 1 3 rfl ((va_up_ne _ _ (by decide)).trans rfl) rfl (show i < K by omega) (by omega) dX1_init_90 (congrArg va_rf (if_pos (by omega))) ?_
        refine lv_aload_n hx hb dX1_init_91 rfl (lv_at hl 1 rfl) ?_
        refine mh_geta (ci := 1) (v := .int (nI L)) hx hb hts wfX1 hown hK.1 hP 0 rfl (va_up_self _ _ _) rfl 1 (by decide) (hts _ flX1_38) (fun _ h9 => h9) rfl dX1_init_92 ?_
        refine W.eq (g2 := F0 m 95 ls [.int (nI L), .ref ((aB ad q5 q6 q1 K rr) (20 + i))]) (by rw [show aB ad q5 q6 q1 K rr (20 + i) = rr i from (if_pos (by omega)).trans (by rw [Nat.add_sub_cancel_left])]) ?_
        refine rwSv (n := 2) (As := [.ref ((aB ad q5 q6 q1 K rr) (20 + i)), .int (nI L)]) (rest := []) ⟨hx, hb, hml, hown, hts⟩ (kJ7_fill l D cy lo (aB ad q5 q6 q1 K rr) _ (20 + i) K _ (nI L) ((va_up_ne _ _ (by omega)).trans (if_pos (by omega))) (by omega)) mlX1_46 stJ7_fill inJ7 cdJ7_fill (by decide +kernel) rfl rfl ⟨(Nat.le_of_ble_eq_true rfl), (Nat.le_of_ble_eq_true rfl)⟩ hK hP (Nat.le_trans hz hS.1) hS rfl hl.1 rfl (Nat.le_of_ble_eq_true rfl) dX1_init_95 ⟨(Nat.le_of_ble_eq_true rfl), (Nat.le_of_ble_eq_true rfl)⟩ (fun u H locs hu hP _ hS => ?_)
        subst hu
        dsimp only at hP
        have hP : mh D vwCl lo (aB ad q5 q6 q1 K rr) (va_up (iB cy C K L (i + 1) rr) 0 (some (.inr (1, [.int (nI K), .int (nI L), .ref q1, .null, .null, .null, .ref q5, .ref q6, .int 0, .int 0])))) H := mh_eq hP (fun r => by
          by_cases c0 : r = 0
          · subst c0
            rw [va_up_self, va_up_ne _ _ (by omega), va_up_self]
          · rw [va_up_ne _ _ c0]
            by_cases c9 : r = 20 + i
            · subst c9
              rw [va_up_self]
              unfold iB
              rw [if_pos (by omega)]
              exact congrArg (fun f => some (Sum.inl (cy 0, K, Sum.inl f))) (funext fun j => if_pos (by omega))
            · rw [va_up_ne _ _ c9, va_up_ne _ _ c0]
              unfold iB
              by_cases c1 : 20 ≤ r ∧ r < 20 + K
              · rw [if_pos c1, if_pos c1]
                refine congrArg (fun f => some (Sum.inl (cy 0, K, Sum.inl f))) (funext fun j => ?_)
                by_cases c2 : r - 20 < i
                · rw [if_pos c2, if_pos (by omega)]
                · rw [if_neg c2, if_neg (by omega)]
              · rw [if_neg c1, if_neg c1])
        obtain ⟨y, ey⟩ : ∃ y : Int32, y = nI i + 1 := ⟨_, rfl⟩
        refine lv_iinc (v := y) (lv' := [(3, .int y), (0, .ref (ad 0)), (1, .int kk), (2, .int kl)]) hx hb dX1_init_98 hl (k := 0) rfl (by rw [ey]; rfl) (by decide) rfl (fun ls hl => ?_)
        refine lv_goto (tgt := 77) hx hb dX1_init_101 (by decide) ?_
        rw [nI_1] at ey
        subst ey
        exact ih (i + 1) H locs (by omega) hP hS ls (lv_sub hl [0, 1, 2, 3] rfl)
  exact loop K 0 H locs (Nat.zero_add _) hP hS ls (lv_sub hl [0, 1, 2, 3] rfl)
