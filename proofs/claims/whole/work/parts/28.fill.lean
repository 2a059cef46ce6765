def clampN (k : Int32) (n : Nat) : Nat := if k < 1 then 1 else if nI n < k then n else k.toNatClampNeg
theorem clampN_v {k : Int32} {n : Nat} (hn : n < 2 ^ 31) (h1 : ¬ k < 1) (h2 : ¬ nI n < k) : 1 ≤ k.toNatClampNeg ∧ k.toNatClampNeg ≤ n ∧ nI k.toNatClampNeg = k := by
  have e1 : (1 : Int32).toInt = 1 := by decide
  rw [Int32.lt_iff_toInt_lt, e1] at h1
  rw [Int32.lt_iff_toInt_lt, nI_toInt hn] at h2
  have e : k.toNatClampNeg = k.toInt.toNat := rfl
  have h3 : k.toNatClampNeg < 2 ^ 31 := by omega
  refine ⟨by omega, by omega, ?_⟩
  apply Int32.toInt_inj.mp
  rw [nI_toInt h3]
  omega
theorem clampN_in {k : Int32} {n : Nat} (h1 : 1 ≤ n) (hn : n < 2 ^ 31) : 1 ≤ clampN k n ∧ clampN k n ≤ n := by
  unfold clampN
  split
  · exact ⟨Nat.le_refl _, h1⟩
  · split
    · exact ⟨h1, Nat.le_refl _⟩
    · rename_i a b
      have := clampN_v hn a b
      exact ⟨this.1, this.2.1⟩
theorem clampN_1 {k : Int32} {n : Nat} (h : k < 1) : clampN k n = 1 := if_pos h
theorem clampN_2 {k : Int32} {n : Nat} (h1 : ¬ k < 1) (h : nI n < k) : clampN k n = n := (if_neg h1).trans (if_pos h)
theorem clampN_3 {k : Int32} {n : Nat} (hn : n < 2 ^ 31) (h1 : ¬ k < 1) (h : ¬ nI n < k) : nI (clampN k n) = k := by
  rw [show clampN k n = k.toNatClampNeg from (if_neg h1).trans (if_neg h)]
  exact (clampN_v hn h1 h).2.2
theorem clampN_mm {k : Int32} {n : Nat} (h1 : 1 ≤ n) (hn : n < 2 ^ 31) : (if nI n < (if k < 1 then 1 else k) then nI n else (if k < 1 then 1 else k)) = nI (clampN k n) := by
  by_cases c : k < 1
  · rw [if_pos c, clampN_1 c]
    have : ¬ nI n < (1 : Int32) := nI_nlt (a := n) (b := 1) h1 hn
    rw [if_neg this]
    rfl
  · rw [if_neg c]
    by_cases c2 : nI n < k
    · rw [if_pos c2, clampN_2 c c2]
    · rw [if_neg c2, clampN_3 hn c c2]
/-- the class's first state -/
def z0 (K L : Nat) : zS := ((K, L, 0, 0), (fun _ _ => L), (fun _ => 0), (fun _ _ => 24), (fun _ => 0), (fun _ => 0), (fun _ => none), (fun _ => (0, 0, 0, 0, none)))
set_option maxHeartbeats 4000000 in
set_option maxRecDepth 100000 in
/-- Arrays.fill -/
theorem kJ7_fill (l : Launch) (D : va_G) (cy : Nat → ClassId) (lo : Nat) (ad : Nat → Nat) (C : Nat → Option va_E) (r n : Nat) (f : Nat → Int32) (v : Int32) (hC : C r = some (.inl (cy 0, n, .inl f))) (hn : n < 1000) : Met l yJ7_fill wJ7_fill { frames := 0, cells := 0, slots := 0, locals := 0 } (pcs D cy lo ad C [.ref (ad r), .int v]) (qwv D lo (fun u => u = (ad, va_up C r (some (.inl (cy 0, n, .inl (fun _ => v))))))) 0 0 (fun q => lo ≤ q) := by
  refine Met.ofW (cc := cJ7_fill) (maxL := 4) (ret := none) (by decide) rfl ?_
  intro p e s m args below meth c s₁ B hml hv
  obtain ⟨rfl, hz, hP, hK⟩ := hv
  have hx := B.exec
  have hb := B.bytes
  have hr := B.returns
  have hts : ∀ w ∈ wA, w.before [.ref (ad r), .int v].toArray s = true := fun w h => atoms_spec (ws := wJ7_fill) B.pre w (List.mem_cons_of_mem _ h)
  have hown : s.vm.findClass RJ7 = some m.cls := findClass_of_methodNamed B.named
  have hlocks := B.notSynchronized
  have hS : va_S (fun q => lo ≤ q) s.heap s.heap [] := va_S.rf
  have hl := lv_entry ([.ref (ad r), .int v]) (n := 4) (Nat.le_of_ble_eq_true rfl)
  rw [lg_entry_eq]
  generalize (lg_sl ([.ref (ad r), .int v]) ++ List.replicate (4 - (lg_sl ([.ref (ad r), .int v])).length) Slot.unset).toArray = ls at hl ⊢
  have hl : lv_has ls 4 [(0, .ref (ad r)), (1, .int v)] := hl
  obtain ⟨Q, hQ⟩ : ∃ Q, Q = MQ below (qwv D lo (fun u => u = (ad, va_up C r (some (.inl (cy 0, n, .inl (fun _ => v))))))) [.ref (ad r), .int v].toArray s 0 0 (fun q => lo ≤ q) := ⟨_, rfl⟩
  rw [← hQ]
  have loop : ∀ (d i : Nat) (H : Heap) (locs : List Loc), i + d = n → mh D vwCl lo ad (va_up C r (some (.inl (cy 0, n, .inl (fun k => if k < i then v else f k))))) H → va_S (fun q => lo ≤ q) s.heap H locs → ∀ (ls : Array Slot), lv_has ls 4 [(2, .int (nI i)), (3, .int (nI n)), (0, .ref (ad r)), (1, .int v)] → W p l e (headSpec wJ7_fill { frames := 0, cells := 0, slots := 0, locals := 0 }).room s m [.ref (ad r), .int v].toArray below meth c H locs 0 0 Q (F0 m 5 ls []) := by
    intro d
    induction d with
    | zero =>
      intro i H locs hid hP hS ls hl
      refine lv_iload_n hx hb dJ7_fill_5 rfl (lv_at hl 0 rfl) ?_
      refine lv_iload_n hx hb dJ7_fill_6 rfl (lv_at hl 1 rfl) ?_
      refine lv_icmp_ge (tgt := 20) hx hb dJ7_fill_7 (by decide) (fun c7 => ?_) (fun c7 => ?_)
      · skip
        rw [hQ]
        exact W.vret hx hb hr (fun t9 ht9 _ => ⟨⟨(ad, va_up C r (some (.inl (cy 0, n, .inl (fun _ => v))))), rfl, rfl, mh_hp ht9 (mh_cong hP (fun k hk => if_pos (by omega)))⟩, hS.F ht9⟩) hS.2.2 dJ7_fill_20
      · skip
        exact absurd (nI_le (by omega) (by omega)) c7
    | succ d ih =>
      intro i H locs hid hP hS ls hl
      refine lv_iload_n hx hb dJ7_fill_5 rfl (lv_at hl 0 rfl) ?_
      refine lv_iload_n hx hb dJ7_fill_6 rfl (lv_at hl 1 rfl) ?_
      refine lv_icmp_ge (tgt := 20) hx hb dJ7_fill_7 (by decide) (fun c7 => ?_) (fun c7 => ?_)
      · skip
        exact absurd c7 (nI_ge (by omega) (by omega))
      · skip
        refine lv_aload_n hx hb dJ7_fill_10 rfl (lv_at hl 2 rfl) ?_
        refine lv_iload_n hx hb dJ7_fill_11 rfl (lv_at hl 0 rfl) ?_
        refine lv_iload_n hx hb dJ7_fill_12 rfl (lv_at hl 3 rfl) ?_
        refine mh_iasn (i := i) hx hb hK.1 hP hS r 0 (va_up_self _ _ _) rfl (by omega) (by omega) dJ7_fill_13 (fun H locs hP hS => ?_)
        rw [bx_uu] at hP
        have hP := mh_cong (g := fun k => if k < i + 1 then v else f k) hP (fun k hk => by
          show (if k = i then v else (if k < i then v else f k)) = _
          by_cases q : k = i
          · rw [if_pos q, if_pos (by omega)]
          · rw [if_neg q]
            by_cases q2 : k < i
            · rw [if_pos q2, if_pos (by omega)]
            · rw [if_neg q2, if_neg (by omega)])
        obtain ⟨y, ey⟩ : ∃ y : Int32, y = nI i + 1 := ⟨_, rfl⟩
        refine lv_iinc (v := y) (lv' := [(2, .int y), (3, .int (nI n)), (0, .ref (ad r)), (1, .int v)]) hx hb dJ7_fill_14 hl (k := 0) rfl (by rw [ey]; rfl) (by decide) rfl (fun ls hl => ?_)
        refine lv_goto (tgt := 5) hx hb dJ7_fill_17 (by decide) ?_
        rw [nI_1] at ey
        subst ey
        exact ih (i + 1) H locs (by omega) hP hS ls (lv_sub hl [0, 1, 2, 3] rfl)
  refine lv_iconst (v := 0) hx hb dJ7_fill_0 (by decide) ?_
  refine lv_istore_n (lv' := [(2, .int 0), (0, .ref (ad r)), (1, .int v)]) hx hb dJ7_fill_1 rfl hl (by decide) rfl (fun ls hl => ?_)
  refine lv_aload_n hx hb dJ7_fill_2 rfl (lv_at hl 1 rfl) ?_
  refine mh_alen (v := nI n) hx hb hK.1 hP r 0 hC rfl rfl dJ7_fill_3 ?_
  refine lv_istore_n (lv' := [(3, .int (nI n)), (2, .int 0), (0, .ref (ad r)), (1, .int v)]) hx hb dJ7_fill_4 rfl hl (by decide) rfl (fun ls hl => ?_)
  exact loop n 0 s.heap [] (Nat.zero_add _) (mh_eq hP (fun x => by
    by_cases q : x = r
    · rw [q, va_up_self, hC]
      rfl
    · rw [va_up_ne _ _ q])) hS ls (lv_sub hl [1, 0, 2, 3] rfl)
section RWS
variable {p : Program} {l : Launch} {e : Env} {R : Room} {s : State} {m : MethodId} {args : Array Value} {below : List Frame} {meth : Method} {c : Code} {H : Heap} {locs : List Loc} {cells slots : Nat} {Q : State → Prop}
variable {cc : ByteArray} {pc : Nat} {ls : Array Slot} {rest st0 As : List Value} {D : va_G} {cy : Nat → ClassId} {lo : Nat} {ad : Nat → Nat} {C : Nat → Option va_E} {own : String} {idx nL maxL n mc ms : Nat} {y : MethodName} {bytes : ByteArray} {ret : Option FieldType} {rm : Room} {H0 : Heap}
theorem rwSv {post : (Nat → Nat) × (Nat → Option va_E) → Prop} (S : CallFix p m c cc nL s args wA own) (hM : Met l y (Cond.code y bytes maxL ret :: wA) rm (pcs D cy lo ad C As) (qwv D lo post) mc ms (fun q => lo ≤ q))
    (h1 : Cond.methodLink own idx y ∈ wA) (h2 : Cond.static y ∈ wA) (h3 : Cond.initialized y.cls ∈ wA) (h5 : Cond.code y bytes maxL ret ∈ wA)
    (hd : y.cls ≠ "java/lang/invoke/MethodHandle" ∧ y.cls ≠ "java/lang/invoke/VarHandle" ∧ (parseMethodDescriptor y.desc).map (fun d => d.parameters.length) = some n) (hrc : rm.cells = mc) (hrs : rm.slots = ms) (hR : rm.frames + 1 ≤ R.frames ∧ 8 + (maxL + 11) + rm.locals ≤ R.locals)
    (hK : kn D cy s) (hP : mh D vwCl lo ad C H) (hz : lo ≤ H.size) (hS : va_S (fun q => lo ≤ q) H0 H locs)
    (hn : As.length = n) (hsize : ls.size = nL) (hst : st0 = As.reverse ++ rest) (hW : (rest.map fun v => v.category).sum ≤ 8) (hdg : decode cc pc = .ok (.invokestatic idx, 3)) (hf : cells + mc ≤ R.cells ∧ slots + ms ≤ R.slots)
    (kk : ∀ (u : (Nat → Nat) × (Nat → Option va_E)) (H1 : Heap) (locs1 : List Loc), post u → mh D vwCl lo u.1 u.2 H1 → H.size ≤ H1.size → va_S (fun q => lo ≤ q) H0 H1 locs1 → W p l e R s m args below meth c H1 locs1 (cells + mc) (slots + ms) Q (F0 m (pc + 3) ls rest)) : W p l e R s m args below meth c H locs cells slots Q (F0 m pc ls st0) :=
  va_callv (va_runS (g := F0 m pc ls st0) S hM (va_cwS n S.2.2.2.2 (gS h1 h2 h3 h5) rfl hrc hrs hd hR) (pcs_S hK hP hz) rfl hn hsize hst (lv_room hW) hdg hf) hS (fun _ _ h => h) (fun _ h => h) (fun u t H1 locs1 ht _ hw hB hz1 _ hS1 => kk u H1 locs1 hw (by rw [← ht]; exact hB) hz1 hS1)
end RWS
