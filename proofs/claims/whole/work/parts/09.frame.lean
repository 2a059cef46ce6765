/-! WHAT THE TABLES SAY, carried from method to method: the classes, the array classes (cy 0: int[], 1: long[], 2: boolean[], 3: int[][], 4: Event[]), the links between nest mates. -/
def kn (D : va_G) (cy : Nat → ClassId) (U : State) : Prop :=
  va_K D vwCl [(cy 0, .int), (cy 1, .long), (cy 2, .boolean), (cy 3, .array .int), (cy 4, .object RX0)] U ∧
  (va_Nw (.fieldLinkNest RX1 126 "CleanMatrix$Event" "kind" "I" "CleanMatrix") U ∧ va_Nw (.fieldLinkNest RX1 129 "CleanMatrix$Event" "level" "I" "CleanMatrix") U ∧ va_Nw (.fieldLinkNest RX1 107 "CleanMatrix$Event" "hour" "J" "CleanMatrix") U ∧ va_Nw (.fieldLinkNest RX1 111 "CleanMatrix$Event" "late" "Z" "CleanMatrix") U ∧ va_Nw (.fieldLinkNest RX1 115 "CleanMatrix$Event" "before" "LCleanMatrix$Event;" "CleanMatrix") U) ∧
  va_Nw (.methodLinkNest RX1 77 yX0_init "CleanMatrix") U ∧ va_AO RX0 U ∧ va_Nw (.arrayOver (.array .int)) U
theorem ao_moved {ty : FieldType} {s U : State} (hvm : s.vm.Alike U.vm) (h : va_Nw (.arrayOver ty) s) : va_Nw (.arrayOver ty) U := by
  have q : (Cond.arrayOver ty).before #[] (s.setVm U.vm) = true := by rw [Cond.arrayOver_setVmC hvm]; exact h
  exact q
theorem kn.warm {D : va_G} {cy : Nat → ClassId} {s U : State} (hW : s.WarmedH U.vm) (h : kn D cy s) : kn D cy U :=
  ⟨va_K.moved hW.alike h.1, ⟨va_Nw.warmF hW h.2.1.1, va_Nw.warmF hW h.2.1.2.1, va_Nw.warmF hW h.2.1.2.2.1, va_Nw.warmF hW h.2.1.2.2.2.1, va_Nw.warmF hW h.2.1.2.2.2.2⟩, va_Nw.warmM hW h.2.2.1, va_AO.moved hW.alike h.2.2.2.1, ao_moved hW.alike h.2.2.2.2⟩
theorem kn.same {D : va_G} {cy : Nat → ClassId} {s U : State} (e : s.vm = U.vm) (h : kn D cy s) : kn D cy U := by
  have ha : s.vm.Alike U.vm := by rw [e]; exact Vm.Alike.refl U.vm
  exact ⟨va_K.moved ha h.1, ⟨va_Nw.same rfl e h.2.1.1, va_Nw.same rfl e h.2.1.2.1, va_Nw.same rfl e h.2.1.2.2.1, va_Nw.same rfl e h.2.1.2.2.2.1, va_Nw.same rfl e h.2.1.2.2.2.2⟩, va_Nw.same rfl e h.2.2.1, va_AO.moved ha h.2.2.2.1, ao_moved ha h.2.2.2.2⟩
/-- a method's start: these arguments, a heap that holds the picture -/
def pcs (D : va_G) (cy : Nat → ClassId) (lo : Nat) (ad : Nat → Nat) (C : Nat → Option va_E) (av : List Value) : Array Value → State → Prop := va_Pc av (fun U => lo ≤ U.heap.size ∧ mh D vwCl lo ad C U.heap ∧ kn D cy U)
theorem pcs_blind {D : va_G} {cy : Nat → ClassId} {lo : Nat} {ad : Nat → Nat} {C : Nat → Option va_E} {av : List Value} : FrameBlind (pcs D cy lo ad C av) := fun _ _ _ _ q => ⟨q.1, q.2.1, q.2.2.1, kn.same rfl q.2.2.2⟩
theorem pcs_V {D : va_G} {cy : Nat → ClassId} {lo : Nat} {ad : Nat → Nat} {C : Nat → Option va_E} {s : State} {H : Heap} {Cn : String} {T : u_T} {N r ci : Nat} {fs As : List Value} (hK : kn D cy s) (hP : mh D vwCl lo ad C H) (hz : lo ≤ H.size) (he : C r = some (.inr (ci, fs))) (hc : vwCl[ci]? = some (Cn, T, N)) : PreV s H Cn (ad r) (pcs D cy lo ad C (.ref (ad r) :: As)) As :=
  ⟨pcs_blind, mh_recv hK.1 hP hc he, fun U hU hW => ⟨rfl, by rw [hU]; exact hz, by rw [hU]; exact hP, hK.warm hW⟩⟩
theorem pcs_S {D : va_G} {cy : Nat → ClassId} {lo : Nat} {ad : Nat → Nat} {C : Nat → Option va_E} {s : State} {H : Heap} {As : List Value} (hK : kn D cy s) (hP : mh D vwCl lo ad C H) (hz : lo ≤ H.size) : PreS s H (pcs D cy lo ad C As) As :=
  ⟨pcs_blind, fun U hU hW => ⟨rfl, by rw [hU]; exact hz, by rw [hU]; exact hP, hK.warm hW⟩⟩
/-- a method that changes the heap: its answer, the new picture -/
abbrev qwi (D : va_G) (lo : Nat) (post : Int32 → (Nat → Nat) × (Nat → Option va_E) → Prop) : Array Value → State → Outcome → State → Prop := va_Qi post (fun u t => mh D vwCl lo u.1 u.2 t.heap) (fun q => lo ≤ q)
abbrev qwv (D : va_G) (lo : Nat) (post : (Nat → Nat) × (Nat → Option va_E) → Prop) : Array Value → State → Outcome → State → Prop := va_Qv post (fun u t => mh D vwCl lo u.1 u.2 t.heap) (fun q => lo ≤ q)
section RC
variable {p : Program} {l : Launch} {e : Env} {R : Room} {s : State} {m : MethodId} {args : Array Value} {below : List Frame} {meth : Method} {c : Code} {H : Heap} {locs : List Loc} {cells slots : Nat} {Q : State → Prop}
variable {cc : ByteArray} {pc : Nat} {ls : Array Slot} {rest st0 As : List Value} {D : va_G} {cy : Nat → ClassId} {lo : Nat} {ad : Nat → Nat} {C : Nat → Option va_E} {own Cn : String} {T : u_T} {N ci r idx nL maxL n mc ms : Nat} {y : MethodName} {bytes : ByteArray} {ret : Option FieldType} {rm : Room} {fs : List Value} {H0 : Heap}
theorem rcV {post : Int32 → Prop} (S : CallFix p m c cc nL s args wA own) (hM : Met l y (Cond.code y bytes maxL ret :: wA) rm (pcs D cy lo ad C (.ref (ad r) :: As)) (vp_Si post) 0 0 (fun _ => False))
    (h1 : Cond.methodLink own idx y ∈ wA) (h2 : Cond.instanceMethod y ∈ wA) (h3 : Cond.selects Cn y y ∈ wA) (h4 : Cond.initialized Cn ∈ wA) (h5 : Cond.code y bytes maxL ret ∈ wA)
    (hd : y.cls = Cn ∧ y.cls ≠ "java/lang/invoke/MethodHandle" ∧ y.cls ≠ "java/lang/invoke/VarHandle" ∧ (parseMethodDescriptor y.desc).map (fun d => d.parameters.length) = some n) (hrc : rm.cells = 0) (hrs : rm.slots = 0) (hR : rm.frames + 1 ≤ R.frames ∧ 8 + (maxL + 11) + rm.locals ≤ R.locals)
    (hK : kn D cy s) (hP : mh D vwCl lo ad C H) (hz : lo ≤ H.size) (he : C r = some (.inr (ci, fs))) (hc : vwCl[ci]? = some (Cn, T, N))
    (hn : As.length = n) (hsize : ls.size = nL) (hst : st0 = As.reverse ++ .ref (ad r) :: rest) (hW : (rest.map fun v => v.category).sum ≤ 8) (hdg : decode cc pc = .ok (.invokevirtual idx, 3)) (hf : cells ≤ R.cells ∧ slots ≤ R.slots)
    (kk : ∀ r : Int32, post r → W p l e R s m args below meth c H locs cells slots Q (F0 m (pc + 3) ls (.int r :: rest))) : W p l e R s m args below meth c H locs cells slots Q (F0 m pc ls st0) :=
  vp_callSi (va_Run.run (va_runV (g := F0 m pc ls st0) S hM (cwV n S.2.2.2.2 (gV h1 h2 h3 h4 h5) rfl hrc hrs hd hR) (pcs_V hK hP hz he hc) rfl hn hsize hst (lv_room hW) hdg hf)) kk
theorem rcVl {post : Int64 → Prop} (S : CallFix p m c cc nL s args wA own) (hM : Met l y (Cond.code y bytes maxL ret :: wA) rm (pcs D cy lo ad C (.ref (ad r) :: As)) (vp_Sl post) 0 0 (fun _ => False))
    (h1 : Cond.methodLink own idx y ∈ wA) (h2 : Cond.instanceMethod y ∈ wA) (h3 : Cond.selects Cn y y ∈ wA) (h4 : Cond.initialized Cn ∈ wA) (h5 : Cond.code y bytes maxL ret ∈ wA)
    (hd : y.cls = Cn ∧ y.cls ≠ "java/lang/invoke/MethodHandle" ∧ y.cls ≠ "java/lang/invoke/VarHandle" ∧ (parseMethodDescriptor y.desc).map (fun d => d.parameters.length) = some n) (hrc : rm.cells = 0) (hrs : rm.slots = 0) (hR : rm.frames + 1 ≤ R.frames ∧ 8 + (maxL + 11) + rm.locals ≤ R.locals)
    (hK : kn D cy s) (hP : mh D vwCl lo ad C H) (hz : lo ≤ H.size) (he : C r = some (.inr (ci, fs))) (hc : vwCl[ci]? = some (Cn, T, N))
    (hn : As.length = n) (hsize : ls.size = nL) (hst : st0 = As.reverse ++ .ref (ad r) :: rest) (hW : (rest.map fun v => v.category).sum ≤ 8) (hdg : decode cc pc = .ok (.invokevirtual idx, 3)) (hf : cells ≤ R.cells ∧ slots ≤ R.slots)
    (kk : ∀ r : Int64, post r → W p l e R s m args below meth c H locs cells slots Q (F0 m (pc + 3) ls (.long r :: rest))) : W p l e R s m args below meth c H locs cells slots Q (F0 m pc ls st0) :=
  vp_callSl (va_Run.run (va_runV (g := F0 m pc ls st0) S hM (cwV n S.2.2.2.2 (gV h1 h2 h3 h4 h5) rfl hrc hrs hd hR) (pcs_V hK hP hz he hc) rfl hn hsize hst (lv_room hW) hdg hf)) kk
theorem rcS {post : Int32 → Prop} (S : CallFix p m c cc nL s args wA own) (hM : Met l y (Cond.code y bytes maxL ret :: wA) rm (pcs D cy lo ad C As) (vp_Si post) 0 0 (fun _ => False))
    (h1 : Cond.methodLink own idx y ∈ wA) (h2 : Cond.static y ∈ wA) (h3 : Cond.initialized y.cls ∈ wA) (h5 : Cond.code y bytes maxL ret ∈ wA)
    (hd : y.cls ≠ "java/lang/invoke/MethodHandle" ∧ y.cls ≠ "java/lang/invoke/VarHandle" ∧ (parseMethodDescriptor y.desc).map (fun d => d.parameters.length) = some n) (hrc : rm.cells = 0) (hrs : rm.slots = 0) (hR : rm.frames + 1 ≤ R.frames ∧ 8 + (maxL + 11) + rm.locals ≤ R.locals)
    (hK : kn D cy s) (hP : mh D vwCl lo ad C H) (hz : lo ≤ H.size)
    (hn : As.length = n) (hsize : ls.size = nL) (hst : st0 = As.reverse ++ rest) (hW : (rest.map fun v => v.category).sum ≤ 8) (hdg : decode cc pc = .ok (.invokestatic idx, 3)) (hf : cells ≤ R.cells ∧ slots ≤ R.slots)
    (kk : ∀ r : Int32, post r → W p l e R s m args below meth c H locs cells slots Q (F0 m (pc + 3) ls (.int r :: rest))) : W p l e R s m args below meth c H locs cells slots Q (F0 m pc ls st0) :=
  vp_callSi (va_Run.run (va_runS (g := F0 m pc ls st0) S hM (va_cwS n S.2.2.2.2 (gS h1 h2 h3 h5) rfl hrc hrs hd hR) (pcs_S hK hP hz) rfl hn hsize hst (lv_room hW) hdg hf)) kk
theorem rwV {post : Int32 → (Nat → Nat) × (Nat → Option va_E) → Prop} (S : CallFix p m c cc nL s args wA own) (hM : Met l y (Cond.code y bytes maxL ret :: wA) rm (pcs D cy lo ad C (.ref (ad r) :: As)) (qwi D lo post) mc ms (fun q => lo ≤ q))
    (h1 : Cond.methodLink own idx y ∈ wA) (h2 : Cond.instanceMethod y ∈ wA) (h3 : Cond.selects Cn y y ∈ wA) (h4 : Cond.initialized Cn ∈ wA) (h5 : Cond.code y bytes maxL ret ∈ wA)
    (hd : y.cls = Cn ∧ y.cls ≠ "java/lang/invoke/MethodHandle" ∧ y.cls ≠ "java/lang/invoke/VarHandle" ∧ (parseMethodDescriptor y.desc).map (fun d => d.parameters.length) = some n) (hrc : rm.cells = mc) (hrs : rm.slots = ms) (hR : rm.frames + 1 ≤ R.frames ∧ 8 + (maxL + 11) + rm.locals ≤ R.locals)
    (hK : kn D cy s) (hP : mh D vwCl lo ad C H) (hz : lo ≤ H.size) (he : C r = some (.inr (ci, fs))) (hc : vwCl[ci]? = some (Cn, T, N)) (hS : va_S (fun q => lo ≤ q) H0 H locs)
    (hn : As.length = n) (hsize : ls.size = nL) (hst : st0 = As.reverse ++ .ref (ad r) :: rest) (hW : (rest.map fun v => v.category).sum ≤ 8) (hdg : decode cc pc = .ok (.invokevirtual idx, 3)) (hf : cells + mc ≤ R.cells ∧ slots + ms ≤ R.slots)
    (kk : ∀ (r : Int32) (u : (Nat → Nat) × (Nat → Option va_E)) (H1 : Heap) (locs1 : List Loc), post r u → mh D vwCl lo u.1 u.2 H1 → H.size ≤ H1.size → va_S (fun q => lo ≤ q) H0 H1 locs1 → W p l e R s m args below meth c H1 locs1 (cells + mc) (slots + ms) Q (F0 m (pc + 3) ls (.int r :: rest))) : W p l e R s m args below meth c H locs cells slots Q (F0 m pc ls st0) :=
  va_calli (va_runV (g := F0 m pc ls st0) S hM (cwV n S.2.2.2.2 (gV h1 h2 h3 h4 h5) rfl hrc hrs hd hR) (pcs_V hK hP hz he hc) rfl hn hsize hst (lv_room hW) hdg hf) hS (fun _ _ h => h) (fun _ h => h) (fun r u t H1 locs1 ht _ hw hB hz1 _ hS1 => kk r u H1 locs1 hw (by rw [← ht]; exact hB) hz1 hS1)
theorem rwVv {post : (Nat → Nat) × (Nat → Option va_E) → Prop} (S : CallFix p m c cc nL s args wA own) (hM : Met l y (Cond.code y bytes maxL ret :: wA) rm (pcs D cy lo ad C (.ref (ad r) :: As)) (qwv D lo post) mc ms (fun q => lo ≤ q))
    (h1 : Cond.methodLink own idx y ∈ wA) (h2 : Cond.instanceMethod y ∈ wA) (h3 : Cond.selects Cn y y ∈ wA) (h4 : Cond.initialized Cn ∈ wA) (h5 : Cond.code y bytes maxL ret ∈ wA)
    (hd : y.cls = Cn ∧ y.cls ≠ "java/lang/invoke/MethodHandle" ∧ y.cls ≠ "java/lang/invoke/VarHandle" ∧ (parseMethodDescriptor y.desc).map (fun d => d.parameters.length) = some n) (hrc : rm.cells = mc) (hrs : rm.slots = ms) (hR : rm.frames + 1 ≤ R.frames ∧ 8 + (maxL + 11) + rm.locals ≤ R.locals)
    (hK : kn D cy s) (hP : mh D vwCl lo ad C H) (hz : lo ≤ H.size) (he : C r = some (.inr (ci, fs))) (hc : vwCl[ci]? = some (Cn, T, N)) (hS : va_S (fun q => lo ≤ q) H0 H locs)
    (hn : As.length = n) (hsize : ls.size = nL) (hst : st0 = As.reverse ++ .ref (ad r) :: rest) (hW : (rest.map fun v => v.category).sum ≤ 8) (hdg : decode cc pc = .ok (.invokevirtual idx, 3)) (hf : cells + mc ≤ R.cells ∧ slots + ms ≤ R.slots)
    (kk : ∀ (u : (Nat → Nat) × (Nat → Option va_E)) (H1 : Heap) (locs1 : List Loc), post u → mh D vwCl lo u.1 u.2 H1 → H.size ≤ H1.size → va_S (fun q => lo ≤ q) H0 H1 locs1 → W p l e R s m args below meth c H1 locs1 (cells + mc) (slots + ms) Q (F0 m (pc + 3) ls rest)) : W p l e R s m args below meth c H locs cells slots Q (F0 m pc ls st0) :=
  va_callv (va_runV (g := F0 m pc ls st0) S hM (cwV n S.2.2.2.2 (gV h1 h2 h3 h4 h5) rfl hrc hrs hd hR) (pcs_V hK hP hz he hc) rfl hn hsize hst (lv_room hW) hdg hf) hS (fun _ _ h => h) (fun _ h => h) (fun u t H1 locs1 ht _ hw hB hz1 _ hS1 => kk u H1 locs1 hw (by rw [← ht]; exact hB) hz1 hS1)
end RC
/-- a boolean answer -/
def sb (r : Int32) (P : Prop) : Prop := (r = 1 ∧ P) ∨ (r = 0 ∧ ¬ P)
theorem sb_t {r : Int32} {P : Prop} (h : P) (hr : r = 1 := by rfl) : sb r P := Or.inl ⟨hr, h⟩
theorem sb_f {r : Int32} {P : Prop} (h : ¬ P) (hr : r = 0 := by rfl) : sb r P := Or.inr ⟨hr, h⟩
theorem sb_1 {r : Int32} {P : Prop} (h : sb r P) (hr : ¬ r = 0) : P := h.elim (fun q => q.2) (fun q => absurd q.1 hr)
theorem sb_0 {r : Int32} {P : Prop} (h : sb r P) (hr : r = 0) : ¬ P := by
  rcases h with q | q
  · rw [q.1] at hr; exact absurd hr (by decide)
  · exact q.2
