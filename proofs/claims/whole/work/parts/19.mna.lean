/-! new int[n][k] by roles: the outer array's role r0, its rows' roles rb .. -/
theorem vp_cong {cA : ClassId} {n : Nat} {f g : Nat → Int32} (h : ∀ j, j < n → f j = g j) : vp_cell cA (n, .inl f) = vp_cell cA (n, .inl g) := by
  rw [vp_cell_i, vp_cell_i]
  unfold arrV
  congr 1
  apply Array.ext
  · simp
  · intro i h1 h2
    simp only [Array.getElem_ofFn]
    rw [h i (by simpa using h1)]
theorem vp_congq {cA : ClassId} {n : Nat} {f g : Nat → Option Nat} (h : ∀ j, j < n → f j = g j) : vp_cell cA (n, .inr (.inr (.inr (.inr f)))) = vp_cell cA (n, .inr (.inr (.inr (.inr g)))) := by
  rw [vp_cell_q, vp_cell_q]
  unfold arrV
  congr 1
  apply Array.ext
  · simp
  · intro i h1 h2
    simp only [Array.getElem_ofFn]
    rw [h i (by simpa using h1)]
/-- an int array's contents matter within its length alone -/
theorem mh_cong {D : va_G} {cl : List vw_C} {lo : Nat} {ad : Nat → Nat} {C : Nat → Option va_E} {H : Heap} {r n : Nat} {cA : ClassId} {f g : Nat → Int32} (h : mh D cl lo ad (va_up C r (some (.inl (cA, n, .inl f)))) H) (hfg : ∀ j, j < n → f j = g j) : mh D cl lo ad (va_up C r (some (.inl (cA, n, .inl g)))) H := by
  have hn : ∀ x, va_up C r (some (.inl (cA, n, .inl g))) x ≠ none → va_up C r (some (.inl (cA, n, .inl f))) x ≠ none := by
    intro x hx
    by_cases e : x = r
    · subst e
      rw [va_up_self]
      simp
    · rw [va_up_ne _ _ e] at hx ⊢
      exact hx
  refine ⟨fun x e hx => ?_, fun a b ha hb => h.2 a b (hn a ha) (hn b hb)⟩
  by_cases q : x = r
  · subst q
    rw [va_up_self] at hx
    cases hx
    obtain ⟨g1, g2⟩ := h.1 x _ (va_up_self _ _ _)
    refine ⟨g1, ?_⟩
    show H[ad x]? = some (vp_cell cA (n, .inl g))
    rw [← vp_cong hfg]
    exact g2
  · rw [va_up_ne _ _ q] at hx
    exact h.1 x e (by rw [va_up_ne _ _ q]; exact hx)
/-! the instruction multianewarray with two dimensions, walked over the model's own text of it -/
/-- the outer array when i of its places are told -/
def mnO (cA : ClassId) (N h0 i : Nat) : Cell := arrV cA N (fun j => va_rf (if j < i then some (h0 + 1 + j) else none))
/-- a row of zeros -/
def mnI (cI : ClassId) (K : Nat) : Cell := arrV cI K (fun _ => .int 0)
/-- the state when i rows are made -/
def mnT (T : State) (cA cI : ClassId) (N K : Nat) : Nat → State
  | 0 => T.pushCell (mnO cA N T.heap.size 0)
  | i + 1 => ((mnT T cA cI N K i).pushCell (mnI cI K)).setCell T.heap.size (mnO cA N T.heap.size (i + 1))
theorem mnO_new (cA : ClassId) (N h0 : Nat) : ({ cls := cA, slots := Array.replicate N .null } : Cell) = mnO cA N h0 0 := by
  refine (arrV_new cA N .null).trans (congrArg (arrV cA N) (funext fun j => ?_))
  rw [if_neg (Nat.not_lt_zero j)]
  rfl
theorem mnO_put (cA : ClassId) (N h0 i : Nat) : (mnO cA N h0 i).setSlot i (.ref (h0 + 1 + i)) = mnO cA N h0 (i + 1) := by
  unfold mnO
  rw [arrV_store]
  refine congrArg (arrV cA N) (funext fun j => ?_)
  unfold updV
  by_cases q : j = i
  · rw [if_pos q, if_pos (show j < i + 1 by omega), q]
    rfl
  · rw [if_neg q]
    show va_rf (if j < i then some (h0 + 1 + j) else none) = _
    by_cases w : j < i
    · rw [if_pos w, if_pos (show j < i + 1 by omega)]
    · rw [if_neg w, if_neg (show ¬ j < i + 1 by omega)]
theorem mnO_all (cA : ClassId) (N h0 : Nat) : mnO cA N h0 N = vp_cell cA (N, .inr (.inr (.inr (.inr (fun i => if i < N then some (h0 + 1 + i) else none))))) := by
  rw [vp_cell_q]
  rfl
theorem mnT_step (T : State) (cA cI : ClassId) (N K i : Nat) : (mnT T cA cI N K (i + 1)).heap = ((mnT T cA cI N K i).heap.push (mnI cI K)).setIfInBounds T.heap.size (mnO cA N T.heap.size (i + 1)) := rfl
theorem mnT_heap (T : State) (cA cI : ClassId) (N K : Nat) : ∀ i : Nat, (mnT T cA cI N K i).heap.size = T.heap.size + 1 + i ∧ (mnT T cA cI N K i).heap[T.heap.size]? = some (mnO cA N T.heap.size i) ∧ (∀ x : Nat, x < T.heap.size → (mnT T cA cI N K i).heap[x]? = T.heap[x]?) ∧ (∀ j : Nat, j < i → (mnT T cA cI N K i).heap[T.heap.size + 1 + j]? = some (mnI cI K))
  | 0 => by
    have e : (mnT T cA cI N K 0).heap = T.heap.push (mnO cA N T.heap.size 0) := rfl
    rw [e]
    refine ⟨by simp, by simp, fun x hx => ?_, fun j hj => absurd hj (Nat.not_lt_zero j)⟩
    rw [Array.getElem?_push, if_neg (by omega)]
  | i + 1 => by
    obtain ⟨a, b, c, d⟩ := mnT_heap T cA cI N K i
    rw [mnT_step]
    refine ⟨?_, ?_, fun x hx => ?_, fun j hj => ?_⟩
    · rw [Array.size_setIfInBounds, Array.size_push, a]; omega
    · rw [Array.getElem?_setIfInBounds, if_pos rfl, if_pos (by rw [Array.size_push, a]; omega)]
    · rw [Array.getElem?_setIfInBounds, if_neg (by omega), Array.getElem?_push, if_neg (by omega)]
      exact c x hx
    · rw [Array.getElem?_setIfInBounds, if_neg (by omega), Array.getElem?_push]
      by_cases q : j = i
      · rw [if_pos (by omega)]
      · rw [if_neg (by omega)]
        exact d j (by omega)
theorem mnT_vm (T : State) (cA cI : ClassId) (N K : Nat) : ∀ i : Nat, (mnT T cA cI N K i).vm = T.vm
  | 0 => rfl
  | i + 1 => mnT_vm T cA cI N K i
theorem mnT_top (T : State) (g : JFrame) (cA cI : ClassId) (N K : Nat) : ∀ i : Nat, mnT (T.setTop g) cA cI N K i = (mnT T cA cI N K i).setTop g
  | 0 => rfl
  | i + 1 => by
    show ((mnT (T.setTop g) cA cI N K i).pushCell (mnI cI K)).setCell T.heap.size (mnO cA N T.heap.size (i + 1)) = _
    rw [mnT_top T g cA cI N K i]
    rfl
/-- the classes of int[] and int[][], by arrayOver -/
theorem mn_over {args : Array Value} {s : State} (h : (Cond.arrayOver (.array .int)).before args s = true) : ∃ (cI cG : ClassId) (kG : Class), s.vm.findClass "[I" = some cI ∧ s.vm.classes[cG]? = some kG ∧ kG.kind = .array cI (.array .int) ∧ s.vm.findClass "[[I" = some cG := by
  simp only [Cond.before, Cond.holds, Cond.value, beq_iff_eq] at h
  obtain ⟨cI, hI, h⟩ := Option.bind_eq_some_iff.mp h
  obtain ⟨cG, hi, h⟩ := Option.bind_eq_some_iff.mp h
  obtain ⟨kG, hk, h⟩ := Option.map_eq_some_iff.mp h
  obtain ⟨q1, q2⟩ := Array.getElem?_eq_some_iff.mp hk
  have hp := (Array.findIdx?_eq_some_iff_getElem.mp hi).2.1
  rw [q2] at hp
  cases hkind : kG.kind with
  | array co ty =>
    rw [hkind] at h hp
    simp only [Bool.and_eq_true, decide_eq_true_eq, beq_iff_eq] at h hp
    exact ⟨cI, cG, kG, hI, hk, by rw [hkind, hp, h.1], h.2⟩
  | _ =>
    rw [hkind] at h
    cases h
section MNW
variable {E : Jvm.CtlPost} {e : Env} {d : Bool} {acts : List Action} {U : State} {cA cI cc : ClassId} {kA kC : Class} {n k : Int32} {Q : Addr → Jvm.Pre}
theorem mn_row (hkC : U.vm.classes[cI]? = some kC) (hkind : kC.kind = .array cc .int) (hk : ¬ k < 0) (hl : ¬ k.toNatClampNeg > e.platform.arrayLengthLimit) (hh : ¬ k.toNatClampNeg * componentBytes .int > e.platform.maxHeapBytes) (hc : U.heap.size < e.platform.maxCells) (hs : U.slotsUsed + k.toNatClampNeg ≤ e.platform.maxSlots)
    (hq : ∀ a, Q U.heap.size d a (U.pushCell (mnI cI k.toNatClampNeg))) : Jvm.Sem.wp (Jvm.Op.multianewarray.make cI [k]) Q E e d acts U := by
  unfold Jvm.Op.multianewarray.make
  simp only [Jvm.Sem.wp_bind', Jvm.W.ite, hk, if_false, Jvm.Sem.wp_pure', Jvm.W.theClass, hkC, Option.some.injEq, exists_eq_left', hkind]
  refine Jvm.W.newArray_of hkC hkind hl hh hc hs rfl (fun a => ?_)
  rw [show ({ cls := cI, slots := Array.replicate k.toNatClampNeg (defaultValue .int) } : Cell) = mnI cI k.toNatClampNeg from arrV_new cI _ (.int 0)]
  exact hq a
theorem mn_make (hkA : U.vm.classes[cA]? = some kA) (hkindA : kA.kind = .array cI (.array .int)) (hkC : U.vm.classes[cI]? = some kC) (hkind : kC.kind = .array cc .int) (hn : ¬ n < 0) (hk : ¬ k < 0) (hl1 : ¬ n.toNatClampNeg > e.platform.arrayLengthLimit) (hh1 : ¬ n.toNatClampNeg * componentBytes (.array .int) > e.platform.maxHeapBytes) (hl : ¬ k.toNatClampNeg > e.platform.arrayLengthLimit) (hh : ¬ k.toNatClampNeg * componentBytes .int > e.platform.maxHeapBytes)
    (hc : U.heap.size < e.platform.maxCells) (hs : U.slotsUsed + n.toNatClampNeg ≤ e.platform.maxSlots)
    (hr : ∀ i, i < n.toNatClampNeg → (mnT U cA cI n.toNatClampNeg k.toNatClampNeg i).heap.size < e.platform.maxCells ∧ (mnT U cA cI n.toNatClampNeg k.toNatClampNeg i).slotsUsed + k.toNatClampNeg ≤ e.platform.maxSlots)
    (hq : ∀ d' a, Q U.heap.size d' a (mnT U cA cI n.toNatClampNeg k.toNatClampNeg n.toNatClampNeg)) : Jvm.Sem.wp (Jvm.Op.multianewarray.make cA [n, k]) Q E e d acts U := by
  have hf : List.find? (fun x => decide (x < 0)) [k] = none := by simp [hk]
  unfold Jvm.Op.multianewarray.make
  simp only [Jvm.Sem.wp_bind', Jvm.W.ite, hn, if_false, Jvm.Sem.wp_pure', Jvm.W.theClass, hkA, Option.some.injEq, exists_eq_left', hkindA]
  refine Jvm.W.newArray_of hkA hkindA hl1 hh1 hc hs rfl (fun a => ?_)
  rw [mnO_new cA n.toNatClampNeg U.heap.size]
  simp only [hf, Jvm.Sem.wp_pure', ite_self, Std.Legacy.Range.forIn_eq_forIn_range', Jvm.Sem.wp_bind']
  refine Jvm.wp_forIn_inv (fun rs st => ∃ i, i ≤ n.toNatClampNeg ∧ rs = List.range' i (n.toNatClampNeg - i) ∧ st = mnT U cA cI n.toNatClampNeg k.toNatClampNeg i) _ _ ⟨0, Nat.zero_le _, by simp [Std.Legacy.Range.size], rfl⟩ ?_ ?_
  · rintro x rs s' d' a' Q' ⟨i, hi, hx, rfl⟩ next
    have hlt : i < n.toNatClampNeg := by
      rcases Nat.lt_or_ge i n.toNatClampNeg with q | q
      · exact q
      · rw [show n.toNatClampNeg - i = 0 by omega] at hx
        cases hx
    rw [show n.toNatClampNeg - i = n.toNatClampNeg - (i + 1) + 1 by omega, List.range'_succ] at hx
    obtain ⟨rfl, rfl⟩ := List.cons.inj hx
    obtain ⟨f1, f2, -, -⟩ := mnT_heap U cA cI n.toNatClampNeg k.toNatClampNeg x
    obtain ⟨r1, r2⟩ := hr x hlt
    have hv := mnT_vm U cA cI n.toNatClampNeg k.toNatClampNeg x
    rw [Jvm.Sem.wp_bind']
    refine mn_row (kC := kC) (cc := cc) (by rw [hv]; exact hkC) hkind hk hl hh r1 r2 (fun a => ?_)
    rw [Jvm.Sem.wp_bind', Jvm.W.writeLoc]
    refine ⟨mnO cA n.toNatClampNeg U.heap.size x, ?_, ?_, ?_, ?_, ?_⟩
    · have q : U.heap.size < (mnT U cA cI n.toNatClampNeg k.toNatClampNeg x).heap.size := by rw [f1]; omega
      exact (Jvm.State.heap_pushCell_of_lt _ _ q).trans f2
    · intro h
      cases h
    · rw [show (mnO cA n.toNatClampNeg U.heap.size x).slots.size = n.toNatClampNeg from arrV_size _ _ _]
      exact hlt
    · show Jvm.State.fitsSlot _ cA .none x _ = true
      have hv' : (mnT U cA cI n.toNatClampNeg k.toNatClampNeg x).vm.classes[cA]? = some kA := by
        rw [hv]
        exact hkA
      simp [Jvm.State.fitsSlot, Jvm.State.slotType?, hv', hkindA]
      rfl
    · rw [Jvm.Sem.wp_pure', f1, mnO_put]
      exact next _ _ _ ⟨x + 1, hlt, rfl, rfl⟩
  · rintro s' d' a' ⟨i, hi, hx, rfl⟩
    have he : n.toNatClampNeg - i = 0 := by
      rcases Nat.eq_zero_or_pos (n.toNatClampNeg - i) with q | q
      · exact q
      · rw [show n.toNatClampNeg - i = (n.toNatClampNeg - i - 1) + 1 by omega, List.range'_succ] at hx
        cases hx
    obtain rfl : n.toNatClampNeg = i := by omega
    exact hq _ _
end MNW
section MNS
variable {p : Program} {l : Launch} {e : Env} {R : Room} {s : State} {m : MethodId} {args : Array Value} {below : List Frame} {meth : Method} {c : Code} {T : State} {locs : List Loc} {cells slots : Nat}
theorem mnT_stand {cA cI : ClassId} {N K : Nat} (X : Stand p l e R s m args below meth c T locs cells slots) : ∀ i : Nat, Stand p l e R s m args below meth c (mnT T cA cI N K i) locs (cells + 1 + i) (slots + N + i * K)
  | 0 => by
    have h := X.pushed (mnO cA N T.heap.size 0)
    rw [show (mnO cA N T.heap.size 0).slots.size = N from arrV_size _ _ _] at h
    rw [Nat.zero_mul]
    exact h
  | i + 1 => by
    have h := (mnT_stand (cA := cA) (cI := cI) (N := N) (K := K) X i).pushed (mnI cI K)
    rw [show (mnI cI K).slots.size = K from arrV_size _ _ _] at h
    obtain ⟨a, b, -, -⟩ := mnT_heap T cA cI N K i
    have hc : ((mnT T cA cI N K i).pushCell (mnI cI K)).heap[T.heap.size]? = some (mnO cA N T.heap.size i) := by
      have q : T.heap.size < (mnT T cA cI N K i).heap.size := by rw [a]; omega
      exact (Jvm.State.heap_pushCell_of_lt (mnT T cA cI N K i) (mnI cI K) q).trans b
    have g := (h.stored hc i (.ref (T.heap.size + 1 + i))).dropFresh (fun x hx => by rw [List.mem_singleton.mp hx]; exact X.heapGrown)
    rw [mnO_put] at g
    rw [show slots + N + (i + 1) * K = slots + N + i * K + K by rw [Nat.succ_mul]; omega]
    exact g
theorem mn_walk (X : Stand p l e R s m args below meth c T locs cells slots) (hexec : p.tables.exec = Jvm.exec) {own : String} {index : Nat} (hown : s.vm.findClass own = some m.cls) (hclink : (Cond.classLink own index "[[I").before args s = true) {cA cI cc : ClassId} {kA kC : Class} (hnA : s.vm.findClass "[[I" = some cA) (hkA : s.vm.classes[cA]? = some kA) (hkindA : kA.kind = .array cI (.array .int)) (hkC : s.vm.classes[cI]? = some kC) (hkind : kC.kind = .array cc .int)
    {g : JFrame} (hg : g.method = m) (hdg : decode c.code g.pc = .ok (.multianewarray index 2, 4)) {n k : Int32} {rest : List Value} (hst : g.stack = .int k :: .int n :: rest) (hn : ¬ n < 0) (hk : ¬ k < 0) (hN : n.toNatClampNeg ≤ 100000) (hK : k.toNatClampNeg ≤ 100000) (hcells : cells + (1 + n.toNatClampNeg) ≤ R.cells) (hslots : slots + (n.toNatClampNeg + n.toNatClampNeg * k.toNatClampNeg) ≤ R.slots) :
    ∃ vm₁ : Vm, Stand p l e R s m args below meth c (mnT (T.setVm vm₁) cA cI n.toNatClampNeg k.toNatClampNeg n.toNatClampNeg) locs (cells + 1 + n.toNatClampNeg) (slots + n.toNatClampNeg + n.toNatClampNeg * k.toNatClampNeg) ∧
      ∀ target, Steps p.tables e below ((mnT (T.setVm vm₁) cA cI n.toNatClampNeg k.toNatClampNeg n.toNatClampNeg).setTop { g with pc := g.pc + 4, stack := .ref T.heap.size :: rest }) target → Steps p.tables e below (T.setTop g) target := by
  subst hg
  obtain ⟨c0, hf0, hcl⟩ := Jvm.Cond.classLink_spec hown hclink e.platform (by rw [X.admits.platform])
  obtain rfl : cA = c0 := Option.some.inj (hnA.symm.trans hf0)
  obtain ⟨hg₁, hw₁, -⟩ := Jvm.State.classEntry (e := e) X.warmed hcl
  generalize T.vm.noted g.method.cls index (.cls cA) = vm₁ at hg₁ hw₁
  obtain ⟨kA₁, hA1, eA⟩ := hw₁.alike.2.2 _ _ hkA
  obtain ⟨kC₁, hC1, eC⟩ := hw₁.alike.2.2 _ _ hkC
  have hkA₁ : kA₁.kind = .array cI (.array .int) := by rw [eA]; exact hkindA
  have hkC₁ : kC₁.kind = .array cc .int := by rw [eC]; exact hkind
  have X₁ := X.noted hw₁
  have XF := fun i => mnT_stand (cA := cA) (cI := cI) (N := n.toNatClampNeg) (K := k.toNatClampNeg) X₁ i
  refine ⟨vm₁, XF _, fun target hrest => ?_⟩
  have hl1 : ¬ n.toNatClampNeg > e.platform.arrayLengthLimit := by rw [Jvm.Launch.admits_arrayLengthLimit X.admits]; omega
  have hl2 : ¬ k.toNatClampNeg > e.platform.arrayLengthLimit := by rw [Jvm.Launch.admits_arrayLengthLimit X.admits]; omega
  have hh1 : ¬ n.toNatClampNeg * componentBytes (.array .int) > e.platform.maxHeapBytes := by
    rw [Jvm.Launch.admits_maxHeapBytes X.admits]
    show ¬ n.toNatClampNeg * 4 > 536870912
    omega
  have hh2 : ¬ k.toNatClampNeg * componentBytes .int > e.platform.maxHeapBytes := by
    rw [Jvm.Launch.admits_maxHeapBytes X.admits]
    show ¬ k.toNatClampNeg * 4 > 536870912
    omega
  obtain ⟨r1, r2⟩ := X₁.roomAbove (a := 1) (b := n.toNatClampNeg) (by omega) (by omega)
  have hrm : ∀ i, i < n.toNatClampNeg → (mnT (T.setVm vm₁) cA cI n.toNatClampNeg k.toNatClampNeg i).heap.size < e.platform.maxCells ∧ (mnT (T.setVm vm₁) cA cI n.toNatClampNeg k.toNatClampNeg i).slotsUsed + k.toNatClampNeg ≤ e.platform.maxSlots := by
    intro i hi
    have hm : (i + 1) * k.toNatClampNeg ≤ n.toNatClampNeg * k.toNatClampNeg := Nat.mul_le_mul_right _ hi
    rw [Nat.succ_mul] at hm
    obtain ⟨q1, q2⟩ := (XF i).roomAbove (a := 1) (b := k.toNatClampNeg) (by omega) (by omega)
    exact ⟨q1, q2⟩
  jvm_step X.here [hexec, hdg]
  simp only [Jvm.Op.multianewarray.sem, Jvm.Sem.wp_bind', Jvm.W.resolveClassAt_links (Jvm.State.method?_setTop g X.here.top) hg₁]
  rw [Jvm.W.popN, if_neg (by decide)]
  refine ⟨g, Jvm.State.topJava?_setTop' (s := T.setVm vm₁) g X.here.top, [.int n, .int k], rest, rfl, hst, ?_⟩
  simp only [List.mapM_cons, List.mapM_nil, Jvm.Sem.wp_bind', Jvm.Sem.wp_pure']
  rw [show ((T.setTop g).setVm vm₁).setTop { g with stack := rest } = (T.setVm vm₁).setTop { g with stack := rest } from Jvm.State.setTop_setTop (T.setVm vm₁) g _]
  refine mn_make (U := (T.setVm vm₁).setTop { g with stack := rest }) (kA := kA₁) (kC := kC₁) (cc := cc) (cI := cI) hA1 hkA₁ hC1 hkC₁ hn hk hl1 hh1 hl2 hh2 r1 r2 (fun i hi => ?_) (fun d' a => ?_)
  · rw [mnT_top]
    exact hrm i hi
  · rw [mnT_top]
    have ht := (XF n.toNatClampNeg).here.top
    simp only [Jvm.Sem.wp_bind', Jvm.W.mark, Jvm.W.pushRef, Jvm.State.topJava?_setTop' _ ht, Option.some.injEq, exists_eq_left', Jvm.State.setTop_setTop, Jvm.State.heap_setTop]
    intro acts
    simp [jvm, ht]
    exact hrest
end MNS
section MNA
variable {p : Program} {l : Launch} {e : Env} {R : Room} {s : State} {m : MethodId} {args : Array Value} {below : List Frame} {meth : Method} {c : Code} {H : Heap} {locs : List Loc} {cells slots : Nat} {Q : State → Prop}
variable {cc : ByteArray} {pc : Nat} {ls : Array Slot} {rest : List Value} {D : va_G} {cl : List vw_C} {lo : Nat} {ad : Nat → Nat} {C : Nat → Option va_E} {tys : List (ClassId × FieldType)} {H0 : Heap}
theorem mh_mna (hexec : p.tables.exec = Jvm.exec) (hb : c.code = cc) {own : String} {index : Nat} (hown : s.vm.findClass own = some m.cls) (hclink : (Cond.classLink own index "[[I").before args s = true) (hover : va_Nw (.arrayOver (.array .int)) s) (harr : (Cond.arrayClass .int).before args s = true)
    (hK : va_K D cl tys s) (hP : mh D cl lo ad C H) (hS : va_S (fun q => lo ≤ q) H0 H locs) (hlo : lo ≤ H0.size) (r0 rb t0 t1 : Nat) {N' K' : Nat} {cI cG : ClassId} (ht0 : tys[t0]? = some (cI, .int)) (ht1 : tys[t1]? = some (cG, .array .int)) (hr0 : r0 < rb) (hN : N' ≤ 100000) (hKb : K' ≤ 100000) (hcells : cells + (1 + N') ≤ R.cells) (hslots : slots + (N' + N' * K') ≤ R.slots) (hdg : decode cc pc = .ok (.multianewarray index 2, 4))
    (kk : ∀ (q : Nat) (rr : Nat → Nat) (H1 : Heap), mh D cl lo (fun r => if rb ≤ r ∧ r < rb + N' then rr (r - rb) else if r = r0 then q else ad r) (fun r => if rb ≤ r ∧ r < rb + N' then some (.inl (cI, K', .inl (fun _ => 0))) else if r = r0 then some (.inl (cG, N', .inr (.inr (.inr (.inr (fun i => if i < N' then some (rr i) else none)))))) else C r) H1 → va_S (fun q => lo ≤ q) H0 H1 locs →
      W p l e R s m args below meth c H1 locs (cells + 1 + N') (slots + N' + N' * K') Q (F0 m (pc + 4) ls (.ref q :: rest))) : W p l e R s m args below meth c H locs cells slots Q (F0 m pc ls (.int (nI K') :: .int (nI N') :: rest)) := by
  intro T hT Xs
  have cN : (nI N').toNatClampNeg = N' := nI_clamp (by omega)
  have cK : (nI K').toNatClampNeg = K' := nI_clamp (by omega)
  have e1 : s.vm.findClass "[I" = some cI := (hK.2 t0 _ ht0).2
  have e2 : s.vm.findClass "[[I" = some cG := (hK.2 t1 _ ht1).2
  obtain ⟨comp, cA, kA, fC, hkA, hkindA, fA⟩ := mn_over hover
  have ec : comp = cI := Option.some.inj (fC.symm.trans e1)
  have eg : cA = cG := Option.some.inj (fA.symm.trans e2)
  subst ec eg
  obtain ⟨co, kC, cc', g1, hkC, hkindC⟩ := Jvm.Cond.arrayClass_spec harr
  have eo : comp = co := Option.some.inj (fC.symm.trans g1)
  subst eo
  obtain ⟨vm₁, X', step⟩ := mn_walk Xs hexec hown hclink fA hkA hkindA hkC hkindC (g := F0 m pc ls (.int (nI K') :: .int (nI N') :: rest)) rfl (by rw [hb]; exact hdg) rfl (nI_pos (by omega)) (nI_pos (by omega)) (by rw [cN]; exact hN) (by rw [cK]; exact hKb) (by rw [cN]; exact hcells) (by rw [cN, cK]; exact hslots)
  rw [cN, cK] at X' step
  obtain ⟨f1, f2, fo, fi⟩ := mnT_heap (T.setVm vm₁) cA comp N' K' N'
  have hTh : (T.setVm vm₁).heap = H := hT
  rw [hTh] at f1 f2 fo fi
  generalize mnT (T.setVm vm₁) cA comp N' K' N' = F at X' step f1 f2 fo fi
  rw [mnO_all] at f2
  have hlt : ∀ (r : Nat) (e : va_E), C r = some e → ad r < H.size := fun r e hr => (hP.1 r e hr).2.lt
  have hloH : lo ≤ H.size := Nat.le_trans hlo hS.1
  have hM : mh D cl lo (fun r => if rb ≤ r ∧ r < rb + N' then H.size + 1 + (r - rb) else if r = r0 then H.size else ad r) (fun r => if rb ≤ r ∧ r < rb + N' then some (.inl (comp, K', .inl (fun _ => 0))) else if r = r0 then some (.inl (cA, N', .inr (.inr (.inr (.inr (fun i => if i < N' then some (H.size + 1 + i) else none)))))) else C r) F.heap := by
    refine ⟨fun r e hr => ?_, fun a b ha hb hab => ?_⟩
    · by_cases c1 : rb ≤ r ∧ r < rb + N'
      · simp only [if_pos c1] at hr ⊢
        cases hr
        refine ⟨by omega, ?_⟩
        show F.heap[_]? = some (vp_cell comp (K', .inl (fun _ => 0)))
        rw [fi (r - rb) (by omega), vp_cell_i]
        rfl
      · simp only [if_neg c1] at hr ⊢
        by_cases c2 : r = r0
        · simp only [if_pos c2] at hr ⊢
          cases hr
          exact ⟨hloH, f2⟩
        · simp only [if_neg c2] at hr ⊢
          exact ⟨(hP.1 r e hr).1, (hP.1 r e hr).2.kept (fo _ (hlt r e hr))⟩
    · have key : ∀ x, (if rb ≤ x ∧ x < rb + N' then some (.inl (comp, K', .inl (fun _ => 0))) else if x = r0 then some (.inl (cA, N', .inr (.inr (.inr (.inr (fun i => if i < N' then some (H.size + 1 + i) else none)))))) else C x) ≠ (none : Option va_E) → (rb ≤ x ∧ x < rb + N') ∨ x = r0 ∨ (¬ (rb ≤ x ∧ x < rb + N') ∧ x ≠ r0 ∧ C x ≠ none ∧ ad x < H.size) := by
        intro x hx
        by_cases c1 : rb ≤ x ∧ x < rb + N'
        · exact Or.inl c1
        · rw [if_neg c1] at hx
          by_cases c2 : x = r0
          · exact Or.inr (Or.inl c2)
          · rw [if_neg c2] at hx
            refine Or.inr (Or.inr ⟨c1, c2, hx, ?_⟩)
            cases hc : C x with
            | none => exact absurd hc hx
            | some e => exact hlt x e hc
      dsimp only at hab
      rcases key a ha with q1 | q1 | ⟨q1, q2, q3, q4⟩ <;> rcases key b hb with w1 | w1 | ⟨w1, w2, w3, w4⟩
      · rw [if_pos q1, if_pos w1] at hab; omega
      · rw [if_pos q1, if_neg (by omega), if_pos w1] at hab; omega
      · rw [if_pos q1, if_neg w1, if_neg w2] at hab; omega
      · rw [if_neg (by omega), if_pos q1, if_pos w1] at hab; omega
      · omega
      · rw [if_neg (by omega), if_pos q1, if_neg w1, if_neg w2] at hab; omega
      · rw [if_neg q1, if_neg q2, if_pos w1] at hab; omega
      · rw [if_neg q1, if_neg q2, if_neg (by omega), if_pos w1] at hab; omega
      · rw [if_neg q1, if_neg q2, if_neg w1, if_neg w2] at hab
        exact hP.2 a b q3 w3 hab
  obtain ⟨t, a1, b1⟩ := kk H.size (fun i => H.size + 1 + i) F.heap hM ⟨by rw [f1]; have := hS.1; omega, fun x h1 h2 => (fo x (Nat.lt_of_lt_of_le h1 hS.1)).trans (hS.2.1 x h1 h2), hS.2.2⟩ F rfl X'
  refine ⟨t, step t ?_, b1⟩
  rw [show T.heap.size = H.size by rw [hT]]
  exact a1
end MNA
