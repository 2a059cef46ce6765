/-- the script's int at k, or 0 -/
def cw (L : Nat) (xs : Nat → Int32) (k : Int32) : Int32 := if k < nI L then xs k.toNatClampNeg else 0
def pcX (b L : Nat) (xs : Nat → Int32) (k : Int32) : Array Value → State → Prop := va_Pc [.ref b, .int k] (fun U => va_X b L xs U U.heap ∧ b < U.heap.size)
set_option maxHeartbeats 4000000 in
set_option maxRecDepth 100000 in
/-- cell(s, k) -/
theorem kL_cell (l : Launch) (b L : Nat) (xs : Nat → Int32) (hL : L ≤ 3586) (k : Int32) (j : Nat) (hj : j < 2 ^ 31) (hk : k = nI j) : Met l yL_cell wL_cell { frames := 0, cells := 0, slots := 0, locals := 0 } (pcX b L xs k) (vp_Si (fun r => r = cw L xs k)) 0 0 (fun _ => False) := by
  refine Met.ofW (cc := cL_cell) (maxL := 2) (ret := (some .int)) (by decide) rfl ?_
  intro p e s m args below meth c s₁ B hml hv
  obtain ⟨rfl, hX, hbl⟩ := hv
  have hx := B.exec
  have hb := B.bytes
  have hr := B.returns
  have hS : va_S (fun _ => False) s.heap s.heap [] := va_S.rf
  have hbA : ¬ (fun _ : Nat => False) b := fun h => h
  have hl := lv_entry ([.ref b, .int k]) (n := 2) (Nat.le_of_ble_eq_true rfl)
  rw [lg_entry_eq]
  generalize (lg_sl ([.ref b, .int k]) ++ List.replicate (2 - (lg_sl ([.ref b, .int k])).length) Slot.unset).toArray = ls at hl ⊢
  have hl : lv_has ls 2 [(0, .ref b), (1, .int k)] := hl
  obtain ⟨Q, hQ⟩ : ∃ Q, Q = MQ below (vp_Si (fun r => r = cw L xs k)) [.ref b, .int k].toArray s 0 0 (fun _ => False) := ⟨_, rfl⟩
  rw [← hQ]
  refine lv_iload_n hx hb dL_cell_0 rfl (lv_at hl 1 rfl) ?_
  refine lv_aload_n hx hb dL_cell_1 rfl (lv_at hl 0 rfl) ?_
  refine va_slen hx hb hX hbl hbA hS dL_cell_2 ?_
  refine lv_icmp_ge (tgt := 12) hx hb dL_cell_3 (by decide) (fun c3 => ?_) (fun c3 => ?_)
  · refine lv_iconst (v := 0) hx hb dL_cell_12 (by decide) ?_
    rw [hQ]
    exact W.iret (v := 0) hx hb hr (fun t9 ht9 _ => ⟨_, rfl, (if_neg (Int32.not_lt.mpr c3)).symm, ht9⟩) (fun q h => by cases h) dL_cell_13
  · have hjL : j < L := by
      rcases Nat.lt_or_ge j L with q | q
      · exact q
      · exact absurd (by rw [hk]; exact nI_le q hj) c3
    refine lv_aload_n hx hb dL_cell_6 rfl (lv_at hl 0 rfl) ?_
    refine lv_iload_n hx hb dL_cell_7 rfl (lv_at hl 1 rfl) ?_
    refine va_sld hx hb hX hbl hbA hS (by rw [hk]; exact vp_in_nI hjL (by omega)) dL_cell_8 ?_
    refine lv_goto (tgt := 13) hx hb dL_cell_9 (by decide) ?_
    rw [hQ]
    exact W.iret (v := xs k.toNatClampNeg) hx hb hr (fun t9 ht9 _ => ⟨_, rfl, (if_pos (Int32.not_le.mp c3)).symm, ht9⟩) (fun q h => by cases h) dL_cell_13
section RCX
variable {p : Program} {l : Launch} {e : Env} {R : Room} {s : State} {m : MethodId} {args : Array Value} {below : List Frame} {meth : Method} {c : Code} {H H0 : Heap} {locs : List Loc} {cells slots : Nat} {Q : State → Prop}
variable {cc : ByteArray} {pc : Nat} {ls : Array Slot} {rest : List Value} {nL idx b L lo : Nat} {xs : Nat → Int32}
/-- a call of cell -/
theorem rcX (S : CallFix p m c cc nL s args wA RL) (hL : L ≤ 3586) (hX : va_X b L xs s H0) (hbl : b < H0.size) (hbA : ¬ lo ≤ b) (hS : va_S (fun q => lo ≤ q) H0 H locs) {k : Int32} (j : Nat) (hj : j < 2 ^ 31) (hk : k = nI j)
    (h1 : Cond.methodLink RL idx yL_cell ∈ wA) (hR : 1 ≤ R.frames ∧ 21 ≤ R.locals) (hsize : ls.size = nL) (hW : (rest.map fun v => v.category).sum ≤ 8) (hdg : decode cc pc = .ok (.invokestatic idx, 3)) (hf : cells ≤ R.cells ∧ slots ≤ R.slots)
    (kk : W p l e R s m args below meth c H locs cells slots Q (F0 m (pc + 3) ls (.int (cw L xs k) :: rest))) : W p l e R s m args below meth c H locs cells slots Q (F0 m pc ls (.int k :: .ref b :: rest)) := by
  have hXH : va_X b L xs s H := hX.kept (hS.2.1 b hbl hbA)
  have hp : PreS s H (pcX b L xs k) [.ref b, .int k] := ⟨fun _ _ _ _ q => ⟨q.1, va_X.moved (Vm.Alike.refl _) q.2.1, q.2.2⟩, fun U hU hW => ⟨rfl, by rw [hU]; exact va_X.moved hW.alike hXH, by rw [hU]; exact Nat.lt_of_lt_of_le hbl hS.1⟩⟩
  refine vp_callSi (va_Run.run (va_runS (g := F0 m pc ls (.int k :: .ref b :: rest)) (As := [.ref b, .int k]) (rest := rest) S (kL_cell l b L xs hL k j hj hk) (va_cwS 2 S.2.2.2.2 (gS h1 stL_cell inL cdL_cell) rfl rfl rfl (by decide +kernel) hR) hp rfl rfl hsize rfl (lv_room hW) hdg hf)) (fun r hr => ?_)
  rw [hr]
  exact kk
end RCX
