/-- what holds wherever the law stands between two calls: i ints are read, both objects stand, in one state -/
def lcA (p : Program) (l : Launch) (e : Env) (s : State) (m : MethodId) (below : List Frame) (meth : Method) (c : Code) (b : Nat) (D : va_G) (cy : Nat → ClassId) (i pc cells slots : Nat) : Prop :=
  ∀ (ad : Nat → Nat) (z : zS) (ch : Nat → List Nat) (et : Nat → Nat) (mn : Nat → Int32) (gm : Nat → Nat) (H : Heap) (locs : List Loc), iv z ch et mn gm → mh D vwCl s.heap.size ad (zC cy ad z (yC cy ad z et mn gm (fun _ => none))) H → s.heap.size ≤ H.size → va_S (fun q => s.heap.size ≤ q) s.heap H locs → ∀ (ls : Array Slot), lv_has ls 4 [(0, .ref b), (1, .ref (ad 0)), (2, .ref (ad 1000)), (3, .int (nI i))] → W p l e room_1 s m #[Value.ref b] below meth c H locs cells slots (lw_Z below #[Value.ref b] s) (F0 m pc ls [])
theorem vp_ink {i L : Nat} (k : Nat) (h : i + k < L) (hL : L < 2 ^ 31) : vp_in (nI i + nI k) L := by
  rw [nI_add]
  exact vp_in_nI h hL
section LC
variable {p : Program} {e : Env} {s : State} {m : MethodId} {below : List Frame} {meth : Method} {c : Code} {b L i : Nat} {xs : Nat → Int32} {D : va_G} {cy : Nat → ClassId}

set_option maxHeartbeats 4000000 in
set_option maxRecDepth 100000 in
theorem lc_need (l : Launch) (hL : L ≤ 3586) (C0 : lw_At p s m meth c b L xs) (hK : kn D cy s) (hi : i + 7 ≤ L) (hT : lcA p l e s m below meth c b D cy i 814 (101 + i) (6005 + 5 * i)) : lcA p l e s m below meth c b D cy i 116 (100 + i) (6000 + 5 * i) := by
  obtain ⟨hx, hb, hr, hml, hown0, hts0, hX, hbl, hlocks, hgv⟩ := C0
  have hown : s.vm.findClass RL = some m.cls := hown0
  have hts : ∀ w ∈ wA, w.before #[Value.ref b] s = true := fun w h => hts0 w (wA_tbl w h)
  have hbA : ¬ (fun q : Nat => s.heap.size ≤ q) b := Nat.not_le.mpr hbl
  intro ad z ch et mn gm H locs hI hP hz hS ls hl
  obtain ⟨Q, hQ⟩ : ∃ Q, Q = lw_Z below #[Value.ref b] s := ⟨_, rfl⟩
  unfold lcA at hT
  rw [← hQ] at hT ⊢
  refine lv_aload_n hx hb dL_law_116 rfl (lv_at hl 1 rfl) ?_
  refine lv_aload_n hx hb dL_law_117 rfl (lv_at hl 0 rfl) ?_
  refine lv_iload_n hx hb dL_law_118 rfl (lv_at hl 3 rfl) ?_
  refine lv_iconst (v := 1) hx hb dL_law_119 (by decide) ?_
  refine lv_iadd hx hb dL_law_120 ?_
  refine va_sld hx hb hX hbl hbA hS (vp_ink 1 (by omega) (by omega)) dL_law_121 ?_
  refine lv_topi (fun x1 ex1 => ?_)
  refine lv_aload_n hx hb dL_law_122 rfl (lv_at hl 0 rfl) ?_
  refine lv_iload_n hx hb dL_law_123 rfl (lv_at hl 3 rfl) ?_
  refine lv_iconst (v := 2) hx hb dL_law_124 (by decide) ?_
  refine lv_iadd hx hb dL_law_125 ?_
  refine va_sld hx hb hX hbl hbA hS (vp_ink 2 (by omega) (by omega)) dL_law_126 ?_
  refine lv_topi (fun x2 ex2 => ?_)
  refine lv_aload_n hx hb dL_law_127 rfl (lv_at hl 0 rfl) ?_
  refine lv_iload_n hx hb dL_law_128 rfl (lv_at hl 3 rfl) ?_
  refine lv_iconst (v := 3) hx hb dL_law_129 (by decide) ?_
  refine lv_iadd hx hb dL_law_130 ?_
  refine va_sld hx hb hX hbl hbA hS (vp_ink 3 (by omega) (by omega)) dL_law_131 ?_
  refine lv_topi (fun x3 ex3 => ?_)
  refine rwV (n := 3) (As := [.int x1, .int x2, .int x3]) (rest := []) ⟨hx, hb, hml, hown, hts⟩ (kX1_need l D cy s.heap.size ad z (yC cy ad z et mn gm (fun _ => none)) ch hI.1 x1 x2 x3) mlL_21 imX1_need seX1_need inX1 cdX1_need (by decide +kernel) rfl rfl ⟨Nat.le_of_ble_eq_true rfl, Nat.le_of_ble_eq_true rfl⟩ hK hP hz rfl rfl hS rfl hl.1 rfl (Nat.le_of_ble_eq_true rfl) dL_law_132 ⟨by show 100 + i + 0 ≤ 600000; omega, by show 6000 + 5 * i + 0 ≤ 7302250; omega⟩ (fun r1 u H locs hp hP hz1 hS => ?_)
  have hz := Nat.le_trans hz hz1
  obtain ⟨ad1, z1, ch1, eu, ⟨hk1, he1, ha0, ha1⟩, hst⟩ := st_need hI hp
  rw [eu] at hP
  have hP : mh D vwCl s.heap.size ad1 (yC cy ad1 z et mn gm (zC cy ad1 z1 (fun _ => none))) H := mh_eq hP (fun r => zy_swap hk1 he1 r)
  rw [← ha0, ← ha1] at hl
  refine lv_aload_n hx hb dL_law_135 rfl (lv_at hl 2 rfl) ?_
  refine lv_aload_n hx hb dL_law_136 rfl (lv_at hl 0 rfl) ?_
  refine lv_iload_n hx hb dL_law_137 rfl (lv_at hl 3 rfl) ?_
  refine lv_iconst (v := 1) hx hb dL_law_138 (by decide) ?_
  refine lv_iadd hx hb dL_law_139 ?_
  refine va_sld hx hb hX hbl hbA hS (vp_ink 1 (by omega) (by omega)) dL_law_140 ?_
  rw [← ex1]
  refine lv_aload_n hx hb dL_law_141 rfl (lv_at hl 0 rfl) ?_
  refine lv_iload_n hx hb dL_law_142 rfl (lv_at hl 3 rfl) ?_
  refine lv_iconst (v := 2) hx hb dL_law_143 (by decide) ?_
  refine lv_iadd hx hb dL_law_144 ?_
  refine va_sld hx hb hX hbl hbA hS (vp_ink 2 (by omega) (by omega)) dL_law_145 ?_
  rw [← ex2]
  refine lv_aload_n hx hb dL_law_146 rfl (lv_at hl 0 rfl) ?_
  refine lv_iload_n hx hb dL_law_147 rfl (lv_at hl 3 rfl) ?_
  refine lv_iconst (v := 3) hx hb dL_law_148 (by decide) ?_
  refine lv_iadd hx hb dL_law_149 ?_
  refine va_sld hx hb hX hbl hbA hS (vp_ink 3 (by omega) (by omega)) dL_law_150 ?_
  rw [← ex3]
  refine rwV (n := 3) (As := [.int x1, .int x2, .int x3]) (rest := [.int r1]) ⟨hx, hb, hml, hown, hts⟩ (kX2_need l D cy s.heap.size ad1 z et mn gm (zC cy ad1 z1 (fun _ => none)) ch hI.1 hI.2 x1 x2 x3) mlL_25 imX2_need seX2_need inX2 cdX2_need (by decide +kernel) rfl rfl ⟨Nat.le_of_ble_eq_true rfl, Nat.le_of_ble_eq_true rfl⟩ hK hP hz rfl rfl hS rfl hl.1 rfl (Nat.le_of_ble_eq_true rfl) dL_law_151 ⟨by show 100 + i + 0 + 0 ≤ 600000; omega, by show 6000 + 5 * i + 0 + 0 ≤ 7302250; omega⟩ (fun r2 u2 H locs hp2 hP hz2 hS => ?_)
  have hz := Nat.le_trans hz hz2
  obtain ⟨er, et2, mn2, gm2, hI2, eu2⟩ := hst r2 u2 hp2
  rw [eu2] at hP
  refine lv_icmp_eq (tgt := 814) hx hb dL_law_154 (by decide) (fun cq => ?_) (fun cq => ?_)
  · refine W.widen (k := 101 + i) (n := 6005 + 5 * i) (by omega) (by omega) ?_
    exact hT ad1 z1 ch1 et2 mn2 gm2 H locs hI2 (mh_eq hP (fun r => (zy_swap hk1 he1 r).symm)) hz hS ls (lv_sub hl [0, 1, 2, 3] rfl)
  · exact absurd er.symm cq
set_option maxHeartbeats 4000000 in
set_option maxRecDepth 100000 in
theorem lc_hours (l : Launch) (hL : L ≤ 3586) (C0 : lw_At p s m meth c b L xs) (hK : kn D cy s) (hi : i + 7 ≤ L) (hT : lcA p l e s m below meth c b D cy i 814 (101 + i) (6005 + 5 * i)) : lcA p l e s m below meth c b D cy i 159 (100 + i) (6000 + 5 * i) := by
  obtain ⟨hx, hb, hr, hml, hown0, hts0, hX, hbl, hlocks, hgv⟩ := C0
  have hown : s.vm.findClass RL = some m.cls := hown0
  have hts : ∀ w ∈ wA, w.before #[Value.ref b] s = true := fun w h => hts0 w (wA_tbl w h)
  have hbA : ¬ (fun q : Nat => s.heap.size ≤ q) b := Nat.not_le.mpr hbl
  intro ad z ch et mn gm H locs hI hP hz hS ls hl
  obtain ⟨Q, hQ⟩ : ∃ Q, Q = lw_Z below #[Value.ref b] s := ⟨_, rfl⟩
  unfold lcA at hT
  rw [← hQ] at hT ⊢
  refine lv_aload_n hx hb dL_law_159 rfl (lv_at hl 1 rfl) ?_
  refine lv_aload_n hx hb dL_law_160 rfl (lv_at hl 0 rfl) ?_
  refine lv_iload_n hx hb dL_law_161 rfl (lv_at hl 3 rfl) ?_
  refine lv_iconst (v := 1) hx hb dL_law_162 (by decide) ?_
  refine lv_iadd hx hb dL_law_163 ?_
  refine va_sld hx hb hX hbl hbA hS (vp_ink 1 (by omega) (by omega)) dL_law_164 ?_
  refine lv_topi (fun x1 ex1 => ?_)
  refine lv_aload_n hx hb dL_law_165 rfl (lv_at hl 0 rfl) ?_
  refine lv_iload_n hx hb dL_law_166 rfl (lv_at hl 3 rfl) ?_
  refine lv_iconst (v := 2) hx hb dL_law_167 (by decide) ?_
  refine lv_iadd hx hb dL_law_168 ?_
  refine va_sld hx hb hX hbl hbA hS (vp_ink 2 (by omega) (by omega)) dL_law_169 ?_
  refine lv_topi (fun x2 ex2 => ?_)
  refine lv_aload_n hx hb dL_law_170 rfl (lv_at hl 0 rfl) ?_
  refine lv_iload_n hx hb dL_law_171 rfl (lv_at hl 3 rfl) ?_
  refine lv_iconst (v := 3) hx hb dL_law_172 (by decide) ?_
  refine lv_iadd hx hb dL_law_173 ?_
  refine va_sld hx hb hX hbl hbA hS (vp_ink 3 (by omega) (by omega)) dL_law_174 ?_
  refine lv_topi (fun x3 ex3 => ?_)
  refine rwV (n := 3) (As := [.int x1, .int x2, .int x3]) (rest := []) ⟨hx, hb, hml, hown, hts⟩ (kX1_hours l D cy s.heap.size ad z (yC cy ad z et mn gm (fun _ => none)) ch hI.1 x1 x2 x3) mlL_26 imX1_hours seX1_hours inX1 cdX1_hours (by decide +kernel) rfl rfl ⟨Nat.le_of_ble_eq_true rfl, Nat.le_of_ble_eq_true rfl⟩ hK hP hz rfl rfl hS rfl hl.1 rfl (Nat.le_of_ble_eq_true rfl) dL_law_175 ⟨by show 100 + i + 0 ≤ 600000; omega, by show 6000 + 5 * i + 0 ≤ 7302250; omega⟩ (fun r1 u H locs hp hP hz1 hS => ?_)
  have hz := Nat.le_trans hz hz1
  obtain ⟨ad1, z1, ch1, eu, ⟨hk1, he1, ha0, ha1⟩, hst⟩ := st_hours hI hp
  rw [eu] at hP
  have hP : mh D vwCl s.heap.size ad1 (yC cy ad1 z et mn gm (zC cy ad1 z1 (fun _ => none))) H := mh_eq hP (fun r => zy_swap hk1 he1 r)
  rw [← ha0, ← ha1] at hl
  refine lv_aload_n hx hb dL_law_178 rfl (lv_at hl 2 rfl) ?_
  refine lv_aload_n hx hb dL_law_179 rfl (lv_at hl 0 rfl) ?_
  refine lv_iload_n hx hb dL_law_180 rfl (lv_at hl 3 rfl) ?_
  refine lv_iconst (v := 1) hx hb dL_law_181 (by decide) ?_
  refine lv_iadd hx hb dL_law_182 ?_
  refine va_sld hx hb hX hbl hbA hS (vp_ink 1 (by omega) (by omega)) dL_law_183 ?_
  rw [← ex1]
  refine lv_aload_n hx hb dL_law_184 rfl (lv_at hl 0 rfl) ?_
  refine lv_iload_n hx hb dL_law_185 rfl (lv_at hl 3 rfl) ?_
  refine lv_iconst (v := 2) hx hb dL_law_186 (by decide) ?_
  refine lv_iadd hx hb dL_law_187 ?_
  refine va_sld hx hb hX hbl hbA hS (vp_ink 2 (by omega) (by omega)) dL_law_188 ?_
  rw [← ex2]
  refine lv_aload_n hx hb dL_law_189 rfl (lv_at hl 0 rfl) ?_
  refine lv_iload_n hx hb dL_law_190 rfl (lv_at hl 3 rfl) ?_
  refine lv_iconst (v := 3) hx hb dL_law_191 (by decide) ?_
  refine lv_iadd hx hb dL_law_192 ?_
  refine va_sld hx hb hX hbl hbA hS (vp_ink 3 (by omega) (by omega)) dL_law_193 ?_
  rw [← ex3]
  refine rwV (n := 3) (As := [.int x1, .int x2, .int x3]) (rest := [.int r1]) ⟨hx, hb, hml, hown, hts⟩ (kX2_hours l D cy s.heap.size ad1 z et mn gm (zC cy ad1 z1 (fun _ => none)) ch hI.1 hI.2 x1 x2 x3) mlL_29 imX2_hours seX2_hours inX2 cdX2_hours (by decide +kernel) rfl rfl ⟨Nat.le_of_ble_eq_true rfl, Nat.le_of_ble_eq_true rfl⟩ hK hP hz rfl rfl hS rfl hl.1 rfl (Nat.le_of_ble_eq_true rfl) dL_law_194 ⟨by show 100 + i + 0 + 0 ≤ 600000; omega, by show 6000 + 5 * i + 0 + 0 ≤ 7302250; omega⟩ (fun r2 u2 H locs hp2 hP hz2 hS => ?_)
  have hz := Nat.le_trans hz hz2
  obtain ⟨er, et2, mn2, gm2, hI2, eu2⟩ := hst r2 u2 hp2
  rw [eu2] at hP
  refine lv_icmp_eq (tgt := 814) hx hb dL_law_197 (by decide) (fun cq => ?_) (fun cq => ?_)
  · refine W.widen (k := 101 + i) (n := 6005 + 5 * i) (by omega) (by omega) ?_
    exact hT ad1 z1 ch1 et2 mn2 gm2 H locs hI2 (mh_eq hP (fun r => (zy_swap hk1 he1 r).symm)) hz hS ls (lv_sub hl [0, 1, 2, 3] rfl)
  · exact absurd er.symm cq
set_option maxHeartbeats 4000000 in
set_option maxRecDepth 100000 in
theorem lc_thing (l : Launch) (hL : L ≤ 3586) (C0 : lw_At p s m meth c b L xs) (hK : kn D cy s) (hi : i + 7 ≤ L) (hT : lcA p l e s m below meth c b D cy i 814 (101 + i) (6005 + 5 * i)) : lcA p l e s m below meth c b D cy i 202 (100 + i) (6000 + 5 * i) := by
  obtain ⟨hx, hb, hr, hml, hown0, hts0, hX, hbl, hlocks, hgv⟩ := C0
  have hown : s.vm.findClass RL = some m.cls := hown0
  have hts : ∀ w ∈ wA, w.before #[Value.ref b] s = true := fun w h => hts0 w (wA_tbl w h)
  have hbA : ¬ (fun q : Nat => s.heap.size ≤ q) b := Nat.not_le.mpr hbl
  intro ad z ch et mn gm H locs hI hP hz hS ls hl
  obtain ⟨Q, hQ⟩ : ∃ Q, Q = lw_Z below #[Value.ref b] s := ⟨_, rfl⟩
  unfold lcA at hT
  rw [← hQ] at hT ⊢
  refine lv_aload_n hx hb dL_law_202 rfl (lv_at hl 1 rfl) ?_
  refine rwV (n := 0) (As := []) (rest := []) ⟨hx, hb, hml, hown, hts⟩ (kX1_thing l D cy s.heap.size ad z (yC cy ad z et mn gm (fun _ => none)) ch hI.1 ) mlL_30 imX1_thing seX1_thing inX1 cdX1_thing (by decide +kernel) rfl rfl ⟨Nat.le_of_ble_eq_true rfl, Nat.le_of_ble_eq_true rfl⟩ hK hP hz rfl rfl hS rfl hl.1 rfl (Nat.le_of_ble_eq_true rfl) dL_law_203 ⟨by show 100 + i + 0 ≤ 600000; omega, by show 6000 + 5 * i + 0 ≤ 7302250; omega⟩ (fun r1 u H locs hp hP hz1 hS => ?_)
  have hz := Nat.le_trans hz hz1
  obtain ⟨ad1, z1, ch1, eu, ⟨hk1, he1, ha0, ha1⟩, hst⟩ := st_thing hI hp
  rw [eu] at hP
  have hP : mh D vwCl s.heap.size ad1 (yC cy ad1 z et mn gm (zC cy ad1 z1 (fun _ => none))) H := mh_eq hP (fun r => zy_swap hk1 he1 r)
  rw [← ha0, ← ha1] at hl
  refine lv_aload_n hx hb dL_law_206 rfl (lv_at hl 2 rfl) ?_
  refine rwV (n := 0) (As := []) (rest := [.int r1]) ⟨hx, hb, hml, hown, hts⟩ (kX2_thing l D cy s.heap.size ad1 z et mn gm (zC cy ad1 z1 (fun _ => none)) ch hI.1 hI.2 ) mlL_34 imX2_thing seX2_thing inX2 cdX2_thing (by decide +kernel) rfl rfl ⟨Nat.le_of_ble_eq_true rfl, Nat.le_of_ble_eq_true rfl⟩ hK hP hz rfl rfl hS rfl hl.1 rfl (Nat.le_of_ble_eq_true rfl) dL_law_207 ⟨by show 100 + i + 0 + 0 ≤ 600000; omega, by show 6000 + 5 * i + 0 + 0 ≤ 7302250; omega⟩ (fun r2 u2 H locs hp2 hP hz2 hS => ?_)
  have hz := Nat.le_trans hz hz2
  obtain ⟨er, et2, mn2, gm2, hI2, eu2⟩ := hst r2 u2 hp2
  rw [eu2] at hP
  refine lv_icmp_eq (tgt := 814) hx hb dL_law_210 (by decide) (fun cq => ?_) (fun cq => ?_)
  · refine W.widen (k := 101 + i) (n := 6005 + 5 * i) (by omega) (by omega) ?_
    exact hT ad1 z1 ch1 et2 mn2 gm2 H locs hI2 (mh_eq hP (fun r => (zy_swap hk1 he1 r).symm)) hz hS ls (lv_sub hl [0, 1, 2, 3] rfl)
  · exact absurd er.symm cq
set_option maxHeartbeats 4000000 in
set_option maxRecDepth 100000 in
theorem lc_joinPipe (l : Launch) (hL : L ≤ 3586) (C0 : lw_At p s m meth c b L xs) (hK : kn D cy s) (hi : i + 7 ≤ L) (hT : lcA p l e s m below meth c b D cy i 814 (101 + i) (6005 + 5 * i)) : lcA p l e s m below meth c b D cy i 215 (100 + i) (6000 + 5 * i) := by
  obtain ⟨hx, hb, hr, hml, hown0, hts0, hX, hbl, hlocks, hgv⟩ := C0
  have hown : s.vm.findClass RL = some m.cls := hown0
  have hts : ∀ w ∈ wA, w.before #[Value.ref b] s = true := fun w h => hts0 w (wA_tbl w h)
  have hbA : ¬ (fun q : Nat => s.heap.size ≤ q) b := Nat.not_le.mpr hbl
  intro ad z ch et mn gm H locs hI hP hz hS ls hl
  obtain ⟨Q, hQ⟩ : ∃ Q, Q = lw_Z below #[Value.ref b] s := ⟨_, rfl⟩
  unfold lcA at hT
  rw [← hQ] at hT ⊢
  refine lv_aload_n hx hb dL_law_215 rfl (lv_at hl 1 rfl) ?_
  refine lv_aload_n hx hb dL_law_216 rfl (lv_at hl 0 rfl) ?_
  refine lv_iload_n hx hb dL_law_217 rfl (lv_at hl 3 rfl) ?_
  refine lv_iconst (v := 1) hx hb dL_law_218 (by decide) ?_
  refine lv_iadd hx hb dL_law_219 ?_
  refine va_sld hx hb hX hbl hbA hS (vp_ink 1 (by omega) (by omega)) dL_law_220 ?_
  refine lv_topi (fun x1 ex1 => ?_)
  refine lv_aload_n hx hb dL_law_221 rfl (lv_at hl 0 rfl) ?_
  refine lv_iload_n hx hb dL_law_222 rfl (lv_at hl 3 rfl) ?_
  refine lv_iconst (v := 2) hx hb dL_law_223 (by decide) ?_
  refine lv_iadd hx hb dL_law_224 ?_
  refine va_sld hx hb hX hbl hbA hS (vp_ink 2 (by omega) (by omega)) dL_law_225 ?_
  refine lv_topi (fun x2 ex2 => ?_)
  refine rwV (n := 2) (As := [.int x1, .int x2]) (rest := []) ⟨hx, hb, hml, hown, hts⟩ (kX1_joinPipe l D cy s.heap.size ad z (yC cy ad z et mn gm (fun _ => none)) ch hI.1 x1 x2) mlL_35 imX1_joinPipe seX1_joinPipe inX1 cdX1_joinPipe (by decide +kernel) rfl rfl ⟨Nat.le_of_ble_eq_true rfl, Nat.le_of_ble_eq_true rfl⟩ hK hP hz rfl rfl hS rfl hl.1 rfl (Nat.le_of_ble_eq_true rfl) dL_law_226 ⟨by show 100 + i + 0 ≤ 600000; omega, by show 6000 + 5 * i + 0 ≤ 7302250; omega⟩ (fun r1 u H locs hp hP hz1 hS => ?_)
  have hz := Nat.le_trans hz hz1
  obtain ⟨ad1, z1, ch1, eu, ⟨hk1, he1, ha0, ha1⟩, hst⟩ := st_joinPipe hI hp
  rw [eu] at hP
  have hP : mh D vwCl s.heap.size ad1 (yC cy ad1 z et mn gm (zC cy ad1 z1 (fun _ => none))) H := mh_eq hP (fun r => zy_swap hk1 he1 r)
  rw [← ha0, ← ha1] at hl
  refine lv_aload_n hx hb dL_law_229 rfl (lv_at hl 2 rfl) ?_
  refine lv_aload_n hx hb dL_law_230 rfl (lv_at hl 0 rfl) ?_
  refine lv_iload_n hx hb dL_law_231 rfl (lv_at hl 3 rfl) ?_
  refine lv_iconst (v := 1) hx hb dL_law_232 (by decide) ?_
  refine lv_iadd hx hb dL_law_233 ?_
  refine va_sld hx hb hX hbl hbA hS (vp_ink 1 (by omega) (by omega)) dL_law_234 ?_
  rw [← ex1]
  refine lv_aload_n hx hb dL_law_235 rfl (lv_at hl 0 rfl) ?_
  refine lv_iload_n hx hb dL_law_236 rfl (lv_at hl 3 rfl) ?_
  refine lv_iconst (v := 2) hx hb dL_law_237 (by decide) ?_
  refine lv_iadd hx hb dL_law_238 ?_
  refine va_sld hx hb hX hbl hbA hS (vp_ink 2 (by omega) (by omega)) dL_law_239 ?_
  rw [← ex2]
  refine rwV (n := 2) (As := [.int x1, .int x2]) (rest := [.int r1]) ⟨hx, hb, hml, hown, hts⟩ (kX2_joinPipe l D cy s.heap.size ad1 z et mn gm (zC cy ad1 z1 (fun _ => none)) ch hI.1 hI.2 x1 x2) mlL_39 imX2_joinPipe seX2_joinPipe inX2 cdX2_joinPipe (by decide +kernel) rfl rfl ⟨Nat.le_of_ble_eq_true rfl, Nat.le_of_ble_eq_true rfl⟩ hK hP hz rfl rfl hS rfl hl.1 rfl (Nat.le_of_ble_eq_true rfl) dL_law_240 ⟨by show 100 + i + 0 + 0 ≤ 600000; omega, by show 6000 + 5 * i + 0 + 0 ≤ 7302250; omega⟩ (fun r2 u2 H locs hp2 hP hz2 hS => ?_)
  have hz := Nat.le_trans hz hz2
  obtain ⟨er, et2, mn2, gm2, hI2, eu2⟩ := hst r2 u2 hp2
  rw [eu2] at hP
  refine lv_icmp_eq (tgt := 814) hx hb dL_law_243 (by decide) (fun cq => ?_) (fun cq => ?_)
  · refine W.widen (k := 101 + i) (n := 6005 + 5 * i) (by omega) (by omega) ?_
    exact hT ad1 z1 ch1 et2 mn2 gm2 H locs hI2 (mh_eq hP (fun r => (zy_swap hk1 he1 r).symm)) hz hS ls (lv_sub hl [0, 1, 2, 3] rfl)
  · exact absurd er.symm cq
set_option maxHeartbeats 4000000 in
set_option maxRecDepth 100000 in
theorem lc_held (l : Launch) (hL : L ≤ 3586) (C0 : lw_At p s m meth c b L xs) (hK : kn D cy s) (hi : i + 7 ≤ L) (hT : lcA p l e s m below meth c b D cy i 814 (101 + i) (6005 + 5 * i)) : lcA p l e s m below meth c b D cy i 248 (100 + i) (6000 + 5 * i) := by
  obtain ⟨hx, hb, hr, hml, hown0, hts0, hX, hbl, hlocks, hgv⟩ := C0
  have hown : s.vm.findClass RL = some m.cls := hown0
  have hts : ∀ w ∈ wA, w.before #[Value.ref b] s = true := fun w h => hts0 w (wA_tbl w h)
  have hbA : ¬ (fun q : Nat => s.heap.size ≤ q) b := Nat.not_le.mpr hbl
  intro ad z ch et mn gm H locs hI hP hz hS ls hl
  obtain ⟨Q, hQ⟩ : ∃ Q, Q = lw_Z below #[Value.ref b] s := ⟨_, rfl⟩
  unfold lcA at hT
  rw [← hQ] at hT ⊢
  refine lv_aload_n hx hb dL_law_248 rfl (lv_at hl 1 rfl) ?_
  refine lv_aload_n hx hb dL_law_249 rfl (lv_at hl 0 rfl) ?_
  refine lv_iload_n hx hb dL_law_250 rfl (lv_at hl 3 rfl) ?_
  refine lv_iconst (v := 1) hx hb dL_law_251 (by decide) ?_
  refine lv_iadd hx hb dL_law_252 ?_
  refine va_sld hx hb hX hbl hbA hS (vp_ink 1 (by omega) (by omega)) dL_law_253 ?_
  refine lv_topi (fun x1 ex1 => ?_)
  refine lv_aload_n hx hb dL_law_254 rfl (lv_at hl 0 rfl) ?_
  refine lv_iload_n hx hb dL_law_255 rfl (lv_at hl 3 rfl) ?_
  refine lv_iconst (v := 2) hx hb dL_law_256 (by decide) ?_
  refine lv_iadd hx hb dL_law_257 ?_
  refine va_sld hx hb hX hbl hbA hS (vp_ink 2 (by omega) (by omega)) dL_law_258 ?_
  refine lv_topi (fun x2 ex2 => ?_)
  refine lv_aload_n hx hb dL_law_259 rfl (lv_at hl 0 rfl) ?_
  refine lv_iload_n hx hb dL_law_260 rfl (lv_at hl 3 rfl) ?_
  refine lv_iconst (v := 3) hx hb dL_law_261 (by decide) ?_
  refine lv_iadd hx hb dL_law_262 ?_
  refine va_sld hx hb hX hbl hbA hS (vp_ink 3 (by omega) (by omega)) dL_law_263 ?_
  refine lv_topi (fun x3 ex3 => ?_)
  refine lv_i2l (v := (x3.toInt64)) hx hb dL_law_264 rfl ?_
  refine lv_bipush (v := 32) hx hb dL_law_265 (by decide) ?_
  refine lv_lshl (v := ((x3.toInt64) <<< (((32 : Int32)).toInt64 &&& 63))) hx hb dL_law_267 rfl ?_
  refine lv_aload_n hx hb dL_law_268 rfl (lv_at hl 0 rfl) ?_
  refine lv_iload_n hx hb dL_law_269 rfl (lv_at hl 3 rfl) ?_
  refine lv_iconst (v := 4) hx hb dL_law_270 (by decide) ?_
  refine lv_iadd hx hb dL_law_271 ?_
  refine va_sld hx hb hX hbl hbA hS (vp_ink 4 (by omega) (by omega)) dL_law_272 ?_
  refine lv_topi (fun x4 ex4 => ?_)
  refine lv_i2l (v := (x4.toInt64)) hx hb dL_law_273 rfl ?_
  refine lv_ldc2 (v := 4294967295) hx hb hown (hts _ ctL_40) dL_law_274 ?_
  refine lv_land hx hb dL_law_277 ?_
  refine lv_lor hx hb dL_law_278 ?_
  refine lv_topl (fun h5 eh5 => ?_)
  refine rwV (n := 3) (As := [.int x1, .int x2, .long h5]) (rest := []) ⟨hx, hb, hml, hown, hts⟩ (kX1_held l D cy s.heap.size ad z (yC cy ad z et mn gm (fun _ => none)) ch hI.1 (fun r hr => yC_lo hr) x1 x2 h5) mlL_42 imX1_held seX1_held inX1 cdX1_held (by decide +kernel) rfl rfl ⟨Nat.le_of_ble_eq_true rfl, Nat.le_of_ble_eq_true rfl⟩ hK hP hz rfl rfl hS rfl hl.1 rfl (Nat.le_of_ble_eq_true rfl) dL_law_279 ⟨by show 100 + i + 1 ≤ 600000; omega, by show 6000 + 5 * i + 5 ≤ 7302250; omega⟩ (fun r1 u H locs hp hP hz1 hS => ?_)
  have hz := Nat.le_trans hz hz1
  obtain ⟨ad1, z1, ch1, eu, ⟨hk1, he1, ha0, ha1⟩, hst⟩ := st_held hI hp
  rw [eu] at hP
  have hP : mh D vwCl s.heap.size ad1 (yC cy ad1 z et mn gm (zC cy ad1 z1 (fun _ => none))) H := mh_eq hP (fun r => zy_swap hk1 he1 r)
  rw [← ha0, ← ha1] at hl
  refine lv_aload_n hx hb dL_law_282 rfl (lv_at hl 2 rfl) ?_
  refine lv_aload_n hx hb dL_law_283 rfl (lv_at hl 0 rfl) ?_
  refine lv_iload_n hx hb dL_law_284 rfl (lv_at hl 3 rfl) ?_
  refine lv_iconst (v := 1) hx hb dL_law_285 (by decide) ?_
  refine lv_iadd hx hb dL_law_286 ?_
  refine va_sld hx hb hX hbl hbA hS (vp_ink 1 (by omega) (by omega)) dL_law_287 ?_
  rw [← ex1]
  refine lv_aload_n hx hb dL_law_288 rfl (lv_at hl 0 rfl) ?_
  refine lv_iload_n hx hb dL_law_289 rfl (lv_at hl 3 rfl) ?_
  refine lv_iconst (v := 2) hx hb dL_law_290 (by decide) ?_
  refine lv_iadd hx hb dL_law_291 ?_
  refine va_sld hx hb hX hbl hbA hS (vp_ink 2 (by omega) (by omega)) dL_law_292 ?_
  rw [← ex2]
  refine lv_aload_n hx hb dL_law_293 rfl (lv_at hl 0 rfl) ?_
  refine lv_iload_n hx hb dL_law_294 rfl (lv_at hl 3 rfl) ?_
  refine lv_iconst (v := 3) hx hb dL_law_295 (by decide) ?_
  refine lv_iadd hx hb dL_law_296 ?_
  refine va_sld hx hb hX hbl hbA hS (vp_ink 3 (by omega) (by omega)) dL_law_297 ?_
  rw [← ex3]
  refine lv_i2l (v := (x3.toInt64)) hx hb dL_law_298 rfl ?_
  refine lv_bipush (v := 32) hx hb dL_law_299 (by decide) ?_
  refine lv_lshl (v := ((x3.toInt64) <<< (((32 : Int32)).toInt64 &&& 63))) hx hb dL_law_301 rfl ?_
  refine lv_aload_n hx hb dL_law_302 rfl (lv_at hl 0 rfl) ?_
  refine lv_iload_n hx hb dL_law_303 rfl (lv_at hl 3 rfl) ?_
  refine lv_iconst (v := 4) hx hb dL_law_304 (by decide) ?_
  refine lv_iadd hx hb dL_law_305 ?_
  refine va_sld hx hb hX hbl hbA hS (vp_ink 4 (by omega) (by omega)) dL_law_306 ?_
  rw [← ex4]
  refine lv_i2l (v := (x4.toInt64)) hx hb dL_law_307 rfl ?_
  refine lv_ldc2 (v := 4294967295) hx hb hown (hts _ ctL_40) dL_law_308 ?_
  refine lv_land hx hb dL_law_311 ?_
  refine lv_lor hx hb dL_law_312 ?_
  rw [← eh5]
  refine rwV (n := 3) (As := [.int x1, .int x2, .long h5]) (rest := [.int r1]) ⟨hx, hb, hml, hown, hts⟩ (kX2_held l D cy s.heap.size ad1 z et mn gm (zC cy ad1 z1 (fun _ => none)) ch hI.1 hI.2 x1 x2 h5) mlL_46 imX2_held seX2_held inX2 cdX2_held (by decide +kernel) rfl rfl ⟨Nat.le_of_ble_eq_true rfl, Nat.le_of_ble_eq_true rfl⟩ hK hP hz rfl rfl hS rfl hl.1 rfl (Nat.le_of_ble_eq_true rfl) dL_law_313 ⟨by show 100 + i + 1 + 0 ≤ 600000; omega, by show 6000 + 5 * i + 5 + 0 ≤ 7302250; omega⟩ (fun r2 u2 H locs hp2 hP hz2 hS => ?_)
  have hz := Nat.le_trans hz hz2
  obtain ⟨er, et2, mn2, gm2, hI2, eu2⟩ := hst r2 u2 hp2
  rw [eu2] at hP
  refine lv_icmp_eq (tgt := 814) hx hb dL_law_316 (by decide) (fun cq => ?_) (fun cq => ?_)
  · refine W.widen (k := 101 + i) (n := 6005 + 5 * i) (by omega) (by omega) ?_
    exact hT ad1 z1 ch1 et2 mn2 gm2 H locs hI2 (mh_eq hP (fun r => (zy_swap hk1 he1 r).symm)) hz hS ls (lv_sub hl [0, 1, 2, 3] rfl)
  · exact absurd er.symm cq
set_option maxHeartbeats 4000000 in
set_option maxRecDepth 100000 in
theorem lc_cleaned (l : Launch) (hL : L ≤ 3586) (C0 : lw_At p s m meth c b L xs) (hK : kn D cy s) (hi : i + 7 ≤ L) (hT : lcA p l e s m below meth c b D cy i 814 (101 + i) (6005 + 5 * i)) : lcA p l e s m below meth c b D cy i 321 (100 + i) (6000 + 5 * i) := by
  obtain ⟨hx, hb, hr, hml, hown0, hts0, hX, hbl, hlocks, hgv⟩ := C0
  have hown : s.vm.findClass RL = some m.cls := hown0
  have hts : ∀ w ∈ wA, w.before #[Value.ref b] s = true := fun w h => hts0 w (wA_tbl w h)
  have hbA : ¬ (fun q : Nat => s.heap.size ≤ q) b := Nat.not_le.mpr hbl
  intro ad z ch et mn gm H locs hI hP hz hS ls hl
  obtain ⟨Q, hQ⟩ : ∃ Q, Q = lw_Z below #[Value.ref b] s := ⟨_, rfl⟩
  unfold lcA at hT
  rw [← hQ] at hT ⊢
  refine lv_aload_n hx hb dL_law_321 rfl (lv_at hl 1 rfl) ?_
  refine lv_aload_n hx hb dL_law_322 rfl (lv_at hl 0 rfl) ?_
  refine lv_iload_n hx hb dL_law_323 rfl (lv_at hl 3 rfl) ?_
  refine lv_iconst (v := 1) hx hb dL_law_324 (by decide) ?_
  refine lv_iadd hx hb dL_law_325 ?_
  refine va_sld hx hb hX hbl hbA hS (vp_ink 1 (by omega) (by omega)) dL_law_326 ?_
  refine lv_topi (fun x1 ex1 => ?_)
  refine lv_aload_n hx hb dL_law_327 rfl (lv_at hl 0 rfl) ?_
  refine lv_iload_n hx hb dL_law_328 rfl (lv_at hl 3 rfl) ?_
  refine lv_iconst (v := 2) hx hb dL_law_329 (by decide) ?_
  refine lv_iadd hx hb dL_law_330 ?_
  refine va_sld hx hb hX hbl hbA hS (vp_ink 2 (by omega) (by omega)) dL_law_331 ?_
  refine lv_topi (fun x2 ex2 => ?_)
  refine lv_aload_n hx hb dL_law_332 rfl (lv_at hl 0 rfl) ?_
  refine lv_iload_n hx hb dL_law_333 rfl (lv_at hl 3 rfl) ?_
  refine lv_iconst (v := 3) hx hb dL_law_334 (by decide) ?_
  refine lv_iadd hx hb dL_law_335 ?_
  refine va_sld hx hb hX hbl hbA hS (vp_ink 3 (by omega) (by omega)) dL_law_336 ?_
  refine lv_topi (fun x3 ex3 => ?_)
  refine lv_i2l (v := (x3.toInt64)) hx hb dL_law_337 rfl ?_
  refine lv_bipush (v := 32) hx hb dL_law_338 (by decide) ?_
  refine lv_lshl (v := ((x3.toInt64) <<< (((32 : Int32)).toInt64 &&& 63))) hx hb dL_law_340 rfl ?_
  refine lv_aload_n hx hb dL_law_341 rfl (lv_at hl 0 rfl) ?_
  refine lv_iload_n hx hb dL_law_342 rfl (lv_at hl 3 rfl) ?_
  refine lv_iconst (v := 4) hx hb dL_law_343 (by decide) ?_
  refine lv_iadd hx hb dL_law_344 ?_
  refine va_sld hx hb hX hbl hbA hS (vp_ink 4 (by omega) (by omega)) dL_law_345 ?_
  refine lv_topi (fun x4 ex4 => ?_)
  refine lv_i2l (v := (x4.toInt64)) hx hb dL_law_346 rfl ?_
  refine lv_ldc2 (v := 4294967295) hx hb hown (hts _ ctL_40) dL_law_347 ?_
  refine lv_land hx hb dL_law_350 ?_
  refine lv_lor hx hb dL_law_351 ?_
  refine lv_topl (fun h5 eh5 => ?_)
  refine rwV (n := 3) (As := [.int x1, .int x2, .long h5]) (rest := []) ⟨hx, hb, hml, hown, hts⟩ (kX1_cleaned l D cy s.heap.size ad z (yC cy ad z et mn gm (fun _ => none)) ch hI.1 (fun r hr => yC_lo hr) x1 x2 h5) mlL_47 imX1_cleaned seX1_cleaned inX1 cdX1_cleaned (by decide +kernel) rfl rfl ⟨Nat.le_of_ble_eq_true rfl, Nat.le_of_ble_eq_true rfl⟩ hK hP hz rfl rfl hS rfl hl.1 rfl (Nat.le_of_ble_eq_true rfl) dL_law_352 ⟨by show 100 + i + 1 ≤ 600000; omega, by show 6000 + 5 * i + 5 ≤ 7302250; omega⟩ (fun r1 u H locs hp hP hz1 hS => ?_)
  have hz := Nat.le_trans hz hz1
  obtain ⟨ad1, z1, ch1, eu, ⟨hk1, he1, ha0, ha1⟩, hst⟩ := st_cleaned hI hp
  rw [eu] at hP
  have hP : mh D vwCl s.heap.size ad1 (yC cy ad1 z et mn gm (zC cy ad1 z1 (fun _ => none))) H := mh_eq hP (fun r => zy_swap hk1 he1 r)
  rw [← ha0, ← ha1] at hl
  refine lv_aload_n hx hb dL_law_355 rfl (lv_at hl 2 rfl) ?_
  refine lv_aload_n hx hb dL_law_356 rfl (lv_at hl 0 rfl) ?_
  refine lv_iload_n hx hb dL_law_357 rfl (lv_at hl 3 rfl) ?_
  refine lv_iconst (v := 1) hx hb dL_law_358 (by decide) ?_
  refine lv_iadd hx hb dL_law_359 ?_
  refine va_sld hx hb hX hbl hbA hS (vp_ink 1 (by omega) (by omega)) dL_law_360 ?_
  rw [← ex1]
  refine lv_aload_n hx hb dL_law_361 rfl (lv_at hl 0 rfl) ?_
  refine lv_iload_n hx hb dL_law_362 rfl (lv_at hl 3 rfl) ?_
  refine lv_iconst (v := 2) hx hb dL_law_363 (by decide) ?_
  refine lv_iadd hx hb dL_law_364 ?_
  refine va_sld hx hb hX hbl hbA hS (vp_ink 2 (by omega) (by omega)) dL_law_365 ?_
  rw [← ex2]
  refine lv_aload_n hx hb dL_law_366 rfl (lv_at hl 0 rfl) ?_
  refine lv_iload_n hx hb dL_law_367 rfl (lv_at hl 3 rfl) ?_
  refine lv_iconst (v := 3) hx hb dL_law_368 (by decide) ?_
  refine lv_iadd hx hb dL_law_369 ?_
  refine va_sld hx hb hX hbl hbA hS (vp_ink 3 (by omega) (by omega)) dL_law_370 ?_
  rw [← ex3]
  refine lv_i2l (v := (x3.toInt64)) hx hb dL_law_371 rfl ?_
  refine lv_bipush (v := 32) hx hb dL_law_372 (by decide) ?_
  refine lv_lshl (v := ((x3.toInt64) <<< (((32 : Int32)).toInt64 &&& 63))) hx hb dL_law_374 rfl ?_
  refine lv_aload_n hx hb dL_law_375 rfl (lv_at hl 0 rfl) ?_
  refine lv_iload_n hx hb dL_law_376 rfl (lv_at hl 3 rfl) ?_
  refine lv_iconst (v := 4) hx hb dL_law_377 (by decide) ?_
  refine lv_iadd hx hb dL_law_378 ?_
  refine va_sld hx hb hX hbl hbA hS (vp_ink 4 (by omega) (by omega)) dL_law_379 ?_
  rw [← ex4]
  refine lv_i2l (v := (x4.toInt64)) hx hb dL_law_380 rfl ?_
  refine lv_ldc2 (v := 4294967295) hx hb hown (hts _ ctL_40) dL_law_381 ?_
  refine lv_land hx hb dL_law_384 ?_
  refine lv_lor hx hb dL_law_385 ?_
  rw [← eh5]
  refine rwV (n := 3) (As := [.int x1, .int x2, .long h5]) (rest := [.int r1]) ⟨hx, hb, hml, hown, hts⟩ (kX2_cleaned l D cy s.heap.size ad1 z et mn gm (zC cy ad1 z1 (fun _ => none)) ch hI.1 hI.2 x1 x2 h5) mlL_50 imX2_cleaned seX2_cleaned inX2 cdX2_cleaned (by decide +kernel) rfl rfl ⟨Nat.le_of_ble_eq_true rfl, Nat.le_of_ble_eq_true rfl⟩ hK hP hz rfl rfl hS rfl hl.1 rfl (Nat.le_of_ble_eq_true rfl) dL_law_386 ⟨by show 100 + i + 1 + 0 ≤ 600000; omega, by show 6000 + 5 * i + 5 + 0 ≤ 7302250; omega⟩ (fun r2 u2 H locs hp2 hP hz2 hS => ?_)
  have hz := Nat.le_trans hz hz2
  obtain ⟨er, et2, mn2, gm2, hI2, eu2⟩ := hst r2 u2 hp2
  rw [eu2] at hP
  refine lv_icmp_eq (tgt := 814) hx hb dL_law_389 (by decide) (fun cq => ?_) (fun cq => ?_)
  · refine W.widen (k := 101 + i) (n := 6005 + 5 * i) (by omega) (by omega) ?_
    exact hT ad1 z1 ch1 et2 mn2 gm2 H locs hI2 (mh_eq hP (fun r => (zy_swap hk1 he1 r).symm)) hz hS ls (lv_sub hl [0, 1, 2, 3] rfl)
  · exact absurd er.symm cq
set_option maxHeartbeats 4000000 in
set_option maxRecDepth 100000 in
theorem lc_may (l : Launch) (hL : L ≤ 3586) (C0 : lw_At p s m meth c b L xs) (hK : kn D cy s) (hi : i + 7 ≤ L) (hT : lcA p l e s m below meth c b D cy i 814 (101 + i) (6005 + 5 * i)) : lcA p l e s m below meth c b D cy i 394 (100 + i) (6000 + 5 * i) := by
  obtain ⟨hx, hb, hr, hml, hown0, hts0, hX, hbl, hlocks, hgv⟩ := C0
  have hown : s.vm.findClass RL = some m.cls := hown0
  have hts : ∀ w ∈ wA, w.before #[Value.ref b] s = true := fun w h => hts0 w (wA_tbl w h)
  have hbA : ¬ (fun q : Nat => s.heap.size ≤ q) b := Nat.not_le.mpr hbl
  intro ad z ch et mn gm H locs hI hP hz hS ls hl
  obtain ⟨Q, hQ⟩ : ∃ Q, Q = lw_Z below #[Value.ref b] s := ⟨_, rfl⟩
  unfold lcA at hT
  rw [← hQ] at hT ⊢
  refine lv_aload_n hx hb dL_law_394 rfl (lv_at hl 1 rfl) ?_
  refine lv_aload_n hx hb dL_law_395 rfl (lv_at hl 0 rfl) ?_
  refine lv_iload_n hx hb dL_law_396 rfl (lv_at hl 3 rfl) ?_
  refine lv_iconst (v := 1) hx hb dL_law_397 (by decide) ?_
  refine lv_iadd hx hb dL_law_398 ?_
  refine va_sld hx hb hX hbl hbA hS (vp_ink 1 (by omega) (by omega)) dL_law_399 ?_
  refine lv_topi (fun x1 ex1 => ?_)
  refine lv_aload_n hx hb dL_law_400 rfl (lv_at hl 0 rfl) ?_
  refine lv_iload_n hx hb dL_law_401 rfl (lv_at hl 3 rfl) ?_
  refine lv_iconst (v := 2) hx hb dL_law_402 (by decide) ?_
  refine lv_iadd hx hb dL_law_403 ?_
  refine va_sld hx hb hX hbl hbA hS (vp_ink 2 (by omega) (by omega)) dL_law_404 ?_
  refine lv_topi (fun x2 ex2 => ?_)
  refine lv_aload_n hx hb dL_law_405 rfl (lv_at hl 0 rfl) ?_
  refine lv_iload_n hx hb dL_law_406 rfl (lv_at hl 3 rfl) ?_
  refine lv_iconst (v := 3) hx hb dL_law_407 (by decide) ?_
  refine lv_iadd hx hb dL_law_408 ?_
  refine va_sld hx hb hX hbl hbA hS (vp_ink 3 (by omega) (by omega)) dL_law_409 ?_
  refine lv_topi (fun x3 ex3 => ?_)
  refine lv_i2l (v := (x3.toInt64)) hx hb dL_law_410 rfl ?_
  refine lv_bipush (v := 32) hx hb dL_law_411 (by decide) ?_
  refine lv_lshl (v := ((x3.toInt64) <<< (((32 : Int32)).toInt64 &&& 63))) hx hb dL_law_413 rfl ?_
  refine lv_aload_n hx hb dL_law_414 rfl (lv_at hl 0 rfl) ?_
  refine lv_iload_n hx hb dL_law_415 rfl (lv_at hl 3 rfl) ?_
  refine lv_iconst (v := 4) hx hb dL_law_416 (by decide) ?_
  refine lv_iadd hx hb dL_law_417 ?_
  refine va_sld hx hb hX hbl hbA hS (vp_ink 4 (by omega) (by omega)) dL_law_418 ?_
  refine lv_topi (fun x4 ex4 => ?_)
  refine lv_i2l (v := (x4.toInt64)) hx hb dL_law_419 rfl ?_
  refine lv_ldc2 (v := 4294967295) hx hb hown (hts _ ctL_40) dL_law_420 ?_
  refine lv_land hx hb dL_law_423 ?_
  refine lv_lor hx hb dL_law_424 ?_
  refine lv_topl (fun h5 eh5 => ?_)
  obtain ⟨ok, hok⟩ := isOp_all x2 (zK z)
  refine rcV (n := 3) (As := [.int x1, .int x2, .long h5]) (rest := []) ⟨hx, hb, hml, hown, hts⟩ (kX1_may l D cy s.heap.size ad z (yC cy ad z et mn gm (fun _ => none)) ch hI.1 x1 h5 x2 ok hok) mlL_51 imX1_may seX1_may inX1 cdX1_may (by decide +kernel) rfl rfl ⟨Nat.le_of_ble_eq_true rfl, Nat.le_of_ble_eq_true rfl⟩ hK hP hz rfl rfl rfl hl.1 rfl (Nat.le_of_ble_eq_true rfl) dL_law_425 ⟨by show 100 + i ≤ 600000; omega, by show 6000 + 5 * i ≤ 7302250; omega⟩ (fun r1 hr1 => ?_)
  have hPy : mh D vwCl s.heap.size ad (yC cy ad z et mn gm (zC cy ad z (fun _ => none))) H := mh_eq hP (fun r => zy_swap hI.1.2.1 hI.1.2.2.2.2.2.1 r)
  refine lv_aload_n hx hb dL_law_428 rfl (lv_at hl 2 rfl) ?_
  refine lv_aload_n hx hb dL_law_429 rfl (lv_at hl 0 rfl) ?_
  refine lv_iload_n hx hb dL_law_430 rfl (lv_at hl 3 rfl) ?_
  refine lv_iconst (v := 1) hx hb dL_law_431 (by decide) ?_
  refine lv_iadd hx hb dL_law_432 ?_
  refine va_sld hx hb hX hbl hbA hS (vp_ink 1 (by omega) (by omega)) dL_law_433 ?_
  rw [← ex1]
  refine lv_aload_n hx hb dL_law_434 rfl (lv_at hl 0 rfl) ?_
  refine lv_iload_n hx hb dL_law_435 rfl (lv_at hl 3 rfl) ?_
  refine lv_iconst (v := 2) hx hb dL_law_436 (by decide) ?_
  refine lv_iadd hx hb dL_law_437 ?_
  refine va_sld hx hb hX hbl hbA hS (vp_ink 2 (by omega) (by omega)) dL_law_438 ?_
  rw [← ex2]
  refine lv_aload_n hx hb dL_law_439 rfl (lv_at hl 0 rfl) ?_
  refine lv_iload_n hx hb dL_law_440 rfl (lv_at hl 3 rfl) ?_
  refine lv_iconst (v := 3) hx hb dL_law_441 (by decide) ?_
  refine lv_iadd hx hb dL_law_442 ?_
  refine va_sld hx hb hX hbl hbA hS (vp_ink 3 (by omega) (by omega)) dL_law_443 ?_
  rw [← ex3]
  refine lv_i2l (v := (x3.toInt64)) hx hb dL_law_444 rfl ?_
  refine lv_bipush (v := 32) hx hb dL_law_445 (by decide) ?_
  refine lv_lshl (v := ((x3.toInt64) <<< (((32 : Int32)).toInt64 &&& 63))) hx hb dL_law_447 rfl ?_
  refine lv_aload_n hx hb dL_law_448 rfl (lv_at hl 0 rfl) ?_
  refine lv_iload_n hx hb dL_law_449 rfl (lv_at hl 3 rfl) ?_
  refine lv_iconst (v := 4) hx hb dL_law_450 (by decide) ?_
  refine lv_iadd hx hb dL_law_451 ?_
  refine va_sld hx hb hX hbl hbA hS (vp_ink 4 (by omega) (by omega)) dL_law_452 ?_
  rw [← ex4]
  refine lv_i2l (v := (x4.toInt64)) hx hb dL_law_453 rfl ?_
  refine lv_ldc2 (v := 4294967295) hx hb hown (hts _ ctL_40) dL_law_454 ?_
  refine lv_land hx hb dL_law_457 ?_
  refine lv_lor hx hb dL_law_458 ?_
  rw [← eh5]
  refine rcV (n := 3) (As := [.int x1, .int x2, .long h5]) (rest := [.int r1]) ⟨hx, hb, hml, hown, hts⟩ (kX2_may l D cy s.heap.size ad z et mn gm (zC cy ad z (fun _ => none)) ch hI.1 hI.2 x1 h5 x2 ok hok) mlL_55 imX2_may seX2_may inX2 cdX2_may (by decide +kernel) rfl rfl ⟨Nat.le_of_ble_eq_true rfl, Nat.le_of_ble_eq_true rfl⟩ hK hPy hz rfl rfl rfl hl.1 rfl (Nat.le_of_ble_eq_true rfl) dL_law_459 ⟨by show 100 + i ≤ 600000; omega, by show 6000 + 5 * i ≤ 7302250; omega⟩ (fun r2 hr2 => ?_)
  refine lv_icmp_eq (tgt := 814) hx hb dL_law_462 (by decide) (fun cq => ?_) (fun cq => ?_)
  · refine W.widen (k := 101 + i) (n := 6005 + 5 * i) (by omega) (by omega) ?_
    exact hT ad z ch et mn gm H locs hI hP hz hS ls (lv_sub hl [0, 1, 2, 3] rfl)
  · exact absurd (ans_fun hI.1.2.2.2.2.1 hr1 hr2).symm cq
set_option maxHeartbeats 4000000 in
set_option maxRecDepth 100000 in
theorem lc_least (l : Launch) (hL : L ≤ 3586) (C0 : lw_At p s m meth c b L xs) (hK : kn D cy s) (hi : i + 7 ≤ L) (hT : lcA p l e s m below meth c b D cy i 814 (101 + i) (6005 + 5 * i)) : lcA p l e s m below meth c b D cy i 467 (100 + i) (6000 + 5 * i) := by
  obtain ⟨hx, hb, hr, hml, hown0, hts0, hX, hbl, hlocks, hgv⟩ := C0
  have hown : s.vm.findClass RL = some m.cls := hown0
  have hts : ∀ w ∈ wA, w.before #[Value.ref b] s = true := fun w h => hts0 w (wA_tbl w h)
  have hbA : ¬ (fun q : Nat => s.heap.size ≤ q) b := Nat.not_le.mpr hbl
  intro ad z ch et mn gm H locs hI hP hz hS ls hl
  obtain ⟨Q, hQ⟩ : ∃ Q, Q = lw_Z below #[Value.ref b] s := ⟨_, rfl⟩
  unfold lcA at hT
  rw [← hQ] at hT ⊢
  refine lv_aload_n hx hb dL_law_467 rfl (lv_at hl 1 rfl) ?_
  refine lv_aload_n hx hb dL_law_468 rfl (lv_at hl 0 rfl) ?_
  refine lv_iload_n hx hb dL_law_469 rfl (lv_at hl 3 rfl) ?_
  refine lv_iconst (v := 1) hx hb dL_law_470 (by decide) ?_
  refine lv_iadd hx hb dL_law_471 ?_
  refine va_sld hx hb hX hbl hbA hS (vp_ink 1 (by omega) (by omega)) dL_law_472 ?_
  refine lv_topi (fun x1 ex1 => ?_)
  refine lv_aload_n hx hb dL_law_473 rfl (lv_at hl 0 rfl) ?_
  refine lv_iload_n hx hb dL_law_474 rfl (lv_at hl 3 rfl) ?_
  refine lv_iconst (v := 2) hx hb dL_law_475 (by decide) ?_
  refine lv_iadd hx hb dL_law_476 ?_
  refine va_sld hx hb hX hbl hbA hS (vp_ink 2 (by omega) (by omega)) dL_law_477 ?_
  refine lv_topi (fun x2 ex2 => ?_)
  refine lv_aload_n hx hb dL_law_478 rfl (lv_at hl 0 rfl) ?_
  refine lv_iload_n hx hb dL_law_479 rfl (lv_at hl 3 rfl) ?_
  refine lv_iconst (v := 3) hx hb dL_law_480 (by decide) ?_
  refine lv_iadd hx hb dL_law_481 ?_
  refine va_sld hx hb hX hbl hbA hS (vp_ink 3 (by omega) (by omega)) dL_law_482 ?_
  refine lv_topi (fun x3 ex3 => ?_)
  refine lv_i2l (v := (x3.toInt64)) hx hb dL_law_483 rfl ?_
  refine lv_bipush (v := 32) hx hb dL_law_484 (by decide) ?_
  refine lv_lshl (v := ((x3.toInt64) <<< (((32 : Int32)).toInt64 &&& 63))) hx hb dL_law_486 rfl ?_
  refine lv_aload_n hx hb dL_law_487 rfl (lv_at hl 0 rfl) ?_
  refine lv_iload_n hx hb dL_law_488 rfl (lv_at hl 3 rfl) ?_
  refine lv_iconst (v := 4) hx hb dL_law_489 (by decide) ?_
  refine lv_iadd hx hb dL_law_490 ?_
  refine va_sld hx hb hX hbl hbA hS (vp_ink 4 (by omega) (by omega)) dL_law_491 ?_
  refine lv_topi (fun x4 ex4 => ?_)
  refine lv_i2l (v := (x4.toInt64)) hx hb dL_law_492 rfl ?_
  refine lv_ldc2 (v := 4294967295) hx hb hown (hts _ ctL_40) dL_law_493 ?_
  refine lv_land hx hb dL_law_496 ?_
  refine lv_lor hx hb dL_law_497 ?_
  refine lv_topl (fun h5 eh5 => ?_)
  obtain ⟨ok, hok⟩ := isOp_all x2 (zK z)
  refine rcV (n := 3) (As := [.int x1, .int x2, .long h5]) (rest := []) ⟨hx, hb, hml, hown, hts⟩ (kX1_least l D cy s.heap.size ad z (yC cy ad z et mn gm (fun _ => none)) ch hI.1 x1 h5 x2 ok hok) mlL_56 imX1_least seX1_least inX1 cdX1_least (by decide +kernel) rfl rfl ⟨Nat.le_of_ble_eq_true rfl, Nat.le_of_ble_eq_true rfl⟩ hK hP hz rfl rfl rfl hl.1 rfl (Nat.le_of_ble_eq_true rfl) dL_law_498 ⟨by show 100 + i ≤ 600000; omega, by show 6000 + 5 * i ≤ 7302250; omega⟩ (fun r1 hr1 => ?_)
  have hPy : mh D vwCl s.heap.size ad (yC cy ad z et mn gm (zC cy ad z (fun _ => none))) H := mh_eq hP (fun r => zy_swap hI.1.2.1 hI.1.2.2.2.2.2.1 r)
  refine lv_aload_n hx hb dL_law_501 rfl (lv_at hl 2 rfl) ?_
  refine lv_aload_n hx hb dL_law_502 rfl (lv_at hl 0 rfl) ?_
  refine lv_iload_n hx hb dL_law_503 rfl (lv_at hl 3 rfl) ?_
  refine lv_iconst (v := 1) hx hb dL_law_504 (by decide) ?_
  refine lv_iadd hx hb dL_law_505 ?_
  refine va_sld hx hb hX hbl hbA hS (vp_ink 1 (by omega) (by omega)) dL_law_506 ?_
  rw [← ex1]
  refine lv_aload_n hx hb dL_law_507 rfl (lv_at hl 0 rfl) ?_
  refine lv_iload_n hx hb dL_law_508 rfl (lv_at hl 3 rfl) ?_
  refine lv_iconst (v := 2) hx hb dL_law_509 (by decide) ?_
  refine lv_iadd hx hb dL_law_510 ?_
  refine va_sld hx hb hX hbl hbA hS (vp_ink 2 (by omega) (by omega)) dL_law_511 ?_
  rw [← ex2]
  refine lv_aload_n hx hb dL_law_512 rfl (lv_at hl 0 rfl) ?_
  refine lv_iload_n hx hb dL_law_513 rfl (lv_at hl 3 rfl) ?_
  refine lv_iconst (v := 3) hx hb dL_law_514 (by decide) ?_
  refine lv_iadd hx hb dL_law_515 ?_
  refine va_sld hx hb hX hbl hbA hS (vp_ink 3 (by omega) (by omega)) dL_law_516 ?_
  rw [← ex3]
  refine lv_i2l (v := (x3.toInt64)) hx hb dL_law_517 rfl ?_
  refine lv_bipush (v := 32) hx hb dL_law_518 (by decide) ?_
  refine lv_lshl (v := ((x3.toInt64) <<< (((32 : Int32)).toInt64 &&& 63))) hx hb dL_law_520 rfl ?_
  refine lv_aload_n hx hb dL_law_521 rfl (lv_at hl 0 rfl) ?_
  refine lv_iload_n hx hb dL_law_522 rfl (lv_at hl 3 rfl) ?_
  refine lv_iconst (v := 4) hx hb dL_law_523 (by decide) ?_
  refine lv_iadd hx hb dL_law_524 ?_
  refine va_sld hx hb hX hbl hbA hS (vp_ink 4 (by omega) (by omega)) dL_law_525 ?_
  rw [← ex4]
  refine lv_i2l (v := (x4.toInt64)) hx hb dL_law_526 rfl ?_
  refine lv_ldc2 (v := 4294967295) hx hb hown (hts _ ctL_40) dL_law_527 ?_
  refine lv_land hx hb dL_law_530 ?_
  refine lv_lor hx hb dL_law_531 ?_
  rw [← eh5]
  refine rcV (n := 3) (As := [.int x1, .int x2, .long h5]) (rest := [.int r1]) ⟨hx, hb, hml, hown, hts⟩ (kX2_least l D cy s.heap.size ad z et mn gm (zC cy ad z (fun _ => none)) ch hI.1 hI.2 x1 h5 x2 ok hok) mlL_59 imX2_least seX2_least inX2 cdX2_least (by decide +kernel) rfl rfl ⟨Nat.le_of_ble_eq_true rfl, Nat.le_of_ble_eq_true rfl⟩ hK hPy hz rfl rfl rfl hl.1 rfl (Nat.le_of_ble_eq_true rfl) dL_law_532 ⟨by show 100 + i ≤ 600000; omega, by show 6000 + 5 * i ≤ 7302250; omega⟩ (fun r2 hr2 => ?_)
  refine lv_icmp_eq (tgt := 814) hx hb dL_law_535 (by decide) (fun cq => ?_) (fun cq => ?_)
  · refine W.widen (k := 101 + i) (n := 6005 + 5 * i) (by omega) (by omega) ?_
    exact hT ad z ch et mn gm H locs hI hP hz hS ls (lv_sub hl [0, 1, 2, 3] rfl)
  · exact absurd (ans_fun hI.1.2.2.2.2.1 hr1 hr2).symm cq
set_option maxHeartbeats 4000000 in
set_option maxRecDepth 100000 in
theorem lc_cost (l : Launch) (hL : L ≤ 3586) (C0 : lw_At p s m meth c b L xs) (hK : kn D cy s) (hi : i + 7 ≤ L) (hT : lcA p l e s m below meth c b D cy i 814 (101 + i) (6005 + 5 * i)) : lcA p l e s m below meth c b D cy i 540 (100 + i) (6000 + 5 * i) := by
  obtain ⟨hx, hb, hr, hml, hown0, hts0, hX, hbl, hlocks, hgv⟩ := C0
  have hown : s.vm.findClass RL = some m.cls := hown0
  have hts : ∀ w ∈ wA, w.before #[Value.ref b] s = true := fun w h => hts0 w (wA_tbl w h)
  have hbA : ¬ (fun q : Nat => s.heap.size ≤ q) b := Nat.not_le.mpr hbl
  intro ad z ch et mn gm H locs hI hP hz hS ls hl
  obtain ⟨Q, hQ⟩ : ∃ Q, Q = lw_Z below #[Value.ref b] s := ⟨_, rfl⟩
  unfold lcA at hT
  rw [← hQ] at hT ⊢
  refine lv_aload_n hx hb dL_law_540 rfl (lv_at hl 1 rfl) ?_
  refine lv_aload_n hx hb dL_law_541 rfl (lv_at hl 0 rfl) ?_
  refine lv_iload_n hx hb dL_law_542 rfl (lv_at hl 3 rfl) ?_
  refine lv_iconst (v := 1) hx hb dL_law_543 (by decide) ?_
  refine lv_iadd hx hb dL_law_544 ?_
  refine va_sld hx hb hX hbl hbA hS (vp_ink 1 (by omega) (by omega)) dL_law_545 ?_
  refine lv_topi (fun x1 ex1 => ?_)
  refine lv_aload_n hx hb dL_law_546 rfl (lv_at hl 0 rfl) ?_
  refine lv_iload_n hx hb dL_law_547 rfl (lv_at hl 3 rfl) ?_
  refine lv_iconst (v := 2) hx hb dL_law_548 (by decide) ?_
  refine lv_iadd hx hb dL_law_549 ?_
  refine va_sld hx hb hX hbl hbA hS (vp_ink 2 (by omega) (by omega)) dL_law_550 ?_
  refine lv_topi (fun x2 ex2 => ?_)
  refine lv_i2l (v := (x2.toInt64)) hx hb dL_law_551 rfl ?_
  refine lv_bipush (v := 32) hx hb dL_law_552 (by decide) ?_
  refine lv_lshl (v := ((x2.toInt64) <<< (((32 : Int32)).toInt64 &&& 63))) hx hb dL_law_554 rfl ?_
  refine lv_aload_n hx hb dL_law_555 rfl (lv_at hl 0 rfl) ?_
  refine lv_iload_n hx hb dL_law_556 rfl (lv_at hl 3 rfl) ?_
  refine lv_iconst (v := 3) hx hb dL_law_557 (by decide) ?_
  refine lv_iadd hx hb dL_law_558 ?_
  refine va_sld hx hb hX hbl hbA hS (vp_ink 3 (by omega) (by omega)) dL_law_559 ?_
  refine lv_topi (fun x3 ex3 => ?_)
  refine lv_i2l (v := (x3.toInt64)) hx hb dL_law_560 rfl ?_
  refine lv_ldc2 (v := 4294967295) hx hb hown (hts _ ctL_40) dL_law_561 ?_
  refine lv_land hx hb dL_law_564 ?_
  refine lv_lor hx hb dL_law_565 ?_
  refine lv_topl (fun h4 eh4 => ?_)
  refine rwV (n := 2) (As := [.int x1, .long h4]) (rest := []) ⟨hx, hb, hml, hown, hts⟩ (kX1_cost l D cy s.heap.size ad z (yC cy ad z et mn gm (fun _ => none)) ch hI.1 x1 h4) mlL_60 imX1_cost seX1_cost inX1 cdX1_cost (by decide +kernel) rfl rfl ⟨Nat.le_of_ble_eq_true rfl, Nat.le_of_ble_eq_true rfl⟩ hK hP hz rfl rfl hS rfl hl.1 rfl (Nat.le_of_ble_eq_true rfl) dL_law_566 ⟨by show 100 + i + 0 ≤ 600000; omega, by show 6000 + 5 * i + 0 ≤ 7302250; omega⟩ (fun r1 u H locs hp hP hz1 hS => ?_)
  have hz := Nat.le_trans hz hz1
  obtain ⟨ad1, z1, ch1, eu, ⟨hk1, he1, ha0, ha1⟩, hst⟩ := st_cost hI hp
  rw [eu] at hP
  have hP : mh D vwCl s.heap.size ad1 (yC cy ad1 z et mn gm (zC cy ad1 z1 (fun _ => none))) H := mh_eq hP (fun r => zy_swap hk1 he1 r)
  rw [← ha0, ← ha1] at hl
  refine lv_aload_n hx hb dL_law_569 rfl (lv_at hl 2 rfl) ?_
  refine lv_aload_n hx hb dL_law_570 rfl (lv_at hl 0 rfl) ?_
  refine lv_iload_n hx hb dL_law_571 rfl (lv_at hl 3 rfl) ?_
  refine lv_iconst (v := 1) hx hb dL_law_572 (by decide) ?_
  refine lv_iadd hx hb dL_law_573 ?_
  refine va_sld hx hb hX hbl hbA hS (vp_ink 1 (by omega) (by omega)) dL_law_574 ?_
  rw [← ex1]
  refine lv_aload_n hx hb dL_law_575 rfl (lv_at hl 0 rfl) ?_
  refine lv_iload_n hx hb dL_law_576 rfl (lv_at hl 3 rfl) ?_
  refine lv_iconst (v := 2) hx hb dL_law_577 (by decide) ?_
  refine lv_iadd hx hb dL_law_578 ?_
  refine va_sld hx hb hX hbl hbA hS (vp_ink 2 (by omega) (by omega)) dL_law_579 ?_
  rw [← ex2]
  refine lv_i2l (v := (x2.toInt64)) hx hb dL_law_580 rfl ?_
  refine lv_bipush (v := 32) hx hb dL_law_581 (by decide) ?_
  refine lv_lshl (v := ((x2.toInt64) <<< (((32 : Int32)).toInt64 &&& 63))) hx hb dL_law_583 rfl ?_
  refine lv_aload_n hx hb dL_law_584 rfl (lv_at hl 0 rfl) ?_
  refine lv_iload_n hx hb dL_law_585 rfl (lv_at hl 3 rfl) ?_
  refine lv_iconst (v := 3) hx hb dL_law_586 (by decide) ?_
  refine lv_iadd hx hb dL_law_587 ?_
  refine va_sld hx hb hX hbl hbA hS (vp_ink 3 (by omega) (by omega)) dL_law_588 ?_
  rw [← ex3]
  refine lv_i2l (v := (x3.toInt64)) hx hb dL_law_589 rfl ?_
  refine lv_ldc2 (v := 4294967295) hx hb hown (hts _ ctL_40) dL_law_590 ?_
  refine lv_land hx hb dL_law_593 ?_
  refine lv_lor hx hb dL_law_594 ?_
  rw [← eh4]
  refine rwV (n := 2) (As := [.int x1, .long h4]) (rest := [.int r1]) ⟨hx, hb, hml, hown, hts⟩ (kX2_cost l D cy s.heap.size ad1 z et mn gm (zC cy ad1 z1 (fun _ => none)) ch hI.1 hI.2 x1 h4) mlL_64 imX2_cost seX2_cost inX2 cdX2_cost (by decide +kernel) rfl rfl ⟨Nat.le_of_ble_eq_true rfl, Nat.le_of_ble_eq_true rfl⟩ hK hP hz rfl rfl hS rfl hl.1 rfl (Nat.le_of_ble_eq_true rfl) dL_law_595 ⟨by show 100 + i + 0 + 0 ≤ 600000; omega, by show 6000 + 5 * i + 0 + 0 ≤ 7302250; omega⟩ (fun r2 u2 H locs hp2 hP hz2 hS => ?_)
  have hz := Nat.le_trans hz hz2
  obtain ⟨er, et2, mn2, gm2, hI2, eu2⟩ := hst r2 u2 hp2
  rw [eu2] at hP
  refine lv_icmp_eq (tgt := 814) hx hb dL_law_598 (by decide) (fun cq => ?_) (fun cq => ?_)
  · refine W.widen (k := 101 + i) (n := 6005 + 5 * i) (by omega) (by omega) ?_
    exact hT ad1 z1 ch1 et2 mn2 gm2 H locs hI2 (mh_eq hP (fun r => (zy_swap hk1 he1 r).symm)) hz hS ls (lv_sub hl [0, 1, 2, 3] rfl)
  · exact absurd er.symm cq
set_option maxHeartbeats 4000000 in
set_option maxRecDepth 100000 in
theorem lc_level (l : Launch) (hL : L ≤ 3586) (C0 : lw_At p s m meth c b L xs) (hK : kn D cy s) (hi : i + 7 ≤ L) (hT : lcA p l e s m below meth c b D cy i 814 (101 + i) (6005 + 5 * i)) : lcA p l e s m below meth c b D cy i 603 (100 + i) (6000 + 5 * i) := by
  obtain ⟨hx, hb, hr, hml, hown0, hts0, hX, hbl, hlocks, hgv⟩ := C0
  have hown : s.vm.findClass RL = some m.cls := hown0
  have hts : ∀ w ∈ wA, w.before #[Value.ref b] s = true := fun w h => hts0 w (wA_tbl w h)
  have hbA : ¬ (fun q : Nat => s.heap.size ≤ q) b := Nat.not_le.mpr hbl
  intro ad z ch et mn gm H locs hI hP hz hS ls hl
  obtain ⟨Q, hQ⟩ : ∃ Q, Q = lw_Z below #[Value.ref b] s := ⟨_, rfl⟩
  unfold lcA at hT
  rw [← hQ] at hT ⊢
  refine lv_aload_n hx hb dL_law_603 rfl (lv_at hl 1 rfl) ?_
  refine lv_aload_n hx hb dL_law_604 rfl (lv_at hl 0 rfl) ?_
  refine lv_iload_n hx hb dL_law_605 rfl (lv_at hl 3 rfl) ?_
  refine lv_iconst (v := 1) hx hb dL_law_606 (by decide) ?_
  refine lv_iadd hx hb dL_law_607 ?_
  refine va_sld hx hb hX hbl hbA hS (vp_ink 1 (by omega) (by omega)) dL_law_608 ?_
  refine lv_topi (fun x1 ex1 => ?_)
  refine lv_aload_n hx hb dL_law_609 rfl (lv_at hl 0 rfl) ?_
  refine lv_iload_n hx hb dL_law_610 rfl (lv_at hl 3 rfl) ?_
  refine lv_iconst (v := 2) hx hb dL_law_611 (by decide) ?_
  refine lv_iadd hx hb dL_law_612 ?_
  refine va_sld hx hb hX hbl hbA hS (vp_ink 2 (by omega) (by omega)) dL_law_613 ?_
  refine lv_topi (fun x2 ex2 => ?_)
  refine lv_i2l (v := (x2.toInt64)) hx hb dL_law_614 rfl ?_
  refine lv_bipush (v := 32) hx hb dL_law_615 (by decide) ?_
  refine lv_lshl (v := ((x2.toInt64) <<< (((32 : Int32)).toInt64 &&& 63))) hx hb dL_law_617 rfl ?_
  refine lv_aload_n hx hb dL_law_618 rfl (lv_at hl 0 rfl) ?_
  refine lv_iload_n hx hb dL_law_619 rfl (lv_at hl 3 rfl) ?_
  refine lv_iconst (v := 3) hx hb dL_law_620 (by decide) ?_
  refine lv_iadd hx hb dL_law_621 ?_
  refine va_sld hx hb hX hbl hbA hS (vp_ink 3 (by omega) (by omega)) dL_law_622 ?_
  refine lv_topi (fun x3 ex3 => ?_)
  refine lv_i2l (v := (x3.toInt64)) hx hb dL_law_623 rfl ?_
  refine lv_ldc2 (v := 4294967295) hx hb hown (hts _ ctL_40) dL_law_624 ?_
  refine lv_land hx hb dL_law_627 ?_
  refine lv_lor hx hb dL_law_628 ?_
  refine lv_topl (fun h4 eh4 => ?_)
  refine rcV (n := 2) (As := [.int x1, .long h4]) (rest := []) ⟨hx, hb, hml, hown, hts⟩ (kX1_level l D cy s.heap.size ad z (yC cy ad z et mn gm (fun _ => none)) ch hI.1 x1 h4) mlL_65 imX1_level seX1_level inX1 cdX1_level (by decide +kernel) rfl rfl ⟨Nat.le_of_ble_eq_true rfl, Nat.le_of_ble_eq_true rfl⟩ hK hP hz rfl rfl rfl hl.1 rfl (Nat.le_of_ble_eq_true rfl) dL_law_629 ⟨by show 100 + i ≤ 600000; omega, by show 6000 + 5 * i ≤ 7302250; omega⟩ (fun r1 hr1 => ?_)
  have hPy : mh D vwCl s.heap.size ad (yC cy ad z et mn gm (zC cy ad z (fun _ => none))) H := mh_eq hP (fun r => zy_swap hI.1.2.1 hI.1.2.2.2.2.2.1 r)
  refine lv_aload_n hx hb dL_law_632 rfl (lv_at hl 2 rfl) ?_
  refine lv_aload_n hx hb dL_law_633 rfl (lv_at hl 0 rfl) ?_
  refine lv_iload_n hx hb dL_law_634 rfl (lv_at hl 3 rfl) ?_
  refine lv_iconst (v := 1) hx hb dL_law_635 (by decide) ?_
  refine lv_iadd hx hb dL_law_636 ?_
  refine va_sld hx hb hX hbl hbA hS (vp_ink 1 (by omega) (by omega)) dL_law_637 ?_
  rw [← ex1]
  refine lv_aload_n hx hb dL_law_638 rfl (lv_at hl 0 rfl) ?_
  refine lv_iload_n hx hb dL_law_639 rfl (lv_at hl 3 rfl) ?_
  refine lv_iconst (v := 2) hx hb dL_law_640 (by decide) ?_
  refine lv_iadd hx hb dL_law_641 ?_
  refine va_sld hx hb hX hbl hbA hS (vp_ink 2 (by omega) (by omega)) dL_law_642 ?_
  rw [← ex2]
  refine lv_i2l (v := (x2.toInt64)) hx hb dL_law_643 rfl ?_
  refine lv_bipush (v := 32) hx hb dL_law_644 (by decide) ?_
  refine lv_lshl (v := ((x2.toInt64) <<< (((32 : Int32)).toInt64 &&& 63))) hx hb dL_law_646 rfl ?_
  refine lv_aload_n hx hb dL_law_647 rfl (lv_at hl 0 rfl) ?_
  refine lv_iload_n hx hb dL_law_648 rfl (lv_at hl 3 rfl) ?_
  refine lv_iconst (v := 3) hx hb dL_law_649 (by decide) ?_
  refine lv_iadd hx hb dL_law_650 ?_
  refine va_sld hx hb hX hbl hbA hS (vp_ink 3 (by omega) (by omega)) dL_law_651 ?_
  rw [← ex3]
  refine lv_i2l (v := (x3.toInt64)) hx hb dL_law_652 rfl ?_
  refine lv_ldc2 (v := 4294967295) hx hb hown (hts _ ctL_40) dL_law_653 ?_
  refine lv_land hx hb dL_law_656 ?_
  refine lv_lor hx hb dL_law_657 ?_
  rw [← eh4]
  refine rcV (n := 2) (As := [.int x1, .long h4]) (rest := [.int r1]) ⟨hx, hb, hml, hown, hts⟩ (kX2_level l D cy s.heap.size ad z et mn gm (zC cy ad z (fun _ => none)) ch hI.1 hI.2 x1 h4) mlL_69 imX2_level seX2_level inX2 cdX2_level (by decide +kernel) rfl rfl ⟨Nat.le_of_ble_eq_true rfl, Nat.le_of_ble_eq_true rfl⟩ hK hPy hz rfl rfl rfl hl.1 rfl (Nat.le_of_ble_eq_true rfl) dL_law_658 ⟨by show 100 + i ≤ 600000; omega, by show 6000 + 5 * i ≤ 7302250; omega⟩ (fun r2 hr2 => ?_)
  refine lv_icmp_eq (tgt := 814) hx hb dL_law_661 (by decide) (fun cq => ?_) (fun cq => ?_)
  · refine W.widen (k := 101 + i) (n := 6005 + 5 * i) (by omega) (by omega) ?_
    exact hT ad z ch et mn gm H locs hI hP hz hS ls (lv_sub hl [0, 1, 2, 3] rfl)
  · exact absurd (ans_fun hI.1.2.2.2.2.1 hr1 hr2).symm cq
set_option maxHeartbeats 4000000 in
set_option maxRecDepth 100000 in
theorem lc_told (l : Launch) (hL : L ≤ 3586) (C0 : lw_At p s m meth c b L xs) (hK : kn D cy s) (hi : i + 7 ≤ L) (hT : lcA p l e s m below meth c b D cy i 814 (101 + i) (6005 + 5 * i)) : lcA p l e s m below meth c b D cy i 666 (100 + i) (6000 + 5 * i) := by
  obtain ⟨hx, hb, hr, hml, hown0, hts0, hX, hbl, hlocks, hgv⟩ := C0
  have hown : s.vm.findClass RL = some m.cls := hown0
  have hts : ∀ w ∈ wA, w.before #[Value.ref b] s = true := fun w h => hts0 w (wA_tbl w h)
  have hbA : ¬ (fun q : Nat => s.heap.size ≤ q) b := Nat.not_le.mpr hbl
  intro ad z ch et mn gm H locs hI hP hz hS ls hl
  obtain ⟨Q, hQ⟩ : ∃ Q, Q = lw_Z below #[Value.ref b] s := ⟨_, rfl⟩
  unfold lcA at hT
  rw [← hQ] at hT ⊢
  refine lv_aload_n hx hb dL_law_666 rfl (lv_at hl 1 rfl) ?_
  refine lv_aload_n hx hb dL_law_667 rfl (lv_at hl 0 rfl) ?_
  refine lv_iload_n hx hb dL_law_668 rfl (lv_at hl 3 rfl) ?_
  refine lv_iconst (v := 1) hx hb dL_law_669 (by decide) ?_
  refine lv_iadd hx hb dL_law_670 ?_
  refine va_sld hx hb hX hbl hbA hS (vp_ink 1 (by omega) (by omega)) dL_law_671 ?_
  refine lv_topi (fun x1 ex1 => ?_)
  refine lv_aload_n hx hb dL_law_672 rfl (lv_at hl 0 rfl) ?_
  refine lv_iload_n hx hb dL_law_673 rfl (lv_at hl 3 rfl) ?_
  refine lv_iconst (v := 2) hx hb dL_law_674 (by decide) ?_
  refine lv_iadd hx hb dL_law_675 ?_
  refine va_sld hx hb hX hbl hbA hS (vp_ink 2 (by omega) (by omega)) dL_law_676 ?_
  refine lv_topi (fun x2 ex2 => ?_)
  refine lv_aload_n hx hb dL_law_677 rfl (lv_at hl 0 rfl) ?_
  refine lv_iload_n hx hb dL_law_678 rfl (lv_at hl 3 rfl) ?_
  refine lv_iconst (v := 3) hx hb dL_law_679 (by decide) ?_
  refine lv_iadd hx hb dL_law_680 ?_
  refine va_sld hx hb hX hbl hbA hS (vp_ink 3 (by omega) (by omega)) dL_law_681 ?_
  refine lv_topi (fun x3 ex3 => ?_)
  refine lv_i2l (v := (x3.toInt64)) hx hb dL_law_682 rfl ?_
  refine lv_bipush (v := 32) hx hb dL_law_683 (by decide) ?_
  refine lv_lshl (v := ((x3.toInt64) <<< (((32 : Int32)).toInt64 &&& 63))) hx hb dL_law_685 rfl ?_
  refine lv_aload_n hx hb dL_law_686 rfl (lv_at hl 0 rfl) ?_
  refine lv_iload_n hx hb dL_law_687 rfl (lv_at hl 3 rfl) ?_
  refine lv_iconst (v := 4) hx hb dL_law_688 (by decide) ?_
  refine lv_iadd hx hb dL_law_689 ?_
  refine va_sld hx hb hX hbl hbA hS (vp_ink 4 (by omega) (by omega)) dL_law_690 ?_
  refine lv_topi (fun x4 ex4 => ?_)
  refine lv_i2l (v := (x4.toInt64)) hx hb dL_law_691 rfl ?_
  refine lv_ldc2 (v := 4294967295) hx hb hown (hts _ ctL_40) dL_law_692 ?_
  refine lv_land hx hb dL_law_695 ?_
  refine lv_lor hx hb dL_law_696 ?_
  refine lv_topl (fun h5 eh5 => ?_)
  refine lv_aload_n hx hb dL_law_697 rfl (lv_at hl 0 rfl) ?_
  refine lv_iload_n hx hb dL_law_698 rfl (lv_at hl 3 rfl) ?_
  refine lv_iconst (v := 5) hx hb dL_law_699 (by decide) ?_
  refine lv_iadd hx hb dL_law_700 ?_
  refine va_sld hx hb hX hbl hbA hS (vp_ink 5 (by omega) (by omega)) dL_law_701 ?_
  refine lv_topi (fun x6 ex6 => ?_)
  refine lv_i2l (v := (x6.toInt64)) hx hb dL_law_702 rfl ?_
  refine lv_bipush (v := 32) hx hb dL_law_703 (by decide) ?_
  refine lv_lshl (v := ((x6.toInt64) <<< (((32 : Int32)).toInt64 &&& 63))) hx hb dL_law_705 rfl ?_
  refine lv_aload_n hx hb dL_law_706 rfl (lv_at hl 0 rfl) ?_
  refine lv_iload_n hx hb dL_law_707 rfl (lv_at hl 3 rfl) ?_
  refine lv_bipush (v := 6) hx hb dL_law_708 (by decide) ?_
  refine lv_iadd hx hb dL_law_710 ?_
  refine va_sld hx hb hX hbl hbA hS (vp_ink 6 (by omega) (by omega)) dL_law_711 ?_
  refine lv_topi (fun x7 ex7 => ?_)
  refine lv_i2l (v := (x7.toInt64)) hx hb dL_law_712 rfl ?_
  refine lv_ldc2 (v := 4294967295) hx hb hown (hts _ ctL_40) dL_law_713 ?_
  refine lv_land hx hb dL_law_716 ?_
  refine lv_lor hx hb dL_law_717 ?_
  refine lv_topl (fun h8 eh8 => ?_)
  refine rwV (n := 4) (As := [.int x1, .int x2, .long h5, .long h8]) (rest := []) ⟨hx, hb, hml, hown, hts⟩ (kX1_told l D cy s.heap.size ad z (yC cy ad z et mn gm (fun _ => none)) ch hI.1 (fun r hr => yC_lo hr) x1 x2 h5 h8) mlL_70 imX1_told seX1_told inX1 cdX1_told (by decide +kernel) rfl rfl ⟨Nat.le_of_ble_eq_true rfl, Nat.le_of_ble_eq_true rfl⟩ hK hP hz rfl rfl hS rfl hl.1 rfl (Nat.le_of_ble_eq_true rfl) dL_law_718 ⟨by show 100 + i + 1 ≤ 600000; omega, by show 6000 + 5 * i + 5 ≤ 7302250; omega⟩ (fun r1 u H locs hp hP hz1 hS => ?_)
  have hz := Nat.le_trans hz hz1
  obtain ⟨ad1, z1, ch1, eu, ⟨hk1, he1, ha0, ha1⟩, hst⟩ := st_told hI hp
  rw [eu] at hP
  have hP : mh D vwCl s.heap.size ad1 (yC cy ad1 z et mn gm (zC cy ad1 z1 (fun _ => none))) H := mh_eq hP (fun r => zy_swap hk1 he1 r)
  rw [← ha0, ← ha1] at hl
  refine lv_aload_n hx hb dL_law_721 rfl (lv_at hl 2 rfl) ?_
  refine lv_aload_n hx hb dL_law_722 rfl (lv_at hl 0 rfl) ?_
  refine lv_iload_n hx hb dL_law_723 rfl (lv_at hl 3 rfl) ?_
  refine lv_iconst (v := 1) hx hb dL_law_724 (by decide) ?_
  refine lv_iadd hx hb dL_law_725 ?_
  refine va_sld hx hb hX hbl hbA hS (vp_ink 1 (by omega) (by omega)) dL_law_726 ?_
  rw [← ex1]
  refine lv_aload_n hx hb dL_law_727 rfl (lv_at hl 0 rfl) ?_
  refine lv_iload_n hx hb dL_law_728 rfl (lv_at hl 3 rfl) ?_
  refine lv_iconst (v := 2) hx hb dL_law_729 (by decide) ?_
  refine lv_iadd hx hb dL_law_730 ?_
  refine va_sld hx hb hX hbl hbA hS (vp_ink 2 (by omega) (by omega)) dL_law_731 ?_
  rw [← ex2]
  refine lv_aload_n hx hb dL_law_732 rfl (lv_at hl 0 rfl) ?_
  refine lv_iload_n hx hb dL_law_733 rfl (lv_at hl 3 rfl) ?_
  refine lv_iconst (v := 3) hx hb dL_law_734 (by decide) ?_
  refine lv_iadd hx hb dL_law_735 ?_
  refine va_sld hx hb hX hbl hbA hS (vp_ink 3 (by omega) (by omega)) dL_law_736 ?_
  rw [← ex3]
  refine lv_i2l (v := (x3.toInt64)) hx hb dL_law_737 rfl ?_
  refine lv_bipush (v := 32) hx hb dL_law_738 (by decide) ?_
  refine lv_lshl (v := ((x3.toInt64) <<< (((32 : Int32)).toInt64 &&& 63))) hx hb dL_law_740 rfl ?_
  refine lv_aload_n hx hb dL_law_741 rfl (lv_at hl 0 rfl) ?_
  refine lv_iload_n hx hb dL_law_742 rfl (lv_at hl 3 rfl) ?_
  refine lv_iconst (v := 4) hx hb dL_law_743 (by decide) ?_
  refine lv_iadd hx hb dL_law_744 ?_
  refine va_sld hx hb hX hbl hbA hS (vp_ink 4 (by omega) (by omega)) dL_law_745 ?_
  rw [← ex4]
  refine lv_i2l (v := (x4.toInt64)) hx hb dL_law_746 rfl ?_
  refine lv_ldc2 (v := 4294967295) hx hb hown (hts _ ctL_40) dL_law_747 ?_
  refine lv_land hx hb dL_law_750 ?_
  refine lv_lor hx hb dL_law_751 ?_
  rw [← eh5]
  refine lv_aload_n hx hb dL_law_752 rfl (lv_at hl 0 rfl) ?_
  refine lv_iload_n hx hb dL_law_753 rfl (lv_at hl 3 rfl) ?_
  refine lv_iconst (v := 5) hx hb dL_law_754 (by decide) ?_
  refine lv_iadd hx hb dL_law_755 ?_
  refine va_sld hx hb hX hbl hbA hS (vp_ink 5 (by omega) (by omega)) dL_law_756 ?_
  rw [← ex6]
  refine lv_i2l (v := (x6.toInt64)) hx hb dL_law_757 rfl ?_
  refine lv_bipush (v := 32) hx hb dL_law_758 (by decide) ?_
  refine lv_lshl (v := ((x6.toInt64) <<< (((32 : Int32)).toInt64 &&& 63))) hx hb dL_law_760 rfl ?_
  refine lv_aload_n hx hb dL_law_761 rfl (lv_at hl 0 rfl) ?_
  refine lv_iload_n hx hb dL_law_762 rfl (lv_at hl 3 rfl) ?_
  refine lv_bipush (v := 6) hx hb dL_law_763 (by decide) ?_
  refine lv_iadd hx hb dL_law_765 ?_
  refine va_sld hx hb hX hbl hbA hS (vp_ink 6 (by omega) (by omega)) dL_law_766 ?_
  rw [← ex7]
  refine lv_i2l (v := (x7.toInt64)) hx hb dL_law_767 rfl ?_
  refine lv_ldc2 (v := 4294967295) hx hb hown (hts _ ctL_40) dL_law_768 ?_
  refine lv_land hx hb dL_law_771 ?_
  refine lv_lor hx hb dL_law_772 ?_
  rw [← eh8]
  refine rwV (n := 4) (As := [.int x1, .int x2, .long h5, .long h8]) (rest := [.int r1]) ⟨hx, hb, hml, hown, hts⟩ (kX2_told l D cy s.heap.size ad1 z et mn gm (zC cy ad1 z1 (fun _ => none)) ch hI.1 hI.2 x1 x2 h5 h8) mlL_74 imX2_told seX2_told inX2 cdX2_told (by decide +kernel) rfl rfl ⟨Nat.le_of_ble_eq_true rfl, Nat.le_of_ble_eq_true rfl⟩ hK hP hz rfl rfl hS rfl hl.1 rfl (Nat.le_of_ble_eq_true rfl) dL_law_773 ⟨by show 100 + i + 1 + 0 ≤ 600000; omega, by show 6000 + 5 * i + 5 + 0 ≤ 7302250; omega⟩ (fun r2 u2 H locs hp2 hP hz2 hS => ?_)
  have hz := Nat.le_trans hz hz2
  obtain ⟨er, et2, mn2, gm2, hI2, eu2⟩ := hst r2 u2 hp2
  rw [eu2] at hP
  refine lv_icmp_eq (tgt := 814) hx hb dL_law_776 (by decide) (fun cq => ?_) (fun cq => ?_)
  · refine W.widen (k := 101 + i) (n := 6005 + 5 * i) (by omega) (by omega) ?_
    exact hT ad1 z1 ch1 et2 mn2 gm2 H locs hI2 (mh_eq hP (fun r => (zy_swap hk1 he1 r).symm)) hz hS ls (lv_sub hl [0, 1, 2, 3] rfl)
  · exact absurd er.symm cq
set_option maxHeartbeats 4000000 in
set_option maxRecDepth 100000 in
theorem lc_allergen (l : Launch) (hL : L ≤ 3586) (C0 : lw_At p s m meth c b L xs) (hK : kn D cy s) (hi : i + 7 ≤ L) (hT : lcA p l e s m below meth c b D cy i 814 (101 + i) (6005 + 5 * i)) : lcA p l e s m below meth c b D cy i 781 (100 + i) (6000 + 5 * i) := by
  obtain ⟨hx, hb, hr, hml, hown0, hts0, hX, hbl, hlocks, hgv⟩ := C0
  have hown : s.vm.findClass RL = some m.cls := hown0
  have hts : ∀ w ∈ wA, w.before #[Value.ref b] s = true := fun w h => hts0 w (wA_tbl w h)
  have hbA : ¬ (fun q : Nat => s.heap.size ≤ q) b := Nat.not_le.mpr hbl
  intro ad z ch et mn gm H locs hI hP hz hS ls hl
  obtain ⟨Q, hQ⟩ : ∃ Q, Q = lw_Z below #[Value.ref b] s := ⟨_, rfl⟩
  unfold lcA at hT
  rw [← hQ] at hT ⊢
  refine lv_aload_n hx hb dL_law_781 rfl (lv_at hl 1 rfl) ?_
  refine lv_aload_n hx hb dL_law_782 rfl (lv_at hl 0 rfl) ?_
  refine lv_iload_n hx hb dL_law_783 rfl (lv_at hl 3 rfl) ?_
  refine lv_iconst (v := 1) hx hb dL_law_784 (by decide) ?_
  refine lv_iadd hx hb dL_law_785 ?_
  refine va_sld hx hb hX hbl hbA hS (vp_ink 1 (by omega) (by omega)) dL_law_786 ?_
  refine lv_topi (fun x1 ex1 => ?_)
  refine lv_aload_n hx hb dL_law_787 rfl (lv_at hl 0 rfl) ?_
  refine lv_iload_n hx hb dL_law_788 rfl (lv_at hl 3 rfl) ?_
  refine lv_iconst (v := 2) hx hb dL_law_789 (by decide) ?_
  refine lv_iadd hx hb dL_law_790 ?_
  refine va_sld hx hb hX hbl hbA hS (vp_ink 2 (by omega) (by omega)) dL_law_791 ?_
  refine lv_topi (fun x2 ex2 => ?_)
  refine rwV (n := 2) (As := [.int x1, .int x2]) (rest := []) ⟨hx, hb, hml, hown, hts⟩ (kX1_allergen l D cy s.heap.size ad z (yC cy ad z et mn gm (fun _ => none)) ch hI.1 x1 x2) mlL_75 imX1_allergen seX1_allergen inX1 cdX1_allergen (by decide +kernel) rfl rfl ⟨Nat.le_of_ble_eq_true rfl, Nat.le_of_ble_eq_true rfl⟩ hK hP hz rfl rfl hS rfl hl.1 rfl (Nat.le_of_ble_eq_true rfl) dL_law_792 ⟨by show 100 + i + 0 ≤ 600000; omega, by show 6000 + 5 * i + 0 ≤ 7302250; omega⟩ (fun r1 u H locs hp hP hz1 hS => ?_)
  have hz := Nat.le_trans hz hz1
  obtain ⟨ad1, z1, ch1, eu, ⟨hk1, he1, ha0, ha1⟩, hst⟩ := st_allergen hI hp
  rw [eu] at hP
  have hP : mh D vwCl s.heap.size ad1 (yC cy ad1 z et mn gm (zC cy ad1 z1 (fun _ => none))) H := mh_eq hP (fun r => zy_swap hk1 he1 r)
  rw [← ha0, ← ha1] at hl
  refine lv_aload_n hx hb dL_law_795 rfl (lv_at hl 2 rfl) ?_
  refine lv_aload_n hx hb dL_law_796 rfl (lv_at hl 0 rfl) ?_
  refine lv_iload_n hx hb dL_law_797 rfl (lv_at hl 3 rfl) ?_
  refine lv_iconst (v := 1) hx hb dL_law_798 (by decide) ?_
  refine lv_iadd hx hb dL_law_799 ?_
  refine va_sld hx hb hX hbl hbA hS (vp_ink 1 (by omega) (by omega)) dL_law_800 ?_
  rw [← ex1]
  refine lv_aload_n hx hb dL_law_801 rfl (lv_at hl 0 rfl) ?_
  refine lv_iload_n hx hb dL_law_802 rfl (lv_at hl 3 rfl) ?_
  refine lv_iconst (v := 2) hx hb dL_law_803 (by decide) ?_
  refine lv_iadd hx hb dL_law_804 ?_
  refine va_sld hx hb hX hbl hbA hS (vp_ink 2 (by omega) (by omega)) dL_law_805 ?_
  rw [← ex2]
  refine rwV (n := 2) (As := [.int x1, .int x2]) (rest := [.int r1]) ⟨hx, hb, hml, hown, hts⟩ (kX2_allergen l D cy s.heap.size ad1 z et mn gm (zC cy ad1 z1 (fun _ => none)) ch hI.1 hI.2 x1 x2) mlL_79 imX2_allergen seX2_allergen inX2 cdX2_allergen (by decide +kernel) rfl rfl ⟨Nat.le_of_ble_eq_true rfl, Nat.le_of_ble_eq_true rfl⟩ hK hP hz rfl rfl hS rfl hl.1 rfl (Nat.le_of_ble_eq_true rfl) dL_law_806 ⟨by show 100 + i + 0 + 0 ≤ 600000; omega, by show 6000 + 5 * i + 0 + 0 ≤ 7302250; omega⟩ (fun r2 u2 H locs hp2 hP hz2 hS => ?_)
  have hz := Nat.le_trans hz hz2
  obtain ⟨er, et2, mn2, gm2, hI2, eu2⟩ := hst r2 u2 hp2
  rw [eu2] at hP
  refine lv_icmp_eq (tgt := 814) hx hb dL_law_809 (by decide) (fun cq => ?_) (fun cq => ?_)
  · refine W.widen (k := 101 + i) (n := 6005 + 5 * i) (by omega) (by omega) ?_
    exact hT ad1 z1 ch1 et2 mn2 gm2 H locs hI2 (mh_eq hP (fun r => (zy_swap hk1 he1 r).symm)) hz hS ls (lv_sub hl [0, 1, 2, 3] rfl)
  · exact absurd er.symm cq
end LC
