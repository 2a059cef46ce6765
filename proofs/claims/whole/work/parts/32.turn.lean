theorem nI_e {a b : Nat} (h : nI a = nI b) (ha : a < 2 ^ 31) (hb : b < 2 ^ 31) : a = b := (nI_eq ha hb).mp h
theorem lN_e {a b : Nat} (h : lN a = lN b) (ha : a < 2 ^ 31) (hb : b < 2 ^ 31) : a = b := by
  have q : (lN a).toInt = (lN b).toInt := by rw [h]
  rw [lN_toInt ha, lN_toInt hb] at q
  omega
theorem isOp_all (k : Int32) (n : Nat) : ∃ o, isOp k n o := by
  by_cases h : isIn k n
  · obtain ⟨j, h1, h2⟩ := h
    exact ⟨some j, h1, h2⟩
  · exact ⟨none, h⟩
theorem ans_fun {T : Nat} {k : Int32} {h : Int64} {f : Nat → Nat → Int32} {r r2 : Int32} (hT : T ≤ 32) (h1 : ans T k h f r) (h2 : ans T k h f r2) : r2 = r := by
  rcases h1 with ⟨t, j, a1, a2, a3, a4, a5⟩ | ⟨a1, a2⟩
  · rcases h2 with ⟨t', j', b1, b2, b3, b4, b5⟩ | ⟨b1, b2⟩
    · have e1 : t' = t := nI_e (b2.symm.trans a2) (by omega) (by omega)
      have e2 : j' = j := lN_e (b4.symm.trans a4) (by omega) (by omega)
      rw [b5, a5, e1, e2]
    · exact absurd ⟨⟨t, a1, a2⟩, ⟨j, a3, a4⟩⟩ b1
  · rcases h2 with ⟨t', j', b1, b2, b3, b4, b5⟩ | ⟨b1, b2⟩
    · exact absurd ⟨⟨t', b1, b2⟩, ⟨j', b3, b4⟩⟩ a1
    · rw [a2, b2]
theorem st_need {cy : Nat → ClassId} {ad : Nat → Nat} {z : zS} {ch : Nat → List Nat} {et : Nat → Nat} {mn : Nat → Int32} {gm : Nat → Nat} (hI : iv z ch et mn gm) {kf kt kl : Int32} {r : Int32} {u : (Nat → Nat) × (Nat → Option va_E)} (h1 : (fun r u => (r = 1 ∧ ∃ i j v, i < zK z ∧ j < zK z ∧ v ≤ zL z ∧ kf = nI i ∧ kt = nI j ∧ kl = nI v ∧ u = (ad, zC cy ad (uNd z i j v) (yC cy ad z et mn gm (fun _ => none)))) ∨ (r = 0 ∧ ¬ (isIn kf (zK z) ∧ isIn kt (zK z) ∧ isIn kl (zL z + 1)) ∧ u = (ad, zC cy ad z (yC cy ad z et mn gm (fun _ => none))))) r u) : ∃ (ad1 : Nat → Nat) (z1 : zS) (ch1 : Nat → List Nat), u = (ad1, zC cy ad1 z1 (yC cy ad1 z et mn gm (fun _ => none))) ∧ (zK z1 ≤ 20 ∧ zE z1 ≤ 200 ∧ ad1 0 = ad 0 ∧ ad1 1000 = ad 1000) ∧
    ∀ (r2 : Int32) (u2 : (Nat → Nat) × (Nat → Option va_E)), (fun r u => (r = 1 ∧ ∃ i j v, i < zK z ∧ j < zK z ∧ v ≤ zL z ∧ kf = nI i ∧ kt = nI j ∧ kl = nI v ∧ u = (ad1, yC cy ad1 z et (upd mn (i * 20 + j) (nI v)) gm (zC cy ad1 z1 (fun _ => none)))) ∨ (r = 0 ∧ ¬ (isIn kf (zK z) ∧ isIn kt (zK z) ∧ isIn kl (zL z + 1)) ∧ u = (ad1, yC cy ad1 z et mn gm (zC cy ad1 z1 (fun _ => none))))) r2 u2 → r2 = r ∧ ∃ (et2 : Nat → Nat) (mn2 : Nat → Int32) (gm2 : Nat → Nat), iv z1 ch1 et2 mn2 gm2 ∧ u2 = (ad1, yC cy ad1 z1 et2 mn2 gm2 (zC cy ad1 z1 (fun _ => none))) := by
  have hK20 : zK z ≤ 20 := hI.1.2.1
  have hL9 : zL z ≤ 9 := hI.1.2.2.2.1
  have hE2 : zE z ≤ 200 := hI.1.2.2.2.2.2.1
  have hT3 : zT z ≤ 32 := hI.1.2.2.2.2.1
  rcases h1 with ⟨r1, i, j, v, hi, hj, hv, e1, e2, e3, eu⟩ | ⟨r1, hn, eu⟩
  · refine ⟨ad, uNd z i j v, ch, eu, ⟨hK20, hE2, rfl, rfl⟩, fun r2 u2 h2 => ?_⟩
    rcases h2 with ⟨r2e, i', j', v', hi', hj', hv', e1', e2', e3', eu2⟩ | ⟨r2e, hn2, eu2⟩
    · obtain rfl : i = i' := nI_e (e1.symm.trans e1') (by omega) (by omega)
      obtain rfl : j = j' := nI_e (e2.symm.trans e2') (by omega) (by omega)
      obtain rfl : v = v' := nI_e (e3.symm.trans e3') (by omega) (by omega)
      exact ⟨r2e.trans r1.symm, et, upd mn (i * 20 + j) (nI v), gm, iv_uNd hI hi hj hv, eu2⟩
    · exact absurd ⟨⟨i, hi, e1⟩, ⟨j, hj, e2⟩, ⟨v, Nat.lt_succ_of_le hv, e3⟩⟩ hn2
  · refine ⟨ad, z, ch, eu, ⟨hK20, hE2, rfl, rfl⟩, fun r2 u2 h2 => ?_⟩
    rcases h2 with ⟨r2e, i, j, v, hi, hj, hv, e1, e2, e3, eu2⟩ | ⟨r2e, hn2, eu2⟩
    · exact absurd ⟨⟨i, hi, e1⟩, ⟨j, hj, e2⟩, ⟨v, Nat.lt_succ_of_le hv, e3⟩⟩ hn
    · exact ⟨r2e.trans r1.symm, et, mn, gm, hI, eu2⟩
theorem st_hours {cy : Nat → ClassId} {ad : Nat → Nat} {z : zS} {ch : Nat → List Nat} {et : Nat → Nat} {mn : Nat → Int32} {gm : Nat → Nat} (hI : iv z ch et mn gm) {kl ks kh : Int32} {r : Int32} {u : (Nat → Nat) × (Nat → Option va_E)} (h1 : (fun r u => (r = 1 ∧ ∃ i st v, 1 ≤ i ∧ i ≤ zL z ∧ st < 2 ∧ v ≤ 100000 ∧ kl = nI i ∧ ks = nI st ∧ kh = nI v ∧ u = (ad, zC cy ad (uLa z st i v) (yC cy ad z et mn gm (fun _ => none)))) ∨ (r = 0 ∧ ¬ (isLv kl (zL z) ∧ isIn ks 2 ∧ isIn kh 100001) ∧ u = (ad, zC cy ad z (yC cy ad z et mn gm (fun _ => none))))) r u) : ∃ (ad1 : Nat → Nat) (z1 : zS) (ch1 : Nat → List Nat), u = (ad1, zC cy ad1 z1 (yC cy ad1 z et mn gm (fun _ => none))) ∧ (zK z1 ≤ 20 ∧ zE z1 ≤ 200 ∧ ad1 0 = ad 0 ∧ ad1 1000 = ad 1000) ∧
    ∀ (r2 : Int32) (u2 : (Nat → Nat) × (Nat → Option va_E)), (fun r u => (r = 1 ∧ ∃ i st v, 1 ≤ i ∧ i ≤ zL z ∧ st < 2 ∧ v ≤ 100000 ∧ kl = nI i ∧ ks = nI st ∧ kh = nI v ∧ u = (ad1, yC cy ad1 (uLa z st i v) et mn gm (zC cy ad1 z1 (fun _ => none)))) ∨ (r = 0 ∧ ¬ (isLv kl (zL z) ∧ isIn ks 2 ∧ isIn kh 100001) ∧ u = (ad1, yC cy ad1 z et mn gm (zC cy ad1 z1 (fun _ => none))))) r2 u2 → r2 = r ∧ ∃ (et2 : Nat → Nat) (mn2 : Nat → Int32) (gm2 : Nat → Nat), iv z1 ch1 et2 mn2 gm2 ∧ u2 = (ad1, yC cy ad1 z1 et2 mn2 gm2 (zC cy ad1 z1 (fun _ => none))) := by
  have hK20 : zK z ≤ 20 := hI.1.2.1
  have hL9 : zL z ≤ 9 := hI.1.2.2.2.1
  have hE2 : zE z ≤ 200 := hI.1.2.2.2.2.2.1
  have hT3 : zT z ≤ 32 := hI.1.2.2.2.2.1
  rcases h1 with ⟨r1, i, st, v, h1i, hi, hs, hv, e1, e2, e3, eu⟩ | ⟨r1, hn, eu⟩
  · refine ⟨ad, uLa z st i v, ch, eu, ⟨hK20, hE2, rfl, rfl⟩, fun r2 u2 h2 => ?_⟩
    rcases h2 with ⟨r2e, i', st', v', h1i', hi', hs', hv', e1', e2', e3', eu2⟩ | ⟨r2e, hn2, eu2⟩
    · obtain rfl : i = i' := nI_e (e1.symm.trans e1') (by omega) (by omega)
      obtain rfl : st = st' := nI_e (e2.symm.trans e2') (by omega) (by omega)
      obtain rfl : v = v' := nI_e (e3.symm.trans e3') (by omega) (by omega)
      exact ⟨r2e.trans r1.symm, et, mn, gm, iv_uLa hI hv, eu2⟩
    · exact absurd ⟨⟨i, h1i, hi, e1⟩, ⟨st, hs, e2⟩, ⟨v, Nat.lt_succ_of_le hv, e3⟩⟩ hn2
  · refine ⟨ad, z, ch, eu, ⟨hK20, hE2, rfl, rfl⟩, fun r2 u2 h2 => ?_⟩
    rcases h2 with ⟨r2e, i, st, v, h1i, hi, hs, hv, e1, e2, e3, eu2⟩ | ⟨r2e, hn2, eu2⟩
    · exact absurd ⟨⟨i, h1i, hi, e1⟩, ⟨st, hs, e2⟩, ⟨v, Nat.lt_succ_of_le hv, e3⟩⟩ hn
    · exact ⟨r2e.trans r1.symm, et, mn, gm, hI, eu2⟩
theorem st_cost {cy : Nat → ClassId} {ad : Nat → Nat} {z : zS} {ch : Nat → List Nat} {et : Nat → Nat} {mn : Nat → Int32} {gm : Nat → Nat} (hI : iv z ch et mn gm) {kl : Int32} {kc : Int64} {r : Int32} {u : (Nat → Nat) × (Nat → Option va_E)} (h1 : (fun r u => (r = 1 ∧ ∃ i v, 1 ≤ i ∧ i ≤ zL z ∧ v ≤ 1000000 ∧ kl = nI i ∧ kc = lN v ∧ u = (ad, zC cy ad (uCo z i v) (yC cy ad z et mn gm (fun _ => none)))) ∨ (r = 0 ∧ ¬ (isLv kl (zL z) ∧ isHr kc) ∧ u = (ad, zC cy ad z (yC cy ad z et mn gm (fun _ => none))))) r u) : ∃ (ad1 : Nat → Nat) (z1 : zS) (ch1 : Nat → List Nat), u = (ad1, zC cy ad1 z1 (yC cy ad1 z et mn gm (fun _ => none))) ∧ (zK z1 ≤ 20 ∧ zE z1 ≤ 200 ∧ ad1 0 = ad 0 ∧ ad1 1000 = ad 1000) ∧
    ∀ (r2 : Int32) (u2 : (Nat → Nat) × (Nat → Option va_E)), (fun r u => (r = 1 ∧ ∃ i v, 1 ≤ i ∧ i ≤ zL z ∧ v ≤ 1000000 ∧ kl = nI i ∧ kc = lN v ∧ u = (ad1, yC cy ad1 (uCo z i v) et mn gm (zC cy ad1 z1 (fun _ => none)))) ∨ (r = 0 ∧ ¬ (isLv kl (zL z) ∧ isHr kc) ∧ u = (ad1, yC cy ad1 z et mn gm (zC cy ad1 z1 (fun _ => none))))) r2 u2 → r2 = r ∧ ∃ (et2 : Nat → Nat) (mn2 : Nat → Int32) (gm2 : Nat → Nat), iv z1 ch1 et2 mn2 gm2 ∧ u2 = (ad1, yC cy ad1 z1 et2 mn2 gm2 (zC cy ad1 z1 (fun _ => none))) := by
  have hK20 : zK z ≤ 20 := hI.1.2.1
  have hL9 : zL z ≤ 9 := hI.1.2.2.2.1
  have hE2 : zE z ≤ 200 := hI.1.2.2.2.2.2.1
  have hT3 : zT z ≤ 32 := hI.1.2.2.2.2.1
  rcases h1 with ⟨r1, i, v, h1i, hi, hv, e1, e2, eu⟩ | ⟨r1, hn, eu⟩
  · refine ⟨ad, uCo z i v, ch, eu, ⟨hK20, hE2, rfl, rfl⟩, fun r2 u2 h2 => ?_⟩
    rcases h2 with ⟨r2e, i', v', h1i', hi', hv', e1', e2', eu2⟩ | ⟨r2e, hn2, eu2⟩
    · obtain rfl : i = i' := nI_e (e1.symm.trans e1') (by omega) (by omega)
      obtain rfl : v = v' := lN_e (e2.symm.trans e2') (by omega) (by omega)
      exact ⟨r2e.trans r1.symm, et, mn, gm, iv_uCo hI hv, eu2⟩
    · exact absurd ⟨⟨i, h1i, hi, e1⟩, ⟨v, hv, e2⟩⟩ hn2
  · refine ⟨ad, z, ch, eu, ⟨hK20, hE2, rfl, rfl⟩, fun r2 u2 h2 => ?_⟩
    rcases h2 with ⟨r2e, i, v, h1i, hi, hv, e1, e2, eu2⟩ | ⟨r2e, hn2, eu2⟩
    · exact absurd ⟨⟨i, h1i, hi, e1⟩, ⟨v, hv, e2⟩⟩ hn
    · exact ⟨r2e.trans r1.symm, et, mn, gm, hI, eu2⟩
theorem st_allergen {cy : Nat → ClassId} {ad : Nat → Nat} {z : zS} {ch : Nat → List Nat} {et : Nat → Nat} {mn : Nat → Int32} {gm : Nat → Nat} (hI : iv z ch et mn gm) {kk kb : Int32} {r : Int32} {u : (Nat → Nat) × (Nat → Option va_E)} (h1 : (fun r u => (∃ i v, i < zK z ∧ v < 65536 ∧ kk = nI i ∧ kb = nI v ∧ r = nI (zAl z i) ∧ u = (ad, zC cy ad (uAl z i v) (yC cy ad z et mn gm (fun _ => none)))) ∨ (r = -1 ∧ ¬ (isIn kk (zK z) ∧ isIn kb 65536) ∧ u = (ad, zC cy ad z (yC cy ad z et mn gm (fun _ => none))))) r u) : ∃ (ad1 : Nat → Nat) (z1 : zS) (ch1 : Nat → List Nat), u = (ad1, zC cy ad1 z1 (yC cy ad1 z et mn gm (fun _ => none))) ∧ (zK z1 ≤ 20 ∧ zE z1 ≤ 200 ∧ ad1 0 = ad 0 ∧ ad1 1000 = ad 1000) ∧
    ∀ (r2 : Int32) (u2 : (Nat → Nat) × (Nat → Option va_E)), (fun r u => (∃ i v, i < zK z ∧ v < 65536 ∧ kk = nI i ∧ kb = nI v ∧ r = nI (zAl z i) ∧ u = (ad1, yC cy ad1 (uAl z i v) et mn gm (zC cy ad1 z1 (fun _ => none)))) ∨ (r = -1 ∧ ¬ (isIn kk (zK z) ∧ isIn kb 65536) ∧ u = (ad1, yC cy ad1 z et mn gm (zC cy ad1 z1 (fun _ => none))))) r2 u2 → r2 = r ∧ ∃ (et2 : Nat → Nat) (mn2 : Nat → Int32) (gm2 : Nat → Nat), iv z1 ch1 et2 mn2 gm2 ∧ u2 = (ad1, yC cy ad1 z1 et2 mn2 gm2 (zC cy ad1 z1 (fun _ => none))) := by
  have hK20 : zK z ≤ 20 := hI.1.2.1
  have hL9 : zL z ≤ 9 := hI.1.2.2.2.1
  have hE2 : zE z ≤ 200 := hI.1.2.2.2.2.2.1
  have hT3 : zT z ≤ 32 := hI.1.2.2.2.2.1
  rcases h1 with ⟨i, v, hi, hv, e1, e2, er, eu⟩ | ⟨r1, hn, eu⟩
  · refine ⟨ad, uAl z i v, ch, eu, ⟨hK20, hE2, rfl, rfl⟩, fun r2 u2 h2 => ?_⟩
    rcases h2 with ⟨i', v', hi', hv', e1', e2', er', eu2⟩ | ⟨r2e, hn2, eu2⟩
    · obtain rfl : i = i' := nI_e (e1.symm.trans e1') (by omega) (by omega)
      obtain rfl : v = v' := nI_e (e2.symm.trans e2') (by omega) (by omega)
      exact ⟨er'.trans er.symm, et, mn, gm, iv_uAl hI hv, eu2⟩
    · exact absurd ⟨⟨i, hi, e1⟩, ⟨v, hv, e2⟩⟩ hn2
  · refine ⟨ad, z, ch, eu, ⟨hK20, hE2, rfl, rfl⟩, fun r2 u2 h2 => ?_⟩
    rcases h2 with ⟨i, v, hi, hv, e1, e2, er, eu2⟩ | ⟨r2e, hn2, eu2⟩
    · exact absurd ⟨⟨i, hi, e1⟩, ⟨v, hv, e2⟩⟩ hn
    · exact ⟨r2e.trans r1.symm, et, mn, gm, hI, eu2⟩
theorem st_joinPipe {cy : Nat → ClassId} {ad : Nat → Nat} {z : zS} {ch : Nat → List Nat} {et : Nat → Nat} {mn : Nat → Int32} {gm : Nat → Nat} (hI : iv z ch et mn gm) {ka kb : Int32} {r : Int32} {u : (Nat → Nat) × (Nat → Option va_E)} (h1 : (fun r u => (r = 1 ∧ ∃ a b, a < zT z ∧ b < zT z ∧ ka = nI a ∧ kb = nI b ∧ zGr z a ≠ zGr z b ∧ u = (ad, zC cy ad (uGr z (fun e => if e < zT z ∧ zGr z e = zGr z b then zGr z a else zGr z e)) (yC cy ad z et mn gm (fun _ => none)))) ∨ (r = 0 ∧ ¬ (∃ a b, a < zT z ∧ b < zT z ∧ ka = nI a ∧ kb = nI b ∧ zGr z a ≠ zGr z b) ∧ u = (ad, zC cy ad z (yC cy ad z et mn gm (fun _ => none))))) r u) : ∃ (ad1 : Nat → Nat) (z1 : zS) (ch1 : Nat → List Nat), u = (ad1, zC cy ad1 z1 (yC cy ad1 z et mn gm (fun _ => none))) ∧ (zK z1 ≤ 20 ∧ zE z1 ≤ 200 ∧ ad1 0 = ad 0 ∧ ad1 1000 = ad 1000) ∧
    ∀ (r2 : Int32) (u2 : (Nat → Nat) × (Nat → Option va_E)), (fun r u => (r = 1 ∧ ∃ a b, a < zT z ∧ b < zT z ∧ ka = nI a ∧ kb = nI b ∧ zGr z a ≠ zGr z b ∧ u = (ad1, yC cy ad1 z et mn (fun e => if e < zT z ∧ gm e = max (gm a) (gm b) then min (gm a) (gm b) else gm e) (zC cy ad1 z1 (fun _ => none)))) ∨ (r = 0 ∧ ¬ (∃ a b, a < zT z ∧ b < zT z ∧ ka = nI a ∧ kb = nI b ∧ zGr z a ≠ zGr z b) ∧ u = (ad1, yC cy ad1 z et mn gm (zC cy ad1 z1 (fun _ => none))))) r2 u2 → r2 = r ∧ ∃ (et2 : Nat → Nat) (mn2 : Nat → Int32) (gm2 : Nat → Nat), iv z1 ch1 et2 mn2 gm2 ∧ u2 = (ad1, yC cy ad1 z1 et2 mn2 gm2 (zC cy ad1 z1 (fun _ => none))) := by
  have hK20 : zK z ≤ 20 := hI.1.2.1
  have hL9 : zL z ≤ 9 := hI.1.2.2.2.1
  have hE2 : zE z ≤ 200 := hI.1.2.2.2.2.2.1
  have hT3 : zT z ≤ 32 := hI.1.2.2.2.2.1
  rcases h1 with ⟨r1, a, b, ha, hb, e1, e2, hab, eu⟩ | ⟨r1, hn, eu⟩
  · refine ⟨ad, uGr z (fun e => if e < zT z ∧ zGr z e = zGr z b then zGr z a else zGr z e), ch, eu, ⟨hK20, hE2, rfl, rfl⟩, fun r2 u2 h2 => ?_⟩
    rcases h2 with ⟨r2e, a', b', ha', hb', e1', e2', hab', eu2⟩ | ⟨r2e, hn2, eu2⟩
    · obtain rfl : a = a' := nI_e (e1.symm.trans e1') (by omega) (by omega)
      obtain rfl : b = b' := nI_e (e2.symm.trans e2') (by omega) (by omega)
      exact ⟨r2e.trans r1.symm, et, mn, (fun e => if e < zT z ∧ gm e = max (gm a) (gm b) then min (gm a) (gm b) else gm e), iv_join hI ha hb hab, eu2⟩
    · exact absurd ⟨a, b, ha, hb, e1, e2, hab⟩ hn2
  · refine ⟨ad, z, ch, eu, ⟨hK20, hE2, rfl, rfl⟩, fun r2 u2 h2 => ?_⟩
    rcases h2 with ⟨r2e, a, b, ha, hb, e1, e2, hab, eu2⟩ | ⟨r2e, hn2, eu2⟩
    · exact absurd ⟨a, b, ha, hb, e1, e2, hab⟩ hn
    · exact ⟨r2e.trans r1.symm, et, mn, gm, hI, eu2⟩
theorem st_thing {cy : Nat → ClassId} {ad : Nat → Nat} {z : zS} {ch : Nat → List Nat} {et : Nat → Nat} {mn : Nat → Int32} {gm : Nat → Nat} (hI : iv z ch et mn gm)  {r : Int32} {u : (Nat → Nat) × (Nat → Option va_E)} (h1 : (fun r u => (zT z < 32 ∧ r = nI (zT z) ∧ u = (ad, zC cy ad (uT (uGr z (fun a => if a = zT z then zT z else zGr z a)) (zT z + 1)) (yC cy ad z et mn gm (fun _ => none)))) ∨ (zT z = 32 ∧ r = -2 ∧ u = (ad, zC cy ad z (yC cy ad z et mn gm (fun _ => none))))) r u) : ∃ (ad1 : Nat → Nat) (z1 : zS) (ch1 : Nat → List Nat), u = (ad1, zC cy ad1 z1 (yC cy ad1 z et mn gm (fun _ => none))) ∧ (zK z1 ≤ 20 ∧ zE z1 ≤ 200 ∧ ad1 0 = ad 0 ∧ ad1 1000 = ad 1000) ∧
    ∀ (r2 : Int32) (u2 : (Nat → Nat) × (Nat → Option va_E)), (fun r u => (zT z < 32 ∧ r = nI (zT z) ∧ u = (ad1, yC cy ad1 (uT z (zT z + 1)) et mn (fun a => if a = zT z then zT z else gm a) (zC cy ad1 z1 (fun _ => none)))) ∨ (zT z = 32 ∧ r = -2 ∧ u = (ad1, yC cy ad1 z et mn gm (zC cy ad1 z1 (fun _ => none))))) r2 u2 → r2 = r ∧ ∃ (et2 : Nat → Nat) (mn2 : Nat → Int32) (gm2 : Nat → Nat), iv z1 ch1 et2 mn2 gm2 ∧ u2 = (ad1, yC cy ad1 z1 et2 mn2 gm2 (zC cy ad1 z1 (fun _ => none))) := by
  have hK20 : zK z ≤ 20 := hI.1.2.1
  have hL9 : zL z ≤ 9 := hI.1.2.2.2.1
  have hE2 : zE z ≤ 200 := hI.1.2.2.2.2.2.1
  have hT3 : zT z ≤ 32 := hI.1.2.2.2.2.1
  rcases h1 with ⟨hT, r1, eu⟩ | ⟨hT, r1, eu⟩
  · refine ⟨ad, uT (uGr z (fun a => if a = zT z then zT z else zGr z a)) (zT z + 1), fun t => if t = zT z then [] else ch t, eu, ⟨hK20, hE2, rfl, rfl⟩, fun r2 u2 h2 => ?_⟩
    rcases h2 with ⟨hT', r2e, eu2⟩ | ⟨hT', r2e, eu2⟩
    · exact ⟨r2e.trans r1.symm, et, mn, (fun a => if a = zT z then zT z else gm a), iv_thing hI hT, eu2⟩
    · omega
  · refine ⟨ad, z, ch, eu, ⟨hK20, hE2, rfl, rfl⟩, fun r2 u2 h2 => ?_⟩
    rcases h2 with ⟨hT', r2e, eu2⟩ | ⟨hT', r2e, eu2⟩
    · omega
    · exact ⟨r2e.trans r1.symm, et, mn, gm, hI, eu2⟩
theorem st_held {cy : Nat → ClassId} {ad : Nat → Nat} {z : zS} {ch : Nat → List Nat} {et : Nat → Nat} {mn : Nat → Int32} {gm : Nat → Nat} (hI : iv z ch et mn gm) {kt kk : Int32} {h : Int64} {r : Int32} {u : (Nat → Nat) × (Nat → Option va_E)} (h1 : (fun r u => (r = 1 ∧ ∃ t i j q pre suf, (t < zT z ∧ kt = nI t ∧ i < zK z ∧ kk = nI i ∧ j ≤ 1000000 ∧ h = lN j ∧ zE z < 200 ∧ zNx z ch t j) ∧ zSp z j (ch t) pre suf ∧ u = (va_up ad (100 + zE z) q, zC cy (va_up ad (100 + zE z) q) (zIns z t (nI i, 0, j, 0, none) pre suf) (yC cy ad z et mn gm (fun _ => none)))) ∨ (r = 0 ∧ ¬ (∃ t i j, t < zT z ∧ kt = nI t ∧ i < zK z ∧ kk = nI i ∧ j ≤ 1000000 ∧ h = lN j ∧ zE z < 200 ∧ zNx z ch t j) ∧ u = (ad, zC cy ad z (yC cy ad z et mn gm (fun _ => none))))) r u) : ∃ (ad1 : Nat → Nat) (z1 : zS) (ch1 : Nat → List Nat), u = (ad1, zC cy ad1 z1 (yC cy ad1 z et mn gm (fun _ => none))) ∧ (zK z1 ≤ 20 ∧ zE z1 ≤ 200 ∧ ad1 0 = ad 0 ∧ ad1 1000 = ad 1000) ∧
    ∀ (r2 : Int32) (u2 : (Nat → Nat) × (Nat → Option va_E)), (fun r u => (r = 1 ∧ ∃ t i j, (t < zT z ∧ kt = nI t ∧ i < zK z ∧ kk = nI i ∧ j ≤ 1000000 ∧ h = lN j ∧ zE z < 200 ∧ zNx z ch t j) ∧ u = (ad1, yC cy ad1 (uE (uVs z (zE z) (nI i, 0, j, 0, none)) (zE z + 1)) (fun k => if k = zE z then t else et k) mn gm (zC cy ad1 z1 (fun _ => none)))) ∨ (r = 0 ∧ ¬ (∃ t i j, t < zT z ∧ kt = nI t ∧ i < zK z ∧ kk = nI i ∧ j ≤ 1000000 ∧ h = lN j ∧ zE z < 200 ∧ zNx z ch t j) ∧ u = (ad1, yC cy ad1 z et mn gm (zC cy ad1 z1 (fun _ => none))))) r2 u2 → r2 = r ∧ ∃ (et2 : Nat → Nat) (mn2 : Nat → Int32) (gm2 : Nat → Nat), iv z1 ch1 et2 mn2 gm2 ∧ u2 = (ad1, yC cy ad1 z1 et2 mn2 gm2 (zC cy ad1 z1 (fun _ => none))) := by
  have hK20 : zK z ≤ 20 := hI.1.2.1
  have hL9 : zL z ≤ 9 := hI.1.2.2.2.1
  have hE2 : zE z ≤ 200 := hI.1.2.2.2.2.2.1
  have hT3 : zT z ≤ 32 := hI.1.2.2.2.2.1
  rcases h1 with ⟨r1, t, i, j, q, pre, suf, ⟨ht, e1, hi, e2, hj, e3, hE, hnx⟩, hsp, eu⟩ | ⟨r1, hn, eu⟩
  · obtain ⟨hpre, hI1⟩ := iv_ins (kd := nI i) (i := 0) (la := 0) hI ht hE hj (Nat.zero_le _) (Nat.zero_le _) (Or.inr ⟨i, hi, rfl⟩) hsp
    refine ⟨va_up ad (100 + zE z) q, zIns z t (nI i, 0, j, 0, none) pre suf, (fun x => if x = t then pre ++ zE z :: suf else ch x), ?_, ⟨hI1.1.2.1, hI1.1.2.2.2.2.2.1, va_up_ne _ _ (by omega), va_up_ne _ _ (by omega)⟩, fun r2 u2 h2 => ?_⟩
    · rw [eu, yC_ad (ad := ad) (ad' := va_up ad (100 + zE z) q) (fun r hr => va_up_ne _ _ (by omega))]
    rcases h2 with ⟨r2e, t', i', j', ⟨ht', e1', hi', e2', hj', e3', hE', hnx'⟩, eu2⟩ | ⟨r2e, hn2, eu2⟩
    · obtain rfl : t = t' := nI_e (e1.symm.trans e1') (by omega) (by omega)
      obtain rfl : i = i' := nI_e (e2.symm.trans e2') (by omega) (by omega)
      obtain rfl : j = j' := lN_e (e3.symm.trans e3') (by omega) (by omega)
      refine ⟨r2e.trans r1.symm, (fun k => if k = zE z then t else et k), mn, gm, hI1, ?_⟩
      rw [eu2, yC_zIns hpre]
    · exact absurd ⟨t, i, j, ht, e1, hi, e2, hj, e3, hE, hnx⟩ hn2
  · refine ⟨ad, z, ch, eu, ⟨hK20, hE2, rfl, rfl⟩, fun r2 u2 h2 => ?_⟩
    rcases h2 with ⟨r2e, t, i, j, ⟨ht, e1, hi, e2, hj, e3, hE, hnx⟩, eu2⟩ | ⟨r2e, hn2, eu2⟩
    · exact absurd ⟨t, i, j, ht, e1, hi, e2, hj, e3, hE, hnx⟩ hn
    · exact ⟨r2e.trans r1.symm, et, mn, gm, hI, eu2⟩
theorem st_cleaned {cy : Nat → ClassId} {ad : Nat → Nat} {z : zS} {ch : Nat → List Nat} {et : Nat → Nat} {mn : Nat → Int32} {gm : Nat → Nat} (hI : iv z ch et mn gm) {kt kk : Int32} {h : Int64} {r : Int32} {u : (Nat → Nat) × (Nat → Option va_E)} (h1 : (fun r u => (r = 1 ∧ ∃ t i j q pre suf, (t < zT z ∧ kt = nI t ∧ 1 ≤ i ∧ i ≤ zL z ∧ kk = nI i ∧ j ≤ 1000000 ∧ h = lN j ∧ zE z < 200 ∧ zNx z ch t j) ∧ zSp z j (ch t) pre suf ∧ u = (va_up ad (100 + zE z) q, zC cy (va_up ad (100 + zE z) q) (zIns z t (-1, i, j, 0, none) pre suf) (yC cy ad z et mn gm (fun _ => none)))) ∨ (r = 0 ∧ ¬ (∃ t i j, t < zT z ∧ kt = nI t ∧ 1 ≤ i ∧ i ≤ zL z ∧ kk = nI i ∧ j ≤ 1000000 ∧ h = lN j ∧ zE z < 200 ∧ zNx z ch t j) ∧ u = (ad, zC cy ad z (yC cy ad z et mn gm (fun _ => none))))) r u) : ∃ (ad1 : Nat → Nat) (z1 : zS) (ch1 : Nat → List Nat), u = (ad1, zC cy ad1 z1 (yC cy ad1 z et mn gm (fun _ => none))) ∧ (zK z1 ≤ 20 ∧ zE z1 ≤ 200 ∧ ad1 0 = ad 0 ∧ ad1 1000 = ad 1000) ∧
    ∀ (r2 : Int32) (u2 : (Nat → Nat) × (Nat → Option va_E)), (fun r u => (r = 1 ∧ ∃ t i j, (t < zT z ∧ kt = nI t ∧ 1 ≤ i ∧ i ≤ zL z ∧ kk = nI i ∧ j ≤ 1000000 ∧ h = lN j ∧ zE z < 200 ∧ zNx z ch t j) ∧ u = (ad1, yC cy ad1 (uE (uVs z (zE z) (-1, i, j, 0, none)) (zE z + 1)) (fun k => if k = zE z then t else et k) mn gm (zC cy ad1 z1 (fun _ => none)))) ∨ (r = 0 ∧ ¬ (∃ t i j, t < zT z ∧ kt = nI t ∧ 1 ≤ i ∧ i ≤ zL z ∧ kk = nI i ∧ j ≤ 1000000 ∧ h = lN j ∧ zE z < 200 ∧ zNx z ch t j) ∧ u = (ad1, yC cy ad1 z et mn gm (zC cy ad1 z1 (fun _ => none))))) r2 u2 → r2 = r ∧ ∃ (et2 : Nat → Nat) (mn2 : Nat → Int32) (gm2 : Nat → Nat), iv z1 ch1 et2 mn2 gm2 ∧ u2 = (ad1, yC cy ad1 z1 et2 mn2 gm2 (zC cy ad1 z1 (fun _ => none))) := by
  have hK20 : zK z ≤ 20 := hI.1.2.1
  have hL9 : zL z ≤ 9 := hI.1.2.2.2.1
  have hE2 : zE z ≤ 200 := hI.1.2.2.2.2.2.1
  have hT3 : zT z ≤ 32 := hI.1.2.2.2.2.1
  rcases h1 with ⟨r1, t, i, j, q, pre, suf, ⟨ht, e1, h1i, hi, e2, hj, e3, hE, hnx⟩, hsp, eu⟩ | ⟨r1, hn, eu⟩
  · obtain ⟨hpre, hI1⟩ := iv_ins (kd := -1) (i := i) (la := 0) hI ht hE hj hi (Nat.zero_le _) (Or.inl rfl) hsp
    refine ⟨va_up ad (100 + zE z) q, zIns z t (-1, i, j, 0, none) pre suf, (fun x => if x = t then pre ++ zE z :: suf else ch x), ?_, ⟨hI1.1.2.1, hI1.1.2.2.2.2.2.1, va_up_ne _ _ (by omega), va_up_ne _ _ (by omega)⟩, fun r2 u2 h2 => ?_⟩
    · rw [eu, yC_ad (ad := ad) (ad' := va_up ad (100 + zE z) q) (fun r hr => va_up_ne _ _ (by omega))]
    rcases h2 with ⟨r2e, t', i', j', ⟨ht', e1', h1i', hi', e2', hj', e3', hE', hnx'⟩, eu2⟩ | ⟨r2e, hn2, eu2⟩
    · obtain rfl : t = t' := nI_e (e1.symm.trans e1') (by omega) (by omega)
      obtain rfl : i = i' := nI_e (e2.symm.trans e2') (by omega) (by omega)
      obtain rfl : j = j' := lN_e (e3.symm.trans e3') (by omega) (by omega)
      refine ⟨r2e.trans r1.symm, (fun k => if k = zE z then t else et k), mn, gm, hI1, ?_⟩
      rw [eu2, yC_zIns hpre]
    · exact absurd ⟨t, i, j, ht, e1, h1i, hi, e2, hj, e3, hE, hnx⟩ hn2
  · refine ⟨ad, z, ch, eu, ⟨hK20, hE2, rfl, rfl⟩, fun r2 u2 h2 => ?_⟩
    rcases h2 with ⟨r2e, t, i, j, ⟨ht, e1, h1i, hi, e2, hj, e3, hE, hnx⟩, eu2⟩ | ⟨r2e, hn2, eu2⟩
    · exact absurd ⟨t, i, j, ht, e1, h1i, hi, e2, hj, e3, hE, hnx⟩ hn
    · exact ⟨r2e.trans r1.symm, et, mn, gm, hI, eu2⟩
theorem st_told {cy : Nat → ClassId} {ad : Nat → Nat} {z : zS} {ch : Nat → List Nat} {et : Nat → Nat} {mn : Nat → Int32} {gm : Nat → Nat} (hI : iv z ch et mn gm) {kt kk : Int32} {h on : Int64} {r : Int32} {u : (Nat → Nat) × (Nat → Option va_E)} (h1 : (fun r u => (r = 1 ∧ ∃ t i j o q pre suf, (t < zT z ∧ kt = nI t ∧ i < zK z ∧ kk = nI i ∧ j ≤ 1000000 ∧ h = lN j ∧ o ≤ 1000000 ∧ on = lN o ∧ j ≤ o ∧ zLH z (ch t) ≤ o ∧ zE z < 200) ∧ zSp z j (ch t) pre suf ∧ u = (va_up ad (100 + zE z) q, zC cy (va_up ad (100 + zE z) q) (zIns z t (nI i, 0, j, 1, none) pre suf) (yC cy ad z et mn gm (fun _ => none)))) ∨ (r = 0 ∧ ¬ (∃ t i j o, t < zT z ∧ kt = nI t ∧ i < zK z ∧ kk = nI i ∧ j ≤ 1000000 ∧ h = lN j ∧ o ≤ 1000000 ∧ on = lN o ∧ j ≤ o ∧ zLH z (ch t) ≤ o ∧ zE z < 200) ∧ u = (ad, zC cy ad z (yC cy ad z et mn gm (fun _ => none))))) r u) : ∃ (ad1 : Nat → Nat) (z1 : zS) (ch1 : Nat → List Nat), u = (ad1, zC cy ad1 z1 (yC cy ad1 z et mn gm (fun _ => none))) ∧ (zK z1 ≤ 20 ∧ zE z1 ≤ 200 ∧ ad1 0 = ad 0 ∧ ad1 1000 = ad 1000) ∧
    ∀ (r2 : Int32) (u2 : (Nat → Nat) × (Nat → Option va_E)), (fun r u => (r = 1 ∧ ∃ t i j o, (t < zT z ∧ kt = nI t ∧ i < zK z ∧ kk = nI i ∧ j ≤ 1000000 ∧ h = lN j ∧ o ≤ 1000000 ∧ on = lN o ∧ j ≤ o ∧ zLH z (ch t) ≤ o ∧ zE z < 200) ∧ u = (ad1, yC cy ad1 (uE (uVs z (zE z) (nI i, 0, j, 1, none)) (zE z + 1)) (fun k => if k = zE z then t else et k) mn gm (zC cy ad1 z1 (fun _ => none)))) ∨ (r = 0 ∧ ¬ (∃ t i j o, t < zT z ∧ kt = nI t ∧ i < zK z ∧ kk = nI i ∧ j ≤ 1000000 ∧ h = lN j ∧ o ≤ 1000000 ∧ on = lN o ∧ j ≤ o ∧ zLH z (ch t) ≤ o ∧ zE z < 200) ∧ u = (ad1, yC cy ad1 z et mn gm (zC cy ad1 z1 (fun _ => none))))) r2 u2 → r2 = r ∧ ∃ (et2 : Nat → Nat) (mn2 : Nat → Int32) (gm2 : Nat → Nat), iv z1 ch1 et2 mn2 gm2 ∧ u2 = (ad1, yC cy ad1 z1 et2 mn2 gm2 (zC cy ad1 z1 (fun _ => none))) := by
  have hK20 : zK z ≤ 20 := hI.1.2.1
  have hL9 : zL z ≤ 9 := hI.1.2.2.2.1
  have hE2 : zE z ≤ 200 := hI.1.2.2.2.2.2.1
  have hT3 : zT z ≤ 32 := hI.1.2.2.2.2.1
  rcases h1 with ⟨r1, t, i, j, o, q, pre, suf, ⟨ht, e1, hi, e2, hj, e3, ho, e4, hjo, hlh, hE⟩, hsp, eu⟩ | ⟨r1, hn, eu⟩
  · obtain ⟨hpre, hI1⟩ := iv_ins (kd := nI i) (i := 0) (la := 1) hI ht hE hj (Nat.zero_le _) (Nat.le_refl _) (Or.inr ⟨i, hi, rfl⟩) hsp
    refine ⟨va_up ad (100 + zE z) q, zIns z t (nI i, 0, j, 1, none) pre suf, (fun x => if x = t then pre ++ zE z :: suf else ch x), ?_, ⟨hI1.1.2.1, hI1.1.2.2.2.2.2.1, va_up_ne _ _ (by omega), va_up_ne _ _ (by omega)⟩, fun r2 u2 h2 => ?_⟩
    · rw [eu, yC_ad (ad := ad) (ad' := va_up ad (100 + zE z) q) (fun r hr => va_up_ne _ _ (by omega))]
    rcases h2 with ⟨r2e, t', i', j', o', ⟨ht', e1', hi', e2', hj', e3', ho', e4', hjo', hlh', hE'⟩, eu2⟩ | ⟨r2e, hn2, eu2⟩
    · obtain rfl : t = t' := nI_e (e1.symm.trans e1') (by omega) (by omega)
      obtain rfl : i = i' := nI_e (e2.symm.trans e2') (by omega) (by omega)
      obtain rfl : j = j' := lN_e (e3.symm.trans e3') (by omega) (by omega)
      obtain rfl : o = o' := lN_e (e4.symm.trans e4') (by omega) (by omega)
      refine ⟨r2e.trans r1.symm, (fun k => if k = zE z then t else et k), mn, gm, hI1, ?_⟩
      rw [eu2, yC_zIns hpre]
    · exact absurd ⟨t, i, j, o, ht, e1, hi, e2, hj, e3, ho, e4, hjo, hlh, hE⟩ hn2
  · refine ⟨ad, z, ch, eu, ⟨hK20, hE2, rfl, rfl⟩, fun r2 u2 h2 => ?_⟩
    rcases h2 with ⟨r2e, t, i, j, o, ⟨ht, e1, hi, e2, hj, e3, ho, e4, hjo, hlh, hE⟩, eu2⟩ | ⟨r2e, hn2, eu2⟩
    · exact absurd ⟨t, i, j, o, ht, e1, hi, e2, hj, e3, ho, e4, hjo, hlh, hE⟩ hn
    · exact ⟨r2e.trans r1.symm, et, mn, gm, hI, eu2⟩
