theorem sw_in (x : Int32) : (x.toInt < 0 ∨ 11 < x.toInt) ∨ ∃ k : Nat, k < 12 ∧ x = nI k := by
  by_cases h : x.toInt < 0 ∨ 11 < x.toInt
  · exact Or.inl h
  · refine Or.inr ⟨x.toInt.toNat, by omega, ?_⟩
    apply Int32.toInt_inj.mp
    rw [nI_toInt (by omega)]
    omega
theorem sub_7 {i L : Nat} (hL : L ≤ 3586) (hi : i < 2 ^ 31) (h : ¬ nI L - 7 < nI i) : i + 7 ≤ L := by
  rcases Nat.lt_or_ge L 7 with q | q
  · refine absurd ?_ h
    have hneg : nI L - 7 < 0 := by
      rcases (show L = 0 ∨ L = 1 ∨ L = 2 ∨ L = 3 ∨ L = 4 ∨ L = 5 ∨ L = 6 by omega) with rfl | rfl | rfl | rfl | rfl | rfl | rfl <;> decide
    exact Int32.lt_of_lt_of_le hneg (nI_pos' hi)
  · have e : nI L - 7 = nI (L - 7) := by
      have e1 : nI (L - 7) + nI 7 = nI L := by rw [nI_add]; congr 1; omega
      rw [← e1]
      show nI (L - 7) + 7 - 7 = _
      rw [Int32.add_sub_cancel]
    rw [e, nI_ltI (by omega) hi] at h
    omega
section LL
variable {p : Program} {e : Env} {s : State} {m : MethodId} {below : List Frame} {meth : Method} {c : Code} {b L : Nat} {xs : Nat → Int32} {D : va_G} {cy : Nat → ClassId}
set_option maxHeartbeats 4000000 in
set_option maxRecDepth 100000 in
/-- THE LAW'S LOOP -/
theorem law_loop (l : Launch) (hL : L ≤ 3586) (C0 : lw_At p s m meth c b L xs) (hK : kn D cy s) : ∀ (n i : Nat), i ≤ L + 7 → L < i + 7 * n → lcA p l e s m below meth c b D cy i 38 (100 + i) (6000 + 5 * i) := by
  intro n
  induction n with
  | zero =>
    intro i hi hn
    obtain ⟨hx, hb, hr, hml, hown0, hts0, hX, hbl, hlocks, hgv⟩ := C0
    have hbA : ¬ (fun q : Nat => s.heap.size ≤ q) b := Nat.not_le.mpr hbl
    intro ad z ch et mn gm H locs hI hP hz hS ls hl
    refine lv_iload_n hx hb dL_law_38 rfl (lv_at hl 3 rfl) ?_
    refine lv_aload_n hx hb dL_law_39 rfl (lv_at hl 0 rfl) ?_
    refine va_slen hx hb hX hbl hbA hS dL_law_40 ?_
    refine lv_bipush (v := 7) hx hb dL_law_41 (by decide) ?_
    refine lv_isub hx hb dL_law_43 ?_
    refine lv_icmp_gt (tgt := 820) hx hb dL_law_44 (by decide) (fun c44 => ?_) (fun c44 => ?_)
    · refine lv_iconst (v := 1) hx hb dL_law_820 (by decide) ?_
      refine va_forget (fun q hq => hS.2.2 q hq) ?_
      refine W.widen (k := 600000) (n := 7302250) (by omega) (by omega) ?_
      exact lw_ret hx hb hr hlocks dL_law_821
    · have := sub_7 hL (by omega) c44
      omega
  | succ n ih =>
    intro i hi hn
    obtain ⟨hx, hb, hr, hml, hown0, hts0, hX, hbl, hlocks, hgv⟩ := id C0
    have hbA : ¬ (fun q : Nat => s.heap.size ≤ q) b := Nat.not_le.mpr hbl
    intro ad z ch et mn gm H locs hI hP hz hS ls hl
    refine lv_iload_n hx hb dL_law_38 rfl (lv_at hl 3 rfl) ?_
    refine lv_aload_n hx hb dL_law_39 rfl (lv_at hl 0 rfl) ?_
    refine va_slen hx hb hX hbl hbA hS dL_law_40 ?_
    refine lv_bipush (v := 7) hx hb dL_law_41 (by decide) ?_
    refine lv_isub hx hb dL_law_43 ?_
    refine lv_icmp_gt (tgt := 820) hx hb dL_law_44 (by decide) (fun c44 => ?_) (fun c44 => ?_)
    · refine lv_iconst (v := 1) hx hb dL_law_820 (by decide) ?_
      refine va_forget (fun q hq => hS.2.2 q hq) ?_
      refine W.widen (k := 600000) (n := 7302250) (by omega) (by omega) ?_
      exact lw_ret hx hb hr hlocks dL_law_821
    · have hi7 : i + 7 ≤ L := sub_7 hL (by omega) c44
      have hT : lcA p l e s m below meth c b D cy i 814 (101 + i) (6005 + 5 * i) := by
        intro ad z ch et mn gm H locs hI hP hz hS ls hl
        obtain ⟨y, ey⟩ : ∃ y : Int32, y = nI i + 7 := ⟨_, rfl⟩
        refine lv_iinc (v := y) (lv' := [(3, .int y), (0, .ref b), (1, .ref (ad 0)), (2, .ref (ad 1000))]) hx hb dL_law_814 hl (k := 3) rfl (by rw [ey]; rfl) (by decide) rfl (fun ls hl => ?_)
        refine lv_goto (tgt := 38) hx hb dL_law_817 (by decide) ?_
        have ey : y = nI (i + 7) := by rw [ey]; exact nI_add i 7
        subst ey
        refine W.widen (k := 100 + (i + 7)) (n := 6000 + 5 * (i + 7)) (by omega) (by omega) ?_
        exact ih (i + 7) (by omega) (by omega) ad z ch et mn gm H locs hI hP hz hS ls (lv_sub hl [1, 2, 3, 0] rfl)
      refine lv_aload_n hx hb dL_law_47 rfl (lv_at hl 0 rfl) ?_
      refine lv_iload_n hx hb dL_law_48 rfl (lv_at hl 3 rfl) ?_
      refine va_sld hx hb hX hbl hbA hS (vp_in_nI (by omega) (by omega)) dL_law_49 ?_
      refine lv_bipush (v := 15) hx hb dL_law_50 (by decide) ?_
      refine lv_iand hx hb dL_law_52 ?_
      refine lv_topi (fun x ex => ?_)
      rcases sw_in x with hout | ⟨k, hk, ek⟩
      · refine lv_tableOut (tgt := 814) hx hb dL_law_53 hout (by decide) ?_
        refine W.widen (k := 101 + i) (n := 6005 + 5 * i) (by omega) (by omega) ?_
        exact hT ad z ch et mn gm H locs hI hP hz hS ls hl
      · clear ex
        subst ek
        rcases (show k = 0 ∨ k = 1 ∨ k = 2 ∨ k = 3 ∨ k = 4 ∨ k = 5 ∨ k = 6 ∨ k = 7 ∨ k = 8 ∨ k = 9 ∨ k = 10 ∨ k = 11 by omega) with rfl | rfl | rfl | rfl | rfl | rfl | rfl | rfl | rfl | rfl | rfl | rfl
        · refine lv_tableIn (tgt := 116) (off := 63) hx hb dL_law_53 (by decide) (by decide) (by decide) (by decide) ?_
          exact lc_need l hL C0 hK hi7 hT ad z ch et mn gm H locs hI hP hz hS ls hl
        · refine lv_tableIn (tgt := 159) (off := 106) hx hb dL_law_53 (by decide) (by decide) (by decide) (by decide) ?_
          exact lc_hours l hL C0 hK hi7 hT ad z ch et mn gm H locs hI hP hz hS ls hl
        · refine lv_tableIn (tgt := 202) (off := 149) hx hb dL_law_53 (by decide) (by decide) (by decide) (by decide) ?_
          exact lc_thing l hL C0 hK hi7 hT ad z ch et mn gm H locs hI hP hz hS ls hl
        · refine lv_tableIn (tgt := 215) (off := 162) hx hb dL_law_53 (by decide) (by decide) (by decide) (by decide) ?_
          exact lc_joinPipe l hL C0 hK hi7 hT ad z ch et mn gm H locs hI hP hz hS ls hl
        · refine lv_tableIn (tgt := 248) (off := 195) hx hb dL_law_53 (by decide) (by decide) (by decide) (by decide) ?_
          exact lc_held l hL C0 hK hi7 hT ad z ch et mn gm H locs hI hP hz hS ls hl
        · refine lv_tableIn (tgt := 321) (off := 268) hx hb dL_law_53 (by decide) (by decide) (by decide) (by decide) ?_
          exact lc_cleaned l hL C0 hK hi7 hT ad z ch et mn gm H locs hI hP hz hS ls hl
        · refine lv_tableIn (tgt := 394) (off := 341) hx hb dL_law_53 (by decide) (by decide) (by decide) (by decide) ?_
          exact lc_may l hL C0 hK hi7 hT ad z ch et mn gm H locs hI hP hz hS ls hl
        · refine lv_tableIn (tgt := 467) (off := 414) hx hb dL_law_53 (by decide) (by decide) (by decide) (by decide) ?_
          exact lc_least l hL C0 hK hi7 hT ad z ch et mn gm H locs hI hP hz hS ls hl
        · refine lv_tableIn (tgt := 540) (off := 487) hx hb dL_law_53 (by decide) (by decide) (by decide) (by decide) ?_
          exact lc_cost l hL C0 hK hi7 hT ad z ch et mn gm H locs hI hP hz hS ls hl
        · refine lv_tableIn (tgt := 603) (off := 550) hx hb dL_law_53 (by decide) (by decide) (by decide) (by decide) ?_
          exact lc_level l hL C0 hK hi7 hT ad z ch et mn gm H locs hI hP hz hS ls hl
        · refine lv_tableIn (tgt := 666) (off := 613) hx hb dL_law_53 (by decide) (by decide) (by decide) (by decide) ?_
          exact lc_told l hL C0 hK hi7 hT ad z ch et mn gm H locs hI hP hz hS ls hl
        · refine lv_tableIn (tgt := 781) (off := 728) hx hb dL_law_53 (by decide) (by decide) (by decide) (by decide) ?_
          exact lc_allergen l hL C0 hK hi7 hT ad z ch et mn gm H locs hI hP hz hS ls hl
end LL
