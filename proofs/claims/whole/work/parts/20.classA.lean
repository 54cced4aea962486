/-! ===== the class: checks; what is foretold without rows of its own ===== -/
theorem gd_rng_lo {x : Int32} {lo hi : Int} (hl : 0 ≤ lo) (h : x < 0) : gd_rng x lo hi = false := by
  rw [gd_rng, decide_eq_false_iff_not]
  rw [Int32.lt_iff_toInt_lt] at h
  have : (0 : Int32).toInt = 0 := by decide
  omega
theorem gd_rng_lt {x : Int32} {lo : Nat} {hi : Int} (hl : lo < 2 ^ 31) (h : x < nI lo) : gd_rng x lo hi = false := by
  rw [gd_rng, decide_eq_false_iff_not]
  rw [Int32.lt_iff_toInt_lt, nI_toInt hl] at h
  omega
theorem gd_rng_gt {x : Int32} {lo : Int} {hi : Nat} (hl : hi < 2 ^ 31) (h : nI hi < x) : gd_rng x lo hi = false := by
  rw [gd_rng, decide_eq_false_iff_not]
  rw [Int32.lt_iff_toInt_lt, nI_toInt hl] at h
  omega
theorem gd_rng_ge {x : Int32} {lo : Int} {hi : Nat} (hl : hi + 1 < 2 ^ 31) (h : nI (hi + 1) ≤ x) : gd_rng x lo hi = false := by
  rw [gd_rng, decide_eq_false_iff_not]
  rw [Int32.le_iff_toInt_le, nI_toInt hl] at h
  omega
theorem gd_rng_in {x : Int32} {hi : Nat} (hl : hi < 2 ^ 31) (h1 : ¬ x < 0) (h2 : ¬ nI hi < x) : gd_rng x 0 hi = true := by
  rw [gd_rng, decide_eq_true_eq]
  rw [Int32.lt_iff_toInt_lt] at h1
  rw [Int32.lt_iff_toInt_lt, nI_toInt hl] at h2
  have : (0 : Int32).toInt = 0 := by decide
  omega
theorem gd_rng_in1 {x : Int32} {lo hi : Nat} (hl0 : lo < 2 ^ 31) (hl : hi < 2 ^ 31) (h1 : ¬ x < nI lo) (h2 : ¬ nI hi < x) : gd_rng x lo hi = true := by
  rw [gd_rng, decide_eq_true_eq]
  rw [Int32.lt_iff_toInt_lt, nI_toInt hl0] at h1
  rw [Int32.lt_iff_toInt_lt, nI_toInt hl] at h2
  omega
theorem gd_rng_in' {x : Int32} {hi : Nat} (hl : hi + 1 < 2 ^ 31) (h1 : ¬ x < 0) (h2 : ¬ nI (hi + 1) ≤ x) : gd_rng x 0 hi = true := by
  rw [gd_rng, decide_eq_true_eq]
  rw [Int32.lt_iff_toInt_lt] at h1
  rw [Int32.le_iff_toInt_le, nI_toInt hl] at h2
  have : (0 : Int32).toInt = 0 := by decide
  omega
theorem pj_up_up {h : pj_H} {a : Nat} {c c' : pj_C} : pj_up (pj_up h a c) a c' = pj_up h a c' := by
  funext q
  by_cases hq : q = a
  · subst hq; rw [pj_up_s, pj_up_s]
  · rw [pj_up_n hq, pj_up_n hq, pj_up_n hq]
theorem gd_T.up {h : pj_H} {k q ac : Nat} {τ : Nat → Nat} {c : pj_C} (hT : gd_T h k τ ac) (hq : q < k) : gd_T (pj_up h q c) k τ ac := by
  obtain ⟨h0, ⟨f1, h1, g1⟩, ⟨f2, h2, g2⟩, h3, ⟨f4, h4, g4⟩, ⟨f5, h5, g5⟩, ⟨f6, h6, g6⟩⟩ := hT
  refine ⟨by rw [pj_up_n (by omega)]; exact h0, ⟨f1, by rw [pj_up_n (by omega)]; exact h1, g1⟩, ⟨f2, by rw [pj_up_n (by omega)]; exact h2, g2⟩, fun i hi => by rw [pj_up_n (by omega)]; exact h3 i hi, ⟨f4, by rw [pj_up_n (by omega)]; exact h4, g4⟩, ⟨f5, by rw [pj_up_n (by omega)]; exact h5, g5⟩, ⟨f6, by rw [pj_up_n (by omega)]; exact h6, g6⟩⟩
theorem gd_bitc : ∀ x, x < 128 → (let a := nI x - (((nI x).toUInt32 >>> ((nI 1).toUInt32 &&& Int32.toUInt32 31)).toInt32 &&& 1431655765); let b := (a &&& 858993459) + ((a.toUInt32 >>> ((nI 2).toUInt32 &&& Int32.toUInt32 31)).toInt32 &&& 858993459); let c := (b + (b.toUInt32 >>> ((nI 4).toUInt32 &&& Int32.toUInt32 31)).toInt32) &&& 252645135; let d := c + (c.toUInt32 >>> ((nI 8).toUInt32 &&& Int32.toUInt32 31)).toInt32; let e := d + (d.toUInt32 >>> ((nI 16).toUInt32 &&& Int32.toUInt32 31)).toInt32; e &&& nI 63) = nI (gd_bits x) := by decide +kernel
section
variable {E : pj_E} {B : Nat} {l : Launch} {h : pj_H} {n k ac f0 : Nat} {τ : Nat → Nat}
theorem c_J6_bitCount (x : Nat) (hx : x < 128) : pj_Ct E B l Y_J6_bitCount_0f7a4 1 0 0 [.int (nI x)] h n (pj_is (some (.int (nI (gd_bits x)))) h n) := by
  refine pj_in rfl (ls := [some (.int (nI x))]) rfl (Nat.le_of_ble_eq_true rfl) ?_
  refine pj_ild0 (q := 1) (pj_d p_J6_bitCount_0f7a4 0 rfl) rfl ?_
  refine pj_ild0 (q := 2) (pj_d p_J6_bitCount_0f7a4 1 rfl) rfl ?_
  refine pj_iconst (q := 3) (v := nI 1) (pj_d p_J6_bitCount_0f7a4 2 rfl) rfl (by decide) ?_
  refine pj_iushr (q := 4) (pj_d p_J6_bitCount_0f7a4 3 rfl) rfl ?_
  refine pj_ldcw (q := 7) (pj_d p_J6_bitCount_0f7a4 4 rfl) rfl kJ6_265 ?_
  refine pj_iand (q := 8) (pj_d p_J6_bitCount_0f7a4 5 rfl) rfl ?_
  refine pj_isub (q := 9) (pj_d p_J6_bitCount_0f7a4 6 rfl) rfl ?_
  refine pj_ist0 (q := 10) (pj_d p_J6_bitCount_0f7a4 7 rfl) rfl ?_
  refine pj_ild0 (q := 11) (pj_d p_J6_bitCount_0f7a4 8 rfl) rfl ?_
  refine pj_ldcw (q := 14) (pj_d p_J6_bitCount_0f7a4 9 rfl) rfl kJ6_266 ?_
  refine pj_iand (q := 15) (pj_d p_J6_bitCount_0f7a4 10 rfl) rfl ?_
  refine pj_ild0 (q := 16) (pj_d p_J6_bitCount_0f7a4 11 rfl) rfl ?_
  refine pj_iconst (q := 17) (v := nI 2) (pj_d p_J6_bitCount_0f7a4 12 rfl) rfl (by decide) ?_
  refine pj_iushr (q := 18) (pj_d p_J6_bitCount_0f7a4 13 rfl) rfl ?_
  refine pj_ldcw (q := 21) (pj_d p_J6_bitCount_0f7a4 14 rfl) rfl kJ6_266 ?_
  refine pj_iand (q := 22) (pj_d p_J6_bitCount_0f7a4 15 rfl) rfl ?_
  refine pj_iadd (q := 23) (pj_d p_J6_bitCount_0f7a4 16 rfl) rfl ?_
  refine pj_ist0 (q := 24) (pj_d p_J6_bitCount_0f7a4 17 rfl) rfl ?_
  refine pj_ild0 (q := 25) (pj_d p_J6_bitCount_0f7a4 18 rfl) rfl ?_
  refine pj_ild0 (q := 26) (pj_d p_J6_bitCount_0f7a4 19 rfl) rfl ?_
  refine pj_iconst (q := 27) (v := nI 4) (pj_d p_J6_bitCount_0f7a4 20 rfl) rfl (by decide) ?_
  refine pj_iushr (q := 28) (pj_d p_J6_bitCount_0f7a4 21 rfl) rfl ?_
  refine pj_iadd (q := 29) (pj_d p_J6_bitCount_0f7a4 22 rfl) rfl ?_
  refine pj_ldcw (q := 32) (pj_d p_J6_bitCount_0f7a4 23 rfl) rfl kJ6_267 ?_
  refine pj_iand (q := 33) (pj_d p_J6_bitCount_0f7a4 24 rfl) rfl ?_
  refine pj_ist0 (q := 34) (pj_d p_J6_bitCount_0f7a4 25 rfl) rfl ?_
  refine pj_ild0 (q := 35) (pj_d p_J6_bitCount_0f7a4 26 rfl) rfl ?_
  refine pj_ild0 (q := 36) (pj_d p_J6_bitCount_0f7a4 27 rfl) rfl ?_
  refine pj_bipush (q := 38) (v := nI 8) (pj_d p_J6_bitCount_0f7a4 28 rfl) rfl (by decide) ?_
  refine pj_iushr (q := 39) (pj_d p_J6_bitCount_0f7a4 29 rfl) rfl ?_
  refine pj_iadd (q := 40) (pj_d p_J6_bitCount_0f7a4 30 rfl) rfl ?_
  refine pj_ist0 (q := 41) (pj_d p_J6_bitCount_0f7a4 31 rfl) rfl ?_
  refine pj_ild0 (q := 42) (pj_d p_J6_bitCount_0f7a4 32 rfl) rfl ?_
  refine pj_ild0 (q := 43) (pj_d p_J6_bitCount_0f7a4 33 rfl) rfl ?_
  refine pj_bipush (q := 45) (v := nI 16) (pj_d p_J6_bitCount_0f7a4 34 rfl) rfl (by decide) ?_
  refine pj_iushr (q := 46) (pj_d p_J6_bitCount_0f7a4 35 rfl) rfl ?_
  refine pj_iadd (q := 47) (pj_d p_J6_bitCount_0f7a4 36 rfl) rfl ?_
  refine pj_ist0 (q := 48) (pj_d p_J6_bitCount_0f7a4 37 rfl) rfl ?_
  refine pj_ild0 (q := 49) (pj_d p_J6_bitCount_0f7a4 38 rfl) rfl ?_
  refine pj_bipush (q := 51) (v := nI 63) (pj_d p_J6_bitCount_0f7a4 39 rfl) rfl (by decide) ?_
  refine pj_iand (q := 52) (pj_d p_J6_bitCount_0f7a4 40 rfl) rfl ?_
  refine pj_iret rfl (pj_d p_J6_bitCount_0f7a4 41 rfl) (by decide) (by decide) ?_
  exact ⟨by rw [← gd_bitc x hx], rfl, rfl⟩
theorem c_X11_isSet (x : Int32) : pj_Ct E B l Y_X11_isSet 1 0 0 [.int x] h n (pj_is (some (.int (gd_b (gd_rng x 0 31)))) h n) := by
  refine pj_in rfl (ls := [some (.int x)]) rfl (Nat.le_of_ble_eq_true rfl) ?_
  have no : gd_rng x 0 31 = false → pj_V E B l Y_X11_isSet 1 0 0 14 [some (.int x)] [] h n 0 0 (pj_is (some (.int (gd_b (gd_rng x 0 31)))) h n) := by
    intro hn
    rw [hn]
    refine pj_iconst (q := 15) (v := nI 0) (pj_d p_X11_isSet 7 rfl) rfl (by decide) ?_
    refine pj_zret rfl (by first | rfl | decide | (split <;> rfl)) (pj_d p_X11_isSet 8 rfl) (by decide) (by decide) ?_
    exact ⟨rfl, rfl, rfl⟩
  refine pj_ild0 (q := 1) (pj_d p_X11_isSet 0 rfl) rfl ?_
  refine pj_if_lt (t := 14) (q := 4) (pj_d p_X11_isSet 1 rfl) rfl (by decide) (fun c1 => ?_) (fun c1 => ?_)
  · exact no (gd_rng_lo (by decide) c1)
  refine pj_ild0 (q := 5) (pj_d p_X11_isSet 2 rfl) rfl ?_
  refine pj_bipush (q := 7) (v := nI 31) (pj_d p_X11_isSet 3 rfl) rfl (by decide) ?_
  refine pj_icmp_gt (t := 14) (q := 10) (pj_d p_X11_isSet 4 rfl) rfl (by decide) (fun c2 => ?_) (fun c2 => ?_)
  · exact no (gd_rng_gt (by decide) (hi := 31) c2)
  · rw [show gd_rng x 0 31 = true from gd_rng_in (by decide) (hi := 31) c1 c2]
    refine pj_iconst (q := 11) (v := nI 1) (pj_d p_X11_isSet 5 rfl) rfl (by decide) ?_
    refine pj_goto (t := 15) (pj_d p_X11_isSet 6 rfl) (by decide) ?_
    refine pj_zret rfl (by first | rfl | decide | (split <;> rfl)) (pj_d p_X11_isSet 8 rfl) (by decide) (by decide) ?_
    exact ⟨rfl, rfl, rfl⟩
theorem c_X11_isWeekday (x : Int32) : pj_Ct E B l Y_X11_isWeekday 1 0 0 [.int x] h n (pj_is (some (.int (gd_b (gd_rng x 0 6)))) h n) := by
  refine pj_in rfl (ls := [some (.int x)]) rfl (Nat.le_of_ble_eq_true rfl) ?_
  have no : gd_rng x 0 6 = false → pj_V E B l Y_X11_isWeekday 1 0 0 14 [some (.int x)] [] h n 0 0 (pj_is (some (.int (gd_b (gd_rng x 0 6)))) h n) := by
    intro hn
    rw [hn]
    refine pj_iconst (q := 15) (v := nI 0) (pj_d p_X11_isWeekday 7 rfl) rfl (by decide) ?_
    refine pj_zret rfl (by first | rfl | decide | (split <;> rfl)) (pj_d p_X11_isWeekday 8 rfl) (by decide) (by decide) ?_
    exact ⟨rfl, rfl, rfl⟩
  refine pj_ild0 (q := 1) (pj_d p_X11_isWeekday 0 rfl) rfl ?_
  refine pj_if_lt (t := 14) (q := 4) (pj_d p_X11_isWeekday 1 rfl) rfl (by decide) (fun c1 => ?_) (fun c1 => ?_)
  · exact no (gd_rng_lo (by decide) c1)
  refine pj_ild0 (q := 5) (pj_d p_X11_isWeekday 2 rfl) rfl ?_
  refine pj_bipush (q := 7) (v := nI 7) (pj_d p_X11_isWeekday 3 rfl) rfl (by decide) ?_
  refine pj_icmp_ge (t := 14) (q := 10) (pj_d p_X11_isWeekday 4 rfl) rfl (by decide) (fun c2 => ?_) (fun c2 => ?_)
  · exact no (gd_rng_ge (by decide) (hi := 6) c2)
  · rw [show gd_rng x 0 6 = true from gd_rng_in' (by decide) (hi := 6) c1 c2]
    refine pj_iconst (q := 11) (v := nI 1) (pj_d p_X11_isWeekday 5 rfl) rfl (by decide) ?_
    refine pj_goto (t := 15) (pj_d p_X11_isWeekday 6 rfl) (by decide) ?_
    refine pj_zret rfl (by first | rfl | decide | (split <;> rfl)) (pj_d p_X11_isWeekday 8 rfl) (by decide) (by decide) ?_
    exact ⟨rfl, rfl, rfl⟩
theorem c_X11_isAhead (x : Int32) : pj_Ct E B l Y_X11_isAhead 1 0 0 [.int x] h n (pj_is (some (.int (gd_b (gd_rng x 0 100)))) h n) := by
  refine pj_in rfl (ls := [some (.int x)]) rfl (Nat.le_of_ble_eq_true rfl) ?_
  have no : gd_rng x 0 100 = false → pj_V E B l Y_X11_isAhead 1 0 0 14 [some (.int x)] [] h n 0 0 (pj_is (some (.int (gd_b (gd_rng x 0 100)))) h n) := by
    intro hn
    rw [hn]
    refine pj_iconst (q := 15) (v := nI 0) (pj_d p_X11_isAhead 7 rfl) rfl (by decide) ?_
    refine pj_zret rfl (by first | rfl | decide | (split <;> rfl)) (pj_d p_X11_isAhead 8 rfl) (by decide) (by decide) ?_
    exact ⟨rfl, rfl, rfl⟩
  refine pj_ild0 (q := 1) (pj_d p_X11_isAhead 0 rfl) rfl ?_
  refine pj_if_lt (t := 14) (q := 4) (pj_d p_X11_isAhead 1 rfl) rfl (by decide) (fun c1 => ?_) (fun c1 => ?_)
  · exact no (gd_rng_lo (by decide) c1)
  refine pj_ild0 (q := 5) (pj_d p_X11_isAhead 2 rfl) rfl ?_
  refine pj_bipush (q := 7) (v := nI 100) (pj_d p_X11_isAhead 3 rfl) rfl (by decide) ?_
  refine pj_icmp_gt (t := 14) (q := 10) (pj_d p_X11_isAhead 4 rfl) rfl (by decide) (fun c2 => ?_) (fun c2 => ?_)
  · exact no (gd_rng_gt (by decide) (hi := 100) c2)
  · rw [show gd_rng x 0 100 = true from gd_rng_in (by decide) (hi := 100) c1 c2]
    refine pj_iconst (q := 11) (v := nI 1) (pj_d p_X11_isAhead 5 rfl) rfl (by decide) ?_
    refine pj_goto (t := 15) (pj_d p_X11_isAhead 6 rfl) (by decide) ?_
    refine pj_zret rfl (by first | rfl | decide | (split <;> rfl)) (pj_d p_X11_isAhead 8 rfl) (by decide) (by decide) ?_
    exact ⟨rfl, rfl, rfl⟩
theorem c_X11_isCost (x : Int32) : pj_Ct E B l Y_X11_isCost 1 0 0 [.int x] h n (pj_is (some (.int (gd_b (gd_rng x 0 20)))) h n) := by
  refine pj_in rfl (ls := [some (.int x)]) rfl (Nat.le_of_ble_eq_true rfl) ?_
  have no : gd_rng x 0 20 = false → pj_V E B l Y_X11_isCost 1 0 0 14 [some (.int x)] [] h n 0 0 (pj_is (some (.int (gd_b (gd_rng x 0 20)))) h n) := by
    intro hn
    rw [hn]
    refine pj_iconst (q := 15) (v := nI 0) (pj_d p_X11_isCost 7 rfl) rfl (by decide) ?_
    refine pj_zret rfl (by first | rfl | decide | (split <;> rfl)) (pj_d p_X11_isCost 8 rfl) (by decide) (by decide) ?_
    exact ⟨rfl, rfl, rfl⟩
  refine pj_ild0 (q := 1) (pj_d p_X11_isCost 0 rfl) rfl ?_
  refine pj_if_lt (t := 14) (q := 4) (pj_d p_X11_isCost 1 rfl) rfl (by decide) (fun c1 => ?_) (fun c1 => ?_)
  · exact no (gd_rng_lo (by decide) c1)
  refine pj_ild0 (q := 5) (pj_d p_X11_isCost 2 rfl) rfl ?_
  refine pj_bipush (q := 7) (v := nI 20) (pj_d p_X11_isCost 3 rfl) rfl (by decide) ?_
  refine pj_icmp_gt (t := 14) (q := 10) (pj_d p_X11_isCost 4 rfl) rfl (by decide) (fun c2 => ?_) (fun c2 => ?_)
  · exact no (gd_rng_gt (by decide) (hi := 20) c2)
  · rw [show gd_rng x 0 20 = true from gd_rng_in (by decide) (hi := 20) c1 c2]
    refine pj_iconst (q := 11) (v := nI 1) (pj_d p_X11_isCost 5 rfl) rfl (by decide) ?_
    refine pj_goto (t := 15) (pj_d p_X11_isCost 6 rfl) (by decide) ?_
    refine pj_zret rfl (by first | rfl | decide | (split <;> rfl)) (pj_d p_X11_isCost 8 rfl) (by decide) (by decide) ?_
    exact ⟨rfl, rfl, rfl⟩
theorem c_X11_isChoice (x : Int32) : pj_Ct E B l Y_X11_isChoice 1 0 0 [.int x] h n (pj_is (some (.int (gd_b (gd_rng x 0 1)))) h n) := by
  refine pj_in rfl (ls := [some (.int (x))]) rfl (Nat.le_of_ble_eq_true rfl) ?_
  have yes : gd_rng x 0 1 = true → pj_V E B l Y_X11_isChoice 1 0 0 9 [some (.int (x))] [] h n 0 0 (pj_is (some (.int (gd_b (gd_rng x 0 1)))) h n) := by
    intro hy
    rw [hy]
    refine pj_iconst (q := 10) (v := nI 1) (pj_d p_X11_isChoice 5 rfl) rfl (by decide) ?_
    refine pj_goto (t := 14) (pj_d p_X11_isChoice 6 rfl) (by decide) ?_
    refine pj_zret rfl (by first | rfl | decide | (split <;> rfl)) (pj_d p_X11_isChoice 8 rfl) (by decide) (by decide) ?_
    exact ⟨rfl, rfl, rfl⟩
  refine pj_ild0 (q := 1) (pj_d p_X11_isChoice 0 rfl) rfl ?_
  refine pj_if_eq (t := 9) (q := 4) (pj_d p_X11_isChoice 1 rfl) rfl (by decide) (fun c1 => ?_) (fun c1 => ?_)
  · exact yes (by rw [c1]; decide)
  refine pj_ild0 (q := 5) (pj_d p_X11_isChoice 2 rfl) rfl ?_
  refine pj_iconst (q := 6) (v := nI 1) (pj_d p_X11_isChoice 3 rfl) rfl (by decide) ?_
  refine pj_icmp_ne (t := 13) (q := 9) (pj_d p_X11_isChoice 4 rfl) rfl (by decide) (fun c2 => ?_) (fun c2 => ?_)
  · have hn : gd_rng x 0 1 = false := by
      rw [Bool.eq_false_iff]
      intro q
      obtain ⟨j, hj, rfl, -⟩ := gd_rng_of (hi := 1) q
      rcases (show j = 0 ∨ j = 1 by omega) with rfl | rfl
      · exact c1 rfl
      · exact c2 rfl
    rw [hn]
    refine pj_iconst (q := 14) (v := nI 0) (pj_d p_X11_isChoice 7 rfl) rfl (by decide) ?_
    refine pj_zret rfl (by first | rfl | decide | (split <;> rfl)) (pj_d p_X11_isChoice 8 rfl) (by decide) (by decide) ?_
    exact ⟨rfl, rfl, rfl⟩
  · exact yes (by rw [c2]; decide)
theorem c_X3_harmOfDays (hT : gd_T h k τ ac) (hW : gd_W τ) {c : Nat} (hc : c ≤ 1000) : pj_Ct E B l Y_X3_harmOfDays 6 0 0 [.ref f0, .ref k, .int (nI c)] h n (pj_is (some (.int (nI (gd_harms τ c)))) h n) := by
  have h0 := hT.1
  refine pj_in rfl (ls := [some (.ref f0), some (.ref k), some (.int (nI c)), none, none]) rfl (Nat.le_of_ble_eq_true rfl) ?_
  refine pj_iconst (q := 1) (v := nI 0) (pj_d p_X3_harmOfDays 0 rfl) rfl (by decide) ?_
  refine pj_ist3 (q := 2) (pj_d p_X3_harmOfDays 1 rfl) rfl (by first | rfl | assumption) ?_
  refine pj_iconst (q := 3) (v := nI 0) (pj_d p_X3_harmOfDays 2 rfl) rfl (by decide) ?_
  refine pj_ist4 (q := 5) (pj_d p_X3_harmOfDays 3 rfl) rfl (by first | rfl | assumption) ?_
  have loop : ∀ m i, c - i < m → i ≤ c → pj_V E B l Y_X3_harmOfDays 6 0 0 5 [some (.ref f0), some (.ref k), some (.int (nI c)), some (.int (nI (gd_harms τ i))), some (.int (nI i))] [] h n 0 0 (pj_is (some (.int (nI (gd_harms τ c)))) h n) := by
    intro m
    induction m with
    | zero => intro i hi; omega
    | succ m ih =>
      intro i hi hle
      refine pj_ild4 (q := 7) (pj_d p_X3_harmOfDays 4 rfl) rfl ?_
      refine pj_ild2 (q := 8) (pj_d p_X3_harmOfDays 5 rfl) rfl ?_
      refine pj_icmp_ge (t := 30) (q := 11) (pj_d p_X3_harmOfDays 6 rfl) rfl (by decide) (fun c1 => ?_) (fun c1 => ?_)
      · have he : i = c := by have := gd_ge c1 (by omega) (by omega); omega
        subst he
        refine pj_ild3 (q := 31) (pj_d p_X3_harmOfDays 17 rfl) rfl ?_
        refine pj_iret rfl (pj_d p_X3_harmOfDays 18 rfl) (by decide) (by decide) ?_
        exact ⟨rfl, rfl, rfl⟩
      have hlt : i < c := gd_lt c1 (by omega)
      refine pj_ild3 (q := 12) (pj_d p_X3_harmOfDays 7 rfl) rfl ?_
      refine pj_ald1 (q := 13) (pj_d p_X3_harmOfDays 8 rfl) rfl ?_
      refine pj_ald1 (q := 14) (pj_d p_X3_harmOfDays 9 rfl) rfl ?_
      refine pj_ild4 (q := 16) (pj_d p_X3_harmOfDays 10 rfl) rfl ?_
      refine pj_cp (pj_rV (q := 19) (c_X9_missingIn hT hW (d := i) (by omega)) (pj_d p_X3_harmOfDays 11 rfl) rfl kX3_37 o_X9_missingIn (by assumption) (by rfl) (by rfl) (by rfl) (by rfl) (Nat.le_of_ble_eq_true rfl) (by decide)) (by decide) (by decide) ?_
      refine pj_cp (pj_rV (q := 22) (c_X9_harmWithout hT hW (gd_miss_lt hW i)) (pj_d p_X3_harmOfDays 12 rfl) rfl kX3_48 o_X9_harmWithout (by assumption) (by rfl) (by rfl) (by rfl) (by rfl) (Nat.le_of_ble_eq_true rfl) (by decide)) (by decide) (by decide) ?_
      refine pj_iadd (q := 23) (pj_d p_X3_harmOfDays 13 rfl) rfl ?_
      rw [nI_add]
      refine pj_ist3 (q := 24) (pj_d p_X3_harmOfDays 14 rfl) rfl (by first | rfl | assumption) ?_
      refine pj_iinc4 (q := 27) (v := 1) (pj_d p_X3_harmOfDays 15 rfl) rfl (by first | rfl | assumption) (by decide) ?_
      refine pj_goto (t := 5) (pj_d p_X3_harmOfDays 16 rfl) (by decide) ?_
      rw [nI_1]
      exact ih (i + 1) (by omega) (by omega)
  exact loop (c + 1) 0 (by omega) (by omega)
theorem c_X3_clearDays (hT : gd_T h k τ ac) (hW : gd_W τ) : pj_Ct E B l Y_X3_clearDays 6 0 0 [.ref f0, .ref k] h n (pj_is (some (.int (nI (gd_clear τ)))) h n) := by
  have h0 := hT.1
  refine pj_in rfl (ls := [some (.ref f0), some (.ref k), none, none]) rfl (Nat.le_of_ble_eq_true rfl) ?_
  refine pj_iconst (q := 1) (v := nI 0) (pj_d p_X3_clearDays 0 rfl) rfl (by decide) ?_
  refine pj_ist2 (q := 2) (pj_d p_X3_clearDays 1 rfl) rfl (by first | rfl | assumption) ?_
  refine pj_iconst (q := 3) (v := nI 0) (pj_d p_X3_clearDays 2 rfl) rfl (by decide) ?_
  refine pj_ist3 (q := 4) (pj_d p_X3_clearDays 3 rfl) rfl (by first | rfl | assumption) ?_
  generalize hf : (fun d => if gd_harm τ (gd_miss τ d) = 0 then 2 ^ d else 0) = f
  have hg : gd_clear τ = gd_sm f 7 := by rw [← hf]; rfl
  have hlt2 : ∀ m, gd_sm f m < 2 ^ m := by rw [← hf]; exact gd_sm_pw (fun d => gd_harm τ (gd_miss τ d) = 0)
  have loop : ∀ m i, 7 - i < m → i ≤ 7 → pj_V E B l Y_X3_clearDays 6 0 0 4 [some (.ref f0), some (.ref k), some (.int (nI (gd_sm f i))), some (.int (nI i))] [] h n 0 0 (pj_is (some (.int (nI (gd_clear τ)))) h n) := by
    intro m
    induction m with
    | zero => intro i hi; omega
    | succ m ih =>
      intro i hi hle
      refine pj_ild3 (q := 5) (pj_d p_X3_clearDays 4 rfl) rfl ?_
      refine pj_bipush (q := 7) (v := nI 7) (pj_d p_X3_clearDays 5 rfl) rfl (by decide) ?_
      refine pj_icmp_ge (t := 34) (q := 10) (pj_d p_X3_clearDays 6 rfl) rfl (by decide) (fun c1 => ?_) (fun c1 => ?_)
      · have he : i = 7 := by have := gd_ge c1 (by omega) (by omega); omega
        subst he
        refine pj_ild2 (q := 35) (pj_d p_X3_clearDays 21 rfl) rfl ?_
        refine pj_iret rfl (pj_d p_X3_clearDays 22 rfl) (by decide) (by decide) ?_
        exact ⟨by rw [hg], rfl, rfl⟩
      have hlt : i < 7 := gd_lt c1 (by omega)
      have b1 := gd_harm_le hW (gd_miss τ i)
      refine pj_ald1 (q := 11) (pj_d p_X3_clearDays 7 rfl) rfl ?_
      refine pj_ald1 (q := 12) (pj_d p_X3_clearDays 8 rfl) rfl ?_
      refine pj_ild3 (q := 13) (pj_d p_X3_clearDays 9 rfl) rfl ?_
      refine pj_cp (pj_rV (q := 16) (c_X9_missingIn hT hW (d := i) (by omega)) (pj_d p_X3_clearDays 10 rfl) rfl kX3_37 o_X9_missingIn (by assumption) (by rfl) (by rfl) (by rfl) (by rfl) (Nat.le_of_ble_eq_true rfl) (by decide)) (by decide) (by decide) ?_
      refine pj_cp (pj_rV (q := 19) (c_X9_harmWithout hT hW (gd_miss_lt hW i)) (pj_d p_X3_clearDays 11 rfl) rfl kX3_48 o_X9_harmWithout (by assumption) (by rfl) (by rfl) (by rfl) (by rfl) (Nat.le_of_ble_eq_true rfl) (by decide)) (by decide) (by decide) ?_
      have go : ∀ x, x = gd_sm f (i + 1) → pj_V E B l Y_X3_clearDays 6 0 0 28 [some (.ref f0), some (.ref k), some (.int (nI x)), some (.int (nI i))] [] h n 0 0 (pj_is (some (.int (nI (gd_clear τ)))) h n) := by
        intro x hx
        subst hx
        refine pj_iinc3 (q := 31) (v := 1) (pj_d p_X3_clearDays 19 rfl) rfl (by first | rfl | assumption) (by decide) ?_
        refine pj_goto (t := 4) (pj_d p_X3_clearDays 20 rfl) (by decide) ?_
        rw [nI_1]
        exact ih (i + 1) (by omega) (by omega)
      refine pj_if_ne (t := 28) (q := 22) (pj_d p_X3_clearDays 12 rfl) rfl (by decide) (fun c4 => ?_) (fun c4 => ?_)
      · have hne : ¬ gd_harm τ (gd_miss τ i) = 0 := fun q => c4 (by rw [q]; rfl)
        exact go _ (by rw [gd_sm, ← hf]; simp only [if_neg hne]; rfl)
      · have heq := (nI_eq (by omega) (by omega)).mp (c4.trans nI_0.symm)
        refine pj_ild2 (q := 23) (pj_d p_X3_clearDays 13 rfl) rfl ?_
        refine pj_iconst (q := 24) (v := nI 1) (pj_d p_X3_clearDays 14 rfl) rfl (by decide) ?_
        refine pj_ild3 (q := 25) (pj_d p_X3_clearDays 15 rfl) rfl ?_
        refine pj_ishl (q := 26) (pj_d p_X3_clearDays 16 rfl) rfl ?_
        rw [gd_shl1 i (by omega)]
        refine pj_ior (q := 27) (pj_d p_X3_clearDays 17 rfl) rfl ?_
        rw [gd_or2 i (by omega) _ (hlt2 i)]
        refine pj_ist2 (q := 28) (pj_d p_X3_clearDays 18 rfl) rfl (by first | rfl | assumption) ?_
        exact go _ (by rw [gd_sm, ← hf]; simp only [if_pos heq])
  exact loop 8 0 (by omega) (by omega)
theorem c_X3_worstDay (hT : gd_T h k τ ac) (hW : gd_W τ) : pj_Ct E B l Y_X3_worstDay 6 0 0 [.ref f0, .ref k] h n (pj_is (some (.int (nI (gd_wf τ 7)))) h n) := by
  have h0 := hT.1
  refine pj_in rfl (ls := [some (.ref f0), some (.ref k), none, none, none, none]) rfl (Nat.le_of_ble_eq_true rfl) ?_
  refine pj_iconst (q := 1) (v := nI 0) (pj_d p_X3_worstDay 0 rfl) rfl (by decide) ?_
  refine pj_ist2 (q := 2) (pj_d p_X3_worstDay 1 rfl) rfl (by first | rfl | assumption) ?_
  refine pj_iconst (q := 3) (v := (-1)) (pj_d p_X3_worstDay 2 rfl) rfl (by decide) ?_
  refine pj_ist3 (q := 4) (pj_d p_X3_worstDay 3 rfl) rfl (by first | rfl | assumption) ?_
  refine pj_iconst (q := 5) (v := nI 0) (pj_d p_X3_worstDay 4 rfl) rfl (by decide) ?_
  refine pj_ist4 (q := 7) (pj_d p_X3_worstDay 5 rfl) rfl (by first | rfl | assumption) ?_
  have loop : ∀ m i x3 o5, pj_c1 o5 = true → (if i = 0 then x3 = -1 else x3 = nI (gd_harm τ (gd_miss τ (gd_wf τ i)))) → 7 - i < m → i ≤ 7 → pj_V E B l Y_X3_worstDay 6 0 0 7 [some (.ref f0), some (.ref k), some (.int (nI (gd_wf τ i))), some (.int (x3)), some (.int (nI i)), o5] [] h n 0 0 (pj_is (some (.int (nI (gd_wf τ 7)))) h n) := by
    intro m
    induction m with
    | zero => intro i x3 o5 _ _ hi; omega
    | succ m ih =>
      intro i x3 o5 k5 h3 hi hle
      refine pj_ild4 (q := 9) (pj_d p_X3_worstDay 6 rfl) rfl ?_
      refine pj_bipush (q := 11) (v := nI 7) (pj_d p_X3_worstDay 7 rfl) rfl (by decide) ?_
      refine pj_icmp_ge (t := 44) (q := 14) (pj_d p_X3_worstDay 8 rfl) rfl (by decide) (fun c1 => ?_) (fun c1 => ?_)
      · have he : i = 7 := by have := gd_ge c1 (by omega) (by omega); omega
        subst he
        refine pj_ild2 (q := 45) (pj_d p_X3_worstDay 24 rfl) rfl ?_
        refine pj_iret rfl (pj_d p_X3_worstDay 25 rfl) (by decide) (by decide) ?_
        exact ⟨rfl, rfl, rfl⟩
      have hlt : i < 7 := gd_lt c1 (by omega)
      have b1 := gd_harm_le hW (gd_miss τ i)
      have b2 := gd_harm_le hW (gd_miss τ (gd_wf τ i))
      refine pj_ald1 (q := 15) (pj_d p_X3_worstDay 9 rfl) rfl ?_
      refine pj_ald1 (q := 16) (pj_d p_X3_worstDay 10 rfl) rfl ?_
      refine pj_ild4 (q := 18) (pj_d p_X3_worstDay 11 rfl) rfl ?_
      refine pj_cp (pj_rV (q := 21) (c_X9_missingIn hT hW (d := i) (by omega)) (pj_d p_X3_worstDay 12 rfl) rfl kX3_37 o_X9_missingIn (by assumption) (by rfl) (by rfl) (by rfl) (by rfl) (Nat.le_of_ble_eq_true rfl) (by decide)) (by decide) (by decide) ?_
      refine pj_cp (pj_rV (q := 24) (c_X9_harmWithout hT hW (gd_miss_lt hW i)) (pj_d p_X3_worstDay 13 rfl) rfl kX3_48 o_X9_harmWithout (by assumption) (by rfl) (by rfl) (by rfl) (by rfl) (Nat.le_of_ble_eq_true rfl) (by decide)) (by decide) (by decide) ?_
      refine pj_ist5 (q := 26) (pj_d p_X3_worstDay 14 rfl) rfl (by first | rfl | assumption) ?_
      refine pj_ild5 (q := 28) (pj_d p_X3_worstDay 15 rfl) rfl ?_
      refine pj_ild3 (q := 29) (pj_d p_X3_worstDay 16 rfl) rfl ?_
      have up : ∀ w y, w = gd_wf τ (i + 1) → y = nI (gd_harm τ (gd_miss τ w)) → pj_V E B l Y_X3_worstDay 6 0 0 38 [some (.ref f0), some (.ref k), some (.int (nI w)), some (.int (y)), some (.int (nI i)), some (.int (nI (gd_harm τ (gd_miss τ i))))] [] h n 0 0 (pj_is (some (.int (nI (gd_wf τ 7)))) h n) := by
        intro w y hw hy
        subst hw
        refine pj_iinc4 (q := 41) (v := 1) (pj_d p_X3_worstDay 22 rfl) rfl (by first | rfl | assumption) (by decide) ?_
        refine pj_goto (t := 7) (pj_d p_X3_worstDay 23 rfl) (by decide) ?_
        rw [nI_1]
        exact ih (i + 1) _ _ rfl (by rw [if_neg (by omega)]; exact hy) (by omega) (by omega)
      refine pj_icmp_le (t := 38) (q := 32) (pj_d p_X3_worstDay 17 rfl) rfl (by decide) (fun c2 => ?_) (fun c2 => ?_)
      · by_cases hi0 : i = 0
        · rw [if_pos hi0] at h3
          subst h3
          rw [Int32.le_iff_toInt_le, nI_toInt (by omega), show (-1 : Int32).toInt = -1 from by decide] at c2
          omega
        · rw [if_neg hi0] at h3
          rw [h3] at c2 ⊢
          have := (nI_leI (by omega) (by omega)).mp c2
          have hw : gd_wf τ (i + 1) = gd_wf τ i := by rw [gd_wf, if_neg (by omega)]
          exact up _ _ hw.symm rfl
      · refine pj_ild5 (q := 34) (pj_d p_X3_worstDay 18 rfl) rfl ?_
        refine pj_ist3 (q := 35) (pj_d p_X3_worstDay 19 rfl) rfl (by first | rfl | assumption) ?_
        refine pj_ild4 (q := 37) (pj_d p_X3_worstDay 20 rfl) rfl ?_
        refine pj_ist2 (q := 38) (pj_d p_X3_worstDay 21 rfl) rfl (by first | rfl | assumption) ?_
        refine up _ _ ?_ rfl
        by_cases hi0 : i = 0
        · subst hi0; rw [gd_wf]; split <;> rfl
        · rw [if_neg hi0] at h3
          rw [h3] at c2
          rw [gd_wf, if_pos (gd_lt c2 (by omega))]
  exact loop 8 0 _ none rfl rfl (by omega) (by omega)
theorem c_X3_fewestMissing (hT : gd_T h k τ ac) (hW : gd_W τ) {a b : Nat} (ha : a < τ 1) (hb : b < τ 1) : pj_Ct E B l Y_X3_fewestMissing 5 0 0 [.ref f0, .ref k, .int (nI a), .int (nI b)] h n (pj_is (some (.int (gd_on (gd_mg τ a b 32)))) h n) := by
  have h0 := hT.1
  refine pj_in rfl (ls := [some (.ref f0), some (.ref k), some (.int (nI a)), some (.int (nI b)), none, none, none]) rfl (Nat.le_of_ble_eq_true rfl) ?_
  refine pj_ldc (q := 2) (pj_d p_X3_fewestMissing 0 rfl) rfl kX3_55 ?_
  refine pj_ist4 (q := 4) (pj_d p_X3_fewestMissing 1 rfl) rfl (by first | rfl | assumption) ?_
  refine pj_iconst (q := 5) (v := nI 0) (pj_d p_X3_fewestMissing 2 rfl) rfl (by decide) ?_
  refine pj_ist5 (q := 7) (pj_d p_X3_fewestMissing 3 rfl) rfl (by first | rfl | assumption) ?_
  have loop : ∀ m p o6, pj_c1 o6 = true → 32 - p < m → p ≤ 32 → pj_V E B l Y_X3_fewestMissing 5 0 0 7 [some (.ref f0), some (.ref k), some (.int (nI a)), some (.int (nI b)), some (.int (gd_on (gd_mg τ a b p))), some (.int (nI p)), o6] [] h n 0 0 (pj_is (some (.int (gd_on (gd_mg τ a b 32)))) h n) := by
    intro m
    induction m with
    | zero => intro p o6 _ hp; omega
    | succ m ih =>
      intro p o6 k6 hp hle
      refine pj_ild5 (q := 9) (pj_d p_X3_fewestMissing 4 rfl) rfl ?_
      refine pj_bipush (q := 11) (v := nI 31) (pj_d p_X3_fewestMissing 5 rfl) rfl (by decide) ?_
      refine pj_icmp_gt (t := 67) (q := 14) (pj_d p_X3_fewestMissing 6 rfl) rfl (by decide) (fun c1 => ?_) (fun c1 => ?_)
      · have he : p = 32 := by have := (nI_ltI (by omega) (by omega)).mp c1; omega
        subst he
        refine pj_ild4 (q := 69) (pj_d p_X3_fewestMissing 31 rfl) rfl ?_
        refine pj_iret rfl (pj_d p_X3_fewestMissing 32 rfl) (by decide) (by decide) ?_
        exact ⟨rfl, rfl, rfl⟩
      have hlt : p < 32 := by
        rcases Nat.lt_or_ge p 32 with q | q
        · exact q
        · exact absurd (nI_lt (show 31 < p by omega) (by omega)) c1
      have fin : ∀ x y, x = gd_on (gd_mg τ a b (p + 1)) → pj_V E B l Y_X3_fewestMissing 5 0 0 61 [some (.ref f0), some (.ref k), some (.int (nI a)), some (.int (nI b)), some (.int (x)), some (.int (nI p)), some (.int (y))] [] h n 0 0 (pj_is (some (.int (gd_on (gd_mg τ a b 32)))) h n) := by
        intro x y hx
        subst hx
        refine pj_iinc5 (q := 64) (v := 1) (pj_d p_X3_fewestMissing 29 rfl) rfl (by first | rfl | assumption) (by decide) ?_
        refine pj_goto (t := 7) (pj_d p_X3_fewestMissing 30 rfl) (by decide) ?_
        rw [nI_1]
        exact ih (p + 1) _ rfl (by omega) (by omega)
      have few : (∀ s, gd_mg τ a b p = some s → gd_bits p < gd_bits s) → pj_V E B l Y_X3_fewestMissing 5 0 0 34 [some (.ref f0), some (.ref k), some (.int (nI a)), some (.int (nI b)), some (.int (gd_on (gd_mg τ a b p))), some (.int (nI p)), o6] [] h n 0 0 (pj_is (some (.int (gd_on (gd_mg τ a b 32)))) h n) := by
        intro hf
        refine pj_iconst (q := 35) (v := nI 1) (pj_d p_X3_fewestMissing 15 rfl) rfl (by decide) ?_
        refine pj_goto (t := 39) (pj_d p_X3_fewestMissing 16 rfl) (by decide) ?_
        refine pj_ist6 (q := 41) (pj_d p_X3_fewestMissing 18 rfl) rfl (by first | rfl | assumption) ?_
        refine pj_ild6 (q := 43) (pj_d p_X3_fewestMissing 19 rfl) rfl ?_
        refine pj_if_eq (t := 61) (q := 46) (pj_d p_X3_fewestMissing 20 rfl) rfl (by decide) (fun c2 => ?_) (fun c2 => ?_)
        · exact absurd c2 (by decide)
        refine pj_ald1 (q := 47) (pj_d p_X3_fewestMissing 21 rfl) rfl ?_
        refine pj_ild2 (q := 48) (pj_d p_X3_fewestMissing 22 rfl) rfl ?_
        refine pj_ild3 (q := 49) (pj_d p_X3_fewestMissing 23 rfl) rfl ?_
        refine pj_ild5 (q := 51) (pj_d p_X3_fewestMissing 24 rfl) rfl ?_
        refine pj_cp (pj_rV (q := 54) (c_X9_areAlike hT hW ha hb hlt) (pj_d p_X3_fewestMissing 25 rfl) rfl kX3_120 o_X9_areAlike (by assumption) (by rfl) (by rfl) (by rfl) (by rfl) (Nat.le_of_ble_eq_true rfl) (by decide)) (by decide) (by decide) ?_
        refine pj_if_eq (t := 61) (q := 57) (pj_d p_X3_fewestMissing 26 rfl) rfl (by decide) (fun c3 => ?_) (fun c3 => ?_)
        · exact fin _ _ (by rw [gd_mg, if_neg (fun q => gd_dec_f c3 q.1)])
        · refine pj_ild5 (q := 59) (pj_d p_X3_fewestMissing 27 rfl) rfl ?_
          refine pj_ist4 (q := 61) (pj_d p_X3_fewestMissing 28 rfl) rfl (by first | rfl | assumption) ?_
          exact fin _ _ (by rw [gd_mg, if_pos ⟨gd_dec_t c3, hf⟩]; rfl)
      refine pj_ild4 (q := 16) (pj_d p_X3_fewestMissing 7 rfl) rfl ?_
      refine pj_ldc (q := 18) (pj_d p_X3_fewestMissing 8 rfl) rfl kX3_55 ?_
      cases hm : gd_mg τ a b p with
      | none =>
        refine pj_icmp_eq (t := 34) (q := 21) (pj_d p_X3_fewestMissing 9 rfl) rfl (by decide) (fun c4 => ?_) (fun c4 => ?_)
        · rw [← hm]
          exact few (fun s hs => by rw [hm] at hs; cases hs)
        · exact absurd rfl c4
      | some s =>
        have hs := gd_mg_lt τ a b p s hm
        refine pj_icmp_eq (t := 34) (q := 21) (pj_d p_X3_fewestMissing 9 rfl) rfl (by decide) (fun c4 => ?_) (fun c4 => ?_)
        · exact absurd c4 (gd_neg (by omega))
        show pj_V E B l Y_X3_fewestMissing 5 0 0 21 [some (.ref f0), some (.ref k), some (.int (nI a)), some (.int (nI b)), some (.int (nI s)), some (.int (nI p)), o6] [] h n 0 0 _
        refine pj_ild5 (q := 23) (pj_d p_X3_fewestMissing 10 rfl) rfl ?_
        refine pj_cp (pj_rS (q := 26) (c_J6_bitCount p (by omega)) (pj_d p_X3_fewestMissing 11 rfl) rfl kX3_90 o_J6_bitCount_0f7a4 (by rfl) (by rfl) (Nat.le_of_ble_eq_true rfl) (by decide)) (by decide) (by decide) ?_
        refine pj_ild4 (q := 28) (pj_d p_X3_fewestMissing 12 rfl) rfl ?_
        refine pj_cp (pj_rS (q := 31) (c_J6_bitCount s (by omega)) (pj_d p_X3_fewestMissing 13 rfl) rfl kX3_90 o_J6_bitCount_0f7a4 (by rfl) (by rfl) (Nat.le_of_ble_eq_true rfl) (by decide)) (by decide) (by decide) ?_
        have b1 := gd_bits_le p
        have b2 := gd_bits_le s
        have es : nI s = gd_on (gd_mg τ a b p) := by rw [hm]; rfl
        rw [es]
        refine pj_icmp_ge (t := 38) (q := 34) (pj_d p_X3_fewestMissing 14 rfl) rfl (by decide) (fun c5 => ?_) (fun c5 => ?_)
        · have := gd_ge c5 (by omega) (by omega)
          refine pj_iconst (q := 39) (v := nI 0) (pj_d p_X3_fewestMissing 17 rfl) rfl (by decide) ?_
          refine pj_ist6 (q := 41) (pj_d p_X3_fewestMissing 18 rfl) rfl (by first | rfl | assumption) ?_
          refine pj_ild6 (q := 43) (pj_d p_X3_fewestMissing 19 rfl) rfl ?_
          refine pj_if_eq (t := 61) (q := 46) (pj_d p_X3_fewestMissing 20 rfl) rfl (by decide) (fun c6 => ?_) (fun c6 => ?_)
          · exact fin _ _ (by rw [gd_mg, if_neg (fun q => by have := q.2 s hm; omega)])
          · exact absurd rfl c6
        · have := gd_lt c5 (by omega)
          exact few (fun s' hs' => by rw [hm] at hs'; cases hs'; omega)
  exact loop 33 0 none rfl (by omega) (by omega)
theorem c_X3_drawnYear (hT : gd_T h k τ ac) (hW : gd_W τ) {c x : Nat} (hc : c ≤ 200) (hx : x ≤ 999999) (j : Nat) (hj : j ≤ 1) : pj_Ct E B l Y_X3_drawnYear 6 0 0 [.ref f0, .ref k, .int (nI c), .int (nI x), .int (nI j)] h n (pj_is (some (.int (if j = 0 then nI (gd_sm (gd_yh τ x) c) else nI (gd_sm (fun i => if gd_yh τ x i = 0 then 1 else 0) c)))) h n) := by
  have h0 := hT.1
  refine pj_in rfl (ls := [some (.ref f0), some (.ref k), some (.int (nI c)), some (.int (nI x)), some (.int (nI j)), none, none, none, none, none, none]) rfl (Nat.le_of_ble_eq_true rfl) ?_
  generalize hf : (fun i => if gd_yh τ x i = 0 then 1 else 0) = f
  refine pj_ild3 (q := 1) (pj_d p_X3_drawnYear 0 rfl) rfl ?_
  refine pj_i2l (q := 2) (pj_d p_X3_drawnYear 1 rfl) rfl ?_
  rw [nI_l (by omega)]
  refine pj_lst5 (q := 4) (pj_d p_X3_drawnYear 2 rfl) rfl (by first | rfl | assumption) ?_
  refine pj_iconst (q := 5) (v := nI 0) (pj_d p_X3_drawnYear 3 rfl) rfl (by decide) ?_
  refine pj_ist7 (q := 7) (pj_d p_X3_drawnYear 4 rfl) rfl (by first | rfl | assumption) ?_
  refine pj_iconst (q := 8) (v := nI 0) (pj_d p_X3_drawnYear 5 rfl) rfl (by decide) ?_
  refine pj_ist8 (q := 10) (pj_d p_X3_drawnYear 6 rfl) rfl (by first | rfl | assumption) ?_
  refine pj_iconst (q := 11) (v := nI 0) (pj_d p_X3_drawnYear 7 rfl) rfl (by decide) ?_
  refine pj_ist9 (q := 13) (pj_d p_X3_drawnYear 8 rfl) rfl (by first | rfl | assumption) ?_
  have loop : ∀ m i o9, pj_c1 o9 = true → c - i < m → i ≤ c → pj_V E B l Y_X3_drawnYear 6 0 0 13 [some (.ref f0), some (.ref k), some (.int (nI c)), some (.int (nI x)), some (.int (nI j)), some (.long (lN (gd_X x i))), none, some (.int (nI (gd_sm (gd_yh τ x) i))), some (.int (nI (gd_sm f i))), some (.int (nI i)), o9] [] h n 0 0 (pj_is (some (.int (if j = 0 then nI (gd_sm (gd_yh τ x) c) else nI (gd_sm f c)))) h n) := by
    intro m
    induction m with
    | zero => intro i o9 _ hi; omega
    | succ m ih =>
      intro i o9 k9 hi hle
      refine pj_ild9 (q := 15) (pj_d p_X3_drawnYear 9 rfl) rfl ?_
      refine pj_ild2 (q := 16) (pj_d p_X3_drawnYear 10 rfl) rfl ?_
      refine pj_icmp_ge (t := 68) (q := 19) (pj_d p_X3_drawnYear 11 rfl) rfl (by decide) (fun c5 => ?_) (fun c5 => ?_)
      · have he : i = c := by have := gd_ge c5 (by omega) (by omega); omega
        subst he
        refine pj_ild4 (q := 70) (pj_d p_X3_drawnYear 35 rfl) rfl ?_
        refine pj_if_ne (t := 78) (q := 73) (pj_d p_X3_drawnYear 36 rfl) rfl (by decide) (fun c6 => ?_) (fun c6 => ?_)
        · have hj0 : ¬ j = 0 := fun q => c6 (by rw [q]; rfl)
          refine pj_ild8 (q := 80) (pj_d p_X3_drawnYear 39 rfl) rfl ?_
          refine pj_iret rfl (pj_d p_X3_drawnYear 40 rfl) (by decide) (by decide) ?_
          exact ⟨by rw [if_neg hj0], rfl, rfl⟩
        · have hj0 : j = 0 := (nI_eq (by omega) (by omega)).mp (c6.trans nI_0.symm)
          refine pj_ild7 (q := 75) (pj_d p_X3_drawnYear 37 rfl) rfl ?_
          refine pj_goto (t := 80) (pj_d p_X3_drawnYear 38 rfl) (by decide) ?_
          refine pj_iret rfl (pj_d p_X3_drawnYear 40 rfl) (by decide) (by decide) ?_
          exact ⟨by rw [if_pos hj0], rfl, rfl⟩
      have hlt : i < c := gd_lt c5 (by omega)
      have hX := gd_X_lt hx i
      have hX1 := gd_X_lt hx (i + 1)
      refine pj_lld5 (q := 21) (pj_d p_X3_drawnYear 12 rfl) rfl ?_
      refine pj_ldc2 (q := 24) (pj_d p_X3_drawnYear 13 rfl) rfl kX3_148 ?_
      refine pj_lmul (q := 25) (pj_d p_X3_drawnYear 14 rfl) rfl ?_
      refine pj_ldc2 (q := 28) (pj_d p_X3_drawnYear 15 rfl) rfl kX3_150 ?_
      refine pj_lrem (q := 29) (pj_d p_X3_drawnYear 16 rfl) rfl (by decide) ?_
      rw [gd_lmul hX]
      rw [show gd_X x i * 16807 % 2147483647 = gd_X x (i + 1) from rfl]
      refine pj_lst5 (q := 31) (pj_d p_X3_drawnYear 17 rfl) rfl (by first | rfl | assumption) ?_
      refine pj_ald1 (q := 32) (pj_d p_X3_drawnYear 18 rfl) rfl ?_
      refine pj_lld5 (q := 34) (pj_d p_X3_drawnYear 19 rfl) rfl ?_
      refine pj_ldc2 (q := 37) (pj_d p_X3_drawnYear 20 rfl) rfl kX3_152 ?_
      refine pj_lrem (q := 38) (pj_d p_X3_drawnYear 21 rfl) rfl (by decide) ?_
      refine pj_l2i (q := 39) (pj_d p_X3_drawnYear 22 rfl) rfl ?_
      rw [gd_lm6 hX1]
      have h6 : gd_X x (i + 1) % 6 ≤ 5 := by have := Nat.mod_lt (gd_X x (i + 1)) (show 0 < 6 by omega); omega
      refine pj_cp (pj_rS (q := 42) (c_X9_setOf _ h6) (pj_d p_X3_drawnYear 23 rfl) rfl kX3_154 o_X9_setOf (by rfl) (by rfl) (Nat.le_of_ble_eq_true rfl) (by decide)) (by decide) (by decide) ?_
      refine pj_cp (pj_rV (q := 45) (c_X9_harmWithout hT hW (gd_setOf_lt _ h6)) (pj_d p_X3_drawnYear 24 rfl) rfl kX3_48 o_X9_harmWithout (by assumption) (by rfl) (by rfl) (by rfl) (by rfl) (Nat.le_of_ble_eq_true rfl) (by decide)) (by decide) (by decide) ?_
      rw [show gd_harm τ (gd_setOf (gd_X x (i + 1) % 6)) = gd_yh τ x i from rfl]
      have hb : gd_yh τ x i ≤ 160 := gd_harm_le hW _
      refine pj_ist10 (q := 47) (pj_d p_X3_drawnYear 25 rfl) rfl (by first | rfl | assumption) ?_
      refine pj_ild7 (q := 49) (pj_d p_X3_drawnYear 26 rfl) rfl ?_
      refine pj_ild10 (q := 51) (pj_d p_X3_drawnYear 27 rfl) rfl ?_
      refine pj_iadd (q := 52) (pj_d p_X3_drawnYear 28 rfl) rfl ?_
      rw [nI_add]
      refine pj_ist7 (q := 54) (pj_d p_X3_drawnYear 29 rfl) rfl (by first | rfl | assumption) ?_
      refine pj_ild10 (q := 56) (pj_d p_X3_drawnYear 30 rfl) rfl ?_
      have go : ∀ y, y = gd_sm f (i + 1) → pj_V E B l Y_X3_drawnYear 6 0 0 62 [some (.ref f0), some (.ref k), some (.int (nI c)), some (.int (nI x)), some (.int (nI j)), some (.long (lN (gd_X x (i + 1)))), none, some (.int (nI (gd_sm (gd_yh τ x) i + gd_yh τ x i))), some (.int (nI y)), some (.int (nI i)), some (.int (nI (gd_yh τ x i)))] [] h n 0 0 (pj_is (some (.int (if j = 0 then nI (gd_sm (gd_yh τ x) c) else nI (gd_sm f c)))) h n) := by
        intro y hy
        subst hy
        refine pj_iinc9 (q := 65) (v := 1) (pj_d p_X3_drawnYear 33 rfl) rfl (by first | rfl | assumption) (by decide) ?_
        refine pj_goto (t := 13) (pj_d p_X3_drawnYear 34 rfl) (by decide) ?_
        rw [nI_1]
        exact ih (i + 1) _ rfl (by omega) (by omega)
      refine pj_if_ne (t := 62) (q := 59) (pj_d p_X3_drawnYear 31 rfl) rfl (by decide) (fun c6 => ?_) (fun c6 => ?_)
      · have hne : ¬ gd_yh τ x i = 0 := fun q => c6 (by rw [q]; rfl)
        exact go _ (by rw [gd_sm, ← hf]; simp only [if_neg hne]; rfl)
      · have heq := (nI_eq (by omega) (by omega)).mp (c6.trans nI_0.symm)
        refine pj_iinc8 (q := 62) (v := 1) (pj_d p_X3_drawnYear 32 rfl) rfl (by first | rfl | assumption) (by decide) ?_
        rw [nI_1]
        exact go _ (by rw [gd_sm, ← hf]; simp only [if_pos heq])
  exact loop (c + 1) 0 _ (show pj_c1 none = true from rfl) (by omega) (by omega)
end
