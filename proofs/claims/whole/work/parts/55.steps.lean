/-! ===== each call, of the class and of the model (by program) ===== -/
def gd_PI2 (x : Int32) (I' : gd_I) (h : pj_H) (b : Nat) (fo : Nat → Option Nat) (n : Nat) (I : gd_I) : Option Value → pj_H → Nat → Prop := fun r h' n' => r = some (.int x) ∧ n ≤ n' ∧ (∃ fo', gd_IX h' b n' fo' I' ∧ ∀ z k', z < 2 → fo' z = some k' → (fo z = some k' ∧ I' z = I z) ∨ n ≤ k') ∧ ∀ q, q < n → q ≠ b + 21 → h' q = h q
section
variable {E : pj_E} {B : Nat} {l : Launch} {h : pj_H} {n b : Nat} {po : Option Nat} {lf st : Int32} {t : gd_TT} {fo : Nat → Option Nat} {I : gd_I}
theorem c_X11_image2 (hX : gd_XR h b po lf st t.1 t.2.2) (hI : gd_IX h b n fo I) (hB : B ≤ n) (hbn : b + 35 ≤ n) (hk : ∀ k, po = some k → k + 9 + t.1 1 ≤ n) (i : Int32) : pj_Ct E B l Y_X11_image 6 16 143 [.ref b, .int i] h n (gd_PI2 (sp_image i t.1 I).1 (sp_image i t.1 I).2 h b fo n I) := by
  obtain ⟨hx, hF, hW, hp⟩ := hX
  have i0 := hI.1
  refine pj_in rfl (ls := [some (.ref b), some (.int (i))]) rfl (Nat.le_of_ble_eq_true rfl) ?_
  have bad : gd_rng i 0 1 = false → pj_V E B l Y_X11_image 6 16 143 9 [some (.ref b), some (.int (i))] [] h n 0 0 (gd_PI2 (sp_image i t.1 I).1 (sp_image i t.1 I).2 h b fo n I) := by
    intro hd
    refine pj_ldc (q := 11) (pj_d p_X11_image 5 rfl) rfl kX11_47 ?_
    refine pj_iret rfl (pj_d p_X11_image 6 rfl) (by decide) (by decide) ?_
    rw [sp_image, hd]
    exact ⟨rfl, Nat.le_refl _, ⟨fo, hI, fun z k' _ e => Or.inl ⟨e, rfl⟩⟩, fun _ _ _ => rfl⟩
  refine pj_ild1 (q := 1) (pj_d p_X11_image 0 rfl) rfl ?_
  refine pj_if_lt (t := 9) (q := 4) (pj_d p_X11_image 1 rfl) rfl (by decide) (fun c1 => ?_) (fun c1 => ?_)
  · exact bad (gd_rng_lo (lo := 0) (by decide) c1)
  refine pj_ild1 (q := 5) (pj_d p_X11_image 2 rfl) rfl ?_
  refine pj_iconst (q := 6) (v := nI 2) (pj_d p_X11_image 3 rfl) rfl (by decide) ?_
  refine pj_icmp_lt (t := 12) (q := 9) (pj_d p_X11_image 4 rfl) rfl (by decide) (fun c2 => ?_) (fun c2 => ?_)
  rotate_left
  · rw [Int32.not_lt] at c2
    exact bad (gd_rng_ge (hi := 1) (by decide) c2)
  have e1 : gd_rng i 0 1 = true := gd_rng_in' (hi := 1) (by decide) c1 (by rw [Int32.not_le]; exact c2)
  obtain ⟨j, hj, rfl, hc⟩ := gd_rng_of (hi := 1) e1
  cases po with
  | none =>
    obtain ⟨p0, p1⟩ := hp
    have hx : h b = some (.inr (10, [.ref (b + 1), .ref (b + 13), .ref (b + 15), .ref (b + 19), .ref (b + 21), .null, .int lf, .int st])) := hx
    refine pj_ald0 (q := 13) (pj_d p_X11_image 7 rfl) rfl ?_
    refine pj_gf (q := 16) (k := 5) (pj_d p_X11_image 8 rfl) rfl kX11_102 (by assumption) (by rfl) (by rfl) ?_
    refine pj_ifnonnullN (q := 19) (pj_d p_X11_image 9 rfl) rfl ?_
    refine pj_ldc (q := 21) (pj_d p_X11_image 10 rfl) rfl kX11_112 ?_
    refine pj_iret rfl (pj_d p_X11_image 11 rfl) (by decide) (by decide) ?_
    rw [sp_image, e1, if_neg (show ¬ t.1 0 = 1 by omega)]
    exact ⟨rfl, Nat.le_refl _, ⟨fo, hI, fun z k' _ e => Or.inl ⟨e, rfl⟩⟩, fun _ _ _ => rfl⟩
  | some k =>
    obtain ⟨hk5, p0, hT⟩ := hp
    have hx : h b = some (.inr (10, [.ref (b + 1), .ref (b + 13), .ref (b + 15), .ref (b + 19), .ref (b + 21), .ref k, .int lf, .int st])) := hx
    have t0 := hT.1
    have hkn := hk k rfl
    refine pj_ald0 (q := 13) (pj_d p_X11_image 7 rfl) rfl ?_
    refine pj_gf (q := 16) (k := 5) (pj_d p_X11_image 8 rfl) rfl kX11_102 (by assumption) (by rfl) (by rfl) ?_
    refine pj_ifnonnull (t := 22) (pj_d p_X11_image 9 rfl) (by decide) ?_
    refine pj_ald0 (q := 23) (pj_d p_X11_image 12 rfl) rfl ?_
    refine pj_gf (q := 26) (k := 4) (pj_d p_X11_image 13 rfl) rfl kX11_39 (by assumption) (by rfl) (by rfl) ?_
    refine pj_ild1 (q := 27) (pj_d p_X11_image 14 rfl) rfl ?_
    refine pj_ald0 (q := 28) (pj_d p_X11_image 15 rfl) rfl ?_
    refine pj_gf (q := 31) (k := 5) (pj_d p_X11_image 16 rfl) rfl kX11_102 (by assumption) (by rfl) (by rfl) ?_
    refine pj_cv (pj_rV (q := 34) (c_X9_duplicate hT hW hB hkn) (pj_d p_X11_image 17 rfl) rfl kX11_254 o_X9_duplicate (by assumption) (by rfl) (by rfl) (by rfl) (by rfl) (Nat.le_of_ble_eq_true rfl) (by decide)) (by omega) (by omega) ?_
    rintro r1 h1 n1 ⟨rfl, rfl, T1, A1, Q1⟩
    have i1 : h1 (b + 21) = _ := (Q1 _ (by omega)).trans i0
    refine gd_aastT (q := 35) (pj_d p_X11_image 18 rfl) rfl i1 T1.1 rfl (show j < 2 by omega) ?_
    refine pj_iconst (q := 36) (v := nI 1) (pj_d p_X11_image 19 rfl) rfl (by decide) ?_
    refine pj_iret rfl (pj_d p_X11_image 20 rfl) (by decide) (by decide) ?_
    have hsp : sp_image (nI j) t.1 I = (nI 1, fun z => if z = j then some t.1 else I z) := by rw [sp_image, e1, if_pos p0, hc]; rfl
    rw [hsp]
    refine ⟨rfl, by omega, ⟨_, ⟨pj_up_s, fun z hz => ?_⟩, fun z k' _ e => ?_⟩, fun q q1 q2 => by rw [pj_up_n q2, Q1 q q1]⟩
    · show ((if z = j then some n else fo z) = none ∧ (if z = j then some t.1 else I z) = none) ∨ _
      by_cases e : z = j
      · right
        refine ⟨n, t.1, if_pos e, if_pos e, T1.out (fun q q1 q2 => pj_up_n (by omega)), hbn, Nat.le_refl _, hW, p0⟩
      · rcases hI.2 z hz with ⟨x1, x2⟩ | ⟨k', κ, x1, x2, x3, x4, x5, x6, x7⟩
        · left
          rw [if_neg e, if_neg e]
          exact ⟨x1, x2⟩
        · right
          exact ⟨k', κ, (if_neg e).trans x1, (if_neg e).trans x2, x3.out (fun q q1 q2 => by rw [pj_up_n (by omega), Q1 q (by omega)]), x4, by omega, x6, x7⟩
    · have e' : (if z = j then some n else fo z) = some k' := e
      by_cases ez : z = j
      · rw [if_pos ez] at e'
        cases e'
        exact Or.inr (Nat.le_refl _)
      · rw [if_neg ez] at e'
        exact Or.inl ⟨e', if_neg ez⟩
end
section
variable {E : pj_E} {B : Nat} {l : Launch} {h : pj_H} {n : Nat}
theorem st_thing (hS : gd_SX h B n) (x1 x2 : Int32) : gd_stp E B l Y_X11_thing Y_X12_thing 4 3 0 0 gd_rI [.int x1, .int x2] h n := by
  have hS0 := hS
  obtain ⟨s, y, lf, t, I, K, hC0, hM0, hU⟩ := hS
  have hC := hC0
  have hM := hM0
  obtain ⟨po, S, fo, m0, hx, hR, hTp, hBy, hF, hK, hI, hP, hSep, hbn⟩ := hC
  obtain ⟨v, m1, ⟨v0, v1, v8, v10, v17, v23⟩, mR, m4, ⟨F5, m5⟩, mA, m7, ⟨f8, m8⟩, ⟨f9, m9⟩, mI, m12⟩ := hM
  obtain ⟨uB, uL, uc, uW, u00, uK⟩ := hU
  have hX := gd_XR_of hx hF uW hP
  have hMR : gd_MR h (B + 22) v t.1 := ⟨m1, m4, v0, uW.1, uW.2.1⟩
  refine ⟨_, c_X11_thing hX x1 x2, ?_⟩
  rintro r h' n' ⟨rfl, rfl, rfl⟩
  refine ⟨⟨_, rfl⟩, ⟨_, m1⟩, _, c_X12_thing hMR x1 x2, ?_⟩
  rintro r2 h2 n2 ⟨rfl, rfl, rfl⟩
  exact ⟨rfl, hS0⟩
theorem st_missing (hS : gd_SX h B n) (x1 : Int32) : gd_stp E B l Y_X11_missing Y_X12_missing 2 2 0 0 gd_rI [.int x1] h n := by
  have hS0 := hS
  obtain ⟨s, y, lf, t, I, K, hC0, hM0, hU⟩ := hS
  have hC := hC0
  have hM := hM0
  obtain ⟨po, S, fo, m0, hx, hR, hTp, hBy, hF, hK, hI, hP, hSep, hbn⟩ := hC
  obtain ⟨v, m1, ⟨v0, v1, v8, v10, v17, v23⟩, mR, m4, ⟨F5, m5⟩, mA, m7, ⟨f8, m8⟩, ⟨f9, m9⟩, mI, m12⟩ := hM
  obtain ⟨uB, uL, uc, uW, u00, uK⟩ := hU
  have hX := gd_XR_of hx hF uW hP
  have hMR : gd_MR h (B + 22) v t.1 := ⟨m1, m4, v0, uW.1, uW.2.1⟩
  refine ⟨_, c_X11_missing hX x1, ?_⟩
  rintro r h' n' ⟨rfl, rfl, rfl⟩
  refine ⟨⟨_, rfl⟩, ⟨_, m1⟩, _, c_X12_missing hMR x1, ?_⟩
  rintro r2 h2 n2 ⟨rfl, rfl, rfl⟩
  exact ⟨rfl, hS0⟩
theorem st_pair (hS : gd_SX h B n) (x1 x2 : Int32) : gd_stp E B l Y_X11_pair Y_X12_pair 4 4 0 0 gd_rI [.int x1, .int x2] h n := by
  have hS0 := hS
  obtain ⟨s, y, lf, t, I, K, hC0, hM0, hU⟩ := hS
  have hC := hC0
  have hM := hM0
  obtain ⟨po, S, fo, m0, hx, hR, hTp, hBy, hF, hK, hI, hP, hSep, hbn⟩ := hC
  obtain ⟨v, m1, ⟨v0, v1, v8, v10, v17, v23⟩, mR, m4, ⟨F5, m5⟩, mA, m7, ⟨f8, m8⟩, ⟨f9, m9⟩, mI, m12⟩ := hM
  obtain ⟨uB, uL, uc, uW, u00, uK⟩ := hU
  have hX := gd_XR_of hx hF uW hP
  have hMR : gd_MR h (B + 22) v t.1 := ⟨m1, m4, v0, uW.1, uW.2.1⟩
  refine ⟨_, c_X11_pair hX x1 x2, ?_⟩
  rintro r h' n' ⟨rfl, rfl, rfl⟩
  refine ⟨⟨_, rfl⟩, ⟨_, m1⟩, _, c_X12_pair hMR x1 x2, ?_⟩
  rintro r2 h2 n2 ⟨rfl, rfl, rfl⟩
  exact ⟨rfl, hS0⟩
theorem st_look (hS : gd_SX h B n) (x1 x2 : Int32) : gd_stp E B l Y_X11_look Y_X12_look 4 3 0 0 gd_rI [.int x1, .int x2] h n := by
  have hS0 := hS
  obtain ⟨s, y, lf, t, I, K, hC0, hM0, hU⟩ := hS
  have hC := hC0
  have hM := hM0
  obtain ⟨po, S, fo, m0, hx, hR, hTp, hBy, hF, hK, hI, hP, hSep, hbn⟩ := hC
  obtain ⟨v, m1, ⟨v0, v1, v8, v10, v17, v23⟩, mR, m4, ⟨F5, m5⟩, mA, m7, ⟨f8, m8⟩, ⟨f9, m9⟩, mI, m12⟩ := hM
  obtain ⟨uB, uL, uc, uW, u00, uK⟩ := hU
  have hX := gd_XR_of hx hF uW hP
  have hMR : gd_MR h (B + 22) v t.1 := ⟨m1, m4, v0, uW.1, uW.2.1⟩
  refine ⟨_, c_X11_look hX x1 x2, ?_⟩
  rintro r h' n' ⟨rfl, rfl, rfl⟩
  refine ⟨⟨_, rfl⟩, ⟨_, m1⟩, _, c_X12_look hMR x1 x2, ?_⟩
  rintro r2 h2 n2 ⟨rfl, rfl, rfl⟩
  exact ⟨rfl, hS0⟩
theorem st_alike (hS : gd_SX h B n) (x1 x2 x3 : Int32) : gd_stp E B l Y_X11_alike Y_X12_alike 5 4 0 0 gd_rI [.int x1, .int x2, .int x3] h n := by
  have hS0 := hS
  obtain ⟨s, y, lf, t, I, K, hC0, hM0, hU⟩ := hS
  have hC := hC0
  have hM := hM0
  obtain ⟨po, S, fo, m0, hx, hR, hTp, hBy, hF, hK, hI, hP, hSep, hbn⟩ := hC
  obtain ⟨v, m1, ⟨v0, v1, v8, v10, v17, v23⟩, mR, m4, ⟨F5, m5⟩, mA, m7, ⟨f8, m8⟩, ⟨f9, m9⟩, mI, m12⟩ := hM
  obtain ⟨uB, uL, uc, uW, u00, uK⟩ := hU
  have hX := gd_XR_of hx hF uW hP
  have hMR : gd_MR h (B + 22) v t.1 := ⟨m1, m4, v0, uW.1, uW.2.1⟩
  refine ⟨_, c_X11_alike hX x1 x2 x3, ?_⟩
  rintro r h' n' ⟨rfl, rfl, rfl⟩
  refine ⟨⟨_, rfl⟩, ⟨_, m1⟩, _, c_X12_alike hMR x1 x2 x3, ?_⟩
  rintro r2 h2 n2 ⟨rfl, rfl, rfl⟩
  exact ⟨rfl, hS0⟩
theorem st_harm (hS : gd_SX h B n) (x1 : Int32) : gd_stp E B l Y_X11_harm Y_X12_harm 6 4 0 0 gd_rI [.int x1] h n := by
  have hS0 := hS
  obtain ⟨s, y, lf, t, I, K, hC0, hM0, hU⟩ := hS
  have hC := hC0
  have hM := hM0
  obtain ⟨po, S, fo, m0, hx, hR, hTp, hBy, hF, hK, hI, hP, hSep, hbn⟩ := hC
  obtain ⟨v, m1, ⟨v0, v1, v8, v10, v17, v23⟩, mR, m4, ⟨F5, m5⟩, mA, m7, ⟨f8, m8⟩, ⟨f9, m9⟩, mI, m12⟩ := hM
  obtain ⟨uB, uL, uc, uW, u00, uK⟩ := hU
  have hX := gd_XR_of hx hF uW hP
  have hMR : gd_MR h (B + 22) v t.1 := ⟨m1, m4, v0, uW.1, uW.2.1⟩
  refine ⟨_, c_X11_harm hX x1, ?_⟩
  rintro r h' n' ⟨rfl, rfl, rfl⟩
  refine ⟨⟨_, rfl⟩, ⟨_, m1⟩, _, c_X12_harm hMR x1, ?_⟩
  rintro r2 h2 n2 ⟨rfl, rfl, rfl⟩
  exact ⟨rfl, hS0⟩
theorem st_harms (hS : gd_SX h B n) (x1 : Int32) : gd_stp E B l Y_X11_harms Y_X12_harms 7 5 0 0 gd_rI [.int x1] h n := by
  have hS0 := hS
  obtain ⟨s, y, lf, t, I, K, hC0, hM0, hU⟩ := hS
  have hC := hC0
  have hM := hM0
  obtain ⟨po, S, fo, m0, hx, hR, hTp, hBy, hF, hK, hI, hP, hSep, hbn⟩ := hC
  obtain ⟨v, m1, ⟨v0, v1, v8, v10, v17, v23⟩, mR, m4, ⟨F5, m5⟩, mA, m7, ⟨f8, m8⟩, ⟨f9, m9⟩, mI, m12⟩ := hM
  obtain ⟨uB, uL, uc, uW, u00, uK⟩ := hU
  have hX := gd_XR_of hx hF uW hP
  have hMR : gd_MR h (B + 22) v t.1 := ⟨m1, m4, v0, uW.1, uW.2.1⟩
  refine ⟨_, c_X11_harms hX x1, ?_⟩
  rintro r h' n' ⟨rfl, rfl, rfl⟩
  refine ⟨⟨_, rfl⟩, ⟨_, m1⟩, _, c_X12_harms hMR x1, ?_⟩
  rintro r2 h2 n2 ⟨rfl, rfl, rfl⟩
  exact ⟨rfl, hS0⟩
theorem st_week (hS : gd_SX h B n) (x1 : Int32) : gd_stp E B l Y_X11_week Y_X12_week 7 4 0 0 gd_rI [.int x1] h n := by
  have hS0 := hS
  obtain ⟨s, y, lf, t, I, K, hC0, hM0, hU⟩ := hS
  have hC := hC0
  have hM := hM0
  obtain ⟨po, S, fo, m0, hx, hR, hTp, hBy, hF, hK, hI, hP, hSep, hbn⟩ := hC
  obtain ⟨v, m1, ⟨v0, v1, v8, v10, v17, v23⟩, mR, m4, ⟨F5, m5⟩, mA, m7, ⟨f8, m8⟩, ⟨f9, m9⟩, mI, m12⟩ := hM
  obtain ⟨uB, uL, uc, uW, u00, uK⟩ := hU
  have hX := gd_XR_of hx hF uW hP
  have hMR : gd_MR h (B + 22) v t.1 := ⟨m1, m4, v0, uW.1, uW.2.1⟩
  refine ⟨_, c_X11_week hX x1, ?_⟩
  rintro r h' n' ⟨rfl, rfl, rfl⟩
  refine ⟨⟨_, rfl⟩, ⟨_, m1⟩, _, c_X12_week hMR x1, ?_⟩
  rintro r2 h2 n2 ⟨rfl, rfl, rfl⟩
  exact ⟨rfl, hS0⟩
theorem st_bestPaint (hS : gd_SX h B n) (x1 : Int32) : gd_stp E B l Y_X11_bestPaint Y_X12_bestPaint 8 5 0 0 gd_rI [.int x1] h n := by
  have hS0 := hS
  obtain ⟨s, y, lf, t, I, K, hC0, hM0, hU⟩ := hS
  have hC := hC0
  have hM := hM0
  obtain ⟨po, S, fo, m0, hx, hR, hTp, hBy, hF, hK, hI, hP, hSep, hbn⟩ := hC
  obtain ⟨v, m1, ⟨v0, v1, v8, v10, v17, v23⟩, mR, m4, ⟨F5, m5⟩, mA, m7, ⟨f8, m8⟩, ⟨f9, m9⟩, mI, m12⟩ := hM
  obtain ⟨uB, uL, uc, uW, u00, uK⟩ := hU
  have hX := gd_XR_of hx hF uW hP
  have hMR : gd_MR h (B + 22) v t.1 := ⟨m1, m4, v0, uW.1, uW.2.1⟩
  refine ⟨_, c_X11_bestPaint hX x1, ?_⟩
  rintro r h' n' ⟨rfl, rfl, rfl⟩
  refine ⟨⟨_, rfl⟩, ⟨_, m1⟩, _, c_X12_bestPaint hMR x1, ?_⟩
  rintro r2 h2 n2 ⟨rfl, rfl, rfl⟩
  exact ⟨rfl, hS0⟩
theorem st_parted (hS : gd_SX h B n) (x1 x2 x3 : Int32) : gd_stp E B l Y_X11_parted Y_X12_parted 7 4 0 0 gd_rI [.int x1, .int x2, .int x3] h n := by
  have hS0 := hS
  obtain ⟨s, y, lf, t, I, K, hC0, hM0, hU⟩ := hS
  have hC := hC0
  have hM := hM0
  obtain ⟨po, S, fo, m0, hx, hR, hTp, hBy, hF, hK, hI, hP, hSep, hbn⟩ := hC
  obtain ⟨v, m1, ⟨v0, v1, v8, v10, v17, v23⟩, mR, m4, ⟨F5, m5⟩, mA, m7, ⟨f8, m8⟩, ⟨f9, m9⟩, mI, m12⟩ := hM
  obtain ⟨uB, uL, uc, uW, u00, uK⟩ := hU
  have hX := gd_XR_of hx hF uW hP
  have hMR : gd_MR h (B + 22) v t.1 := ⟨m1, m4, v0, uW.1, uW.2.1⟩
  refine ⟨_, c_X11_parted hX x1 x2 x3, ?_⟩
  rintro r h' n' ⟨rfl, rfl, rfl⟩
  refine ⟨⟨_, rfl⟩, ⟨_, m1⟩, _, c_X12_parted hMR x1 x2 x3, ?_⟩
  rintro r2 h2 n2 ⟨rfl, rfl, rfl⟩
  exact ⟨rfl, hS0⟩
theorem st_merged (hS : gd_SX h B n) (x1 x2 : Int32) : gd_stp E B l Y_X11_merged Y_X12_merged 6 4 0 0 gd_rI [.int x1, .int x2] h n := by
  have hS0 := hS
  obtain ⟨s, y, lf, t, I, K, hC0, hM0, hU⟩ := hS
  have hC := hC0
  have hM := hM0
  obtain ⟨po, S, fo, m0, hx, hR, hTp, hBy, hF, hK, hI, hP, hSep, hbn⟩ := hC
  obtain ⟨v, m1, ⟨v0, v1, v8, v10, v17, v23⟩, mR, m4, ⟨F5, m5⟩, mA, m7, ⟨f8, m8⟩, ⟨f9, m9⟩, mI, m12⟩ := hM
  obtain ⟨uB, uL, uc, uW, u00, uK⟩ := hU
  have hX := gd_XR_of hx hF uW hP
  have hMR : gd_MR h (B + 22) v t.1 := ⟨m1, m4, v0, uW.1, uW.2.1⟩
  refine ⟨_, c_X11_merged hX x1 x2, ?_⟩
  rintro r h' n' ⟨rfl, rfl, rfl⟩
  refine ⟨⟨_, rfl⟩, ⟨_, m1⟩, _, c_X12_merged hMR x1 x2, ?_⟩
  rintro r2 h2 n2 ⟨rfl, rfl, rfl⟩
  exact ⟨rfl, hS0⟩
theorem st_year (hS : gd_SX h B n) (x1 x2 x3 : Int32) : gd_stp E B l Y_X11_year Y_X12_year 7 4 0 0 gd_rI [.int x1, .int x2, .int x3] h n := by
  have hS0 := hS
  obtain ⟨s, y, lf, t, I, K, hC0, hM0, hU⟩ := hS
  have hC := hC0
  have hM := hM0
  obtain ⟨po, S, fo, m0, hx, hR, hTp, hBy, hF, hK, hI, hP, hSep, hbn⟩ := hC
  obtain ⟨v, m1, ⟨v0, v1, v8, v10, v17, v23⟩, mR, m4, ⟨F5, m5⟩, mA, m7, ⟨f8, m8⟩, ⟨f9, m9⟩, mI, m12⟩ := hM
  obtain ⟨uB, uL, uc, uW, u00, uK⟩ := hU
  have hX := gd_XR_of hx hF uW hP
  have hMR : gd_MR h (B + 22) v t.1 := ⟨m1, m4, v0, uW.1, uW.2.1⟩
  refine ⟨_, c_X11_year hX x1 x2 x3, ?_⟩
  rintro r h' n' ⟨rfl, rfl, rfl⟩
  refine ⟨⟨_, rfl⟩, ⟨_, m1⟩, _, c_X12_year hMR x1 x2 x3, ?_⟩
  rintro r2 h2 n2 ⟨rfl, rfl, rfl⟩
  exact ⟨rfl, hS0⟩
theorem st_kind (hS : gd_SX h B n) (x1 : Int32) : gd_stp E B l Y_X11_kind Y_X12_kind 3 3 0 0 gd_rI [.int x1] h n := by
  have hS0 := hS
  obtain ⟨s, y, lf, t, I, K, hC0, hM0, hU⟩ := hS
  have hC := hC0
  have hM := hM0
  obtain ⟨po, S, fo, m0, hx, hR, hTp, hBy, hF, hK, hI, hP, hSep, hbn⟩ := hC
  obtain ⟨v, m1, ⟨v0, v1, v8, v10, v17, v23⟩, mR, m4, ⟨F5, m5⟩, mA, m7, ⟨f8, m8⟩, ⟨f9, m9⟩, mI, m12⟩ := hM
  obtain ⟨uB, uL, uc, uW, u00, uK⟩ := hU
  have hX := gd_XR_of hx hF uW hP
  have hMR : gd_MR h (B + 22) v t.1 := ⟨m1, m4, v0, uW.1, uW.2.1⟩
  refine ⟨_, c_X11_kind hX x1, ?_⟩
  rintro r h' n' ⟨rfl, rfl, rfl⟩
  refine ⟨⟨_, rfl⟩, ⟨_, m1⟩, _, c_X12_kind hMR x1, ?_⟩
  rintro r2 h2 n2 ⟨rfl, rfl, rfl⟩
  exact ⟨rfl, hS0⟩
theorem st_bet (hS : gd_SX h B n) (x1 x2 x3 : Int32) : gd_stp E B l Y_X11_bet Y_X12_bet 3 2 0 0 gd_rL [.int x1, .int x2, .int x3] h n := by
  have hS0 := hS
  obtain ⟨s, y, lf, t, I, K, hC0, hM0, hU⟩ := hS
  have hC := hC0
  have hM := hM0
  obtain ⟨po, S, fo, m0, hx, hR, hTp, hBy, hF, hK, hI, hP, hSep, hbn⟩ := hC
  obtain ⟨v, m1, ⟨v0, v1, v8, v10, v17, v23⟩, mR, m4, ⟨F5, m5⟩, mA, m7, ⟨f8, m8⟩, ⟨f9, m9⟩, mI, m12⟩ := hM
  obtain ⟨uB, uL, uc, uW, u00, uK⟩ := hU
  have hX := gd_XR_of hx hF uW hP
  have hMR : gd_MR h (B + 22) v t.1 := ⟨m1, m4, v0, uW.1, uW.2.1⟩
  refine ⟨_, c_X11_bet (b := B) x1 x2 x3, ?_⟩
  rintro r h' n' ⟨rfl, rfl, rfl⟩
  refine ⟨⟨_, rfl⟩, ⟨_, m1⟩, _, c_X12_bet hMR x1 x2 x3, ?_⟩
  rintro r2 h2 n2 ⟨rfl, rfl, rfl⟩
  exact ⟨rfl, hS0⟩
theorem st_trace (hS : gd_SX h B n) (x1 : Int32) : gd_stp E B l Y_X11_trace Y_X12_trace 2 2 0 0 gd_rI [.int x1] h n := by
  have hS0 := hS
  obtain ⟨s, y, lf, t, I, K, hC0, hM0, hU⟩ := hS
  have hC := hC0
  have hM := hM0
  obtain ⟨po, S, fo, m0, hx, hR, hTp, hBy, hF, hK, hI, hP, hSep, hbn⟩ := hC
  obtain ⟨v, m1, ⟨v0, v1, v8, v10, v17, v23⟩, mR, m4, ⟨F5, m5⟩, mA, m7, ⟨f8, m8⟩, ⟨f9, m9⟩, mI, m12⟩ := hM
  obtain ⟨uB, uL, uc, uW, u00, uK⟩ := hU
  have hX := gd_XR_of hx hF uW hP
  have hMR : gd_MR h (B + 22) v t.1 := ⟨m1, m4, v0, uW.1, uW.2.1⟩
  refine ⟨_, c_X11_trace hx hK uK x1, ?_⟩
  rintro r h' n' ⟨rfl, rfl, rfl⟩
  refine ⟨⟨_, rfl⟩, ⟨_, m1⟩, _, c_X12_trace m1 v0 v23 m12 uK x1, ?_⟩
  rintro r2 h2 n2 ⟨rfl, rfl, rfl⟩
  exact ⟨rfl, hS0⟩
theorem st_count (hS : gd_SX h B n) (x1 : Int32) : gd_stp E B l Y_X11_count Y_X12_count 7 4 0 0 gd_rI [.int x1] h n := by
  have hS0 := hS
  obtain ⟨s, y, lf, t, I, K, hC0, hM0, hU⟩ := hS
  have hC := hC0
  have hM := hM0
  obtain ⟨po, S, fo, m0, hx, hR, hTp, hBy, hF, hK, hI, hP, hSep, hbn⟩ := hC
  obtain ⟨v, m1, ⟨v0, v1, v8, v10, v17, v23⟩, mR, m4, ⟨F5, m5⟩, mA, m7, ⟨f8, m8⟩, ⟨f9, m9⟩, mI, m12⟩ := hM
  obtain ⟨uB, uL, uc, uW, u00, uK⟩ := hU
  have hX := gd_XR_of hx hF uW hP
  have hMR : gd_MR h (B + 22) v t.1 := ⟨m1, m4, v0, uW.1, uW.2.1⟩
  refine ⟨_, c_X11_count hX uW u00 hR hTp x1, ?_⟩
  rintro r h' n' ⟨rfl, rfl, rfl⟩
  refine ⟨⟨_, rfl⟩, ⟨_, m1⟩, _, c_X12_count hMR v8 v10 mR uB x1, ?_⟩
  rintro r2 h2 n2 ⟨rfl, rfl, rfl⟩
  exact ⟨rfl, hS0⟩
theorem st_status (hS : gd_SX h B n) : gd_stp E B l Y_X11_status Y_X12_status 1 1 0 0 gd_rI [] h n := by
  have hS0 := hS
  obtain ⟨s, y, lf, t, I, K, hC0, hM0, hU⟩ := hS
  have hC := hC0
  have hM := hM0
  obtain ⟨po, S, fo, m0, hx, hR, hTp, hBy, hF, hK, hI, hP, hSep, hbn⟩ := hC
  obtain ⟨v, m1, ⟨v0, v1, v8, v10, v17, v23⟩, mR, m4, ⟨F5, m5⟩, mA, m7, ⟨f8, m8⟩, ⟨f9, m9⟩, mI, m12⟩ := hM
  obtain ⟨uB, uL, uc, uW, u00, uK⟩ := hU
  have hX := gd_XR_of hx hF uW hP
  have hMR : gd_MR h (B + 22) v t.1 := ⟨m1, m4, v0, uW.1, uW.2.1⟩
  refine ⟨_, c_X11_status hx, ?_⟩
  rintro r h' n' ⟨rfl, rfl, rfl⟩
  refine ⟨⟨_, rfl⟩, ⟨_, m1⟩, _, c_X12_status m1 v0, ?_⟩
  rintro r2 h2 n2 ⟨rfl, rfl, rfl⟩
  exact ⟨by rw [v1], hS0⟩
theorem st_fault (hS : gd_SX h B n) : gd_stp E B l Y_X11_fault Y_X12_fault 1 1 0 0 gd_rI [] h n := by
  have hS0 := hS
  obtain ⟨s, y, lf, t, I, K, hC0, hM0, hU⟩ := hS
  have hC := hC0
  have hM := hM0
  obtain ⟨po, S, fo, m0, hx, hR, hTp, hBy, hF, hK, hI, hP, hSep, hbn⟩ := hC
  obtain ⟨v, m1, ⟨v0, v1, v8, v10, v17, v23⟩, mR, m4, ⟨F5, m5⟩, mA, m7, ⟨f8, m8⟩, ⟨f9, m9⟩, mI, m12⟩ := hM
  obtain ⟨uB, uL, uc, uW, u00, uK⟩ := hU
  have hX := gd_XR_of hx hF uW hP
  have hMR : gd_MR h (B + 22) v t.1 := ⟨m1, m4, v0, uW.1, uW.2.1⟩
  refine ⟨_, c_X11_fault hx, ?_⟩
  rintro r h' n' ⟨rfl, rfl, rfl⟩
  refine ⟨⟨_, rfl⟩, ⟨_, m1⟩, _, c_X12_fault m1 v0, ?_⟩
  rintro r2 h2 n2 ⟨rfl, rfl, rfl⟩
  exact ⟨by rw [v17], hS0⟩
theorem st_like (hS : gd_SX h B n) (x1 x2 : Int32) : gd_stp E B l Y_X11_like Y_X12_like 6 4 0 0 gd_rI [.int x1, .int x2] h n := by
  have hS0 := hS
  obtain ⟨s, y, lf, t, I, K, hC0, hM0, hU⟩ := hS
  have hC := hC0
  have hM := hM0
  obtain ⟨po, S, fo, m0, hx, hR, hTp, hBy, hF, hK, hI, hP, hSep, hbn⟩ := hC
  obtain ⟨v, m1, ⟨v0, v1, v8, v10, v17, v23⟩, mR, m4, ⟨F5, m5⟩, mA, m7, ⟨f8, m8⟩, ⟨f9, m9⟩, mI, m12⟩ := hM
  obtain ⟨uB, uL, uc, uW, u00, uK⟩ := hU
  have hX := gd_XR_of hx hF uW hP
  have hMR : gd_MR h (B + 22) v t.1 := ⟨m1, m4, v0, uW.1, uW.2.1⟩
  refine ⟨_, c_X11_like hX x1 x2, ?_⟩
  rintro r h' n' ⟨rfl, rfl, f, rfl⟩
  have C' := hC0.scr (h' := pj_up h (B + 15 + 1) (.inl (0, 7, .inl f))) hF.up (fun q q1 q2 q3 => pj_up_n (by omega))
  have M' := hM0.out (h' := pj_up h (B + 15 + 1) (.inl (0, 7, .inl f))) (fun q q1 q2 => pj_up_n (by omega))
  have M2 := M'
  obtain ⟨v', n1, ⟨w0, -⟩, -, n4, -⟩ := M2
  refine ⟨⟨_, rfl⟩, ⟨_, n1⟩, _, c_X12_like (v := v') (τ := t.1) ⟨n1, n4, w0, uW.1, uW.2.1⟩ x1 x2, ?_⟩
  rintro r2 h2 n2 ⟨rfl, rfl, rfl⟩
  exact ⟨rfl, s, y, lf, t, I, K, C', M', uB, uL, uc, uW, u00, uK⟩
theorem st_looks (hS : gd_SX h B n) (x1 : Int32) : gd_stp E B l Y_X11_looks Y_X12_looks 7 4 0 0 gd_rI [.int x1] h n := by
  have hS0 := hS
  obtain ⟨s, y, lf, t, I, K, hC0, hM0, hU⟩ := hS
  have hC := hC0
  have hM := hM0
  obtain ⟨po, S, fo, m0, hx, hR, hTp, hBy, hF, hK, hI, hP, hSep, hbn⟩ := hC
  obtain ⟨v, m1, ⟨v0, v1, v8, v10, v17, v23⟩, mR, m4, ⟨F5, m5⟩, mA, m7, ⟨f8, m8⟩, ⟨f9, m9⟩, mI, m12⟩ := hM
  obtain ⟨uB, uL, uc, uW, u00, uK⟩ := hU
  have hX := gd_XR_of hx hF uW hP
  have hMR : gd_MR h (B + 22) v t.1 := ⟨m1, m4, v0, uW.1, uW.2.1⟩
  refine ⟨_, c_X11_looks hX x1, ?_⟩
  rintro r h' n' ⟨rfl, rfl, f, rfl⟩
  have C' := hC0.scr (h' := pj_up h (B + 15 + 1) (.inl (0, 7, .inl f))) hF.up (fun q q1 q2 q3 => pj_up_n (by omega))
  have M' := hM0.out (h' := pj_up h (B + 15 + 1) (.inl (0, 7, .inl f))) (fun q q1 q2 => pj_up_n (by omega))
  have M2 := M'
  obtain ⟨v', n1, ⟨w0, -⟩, -, n4, -⟩ := M2
  refine ⟨⟨_, rfl⟩, ⟨_, n1⟩, _, c_X12_looks (v := v') (τ := t.1) ⟨n1, n4, w0, uW.1, uW.2.1⟩ x1, ?_⟩
  rintro r2 h2 n2 ⟨rfl, rfl, rfl⟩
  exact ⟨rfl, s, y, lf, t, I, K, C', M', uB, uL, uc, uW, u00, uK⟩
theorem st_thief (hS : gd_SX h B n) (x1 : Int32) : gd_stp E B l Y_X11_thief Y_X12_thief 7 4 0 0 gd_rI [.int x1] h n := by
  have hS0 := hS
  obtain ⟨s, y, lf, t, I, K, hC0, hM0, hU⟩ := hS
  have hC := hC0
  have hM := hM0
  obtain ⟨po, S, fo, m0, hx, hR, hTp, hBy, hF, hK, hI, hP, hSep, hbn⟩ := hC
  obtain ⟨v, m1, ⟨v0, v1, v8, v10, v17, v23⟩, mR, m4, ⟨F5, m5⟩, mA, m7, ⟨f8, m8⟩, ⟨f9, m9⟩, mI, m12⟩ := hM
  obtain ⟨uB, uL, uc, uW, u00, uK⟩ := hU
  have hX := gd_XR_of hx hF uW hP
  have hMR : gd_MR h (B + 22) v t.1 := ⟨m1, m4, v0, uW.1, uW.2.1⟩
  refine ⟨_, c_X11_thief hX x1, ?_⟩
  rintro r h' n' ⟨rfl, rfl, f, rfl⟩
  have C' := hC0.scr (h' := pj_up h (B + 15 + 1) (.inl (0, 7, .inl f))) hF.up (fun q q1 q2 q3 => pj_up_n (by omega))
  have M' := hM0.out (h' := pj_up h (B + 15 + 1) (.inl (0, 7, .inl f))) (fun q q1 q2 => pj_up_n (by omega))
  have M2 := M'
  obtain ⟨v', n1, ⟨w0, -⟩, -, n4, -⟩ := M2
  refine ⟨⟨_, rfl⟩, ⟨_, n1⟩, _, c_X12_thief (v := v') (τ := t.1) ⟨n1, n4, w0, uW.1, uW.2.1⟩ x1, ?_⟩
  rintro r2 h2 n2 ⟨rfl, rfl, rfl⟩
  exact ⟨rfl, s, y, lf, t, I, K, C', M', uB, uL, uc, uW, u00, uK⟩
theorem st_tests (hS : gd_SX h B n) (x1 x2 x3 x4 : Int32) : gd_stp E B l Y_X11_tests Y_X12_tests 6 5 0 0 gd_rI [.int x1, .int x2, .int x3, .int x4] h n := by
  have hS0 := hS
  obtain ⟨s, y, lf, t, I, K, hC0, hM0, hU⟩ := hS
  have hC := hC0
  have hM := hM0
  obtain ⟨po, S, fo, m0, hx, hR, hTp, hBy, hF, hK, hI, hP, hSep, hbn⟩ := hC
  obtain ⟨v, m1, ⟨v0, v1, v8, v10, v17, v23⟩, mR, m4, ⟨F5, m5⟩, mA, m7, ⟨f8, m8⟩, ⟨f9, m9⟩, mI, m12⟩ := hM
  obtain ⟨uB, uL, uc, uW, u00, uK⟩ := hU
  have hX := gd_XR_of hx hF uW hP
  have hMR : gd_MR h (B + 22) v t.1 := ⟨m1, m4, v0, uW.1, uW.2.1⟩
  refine ⟨_, c_X11_tests hX x1 x2 x3 x4, ?_⟩
  rintro r h' n' ⟨rfl, rfl, f, rfl⟩
  have C' := hC0.scr (h' := pj_up h (B + 15 + 1) (.inl (0, 7, .inl f))) hF.up (fun q q1 q2 q3 => pj_up_n (by omega))
  have M' := hM0.out (h' := pj_up h (B + 15 + 1) (.inl (0, 7, .inl f))) (fun q q1 q2 => pj_up_n (by omega))
  have M2 := M'
  obtain ⟨v', n1, ⟨w0, -⟩, -, n4, -⟩ := M2
  refine ⟨⟨_, rfl⟩, ⟨_, n1⟩, _, c_X12_tests (v := v') (τ := t.1) ⟨n1, n4, w0, uW.1, uW.2.1⟩ x1 x2 x3 x4, ?_⟩
  rintro r2 h2 n2 ⟨rfl, rfl, rfl⟩
  exact ⟨rfl, s, y, lf, t, I, K, C', M', uB, uL, uc, uW, u00, uK⟩
theorem st_dyes (hS : gd_SX h B n) (x1 x2 : Int32) : gd_stp E B l Y_X11_dyes Y_X12_dyes 15 4 0 0 gd_rI [.int x1, .int x2] h n := by
  have hS0 := hS
  obtain ⟨s, y, lf, t, I, K, hC0, hM0, hU⟩ := hS
  have hC := hC0
  have hM := hM0
  obtain ⟨po, S, fo, m0, hx, hR, hTp, hBy, hF, hK, hI, hP, hSep, hbn⟩ := hC
  obtain ⟨v, m1, ⟨v0, v1, v8, v10, v17, v23⟩, mR, m4, ⟨F5, m5⟩, mA, m7, ⟨f8, m8⟩, ⟨f9, m9⟩, mI, m12⟩ := hM
  obtain ⟨uB, uL, uc, uW, u00, uK⟩ := hU
  have hX := gd_XR_of hx hF uW hP
  have hMR : gd_MR h (B + 22) v t.1 := ⟨m1, m4, v0, uW.1, uW.2.1⟩
  refine ⟨_, c_X11_dyes hX x1 x2, ?_⟩
  rintro r h' n' ⟨rfl, rfl, f, rfl⟩
  have F' : gd_F (pj_up h (B + 17) (.inl (0, 6, .inl f))) (B + 15) := by
    obtain ⟨g0, ⟨f1, g1⟩, ⟨f2, g2⟩, ⟨f3, g3⟩⟩ := hF
    exact ⟨(pj_up_n (by omega)).trans g0, ⟨f1, (pj_up_n (by omega)).trans g1⟩, ⟨f, pj_up_s⟩, ⟨f3, (pj_up_n (by omega)).trans g3⟩⟩
  have C' := hC0.scr F' (fun q q1 q2 q3 => pj_up_n (by omega))
  have M' := hM0.out (h' := pj_up h (B + 17) (.inl (0, 6, .inl f))) (fun q q1 q2 => pj_up_n (by omega))
  generalize pj_up h (B + 17) (.inl (0, 6, .inl f)) = h1 at C' M' ⊢
  obtain ⟨v', n1, nv, nR, n4, n5, nA, n7, ⟨g8, n8⟩, n9, nI', n12⟩ := M'
  refine ⟨⟨_, rfl⟩, ⟨_, n1⟩, _, c_X12_dyes (v := v') (τ := t.1) ⟨n1, n4, nv.1, uW.1, uW.2.1⟩ n8 x1 x2, ?_⟩
  rintro r2 h2 n2 ⟨rfl, rfl, f', rfl⟩
  refine ⟨rfl, s, y, lf, t, I, K, C'.out (Nat.le_refl _) (fun q q1 => pj_up_n (by omega)), ?_, uB, uL, uc, uW, u00, uK⟩
  obtain ⟨F6, n5⟩ := n5
  obtain ⟨g9, n9⟩ := n9
  exact ⟨v', (pj_up_n (by omega)).trans n1, nv, nR.out (fun q q1 q2 => pj_up_n (by omega)), (pj_up_n (by omega)).trans n4, ⟨F6, (pj_up_n (by omega)).trans n5⟩, nA.out (pj_up_n (by omega)), (pj_up_n (by omega)).trans n7, ⟨f', pj_up_s⟩, ⟨g9, (pj_up_n (by omega)).trans n9⟩, nI'.out (pj_up_n (by omega)) (pj_up_n (by omega)), (pj_up_n (by omega)).trans n12⟩
theorem st_shelf (hS : gd_SX h B n) (x1 x2 : Int32) : gd_stp E B l Y_X11_shelf Y_X12_shelf 7 5 0 0 gd_rI [.int x1, .int x2] h n := by
  have hS0 := hS
  obtain ⟨s, y, lf, t, I, K, hC0, hM0, hU⟩ := hS
  have hC := hC0
  have hM := hM0
  obtain ⟨po, S, fo, m0, hx, hR, hTp, hBy, hF, hK, hI, hP, hSep, hbn⟩ := hC
  obtain ⟨v, m1, ⟨v0, v1, v8, v10, v17, v23⟩, mR, m4, ⟨F5, m5⟩, mA, m7, ⟨f8, m8⟩, ⟨f9, m9⟩, mI, m12⟩ := hM
  obtain ⟨uB, uL, uc, uW, u00, uK⟩ := hU
  have hX := gd_XR_of hx hF uW hP
  have hMR : gd_MR h (B + 22) v t.1 := ⟨m1, m4, v0, uW.1, uW.2.1⟩
  refine ⟨_, c_X11_shelf hX x1 x2, ?_⟩
  rintro r h' n' ⟨rfl, rfl, f, fe, rfl⟩
  have F' : gd_F (pj_up (pj_up h (B + 15 + 1) (.inl (0, 7, .inl f))) (B + 15 + 3) (.inl (0, 896, .inl fe))) (B + 15) := by
    obtain ⟨g0, ⟨f1, g1⟩, ⟨f2, g2⟩, ⟨f3, g3⟩⟩ := hF
    exact ⟨by rw [pj_up_n (by omega), pj_up_n (by omega)]; exact g0, ⟨f, (pj_up_n (by omega)).trans pj_up_s⟩, ⟨f2, by rw [pj_up_n (by omega), pj_up_n (by omega)]; exact g2⟩, ⟨fe, pj_up_s⟩⟩
  have C' := hC0.scr F' (fun q q1 q2 q3 => by rw [pj_up_n (by omega), pj_up_n (by omega)])
  have M' := hM0.out (h' := pj_up (pj_up h (B + 15 + 1) (.inl (0, 7, .inl f))) (B + 15 + 3) (.inl (0, 896, .inl fe))) (fun q q1 q2 => by rw [pj_up_n (by omega), pj_up_n (by omega)])
  generalize pj_up (pj_up h (B + 15 + 1) (.inl (0, 7, .inl f))) (B + 15 + 3) (.inl (0, 896, .inl fe)) = h1 at C' M' ⊢
  obtain ⟨v', n1, nv, nR, n4, n5, nA, n7, n8, ⟨g9, n9⟩, nI', n12⟩ := M'
  refine ⟨⟨_, rfl⟩, ⟨_, n1⟩, _, c_X12_shelf (v := v') (τ := t.1) ⟨n1, n4, nv.1, uW.1, uW.2.1⟩ n9 x1 x2, ?_⟩
  rintro r2 h2 n2 ⟨rfl, rfl, f', rfl⟩
  refine ⟨rfl, s, y, lf, t, I, K, C'.out (Nat.le_refl _) (fun q q1 => pj_up_n (by omega)), ?_, uB, uL, uc, uW, u00, uK⟩
  obtain ⟨F6, n5⟩ := n5
  obtain ⟨g8, n8⟩ := n8
  exact ⟨v', (pj_up_n (by omega)).trans n1, nv, nR.out (fun q q1 q2 => pj_up_n (by omega)), (pj_up_n (by omega)).trans n4, ⟨F6, (pj_up_n (by omega)).trans n5⟩, nA.out (pj_up_n (by omega)), (pj_up_n (by omega)).trans n7, ⟨g8, (pj_up_n (by omega)).trans n8⟩, ⟨f', pj_up_s⟩, nI'.out (pj_up_n (by omega)) (pj_up_n (by omega)), (pj_up_n (by omega)).trans n12⟩
theorem st_row (hS : gd_SX h B n) (x1 x2 x3 : Int32) : gd_stp E B l Y_X11_row Y_X12_row 3 3 0 0 gd_rI [.int x1, .int x2, .int x3] h n := by
  have hS0 := hS
  obtain ⟨s, y, lf, t, I, K, hC0, hM0, hU⟩ := hS
  have hC := hC0
  have hM := hM0
  obtain ⟨po, S, fo, m0, hx, hR, hTp, hBy, hF, hK, hI, hP, hSep, hbn⟩ := hC
  obtain ⟨v, m1, ⟨v0, v1, v8, v10, v17, v23⟩, mR, m4, ⟨F5, m5⟩, mA, m7, ⟨f8, m8⟩, ⟨f9, m9⟩, mI, m12⟩ := hM
  obtain ⟨uB, uL, uc, uW, u00, uK⟩ := hU
  have hX := gd_XR_of hx hF uW hP
  have hMR : gd_MR h (B + 22) v t.1 := ⟨m1, m4, v0, uW.1, uW.2.1⟩
  refine ⟨_, c_X11_row (s := s) hx hR x1 x2 x3, ?_⟩
  rintro r h' n' ⟨rfl, rfl, y1, y2, y3⟩
  have M' := hM0.out (h' := h') (fun q q1 q2 => y3 q (by omega))
  obtain ⟨v', n1, ⟨w0, w1, w8, w10, w17, w23⟩, nR, n4, ⟨F6, n5⟩, nA, n7, ⟨g8, n8⟩, ⟨g9, n9⟩, nI', n12⟩ := M'
  have C' : gd_CI h' B n' (sp_row x1 x2 x3 s).2 y lf t I K := ⟨po, S, fo, m0, y1, y2, by rw [y3 _ (by omega)]; exact hTp, by rw [y3 _ (by omega)]; exact hBy, hF.out (fun q q1 q2 => y3 q (by omega)), hK.out (fun q q1 q2 => y3 q (by omega)), hI.out (Nat.le_refl _) (y3 _ (by omega)) (fun i k κ q hi e1 e2 q1 q2 => by have := hI.lo hi e1 e2; exact y3 q (by omega)), hP.out (Nat.le_refl _) (fun k q e q1 q2 => by have := hP.lo k e; exact y3 q (by omega)), hSep, hbn⟩
  refine ⟨⟨_, rfl⟩, ⟨_, n1⟩, _, c_X12_row (s := s) n1 w0 w1 nR x1 x2 x3, ?_⟩
  rintro r2 h2 n2 ⟨rfl, rfl, z1, z2, z3⟩
  refine ⟨rfl, (sp_row x1 x2 x3 s).2, y, lf, t, I, K, C'.out (Nat.le_refl _) (fun q q1 => z3 q (by omega)), ?_, gd_RB_row uB, uL, uc, uW, u00, uK⟩
  exact ⟨upd v' 1 (sp_row x1 x2 x3 s).2.1, z1, ⟨w0, gd_upd_s, w8, w10, w17, w23⟩, z2, by rw [z3 _ (by omega)]; exact n4, ⟨F6, by rw [z3 _ (by omega)]; exact n5⟩, nA.out (z3 _ (by omega)), by rw [z3 _ (by omega)]; exact n7, ⟨g8, by rw [z3 _ (by omega)]; exact n8⟩, ⟨g9, by rw [z3 _ (by omega)]; exact n9⟩, nI'.out (z3 _ (by omega)) (z3 _ (by omega)), by rw [z3 _ (by omega)]; exact n12⟩
theorem st_set (hS : gd_SX h B n) (x1 x2 x3 : Int32) : gd_stp E B l Y_X11_set Y_X12_set 5 3 0 0 gd_rI [.int x1, .int x2, .int x3] h n := by
  have hS0 := hS
  obtain ⟨s, y, lf, t, I, K, hC0, hM0, hU⟩ := hS
  have hC := hC0
  have hM := hM0
  obtain ⟨po, S, fo, m0, hx, hR, hTp, hBy, hF, hK, hI, hP, hSep, hbn⟩ := hC
  obtain ⟨v, m1, ⟨v0, v1, v8, v10, v17, v23⟩, mR, m4, ⟨F5, m5⟩, mA, m7, ⟨f8, m8⟩, ⟨f9, m9⟩, mI, m12⟩ := hM
  obtain ⟨uB, uL, uc, uW, u00, uK⟩ := hU
  have hX := gd_XR_of hx hF uW hP
  have hMR : gd_MR h (B + 22) v t.1 := ⟨m1, m4, v0, uW.1, uW.2.1⟩
  refine ⟨_, c_X11_set (s := s) hx hR uB x1 x2 x3, ?_⟩
  rintro r h' n' ⟨rfl, rfl, y1, y2, y3⟩
  have M' := hM0.out (h' := h') (fun q q1 q2 => y3 q (by omega))
  obtain ⟨v', n1, ⟨w0, w1, w8, w10, w17, w23⟩, nR, n4, ⟨F6, n5⟩, nA, n7, ⟨g8, n8⟩, ⟨g9, n9⟩, nI', n12⟩ := M'
  have C' : gd_CI h' B n' (sp_set x1 x2 x3 s).2 y lf t I K := ⟨po, S, fo, m0, y1, y2, by rw [y3 _ (by omega)]; exact hTp, by rw [y3 _ (by omega)]; exact hBy, hF.out (fun q q1 q2 => y3 q (by omega)), hK.out (fun q q1 q2 => y3 q (by omega)), hI.out (Nat.le_refl _) (y3 _ (by omega)) (fun i k κ q hi e1 e2 q1 q2 => by have := hI.lo hi e1 e2; exact y3 q (by omega)), hP.out (Nat.le_refl _) (fun k q e q1 q2 => by have := hP.lo k e; exact y3 q (by omega)), hSep, hbn⟩
  refine ⟨⟨_, rfl⟩, ⟨_, n1⟩, _, c_X12_set (s := s) n1 w0 w1 nR uB x1 x2 x3, ?_⟩
  rintro r2 h2 n2 ⟨rfl, rfl, z1, z2, z3⟩
  refine ⟨rfl, (sp_set x1 x2 x3 s).2, y, lf, t, I, K, C'.out (Nat.le_refl _) (fun q q1 => z3 q (by omega)), ?_, gd_RB_set uB, uL, uc, uW, u00, uK⟩
  exact ⟨upd v' 1 (sp_set x1 x2 x3 s).2.1, z1, ⟨w0, gd_upd_s, w8, w10, w17, w23⟩, z2, by rw [z3 _ (by omega)]; exact n4, ⟨F6, by rw [z3 _ (by omega)]; exact n5⟩, nA.out (z3 _ (by omega)), by rw [z3 _ (by omega)]; exact n7, ⟨g8, by rw [z3 _ (by omega)]; exact n8⟩, ⟨g9, by rw [z3 _ (by omega)]; exact n9⟩, nI'.out (z3 _ (by omega)) (z3 _ (by omega)), by rw [z3 _ (by omega)]; exact n12⟩
theorem st_copy (hS : gd_SX h B n) (x1 x2 x3 x4 x5 : Int32) : gd_stp E B l Y_X11_copy Y_X12_copy 5 3 0 0 gd_rI [.int x1, .int x2, .int x3, .int x4, .int x5] h n := by
  have hS0 := hS
  obtain ⟨s, y, lf, t, I, K, hC0, hM0, hU⟩ := hS
  have hC := hC0
  have hM := hM0
  obtain ⟨po, S, fo, m0, hx, hR, hTp, hBy, hF, hK, hI, hP, hSep, hbn⟩ := hC
  obtain ⟨v, m1, ⟨v0, v1, v8, v10, v17, v23⟩, mR, m4, ⟨F5, m5⟩, mA, m7, ⟨f8, m8⟩, ⟨f9, m9⟩, mI, m12⟩ := hM
  obtain ⟨uB, uL, uc, uW, u00, uK⟩ := hU
  have hX := gd_XR_of hx hF uW hP
  have hMR : gd_MR h (B + 22) v t.1 := ⟨m1, m4, v0, uW.1, uW.2.1⟩
  refine ⟨_, c_X11_copy (s := s) hx hR uB x1 x2 x3 x4 x5, ?_⟩
  rintro r h' n' ⟨rfl, rfl, y1, y2, y3⟩
  have M' := hM0.out (h' := h') (fun q q1 q2 => y3 q (by omega))
  obtain ⟨v', n1, ⟨w0, w1, w8, w10, w17, w23⟩, nR, n4, ⟨F6, n5⟩, nA, n7, ⟨g8, n8⟩, ⟨g9, n9⟩, nI', n12⟩ := M'
  have C' : gd_CI h' B n' (sp_copy x1 x2 x3 x4 x5 s).2 y lf t I K := ⟨po, S, fo, m0, y1, y2, by rw [y3 _ (by omega)]; exact hTp, by rw [y3 _ (by omega)]; exact hBy, hF.out (fun q q1 q2 => y3 q (by omega)), hK.out (fun q q1 q2 => y3 q (by omega)), hI.out (Nat.le_refl _) (y3 _ (by omega)) (fun i k κ q hi e1 e2 q1 q2 => by have := hI.lo hi e1 e2; exact y3 q (by omega)), hP.out (Nat.le_refl _) (fun k q e q1 q2 => by have := hP.lo k e; exact y3 q (by omega)), hSep, hbn⟩
  refine ⟨⟨_, rfl⟩, ⟨_, n1⟩, _, c_X12_copy (s := s) n1 w0 w1 nR uB x1 x2 x3 x4 x5, ?_⟩
  rintro r2 h2 n2 ⟨rfl, rfl, z1, z2, z3⟩
  refine ⟨rfl, (sp_copy x1 x2 x3 x4 x5 s).2, y, lf, t, I, K, C'.out (Nat.le_refl _) (fun q q1 => z3 q (by omega)), ?_, gd_RB_copy uB, uL, uc, uW, u00, uK⟩
  exact ⟨upd v' 1 (sp_copy x1 x2 x3 x4 x5 s).2.1, z1, ⟨w0, gd_upd_s, w8, w10, w17, w23⟩, z2, by rw [z3 _ (by omega)]; exact n4, ⟨F6, by rw [z3 _ (by omega)]; exact n5⟩, nA.out (z3 _ (by omega)), by rw [z3 _ (by omega)]; exact n7, ⟨g8, by rw [z3 _ (by omega)]; exact n8⟩, ⟨g9, by rw [z3 _ (by omega)]; exact n9⟩, nI'.out (z3 _ (by omega)) (z3 _ (by omega)), by rw [z3 _ (by omega)]; exact n12⟩
theorem st_drop (hS : gd_SX h B n) (x1 : Int32) : gd_stp E B l Y_X11_drop Y_X12_drop 4 3 0 0 gd_rI [.int x1] h n := by
  have hS0 := hS
  obtain ⟨s, y, lf, t, I, K, hC0, hM0, hU⟩ := hS
  have hC := hC0
  have hM := hM0
  obtain ⟨po, S, fo, m0, hx, hR, hTp, hBy, hF, hK, hI, hP, hSep, hbn⟩ := hC
  obtain ⟨v, m1, ⟨v0, v1, v8, v10, v17, v23⟩, mR, m4, ⟨F5, m5⟩, mA, m7, ⟨f8, m8⟩, ⟨f9, m9⟩, mI, m12⟩ := hM
  obtain ⟨uB, uL, uc, uW, u00, uK⟩ := hU
  have hX := gd_XR_of hx hF uW hP
  have hMR : gd_MR h (B + 22) v t.1 := ⟨m1, m4, v0, uW.1, uW.2.1⟩
  refine ⟨_, c_X11_drop (s := s) hx hR x1, ?_⟩
  rintro r h' n' ⟨rfl, rfl, y1, y2, y3⟩
  have M' := hM0.out (h' := h') (fun q q1 q2 => y3 q (by omega))
  obtain ⟨v', n1, ⟨w0, w1, w8, w10, w17, w23⟩, nR, n4, ⟨F6, n5⟩, nA, n7, ⟨g8, n8⟩, ⟨g9, n9⟩, nI', n12⟩ := M'
  have C' : gd_CI h' B n' (sp_drop x1 s).2 y lf t I K := ⟨po, S, fo, m0, y1, y2, by rw [y3 _ (by omega)]; exact hTp, by rw [y3 _ (by omega)]; exact hBy, hF.out (fun q q1 q2 => y3 q (by omega)), hK.out (fun q q1 q2 => y3 q (by omega)), hI.out (Nat.le_refl _) (y3 _ (by omega)) (fun i k κ q hi e1 e2 q1 q2 => by have := hI.lo hi e1 e2; exact y3 q (by omega)), hP.out (Nat.le_refl _) (fun k q e q1 q2 => by have := hP.lo k e; exact y3 q (by omega)), hSep, hbn⟩
  refine ⟨⟨_, rfl⟩, ⟨_, n1⟩, _, c_X12_drop (s := s) n1 w0 w1 nR uB x1, ?_⟩
  rintro r2 h2 n2 ⟨rfl, rfl, z1, z2, z3⟩
  refine ⟨rfl, (sp_drop x1 s).2, y, lf, t, I, K, C'.out (Nat.le_refl _) (fun q q1 => z3 q (by omega)), ?_, gd_RB_drop uB, uL, uc, uW, u00, uK⟩
  exact ⟨upd v' 1 (sp_drop x1 s).2.1, z1, ⟨w0, gd_upd_s, w8, w10, w17, w23⟩, z2, by rw [z3 _ (by omega)]; exact n4, ⟨F6, by rw [z3 _ (by omega)]; exact n5⟩, nA.out (z3 _ (by omega)), by rw [z3 _ (by omega)]; exact n7, ⟨g8, by rw [z3 _ (by omega)]; exact n8⟩, ⟨g9, by rw [z3 _ (by omega)]; exact n9⟩, nI'.out (z3 _ (by omega)) (z3 _ (by omega)), by rw [z3 _ (by omega)]; exact n12⟩
theorem st_seen (hS : gd_SX h B n) (x1 x2 : Int32) : gd_stp E B l Y_X11_seen Y_X12_seen 6 3 0 0 gd_rI [.int x1, .int x2] h n := by
  have hS0 := hS
  obtain ⟨s, y, lf, t, I, K, hC0, hM0, hU⟩ := hS
  have hC := hC0
  have hM := hM0
  obtain ⟨po, S, fo, m0, hx, hR, hTp, hBy, hF, hK, hI, hP, hSep, hbn⟩ := hC
  obtain ⟨v, m1, ⟨v0, v1, v8, v10, v17, v23⟩, mR, m4, ⟨F5, m5⟩, mA, m7, ⟨f8, m8⟩, ⟨f9, m9⟩, mI, m12⟩ := hM
  obtain ⟨uB, uL, uc, uW, u00, uK⟩ := hU
  have hX := gd_XR_of hx hF uW hP
  have hMR : gd_MR h (B + 22) v t.1 := ⟨m1, m4, v0, uW.1, uW.2.1⟩
  refine ⟨_, c_X11_seen (s := s) hX hR uB x1 x2, ?_⟩
  rintro r h' n' ⟨rfl, rfl, y1, y2, y3⟩
  have M' := hM0.out (h' := h') (fun q q1 q2 => y3 q (by omega) (by omega))
  obtain ⟨v', n1, ⟨w0, w1, w8, w10, w17, w23⟩, nR, n4, ⟨F6, n5⟩, nA, n7, ⟨g8, n8⟩, ⟨g9, n9⟩, nI', n12⟩ := M'
  have C' : gd_CI h' B n' ((sp_seen x1 x2 t.1 s).2, s.2) y lf t I K := ⟨po, S, fo, m0, y1, hR.out (fun q q1 q2 => y3 q (by omega) (by omega)), by rw [y3 _ (by omega) (by omega)]; exact hTp, by rw [y3 _ (by omega) (by omega)]; exact hBy, y2, hK.out (fun q q1 q2 => y3 q (by omega) (by omega)), hI.out (Nat.le_refl _) (y3 _ (by omega) (by omega)) (fun i k κ q hi e1 e2 q1 q2 => by have := hI.lo hi e1 e2; exact y3 q (by omega) (by omega)), hP.out (Nat.le_refl _) (fun k q e q1 q2 => by have := hP.lo k e; exact y3 q (by omega) (by omega)), hSep, hbn⟩
  refine ⟨⟨_, rfl⟩, ⟨_, n1⟩, _, c_X12_seen (s := s) (τ := t.1) ⟨n1, n4, w0, uW.1, uW.2.1⟩ w1 nR uB x1 x2, ?_⟩
  rintro r2 h2 n2 ⟨rfl, rfl, rfl⟩
  refine ⟨rfl, ((sp_seen x1 x2 t.1 s).2, s.2), y, lf, t, I, K, C'.out (Nat.le_refl _) (fun q q1 => pj_up_n (by omega)), ?_, uB, uL, uc, uW, u00, uK⟩
  exact ⟨_, pj_up_s, ⟨w0, gd_upd_s, w8, w10, w17, w23⟩, nR.out (fun q q1 q2 => pj_up_n (by omega)), (pj_up_n (by omega)).trans n4, ⟨F6, (pj_up_n (by omega)).trans n5⟩, nA.out (pj_up_n (by omega)), (pj_up_n (by omega)).trans n7, ⟨g8, (pj_up_n (by omega)).trans n8⟩, ⟨g9, (pj_up_n (by omega)).trans n9⟩, nI'.out (pj_up_n (by omega)) (pj_up_n (by omega)), (pj_up_n (by omega)).trans n12⟩
theorem st_as (hS : gd_SX h B n) (x1 x2 : Int32) : gd_stp E B l Y_X11_as Y_X12_as 3 3 0 0 gd_rI [.int x1, .int x2] h n := by
  have hS0 := hS
  obtain ⟨s, y, lf, t, I, K, hC0, hM0, hU⟩ := hS
  have hC := hC0
  have hM := hM0
  obtain ⟨po, S, fo, m0, hx, hR, hTp, hBy, hF, hK, hI, hP, hSep, hbn⟩ := hC
  obtain ⟨v, m1, ⟨v0, v1, v8, v10, v17, v23⟩, mR, m4, ⟨F5, m5⟩, mA, m7, ⟨f8, m8⟩, ⟨f9, m9⟩, mI, m12⟩ := hM
  obtain ⟨uB, uL, uc, uW, u00, uK⟩ := hU
  have hX := gd_XR_of hx hF uW hP
  have hMR : gd_MR h (B + 22) v t.1 := ⟨m1, m4, v0, uW.1, uW.2.1⟩
  refine ⟨_, c_X11_as hX x1 x2, ?_⟩
  rintro r h' n' ⟨rfl, rfl, eh⟩
  have y1 : h' B = some (.inr (10, gd_XO B po lf (sp_as x1 x2 t.1 s.1).2)) := by rw [eh, pj_up_s]
  have y3 : ∀ q, q ≠ B → h' q = h q := fun q hq => by rw [eh, pj_up_n hq]
  have M' := hM0.out (h' := h') (fun q q1 q2 => y3 q (by omega))
  obtain ⟨v', n1, ⟨w0, w1, w8, w10, w17, w23⟩, nR, n4, ⟨F6, n5⟩, nA, n7, ⟨g8, n8⟩, ⟨g9, n9⟩, nI', n12⟩ := M'
  have C' : gd_CI h' B n' ((sp_as x1 x2 t.1 s.1).2, s.2) y lf t I K := ⟨po, S, fo, m0, y1, hR.out (fun q q1 q2 => y3 q (by omega)), by rw [y3 _ (by omega)]; exact hTp, by rw [y3 _ (by omega)]; exact hBy, hF.out (fun q q1 q2 => y3 q (by omega)), hK.out (fun q q1 q2 => y3 q (by omega)), hI.out (Nat.le_refl _) (y3 _ (by omega)) (fun i k κ q hi e1 e2 q1 q2 => by have := hI.lo hi e1 e2; exact y3 q (by omega)), hP.out (Nat.le_refl _) (fun k q e q1 q2 => by have := hP.lo k e; exact y3 q (by omega)), hSep, hbn⟩
  refine ⟨⟨_, rfl⟩, ⟨_, n1⟩, _, c_X12_as (st := s.1) (τ := t.1) ⟨n1, n4, w0, uW.1, uW.2.1⟩ w1 x1 x2, ?_⟩
  rintro r2 h2 n2 ⟨rfl, rfl, rfl⟩
  refine ⟨rfl, ((sp_as x1 x2 t.1 s.1).2, s.2), y, lf, t, I, K, C'.out (Nat.le_refl _) (fun q q1 => pj_up_n (by omega)), ?_, uB, uL, uc, uW, u00, uK⟩
  exact ⟨_, pj_up_s, ⟨w0, gd_upd_s, w8, w10, w17, w23⟩, nR.out (fun q q1 q2 => pj_up_n (by omega)), (pj_up_n (by omega)).trans n4, ⟨F6, (pj_up_n (by omega)).trans n5⟩, nA.out (pj_up_n (by omega)), (pj_up_n (by omega)).trans n7, ⟨g8, (pj_up_n (by omega)).trans n8⟩, ⟨g9, (pj_up_n (by omega)).trans n9⟩, nI'.out (pj_up_n (by omega)) (pj_up_n (by omega)), (pj_up_n (by omega)).trans n12⟩
theorem st_ask (hS : gd_SX h B n) (x1 x2 : Int32) : gd_stp E B l Y_X11_ask Y_X12_ask 8 6 0 0 gd_rI [.int x1, .int x2] h n := by
  have hS0 := hS
  obtain ⟨s, y, lf, t, I, K, hC0, hM0, hU⟩ := hS
  have hC := hC0
  have hM := hM0
  obtain ⟨po, S, fo, m0, hx, hR, hTp, hBy, hF, hK, hI, hP, hSep, hbn⟩ := hC
  obtain ⟨v, m1, ⟨v0, v1, v8, v10, v17, v23⟩, mR, m4, ⟨F5, m5⟩, mA, m7, ⟨f8, m8⟩, ⟨f9, m9⟩, mI, m12⟩ := hM
  obtain ⟨uB, uL, uc, uW, u00, uK⟩ := hU
  have hX := gd_XR_of hx hF uW hP
  have hMR : gd_MR h (B + 22) v t.1 := ⟨m1, m4, v0, uW.1, uW.2.1⟩
  refine ⟨_, c_X11_ask hX hK x1 x2, ?_⟩
  rintro r h' n' ⟨rfl, rfl, m2, eh⟩
  have y1 : gd_KX h' (B + 19) (sp_ask x1 x2 t.1 K).2 m2 := by
    rw [eh]
    exact ⟨pj_up_s, (pj_up_n (by omega)).trans pj_up_s⟩
  have y3 : ∀ q, q ≠ B + 19 → q ≠ B + 20 → h' q = h q := fun q q1 q2 => by rw [eh, gd_kx, pj_up_n q1, pj_up_n (by omega)]
  have M' := hM0.out (h' := h') (fun q q1 q2 => y3 q (by omega) (by omega))
  obtain ⟨v', n1, ⟨w0, w1, w8, w10, w17, w23⟩, nR, n4, ⟨F6, n5⟩, nA, n7, ⟨g8, n8⟩, ⟨g9, n9⟩, nI', n12⟩ := M'
  have C' : gd_CI h' B n' s y lf t I (sp_ask x1 x2 t.1 K).2 := ⟨po, S, fo, m2, by rw [y3 _ (by omega) (by omega)]; exact hx, hR.out (fun q q1 q2 => y3 q (by omega) (by omega)), by rw [y3 _ (by omega) (by omega)]; exact hTp, by rw [y3 _ (by omega) (by omega)]; exact hBy, hF.out (fun q q1 q2 => y3 q (by omega) (by omega)), y1, hI.out (Nat.le_refl _) (y3 _ (by omega) (by omega)) (fun i k κ q hi e1 e2 q1 q2 => by have := hI.lo hi e1 e2; exact y3 q (by omega) (by omega)), hP.out (Nat.le_refl _) (fun k q e q1 q2 => by have := hP.lo k e; exact y3 q (by omega) (by omega)), hSep, hbn⟩
  refine ⟨⟨_, rfl⟩, ⟨_, n1⟩, _, c_X12_ask (K := K) (τ := t.1) ⟨n1, n4, w0, uW.1, uW.2.1⟩ w23 n12 x1 x2, ?_⟩
  rintro r2 h2 n2 ⟨rfl, rfl, eh2⟩
  have z1 : h2 (B + 22) = some (.inr (11, gd_Mo (B + 22) (upd v' 23 (nI (sp_ask x1 x2 t.1 K).2.2)))) := by rw [eh2, gd_km, pj_up_s]
  have z2 : h2 (B + 22 + 12) = some (.inl (0, 16, .inl (sp_ask x1 x2 t.1 K).2.1)) := by rw [eh2, gd_km, pj_up_n (by omega), pj_up_s]
  have z3 : ∀ q, q ≠ B + 22 → q ≠ B + 22 + 12 → h2 q = h' q := fun q q1 q2 => by rw [eh2, gd_km, pj_up_n q1, pj_up_n q2]
  refine ⟨rfl, s, y, lf, t, I, (sp_ask x1 x2 t.1 K).2, C'.out (Nat.le_refl _) (fun q q1 => z3 q (by omega) (by omega)), ?_, uB, uL, uc, uW, u00, sp_ask_le uK⟩
  exact ⟨_, z1, ⟨w0, w1, w8, w10, w17, gd_upd_s⟩, nR.out (fun q q1 q2 => z3 q (by omega) (by omega)), by rw [z3 _ (by omega) (by omega)]; exact n4, ⟨F6, by rw [z3 _ (by omega) (by omega)]; exact n5⟩, nA.out (z3 _ (by omega) (by omega)), by rw [z3 _ (by omega) (by omega)]; exact n7, ⟨g8, by rw [z3 _ (by omega) (by omega)]; exact n8⟩, ⟨g9, by rw [z3 _ (by omega) (by omega)]; exact n9⟩, nI'.out (z3 _ (by omega) (by omega)) (z3 _ (by omega) (by omega)), z2⟩
theorem st_feed (hS : gd_SX h B n) (x1 : Int32) : gd_stp E B l Y_X11_feed Y_X12_feed 2 2 0 0 gd_rI [.int x1] h n := by
  have hS0 := hS
  obtain ⟨s, y, lf, t, I, K, hC0, hM0, hU⟩ := hS
  have hC := hC0
  have hM := hM0
  obtain ⟨po, S, fo, m0, hx, hR, hTp, hBy, hF, hK, hI, hP, hSep, hbn⟩ := hC
  obtain ⟨v, m1, ⟨v0, v1, v8, v10, v17, v23⟩, mR, m4, ⟨F5, m5⟩, mA, m7, ⟨f8, m8⟩, ⟨f9, m9⟩, mI, m12⟩ := hM
  obtain ⟨uB, uL, uc, uW, u00, uK⟩ := hU
  have hX := gd_XR_of hx hF uW hP
  have hMR : gd_MR h (B + 22) v t.1 := ⟨m1, m4, v0, uW.1, uW.2.1⟩
  refine ⟨_, c_X11_feed (c := y.1) (L := y.2) (S := S) hx hTp hBy uL x1, ?_⟩
  rintro r h' n' ⟨rfl, rfl, y1, y2, y3⟩
  have M' := hM0.out (h' := h') (fun q q1 q2 => y3 q (by omega) (by omega))
  obtain ⟨v', n1, ⟨w0, w1, w8, w10, w17, w23⟩, nR, n4, ⟨F6, n5⟩, nA, n7, ⟨g8, n8⟩, ⟨g9, n9⟩, nI', n12⟩ := M'
  have C' : gd_CI h' B n' s (sp_feed x1 (y.1, y.2)).2 lf t I K := ⟨po, S, fo, m0, by rw [y3 _ (by omega) (by omega)]; exact hx, hR.out (fun q q1 q2 => y3 q (by omega) (by omega)), y1, y2, hF.out (fun q q1 q2 => y3 q (by omega) (by omega)), hK.out (fun q q1 q2 => y3 q (by omega) (by omega)), hI.out (Nat.le_refl _) (y3 _ (by omega) (by omega)) (fun i k κ q hi e1 e2 q1 q2 => by have := hI.lo hi e1 e2; exact y3 q (by omega) (by omega)), hP.out (Nat.le_refl _) (fun k q e q1 q2 => by have := hP.lo k e; exact y3 q (by omega) (by omega)), hSep, hbn⟩
  refine ⟨⟨_, rfl⟩, ⟨_, n1⟩, _, c_X12_feed (c := y.1) (L := y.2) n1 w0 n7 uL w10 x1, ?_⟩
  rintro r2 h2 n2 ⟨rfl, rfl, z1, z2, z3⟩
  refine ⟨rfl, s, (sp_feed x1 (y.1, y.2)).2, lf, t, I, K, C'.out (Nat.le_refl _) (fun q q1 => z3 q (by omega) (by omega)), ?_, gd_PU_feed ⟨uB, uL, uc, uW, u00, uK⟩⟩
  exact ⟨_, z1, ⟨w0, w1, w8, gd_upd_s, w17, w23⟩, nR.out (fun q q1 q2 => z3 q (by omega) (by omega)), by rw [z3 _ (by omega) (by omega)]; exact n4, ⟨F6, by rw [z3 _ (by omega) (by omega)]; exact n5⟩, nA.out (z3 _ (by omega) (by omega)), z2, ⟨g8, by rw [z3 _ (by omega) (by omega)]; exact n8⟩, ⟨g9, by rw [z3 _ (by omega) (by omega)]; exact n9⟩, nI'.out (z3 _ (by omega) (by omega)) (z3 _ (by omega) (by omega)), by rw [z3 _ (by omega) (by omega)]; exact n12⟩
theorem st_town (hS : gd_SX h B n) : gd_stp E B l Y_X11_town Y_X12_town 8 6 16 143 gd_rI [] h n := by
  have hS0 := hS
  obtain ⟨s, y, lf, t, I, K, hC0, hM0, hU⟩ := hS
  have hC := hC0
  have hM := hM0
  obtain ⟨po, S, fo, m0, hx, hR, hTp, hBy, hF, hK, hI, hP, hSep, hbn⟩ := hC
  obtain ⟨v, m1, ⟨v0, v1, v8, v10, v17, v23⟩, mR, m4, ⟨F5, m5⟩, mA, m7, ⟨f8, m8⟩, ⟨f9, m9⟩, mI, m12⟩ := hM
  obtain ⟨uB, uL, uc, uW, u00, uK⟩ := hU
  have hX := gd_XR_of hx hF uW hP
  have hMR : gd_MR h (B + 22) v t.1 := ⟨m1, m4, v0, uW.1, uW.2.1⟩
  obtain ⟨P, hPP⟩ : ∃ P, gd_parse y.1 y.2 = P := ⟨_, rfl⟩
  have pw := gd_parse_W y.1 y.2
  rw [hPP] at pw
  refine ⟨_, c_X11_town (S := S) hPP hx hTp hBy uL uc hbn (by omega), ?_⟩
  rintro r h' n' ⟨en, y1, y2, y4⟩
  have M' := hM0.out (h' := h') (fun q q1 q2 => y2 q (by omega) (by omega) (by omega))
  obtain ⟨v', n1, ⟨w0, w1, w8, w10, w17, w23⟩, nR, n4, ⟨F6, n5⟩, nA, n7, ⟨g8, n8⟩, ⟨g9, n9⟩, nI', n12⟩ := M'
  refine ⟨(by rcases y4 with ⟨-, e, -⟩ | ⟨-, e, -⟩ <;> exact ⟨_, e⟩), ⟨_, n1⟩, _, c_X12_town (τ := t.1) n1 w0 n4 n5 n7 uL uc w10 hPP, ?_⟩
  clear hPP
  rintro r2 h2 n2 ⟨rfl, v2, F7, z1, z2, z3, z4, z5, z6⟩
  have hI2 : gd_IX h' B n2 fo I := hI.out (by omega) (y2 _ (by omega) (by omega) (by omega)) (fun i k κ q hi e1 e2 q1 q2 => by have := hI.lo hi e1 e2; exact y2 q (by omega) (by omega) (by omega))
  have R2 : gd_RX h' B s.2.1 s.2.2.1 s.2.2.2 := hR.out (fun q q1 q2 => y2 q (by omega) (by omega) (by omega))
  have By2 : h' (B + 14) = some (.inl (0, 120, .inl (fun j => nI (y.1 j)))) := by rw [y2 _ (by omega) (by omega) (by omega)]; exact hBy
  have F2 : gd_F h' (B + 15) := hF.out (fun q q1 q2 => y2 q (by omega) (by omega) (by omega))
  have K2 : gd_KX h' (B + 19) K m0 := hK.out (fun q q1 q2 => y2 q (by omega) (by omega) (by omega))
  have MR2 : gd_RM h2 (B + 22) s.2.1 s.2.2.1 s.2.2.2 := nR.out (fun q q1 q2 => z5 q (by omega) (by omega) (by omega))
  rcases z6 with ⟨e1, rfl, a8, a17, a4⟩ | ⟨e1, rfl, a8, a17, a4⟩
  · rcases y4 with ⟨-, rfl, b1, b2, b3⟩ | ⟨q, -⟩
    rotate_left
    · exact absurd e1 q
    have ec : ∀ i, i < 56 → (fun j => if j < 56 then P.2 j else t.1 j) i = P.2 i := fun i hi => if_pos hi
    have C' : gd_CI h' B n2 s (y.1, 0) lf ((fun j => if j < 56 then P.2 j else t.1 j), t.2.1, 0) I K := ⟨some n, P.1, fo, m0, b1, R2, y1, By2, F2, K2, hI2, ⟨hbn, by show (if 0 < 56 then P.2 0 else t.1 0) = 1; rw [if_pos (by omega)]; exact pw.2.2.1, gd_T_cong b2 pw.2.1.1 pw.2.1.2.1 ec, gd_AX0 b3, by show n + 9 + (if 1 < 56 then P.2 1 else t.1 1) ≤ n2; rw [if_pos (by omega)]; omega⟩, fun i k κ k' hi q1 q2 q3 => by cases q1; exact Or.inl (hI.lo hi q2 q3).2, by omega⟩
    refine ⟨rfl, s, (y.1, 0), lf, ((fun j => if j < 56 then P.2 j else t.1 j), t.2.1, 0), I, K, C'.out (Nat.le_refl _) (fun q q1 => z5 q (by omega) (by omega) (by omega)), ?_, uB, Nat.zero_le _, uc, ⟨gd_W_cong pw.2.1 ec, by show (if 0 < 56 then P.2 0 else t.1 0) ≤ 1; rw [if_pos (by omega), pw.2.2.1]; omega, Nat.zero_le _, Or.inr rfl, fun j hj => absurd hj (Nat.not_lt_zero j)⟩, fun q => ?_, uK⟩
    · obtain ⟨fA, A1, A2⟩ := nA
      exact ⟨v2, z1, ⟨by rw [z3 0 (by omega)]; exact w0, by rw [z3 1 (by omega)]; exact w1, a8, z4, by rw [a17]; exact w17, by rw [z3 23 (by omega)]; exact w23⟩, MR2, a4, ⟨F7, z2⟩, ⟨fA, by rw [z5 _ (by omega) (by omega) (by omega)]; exact A1, fun j k hj => absurd hj (Nat.not_lt_zero j)⟩, by rw [z5 _ (by omega) (by omega) (by omega)]; exact n7, ⟨g8, by rw [z5 _ (by omega) (by omega) (by omega)]; exact n8⟩, ⟨g9, by rw [z5 _ (by omega) (by omega) (by omega)]; exact n9⟩, nI'.out (z5 _ (by omega) (by omega) (by omega)) (z5 _ (by omega) (by omega) (by omega)), by rw [z5 _ (by omega) (by omega) (by omega)]; exact n12⟩
    · have q' : (if 0 < 56 then P.2 0 else t.1 0) = 0 := q
      rw [if_pos (by omega), pw.2.2.1] at q'
      omega
  · rcases y4 with ⟨q, -⟩ | ⟨-, rfl, b1⟩
    · exact absurd q e1
    have C' : gd_CI h' B n2 s (y.1, 0) (nI P.1.2.1) t I K := ⟨po, P.1, fo, m0, b1, R2, y1, By2, F2, K2, hI2, hP.out (by omega) (fun k q e q1 q2 => by have := hP.lo k e; exact y2 q (by omega) (by omega) (by omega)), hSep, by omega⟩
    refine ⟨rfl, s, (y.1, 0), nI P.1.2.1, t, I, K, C'.out (Nat.le_refl _) (fun q q1 => z5 q (by omega) (by omega) (by omega)), ?_, uB, Nat.zero_le _, uc, uW, u00, uK⟩
    exact ⟨v2, z1, ⟨by rw [z3 0 (by omega)]; exact w0, by rw [z3 1 (by omega)]; exact w1, by rw [a8]; exact w8, z4, a17, by rw [z3 23 (by omega)]; exact w23⟩, MR2, by rw [a4]; exact n4, ⟨F7, z2⟩, nA.out (z5 _ (by omega) (by omega) (by omega)), by rw [z5 _ (by omega) (by omega) (by omega)]; exact n7, ⟨g8, by rw [z5 _ (by omega) (by omega) (by omega)]; exact n8⟩, ⟨g9, by rw [z5 _ (by omega) (by omega) (by omega)]; exact n9⟩, nI'.out (z5 _ (by omega) (by omega) (by omega)) (z5 _ (by omega) (by omega) (by omega)), by rw [z5 _ (by omega) (by omega) (by omega)]; exact n12⟩
theorem st_undo (hS : gd_SX h B n) : gd_stp E B l Y_X11_undo Y_X12_undo 3 1 0 0 gd_rI [] h n := by
  have hS0 := hS
  obtain ⟨s, y, lf, t, I, K, hC0, hM0, hU⟩ := hS
  have hC := hC0
  have hM := hM0
  obtain ⟨po, S, fo, m0, hx, hR, hTp, hBy, hF, hK, hI, hP, hSep, hbn⟩ := hC
  obtain ⟨v, m1, ⟨v0, v1, v8, v10, v17, v23⟩, mR, m4, ⟨F5, m5⟩, mA, m7, ⟨f8, m8⟩, ⟨f9, m9⟩, mI, m12⟩ := hM
  obtain ⟨uB, uL, uc, uW, u00, uK⟩ := hU
  have hX := gd_XR_of hx hF uW hP
  have hMR : gd_MR h (B + 22) v t.1 := ⟨m1, m4, v0, uW.1, uW.2.1⟩
  have hA : ∀ k, po = some k → gd_AX h k t := fun k e => by subst e; exact hP.2.2.2.1
  have h01 : t.1 0 = 0 → t.1 1 = 0 := by
    intro q
    cases po with
    | none => exact hP.2
    | some k => have := hP.2.1; omega
  refine ⟨_, c_X11_undo hX uW hA , ?_⟩
  rintro r h' n' ⟨rfl, rfl, hh⟩
  have wt : gd_WT (sp_undo t).2 := gd_WT_undo uW
  have fr : ∀ q, q < B + 35 → h' q = h q := by
    intro q hq
    cases po with
    | none => rw [hh.1]
    | some k => exact hh.2.2 q (by have := hP.1; omega)
  have M' := hM0.out (h' := h') (fun q q1 q2 => fr q (by omega))
  obtain ⟨v', n1, ⟨w0, w1, w8, w10, w17, w23⟩, nR, n4, ⟨F6, n5⟩, nA, n7, ⟨g8, n8⟩, ⟨g9, n9⟩, nI', n12⟩ := M'
  have C' : gd_CI h' B n' s y lf (sp_undo t).2 I K ∧ ((sp_undo t).2.1 0 = 0 → (sp_undo t).2.1 2 = 0 ∧ (sp_undo t).2.1 3 = 0) := by
    cases po with
    | none =>
      obtain ⟨e1, e2⟩ := hh
      rw [e1, e2]
      exact ⟨hC0, u00⟩
    | some k =>
      obtain ⟨e1, e2, e3⟩ := hh
      obtain ⟨k0, k1⟩ := gd_undo01 hP.2.2.2.1
      have lo := hP.lo k rfl
      refine ⟨⟨some k, S, fo, m0, by rw [fr _ (by omega)]; exact hx, hR.out (fun q q1 q2 => fr q (by omega)), by rw [fr _ (by omega)]; exact hTp, by rw [fr _ (by omega)]; exact hBy, hF.out (fun q q1 q2 => fr q (by omega)), hK.out (fun q q1 q2 => fr q (by omega)), hI.out (Nat.le_refl _) (fr _ (by omega)) (fun i k' κ q hi q1 q2 q3 q4 => ?_), ⟨hP.1, by rw [k0]; exact hP.2.1, e1, e2, by rw [k1]; omega⟩, by rw [k1]; exact hSep, hbn⟩, fun q => ?_⟩
      · have := hSep i k κ k' hi rfl q1 q2
        exact e3 q (by omega)
      · rw [k0, hP.2.1] at q
        omega
  refine ⟨⟨_, rfl⟩, ⟨_, n1⟩, _, c_X12_undo (t := t) n1 w0 n4 nA w8 uW.2.2.1 , ?_⟩
  rintro r2 h2 n2 ⟨rfl, rfl, z1, z2, z3, z4⟩
  refine ⟨rfl, s, y, lf, (sp_undo t).2, I, K, C'.1.out (Nat.le_refl _) (fun q q1 => z4 q (by omega) (by omega) (by omega)), ?_, uB, uL, uc, wt, C'.2, uK⟩
  exact ⟨_, z1, ⟨w0, w1, gd_upd_s, w10, w17, w23⟩, nR.out (fun q q1 q2 => z4 q (by omega) (by omega) (by omega)), z2, ⟨F6, by rw [z4 _ (by omega) (by omega) (by omega)]; exact n5⟩, z3, by rw [z4 _ (by omega) (by omega) (by omega)]; exact n7, ⟨g8, by rw [z4 _ (by omega) (by omega) (by omega)]; exact n8⟩, ⟨g9, by rw [z4 _ (by omega) (by omega) (by omega)]; exact n9⟩, nI'.out (z4 _ (by omega) (by omega) (by omega)) (z4 _ (by omega) (by omega) (by omega)), by rw [z4 _ (by omega) (by omega) (by omega)]; exact n12⟩
theorem st_days (hS : gd_SX h B n) (x1 : Int32) : gd_stp E B l Y_X11_days Y_X12_days 4 2 0 0 gd_rI [.int x1] h n := by
  have hS0 := hS
  obtain ⟨s, y, lf, t, I, K, hC0, hM0, hU⟩ := hS
  have hC := hC0
  have hM := hM0
  obtain ⟨po, S, fo, m0, hx, hR, hTp, hBy, hF, hK, hI, hP, hSep, hbn⟩ := hC
  obtain ⟨v, m1, ⟨v0, v1, v8, v10, v17, v23⟩, mR, m4, ⟨F5, m5⟩, mA, m7, ⟨f8, m8⟩, ⟨f9, m9⟩, mI, m12⟩ := hM
  obtain ⟨uB, uL, uc, uW, u00, uK⟩ := hU
  have hX := gd_XR_of hx hF uW hP
  have hMR : gd_MR h (B + 22) v t.1 := ⟨m1, m4, v0, uW.1, uW.2.1⟩
  have hA : ∀ k, po = some k → gd_AX h k t := fun k e => by subst e; exact hP.2.2.2.1
  have h01 : t.1 0 = 0 → t.1 1 = 0 := by
    intro q
    cases po with
    | none => exact hP.2
    | some k => have := hP.2.1; omega
  refine ⟨_, c_X11_days hX uW hA x1, ?_⟩
  rintro r h' n' ⟨rfl, rfl, hh⟩
  have wt : gd_WT (sp_days x1 t).2 := gd_WT_days uW x1
  have fr : ∀ q, q < B + 35 → h' q = h q := by
    intro q hq
    cases po with
    | none => rw [hh.1]
    | some k => exact hh.2.2 q (by have := hP.1; omega)
  have M' := hM0.out (h' := h') (fun q q1 q2 => fr q (by omega))
  obtain ⟨v', n1, ⟨w0, w1, w8, w10, w17, w23⟩, nR, n4, ⟨F6, n5⟩, nA, n7, ⟨g8, n8⟩, ⟨g9, n9⟩, nI', n12⟩ := M'
  have C' : gd_CI h' B n' s y lf (sp_days x1 t).2 I K ∧ ((sp_days x1 t).2.1 0 = 0 → (sp_days x1 t).2.1 2 = 0 ∧ (sp_days x1 t).2.1 3 = 0) := by
    cases po with
    | none =>
      obtain ⟨e1, e2⟩ := hh
      rw [e1, e2]
      exact ⟨hC0, u00⟩
    | some k =>
      obtain ⟨e1, e2, e3⟩ := hh
      obtain ⟨k0, k1⟩ := gd_days01 t x1
      have lo := hP.lo k rfl
      refine ⟨⟨some k, S, fo, m0, by rw [fr _ (by omega)]; exact hx, hR.out (fun q q1 q2 => fr q (by omega)), by rw [fr _ (by omega)]; exact hTp, by rw [fr _ (by omega)]; exact hBy, hF.out (fun q q1 q2 => fr q (by omega)), hK.out (fun q q1 q2 => fr q (by omega)), hI.out (Nat.le_refl _) (fr _ (by omega)) (fun i k' κ q hi q1 q2 q3 q4 => ?_), ⟨hP.1, by rw [k0]; exact hP.2.1, e1, e2, by rw [k1]; omega⟩, by rw [k1]; exact hSep, hbn⟩, fun q => ?_⟩
      · have := hSep i k κ k' hi rfl q1 q2
        exact e3 q (by omega)
      · rw [k0, hP.2.1] at q
        omega
  refine ⟨⟨_, rfl⟩, ⟨_, n1⟩, _, c_X12_days (t := t) n1 w0 n4 uW.1 uW.2.1 nA w8 uW.2.2.1 x1, ?_⟩
  rintro r2 h2 n2 ⟨rfl, rfl, z1, z2, z3, z4⟩
  refine ⟨rfl, s, y, lf, (sp_days x1 t).2, I, K, C'.1.out (Nat.le_refl _) (fun q q1 => z4 q (by omega) (by omega) (by omega)), ?_, uB, uL, uc, wt, C'.2, uK⟩
  exact ⟨_, z1, ⟨w0, w1, gd_upd_s, w10, w17, w23⟩, nR.out (fun q q1 q2 => z4 q (by omega) (by omega) (by omega)), z2, ⟨F6, by rw [z4 _ (by omega) (by omega) (by omega)]; exact n5⟩, z3, by rw [z4 _ (by omega) (by omega) (by omega)]; exact n7, ⟨g8, by rw [z4 _ (by omega) (by omega) (by omega)]; exact n8⟩, ⟨g9, by rw [z4 _ (by omega) (by omega) (by omega)]; exact n9⟩, nI'.out (z4 _ (by omega) (by omega) (by omega)) (z4 _ (by omega) (by omega) (by omega)), by rw [z4 _ (by omega) (by omega) (by omega)]; exact n12⟩
theorem st_paint (hS : gd_SX h B n) (x1 x2 : Int32) : gd_stp E B l Y_X11_paint Y_X12_paint 4 3 0 0 gd_rI [.int x1, .int x2] h n := by
  have hS0 := hS
  obtain ⟨s, y, lf, t, I, K, hC0, hM0, hU⟩ := hS
  have hC := hC0
  have hM := hM0
  obtain ⟨po, S, fo, m0, hx, hR, hTp, hBy, hF, hK, hI, hP, hSep, hbn⟩ := hC
  obtain ⟨v, m1, ⟨v0, v1, v8, v10, v17, v23⟩, mR, m4, ⟨F5, m5⟩, mA, m7, ⟨f8, m8⟩, ⟨f9, m9⟩, mI, m12⟩ := hM
  obtain ⟨uB, uL, uc, uW, u00, uK⟩ := hU
  have hX := gd_XR_of hx hF uW hP
  have hMR : gd_MR h (B + 22) v t.1 := ⟨m1, m4, v0, uW.1, uW.2.1⟩
  have hA : ∀ k, po = some k → gd_AX h k t := fun k e => by subst e; exact hP.2.2.2.1
  have h01 : t.1 0 = 0 → t.1 1 = 0 := by
    intro q
    cases po with
    | none => exact hP.2
    | some k => have := hP.2.1; omega
  refine ⟨_, c_X11_paint hX uW hA x1 x2, ?_⟩
  rintro r h' n' ⟨rfl, rfl, hh⟩
  have wt : gd_WT (sp_paint x1 x2 t).2 := gd_WT_paint uW x1 x2 h01
  have fr : ∀ q, q < B + 35 → h' q = h q := by
    intro q hq
    cases po with
    | none => rw [hh.1]
    | some k => exact hh.2.2 q (by have := hP.1; omega)
  have M' := hM0.out (h' := h') (fun q q1 q2 => fr q (by omega))
  obtain ⟨v', n1, ⟨w0, w1, w8, w10, w17, w23⟩, nR, n4, ⟨F6, n5⟩, nA, n7, ⟨g8, n8⟩, ⟨g9, n9⟩, nI', n12⟩ := M'
  have C' : gd_CI h' B n' s y lf (sp_paint x1 x2 t).2 I K ∧ ((sp_paint x1 x2 t).2.1 0 = 0 → (sp_paint x1 x2 t).2.1 2 = 0 ∧ (sp_paint x1 x2 t).2.1 3 = 0) := by
    cases po with
    | none =>
      obtain ⟨e1, e2⟩ := hh
      rw [e1, e2]
      exact ⟨hC0, u00⟩
    | some k =>
      obtain ⟨e1, e2, e3⟩ := hh
      obtain ⟨k0, k1⟩ := gd_paint01 t x1 x2
      have lo := hP.lo k rfl
      refine ⟨⟨some k, S, fo, m0, by rw [fr _ (by omega)]; exact hx, hR.out (fun q q1 q2 => fr q (by omega)), by rw [fr _ (by omega)]; exact hTp, by rw [fr _ (by omega)]; exact hBy, hF.out (fun q q1 q2 => fr q (by omega)), hK.out (fun q q1 q2 => fr q (by omega)), hI.out (Nat.le_refl _) (fr _ (by omega)) (fun i k' κ q hi q1 q2 q3 q4 => ?_), ⟨hP.1, by rw [k0]; exact hP.2.1, e1, e2, by rw [k1]; omega⟩, by rw [k1]; exact hSep, hbn⟩, fun q => ?_⟩
      · have := hSep i k κ k' hi rfl q1 q2
        exact e3 q (by omega)
      · rw [k0, hP.2.1] at q
        omega
  refine ⟨⟨_, rfl⟩, ⟨_, n1⟩, _, c_X12_paint (t := t) n1 w0 n4 uW.1 nA w8 uW.2.2.1 x1 x2, ?_⟩
  rintro r2 h2 n2 ⟨rfl, rfl, z1, z2, z3, z4⟩
  refine ⟨rfl, s, y, lf, (sp_paint x1 x2 t).2, I, K, C'.1.out (Nat.le_refl _) (fun q q1 => z4 q (by omega) (by omega) (by omega)), ?_, uB, uL, uc, wt, C'.2, uK⟩
  exact ⟨_, z1, ⟨w0, w1, gd_upd_s, w10, w17, w23⟩, nR.out (fun q q1 q2 => z4 q (by omega) (by omega) (by omega)), z2, ⟨F6, by rw [z4 _ (by omega) (by omega) (by omega)]; exact n5⟩, z3, by rw [z4 _ (by omega) (by omega) (by omega)]; exact n7, ⟨g8, by rw [z4 _ (by omega) (by omega) (by omega)]; exact n8⟩, ⟨g9, by rw [z4 _ (by omega) (by omega) (by omega)]; exact n9⟩, nI'.out (z4 _ (by omega) (by omega) (by omega)) (z4 _ (by omega) (by omega) (by omega)), by rw [z4 _ (by omega) (by omega) (by omega)]; exact n12⟩
theorem st_miss (hS : gd_SX h B n) (x1 x2 : Int32) : gd_stp E B l Y_X11_miss Y_X12_miss 4 2 0 0 gd_rI [.int x1, .int x2] h n := by
  have hS0 := hS
  obtain ⟨s, y, lf, t, I, K, hC0, hM0, hU⟩ := hS
  have hC := hC0
  have hM := hM0
  obtain ⟨po, S, fo, m0, hx, hR, hTp, hBy, hF, hK, hI, hP, hSep, hbn⟩ := hC
  obtain ⟨v, m1, ⟨v0, v1, v8, v10, v17, v23⟩, mR, m4, ⟨F5, m5⟩, mA, m7, ⟨f8, m8⟩, ⟨f9, m9⟩, mI, m12⟩ := hM
  obtain ⟨uB, uL, uc, uW, u00, uK⟩ := hU
  have hX := gd_XR_of hx hF uW hP
  have hMR : gd_MR h (B + 22) v t.1 := ⟨m1, m4, v0, uW.1, uW.2.1⟩
  have hA : ∀ k, po = some k → gd_AX h k t := fun k e => by subst e; exact hP.2.2.2.1
  have h01 : t.1 0 = 0 → t.1 1 = 0 := by
    intro q
    cases po with
    | none => exact hP.2
    | some k => have := hP.2.1; omega
  refine ⟨_, c_X11_miss hX uW hA x1 x2, ?_⟩
  rintro r h' n' ⟨rfl, rfl, hh⟩
  have wt : gd_WT (sp_miss x1 x2 t).2 := gd_WT_miss uW x1 x2
  have fr : ∀ q, q < B + 35 → h' q = h q := by
    intro q hq
    cases po with
    | none => rw [hh.1]
    | some k => exact hh.2.2 q (by have := hP.1; omega)
  have M' := hM0.out (h' := h') (fun q q1 q2 => fr q (by omega))
  obtain ⟨v', n1, ⟨w0, w1, w8, w10, w17, w23⟩, nR, n4, ⟨F6, n5⟩, nA, n7, ⟨g8, n8⟩, ⟨g9, n9⟩, nI', n12⟩ := M'
  have C' : gd_CI h' B n' s y lf (sp_miss x1 x2 t).2 I K ∧ ((sp_miss x1 x2 t).2.1 0 = 0 → (sp_miss x1 x2 t).2.1 2 = 0 ∧ (sp_miss x1 x2 t).2.1 3 = 0) := by
    cases po with
    | none =>
      obtain ⟨e1, e2⟩ := hh
      rw [e1, e2]
      exact ⟨hC0, u00⟩
    | some k =>
      obtain ⟨e1, e2, e3⟩ := hh
      obtain ⟨k0, k1⟩ := gd_miss01 t x1 x2
      have lo := hP.lo k rfl
      refine ⟨⟨some k, S, fo, m0, by rw [fr _ (by omega)]; exact hx, hR.out (fun q q1 q2 => fr q (by omega)), by rw [fr _ (by omega)]; exact hTp, by rw [fr _ (by omega)]; exact hBy, hF.out (fun q q1 q2 => fr q (by omega)), hK.out (fun q q1 q2 => fr q (by omega)), hI.out (Nat.le_refl _) (fr _ (by omega)) (fun i k' κ q hi q1 q2 q3 q4 => ?_), ⟨hP.1, by rw [k0]; exact hP.2.1, e1, e2, by rw [k1]; omega⟩, by rw [k1]; exact hSep, hbn⟩, fun q => ?_⟩
      · have := hSep i k κ k' hi rfl q1 q2
        exact e3 q (by omega)
      · rw [k0, hP.2.1] at q
        omega
  refine ⟨⟨_, rfl⟩, ⟨_, n1⟩, _, c_X12_miss (t := t) n1 w0 n4 uW.1 uW.2.1 nA w8 uW.2.2.1 x1 x2, ?_⟩
  rintro r2 h2 n2 ⟨rfl, rfl, z1, z2, z3, z4⟩
  refine ⟨rfl, s, y, lf, (sp_miss x1 x2 t).2, I, K, C'.1.out (Nat.le_refl _) (fun q q1 => z4 q (by omega) (by omega) (by omega)), ?_, uB, uL, uc, wt, C'.2, uK⟩
  exact ⟨_, z1, ⟨w0, w1, gd_upd_s, w10, w17, w23⟩, nR.out (fun q q1 q2 => z4 q (by omega) (by omega) (by omega)), z2, ⟨F6, by rw [z4 _ (by omega) (by omega) (by omega)]; exact n5⟩, z3, by rw [z4 _ (by omega) (by omega) (by omega)]; exact n7, ⟨g8, by rw [z4 _ (by omega) (by omega) (by omega)]; exact n8⟩, ⟨g9, by rw [z4 _ (by omega) (by omega) (by omega)]; exact n9⟩, nI'.out (z4 _ (by omega) (by omega) (by omega)) (z4 _ (by omega) (by omega) (by omega)), by rw [z4 _ (by omega) (by omega) (by omega)]; exact n12⟩
theorem st_image (hS : gd_SX h B n) (x1 : Int32) : gd_stp E B l Y_X11_image Y_X12_image 6 2 16 143 gd_rI [.int x1] h n := by
  have hS0 := hS
  obtain ⟨s, y, lf, t, I, K, hC0, hM0, hU⟩ := hS
  have hC := hC0
  have hM := hM0
  obtain ⟨po, S, fo, m0, hx, hR, hTp, hBy, hF, hK, hI, hP, hSep, hbn⟩ := hC
  obtain ⟨v, m1, ⟨v0, v1, v8, v10, v17, v23⟩, mR, m4, ⟨F5, m5⟩, mA, m7, ⟨f8, m8⟩, ⟨f9, m9⟩, mI, m12⟩ := hM
  obtain ⟨uB, uL, uc, uW, u00, uK⟩ := hU
  have hX := gd_XR_of hx hF uW hP
  have hMR : gd_MR h (B + 22) v t.1 := ⟨m1, m4, v0, uW.1, uW.2.1⟩
  refine ⟨_, c_X11_image2 hX hI (by omega) hbn (fun k e => (hP.lo k e).2) x1, ?_⟩
  rintro r h' n' ⟨rfl, en, ⟨fo', y1, y2⟩, y3⟩
  have M' := hM0.out (h' := h') (fun q q1 q2 => y3 q (by omega) (by omega))
  obtain ⟨v', n1, ⟨w0, w1, w8, w10, w17, w23⟩, nR, n4, ⟨F6, n5⟩, nA, n7, ⟨g8, n8⟩, ⟨g9, n9⟩, nI', n12⟩ := M'
  have C' : gd_CI h' B n' s y lf t (sp_image x1 t.1 I).2 K := ⟨po, S, fo', m0, by rw [y3 _ (by omega) (by omega)]; exact hx, hR.out (fun q q1 q2 => y3 q (by omega) (by omega)), by rw [y3 _ (by omega) (by omega)]; exact hTp, by rw [y3 _ (by omega) (by omega)]; exact hBy, hF.out (fun q q1 q2 => y3 q (by omega) (by omega)), hK.out (fun q q1 q2 => y3 q (by omega) (by omega)), y1, hP.out en (fun k q e q1 q2 => by have := hP.lo k e; exact y3 q (by omega) (by omega)), fun i k κ k' hi q1 q2 q3 => ?_, by omega⟩
  rotate_left
  · rcases y2 i k' hi q2 with ⟨a1, a2⟩ | a1
    · rw [a2] at q3
      exact hSep i k κ k' hi q1 a1 q3
    · have := hP.lo k q1
      exact Or.inr (by omega)
  refine ⟨⟨_, rfl⟩, ⟨_, n1⟩, _, c_X12_image (τ := t.1) ⟨n1, n4, w0, uW.1, uW.2.1⟩ nI' x1, ?_⟩
  rintro r2 h2 n2 ⟨rfl, rfl, z1, z2⟩
  refine ⟨rfl, s, y, lf, t, (sp_image x1 t.1 I).2, K, C'.out (Nat.le_refl _) (fun q q1 => z2 q (by omega) (by omega)), ?_, uB, uL, uc, uW, u00, uK⟩
  exact ⟨v', by rw [z2 _ (by omega) (by omega)]; exact n1, ⟨w0, w1, w8, w10, w17, w23⟩, nR.out (fun q q1 q2 => z2 q (by omega) (by omega)), by rw [z2 _ (by omega) (by omega)]; exact n4, ⟨F6, by rw [z2 _ (by omega) (by omega)]; exact n5⟩, nA.out (z2 _ (by omega) (by omega)), by rw [z2 _ (by omega) (by omega)]; exact n7, ⟨g8, by rw [z2 _ (by omega) (by omega)]; exact n8⟩, ⟨g9, by rw [z2 _ (by omega) (by omega)]; exact n9⟩, z1, by rw [z2 _ (by omega) (by omega)]; exact n12⟩
theorem st_restore (hS : gd_SX h B n) (x1 : Int32) : gd_stp E B l Y_X11_restore Y_X12_restore 6 2 16 143 gd_rI [.int x1] h n := by
  have hS0 := hS
  obtain ⟨s, y, lf, t, I, K, hC0, hM0, hU⟩ := hS
  have hC := hC0
  have hM := hM0
  obtain ⟨po, S, fo, m0, hx, hR, hTp, hBy, hF, hK, hI, hP, hSep, hbn⟩ := hC
  obtain ⟨v, m1, ⟨v0, v1, v8, v10, v17, v23⟩, mR, m4, ⟨F5, m5⟩, mA, m7, ⟨f8, m8⟩, ⟨f9, m9⟩, mI, m12⟩ := hM
  obtain ⟨uB, uL, uc, uW, u00, uK⟩ := hU
  have hX := gd_XR_of hx hF uW hP
  have hMR : gd_MR h (B + 22) v t.1 := ⟨m1, m4, v0, uW.1, uW.2.1⟩
  refine ⟨_, c_X11_restore (t := t) hx hI (by omega) hbn x1, ?_⟩
  rintro r h' n' ⟨rfl, en, hh⟩
  have fr : ∀ q, q < n → q ≠ B → h' q = h q := by
    intro q q1 q2
    rcases hh with ⟨-, -, e⟩ | ⟨k, -, -, -, -, -, -, e⟩
    · rw [e]
    · exact e q q1 q2
  have M' := hM0.out (h' := h') (fun q q1 q2 => fr q (by omega) (by omega))
  obtain ⟨v', n1, ⟨w0, w1, w8, w10, w17, w23⟩, nR, n4, ⟨F6, n5⟩, nA, n7, ⟨g8, n8⟩, ⟨g9, n9⟩, nI', n12⟩ := M'
  have wt : gd_WT (sp_restore x1 t I).2 := by
    rw [sp_restore]
    split
    · rename_i e
      obtain ⟨j, hj, -, ej⟩ := gd_rng_of (hi := 1) e
      rw [ej]
      rcases hI.2 j (by omega) with ⟨-, a2⟩ | ⟨k, κ, -, a2, -, -, -, a6, a7⟩
      · rw [a2]
        exact uW
      · rw [a2]
        exact gd_WT_res a6 a7
    · exact uW
  have C' : gd_CI h' B n' s y lf (sp_restore x1 t I).2 I K ∧ ((sp_restore x1 t I).2.1 0 = 0 → (sp_restore x1 t I).2.1 2 = 0 ∧ (sp_restore x1 t I).2.1 3 = 0) := by
    rcases hh with ⟨e1, e2, e3⟩ | ⟨k, a1, a2, a3, a4, a5, a6, -⟩
    · rw [e1, e2, e3]
      exact ⟨hC0, u00⟩
    · refine ⟨⟨some k, S, fo, m0, a6, hR.out (fun q q1 q2 => fr q (by omega) (by omega)), by rw [fr _ (by omega) (by omega)]; exact hTp, by rw [fr _ (by omega) (by omega)]; exact hBy, hF.out (fun q q1 q2 => fr q (by omega) (by omega)), hK.out (fun q q1 q2 => fr q (by omega) (by omega)), hI.out en (fr _ (by omega) (by omega)) (fun i k κ q hi e1 e2 q1 q2 => by have := hI.lo hi e1 e2; exact fr q (by omega) (by omega)), ⟨by omega, a5, a3, a4, a2⟩, fun i k2 κ k' hi q1 q2 q3 => by cases q1; have := (hI.lo hi q2 q3).2; exact Or.inl (by omega), by omega⟩, fun q => by omega⟩
  refine ⟨⟨_, rfl⟩, ⟨_, n1⟩, _, c_X12_restore (t := t) n1 w0 n4 nA w8 nI' x1, ?_⟩
  rintro r2 h2 n2 ⟨rfl, rfl, z1, z2, z3, z4⟩
  refine ⟨rfl, s, y, lf, (sp_restore x1 t I).2, I, K, C'.1.out (Nat.le_refl _) (fun q q1 => z4 q (by omega) (by omega) (by omega)), ?_, uB, uL, uc, wt, C'.2, uK⟩
  exact ⟨_, z1, ⟨w0, w1, gd_upd_s, w10, w17, w23⟩, nR.out (fun q q1 q2 => z4 q (by omega) (by omega) (by omega)), z2, ⟨F6, by rw [z4 _ (by omega) (by omega) (by omega)]; exact n5⟩, z3, by rw [z4 _ (by omega) (by omega) (by omega)]; exact n7, ⟨g8, by rw [z4 _ (by omega) (by omega) (by omega)]; exact n8⟩, ⟨g9, by rw [z4 _ (by omega) (by omega) (by omega)]; exact n9⟩, nI'.out (z4 _ (by omega) (by omega) (by omega)) (z4 _ (by omega) (by omega) (by omega)), by rw [z4 _ (by omega) (by omega) (by omega)]; exact n12⟩
end
