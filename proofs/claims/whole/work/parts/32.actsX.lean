/-! ===== acts, of the class ===== -/
def gd_To (k : Nat) (τ : Nat → Nat) (ac : Nat) : List Value := [.ref (k + 1), .ref (k + 2), .int (nI (τ 1)), .ref (k + 3), .ref (k + 4), .ref (k + 5), .int (nI (τ 2)), .int (nI (τ 3)), .ref (k + 6), .ref (k + 7), .ref (k + 8), .int (nI ac)]
def gd_ud (s p b : Int32) (σ' σ : Nat → Nat) : Prop := ∃ z x, (∀ i, i < 56 → σ i = gd_set σ' z x i) ∧ b = nI x ∧ ((s = nI 0 ∧ z = 3) ∨ (s = nI 2 ∧ ∃ w, w < 7 ∧ p = nI w ∧ z = 4 + w) ∨ (s = nI 1 ∧ ∃ i, i < σ' 1 ∧ p = nI i ∧ z = 12 + 3 * i))
theorem gd_ud_cong {s p b : Int32} {σ1 σ' σ : Nat → Nat} (e : ∀ i, i < 56 → σ1 i = σ' i) (h : gd_ud s p b σ' σ) : gd_ud s p b σ1 σ := by
  obtain ⟨z, x, h1, h2, h3⟩ := h
  refine ⟨z, x, fun i hi => ?_, h2, ?_⟩
  · rw [h1 i hi, gd_set, gd_set, e i hi]
  · rw [e 1 (by omega)]
    exact h3
def gd_AR (t : gd_TT) (fs fp fb : Nat → Int32) : Prop := ∀ j, j < t.2.2 → gd_ud (fs j) (fp j) (fb j) (if j + 1 = t.2.2 then t.1 else t.2.1 (j + 1)) (t.2.1 j)
def gd_AX (h : pj_H) (k : Nat) (t : gd_TT) : Prop := ∃ fs fp fb, h (k + 6) = some (.inl (0, 24, .inl fs)) ∧ h (k + 7) = some (.inl (0, 24, .inl fp)) ∧ h (k + 8) = some (.inl (0, 24, .inl fb)) ∧ gd_AR t fs fp fb
def gd_kf (f f' : Nat → Int32) (ac : Nat) (x : Int32) : Prop := f' (gd_kn ac - 1) = x ∧ ∀ j, j + 1 < gd_kn ac → f' j = if ac = 24 then f (j + 1) else f j
theorem gd_kf_of {f f1 : Nat → Int32} {ac a : Nat} {x : Int32} (e : a + 1 = gd_kn ac) (h : ∀ j, j < a → f1 j = if ac = 24 then f (j + 1) else f j) : gd_kf f (upd f1 a x) ac x := by
  refine ⟨?_, fun j hj => ?_⟩
  · rw [← e, gd_upd, if_pos (by omega)]
  · rw [gd_upd, if_neg (by omega)]
    exact h j (by omega)
theorem gd_AR_act {t : gd_TT} {τ' : Nat → Nat} {fs fp fb fs' fp' fb' : Nat → Int32} {s p b : Int32} (hA : gd_AR t fs fp fb) (hac : t.2.2 ≤ 24) (k1 : gd_kf fs fs' t.2.2 s) (k2 : gd_kf fp fp' t.2.2 p) (k3 : gd_kf fb fb' t.2.2 b) (hu : gd_ud s p b τ' t.1) : gd_AR (gd_act t τ') fs' fp' fb' := by
  obtain ⟨τ, A, ac⟩ := t
  dsimp only at hac k1 k2 k3 hu
  intro j hj
  have hj : j < gd_kn ac := hj
  show gd_ud _ _ _ (if j + 1 = gd_kn ac then τ' else gd_kA (τ, A, ac) (j + 1)) (gd_kA (τ, A, ac) j)
  by_cases e : j + 1 = gd_kn ac
  · rw [if_pos e]
    have ej : j = gd_kn ac - 1 := by omega
    have hk : gd_kA (τ, A, ac) j = τ := by
      funext i
      rw [gd_kA]
      dsimp only
      by_cases h24 : ac = 24
      · rw [gd_kn, if_pos h24] at e
        rw [if_pos h24, if_pos (by omega)]
      · rw [gd_kn, if_neg h24] at e
        rw [if_neg h24, if_pos (by omega)]
    rw [hk, ej, k1.1, k2.1, k3.1]
    exact hu
  · rw [if_neg e, k1.2 j (by omega), k2.2 j (by omega), k3.2 j (by omega)]
    by_cases h24 : ac = 24
    · subst h24
      have hk : gd_kn 24 = 24 := rfl
      rw [hk] at hj e
      have := hA (j + 1) (show j + 1 < 24 by omega)
      have e1 : gd_kA (τ, A, 24) j = A (j + 1) := by
        funext i
        rw [gd_kA]
        dsimp only
        rw [if_pos rfl, if_neg (by omega)]
      have e2 : gd_kA (τ, A, 24) (j + 1) = (if j + 1 + 1 = 24 then τ else A (j + 1 + 1)) := by
        funext i
        rw [gd_kA]
        dsimp only
        rw [if_pos rfl]
        by_cases h23 : j + 1 = 23
        · rw [if_pos h23, if_pos (by omega)]
        · rw [if_neg h23, if_neg (by omega)]
      rw [e1, e2]
      exact this
    · have hk : gd_kn ac = ac + 1 := by rw [gd_kn, if_neg h24]
      rw [hk] at hj e
      have := hA j (show j < ac by omega)
      have e1 : gd_kA (τ, A, ac) j = A j := by
        funext i
        rw [gd_kA]
        dsimp only
        rw [if_neg h24, if_neg (by omega)]
      have e2 : gd_kA (τ, A, ac) (j + 1) = (if j + 1 = ac then τ else A (j + 1)) := by
        funext i
        rw [gd_kA]
        dsimp only
        rw [if_neg h24]
        by_cases h23 : j + 1 = ac
        · rw [if_pos h23, if_pos h23]
        · rw [if_neg h23, if_neg h23]
      rw [e1, e2, if_neg h24, if_neg h24, if_neg h24]
      exact this
theorem gd_T.of {h h' : pj_H} {k ac ac' : Nat} {τ τ' : Nat → Nat} (hT : gd_T h k τ ac) (h8 : τ 2 ≤ 8) (h0 : h' k = some (.inr (8, gd_To k τ' ac'))) (e1 : τ' 1 = τ 1) (e2 : τ' 2 = τ 2) (ep : ∀ j, j < 24 → τ' (32 + j) = τ (32 + j)) (hc : ∃ f, h' (k + 1) = some (.inl (0, 7, .inl f)) ∧ ∀ j, j < 7 → f j = nI (τ' (4 + j))) (hth : ∀ i, i < τ 1 → h' (k + 9 + i) = some (.inr (gd_tc (τ' (11 + 3 * i)), [.int (nI i), .int (nI (τ' (13 + 3 * i))), .int (nI (τ' (12 + 3 * i)))]))) (hq : ∀ q, k + 2 ≤ q → q ≤ k + 5 → h' q = h q) : gd_T h' k τ' ac' := by
  obtain ⟨-, -, ⟨f2, b2, c2⟩, -, ⟨f3, b3, c3⟩, ⟨f4, b4, c4⟩, ⟨f5, b5, c5⟩⟩ := hT
  refine ⟨h0, hc, ⟨f2, by rw [hq _ (by omega) (by omega)]; exact b2, fun i hi => c2 i (by omega)⟩, fun i hi => hth i (by omega), ⟨f3, by rw [hq _ (by omega) (by omega)]; exact b3, fun j hj => ?_⟩, ⟨f4, by rw [hq _ (by omega) (by omega)]; exact b4, fun j hj => ?_⟩, ⟨f5, by rw [hq _ (by omega) (by omega)]; exact b5, fun j hj => ?_⟩⟩
  · rw [ep (3 * j) (by omega)]; exact c3 j (by omega)
  · rw [show 33 + 3 * j = 32 + (3 * j + 1) by omega, ep (3 * j + 1) (by omega), show 32 + (3 * j + 1) = 33 + 3 * j by omega]; exact c4 j (by omega)
  · rw [show 34 + 3 * j = 32 + (3 * j + 2) by omega, ep (3 * j + 2) (by omega), show 32 + (3 * j + 2) = 34 + 3 * j by omega]; exact c5 j (by omega)
theorem gd_W_cong {τ τ' : Nat → Nat} (hW : gd_W τ) (e : ∀ i, i < 56 → τ' i = τ i) : gd_W τ' := by
  obtain ⟨w1, w2, w3, w4, w5, w6, w7⟩ := hW
  have e1 := e 1 (by omega)
  have e2 := e 2 (by omega)
  refine ⟨by omega, by omega, by rw [e 3 (by omega)]; exact w3, fun j hj => by rw [e _ (by omega)]; exact w4 j hj, fun i hi => ?_, fun j hj => ?_, fun i j hij hj => ?_⟩
  · rw [e (11 + 3 * i) (by omega), e (12 + 3 * i) (by omega), e (13 + 3 * i) (by omega)]; exact w5 i (by omega)
  · rw [e (32 + 3 * j) (by omega), e (33 + 3 * j) (by omega), e (34 + 3 * j) (by omega), e1]; exact w6 j (by omega)
  · rw [e (32 + 3 * j) (by omega), e (33 + 3 * j) (by omega), e (32 + 3 * i) (by omega), e (33 + 3 * i) (by omega)]; exact w7 i j hij (by omega)
theorem gd_W_day {τ : Nat → Nat} (hW : gd_W τ) {x : Nat} (hx : x ≤ 999) : gd_W (gd_set τ 3 x) := by
  obtain ⟨w1, w2, w3, w4, w5, w6, w7⟩ := hW
  refine ⟨w1, w2, hx, fun j hj => by rw [gd_set_n (by omega)]; exact w4 j hj, fun i hi => ?_, fun j hj => ?_, fun i j hij hj => ?_⟩
  · rw [gd_set_n (by omega), gd_set_n (by omega), gd_set_n (by omega)]; exact w5 i hi
  · rw [gd_set_n (by omega), gd_set_n (by omega), gd_set_n (by omega), gd_set_n (by omega)]; exact w6 j hj
  · rw [gd_set_n (by omega), gd_set_n (by omega), gd_set_n (by omega), gd_set_n (by omega)]; exact w7 i j hij hj
theorem gd_W_col {τ : Nat → Nat} (hW : gd_W τ) {w x : Nat} (hw : w < 7) (hx : x ≤ 5) : gd_W (gd_set τ (4 + w) x) := by
  obtain ⟨w1, w2, w3, w4, w5, w6, w7⟩ := hW
  refine ⟨by rw [gd_set_n (by omega)]; exact w1, by rw [gd_set_n (by omega)]; exact w2, by rw [gd_set_n (by omega)]; exact w3, fun j hj => ?_, fun i hi => ?_, fun j hj => ?_, fun i j hij hj => ?_⟩
  · by_cases e : j = w
    · rw [e, gd_set_s]; exact hx
    · rw [gd_set_n (by omega)]; exact w4 j hj
  · rw [gd_set_n (by omega)] at hi
    rw [gd_set_n (by omega), gd_set_n (by omega), gd_set_n (by omega)]; exact w5 i hi
  · rw [gd_set_n (by omega)] at hj
    rw [gd_set_n (by omega), gd_set_n (by omega), gd_set_n (by omega), gd_set_n (by omega)]; exact w6 j hj
  · rw [gd_set_n (by omega)] at hj
    rw [gd_set_n (by omega), gd_set_n (by omega), gd_set_n (by omega), gd_set_n (by omega)]; exact w7 i j hij hj
theorem gd_W_mix {τ : Nat → Nat} (hW : gd_W τ) {a x : Nat} (ha : a < τ 1) (hx : x < 32) : gd_W (gd_set τ (12 + 3 * a) x) := by
  obtain ⟨w1, w2, w3, w4, w5, w6, w7⟩ := hW
  refine ⟨by rw [gd_set_n (by omega)]; exact w1, by rw [gd_set_n (by omega)]; exact w2, by rw [gd_set_n (by omega)]; exact w3, fun j hj => by rw [gd_set_n (by omega)]; exact w4 j hj, fun i hi => ?_, fun j hj => ?_, fun i j hij hj => ?_⟩
  · rw [gd_set_n (by omega)] at hi
    rw [gd_set_n (show 11 + 3 * i ≠ 12 + 3 * a by omega), gd_set_n (show 13 + 3 * i ≠ 12 + 3 * a by omega)]
    refine ⟨(w5 i hi).1, ?_, (w5 i hi).2.2⟩
    by_cases e : i = a
    · rw [e, gd_set_s]; exact hx
    · rw [gd_set_n (by omega)]; exact (w5 i hi).2.1
  · rw [gd_set_n (by omega)] at hj
    rw [gd_set_n (by omega), gd_set_n (by omega), gd_set_n (by omega), gd_set_n (by omega)]; exact w6 j hj
  · rw [gd_set_n (by omega)] at hj
    rw [gd_set_n (by omega), gd_set_n (by omega), gd_set_n (by omega), gd_set_n (by omega)]; exact w7 i j hij hj
def gd_WT (t : gd_TT) : Prop := gd_W t.1 ∧ t.1 0 ≤ 1 ∧ t.2.2 ≤ 24 ∧ (t.1 0 = 1 ∨ t.2.2 = 0) ∧ ∀ j, j < t.2.2 → gd_W (t.2.1 j) ∧ t.2.1 j 0 = 1
theorem gd_WT_act {t : gd_TT} {τ' : Nat → Nat} (h : gd_WT t) (h1 : t.1 0 = 1) (hW : gd_W τ') (h0 : τ' 0 = 1) : gd_WT (gd_act t τ') := by
  refine ⟨hW, Nat.le_of_eq h0, gd_kn_le h.2.2.1, Or.inl h0, fun j hj => ?_⟩
  obtain ⟨τ, A, ac⟩ := t
  have hj : j < gd_kn ac := hj
  show gd_W (gd_kA (τ, A, ac) j) ∧ gd_kA (τ, A, ac) j 0 = 1
  have key : gd_kA (τ, A, ac) j = τ ∨ ∃ z, z < ac ∧ gd_kA (τ, A, ac) j = A z := by
    by_cases h24 : ac = 24
    · rw [gd_kn, if_pos h24] at hj
      by_cases e : j = 23
      · left; funext i; rw [gd_kA]; dsimp only; rw [if_pos h24, if_pos e]
      · right; exact ⟨j + 1, by omega, by funext i; rw [gd_kA]; dsimp only; rw [if_pos h24, if_neg e]⟩
    · rw [gd_kn, if_neg h24] at hj
      by_cases e : j = ac
      · left; funext i; rw [gd_kA]; dsimp only; rw [if_neg h24, if_pos e]
      · right; exact ⟨j, by omega, by funext i; rw [gd_kA]; dsimp only; rw [if_neg h24, if_neg e]⟩
  rcases key with e | ⟨z, hz, e⟩
  · rw [e]; exact ⟨h.1, h1⟩
  · rw [e]; exact h.2.2.2.2 z hz
theorem gd_WT_dn {t : gd_TT} (h : gd_WT t) (h1 : t.1 0 = 1) : ∀ i, t.1 3 + i ≤ 999 → gd_WT (gd_dn i t) ∧ (gd_dn i t).1 0 = 1
  | 0, _ => ⟨h, h1⟩
  | i + 1, hi => by
    have := gd_WT_dn h h1 i (by omega)
    have e := gd_dn_3 t i
    refine ⟨?_, this.2⟩
    exact gd_WT_act this.1 this.2 (gd_W_day this.1.1 (by rw [e]; omega)) this.2
theorem gd_WT_back {t : gd_TT} (h : gd_WT t) (h0 : ¬ t.2.2 = 0) : gd_WT (gd_back t) := by
  have := h.2.2.2.2 (t.2.2 - 1) (by omega)
  have h24 := h.2.2.1
  refine ⟨gd_W_cong this.1 (fun i hi => if_pos hi), ?_, show t.2.2 - 1 ≤ 24 by omega, Or.inl ?_, fun j hj => h.2.2.2.2 j (by have : j < t.2.2 - 1 := hj; omega)⟩
  · show (if 0 < 56 then t.2.1 (t.2.2 - 1) 0 else t.1 0) ≤ 1
    rw [if_pos (by omega), this.2]
    exact Nat.le_refl _
  · show (if 0 < 56 then t.2.1 (t.2.2 - 1) 0 else t.1 0) = 1
    rw [if_pos (by omega), this.2]
section
variable {E : pj_E} {B : Nat} {l : Launch} {h : pj_H} {n k ac : Nat} {τ : Nat → Nat} {t : gd_TT} {fs fp fb : Nat → Int32}
theorem c_X9_forgetOldestAct (h0 : h k = some (.inr (8, gd_To k τ ac))) (a6 : h (k + 6) = some (.inl (0, 24, .inl fs))) (a7 : h (k + 7) = some (.inl (0, 24, .inl fp))) (a8 : h (k + 8) = some (.inl (0, 24, .inl fb))) : pj_Ct E B l Y_X9_forgetOldestAct 1 0 0 [.ref k] h n (fun r h' n' => r = none ∧ n' = n ∧ h' k = some (.inr (8, gd_To k τ 23)) ∧ h' (k + 6) = some (.inl (0, 24, .inl (va_cpy fs fs 1 0 23))) ∧ h' (k + 7) = some (.inl (0, 24, .inl (va_cpy fp fp 1 0 23))) ∧ h' (k + 8) = some (.inl (0, 24, .inl (va_cpy fb fb 1 0 23))) ∧ ∀ q, q ≠ k → q ≠ k + 6 → q ≠ k + 7 → q ≠ k + 8 → h' q = h q) := by
  refine pj_in rfl (ls := [some (.ref k)]) rfl (Nat.le_of_ble_eq_true rfl) ?_
  refine pj_ald0 (q := 1) (pj_d p_X9_forgetOldestAct 0 rfl) rfl ?_
  refine pj_bipush (q := 3) (v := nI 23) (pj_d p_X9_forgetOldestAct 1 rfl) rfl (by decide) ?_
  refine pj_pf (q := 6) (k := 11) (fs' := gd_To k τ 23) (pj_d p_X9_forgetOldestAct 2 rfl) rfl kX9_81 (by repeat first | assumption | exact pj_up_s | refine (pj_up_n (by omega)).trans ?_) (by rfl) (Or.inl rfl) (by rfl) (by rfl) (by rfl) (by show 11 < 12; decide) (by rfl) ?_
  refine pj_ald0 (q := 7) (pj_d p_X9_forgetOldestAct 3 rfl) rfl ?_
  refine pj_gf (q := 10) (k := 8) (pj_d p_X9_forgetOldestAct 4 rfl) rfl kX9_28 (by repeat first | assumption | exact pj_up_s | refine (pj_up_n (by omega)).trans ?_) (by rfl) (by rfl) ?_
  refine pj_iconst (q := 11) (v := nI 1) (pj_d p_X9_forgetOldestAct 5 rfl) rfl (by decide) ?_
  refine pj_ald0 (q := 12) (pj_d p_X9_forgetOldestAct 6 rfl) rfl ?_
  refine pj_gf (q := 15) (k := 8) (pj_d p_X9_forgetOldestAct 7 rfl) rfl kX9_28 (by repeat first | assumption | exact pj_up_s | refine (pj_up_n (by omega)).trans ?_) (by rfl) (by rfl) ?_
  refine pj_iconst (q := 16) (v := nI 0) (pj_d p_X9_forgetOldestAct 8 rfl) rfl (by decide) ?_
  refine pj_ald0 (q := 17) (pj_d p_X9_forgetOldestAct 9 rfl) rfl ?_
  refine pj_gf (q := 20) (k := 11) (pj_d p_X9_forgetOldestAct 10 rfl) rfl kX9_81 (by repeat first | assumption | exact pj_up_s | refine (pj_up_n (by omega)).trans ?_) (by rfl) (by rfl) ?_
  refine pj_acopy (q := 23) (N0 := 24) (N1 := 24) (c := 23) (sp := 1) (dp := 0) (pj_d p_X9_forgetOldestAct 11 rfl) rfl kX9_123 ac_nat ac_sta ac_ini ((pj_up_n (by omega)).trans a6) ((pj_up_n (by omega)).trans a6) (by omega) (by omega) (by omega) (by omega) (by decide) (by decide) ?_
  refine pj_ald0 (q := 24) (pj_d p_X9_forgetOldestAct 12 rfl) rfl ?_
  refine pj_gf (q := 27) (k := 9) (pj_d p_X9_forgetOldestAct 13 rfl) rfl kX9_31 (by repeat first | assumption | exact pj_up_s | refine (pj_up_n (by omega)).trans ?_) (by rfl) (by rfl) ?_
  refine pj_iconst (q := 28) (v := nI 1) (pj_d p_X9_forgetOldestAct 14 rfl) rfl (by decide) ?_
  refine pj_ald0 (q := 29) (pj_d p_X9_forgetOldestAct 15 rfl) rfl ?_
  refine pj_gf (q := 32) (k := 9) (pj_d p_X9_forgetOldestAct 16 rfl) rfl kX9_31 (by repeat first | assumption | exact pj_up_s | refine (pj_up_n (by omega)).trans ?_) (by rfl) (by rfl) ?_
  refine pj_iconst (q := 33) (v := nI 0) (pj_d p_X9_forgetOldestAct 17 rfl) rfl (by decide) ?_
  refine pj_ald0 (q := 34) (pj_d p_X9_forgetOldestAct 18 rfl) rfl ?_
  refine pj_gf (q := 37) (k := 11) (pj_d p_X9_forgetOldestAct 19 rfl) rfl kX9_81 (by repeat first | assumption | exact pj_up_s | refine (pj_up_n (by omega)).trans ?_) (by rfl) (by rfl) ?_
  refine pj_acopy (q := 40) (N0 := 24) (N1 := 24) (c := 23) (sp := 1) (dp := 0) (pj_d p_X9_forgetOldestAct 20 rfl) rfl kX9_123 ac_nat ac_sta ac_ini ((pj_up_n (by omega)).trans ((pj_up_n (by omega)).trans a7)) ((pj_up_n (by omega)).trans ((pj_up_n (by omega)).trans a7)) (by omega) (by omega) (by omega) (by omega) (by decide) (by decide) ?_
  refine pj_ald0 (q := 41) (pj_d p_X9_forgetOldestAct 21 rfl) rfl ?_
  refine pj_gf (q := 44) (k := 10) (pj_d p_X9_forgetOldestAct 22 rfl) rfl kX9_34 (by repeat first | assumption | exact pj_up_s | refine (pj_up_n (by omega)).trans ?_) (by rfl) (by rfl) ?_
  refine pj_iconst (q := 45) (v := nI 1) (pj_d p_X9_forgetOldestAct 23 rfl) rfl (by decide) ?_
  refine pj_ald0 (q := 46) (pj_d p_X9_forgetOldestAct 24 rfl) rfl ?_
  refine pj_gf (q := 49) (k := 10) (pj_d p_X9_forgetOldestAct 25 rfl) rfl kX9_34 (by repeat first | assumption | exact pj_up_s | refine (pj_up_n (by omega)).trans ?_) (by rfl) (by rfl) ?_
  refine pj_iconst (q := 50) (v := nI 0) (pj_d p_X9_forgetOldestAct 26 rfl) rfl (by decide) ?_
  refine pj_ald0 (q := 51) (pj_d p_X9_forgetOldestAct 27 rfl) rfl ?_
  refine pj_gf (q := 54) (k := 11) (pj_d p_X9_forgetOldestAct 28 rfl) rfl kX9_81 (by repeat first | assumption | exact pj_up_s | refine (pj_up_n (by omega)).trans ?_) (by rfl) (by rfl) ?_
  refine pj_acopy (q := 57) (N0 := 24) (N1 := 24) (c := 23) (sp := 1) (dp := 0) (pj_d p_X9_forgetOldestAct 29 rfl) rfl kX9_123 ac_nat ac_sta ac_ini ((pj_up_n (by omega)).trans ((pj_up_n (by omega)).trans ((pj_up_n (by omega)).trans a8))) ((pj_up_n (by omega)).trans ((pj_up_n (by omega)).trans ((pj_up_n (by omega)).trans a8))) (by omega) (by omega) (by omega) (by omega) (by decide) (by decide) ?_
  refine pj_vret rfl (pj_d p_X9_forgetOldestAct 30 rfl) (by decide) (by decide) ?_
  exact ⟨rfl, rfl, by rw [pj_up_n (by omega), pj_up_n (by omega), pj_up_n (by omega), pj_up_s], by rw [pj_up_n (by omega), pj_up_n (by omega), pj_up_s], by rw [pj_up_n (by omega), pj_up_s], pj_up_s, fun q q1 q2 q3 q4 => by rw [pj_up_n q4, pj_up_n q3, pj_up_n q2, pj_up_n q1]⟩
theorem c_X9_keepAct (h0 : h k = some (.inr (8, gd_To k τ ac))) (a6 : h (k + 6) = some (.inl (0, 24, .inl fs))) (a7 : h (k + 7) = some (.inl (0, 24, .inl fp))) (a8 : h (k + 8) = some (.inl (0, 24, .inl fb))) (hac : ac ≤ 24) (s p b : Int32) : pj_Ct E B l Y_X9_keepAct 2 0 0 [.ref k, .int s, .int p, .int b] h n (fun r h' n' => r = none ∧ n' = n ∧ h' k = some (.inr (8, gd_To k τ (gd_kn ac))) ∧ (∃ fs' fp' fb', h' (k + 6) = some (.inl (0, 24, .inl fs')) ∧ h' (k + 7) = some (.inl (0, 24, .inl fp')) ∧ h' (k + 8) = some (.inl (0, 24, .inl fb')) ∧ gd_kf fs fs' ac s ∧ gd_kf fp fp' ac p ∧ gd_kf fb fb' ac b) ∧ ∀ q, q ≠ k → q ≠ k + 6 → q ≠ k + 7 → q ≠ k + 8 → h' q = h q) := by
  refine pj_in rfl (ls := [some (.ref k), some (.int (s)), some (.int (p)), some (.int (b))]) rfl (Nat.le_of_ble_eq_true rfl) ?_
  have second : ∀ h1 a f6 f7 f8, a < 24 → a + 1 = gd_kn ac → h1 k = some (.inr (8, gd_To k τ a)) → h1 (k + 6) = some (.inl (0, 24, .inl f6)) → h1 (k + 7) = some (.inl (0, 24, .inl f7)) → h1 (k + 8) = some (.inl (0, 24, .inl f8)) → (∀ j, j < a → f6 j = if ac = 24 then fs (j + 1) else fs j) → (∀ j, j < a → f7 j = if ac = 24 then fp (j + 1) else fp j) → (∀ j, j < a → f8 j = if ac = 24 then fb (j + 1) else fb j) → (∀ q, q ≠ k → q ≠ k + 6 → q ≠ k + 7 → q ≠ k + 8 → h1 q = h q) → pj_V E B l Y_X9_keepAct 2 0 0 13 [some (.ref k), some (.int (s)), some (.int (p)), some (.int (b))] [] h1 n 0 0 (fun r h' n' => r = none ∧ n' = n ∧ h' k = some (.inr (8, gd_To k τ (gd_kn ac))) ∧ (∃ fs' fp' fb', h' (k + 6) = some (.inl (0, 24, .inl fs')) ∧ h' (k + 7) = some (.inl (0, 24, .inl fp')) ∧ h' (k + 8) = some (.inl (0, 24, .inl fb')) ∧ gd_kf fs fs' ac s ∧ gd_kf fp fp' ac p ∧ gd_kf fb fb' ac b) ∧ ∀ q, q ≠ k → q ≠ k + 6 → q ≠ k + 7 → q ≠ k + 8 → h' q = h q) := by
    intro h1 a f6 f7 f8 ha hkn m0 m6 m7 m8 g6 g7 g8 hq
    refine pj_ald0 (q := 14) (pj_d p_X9_keepAct 6 rfl) rfl ?_
    refine pj_gf (q := 17) (k := 8) (pj_d p_X9_keepAct 7 rfl) rfl kX9_28 (by repeat first | assumption | exact pj_up_s | refine (pj_up_n (by omega)).trans ?_) (by rfl) (by rfl) ?_
    refine pj_ald0 (q := 18) (pj_d p_X9_keepAct 8 rfl) rfl ?_
    refine pj_gf (q := 21) (k := 11) (pj_d p_X9_keepAct 9 rfl) rfl kX9_81 (by repeat first | assumption | exact pj_up_s | refine (pj_up_n (by omega)).trans ?_) (by rfl) (by rfl) ?_
    refine pj_ild1 (q := 22) (pj_d p_X9_keepAct 10 rfl) rfl ?_
    refine pj_iast (q := 23) (pj_d p_X9_keepAct 11 rfl) rfl (by repeat first | assumption | exact pj_up_s | refine (pj_up_n (by omega)).trans ?_) (by rfl) (by first | assumption | omega) (Nat.le_of_ble_eq_true rfl) ?_
    refine pj_ald0 (q := 24) (pj_d p_X9_keepAct 12 rfl) rfl ?_
    refine pj_gf (q := 27) (k := 9) (pj_d p_X9_keepAct 13 rfl) rfl kX9_31 (by repeat first | assumption | exact pj_up_s | refine (pj_up_n (by omega)).trans ?_) (by rfl) (by rfl) ?_
    refine pj_ald0 (q := 28) (pj_d p_X9_keepAct 14 rfl) rfl ?_
    refine pj_gf (q := 31) (k := 11) (pj_d p_X9_keepAct 15 rfl) rfl kX9_81 (by repeat first | assumption | exact pj_up_s | refine (pj_up_n (by omega)).trans ?_) (by rfl) (by rfl) ?_
    refine pj_ild2 (q := 32) (pj_d p_X9_keepAct 16 rfl) rfl ?_
    refine pj_iast (q := 33) (pj_d p_X9_keepAct 17 rfl) rfl (by repeat first | assumption | exact pj_up_s | refine (pj_up_n (by omega)).trans ?_) (by rfl) (by first | assumption | omega) (Nat.le_of_ble_eq_true rfl) ?_
    refine pj_ald0 (q := 34) (pj_d p_X9_keepAct 18 rfl) rfl ?_
    refine pj_gf (q := 37) (k := 10) (pj_d p_X9_keepAct 19 rfl) rfl kX9_34 (by repeat first | assumption | exact pj_up_s | refine (pj_up_n (by omega)).trans ?_) (by rfl) (by rfl) ?_
    refine pj_ald0 (q := 38) (pj_d p_X9_keepAct 20 rfl) rfl ?_
    refine pj_gf (q := 41) (k := 11) (pj_d p_X9_keepAct 21 rfl) rfl kX9_81 (by repeat first | assumption | exact pj_up_s | refine (pj_up_n (by omega)).trans ?_) (by rfl) (by rfl) ?_
    refine pj_ild3 (q := 42) (pj_d p_X9_keepAct 22 rfl) rfl ?_
    refine pj_iast (q := 43) (pj_d p_X9_keepAct 23 rfl) rfl (by repeat first | assumption | exact pj_up_s | refine (pj_up_n (by omega)).trans ?_) (by rfl) (by first | assumption | omega) (Nat.le_of_ble_eq_true rfl) ?_
    refine pj_ald0 (q := 44) (pj_d p_X9_keepAct 24 rfl) rfl ?_
    refine pj_dup (q := 45) (pj_d p_X9_keepAct 25 rfl) rfl rfl ?_
    refine pj_gf (q := 48) (k := 11) (pj_d p_X9_keepAct 26 rfl) rfl kX9_81 (by repeat first | assumption | exact pj_up_s | refine (pj_up_n (by omega)).trans ?_) (by rfl) (by rfl) ?_
    refine pj_iconst (q := 49) (v := nI 1) (pj_d p_X9_keepAct 27 rfl) rfl (by decide) ?_
    refine pj_iadd (q := 50) (pj_d p_X9_keepAct 28 rfl) rfl ?_
    rw [nI_add]
    refine pj_pf (q := 53) (k := 11) (fs' := gd_To k τ (a + 1)) (pj_d p_X9_keepAct 29 rfl) rfl kX9_81 (by repeat first | assumption | exact pj_up_s | refine (pj_up_n (by omega)).trans ?_) (by rfl) (Or.inl rfl) (by rfl) (by rfl) (by rfl) (by show 11 < 12; decide) (by rfl) ?_
    refine pj_vret rfl (pj_d p_X9_keepAct 30 rfl) (by decide) (by decide) ?_
    rw [← hkn]
    exact ⟨rfl, rfl, pj_up_s, ⟨_, _, _, by rw [pj_up_n (by omega), pj_up_n (by omega), pj_up_n (by omega), pj_up_s], by rw [pj_up_n (by omega), pj_up_n (by omega), pj_up_s], by rw [pj_up_n (by omega), pj_up_s], gd_kf_of hkn g6, gd_kf_of hkn g7, gd_kf_of hkn g8⟩, fun q q1 q2 q3 q4 => by rw [pj_up_n q1, pj_up_n q4, pj_up_n q3, pj_up_n q2, hq q q1 q2 q3 q4]⟩
  refine pj_ald0 (q := 1) (pj_d p_X9_keepAct 0 rfl) rfl ?_
  refine pj_gf (q := 4) (k := 11) (pj_d p_X9_keepAct 1 rfl) rfl kX9_81 (by repeat first | assumption | exact pj_up_s | refine (pj_up_n (by omega)).trans ?_) (by rfl) (by rfl) ?_
  refine pj_bipush (q := 6) (v := nI 24) (pj_d p_X9_keepAct 2 rfl) rfl (by decide) ?_
  refine pj_icmp_lt (t := 13) (q := 9) (pj_d p_X9_keepAct 3 rfl) rfl (by decide) (fun c1 => ?_) (fun c1 => ?_)
  · have hlt : ac < 24 := (nI_ltI (by omega) (by omega)).mp c1
    have hne : ¬ ac = 24 := by omega
    exact second h ac fs fp fb hlt (by rw [gd_kn, if_neg hne]) h0 a6 a7 a8 (fun j _ => by rw [if_neg hne]) (fun j _ => by rw [if_neg hne]) (fun j _ => by rw [if_neg hne]) (fun _ _ _ _ _ => rfl)
  have h24 : ac = 24 := by
    have : ¬ ac < 24 := fun q => c1 (nI_lt q (by omega))
    omega
  subst h24
  refine pj_ald0 (q := 10) (pj_d p_X9_keepAct 4 rfl) rfl ?_
  refine pj_cv (pj_rV (q := 13) (c_X9_forgetOldestAct h0 a6 a7 a8) (pj_d p_X9_keepAct 5 rfl) rfl kX9_120 o_X9_forgetOldestAct (by repeat first | assumption | exact pj_up_s | refine (pj_up_n (by omega)).trans ?_) (by rfl) (by rfl) (by rfl) (by rfl) (Nat.le_of_ble_eq_true rfl) (by decide)) (by decide) (by decide) ?_
  rintro r1 h1 n1 ⟨rfl, rfl, m0, m6, m7, m8, hq⟩
  have cp : ∀ f : Nat → Int32, ∀ j, j < 23 → va_cpy f f 1 0 23 j = if 24 = 24 then f (j + 1) else f j := by
    intro f j hj
    rw [va_cpy, if_pos (by omega), if_pos rfl]
    congr 1
    omega
  exact second h1 23 _ _ _ (by omega) rfl m0 m6 m7 m8 (cp fs) (cp fp) (cp fb) hq
theorem c_X9_setColourOn (hT0 : h k = some (.inr (8, gd_To k τ ac))) {f : Nat → Int32} (h1 : h (k + 1) = some (.inl (0, 7, .inl f))) {w : Nat} (hw : w < 7) (x : Int32) : pj_Ct E B l Y_X9_setColourOn 1 0 0 [.ref k, .int (nI w), .int x] h n (fun r h' n' => r = none ∧ n' = n ∧ h' = pj_up h (k + 1) (.inl (0, 7, .inl (upd f w x)))) := by
  refine pj_in rfl (ls := [some (.ref k), some (.int (nI w)), some (.int (x))]) rfl (Nat.le_of_ble_eq_true rfl) ?_
  refine pj_ild1 (q := 1) (pj_d p_X9_setColourOn 0 rfl) rfl ?_
  refine pj_if_lt (t := 17) (q := 4) (pj_d p_X9_setColourOn 1 rfl) rfl (by decide) (fun c1 => ?_) (fun c1 => ?_)
  · exact absurd c1 (nI_pos (by omega))
  refine pj_ild1 (q := 5) (pj_d p_X9_setColourOn 2 rfl) rfl ?_
  refine pj_bipush (q := 7) (v := nI 7) (pj_d p_X9_setColourOn 3 rfl) rfl (by decide) ?_
  refine pj_icmp_ge (t := 17) (q := 10) (pj_d p_X9_setColourOn 4 rfl) rfl (by decide) (fun c2 => ?_) (fun c2 => ?_)
  · exact absurd (gd_ge c2 (by omega) (by omega)) (by omega)
  refine pj_ald0 (q := 11) (pj_d p_X9_setColourOn 5 rfl) rfl ?_
  refine pj_gf (q := 14) (k := 0) (pj_d p_X9_setColourOn 6 rfl) rfl kX9_9 (by repeat first | assumption | exact pj_up_s | refine (pj_up_n (by omega)).trans ?_) (by rfl) (by rfl) ?_
  refine pj_ild1 (q := 15) (pj_d p_X9_setColourOn 7 rfl) rfl ?_
  refine pj_ild2 (q := 16) (pj_d p_X9_setColourOn 8 rfl) rfl ?_
  refine pj_iast (q := 17) (pj_d p_X9_setColourOn 9 rfl) rfl (by repeat first | assumption | exact pj_up_s | refine (pj_up_n (by omega)).trans ?_) (by rfl) (by first | assumption | omega) (Nat.le_of_ble_eq_true rfl) ?_
  refine pj_vret rfl (pj_d p_X9_setColourOn 10 rfl) (by decide) (by decide) ?_
  exact ⟨rfl, rfl, rfl⟩
theorem c_X8_mixAnew {a kd i sh mx : Nat} (hk : 1 ≤ kd ∧ kd ≤ 5) (ha : h a = some (.inr (gd_tc kd, [.int (nI i), .int (nI sh), .int (nI mx)]))) (x : Int32) : pj_Ct E B l Y_X8_mixAnew 1 0 0 [.ref a, .int x] h n (fun r h' n' => r = none ∧ n' = n ∧ h' = pj_up h a (.inr (gd_tc kd, [.int (nI i), .int (nI sh), .int x]))) := by
  refine pj_in rfl (ls := [some (.ref a), some (.int (x))]) rfl (Nat.le_of_ble_eq_true rfl) ?_
  have hF : pj_fld (gd_tc kd) 2 = some ("GreyDays$Thing", "mix", "I", false) := by rcases gd_kd hk.1 hk.2 with rfl | rfl | rfl | rfl | rfl <;> rfl
  refine pj_ald0 (q := 1) (pj_d p_X8_mixAnew 0 rfl) rfl ?_
  refine pj_ild1 (q := 2) (pj_d p_X8_mixAnew 1 rfl) rfl ?_
  refine pj_pf (q := 5) (k := 2) (fs' := [.int (nI i), .int (nI sh), .int x]) (pj_d p_X8_mixAnew 2 rfl) rfl kX8_13 ha hF (Or.inl rfl) rfl rfl rfl (by show 2 < 3; decide) rfl ?_
  refine pj_vret rfl (pj_d p_X8_mixAnew 3 rfl) (by decide) (by decide) ?_
  exact ⟨rfl, rfl, rfl⟩
def gd_PA (r0 : Option Value) (t' : gd_TT) (h : pj_H) (k : Nat) (c1 n : Nat) : Option Value → pj_H → Nat → Prop := fun r h' n' => r = r0 ∧ n' = n ∧ gd_T h' k t'.1 t'.2.2 ∧ gd_AX h' k t' ∧ ∀ q, (q < k ∨ k + 9 + c1 ≤ q) → h' q = h q
theorem c_X9_passDays (hT : gd_T h k t.1 t.2.2) (hA : gd_AX h k t) (hW : gd_WT t) (h1 : t.1 0 = 1) {c : Nat} (hc : c ≤ 24) (h9 : t.1 3 + c ≤ 999) : pj_Ct E B l Y_X9_passDays 3 0 0 [.ref k, .int (nI c)] h n (gd_PA none (gd_dn c t) h k (t.1 1) n) := by
  refine pj_in rfl (ls := [some (.ref k), some (.int (nI c)), none]) rfl (Nat.le_of_ble_eq_true rfl) ?_
  refine pj_iconst (q := 1) (v := nI 0) (pj_d p_X9_passDays 0 rfl) rfl (by decide) ?_
  refine pj_ist2 (q := 2) (pj_d p_X9_passDays 1 rfl) rfl (by first | rfl | assumption) ?_
  have loop : ∀ m i h', gd_T h' k (gd_dn i t).1 (gd_dn i t).2.2 → gd_AX h' k (gd_dn i t) → (∀ q, (q < k ∨ k + 9 + t.1 1 ≤ q) → h' q = h q) → (gd_dn i t).1 1 = t.1 1 → c - i < m → i ≤ c → pj_V E B l Y_X9_passDays 3 0 0 2 [some (.ref k), some (.int (nI c)), some (.int (nI i))] [] h' n 0 0 (gd_PA none (gd_dn c t) h k (t.1 1) n) := by
    intro m
    induction m with
    | zero => intro i h' _ _ _ _ hi; omega
    | succ m ih =>
      intro i h' hT' hA' hq' e1 hi hle
      have h0 : h' k = some (.inr (8, gd_To k (gd_dn i t).1 (gd_dn i t).2.2)) := hT'.1
      refine pj_ild2 (q := 3) (pj_d p_X9_passDays 2 rfl) rfl ?_
      refine pj_ild1 (q := 4) (pj_d p_X9_passDays 3 rfl) rfl ?_
      refine pj_icmp_ge (t := 33) (q := 7) (pj_d p_X9_passDays 4 rfl) rfl (by decide) (fun c1 => ?_) (fun c1 => ?_)
      · have he : i = c := by have := gd_ge c1 (by omega) (by omega); omega
        subst he
        refine pj_vret rfl (pj_d p_X9_passDays 19 rfl) (by decide) (by decide) ?_
        exact ⟨rfl, rfl, hT', hA', hq'⟩
      have hlt : i < c := gd_lt c1 (by omega)
      have w3 := (gd_WT_dn hW h1 i (by omega)).1
      obtain ⟨fs, fp, fb, a6, a7, a8, hAR⟩ := hA'
      refine pj_ald0 (q := 8) (pj_d p_X9_passDays 5 rfl) rfl ?_
      refine pj_iconst (q := 9) (v := nI 0) (pj_d p_X9_passDays 6 rfl) rfl (by decide) ?_
      refine pj_iconst (q := 10) (v := nI 0) (pj_d p_X9_passDays 7 rfl) rfl (by decide) ?_
      refine pj_ald0 (q := 11) (pj_d p_X9_passDays 8 rfl) rfl ?_
      refine pj_gf (q := 14) (k := 7) (pj_d p_X9_passDays 9 rfl) rfl kX9_62 (by repeat first | assumption | exact pj_up_s | refine (pj_up_n (by omega)).trans ?_) (by rfl) (by rfl) ?_
      refine pj_cv (pj_rV (q := 17) (c_X9_keepAct h0 a6 a7 a8 w3.2.2.1 (nI 0) (nI 0) (nI ((gd_dn i t).1 3))) (pj_d p_X9_passDays 10 rfl) rfl kX9_106 o_X9_keepAct (by repeat first | assumption | exact pj_up_s | refine (pj_up_n (by omega)).trans ?_) (by rfl) (by rfl) (by rfl) (by rfl) (Nat.le_of_ble_eq_true rfl) (by decide)) (by decide) (by decide) ?_
      rintro r1 h1 n1 ⟨rfl, rfl, b0, ⟨fs', fp', fb', b6, b7, b8, k6, k7, k8⟩, hq1⟩
      refine pj_ald0 (q := 18) (pj_d p_X9_passDays 11 rfl) rfl ?_
      refine pj_dup (q := 19) (pj_d p_X9_passDays 12 rfl) rfl rfl ?_
      refine pj_gf (q := 22) (k := 7) (pj_d p_X9_passDays 13 rfl) rfl kX9_62 (by repeat first | assumption | exact pj_up_s | refine (pj_up_n (by omega)).trans ?_) (by rfl) (by rfl) ?_
      refine pj_iconst (q := 23) (v := nI 1) (pj_d p_X9_passDays 14 rfl) rfl (by decide) ?_
      refine pj_iadd (q := 24) (pj_d p_X9_passDays 15 rfl) rfl ?_
      rw [nI_add]
      refine pj_pf (q := 27) (k := 7) (fs' := gd_To k (gd_dn (i + 1) t).1 (gd_dn (i + 1) t).2.2) (pj_d p_X9_passDays 16 rfl) rfl kX9_62 (by repeat first | assumption | exact pj_up_s | refine (pj_up_n (by omega)).trans ?_) (by rfl) (Or.inl rfl) (by rfl) (by rfl) (by rfl) (by show 7 < 12; decide) (by rfl) ?_
      refine pj_iinc2 (q := 30) (v := 1) (pj_d p_X9_passDays 17 rfl) rfl (by first | rfl | assumption) (by decide) ?_
      refine pj_goto (t := 2) (pj_d p_X9_passDays 18 rfl) (by decide) ?_
      rw [nI_1]
      have hud : gd_ud (nI 0) (nI 0) (nI ((gd_dn i t).1 3)) (gd_dn (i + 1) t).1 (gd_dn i t).1 := by
        refine ⟨3, (gd_dn i t).1 3, fun z hz => ?_, rfl, Or.inl ⟨rfl, rfl⟩⟩
        show _ = gd_set (gd_set (gd_dn i t).1 3 ((gd_dn i t).1 3 + 1)) 3 ((gd_dn i t).1 3) z
        rw [gd_set, gd_set]
        by_cases e : z = 3
        · rw [if_pos e, e]
        · rw [if_neg e, if_neg e]
      refine ih (i + 1) _ ?_ ⟨fs', fp', fb', (pj_up_n (by omega)).trans b6, (pj_up_n (by omega)).trans b7, (pj_up_n (by omega)).trans b8, gd_AR_act hAR w3.2.2.1 k6 k7 k8 hud⟩ (fun q hq => by rw [pj_up_n (by omega), hq1 q (by omega) (by omega) (by omega) (by omega), hq' q hq]) e1 (by omega) (by omega)
      obtain ⟨f, c1, c2⟩ := hT'.2.1
      exact hT'.of w3.1.2.1 pj_up_s rfl rfl (fun j hj => gd_set_n (by omega)) ⟨f, by rw [pj_up_n (by omega), hq1 _ (by omega) (by omega) (by omega) (by omega)]; exact c1, fun j hj => by rw [c2 j hj]; exact congrArg nI (gd_set_n (by omega)).symm⟩ (fun z hz => by
        rw [pj_up_n (by omega), hq1 _ (by omega) (by omega) (by omega) (by omega), hT'.2.2.2.1 z hz]
        show (_ : Option pj_C) = some (.inr (gd_tc (gd_set _ 3 _ _), [.int (nI z), .int (nI (gd_set _ 3 _ _)), .int (nI (gd_set _ 3 _ _))]))
        rw [gd_set_n (by omega), gd_set_n (by omega), gd_set_n (by omega)]) (fun q q1 q2 => by rw [pj_up_n (by omega), hq1 q (by omega) (by omega) (by omega) (by omega)])
  exact loop (c + 1) 0 h hT hA (fun _ _ => rfl) rfl (by omega) (by omega)
theorem c_X9_changeWeek (hT : gd_T h k t.1 t.2.2) (hA : gd_AX h k t) (hW : gd_WT t) {w x : Nat} (hw : w < 7) (hx : x ≤ 5) : pj_Ct E B l Y_X9_changeWeek 3 0 0 [.ref k, .int (nI w), .int (nI x)] h n (gd_PA (some (.int (nI (t.1 (4 + w))))) (gd_act t (gd_set t.1 (4 + w) x)) h k (t.1 1) n) := by
  refine pj_in rfl (ls := [some (.ref k), some (.int (nI w)), some (.int (nI x)), none]) rfl (Nat.le_of_ble_eq_true rfl) ?_
  have h0 : h k = some (.inr (8, gd_To k t.1 t.2.2)) := hT.1
  refine pj_ald0 (q := 1) (pj_d p_X9_changeWeek 0 rfl) rfl ?_
  refine pj_ild1 (q := 2) (pj_d p_X9_changeWeek 1 rfl) rfl ?_
  refine pj_cp (pj_rV (q := 5) (c_X9_colourOn hT hw) (pj_d p_X9_changeWeek 2 rfl) rfl kX9_113 o_X9_colourOn (by repeat first | assumption | exact pj_up_s | refine (pj_up_n (by omega)).trans ?_) (by rfl) (by rfl) (by rfl) (by rfl) (Nat.le_of_ble_eq_true rfl) (by decide)) (by decide) (by decide) ?_
  obtain ⟨fs, fp, fb, a6, a7, a8, hAR⟩ := hA
  refine pj_ist3 (q := 6) (pj_d p_X9_changeWeek 3 rfl) rfl (by first | rfl | assumption) ?_
  refine pj_ald0 (q := 7) (pj_d p_X9_changeWeek 4 rfl) rfl ?_
  refine pj_iconst (q := 8) (v := nI 2) (pj_d p_X9_changeWeek 5 rfl) rfl (by decide) ?_
  refine pj_ild1 (q := 9) (pj_d p_X9_changeWeek 6 rfl) rfl ?_
  refine pj_ild3 (q := 10) (pj_d p_X9_changeWeek 7 rfl) rfl ?_
  refine pj_cv (pj_rV (q := 13) (c_X9_keepAct h0 a6 a7 a8 hW.2.2.1 (nI 2) (nI w) (nI (t.1 (4 + w)))) (pj_d p_X9_changeWeek 8 rfl) rfl kX9_106 o_X9_keepAct (by repeat first | assumption | exact pj_up_s | refine (pj_up_n (by omega)).trans ?_) (by rfl) (by rfl) (by rfl) (by rfl) (Nat.le_of_ble_eq_true rfl) (by decide)) (by decide) (by decide) ?_
  rintro r1 h1 n1 ⟨rfl, rfl, b0, ⟨fs', fp', fb', b6, b7, b8, k6, k7, k8⟩, hq1⟩
  obtain ⟨f, c1, c2⟩ := hT.2.1
  have c1' : h1 (k + 1) = some (.inl (0, 7, .inl f)) := by rw [hq1 _ (by omega) (by omega) (by omega) (by omega)]; exact c1
  refine pj_ald0 (q := 14) (pj_d p_X9_changeWeek 9 rfl) rfl ?_
  refine pj_ild1 (q := 15) (pj_d p_X9_changeWeek 10 rfl) rfl ?_
  refine pj_ild2 (q := 16) (pj_d p_X9_changeWeek 11 rfl) rfl ?_
  refine pj_cv (pj_rV (q := 19) (c_X9_setColourOn b0 c1' hw (nI x)) (pj_d p_X9_changeWeek 12 rfl) rfl kX9_116 o_X9_setColourOn (by repeat first | assumption | exact pj_up_s | refine (pj_up_n (by omega)).trans ?_) (by rfl) (by rfl) (by rfl) (by rfl) (Nat.le_of_ble_eq_true rfl) (by decide)) (by decide) (by decide) ?_
  rintro r2 h2 n2 ⟨rfl, rfl, rfl⟩
  refine pj_ild3 (q := 20) (pj_d p_X9_changeWeek 13 rfl) rfl ?_
  refine pj_iret rfl (pj_d p_X9_changeWeek 14 rfl) (by decide) (by decide) ?_
  have hud : gd_ud (nI 2) (nI w) (nI (t.1 (4 + w))) (gd_set t.1 (4 + w) x) t.1 := by
    refine ⟨4 + w, t.1 (4 + w), fun z hz => ?_, rfl, Or.inr (Or.inl ⟨rfl, w, hw, rfl, rfl⟩)⟩
    rw [gd_set, gd_set]
    by_cases e : z = 4 + w
    · rw [if_pos e, e]
    · rw [if_neg e, if_neg e]
  have e1 : gd_set t.1 (4 + w) x 1 = t.1 1 := gd_set_n (by omega)
  have e2 : gd_set t.1 (4 + w) x 2 = t.1 2 := gd_set_n (by omega)
  have e3 : gd_set t.1 (4 + w) x 3 = t.1 3 := gd_set_n (by omega)
  refine ⟨rfl, rfl, ?_, ⟨fs', fp', fb', (pj_up_n (by omega)).trans b6, (pj_up_n (by omega)).trans b7, (pj_up_n (by omega)).trans b8, gd_AR_act hAR hW.2.2.1 k6 k7 k8 hud⟩, fun q hq => by rw [pj_up_n (by omega), hq1 q (by omega) (by omega) (by omega) (by omega)]⟩
  refine hT.of hW.1.2.1 ?_ e1 e2 (fun j hj => gd_set_n (by omega)) ⟨_, pj_up_s, fun j hj => ?_⟩ (fun z hz => ?_) (fun q q1 q2 => by rw [pj_up_n (by omega), hq1 q (by omega) (by omega) (by omega) (by omega)])
  · rw [pj_up_n (by omega), b0]
    show (_ : Option pj_C) = some (.inr (8, gd_To k (gd_set t.1 (4 + w) x) (gd_kn t.2.2)))
    rw [gd_To, gd_To, e1, e2, e3]
  · show _ = nI (gd_set t.1 (4 + w) x (4 + j))
    rw [gd_upd]
    by_cases e : j = w
    · rw [if_pos e, e, gd_set_s]
    · rw [if_neg e, gd_set_n (by omega), c2 j hj]
  · rw [pj_up_n (by omega), hq1 _ (by omega) (by omega) (by omega) (by omega), hT.2.2.2.1 z hz]
    have z7 := hW.1.1
    show (_ : Option pj_C) = some (.inr (gd_tc (gd_set _ _ _ _), [.int (nI z), .int (nI (gd_set _ _ _ _)), .int (nI (gd_set _ _ _ _))]))
    rw [gd_set_n (by omega), gd_set_n (by omega), gd_set_n (by omega)]
theorem c_X9_repaint (hT : gd_T h k t.1 t.2.2) (hA : gd_AX h k t) (hW : gd_WT t) {i x : Nat} (hi : i < t.1 1) (hx : x < 32) : pj_Ct E B l Y_X9_repaint 3 0 0 [.ref k, .int (nI i), .int (nI x)] h n (gd_PA (some (.int (nI (t.1 (12 + 3 * i))))) (gd_act t (gd_set t.1 (12 + 3 * i) x)) h k (t.1 1) n) := by
  refine pj_in rfl (ls := [some (.ref k), some (.int (nI i)), some (.int (nI x)), none]) rfl (Nat.le_of_ble_eq_true rfl) ?_
  have h7 := hW.1.1
  have h0 : h k = some (.inr (8, gd_To k t.1 t.2.2)) := hT.1
  obtain ⟨f, d1, d2⟩ := hT.2.2.1
  have ki := (hW.1.2.2.2.2.1 i hi).1
  refine pj_ald0 (q := 1) (pj_d p_X9_repaint 0 rfl) rfl ?_
  refine pj_ild1 (q := 2) (pj_d p_X9_repaint 1 rfl) rfl ?_
  refine pj_cp (pj_rV (q := 5) (c_X9_hasThing hT h7 (nI i)) (pj_d p_X9_repaint 2 rfl) rfl kX9_91 o_X9_hasThing (by repeat first | assumption | exact pj_up_s | refine (pj_up_n (by omega)).trans ?_) (by rfl) (by rfl) (by rfl) (by rfl) (Nat.le_of_ble_eq_true rfl) (by decide)) (by decide) (by decide) ?_
  refine pj_if_ne (t := 10) (q := 8) (pj_d p_X9_repaint 3 rfl) rfl (by decide) (fun c1 => ?_) (fun c1 => ?_)
  rotate_left
  · exact absurd ((gd_has_iff h7).mpr ⟨i, hi, rfl⟩) (by rw [(gd_b_z _).mp c1]; decide)
  refine pj_ald0 (q := 11) (pj_d p_X9_repaint 6 rfl) rfl ?_
  refine pj_gf (q := 14) (k := 1) (pj_d p_X9_repaint 7 rfl) rfl kX9_15 (by repeat first | assumption | exact pj_up_s | refine (pj_up_n (by omega)).trans ?_) (by rfl) (by rfl) ?_
  refine pj_ild1 (q := 15) (pj_d p_X9_repaint 8 rfl) rfl ?_
  refine pj_aald (t := 2) (q := 16) rfl rfl (pj_d p_X9_repaint 9 rfl) rfl d1 (by rfl) (by first | assumption | omega) (by decide) ?_
  rw [d2 i hi]
  refine pj_cp (vX9_46 (q := 19) rfl (hT.2.2.2.1 i hi) ki (c_X8_mixed (hT.2.2.2.1 i hi) ki) (pj_d p_X9_repaint 10 rfl) rfl rfl rfl (Nat.le_of_ble_eq_true rfl) (by decide)) (by decide) (by decide) ?_
  obtain ⟨fs, fp, fb, a6, a7, a8, hAR⟩ := hA
  refine pj_ist3 (q := 20) (pj_d p_X9_repaint 11 rfl) rfl (by first | rfl | assumption) ?_
  refine pj_ald0 (q := 21) (pj_d p_X9_repaint 12 rfl) rfl ?_
  refine pj_iconst (q := 22) (v := nI 1) (pj_d p_X9_repaint 13 rfl) rfl (by decide) ?_
  refine pj_ild1 (q := 23) (pj_d p_X9_repaint 14 rfl) rfl ?_
  refine pj_ild3 (q := 24) (pj_d p_X9_repaint 15 rfl) rfl ?_
  refine pj_cv (pj_rV (q := 27) (c_X9_keepAct h0 a6 a7 a8 hW.2.2.1 (nI 1) (nI i) (nI (t.1 (12 + 3 * i)))) (pj_d p_X9_repaint 16 rfl) rfl kX9_106 o_X9_keepAct (by repeat first | assumption | exact pj_up_s | refine (pj_up_n (by omega)).trans ?_) (by rfl) (by rfl) (by rfl) (by rfl) (Nat.le_of_ble_eq_true rfl) (by decide)) (by decide) (by decide) ?_
  rintro r1 h1 n1 ⟨rfl, rfl, b0, ⟨fs', fp', fb', b6, b7, b8, k6, k7, k8⟩, hq1⟩
  have d1' : h1 (k + 2) = some (.inl (2, 7, .inr (.inr (.inr (.inr f))))) := by rw [hq1 _ (by omega) (by omega) (by omega) (by omega)]; exact d1
  have ti : h1 (k + 9 + i) = _ := (hq1 _ (by omega) (by omega) (by omega) (by omega)).trans (hT.2.2.2.1 i hi)
  refine pj_ald0 (q := 28) (pj_d p_X9_repaint 17 rfl) rfl ?_
  refine pj_gf (q := 31) (k := 1) (pj_d p_X9_repaint 18 rfl) rfl kX9_15 (by repeat first | assumption | exact pj_up_s | refine (pj_up_n (by omega)).trans ?_) (by rfl) (by rfl) ?_
  refine pj_ild1 (q := 32) (pj_d p_X9_repaint 19 rfl) rfl ?_
  refine pj_aald (t := 2) (q := 33) rfl rfl (pj_d p_X9_repaint 20 rfl) rfl d1' (by rfl) (by first | assumption | omega) (by decide) ?_
  rw [d2 i hi]
  refine pj_ild2 (q := 34) (pj_d p_X9_repaint 21 rfl) rfl ?_
  refine pj_cv (vX9_109 (q := 37) rfl ti ki (c_X8_mixAnew ki ti (nI x)) (pj_d p_X9_repaint 22 rfl) rfl rfl rfl (Nat.le_of_ble_eq_true rfl) (by decide)) (by decide) (by decide) ?_
  rintro r2 h2 n2 ⟨rfl, rfl, rfl⟩
  refine pj_ild3 (q := 38) (pj_d p_X9_repaint 23 rfl) rfl ?_
  refine pj_iret rfl (pj_d p_X9_repaint 24 rfl) (by decide) (by decide) ?_
  have hud : gd_ud (nI 1) (nI i) (nI (t.1 (12 + 3 * i))) (gd_set t.1 (12 + 3 * i) x) t.1 := by
    refine ⟨12 + 3 * i, t.1 (12 + 3 * i), fun z hz => ?_, rfl, Or.inr (Or.inr ⟨rfl, i, by rw [gd_set_n (by omega)]; exact hi, rfl, rfl⟩)⟩
    rw [gd_set, gd_set]
    by_cases e : z = 12 + 3 * i
    · rw [if_pos e, e]
    · rw [if_neg e, if_neg e]
  have e1 : gd_set t.1 (12 + 3 * i) x 1 = t.1 1 := gd_set_n (by omega)
  have e2 : gd_set t.1 (12 + 3 * i) x 2 = t.1 2 := gd_set_n (by omega)
  have e3 : gd_set t.1 (12 + 3 * i) x 3 = t.1 3 := gd_set_n (by omega)
  refine ⟨rfl, rfl, ?_, ⟨fs', fp', fb', (pj_up_n (by omega)).trans b6, (pj_up_n (by omega)).trans b7, (pj_up_n (by omega)).trans b8, gd_AR_act hAR hW.2.2.1 k6 k7 k8 hud⟩, fun q hq => by rw [pj_up_n (by omega), hq1 q (by omega) (by omega) (by omega) (by omega)]⟩
  obtain ⟨f1, c1, c2⟩ := hT.2.1
  refine hT.of hW.1.2.1 ?_ e1 e2 (fun j hj => gd_set_n (by omega)) ⟨f1, by rw [pj_up_n (by omega), hq1 _ (by omega) (by omega) (by omega) (by omega)]; exact c1, fun j hj => by rw [c2 j hj]; exact congrArg nI (gd_set_n (by omega)).symm⟩ (fun z hz => ?_) (fun q q1 q2 => by rw [pj_up_n (by omega), hq1 q (by omega) (by omega) (by omega) (by omega)])
  · rw [pj_up_n (by omega), b0]
    show (_ : Option pj_C) = some (.inr (8, gd_To k (gd_set t.1 (12 + 3 * i) x) (gd_kn t.2.2)))
    rw [gd_To, gd_To, e1, e2, e3]
  · show (_ : Option pj_C) = some (.inr (gd_tc (gd_set t.1 (12 + 3 * i) x (11 + 3 * z)), [.int (nI z), .int (nI (gd_set t.1 (12 + 3 * i) x (13 + 3 * z))), .int (nI (gd_set t.1 (12 + 3 * i) x (12 + 3 * z)))]))
    rw [gd_set_n (show 11 + 3 * z ≠ 12 + 3 * i by omega), gd_set_n (show 13 + 3 * z ≠ 12 + 3 * i by omega)]
    by_cases e : z = i
    · subst e
      rw [pj_up_s, gd_set_s]
    · rw [pj_up_n (by omega), hq1 _ (by omega) (by omega) (by omega) (by omega), hT.2.2.2.1 z hz, gd_set_n (by omega)]
theorem c_X9_undoLatest (hT : gd_T h k t.1 t.2.2) (hA : gd_AX h k t) (hW : gd_WT t) (hac : ¬ t.2.2 = 0) : pj_Ct E B l Y_X9_undoLatest 2 0 0 [.ref k] h n (gd_PA none (gd_back t) h k (t.1 1) n) := by
  refine pj_in rfl (ls := [some (.ref k), none, none]) rfl (Nat.le_of_ble_eq_true rfl) ?_
  have h7 := hW.1.1
  have h24 := hW.2.2.1
  have h0 : h k = some (.inr (8, gd_To k t.1 t.2.2)) := hT.1
  obtain ⟨f, d1, d2⟩ := hT.2.2.1
  obtain ⟨f1, c1, c2⟩ := hT.2.1
  obtain ⟨fs, fp, fb, a6, a7, a8, hAR⟩ := hA
  obtain ⟨z, x, hz, hb, hcs⟩ := hAR (t.2.2 - 1) (by omega)
  rw [if_pos (by omega)] at hz hcs
  have hτ : ∀ i, i < 56 → (gd_back t).1 i = gd_set t.1 z x i := fun i hi => by
    show (if i < 56 then t.2.1 (t.2.2 - 1) i else t.1 i) = _
    rw [if_pos hi, hz i hi]
  have hAR' : gd_AR (gd_back t) fs fp fb := by
    intro j hj
    have hj : j < t.2.2 - 1 := hj
    have := hAR j (by omega)
    rw [if_neg (by omega)] at this
    refine gd_ud_cong (fun i hi => ?_) this
    show (if j + 1 = t.2.2 - 1 then (gd_back t).1 else t.2.1 (j + 1)) i = _
    by_cases e : j + 1 = t.2.2 - 1
    · rw [if_pos e, e]
      exact if_pos hi
    · rw [if_neg e]
  refine pj_ald0 (q := 1) (pj_d p_X9_undoLatest 0 rfl) rfl ?_
  refine pj_gf (q := 4) (k := 11) (pj_d p_X9_undoLatest 1 rfl) rfl kX9_81 (by repeat first | assumption | exact pj_up_s | refine (pj_up_n (by omega)).trans ?_) (by rfl) (by rfl) ?_
  refine pj_if_ne (t := 8) (q := 7) (pj_d p_X9_undoLatest 2 rfl) rfl (by decide) (fun c0 => ?_) (fun c0 => ?_)
  rotate_left
  · exact absurd ((nI_eq (by omega) (by omega)).mp (c0.trans nI_0.symm)) hac
  refine pj_ald0 (q := 9) (pj_d p_X9_undoLatest 4 rfl) rfl ?_
  refine pj_dup (q := 10) (pj_d p_X9_undoLatest 5 rfl) rfl rfl ?_
  refine pj_gf (q := 13) (k := 11) (pj_d p_X9_undoLatest 6 rfl) rfl kX9_81 (by repeat first | assumption | exact pj_up_s | refine (pj_up_n (by omega)).trans ?_) (by rfl) (by rfl) ?_
  refine pj_iconst (q := 14) (v := nI 1) (pj_d p_X9_undoLatest 7 rfl) rfl (by decide) ?_
  refine pj_isub (q := 15) (pj_d p_X9_undoLatest 8 rfl) rfl ?_
  rw [gd_sub (by omega)]
  refine pj_pf (q := 18) (k := 11) (fs' := gd_To k t.1 (t.2.2 - 1)) (pj_d p_X9_undoLatest 9 rfl) rfl kX9_81 (by repeat first | assumption | exact pj_up_s | refine (pj_up_n (by omega)).trans ?_) (by rfl) (Or.inl rfl) (by rfl) (by rfl) (by rfl) (by show 11 < 12; decide) (by rfl) ?_
  generalize hh1 : pj_up h k (.inr (8, gd_To k t.1 (t.2.2 - 1))) = h1
  have q1 : ∀ q, q ≠ k → h1 q = h q := fun q e => by rw [← hh1, pj_up_n e]
  have b0 : h1 k = some (.inr (8, gd_To k t.1 (t.2.2 - 1))) := by rw [← hh1, pj_up_s]
  have b1 : h1 (k + 1) = some (.inl (0, 7, .inl f1)) := by rw [q1 _ (by omega)]; exact c1
  have b2 : h1 (k + 2) = some (.inl (2, 7, .inr (.inr (.inr (.inr f))))) := by rw [q1 _ (by omega)]; exact d1
  have b6 : h1 (k + 6) = some (.inl (0, 24, .inl fs)) := by rw [q1 _ (by omega)]; exact a6
  have b7 : h1 (k + 7) = some (.inl (0, 24, .inl fp)) := by rw [q1 _ (by omega)]; exact a7
  have b8 : h1 (k + 8) = some (.inl (0, 24, .inl fb)) := by rw [q1 _ (by omega)]; exact a8
  have bT : gd_T h1 k t.1 (t.2.2 - 1) := hT.of hW.1.2.1 b0 rfl rfl (fun _ _ => rfl) ⟨f1, b1, c2⟩ (fun i hi => by rw [q1 _ (by omega)]; exact hT.2.2.2.1 i hi) (fun q _ _ => q1 q (by omega))
  refine pj_ald0 (q := 19) (pj_d p_X9_undoLatest 10 rfl) rfl ?_
  refine pj_gf (q := 22) (k := 9) (pj_d p_X9_undoLatest 11 rfl) rfl kX9_31 (by repeat first | assumption | exact pj_up_s | refine (pj_up_n (by omega)).trans ?_) (by rfl) (by rfl) ?_
  refine pj_ald0 (q := 23) (pj_d p_X9_undoLatest 12 rfl) rfl ?_
  refine pj_gf (q := 26) (k := 11) (pj_d p_X9_undoLatest 13 rfl) rfl kX9_81 (by repeat first | assumption | exact pj_up_s | refine (pj_up_n (by omega)).trans ?_) (by rfl) (by rfl) ?_
  refine pj_ialdN (q := 27) (pj_d p_X9_undoLatest 14 rfl) rfl (by repeat first | assumption | exact pj_up_s | refine (pj_up_n (by omega)).trans ?_) (by rfl) (by first | assumption | omega) (Nat.le_of_ble_eq_true rfl) ?_
  refine pj_ist1 (q := 28) (pj_d p_X9_undoLatest 15 rfl) rfl (by first | rfl | assumption) ?_
  refine pj_ald0 (q := 29) (pj_d p_X9_undoLatest 16 rfl) rfl ?_
  refine pj_gf (q := 32) (k := 10) (pj_d p_X9_undoLatest 17 rfl) rfl kX9_34 (by repeat first | assumption | exact pj_up_s | refine (pj_up_n (by omega)).trans ?_) (by rfl) (by rfl) ?_
  refine pj_ald0 (q := 33) (pj_d p_X9_undoLatest 18 rfl) rfl ?_
  refine pj_gf (q := 36) (k := 11) (pj_d p_X9_undoLatest 19 rfl) rfl kX9_81 (by repeat first | assumption | exact pj_up_s | refine (pj_up_n (by omega)).trans ?_) (by rfl) (by rfl) ?_
  refine pj_ialdN (q := 37) (pj_d p_X9_undoLatest 20 rfl) rfl (by repeat first | assumption | exact pj_up_s | refine (pj_up_n (by omega)).trans ?_) (by rfl) (by first | assumption | omega) (Nat.le_of_ble_eq_true rfl) ?_
  rw [hb]
  refine pj_ist2 (q := 38) (pj_d p_X9_undoLatest 21 rfl) rfl (by first | rfl | assumption) ?_
  refine pj_ald0 (q := 39) (pj_d p_X9_undoLatest 22 rfl) rfl ?_
  refine pj_gf (q := 42) (k := 8) (pj_d p_X9_undoLatest 23 rfl) rfl kX9_28 (by repeat first | assumption | exact pj_up_s | refine (pj_up_n (by omega)).trans ?_) (by rfl) (by rfl) ?_
  refine pj_ald0 (q := 43) (pj_d p_X9_undoLatest 24 rfl) rfl ?_
  refine pj_gf (q := 46) (k := 11) (pj_d p_X9_undoLatest 25 rfl) rfl kX9_81 (by repeat first | assumption | exact pj_up_s | refine (pj_up_n (by omega)).trans ?_) (by rfl) (by rfl) ?_
  refine pj_ialdN (q := 47) (pj_d p_X9_undoLatest 26 rfl) rfl (by repeat first | assumption | exact pj_up_s | refine (pj_up_n (by omega)).trans ?_) (by rfl) (by first | assumption | omega) (Nat.le_of_ble_eq_true rfl) ?_
  rcases hcs with ⟨s1, rfl⟩ | ⟨s1, w, hw, s2, rfl⟩ | ⟨s1, i, hi, s2, rfl⟩
  · rw [s1]
    refine pj_if_ne (t := 58) (q := 50) (pj_d p_X9_undoLatest 27 rfl) rfl (by decide) (fun c3 => ?_) (fun c3 => ?_)
    · exact absurd rfl c3
    refine pj_ald0 (q := 51) (pj_d p_X9_undoLatest 28 rfl) rfl ?_
    refine pj_ild2 (q := 52) (pj_d p_X9_undoLatest 29 rfl) rfl ?_
    refine pj_pf (q := 55) (k := 7) (fs' := gd_To k (gd_set t.1 3 x) (t.2.2 - 1)) (pj_d p_X9_undoLatest 30 rfl) rfl kX9_62 (by repeat first | assumption | exact pj_up_s | refine (pj_up_n (by omega)).trans ?_) (by rfl) (Or.inl rfl) (by rfl) (by rfl) (by rfl) (by show 7 < 12; decide) (by rfl) ?_
    refine pj_goto (t := 98) (pj_d p_X9_undoLatest 31 rfl) (by decide) ?_
    refine pj_vret rfl (pj_d p_X9_undoLatest 54 rfl) (by decide) (by decide) ?_
    refine ⟨rfl, rfl, ?_, ⟨fs, fp, fb, (pj_up_n (by omega)).trans b6, (pj_up_n (by omega)).trans b7, (pj_up_n (by omega)).trans b8, hAR'⟩, fun q hq => by rw [pj_up_n (by omega), q1 q (by omega)]⟩
    refine bT.of hW.1.2.1 ?_ (hτ 1 (by omega)) (hτ 2 (by omega)) (fun j hj => (hτ _ (by omega)).trans (gd_set_n (by omega))) ⟨f1, (pj_up_n (by omega)).trans b1, fun j hj => by rw [hτ _ (by omega), gd_set_n (by omega)]; exact c2 j hj⟩ (fun i hi => ?_) (fun q q1 q2 => pj_up_n (by omega))
    · rw [pj_up_s, gd_To, gd_To, hτ 1 (by omega), hτ 2 (by omega), hτ 3 (by omega)]
      rfl
    · rw [pj_up_n (by omega), bT.2.2.2.1 i hi, hτ _ (by omega), hτ _ (by omega), hτ _ (by omega), gd_set_n (by omega), gd_set_n (by omega), gd_set_n (by omega)]
  · rw [s1, s2]
    refine pj_if_ne (t := 58) (q := 50) (pj_d p_X9_undoLatest 27 rfl) rfl (by decide) (fun c3 => ?_) (fun c3 => ?_)
    rotate_left
    · exact absurd c3 (by decide)
    refine pj_ald0 (q := 59) (pj_d p_X9_undoLatest 32 rfl) rfl ?_
    refine pj_gf (q := 62) (k := 8) (pj_d p_X9_undoLatest 33 rfl) rfl kX9_28 (by repeat first | assumption | exact pj_up_s | refine (pj_up_n (by omega)).trans ?_) (by rfl) (by rfl) ?_
    refine pj_ald0 (q := 63) (pj_d p_X9_undoLatest 34 rfl) rfl ?_
    refine pj_gf (q := 66) (k := 11) (pj_d p_X9_undoLatest 35 rfl) rfl kX9_81 (by repeat first | assumption | exact pj_up_s | refine (pj_up_n (by omega)).trans ?_) (by rfl) (by rfl) ?_
    refine pj_ialdN (q := 67) (pj_d p_X9_undoLatest 36 rfl) rfl (by repeat first | assumption | exact pj_up_s | refine (pj_up_n (by omega)).trans ?_) (by rfl) (by first | assumption | omega) (Nat.le_of_ble_eq_true rfl) ?_
    rw [s1]
    refine pj_iconst (q := 68) (v := nI 2) (pj_d p_X9_undoLatest 37 rfl) rfl (by decide) ?_
    refine pj_icmp_ne (t := 80) (q := 71) (pj_d p_X9_undoLatest 38 rfl) rfl (by decide) (fun c4 => ?_) (fun c4 => ?_)
    · exact absurd rfl c4
    refine pj_ald0 (q := 72) (pj_d p_X9_undoLatest 39 rfl) rfl ?_
    refine pj_ild1 (q := 73) (pj_d p_X9_undoLatest 40 rfl) rfl ?_
    refine pj_ild2 (q := 74) (pj_d p_X9_undoLatest 41 rfl) rfl ?_
    refine pj_cv (pj_rV (q := 77) (c_X9_setColourOn b0 b1 hw (nI x)) (pj_d p_X9_undoLatest 42 rfl) rfl kX9_116 o_X9_setColourOn (by repeat first | assumption | exact pj_up_s | refine (pj_up_n (by omega)).trans ?_) (by rfl) (by rfl) (by rfl) (by rfl) (Nat.le_of_ble_eq_true rfl) (by decide)) (by decide) (by decide) ?_
    rintro r2 h2 n2 ⟨rfl, rfl, rfl⟩
    refine pj_goto (t := 98) (pj_d p_X9_undoLatest 43 rfl) (by decide) ?_
    refine pj_vret rfl (pj_d p_X9_undoLatest 54 rfl) (by decide) (by decide) ?_
    refine ⟨rfl, rfl, ?_, ⟨fs, fp, fb, (pj_up_n (by omega)).trans b6, (pj_up_n (by omega)).trans b7, (pj_up_n (by omega)).trans b8, hAR'⟩, fun q hq => by rw [pj_up_n (by omega), q1 q (by omega)]⟩
    refine bT.of hW.1.2.1 ?_ ((hτ 1 (by omega)).trans (gd_set_n (by omega))) ((hτ 2 (by omega)).trans (gd_set_n (by omega))) (fun j hj => (hτ _ (by omega)).trans (gd_set_n (by omega))) ⟨_, pj_up_s, fun j hj => ?_⟩ (fun i hi => ?_) (fun q q1 q2 => pj_up_n (by omega))
    · rw [pj_up_n (by omega), b0, gd_To, gd_To, hτ 1 (by omega), hτ 2 (by omega), hτ 3 (by omega), gd_set_n (by omega), gd_set_n (by omega), gd_set_n (by omega)]
      rfl
    · rw [gd_upd, hτ _ (by omega)]
      by_cases e : j = w
      · rw [if_pos e, e, gd_set_s]
      · rw [if_neg e, gd_set_n (by omega), c2 j hj]
    · rw [pj_up_n (by omega), bT.2.2.2.1 i hi, hτ _ (by omega), hτ _ (by omega), hτ _ (by omega), gd_set_n (by omega), gd_set_n (by omega), gd_set_n (by omega)]
  · rw [s1, s2]
    have ki := (hW.1.2.2.2.2.1 i hi).1
    refine pj_if_ne (t := 58) (q := 50) (pj_d p_X9_undoLatest 27 rfl) rfl (by decide) (fun c3 => ?_) (fun c3 => ?_)
    rotate_left
    · exact absurd c3 (by decide)
    refine pj_ald0 (q := 59) (pj_d p_X9_undoLatest 32 rfl) rfl ?_
    refine pj_gf (q := 62) (k := 8) (pj_d p_X9_undoLatest 33 rfl) rfl kX9_28 (by repeat first | assumption | exact pj_up_s | refine (pj_up_n (by omega)).trans ?_) (by rfl) (by rfl) ?_
    refine pj_ald0 (q := 63) (pj_d p_X9_undoLatest 34 rfl) rfl ?_
    refine pj_gf (q := 66) (k := 11) (pj_d p_X9_undoLatest 35 rfl) rfl kX9_81 (by repeat first | assumption | exact pj_up_s | refine (pj_up_n (by omega)).trans ?_) (by rfl) (by rfl) ?_
    refine pj_ialdN (q := 67) (pj_d p_X9_undoLatest 36 rfl) rfl (by repeat first | assumption | exact pj_up_s | refine (pj_up_n (by omega)).trans ?_) (by rfl) (by first | assumption | omega) (Nat.le_of_ble_eq_true rfl) ?_
    rw [s1]
    refine pj_iconst (q := 68) (v := nI 2) (pj_d p_X9_undoLatest 37 rfl) rfl (by decide) ?_
    refine pj_icmp_ne (t := 80) (q := 71) (pj_d p_X9_undoLatest 38 rfl) rfl (by decide) (fun c4 => ?_) (fun c4 => ?_)
    rotate_left
    · exact absurd c4 (by decide)
    refine pj_ald0 (q := 81) (pj_d p_X9_undoLatest 44 rfl) rfl ?_
    refine pj_ild1 (q := 82) (pj_d p_X9_undoLatest 45 rfl) rfl ?_
    refine pj_cp (pj_rV (q := 85) (c_X9_hasThing bT h7 (nI i)) (pj_d p_X9_undoLatest 46 rfl) rfl kX9_91 o_X9_hasThing (by repeat first | assumption | exact pj_up_s | refine (pj_up_n (by omega)).trans ?_) (by rfl) (by rfl) (by rfl) (by rfl) (Nat.le_of_ble_eq_true rfl) (by decide)) (by decide) (by decide) ?_
    refine pj_if_eq (t := 98) (q := 88) (pj_d p_X9_undoLatest 47 rfl) rfl (by decide) (fun c5 => ?_) (fun c5 => ?_)
    · exact absurd ((gd_has_iff h7).mpr ⟨i, hi, rfl⟩) (by rw [(gd_b_z _).mp c5]; decide)
    refine pj_ald0 (q := 89) (pj_d p_X9_undoLatest 48 rfl) rfl ?_
    refine pj_gf (q := 92) (k := 1) (pj_d p_X9_undoLatest 49 rfl) rfl kX9_15 (by repeat first | assumption | exact pj_up_s | refine (pj_up_n (by omega)).trans ?_) (by rfl) (by rfl) ?_
    refine pj_ild1 (q := 93) (pj_d p_X9_undoLatest 50 rfl) rfl ?_
    refine pj_aald (t := 2) (q := 94) rfl rfl (pj_d p_X9_undoLatest 51 rfl) rfl b2 (by rfl) (by first | assumption | omega) (by decide) ?_
    rw [d2 i hi]
    refine pj_ild2 (q := 95) (pj_d p_X9_undoLatest 52 rfl) rfl ?_
    refine pj_cv (vX9_109 (q := 98) rfl (bT.2.2.2.1 i hi) ki (c_X8_mixAnew ki (bT.2.2.2.1 i hi) (nI x)) (pj_d p_X9_undoLatest 53 rfl) rfl rfl rfl (Nat.le_of_ble_eq_true rfl) (by decide)) (by decide) (by decide) ?_
    rintro r2 h2 n2 ⟨rfl, rfl, rfl⟩
    refine pj_vret rfl (pj_d p_X9_undoLatest 54 rfl) (by decide) (by decide) ?_
    refine ⟨rfl, rfl, ?_, ⟨fs, fp, fb, (pj_up_n (by omega)).trans b6, (pj_up_n (by omega)).trans b7, (pj_up_n (by omega)).trans b8, hAR'⟩, fun q hq => by rw [pj_up_n (by omega), q1 q (by omega)]⟩
    refine bT.of hW.1.2.1 ?_ ((hτ 1 (by omega)).trans (gd_set_n (by omega))) ((hτ 2 (by omega)).trans (gd_set_n (by omega))) (fun j hj => (hτ _ (by omega)).trans (gd_set_n (by omega))) ⟨f1, (pj_up_n (by omega)).trans b1, fun j hj => by rw [hτ _ (by omega), gd_set_n (by omega)]; exact c2 j hj⟩ (fun z hz => ?_) (fun q q1 q2 => pj_up_n (by omega))
    · rw [pj_up_n (by omega), b0, gd_To, gd_To, hτ 1 (by omega), hτ 2 (by omega), hτ 3 (by omega), gd_set_n (by omega), gd_set_n (by omega), gd_set_n (by omega)]
      rfl
    · rw [hτ (11 + 3 * z) (by omega), hτ (13 + 3 * z) (by omega), hτ (12 + 3 * z) (by omega), gd_set_n (show 11 + 3 * z ≠ 12 + 3 * i by omega), gd_set_n (show 13 + 3 * z ≠ 12 + 3 * i by omega)]
      by_cases e : z = i
      · subst e
        rw [pj_up_s, gd_set_s]
      · rw [pj_up_n (by omega), bT.2.2.2.1 z hz, gd_set_n (by omega)]
end
