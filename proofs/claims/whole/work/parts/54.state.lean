/-! ===== the whole state: the class and the model side by side ===== -/
def gd_PN (po : Option Nat) (h : pj_H) (b n : Nat) (t : gd_TT) : Prop := match po with
  | none => t.1 0 = 0 ∧ t.1 1 = 0
  | some k => b + 35 ≤ k ∧ t.1 0 = 1 ∧ gd_T h k t.1 t.2.2 ∧ gd_AX h k t ∧ k + 9 + t.1 1 ≤ n
def gd_sep (po : Option Nat) (fo : Nat → Option Nat) (I : gd_I) (c1 : Nat) : Prop := ∀ i k κ k', i < 2 → po = some k → fo i = some k' → I i = some κ → k' + 9 + κ 1 ≤ k ∨ k + 9 + c1 ≤ k'
def gd_CI (h : pj_H) (b n : Nat) (s : gd_S) (y : (Nat → Nat) × Nat) (lf : Int32) (t : gd_TT) (I : gd_I) (K : gd_KT) : Prop := ∃ (po : Option Nat) (S : gd_PS) (fo : Nat → Option Nat) (m0 : Int32), h b = some (.inr (10, gd_XO b po lf s.1)) ∧ gd_RX h b s.2.1 s.2.2.1 s.2.2.2 ∧ h (b + 13) = some (.inr (7, gd_tpc (b + 13) y.2 S)) ∧ h (b + 14) = some (.inl (0, 120, .inl (fun j => nI (y.1 j)))) ∧ gd_F h (b + 15) ∧ gd_KX h (b + 19) K m0 ∧ gd_IX h b n fo I ∧ gd_PN po h b n t ∧ gd_sep po fo I (t.1 1) ∧ b + 35 ≤ n
def gd_MI (h : pj_H) (g : Nat) (s : gd_S) (y : (Nat → Nat) × Nat) (lf : Int32) (t : gd_TT) (I : gd_I) (K : gd_KT) : Prop := ∃ v, h g = some (.inr (11, gd_Mo g v)) ∧ (v 0 = nI 0 ∧ v 1 = s.1 ∧ v 8 = nI t.2.2 ∧ v 10 = nI y.2 ∧ v 17 = lf ∧ v 23 = nI K.2) ∧ gd_RM h g s.2.1 s.2.2.1 s.2.2.2 ∧ h (g + 4) = some (.inl (0, 56, .inl (fun j => nI (t.1 j)))) ∧ (∃ F, h (g + 5) = some (.inl (0, 56, .inl F))) ∧ gd_AM h g t.2.1 t.2.2 ∧ h (g + 7) = some (.inl (0, 120, .inl (fun j => nI (y.1 j)))) ∧ (∃ f, h (g + 8) = some (.inl (0, 6, .inl f))) ∧ (∃ f, h (g + 9) = some (.inl (0, 896, .inl f))) ∧ gd_IM h g I ∧ h (g + 12) = some (.inl (0, 16, .inl K.1))
def gd_PU (s : gd_S) (y : (Nat → Nat) × Nat) (t : gd_TT) (K : gd_KT) : Prop := gd_RB s.2.1 s.2.2.1 ∧ y.2 ≤ 120 ∧ (∀ j, y.1 j < 256) ∧ gd_WT t ∧ (t.1 0 = 0 → t.1 2 = 0 ∧ t.1 3 = 0) ∧ K.2 ≤ 16
def gd_SX (h : pj_H) (b n : Nat) : Prop := ∃ s y lf t I K, gd_CI h b n s y lf t I K ∧ gd_MI h (b + 22) s y lf t I K ∧ gd_PU s y t K
theorem gd_F.out {h h' : pj_H} {f0 : Nat} (hF : gd_F h f0) (hq : ∀ q, f0 ≤ q → q ≤ f0 + 3 → h' q = h q) : gd_F h' f0 := by
  obtain ⟨h0, ⟨f1, h1⟩, ⟨f2, h2⟩, ⟨f3, h3⟩⟩ := hF
  exact ⟨by rw [hq _ (by omega) (by omega)]; exact h0, ⟨f1, by rw [hq _ (by omega) (by omega)]; exact h1⟩, ⟨f2, by rw [hq _ (by omega) (by omega)]; exact h2⟩, ⟨f3, by rw [hq _ (by omega) (by omega)]; exact h3⟩⟩
theorem gd_KX.out {h h' : pj_H} {a0 : Nat} {K : gd_KT} {m : Int32} (hK : gd_KX h a0 K m) (hq : ∀ q, a0 ≤ q → q ≤ a0 + 1 → h' q = h q) : gd_KX h' a0 K m := ⟨by rw [hq _ (by omega) (by omega)]; exact hK.1, by rw [hq _ (by omega) (by omega)]; exact hK.2⟩
theorem gd_IX.out {h h' : pj_H} {b n n' : Nat} {fo : Nat → Option Nat} {I : gd_I} (hI : gd_IX h b n fo I) (hn : n ≤ n') (h21 : h' (b + 21) = h (b + 21)) (hq : ∀ i k κ q, i < 2 → fo i = some k → I i = some κ → k ≤ q → q < k + 9 + κ 1 → h' q = h q) : gd_IX h' b n' fo I := by
  refine ⟨by rw [h21]; exact hI.1, fun i hi => ?_⟩
  rcases hI.2 i hi with x | ⟨k, κ, x1, x2, x3, x4, x5, x6, x7⟩
  · exact Or.inl x
  · exact Or.inr ⟨k, κ, x1, x2, x3.out (fun q q1 q2 => hq i k κ q hi x1 x2 q1 q2), x4, by omega, x6, x7⟩
theorem gd_PN.out {po : Option Nat} {h h' : pj_H} {b n n' : Nat} {t : gd_TT} (hP : gd_PN po h b n t) (hn : n ≤ n') (hq : ∀ k q, po = some k → k ≤ q → q < k + 9 + t.1 1 → h' q = h q) : gd_PN po h' b n' t := by
  cases po with
  | none => exact hP
  | some k =>
    obtain ⟨x1, x2, x3, x4, x5⟩ := hP
    exact ⟨x1, x2, x3.out (fun q q1 q2 => hq k q rfl q1 q2), x4.out (fun q q1 q2 => hq k q rfl (by omega) (by omega)), by omega⟩
theorem gd_PN.lo {po : Option Nat} {h : pj_H} {b n : Nat} {t : gd_TT} (hP : gd_PN po h b n t) : ∀ k, po = some k → b + 35 ≤ k ∧ k + 9 + t.1 1 ≤ n := by
  intro k e
  subst e
  exact ⟨hP.1, hP.2.2.2.2⟩
theorem gd_IX.lo {h : pj_H} {b n : Nat} {fo : Nat → Option Nat} {I : gd_I} (hI : gd_IX h b n fo I) {i k : Nat} {κ : Nat → Nat} (hi : i < 2) (e1 : fo i = some k) (e2 : I i = some κ) : b + 35 ≤ k ∧ k + 9 + κ 1 ≤ n := by
  rcases hI.2 i hi with ⟨x1, -⟩ | ⟨k', κ', x1, x2, -, x4, x5, -⟩
  · rw [x1] at e1; cases e1
  · rw [x1] at e1
    rw [x2] at e2
    cases e1
    cases e2
    exact ⟨x4, x5⟩
theorem gd_CI.out {h h' : pj_H} {b n n' : Nat} {s : gd_S} {y : (Nat → Nat) × Nat} {lf : Int32} {t : gd_TT} {I : gd_I} {K : gd_KT} (hC : gd_CI h b n s y lf t I K) (hn : n ≤ n') (hq : ∀ q, (b ≤ q ∧ q ≤ b + 21) ∨ (b + 35 ≤ q ∧ q < n) → h' q = h q) : gd_CI h' b n' s y lf t I K := by
  obtain ⟨po, S, fo, m0, hx, hR, hTp, hBy, hF, hK, hI, hP, hSep, hbn⟩ := hC
  exact ⟨po, S, fo, m0, by rw [hq _ (by omega)]; exact hx, hR.out (fun q q1 q2 => hq q (by omega)), by rw [hq _ (by omega)]; exact hTp, by rw [hq _ (by omega)]; exact hBy, hF.out (fun q q1 q2 => hq q (by omega)), hK.out (fun q q1 q2 => hq q (by omega)), hI.out hn (hq _ (by omega)) (fun i k κ q hi e1 e2 q1 q2 => by have := hI.lo hi e1 e2; exact hq q (by omega)), hP.out hn (fun k q e q1 q2 => by have := hP.lo k e; exact hq q (by omega)), hSep, by omega⟩
/-- only Foretold's rows change -/
theorem gd_CI.scr {h h' : pj_H} {b n : Nat} {s : gd_S} {y : (Nat → Nat) × Nat} {lf : Int32} {t : gd_TT} {I : gd_I} {K : gd_KT} (hC : gd_CI h b n s y lf t I K) (hF' : gd_F h' (b + 15)) (hq : ∀ q, q ≠ b + 16 → q ≠ b + 17 → q ≠ b + 18 → h' q = h q) : gd_CI h' b n s y lf t I K := by
  obtain ⟨po, S, fo, m0, hx, hR, hTp, hBy, hF, hK, hI, hP, hSep, hbn⟩ := hC
  exact ⟨po, S, fo, m0, by rw [hq _ (by omega) (by omega) (by omega)]; exact hx, hR.out (fun q q1 q2 => hq q (by omega) (by omega) (by omega)), by rw [hq _ (by omega) (by omega) (by omega)]; exact hTp, by rw [hq _ (by omega) (by omega) (by omega)]; exact hBy, hF', hK.out (fun q q1 q2 => hq q (by omega) (by omega) (by omega)), hI.out (Nat.le_refl _) (hq _ (by omega) (by omega) (by omega)) (fun i k κ q hi e1 e2 q1 q2 => by have := hI.lo hi e1 e2; exact hq q (by omega) (by omega) (by omega)), hP.out (Nat.le_refl _) (fun k q e q1 q2 => by have := hP.lo k e; exact hq q (by omega) (by omega) (by omega)), hSep, hbn⟩
theorem gd_AM.out {h h' : pj_H} {g : Nat} {A : Nat → Nat → Nat} {ac : Nat} (hA : gd_AM h g A ac) (e : h' (g + 6) = h (g + 6)) : gd_AM h' g A ac := by
  obtain ⟨f, h1, h2⟩ := hA
  exact ⟨f, by rw [e]; exact h1, h2⟩
theorem gd_IM.out {h h' : pj_H} {g : Nat} {I : gd_I} (hI : gd_IM h g I) (e1 : h' (g + 10) = h (g + 10)) (e2 : h' (g + 11) = h (g + 11)) : gd_IM h' g I := by
  obtain ⟨fz, fk, h1, h2, h3⟩ := hI
  exact ⟨fz, fk, by rw [e1]; exact h1, by rw [e2]; exact h2, h3⟩
theorem gd_MI.out {h h' : pj_H} {g : Nat} {s : gd_S} {y : (Nat → Nat) × Nat} {lf : Int32} {t : gd_TT} {I : gd_I} {K : gd_KT} (hM : gd_MI h g s y lf t I K) (hq : ∀ q, g ≤ q → q ≤ g + 12 → h' q = h q) : gd_MI h' g s y lf t I K := by
  obtain ⟨v, m1, mv, mR, m4, ⟨F, m5⟩, mA, m7, ⟨f8, m8⟩, ⟨f9, m9⟩, mI, m12⟩ := hM
  exact ⟨v, by rw [hq _ (by omega) (by omega)]; exact m1, mv, mR.out (fun q q1 q2 => hq q (by omega) (by omega)), by rw [hq _ (by omega) (by omega)]; exact m4, ⟨F, by rw [hq _ (by omega) (by omega)]; exact m5⟩, mA.out (hq _ (by omega) (by omega)), by rw [hq _ (by omega) (by omega)]; exact m7, ⟨f8, by rw [hq _ (by omega) (by omega)]; exact m8⟩, ⟨f9, by rw [hq _ (by omega) (by omega)]; exact m9⟩, mI.out (hq _ (by omega) (by omega)) (hq _ (by omega) (by omega)), by rw [hq _ (by omega) (by omega)]; exact m12⟩
theorem gd_XR_of {h : pj_H} {b n : Nat} {po : Option Nat} {lf st : Int32} {t : gd_TT} (hx : h b = some (.inr (10, gd_XO b po lf st))) (hF : gd_F h (b + 15)) (hW : gd_WT t) (hP : gd_PN po h b n t) : gd_XR h b po lf st t.1 t.2.2 := by
  refine ⟨hx, hF, hW.1, ?_⟩
  cases po with
  | none => exact hP
  | some k => exact ⟨hP.1, hP.2.1, hP.2.2.1⟩
def gd_rI (r : Option Value) : Prop := ∃ x, r = some (.int x)
def gd_rL (r : Option Value) : Prop := ∃ x, r = some (.long x)
/-- a call of the class, the same of the model: one answer, and the state holds again -/
def gd_stp (E : pj_E) (B : Nat) (l : Launch) (YX YM : pj_Y) (dX dM mc ms : Nat) (R : Option Value → Prop) (As : List Value) (h : pj_H) (n : Nat) : Prop := ∃ PX, pj_Ct E B l YX dX mc ms (.ref B :: As) h n PX ∧ ∀ r h' n', PX r h' n' → R r ∧ (∃ fs, h' (B + 22) = some (.inr (11, fs))) ∧ ∃ PM, pj_Ct E B l YM dM 0 0 (.ref (B + 22) :: As) h' n' PM ∧ ∀ r2 h2 n2, PM r2 h2 n2 → r2 = r ∧ gd_SX h2 B n2
theorem gd_RB_row {s : gd_S} {r x c : Int32} (h : gd_RB s.2.1 s.2.2.1) : gd_RB (sp_row r x c s).2.2.1 (sp_row r x c s).2.2.2.1 := by
  rw [sp_row]
  split
  · rename_i e
    simp only [Bool.and_eq_true, decide_eq_true_eq] at e
    split
    · exact h
    · rename_i e2
      intro q hq
      dsimp only
      by_cases z : q = r.toNatClampNeg
      · rw [if_pos z, if_pos z]
        obtain ⟨j, hj, e3, -⟩ := gd_rng_of (hi := 2) e.1.2
        refine ⟨Or.inr ⟨j, hj, e3⟩, ?_⟩
        obtain ⟨m, hm, rfl⟩ := nI_of (x := c) (by rw [Int32.lt_iff_toInt_lt, show (0 : Int32).toInt = 0 by decide]; omega)
        have := e.2
        rw [nI_toInt hm] at this
        rw [nI_clamp hm]
        omega
      · rw [if_neg z, if_neg z]
        exact h q hq
  · exact h
theorem gd_RB_set {s : gd_S} {r i x : Int32} (h : gd_RB s.2.1 s.2.2.1) : gd_RB (sp_set r i x s).2.2.1 (sp_set r i x s).2.2.2.1 := by
  rw [sp_set]
  split
  · split
    · split <;> exact h
    · exact h
  · exact h
theorem gd_RB_copy {s : gd_S} {a i r j c : Int32} (h : gd_RB s.2.1 s.2.2.1) : gd_RB (sp_copy a i r j c s).2.2.1 (sp_copy a i r j c s).2.2.2.1 := by
  rw [sp_copy]
  split
  · split
    · split
      · split <;> exact h
      · exact h
    · exact h
  · exact h
theorem gd_RB_drop {s : gd_S} {r : Int32} (h : gd_RB s.2.1 s.2.2.1) : gd_RB (sp_drop r s).2.2.1 (sp_drop r s).2.2.2.1 := by
  rw [sp_drop]
  split
  · split
    · intro q hq
      dsimp only
      by_cases z : q = r.toNatClampNeg
      · rw [if_pos z]
        exact ⟨Or.inl rfl, (h q hq).2⟩
      · rw [if_neg z]
        exact h q hq
    · exact h
  · exact h
theorem gd_PU_feed {s : gd_S} {y : (Nat → Nat) × Nat} {t : gd_TT} {K : gd_KT} {x : Int32} (h : gd_PU s y t K) : gd_PU s (sp_feed x y).2 t K := by
  obtain ⟨a1, a2, a3, a4⟩ := h
  refine ⟨a1, ?_, ?_, a4⟩
  · rw [sp_feed]
    split
    · split
      · show y.2 + 1 ≤ 120
        omega
      · exact a2
    · exact a2
  · intro j
    rw [sp_feed]
    split
    · rename_i e
      split
      · obtain ⟨m, hm, -, e2⟩ := gd_rng_of (hi := 255) e
        show gd_set y.1 y.2 x.toNatClampNeg j < 256
        rw [e2, gd_set]
        split
        · omega
        · exact a3 j
      · exact a3 j
    · exact a3 j
theorem gd_dn01 (t : gd_TT) : ∀ i, (gd_dn i t).1 0 = t.1 0 ∧ (gd_dn i t).1 1 = t.1 1
  | 0 => ⟨rfl, rfl⟩
  | i + 1 => by
    obtain ⟨a, b⟩ := gd_dn01 t i
    refine ⟨?_, ?_⟩
    · show gd_set (gd_dn i t).1 3 ((gd_dn i t).1 3 + 1) 0 = t.1 0
      rw [gd_set_n (by omega)]; exact a
    · show gd_set (gd_dn i t).1 3 ((gd_dn i t).1 3 + 1) 1 = t.1 1
      rw [gd_set_n (by omega)]; exact b
theorem gd_days01 (t : gd_TT) (d : Int32) : (sp_days d t).2.1 0 = t.1 0 ∧ (sp_days d t).2.1 1 = t.1 1 := by
  rw [sp_days]
  split
  · split
    · split
      · exact gd_dn01 t _
      · exact ⟨rfl, rfl⟩
    · exact ⟨rfl, rfl⟩
  · exact ⟨rfl, rfl⟩
theorem gd_paint01 (t : gd_TT) (x m : Int32) : (sp_paint x m t).2.1 0 = t.1 0 ∧ (sp_paint x m t).2.1 1 = t.1 1 := by
  rw [sp_paint]
  split
  · split
    · exact ⟨gd_set_n (by omega), gd_set_n (by omega)⟩
    · exact ⟨rfl, rfl⟩
  · exact ⟨rfl, rfl⟩
theorem gd_miss01 (t : gd_TT) (w c : Int32) : (sp_miss w c t).2.1 0 = t.1 0 ∧ (sp_miss w c t).2.1 1 = t.1 1 := by
  rw [sp_miss]
  split
  · split
    · exact ⟨gd_set_n (by omega), gd_set_n (by omega)⟩
    · exact ⟨rfl, rfl⟩
  · exact ⟨rfl, rfl⟩
theorem gd_undo01 {h : pj_H} {k : Nat} {t : gd_TT} (hA : gd_AX h k t) : (sp_undo t).2.1 0 = t.1 0 ∧ (sp_undo t).2.1 1 = t.1 1 := by
  obtain ⟨fs, fp, fb, -, -, -, hR⟩ := hA
  rw [sp_undo]
  split
  · exact ⟨rfl, rfl⟩
  · rename_i e
    obtain ⟨z, x, h1, -, h3⟩ := hR (t.2.2 - 1) (by omega)
    rw [if_pos (by omega)] at h1
    have zz : 3 ≤ z := by
      rcases h3 with q | q | q
      · omega
      · obtain ⟨-, w, -, -, q⟩ := q
        omega
      · obtain ⟨-, w, -, -, q⟩ := q
        omega
    refine ⟨?_, ?_⟩
    · show (if 0 < 56 then t.2.1 (t.2.2 - 1) 0 else t.1 0) = t.1 0
      rw [if_pos (by omega), h1 0 (by omega), gd_set_n (by omega)]
    · show (if 1 < 56 then t.2.1 (t.2.2 - 1) 1 else t.1 1) = t.1 1
      rw [if_pos (by omega), h1 1 (by omega), gd_set_n (by omega)]
