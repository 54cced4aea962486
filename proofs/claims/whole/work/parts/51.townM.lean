/-! ===== the model's town, feed ===== -/
theorem gd_mu_letter {c : Nat → Nat} {L x : Nat} {S : gd_PS} (e : S.2.1 = 0) (hx : 97 ≤ x ∧ x ≤ 122) : gd_mu c L (decide (S.2.1 = 0 ∧ S.1 < L ∧ c S.1 = x)) S = gd_tb c L x S := by
  by_cases q : S.1 < L ∧ c S.1 = x
  · rw [decide_eq_true ⟨e, q⟩, gd_mu, if_pos rfl, if_pos e, gd_tb, if_pos e, if_pos q, gd_cu, if_pos q.1, if_neg (fun z => by have := gd_dg_iff.mp z; omega), ← e]
  · rw [decide_eq_false (fun z => q z.2), gd_mu, if_neg (by decide), gd_tb, if_pos e, if_neg q, gd_fa, if_pos e]
theorem gd_ks_tok {c : Nat → Nat} {L p : Nat} (h : ¬ gd_ks c L p = 0) : gd_tok c L p = 2 := by
  have hp := (gd_ks_in h).1
  rw [gd_ks, if_pos hp] at h
  refine gd_tok2.mpr ⟨hp, ?_⟩
  by_cases e1 : c p = 100
  · omega
  by_cases e2 : c p = 119
  · omega
  by_cases e3 : c p = 115
  · omega
  by_cases e4 : c p = 105
  · omega
  by_cases e5 : c p = 102
  · omega
  exact absurd (by rw [gd_kl, if_neg e1, if_neg e2, if_neg e3, if_neg e4, if_neg e5]) h
theorem gd_ths_0 {c : Nat → Nat} {L m : Nat} {s : gd_RS} (h : gd_ks c L s.1.1 = 0) : gd_ths c L m s = s := by
  cases m with
  | zero => rfl
  | succ m =>
    rw [gd_ths, if_pos h]
    split <;> rfl
/-- what the model's town leaves -/
def gd_TW (P : gd_RS) (τ : Nat → Nat) (v : Nat → Int32) (h : pj_H) (g n : Nat) : Option Value → pj_H → Nat → Prop := fun r h' n' => n' = n ∧ ∃ v' F', h' g = some (.inr (11, gd_Mo g v')) ∧ h' (g + 5) = some (.inl (0, 56, .inl F')) ∧ (∀ i, (i < 10 ∧ i ≠ 8) ∨ 17 < i → v' i = v i) ∧ v' 10 = nI 0 ∧ (∀ q, q ≠ g → q ≠ g + 4 → q ≠ g + 5 → h' q = h q) ∧ ((P.1.2.1 = 0 ∧ r = some (.int (nI (P.2 1))) ∧ v' 8 = nI 0 ∧ v' 17 = v 17 ∧ h' (g + 4) = some (.inl (0, 56, .inl (fun j => nI (if j < 56 then P.2 j else τ j))))) ∨ (¬ P.1.2.1 = 0 ∧ r = some (.int (-1000100 - nI P.1.2.2)) ∧ v' 8 = v 8 ∧ v' 17 = nI P.1.2.1 ∧ h' (g + 4) = h (g + 4)))
section
variable {E : pj_E} {B : Nat} {l : Launch} {h h' : pj_H} {n g L : Nat} {c : Nat → Nat} {v : Nat → Int32} {S : gd_PS} {s : gd_RS} {F : Nat → Int32} {τ : Nat → Nat} {P : gd_RS}
theorem c_X12_failed (hM : h g = some (.inr (11, gd_Mo g v))) (hS : gd_MS c L v S) (hB : gd_PB L S) {S' : gd_PS} (hS' : (if S.1 < L then gd_fa S S.1 1 else S) = S') : pj_Ct E B l Y_X12_failed 2 0 0 [.ref g] h n (fun r h' n' => r = some (.int (gd_b (decide (¬ S'.2.1 = 0)))) ∧ n' = n ∧ ∃ v', h' = pj_up h g (.inr (11, gd_Mo g v')) ∧ (∀ i, i < 10 ∨ 17 < i → v' i = v i) ∧ v' 10 = nI 0 ∧ (¬ S'.2.1 = 0 → v' 17 = nI S'.2.1 ∧ v' 16 = nI S'.2.2) ∧ (S'.2.1 = 0 → v' 17 = v 17)) := by
  have b2 := hB.2.1
  have pb' : gd_PB L S' := by
    rw [← hS']
    split
    · exact gd_PB_fa hB hB.1 (by omega)
    · exact hB
  have b3 := pb'.2.1
  refine pj_in rfl (ls := [some (.ref g)]) rfl (Nat.le_of_ble_eq_true rfl) ?_
  have rest : ∀ v1, gd_pv v v1 → gd_MS c L v1 S' → pj_V E B l Y_X12_failed 2 0 0 20 [some (.ref g)] [] (pj_up h g (.inr (11, gd_Mo g v1))) n 0 0 (fun r h' n' => r = some (.int (gd_b (decide (¬ S'.2.1 = 0)))) ∧ n' = n ∧ ∃ v', h' = pj_up h g (.inr (11, gd_Mo g v')) ∧ (∀ i, i < 10 ∨ 17 < i → v' i = v i) ∧ v' 10 = nI 0 ∧ (¬ S'.2.1 = 0 → v' 17 = nI S'.2.1 ∧ v' 16 = nI S'.2.2) ∧ (S'.2.1 = 0 → v' 17 = v 17)) := by
    intro v1 p1 s1
    refine pj_ald0 (q := 21) (pj_d p_X12_failed 10 rfl) rfl ?_
    refine pj_iconst (q := 22) (v := nI 0) (pj_d p_X12_failed 11 rfl) rfl (by decide) ?_
    refine pj_pf (q := 25) (k := 10) (fs' := gd_Mo g (upd v1 10 (nI 0))) (pj_d p_X12_failed 12 rfl) rfl kX12_74 (by first | assumption | exact pj_up_s | exact (pj_up_n (by omega)).trans (by assumption) | exact (pj_up_n (by omega)).trans pj_up_s) (by rfl) (Or.inl rfl) (by rfl) (by rfl) (by rfl) (by show 10 < 24; decide) (by rfl) ?_
    rw [pj_up_up]
    have k1 : ∀ i, i ≠ 10 → upd v1 10 (nI 0) i = v1 i := fun i hi => gd_upd_n hi
    have k2 : upd v1 10 (nI 0) 10 = nI 0 := gd_upd_s
    generalize upd v1 10 (nI 0) = v2 at k1 k2 ⊢
    have fin : ∀ x, (¬ S'.2.1 = 0 → x = nI S'.2.1) → (S'.2.1 = 0 → x = v 17) → pj_V E B l Y_X12_failed 2 0 0 44 [some (.ref g)] [.int x, .ref g] (pj_up h g (.inr (11, gd_Mo g v2))) n 0 0 (fun r h' n' => r = some (.int (gd_b (decide (¬ S'.2.1 = 0)))) ∧ n' = n ∧ ∃ v', h' = pj_up h g (.inr (11, gd_Mo g v')) ∧ (∀ i, i < 10 ∨ 17 < i → v' i = v i) ∧ v' 10 = nI 0 ∧ (¬ S'.2.1 = 0 → v' 17 = nI S'.2.1 ∧ v' 16 = nI S'.2.2) ∧ (S'.2.1 = 0 → v' 17 = v 17)) := by
      intro x x1 x2
      refine pj_pf (q := 47) (k := 17) (fs' := gd_Mo g (upd v2 17 x)) (pj_d p_X12_failed 22 rfl) rfl kX12_116 (by first | assumption | exact pj_up_s | exact (pj_up_n (by omega)).trans (by assumption) | exact (pj_up_n (by omega)).trans pj_up_s) (by rfl) (Or.inl rfl) (by rfl) (by rfl) (by rfl) (by show 17 < 24; decide) (by rfl) ?_
      rw [pj_up_up]
      have j1 : ∀ i, i ≠ 17 → upd v2 17 x i = v2 i := fun i hi => gd_upd_n hi
      have j2 : upd v2 17 x 17 = x := gd_upd_s
      generalize upd v2 17 x = v3 at j1 j2 ⊢
      have post : ∃ v', pj_up h g (.inr (11, gd_Mo g v3)) = pj_up h g (.inr (11, gd_Mo g v')) ∧ (∀ i, i < 10 ∨ 17 < i → v' i = v i) ∧ v' 10 = nI 0 ∧ (¬ S'.2.1 = 0 → v' 17 = nI S'.2.1 ∧ v' 16 = nI S'.2.2) ∧ (S'.2.1 = 0 → v' 17 = v 17) := ⟨v3, rfl, fun i hi => by rw [j1 i (by omega), k1 i (by omega), p1 i (by omega)], by rw [j1 10 (by omega)]; exact k2, fun q => ⟨by rw [j2, x1 q], by rw [j1 16 (by omega), k1 16 (by omega)]; exact s1.2.2.2 q⟩, fun q => by rw [j2, x2 q]⟩
      refine pj_ald0 (q := 48) (pj_d p_X12_failed 23 rfl) rfl ?_
      refine pj_gf (q := 51) (k := 15) (pj_d p_X12_failed 24 rfl) rfl kX12_78 (by first | assumption | exact pj_up_s | exact (pj_up_n (by omega)).trans (by assumption) | exact (pj_up_n (by omega)).trans pj_up_s) (by rfl) (by rfl) ?_
      rw [j1 15 (by omega), k1 15 (by omega), s1.2.1]
      refine pj_if_le (t := 58) (q := 54) (pj_d p_X12_failed 25 rfl) rfl (by decide) (fun c3 => ?_) (fun c3 => ?_)
      · have e : S'.2.1 = 0 := by
          have : S'.2.1 ≤ 0 := (nI_leI (by omega) (by omega)).mp (by rw [nI_0]; exact c3)
          omega
        rw [decide_eq_false (fun q => q e)]
        refine pj_iconst (q := 59) (v := nI 0) (pj_d p_X12_failed 28 rfl) rfl (by decide) ?_
        refine pj_zret rfl (by first | rfl | decide | (split <;> rfl)) (pj_d p_X12_failed 29 rfl) (by decide) (by decide) ?_
        exact ⟨rfl, rfl, post⟩
      · have e : ¬ S'.2.1 = 0 := fun q => c3 (by rw [q]; decide)
        rw [decide_eq_true e]
        refine pj_iconst (q := 55) (v := nI 1) (pj_d p_X12_failed 26 rfl) rfl (by decide) ?_
        refine pj_goto (t := 59) (pj_d p_X12_failed 27 rfl) (by decide) ?_
        refine pj_zret rfl (by first | rfl | decide | (split <;> rfl)) (pj_d p_X12_failed 29 rfl) (by decide) (by decide) ?_
        exact ⟨rfl, rfl, post⟩
    refine pj_ald0 (q := 26) (pj_d p_X12_failed 13 rfl) rfl ?_
    refine pj_ald0 (q := 27) (pj_d p_X12_failed 14 rfl) rfl ?_
    refine pj_gf (q := 30) (k := 15) (pj_d p_X12_failed 15 rfl) rfl kX12_78 (by first | assumption | exact pj_up_s | exact (pj_up_n (by omega)).trans (by assumption) | exact (pj_up_n (by omega)).trans pj_up_s) (by rfl) (by rfl) ?_
    rw [k1 15 (by omega), s1.2.1]
    refine pj_if_le (t := 40) (q := 33) (pj_d p_X12_failed 16 rfl) rfl (by decide) (fun c2 => ?_) (fun c2 => ?_)
    · have e : S'.2.1 = 0 := by
        have : S'.2.1 ≤ 0 := (nI_leI (by omega) (by omega)).mp (by rw [nI_0]; exact c2)
        omega
      refine pj_ald0 (q := 41) (pj_d p_X12_failed 20 rfl) rfl ?_
      refine pj_gf (q := 44) (k := 17) (pj_d p_X12_failed 21 rfl) rfl kX12_116 (by first | assumption | exact pj_up_s | exact (pj_up_n (by omega)).trans (by assumption) | exact (pj_up_n (by omega)).trans pj_up_s) (by rfl) (by rfl) ?_
      exact fin _ (fun q => absurd e q) (fun _ => by rw [k1 17 (by omega), p1 17 (by omega)])
    · have e : ¬ S'.2.1 = 0 := fun q => c2 (by rw [q]; decide)
      refine pj_ald0 (q := 34) (pj_d p_X12_failed 17 rfl) rfl ?_
      refine pj_gf (q := 37) (k := 15) (pj_d p_X12_failed 18 rfl) rfl kX12_78 (by first | assumption | exact pj_up_s | exact (pj_up_n (by omega)).trans (by assumption) | exact (pj_up_n (by omega)).trans pj_up_s) (by rfl) (by rfl) ?_
      refine pj_goto (t := 44) (pj_d p_X12_failed 19 rfl) (by decide) ?_
      rw [k1 15 (by omega), s1.2.1]
      exact fin _ (fun _ => rfl) (fun q => absurd q e)
  have same : S' = S → pj_V E B l Y_X12_failed 2 0 0 20 [some (.ref g)] [] h n 0 0 (fun r h' n' => r = some (.int (gd_b (decide (¬ S'.2.1 = 0)))) ∧ n' = n ∧ ∃ v', h' = pj_up h g (.inr (11, gd_Mo g v')) ∧ (∀ i, i < 10 ∨ 17 < i → v' i = v i) ∧ v' 10 = nI 0 ∧ (¬ S'.2.1 = 0 → v' 17 = nI S'.2.1 ∧ v' 16 = nI S'.2.2) ∧ (S'.2.1 = 0 → v' 17 = v 17)) := by
    intro e
    have := rest v (fun _ _ => rfl) (by rw [e]; exact hS)
    rw [pj_up_id hM] at this
    exact this
  refine pj_ald0 (q := 1) (pj_d p_X12_failed 0 rfl) rfl ?_
  refine pj_gf (q := 4) (k := 15) (pj_d p_X12_failed 1 rfl) rfl kX12_78 (by first | assumption | exact pj_up_s | exact (pj_up_n (by omega)).trans (by assumption) | exact (pj_up_n (by omega)).trans pj_up_s) (by rfl) (by rfl) ?_
  rw [hS.2.1]
  refine pj_if_ne (t := 20) (q := 7) (pj_d p_X12_failed 2 rfl) rfl (by decide) (fun c1 => ?_) (fun c1 => ?_)
  · have e : ¬ S.2.1 = 0 := fun q => c1 (by rw [q]; rfl)
    exact same (by rw [← hS', gd_fa_bad e]; split <;> rfl)
  have e : S.2.1 = 0 := (nI_eq (by omega) (by omega)).mp (c1.trans nI_0.symm)
  obtain ⟨y1, y2, y3, y4⟩ := hS.2.2.1 e
  have tl := gd_tok_lt (c := c) (L := L) (p := S.1)
  refine pj_ald0 (q := 8) (pj_d p_X12_failed 3 rfl) rfl ?_
  refine pj_gf (q := 11) (k := 13) (pj_d p_X12_failed 4 rfl) rfl kX12_102 (by first | assumption | exact pj_up_s | exact (pj_up_n (by omega)).trans (by assumption) | exact (pj_up_n (by omega)).trans pj_up_s) (by rfl) (by rfl) ?_
  rw [y3]
  refine pj_iconst (q := 12) (v := nI 1) (pj_d p_X12_failed 5 rfl) rfl (by decide) ?_
  refine pj_icmp_eq (t := 20) (q := 15) (pj_d p_X12_failed 6 rfl) rfl (by decide) (fun c2 => ?_) (fun c2 => ?_)
  · have t1 : gd_tok c L S.1 = 1 := (nI_eq (by omega) (by omega)).mp c2
    exact same (by rw [← hS', if_neg (gd_tok1.mp t1)])
  · have t1 : ¬ gd_tok c L S.1 = 1 := fun q => c2 (by rw [q])
    have lt : S.1 < L := by
      by_cases q : S.1 < L
      · exact q
      · exact absurd (gd_tok1.mpr q) t1
    rw [if_pos lt] at hS'
    refine pj_ald0 (q := 16) (pj_d p_X12_failed 7 rfl) rfl ?_
    refine pj_iconst (q := 17) (v := nI 1) (pj_d p_X12_failed 8 rfl) rfl (by decide) ?_
    refine pj_cv (pj_rV (q := 20) (c_X12_bad hM hS hB (k := 1) (by decide)) (pj_d p_X12_failed 9 rfl) rfl kX12_105 o_X12_bad (by first | assumption | exact pj_up_s | exact (pj_up_n (by omega)).trans (by assumption) | exact (pj_up_n (by omega)).trans pj_up_s) (by rfl) (by rfl) (by rfl) (by rfl) (Nat.le_of_ble_eq_true rfl) (by decide)) (by decide) (by decide) ?_
    rintro r1 h1 n1 ⟨rfl, rfl, v1, rfl, p1, s1⟩
    rw [hS'] at s1
    exact rest v1 p1 s1
theorem gd_twA {o1 : Option Value} (hT : h (g + 4) = some (.inl (0, 56, .inl (fun j => nI (τ j))))) (hMP : gd_MP c L g s v h h') (hW : gd_RW L s) (hP1 : (if s.1.1 < L then gd_fa s.1 s.1.1 1 else s.1) = P.1) (hP2 : P.2 = s.2) : pj_V E B l Y_X12_town 6 0 0 142 [some (.ref g), o1] [] h' n 0 0 (gd_TW P τ v h g n) := by
  obtain ⟨v1, F, m1, m2, pv, ms, fr, fq⟩ := hMP
  have hT1 : h' (g + 4) = some (.inl (0, 56, .inl (fun j => nI (τ j)))) := by rw [fq _ (by omega) (by omega)]; exact hT
  refine pj_ald0 (q := 143) (pj_d p_X12_town 74 rfl) rfl ?_
  refine pj_cv (pj_rV (q := 146) (c_X12_failed m1 ms hW.1 hP1) (pj_d p_X12_town 75 rfl) rfl kX12_145 o_X12_failed (by first | assumption | exact pj_up_s | exact (pj_up_n (by omega)).trans (by assumption) | exact (pj_up_n (by omega)).trans pj_up_s) (by rfl) (by rfl) (by rfl) (by rfl) (Nat.le_of_ble_eq_true rfl) (by decide)) (by decide) (by decide) ?_
  rintro r1 h1 n1 ⟨rfl, rfl, v2, rfl, k1, k10, kb, kg⟩
  refine pj_if_eq (t := 157) (q := 149) (pj_d p_X12_town 76 rfl) rfl (by decide) (fun c1 => ?_) (fun c1 => ?_)
  rotate_left
  · have e := gd_dec_t c1
    refine pj_ldc (q := 151) (pj_d p_X12_town 77 rfl) rfl kX12_149 ?_
    refine pj_ald0 (q := 152) (pj_d p_X12_town 78 rfl) rfl ?_
    refine pj_gf (q := 155) (k := 16) (pj_d p_X12_town 79 rfl) rfl kX12_84 (by first | assumption | exact pj_up_s | exact (pj_up_n (by omega)).trans (by assumption) | exact (pj_up_n (by omega)).trans pj_up_s) (by rfl) (by rfl) ?_
    rw [(kb e).2]
    refine pj_isub (q := 156) (pj_d p_X12_town 80 rfl) rfl ?_
    refine pj_iret rfl (pj_d p_X12_town 81 rfl) (by decide) (by decide) ?_
    exact ⟨rfl, v2, F, pj_up_s, (pj_up_n (by omega)).trans m2, fun i hi => by rw [k1 i (by omega), pv i (by omega)], k10, fun q q1 q2 q3 => by rw [pj_up_n q1, fq q q1 q3], Or.inr ⟨e, rfl, by rw [k1 8 (by omega), pv 8 (by omega)], (kb e).1, by rw [pj_up_n (by omega), fq _ (by omega) (by omega)]⟩⟩
  have e : P.1.2.1 = 0 := by
    by_cases q : P.1.2.1 = 0
    · exact q
    · exact absurd q (gd_dec_f c1)
  have e0 : s.1.2.1 = 0 := by
    rw [← hP1] at e
    split at e
    · exact (gd_fa_ok (by decide) e).elim
    · exact e
  have fj := fr e0
  refine pj_ald0 (q := 158) (pj_d p_X12_town 82 rfl) rfl ?_
  refine pj_iconst (q := 159) (v := nI 0) (pj_d p_X12_town 83 rfl) rfl (by decide) ?_
  refine pj_pf (q := 162) (k := 8) (fs' := gd_Mo g (upd v2 8 (nI 0))) (pj_d p_X12_town 84 rfl) rfl kX12_150 (by first | assumption | exact pj_up_s | exact (pj_up_n (by omega)).trans (by assumption) | exact (pj_up_n (by omega)).trans pj_up_s) (by rfl) (Or.inl rfl) (by rfl) (by rfl) (by rfl) (by show 8 < 24; decide) (by rfl) ?_
  rw [pj_up_up]
  have j1 : ∀ i, i ≠ 8 → upd v2 8 (nI 0) i = v2 i := fun i hi => gd_upd_n hi
  have j2 : upd v2 8 (nI 0) 8 = nI 0 := gd_upd_s
  generalize upd v2 8 (nI 0) = v3 at j1 j2 ⊢
  refine pj_iconst (q := 163) (v := nI 0) (pj_d p_X12_town 85 rfl) rfl (by decide) ?_
  refine pj_ist1 (q := 164) (pj_d p_X12_town 86 rfl) rfl (by first | rfl | assumption) ?_
  have loop : ∀ m k, 56 - k < m → k ≤ 56 → pj_V E B l Y_X12_town 6 0 0 164 [some (.ref g), some (.int (nI k))] [] (pj_up (pj_up h' g (.inr (11, gd_Mo g v3))) (g + 4) (.inl (0, 56, .inl (fun j => nI (if j < k then s.2 j else τ j))))) n1 0 0 (gd_TW P τ v h g n1) := by
    intro m
    induction m with
    | zero => intro k hi; omega
    | succ m ih =>
      intro k hi hle
      have H5 : pj_up (pj_up h' g (.inr (11, gd_Mo g v3))) (g + 4) (.inl (0, 56, .inl (fun j => nI (if j < k then s.2 j else τ j)))) (g + 5) = some (.inl (0, 56, .inl F)) := by rw [pj_up_n (by omega), pj_up_n (by omega)]; exact m2
      refine pj_ild1 (q := 165) (pj_d p_X12_town 87 rfl) rfl ?_
      refine pj_bipush (q := 167) (v := nI 56) (pj_d p_X12_town 88 rfl) rfl (by decide) ?_
      refine pj_icmp_ge (t := 188) (q := 170) (pj_d p_X12_town 89 rfl) rfl (by decide) (fun c2 => ?_) (fun c2 => ?_)
      · have he : k = 56 := by have := gd_ge c2 (by omega) (by omega); omega
        subst he
        have z1 : (1 : Nat) < 56 := by omega
        refine pj_ald0 (q := 189) (pj_d p_X12_town 100 rfl) rfl ?_
        refine pj_gf (q := 192) (k := 5) (pj_d p_X12_town 101 rfl) rfl kX12_19 (by first | assumption | exact pj_up_s | exact (pj_up_n (by omega)).trans (by assumption) | exact (pj_up_n (by omega)).trans pj_up_s) (by rfl) (by rfl) ?_
        refine pj_iconst (q := 193) (v := nI 1) (pj_d p_X12_town 102 rfl) rfl (by decide) ?_
        refine pj_ialdN (q := 194) (pj_d p_X12_town 103 rfl) rfl (by first | assumption | exact pj_up_s | exact (pj_up_n (by omega)).trans (by assumption) | exact (pj_up_n (by omega)).trans pj_up_s) (by rfl) (by first | assumption | omega) (Nat.le_of_ble_eq_true rfl) ?_
        rw [if_pos z1]
        refine pj_iret rfl (pj_d p_X12_town 104 rfl) (by decide) (by decide) ?_
        refine ⟨rfl, v3, F, (pj_up_n (by omega)).trans pj_up_s, H5, fun i hi => by rw [j1 i (by omega), k1 i (by omega), pv i (by omega)], by rw [j1 10 (by omega)]; exact k10, fun q q1 q2 q3 => by rw [pj_up_n q2, pj_up_n q1, fq q q1 q3], Or.inl ⟨e, by rw [hP2], j2, by rw [j1 17 (by omega), kg e, pv 17 (by omega)], ?_⟩⟩
        rw [hP2]
        exact pj_up_s
      have hlt : k < 56 := gd_lt c2 (by omega)
      refine pj_ald0 (q := 171) (pj_d p_X12_town 90 rfl) rfl ?_
      refine pj_gf (q := 174) (k := 5) (pj_d p_X12_town 91 rfl) rfl kX12_19 (by first | assumption | exact pj_up_s | exact (pj_up_n (by omega)).trans (by assumption) | exact (pj_up_n (by omega)).trans pj_up_s) (by rfl) (by rfl) ?_
      refine pj_ild1 (q := 175) (pj_d p_X12_town 92 rfl) rfl ?_
      refine pj_ald0 (q := 176) (pj_d p_X12_town 93 rfl) rfl ?_
      refine pj_gf (q := 179) (k := 6) (pj_d p_X12_town 94 rfl) rfl kX12_22 (by first | assumption | exact pj_up_s | exact (pj_up_n (by omega)).trans (by assumption) | exact (pj_up_n (by omega)).trans pj_up_s) (by rfl) (by rfl) ?_
      refine pj_ild1 (q := 180) (pj_d p_X12_town 95 rfl) rfl ?_
      refine pj_ialdN (q := 181) (pj_d p_X12_town 96 rfl) rfl (by first | assumption | exact pj_up_s | exact (pj_up_n (by omega)).trans (by assumption) | exact (pj_up_n (by omega)).trans pj_up_s) (by rfl) (by first | assumption | omega) (Nat.le_of_ble_eq_true rfl) ?_
      rw [fj k hlt]
      refine pj_iast (q := 182) (pj_d p_X12_town 97 rfl) rfl (by first | assumption | exact pj_up_s | exact (pj_up_n (by omega)).trans (by assumption) | exact (pj_up_n (by omega)).trans pj_up_s) (by rfl) (by first | assumption | omega) (Nat.le_of_ble_eq_true rfl) ?_
      rw [pj_up_up]
      refine pj_iinc1 (q := 185) (v := 1) (pj_d p_X12_town 98 rfl) rfl (by first | rfl | assumption) (by decide) ?_
      refine pj_goto (t := 164) (pj_d p_X12_town 99 rfl) (by decide) ?_
      rw [nI_1]
      have e5 : upd (fun j => nI (if j < k then s.2 j else τ j)) k (nI (s.2 k)) = fun j => nI (if j < k + 1 then s.2 j else τ j) := by
        funext j
        by_cases q : j = k
        · rw [q, gd_upd_s, if_pos (by omega)]
        · rw [gd_upd_n q]
          by_cases q2 : j < k
          · rw [if_pos q2, if_pos (by omega)]
          · rw [if_neg q2, if_neg (by omega)]
      rw [e5]
      exact ih (k + 1) (by omega) (by omega)
  have := loop 57 0 (by omega) (by omega)
  have e6 : (fun j => nI (if j < 0 then s.2 j else τ j)) = fun j => nI (τ j) := by
    funext j
    rw [if_neg (Nat.not_lt_zero j)]
  rw [e6, pj_up_id ((pj_up_n (by omega)).trans hT1)] at this
  exact this
theorem gd_twP {o1 : Option Value} (hT : h (g + 4) = some (.inl (0, 56, .inl (fun j => nI (τ j))))) (hb : h (g + 7) = some (.inl (0, 120, .inl (fun j => nI (c j))))) (hL : L ≤ 120) (hc : ∀ j, c j < 256) {p3 : gd_RS} (hP1 : (if p3.1.1 < L then gd_fa p3.1 p3.1.1 1 else p3.1) = P.1) (hP2 : P.2 = p3.2) : ∀ m s h', gd_MP c L g s v h h' → gd_RW L s → (s.1.2.1 = 0 → s.2 2 + m = 9) → gd_prs c L m s = p3 → pj_V E B l Y_X12_town 6 0 0 126 [some (.ref g), o1] [] h' n 0 0 (gd_TW P τ v h g n) := by
  intro m
  induction m with
  | zero =>
    intro s h' hMP hW hcnt hF
    have bad : ¬ s.1.2.1 = 0 := fun q => by have := hcnt q; have := hW.2.1.2.1; omega
    have hs : s = p3 := hF
    have hMP' := hMP
    obtain ⟨v1, F, m1, m2, pv, ms, fr, fq⟩ := hMP'
    refine pj_ald0 (q := 127) (pj_d p_X12_town 67 rfl) rfl ?_
    refine pj_bipush (q := 129) (v := nI 109) (pj_d p_X12_town 68 rfl) rfl (by decide) ?_
    refine pj_cp (pj_rV (q := 132) (c_X12_isLetter m1 hc ms hW.1 (x := 109) (by omega)) (pj_d p_X12_town 69 rfl) rfl kX12_136 o_X12_isLetter (by first | assumption | exact pj_up_s | exact (pj_up_n (by omega)).trans (by assumption) | exact (pj_up_n (by omega)).trans pj_up_s) (by rfl) (by rfl) (by rfl) (by rfl) (Nat.le_of_ble_eq_true rfl) (by decide)) (by decide) (by decide) ?_
    refine pj_if_eq (t := 142) (q := 135) (pj_d p_X12_town 70 rfl) rfl (by decide) (fun c1 => ?_) (fun c1 => ?_)
    · exact gd_twA hT hMP hW (by rw [hs]; exact hP1) (by rw [hs]; exact hP2)
    · exact absurd (gd_dec_t c1).1 bad
  | succ m ih =>
    intro s h' hMP hW hcnt hF
    have hMP' := hMP
    obtain ⟨v1, F, m1, m2, pv, ms, fr, fq⟩ := hMP'
    refine pj_ald0 (q := 127) (pj_d p_X12_town 67 rfl) rfl ?_
    refine pj_bipush (q := 129) (v := nI 109) (pj_d p_X12_town 68 rfl) rfl (by decide) ?_
    refine pj_cp (pj_rV (q := 132) (c_X12_isLetter m1 hc ms hW.1 (x := 109) (by omega)) (pj_d p_X12_town 69 rfl) rfl kX12_136 o_X12_isLetter (by first | assumption | exact pj_up_s | exact (pj_up_n (by omega)).trans (by assumption) | exact (pj_up_n (by omega)).trans pj_up_s) (by rfl) (by rfl) (by rfl) (by rfl) (Nat.le_of_ble_eq_true rfl) (by decide)) (by decide) (by decide) ?_
    refine pj_if_eq (t := 142) (q := 135) (pj_d p_X12_town 70 rfl) rfl (by decide) (fun c1 => ?_) (fun c1 => ?_)
    · have e := gd_dec_f c1
      rw [gd_prs_bad e] at hF
      exact gd_twA hT hMP hW (by rw [hF]; exact hP1) (by rw [hF]; exact hP2)
    · have e := gd_dec_t c1
      have hb1 : h' (g + 7) = some (.inl (0, 120, .inl (fun j => nI (c j)))) := by rw [fq _ (by omega) (by omega)]; exact hb
      have h8 := hW.2.1.2.1
      have hcn := hcnt e.1
      refine pj_ald0 (q := 136) (pj_d p_X12_town 71 rfl) rfl ?_
      refine pj_cv (pj_rV (q := 139) (c_X12_readPair m1 m2 (fr e.1) hb1 hL hc ms hW e.1 e.2.1 e.2.2) (pj_d p_X12_town 72 rfl) rfl kX12_142 o_X12_readPair (by first | assumption | exact pj_up_s | exact (pj_up_n (by omega)).trans (by assumption) | exact (pj_up_n (by omega)).trans pj_up_s) (by rfl) (by rfl) (by rfl) (by rfl) (Nat.le_of_ble_eq_true rfl) (by decide)) (by decide) (by decide) ?_
      rintro r1 h1 n1 ⟨rfl, rfl, v2, F2, x1, x2, x3, x4, x5, x6⟩
      refine pj_goto (t := 126) (pj_d p_X12_town 73 rfl) (by decide) ?_
      rw [gd_prs, if_pos e] at hF
      by_cases e8 : s.2 2 = 8
      · rw [if_pos e8] at x4 x5 hF
        have ne : ¬ (gd_fa s.1 s.1.1 3).2.1 = 0 := fun q => gd_fa_ok (by decide) q
        refine ih (gd_fa s.1 s.1.1 3, s.2) h1 ⟨v2, F2, x1, x2, fun i hi => by rw [x3 i hi, pv i hi], x4, x5, fun q q1 q2 => by rw [x6 q q1 q2, fq q q1 q2]⟩ ⟨gd_PB_fa hW.1 hW.1.1 (by omega), hW.2⟩ (fun q => absurd q ne) ?_
        rw [gd_prs_bad (s := (gd_fa s.1 s.1.1 3, s.2)) (fun q => ne q.1)]
        exact hF
      · rw [if_neg e8] at x4 x5 hF
        refine ih (gd_rP c L s) h1 ⟨v2, F2, x1, x2, fun i hi => by rw [x3 i hi, pv i hi], x4, x5, fun q q1 q2 => by rw [x6 q q1 q2, fq q q1 q2]⟩ (gd_RW_rP hW e.2.1 (by omega)) (fun q => ?_) hF
        have q' : (gd_rP6 c L s).2.1 = 0 := q
        rw [gd_rP, if_pos q']
        show s.2 2 + 1 + m = 9
        omega
theorem gd_twT {o1 : Option Value} (hT : h (g + 4) = some (.inl (0, 56, .inl (fun j => nI (τ j))))) (hb : h (g + 7) = some (.inl (0, 120, .inl (fun j => nI (c j))))) (hL : L ≤ 120) (hc : ∀ j, c j < 256) {p2 p3 : gd_RS} (hp3 : gd_prs c L 9 p2 = p3) (h22 : p2.2 2 = 0) (hP1 : (if p3.1.1 < L then gd_fa p3.1 p3.1.1 1 else p3.1) = P.1) (hP2 : P.2 = p3.2) : ∀ m s h', gd_MP c L g s v h h' → gd_RW L s → (s.1.2.1 = 0 → s.2 1 + m = 8) → gd_ths c L m s = p2 → pj_V E B l Y_X12_town 6 0 0 92 [some (.ref g), o1] [] h' n 0 0 (gd_TW P τ v h g n) := by
  have out : ∀ s h', gd_MP c L g s v h h' → gd_RW L s → s = p2 → pj_V E B l Y_X12_town 6 0 0 126 [some (.ref g), o1] [] h' n 0 0 (gd_TW P τ v h g n) := fun s h' a1 a2 a3 => gd_twP hT hb hL hc hP1 hP2 9 s h' a1 a2 (fun _ => by rw [a3, h22]) (by rw [a3]; exact hp3)
  intro m
  induction m with
  | zero =>
    intro s h' hMP hW hcnt hF
    have bad : ¬ s.1.2.1 = 0 := fun q => by have := hcnt q; have := hW.2.1.1; omega
    have hMP' := hMP
    obtain ⟨v1, F, m1, m2, pv, ms, fr, fq⟩ := hMP'
    have b2 := hW.1.2.1
    refine pj_ald0 (q := 93) (pj_d p_X12_town 52 rfl) rfl ?_
    refine pj_gf (q := 96) (k := 15) (pj_d p_X12_town 53 rfl) rfl kX12_78 (by first | assumption | exact pj_up_s | exact (pj_up_n (by omega)).trans (by assumption) | exact (pj_up_n (by omega)).trans pj_up_s) (by rfl) (by rfl) ?_
    rw [ms.2.1]
    refine pj_if_ne (t := 126) (q := 99) (pj_d p_X12_town 54 rfl) rfl (by decide) (fun c1 => ?_) (fun c1 => ?_)
    · exact out s h' hMP hW hF
    · exact absurd ((nI_eq (by omega) (by omega)).mp (c1.trans nI_0.symm)) bad
  | succ m ih =>
    intro s h' hMP hW hcnt hF
    have hMP' := hMP
    obtain ⟨v1, F, m1, m2, pv, ms, fr, fq⟩ := hMP'
    have b2 := hW.1.2.1
    refine pj_ald0 (q := 93) (pj_d p_X12_town 52 rfl) rfl ?_
    refine pj_gf (q := 96) (k := 15) (pj_d p_X12_town 53 rfl) rfl kX12_78 (by first | assumption | exact pj_up_s | exact (pj_up_n (by omega)).trans (by assumption) | exact (pj_up_n (by omega)).trans pj_up_s) (by rfl) (by rfl) ?_
    rw [ms.2.1]
    refine pj_if_ne (t := 126) (q := 99) (pj_d p_X12_town 54 rfl) rfl (by decide) (fun c1 => ?_) (fun c1 => ?_)
    · have e : ¬ s.1.2.1 = 0 := fun q => c1 (by rw [q]; rfl)
      rw [gd_ths_bad e] at hF
      exact out s h' hMP hW hF
    have e : s.1.2.1 = 0 := (nI_eq (by omega) (by omega)).mp (c1.trans nI_0.symm)
    obtain ⟨y1, y2, y3, y4⟩ := ms.2.2.1 e
    have tl := gd_tok_lt (c := c) (L := L) (p := s.1.1)
    have stop : gd_ks c L s.1.1 = 0 → pj_V E B l Y_X12_town 6 0 0 126 [some (.ref g), o1] [] h' n 0 0 (gd_TW P τ v h g n) := fun q => out s h' hMP hW (by rw [gd_ths_0 q] at hF; exact hF)
    refine pj_ald0 (q := 100) (pj_d p_X12_town 55 rfl) rfl ?_
    refine pj_gf (q := 103) (k := 13) (pj_d p_X12_town 56 rfl) rfl kX12_102 (by first | assumption | exact pj_up_s | exact (pj_up_n (by omega)).trans (by assumption) | exact (pj_up_n (by omega)).trans pj_up_s) (by rfl) (by rfl) ?_
    rw [y3]
    refine pj_iconst (q := 104) (v := nI 2) (pj_d p_X12_town 57 rfl) rfl (by decide) ?_
    refine pj_icmp_ne (t := 126) (q := 107) (pj_d p_X12_town 58 rfl) rfl (by decide) (fun c2 => ?_) (fun c2 => ?_)
    · have nt : ¬ gd_tok c L s.1.1 = 2 := fun q => c2 (by rw [q])
      refine stop ?_
      by_cases q : gd_ks c L s.1.1 = 0
      · exact q
      · exact absurd (gd_ks_tok q) nt
    have tk : gd_tok c L s.1.1 = 2 := (nI_eq (by omega) (by omega)).mp c2
    refine pj_ald0 (q := 108) (pj_d p_X12_town 59 rfl) rfl ?_
    refine pj_gf (q := 111) (k := 14) (pj_d p_X12_town 60 rfl) rfl kX12_91 (by first | assumption | exact pj_up_s | exact (pj_up_n (by omega)).trans (by assumption) | exact (pj_up_n (by omega)).trans pj_up_s) (by rfl) (by rfl) ?_
    rw [y4, gd_tv2 tk]
    refine pj_cp (pj_rS (q := 114) (c_X12_kindBy (c s.1.1) (hc _)) (pj_d p_X12_town 61 rfl) rfl kX12_119 o_X12_kindBy (by rfl) (by rfl) (Nat.le_of_ble_eq_true rfl) (by decide)) (by decide) (by decide) ?_
    refine pj_ldc (q := 116) (pj_d p_X12_town 62 rfl) rfl kX12_90 ?_
    have hp := (gd_tok2.mp tk).1
    have kle := gd_kl_le (c s.1.1)
    refine pj_icmp_eq (t := 126) (q := 119) (pj_d p_X12_town 63 rfl) rfl (by decide) (fun c3 => ?_) (fun c3 => ?_)
    · refine stop ?_
      rw [gd_ks, if_pos hp]
      by_cases q : gd_kl (c s.1.1) = 0
      · exact q
      · rw [gd_kv, if_neg q] at c3
        exact absurd c3 (gd_neg (by omega))
    have hk : ¬ gd_ks c L s.1.1 = 0 := fun q => by
      rw [gd_ks, if_pos hp] at q
      exact c3 (by rw [gd_kv, if_pos q])
    have hb1 : h' (g + 7) = some (.inl (0, 120, .inl (fun j => nI (c j)))) := by rw [fq _ (by omega) (by omega)]; exact hb
    have h8 := hW.2.1.1
    have hcn := hcnt e
    refine pj_ald0 (q := 120) (pj_d p_X12_town 64 rfl) rfl ?_
    refine pj_cv (pj_rV (q := 123) (c_X12_readThing m1 m2 (fr e) hb1 hL hc ms hW e hk tk) (pj_d p_X12_town 65 rfl) rfl kX12_139 o_X12_readThing (by first | assumption | exact pj_up_s | exact (pj_up_n (by omega)).trans (by assumption) | exact (pj_up_n (by omega)).trans pj_up_s) (by rfl) (by rfl) (by rfl) (by rfl) (Nat.le_of_ble_eq_true rfl) (by decide)) (by decide) (by decide) ?_
    rintro r1 h1 n1 ⟨rfl, rfl, v2, F2, x1, x2, x3, x4, x5, x6⟩
    refine pj_goto (t := 92) (pj_d p_X12_town 66 rfl) (by decide) ?_
    rw [gd_ths, if_pos e, if_neg hk] at hF
    by_cases e8 : s.2 1 = 7
    · rw [if_pos e8] at x4 x5 hF
      have ne : ¬ (gd_fa s.1 s.1.1 3).2.1 = 0 := fun q => gd_fa_ok (by decide) q
      refine ih (gd_fa s.1 s.1.1 3, s.2) h1 ⟨v2, F2, x1, x2, fun i hi => by rw [x3 i hi, pv i hi], x4, x5, fun q q1 q2 => by rw [x6 q q1 q2, fq q q1 q2]⟩ ⟨gd_PB_fa hW.1 hW.1.1 (by omega), hW.2⟩ (fun q => absurd q ne) ?_
      rw [gd_ths_bad (s := (gd_fa s.1 s.1.1 3, s.2)) ne]
      exact hF
    · rw [if_neg e8] at x4 x5 hF
      refine ih (gd_rT c L (gd_ks c L s.1.1) s) h1 ⟨v2, F2, x1, x2, fun i hi => by rw [x3 i hi, pv i hi], x4, x5, fun q q1 q2 => by rw [x6 q q1 q2, fq q q1 q2]⟩ (gd_RW_rT hW hp (by omega) (gd_ks_in hk).2) (fun q => ?_) hF
      have q' : (gd_rT3 c L s.1).2.1 = 0 := q
      rw [gd_rT, if_pos q']
      show s.2 1 + 1 + m = 8
      omega
def gd_wP (c : Nat → Nat) (L k : Nat) (s0 : gd_RS) : gd_PS := if k < 7 then gd_wS c L k (gd_wk c L k s0).1 else gd_tb c L 59 (gd_wk c L 7 s0).1
theorem gd_twW (hT : h (g + 4) = some (.inl (0, 56, .inl (fun j => nI (τ j))))) (hb : h (g + 7) = some (.inl (0, 120, .inl (fun j => nI (c j))))) (hL : L ≤ 120) (hc : ∀ j, c j < 256) {s0 p2 p3 : gd_RS} (hs0 : s0 = (gd_tb c L 99 (0, 0, 0), gd_z0)) (hp2 : Unit → gd_ths c L 8 (gd_tb c L 59 (gd_wk c L 7 s0).1, (gd_wk c L 7 s0).2) = p2) (hp3 : Unit → gd_prs c L 9 p2 = p3) (h22 : p2.2 2 = 0) (hP1 : (if p3.1.1 < L then gd_fa p3.1 p3.1.1 1 else p3.1) = P.1) (hP2 : P.2 = p3.2) : ∀ m k h', 7 - k < m → k ≤ 7 → gd_MP c L g (gd_wP c L k s0, (gd_wk c L k s0).2) v h h' → pj_V E B l Y_X12_town 6 0 0 49 [some (.ref g), some (.int (nI k))] [] h' n 0 0 (gd_TW P τ v h g n) := by
  have W0 : gd_RW L s0 := by
    rw [hs0]
    exact ⟨gd_PB_tb ⟨Nat.zero_le _, Nat.zero_le _, Nat.zero_le _⟩, ⟨Nat.zero_le _, Nat.zero_le _, Nat.zero_le _, fun j hj => by show gd_z0 (4 + j) ≤ 5; rw [gd_z0, gd_set_n (by omega)]; omega, fun i hi => absurd hi (Nat.not_lt_zero i), fun i hi => absurd hi (Nat.not_lt_zero i), fun i j _ hi => absurd hi (Nat.not_lt_zero j)⟩, rfl, rfl⟩
  have Wi := gd_RW_wk (c := c) W0 (by rw [hs0]; rfl) (by rw [hs0]; rfl)
  clear hs0
  intro m
  induction m with
  | zero => intro k h' hi; omega
  | succ m ih =>
    intro k h' hi hle hMP
    refine pj_ild1 (q := 50) (pj_d p_X12_town 29 rfl) rfl ?_
    refine pj_bipush (q := 52) (v := nI 7) (pj_d p_X12_town 30 rfl) rfl (by decide) ?_
    refine pj_icmp_ge (t := 92) (q := 55) (pj_d p_X12_town 31 rfl) rfl (by decide) (fun c1 => ?_) (fun c1 => ?_)
    · have he : k = 7 := by have := gd_ge c1 (by omega) (by omega); omega
      subst he
      have e7 : gd_wP c L 7 s0 = gd_tb c L 59 (gd_wk c L 7 s0).1 := by rw [gd_wP, if_neg (by decide)]
      rw [e7] at hMP
      obtain ⟨w1, w2, w3⟩ := Wi 7 (by omega)
      have hp2' := hp2 ()
      clear hp2 e7 ih Wi W0
      generalize gd_wk c L 7 s0 = w at hMP hp2' w1 w2 w3
      have w5 : gd_RW L (gd_tb c L 59 w.1, w.2) := ⟨gd_PB_tb w1.1, w1.2⟩
      have w6 : (gd_tb c L 59 w.1, w.2).2 1 + 8 = 8 := by
        show w.2 1 + 8 = 8
        omega
      have hp3' := hp3 ()
      clear hp3
      generalize (gd_tb c L 59 w.1, w.2) = ws at hMP hp2' w5 w6
      exact gd_twT hT hb hL hc hp3' h22 hP1 hP2 8 ws h' hMP w5 (fun _ => w6) hp2'
    have hlt : k < 7 := gd_lt c1 (by omega)
    obtain ⟨v1, F, m1, m2, pv, ms, fr, fq⟩ := hMP
    have hb1 : h' (g + 7) = some (.inl (0, 120, .inl (fun j => nI (c j)))) := by rw [fq _ (by omega) (by omega)]; exact hb
    obtain ⟨w1, w2, w3⟩ := Wi k (by omega)
    obtain ⟨w4, -, -⟩ := Wi (k + 1) (by omega)
    have ek : gd_wP c L k s0 = gd_wS c L k (gd_wk c L k s0).1 := by rw [gd_wP, if_pos hlt]
    rw [ek] at ms fr
    have pbk : gd_PB L (gd_wS c L k (gd_wk c L k s0).1) := by
      rw [gd_wS]
      split
      · exact gd_PB_tb w1.1
      · exact w1.1
    have i56 : 4 + k < 56 := by omega
    refine pj_ald0 (q := 56) (pj_d p_X12_town 32 rfl) rfl ?_
    refine pj_gf (q := 59) (k := 6) (pj_d p_X12_town 33 rfl) rfl kX12_22 (by first | assumption | exact pj_up_s | exact (pj_up_n (by omega)).trans (by assumption) | exact (pj_up_n (by omega)).trans pj_up_s) (by rfl) (by rfl) ?_
    refine pj_iconst (q := 60) (v := nI 4) (pj_d p_X12_town 34 rfl) rfl (by decide) ?_
    refine pj_ild1 (q := 61) (pj_d p_X12_town 35 rfl) rfl ?_
    refine pj_iadd (q := 62) (pj_d p_X12_town 36 rfl) rfl ?_
    refine pj_ald0 (q := 63) (pj_d p_X12_town 37 rfl) rfl ?_
    refine pj_iconst (q := 64) (v := nI 0) (pj_d p_X12_town 38 rfl) rfl (by decide) ?_
    refine pj_iconst (q := 65) (v := nI 5) (pj_d p_X12_town 39 rfl) rfl (by decide) ?_
    rw [nI_add]
    refine pj_cv (pj_rV (q := 68) (c_X12_number (S := gd_wS c L k (gd_wk c L k s0).1) (lo := 0) (hi := nI 5) (hiI := 5) m1 hb1 hL hc ms pbk (by omega) (by decide)) (pj_d p_X12_town 40 rfl) rfl kX12_122 o_X12_number (by first | assumption | exact pj_up_s | exact (pj_up_n (by omega)).trans (by assumption) | exact (pj_up_n (by omega)).trans pj_up_s) (by rfl) (by rfl) (by rfl) (by rfl) (Nat.le_of_ble_eq_true rfl) (by decide)) (by decide) (by decide) ?_
    rintro r1 h1 n1 ⟨⟨x1, rfl, g1⟩, rfl, v2, rfl, p2', s2⟩
    have ok1 := @gd_tn_ok c L 0 5 (gd_wS c L k (gd_wk c L k s0).1)
    have e1 : (gd_wk c L (k + 1) s0).1 = (gd_tn c L 0 5 (gd_wS c L k (gd_wk c L k s0).1)).2 := rfl
    have e2 : (gd_wk c L (k + 1) s0).2 = gd_set (gd_wk c L k s0).2 (4 + k) (gd_tn c L 0 5 (gd_wS c L k (gd_wk c L k s0).1)).1 := rfl
    rw [← e1] at s2 g1 ok1
    have H5 : pj_up h' g (.inr (11, gd_Mo g v2)) (g + 5) = some (.inl (0, 56, .inl F)) := (pj_up_n (by omega)).trans m2
    refine pj_iast (q := 69) (pj_d p_X12_town 41 rfl) rfl (by first | assumption | exact pj_up_s | exact (pj_up_n (by omega)).trans (by assumption) | exact (pj_up_n (by omega)).trans pj_up_s) (by rfl) (by first | assumption | omega) (Nat.le_of_ble_eq_true rfl) ?_
    have H7 : pj_up (pj_up h' g (.inr (11, gd_Mo g v2))) (g + 5) (.inl (0, 56, .inl (upd F (4 + k) x1))) (g + 7) = some (.inl (0, 120, .inl (fun j => nI (c j)))) := by rw [pj_up_n (by omega), pj_up_n (by omega)]; exact hb1
    have HM : pj_up (pj_up h' g (.inr (11, gd_Mo g v2))) (g + 5) (.inl (0, 56, .inl (upd F (4 + k) x1))) g = some (.inr (11, gd_Mo g v2)) := (pj_up_n (by omega)).trans pj_up_s
    have sign : ∀ y, (y = 44 ∨ y = 59) → gd_tb c L y (gd_wk c L (k + 1) s0).1 = gd_wP c L (k + 1) s0 → pj_V E B l Y_X12_town 6 0 0 83 [some (.ref g), some (.int (nI k))] [.int (nI y), .ref g] (pj_up (pj_up h' g (.inr (11, gd_Mo g v2))) (g + 5) (.inl (0, 56, .inl (upd F (4 + k) x1)))) n1 0 0 (gd_TW P τ v h g n1) := by
      intro y hy ey
      refine pj_cv (pj_rV (q := 86) (c_X12_mustSign HM H7 hL hc s2 w4.1 hy) (pj_d p_X12_town 49 rfl) rfl kX12_126 o_X12_mustSign (by first | assumption | exact pj_up_s | exact (pj_up_n (by omega)).trans (by assumption) | exact (pj_up_n (by omega)).trans pj_up_s) (by rfl) (by rfl) (by rfl) (by rfl) (Nat.le_of_ble_eq_true rfl) (by decide)) (by decide) (by decide) ?_
      rintro r1 h1 n2 ⟨rfl, rfl, v3, rfl, p3', s3⟩
      have ok2 := @gd_tb_ok c L y (gd_wk c L (k + 1) s0).1
      rw [ey] at s3 ok2
      refine pj_iinc1 (q := 89) (v := 1) (pj_d p_X12_town 50 rfl) rfl (by first | rfl | assumption) (by decide) ?_
      refine pj_goto (t := 49) (pj_d p_X12_town 51 rfl) (by decide) ?_
      rw [nI_1]
      refine ih (k + 1) _ (by omega) (by omega) ⟨v3, upd F (4 + k) x1, pj_up_s, (pj_up_n (by omega)).trans pj_up_s, fun i hi => by rw [p3' i hi, p2' i hi, pv i hi], s3, fun q j hj => ?_, fun q q1 q2 => by rw [pj_up_n q1, pj_up_n q2, pj_up_n q1, fq q q1 q2]⟩
      have o2 := ok2 q
      have o1 := ok1 o2
      rw [e2]
      by_cases z : j = 4 + k
      · rw [z, gd_upd_s, gd_set_s, g1 o2]
      · rw [gd_upd_n z, gd_set_n z, fr o1.1 j hj]
    refine pj_ald0 (q := 70) (pj_d p_X12_town 42 rfl) rfl ?_
    refine pj_ild1 (q := 71) (pj_d p_X12_town 43 rfl) rfl ?_
    refine pj_bipush (q := 73) (v := nI 6) (pj_d p_X12_town 44 rfl) rfl (by decide) ?_
    refine pj_icmp_ge (t := 81) (q := 76) (pj_d p_X12_town 45 rfl) rfl (by decide) (fun c2 => ?_) (fun c2 => ?_)
    · have k6 : k = 6 := by have := gd_ge c2 (by omega) (by omega); omega
      refine pj_bipush (q := 83) (v := nI 59) (pj_d p_X12_town 48 rfl) rfl (by decide) ?_
      refine sign 59 (Or.inr rfl) ?_
      rw [gd_wP, k6, if_neg (by decide)]
    · have k6 : k < 6 := gd_lt c2 (by omega)
      refine pj_bipush (q := 78) (v := nI 44) (pj_d p_X12_town 46 rfl) rfl (by decide) ?_
      refine pj_goto (t := 83) (pj_d p_X12_town 47 rfl) (by decide) ?_
      refine sign 44 (Or.inl rfl) ?_
      rw [gd_wP, if_pos (by omega), gd_wS, if_pos (by omega)]
theorem c_X12_town {F0 : Nat → Int32} (hM : h g = some (.inr (11, gd_Mo g v))) (hv : v 0 = nI 0) (hT : h (g + 4) = some (.inl (0, 56, .inl (fun j => nI (τ j))))) (hF : h (g + 5) = some (.inl (0, 56, .inl F0))) (hb : h (g + 7) = some (.inl (0, 120, .inl (fun j => nI (c j))))) (hL : L ≤ 120) (hc : ∀ j, c j < 256) (h10 : v 10 = nI L) (hP : gd_parse c L = P) : pj_Ct E B l Y_X12_town 6 0 0 [.ref g] h n (gd_TW P τ v h g n) := by
  obtain ⟨s0, hs0⟩ : ∃ s : gd_RS, s = (gd_tb c L 99 (0, 0, 0), gd_z0) := ⟨_, rfl⟩
  obtain ⟨p2, hp2⟩ : ∃ p, Unit → gd_p2 c L = p := ⟨_, fun _ => rfl⟩
  obtain ⟨p3, hp3⟩ : ∃ p, Unit → gd_p3 c L = p := ⟨_, fun _ => rfl⟩
  have h22 := (gd_p2_W c L).2
  rw [hp2 ()] at h22
  have e2 : Unit → gd_ths c L 8 (gd_tb c L 59 (gd_wk c L 7 s0).1, (gd_wk c L 7 s0).2) = p2 := fun _ => by rw [← hp2 (), gd_p2, gd_p1, hs0]
  have e3 : Unit → gd_prs c L 9 p2 = p3 := fun _ => by rw [← hp3 (), gd_p3, hp2 ()]
  have q1 : (if p3.1.1 < L then gd_fa p3.1 p3.1.1 1 else p3.1) = P.1 := by rw [← hP, gd_parse, hp3 ()]
  have q2 : P.2 = p3.2 := by rw [← hP, gd_parse, hp3 ()]
  clear hP hp2 hp3
  refine pj_in rfl (ls := [some (.ref g), none]) rfl (Nat.le_of_ble_eq_true rfl) ?_
  refine gd_thr (pj_d p_X12_town 0 rfl) (pj_d p_X12_town 1 rfl) (pj_d p_X12_town 2 rfl) rfl hM hv ?_
  refine pj_ald0 (q := 6) (pj_d p_X12_town 3 rfl) rfl ?_
  refine pj_cv (pj_rV (q := 9) (c_X12_begin hM hb hL hc h10) (pj_d p_X12_town 4 rfl) rfl kX12_133 o_X12_begin (by first | assumption | exact pj_up_s | exact (pj_up_n (by omega)).trans (by assumption) | exact (pj_up_n (by omega)).trans pj_up_s) (by rfl) (by rfl) (by rfl) (by rfl) (Nat.le_of_ble_eq_true rfl) (by decide)) (by decide) (by decide) ?_
  rintro r1 h1 n1 ⟨rfl, rfl, v1, rfl, p1, s1⟩
  refine pj_iconst (q := 10) (v := nI 0) (pj_d p_X12_town 5 rfl) rfl (by decide) ?_
  refine pj_ist1 (q := 11) (pj_d p_X12_town 6 rfl) rfl (by first | rfl | assumption) ?_
  have loop : ∀ m k F, 56 - k < m → k ≤ 56 → (∀ j, j < k → F j = nI 0) → pj_V E B l Y_X12_town 6 0 0 11 [some (.ref g), some (.int (nI k))] [] (pj_up (pj_up h g (.inr (11, gd_Mo g v1))) (g + 5) (.inl (0, 56, .inl F))) n1 0 0 (gd_TW P τ v h g n1) := by
    intro m
    induction m with
    | zero => intro k F hi; omega
    | succ m ih =>
      intro k F hi hle hz
      have HM : pj_up (pj_up h g (.inr (11, gd_Mo g v1))) (g + 5) (.inl (0, 56, .inl F)) g = some (.inr (11, gd_Mo g v1)) := (pj_up_n (by omega)).trans pj_up_s
      refine pj_ild1 (q := 12) (pj_d p_X12_town 7 rfl) rfl ?_
      refine pj_bipush (q := 14) (v := nI 56) (pj_d p_X12_town 8 rfl) rfl (by decide) ?_
      refine pj_icmp_ge (t := 30) (q := 17) (pj_d p_X12_town 9 rfl) rfl (by decide) (fun c1 => ?_) (fun c1 => ?_)
      · have he : k = 56 := by have := gd_ge c1 (by omega) (by omega); omega
        subst he
        have z1 : (0 : Nat) < 56 := by omega
        refine pj_ald0 (q := 31) (pj_d p_X12_town 17 rfl) rfl ?_
        refine pj_gf (q := 34) (k := 6) (pj_d p_X12_town 18 rfl) rfl kX12_22 (by first | assumption | exact pj_up_s | exact (pj_up_n (by omega)).trans (by assumption) | exact (pj_up_n (by omega)).trans pj_up_s) (by rfl) (by rfl) ?_
        refine pj_iconst (q := 35) (v := nI 0) (pj_d p_X12_town 19 rfl) rfl (by decide) ?_
        refine pj_iconst (q := 36) (v := nI 1) (pj_d p_X12_town 20 rfl) rfl (by decide) ?_
        refine pj_iast (q := 37) (pj_d p_X12_town 21 rfl) rfl (by first | assumption | exact pj_up_s | exact (pj_up_n (by omega)).trans (by assumption) | exact (pj_up_n (by omega)).trans pj_up_s) (by rfl) (by first | assumption | omega) (Nat.le_of_ble_eq_true rfl) ?_
        rw [pj_up_up]
        have HM1 : pj_up (pj_up h g (.inr (11, gd_Mo g v1))) (g + 5) (.inl (0, 56, .inl (upd F 0 (nI 1)))) g = some (.inr (11, gd_Mo g v1)) := (pj_up_n (by omega)).trans pj_up_s
        have H7 : pj_up (pj_up h g (.inr (11, gd_Mo g v1))) (g + 5) (.inl (0, 56, .inl (upd F 0 (nI 1)))) (g + 7) = some (.inl (0, 120, .inl (fun j => nI (c j)))) := by rw [pj_up_n (by omega), pj_up_n (by omega)]; exact hb
        have pb0 : gd_PB L (0, 0, 0) := ⟨Nat.zero_le _, Nat.zero_le _, Nat.zero_le _⟩
        refine pj_ald0 (q := 38) (pj_d p_X12_town 22 rfl) rfl ?_
        refine pj_ald0 (q := 39) (pj_d p_X12_town 23 rfl) rfl ?_
        refine pj_bipush (q := 41) (v := nI 99) (pj_d p_X12_town 24 rfl) rfl (by decide) ?_
        refine pj_cp (pj_rV (q := 44) (c_X12_isLetter HM1 hc s1 pb0 (x := 99) (by omega)) (pj_d p_X12_town 25 rfl) rfl kX12_136 o_X12_isLetter (by first | assumption | exact pj_up_s | exact (pj_up_n (by omega)).trans (by assumption) | exact (pj_up_n (by omega)).trans pj_up_s) (by rfl) (by rfl) (by rfl) (by rfl) (Nat.le_of_ble_eq_true rfl) (by decide)) (by decide) (by decide) ?_
        refine pj_cv (pj_rV (q := 47) (c_X12_must HM1 H7 hL hc s1 pb0 _) (pj_d p_X12_town 26 rfl) rfl kX12_112 o_X12_must (by first | assumption | exact pj_up_s | exact (pj_up_n (by omega)).trans (by assumption) | exact (pj_up_n (by omega)).trans pj_up_s) (by rfl) (by rfl) (by rfl) (by rfl) (Nat.le_of_ble_eq_true rfl) (by decide)) (by decide) (by decide) ?_
        rintro r2 h2 n2 ⟨rfl, rfl, v2, rfl, p2', s2⟩
        rw [gd_mu_letter (S := (0, 0, 0)) rfl (by omega)] at s2
        refine pj_iconst (q := 48) (v := nI 0) (pj_d p_X12_town 27 rfl) rfl (by decide) ?_
        refine pj_ist1 (q := 49) (pj_d p_X12_town 28 rfl) rfl (by first | rfl | assumption) ?_
        refine gd_twW hT hb hL hc hs0 e2 e3 h22 q1 q2 8 0 _ (by omega) (by omega) ⟨v2, upd F 0 (nI 1), pj_up_s, (pj_up_n (by omega)).trans pj_up_s, fun i hi => by rw [p2' i hi, p1 i hi], ?_, fun _ j hj => ?_, fun q a1 a2 => by rw [pj_up_n a1, pj_up_n a2, pj_up_n a1]⟩
        · rw [gd_wP, if_pos (by decide), gd_wS, if_neg (by decide), gd_wk, hs0]
          exact s2
        · rw [gd_wk, hs0]
          dsimp only
          rw [gd_z0]
          by_cases z : j = 0
          · rw [z, gd_upd_s, gd_set_s]
          · rw [gd_upd_n z, gd_set_n z, hz j hj]
      have hlt : k < 56 := gd_lt c1 (by omega)
      refine pj_ald0 (q := 18) (pj_d p_X12_town 10 rfl) rfl ?_
      refine pj_gf (q := 21) (k := 6) (pj_d p_X12_town 11 rfl) rfl kX12_22 (by first | assumption | exact pj_up_s | exact (pj_up_n (by omega)).trans (by assumption) | exact (pj_up_n (by omega)).trans pj_up_s) (by rfl) (by rfl) ?_
      refine pj_ild1 (q := 22) (pj_d p_X12_town 12 rfl) rfl ?_
      refine pj_iconst (q := 23) (v := nI 0) (pj_d p_X12_town 13 rfl) rfl (by decide) ?_
      refine pj_iast (q := 24) (pj_d p_X12_town 14 rfl) rfl (by first | assumption | exact pj_up_s | exact (pj_up_n (by omega)).trans (by assumption) | exact (pj_up_n (by omega)).trans pj_up_s) (by rfl) (by first | assumption | omega) (Nat.le_of_ble_eq_true rfl) ?_
      rw [pj_up_up]
      refine pj_iinc1 (q := 27) (v := 1) (pj_d p_X12_town 15 rfl) rfl (by first | rfl | assumption) (by decide) ?_
      refine pj_goto (t := 11) (pj_d p_X12_town 16 rfl) (by decide) ?_
      rw [nI_1]
      refine ih (k + 1) _ (by omega) (by omega) (fun j hj => ?_)
      by_cases z : j = k
      · rw [z, gd_upd_s]
      · rw [gd_upd_n z, hz j (by omega)]
  have := loop 57 0 F0 (by omega) (by omega) (fun j hj => absurd hj (Nat.not_lt_zero j))
  rw [pj_up_id ((pj_up_n (by omega)).trans hF)] at this
  exact this
theorem c_X12_feed (hM : h g = some (.inr (11, gd_Mo g v))) (hv : v 0 = nI 0) (hb : h (g + 7) = some (.inl (0, 120, .inl (fun j => nI (c j))))) (hL : L ≤ 120) (h10 : v 10 = nI L) (x : Int32) : pj_Ct E B l Y_X12_feed 2 0 0 [.ref g, .int x] h n (fun r h' n' => r = some (.int (sp_feed x (c, L)).1) ∧ n' = n ∧ h' g = some (.inr (11, gd_Mo g (upd v 10 (nI (sp_feed x (c, L)).2.2)))) ∧ h' (g + 7) = some (.inl (0, 120, .inl (fun j => nI ((sp_feed x (c, L)).2.1 j)))) ∧ ∀ q, q ≠ g → q ≠ g + 7 → h' q = h q) := by
  refine pj_in rfl (ls := [some (.ref g), some (.int (x))]) rfl (Nat.le_of_ble_eq_true rfl) ?_
  refine gd_thr (pj_d p_X12_feed 0 rfl) (pj_d p_X12_feed 1 rfl) (pj_d p_X12_feed 2 rfl) rfl hM hv ?_
  refine pj_ild1 (q := 6) (pj_d p_X12_feed 3 rfl) rfl ?_
  refine pj_i2l (q := 7) (pj_d p_X12_feed 4 rfl) rfl ?_
  refine pj_lconst (q := 8) (v := lN 0) (pj_d p_X12_feed 5 rfl) rfl (by decide) ?_
  refine pj_ldc2 (q := 11) (pj_d p_X12_feed 6 rfl) rfl kX12_72 ?_
  refine pj_cp (pj_rS (q := 14) (c_X12_in x (lN 0) 255 0 255 (by decide) (by decide)) (pj_d p_X12_feed 7 rfl) rfl kX12_57 o_X12_in (by rfl) (by rfl) (Nat.le_of_ble_eq_true rfl) (by decide)) (by decide) (by decide) ?_
  have idv : upd v 10 (nI L) = v := gd_upd_id h10
  refine pj_if_ne (t := 20) (q := 17) (pj_d p_X12_feed 8 rfl) rfl (by decide) (fun c1 => ?_) (fun c1 => ?_)
  rotate_left
  · have e := (gd_b_z _).mp c1
    have es : sp_feed x (c, L) = (-1000001, (c, L)) := by rw [sp_feed, e, if_neg (by decide)]
    refine pj_ldc (q := 19) (pj_d p_X12_feed 9 rfl) rfl kX12_67 ?_
    refine pj_iret rfl (pj_d p_X12_feed 10 rfl) (by decide) (by decide) ?_
    rw [es]
    exact ⟨rfl, rfl, by dsimp only; rw [idv]; exact hM, hb, fun _ _ _ => rfl⟩
  have e1 := (gd_b_n _).mp c1
  obtain ⟨j, hj, rfl, hd⟩ := gd_rng_of (hi := 255) e1
  refine pj_ald0 (q := 21) (pj_d p_X12_feed 11 rfl) rfl ?_
  refine pj_gf (q := 24) (k := 10) (pj_d p_X12_feed 12 rfl) rfl kX12_74 (by first | assumption | exact pj_up_s | exact (pj_up_n (by omega)).trans (by assumption) | exact (pj_up_n (by omega)).trans pj_up_s) (by rfl) (by rfl) ?_
  refine pj_bipush (q := 26) (v := nI 120) (pj_d p_X12_feed 13 rfl) rfl (by decide) ?_
  rw [h10]
  refine pj_icmp_ne (t := 32) (q := 29) (pj_d p_X12_feed 14 rfl) rfl (by decide) (fun c2 => ?_) (fun c2 => ?_)
  rotate_left
  · have e : L = 120 := (nI_eq (by omega) (by omega)).mp c2
    have es : sp_feed (nI j) (c, L) = (-1000003, (c, L)) := by rw [sp_feed, e1, if_pos rfl, if_neg (by show ¬ L < 120; omega)]
    refine pj_ldc (q := 31) (pj_d p_X12_feed 15 rfl) rfl kX12_77 ?_
    refine pj_iret rfl (pj_d p_X12_feed 16 rfl) (by decide) (by decide) ?_
    rw [es]
    exact ⟨rfl, rfl, by dsimp only; rw [idv]; exact hM, hb, fun _ _ _ => rfl⟩
  have lt : L < 120 := by
    have : ¬ L = 120 := fun q => c2 (by rw [q])
    omega
  have es : sp_feed (nI j) (c, L) = (nI (L + 1), (gd_set c L j, L + 1)) := by rw [sp_feed, e1, if_pos rfl, if_pos (show L < 120 from lt), hd]
  refine pj_ald0 (q := 33) (pj_d p_X12_feed 17 rfl) rfl ?_
  refine pj_gf (q := 36) (k := 9) (pj_d p_X12_feed 18 rfl) rfl kX12_28 (by first | assumption | exact pj_up_s | exact (pj_up_n (by omega)).trans (by assumption) | exact (pj_up_n (by omega)).trans pj_up_s) (by rfl) (by rfl) ?_
  refine pj_ald0 (q := 37) (pj_d p_X12_feed 19 rfl) rfl ?_
  refine pj_gf (q := 40) (k := 10) (pj_d p_X12_feed 20 rfl) rfl kX12_74 (by first | assumption | exact pj_up_s | exact (pj_up_n (by omega)).trans (by assumption) | exact (pj_up_n (by omega)).trans pj_up_s) (by rfl) (by rfl) ?_
  rw [h10]
  refine pj_ild1 (q := 41) (pj_d p_X12_feed 21 rfl) rfl ?_
  refine pj_iast (q := 42) (pj_d p_X12_feed 22 rfl) rfl (by first | assumption | exact pj_up_s | exact (pj_up_n (by omega)).trans (by assumption) | exact (pj_up_n (by omega)).trans pj_up_s) (by rfl) (by first | assumption | omega) (Nat.le_of_ble_eq_true rfl) ?_
  rw [gd_setI']
  refine pj_ald0 (q := 43) (pj_d p_X12_feed 23 rfl) rfl ?_
  refine pj_dup (q := 44) (pj_d p_X12_feed 24 rfl) rfl rfl ?_
  refine pj_gf (q := 47) (k := 10) (pj_d p_X12_feed 25 rfl) rfl kX12_74 (by first | assumption | exact pj_up_s | exact (pj_up_n (by omega)).trans (by assumption) | exact (pj_up_n (by omega)).trans pj_up_s) (by rfl) (by rfl) ?_
  rw [h10]
  refine pj_iconst (q := 48) (v := nI 1) (pj_d p_X12_feed 26 rfl) rfl (by decide) ?_
  refine pj_iadd (q := 49) (pj_d p_X12_feed 27 rfl) rfl ?_
  rw [nI_add]
  refine pj_pf (q := 52) (k := 10) (fs' := gd_Mo g (upd v 10 (nI (L + 1)))) (pj_d p_X12_feed 28 rfl) rfl kX12_74 (by first | assumption | exact pj_up_s | exact (pj_up_n (by omega)).trans (by assumption) | exact (pj_up_n (by omega)).trans pj_up_s) (by rfl) (Or.inl rfl) (by rfl) (by rfl) (by rfl) (by show 10 < 24; decide) (by rfl) ?_
  refine pj_ald0 (q := 53) (pj_d p_X12_feed 29 rfl) rfl ?_
  refine pj_gf (q := 56) (k := 10) (pj_d p_X12_feed 30 rfl) rfl kX12_74 (by first | assumption | exact pj_up_s | exact (pj_up_n (by omega)).trans (by assumption) | exact (pj_up_n (by omega)).trans pj_up_s) (by rfl) (by rfl) ?_
  rw [show upd v 10 (nI (L + 1)) 10 = nI (L + 1) from gd_upd_s]
  refine pj_iret rfl (pj_d p_X12_feed 31 rfl) (by decide) (by decide) ?_
  rw [es]
  exact ⟨rfl, rfl, pj_up_s, (pj_up_n (by omega)).trans pj_up_s, fun q a1 a2 => by rw [pj_up_n a1, pj_up_n a2]⟩
end
