/-! ===== rows, of the model ===== -/
def gd_RM (h : pj_H) (g : Nat) (ln : Nat → Int32) (mn : Nat → Nat) (it : Nat → Nat → Int32) : Prop :=
  (∃ f, h (g + 1) = some (.inl (0, 8, .inl f)) ∧ ∀ r, r < 8 → f r = ln r) ∧
  (∃ f, h (g + 2) = some (.inl (0, 8, .inl f)) ∧ ∀ r, r < 8 → f r = nI (mn r)) ∧
  (∃ f, h (g + 3) = some (.inl (0, 320, .inl f)) ∧ ∀ r i, r < 8 → i < 40 → f (40 * r + i) = it r i)
theorem gd_RM.out {h h' : pj_H} {g : Nat} {ln : Nat → Int32} {mn : Nat → Nat} {it : Nat → Nat → Int32} (hR : gd_RM h g ln mn it) (hq : ∀ q, g + 1 ≤ q → q ≤ g + 3 → h' q = h q) : gd_RM h' g ln mn it := by
  obtain ⟨⟨f1, h1, g1⟩, ⟨f2, h2, g2⟩, ⟨f3, h3, g3⟩⟩ := hR
  exact ⟨⟨f1, by rw [hq _ (by omega) (by omega)]; exact h1, g1⟩, ⟨f2, by rw [hq _ (by omega) (by omega)]; exact h2, g2⟩, ⟨f3, by rw [hq _ (by omega) (by omega)]; exact h3, g3⟩⟩
def gd_PM (x : Int32) (s' : gd_S) (h : pj_H) (g : Nat) (v : Nat → Int32) (n : Nat) : Option Value → pj_H → Nat → Prop := fun r h' n' => r = some (.int x) ∧ n' = n ∧ h' g = some (.inr (11, gd_Mo g (upd v 1 s'.1))) ∧ gd_RM h' g s'.2.1 s'.2.2.1 s'.2.2.2 ∧ ∀ q, (q < g ∨ g + 3 < q) → h' q = h q
theorem gd_upd_id {f : Nat → Int32} {k : Nat} {x : Int32} (h : f k = x) : upd f k x = f := by
  funext j
  rw [gd_upd]
  split
  · rename_i e; rw [e, h]
  · rfl
theorem gd_upd_upd {f : Nat → Int32} {k : Nat} {x y : Int32} : upd (upd f k x) k y = upd f k y := by
  funext j
  rw [gd_upd, gd_upd, gd_upd]
  split <;> rfl
theorem gd_lane {ln : Nat → Int32} {mn : Nat → Nat} (hB : gd_RB ln mn) {r : Nat} (hr : r < 8) : (0 ≤ ln r ↔ ¬ ln r = -1) := by
  rcases (hB r hr).1 with e | ⟨j, hj, e⟩
  · rw [e]; decide
  · rw [e]
    rcases (show j = 0 ∨ j = 1 ∨ j = 2 by omega) with rfl | rfl | rfl <;> decide
section
variable {E : pj_E} {B : Nat} {l : Launch} {h : pj_H} {n g : Nat} {v : Nat → Int32} {s : gd_S}
theorem c_X12_finding (hM : h g = some (.inr (11, gd_Mo g v))) (x : Int32) : pj_Ct E B l Y_X12_finding 1 0 0 [.ref g, .int x] h n (fun r h' n' => r = some (.int (-1000010 - x)) ∧ n' = n ∧ h' = pj_up h g (.inr (11, gd_Mo g (upd v 1 x)))) := by
  refine pj_in rfl (ls := [some (.ref g), some (.int (x))]) rfl (Nat.le_of_ble_eq_true rfl) ?_
  refine pj_ald0 (q := 1) (pj_d p_X12_finding 0 rfl) rfl ?_
  refine pj_ild1 (q := 2) (pj_d p_X12_finding 1 rfl) rfl ?_
  refine pj_pf (q := 5) (k := 1) (fs' := gd_Mo g (upd v 1 x)) (pj_d p_X12_finding 2 rfl) rfl kX12_51 hM rfl (Or.inl rfl) rfl rfl rfl (by show 1 < 24; decide) rfl ?_
  refine pj_ldc (q := 7) (pj_d p_X12_finding 3 rfl) rfl kX12_54 ?_
  refine pj_ild1 (q := 8) (pj_d p_X12_finding 4 rfl) rfl ?_
  refine pj_isub (q := 9) (pj_d p_X12_finding 5 rfl) rfl ?_
  refine pj_iret rfl (pj_d p_X12_finding 6 rfl) (by decide) (by decide) ?_
  exact ⟨rfl, rfl, rfl⟩
theorem gd_PM_bad {x : Int32} (hM : h g = some (.inr (11, gd_Mo g v))) (hs : v 1 = s.1) (hR : gd_RM h g s.2.1 s.2.2.1 s.2.2.2) {y : Int32 × gd_S} (e : y = (x, s)) : gd_PM y.1 y.2 h g v n (some (.int x)) h n := by
  subst e
  exact ⟨rfl, rfl, by rw [gd_upd_id hs]; exact hM, hR, fun _ _ => rfl⟩
theorem gd_PM_fin {x k : Int32} (hR : gd_RM h g s.2.1 s.2.2.1 s.2.2.2) {y : Int32 × gd_S} (e : y = (x, (k, s.2))) : gd_PM y.1 y.2 h g v n (some (.int x)) (pj_up h g (.inr (11, gd_Mo g (upd v 1 k)))) n := by
  subst e
  exact ⟨rfl, rfl, pj_up_s, hR.out (fun q h1 h2 => pj_up_n (by omega)), fun q hq => pj_up_n (by omega)⟩
theorem c_X12_drop (hM : h g = some (.inr (11, gd_Mo g v))) (hv : v 0 = nI 0) (hs : v 1 = s.1) (hR : gd_RM h g s.2.1 s.2.2.1 s.2.2.2) (hB : gd_RB s.2.1 s.2.2.1) (r : Int32) : pj_Ct E B l Y_X12_drop 3 0 0 [.ref g, .int r] h n (gd_PM (sp_drop r s).1 (sp_drop r s).2 h g v n) := by
  refine pj_in rfl (ls := [some (.ref g), some (.int (r))]) rfl (Nat.le_of_ble_eq_true rfl) ?_
  refine gd_thr (pj_d p_X12_drop 0 rfl) (pj_d p_X12_drop 1 rfl) (pj_d p_X12_drop 2 rfl) rfl hM hv ?_
  refine pj_ild1 (q := 6) (pj_d p_X12_drop 3 rfl) rfl ?_
  refine pj_cp (pj_rS (q := 9) (c_X12_isRow r) (pj_d p_X12_drop 4 rfl) rfl kX12_61 o_X12_isRow (by rfl) (by rfl) (Nat.le_of_ble_eq_true rfl) (by decide)) (by decide) (by decide) ?_
  refine pj_if_ne (t := 15) (q := 12) (pj_d p_X12_drop 5 rfl) rfl (by decide) (fun c1 => ?_) (fun c1 => ?_)
  rotate_left
  · refine pj_ldc (q := 14) (pj_d p_X12_drop 6 rfl) rfl kX12_67 ?_
    refine pj_iret rfl (pj_d p_X12_drop 7 rfl) (by decide) (by decide) ?_
    exact gd_PM_bad hM hs hR (by rw [sp_drop, (gd_b_z _).mp c1]; rfl)
  have e1 := (gd_b_n _).mp c1
  obtain ⟨r', hr, rfl, hrc⟩ := gd_rng_of (hi := 7) e1
  obtain ⟨⟨f1, R1, g1⟩, ⟨f2, R2, g2⟩, ⟨f3, R3, g3⟩⟩ := hR
  refine pj_ald0 (q := 16) (pj_d p_X12_drop 8 rfl) rfl ?_
  refine pj_iconst (q := 17) (v := nI 0) (pj_d p_X12_drop 9 rfl) rfl (by decide) ?_
  refine pj_pf (q := 20) (k := 1) (fs' := gd_Mo g (upd v 1 (nI 0))) (pj_d p_X12_drop 10 rfl) rfl kX12_51 hM rfl (Or.inl rfl) rfl rfl rfl (by show 1 < 24; decide) rfl ?_
  have hM1 : (pj_up h g (.inr (11, gd_Mo g (upd v 1 (nI 0))))) g = some (.inr (11, gd_Mo g (upd v 1 (nI 0)))) := pj_up_s
  have S1 : (pj_up h g (.inr (11, gd_Mo g (upd v 1 (nI 0))))) (g + 1) = some (.inl (0, 8, .inl f1)) := by rw [pj_up_n (by omega)]; exact R1
  refine pj_ald0 (q := 21) (pj_d p_X12_drop 11 rfl) rfl ?_
  refine pj_gf (q := 24) (k := 2) (pj_d p_X12_drop 12 rfl) rfl kX12_7 (by assumption) (by rfl) (by rfl) ?_
  refine pj_ild1 (q := 25) (pj_d p_X12_drop 13 rfl) rfl ?_
  refine pj_ialdN (q := 26) (pj_d p_X12_drop 14 rfl) rfl (by assumption) (by rfl) (by first | assumption | omega) (Nat.le_of_ble_eq_true rfl) ?_
  rw [g1 r' (by omega)]
  refine pj_if_ge (t := 35) (q := 29) (pj_d p_X12_drop 15 rfl) rfl (by decide) (fun c2 => ?_) (fun c2 => ?_)
  · have ht : gd_th s.2.1 (nI r') = true := by rw [gd_th, e1, hrc, decide_eq_false ((gd_lane hB (by omega)).mp c2)]; rfl
    refine pj_ald0 (q := 36) (pj_d p_X12_drop 20 rfl) rfl ?_
    refine pj_gf (q := 39) (k := 2) (pj_d p_X12_drop 21 rfl) rfl kX12_7 (by assumption) (by rfl) (by rfl) ?_
    refine pj_ild1 (q := 40) (pj_d p_X12_drop 22 rfl) rfl ?_
    refine pj_iconst (q := 41) (v := (-1)) (pj_d p_X12_drop 23 rfl) rfl (by decide) ?_
    refine pj_iast (q := 42) (pj_d p_X12_drop 24 rfl) rfl (by assumption) (by rfl) (by first | assumption | omega) (Nat.le_of_ble_eq_true rfl) ?_
    have hM2 : (pj_up (pj_up h g (.inr (11, gd_Mo g (upd v 1 (nI 0))))) (g + 1) (.inl (0, 8, .inl (upd f1 r' (-1))))) g = some (.inr (11, gd_Mo g (upd v 1 (nI 0)))) := by rw [pj_up_n (by omega), pj_up_s]
    have S2 : (pj_up (pj_up h g (.inr (11, gd_Mo g (upd v 1 (nI 0))))) (g + 1) (.inl (0, 8, .inl (upd f1 r' (-1))))) (g + 2) = some (.inl (0, 8, .inl f2)) := by rw [pj_up_n (by omega), pj_up_n (by omega)]; exact R2
    refine pj_ald0 (q := 43) (pj_d p_X12_drop 25 rfl) rfl ?_
    refine pj_gf (q := 46) (k := 3) (pj_d p_X12_drop 26 rfl) rfl kX12_13 (by assumption) (by rfl) (by rfl) ?_
    refine pj_ild1 (q := 47) (pj_d p_X12_drop 27 rfl) rfl ?_
    refine pj_ialdN (q := 48) (pj_d p_X12_drop 28 rfl) rfl (by assumption) (by rfl) (by first | assumption | omega) (Nat.le_of_ble_eq_true rfl) ?_
    rw [g2 r' (by omega)]
    refine pj_iret rfl (pj_d p_X12_drop 29 rfl) (by decide) (by decide) ?_
    have hsp : sp_drop (nI r') s = (nI (s.2.2.1 r'), (nI 0, (fun q => if q = r' then -1 else s.2.1 q), s.2.2)) := by rw [sp_drop, if_pos e1, if_pos ht, hrc]
    rw [hsp]
    refine ⟨rfl, rfl, hM2, ⟨⟨_, pj_up_s, fun q hq => by rw [gd_upd]; split <;> rename_i e <;> simp [e, g1 q hq]⟩, ⟨f2, S2, g2⟩, ⟨f3, by rw [pj_up_n (by omega), pj_up_n (by omega)]; exact R3, g3⟩⟩, fun q hq => by rw [pj_up_n (by omega), pj_up_n (by omega)]⟩
  · have ht : gd_th s.2.1 (nI r') = false := by rw [gd_th, e1, hrc, decide_eq_true (Classical.byContradiction fun z => c2 ((gd_lane hB (by omega)).mpr z))]; rfl
    refine pj_ald0 (q := 30) (pj_d p_X12_drop 16 rfl) rfl ?_
    refine pj_iconst (q := 31) (v := nI 1) (pj_d p_X12_drop 17 rfl) rfl (by decide) ?_
    refine pj_cv (pj_rV (q := 34) (c_X12_finding hM1 (nI 1)) (pj_d p_X12_drop 18 rfl) rfl kX12_68 o_X12_finding (by assumption) (by rfl) (by rfl) (by rfl) (by rfl) (Nat.le_of_ble_eq_true rfl) (by decide)) (by decide) (by decide) ?_
    rintro r1 h1 n1 ⟨rfl, rfl, rfl⟩
    rw [pj_up_up, gd_upd_upd]
    refine pj_iret rfl (pj_d p_X12_drop 19 rfl) (by decide) (by decide) ?_
    exact gd_PM_fin ⟨⟨f1, R1, g1⟩, ⟨f2, R2, g2⟩, ⟨f3, R3, g3⟩⟩ (by rw [sp_drop, if_pos e1, ht]; rfl)
theorem c_X12_row (hM : h g = some (.inr (11, gd_Mo g v))) (hv : v 0 = nI 0) (hs : v 1 = s.1) (hR : gd_RM h g s.2.1 s.2.2.1 s.2.2.2) (r x c : Int32) : pj_Ct E B l Y_X12_row 3 0 0 [.ref g, .int r, .int x, .int c] h n (gd_PM (sp_row r x c s).1 (sp_row r x c s).2 h g v n) := by
  refine pj_in rfl (ls := [some (.ref g), some (.int (r)), some (.int (x)), some (.int (c)), none]) rfl (Nat.le_of_ble_eq_true rfl) ?_
  refine gd_thr (pj_d p_X12_row 0 rfl) (pj_d p_X12_row 1 rfl) (pj_d p_X12_row 2 rfl) rfl hM hv ?_
  have bad : (gd_rng r 0 7 && gd_rng x 0 2 && decide (c.toInt ≤ 40)) = false → pj_V E B l Y_X12_row 3 0 0 30 [some (.ref g), some (.int (r)), some (.int (x)), some (.int (c)), none] [] h n 0 0 (gd_PM (sp_row r x c s).1 (sp_row r x c s).2 h g v n) := by
    intro hn
    refine pj_ldc (q := 32) (pj_d p_X12_row 15 rfl) rfl kX12_67 ?_
    refine pj_iret rfl (pj_d p_X12_row 16 rfl) (by decide) (by decide) ?_
    exact gd_PM_bad hM hs hR (by rw [sp_row, hn]; rfl)
  refine pj_ild1 (q := 6) (pj_d p_X12_row 3 rfl) rfl ?_
  refine pj_cp (pj_rS (q := 9) (c_X12_isRow r) (pj_d p_X12_row 4 rfl) rfl kX12_61 o_X12_isRow (by rfl) (by rfl) (Nat.le_of_ble_eq_true rfl) (by decide)) (by decide) (by decide) ?_
  refine pj_if_eq (t := 30) (q := 12) (pj_d p_X12_row 5 rfl) rfl (by decide) (fun c1 => ?_) (fun c1 => ?_)
  · exact bad (by rw [(gd_b_z _).mp c1]; rfl)
  have e1 := (gd_b_n _).mp c1
  refine pj_ild2 (q := 13) (pj_d p_X12_row 6 rfl) rfl ?_
  refine pj_i2l (q := 14) (pj_d p_X12_row 7 rfl) rfl ?_
  refine pj_lconst (q := 15) (v := lN 0) (pj_d p_X12_row 8 rfl) rfl (by decide) ?_
  refine pj_ldc2 (q := 18) (pj_d p_X12_row 9 rfl) rfl kX12_65 ?_
  refine pj_cp (pj_rS (q := 21) (c_X12_in x (lN 0) 2 0 2 (by decide) (by decide)) (pj_d p_X12_row 10 rfl) rfl kX12_57 o_X12_in (by rfl) (by rfl) (Nat.le_of_ble_eq_true rfl) (by decide)) (by decide) (by decide) ?_
  refine pj_if_eq (t := 30) (q := 24) (pj_d p_X12_row 11 rfl) rfl (by decide) (fun c2 => ?_) (fun c2 => ?_)
  · exact bad (by rw [(gd_b_z _).mp c2]; simp)
  have e2 := (gd_b_n _).mp c2
  have e40 : (nI 40).toInt = 40 := by decide
  refine pj_ild3 (q := 25) (pj_d p_X12_row 12 rfl) rfl ?_
  refine pj_bipush (q := 27) (v := nI 40) (pj_d p_X12_row 13 rfl) rfl (by decide) ?_
  refine pj_icmp_le (t := 33) (q := 30) (pj_d p_X12_row 14 rfl) rfl (by decide) (fun c4 => ?_) (fun c4 => ?_)
  rotate_left
  · rw [Int32.le_iff_toInt_le, e40] at c4
    exact bad (by rw [decide_eq_false c4]; simp)
  rw [Int32.le_iff_toInt_le, e40] at c4
  have ok : (gd_rng r 0 7 && gd_rng x 0 2 && decide (c.toInt ≤ 40)) = true := by rw [e1, e2, decide_eq_true c4]; rfl
  obtain ⟨r', hr', rfl, hrc⟩ := gd_rng_of (hi := 7) e1
  have z0 : (0 : Int32).toInt = 0 := by decide
  obtain ⟨⟨f1, R1, g1⟩, ⟨f2, R2, g2⟩, ⟨f3, R3, g3⟩⟩ := hR
  refine pj_ald0 (q := 34) (pj_d p_X12_row 17 rfl) rfl ?_
  refine pj_iconst (q := 35) (v := nI 0) (pj_d p_X12_row 18 rfl) rfl (by decide) ?_
  refine pj_pf (q := 38) (k := 1) (fs' := gd_Mo g (upd v 1 (nI 0))) (pj_d p_X12_row 19 rfl) rfl kX12_51 hM rfl (Or.inl rfl) rfl rfl rfl (by show 1 < 24; decide) rfl ?_
  generalize hh1 : pj_up h g (.inr (11, gd_Mo g (upd v 1 (nI 0)))) = h1
  have q1 : ∀ q, q ≠ g → h1 q = h q := fun q e => by rw [← hh1, pj_up_n e]
  have hM1 : h1 g = some (.inr (11, gd_Mo g (upd v 1 (nI 0)))) := by rw [← hh1, pj_up_s]
  refine pj_ild3 (q := 39) (pj_d p_X12_row 20 rfl) rfl ?_
  refine pj_if_ge (t := 48) (q := 42) (pj_d p_X12_row 21 rfl) rfl (by decide) (fun c5 => ?_) (fun c5 => ?_)
  · rw [Int32.le_iff_toInt_le, z0] at c5
    have hsp : sp_row (nI r') x c s = (c, (nI 0, (fun q => if q = r' then x else s.2.1 q), (fun q => if q = r' then c.toNatClampNeg else s.2.2.1 q), (fun q i => if q = r' then nI 0 else s.2.2.2 q i))) := by
      rw [sp_row, ok, if_pos rfl, if_neg (by omega), hrc]
    obtain ⟨c', hc', rfl⟩ := nI_of (x := c) (by rw [Int32.lt_iff_toInt_lt, z0]; omega)
    rw [nI_toInt hc'] at c4
    rw [nI_clamp hc'] at hsp
    rw [hsp]
    have S1 : h1 (g + 1) = some (.inl (0, 8, .inl f1)) := by rw [q1 _ (by omega)]; exact R1
    refine pj_ald0 (q := 49) (pj_d p_X12_row 26 rfl) rfl ?_
    refine pj_gf (q := 52) (k := 2) (pj_d p_X12_row 27 rfl) rfl kX12_7 (by assumption) (by rfl) (by rfl) ?_
    refine pj_ild1 (q := 53) (pj_d p_X12_row 28 rfl) rfl ?_
    refine pj_ild2 (q := 54) (pj_d p_X12_row 29 rfl) rfl ?_
    refine pj_iast (q := 55) (pj_d p_X12_row 30 rfl) rfl (by assumption) (by rfl) (by first | assumption | omega) (Nat.le_of_ble_eq_true rfl) ?_
    generalize hh2 : pj_up h1 (g + 1) (.inl (0, 8, .inl (upd f1 r' x))) = h2
    have q2 : ∀ q, q ≠ g + 1 → h2 q = h1 q := fun q e => by rw [← hh2, pj_up_n e]
    have hM2 : h2 g = some (.inr (11, gd_Mo g (upd v 1 (nI 0)))) := by rw [q2 _ (by omega)]; exact hM1
    have S2 : h2 (g + 2) = some (.inl (0, 8, .inl f2)) := by rw [q2 _ (by omega), q1 _ (by omega)]; exact R2
    refine pj_ald0 (q := 56) (pj_d p_X12_row 31 rfl) rfl ?_
    refine pj_gf (q := 59) (k := 3) (pj_d p_X12_row 32 rfl) rfl kX12_13 (by assumption) (by rfl) (by rfl) ?_
    refine pj_ild1 (q := 60) (pj_d p_X12_row 33 rfl) rfl ?_
    refine pj_ild3 (q := 61) (pj_d p_X12_row 34 rfl) rfl ?_
    refine pj_iast (q := 62) (pj_d p_X12_row 35 rfl) rfl (by assumption) (by rfl) (by first | assumption | omega) (Nat.le_of_ble_eq_true rfl) ?_
    generalize hh3 : pj_up h2 (g + 2) (.inl (0, 8, .inl (upd f2 r' (nI c')))) = h3
    have q3 : ∀ q, q ≠ g + 2 → h3 q = h2 q := fun q e => by rw [← hh3, pj_up_n e]
    have hM3 : h3 g = some (.inr (11, gd_Mo g (upd v 1 (nI 0)))) := by rw [q3 _ (by omega)]; exact hM2
    have S3 : h3 (g + 3) = some (.inl (0, 320, .inl f3)) := by rw [q3 _ (by omega), q2 _ (by omega), q1 _ (by omega)]; exact R3
    refine pj_iconst (q := 63) (v := nI 0) (pj_d p_X12_row 36 rfl) rfl (by decide) ?_
    refine pj_ist4 (q := 65) (pj_d p_X12_row 37 rfl) rfl (by first | rfl | assumption) ?_
    have loop : ∀ m i f, (∀ q z, q < 8 → z < 40 → f (40 * q + z) = if q = r' ∧ z < i then nI 0 else s.2.2.2 q z) → 40 - i < m → i ≤ 40 → pj_V E B l Y_X12_row 3 0 0 65 [some (.ref g), some (.int (nI r')), some (.int (x)), some (.int (nI c')), some (.int (nI i))] [] (pj_up h3 (g + 3) (.inl (0, 320, .inl f))) n 0 0 (gd_PM (nI c', ((nI 0 : Int32), (fun q => if q = r' then x else s.2.1 q), (fun q => if q = r' then c' else s.2.2.1 q), (fun q i => if q = r' then nI 0 else s.2.2.2 q i))).1 (nI c', ((nI 0 : Int32), (fun q => if q = r' then x else s.2.1 q), (fun q => if q = r' then c' else s.2.2.1 q), (fun q i => if q = r' then nI 0 else s.2.2.2 q i))).2 h g v n) := by
      intro m
      induction m with
      | zero => intro i f _ hi; omega
      | succ m ih =>
        intro i f hf hi hle
        have hM4 : (pj_up h3 (g + 3) (.inl (0, 320, .inl f))) g = some (.inr (11, gd_Mo g (upd v 1 (nI 0)))) := by rw [pj_up_n (by omega)]; exact hM3
        have S4 : (pj_up h3 (g + 3) (.inl (0, 320, .inl f))) (g + 3) = some (.inl (0, 320, .inl f)) := pj_up_s
        refine pj_ild4 (q := 67) (pj_d p_X12_row 38 rfl) rfl ?_
        refine pj_bipush (q := 69) (v := nI 40) (pj_d p_X12_row 39 rfl) rfl (by decide) ?_
        refine pj_icmp_ge (t := 91) (q := 72) (pj_d p_X12_row 40 rfl) rfl (by decide) (fun c6 => ?_) (fun c6 => ?_)
        · have he : i = 40 := by have := gd_ge c6 (by omega) (by omega); omega
          subst he
          refine pj_ild3 (q := 92) (pj_d p_X12_row 52 rfl) rfl ?_
          refine pj_iret rfl (pj_d p_X12_row 53 rfl) (by decide) (by decide) ?_
          refine ⟨rfl, rfl, hM4, ⟨⟨_, by rw [pj_up_n (by omega), q3 _ (by omega), ← hh2, pj_up_s], fun q hq => by rw [gd_upd]; split <;> rename_i e <;> simp [e, g1 q hq]⟩, ⟨_, by rw [pj_up_n (by omega), ← hh3, pj_up_s], fun q hq => by rw [gd_upd]; split <;> rename_i e <;> simp [e, g2 q hq]⟩, ⟨f, S4, fun q z hq hz => by rw [hf q z hq hz]; simp [hz]⟩⟩, fun q hq => by rw [pj_up_n (by omega), q3 _ (by omega), q2 _ (by omega), q1 _ (by omega)]⟩
        have hlt : i < 40 := gd_lt c6 (by omega)
        refine pj_ald0 (q := 73) (pj_d p_X12_row 41 rfl) rfl ?_
        refine pj_gf (q := 76) (k := 4) (pj_d p_X12_row 42 rfl) rfl kX12_16 (by assumption) (by rfl) (by rfl) ?_
        refine pj_bipush (q := 78) (v := nI 40) (pj_d p_X12_row 43 rfl) rfl (by decide) ?_
        refine pj_ild1 (q := 79) (pj_d p_X12_row 44 rfl) rfl ?_
        refine pj_imul (q := 80) (pj_d p_X12_row 45 rfl) rfl ?_
        refine pj_ild4 (q := 82) (pj_d p_X12_row 46 rfl) rfl ?_
        refine pj_iadd (q := 83) (pj_d p_X12_row 47 rfl) rfl ?_
        rw [pk_mul, nI_add]
        refine pj_iconst (q := 84) (v := nI 0) (pj_d p_X12_row 48 rfl) rfl (by decide) ?_
        refine pj_iast (q := 85) (pj_d p_X12_row 49 rfl) rfl (by assumption) (by rfl) (by first | assumption | omega) (Nat.le_of_ble_eq_true rfl) ?_
        rw [pj_up_up]
        refine pj_iinc4 (q := 88) (v := 1) (pj_d p_X12_row 50 rfl) rfl (by first | rfl | assumption) (by decide) ?_
        refine pj_goto (t := 65) (pj_d p_X12_row 51 rfl) (by decide) ?_
        rw [nI_1]
        refine ih (i + 1) _ (fun q z hq hz => ?_) (by omega) (by omega)
        rw [gd_upd]
        by_cases e : 40 * q + z = 40 * r' + i
        · rw [if_pos e, if_pos (by omega)]
        · rw [if_neg e, hf q z hq hz]
          by_cases e2 : q = r' ∧ z < i
          · rw [if_pos e2, if_pos (by omega)]
          · rw [if_neg e2, if_neg (by omega)]
    have := loop 41 0 f3 (fun q z hq hz => by rw [g3 q z hq hz]; simp) (by omega) (by omega)
    rw [pj_up_id S3] at this
    exact this
  · rw [Int32.le_iff_toInt_le, z0] at c5
    refine pj_ald0 (q := 43) (pj_d p_X12_row 22 rfl) rfl ?_
    refine pj_iconst (q := 44) (v := nI 4) (pj_d p_X12_row 23 rfl) rfl (by decide) ?_
    refine pj_cv (pj_rV (q := 47) (c_X12_finding hM1 (nI 4)) (pj_d p_X12_row 24 rfl) rfl kX12_68 o_X12_finding (by assumption) (by rfl) (by rfl) (by rfl) (by rfl) (Nat.le_of_ble_eq_true rfl) (by decide)) (by decide) (by decide) ?_
    rintro r1 h2 n1 ⟨rfl, rfl, rfl⟩
    rw [← hh1, pj_up_up, gd_upd_upd]
    refine pj_iret rfl (pj_d p_X12_row 25 rfl) (by decide) (by decide) ?_
    exact gd_PM_fin ⟨⟨f1, R1, g1⟩, ⟨f2, R2, g2⟩, ⟨f3, R3, g3⟩⟩ (by rw [sp_row, ok, if_pos rfl, if_pos (by omega)]; rfl)
end
