/-! ===== rows, of the model: set, copy ===== -/
theorem gd_th_iff {ln : Nat → Int32} {mn : Nat → Nat} (hB : gd_RB ln mn) {r : Nat} (hr : r < 8) : (0 ≤ ln r ↔ gd_th ln (nI r) = true) := by
  rw [gd_lane hB hr, gd_th, gd_rng_nI (by omega), nI_clamp (by omega), decide_eq_true (by omega)]
  simp
theorem gd_cut_eq {ln : Nat → Int32} (r : Nat) (x : Int32) : (¬ ln r = 0 → ¬ ln r = nI 1 → gd_cut (ln r) x = x) ∧ (¬ ln r = 0 → ln r = nI 1 → gd_cut (ln r) x = x.toInt16.toInt32) ∧ (ln r = 0 → gd_cut (ln r) x = x.toInt8.toInt32) := by
  have z : (0 : Int32) = nI 0 := rfl
  refine ⟨fun h1 h2 => ?_, fun h1 h2 => ?_, fun h1 => ?_⟩
  · rw [gd_cut, if_neg (show ¬ ln r = nI 0 from h1), if_neg h2]
  · rw [gd_cut, if_neg (show ¬ ln r = nI 0 from h1), if_pos h2]
  · rw [gd_cut, if_pos (show ln r = nI 0 from h1)]
theorem gd_cm1' {c : Nat} (hc : c ≤ 40) : (nI c - nI 1).toInt64.toInt = (c : Int) - 1 := by
  rw [Int32.toInt_toInt64, pk_sub_toInt (by omega) (by omega)]; rfl
theorem gd_ladd (x y : Int32) : (x.toInt64 + y.toInt64).toInt = x.toInt + y.toInt := by
  have h1 := fb_rng' x
  have h2 := fb_rng' y
  rw [Int64.toInt_add]
  simp only [Int32.toInt_toInt64]
  exact Int.bmod_eq_of_le (by omega) (by omega)
section
variable {E : pj_E} {B : Nat} {l : Launch} {h : pj_H} {n g : Nat} {v : Nat → Int32} {s : gd_S}
theorem c_X12_set (hM : h g = some (.inr (11, gd_Mo g v))) (hv : v 0 = nI 0) (hs : v 1 = s.1) (hR : gd_RM h g s.2.1 s.2.2.1 s.2.2.2) (hB : gd_RB s.2.1 s.2.2.1) (r i x : Int32) : pj_Ct E B l Y_X12_set 3 0 0 [.ref g, .int r, .int i, .int x] h n (gd_PM (sp_set r i x s).1 (sp_set r i x s).2 h g v n) := by
  refine pj_in rfl (ls := [some (.ref g), some (.int (r)), some (.int (i)), some (.int (x))]) rfl (Nat.le_of_ble_eq_true rfl) ?_
  refine gd_thr (pj_d p_X12_set 0 rfl) (pj_d p_X12_set 1 rfl) (pj_d p_X12_set 2 rfl) rfl hM hv ?_
  refine pj_ild1 (q := 6) (pj_d p_X12_set 3 rfl) rfl ?_
  refine pj_cp (pj_rS (q := 9) (c_X12_isRow r) (pj_d p_X12_set 4 rfl) rfl kX12_61 o_X12_isRow (by rfl) (by rfl) (Nat.le_of_ble_eq_true rfl) (by decide)) (by decide) (by decide) ?_
  refine pj_if_ne (t := 15) (q := 12) (pj_d p_X12_set 5 rfl) rfl (by decide) (fun c1 => ?_) (fun c1 => ?_)
  rotate_left
  · refine pj_ldc (q := 14) (pj_d p_X12_set 6 rfl) rfl kX12_67 ?_
    refine pj_iret rfl (pj_d p_X12_set 7 rfl) (by decide) (by decide) ?_
    exact gd_PM_bad hM hs hR (by rw [sp_set, (gd_b_z _).mp c1]; rfl)
  have e1 := (gd_b_n _).mp c1
  obtain ⟨r', hr', rfl, hrc⟩ := gd_rng_of (hi := 7) e1
  have hr : r' < 8 := by omega
  have h40 := (hB r' hr).2
  have hR0 := hR
  obtain ⟨⟨f1, R1, g1⟩, ⟨f2, R2, g2⟩, ⟨f3, R3, g3⟩⟩ := hR
  refine pj_ald0 (q := 16) (pj_d p_X12_set 8 rfl) rfl ?_
  refine pj_iconst (q := 17) (v := nI 0) (pj_d p_X12_set 9 rfl) rfl (by decide) ?_
  refine pj_pf (q := 20) (k := 1) (fs' := gd_Mo g (upd v 1 (nI 0))) (pj_d p_X12_set 10 rfl) rfl kX12_51 hM rfl (Or.inl rfl) rfl rfl rfl (by show 1 < 24; decide) rfl ?_
  generalize hh1 : pj_up h g (.inr (11, gd_Mo g (upd v 1 (nI 0)))) = h1
  have q1 : ∀ q, q ≠ g → h1 q = h q := fun q e => by rw [← hh1, pj_up_n e]
  have hM1 : h1 g = some (.inr (11, gd_Mo g (upd v 1 (nI 0)))) := by rw [← hh1, pj_up_s]
  have S1 : h1 (g + 1) = some (.inl (0, 8, .inl f1)) := by rw [q1 _ (by omega)]; exact R1
  have S2 : h1 (g + 2) = some (.inl (0, 8, .inl f2)) := by rw [q1 _ (by omega)]; exact R2
  have S3 : h1 (g + 3) = some (.inl (0, 320, .inl f3)) := by rw [q1 _ (by omega)]; exact R3
  refine pj_ald0 (q := 21) (pj_d p_X12_set 11 rfl) rfl ?_
  refine pj_gf (q := 24) (k := 2) (pj_d p_X12_set 12 rfl) rfl kX12_7 (by assumption) (by rfl) (by rfl) ?_
  refine pj_ild1 (q := 25) (pj_d p_X12_set 13 rfl) rfl ?_
  refine pj_ialdN (q := 26) (pj_d p_X12_set 14 rfl) rfl (by assumption) (by rfl) (by first | assumption | omega) (Nat.le_of_ble_eq_true rfl) ?_
  rw [g1 r' hr]
  refine pj_if_ge (t := 35) (q := 29) (pj_d p_X12_set 15 rfl) rfl (by decide) (fun c2 => ?_) (fun c2 => ?_)
  rotate_left
  · have ht : ¬ gd_th s.2.1 (nI r') = true := fun z => c2 ((gd_th_iff hB hr).mpr z)
    refine pj_ald0 (q := 30) (pj_d p_X12_set 16 rfl) rfl ?_
    refine pj_iconst (q := 31) (v := nI 1) (pj_d p_X12_set 17 rfl) rfl (by decide) ?_
    refine pj_cv (pj_rV (q := 34) (c_X12_finding hM1 (nI 1)) (pj_d p_X12_set 18 rfl) rfl kX12_68 o_X12_finding (by assumption) (by rfl) (by rfl) (by rfl) (by rfl) (Nat.le_of_ble_eq_true rfl) (by decide)) (by decide) (by decide) ?_
    rintro r1 h2 n1 ⟨rfl, rfl, rfl⟩
    rw [← hh1, pj_up_up, gd_upd_upd]
    refine pj_iret rfl (pj_d p_X12_set 19 rfl) (by decide) (by decide) ?_
    exact gd_PM_fin hR0 (by rw [sp_set, if_pos e1, if_neg ht]; rfl)
  have ht := (gd_th_iff hB hr).mp c2
  refine pj_ild2 (q := 36) (pj_d p_X12_set 20 rfl) rfl ?_
  refine pj_i2l (q := 37) (pj_d p_X12_set 21 rfl) rfl ?_
  refine pj_lconst (q := 38) (v := lN 0) (pj_d p_X12_set 22 rfl) rfl (by decide) ?_
  refine pj_ald0 (q := 39) (pj_d p_X12_set 23 rfl) rfl ?_
  refine pj_gf (q := 42) (k := 3) (pj_d p_X12_set 24 rfl) rfl kX12_13 (by assumption) (by rfl) (by rfl) ?_
  refine pj_ild1 (q := 43) (pj_d p_X12_set 25 rfl) rfl ?_
  refine pj_ialdN (q := 44) (pj_d p_X12_set 26 rfl) rfl (by assumption) (by rfl) (by first | assumption | omega) (Nat.le_of_ble_eq_true rfl) ?_
  rw [g2 r' hr]
  refine pj_iconst (q := 45) (v := nI 1) (pj_d p_X12_set 27 rfl) rfl (by decide) ?_
  refine pj_isub (q := 46) (pj_d p_X12_set 28 rfl) rfl ?_
  refine pj_i2l (q := 47) (pj_d p_X12_set 29 rfl) rfl ?_
  refine pj_cp (pj_rS (q := 50) (c_X12_in i (lN 0) (nI (s.2.2.1 r') - nI 1).toInt64 0 ((s.2.2.1 r' : Int) - 1) (by decide) (gd_cm1' h40)) (pj_d p_X12_set 30 rfl) rfl kX12_57 o_X12_in (by rfl) (by rfl) (Nat.le_of_ble_eq_true rfl) (by decide)) (by decide) (by decide) ?_
  have hpe : gd_hp s.2.1 s.2.2.1 (nI r') i (nI 1) = gd_rng i 0 ((s.2.2.1 r' : Int) - 1) := by
    rw [gd_hp, ht, hrc, gd_rng, Bool.true_and, decide_eq_decide]
    have e1 : (nI 1).toInt = 1 := by decide
    omega
  refine pj_if_ne (t := 59) (q := 53) (pj_d p_X12_set 31 rfl) rfl (by decide) (fun c3 => ?_) (fun c3 => ?_)
  rotate_left
  · have hp : ¬ gd_hp s.2.1 s.2.2.1 (nI r') i (nI 1) = true := by rw [hpe, (gd_b_z _).mp c3]; decide
    refine pj_ald0 (q := 54) (pj_d p_X12_set 32 rfl) rfl ?_
    refine pj_iconst (q := 55) (v := nI 2) (pj_d p_X12_set 33 rfl) rfl (by decide) ?_
    refine pj_cv (pj_rV (q := 58) (c_X12_finding hM1 (nI 2)) (pj_d p_X12_set 34 rfl) rfl kX12_68 o_X12_finding (by assumption) (by rfl) (by rfl) (by rfl) (by rfl) (Nat.le_of_ble_eq_true rfl) (by decide)) (by decide) (by decide) ?_
    rintro r1 h2 n1 ⟨rfl, rfl, rfl⟩
    rw [← hh1, pj_up_up, gd_upd_upd]
    refine pj_iret rfl (pj_d p_X12_set 35 rfl) (by decide) (by decide) ?_
    exact gd_PM_fin hR0 (by rw [sp_set, if_pos e1, if_pos ht, if_neg hp]; rfl)
  have e3 := (gd_b_n _).mp c3
  have hp : gd_hp s.2.1 s.2.2.1 (nI r') i (nI 1) = true := by rw [hpe, e3]
  obtain ⟨i', hi', rfl, hic⟩ : ∃ i', i' < 40 ∧ i = nI i' ∧ i.toNatClampNeg = i' := by
    rw [gd_rng, decide_eq_true_eq] at e3
    obtain ⟨j, hj, rfl⟩ := nI_of (x := i) (by rw [Int32.lt_iff_toInt_lt]; simp; omega)
    rw [nI_toInt hj] at e3
    exact ⟨j, by omega, rfl, nI_clamp hj⟩
  have hsp : sp_set (nI r') (nI i') x s = (gd_cut (s.2.1 r') x, (nI 0, s.2.1, s.2.2.1, (fun q z => if q = r' ∧ z = i' then gd_cut (s.2.1 r') x else s.2.2.2 q z))) := by rw [sp_set, if_pos e1, if_pos ht, if_pos hp, hrc, hic]
  rw [hsp]
  obtain ⟨k1, k2, k3⟩ := gd_cut_eq (ln := s.2.1) r' x
  generalize gd_cut (s.2.1 r') x = y at k1 k2 k3 ⊢
  refine pj_ald0 (q := 60) (pj_d p_X12_set 36 rfl) rfl ?_
  refine pj_gf (q := 63) (k := 4) (pj_d p_X12_set 37 rfl) rfl kX12_16 (by assumption) (by rfl) (by rfl) ?_
  refine pj_bipush (q := 65) (v := nI 40) (pj_d p_X12_set 38 rfl) rfl (by decide) ?_
  refine pj_ild1 (q := 66) (pj_d p_X12_set 39 rfl) rfl ?_
  refine pj_imul (q := 67) (pj_d p_X12_set 40 rfl) rfl ?_
  refine pj_ild2 (q := 68) (pj_d p_X12_set 41 rfl) rfl ?_
  rw [pk_mul]
  refine pj_iadd (q := 69) (pj_d p_X12_set 42 rfl) rfl ?_
  rw [nI_add]
  have fin : ∀ w, w = y → pj_V E B l Y_X12_set 3 0 0 99 [some (.ref g), some (.int (nI r')), some (.int (nI i')), some (.int (x))] [.int w, .int (nI (40 * r' + i')), .ref (g + 3)] h1 n 0 0 (gd_PM (y, ((nI 0 : Int32), s.2.1, s.2.2.1, (fun q z => if q = r' ∧ z = i' then y else s.2.2.2 q z))).1 (y, ((nI 0 : Int32), s.2.1, s.2.2.1, (fun q z => if q = r' ∧ z = i' then y else s.2.2.2 q z))).2 h g v n) := by
    intro w hw
    rw [hw]
    refine pj_iast (q := 100) (pj_d p_X12_set 61 rfl) rfl (by assumption) (by rfl) (by first | assumption | omega) (Nat.le_of_ble_eq_true rfl) ?_
    have hM2 : (pj_up h1 (g + 3) (.inl (0, 320, .inl (upd f3 (40 * r' + i') y)))) g = some (.inr (11, gd_Mo g (upd v 1 (nI 0)))) := by rw [pj_up_n (by omega)]; exact hM1
    have S4 : (pj_up h1 (g + 3) (.inl (0, 320, .inl (upd f3 (40 * r' + i') y)))) (g + 3) = some (.inl (0, 320, .inl (upd f3 (40 * r' + i') y))) := pj_up_s
    refine pj_ald0 (q := 101) (pj_d p_X12_set 62 rfl) rfl ?_
    refine pj_gf (q := 104) (k := 4) (pj_d p_X12_set 63 rfl) rfl kX12_16 (by assumption) (by rfl) (by rfl) ?_
    refine pj_bipush (q := 106) (v := nI 40) (pj_d p_X12_set 64 rfl) rfl (by decide) ?_
    refine pj_ild1 (q := 107) (pj_d p_X12_set 65 rfl) rfl ?_
    refine pj_imul (q := 108) (pj_d p_X12_set 66 rfl) rfl ?_
    refine pj_ild2 (q := 109) (pj_d p_X12_set 67 rfl) rfl ?_
    rw [pk_mul]
    refine pj_iadd (q := 110) (pj_d p_X12_set 68 rfl) rfl ?_
    rw [nI_add]
    refine pj_ialdN (q := 111) (pj_d p_X12_set 69 rfl) rfl (by assumption) (by rfl) (by first | assumption | omega) (Nat.le_of_ble_eq_true rfl) ?_
    rw [show upd f3 (40 * r' + i') y (40 * r' + i') = y by rw [gd_upd, if_pos rfl]]
    refine pj_iret rfl (pj_d p_X12_set 70 rfl) (by decide) (by decide) ?_
    refine ⟨rfl, rfl, hM2, ⟨⟨f1, by rw [pj_up_n (by omega)]; exact S1, g1⟩, ⟨f2, by rw [pj_up_n (by omega)]; exact S2, g2⟩, ⟨_, S4, fun q z hq hz => ?_⟩⟩, fun q hq => by rw [pj_up_n (by omega), q1 _ (by omega)]⟩
    rw [gd_upd]
    dsimp only
    by_cases e : 40 * q + z = 40 * r' + i'
    · rw [if_pos e, if_pos (by omega)]
    · rw [if_neg e, if_neg (by omega)]; exact g3 q z hq hz
  refine pj_ald0 (q := 70) (pj_d p_X12_set 43 rfl) rfl ?_
  refine pj_gf (q := 73) (k := 2) (pj_d p_X12_set 44 rfl) rfl kX12_7 (by assumption) (by rfl) (by rfl) ?_
  refine pj_ild1 (q := 74) (pj_d p_X12_set 45 rfl) rfl ?_
  refine pj_ialdN (q := 75) (pj_d p_X12_set 46 rfl) rfl (by assumption) (by rfl) (by first | assumption | omega) (Nat.le_of_ble_eq_true rfl) ?_
  rw [g1 r' hr]
  refine pj_if_ne (t := 83) (q := 78) (pj_d p_X12_set 47 rfl) rfl (by decide) (fun c4 => ?_) (fun c4 => ?_)
  · refine pj_ald0 (q := 84) (pj_d p_X12_set 51 rfl) rfl ?_
    refine pj_gf (q := 87) (k := 2) (pj_d p_X12_set 52 rfl) rfl kX12_7 (by assumption) (by rfl) (by rfl) ?_
    refine pj_ild1 (q := 88) (pj_d p_X12_set 53 rfl) rfl ?_
    refine pj_ialdN (q := 89) (pj_d p_X12_set 54 rfl) rfl (by assumption) (by rfl) (by first | assumption | omega) (Nat.le_of_ble_eq_true rfl) ?_
    rw [g1 r' hr]
    refine pj_iconst (q := 90) (v := nI 1) (pj_d p_X12_set 55 rfl) rfl (by decide) ?_
    refine pj_icmp_ne (t := 98) (q := 93) (pj_d p_X12_set 56 rfl) rfl (by decide) (fun c5 => ?_) (fun c5 => ?_)
    · refine pj_ild3 (q := 99) (pj_d p_X12_set 60 rfl) rfl ?_
      exact fin _ (k1 c4 c5).symm
    · refine pj_ild3 (q := 94) (pj_d p_X12_set 57 rfl) rfl ?_
      refine pj_i2s (q := 95) (pj_d p_X12_set 58 rfl) rfl ?_
      refine pj_goto (t := 99) (pj_d p_X12_set 59 rfl) (by decide) ?_
      exact fin _ (k2 c4 c5).symm
  · refine pj_ild3 (q := 79) (pj_d p_X12_set 48 rfl) rfl ?_
    refine pj_i2b (q := 80) (pj_d p_X12_set 49 rfl) rfl ?_
    refine pj_goto (t := 99) (pj_d p_X12_set 50 rfl) (by decide) ?_
    exact fin _ (k3 c4).symm
theorem c_X12_copy (hM : h g = some (.inr (11, gd_Mo g v))) (hv : v 0 = nI 0) (hs : v 1 = s.1) (hR : gd_RM h g s.2.1 s.2.2.1 s.2.2.2) (hB : gd_RB s.2.1 s.2.2.1) (a i r j c : Int32) : pj_Ct E B l Y_X12_copy 3 0 0 [.ref g, .int a, .int i, .int r, .int j, .int c] h n (gd_PM (sp_copy a i r j c s).1 (sp_copy a i r j c s).2 h g v n) := by
  refine pj_in rfl (ls := [some (.ref g), some (.int (a)), some (.int (i)), some (.int (r)), some (.int (j)), some (.int (c)), none, none, none]) rfl (Nat.le_of_ble_eq_true rfl) ?_
  refine gd_thr (pj_d p_X12_copy 0 rfl) (pj_d p_X12_copy 1 rfl) (pj_d p_X12_copy 2 rfl) rfl hM hv ?_
  have bad : (gd_rng a 0 7 && gd_rng r 0 7) = false → pj_V E B l Y_X12_copy 3 0 0 19 [some (.ref g), some (.int (a)), some (.int (i)), some (.int (r)), some (.int (j)), some (.int (c)), none, none, none] [] h n 0 0 (gd_PM (sp_copy a i r j c s).1 (sp_copy a i r j c s).2 h g v n) := by
    intro hn
    refine pj_ldc (q := 21) (pj_d p_X12_copy 9 rfl) rfl kX12_67 ?_
    refine pj_iret rfl (pj_d p_X12_copy 10 rfl) (by decide) (by decide) ?_
    exact gd_PM_bad hM hs hR (by rw [sp_copy, hn]; rfl)
  refine pj_ild1 (q := 6) (pj_d p_X12_copy 3 rfl) rfl ?_
  refine pj_cp (pj_rS (q := 9) (c_X12_isRow a) (pj_d p_X12_copy 4 rfl) rfl kX12_61 o_X12_isRow (by rfl) (by rfl) (Nat.le_of_ble_eq_true rfl) (by decide)) (by decide) (by decide) ?_
  refine pj_if_eq (t := 19) (q := 12) (pj_d p_X12_copy 5 rfl) rfl (by decide) (fun c1 => ?_) (fun c1 => ?_)
  · exact bad (by rw [(gd_b_z _).mp c1]; rfl)
  refine pj_ild3 (q := 13) (pj_d p_X12_copy 6 rfl) rfl ?_
  refine pj_cp (pj_rS (q := 16) (c_X12_isRow r) (pj_d p_X12_copy 7 rfl) rfl kX12_61 o_X12_isRow (by rfl) (by rfl) (Nat.le_of_ble_eq_true rfl) (by decide)) (by decide) (by decide) ?_
  refine pj_if_ne (t := 22) (q := 19) (pj_d p_X12_copy 8 rfl) rfl (by decide) (fun c2 => ?_) (fun c2 => ?_)
  rotate_left
  · exact bad (by rw [(gd_b_z _).mp c2]; simp)
  have ok : (gd_rng a 0 7 && gd_rng r 0 7) = true := by rw [(gd_b_n _).mp c1, (gd_b_n _).mp c2]; rfl
  obtain ⟨a', ha', rfl, hac⟩ := gd_rng_of (hi := 7) ((gd_b_n _).mp c1)
  obtain ⟨r', hr', rfl, hrc⟩ := gd_rng_of (hi := 7) ((gd_b_n _).mp c2)
  have ha : a' < 8 := by omega
  have hr : r' < 8 := by omega
  have ha40 := (hB a' ha).2
  have hr40 := (hB r' hr).2
  have hR0 := hR
  obtain ⟨⟨f1, R1, g1⟩, ⟨f2, R2, g2⟩, ⟨f3, R3, g3⟩⟩ := hR
  refine pj_ald0 (q := 23) (pj_d p_X12_copy 11 rfl) rfl ?_
  refine pj_iconst (q := 24) (v := nI 0) (pj_d p_X12_copy 12 rfl) rfl (by decide) ?_
  refine pj_pf (q := 27) (k := 1) (fs' := gd_Mo g (upd v 1 (nI 0))) (pj_d p_X12_copy 13 rfl) rfl kX12_51 hM rfl (Or.inl rfl) rfl rfl rfl (by show 1 < 24; decide) rfl ?_
  generalize hh1 : pj_up h g (.inr (11, gd_Mo g (upd v 1 (nI 0)))) = h1
  have q1 : ∀ q, q ≠ g → h1 q = h q := fun q e => by rw [← hh1, pj_up_n e]
  have hM1 : h1 g = some (.inr (11, gd_Mo g (upd v 1 (nI 0)))) := by rw [← hh1, pj_up_s]
  have S1 : h1 (g + 1) = some (.inl (0, 8, .inl f1)) := by rw [q1 _ (by omega)]; exact R1
  have S2 : h1 (g + 2) = some (.inl (0, 8, .inl f2)) := by rw [q1 _ (by omega)]; exact R2
  have S3 : h1 (g + 3) = some (.inl (0, 320, .inl f3)) := by rw [q1 _ (by omega)]; exact R3
  have null : ¬ (gd_th s.2.1 (nI a') && gd_th s.2.1 (nI r')) = true → pj_V E B l Y_X12_copy 3 0 0 45 [some (.ref g), some (.int (nI a')), some (.int (i)), some (.int (nI r')), some (.int (j)), some (.int (c)), none, none, none] [] h1 n 0 0 (gd_PM (sp_copy (nI a') i (nI r') j c s).1 (sp_copy (nI a') i (nI r') j c s).2 h g v n) := by
    intro hn
    refine pj_ald0 (q := 46) (pj_d p_X12_copy 24 rfl) rfl ?_
    refine pj_iconst (q := 47) (v := nI 1) (pj_d p_X12_copy 25 rfl) rfl (by decide) ?_
    refine pj_cv (pj_rV (q := 50) (c_X12_finding hM1 (nI 1)) (pj_d p_X12_copy 26 rfl) rfl kX12_68 o_X12_finding (by assumption) (by rfl) (by rfl) (by rfl) (by rfl) (Nat.le_of_ble_eq_true rfl) (by decide)) (by decide) (by decide) ?_
    rintro r1 h2 n1 ⟨rfl, rfl, rfl⟩
    rw [← hh1, pj_up_up, gd_upd_upd]
    refine pj_iret rfl (pj_d p_X12_copy 27 rfl) (by decide) (by decide) ?_
    exact gd_PM_fin hR0 (by rw [sp_copy, if_pos ok, if_neg hn]; rfl)
  refine pj_ald0 (q := 28) (pj_d p_X12_copy 14 rfl) rfl ?_
  refine pj_gf (q := 31) (k := 2) (pj_d p_X12_copy 15 rfl) rfl kX12_7 (by assumption) (by rfl) (by rfl) ?_
  refine pj_ild1 (q := 32) (pj_d p_X12_copy 16 rfl) rfl ?_
  refine pj_ialdN (q := 33) (pj_d p_X12_copy 17 rfl) rfl (by assumption) (by rfl) (by first | assumption | omega) (Nat.le_of_ble_eq_true rfl) ?_
  rw [g1 a' ha]
  refine pj_if_lt (t := 45) (q := 36) (pj_d p_X12_copy 18 rfl) rfl (by decide) (fun c3 => ?_) (fun c3 => ?_)
  · exact null (fun z => by rw [Bool.and_eq_true] at z; have := (gd_th_iff hB ha).mpr z.1; exact absurd c3 (Int32.not_lt.mpr this))
  have t1 := (gd_th_iff hB ha).mp (Int32.not_lt.mp c3)
  refine pj_ald0 (q := 37) (pj_d p_X12_copy 19 rfl) rfl ?_
  refine pj_gf (q := 40) (k := 2) (pj_d p_X12_copy 20 rfl) rfl kX12_7 (by assumption) (by rfl) (by rfl) ?_
  refine pj_ild3 (q := 41) (pj_d p_X12_copy 21 rfl) rfl ?_
  refine pj_ialdN (q := 42) (pj_d p_X12_copy 22 rfl) rfl (by assumption) (by rfl) (by first | assumption | omega) (Nat.le_of_ble_eq_true rfl) ?_
  rw [g1 r' hr]
  refine pj_if_ge (t := 51) (q := 45) (pj_d p_X12_copy 23 rfl) rfl (by decide) (fun c4 => ?_) (fun c4 => ?_)
  rotate_left
  · exact null (fun z => by rw [Bool.and_eq_true] at z; exact c4 ((gd_th_iff hB hr).mpr z.2))
  have t2 := (gd_th_iff hB hr).mp c4
  have ht : (gd_th s.2.1 (nI a') && gd_th s.2.1 (nI r')) = true := by rw [t1, t2]; rfl
  refine pj_ald0 (q := 52) (pj_d p_X12_copy 28 rfl) rfl ?_
  refine pj_gf (q := 55) (k := 2) (pj_d p_X12_copy 29 rfl) rfl kX12_7 (by assumption) (by rfl) (by rfl) ?_
  refine pj_ild1 (q := 56) (pj_d p_X12_copy 30 rfl) rfl ?_
  refine pj_ialdN (q := 57) (pj_d p_X12_copy 31 rfl) rfl (by assumption) (by rfl) (by first | assumption | omega) (Nat.le_of_ble_eq_true rfl) ?_
  rw [g1 a' ha]
  refine pj_ald0 (q := 58) (pj_d p_X12_copy 32 rfl) rfl ?_
  refine pj_gf (q := 61) (k := 2) (pj_d p_X12_copy 33 rfl) rfl kX12_7 (by assumption) (by rfl) (by rfl) ?_
  refine pj_ild3 (q := 62) (pj_d p_X12_copy 34 rfl) rfl ?_
  refine pj_ialdN (q := 63) (pj_d p_X12_copy 35 rfl) rfl (by assumption) (by rfl) (by first | assumption | omega) (Nat.le_of_ble_eq_true rfl) ?_
  rw [g1 r' hr]
  refine pj_icmp_eq (t := 72) (q := 66) (pj_d p_X12_copy 36 rfl) rfl (by decide) (fun c5 => ?_) (fun c5 => ?_)
  rotate_left
  · refine pj_ald0 (q := 67) (pj_d p_X12_copy 37 rfl) rfl ?_
    refine pj_iconst (q := 68) (v := nI 5) (pj_d p_X12_copy 38 rfl) rfl (by decide) ?_
    refine pj_cv (pj_rV (q := 71) (c_X12_finding hM1 (nI 5)) (pj_d p_X12_copy 39 rfl) rfl kX12_68 o_X12_finding (by assumption) (by rfl) (by rfl) (by rfl) (by rfl) (Nat.le_of_ble_eq_true rfl) (by decide)) (by decide) (by decide) ?_
    rintro r1 h2 n1 ⟨rfl, rfl, rfl⟩
    rw [← hh1, pj_up_up, gd_upd_upd]
    refine pj_iret rfl (pj_d p_X12_copy 40 rfl) (by decide) (by decide) ?_
    exact gd_PM_fin hR0 (by rw [sp_copy, if_pos ok, if_pos ht, hac, hrc, if_neg c5]; rfl)
  have z0 : (0 : Int32).toInt = 0 := by decide
  have ma : (nI (s.2.2.1 a')).toInt = (s.2.2.1 a' : Int) := nI_toInt (by omega)
  have mr : (nI (s.2.2.1 r')).toInt = (s.2.2.1 r' : Int) := nI_toInt (by omega)
  have hpl : (gd_hp s.2.1 s.2.2.1 (nI a') i c && gd_hp s.2.1 s.2.2.1 (nI r') j c) = decide ((0 ≤ i.toInt ∧ 0 ≤ c.toInt ∧ i.toInt + c.toInt ≤ (s.2.2.1 a' : Int)) ∧ (0 ≤ j.toInt ∧ 0 ≤ c.toInt ∧ j.toInt + c.toInt ≤ (s.2.2.1 r' : Int))) := by
    rw [gd_hp, gd_hp, t1, t2, hac, hrc, Bool.true_and, Bool.true_and, ← Bool.decide_and]
  have place : ¬ ((0 ≤ i.toInt ∧ 0 ≤ c.toInt ∧ i.toInt + c.toInt ≤ (s.2.2.1 a' : Int)) ∧ (0 ≤ j.toInt ∧ 0 ≤ c.toInt ∧ j.toInt + c.toInt ≤ (s.2.2.1 r' : Int))) → pj_V E B l Y_X12_copy 3 0 0 121 [some (.ref g), some (.int (nI a')), some (.int (i)), some (.int (nI r')), some (.int (j)), some (.int (c)), none, none, none] [] h1 n 0 0 (gd_PM (sp_copy (nI a') i (nI r') j c s).1 (sp_copy (nI a') i (nI r') j c s).2 h g v n) := by
    intro hn
    refine pj_ald0 (q := 122) (pj_d p_X12_copy 71 rfl) rfl ?_
    refine pj_iconst (q := 123) (v := nI 2) (pj_d p_X12_copy 72 rfl) rfl (by decide) ?_
    refine pj_cv (pj_rV (q := 126) (c_X12_finding hM1 (nI 2)) (pj_d p_X12_copy 73 rfl) rfl kX12_68 o_X12_finding (by assumption) (by rfl) (by rfl) (by rfl) (by rfl) (Nat.le_of_ble_eq_true rfl) (by decide)) (by decide) (by decide) ?_
    rintro r1 h2 n1 ⟨rfl, rfl, rfl⟩
    rw [← hh1, pj_up_up, gd_upd_upd]
    refine pj_iret rfl (pj_d p_X12_copy 74 rfl) (by decide) (by decide) ?_
    exact gd_PM_fin hR0 (by rw [sp_copy, if_pos ok, if_pos ht, hac, hrc, if_pos c5, hpl, decide_eq_false hn]; rfl)
  refine pj_ild2 (q := 73) (pj_d p_X12_copy 41 rfl) rfl ?_
  refine pj_if_lt (t := 121) (q := 76) (pj_d p_X12_copy 42 rfl) rfl (by decide) (fun c6 => ?_) (fun c6 => ?_)
  · rw [Int32.lt_iff_toInt_lt, z0] at c6
    exact place (by omega)
  rw [Int32.lt_iff_toInt_lt, z0] at c6
  refine pj_ild4 (q := 78) (pj_d p_X12_copy 43 rfl) rfl ?_
  refine pj_if_lt (t := 121) (q := 81) (pj_d p_X12_copy 44 rfl) rfl (by decide) (fun c7 => ?_) (fun c7 => ?_)
  · rw [Int32.lt_iff_toInt_lt, z0] at c7
    exact place (by omega)
  rw [Int32.lt_iff_toInt_lt, z0] at c7
  refine pj_ild5 (q := 83) (pj_d p_X12_copy 45 rfl) rfl ?_
  refine pj_if_lt (t := 121) (q := 86) (pj_d p_X12_copy 46 rfl) rfl (by decide) (fun c8 => ?_) (fun c8 => ?_)
  · rw [Int32.lt_iff_toInt_lt, z0] at c8
    exact place (by omega)
  rw [Int32.lt_iff_toInt_lt, z0] at c8
  refine pj_ild2 (q := 87) (pj_d p_X12_copy 47 rfl) rfl ?_
  refine pj_i2l (q := 88) (pj_d p_X12_copy 48 rfl) rfl ?_
  refine pj_ild5 (q := 90) (pj_d p_X12_copy 49 rfl) rfl ?_
  refine pj_i2l (q := 91) (pj_d p_X12_copy 50 rfl) rfl ?_
  refine pj_ladd (q := 92) (pj_d p_X12_copy 51 rfl) rfl ?_
  refine pj_ald0 (q := 93) (pj_d p_X12_copy 52 rfl) rfl ?_
  refine pj_gf (q := 96) (k := 3) (pj_d p_X12_copy 53 rfl) rfl kX12_13 (by assumption) (by rfl) (by rfl) ?_
  refine pj_ild1 (q := 97) (pj_d p_X12_copy 54 rfl) rfl ?_
  refine pj_ialdN (q := 98) (pj_d p_X12_copy 55 rfl) rfl (by assumption) (by rfl) (by first | assumption | omega) (Nat.le_of_ble_eq_true rfl) ?_
  rw [g2 a' ha]
  refine pj_i2l (q := 99) (pj_d p_X12_copy 56 rfl) rfl ?_
  refine pj_lcmp (q := 100) (pj_d p_X12_copy 57 rfl) rfl ?_
  refine pj_if_gt (t := 121) (q := 103) (pj_d p_X12_copy 58 rfl) rfl (by decide) (fun c9 => ?_) (fun c9 => ?_)
  · rw [lg_cmp_gt, Int64.lt_iff_toInt_lt, gd_ladd, Int32.toInt_toInt64, ma] at c9
    exact place (by omega)
  rw [lg_cmp_gt, Int64.lt_iff_toInt_lt, gd_ladd, Int32.toInt_toInt64, ma] at c9
  refine pj_ild4 (q := 105) (pj_d p_X12_copy 59 rfl) rfl ?_
  refine pj_i2l (q := 106) (pj_d p_X12_copy 60 rfl) rfl ?_
  refine pj_ild5 (q := 108) (pj_d p_X12_copy 61 rfl) rfl ?_
  refine pj_i2l (q := 109) (pj_d p_X12_copy 62 rfl) rfl ?_
  refine pj_ladd (q := 110) (pj_d p_X12_copy 63 rfl) rfl ?_
  refine pj_ald0 (q := 111) (pj_d p_X12_copy 64 rfl) rfl ?_
  refine pj_gf (q := 114) (k := 3) (pj_d p_X12_copy 65 rfl) rfl kX12_13 (by assumption) (by rfl) (by rfl) ?_
  refine pj_ild3 (q := 115) (pj_d p_X12_copy 66 rfl) rfl ?_
  refine pj_ialdN (q := 116) (pj_d p_X12_copy 67 rfl) rfl (by assumption) (by rfl) (by first | assumption | omega) (Nat.le_of_ble_eq_true rfl) ?_
  rw [g2 r' hr]
  refine pj_i2l (q := 117) (pj_d p_X12_copy 68 rfl) rfl ?_
  refine pj_lcmp (q := 118) (pj_d p_X12_copy 69 rfl) rfl ?_
  refine pj_if_le (t := 127) (q := 121) (pj_d p_X12_copy 70 rfl) rfl (by decide) (fun c10 => ?_) (fun c10 => ?_)
  rotate_left
  · rw [lg_cmp_le, Int64.le_iff_toInt_le, gd_ladd, Int32.toInt_toInt64, mr] at c10
    exact place (by omega)
  rw [lg_cmp_le, Int64.le_iff_toInt_le, gd_ladd, Int32.toInt_toInt64, mr] at c10
  have hp : (gd_hp s.2.1 s.2.2.1 (nI a') i c && gd_hp s.2.1 s.2.2.1 (nI r') j c) = true := by rw [hpl]; exact decide_eq_true (by omega)
  obtain ⟨i', hi0, rfl⟩ := nI_of (x := i) (by rw [Int32.lt_iff_toInt_lt, z0]; omega)
  obtain ⟨j', hj0, rfl⟩ := nI_of (x := j) (by rw [Int32.lt_iff_toInt_lt, z0]; omega)
  obtain ⟨c', hc0, rfl⟩ := nI_of (x := c) (by rw [Int32.lt_iff_toInt_lt, z0]; omega)
  rw [nI_toInt hi0, nI_toInt hc0] at c9
  rw [nI_toInt hj0, nI_toInt hc0] at c10
  have hic : i' + c' ≤ 40 := by omega
  have hjc : j' + c' ≤ 40 := by omega
  have hsp : sp_copy (nI a') (nI i') (nI r') (nI j') (nI c') s = (nI c', (nI 0, s.2.1, s.2.2.1, (fun q z => if q = r' ∧ j' ≤ z ∧ z < j' + c' then s.2.2.2 a' (i' + (z - j')) else s.2.2.2 q z))) := by rw [sp_copy, if_pos ok, if_pos ht, hac, hrc, if_pos c5, if_pos hp, nI_clamp hi0, nI_clamp hj0, nI_clamp hc0]
  rw [hsp]
  generalize hit : (fun q z => if q = r' ∧ j' ≤ z ∧ z < j' + c' then s.2.2.2 a' (i' + (z - j')) else s.2.2.2 q z) = it2
  have loop : ∀ up : Bool, (up = true ↔ j' ≤ i') → ∀ m k f o8, pj_c1 o8 = true → (∀ z, f z = if 40 * r' + j' + (if up then 0 else c' - k) ≤ z ∧ z < 40 * r' + j' + (if up then k else c') then f3 (40 * a' + i' + (z - (40 * r' + j'))) else f3 z) → c' - k < m → k ≤ c' → pj_V E B l Y_X12_copy 3 0 0 143 [some (.ref g), some (.int (nI a')), some (.int (nI i')), some (.int (nI r')), some (.int (nI j')), some (.int (nI c')), some (.int (gd_b up)), some (.int (nI k)), o8] [] (pj_up h1 (g + 3) (.inl (0, 320, .inl f))) n 0 0 (gd_PM (nI c', ((nI 0 : Int32), s.2.1, s.2.2.1, it2)).1 (nI c', ((nI 0 : Int32), s.2.1, s.2.2.1, it2)).2 h g v n) := by
    intro up hup m
    induction m with
    | zero => intro k f o8 _ _ hi; omega
    | succ m ih =>
      intro k f o8 k8 hf hi hle
      have hM4 : (pj_up h1 (g + 3) (.inl (0, 320, .inl f))) g = some (.inr (11, gd_Mo g (upd v 1 (nI 0)))) := by rw [pj_up_n (by omega)]; exact hM1
      have S4 : (pj_up h1 (g + 3) (.inl (0, 320, .inl f))) (g + 3) = some (.inl (0, 320, .inl f)) := pj_up_s
      refine pj_ild7 (q := 145) (pj_d p_X12_copy 84 rfl) rfl ?_
      refine pj_ild5 (q := 147) (pj_d p_X12_copy 85 rfl) rfl ?_
      refine pj_icmp_ge (t := 204) (q := 150) (pj_d p_X12_copy 86 rfl) rfl (by decide) (fun c11 => ?_) (fun c11 => ?_)
      · have he : k = c' := by have := gd_ge c11 (by omega) (by omega); omega
        subst he
        refine pj_ild5 (q := 206) (pj_d p_X12_copy 119 rfl) rfl ?_
        refine pj_iret rfl (pj_d p_X12_copy 120 rfl) (by decide) (by decide) ?_
        refine ⟨rfl, rfl, hM4, ⟨⟨f1, by rw [pj_up_n (by omega)]; exact S1, g1⟩, ⟨f2, by rw [pj_up_n (by omega)]; exact S2, g2⟩, ⟨f, S4, fun q z hq hz => ?_⟩⟩, fun q hq => by rw [pj_up_n (by omega), q1 _ (by omega)]⟩
        rw [hf, ← hit]
        have e0 : (if up then 0 else k - k) = 0 := by split <;> omega
        have e1 : (if up then k else k) = k := by split <;> rfl
        rw [e0, e1]
        dsimp only
        by_cases e : q = r' ∧ j' ≤ z ∧ z < j' + k
        · rw [if_pos e, if_pos (by omega)]
          have := g3 a' (i' + (z - j')) ha (by omega)
          rw [← this]
          congr 1
          omega
        · rw [if_neg e, if_neg (by omega)]
          exact g3 q z hq hz
      have hlt : k < c' := gd_lt c11 (by omega)
      have step : ∀ at_, at_ = (if up then k else c' - 1 - k) → pj_V E B l Y_X12_copy 3 0 0 167 [some (.ref g), some (.int (nI a')), some (.int (nI i')), some (.int (nI r')), some (.int (nI j')), some (.int (nI c')), some (.int (gd_b up)), some (.int (nI k)), o8] [.int (nI at_)] (pj_up h1 (g + 3) (.inl (0, 320, .inl f))) n 0 0 (gd_PM (nI c', ((nI 0 : Int32), s.2.1, s.2.2.1, it2)).1 (nI c', ((nI 0 : Int32), s.2.1, s.2.2.1, it2)).2 h g v n) := by
        intro at_ hat
        have hatc : at_ < c' := by rw [hat]; split <;> omega
        refine pj_ist8 (q := 169) (pj_d p_X12_copy 96 rfl) rfl (by first | rfl | assumption) ?_
        refine pj_ald0 (q := 170) (pj_d p_X12_copy 97 rfl) rfl ?_
        refine pj_gf (q := 173) (k := 4) (pj_d p_X12_copy 98 rfl) rfl kX12_16 (by assumption) (by rfl) (by rfl) ?_
        refine pj_bipush (q := 175) (v := nI 40) (pj_d p_X12_copy 99 rfl) rfl (by decide) ?_
        refine pj_ild3 (q := 176) (pj_d p_X12_copy 100 rfl) rfl ?_
        refine pj_imul (q := 177) (pj_d p_X12_copy 101 rfl) rfl ?_
        rw [pk_mul]
        refine pj_ild4 (q := 179) (pj_d p_X12_copy 102 rfl) rfl ?_
        refine pj_iadd (q := 180) (pj_d p_X12_copy 103 rfl) rfl ?_
        rw [nI_add]
        refine pj_ild8 (q := 182) (pj_d p_X12_copy 104 rfl) rfl ?_
        refine pj_iadd (q := 183) (pj_d p_X12_copy 105 rfl) rfl ?_
        rw [nI_add]
        refine pj_ald0 (q := 184) (pj_d p_X12_copy 106 rfl) rfl ?_
        refine pj_gf (q := 187) (k := 4) (pj_d p_X12_copy 107 rfl) rfl kX12_16 (by assumption) (by rfl) (by rfl) ?_
        refine pj_bipush (q := 189) (v := nI 40) (pj_d p_X12_copy 108 rfl) rfl (by decide) ?_
        refine pj_ild1 (q := 190) (pj_d p_X12_copy 109 rfl) rfl ?_
        refine pj_imul (q := 191) (pj_d p_X12_copy 110 rfl) rfl ?_
        rw [pk_mul]
        refine pj_ild2 (q := 192) (pj_d p_X12_copy 111 rfl) rfl ?_
        refine pj_iadd (q := 193) (pj_d p_X12_copy 112 rfl) rfl ?_
        rw [nI_add]
        refine pj_ild8 (q := 195) (pj_d p_X12_copy 113 rfl) rfl ?_
        refine pj_iadd (q := 196) (pj_d p_X12_copy 114 rfl) rfl ?_
        rw [nI_add]
        refine pj_ialdN (q := 197) (pj_d p_X12_copy 115 rfl) rfl (by assumption) (by rfl) (by first | assumption | omega) (Nat.le_of_ble_eq_true rfl) ?_
        refine pj_iast (q := 198) (pj_d p_X12_copy 116 rfl) rfl (by assumption) (by rfl) (by first | assumption | omega) (Nat.le_of_ble_eq_true rfl) ?_
        rw [pj_up_up]
        refine pj_iinc7 (q := 201) (v := 1) (pj_d p_X12_copy 117 rfl) rfl (by first | rfl | assumption) (by decide) ?_
        refine pj_goto (t := 143) (pj_d p_X12_copy 118 rfl) (by decide) ?_
        rw [nI_1]
        refine ih (k + 1) _ _ rfl (fun z => ?_) (by omega) (by omega)
        rw [gd_upd, hf, hf]
        cases hu : up with
        | true =>
          have hji := hup.mp hu
          rw [hu] at hat
          simp only [if_true] at hat ⊢
          by_cases e : z = 40 * r' + j' + at_
          · rw [if_pos e, if_neg (by omega), if_pos (by omega)]
            congr 1
            omega
          · rw [if_neg e]
            by_cases e2 : 40 * r' + j' + 0 ≤ z ∧ z < 40 * r' + j' + k
            · rw [if_pos e2, if_pos (by omega)]
            · rw [if_neg e2, if_neg (by omega)]
        | false =>
          have hji : ¬ j' ≤ i' := fun q => by rw [hup.mpr q] at hu; cases hu
          rw [hu] at hat
          simp only [Bool.false_eq_true, if_false] at hat ⊢
          by_cases e : z = 40 * r' + j' + at_
          · rw [if_pos e, if_neg (by omega), if_pos (by omega)]
            congr 1
            omega
          · rw [if_neg e]
            by_cases e2 : 40 * r' + j' + (c' - k) ≤ z ∧ z < 40 * r' + j' + c'
            · rw [if_pos e2, if_pos (by omega)]
            · rw [if_neg e2, if_neg (by omega)]
      refine pj_ild6 (q := 152) (pj_d p_X12_copy 87 rfl) rfl ?_
      refine pj_if_eq (t := 160) (q := 155) (pj_d p_X12_copy 88 rfl) rfl (by decide) (fun c12 => ?_) (fun c12 => ?_)
      · have hu := (gd_b_z _).mp c12
        refine pj_ild5 (q := 162) (pj_d p_X12_copy 91 rfl) rfl ?_
        refine pj_iconst (q := 163) (v := nI 1) (pj_d p_X12_copy 92 rfl) rfl (by decide) ?_
        refine pj_isub (q := 164) (pj_d p_X12_copy 93 rfl) rfl ?_
        rw [gd_sub (by omega)]
        refine pj_ild7 (q := 166) (pj_d p_X12_copy 94 rfl) rfl ?_
        refine pj_isub (q := 167) (pj_d p_X12_copy 95 rfl) rfl ?_
        rw [gd_sub (by omega)]
        exact step _ (by rw [hu]; rfl)
      · have hu := (gd_b_n _).mp c12
        refine pj_ild7 (q := 157) (pj_d p_X12_copy 89 rfl) rfl ?_
        refine pj_goto (t := 167) (pj_d p_X12_copy 90 rfl) (by decide) ?_
        exact step _ (by rw [hu]; rfl)
  refine pj_ild2 (q := 128) (pj_d p_X12_copy 75 rfl) rfl ?_
  refine pj_ild4 (q := 130) (pj_d p_X12_copy 76 rfl) rfl ?_
  refine pj_icmp_lt (t := 137) (q := 133) (pj_d p_X12_copy 77 rfl) rfl (by decide) (fun c11 => ?_) (fun c11 => ?_)
  · have hji : ¬ j' ≤ i' := by have := (nI_ltI (by omega) (by omega)).mp c11; omega
    refine pj_iconst (q := 138) (v := nI 0) (pj_d p_X12_copy 80 rfl) rfl (by decide) ?_
    refine pj_ist6 (q := 140) (pj_d p_X12_copy 81 rfl) rfl (by first | rfl | assumption) ?_
    refine pj_iconst (q := 141) (v := nI 0) (pj_d p_X12_copy 82 rfl) rfl (by decide) ?_
    refine pj_ist7 (q := 143) (pj_d p_X12_copy 83 rfl) rfl (by first | rfl | assumption) ?_
    have := loop false ⟨fun z => (by cases z), fun z => absurd z hji⟩ (c' + 1) 0 f3 none rfl (fun z => by rw [if_neg]; simp) (by omega) (by omega)
    rw [pj_up_id S3] at this
    exact this
  · have hji : j' ≤ i' := by
      rcases Nat.lt_or_ge i' j' with q | q
      · exact absurd (nI_lt q (by omega)) c11
      · exact q
    refine pj_iconst (q := 134) (v := nI 1) (pj_d p_X12_copy 78 rfl) rfl (by decide) ?_
    refine pj_goto (t := 138) (pj_d p_X12_copy 79 rfl) (by decide) ?_
    refine pj_ist6 (q := 140) (pj_d p_X12_copy 81 rfl) rfl (by first | rfl | assumption) ?_
    refine pj_iconst (q := 141) (v := nI 0) (pj_d p_X12_copy 82 rfl) rfl (by decide) ?_
    refine pj_ist7 (q := 143) (pj_d p_X12_copy 83 rfl) rfl (by first | rfl | assumption) ?_
    have := loop true ⟨fun _ => hji, fun _ => rfl⟩ (c' + 1) 0 f3 none rfl (fun z => by rw [if_neg]; simp) (by omega) (by omega)
    rw [pj_up_id S3] at this
    exact this
end
