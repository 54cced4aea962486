/-! ===== how the model reads a pair ===== -/
section
variable {E : pj_E} {B : Nat} {l : Launch} {h : pj_H} {n g L : Nat} {c : Nat → Nat} {v : Nat → Int32} {S : gd_PS} {s : gd_RS} {F : Nat → Int32}
theorem gd_hiI {t : Nat} (ht : t ≤ 7) : (nI t - nI 1).toInt = (t : Int) - 1 := by
  rw [pk_sub_toInt (by omega) (by omega)]; rfl
theorem gd_rdP2 {τ : Nat → Nat} {v1 : Nat → Int32} {R1 R3 R5 : Nat × gd_PS} {R4 R6 : gd_PS} {x1 x2 : Int32} (hF : h (g + 5) = some (.inl (0, 56, .inl F))) (hj : ∀ j, j < 56 → F j = nI (τ j)) (hb : h (g + 7) = some (.inl (0, 120, .inl (fun j => nI (c j))))) (hL : L ≤ 120) (hc : ∀ j, c j < 256) (p1 : gd_pv v v1) (s1 : gd_MS c L v1 R4) (pb : gd_PB L R4) (hR5 : gd_tn c L 1 20 (gd_tb c L 44 R4) = R5) (hR6 : gd_tb c L 59 R5.2 = R6) (h8 : R6.2.1 = 0 → τ 2 < 8) (e1 : R4.2.1 = 0 → x1 = nI R1.1) (e2 : R4.2.1 = 0 → x2 = nI R3.1) : pj_V E B l Y_X12_readPair 5 0 0 98 [some (.ref g), some (.int x1), some (.int x2), none, none] [] (pj_up h g (.inr (11, gd_Mo g v1))) n 0 0 (fun r h' n' => r = none ∧ n' = n ∧ gd_MP c L g (R6, if R6.2.1 = 0 then gd_addP τ R1.1 R3.1 R5.1 else τ) v h h') := by
  have HB : ∀ u, pj_up h g (.inr (11, gd_Mo g u)) (g + 7) = some (.inl (0, 120, .inl (fun j => nI (c j)))) := fun u => (pj_up_n (by omega)).trans hb
  refine pj_ald0 (q := 99) (pj_d p_X12_readPair 56 rfl) rfl ?_
  refine pj_bipush (q := 101) (v := nI 44) (pj_d p_X12_readPair 57 rfl) rfl (by decide) ?_
  refine pj_cv (pj_rV (q := 104) (c_X12_mustSign (S := R4) (x := 44) pj_up_s (HB _) hL hc s1 pb (Or.inl rfl)) (pj_d p_X12_readPair 58 rfl) rfl kX12_126 o_X12_mustSign (by first | assumption | exact pj_up_s | exact (pj_up_n (by omega)).trans (by assumption) | exact (pj_up_n (by omega)).trans pj_up_s) (by rfl) (by rfl) (by rfl) (by rfl) (Nat.le_of_ble_eq_true rfl) (by decide)) (by decide) (by decide) ?_
  rintro r1 h1 n1 ⟨rfl, rfl, v3, rfl, p3, s3⟩
  have pb3 := gd_PB_tb (c := c) (x := 44) pb
  have ok2 := @gd_tb_ok c L 44 R4
  generalize gd_tb c L 44 R4 = R2 at *
  rw [pj_up_up]
  refine pj_ald0 (q := 105) (pj_d p_X12_readPair 59 rfl) rfl ?_
  refine pj_iconst (q := 106) (v := nI 1) (pj_d p_X12_readPair 60 rfl) rfl (by decide) ?_
  refine pj_bipush (q := 108) (v := nI 20) (pj_d p_X12_readPair 61 rfl) rfl (by decide) ?_
  refine pj_cv (pj_rV (q := 111) (c_X12_number (S := R2) (lo := 1) (hi := nI 20) (hiI := 20) pj_up_s (HB _) hL hc s3 pb3 (by omega) (by decide)) (pj_d p_X12_readPair 62 rfl) rfl kX12_122 o_X12_number (by first | assumption | exact pj_up_s | exact (pj_up_n (by omega)).trans (by assumption) | exact (pj_up_n (by omega)).trans pj_up_s) (by rfl) (by rfl) (by rfl) (by rfl) (Nat.le_of_ble_eq_true rfl) (by decide)) (by decide) (by decide) ?_
  rintro r1 h1 n1 ⟨⟨x3, rfl, g2⟩, rfl, v4, rfl, p4, s4⟩
  have pb4 := gd_PB_tn (c := c) (lo := 1) (hi := 20) pb3
  have ok3 := @gd_tn_ok c L 1 20 R2
  rw [hR5] at g2 s4 pb4 ok3
  rw [pj_up_up]
  refine pj_ist3 (q := 112) (pj_d p_X12_readPair 63 rfl) rfl (by first | rfl | assumption) ?_
  refine pj_ald0 (q := 113) (pj_d p_X12_readPair 64 rfl) rfl ?_
  refine pj_bipush (q := 115) (v := nI 59) (pj_d p_X12_readPair 65 rfl) rfl (by decide) ?_
  refine pj_cv (pj_rV (q := 118) (c_X12_mustSign (S := R5.2) (x := 59) pj_up_s (HB _) hL hc s4 pb4 (Or.inr rfl)) (pj_d p_X12_readPair 66 rfl) rfl kX12_126 o_X12_mustSign (by first | assumption | exact pj_up_s | exact (pj_up_n (by omega)).trans (by assumption) | exact (pj_up_n (by omega)).trans pj_up_s) (by rfl) (by rfl) (by rfl) (by rfl) (Nat.le_of_ble_eq_true rfl) (by decide)) (by decide) (by decide) ?_
  rintro r1 h1 n1 ⟨rfl, rfl, v5, rfl, p5, s5⟩
  have pb5 := gd_PB_tb (c := c) (x := 59) pb4
  have ok4 := @gd_tb_ok c L 59 R5.2
  rw [hR6] at s5 pb5 ok4
  rw [pj_up_up]
  have pv : gd_pv v v5 := fun i hi => by rw [p5 i hi, p4 i hi, p3 i hi, p1 i hi]
  have b5 := pb5.2.1
  refine pj_ald0 (q := 119) (pj_d p_X12_readPair 67 rfl) rfl ?_
  refine pj_gf (q := 122) (k := 15) (pj_d p_X12_readPair 68 rfl) rfl kX12_78 (by first | assumption | exact pj_up_s | exact (pj_up_n (by omega)).trans (by assumption) | exact (pj_up_n (by omega)).trans pj_up_s) (by rfl) (by rfl) ?_
  rw [s5.2.1]
  refine pj_if_ne (t := 176) (q := 125) (pj_d p_X12_readPair 69 rfl) rfl (by decide) (fun c1 => ?_) (fun c1 => ?_)
  · have e : ¬ R6.2.1 = 0 := fun q => c1 (by rw [q]; rfl)
    refine pj_vret rfl (pj_d p_X12_readPair 106 rfl) (by decide) (by decide) ?_
    exact ⟨rfl, rfl, v5, F, pj_up_s, (pj_up_n (by omega)).trans hF, pv, s5, fun q => absurd q e, fun q q1 _ => pj_up_n q1⟩
  have e : R6.2.1 = 0 := (nI_eq (by omega) (by omega)).mp (c1.trans nI_0.symm)
  have o4 := ok4 e
  have o3 := (ok3 o4).1
  have o2 := ok2 o3
  have t8 := h8 e
  rw [g2 o4, e1 o2, e2 o2]
  have i1 : 32 + 3 * τ 2 < 56 := by omega
  have i2 : 32 + 3 * τ 2 + 1 < 56 := by omega
  have i3 : 32 + 3 * τ 2 + 2 < 56 := by omega
  have z1 : (2 : Nat) < 56 := by omega
  refine pj_bipush (q := 127) (v := nI 32) (pj_d p_X12_readPair 70 rfl) rfl (by decide) ?_
  refine pj_iconst (q := 128) (v := nI 3) (pj_d p_X12_readPair 71 rfl) rfl (by decide) ?_
  refine pj_ald0 (q := 129) (pj_d p_X12_readPair 72 rfl) rfl ?_
  refine pj_gf (q := 132) (k := 6) (pj_d p_X12_readPair 73 rfl) rfl kX12_22 (by first | assumption | exact pj_up_s | exact (pj_up_n (by omega)).trans (by assumption) | exact (pj_up_n (by omega)).trans pj_up_s) (by rfl) (by rfl) ?_
  refine pj_iconst (q := 133) (v := nI 2) (pj_d p_X12_readPair 74 rfl) rfl (by decide) ?_
  refine pj_ialdN (q := 134) (pj_d p_X12_readPair 75 rfl) rfl (by first | assumption | exact pj_up_s | exact (pj_up_n (by omega)).trans (by assumption) | exact (pj_up_n (by omega)).trans pj_up_s) (by rfl) (by first | assumption | omega) (Nat.le_of_ble_eq_true rfl) ?_
  rw [hj 2 (by omega)]
  refine pj_imul (q := 135) (pj_d p_X12_readPair 76 rfl) rfl ?_
  refine pj_iadd (q := 136) (pj_d p_X12_readPair 77 rfl) rfl ?_
  rw [pk_mul, nI_add]
  refine pj_ist4 (q := 138) (pj_d p_X12_readPair 78 rfl) rfl (by first | rfl | assumption) ?_
  refine pj_ald0 (q := 139) (pj_d p_X12_readPair 79 rfl) rfl ?_
  refine pj_gf (q := 142) (k := 6) (pj_d p_X12_readPair 80 rfl) rfl kX12_22 (by first | assumption | exact pj_up_s | exact (pj_up_n (by omega)).trans (by assumption) | exact (pj_up_n (by omega)).trans pj_up_s) (by rfl) (by rfl) ?_
  refine pj_ild4 (q := 144) (pj_d p_X12_readPair 81 rfl) rfl ?_
  refine pj_ild1 (q := 145) (pj_d p_X12_readPair 82 rfl) rfl ?_
  refine pj_iast (q := 146) (pj_d p_X12_readPair 83 rfl) rfl (by first | assumption | exact pj_up_s | exact (pj_up_n (by omega)).trans (by assumption) | exact (pj_up_n (by omega)).trans pj_up_s) (by rfl) (by first | assumption | omega) (Nat.le_of_ble_eq_true rfl) ?_
  refine pj_ald0 (q := 147) (pj_d p_X12_readPair 84 rfl) rfl ?_
  refine pj_gf (q := 150) (k := 6) (pj_d p_X12_readPair 85 rfl) rfl kX12_22 (by first | assumption | exact pj_up_s | exact (pj_up_n (by omega)).trans (by assumption) | exact (pj_up_n (by omega)).trans pj_up_s) (by rfl) (by rfl) ?_
  refine pj_ild4 (q := 152) (pj_d p_X12_readPair 86 rfl) rfl ?_
  refine pj_iconst (q := 153) (v := nI 1) (pj_d p_X12_readPair 87 rfl) rfl (by decide) ?_
  refine pj_iadd (q := 154) (pj_d p_X12_readPair 88 rfl) rfl ?_
  rw [nI_add]
  refine pj_ild2 (q := 155) (pj_d p_X12_readPair 89 rfl) rfl ?_
  refine pj_iast (q := 156) (pj_d p_X12_readPair 90 rfl) rfl (by first | assumption | exact pj_up_s | exact (pj_up_n (by omega)).trans (by assumption) | exact (pj_up_n (by omega)).trans pj_up_s) (by rfl) (by first | assumption | omega) (Nat.le_of_ble_eq_true rfl) ?_
  rw [pj_up_up]
  refine pj_ald0 (q := 157) (pj_d p_X12_readPair 91 rfl) rfl ?_
  refine pj_gf (q := 160) (k := 6) (pj_d p_X12_readPair 92 rfl) rfl kX12_22 (by first | assumption | exact pj_up_s | exact (pj_up_n (by omega)).trans (by assumption) | exact (pj_up_n (by omega)).trans pj_up_s) (by rfl) (by rfl) ?_
  refine pj_ild4 (q := 162) (pj_d p_X12_readPair 93 rfl) rfl ?_
  refine pj_iconst (q := 163) (v := nI 2) (pj_d p_X12_readPair 94 rfl) rfl (by decide) ?_
  refine pj_iadd (q := 164) (pj_d p_X12_readPair 95 rfl) rfl ?_
  rw [nI_add]
  refine pj_ild3 (q := 165) (pj_d p_X12_readPair 96 rfl) rfl ?_
  refine pj_iast (q := 166) (pj_d p_X12_readPair 97 rfl) rfl (by first | assumption | exact pj_up_s | exact (pj_up_n (by omega)).trans (by assumption) | exact (pj_up_n (by omega)).trans pj_up_s) (by rfl) (by first | assumption | omega) (Nat.le_of_ble_eq_true rfl) ?_
  rw [pj_up_up]
  refine pj_ald0 (q := 167) (pj_d p_X12_readPair 98 rfl) rfl ?_
  refine pj_gf (q := 170) (k := 6) (pj_d p_X12_readPair 99 rfl) rfl kX12_22 (by first | assumption | exact pj_up_s | exact (pj_up_n (by omega)).trans (by assumption) | exact (pj_up_n (by omega)).trans pj_up_s) (by rfl) (by rfl) ?_
  refine pj_iconst (q := 171) (v := nI 2) (pj_d p_X12_readPair 100 rfl) rfl (by decide) ?_
  refine pj_dup2 (q := 172) (pj_d p_X12_readPair 101 rfl) rfl rfl rfl ?_
  refine pj_ialdN (q := 173) (pj_d p_X12_readPair 102 rfl) rfl (by first | assumption | exact pj_up_s | exact (pj_up_n (by omega)).trans (by assumption) | exact (pj_up_n (by omega)).trans pj_up_s) (by rfl) (by first | assumption | omega) (Nat.le_of_ble_eq_true rfl) ?_
  rw [gd_upd_n (by omega), gd_upd_n (by omega), gd_upd_n (by omega), hj 2 (by omega)]
  refine pj_iconst (q := 174) (v := nI 1) (pj_d p_X12_readPair 103 rfl) rfl (by decide) ?_
  refine pj_iadd (q := 175) (pj_d p_X12_readPair 104 rfl) rfl ?_
  rw [nI_add]
  refine pj_iast (q := 176) (pj_d p_X12_readPair 105 rfl) rfl (by first | assumption | exact pj_up_s | exact (pj_up_n (by omega)).trans (by assumption) | exact (pj_up_n (by omega)).trans pj_up_s) (by rfl) (by first | assumption | omega) (Nat.le_of_ble_eq_true rfl) ?_
  rw [pj_up_up]
  refine pj_vret rfl (pj_d p_X12_readPair 106 rfl) (by decide) (by decide) ?_
  refine ⟨rfl, rfl, v5, _, (pj_up_n (by omega)).trans pj_up_s, pj_up_s, pv, s5, fun _ j h56 => ?_, fun q q1 q2 => by rw [pj_up_n q2, pj_up_n q1]⟩
  rw [if_pos e, gd_addP, show 32 + 3 * τ 2 + 2 = 34 + 3 * τ 2 by omega, show 32 + 3 * τ 2 + 1 = 33 + 3 * τ 2 by omega]
  dsimp only
  by_cases e1 : j = 2
  · rw [e1, gd_upd_s, gd_set_s]
  rw [gd_upd_n e1, gd_set_n e1]
  by_cases e2 : j = 34 + 3 * τ 2
  · rw [e2, gd_upd_s, gd_set_s]
  rw [gd_upd_n e2, gd_set_n e2]
  by_cases e3 : j = 33 + 3 * τ 2
  · rw [e3, gd_upd_s, gd_set_s]
  rw [gd_upd_n e3, gd_set_n e3]
  by_cases e4 : j = 32 + 3 * τ 2
  · rw [e4, gd_upd_s, gd_set_s]
  rw [gd_upd_n e4, gd_set_n e4]
  exact hj j h56
theorem gd_rdP {τ : Nat → Nat} {v1 : Nat → Int32} {R1 R3 R5 : Nat × gd_PS} {R2 R4 R6 : gd_PS} (hF : h (g + 5) = some (.inl (0, 56, .inl F))) (hj : ∀ j, j < 56 → F j = nI (τ j)) (hW : gd_W τ) (hb : h (g + 7) = some (.inl (0, 120, .inl (fun j => nI (c j))))) (hL : L ≤ 120) (hc : ∀ j, c j < 256) (p1 : gd_pv v v1) (s1 : gd_MS c L v1 S) (pb : gd_PB L S) (hR1 : gd_tn c L 0 ((τ 1 : Int) - 1) S = R1) (hR2 : gd_tb c L 44 R1.2 = R2) (hR3 : gd_tn c L 0 ((τ 1 : Int) - 1) R2 = R3) (hR4 : (if R1.1 = R3.1 ∨ gd_pair τ R1.1 R3.1 ≠ 0 then gd_fa R3.2 R2.1 2 else R3.2) = R4) (hR5 : gd_tn c L 1 20 (gd_tb c L 44 R4) = R5) (hR6 : gd_tb c L 59 R5.2 = R6) (h8 : R6.2.1 = 0 → τ 2 < 8) : pj_V E B l Y_X12_readPair 5 0 0 21 [some (.ref g), none, none, none, none] [] (pj_up h g (.inr (11, gd_Mo g v1))) n 0 0 (fun r h' n' => r = none ∧ n' = n ∧ gd_MP c L g (R6, if R6.2.1 = 0 then gd_addP τ R1.1 R3.1 R5.1 else τ) v h h') := by
  have h7 := hW.1
  have HB : ∀ u, pj_up h g (.inr (11, gd_Mo g u)) (g + 7) = some (.inl (0, 120, .inl (fun j => nI (c j)))) := fun u => (pj_up_n (by omega)).trans hb
  have HF : ∀ u, pj_up h g (.inr (11, gd_Mo g u)) (g + 5) = some (.inl (0, 56, .inl F)) := fun u => (pj_up_n (by omega)).trans hF
  have z1 : (1 : Nat) < 56 := by omega
  refine pj_ald0 (q := 22) (pj_d p_X12_readPair 12 rfl) rfl ?_
  refine pj_iconst (q := 23) (v := nI 0) (pj_d p_X12_readPair 13 rfl) rfl (by decide) ?_
  refine pj_ald0 (q := 24) (pj_d p_X12_readPair 14 rfl) rfl ?_
  refine pj_gf (q := 27) (k := 6) (pj_d p_X12_readPair 15 rfl) rfl kX12_22 (by first | assumption | exact pj_up_s | exact (pj_up_n (by omega)).trans (by assumption) | exact (pj_up_n (by omega)).trans pj_up_s) (by rfl) (by rfl) ?_
  refine pj_iconst (q := 28) (v := nI 1) (pj_d p_X12_readPair 16 rfl) rfl (by decide) ?_
  refine pj_ialdN (q := 29) (pj_d p_X12_readPair 17 rfl) rfl (by first | assumption | exact pj_up_s | exact (pj_up_n (by omega)).trans (by assumption) | exact (pj_up_n (by omega)).trans pj_up_s) (by rfl) (by first | assumption | omega) (Nat.le_of_ble_eq_true rfl) ?_
  rw [hj 1 (by omega)]
  refine pj_iconst (q := 30) (v := nI 1) (pj_d p_X12_readPair 18 rfl) rfl (by decide) ?_
  refine pj_isub (q := 31) (pj_d p_X12_readPair 19 rfl) rfl ?_
  refine pj_cv (pj_rV (q := 34) (c_X12_number (S := S) (lo := 0) (hi := nI (τ 1) - nI 1) (hiI := (τ 1 : Int) - 1) pj_up_s (HB _) hL hc s1 pb (by omega) (gd_hiI h7)) (pj_d p_X12_readPair 20 rfl) rfl kX12_122 o_X12_number (by first | assumption | exact pj_up_s | exact (pj_up_n (by omega)).trans (by assumption) | exact (pj_up_n (by omega)).trans pj_up_s) (by rfl) (by rfl) (by rfl) (by rfl) (Nat.le_of_ble_eq_true rfl) (by decide)) (by decide) (by decide) ?_
  rintro r1 h1 n1 ⟨⟨x1, rfl, g1⟩, rfl, v2, rfl, p2, s2⟩
  have pb2 := gd_PB_tn (c := c) (lo := 0) (hi := (τ 1 : Int) - 1) pb
  have ok1 := @gd_tn_ok c L 0 ((τ 1 : Int) - 1) S
  have lt1 := gd_tn_lt (L := L) (lo := 0) (hi := (τ 1 : Int) - 1) (S := S) hc
  rw [hR1] at g1 s2 pb2 ok1 lt1
  rw [pj_up_up]
  refine pj_ist1 (q := 35) (pj_d p_X12_readPair 21 rfl) rfl (by first | rfl | assumption) ?_
  refine pj_ald0 (q := 36) (pj_d p_X12_readPair 22 rfl) rfl ?_
  refine pj_bipush (q := 38) (v := nI 44) (pj_d p_X12_readPair 23 rfl) rfl (by decide) ?_
  refine pj_cv (pj_rV (q := 41) (c_X12_mustSign (S := R1.2) (x := 44) pj_up_s (HB _) hL hc s2 pb2 (Or.inl rfl)) (pj_d p_X12_readPair 24 rfl) rfl kX12_126 o_X12_mustSign (by first | assumption | exact pj_up_s | exact (pj_up_n (by omega)).trans (by assumption) | exact (pj_up_n (by omega)).trans pj_up_s) (by rfl) (by rfl) (by rfl) (by rfl) (Nat.le_of_ble_eq_true rfl) (by decide)) (by decide) (by decide) ?_
  rintro r1 h1 n1 ⟨rfl, rfl, v3, rfl, p3, s3⟩
  have pb3 := gd_PB_tb (c := c) (x := 44) pb2
  have ok2 := @gd_tb_ok c L 44 R1.2
  rw [hR2] at s3 pb3 ok2
  rw [pj_up_up]
  have pb4 := gd_PB_tn (c := c) (lo := 0) (hi := (τ 1 : Int) - 1) pb3
  have ok3 := @gd_tn_ok c L 0 ((τ 1 : Int) - 1) R2
  have lt3 := gd_tn_lt (L := L) (lo := 0) (hi := (τ 1 : Int) - 1) (S := R2) hc
  rw [hR3] at pb4 ok3 lt3
  have pbR4 : gd_PB L R4 := by
    rw [← hR4]
    split
    · exact gd_PB_fa pb4 pb3.1 (by omega)
    · exact pb4
  have pv3 : gd_pv v v3 := fun i hi => by rw [p3 i hi, p2 i hi, p1 i hi]
  have numb : ∀ v5 S4, gd_pv v v5 → gd_MS c L v5 S4 → gd_PB L S4 → (gd_tn c L 0 ((τ 1 : Int) - 1) S4).2.2 = R4.2 → (R4.2.1 = 0 → gd_tn c L 0 ((τ 1 : Int) - 1) S4 = R3 ∧ R4 = R3.2) → pj_V E B l Y_X12_readPair 5 0 0 84 [some (.ref g), some (.int x1), none, none, none] [] (pj_up h g (.inr (11, gd_Mo g v5))) n1 0 0 (fun r h' n' => r = none ∧ n' = n1 ∧ gd_MP c L g (R6, if R6.2.1 = 0 then gd_addP τ R1.1 R3.1 R5.1 else τ) v h h') := by
    intro v5 S4 p5 s5 pb5 A1 A2
    refine pj_ald0 (q := 85) (pj_d p_X12_readPair 46 rfl) rfl ?_
    refine pj_iconst (q := 86) (v := nI 0) (pj_d p_X12_readPair 47 rfl) rfl (by decide) ?_
    refine pj_ald0 (q := 87) (pj_d p_X12_readPair 48 rfl) rfl ?_
    refine pj_gf (q := 90) (k := 6) (pj_d p_X12_readPair 49 rfl) rfl kX12_22 (by first | assumption | exact pj_up_s | exact (pj_up_n (by omega)).trans (by assumption) | exact (pj_up_n (by omega)).trans pj_up_s) (by rfl) (by rfl) ?_
    refine pj_iconst (q := 91) (v := nI 1) (pj_d p_X12_readPair 50 rfl) rfl (by decide) ?_
    refine pj_ialdN (q := 92) (pj_d p_X12_readPair 51 rfl) rfl (by first | assumption | exact pj_up_s | exact (pj_up_n (by omega)).trans (by assumption) | exact (pj_up_n (by omega)).trans pj_up_s) (by rfl) (by first | assumption | omega) (Nat.le_of_ble_eq_true rfl) ?_
    rw [hj 1 (by omega)]
    refine pj_iconst (q := 93) (v := nI 1) (pj_d p_X12_readPair 52 rfl) rfl (by decide) ?_
    refine pj_isub (q := 94) (pj_d p_X12_readPair 53 rfl) rfl ?_
    refine pj_cv (pj_rV (q := 97) (c_X12_number (S := S4) (lo := 0) (hi := nI (τ 1) - nI 1) (hiI := (τ 1 : Int) - 1) pj_up_s (HB _) hL hc s5 pb5 (by omega) (gd_hiI h7)) (pj_d p_X12_readPair 54 rfl) rfl kX12_122 o_X12_number (by first | assumption | exact pj_up_s | exact (pj_up_n (by omega)).trans (by assumption) | exact (pj_up_n (by omega)).trans pj_up_s) (by rfl) (by rfl) (by rfl) (by rfl) (Nat.le_of_ble_eq_true rfl) (by decide)) (by decide) (by decide) ?_
    rintro r1 h1 n2 ⟨⟨x2, rfl, g2⟩, rfl, v6, rfl, p6, s6⟩
    rw [pj_up_up]
    refine pj_ist2 (q := 98) (pj_d p_X12_readPair 55 rfl) rfl (by first | rfl | assumption) ?_
    have s7 : gd_MS c L v6 R4 := gd_MS_eq s6 A1 (fun q => by
      rw [A1] at q
      obtain ⟨a1, a2⟩ := A2 q
      rw [a1, a2])
    refine gd_rdP2 hF hj hb hL hc (fun i hi => by rw [p6 i hi, p5 i hi]) s7 pbR4 hR5 hR6 h8 (fun q => ?_) (fun q => ?_)
    · obtain ⟨a1, a2⟩ := A2 q
      rw [a2] at q
      exact g1 (ok2 (ok3 q).1)
    · obtain ⟨a1, a2⟩ := A2 q
      rw [A1] at g2
      rw [g2 q, a1]
  have same : R4 = R3.2 → pj_V E B l Y_X12_readPair 5 0 0 84 [some (.ref g), some (.int x1), none, none, none] [] (pj_up h g (.inr (11, gd_Mo g v3))) n1 0 0 (fun r h' n' => r = none ∧ n' = n1 ∧ gd_MP c L g (R6, if R6.2.1 = 0 then gd_addP τ R1.1 R3.1 R5.1 else τ) v h h') := fun e => numb v3 R2 pv3 s3 pb3 (by rw [hR3, e]) (fun _ => ⟨hR3, e⟩)
  have b2 := pb3.2.1
  refine pj_ald0 (q := 42) (pj_d p_X12_readPair 25 rfl) rfl ?_
  refine pj_gf (q := 45) (k := 15) (pj_d p_X12_readPair 26 rfl) rfl kX12_78 (by first | assumption | exact pj_up_s | exact (pj_up_n (by omega)).trans (by assumption) | exact (pj_up_n (by omega)).trans pj_up_s) (by rfl) (by rfl) ?_
  rw [s3.2.1]
  refine pj_if_ne (t := 84) (q := 48) (pj_d p_X12_readPair 27 rfl) rfl (by decide) (fun c1 => ?_) (fun c1 => ?_)
  · have e : ¬ R2.2.1 = 0 := fun q => c1 (by rw [q]; rfl)
    have e3 : R3 = (0, R2) := by rw [← hR3, gd_tn_bad e]
    exact same (by rw [← hR4, e3]; dsimp only; rw [gd_fa_bad e]; split <;> rfl)
  have e : R2.2.1 = 0 := (nI_eq (by omega) (by omega)).mp (c1.trans nI_0.symm)
  have o1 := ok1 (ok2 e)
  have x1e := g1 (ok2 e)
  obtain ⟨y1, y2, y3, y4⟩ := s3.2.2.1 e
  have tl := gd_tok_lt (c := c) (L := L) (p := R2.1)
  have bad3 : ¬ R3.2.2.1 = 0 → R4 = R3.2 := fun q => by
    rw [← hR4, gd_fa_bad q]
    split <;> rfl
  refine pj_ald0 (q := 49) (pj_d p_X12_readPair 28 rfl) rfl ?_
  refine pj_gf (q := 52) (k := 13) (pj_d p_X12_readPair 29 rfl) rfl kX12_102 (by first | assumption | exact pj_up_s | exact (pj_up_n (by omega)).trans (by assumption) | exact (pj_up_n (by omega)).trans pj_up_s) (by rfl) (by rfl) ?_
  rw [y3]
  refine pj_iconst (q := 53) (v := nI 3) (pj_d p_X12_readPair 30 rfl) rfl (by decide) ?_
  refine pj_icmp_ne (t := 84) (q := 56) (pj_d p_X12_readPair 31 rfl) rfl (by decide) (fun c2 => ?_) (fun c2 => ?_)
  · have nf : ¬ (gd_fg c L R2.1 = 1 ∨ gd_fg c L R2.1 = 2) := fun q => c2 (by rw [gd_tok3.mpr q])
    have e3 : R3 = (0, (R2.1, 1, R2.1)) := by rw [← hR3, gd_tn, if_pos e, if_neg nf]
    exact same (bad3 (by rw [e3]; show ¬ (1 : Nat) = 0; decide))
  have t3 : gd_tok c L R2.1 = 3 := (nI_eq (by omega) (by omega)).mp c2
  have ff := gd_tok3.mp t3
  obtain ⟨z1', z2⟩ := gd_tvcu3 ff
  have vl := gd_nv_lt (p := R2.1) (m := gd_fg c L R2.1) hc
  have R3e : R3 = if 0 ≤ gd_nv c R2.1 (gd_fg c L R2.1) ∧ (gd_nv c R2.1 (gd_fg c L R2.1) : Int) ≤ (τ 1 : Int) - 1 then (gd_nv c R2.1 (gd_fg c L R2.1), (R2.1 + gd_fg c L R2.1, 0, R2.2.2)) else (0, (R2.1, 2, R2.1)) := by rw [← hR3, gd_tn, if_pos e, if_pos ff]
  generalize gd_nv c R2.1 (gd_fg c L R2.1) = z at *
  have flt : z < τ 1 → (R1.1 = z ∨ gd_pair τ R1.1 z ≠ 0) → pj_V E B l Y_X12_readPair 5 0 0 79 [some (.ref g), some (.int x1), none, none, none] [] (pj_up h g (.inr (11, gd_Mo g v3))) n1 0 0 (fun r h' n' => r = none ∧ n' = n1 ∧ gd_MP c L g (R6, if R6.2.1 = 0 then gd_addP τ R1.1 R3.1 R5.1 else τ) v h h') := by
    intro zl zz
    refine pj_ald0 (q := 80) (pj_d p_X12_readPair 43 rfl) rfl ?_
    refine pj_iconst (q := 81) (v := nI 2) (pj_d p_X12_readPair 44 rfl) rfl (by decide) ?_
    refine pj_cv (pj_rV (q := 84) (c_X12_bad pj_up_s s3 pb3 (k := 2) (by decide)) (pj_d p_X12_readPair 45 rfl) rfl kX12_105 o_X12_bad (by first | assumption | exact pj_up_s | exact (pj_up_n (by omega)).trans (by assumption) | exact (pj_up_n (by omega)).trans pj_up_s) (by rfl) (by rfl) (by rfl) (by rfl) (Nat.le_of_ble_eq_true rfl) (by decide)) (by decide) (by decide) ?_
    rintro r1 h1 n2 ⟨rfl, rfl, v4, rfl, p4, s4⟩
    rw [pj_up_up]
    have ne : ¬ (gd_fa R2 R2.1 2).2.1 = 0 := fun q => gd_fa_ok (by decide) q
    have r3 : R3 = (z, (R2.1 + gd_fg c L R2.1, 0, R2.2.2)) := by rw [R3e, if_pos (by omega)]
    have r4 : R4 = (R2.1 + gd_fg c L R2.1, 2, R2.1) := by
      rw [← hR4, r3]
      dsimp only
      rw [if_pos zz, gd_fa, if_pos rfl]
    refine numb v4 (gd_fa R2 R2.1 2) (fun i hi => by rw [p4 i hi, pv3 i hi]) s4 (gd_PB_fa pb3 pb3.1 (by omega)) ?_ (fun q => ?_)
    · rw [gd_tn_bad ne, r4, gd_fa, if_pos e]
    · rw [r4] at q
      exact absurd q (by show ¬ (2 : Nat) = 0; decide)
  refine pj_ald0 (q := 57) (pj_d p_X12_readPair 32 rfl) rfl ?_
  refine pj_gf (q := 60) (k := 14) (pj_d p_X12_readPair 33 rfl) rfl kX12_91 (by first | assumption | exact pj_up_s | exact (pj_up_n (by omega)).trans (by assumption) | exact (pj_up_n (by omega)).trans pj_up_s) (by rfl) (by rfl) ?_
  refine pj_ild1 (q := 61) (pj_d p_X12_readPair 34 rfl) rfl ?_
  rw [y4, z1', x1e]
  refine pj_icmp_eq (t := 79) (q := 64) (pj_d p_X12_readPair 35 rfl) rfl (by decide) (fun c3 => ?_) (fun c3 => ?_)
  · have ez : z = R1.1 := (nI_eq (by omega) (by omega)).mp c3
    rw [x1e] at flt
    exact flt (by omega) (Or.inl ez.symm)
  have nz : ¬ R1.1 = z := fun q => c3 (by rw [q])
  refine pj_ald0 (q := 65) (pj_d p_X12_readPair 36 rfl) rfl ?_
  refine pj_gf (q := 68) (k := 6) (pj_d p_X12_readPair 37 rfl) rfl kX12_22 (by first | assumption | exact pj_up_s | exact (pj_up_n (by omega)).trans (by assumption) | exact (pj_up_n (by omega)).trans pj_up_s) (by rfl) (by rfl) ?_
  refine pj_ild1 (q := 69) (pj_d p_X12_readPair 38 rfl) rfl ?_
  refine pj_ald0 (q := 70) (pj_d p_X12_readPair 39 rfl) rfl ?_
  refine pj_gf (q := 73) (k := 14) (pj_d p_X12_readPair 40 rfl) rfl kX12_91 (by first | assumption | exact pj_up_s | exact (pj_up_n (by omega)).trans (by assumption) | exact (pj_up_n (by omega)).trans pj_up_s) (by rfl) (by rfl) ?_
  rw [y4, z1']
  refine pj_cp (pj_rS (q := 76) (c_X12_isTold (HF _) hj hW (a := R1.1) (b := z) lt1 (by omega)) (pj_d p_X12_readPair 41 rfl) rfl kX12_129 o_X12_isTold (by rfl) (by rfl) (Nat.le_of_ble_eq_true rfl) (by decide)) (by decide) (by decide) ?_
  rw [x1e] at flt same
  refine pj_if_eq (t := 84) (q := 79) (pj_d p_X12_readPair 42 rfl) rfl (by decide) (fun c4 => ?_) (fun c4 => ?_)
  · have it := (gd_b_z _).mp c4
    refine same ?_
    by_cases zl : z < τ 1
    · have r3 : R3 = (z, (R2.1 + gd_fg c L R2.1, 0, R2.2.2)) := by rw [R3e, if_pos (by omega)]
      have np : ¬ gd_pair τ R1.1 z ≠ 0 := fun q => by
        have := (gd_itd_pair hW nz).mpr q
        rw [it] at this
        exact absurd this (by decide)
      rw [← hR4, r3]
      dsimp only
      rw [if_neg (fun q => by rcases q with q | q; exact nz q; exact np q)]
    · exact bad3 (by rw [R3e, if_neg (by omega)]; show ¬ (2 : Nat) = 0; decide)
  · have it := (gd_b_n _).mp c4
    have zl : z < τ 1 := by
      by_cases q : z < τ 1
      · exact q
      · rw [gd_itd_out hW q] at it
        exact absurd it (by decide)
    exact flt zl (Or.inr ((gd_itd_pair hW nz).mp it))
theorem c_X12_readPair (hM : h g = some (.inr (11, gd_Mo g v))) (hF : h (g + 5) = some (.inl (0, 56, .inl F))) (hj : ∀ j, j < 56 → F j = nI (s.2 j)) (hb : h (g + 7) = some (.inl (0, 120, .inl (fun j => nI (c j))))) (hL : L ≤ 120) (hc : ∀ j, c j < 256) (hS : gd_MS c L v s.1) (hW : gd_RW L s) (e : s.1.2.1 = 0) (hp : s.1.1 < L) (hm : c s.1.1 = 109) : pj_Ct E B l Y_X12_readPair 5 0 0 [.ref g] h n (fun r h' n' => r = none ∧ n' = n ∧ gd_MP c L g (if s.2 2 = 8 then (gd_fa s.1 s.1.1 3, s.2) else gd_rP c L s) v h h') := by
  have h8 := hW.2.1.2.1
  have z1 : (2 : Nat) < 56 := by omega
  have HB : ∀ u, pj_up h g (.inr (11, gd_Mo g u)) (g + 7) = some (.inl (0, 120, .inl (fun j => nI (c j)))) := fun u => (pj_up_n (by omega)).trans hb
  refine pj_in rfl (ls := [some (.ref g), none, none, none, none]) rfl (Nat.le_of_ble_eq_true rfl) ?_
  refine pj_ald0 (q := 1) (pj_d p_X12_readPair 0 rfl) rfl ?_
  refine pj_gf (q := 4) (k := 6) (pj_d p_X12_readPair 1 rfl) rfl kX12_22 (by first | assumption | exact pj_up_s | exact (pj_up_n (by omega)).trans (by assumption) | exact (pj_up_n (by omega)).trans pj_up_s) (by rfl) (by rfl) ?_
  refine pj_iconst (q := 5) (v := nI 2) (pj_d p_X12_readPair 2 rfl) rfl (by decide) ?_
  refine pj_ialdN (q := 6) (pj_d p_X12_readPair 3 rfl) rfl (by first | assumption | exact pj_up_s | exact (pj_up_n (by omega)).trans (by assumption) | exact (pj_up_n (by omega)).trans pj_up_s) (by rfl) (by first | assumption | omega) (Nat.le_of_ble_eq_true rfl) ?_
  rw [hj 2 (by omega)]
  refine pj_bipush (q := 8) (v := nI 8) (pj_d p_X12_readPair 4 rfl) rfl (by decide) ?_
  by_cases e7 : s.2 2 = 8
  · rw [if_pos e7]
    refine pj_icmp_ne (t := 16) (q := 11) (pj_d p_X12_readPair 5 rfl) rfl (by decide) (fun c1 => ?_) (fun c1 => ?_)
    · exact absurd (by rw [e7]) c1
    refine pj_ald0 (q := 12) (pj_d p_X12_readPair 6 rfl) rfl ?_
    refine pj_iconst (q := 13) (v := nI 3) (pj_d p_X12_readPair 7 rfl) rfl (by decide) ?_
    refine pj_cv (pj_rV (q := 16) (c_X12_bad hM hS hW.1 (k := 3) (by decide)) (pj_d p_X12_readPair 8 rfl) rfl kX12_105 o_X12_bad (by first | assumption | exact pj_up_s | exact (pj_up_n (by omega)).trans (by assumption) | exact (pj_up_n (by omega)).trans pj_up_s) (by rfl) (by rfl) (by rfl) (by rfl) (Nat.le_of_ble_eq_true rfl) (by decide)) (by decide) (by decide) ?_
    rintro r1 h1 n1 ⟨rfl, rfl, v1, rfl, p1, s1⟩
    have pb := gd_PB_fa (w := s.1.1) (k := 3) hW.1 hW.1.1 (by omega)
    have ne : ¬ (gd_fa s.1 s.1.1 3).2.1 = 0 := fun q => gd_fa_ok (by decide) q
    refine pj_ald0 (q := 17) (pj_d p_X12_readPair 9 rfl) rfl ?_
    refine pj_iconst (q := 18) (v := nI 1) (pj_d p_X12_readPair 10 rfl) rfl (by decide) ?_
    refine pj_cv (pj_rV (q := 21) (c_X12_must pj_up_s (HB _) hL hc s1 pb true) (pj_d p_X12_readPair 11 rfl) rfl kX12_112 o_X12_must (by first | assumption | exact pj_up_s | exact (pj_up_n (by omega)).trans (by assumption) | exact (pj_up_n (by omega)).trans pj_up_s) (by rfl) (by rfl) (by rfl) (by rfl) (Nat.le_of_ble_eq_true rfl) (by decide)) (by decide) (by decide) ?_
    rintro r1 h1 n1 ⟨rfl, rfl, v2, rfl, p2, s2⟩
    rw [gd_mu_bad ne] at s2
    rw [pj_up_up]
    generalize gd_fa s.1 s.1.1 3 = X at *
    have r4 : (if (0 : Nat) = 0 ∨ gd_pair s.2 0 0 ≠ 0 then gd_fa X X.1 2 else X) = X := by
      rw [if_pos (Or.inl rfl), gd_fa_bad ne]
    have T := gd_rdP (E := E) (B := B) (l := l) (n := n1) (v := v) (v1 := v2) (R1 := (0, X)) (R2 := X) (R3 := (0, X)) (R4 := X) (R5 := (0, X)) (R6 := X) hF hj hW.2.1 hb hL hc (fun i hi => by rw [p2 i hi, p1 i hi]) s2 pb (gd_tn_bad ne) (gd_tb_bad ne) (gd_tn_bad ne) r4 (by rw [gd_tb_bad ne, gd_tn_bad ne]) (gd_tb_bad ne) (fun q => absurd q ne)
    rw [if_neg ne] at T
    exact T
  · rw [if_neg e7]
    refine pj_icmp_ne (t := 16) (q := 11) (pj_d p_X12_readPair 5 rfl) rfl (by decide) (fun c1 => ?_) (fun c1 => ?_)
    rotate_left
    · exact absurd ((nI_eq (by omega) (by omega)).mp c1) e7
    refine pj_ald0 (q := 17) (pj_d p_X12_readPair 9 rfl) rfl ?_
    refine pj_iconst (q := 18) (v := nI 1) (pj_d p_X12_readPair 10 rfl) rfl (by decide) ?_
    refine pj_cv (pj_rV (q := 21) (c_X12_must hM hb hL hc hS hW.1 true) (pj_d p_X12_readPair 11 rfl) rfl kX12_112 o_X12_must (by first | assumption | exact pj_up_s | exact (pj_up_n (by omega)).trans (by assumption) | exact (pj_up_n (by omega)).trans pj_up_s) (by rfl) (by rfl) (by rfl) (by rfl) (Nat.le_of_ble_eq_true rfl) (by decide)) (by decide) (by decide) ?_
    rintro r1 h1 n1 ⟨rfl, rfl, v2, rfl, p2, s2⟩
    rw [show gd_mu c L true s.1 = (s.1.1 + 1, s.1.2) by rw [gd_mu, if_pos rfl, if_pos e, gd_cu, if_pos hp, if_neg (fun q => by have := gd_dg_iff.mp q; omega)]] at s2
    have pb : gd_PB L (s.1.1 + 1, s.1.2) := ⟨by show s.1.1 + 1 ≤ L; omega, hW.1.2⟩
    exact gd_rdP (E := E) (B := B) (l := l) (n := n1) (v := v) (v1 := v2) (R1 := gd_rP1 c L s) (R2 := gd_rP2 c L s) (R3 := gd_rP3 c L s) (R4 := gd_rP4 c L s) (R5 := gd_rP5 c L s) (R6 := gd_rP6 c L s) hF hj hW.2.1 hb hL hc p2 s2 pb rfl rfl rfl rfl rfl rfl (fun _ => by omega)
end
