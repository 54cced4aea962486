/-! ===== asked: the model; counts ===== -/
def gd_km (h : pj_H) (g : Nat) (v : Nat → Int32) (K : gd_KT) : pj_H := pj_up (pj_up h (g + 12) (.inl (0, 16, .inl K.1))) g (.inr (11, gd_Mo g (upd v 23 (nI K.2))))
theorem gd_km_0 {h : pj_H} {g : Nat} {v : Nat → Int32} {K : gd_KT} : gd_km h g v K g = some (.inr (11, gd_Mo g (upd v 23 (nI K.2)))) := pj_up_s
theorem gd_km_1 {h : pj_H} {g : Nat} {v : Nat → Int32} {K : gd_KT} : gd_km h g v K (g + 12) = some (.inl (0, 16, .inl K.1)) := (pj_up_n (by omega)).trans pj_up_s
theorem gd_km_a {h : pj_H} {g a : Nat} {v : Nat → Int32} {K : gd_KT} (h0 : a ≠ g) (h1 : a ≠ g + 12) : gd_km h g v K a = h a := (pj_up_n h0).trans (pj_up_n h1)
theorem gd_km_id {h : pj_H} {g : Nat} {v : Nat → Int32} {K : gd_KT} (hM : h g = some (.inr (11, gd_Mo g v))) (h23 : v 23 = nI K.2) (hK : h (g + 12) = some (.inl (0, 16, .inl K.1))) : gd_km h g v K = h := by
  rw [gd_km, pj_up_id hK, gd_upd_id h23, pj_up_id hM]
theorem gd_km_up {h : pj_H} {g : Nat} {v : Nat → Int32} {K K' : gd_KT} : pj_up (pj_up (gd_km h g v K) (g + 12) (.inl (0, 16, .inl K'.1))) g (.inr (11, gd_Mo g (upd v 23 (nI K'.2)))) = gd_km h g v K' := by
  funext q
  by_cases e : q = g
  · rw [e, pj_up_s, gd_km_0]
  · rw [pj_up_n e]
    by_cases e1 : q = g + 12
    · rw [e1, pj_up_s, gd_km_1]
    · rw [pj_up_n e1, gd_km_a e e1, gd_km_a e e1]
section
variable {E : pj_E} {B : Nat} {l : Launch} {h : pj_H} {n g i : Nat} {v : Nat → Int32} {τ : Nat → Nat} {K : gd_KT} {st : Int32}
theorem gd_v23 {v : Nat → Int32} {x : Int32} : upd v 23 x 23 = x := if_pos rfl
theorem c_X12_began (hK : K.2 ≤ 16) (x : Nat) : pj_Ct E B l Y_X12_began 1 0 0 [.ref g, .int (nI x)] (gd_km h g v K) n (pj_is none (gd_km h g v (gd_bg K x)) n) := by
  refine pj_in rfl (ls := [some (.ref g), some (.int (nI x))]) rfl (Nat.le_of_ble_eq_true rfl) ?_
  refine pj_ald0 (q := 1) (pj_d p_X12_began 0 rfl) rfl ?_
  refine pj_gf (q := 4) (k := 23) (pj_d p_X12_began 1 rfl) rfl kX12_242 (by first | assumption | exact gd_km_0 | exact gd_km_1 | exact (gd_km_a (by omega) (by omega)).trans (by assumption)) (by rfl) (by rfl) ?_
  rw [gd_v23]
  refine pj_bipush (q := 6) (v := nI 16) (pj_d p_X12_began 2 rfl) rfl (by decide) ?_
  refine pj_icmp_ge (t := 29) (q := 9) (pj_d p_X12_began 3 rfl) rfl (by decide) (fun c1 => ?_) (fun c1 => ?_)
  · have : ¬ K.2 < 16 := by have := gd_ge c1 (by omega) (by omega); omega
    refine pj_vret rfl (pj_d p_X12_began 16 rfl) (by decide) (by decide) ?_
    exact ⟨rfl, by rw [gd_bg, if_neg this], rfl⟩
  have hlt : K.2 < 16 := gd_lt c1 (by omega)
  refine pj_ald0 (q := 10) (pj_d p_X12_began 4 rfl) rfl ?_
  refine pj_gf (q := 13) (k := 22) (pj_d p_X12_began 5 rfl) rfl kX12_44 (by first | assumption | exact gd_km_0 | exact gd_km_1 | exact (gd_km_a (by omega) (by omega)).trans (by assumption)) (by rfl) (by rfl) ?_
  refine pj_ald0 (q := 14) (pj_d p_X12_began 6 rfl) rfl ?_
  refine pj_gf (q := 17) (k := 23) (pj_d p_X12_began 7 rfl) rfl kX12_242 (by first | assumption | exact gd_km_0 | exact gd_km_1 | exact (gd_km_a (by omega) (by omega)).trans (by assumption)) (by rfl) (by rfl) ?_
  rw [gd_v23]
  refine pj_ild1 (q := 18) (pj_d p_X12_began 8 rfl) rfl ?_
  refine pj_iast (q := 19) (pj_d p_X12_began 9 rfl) rfl (by first | assumption | exact gd_km_0 | exact gd_km_1 | exact (gd_km_a (by omega) (by omega)).trans (by assumption)) (by rfl) (by first | assumption | omega) (Nat.le_of_ble_eq_true rfl) ?_
  refine pj_ald0 (q := 20) (pj_d p_X12_began 10 rfl) rfl ?_
  refine pj_dup (q := 21) (pj_d p_X12_began 11 rfl) rfl rfl ?_
  refine pj_gf (q := 24) (k := 23) (pj_d p_X12_began 12 rfl) rfl kX12_242 ((pj_up_n (by omega)).trans gd_km_0) (by rfl) (by rfl) ?_
  rw [gd_v23]
  refine pj_iconst (q := 25) (v := nI 1) (pj_d p_X12_began 13 rfl) rfl (by decide) ?_
  refine pj_iadd (q := 26) (pj_d p_X12_began 14 rfl) rfl ?_
  rw [nI_add]
  refine pj_pf (q := 29) (k := 23) (fs' := gd_Mo g (upd v 23 (nI (K.2 + 1)))) (pj_d p_X12_began 15 rfl) rfl kX12_242 ((pj_up_n (by omega)).trans gd_km_0) (by rfl) (Or.inl rfl) (by rfl) (by rfl) (by rfl) (by show 23 < 24; decide) (by rfl) ?_
  refine pj_vret rfl (pj_d p_X12_began 16 rfl) (by decide) (by decide) ?_
  refine ⟨rfl, ?_, rfl⟩
  rw [gd_bg, if_pos hlt]
  exact gd_km_up (K' := (upd K.1 K.2 (nI x), K.2 + 1))
theorem c_X12_plainSize (hT : h (g + 4) = some (.inl (0, 56, .inl (fun j => nI (τ j))))) (hi : i < 7) (hK : K.2 ≤ 16) : pj_Ct E B l Y_X12_plainSize 2 0 0 [.ref g, .int (nI i)] (gd_km h g v K) n (pj_is (some (.int (nI (τ (12 + 3 * i))))) (gd_km h g v (gd_bg K 10)) n) := by
  refine pj_in rfl (ls := [some (.ref g), some (.int (nI i))]) rfl (Nat.le_of_ble_eq_true rfl) ?_
  refine pj_ald0 (q := 1) (pj_d p_X12_plainSize 0 rfl) rfl ?_
  refine pj_bipush (q := 3) (v := nI 10) (pj_d p_X12_plainSize 1 rfl) rfl (by decide) ?_
  refine pj_cv (pj_rV (q := 6) (c_X12_began hK 10) (pj_d p_X12_plainSize 2 rfl) rfl kX12_245 o_X12_began (by first | assumption | exact gd_km_0 | exact gd_km_1 | exact (gd_km_a (by omega) (by omega)).trans (by assumption)) (by rfl) (by rfl) (by rfl) (by rfl) (Nat.le_of_ble_eq_true rfl) (by decide)) (by decide) (by decide) ?_
  rintro r1 h1 n1 ⟨rfl, rfl, rfl⟩
  refine pj_ald0 (q := 7) (pj_d p_X12_plainSize 3 rfl) rfl ?_
  refine pj_ild1 (q := 8) (pj_d p_X12_plainSize 4 rfl) rfl ?_
  refine pj_iconst (q := 9) (v := nI 1) (pj_d p_X12_plainSize 5 rfl) rfl (by decide) ?_
  refine pj_cp (pj_rV (q := 12) (c_X12_of gd_km_0 ((gd_km_a (by omega) (by omega)).trans hT) hi (w := 1) (by omega)) (pj_d p_X12_plainSize 6 rfl) rfl kX12_158 o_X12_of (by first | assumption | exact gd_km_0 | exact gd_km_1 | exact (gd_km_a (by omega) (by omega)).trans (by assumption)) (by rfl) (by rfl) (by rfl) (by rfl) (Nat.le_of_ble_eq_true rfl) (by decide)) (by decide) (by decide) ?_
  rw [show 11 + 3 * i + 1 = 12 + 3 * i by omega]
  refine pj_iret rfl (pj_d p_X12_plainSize 7 rfl) (by decide) (by decide) ?_
  exact ⟨rfl, rfl, rfl⟩
theorem c_X12_inkSize (hT : h (g + 4) = some (.inl (0, 56, .inl (fun j => nI (τ j))))) (hi : i < 7) (hK : K.2 ≤ 16) (hk : τ (11 + 3 * i) ≤ 5) : pj_Ct E B l Y_X12_inkSize 3 0 0 [.ref g, .int (nI i)] (gd_km h g v K) n (pj_is (some (.int (gd_isz (τ (11 + 3 * i)) (τ (12 + 3 * i)) K).1)) (gd_km h g v (gd_isz (τ (11 + 3 * i)) (τ (12 + 3 * i)) K).2) n) := by
  refine pj_in rfl (ls := [some (.ref g), some (.int (nI i)), none]) rfl (Nat.le_of_ble_eq_true rfl) ?_
  have rest : ∀ K1 : gd_KT, K1.2 ≤ 16 → (gd_isz (τ (11 + 3 * i)) (τ (12 + 3 * i)) K).2 = gd_bg (gd_bg K1 13) 10 → pj_V E B l Y_X12_inkSize 3 0 0 16 [some (.ref g), some (.int (nI i)), none] [] (gd_km h g v K1) n 0 0 (pj_is (some (.int (gd_isz (τ (11 + 3 * i)) (τ (12 + 3 * i)) K).1)) (gd_km h g v (gd_isz (τ (11 + 3 * i)) (τ (12 + 3 * i)) K).2) n) := by
    intro K1 h1 e1
    refine pj_ald0 (q := 17) (pj_d p_X12_inkSize 9 rfl) rfl ?_
    refine pj_bipush (q := 19) (v := nI 13) (pj_d p_X12_inkSize 10 rfl) rfl (by decide) ?_
    refine pj_cv (pj_rV (q := 22) (c_X12_began h1 13) (pj_d p_X12_inkSize 11 rfl) rfl kX12_245 o_X12_began (by first | assumption | exact gd_km_0 | exact gd_km_1 | exact (gd_km_a (by omega) (by omega)).trans (by assumption)) (by rfl) (by rfl) (by rfl) (by rfl) (Nat.le_of_ble_eq_true rfl) (by decide)) (by decide) (by decide) ?_
    rintro r1 h1' n1 ⟨rfl, rfl, rfl⟩
    refine pj_ald0 (q := 23) (pj_d p_X12_inkSize 12 rfl) rfl ?_
    refine pj_ild1 (q := 24) (pj_d p_X12_inkSize 13 rfl) rfl ?_
    refine pj_cv (pj_rV (q := 27) (c_X12_plainSize hT hi (gd_bg_le h1)) (pj_d p_X12_inkSize 14 rfl) rfl kX12_248 o_X12_plainSize (by first | assumption | exact gd_km_0 | exact gd_km_1 | exact (gd_km_a (by omega) (by omega)).trans (by assumption)) (by rfl) (by rfl) (by rfl) (by rfl) (Nat.le_of_ble_eq_true rfl) (by decide)) (by decide) (by decide) ?_
    rintro r1 h1' n1 ⟨rfl, rfl, rfl⟩
    refine pj_bipush (q := 29) (v := nI 100) (pj_d p_X12_inkSize 15 rfl) rfl (by decide) ?_
    refine pj_isub (q := 30) (pj_d p_X12_inkSize 16 rfl) rfl ?_
    refine pj_ist2 (q := 31) (pj_d p_X12_inkSize 17 rfl) rfl (by first | rfl | assumption) ?_
    refine pj_ald0 (q := 32) (pj_d p_X12_inkSize 18 rfl) rfl ?_
    refine pj_ild1 (q := 33) (pj_d p_X12_inkSize 19 rfl) rfl ?_
    refine pj_iconst (q := 34) (v := nI 0) (pj_d p_X12_inkSize 20 rfl) rfl (by decide) ?_
    refine pj_cp (pj_rV (q := 37) (c_X12_of gd_km_0 ((gd_km_a (by omega) (by omega)).trans hT) hi (w := 0) (by omega)) (pj_d p_X12_inkSize 21 rfl) rfl kX12_158 o_X12_of (by first | assumption | exact gd_km_0 | exact gd_km_1 | exact (gd_km_a (by omega) (by omega)).trans (by assumption)) (by rfl) (by rfl) (by rfl) (by rfl) (Nat.le_of_ble_eq_true rfl) (by decide)) (by decide) (by decide) ?_
    rw [Nat.add_zero]
    refine pj_iconst (q := 38) (v := nI 5) (pj_d p_X12_inkSize 22 rfl) rfl (by decide) ?_
    refine pj_icmp_ne (t := 47) (q := 41) (pj_d p_X12_inkSize 23 rfl) rfl (by decide) (fun c2 => ?_) (fun c2 => ?_)
    · have k5 : ¬ τ (11 + 3 * i) = 5 := fun q => c2 (by rw [q])
      refine pj_ild2 (q := 48) (pj_d p_X12_inkSize 28 rfl) rfl ?_
      refine pj_iret rfl (pj_d p_X12_inkSize 29 rfl) (by decide) (by decide) ?_
      exact ⟨by rw [gd_isz, if_neg k5], by rw [e1], rfl⟩
    · have k5 : τ (11 + 3 * i) = 5 := (nI_eq (by omega) (by omega)).mp c2
      refine pj_iconst (q := 42) (v := nI 2) (pj_d p_X12_inkSize 24 rfl) rfl (by decide) ?_
      refine pj_ild2 (q := 43) (pj_d p_X12_inkSize 25 rfl) rfl ?_
      refine pj_imul (q := 44) (pj_d p_X12_inkSize 26 rfl) rfl ?_
      refine pj_goto (t := 48) (pj_d p_X12_inkSize 27 rfl) (by decide) ?_
      refine pj_iret rfl (pj_d p_X12_inkSize 29 rfl) (by decide) (by decide) ?_
      exact ⟨by rw [gd_isz, if_pos k5], by rw [e1], rfl⟩
  refine pj_ald0 (q := 1) (pj_d p_X12_inkSize 0 rfl) rfl ?_
  refine pj_ild1 (q := 2) (pj_d p_X12_inkSize 1 rfl) rfl ?_
  refine pj_iconst (q := 3) (v := nI 0) (pj_d p_X12_inkSize 2 rfl) rfl (by decide) ?_
  refine pj_cp (pj_rV (q := 6) (c_X12_of gd_km_0 ((gd_km_a (by omega) (by omega)).trans hT) hi (w := 0) (by omega)) (pj_d p_X12_inkSize 3 rfl) rfl kX12_158 o_X12_of (by first | assumption | exact gd_km_0 | exact gd_km_1 | exact (gd_km_a (by omega) (by omega)).trans (by assumption)) (by rfl) (by rfl) (by rfl) (by rfl) (Nat.le_of_ble_eq_true rfl) (by decide)) (by decide) (by decide) ?_
  rw [Nat.add_zero]
  refine pj_iconst (q := 7) (v := nI 5) (pj_d p_X12_inkSize 4 rfl) rfl (by decide) ?_
  refine pj_icmp_ne (t := 16) (q := 10) (pj_d p_X12_inkSize 5 rfl) rfl (by decide) (fun c1 => ?_) (fun c1 => ?_)
  · have k5 : ¬ τ (11 + 3 * i) = 5 := fun q => c1 (by rw [q])
    exact rest K hK (by rw [gd_isz, if_neg k5])
  · have k5 : τ (11 + 3 * i) = 5 := (nI_eq (by omega) (by omega)).mp c1
    refine pj_ald0 (q := 11) (pj_d p_X12_inkSize 6 rfl) rfl ?_
    refine pj_bipush (q := 13) (v := nI 14) (pj_d p_X12_inkSize 7 rfl) rfl (by decide) ?_
    refine pj_cv (pj_rV (q := 16) (c_X12_began hK 14) (pj_d p_X12_inkSize 8 rfl) rfl kX12_245 o_X12_began (by first | assumption | exact gd_km_0 | exact gd_km_1 | exact (gd_km_a (by omega) (by omega)).trans (by assumption)) (by rfl) (by rfl) (by rfl) (by rfl) (Nat.le_of_ble_eq_true rfl) (by decide)) (by decide) (by decide) ?_
    rintro r1 h1 n1 ⟨rfl, rfl, rfl⟩
    exact rest (gd_bg K 14) (gd_bg_le hK) (by rw [gd_isz, if_pos k5])
theorem c_X12_markOf (hT : h (g + 4) = some (.inl (0, 56, .inl (fun j => nI (τ j))))) (hW : gd_W τ) (hi : i < τ 1) (hK : K.2 ≤ 16) : pj_Ct E B l Y_X12_markOf 4 0 0 [.ref g, .int (nI i)] (gd_km h g v K) n (pj_is (some (.int (gd_mrk (τ (11 + 3 * i)) i (gd_lk τ i (gd_miss τ 0)) (τ (12 + 3 * i)) K).1)) (gd_km h g v (gd_mrk (τ (11 + 3 * i)) i (gd_lk τ i (gd_miss τ 0)) (τ (12 + 3 * i)) K).2) n) := by
  obtain ⟨ki, mi, -⟩ := hW.2.2.2.2.1 i hi
  have h7 := hW.1
  have hi7 : i < 7 := by omega
  refine pj_in rfl (ls := [some (.ref g), some (.int (nI i)), none, none]) rfl (Nat.le_of_ble_eq_true rfl) ?_
  refine pj_ald0 (q := 1) (pj_d p_X12_markOf 0 rfl) rfl ?_
  refine pj_ild1 (q := 2) (pj_d p_X12_markOf 1 rfl) rfl ?_
  refine pj_iconst (q := 3) (v := nI 0) (pj_d p_X12_markOf 2 rfl) rfl (by decide) ?_
  refine pj_cp (pj_rV (q := 6) (c_X12_of gd_km_0 ((gd_km_a (by omega) (by omega)).trans hT) hi7 (w := 0) (by omega)) (pj_d p_X12_markOf 3 rfl) rfl kX12_158 o_X12_of (by first | assumption | exact gd_km_0 | exact gd_km_1 | exact (gd_km_a (by omega) (by omega)).trans (by assumption)) (by rfl) (by rfl) (by rfl) (by rfl) (Nat.le_of_ble_eq_true rfl) (by decide)) (by decide) (by decide) ?_
  rw [Nat.add_zero]
  refine pj_ist2 (q := 7) (pj_d p_X12_markOf 4 rfl) rfl (by first | rfl | assumption) ?_
  refine pj_ild2 (q := 8) (pj_d p_X12_markOf 5 rfl) rfl ?_
  refine pj_iconst (q := 9) (v := nI 4) (pj_d p_X12_markOf 6 rfl) rfl (by decide) ?_
  refine pj_icmp_lt (t := 32) (q := 12) (pj_d p_X12_markOf 7 rfl) rfl (by decide) (fun c1 => ?_) (fun c1 => ?_)
  rotate_left
  · have k4 : 4 ≤ τ (11 + 3 * i) := by
      have : ¬ τ (11 + 3 * i) < 4 := fun q => c1 (nI_lt q (by omega))
      omega
    refine pj_ald0 (q := 13) (pj_d p_X12_markOf 8 rfl) rfl ?_
    refine pj_bipush (q := 15) (v := nI 23) (pj_d p_X12_markOf 9 rfl) rfl (by decide) ?_
    refine pj_cv (pj_rV (q := 18) (c_X12_began hK 23) (pj_d p_X12_markOf 10 rfl) rfl kX12_245 o_X12_began (by first | assumption | exact gd_km_0 | exact gd_km_1 | exact (gd_km_a (by omega) (by omega)).trans (by assumption)) (by rfl) (by rfl) (by rfl) (by rfl) (Nat.le_of_ble_eq_true rfl) (by decide)) (by decide) (by decide) ?_
    rintro r1 h1 n1 ⟨rfl, rfl, rfl⟩
    refine pj_ald0 (q := 19) (pj_d p_X12_markOf 11 rfl) rfl ?_
    refine pj_bipush (q := 21) (v := nI 20) (pj_d p_X12_markOf 12 rfl) rfl (by decide) ?_
    refine pj_cv (pj_rV (q := 24) (c_X12_began (gd_bg_le hK) 20) (pj_d p_X12_markOf 13 rfl) rfl kX12_245 o_X12_began (by first | assumption | exact gd_km_0 | exact gd_km_1 | exact (gd_km_a (by omega) (by omega)).trans (by assumption)) (by rfl) (by rfl) (by rfl) (by rfl) (Nat.le_of_ble_eq_true rfl) (by decide)) (by decide) (by decide) ?_
    rintro r1 h1 n1 ⟨rfl, rfl, rfl⟩
    refine pj_ild1 (q := 25) (pj_d p_X12_markOf 14 rfl) rfl ?_
    refine pj_ald0 (q := 26) (pj_d p_X12_markOf 15 rfl) rfl ?_
    refine pj_ild1 (q := 27) (pj_d p_X12_markOf 16 rfl) rfl ?_
    refine pj_cv (pj_rV (q := 30) (c_X12_inkSize hT hi7 (gd_bg_le (gd_bg_le hK)) ki.2) (pj_d p_X12_markOf 17 rfl) rfl kX12_251 o_X12_inkSize (by first | assumption | exact gd_km_0 | exact gd_km_1 | exact (gd_km_a (by omega) (by omega)).trans (by assumption)) (by rfl) (by rfl) (by rfl) (by rfl) (Nat.le_of_ble_eq_true rfl) (by decide)) (by decide) (by decide) ?_
    rintro r1 h1 n1 ⟨rfl, rfl, rfl⟩
    refine pj_isub (q := 31) (pj_d p_X12_markOf 18 rfl) rfl ?_
    refine pj_iret rfl (pj_d p_X12_markOf 19 rfl) (by decide) (by decide) ?_
    exact ⟨by rw [gd_mrk, if_pos k4], by rw [gd_mrk, if_pos k4], rfl⟩
  have k4 : ¬ 4 ≤ τ (11 + 3 * i) := by
    have : τ (11 + 3 * i) < 4 := (nI_ltI (by omega) (by omega)).mp c1
    omega
  have rest : ∀ K1 : gd_KT, K1.2 ≤ 16 → (gd_mrk (τ (11 + 3 * i)) i (gd_lk τ i (gd_miss τ 0)) (τ (12 + 3 * i)) K).2 = gd_bg (gd_bg K1 21) 20 → pj_V E B l Y_X12_markOf 4 0 0 53 [some (.ref g), some (.int (nI i)), some (.int (nI (τ (11 + 3 * i)))), none] [] (gd_km h g v K1) n 0 0 (pj_is (some (.int (gd_mrk (τ (11 + 3 * i)) i (gd_lk τ i (gd_miss τ 0)) (τ (12 + 3 * i)) K).1)) (gd_km h g v (gd_mrk (τ (11 + 3 * i)) i (gd_lk τ i (gd_miss τ 0)) (τ (12 + 3 * i)) K).2) n) := by
    intro K1 h1 e1
    refine pj_ald0 (q := 54) (pj_d p_X12_markOf 31 rfl) rfl ?_
    refine pj_bipush (q := 56) (v := nI 21) (pj_d p_X12_markOf 32 rfl) rfl (by decide) ?_
    refine pj_cv (pj_rV (q := 59) (c_X12_began h1 21) (pj_d p_X12_markOf 33 rfl) rfl kX12_245 o_X12_began (by first | assumption | exact gd_km_0 | exact gd_km_1 | exact (gd_km_a (by omega) (by omega)).trans (by assumption)) (by rfl) (by rfl) (by rfl) (by rfl) (Nat.le_of_ble_eq_true rfl) (by decide)) (by decide) (by decide) ?_
    rintro r1 h1' n1 ⟨rfl, rfl, rfl⟩
    refine pj_ald0 (q := 60) (pj_d p_X12_markOf 34 rfl) rfl ?_
    refine pj_bipush (q := 62) (v := nI 20) (pj_d p_X12_markOf 35 rfl) rfl (by decide) ?_
    refine pj_cv (pj_rV (q := 65) (c_X12_began (gd_bg_le h1) 20) (pj_d p_X12_markOf 36 rfl) rfl kX12_245 o_X12_began (by first | assumption | exact gd_km_0 | exact gd_km_1 | exact (gd_km_a (by omega) (by omega)).trans (by assumption)) (by rfl) (by rfl) (by rfl) (by rfl) (Nat.le_of_ble_eq_true rfl) (by decide)) (by decide) (by decide) ?_
    rintro r1 h1' n1 ⟨rfl, rfl, rfl⟩
    refine pj_ild1 (q := 66) (pj_d p_X12_markOf 37 rfl) rfl ?_
    refine pj_ald0 (q := 67) (pj_d p_X12_markOf 38 rfl) rfl ?_
    refine pj_ild1 (q := 68) (pj_d p_X12_markOf 39 rfl) rfl ?_
    refine pj_ald0 (q := 69) (pj_d p_X12_markOf 40 rfl) rfl ?_
    refine pj_iconst (q := 70) (v := nI 0) (pj_d p_X12_markOf 41 rfl) rfl (by decide) ?_
    refine pj_cp (pj_rV (q := 73) (c_X12_missingOn gd_km_0 ((gd_km_a (by omega) (by omega)).trans hT) hW (d := 0) (by omega)) (pj_d p_X12_markOf 42 rfl) rfl kX12_170 o_X12_missingOn (by first | assumption | exact gd_km_0 | exact gd_km_1 | exact (gd_km_a (by omega) (by omega)).trans (by assumption)) (by rfl) (by rfl) (by rfl) (by rfl) (Nat.le_of_ble_eq_true rfl) (by decide)) (by decide) (by decide) ?_
    refine pj_cp (pj_rV (q := 76) (c_X12_lookOf gd_km_0 ((gd_km_a (by omega) (by omega)).trans hT) hW hi (gd_miss_lt hW 0)) (pj_d p_X12_markOf 43 rfl) rfl kX12_167 o_X12_lookOf (by first | assumption | exact gd_km_0 | exact gd_km_1 | exact (gd_km_a (by omega) (by omega)).trans (by assumption)) (by rfl) (by rfl) (by rfl) (by rfl) (Nat.le_of_ble_eq_true rfl) (by decide)) (by decide) (by decide) ?_
    refine pj_iadd (q := 77) (pj_d p_X12_markOf 44 rfl) rfl ?_
    refine pj_ist3 (q := 78) (pj_d p_X12_markOf 45 rfl) rfl (by first | rfl | assumption) ?_
    refine pj_ild2 (q := 79) (pj_d p_X12_markOf 46 rfl) rfl ?_
    refine pj_iconst (q := 80) (v := nI 1) (pj_d p_X12_markOf 47 rfl) rfl (by decide) ?_
    refine pj_icmp_ne (t := 87) (q := 83) (pj_d p_X12_markOf 48 rfl) rfl (by decide) (fun c2 => ?_) (fun c2 => ?_)
    · have k1 : ¬ τ (11 + 3 * i) = 1 := fun q => c2 (by rw [q])
      refine pj_ild2 (q := 88) (pj_d p_X12_markOf 51 rfl) rfl ?_
      refine pj_iconst (q := 89) (v := nI 3) (pj_d p_X12_markOf 52 rfl) rfl (by decide) ?_
      refine pj_icmp_ne (t := 100) (q := 92) (pj_d p_X12_markOf 53 rfl) rfl (by decide) (fun c3 => ?_) (fun c3 => ?_)
      · have k3 : ¬ τ (11 + 3 * i) = 3 := fun q => c3 (by rw [q])
        refine pj_iconst (q := 101) (v := nI 2) (pj_d p_X12_markOf 58 rfl) rfl (by decide) ?_
        refine pj_ild3 (q := 102) (pj_d p_X12_markOf 59 rfl) rfl ?_
        refine pj_imul (q := 103) (pj_d p_X12_markOf 60 rfl) rfl ?_
        refine pj_iret rfl (pj_d p_X12_markOf 61 rfl) (by decide) (by decide) ?_
        exact ⟨by rw [gd_mrk, if_neg k4, if_neg k1, if_neg k3], by rw [e1], rfl⟩
      · have k3 : τ (11 + 3 * i) = 3 := (nI_eq (by omega) (by omega)).mp c3
        refine pj_ild3 (q := 93) (pj_d p_X12_markOf 54 rfl) rfl ?_
        refine pj_sipush (q := 96) (v := nI 1000) (pj_d p_X12_markOf 55 rfl) rfl (by decide) ?_
        refine pj_isub (q := 97) (pj_d p_X12_markOf 56 rfl) rfl ?_
        refine pj_goto (t := 103) (pj_d p_X12_markOf 57 rfl) (by decide) ?_
        refine pj_iret rfl (pj_d p_X12_markOf 61 rfl) (by decide) (by decide) ?_
        exact ⟨by rw [gd_mrk, if_neg k4, if_neg k1, if_pos k3], by rw [e1], rfl⟩
    · have k1 : τ (11 + 3 * i) = 1 := (nI_eq (by omega) (by omega)).mp c2
      refine pj_ild3 (q := 84) (pj_d p_X12_markOf 49 rfl) rfl ?_
      refine pj_goto (t := 103) (pj_d p_X12_markOf 50 rfl) (by decide) ?_
      refine pj_iret rfl (pj_d p_X12_markOf 61 rfl) (by decide) (by decide) ?_
      exact ⟨by rw [gd_mrk, if_neg k4, if_pos k1], by rw [e1], rfl⟩
  refine pj_ild2 (q := 33) (pj_d p_X12_markOf 20 rfl) rfl ?_
  refine pj_iconst (q := 34) (v := nI 1) (pj_d p_X12_markOf 21 rfl) rfl (by decide) ?_
  refine pj_icmp_eq (t := 53) (q := 37) (pj_d p_X12_markOf 22 rfl) rfl (by decide) (fun c2 => ?_) (fun c2 => ?_)
  · have k1 : τ (11 + 3 * i) = 1 := (nI_eq (by omega) (by omega)).mp c2
    exact rest K hK (by rw [gd_mrk, if_neg k4, if_pos k1])
  have k1 : ¬ τ (11 + 3 * i) = 1 := fun q => c2 (by rw [q])
  refine pj_ald0 (q := 38) (pj_d p_X12_markOf 23 rfl) rfl ?_
  refine pj_ild2 (q := 39) (pj_d p_X12_markOf 24 rfl) rfl ?_
  refine pj_iconst (q := 40) (v := nI 3) (pj_d p_X12_markOf 25 rfl) rfl (by decide) ?_
  refine pj_icmp_ne (t := 48) (q := 43) (pj_d p_X12_markOf 26 rfl) rfl (by decide) (fun c3 => ?_) (fun c3 => ?_)
  · have k3 : ¬ τ (11 + 3 * i) = 3 := fun q => c3 (by rw [q])
    refine pj_bipush (q := 50) (v := nI 24) (pj_d p_X12_markOf 29 rfl) rfl (by decide) ?_
    refine pj_cv (pj_rV (q := 53) (c_X12_began hK 24) (pj_d p_X12_markOf 30 rfl) rfl kX12_245 o_X12_began (by first | assumption | exact gd_km_0 | exact gd_km_1 | exact (gd_km_a (by omega) (by omega)).trans (by assumption)) (by rfl) (by rfl) (by rfl) (by rfl) (Nat.le_of_ble_eq_true rfl) (by decide)) (by decide) (by decide) ?_
    rintro r1 h1 n1 ⟨rfl, rfl, rfl⟩
    exact rest (gd_bg K 24) (gd_bg_le hK) (by rw [gd_mrk, if_neg k4, if_neg k1, if_neg k3])
  · have k3 : τ (11 + 3 * i) = 3 := (nI_eq (by omega) (by omega)).mp c3
    refine pj_bipush (q := 45) (v := nI 22) (pj_d p_X12_markOf 27 rfl) rfl (by decide) ?_
    refine pj_goto (t := 50) (pj_d p_X12_markOf 28 rfl) (by decide) ?_
    refine pj_cv (pj_rV (q := 53) (c_X12_began hK 22) (pj_d p_X12_markOf 30 rfl) rfl kX12_245 o_X12_began (by first | assumption | exact gd_km_0 | exact gd_km_1 | exact (gd_km_a (by omega) (by omega)).trans (by assumption)) (by rfl) (by rfl) (by rfl) (by rfl) (Nat.le_of_ble_eq_true rfl) (by decide)) (by decide) (by decide) ?_
    rintro r1 h1 n1 ⟨rfl, rfl, rfl⟩
    exact rest (gd_bg K 22) (gd_bg_le hK) (by rw [gd_mrk, if_neg k4, if_neg k1, if_pos k3])
theorem c_X12_sizeOf (hT : h (g + 4) = some (.inl (0, 56, .inl (fun j => nI (τ j))))) (hW : gd_W τ) (hi : i < τ 1) (hK : K.2 ≤ 16) : pj_Ct E B l Y_X12_sizeOf 5 0 0 [.ref g, .int (nI i)] (gd_km h g v K) n (pj_is (some (.int (gd_siz (τ (11 + 3 * i)) i (gd_lk τ i (gd_miss τ 0)) (τ (12 + 3 * i)) K).1)) (gd_km h g v (gd_siz (τ (11 + 3 * i)) i (gd_lk τ i (gd_miss τ 0)) (τ (12 + 3 * i)) K).2) n) := by
  obtain ⟨ki, mi, -⟩ := hW.2.2.2.2.1 i hi
  have h7 := hW.1
  have hi7 : i < 7 := by omega
  refine pj_in rfl (ls := [some (.ref g), some (.int (nI i)), none, none]) rfl (Nat.le_of_ble_eq_true rfl) ?_
  refine pj_ald0 (q := 1) (pj_d p_X12_sizeOf 0 rfl) rfl ?_
  refine pj_ild1 (q := 2) (pj_d p_X12_sizeOf 1 rfl) rfl ?_
  refine pj_iconst (q := 3) (v := nI 0) (pj_d p_X12_sizeOf 2 rfl) rfl (by decide) ?_
  refine pj_cp (pj_rV (q := 6) (c_X12_of gd_km_0 ((gd_km_a (by omega) (by omega)).trans hT) hi7 (w := 0) (by omega)) (pj_d p_X12_sizeOf 3 rfl) rfl kX12_158 o_X12_of (by first | assumption | exact gd_km_0 | exact gd_km_1 | exact (gd_km_a (by omega) (by omega)).trans (by assumption)) (by rfl) (by rfl) (by rfl) (by rfl) (Nat.le_of_ble_eq_true rfl) (by decide)) (by decide) (by decide) ?_
  rw [Nat.add_zero]
  refine pj_ist2 (q := 7) (pj_d p_X12_sizeOf 4 rfl) rfl (by first | rfl | assumption) ?_
  refine pj_ild2 (q := 8) (pj_d p_X12_sizeOf 5 rfl) rfl ?_
  refine pj_iconst (q := 9) (v := nI 4) (pj_d p_X12_sizeOf 6 rfl) rfl (by decide) ?_
  refine pj_icmp_lt (t := 18) (q := 12) (pj_d p_X12_sizeOf 7 rfl) rfl (by decide) (fun c1 => ?_) (fun c1 => ?_)
  rotate_left
  · have k4 : 4 ≤ τ (11 + 3 * i) := by
      have : ¬ τ (11 + 3 * i) < 4 := fun q => c1 (nI_lt q (by omega))
      omega
    refine pj_ald0 (q := 13) (pj_d p_X12_sizeOf 8 rfl) rfl ?_
    refine pj_ild1 (q := 14) (pj_d p_X12_sizeOf 9 rfl) rfl ?_
    refine pj_cv (pj_rV (q := 17) (c_X12_inkSize hT hi7 hK ki.2) (pj_d p_X12_sizeOf 10 rfl) rfl kX12_251 o_X12_inkSize (by first | assumption | exact gd_km_0 | exact gd_km_1 | exact (gd_km_a (by omega) (by omega)).trans (by assumption)) (by rfl) (by rfl) (by rfl) (by rfl) (Nat.le_of_ble_eq_true rfl) (by decide)) (by decide) (by decide) ?_
    rintro r1 h1 n1 ⟨rfl, rfl, rfl⟩
    refine pj_iret rfl (pj_d p_X12_sizeOf 11 rfl) (by decide) (by decide) ?_
    exact ⟨by rw [gd_siz, if_pos k4], by rw [gd_siz, if_pos k4], rfl⟩
  have k4 : ¬ 4 ≤ τ (11 + 3 * i) := by
    have : τ (11 + 3 * i) < 4 := (nI_ltI (by omega) (by omega)).mp c1
    omega
  have rest : ∀ K1 : gd_KT, K1.2 ≤ 16 → (K1 = if τ (11 + 3 * i) = 2 then gd_bg K 12 else K) → pj_V E B l Y_X12_sizeOf 5 0 0 29 [some (.ref g), some (.int (nI i)), some (.int (nI (τ (11 + 3 * i)))), none] [] (gd_km h g v K1) n 0 0 (pj_is (some (.int (gd_siz (τ (11 + 3 * i)) i (gd_lk τ i (gd_miss τ 0)) (τ (12 + 3 * i)) K).1)) (gd_km h g v (gd_siz (τ (11 + 3 * i)) i (gd_lk τ i (gd_miss τ 0)) (τ (12 + 3 * i)) K).2) n) := by
    intro K1 h1 e1
    refine pj_ald0 (q := 30) (pj_d p_X12_sizeOf 18 rfl) rfl ?_
    refine pj_bipush (q := 32) (v := nI 11) (pj_d p_X12_sizeOf 19 rfl) rfl (by decide) ?_
    refine pj_cv (pj_rV (q := 35) (c_X12_began h1 11) (pj_d p_X12_sizeOf 20 rfl) rfl kX12_245 o_X12_began (by first | assumption | exact gd_km_0 | exact gd_km_1 | exact (gd_km_a (by omega) (by omega)).trans (by assumption)) (by rfl) (by rfl) (by rfl) (by rfl) (Nat.le_of_ble_eq_true rfl) (by decide)) (by decide) (by decide) ?_
    rintro r1 h1' n1 ⟨rfl, rfl, rfl⟩
    refine pj_ald0 (q := 36) (pj_d p_X12_sizeOf 21 rfl) rfl ?_
    refine pj_ild1 (q := 37) (pj_d p_X12_sizeOf 22 rfl) rfl ?_
    refine pj_cv (pj_rV (q := 40) (c_X12_plainSize hT hi7 (gd_bg_le h1)) (pj_d p_X12_sizeOf 23 rfl) rfl kX12_248 o_X12_plainSize (by first | assumption | exact gd_km_0 | exact gd_km_1 | exact (gd_km_a (by omega) (by omega)).trans (by assumption)) (by rfl) (by rfl) (by rfl) (by rfl) (Nat.le_of_ble_eq_true rfl) (by decide)) (by decide) (by decide) ?_
    rintro r1 h1' n1 ⟨rfl, rfl, rfl⟩
    refine pj_ist3 (q := 41) (pj_d p_X12_sizeOf 24 rfl) rfl (by first | rfl | assumption) ?_
    refine pj_ild3 (q := 42) (pj_d p_X12_sizeOf 25 rfl) rfl ?_
    refine pj_ald0 (q := 43) (pj_d p_X12_sizeOf 26 rfl) rfl ?_
    refine pj_ild1 (q := 44) (pj_d p_X12_sizeOf 27 rfl) rfl ?_
    refine pj_cv (pj_rV (q := 47) (c_X12_markOf hT hW hi (gd_bg_le (gd_bg_le h1))) (pj_d p_X12_sizeOf 28 rfl) rfl kX12_254 o_X12_markOf (by first | assumption | exact gd_km_0 | exact gd_km_1 | exact (gd_km_a (by omega) (by omega)).trans (by assumption)) (by rfl) (by rfl) (by rfl) (by rfl) (Nat.le_of_ble_eq_true rfl) (by decide)) (by decide) (by decide) ?_
    rintro r1 h1' n1 ⟨rfl, rfl, rfl⟩
    refine pj_iadd (q := 48) (pj_d p_X12_sizeOf 29 rfl) rfl ?_
    refine pj_ist3 (q := 49) (pj_d p_X12_sizeOf 30 rfl) rfl (by first | rfl | assumption) ?_
    refine pj_ild2 (q := 50) (pj_d p_X12_sizeOf 31 rfl) rfl ?_
    refine pj_iconst (q := 51) (v := nI 2) (pj_d p_X12_sizeOf 32 rfl) rfl (by decide) ?_
    refine pj_icmp_ne (t := 59) (q := 54) (pj_d p_X12_sizeOf 33 rfl) rfl (by decide) (fun c2 => ?_) (fun c2 => ?_)
    · have k2 : ¬ τ (11 + 3 * i) = 2 := fun q => c2 (by rw [q])
      rw [if_neg k2] at e1
      refine pj_ild3 (q := 60) (pj_d p_X12_sizeOf 37 rfl) rfl ?_
      refine pj_iret rfl (pj_d p_X12_sizeOf 38 rfl) (by decide) (by decide) ?_
      exact ⟨by rw [gd_siz, if_neg k4, if_neg k2, e1], by rw [gd_siz, if_neg k4, if_neg k2, e1], rfl⟩
    · have k2 : τ (11 + 3 * i) = 2 := (nI_eq (by omega) (by omega)).mp c2
      rw [if_pos k2] at e1
      refine pj_ild3 (q := 55) (pj_d p_X12_sizeOf 34 rfl) rfl ?_
      refine pj_ineg (q := 56) (pj_d p_X12_sizeOf 35 rfl) rfl ?_
      refine pj_goto (t := 60) (pj_d p_X12_sizeOf 36 rfl) (by decide) ?_
      refine pj_iret rfl (pj_d p_X12_sizeOf 38 rfl) (by decide) (by decide) ?_
      exact ⟨by rw [gd_siz, if_neg k4, if_pos k2, e1], by rw [gd_siz, if_neg k4, if_pos k2, e1], rfl⟩
  refine pj_ild2 (q := 19) (pj_d p_X12_sizeOf 12 rfl) rfl ?_
  refine pj_iconst (q := 20) (v := nI 2) (pj_d p_X12_sizeOf 13 rfl) rfl (by decide) ?_
  refine pj_icmp_ne (t := 29) (q := 23) (pj_d p_X12_sizeOf 14 rfl) rfl (by decide) (fun c2 => ?_) (fun c2 => ?_)
  · have k2 : ¬ τ (11 + 3 * i) = 2 := fun q => c2 (by rw [q])
    exact rest K hK (by rw [if_neg k2])
  · have k2 : τ (11 + 3 * i) = 2 := (nI_eq (by omega) (by omega)).mp c2
    refine pj_ald0 (q := 24) (pj_d p_X12_sizeOf 15 rfl) rfl ?_
    refine pj_bipush (q := 26) (v := nI 12) (pj_d p_X12_sizeOf 16 rfl) rfl (by decide) ?_
    refine pj_cv (pj_rV (q := 29) (c_X12_began hK 12) (pj_d p_X12_sizeOf 17 rfl) rfl kX12_245 o_X12_began (by first | assumption | exact gd_km_0 | exact gd_km_1 | exact (gd_km_a (by omega) (by omega)).trans (by assumption)) (by rfl) (by rfl) (by rfl) (by rfl) (Nat.le_of_ble_eq_true rfl) (by decide)) (by decide) (by decide) ?_
    rintro r1 h1 n1 ⟨rfl, rfl, rfl⟩
    exact rest (gd_bg K 12) (gd_bg_le hK) (by rw [if_pos k2])
theorem c_X12_ask (hR : gd_MR h g v τ) (h23 : v 23 = nI K.2) (hK : h (g + 12) = some (.inl (0, 16, .inl K.1))) (x w : Int32) : pj_Ct E B l Y_X12_ask 6 0 0 [.ref g, .int x, .int w] h n (fun r h' n' => r = some (.int (sp_ask x w τ K).1) ∧ n' = n ∧ h' = gd_km h g v (sp_ask x w τ K).2) := by
  obtain ⟨hM, hT, hv, hW, h1⟩ := hR
  have h7 := hW.1
  refine pj_in rfl (ls := [some (.ref g), some (.int (x)), some (.int (w))]) rfl (Nat.le_of_ble_eq_true rfl) ?_
  refine gd_thr (pj_d p_X12_ask 0 rfl) (pj_d p_X12_ask 1 rfl) (pj_d p_X12_ask 2 rfl) rfl hM hv ?_
  have bad : (gd_has τ x && gd_rng w 0 1) = false → pj_V E B l Y_X12_ask 6 0 0 23 [some (.ref g), some (.int (x)), some (.int (w))] [] h n 0 0 (fun r h' n' => r = some (.int (sp_ask x w τ K).1) ∧ n' = n ∧ h' = gd_km h g v (sp_ask x w τ K).2) := by
    intro hd
    refine pj_ldc (q := 25) (pj_d p_X12_ask 13 rfl) rfl kX12_67 ?_
    refine pj_iret rfl (pj_d p_X12_ask 14 rfl) (by decide) (by decide) ?_
    rw [sp_ask, hd]
    exact ⟨rfl, rfl, (gd_km_id hM h23 hK).symm⟩
  refine pj_ald0 (q := 6) (pj_d p_X12_ask 3 rfl) rfl ?_
  refine pj_ild1 (q := 7) (pj_d p_X12_ask 4 rfl) rfl ?_
  refine pj_cp (pj_rV (q := 10) (c_X12_isThing hM hT h7 x) (pj_d p_X12_ask 5 rfl) rfl kX12_153 o_X12_isThing (by first | assumption | exact gd_km_0 | exact gd_km_1 | exact (gd_km_a (by omega) (by omega)).trans (by assumption)) (by rfl) (by rfl) (by rfl) (by rfl) (Nat.le_of_ble_eq_true rfl) (by decide)) (by decide) (by decide) ?_
  refine pj_if_eq (t := 23) (q := 13) (pj_d p_X12_ask 6 rfl) rfl (by decide) (fun c1 => ?_) (fun c1 => ?_)
  · exact bad (by rw [(gd_b_z _).mp c1]; rfl)
  refine pj_ild2 (q := 14) (pj_d p_X12_ask 7 rfl) rfl ?_
  refine pj_i2l (q := 15) (pj_d p_X12_ask 8 rfl) rfl ?_
  refine pj_lconst (q := 16) (v := lN 0) (pj_d p_X12_ask 9 rfl) rfl (by decide) ?_
  refine pj_lconst (q := 17) (v := lN 1) (pj_d p_X12_ask 10 rfl) rfl (by decide) ?_
  refine pj_cp (pj_rS (q := 20) (c_X12_in w (lN 0) (lN 1) 0 1 (by decide) (by decide)) (pj_d p_X12_ask 11 rfl) rfl kX12_57 o_X12_in (by rfl) (by rfl) (Nat.le_of_ble_eq_true rfl) (by decide)) (by decide) (by decide) ?_
  refine pj_if_ne (t := 26) (q := 23) (pj_d p_X12_ask 12 rfl) rfl (by decide) (fun c2 => ?_) (fun c2 => ?_)
  rotate_left
  · exact bad (by rw [(gd_b_z _).mp c2]; simp)
  have e1 := (gd_b_n _).mp c1
  have e2 := (gd_b_n _).mp c2
  obtain ⟨i, hi, rfl, hc⟩ := gd_has_of h7 e1
  obtain ⟨j, hj, rfl, hd⟩ := gd_rng_of (hi := 1) e2
  refine pj_ald0 (q := 27) (pj_d p_X12_ask 15 rfl) rfl ?_
  refine pj_iconst (q := 28) (v := nI 0) (pj_d p_X12_ask 16 rfl) rfl (by decide) ?_
  refine pj_pf (q := 31) (k := 23) (fs' := gd_Mo g (upd v 23 (nI 0))) (pj_d p_X12_ask 17 rfl) rfl kX12_242 (by first | assumption | exact gd_km_0 | exact gd_km_1 | exact (gd_km_a (by omega) (by omega)).trans (by assumption)) (by rfl) (Or.inl rfl) (by rfl) (by rfl) (by rfl) (by show 23 < 24; decide) (by rfl) ?_
  rw [show pj_up h g (.inr (11, gd_Mo g (upd v 23 (nI 0)))) = gd_km h g v (K.1, 0) by rw [gd_km, pj_up_id hK]]
  refine pj_ild2 (q := 32) (pj_d p_X12_ask 18 rfl) rfl ?_
  refine pj_if_ne (t := 43) (q := 35) (pj_d p_X12_ask 19 rfl) rfl (by decide) (fun c3 => ?_) (fun c3 => ?_)
  · have hj1 : j = 1 := by
      have : j ≠ 0 := fun q => c3 (by rw [q]; rfl)
      omega
    subst hj1
    refine pj_ald0 (q := 44) (pj_d p_X12_ask 24 rfl) rfl ?_
    refine pj_ild1 (q := 45) (pj_d p_X12_ask 25 rfl) rfl ?_
    refine pj_cv (pj_rV (q := 48) (c_X12_markOf hT hW hi (Nat.zero_le _)) (pj_d p_X12_ask 26 rfl) rfl kX12_254 o_X12_markOf (by first | assumption | exact gd_km_0 | exact gd_km_1 | exact (gd_km_a (by omega) (by omega)).trans (by assumption)) (by rfl) (by rfl) (by rfl) (by rfl) (Nat.le_of_ble_eq_true rfl) (by decide)) (by decide) (by decide) ?_
    rintro r1 h1 n1 ⟨rfl, rfl, rfl⟩
    refine pj_iret rfl (pj_d p_X12_ask 27 rfl) (by decide) (by decide) ?_
    rw [show sp_ask (nI i) (nI 1) τ K = gd_mrk (τ (11 + 3 * i)) i (gd_lk τ i (gd_miss τ 0)) (τ (12 + 3 * i)) (K.1, 0) by rw [sp_ask, e1, e2, hc]; rfl]
    exact ⟨rfl, rfl, rfl⟩
  · have hj0 : j = 0 := (nI_eq (by omega) (by omega)).mp (c3.trans nI_0.symm)
    subst hj0
    refine pj_ald0 (q := 36) (pj_d p_X12_ask 20 rfl) rfl ?_
    refine pj_ild1 (q := 37) (pj_d p_X12_ask 21 rfl) rfl ?_
    refine pj_cv (pj_rV (q := 40) (c_X12_sizeOf hT hW hi (Nat.zero_le _)) (pj_d p_X12_ask 22 rfl) rfl kX12_257 o_X12_sizeOf (by first | assumption | exact gd_km_0 | exact gd_km_1 | exact (gd_km_a (by omega) (by omega)).trans (by assumption)) (by rfl) (by rfl) (by rfl) (by rfl) (Nat.le_of_ble_eq_true rfl) (by decide)) (by decide) (by decide) ?_
    rintro r1 h1 n1 ⟨rfl, rfl, rfl⟩
    refine pj_goto (t := 48) (pj_d p_X12_ask 23 rfl) (by decide) ?_
    refine pj_iret rfl (pj_d p_X12_ask 27 rfl) (by decide) (by decide) ?_
    rw [show sp_ask (nI i) (nI 0) τ K = gd_siz (τ (11 + 3 * i)) i (gd_lk τ i (gd_miss τ 0)) (τ (12 + 3 * i)) (K.1, 0) by rw [sp_ask, e1, e2, hc]; rfl]
    exact ⟨rfl, rfl, rfl⟩
theorem gd_cm16 {c : Nat} (hc : c ≤ 1000) : (nI c - nI 1).toInt64.toInt = (c : Int) - 1 := by
  cases c with
  | zero => decide
  | succ c => rw [gd_sub (by omega), Int32.toInt_toInt64, nI_toInt (by omega)]; omega
theorem c_X12_trace (hM : h g = some (.inr (11, gd_Mo g v))) (hv : v 0 = nI 0) (h23 : v 23 = nI K.2) (hK : h (g + 12) = some (.inl (0, 16, .inl K.1))) (hle : K.2 ≤ 16) (x : Int32) : pj_Ct E B l Y_X12_trace 2 0 0 [.ref g, .int x] h n (pj_is (some (.int (sp_trace x K))) h n) := by
  refine pj_in rfl (ls := [some (.ref g), some (.int (x))]) rfl (Nat.le_of_ble_eq_true rfl) ?_
  refine gd_thr (pj_d p_X12_trace 0 rfl) (pj_d p_X12_trace 1 rfl) (pj_d p_X12_trace 2 rfl) rfl hM hv ?_
  refine pj_ild1 (q := 6) (pj_d p_X12_trace 3 rfl) rfl ?_
  refine pj_i2l (q := 7) (pj_d p_X12_trace 4 rfl) rfl ?_
  refine pj_lconst (q := 8) (v := lN 0) (pj_d p_X12_trace 5 rfl) rfl (by decide) ?_
  refine pj_ald0 (q := 9) (pj_d p_X12_trace 6 rfl) rfl ?_
  refine pj_gf (q := 12) (k := 23) (pj_d p_X12_trace 7 rfl) rfl kX12_242 (by first | assumption | exact gd_km_0 | exact gd_km_1 | exact (gd_km_a (by omega) (by omega)).trans (by assumption)) (by rfl) (by rfl) ?_
  rw [h23]
  refine pj_iconst (q := 13) (v := nI 1) (pj_d p_X12_trace 8 rfl) rfl (by decide) ?_
  refine pj_isub (q := 14) (pj_d p_X12_trace 9 rfl) rfl ?_
  refine pj_i2l (q := 15) (pj_d p_X12_trace 10 rfl) rfl ?_
  refine pj_cp (pj_rS (q := 18) (c_X12_in x (lN 0) _ 0 ((K.2 : Int) - 1) (by decide) (gd_cm16 (by omega))) (pj_d p_X12_trace 11 rfl) rfl kX12_57 o_X12_in (by rfl) (by rfl) (Nat.le_of_ble_eq_true rfl) (by decide)) (by decide) (by decide) ?_
  refine pj_if_eq (t := 30) (q := 21) (pj_d p_X12_trace 12 rfl) rfl (by decide) (fun c1 => ?_) (fun c1 => ?_)
  · refine pj_ldc (q := 32) (pj_d p_X12_trace 18 rfl) rfl kX12_90 ?_
    refine pj_iret rfl (pj_d p_X12_trace 19 rfl) (by decide) (by decide) ?_
    rw [sp_trace, (gd_b_z _).mp c1]
    exact ⟨rfl, rfl, rfl⟩
  have e1 := (gd_b_n _).mp c1
  obtain ⟨j, hj, rfl, hc⟩ : ∃ j, j < K.2 ∧ x = nI j ∧ x.toNatClampNeg = j := by
    rw [gd_rng] at e1
    have e1 := of_decide_eq_true e1
    refine ⟨x.toInt.toNat, by omega, ?_, rfl⟩
    apply Int32.toInt.inj
    rw [nI_toInt (by omega)]
    omega
  refine pj_ald0 (q := 22) (pj_d p_X12_trace 13 rfl) rfl ?_
  refine pj_gf (q := 25) (k := 22) (pj_d p_X12_trace 14 rfl) rfl kX12_44 (by first | assumption | exact gd_km_0 | exact gd_km_1 | exact (gd_km_a (by omega) (by omega)).trans (by assumption)) (by rfl) (by rfl) ?_
  refine pj_ild1 (q := 26) (pj_d p_X12_trace 15 rfl) rfl ?_
  refine pj_ialdN (q := 27) (pj_d p_X12_trace 16 rfl) rfl (by first | assumption | exact gd_km_0 | exact gd_km_1 | exact (gd_km_a (by omega) (by omega)).trans (by assumption)) (by rfl) (by first | assumption | omega) (Nat.le_of_ble_eq_true rfl) ?_
  refine pj_goto (t := 32) (pj_d p_X12_trace 17 rfl) (by decide) ?_
  refine pj_iret rfl (pj_d p_X12_trace 19 rfl) (by decide) (by decide) ?_
  rw [sp_trace, e1, hc]
  exact ⟨rfl, rfl, rfl⟩
theorem c_X12_status (hM : h g = some (.inr (11, gd_Mo g v))) (hv : v 0 = nI 0) : pj_Ct E B l Y_X12_status 1 0 0 [.ref g] h n (pj_is (some (.int (v 1))) h n) := by
  refine pj_in rfl (ls := [some (.ref g)]) rfl (Nat.le_of_ble_eq_true rfl) ?_
  refine gd_thr (pj_d p_X12_status 0 rfl) (pj_d p_X12_status 1 rfl) (pj_d p_X12_status 2 rfl) rfl hM hv ?_
  refine pj_ald0 (q := 6) (pj_d p_X12_status 3 rfl) rfl ?_
  refine pj_gf (q := 9) (k := 1) (pj_d p_X12_status 4 rfl) rfl kX12_51 (by first | assumption | exact gd_km_0 | exact gd_km_1 | exact (gd_km_a (by omega) (by omega)).trans (by assumption)) (by rfl) (by rfl) ?_
  refine pj_iret rfl (pj_d p_X12_status 5 rfl) (by decide) (by decide) ?_
  exact ⟨rfl, rfl, rfl⟩
theorem c_X12_fault (hM : h g = some (.inr (11, gd_Mo g v))) (hv : v 0 = nI 0) : pj_Ct E B l Y_X12_fault 1 0 0 [.ref g] h n (pj_is (some (.int (v 17))) h n) := by
  refine pj_in rfl (ls := [some (.ref g)]) rfl (Nat.le_of_ble_eq_true rfl) ?_
  refine gd_thr (pj_d p_X12_fault 0 rfl) (pj_d p_X12_fault 1 rfl) (pj_d p_X12_fault 2 rfl) rfl hM hv ?_
  refine pj_ald0 (q := 6) (pj_d p_X12_fault 3 rfl) rfl ?_
  refine pj_gf (q := 9) (k := 17) (pj_d p_X12_fault 4 rfl) rfl kX12_116 (by first | assumption | exact gd_km_0 | exact gd_km_1 | exact (gd_km_a (by omega) (by omega)).trans (by assumption)) (by rfl) (by rfl) ?_
  refine pj_iret rfl (pj_d p_X12_fault 5 rfl) (by decide) (by decide) ?_
  exact ⟨rfl, rfl, rfl⟩
theorem c_X12_isOf {a w : Nat} (ha : a ≤ 5) (hw : w ≤ 5) : pj_Ct E B l Y_X12_isOf 1 0 0 [.int (nI a), .int (nI w)] h n (pj_is (some (.int (gd_b (gd_iso a w)))) h n) := by
  refine pj_in rfl (ls := [some (.int (nI a)), some (.int (nI w))]) rfl (Nat.le_of_ble_eq_true rfl) ?_
  have yes : gd_iso a w = true → pj_V E B l Y_X12_isOf 1 0 0 29 [some (.int (nI a)), some (.int (nI w))] [] h n 0 0 (pj_is (some (.int (gd_b (gd_iso a w)))) h n) := by
    intro e
    rw [e]
    refine pj_iconst (q := 30) (v := nI 1) (pj_d p_X12_isOf 17 rfl) rfl (by decide) ?_
    refine pj_goto (t := 34) (pj_d p_X12_isOf 18 rfl) (by decide) ?_
    refine pj_zret rfl (by first | rfl | decide | (split <;> rfl)) (pj_d p_X12_isOf 20 rfl) (by decide) (by decide) ?_
    exact ⟨rfl, rfl, rfl⟩
  have no : gd_iso a w = false → pj_V E B l Y_X12_isOf 1 0 0 33 [some (.int (nI a)), some (.int (nI w))] [] h n 0 0 (pj_is (some (.int (gd_b (gd_iso a w)))) h n) := by
    intro e
    rw [e]
    refine pj_iconst (q := 34) (v := nI 0) (pj_d p_X12_isOf 19 rfl) rfl (by decide) ?_
    refine pj_zret rfl (by first | rfl | decide | (split <;> rfl)) (pj_d p_X12_isOf 20 rfl) (by decide) (by decide) ?_
    exact ⟨rfl, rfl, rfl⟩
  have eq : ∀ x y, x ≤ 5 → y ≤ 5 → (nI x = nI y ↔ x = y) := fun x y h1 h2 => nI_eq (by omega) (by omega)
  refine pj_ild1 (q := 1) (pj_d p_X12_isOf 0 rfl) rfl ?_
  refine pj_if_eq (t := 29) (q := 4) (pj_d p_X12_isOf 1 rfl) rfl (by decide) (fun c1 => ?_) (fun c1 => ?_)
  · have : w = 0 := (eq w 0 hw (by omega)).mp c1
    exact yes (decide_eq_true (Or.inl this))
  have w0 : ¬ w = 0 := fun q => c1 (by rw [q]; rfl)
  refine pj_ild0 (q := 5) (pj_d p_X12_isOf 2 rfl) rfl ?_
  refine pj_ild1 (q := 6) (pj_d p_X12_isOf 3 rfl) rfl ?_
  refine pj_icmp_eq (t := 29) (q := 9) (pj_d p_X12_isOf 4 rfl) rfl (by decide) (fun c2 => ?_) (fun c2 => ?_)
  · exact yes (decide_eq_true (Or.inr (Or.inl ((eq a w ha hw).mp c2))))
  have aw : ¬ a = w := fun q => c2 (by rw [q])
  have last : ¬ (w = 1 ∧ a < 4) → pj_V E B l Y_X12_isOf 1 0 0 19 [some (.int (nI a)), some (.int (nI w))] [] h n 0 0 (pj_is (some (.int (gd_b (gd_iso a w)))) h n) := by
    intro h14
    refine pj_ild1 (q := 20) (pj_d p_X12_isOf 11 rfl) rfl ?_
    refine pj_iconst (q := 21) (v := nI 4) (pj_d p_X12_isOf 12 rfl) rfl (by decide) ?_
    refine pj_icmp_ne (t := 33) (q := 24) (pj_d p_X12_isOf 13 rfl) rfl (by decide) (fun c3 => ?_) (fun c3 => ?_)
    · have : ¬ w = 4 := fun q => c3 (by rw [q])
      exact no (decide_eq_false (by omega))
    have w4 := (eq w 4 hw (by omega)).mp c3
    refine pj_ild0 (q := 25) (pj_d p_X12_isOf 14 rfl) rfl ?_
    refine pj_iconst (q := 26) (v := nI 5) (pj_d p_X12_isOf 15 rfl) rfl (by decide) ?_
    refine pj_icmp_ne (t := 33) (q := 29) (pj_d p_X12_isOf 16 rfl) rfl (by decide) (fun c4 => ?_) (fun c4 => ?_)
    · have : ¬ a = 5 := fun q => c4 (by rw [q])
      exact no (decide_eq_false (by omega))
    exact yes (decide_eq_true (Or.inr (Or.inr (Or.inr ⟨w4, (eq a 5 ha (by omega)).mp c4⟩))))
  refine pj_ild1 (q := 10) (pj_d p_X12_isOf 5 rfl) rfl ?_
  refine pj_iconst (q := 11) (v := nI 1) (pj_d p_X12_isOf 6 rfl) rfl (by decide) ?_
  refine pj_icmp_ne (t := 19) (q := 14) (pj_d p_X12_isOf 7 rfl) rfl (by decide) (fun c3 => ?_) (fun c3 => ?_)
  · have : ¬ w = 1 := fun q => c3 (by rw [q])
    exact last (fun q => this q.1)
  have w1 := (eq w 1 hw (by omega)).mp c3
  refine pj_ild0 (q := 15) (pj_d p_X12_isOf 8 rfl) rfl ?_
  refine pj_iconst (q := 16) (v := nI 4) (pj_d p_X12_isOf 9 rfl) rfl (by decide) ?_
  refine pj_icmp_lt (t := 29) (q := 19) (pj_d p_X12_isOf 10 rfl) rfl (by decide) (fun c4 => ?_) (fun c4 => ?_)
  · exact yes (decide_eq_true (Or.inr (Or.inr (Or.inl ⟨w1, (nI_ltI (by omega) (by omega)).mp c4⟩))))
  exact last (fun q => c4 (nI_lt q.2 (by omega)))
theorem c_X12_as (hR : gd_MR h g v τ) (hs : v 1 = st) (x w : Int32) : pj_Ct E B l Y_X12_as 3 0 0 [.ref g, .int x, .int w] h n (fun r h' n' => r = some (.int (sp_as x w τ st).1) ∧ n' = n ∧ h' = pj_up h g (.inr (11, gd_Mo g (upd v 1 (sp_as x w τ st).2)))) := by
  obtain ⟨hM, hT, hv, hW, h1⟩ := hR
  have h7 := hW.1
  refine pj_in rfl (ls := [some (.ref g), some (.int (x)), some (.int (w))]) rfl (Nat.le_of_ble_eq_true rfl) ?_
  refine gd_thr (pj_d p_X12_as 0 rfl) (pj_d p_X12_as 1 rfl) (pj_d p_X12_as 2 rfl) rfl hM hv ?_
  have bad : (gd_has τ x && gd_rng w 0 5) = false → pj_V E B l Y_X12_as 3 0 0 25 [some (.ref g), some (.int (x)), some (.int (w))] [] h n 0 0 (fun r h' n' => r = some (.int (sp_as x w τ st).1) ∧ n' = n ∧ h' = pj_up h g (.inr (11, gd_Mo g (upd v 1 (sp_as x w τ st).2)))) := by
    intro hd
    refine pj_ldc (q := 27) (pj_d p_X12_as 13 rfl) rfl kX12_67 ?_
    refine pj_iret rfl (pj_d p_X12_as 14 rfl) (by decide) (by decide) ?_
    rw [sp_as, hd]
    exact ⟨rfl, rfl, by show h = pj_up h g (.inr (11, gd_Mo g (upd v 1 st))); rw [gd_upd_id hs, pj_up_id hM]⟩
  refine pj_ald0 (q := 6) (pj_d p_X12_as 3 rfl) rfl ?_
  refine pj_ild1 (q := 7) (pj_d p_X12_as 4 rfl) rfl ?_
  refine pj_cp (pj_rV (q := 10) (c_X12_isThing hM hT h7 x) (pj_d p_X12_as 5 rfl) rfl kX12_153 o_X12_isThing (by first | assumption | exact gd_km_0 | exact gd_km_1 | exact (gd_km_a (by omega) (by omega)).trans (by assumption)) (by rfl) (by rfl) (by rfl) (by rfl) (Nat.le_of_ble_eq_true rfl) (by decide)) (by decide) (by decide) ?_
  refine pj_if_eq (t := 25) (q := 13) (pj_d p_X12_as 6 rfl) rfl (by decide) (fun c1 => ?_) (fun c1 => ?_)
  · exact bad (by rw [(gd_b_z _).mp c1]; rfl)
  refine pj_ild2 (q := 14) (pj_d p_X12_as 7 rfl) rfl ?_
  refine pj_i2l (q := 15) (pj_d p_X12_as 8 rfl) rfl ?_
  refine pj_lconst (q := 16) (v := lN 0) (pj_d p_X12_as 9 rfl) rfl (by decide) ?_
  refine pj_ldc2 (q := 19) (pj_d p_X12_as 10 rfl) rfl kX12_189 ?_
  refine pj_cp (pj_rS (q := 22) (c_X12_in w (lN 0) 5 0 5 (by decide) (by decide)) (pj_d p_X12_as 11 rfl) rfl kX12_57 o_X12_in (by rfl) (by rfl) (Nat.le_of_ble_eq_true rfl) (by decide)) (by decide) (by decide) ?_
  refine pj_if_ne (t := 28) (q := 25) (pj_d p_X12_as 12 rfl) rfl (by decide) (fun c2 => ?_) (fun c2 => ?_)
  rotate_left
  · exact bad (by rw [(gd_b_z _).mp c2]; simp)
  have e1 := (gd_b_n _).mp c1
  have e2 := (gd_b_n _).mp c2
  obtain ⟨i, hi, rfl, hc⟩ := gd_has_of h7 e1
  obtain ⟨j, hj, rfl, hd⟩ := gd_rng_of (hi := 5) e2
  have ki := (hW.2.2.2.2.1 i hi).1
  refine pj_ald0 (q := 29) (pj_d p_X12_as 15 rfl) rfl ?_
  refine pj_iconst (q := 30) (v := nI 0) (pj_d p_X12_as 16 rfl) rfl (by decide) ?_
  refine pj_pf (q := 33) (k := 1) (fs' := gd_Mo g (upd v 1 (nI 0))) (pj_d p_X12_as 17 rfl) rfl kX12_51 (by first | assumption | exact gd_km_0 | exact gd_km_1 | exact (gd_km_a (by omega) (by omega)).trans (by assumption)) (by rfl) (Or.inl rfl) (by rfl) (by rfl) (by rfl) (by show 1 < 24; decide) (by rfl) ?_
  have hM1 : pj_up h g (.inr (11, gd_Mo g (upd v 1 (nI 0)))) g = some (.inr (11, gd_Mo g (upd v 1 (nI 0)))) := pj_up_s
  have hT1 : pj_up h g (.inr (11, gd_Mo g (upd v 1 (nI 0)))) (g + 4) = some (.inl (0, 56, .inl (fun j => nI (τ j)))) := (pj_up_n (by omega)).trans hT
  refine pj_ald0 (q := 34) (pj_d p_X12_as 18 rfl) rfl ?_
  refine pj_ild1 (q := 35) (pj_d p_X12_as 19 rfl) rfl ?_
  refine pj_iconst (q := 36) (v := nI 0) (pj_d p_X12_as 20 rfl) rfl (by decide) ?_
  refine pj_cp (pj_rV (q := 39) (c_X12_of hM1 hT1 (t := i) (w := 0) (by omega) (by omega)) (pj_d p_X12_as 21 rfl) rfl kX12_158 o_X12_of (by first | assumption | exact gd_km_0 | exact gd_km_1 | exact (gd_km_a (by omega) (by omega)).trans (by assumption)) (by rfl) (by rfl) (by rfl) (by rfl) (Nat.le_of_ble_eq_true rfl) (by decide)) (by decide) (by decide) ?_
  rw [Nat.add_zero]
  refine pj_ild2 (q := 40) (pj_d p_X12_as 22 rfl) rfl ?_
  refine pj_cp (pj_rS (q := 43) (c_X12_isOf ki.2 hj) (pj_d p_X12_as 23 rfl) rfl kX12_239 o_X12_isOf (by rfl) (by rfl) (Nat.le_of_ble_eq_true rfl) (by decide)) (by decide) (by decide) ?_
  refine pj_if_eq (t := 50) (q := 46) (pj_d p_X12_as 24 rfl) rfl (by decide) (fun c3 => ?_) (fun c3 => ?_)
  · have e4 := (gd_b_z _).mp c3
    refine pj_ald0 (q := 51) (pj_d p_X12_as 27 rfl) rfl ?_
    refine pj_iconst (q := 52) (v := nI 3) (pj_d p_X12_as 28 rfl) rfl (by decide) ?_
    refine pj_cv (pj_rV (q := 55) (c_X12_finding hM1 (nI 3)) (pj_d p_X12_as 29 rfl) rfl kX12_68 o_X12_finding (by first | assumption | exact gd_km_0 | exact gd_km_1 | exact (gd_km_a (by omega) (by omega)).trans (by assumption)) (by rfl) (by rfl) (by rfl) (by rfl) (Nat.le_of_ble_eq_true rfl) (by decide)) (by decide) (by decide) ?_
    rintro r1 h1 n1 ⟨rfl, rfl, rfl⟩
    refine pj_iret rfl (pj_d p_X12_as 30 rfl) (by decide) (by decide) ?_
    rw [show sp_as (nI i) (nI j) τ st = (-1000013, nI 3) by rw [sp_as, e1, e2, hc, hd, e4]; rfl]
    exact ⟨rfl, rfl, by rw [pj_up_up, gd_upd_upd]⟩
  · have e4 := (gd_b_n _).mp c3
    refine pj_ild1 (q := 47) (pj_d p_X12_as 25 rfl) rfl ?_
    refine pj_goto (t := 55) (pj_d p_X12_as 26 rfl) (by decide) ?_
    refine pj_iret rfl (pj_d p_X12_as 30 rfl) (by decide) (by decide) ?_
    rw [show sp_as (nI i) (nI j) τ st = (nI i, nI 0) by rw [sp_as, e1, e2, hc, hd, e4]; rfl]
    exact ⟨rfl, rfl, rfl⟩
theorem c_X12_count {t : gd_TT} {tl : Nat} {ln : Nat → Int32} {mn : Nat → Nat} {it : Nat → Nat → Int32} (hR : gd_MR h g v t.1) (h8 : v 8 = nI t.2.2) (h10 : v 10 = nI tl) (hr : gd_RM h g ln mn it) (hB : gd_RB ln mn) (w : Int32) : pj_Ct E B l Y_X12_count 4 0 0 [.ref g, .int w] h n (pj_is (some (.int (sp_count w ln t tl))) h n) := by
  obtain ⟨hM, hT, hv, hW, h1⟩ := hR
  obtain ⟨f1, r1, r2⟩ := hr.1
  refine pj_in rfl (ls := [some (.ref g), some (.int (w)), none, none]) rfl (Nat.le_of_ble_eq_true rfl) ?_
  refine gd_thr (pj_d p_X12_count 0 rfl) (pj_d p_X12_count 1 rfl) (pj_d p_X12_count 2 rfl) rfl hM hv ?_
  refine pj_iconst (q := 6) (v := nI 0) (pj_d p_X12_count 3 rfl) rfl (by decide) ?_
  refine pj_ist2 (q := 7) (pj_d p_X12_count 4 rfl) rfl (by first | rfl | assumption) ?_
  refine pj_ild1 (q := 8) (pj_d p_X12_count 5 rfl) rfl ?_
  rcases gd_sw w 6 (by omega) with ⟨j, hj, rfl, hji⟩ | hout
  rotate_left
  · refine pj_tabOut (t := 137) (dflt := 129) (lo := 0) (hi := 6) (offs := #[44, 77, 84, 91, 98, 119, 124]) (pj_d p_X12_count 6 rfl) (by omega) (by decide) ?_
    refine pj_ldc (q := 139) (pj_d p_X12_count 59 rfl) rfl kX12_67 ?_
    refine pj_iret rfl (pj_d p_X12_count 60 rfl) (by decide) (by decide) ?_
    have e1 : gd_rng w 0 6 = false := decide_eq_false (by omega)
    exact ⟨by rw [sp_count, e1]; rfl, rfl, rfl⟩
  have e1 : gd_rng (nI j) 0 6 = true := by rw [gd_rng_nI (by omega)]; exact decide_eq_true (by omega)
  rw [sp_count, e1, if_pos rfl, hji]
  rcases (show j = 0 ∨ j = 1 ∨ j = 2 ∨ j = 3 ∨ j = 4 ∨ j = 5 ∨ j = 6 by omega) with rfl | rfl | rfl | rfl | rfl | rfl | rfl
  · refine pj_tabIn (t := 52) (dflt := 129) (lo := 0) (hi := 6) (offs := #[44, 77, 84, 91, 98, 119, 124]) (off := 44) (pj_d p_X12_count 6 rfl) (by decide) (by decide) (by rfl) (by decide) ?_
    refine pj_iconst (q := 53) (v := nI 0) (pj_d p_X12_count 7 rfl) rfl (by decide) ?_
    refine pj_ist3 (q := 54) (pj_d p_X12_count 8 rfl) rfl (by first | rfl | assumption) ?_
    rw [if_pos (by decide)]
    generalize hp : (fun r => !decide (ln r = -1)) = p
    have loop : ∀ m i, 8 - i < m → i ≤ 8 → pj_V E B l Y_X12_count 4 0 0 54 [some (.ref g), some (.int (nI 0)), some (.int (nI (gd_ct p i))), some (.int (nI i))] [] h n 0 0 (pj_is (some (.int (nI (gd_ct p 8)))) h n) := by
      intro m
      induction m with
      | zero => intro i hi; omega
      | succ m ih =>
        intro i hi hle
        refine pj_ild3 (q := 55) (pj_d p_X12_count 9 rfl) rfl ?_
        refine pj_bipush (q := 57) (v := nI 8) (pj_d p_X12_count 10 rfl) rfl (by decide) ?_
        refine pj_icmp_ge (t := 83) (q := 60) (pj_d p_X12_count 11 rfl) rfl (by decide) (fun c1 => ?_) (fun c1 => ?_)
        · have he : i = 8 := by have := gd_ge c1 (by omega) (by omega); omega
          subst he
          refine pj_ild2 (q := 84) (pj_d p_X12_count 25 rfl) rfl ?_
          refine pj_iret rfl (pj_d p_X12_count 26 rfl) (by decide) (by decide) ?_
          exact ⟨rfl, rfl, rfl⟩
        have hlt : i < 8 := gd_lt c1 (by omega)
        have fin : ∀ z, z = (if p i then 1 else 0) → pj_V E B l Y_X12_count 4 0 0 75 [some (.ref g), some (.int (nI 0)), some (.int (nI (gd_ct p i))), some (.int (nI i))] [.int (nI z), .int (nI (gd_ct p i))] h n 0 0 (pj_is (some (.int (nI (gd_ct p 8)))) h n) := by
          intro z hz
          refine pj_iadd (q := 76) (pj_d p_X12_count 21 rfl) rfl ?_
          rw [nI_add]
          refine pj_ist2 (q := 77) (pj_d p_X12_count 22 rfl) rfl (by first | rfl | assumption) ?_
          refine pj_iinc3 (q := 80) (v := 1) (pj_d p_X12_count 23 rfl) rfl (by first | rfl | assumption) (by decide) ?_
          refine pj_goto (t := 54) (pj_d p_X12_count 24 rfl) (by decide) ?_
          rw [nI_1, show gd_ct p i + z = gd_ct p (i + 1) by rw [gd_ct, hz]]
          exact ih (i + 1) (by omega) (by omega)
        refine pj_ild2 (q := 61) (pj_d p_X12_count 12 rfl) rfl ?_
        refine pj_ald0 (q := 62) (pj_d p_X12_count 13 rfl) rfl ?_
        refine pj_gf (q := 65) (k := 2) (pj_d p_X12_count 14 rfl) rfl kX12_7 (by first | assumption | exact gd_km_0 | exact gd_km_1 | exact (gd_km_a (by omega) (by omega)).trans (by assumption)) (by rfl) (by rfl) ?_
        refine pj_ild3 (q := 66) (pj_d p_X12_count 15 rfl) rfl ?_
        refine pj_ialdN (q := 67) (pj_d p_X12_count 16 rfl) rfl (by first | assumption | exact gd_km_0 | exact gd_km_1 | exact (gd_km_a (by omega) (by omega)).trans (by assumption)) (by rfl) (by first | assumption | omega) (Nat.le_of_ble_eq_true rfl) ?_
        rw [r2 i hlt]
        have hl := gd_lane hB hlt
        refine pj_if_lt (t := 74) (q := 70) (pj_d p_X12_count 17 rfl) rfl (by decide) (fun c2 => ?_) (fun c2 => ?_)
        · have : p i = false := by
            rw [← hp]
            have : ¬ 0 ≤ ln i := by rw [Int32.not_le]; exact c2
            rw [hl] at this
            have : ln i = -1 := Classical.byContradiction this
            show (!decide (ln i = -1)) = false
            rw [this]; rfl
          refine pj_iconst (q := 75) (v := nI 0) (pj_d p_X12_count 20 rfl) rfl (by decide) ?_
          exact fin 0 (by rw [this]; rfl)
        · have : p i = true := by
            rw [← hp]
            have : 0 ≤ ln i := by rw [Int32.not_lt] at c2; exact c2
            rw [hl] at this
            show (!decide (ln i = -1)) = true
            rw [decide_eq_false this]; rfl
          refine pj_iconst (q := 71) (v := nI 1) (pj_d p_X12_count 18 rfl) rfl (by decide) ?_
          refine pj_goto (t := 75) (pj_d p_X12_count 19 rfl) (by decide) ?_
          exact fin 1 (by rw [this]; rfl)
    exact loop 9 0 (by omega) (by omega)
  · refine pj_tabIn (t := 85) (dflt := 129) (lo := 0) (hi := 6) (offs := #[44, 77, 84, 91, 98, 119, 124]) (off := 77) (pj_d p_X12_count 6 rfl) (by decide) (by decide) (by rfl) (by decide) ?_
    refine pj_ald0 (q := 86) (pj_d p_X12_count 27 rfl) rfl ?_
    refine pj_gf (q := 89) (k := 5) (pj_d p_X12_count 28 rfl) rfl kX12_19 (by first | assumption | exact gd_km_0 | exact gd_km_1 | exact (gd_km_a (by omega) (by omega)).trans (by assumption)) (by rfl) (by rfl) ?_
    refine pj_iconst (q := 90) (v := nI 1) (pj_d p_X12_count 29 rfl) rfl (by decide) ?_
    refine pj_ialdN (q := 91) (pj_d p_X12_count 30 rfl) rfl (by first | assumption | exact gd_km_0 | exact gd_km_1 | exact (gd_km_a (by omega) (by omega)).trans (by assumption)) (by rfl) (by first | assumption | omega) (Nat.le_of_ble_eq_true rfl) ?_
    refine pj_iret rfl (pj_d p_X12_count 31 rfl) (by decide) (by decide) ?_
    exact ⟨rfl, rfl, rfl⟩
  · refine pj_tabIn (t := 92) (dflt := 129) (lo := 0) (hi := 6) (offs := #[44, 77, 84, 91, 98, 119, 124]) (off := 84) (pj_d p_X12_count 6 rfl) (by decide) (by decide) (by rfl) (by decide) ?_
    refine pj_ald0 (q := 93) (pj_d p_X12_count 32 rfl) rfl ?_
    refine pj_gf (q := 96) (k := 5) (pj_d p_X12_count 33 rfl) rfl kX12_19 (by first | assumption | exact gd_km_0 | exact gd_km_1 | exact (gd_km_a (by omega) (by omega)).trans (by assumption)) (by rfl) (by rfl) ?_
    refine pj_iconst (q := 97) (v := nI 2) (pj_d p_X12_count 34 rfl) rfl (by decide) ?_
    refine pj_ialdN (q := 98) (pj_d p_X12_count 35 rfl) rfl (by first | assumption | exact gd_km_0 | exact gd_km_1 | exact (gd_km_a (by omega) (by omega)).trans (by assumption)) (by rfl) (by first | assumption | omega) (Nat.le_of_ble_eq_true rfl) ?_
    refine pj_iret rfl (pj_d p_X12_count 36 rfl) (by decide) (by decide) ?_
    exact ⟨rfl, rfl, rfl⟩
  · refine pj_tabIn (t := 99) (dflt := 129) (lo := 0) (hi := 6) (offs := #[44, 77, 84, 91, 98, 119, 124]) (off := 91) (pj_d p_X12_count 6 rfl) (by decide) (by decide) (by rfl) (by decide) ?_
    refine pj_ald0 (q := 100) (pj_d p_X12_count 37 rfl) rfl ?_
    refine pj_gf (q := 103) (k := 5) (pj_d p_X12_count 38 rfl) rfl kX12_19 (by first | assumption | exact gd_km_0 | exact gd_km_1 | exact (gd_km_a (by omega) (by omega)).trans (by assumption)) (by rfl) (by rfl) ?_
    refine pj_iconst (q := 104) (v := nI 3) (pj_d p_X12_count 39 rfl) rfl (by decide) ?_
    refine pj_ialdN (q := 105) (pj_d p_X12_count 40 rfl) rfl (by first | assumption | exact gd_km_0 | exact gd_km_1 | exact (gd_km_a (by omega) (by omega)).trans (by assumption)) (by rfl) (by first | assumption | omega) (Nat.le_of_ble_eq_true rfl) ?_
    refine pj_iret rfl (pj_d p_X12_count 41 rfl) (by decide) (by decide) ?_
    exact ⟨rfl, rfl, rfl⟩
  · refine pj_tabIn (t := 106) (dflt := 129) (lo := 0) (hi := 6) (offs := #[44, 77, 84, 91, 98, 119, 124]) (off := 98) (pj_d p_X12_count 6 rfl) (by decide) (by decide) (by rfl) (by decide) ?_
    refine pj_ald0 (q := 107) (pj_d p_X12_count 42 rfl) rfl ?_
    refine pj_cp (pj_rV (q := 110) (c_X12_isThere hM hT h1) (pj_d p_X12_count 43 rfl) rfl kX12_176 o_X12_isThere (by first | assumption | exact gd_km_0 | exact gd_km_1 | exact (gd_km_a (by omega) (by omega)).trans (by assumption)) (by rfl) (by rfl) (by rfl) (by rfl) (Nat.le_of_ble_eq_true rfl) (by decide)) (by decide) (by decide) ?_
    refine pj_if_eq (t := 125) (q := 113) (pj_d p_X12_count 44 rfl) rfl (by decide) (fun c1 => ?_) (fun c1 => ?_)
    · have ht := gd_dec_f c1
      refine pj_iconst (q := 126) (v := nI 0) (pj_d p_X12_count 51 rfl) rfl (by decide) ?_
      refine pj_iret rfl (pj_d p_X12_count 52 rfl) (by decide) (by decide) ?_
      exact ⟨by show _ = some (Value.int (if t.1 0 = 1 then nI (gd_harm t.1 (gd_miss t.1 0)) else 0)); rw [if_neg ht]; rfl, rfl, rfl⟩
    · have ht := gd_dec_t c1
      refine pj_ald0 (q := 114) (pj_d p_X12_count 45 rfl) rfl ?_
      refine pj_ald0 (q := 115) (pj_d p_X12_count 46 rfl) rfl ?_
      refine pj_iconst (q := 116) (v := nI 0) (pj_d p_X12_count 47 rfl) rfl (by decide) ?_
      refine pj_cp (pj_rV (q := 119) (c_X12_missingOn hM hT hW (d := 0) (by omega)) (pj_d p_X12_count 48 rfl) rfl kX12_170 o_X12_missingOn (by first | assumption | exact gd_km_0 | exact gd_km_1 | exact (gd_km_a (by omega) (by omega)).trans (by assumption)) (by rfl) (by rfl) (by rfl) (by rfl) (Nat.le_of_ble_eq_true rfl) (by decide)) (by decide) (by decide) ?_
      refine pj_cp (pj_rV (q := 122) (c_X12_harmBy hM hT hW (gd_miss_lt hW 0)) (pj_d p_X12_count 49 rfl) rfl kX12_173 o_X12_harmBy (by first | assumption | exact gd_km_0 | exact gd_km_1 | exact (gd_km_a (by omega) (by omega)).trans (by assumption)) (by rfl) (by rfl) (by rfl) (by rfl) (Nat.le_of_ble_eq_true rfl) (by decide)) (by decide) (by decide) ?_
      refine pj_goto (t := 126) (pj_d p_X12_count 50 rfl) (by decide) ?_
      refine pj_iret rfl (pj_d p_X12_count 52 rfl) (by decide) (by decide) ?_
      exact ⟨by show _ = some (Value.int (if t.1 0 = 1 then nI (gd_harm t.1 (gd_miss t.1 0)) else 0)); rw [if_pos ht], rfl, rfl⟩
  · refine pj_tabIn (t := 127) (dflt := 129) (lo := 0) (hi := 6) (offs := #[44, 77, 84, 91, 98, 119, 124]) (off := 119) (pj_d p_X12_count 6 rfl) (by decide) (by decide) (by rfl) (by decide) ?_
    refine pj_ald0 (q := 128) (pj_d p_X12_count 53 rfl) rfl ?_
    refine pj_gf (q := 131) (k := 8) (pj_d p_X12_count 54 rfl) rfl kX12_150 (by first | assumption | exact gd_km_0 | exact gd_km_1 | exact (gd_km_a (by omega) (by omega)).trans (by assumption)) (by rfl) (by rfl) ?_
    rw [h8]
    refine pj_iret rfl (pj_d p_X12_count 55 rfl) (by decide) (by decide) ?_
    exact ⟨rfl, rfl, rfl⟩
  · refine pj_tabIn (t := 132) (dflt := 129) (lo := 0) (hi := 6) (offs := #[44, 77, 84, 91, 98, 119, 124]) (off := 124) (pj_d p_X12_count 6 rfl) (by decide) (by decide) (by rfl) (by decide) ?_
    refine pj_ald0 (q := 133) (pj_d p_X12_count 56 rfl) rfl ?_
    refine pj_gf (q := 136) (k := 10) (pj_d p_X12_count 57 rfl) rfl kX12_74 (by first | assumption | exact gd_km_0 | exact gd_km_1 | exact (gd_km_a (by omega) (by omega)).trans (by assumption)) (by rfl) (by rfl) ?_
    rw [h10]
    refine pj_iret rfl (pj_d p_X12_count 58 rfl) (by decide) (by decide) ?_
    exact ⟨rfl, rfl, rfl⟩
end
