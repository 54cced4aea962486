/-! ===== acts: the class's calls ===== -/
def gd_PQ (x : Int32) (t t' : gd_TT) (h : pj_H) (po : Option Nat) (n : Nat) : Option Value → pj_H → Nat → Prop := fun r h' n' => r = some (.int x) ∧ n' = n ∧ (match po with | none => h' = h ∧ t' = t | some k => gd_T h' k t'.1 t'.2.2 ∧ gd_AX h' k t' ∧ ∀ q, (q < k ∨ k + 9 + t.1 1 ≤ q) → h' q = h q)
section
variable {E : pj_E} {B : Nat} {l : Launch} {h : pj_H} {n b k : Nat} {po : Option Nat} {lf st : Int32} {t : gd_TT}
theorem gd_PQ_same {x : Int32} {y : Int32 × gd_TT} (hX : gd_XR h b po lf st t.1 t.2.2) (hA : ∀ k, po = some k → gd_AX h k t) (e : y = (x, t)) : gd_PQ y.1 t y.2 h po n (some (.int x)) h n := by
  subst e
  cases po with
  | none => exact ⟨rfl, rfl, rfl, rfl⟩
  | some k => exact ⟨rfl, rfl, hX.2.2.2.2.2, hA k rfl, fun _ _ => rfl⟩
theorem gd_PA_PQ {x : Int32} {t' : gd_TT} {r : Option Value} {h' : pj_H} {n' : Nat} (hp : gd_PA (some (.int x)) t' h k (t.1 1) n r h' n') : gd_PQ x t t' h (some k) n r h' n' := hp
theorem c_X8_takesPaint {a kd i sh mx : Nat} (hk : 1 ≤ kd ∧ kd ≤ 5) (ha : h a = some (.inr (gd_tc kd, [.int (nI i), .int (nI sh), .int (nI mx)]))) : pj_Ct E B l Y_X8_takesPaint 1 0 0 [.ref a] h n (pj_is (some (.int (gd_b (decide (kd < 4))))) h n) := by
  refine pj_in rfl (ls := [some (.ref a)]) rfl (Nat.le_of_ble_eq_true rfl) ?_
  refine pj_ald0 (q := 1) (pj_d p_X8_takesPaint 0 rfl) rfl ?_
  rcases gd_kd hk.1 hk.2 with rfl | rfl | rfl | rfl | rfl
  · refine pj_instN (q := 4) (r := (RX1, TX1, 3)) (pj_d p_X8_takesPaint 1 rfl) rfl kX8_19 rfl ha (by decide) ?_
    refine pj_if_ne (t := 11) (q := 7) (pj_d p_X8_takesPaint 2 rfl) rfl (by decide) (fun c1 => ?_) (fun c1 => ?_)
    · exact absurd rfl c1
    refine pj_iconst (q := 8) (v := nI 1) (pj_d p_X8_takesPaint 3 rfl) rfl (by decide) ?_
    refine pj_goto (t := 12) (pj_d p_X8_takesPaint 4 rfl) (by decide) ?_
    refine pj_zret rfl (by first | rfl | decide | (split <;> rfl)) (pj_d p_X8_takesPaint 6 rfl) (by decide) (by decide) ?_
    exact ⟨rfl, rfl, rfl⟩
  · refine pj_instN (q := 4) (r := (RX10, TX10, 3)) (pj_d p_X8_takesPaint 1 rfl) rfl kX8_19 rfl ha (by decide) ?_
    refine pj_if_ne (t := 11) (q := 7) (pj_d p_X8_takesPaint 2 rfl) rfl (by decide) (fun c1 => ?_) (fun c1 => ?_)
    · exact absurd rfl c1
    refine pj_iconst (q := 8) (v := nI 1) (pj_d p_X8_takesPaint 3 rfl) rfl (by decide) ?_
    refine pj_goto (t := 12) (pj_d p_X8_takesPaint 4 rfl) (by decide) ?_
    refine pj_zret rfl (by first | rfl | decide | (split <;> rfl)) (pj_d p_X8_takesPaint 6 rfl) (by decide) (by decide) ?_
    exact ⟨rfl, rfl, rfl⟩
  · refine pj_instN (q := 4) (r := (RX6, TX6, 3)) (pj_d p_X8_takesPaint 1 rfl) rfl kX8_19 rfl ha (by decide) ?_
    refine pj_if_ne (t := 11) (q := 7) (pj_d p_X8_takesPaint 2 rfl) rfl (by decide) (fun c1 => ?_) (fun c1 => ?_)
    · exact absurd rfl c1
    refine pj_iconst (q := 8) (v := nI 1) (pj_d p_X8_takesPaint 3 rfl) rfl (by decide) ?_
    refine pj_goto (t := 12) (pj_d p_X8_takesPaint 4 rfl) (by decide) ?_
    refine pj_zret rfl (by first | rfl | decide | (split <;> rfl)) (pj_d p_X8_takesPaint 6 rfl) (by decide) (by decide) ?_
    exact ⟨rfl, rfl, rfl⟩
  · refine pj_instY (q := 4) (r := (RX4, TX4, 3)) (pj_d p_X8_takesPaint 1 rfl) rfl kX8_19 rfl ha (Or.inl rfl) ?_
    refine pj_if_ne (t := 11) (q := 7) (pj_d p_X8_takesPaint 2 rfl) rfl (by decide) (fun c1 => ?_) (fun c1 => ?_)
    rotate_left
    · exact absurd c1 (by decide)
    refine pj_iconst (q := 12) (v := nI 0) (pj_d p_X8_takesPaint 5 rfl) rfl (by decide) ?_
    refine pj_zret rfl (by first | rfl | decide | (split <;> rfl)) (pj_d p_X8_takesPaint 6 rfl) (by decide) (by decide) ?_
    exact ⟨rfl, rfl, rfl⟩
  · refine pj_instY (q := 4) (r := (RX2, TX2, 3)) (pj_d p_X8_takesPaint 1 rfl) rfl kX8_19 rfl ha (Or.inr (pj_m 1470 (by decide +kernel))) ?_
    refine pj_if_ne (t := 11) (q := 7) (pj_d p_X8_takesPaint 2 rfl) rfl (by decide) (fun c1 => ?_) (fun c1 => ?_)
    rotate_left
    · exact absurd c1 (by decide)
    refine pj_iconst (q := 12) (v := nI 0) (pj_d p_X8_takesPaint 5 rfl) rfl (by decide) ?_
    refine pj_zret rfl (by first | rfl | decide | (split <;> rfl)) (pj_d p_X8_takesPaint 6 rfl) (by decide) (by decide) ?_
    exact ⟨rfl, rfl, rfl⟩
theorem c_X11_undo (hX : gd_XR h b po lf st t.1 t.2.2) (hWT : gd_WT t) (hA : ∀ k, po = some k → gd_AX h k t) : pj_Ct E B l Y_X11_undo 3 0 0 [.ref b] h n (gd_PQ (sp_undo t).1 t (sp_undo t).2 h po n) := by
  have hX0 := hX
  obtain ⟨hx, hF, hW, hp⟩ := hX
  refine pj_in rfl (ls := [some (.ref b)]) rfl (Nat.le_of_ble_eq_true rfl) ?_
  have bad : t.2.2 = 0 → pj_V E B l Y_X11_undo 3 0 0 17 [some (.ref b)] [] h n 0 0 (gd_PQ (sp_undo t).1 t (sp_undo t).2 h po n) := by
    intro h0
    refine pj_ldc (q := 19) (pj_d p_X11_undo 7 rfl) rfl kX11_112 ?_
    refine pj_iret rfl (pj_d p_X11_undo 8 rfl) (by decide) (by decide) ?_
    exact gd_PQ_same hX0 hA (by rw [sp_undo, if_pos h0])
  cases po with
  | none =>
    obtain ⟨p0, p1⟩ := hp
    have hx : h b = some (.inr (10, [.ref (b + 1), .ref (b + 13), .ref (b + 15), .ref (b + 19), .ref (b + 21), .null, .int lf, .int st])) := hx
    refine pj_ald0 (q := 1) (pj_d p_X11_undo 0 rfl) rfl ?_
    refine pj_gf (q := 4) (k := 5) (pj_d p_X11_undo 1 rfl) rfl kX11_102 (by repeat first | assumption | exact pj_up_s | refine (pj_up_n (by omega)).trans ?_) (by rfl) (by rfl) ?_
    refine pj_ifnullN (t := 17) (pj_d p_X11_undo 2 rfl) (by decide) ?_
    exact bad (by rcases hWT.2.2.2.1 with q | q; omega; exact q)
  | some k =>
    obtain ⟨hk, p0, hT⟩ := hp
    have hx : h b = some (.inr (10, [.ref (b + 1), .ref (b + 13), .ref (b + 15), .ref (b + 19), .ref (b + 21), .ref k, .int lf, .int st])) := hx
    have t0 := hT.1
    have h24 := hWT.2.2.1
    refine pj_ald0 (q := 1) (pj_d p_X11_undo 0 rfl) rfl ?_
    refine pj_gf (q := 4) (k := 5) (pj_d p_X11_undo 1 rfl) rfl kX11_102 (by repeat first | assumption | exact pj_up_s | refine (pj_up_n (by omega)).trans ?_) (by rfl) (by rfl) ?_
    refine pj_ifnull (q := 7) (pj_d p_X11_undo 2 rfl) rfl ?_
    refine pj_ald0 (q := 8) (pj_d p_X11_undo 3 rfl) rfl ?_
    refine pj_gf (q := 11) (k := 5) (pj_d p_X11_undo 4 rfl) rfl kX11_102 (by repeat first | assumption | exact pj_up_s | refine (pj_up_n (by omega)).trans ?_) (by rfl) (by rfl) ?_
    refine pj_cp (pj_rV (q := 14) (c_X9_actCount hT) (pj_d p_X11_undo 5 rfl) rfl kX11_109 o_X9_actCount (by repeat first | assumption | exact pj_up_s | refine (pj_up_n (by omega)).trans ?_) (by rfl) (by rfl) (by rfl) (by rfl) (Nat.le_of_ble_eq_true rfl) (by decide)) (by decide) (by decide) ?_
    refine pj_if_ne (t := 20) (q := 17) (pj_d p_X11_undo 6 rfl) rfl (by decide) (fun c1 => ?_) (fun c1 => ?_)
    rotate_left
    · exact bad ((nI_eq (by omega) (by omega)).mp (c1.trans nI_0.symm))
    have h0 : ¬ t.2.2 = 0 := fun q => c1 (by rw [q]; rfl)
    rw [show sp_undo t = (nI (t.2.2 - 1), gd_back t) by rw [sp_undo, if_neg h0]]
    refine pj_ald0 (q := 21) (pj_d p_X11_undo 9 rfl) rfl ?_
    refine pj_gf (q := 24) (k := 5) (pj_d p_X11_undo 10 rfl) rfl kX11_102 (by repeat first | assumption | exact pj_up_s | refine (pj_up_n (by omega)).trans ?_) (by rfl) (by rfl) ?_
    refine pj_cv (pj_rV (q := 27) (c_X9_undoLatest hT (hA k rfl) hWT h0) (pj_d p_X11_undo 11 rfl) rfl kX11_113 o_X9_undoLatest (by repeat first | assumption | exact pj_up_s | refine (pj_up_n (by omega)).trans ?_) (by rfl) (by rfl) (by rfl) (by rfl) (Nat.le_of_ble_eq_true rfl) (by decide)) (by decide) (by decide) ?_
    rintro r1 h1 n1 ⟨rfl, rfl, hT1, hA1, hq1⟩
    have hx1 : h1 b = _ := (hq1 b (by omega)).trans hx
    have t1 := hT1.1
    refine pj_ald0 (q := 28) (pj_d p_X11_undo 12 rfl) rfl ?_
    refine pj_gf (q := 31) (k := 5) (pj_d p_X11_undo 13 rfl) rfl kX11_102 (by repeat first | assumption | exact pj_up_s | refine (pj_up_n (by omega)).trans ?_) (by rfl) (by rfl) ?_
    refine pj_cp (pj_rV (q := 34) (c_X9_actCount hT1) (pj_d p_X11_undo 14 rfl) rfl kX11_109 o_X9_actCount (by repeat first | assumption | exact pj_up_s | refine (pj_up_n (by omega)).trans ?_) (by rfl) (by rfl) (by rfl) (by rfl) (Nat.le_of_ble_eq_true rfl) (by decide)) (by decide) (by decide) ?_
    refine pj_iret rfl (pj_d p_X11_undo 15 rfl) (by decide) (by decide) ?_
    exact ⟨rfl, rfl, hT1, hA1, hq1⟩
theorem c_X11_days (hX : gd_XR h b po lf st t.1 t.2.2) (hWT : gd_WT t) (hA : ∀ k, po = some k → gd_AX h k t) (d : Int32) : pj_Ct E B l Y_X11_days 4 0 0 [.ref b, .int d] h n (gd_PQ (sp_days d t).1 t (sp_days d t).2 h po n) := by
  have hX0 := hX
  obtain ⟨hx, hF, hW, hp⟩ := hX
  refine pj_in rfl (ls := [some (.ref b), some (.int (d))]) rfl (Nat.le_of_ble_eq_true rfl) ?_
  cases po with
  | none =>
    obtain ⟨p0, p1⟩ := hp
    have hx : h b = some (.inr (10, [.ref (b + 1), .ref (b + 13), .ref (b + 15), .ref (b + 19), .ref (b + 21), .null, .int lf, .int st])) := hx
    refine pj_ald0 (q := 1) (pj_d p_X11_days 0 rfl) rfl ?_
    refine pj_gf (q := 4) (k := 5) (pj_d p_X11_days 1 rfl) rfl kX11_102 (by repeat first | assumption | exact pj_up_s | refine (pj_up_n (by omega)).trans ?_) (by rfl) (by rfl) ?_
    refine pj_ifnonnullN (q := 7) (pj_d p_X11_days 2 rfl) rfl ?_
    refine pj_ldc (q := 9) (pj_d p_X11_days 3 rfl) rfl kX11_112 ?_
    refine pj_iret rfl (pj_d p_X11_days 4 rfl) (by decide) (by decide) ?_
    exact gd_PQ_same hX0 hA (by rw [sp_days, if_neg (by omega)])
  | some k =>
    obtain ⟨hk, p0, hT⟩ := hp
    have hx : h b = some (.inr (10, [.ref (b + 1), .ref (b + 13), .ref (b + 15), .ref (b + 19), .ref (b + 21), .ref k, .int lf, .int st])) := hx
    have t0 := hT.1
    refine pj_ald0 (q := 1) (pj_d p_X11_days 0 rfl) rfl ?_
    refine pj_gf (q := 4) (k := 5) (pj_d p_X11_days 1 rfl) rfl kX11_102 (by repeat first | assumption | exact pj_up_s | refine (pj_up_n (by omega)).trans ?_) (by rfl) (by rfl) ?_
    refine pj_ifnonnull (t := 10) (pj_d p_X11_days 2 rfl) (by decide) ?_
    have bad : gd_rng d 1 24 = false → pj_V E B l Y_X11_days 4 0 0 21 [some (.ref b), some (.int (d))] [] h n 0 0 (gd_PQ (sp_days d t).1 t (sp_days d t).2 h (some k) n) := by
      intro hd
      refine pj_ldc (q := 23) (pj_d p_X11_days 11 rfl) rfl kX11_47 ?_
      refine pj_iret rfl (pj_d p_X11_days 12 rfl) (by decide) (by decide) ?_
      exact gd_PQ_same hX0 hA (by rw [sp_days, if_pos p0, hd]; rfl)
    refine pj_ild1 (q := 11) (pj_d p_X11_days 5 rfl) rfl ?_
    refine pj_iconst (q := 12) (v := nI 1) (pj_d p_X11_days 6 rfl) rfl (by decide) ?_
    refine pj_icmp_lt (t := 21) (q := 15) (pj_d p_X11_days 7 rfl) rfl (by decide) (fun c1 => ?_) (fun c1 => ?_)
    · exact bad (gd_rng_lt (lo := 1) (by decide) c1)
    refine pj_ild1 (q := 16) (pj_d p_X11_days 8 rfl) rfl ?_
    refine pj_bipush (q := 18) (v := nI 24) (pj_d p_X11_days 9 rfl) rfl (by decide) ?_
    refine pj_icmp_le (t := 24) (q := 21) (pj_d p_X11_days 10 rfl) rfl (by decide) (fun c2 => ?_) (fun c2 => ?_)
    rotate_left
    · refine bad (gd_rng_gt (hi := 24) (by decide) ?_)
      rw [Int32.not_le] at c2
      exact c2
    have e1 : gd_rng d 1 24 = true := gd_rng_in1 (lo := 1) (hi := 24) (by decide) (by decide) c1 (by rw [Int32.not_lt]; exact c2)
    obtain ⟨c, hc1, hc, rfl, hcc⟩ := gd_rng_of1 (hi := 24) e1
    have h9 := hW.2.2.1
    refine pj_ald0 (q := 25) (pj_d p_X11_days 13 rfl) rfl ?_
    refine pj_gf (q := 28) (k := 5) (pj_d p_X11_days 14 rfl) rfl kX11_102 (by repeat first | assumption | exact pj_up_s | refine (pj_up_n (by omega)).trans ?_) (by rfl) (by rfl) ?_
    refine pj_cp (pj_rV (q := 31) (c_X9_today hT) (pj_d p_X11_days 15 rfl) rfl kX11_116 o_X9_today (by repeat first | assumption | exact pj_up_s | refine (pj_up_n (by omega)).trans ?_) (by rfl) (by rfl) (by rfl) (by rfl) (Nat.le_of_ble_eq_true rfl) (by decide)) (by decide) (by decide) ?_
    refine pj_ild1 (q := 32) (pj_d p_X11_days 16 rfl) rfl ?_
    refine pj_iadd (q := 33) (pj_d p_X11_days 17 rfl) rfl ?_
    rw [nI_add]
    refine pj_sipush (q := 36) (v := nI 999) (pj_d p_X11_days 18 rfl) rfl (by decide) ?_
    refine pj_icmp_le (t := 42) (q := 39) (pj_d p_X11_days 19 rfl) rfl (by decide) (fun c3 => ?_) (fun c3 => ?_)
    rotate_left
    · have h9 : ¬ t.1 3 + c ≤ 999 := fun q => c3 (nI_le q (by omega))
      refine pj_ldc (q := 41) (pj_d p_X11_days 20 rfl) rfl kX11_86 ?_
      refine pj_iret rfl (pj_d p_X11_days 21 rfl) (by decide) (by decide) ?_
      exact gd_PQ_same hX0 hA (by rw [sp_days, if_pos p0, e1, hcc]; simp [h9])
    have h9 := (nI_leI (by omega) (by omega)).mp c3
    have hsp : sp_days (nI c) t = (nI (t.1 3 + c), gd_dn c t) := by rw [sp_days, if_pos p0, e1, hcc]; simp [h9]
    rw [hsp]
    refine pj_ald0 (q := 43) (pj_d p_X11_days 22 rfl) rfl ?_
    refine pj_gf (q := 46) (k := 5) (pj_d p_X11_days 23 rfl) rfl kX11_102 (by repeat first | assumption | exact pj_up_s | refine (pj_up_n (by omega)).trans ?_) (by rfl) (by rfl) ?_
    refine pj_ild1 (q := 47) (pj_d p_X11_days 24 rfl) rfl ?_
    refine pj_cv (pj_rV (q := 50) (c_X9_passDays hT (hA k rfl) hWT p0 hc h9) (pj_d p_X11_days 25 rfl) rfl kX11_119 o_X9_passDays (by repeat first | assumption | exact pj_up_s | refine (pj_up_n (by omega)).trans ?_) (by rfl) (by rfl) (by rfl) (by rfl) (Nat.le_of_ble_eq_true rfl) (by decide)) (by decide) (by decide) ?_
    rintro r1 h1 n1 ⟨rfl, rfl, hT1, hA1, hq1⟩
    have hx1 : h1 b = _ := (hq1 b (by omega)).trans hx
    have t1 := hT1.1
    refine pj_ald0 (q := 51) (pj_d p_X11_days 26 rfl) rfl ?_
    refine pj_gf (q := 54) (k := 5) (pj_d p_X11_days 27 rfl) rfl kX11_102 (by repeat first | assumption | exact pj_up_s | refine (pj_up_n (by omega)).trans ?_) (by rfl) (by rfl) ?_
    refine pj_cp (pj_rV (q := 57) (c_X9_today hT1) (pj_d p_X11_days 28 rfl) rfl kX11_116 o_X9_today (by repeat first | assumption | exact pj_up_s | refine (pj_up_n (by omega)).trans ?_) (by rfl) (by rfl) (by rfl) (by rfl) (Nat.le_of_ble_eq_true rfl) (by decide)) (by decide) (by decide) ?_
    refine pj_iret rfl (pj_d p_X11_days 29 rfl) (by decide) (by decide) ?_
    rw [gd_dn_3]
    exact ⟨rfl, rfl, hT1, hA1, hq1⟩
theorem c_X11_paint (hX : gd_XR h b po lf st t.1 t.2.2) (hWT : gd_WT t) (hA : ∀ k, po = some k → gd_AX h k t) (x m : Int32) : pj_Ct E B l Y_X11_paint 4 0 0 [.ref b, .int x, .int m] h n (gd_PQ (sp_paint x m t).1 t (sp_paint x m t).2 h po n) := by
  have hX0 := hX
  obtain ⟨hx, hF, hW, hp⟩ := hX
  have h7 := hW.1
  refine pj_in rfl (ls := [some (.ref b), some (.int (x)), some (.int (m))]) rfl (Nat.le_of_ble_eq_true rfl) ?_
  have bad : (gd_has t.1 x && gd_rng m 0 31) = false → pj_V E B l Y_X11_paint 4 0 0 15 [some (.ref b), some (.int (x)), some (.int (m))] [] h n 0 0 (gd_PQ (sp_paint x m t).1 t (sp_paint x m t).2 h po n) := by
    intro hd
    refine pj_ldc (q := 17) (pj_d p_X11_paint 7 rfl) rfl kX11_47 ?_
    refine pj_iret rfl (pj_d p_X11_paint 8 rfl) (by decide) (by decide) ?_
    exact gd_PQ_same hX0 hA (by rw [sp_paint, hd]; rfl)
  refine pj_ald0 (q := 1) (pj_d p_X11_paint 0 rfl) rfl ?_
  refine pj_ild1 (q := 2) (pj_d p_X11_paint 1 rfl) rfl ?_
  refine pj_cp (pj_rV (q := 5) (c_X11_isThing hX0 x) (pj_d p_X11_paint 2 rfl) rfl kX11_123 o_X11_isThing (by repeat first | assumption | exact pj_up_s | refine (pj_up_n (by omega)).trans ?_) (by rfl) (by rfl) (by rfl) (by rfl) (Nat.le_of_ble_eq_true rfl) (by decide)) (by decide) (by decide) ?_
  refine pj_if_eq (t := 15) (q := 8) (pj_d p_X11_paint 3 rfl) rfl (by decide) (fun c1 => ?_) (fun c1 => ?_)
  · exact bad (by rw [(gd_b_z _).mp c1]; rfl)
  refine pj_ild2 (q := 9) (pj_d p_X11_paint 4 rfl) rfl ?_
  refine pj_cp (pj_rS (q := 12) (c_X11_isSet m) (pj_d p_X11_paint 5 rfl) rfl kX11_126 o_X11_isSet (by rfl) (by rfl) (Nat.le_of_ble_eq_true rfl) (by decide)) (by decide) (by decide) ?_
  refine pj_if_ne (t := 18) (q := 15) (pj_d p_X11_paint 6 rfl) rfl (by decide) (fun c2 => ?_) (fun c2 => ?_)
  rotate_left
  · exact bad (by rw [(gd_b_z _).mp c2]; simp)
  have e1 := (gd_b_n _).mp c1
  have e2 := (gd_b_n _).mp c2
  obtain ⟨i, hi, rfl, hc⟩ := gd_has_of h7 e1
  obtain ⟨j, hj, rfl, hd⟩ := gd_rng_of (hi := 31) e2
  cases po with
  | none =>
    obtain ⟨p0, p1⟩ := hp
    exact absurd hi (by rw [p1]; exact Nat.not_lt_zero _)
  | some k =>
    obtain ⟨hk, p0, hT⟩ := hp
    have hx : h b = some (.inr (10, [.ref (b + 1), .ref (b + 13), .ref (b + 15), .ref (b + 19), .ref (b + 21), .ref k, .int lf, .int st])) := hx
    have t0 := hT.1
    have ki := (hW.2.2.2.2.1 i hi).1
    refine pj_ald0 (q := 19) (pj_d p_X11_paint 9 rfl) rfl ?_
    refine pj_gf (q := 22) (k := 5) (pj_d p_X11_paint 10 rfl) rfl kX11_102 (by repeat first | assumption | exact pj_up_s | refine (pj_up_n (by omega)).trans ?_) (by rfl) (by rfl) ?_
    refine pj_ild1 (q := 23) (pj_d p_X11_paint 11 rfl) rfl ?_
    refine pj_cp (pj_rV (q := 26) (c_X9_thingAt hT h7 hi) (pj_d p_X11_paint 12 rfl) rfl kX11_129 o_X9_thingAt (by repeat first | assumption | exact pj_up_s | refine (pj_up_n (by omega)).trans ?_) (by rfl) (by rfl) (by rfl) (by rfl) (Nat.le_of_ble_eq_true rfl) (by decide)) (by decide) (by decide) ?_
    refine pj_cp (vX11_133 (q := 29) rfl (hT.2.2.2.1 i hi) ki (c_X8_takesPaint ki (hT.2.2.2.1 i hi)) (pj_d p_X11_paint 13 rfl) rfl rfl rfl (Nat.le_of_ble_eq_true rfl) (by decide)) (by decide) (by decide) ?_
    refine pj_if_ne (t := 35) (q := 32) (pj_d p_X11_paint 14 rfl) rfl (by decide) (fun c3 => ?_) (fun c3 => ?_)
    rotate_left
    · have h4 := gd_dec_f c3
      refine pj_ldc (q := 34) (pj_d p_X11_paint 15 rfl) rfl kX11_112 ?_
      refine pj_iret rfl (pj_d p_X11_paint 16 rfl) (by decide) (by decide) ?_
      exact gd_PQ_same hX0 hA (by rw [sp_paint, e1, e2, hc]; simp [h4])
    have h4 := gd_dec_t c3
    rw [show sp_paint (nI i) (nI j) t = (nI (t.1 (12 + 3 * i)), gd_act t (gd_set t.1 (12 + 3 * i) j)) by rw [sp_paint, e1, e2, hc, hd]; simp [h4]]
    refine pj_ald0 (q := 36) (pj_d p_X11_paint 17 rfl) rfl ?_
    refine pj_gf (q := 39) (k := 5) (pj_d p_X11_paint 18 rfl) rfl kX11_102 (by repeat first | assumption | exact pj_up_s | refine (pj_up_n (by omega)).trans ?_) (by rfl) (by rfl) ?_
    refine pj_ild1 (q := 40) (pj_d p_X11_paint 19 rfl) rfl ?_
    refine pj_ild2 (q := 41) (pj_d p_X11_paint 20 rfl) rfl ?_
    refine pj_cv (pj_rV (q := 44) (c_X9_repaint hT (hA k rfl) hWT hi (show j < 32 by omega)) (pj_d p_X11_paint 21 rfl) rfl kX11_139 o_X9_repaint (by repeat first | assumption | exact pj_up_s | refine (pj_up_n (by omega)).trans ?_) (by rfl) (by rfl) (by rfl) (by rfl) (Nat.le_of_ble_eq_true rfl) (by decide)) (by decide) (by decide) ?_
    rintro r1 h1 n1 ⟨rfl, rfl, hT1, hA1, hq1⟩
    refine pj_iret rfl (pj_d p_X11_paint 22 rfl) (by decide) (by decide) ?_
    exact ⟨rfl, rfl, hT1, hA1, hq1⟩
theorem c_X11_miss (hX : gd_XR h b po lf st t.1 t.2.2) (hWT : gd_WT t) (hA : ∀ k, po = some k → gd_AX h k t) (w c : Int32) : pj_Ct E B l Y_X11_miss 4 0 0 [.ref b, .int w, .int c] h n (gd_PQ (sp_miss w c t).1 t (sp_miss w c t).2 h po n) := by
  have hX0 := hX
  obtain ⟨hx, hF, hW, hp⟩ := hX
  refine pj_in rfl (ls := [some (.ref b), some (.int (w)), some (.int (c))]) rfl (Nat.le_of_ble_eq_true rfl) ?_
  cases po with
  | none =>
    obtain ⟨p0, p1⟩ := hp
    have hx : h b = some (.inr (10, [.ref (b + 1), .ref (b + 13), .ref (b + 15), .ref (b + 19), .ref (b + 21), .null, .int lf, .int st])) := hx
    refine pj_ald0 (q := 1) (pj_d p_X11_miss 0 rfl) rfl ?_
    refine pj_gf (q := 4) (k := 5) (pj_d p_X11_miss 1 rfl) rfl kX11_102 (by repeat first | assumption | exact pj_up_s | refine (pj_up_n (by omega)).trans ?_) (by rfl) (by rfl) ?_
    refine pj_ifnonnullN (q := 7) (pj_d p_X11_miss 2 rfl) rfl ?_
    refine pj_ldc (q := 9) (pj_d p_X11_miss 3 rfl) rfl kX11_112 ?_
    refine pj_iret rfl (pj_d p_X11_miss 4 rfl) (by decide) (by decide) ?_
    exact gd_PQ_same hX0 hA (by rw [sp_miss, if_neg (by omega)])
  | some k =>
    obtain ⟨hk, p0, hT⟩ := hp
    have hx : h b = some (.inr (10, [.ref (b + 1), .ref (b + 13), .ref (b + 15), .ref (b + 19), .ref (b + 21), .ref k, .int lf, .int st])) := hx
    have t0 := hT.1
    refine pj_ald0 (q := 1) (pj_d p_X11_miss 0 rfl) rfl ?_
    refine pj_gf (q := 4) (k := 5) (pj_d p_X11_miss 1 rfl) rfl kX11_102 (by repeat first | assumption | exact pj_up_s | refine (pj_up_n (by omega)).trans ?_) (by rfl) (by rfl) ?_
    refine pj_ifnonnull (t := 10) (pj_d p_X11_miss 2 rfl) (by decide) ?_
    have bad : (gd_rng w 0 6 && gd_rng c 0 5) = false → pj_V E B l Y_X11_miss 4 0 0 26 [some (.ref b), some (.int (w)), some (.int (c))] [] h n 0 0 (gd_PQ (sp_miss w c t).1 t (sp_miss w c t).2 h (some k) n) := by
      intro hd
      refine pj_ldc (q := 28) (pj_d p_X11_miss 13 rfl) rfl kX11_47 ?_
      refine pj_iret rfl (pj_d p_X11_miss 14 rfl) (by decide) (by decide) ?_
      exact gd_PQ_same hX0 hA (by rw [sp_miss, if_pos p0, hd]; rfl)
    refine pj_ild1 (q := 11) (pj_d p_X11_miss 5 rfl) rfl ?_
    refine pj_cp (pj_rS (q := 14) (c_X11_isWeekday w) (pj_d p_X11_miss 6 rfl) rfl kX11_143 o_X11_isWeekday (by rfl) (by rfl) (Nat.le_of_ble_eq_true rfl) (by decide)) (by decide) (by decide) ?_
    refine pj_if_eq (t := 26) (q := 17) (pj_d p_X11_miss 7 rfl) rfl (by decide) (fun c1 => ?_) (fun c1 => ?_)
    · exact bad (by rw [(gd_b_z _).mp c1]; rfl)
    refine pj_ild2 (q := 18) (pj_d p_X11_miss 8 rfl) rfl ?_
    refine pj_if_lt (t := 26) (q := 21) (pj_d p_X11_miss 9 rfl) rfl (by decide) (fun c2 => ?_) (fun c2 => ?_)
    · exact bad (by rw [gd_rng_lo (lo := 0) (hi := 5) (by decide) c2]; simp)
    refine pj_ild2 (q := 22) (pj_d p_X11_miss 10 rfl) rfl ?_
    refine pj_iconst (q := 23) (v := nI 5) (pj_d p_X11_miss 11 rfl) rfl (by decide) ?_
    refine pj_icmp_le (t := 29) (q := 26) (pj_d p_X11_miss 12 rfl) rfl (by decide) (fun c3 => ?_) (fun c3 => ?_)
    rotate_left
    · rw [Int32.not_le] at c3
      exact bad (by rw [show gd_rng c 0 5 = false from gd_rng_gt (hi := 5) (by decide) c3]; simp)
    have e1 := (gd_b_n _).mp c1
    have e2 : gd_rng c 0 5 = true := gd_rng_in (hi := 5) (by decide) c2 (by rw [Int32.not_lt]; exact c3)
    obtain ⟨i, hi, rfl, hc⟩ := gd_rng_of (hi := 6) e1
    obtain ⟨j, hj, rfl, hd⟩ := gd_rng_of (hi := 5) e2
    rw [show sp_miss (nI i) (nI j) t = (nI (t.1 (4 + i)), gd_act t (gd_set t.1 (4 + i) j)) by rw [sp_miss, if_pos p0, e1, e2, hc, hd]; rfl]
    refine pj_ald0 (q := 30) (pj_d p_X11_miss 15 rfl) rfl ?_
    refine pj_gf (q := 33) (k := 5) (pj_d p_X11_miss 16 rfl) rfl kX11_102 (by repeat first | assumption | exact pj_up_s | refine (pj_up_n (by omega)).trans ?_) (by rfl) (by rfl) ?_
    refine pj_ild1 (q := 34) (pj_d p_X11_miss 17 rfl) rfl ?_
    refine pj_ild2 (q := 35) (pj_d p_X11_miss 18 rfl) rfl ?_
    refine pj_cv (pj_rV (q := 38) (c_X9_changeWeek hT (hA k rfl) hWT (show i < 7 by omega) hj) (pj_d p_X11_miss 19 rfl) rfl kX11_146 o_X9_changeWeek (by repeat first | assumption | exact pj_up_s | refine (pj_up_n (by omega)).trans ?_) (by rfl) (by rfl) (by rfl) (by rfl) (Nat.le_of_ble_eq_true rfl) (by decide)) (by decide) (by decide) ?_
    rintro r1 h1 n1 ⟨rfl, rfl, hT1, hA1, hq1⟩
    refine pj_iret rfl (pj_d p_X11_miss 20 rfl) (by decide) (by decide) ?_
    exact ⟨rfl, rfl, hT1, hA1, hq1⟩
theorem gd_WT_undo (h : gd_WT t) : gd_WT (sp_undo t).2 := by
  rw [sp_undo]
  split
  · exact h
  · exact gd_WT_back h (by assumption)
theorem gd_WT_days (h : gd_WT t) (d : Int32) : gd_WT (sp_days d t).2 := by
  rw [sp_days]
  split
  · split
    · split
      · exact (gd_WT_dn h (by assumption) _ (by assumption)).1
      · exact h
    · exact h
  · exact h
theorem gd_WT_paint (h : gd_WT t) (x m : Int32) (h0 : t.1 0 = 0 → t.1 1 = 0) : gd_WT (sp_paint x m t).2 := by
  rw [sp_paint]
  split
  · rename_i e
    split
    · rw [Bool.and_eq_true] at e
      obtain ⟨i, hi, rfl, hc⟩ := gd_has_of h.1.1 e.1
      obtain ⟨j, hj, rfl, hd⟩ := gd_rng_of (hi := 31) e.2
      have h1 : t.1 0 = 1 := by
        have := h.2.1
        by_cases q : t.1 0 = 0
        · have := h0 q; omega
        · omega
      rw [hc, hd]
      have h7 := h.1.1
      exact gd_WT_act h h1 (gd_W_mix h.1 hi (by omega)) (by rw [gd_set_n (by omega)]; exact h1)
    · exact h
  · exact h
theorem gd_WT_miss (h : gd_WT t) (w c : Int32) : gd_WT (sp_miss w c t).2 := by
  rw [sp_miss]
  split
  · rename_i h1
    split
    · rename_i e
      rw [Bool.and_eq_true] at e
      obtain ⟨i, hi, rfl, hc⟩ := gd_rng_of (hi := 6) e.1
      obtain ⟨j, hj, rfl, hd⟩ := gd_rng_of (hi := 5) e.2
      rw [hc, hd]
      exact gd_WT_act h h1 (gd_W_col h.1 (by omega) hj) (by rw [gd_set_n (by omega)]; exact h1)
    · exact h
  · exact h
end
