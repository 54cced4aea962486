/-! ===== asked: the class ===== -/
abbrev gd_KT : Type := (Nat → Int32) × Nat
def gd_bg (K : gd_KT) (x : Nat) : gd_KT := if K.2 < 16 then (upd K.1 K.2 (nI x), K.2 + 1) else K
theorem gd_bg_le {K : gd_KT} {x : Nat} (h : K.2 ≤ 16) : (gd_bg K x).2 ≤ 16 := by
  rw [gd_bg]
  split
  · show K.2 + 1 ≤ 16; omega
  · exact h
def gd_kx (h : pj_H) (a0 : Nat) (K : gd_KT) (m : Int32) : pj_H := pj_up (pj_up h (a0 + 1) (.inl (0, 16, .inl K.1))) a0 (.inr (0, [.ref (a0 + 1), .int (nI K.2), .int m]))
def gd_KX (h : pj_H) (a0 : Nat) (K : gd_KT) (m : Int32) : Prop := h a0 = some (.inr (0, [.ref (a0 + 1), .int (nI K.2), .int m])) ∧ h (a0 + 1) = some (.inl (0, 16, .inl K.1))
theorem gd_kx_0 {h : pj_H} {a0 : Nat} {K : gd_KT} {m : Int32} : gd_kx h a0 K m a0 = some (.inr (0, [.ref (a0 + 1), .int (nI K.2), .int m])) := pj_up_s
theorem gd_kx_1 {h : pj_H} {a0 : Nat} {K : gd_KT} {m : Int32} : gd_kx h a0 K m (a0 + 1) = some (.inl (0, 16, .inl K.1)) := (pj_up_n (by omega)).trans pj_up_s
theorem gd_kx_a {h : pj_H} {a0 a : Nat} {K : gd_KT} {m : Int32} (h0 : a ≠ a0) (h1 : a ≠ a0 + 1) : gd_kx h a0 K m a = h a := (pj_up_n h0).trans (pj_up_n h1)
theorem gd_kx_id {h : pj_H} {a0 : Nat} {K : gd_KT} {m : Int32} (hK : gd_KX h a0 K m) : gd_kx h a0 K m = h := by
  rw [gd_kx, pj_up_id hK.2, pj_up_id hK.1]
theorem gd_kx_up {h : pj_H} {a0 : Nat} {K K' : gd_KT} {m m' : Int32} : pj_up (pj_up (gd_kx h a0 K m) (a0 + 1) (.inl (0, 16, .inl K'.1))) a0 (.inr (0, [.ref (a0 + 1), .int (nI K'.2), .int m'])) = gd_kx h a0 K' m' := by
  funext q
  by_cases e : q = a0
  · rw [e, pj_up_s, gd_kx_0]
  · rw [pj_up_n e]
    by_cases e1 : q = a0 + 1
    · rw [e1, pj_up_s, gd_kx_1]
    · rw [pj_up_n e1, gd_kx_a e e1, gd_kx_a e e1]
theorem gd_kx_up2 {h : pj_H} {a0 : Nat} {K : gd_KT} {m m' : Int32} {c : Nat} : pj_up (gd_kx h a0 K m) a0 (.inr (0, [.ref (a0 + 1), .int (nI c), .int m'])) = gd_kx h a0 (K.1, c) m' := by
  rw [gd_kx, pj_up_up]
  rfl
def gd_isz (kd mx : Nat) (K : gd_KT) : Int32 × gd_KT := if kd = 5 then (nI 2 * (nI mx - nI 100), gd_bg (gd_bg (gd_bg K 14) 13) 10) else (nI mx - nI 100, gd_bg (gd_bg K 13) 10)
def gd_mrk (kd i lk mx : Nat) (K : gd_KT) : Int32 × gd_KT :=
  if 4 ≤ kd then (nI i - (gd_isz kd mx (gd_bg (gd_bg K 23) 20)).1, (gd_isz kd mx (gd_bg (gd_bg K 23) 20)).2)
  else if kd = 1 then (nI i + nI lk, gd_bg (gd_bg K 21) 20)
  else if kd = 3 then (nI i + nI lk - nI 1000, gd_bg (gd_bg (gd_bg K 22) 21) 20)
  else (nI 2 * (nI i + nI lk), gd_bg (gd_bg (gd_bg K 24) 21) 20)
def gd_siz (kd i lk mx : Nat) (K : gd_KT) : Int32 × gd_KT :=
  if 4 ≤ kd then gd_isz kd mx K
  else if kd = 2 then (-(nI mx + (gd_mrk kd i lk mx (gd_bg (gd_bg (gd_bg K 12) 11) 10)).1), (gd_mrk kd i lk mx (gd_bg (gd_bg (gd_bg K 12) 11) 10)).2)
  else (nI mx + (gd_mrk kd i lk mx (gd_bg (gd_bg K 11) 10)).1, (gd_mrk kd i lk mx (gd_bg (gd_bg K 11) 10)).2)
def sp_ask (x w : Int32) (τ : Nat → Nat) (K : gd_KT) : Int32 × gd_KT := if gd_has τ x && gd_rng w 0 1 then (if w.toInt = 0 then gd_siz (τ (11 + 3 * x.toNatClampNeg)) x.toNatClampNeg (gd_lk τ x.toNatClampNeg (gd_miss τ 0)) (τ (12 + 3 * x.toNatClampNeg)) (K.1, 0) else gd_mrk (τ (11 + 3 * x.toNatClampNeg)) x.toNatClampNeg (gd_lk τ x.toNatClampNeg (gd_miss τ 0)) (τ (12 + 3 * x.toNatClampNeg)) (K.1, 0)) else (-1000001, K)
def sp_trace (i : Int32) (K : gd_KT) : Int32 := if gd_rng i 0 ((K.2 : Int) - 1) then K.1 i.toNatClampNeg else -1000000
theorem gd_isz_le {kd mx : Nat} {K : gd_KT} (h : K.2 ≤ 16) : (gd_isz kd mx K).2.2 ≤ 16 := by
  rw [gd_isz]
  split
  · exact gd_bg_le (gd_bg_le (gd_bg_le h))
  · exact gd_bg_le (gd_bg_le h)
theorem gd_mrk_le {kd i lk mx : Nat} {K : gd_KT} (h : K.2 ≤ 16) : (gd_mrk kd i lk mx K).2.2 ≤ 16 := by
  rw [gd_mrk]
  split
  · exact gd_isz_le (gd_bg_le (gd_bg_le h))
  · split
    · exact gd_bg_le (gd_bg_le h)
    · split
      · exact gd_bg_le (gd_bg_le (gd_bg_le h))
      · exact gd_bg_le (gd_bg_le (gd_bg_le h))
theorem gd_siz_le {kd i lk mx : Nat} {K : gd_KT} (h : K.2 ≤ 16) : (gd_siz kd i lk mx K).2.2 ≤ 16 := by
  rw [gd_siz]
  split
  · exact gd_isz_le h
  · split
    · exact gd_mrk_le (gd_bg_le (gd_bg_le (gd_bg_le h)))
    · exact gd_mrk_le (gd_bg_le (gd_bg_le h))
theorem sp_ask_le {x w : Int32} {τ : Nat → Nat} {K : gd_KT} (h : K.2 ≤ 16) : (sp_ask x w τ K).2.2 ≤ 16 := by
  rw [sp_ask]
  split
  · split
    · exact gd_siz_le (Nat.zero_le _)
    · exact gd_mrk_le (Nat.zero_le _)
  · exact h
section
variable {E : pj_E} {B : Nat} {l : Launch} {Y : pj_Y} {d mc ms pc q : Nat} {st rest As : List Value} {h : pj_H} {n d' mc' ms' a kd : Nat} {fs : List Value} {P : Option Value → pj_H → Nat → Prop}
theorem vX1_29 (hY : Y.1.cls = RX1) (ha : h a = some (.inr (gd_tc kd, fs))) (hk : 1 ≤ kd ∧ kd ≤ 3) (hC : pj_Ct E B l Y_X8_lookWithout d' mc' ms' (.ref a :: As) h n P) (hd : decode Y.2.1 pc = .ok (.invokevirtual 29, 3)) (hq : pc + 3 = q) (hst : st = As.reverse ++ .ref a :: rest) (hn : As.length = 1) (hw : (rest.map fun v => v.category).sum ≤ 8) (hdd : d' < d) : pj_Run E B l Y d mc ms pc q st rest h n mc' ms' P := by
  rcases (show kd = 1 ∨ kd = 2 ∨ kd = 3 by omega) with rfl | rfl | rfl
  · exact pj_rU hC hd hq (by rw [hY]; exact uX1_29_X1) ha rfl hst hn hw hdd
  · exact pj_rU hC hd hq (by rw [hY]; exact uX1_29_X10) ha rfl hst hn hw hdd
  · exact pj_rU hC hd hq (by rw [hY]; exact uX1_29_X6) ha rfl hst hn hw hdd
theorem vX1_19 (hY : Y.1.cls = RX1) (ha : h a = some (.inr (gd_tc kd, fs))) (hk : 1 ≤ kd ∧ kd ≤ 3) (hC : pj_Ct E B l (gd_Y_markAsked kd) d' mc' ms' (.ref a :: As) h n P) (hd : decode Y.2.1 pc = .ok (.invokevirtual 19, 3)) (hq : pc + 3 = q) (hst : st = As.reverse ++ .ref a :: rest) (hn : As.length = 1) (hw : (rest.map fun v => v.category).sum ≤ 8) (hdd : d' < d) : pj_Run E B l Y d mc ms pc q st rest h n mc' ms' P := by
  rcases (show kd = 1 ∨ kd = 2 ∨ kd = 3 by omega) with rfl | rfl | rfl
  · exact pj_rV (Y' := Y_X1_markAsked) hC hd hq (by rw [hY]; exact kX1_19) o_X1_markAsked ha rfl rfl hst hn hw hdd
  · exact pj_rU hC hd hq (by rw [hY]; exact uX1_19_X10) ha rfl hst hn hw hdd
  · exact pj_rU hC hd hq (by rw [hY]; exact uX1_19_X6) ha rfl hst hn hw hdd
theorem vX4_22 (hY : Y.1.cls = RX4) (ha : h a = some (.inr (gd_tc kd, fs))) (hk : 4 ≤ kd ∧ kd ≤ 5) (hC : pj_Ct E B l (gd_Y_sizeAsked kd) d' mc' ms' (.ref a :: As) h n P) (hd : decode Y.2.1 pc = .ok (.invokevirtual 22, 3)) (hq : pc + 3 = q) (hst : st = As.reverse ++ .ref a :: rest) (hn : As.length = 1) (hw : (rest.map fun v => v.category).sum ≤ 8) (hdd : d' < d) : pj_Run E B l Y d mc ms pc q st rest h n mc' ms' P := by
  rcases (show kd = 4 ∨ kd = 5 by omega) with rfl | rfl
  · exact pj_rV (Y' := Y_X4_sizeAsked) hC hd hq (by rw [hY]; exact kX4_22) o_X4_sizeAsked ha rfl rfl hst hn hw hdd
  · exact pj_rU hC hd hq (by rw [hY]; exact uX4_22_X2) ha rfl hst hn hw hdd
end
theorem gd_cl {kd : Nat} (hk : 1 ≤ kd ∧ kd ≤ 5) : ∃ r : vw_C, vwCl[gd_tc kd]? = some r := by
  rcases gd_kd hk.1 hk.2 with rfl | rfl | rfl | rfl | rfl <;> exact ⟨_, rfl⟩
section
variable {E : pj_E} {B : Nat} {l : Launch} {h : pj_H} {n a0 a kd i sh mx m dd : Nat} {K : gd_KT} {z : Int32}
theorem c_X0_start {m0 : Int32} (hK : gd_KX h a0 K m0) : pj_Ct E B l Y_X0_start 1 0 0 [.ref a0, .int z] h n (pj_is none (gd_kx h a0 (K.1, 0) z) n) := by
  have k0 := hK.1
  refine pj_in rfl (ls := [some (.ref a0), some (.int (z))]) rfl (Nat.le_of_ble_eq_true rfl) ?_
  refine pj_ald0 (q := 1) (pj_d p_X0_start 0 rfl) rfl ?_
  refine pj_iconst (q := 2) (v := nI 0) (pj_d p_X0_start 1 rfl) rfl (by decide) ?_
  refine pj_pf (q := 5) (k := 1) (fs' := [.ref (a0 + 1), .int (nI 0), .int m0]) (pj_d p_X0_start 2 rfl) rfl kX0_15 (by first | assumption | exact gd_kx_0 | exact gd_kx_1 | exact (gd_kx_a (by assumption) (by assumption)).trans (by assumption)) (by rfl) (Or.inl rfl) (by rfl) (by rfl) (by rfl) (by show 1 < 3; decide) (by rfl) ?_
  refine pj_ald0 (q := 6) (pj_d p_X0_start 3 rfl) rfl ?_
  refine pj_ild1 (q := 7) (pj_d p_X0_start 4 rfl) rfl ?_
  refine pj_pf (q := 10) (k := 2) (fs' := [.ref (a0 + 1), .int (nI 0), .int z]) (pj_d p_X0_start 5 rfl) rfl kX0_19 pj_up_s (by rfl) (Or.inl rfl) (by rfl) (by rfl) (by rfl) (by show 2 < 3; decide) (by rfl) ?_
  refine pj_vret rfl (pj_d p_X0_start 6 rfl) (by decide) (by decide) ?_
  refine ⟨rfl, ?_, rfl⟩
  rw [pj_up_up, gd_kx, pj_up_id hK.2]
theorem c_X0_begin (hK : K.2 ≤ 16) (x : Nat) : pj_Ct E B l Y_X0_begin 1 0 0 [.ref a0, .int (nI x)] (gd_kx h a0 K z) n (pj_is none (gd_kx h a0 (gd_bg K x) z) n) := by
  refine pj_in rfl (ls := [some (.ref a0), some (.int (nI x))]) rfl (Nat.le_of_ble_eq_true rfl) ?_
  refine pj_ald0 (q := 1) (pj_d p_X0_begin 0 rfl) rfl ?_
  refine pj_gf (q := 4) (k := 1) (pj_d p_X0_begin 1 rfl) rfl kX0_15 (by first | assumption | exact gd_kx_0 | exact gd_kx_1 | exact (gd_kx_a (by assumption) (by assumption)).trans (by assumption)) (by rfl) (by rfl) ?_
  refine pj_bipush (q := 6) (v := nI 16) (pj_d p_X0_begin 2 rfl) rfl (by decide) ?_
  refine pj_icmp_ge (t := 29) (q := 9) (pj_d p_X0_begin 3 rfl) rfl (by decide) (fun c1 => ?_) (fun c1 => ?_)
  · have : ¬ K.2 < 16 := by have := gd_ge c1 (by omega) (by omega); omega
    refine pj_vret rfl (pj_d p_X0_begin 16 rfl) (by decide) (by decide) ?_
    exact ⟨rfl, by rw [gd_bg, if_neg this], rfl⟩
  have hlt : K.2 < 16 := gd_lt c1 (by omega)
  refine pj_ald0 (q := 10) (pj_d p_X0_begin 4 rfl) rfl ?_
  refine pj_gf (q := 13) (k := 0) (pj_d p_X0_begin 5 rfl) rfl kX0_11 (by first | assumption | exact gd_kx_0 | exact gd_kx_1 | exact (gd_kx_a (by assumption) (by assumption)).trans (by assumption)) (by rfl) (by rfl) ?_
  refine pj_ald0 (q := 14) (pj_d p_X0_begin 6 rfl) rfl ?_
  refine pj_gf (q := 17) (k := 1) (pj_d p_X0_begin 7 rfl) rfl kX0_15 (by first | assumption | exact gd_kx_0 | exact gd_kx_1 | exact (gd_kx_a (by assumption) (by assumption)).trans (by assumption)) (by rfl) (by rfl) ?_
  refine pj_ild1 (q := 18) (pj_d p_X0_begin 8 rfl) rfl ?_
  refine pj_iast (q := 19) (pj_d p_X0_begin 9 rfl) rfl (by first | assumption | exact gd_kx_0 | exact gd_kx_1 | exact (gd_kx_a (by assumption) (by assumption)).trans (by assumption)) (by rfl) (by first | assumption | omega) (Nat.le_of_ble_eq_true rfl) ?_
  refine pj_ald0 (q := 20) (pj_d p_X0_begin 10 rfl) rfl ?_
  refine pj_dup (q := 21) (pj_d p_X0_begin 11 rfl) rfl rfl ?_
  refine pj_gf (q := 24) (k := 1) (pj_d p_X0_begin 12 rfl) rfl kX0_15 ((pj_up_n (by omega)).trans gd_kx_0) (by rfl) (by rfl) ?_
  refine pj_iconst (q := 25) (v := nI 1) (pj_d p_X0_begin 13 rfl) rfl (by decide) ?_
  refine pj_iadd (q := 26) (pj_d p_X0_begin 14 rfl) rfl ?_
  rw [nI_add]
  refine pj_pf (q := 29) (k := 1) (fs' := [.ref (a0 + 1), .int (nI (K.2 + 1)), .int z]) (pj_d p_X0_begin 15 rfl) rfl kX0_15 ((pj_up_n (by omega)).trans gd_kx_0) (by rfl) (Or.inl rfl) (by rfl) (by rfl) (by rfl) (by show 1 < 3; decide) (by rfl) ?_
  refine pj_vret rfl (pj_d p_X0_begin 16 rfl) (by decide) (by decide) ?_
  refine ⟨rfl, ?_, rfl⟩
  rw [gd_bg, if_pos hlt]
  exact gd_kx_up (K' := (upd K.1 K.2 (nI x), K.2 + 1))
theorem c_X0_missingToday : pj_Ct E B l Y_X0_missingToday 1 0 0 [.ref a0] (gd_kx h a0 K z) n (pj_is (some (.int z)) (gd_kx h a0 K z) n) := by
  refine pj_in rfl (ls := [some (.ref a0)]) rfl (Nat.le_of_ble_eq_true rfl) ?_
  refine pj_ald0 (q := 1) (pj_d p_X0_missingToday 0 rfl) rfl ?_
  refine pj_gf (q := 4) (k := 2) (pj_d p_X0_missingToday 1 rfl) rfl kX0_19 (by first | assumption | exact gd_kx_0 | exact gd_kx_1 | exact (gd_kx_a (by assumption) (by assumption)).trans (by assumption)) (by rfl) (by rfl) ?_
  refine pj_iret rfl (pj_d p_X0_missingToday 2 rfl) (by decide) (by decide) ?_
  exact ⟨rfl, rfl, rfl⟩
theorem c_X0_left (hK : gd_KX h a0 K z) (hle : K.2 ≤ 16) (x : Int32) : pj_Ct E B l Y_X0_left 1 0 0 [.ref a0, .int x] h n (pj_is (some (.int (sp_trace x K))) h n) := by
  obtain ⟨k0, k1⟩ := hK
  refine pj_in rfl (ls := [some (.ref a0), some (.int (x))]) rfl (Nat.le_of_ble_eq_true rfl) ?_
  have no : gd_rng x 0 ((K.2 : Int) - 1) = false → pj_V E B l Y_X0_left 1 0 0 21 [some (.ref a0), some (.int (x))] [] h n 0 0 (pj_is (some (.int (sp_trace x K))) h n) := by
    intro hn
    refine pj_ldc (q := 23) (pj_d p_X0_left 11 rfl) rfl kX0_22 ?_
    refine pj_iret rfl (pj_d p_X0_left 12 rfl) (by decide) (by decide) ?_
    exact ⟨by rw [sp_trace, hn]; rfl, rfl, rfl⟩
  refine pj_ild1 (q := 1) (pj_d p_X0_left 0 rfl) rfl ?_
  refine pj_if_lt (t := 21) (q := 4) (pj_d p_X0_left 1 rfl) rfl (by decide) (fun c1 => ?_) (fun c1 => ?_)
  · exact no (gd_rng_lo (by decide) c1)
  refine pj_ild1 (q := 5) (pj_d p_X0_left 2 rfl) rfl ?_
  refine pj_ald0 (q := 6) (pj_d p_X0_left 3 rfl) rfl ?_
  refine pj_gf (q := 9) (k := 1) (pj_d p_X0_left 4 rfl) rfl kX0_15 (by first | assumption | exact gd_kx_0 | exact gd_kx_1 | exact (gd_kx_a (by assumption) (by assumption)).trans (by assumption)) (by rfl) (by rfl) ?_
  have e2 : (nI K.2).toInt = (K.2 : Int) := nI_toInt (by omega)
  refine pj_icmp_ge (t := 21) (q := 12) (pj_d p_X0_left 5 rfl) rfl (by decide) (fun c2 => ?_) (fun c2 => ?_)
  · refine no ?_
    rw [Int32.le_iff_toInt_le, e2] at c2
    rw [gd_rng]
    exact decide_eq_false (by omega)
  rw [Int32.le_iff_toInt_le, e2] at c2
  rw [Int32.lt_iff_toInt_lt] at c1
  have c1 : ¬ x.toInt < 0 := c1
  have e1 : gd_rng x 0 ((K.2 : Int) - 1) = true := by
    rw [gd_rng]
    exact decide_eq_true (by omega)
  obtain ⟨j, hj, rfl, hc⟩ : ∃ j, j < K.2 ∧ x = nI j ∧ x.toNatClampNeg = j := by
    refine ⟨x.toInt.toNat, by omega, ?_, ?_⟩
    · apply Int32.toInt.inj
      rw [nI_toInt (by omega)]
      omega
    · exact rfl
  refine pj_ald0 (q := 13) (pj_d p_X0_left 6 rfl) rfl ?_
  refine pj_gf (q := 16) (k := 0) (pj_d p_X0_left 7 rfl) rfl kX0_11 (by first | assumption | exact gd_kx_0 | exact gd_kx_1 | exact (gd_kx_a (by assumption) (by assumption)).trans (by assumption)) (by rfl) (by rfl) ?_
  refine pj_ild1 (q := 17) (pj_d p_X0_left 8 rfl) rfl ?_
  refine pj_ialdN (q := 18) (pj_d p_X0_left 9 rfl) rfl (by first | assumption | exact gd_kx_0 | exact gd_kx_1 | exact (gd_kx_a (by assumption) (by assumption)).trans (by assumption)) (by rfl) (by first | assumption | omega) (Nat.le_of_ble_eq_true rfl) ?_
  refine pj_goto (t := 23) (pj_d p_X0_left 10 rfl) (by decide) ?_
  refine pj_iret rfl (pj_d p_X0_left 12 rfl) (by decide) (by decide) ?_
  exact ⟨by rw [sp_trace, e1, hc]; rfl, rfl, rfl⟩
theorem c_X8_sizeAsked (hk : 1 ≤ kd ∧ kd ≤ 5) (ha : h a = some (.inr (gd_tc kd, [.int (nI i), .int (nI sh), .int (nI mx)]))) (n0 : a ≠ a0) (n1 : a ≠ a0 + 1) (hK : K.2 ≤ 16) : pj_Ct E B l Y_X8_sizeAsked 2 0 0 [.ref a, .ref a0] (gd_kx h a0 K z) n (pj_is (some (.int (nI mx))) (gd_kx h a0 (gd_bg K 10) z) n) := by
  have hF : pj_fld (gd_tc kd) 2 = some ("GreyDays$Thing", "mix", "I", false) := by rcases gd_kd hk.1 hk.2 with rfl | rfl | rfl | rfl | rfl <;> rfl
  refine pj_in rfl (ls := [some (.ref a), some (.ref a0)]) rfl (Nat.le_of_ble_eq_true rfl) ?_
  refine pj_ald1 (q := 1) (pj_d p_X8_sizeAsked 0 rfl) rfl ?_
  refine pj_bipush (q := 3) (v := nI 10) (pj_d p_X8_sizeAsked 1 rfl) rfl (by decide) ?_
  refine pj_cv (pj_rV (q := 6) (c_X0_begin hK 10) (pj_d p_X8_sizeAsked 2 rfl) rfl kX8_25 o_X0_begin (by first | assumption | exact gd_kx_0 | exact gd_kx_1 | exact (gd_kx_a (by assumption) (by assumption)).trans (by assumption)) (by rfl) (by rfl) (by rfl) (by rfl) (Nat.le_of_ble_eq_true rfl) (by decide)) (by decide) (by decide) ?_
  rintro r1 h1 n1' ⟨rfl, rfl, rfl⟩
  refine pj_ald0 (q := 7) (pj_d p_X8_sizeAsked 3 rfl) rfl ?_
  refine pj_gf (q := 10) (k := 2) (pj_d p_X8_sizeAsked 4 rfl) rfl kX8_13 ((gd_kx_a n0 n1).trans ha) hF rfl ?_
  refine pj_iret rfl (pj_d p_X8_sizeAsked 5 rfl) (by decide) (by decide) ?_
  exact ⟨rfl, rfl, rfl⟩
theorem c_X8_markAsked (hk : 1 ≤ kd ∧ kd ≤ 5) (ha : h a = some (.inr (gd_tc kd, [.int (nI i), .int (nI sh), .int (nI mx)]))) (n0 : a ≠ a0) (n1 : a ≠ a0 + 1) (hK : K.2 ≤ 16) : pj_Ct E B l Y_X8_markAsked 2 0 0 [.ref a, .ref a0] (gd_kx h a0 K z) n (pj_is (some (.int (nI i))) (gd_kx h a0 (gd_bg K 20) z) n) := by
  have hF : pj_fld (gd_tc kd) 0 = some ("GreyDays$Thing", "number", "I", true) := by rcases gd_kd hk.1 hk.2 with rfl | rfl | rfl | rfl | rfl <;> rfl
  refine pj_in rfl (ls := [some (.ref a), some (.ref a0)]) rfl (Nat.le_of_ble_eq_true rfl) ?_
  refine pj_ald1 (q := 1) (pj_d p_X8_markAsked 0 rfl) rfl ?_
  refine pj_bipush (q := 3) (v := nI 20) (pj_d p_X8_markAsked 1 rfl) rfl (by decide) ?_
  refine pj_cv (pj_rV (q := 6) (c_X0_begin hK 20) (pj_d p_X8_markAsked 2 rfl) rfl kX8_25 o_X0_begin (by first | assumption | exact gd_kx_0 | exact gd_kx_1 | exact (gd_kx_a (by assumption) (by assumption)).trans (by assumption)) (by rfl) (by rfl) (by rfl) (by rfl) (Nat.le_of_ble_eq_true rfl) (by decide)) (by decide) (by decide) ?_
  rintro r1 h1 n1' ⟨rfl, rfl, rfl⟩
  refine pj_ald0 (q := 7) (pj_d p_X8_markAsked 3 rfl) rfl ?_
  refine pj_gf (q := 10) (k := 0) (pj_d p_X8_markAsked 4 rfl) rfl kX8_7 ((gd_kx_a n0 n1).trans ha) hF rfl ?_
  refine pj_iret rfl (pj_d p_X8_markAsked 5 rfl) (by decide) (by decide) ?_
  exact ⟨rfl, rfl, rfl⟩
theorem c_X1_markAsked (hdd : 4 ≤ dd) (hk : 1 ≤ kd ∧ kd ≤ 3) (ha : h a = some (.inr (gd_tc kd, [.int (nI i), .int (nI sh), .int (nI mx)]))) (n0 : a ≠ a0) (n1 : a ≠ a0 + 1) (hK : K.2 ≤ 16) (hx : mx < 32) (hm : m < 32) : pj_Ct E B l Y_X1_markAsked dd 0 0 [.ref a, .ref a0] (gd_kx h a0 K (nI m)) n (pj_is (some (.int (nI i + nI (gd_look kd mx sh m)))) (gd_kx h a0 (gd_bg (gd_bg K 21) 20) (nI m)) n) := by
  have hk5 : 1 ≤ kd ∧ kd ≤ 5 := by omega
  obtain ⟨r, hr⟩ := gd_cl hk5
  refine pj_in rfl (ls := [some (.ref a), some (.ref a0), none]) rfl (Nat.le_of_ble_eq_true rfl) ?_
  refine pj_ald1 (q := 1) (pj_d p_X1_markAsked 0 rfl) rfl ?_
  refine pj_bipush (q := 3) (v := nI 21) (pj_d p_X1_markAsked 1 rfl) rfl (by decide) ?_
  refine pj_cv (pj_rV (q := 6) (c_X0_begin hK 21) (pj_d p_X1_markAsked 2 rfl) rfl kX1_9 o_X0_begin (by first | assumption | exact gd_kx_0 | exact gd_kx_1 | exact (gd_kx_a (by assumption) (by assumption)).trans (by assumption)) (by rfl) (by rfl) (by rfl) (by rfl) (Nat.le_of_ble_eq_true rfl) (by omega)) (by decide) (by decide) ?_
  rintro r1 h1 n1' ⟨rfl, rfl, rfl⟩
  refine pj_ald0 (q := 7) (pj_d p_X1_markAsked 3 rfl) rfl ?_
  refine pj_ald1 (q := 8) (pj_d p_X1_markAsked 4 rfl) rfl ?_
  refine pj_cv (pj_rX (q := 11) (c_X8_markAsked hk5 ha n0 n1 (gd_bg_le hK)) (pj_d p_X1_markAsked 5 rfl) rfl xX1_24 ((gd_kx_a n0 n1).trans ha) hr (by rfl) (by rfl) (Nat.le_of_ble_eq_true rfl) (by omega)) (by decide) (by decide) ?_
  rintro r1 h1 n1' ⟨rfl, rfl, rfl⟩
  refine pj_ist2 (q := 12) (pj_d p_X1_markAsked 6 rfl) rfl (by first | rfl | assumption) ?_
  refine pj_ild2 (q := 13) (pj_d p_X1_markAsked 7 rfl) rfl ?_
  refine pj_ald0 (q := 14) (pj_d p_X1_markAsked 8 rfl) rfl ?_
  refine pj_ald1 (q := 15) (pj_d p_X1_markAsked 9 rfl) rfl ?_
  refine pj_cp (pj_rV (q := 18) (c_X0_missingToday) (pj_d p_X1_markAsked 10 rfl) rfl kX1_25 o_X0_missingToday (by first | assumption | exact gd_kx_0 | exact gd_kx_1 | exact (gd_kx_a (by assumption) (by assumption)).trans (by assumption)) (by rfl) (by rfl) (by rfl) (by rfl) (Nat.le_of_ble_eq_true rfl) (by omega)) (by decide) (by decide) ?_
  refine pj_cp (vX1_29 (q := 21) rfl ((gd_kx_a n0 n1).trans ha) hk (c_X8_lookWithout hk5 ((gd_kx_a n0 n1).trans ha) m hx hm) (pj_d p_X1_markAsked 11 rfl) rfl rfl rfl (Nat.le_of_ble_eq_true rfl) (by omega)) (by decide) (by decide) ?_
  refine pj_iadd (q := 22) (pj_d p_X1_markAsked 12 rfl) rfl ?_
  refine pj_iret rfl (pj_d p_X1_markAsked 13 rfl) (by decide) (by decide) ?_
  exact ⟨rfl, rfl, rfl⟩
theorem c_X10_markAsked (hdd : 5 ≤ dd) (ha : h a = some (.inr (gd_tc 2, [.int (nI i), .int (nI sh), .int (nI mx)]))) (n0 : a ≠ a0) (n1 : a ≠ a0 + 1) (hK : K.2 ≤ 16) (hx : mx < 32) (hm : m < 32) : pj_Ct E B l Y_X10_markAsked dd 0 0 [.ref a, .ref a0] (gd_kx h a0 K (nI m)) n (pj_is (some (.int (nI 2 * (nI i + nI (gd_look 2 mx sh m))))) (gd_kx h a0 (gd_bg (gd_bg (gd_bg K 24) 21) 20) (nI m)) n) := by
  refine pj_in rfl (ls := [some (.ref a), some (.ref a0)]) rfl (Nat.le_of_ble_eq_true rfl) ?_
  refine pj_ald1 (q := 1) (pj_d p_X10_markAsked 0 rfl) rfl ?_
  refine pj_bipush (q := 3) (v := nI 24) (pj_d p_X10_markAsked 1 rfl) rfl (by decide) ?_
  refine pj_cv (pj_rV (q := 6) (c_X0_begin hK 24) (pj_d p_X10_markAsked 2 rfl) rfl kX10_9 o_X0_begin (by first | assumption | exact gd_kx_0 | exact gd_kx_1 | exact (gd_kx_a (by assumption) (by assumption)).trans (by assumption)) (by rfl) (by rfl) (by rfl) (by rfl) (Nat.le_of_ble_eq_true rfl) (by omega)) (by decide) (by decide) ?_
  rintro r1 h1 n1' ⟨rfl, rfl, rfl⟩
  refine pj_iconst (q := 7) (v := nI 2) (pj_d p_X10_markAsked 3 rfl) rfl (by decide) ?_
  refine pj_ald0 (q := 8) (pj_d p_X10_markAsked 4 rfl) rfl ?_
  refine pj_ald1 (q := 9) (pj_d p_X10_markAsked 5 rfl) rfl ?_
  refine pj_cv (pj_rX (q := 12) (c_X1_markAsked (dd := 4) (by omega) (by omega) ha n0 n1 (gd_bg_le hK) hx hm) (pj_d p_X10_markAsked 6 rfl) rfl xX10_19 ((gd_kx_a n0 n1).trans ha) (rfl : vwCl[gd_tc 2]? = some (RX10, TX10, 3)) (by rfl) (by rfl) (Nat.le_of_ble_eq_true rfl) (by omega)) (by decide) (by decide) ?_
  rintro r1 h1 n1' ⟨rfl, rfl, rfl⟩
  refine pj_imul (q := 13) (pj_d p_X10_markAsked 7 rfl) rfl ?_
  refine pj_iret rfl (pj_d p_X10_markAsked 8 rfl) (by decide) (by decide) ?_
  exact ⟨rfl, rfl, rfl⟩
theorem c_X6_markAsked (hdd : 5 ≤ dd) (ha : h a = some (.inr (gd_tc 3, [.int (nI i), .int (nI sh), .int (nI mx)]))) (n0 : a ≠ a0) (n1 : a ≠ a0 + 1) (hK : K.2 ≤ 16) (hx : mx < 32) (hm : m < 32) : pj_Ct E B l Y_X6_markAsked dd 0 0 [.ref a, .ref a0] (gd_kx h a0 K (nI m)) n (pj_is (some (.int (nI i + nI (gd_look 3 mx sh m) - nI 1000))) (gd_kx h a0 (gd_bg (gd_bg (gd_bg K 22) 21) 20) (nI m)) n) := by
  refine pj_in rfl (ls := [some (.ref a), some (.ref a0)]) rfl (Nat.le_of_ble_eq_true rfl) ?_
  refine pj_ald1 (q := 1) (pj_d p_X6_markAsked 0 rfl) rfl ?_
  refine pj_bipush (q := 3) (v := nI 22) (pj_d p_X6_markAsked 1 rfl) rfl (by decide) ?_
  refine pj_cv (pj_rV (q := 6) (c_X0_begin hK 22) (pj_d p_X6_markAsked 2 rfl) rfl kX6_15 o_X0_begin (by first | assumption | exact gd_kx_0 | exact gd_kx_1 | exact (gd_kx_a (by assumption) (by assumption)).trans (by assumption)) (by rfl) (by rfl) (by rfl) (by rfl) (Nat.le_of_ble_eq_true rfl) (by omega)) (by decide) (by decide) ?_
  rintro r1 h1 n1' ⟨rfl, rfl, rfl⟩
  refine pj_ald0 (q := 7) (pj_d p_X6_markAsked 3 rfl) rfl ?_
  refine pj_ald1 (q := 8) (pj_d p_X6_markAsked 4 rfl) rfl ?_
  refine pj_cv (pj_rX (q := 11) (c_X1_markAsked (dd := 4) (by omega) (by omega) ha n0 n1 (gd_bg_le hK) hx hm) (pj_d p_X6_markAsked 5 rfl) rfl xX6_21 ((gd_kx_a n0 n1).trans ha) (rfl : vwCl[gd_tc 3]? = some (RX6, TX6, 3)) (by rfl) (by rfl) (Nat.le_of_ble_eq_true rfl) (by omega)) (by decide) (by decide) ?_
  rintro r1 h1 n1' ⟨rfl, rfl, rfl⟩
  refine pj_sipush (q := 14) (v := nI 1000) (pj_d p_X6_markAsked 6 rfl) rfl (by decide) ?_
  refine pj_isub (q := 15) (pj_d p_X6_markAsked 7 rfl) rfl ?_
  refine pj_iret rfl (pj_d p_X6_markAsked 8 rfl) (by decide) (by decide) ?_
  exact ⟨rfl, rfl, rfl⟩
theorem c_X4_sizeAsked (hdd : 3 ≤ dd) (hk : 4 ≤ kd ∧ kd ≤ 5) (ha : h a = some (.inr (gd_tc kd, [.int (nI i), .int (nI sh), .int (nI mx)]))) (n0 : a ≠ a0) (n1 : a ≠ a0 + 1) (hK : K.2 ≤ 16) : pj_Ct E B l Y_X4_sizeAsked dd 0 0 [.ref a, .ref a0] (gd_kx h a0 K z) n (pj_is (some (.int (nI mx - nI 100))) (gd_kx h a0 (gd_bg (gd_bg K 13) 10) z) n) := by
  have hk5 : 1 ≤ kd ∧ kd ≤ 5 := by omega
  obtain ⟨r, hr⟩ := gd_cl hk5
  refine pj_in rfl (ls := [some (.ref a), some (.ref a0)]) rfl (Nat.le_of_ble_eq_true rfl) ?_
  refine pj_ald1 (q := 1) (pj_d p_X4_sizeAsked 0 rfl) rfl ?_
  refine pj_bipush (q := 3) (v := nI 13) (pj_d p_X4_sizeAsked 1 rfl) rfl (by decide) ?_
  refine pj_cv (pj_rV (q := 6) (c_X0_begin hK 13) (pj_d p_X4_sizeAsked 2 rfl) rfl kX4_9 o_X0_begin (by first | assumption | exact gd_kx_0 | exact gd_kx_1 | exact (gd_kx_a (by assumption) (by assumption)).trans (by assumption)) (by rfl) (by rfl) (by rfl) (by rfl) (Nat.le_of_ble_eq_true rfl) (by omega)) (by decide) (by decide) ?_
  rintro r1 h1 n1' ⟨rfl, rfl, rfl⟩
  refine pj_ald0 (q := 7) (pj_d p_X4_sizeAsked 3 rfl) rfl ?_
  refine pj_ald1 (q := 8) (pj_d p_X4_sizeAsked 4 rfl) rfl ?_
  refine pj_cv (pj_rX (q := 11) (c_X8_sizeAsked hk5 ha n0 n1 (gd_bg_le hK)) (pj_d p_X4_sizeAsked 5 rfl) rfl xX4_15 ((gd_kx_a n0 n1).trans ha) hr (by rfl) (by rfl) (Nat.le_of_ble_eq_true rfl) (by omega)) (by decide) (by decide) ?_
  rintro r1 h1 n1' ⟨rfl, rfl, rfl⟩
  refine pj_bipush (q := 13) (v := nI 100) (pj_d p_X4_sizeAsked 6 rfl) rfl (by decide) ?_
  refine pj_isub (q := 14) (pj_d p_X4_sizeAsked 7 rfl) rfl ?_
  refine pj_iret rfl (pj_d p_X4_sizeAsked 8 rfl) (by decide) (by decide) ?_
  exact ⟨rfl, rfl, rfl⟩
theorem c_X2_sizeAsked (hdd : 4 ≤ dd) (ha : h a = some (.inr (gd_tc 5, [.int (nI i), .int (nI sh), .int (nI mx)]))) (n0 : a ≠ a0) (n1 : a ≠ a0 + 1) (hK : K.2 ≤ 16) : pj_Ct E B l Y_X2_sizeAsked dd 0 0 [.ref a, .ref a0] (gd_kx h a0 K z) n (pj_is (some (.int (nI 2 * (nI mx - nI 100)))) (gd_kx h a0 (gd_bg (gd_bg (gd_bg K 14) 13) 10) z) n) := by
  refine pj_in rfl (ls := [some (.ref a), some (.ref a0)]) rfl (Nat.le_of_ble_eq_true rfl) ?_
  refine pj_ald1 (q := 1) (pj_d p_X2_sizeAsked 0 rfl) rfl ?_
  refine pj_bipush (q := 3) (v := nI 14) (pj_d p_X2_sizeAsked 1 rfl) rfl (by decide) ?_
  refine pj_cv (pj_rV (q := 6) (c_X0_begin hK 14) (pj_d p_X2_sizeAsked 2 rfl) rfl kX2_9 o_X0_begin (by first | assumption | exact gd_kx_0 | exact gd_kx_1 | exact (gd_kx_a (by assumption) (by assumption)).trans (by assumption)) (by rfl) (by rfl) (by rfl) (by rfl) (Nat.le_of_ble_eq_true rfl) (by omega)) (by decide) (by decide) ?_
  rintro r1 h1 n1' ⟨rfl, rfl, rfl⟩
  refine pj_iconst (q := 7) (v := nI 2) (pj_d p_X2_sizeAsked 3 rfl) rfl (by decide) ?_
  refine pj_ald0 (q := 8) (pj_d p_X2_sizeAsked 4 rfl) rfl ?_
  refine pj_ald1 (q := 9) (pj_d p_X2_sizeAsked 5 rfl) rfl ?_
  refine pj_cv (pj_rX (q := 12) (c_X4_sizeAsked (dd := 3) (by omega) (by omega) ha n0 n1 (gd_bg_le hK)) (pj_d p_X2_sizeAsked 6 rfl) rfl xX2_15 ((gd_kx_a n0 n1).trans ha) (rfl : vwCl[gd_tc 5]? = some (RX2, TX2, 3)) (by rfl) (by rfl) (Nat.le_of_ble_eq_true rfl) (by omega)) (by decide) (by decide) ?_
  rintro r1 h1 n1' ⟨rfl, rfl, rfl⟩
  refine pj_imul (q := 13) (pj_d p_X2_sizeAsked 7 rfl) rfl ?_
  refine pj_iret rfl (pj_d p_X2_sizeAsked 8 rfl) (by decide) (by decide) ?_
  exact ⟨rfl, rfl, rfl⟩
theorem c_isz (hdd : 4 ≤ dd) (hk : 4 ≤ kd ∧ kd ≤ 5) (ha : h a = some (.inr (gd_tc kd, [.int (nI i), .int (nI sh), .int (nI mx)]))) (n0 : a ≠ a0) (n1 : a ≠ a0 + 1) (hK : K.2 ≤ 16) : pj_Ct E B l (gd_Y_sizeAsked kd) dd 0 0 [.ref a, .ref a0] (gd_kx h a0 K z) n (pj_is (some (.int (gd_isz kd mx K).1)) (gd_kx h a0 (gd_isz kd mx K).2 z) n) := by
  rcases (show kd = 4 ∨ kd = 5 by omega) with rfl | rfl
  · exact c_X4_sizeAsked (by omega) (by omega) ha n0 n1 hK
  · exact c_X2_sizeAsked (by omega) ha n0 n1 hK
theorem c_X4_markAsked (hdd : 5 ≤ dd) (hk : 4 ≤ kd ∧ kd ≤ 5) (ha : h a = some (.inr (gd_tc kd, [.int (nI i), .int (nI sh), .int (nI mx)]))) (n0 : a ≠ a0) (n1 : a ≠ a0 + 1) (hK : K.2 ≤ 16) : pj_Ct E B l Y_X4_markAsked dd 0 0 [.ref a, .ref a0] (gd_kx h a0 K z) n (pj_is (some (.int (nI i - (gd_isz kd mx (gd_bg (gd_bg K 23) 20)).1))) (gd_kx h a0 (gd_isz kd mx (gd_bg (gd_bg K 23) 20)).2 z) n) := by
  have hk5 : 1 ≤ kd ∧ kd ≤ 5 := by omega
  obtain ⟨r, hr⟩ := gd_cl hk5
  refine pj_in rfl (ls := [some (.ref a), some (.ref a0), none]) rfl (Nat.le_of_ble_eq_true rfl) ?_
  refine pj_ald1 (q := 1) (pj_d p_X4_markAsked 0 rfl) rfl ?_
  refine pj_bipush (q := 3) (v := nI 23) (pj_d p_X4_markAsked 1 rfl) rfl (by decide) ?_
  refine pj_cv (pj_rV (q := 6) (c_X0_begin hK 23) (pj_d p_X4_markAsked 2 rfl) rfl kX4_9 o_X0_begin (by first | assumption | exact gd_kx_0 | exact gd_kx_1 | exact (gd_kx_a (by assumption) (by assumption)).trans (by assumption)) (by rfl) (by rfl) (by rfl) (by rfl) (Nat.le_of_ble_eq_true rfl) (by omega)) (by decide) (by decide) ?_
  rintro r1 h1 n1' ⟨rfl, rfl, rfl⟩
  refine pj_ald0 (q := 7) (pj_d p_X4_markAsked 3 rfl) rfl ?_
  refine pj_ald1 (q := 8) (pj_d p_X4_markAsked 4 rfl) rfl ?_
  refine pj_cv (pj_rX (q := 11) (c_X8_markAsked hk5 ha n0 n1 (gd_bg_le hK)) (pj_d p_X4_markAsked 5 rfl) rfl xX4_19 ((gd_kx_a n0 n1).trans ha) hr (by rfl) (by rfl) (Nat.le_of_ble_eq_true rfl) (by omega)) (by decide) (by decide) ?_
  rintro r1 h1 n1' ⟨rfl, rfl, rfl⟩
  refine pj_ist2 (q := 12) (pj_d p_X4_markAsked 6 rfl) rfl (by first | rfl | assumption) ?_
  refine pj_ild2 (q := 13) (pj_d p_X4_markAsked 7 rfl) rfl ?_
  refine pj_ald0 (q := 14) (pj_d p_X4_markAsked 8 rfl) rfl ?_
  refine pj_ald1 (q := 15) (pj_d p_X4_markAsked 9 rfl) rfl ?_
  refine pj_cv (vX4_22 (q := 18) rfl ((gd_kx_a n0 n1).trans ha) hk (c_isz (dd := 4) (by omega) hk ha n0 n1 (gd_bg_le (gd_bg_le hK))) (pj_d p_X4_markAsked 10 rfl) rfl (by rfl) (by rfl) (Nat.le_of_ble_eq_true rfl) (by omega)) (by decide) (by decide) ?_
  rintro r1 h1 n1' ⟨rfl, rfl, rfl⟩
  refine pj_isub (q := 19) (pj_d p_X4_markAsked 11 rfl) rfl ?_
  refine pj_iret rfl (pj_d p_X4_markAsked 12 rfl) (by decide) (by decide) ?_
  exact ⟨rfl, rfl, rfl⟩
theorem c_mrk (hdd : 5 ≤ dd) (hk : 1 ≤ kd ∧ kd ≤ 5) (ha : h a = some (.inr (gd_tc kd, [.int (nI i), .int (nI sh), .int (nI mx)]))) (n0 : a ≠ a0) (n1 : a ≠ a0 + 1) (hK : K.2 ≤ 16) (hx : mx < 32) (hm : m < 32) : pj_Ct E B l (gd_Y_markAsked kd) dd 0 0 [.ref a, .ref a0] (gd_kx h a0 K (nI m)) n (pj_is (some (.int (gd_mrk kd i (gd_look kd mx sh m) mx K).1)) (gd_kx h a0 (gd_mrk kd i (gd_look kd mx sh m) mx K).2 (nI m)) n) := by
  rcases gd_kd hk.1 hk.2 with rfl | rfl | rfl | rfl | rfl
  · exact c_X1_markAsked (by omega) (by omega) ha n0 n1 hK hx hm
  · exact c_X10_markAsked (by omega) ha n0 n1 hK hx hm
  · exact c_X6_markAsked (by omega) ha n0 n1 hK hx hm
  · exact c_X4_markAsked (by omega) (by omega) ha n0 n1 hK
  · exact c_X4_markAsked (by omega) (by omega) ha n0 n1 hK
theorem c_X1_sizeAsked (hdd : 6 ≤ dd) (hk : 1 ≤ kd ∧ kd ≤ 3) (ha : h a = some (.inr (gd_tc kd, [.int (nI i), .int (nI sh), .int (nI mx)]))) (n0 : a ≠ a0) (n1 : a ≠ a0 + 1) (hK : K.2 ≤ 16) (hx : mx < 32) (hm : m < 32) : pj_Ct E B l Y_X1_sizeAsked dd 0 0 [.ref a, .ref a0] (gd_kx h a0 K (nI m)) n (pj_is (some (.int (nI mx + (gd_mrk kd i (gd_look kd mx sh m) mx (gd_bg (gd_bg K 11) 10)).1))) (gd_kx h a0 (gd_mrk kd i (gd_look kd mx sh m) mx (gd_bg (gd_bg K 11) 10)).2 (nI m)) n) := by
  have hk5 : 1 ≤ kd ∧ kd ≤ 5 := by omega
  obtain ⟨r, hr⟩ := gd_cl hk5
  refine pj_in rfl (ls := [some (.ref a), some (.ref a0), none]) rfl (Nat.le_of_ble_eq_true rfl) ?_
  refine pj_ald1 (q := 1) (pj_d p_X1_sizeAsked 0 rfl) rfl ?_
  refine pj_bipush (q := 3) (v := nI 11) (pj_d p_X1_sizeAsked 1 rfl) rfl (by decide) ?_
  refine pj_cv (pj_rV (q := 6) (c_X0_begin hK 11) (pj_d p_X1_sizeAsked 2 rfl) rfl kX1_9 o_X0_begin (by first | assumption | exact gd_kx_0 | exact gd_kx_1 | exact (gd_kx_a (by assumption) (by assumption)).trans (by assumption)) (by rfl) (by rfl) (by rfl) (by rfl) (Nat.le_of_ble_eq_true rfl) (by omega)) (by decide) (by decide) ?_
  rintro r1 h1 n1' ⟨rfl, rfl, rfl⟩
  refine pj_ald0 (q := 7) (pj_d p_X1_sizeAsked 3 rfl) rfl ?_
  refine pj_ald1 (q := 8) (pj_d p_X1_sizeAsked 4 rfl) rfl ?_
  refine pj_cv (pj_rX (q := 11) (c_X8_sizeAsked hk5 ha n0 n1 (gd_bg_le hK)) (pj_d p_X1_sizeAsked 5 rfl) rfl xX1_15 ((gd_kx_a n0 n1).trans ha) hr (by rfl) (by rfl) (Nat.le_of_ble_eq_true rfl) (by omega)) (by decide) (by decide) ?_
  rintro r1 h1 n1' ⟨rfl, rfl, rfl⟩
  refine pj_ist2 (q := 12) (pj_d p_X1_sizeAsked 6 rfl) rfl (by first | rfl | assumption) ?_
  refine pj_ild2 (q := 13) (pj_d p_X1_sizeAsked 7 rfl) rfl ?_
  refine pj_ald0 (q := 14) (pj_d p_X1_sizeAsked 8 rfl) rfl ?_
  refine pj_ald1 (q := 15) (pj_d p_X1_sizeAsked 9 rfl) rfl ?_
  refine pj_cv (vX1_19 (q := 18) rfl ((gd_kx_a n0 n1).trans ha) hk (c_mrk (dd := 5) (by omega) hk5 ha n0 n1 (gd_bg_le (gd_bg_le hK)) hx hm) (pj_d p_X1_sizeAsked 10 rfl) rfl (by rfl) (by rfl) (Nat.le_of_ble_eq_true rfl) (by omega)) (by decide) (by decide) ?_
  rintro r1 h1 n1' ⟨rfl, rfl, rfl⟩
  refine pj_iadd (q := 19) (pj_d p_X1_sizeAsked 11 rfl) rfl ?_
  refine pj_iret rfl (pj_d p_X1_sizeAsked 12 rfl) (by decide) (by decide) ?_
  exact ⟨rfl, rfl, rfl⟩
theorem c_X10_sizeAsked (hdd : 7 ≤ dd) (ha : h a = some (.inr (gd_tc 2, [.int (nI i), .int (nI sh), .int (nI mx)]))) (n0 : a ≠ a0) (n1 : a ≠ a0 + 1) (hK : K.2 ≤ 16) (hx : mx < 32) (hm : m < 32) : pj_Ct E B l Y_X10_sizeAsked dd 0 0 [.ref a, .ref a0] (gd_kx h a0 K (nI m)) n (pj_is (some (.int (-(nI mx + (gd_mrk 2 i (gd_look 2 mx sh m) mx (gd_bg (gd_bg (gd_bg K 12) 11) 10)).1)))) (gd_kx h a0 (gd_mrk 2 i (gd_look 2 mx sh m) mx (gd_bg (gd_bg (gd_bg K 12) 11) 10)).2 (nI m)) n) := by
  refine pj_in rfl (ls := [some (.ref a), some (.ref a0)]) rfl (Nat.le_of_ble_eq_true rfl) ?_
  refine pj_ald1 (q := 1) (pj_d p_X10_sizeAsked 0 rfl) rfl ?_
  refine pj_bipush (q := 3) (v := nI 12) (pj_d p_X10_sizeAsked 1 rfl) rfl (by decide) ?_
  refine pj_cv (pj_rV (q := 6) (c_X0_begin hK 12) (pj_d p_X10_sizeAsked 2 rfl) rfl kX10_9 o_X0_begin (by first | assumption | exact gd_kx_0 | exact gd_kx_1 | exact (gd_kx_a (by assumption) (by assumption)).trans (by assumption)) (by rfl) (by rfl) (by rfl) (by rfl) (Nat.le_of_ble_eq_true rfl) (by omega)) (by decide) (by decide) ?_
  rintro r1 h1 n1' ⟨rfl, rfl, rfl⟩
  refine pj_ald0 (q := 7) (pj_d p_X10_sizeAsked 3 rfl) rfl ?_
  refine pj_ald1 (q := 8) (pj_d p_X10_sizeAsked 4 rfl) rfl ?_
  refine pj_cv (pj_rX (q := 11) (c_X1_sizeAsked (dd := 6) (by omega) (by omega) ha n0 n1 (gd_bg_le hK) hx hm) (pj_d p_X10_sizeAsked 5 rfl) rfl xX10_15 ((gd_kx_a n0 n1).trans ha) (rfl : vwCl[gd_tc 2]? = some (RX10, TX10, 3)) (by rfl) (by rfl) (Nat.le_of_ble_eq_true rfl) (by omega)) (by decide) (by decide) ?_
  rintro r1 h1 n1' ⟨rfl, rfl, rfl⟩
  refine pj_ineg (q := 12) (pj_d p_X10_sizeAsked 6 rfl) rfl ?_
  refine pj_iret rfl (pj_d p_X10_sizeAsked 7 rfl) (by decide) (by decide) ?_
  exact ⟨rfl, rfl, rfl⟩
theorem c_siz (hdd : 7 ≤ dd) (hk : 1 ≤ kd ∧ kd ≤ 5) (ha : h a = some (.inr (gd_tc kd, [.int (nI i), .int (nI sh), .int (nI mx)]))) (n0 : a ≠ a0) (n1 : a ≠ a0 + 1) (hK : K.2 ≤ 16) (hx : mx < 32) (hm : m < 32) : pj_Ct E B l (gd_Y_sizeAsked kd) dd 0 0 [.ref a, .ref a0] (gd_kx h a0 K (nI m)) n (pj_is (some (.int (gd_siz kd i (gd_look kd mx sh m) mx K).1)) (gd_kx h a0 (gd_siz kd i (gd_look kd mx sh m) mx K).2 (nI m)) n) := by
  rcases gd_kd hk.1 hk.2 with rfl | rfl | rfl | rfl | rfl
  · exact c_X1_sizeAsked (by omega) (by omega) ha n0 n1 hK hx hm
  · exact c_X10_sizeAsked (by omega) ha n0 n1 hK hx hm
  · exact c_X1_sizeAsked (by omega) (by omega) ha n0 n1 hK hx hm
  · exact c_isz (by omega) (by omega) ha n0 n1 hK
  · exact c_isz (by omega) (by omega) ha n0 n1 hK
end
