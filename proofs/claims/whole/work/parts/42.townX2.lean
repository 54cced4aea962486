/-! ===== the class's feed, town ===== -/
theorem gd_p1_W (c : Nat → Nat) (L : Nat) : gd_RW L (gd_tb c L 59 (gd_p1 c L).1, (gd_p1 c L).2) ∧ (gd_p1 c L).2 1 = 0 ∧ (gd_p1 c L).2 2 = 0 := by
  have W0 : gd_RW L (gd_tb c L 99 (0, 0, 0), gd_z0) := ⟨gd_PB_tb ⟨Nat.zero_le _, Nat.zero_le _, Nat.zero_le _⟩, ⟨Nat.zero_le _, Nat.zero_le _, Nat.zero_le _, fun j hj => by show gd_z0 (4 + j) ≤ 5; rw [gd_z0, gd_set_n (by omega)]; omega, fun i hi => absurd hi (Nat.not_lt_zero i), fun i hi => absurd hi (Nat.not_lt_zero i), fun i j _ hi => absurd hi (Nat.not_lt_zero j)⟩, rfl, rfl⟩
  have := gd_RW_wk (c := c) W0 rfl rfl 7 (Nat.le_refl _)
  rw [gd_p1]
  generalize gd_wk c L 7 (gd_tb c L 99 (0, 0, 0), gd_z0) = w at *
  exact ⟨⟨gd_PB_tb this.1.1, this.1.2⟩, this.2⟩
theorem gd_ths_W {c : Nat → Nat} {L : Nat} : ∀ m s, gd_RW L s → (s.1.2.1 = 0 → s.2 1 ≤ 7) → gd_RW L (gd_ths c L m s)
  | 0, s, h, _ => h
  | m + 1, s, h, h7 => by
    rw [gd_ths]
    split
    · rename_i e
      split
      · exact h
      · rename_i k0
        split
        · exact ⟨gd_PB_fa h.1 h.1.1 (by omega), h.2⟩
        · rename_i e7
          obtain ⟨hp, hk⟩ := gd_ks_in k0
          have := h7 e
          have W := gd_RW_rT (c := c) h hp (by omega) hk
          exact gd_ths_W m _ W (fun _ => W.2.1.1)
    · exact h
theorem gd_prs_W {c : Nat → Nat} {L : Nat} : ∀ m s, gd_RW L s → gd_RW L (gd_prs c L m s)
  | 0, s, h => h
  | m + 1, s, h => by
    rw [gd_prs]
    split
    · rename_i e
      split
      · exact ⟨gd_PB_fa h.1 h.1.1 (by omega), h.2⟩
      · rename_i e8
        have := h.2.1.2.1
        exact gd_prs_W m _ (gd_RW_rP h e.2.1 (by omega))
    · exact h
theorem gd_ths_2 {c : Nat → Nat} {L : Nat} : ∀ m s, s.2 1 ≤ 7 → (gd_ths c L m s).2 2 = s.2 2
  | 0, s, _ => rfl
  | m + 1, s, h7 => by
    rw [gd_ths]
    split
    · split
      · rfl
      · split
        · rfl
        · rename_i e7
          have e : (gd_rT c L (gd_ks c L s.1.1) s).2 2 = s.2 2 ∧ (gd_rT c L (gd_ks c L s.1.1) s).2 1 ≤ 7 := by
            rw [gd_rT]
            dsimp only
            split
            · exact ⟨gd_addT_n (by omega) (by omega), by show s.2 1 + 1 ≤ 7; omega⟩
            · exact ⟨rfl, h7⟩
          rw [gd_ths_2 m _ e.2, e.1]
    · rfl
theorem gd_p2_W (c : Nat → Nat) (L : Nat) : gd_RW L (gd_p2 c L) ∧ (gd_p2 c L).2 2 = 0 := by
  obtain ⟨w, y1, y2⟩ := gd_p1_W c L
  rw [gd_p2]
  exact ⟨gd_ths_W 8 _ w (fun _ => w.2.1.1), by rw [gd_ths_2 8 _ w.2.1.1]; exact y2⟩
theorem gd_p3_W (c : Nat → Nat) (L : Nat) : gd_RW L (gd_p3 c L) := by
  rw [gd_p3]
  exact gd_prs_W 9 _ (gd_p2_W c L).1
theorem gd_parse_W (c : Nat → Nat) (L : Nat) : gd_RW L (gd_parse c L) := by
  have w := gd_p3_W c L
  rw [gd_parse]
  generalize gd_p3 c L = p at w ⊢
  refine ⟨?_, w.2⟩
  dsimp only
  split
  · exact gd_PB_fa w.1 w.1.1 (by omega)
  · exact w.1
def sp_feed (x : Int32) (y : (Nat → Nat) × Nat) : Int32 × ((Nat → Nat) × Nat) := if gd_rng x 0 255 then (if y.2 < 120 then (nI (y.2 + 1), (gd_set y.1 y.2 x.toNatClampNeg, y.2 + 1)) else (-1000003, y)) else (-1000001, y)
section
variable {E : pj_E} {B : Nat} {l : Launch} {h : pj_H} {n a b L : Nat} {c : Nat → Nat} {S : gd_PS} {po : Option Nat} {lf st : Int32}
theorem c_X7_isSound' (h0 : h a = some (.inr (7, gd_tpc a L S))) (hS : S.2.1 ≤ 3) : pj_Ct E B l Y_X7_isSound 1 0 0 [.ref a] h n (pj_is (some (.int (gd_b (decide (S.2.1 = 0))))) h n) := by
  refine pj_in rfl (ls := [some (.ref a)]) rfl (Nat.le_of_ble_eq_true rfl) ?_
  refine pj_ald0 (q := 1) (pj_d p_X7_isSound 0 rfl) rfl ?_
  refine pj_gf (q := 4) (k := 3) (pj_d p_X7_isSound 1 rfl) rfl kX7_17 (by first | assumption | exact pj_up_s | exact (pj_up_n (by omega)).trans (by assumption)) (by rfl) (by rfl) ?_
  refine pj_if_ne (t := 11) (q := 7) (pj_d p_X7_isSound 2 rfl) rfl (by decide) (fun c1 => ?_) (fun c1 => ?_)
  · have : ¬ S.2.1 = 0 := fun q => c1 (by rw [q]; rfl)
    rw [decide_eq_false this]
    refine pj_iconst (q := 12) (v := nI 0) (pj_d p_X7_isSound 5 rfl) rfl (by decide) ?_
    refine pj_zret rfl (by first | rfl | decide | (split <;> rfl)) (pj_d p_X7_isSound 6 rfl) (by decide) (by decide) ?_
    exact ⟨rfl, rfl, rfl⟩
  · have : S.2.1 = 0 := (nI_eq (by omega) (by omega)).mp (c1.trans nI_0.symm)
    rw [decide_eq_true this]
    refine pj_iconst (q := 8) (v := nI 1) (pj_d p_X7_isSound 3 rfl) rfl (by decide) ?_
    refine pj_goto (t := 12) (pj_d p_X7_isSound 4 rfl) (by decide) ?_
    refine pj_zret rfl (by first | rfl | decide | (split <;> rfl)) (pj_d p_X7_isSound 6 rfl) (by decide) (by decide) ?_
    exact ⟨rfl, rfl, rfl⟩
theorem c_X7_read {P : gd_RS} (hP : gd_parse c L = P) (h0 : h a = some (.inr (7, gd_tpc a L S))) (hb : h (a + 1) = some (.inl (0, 120, .inl (fun j => nI (c j))))) (hL : L ≤ 120) (hc : ∀ j, c j < 256) (han : a + 1 < n) (hB : B ≤ n) : pj_Ct E B l Y_X7_read 7 16 143 [.ref a] h n (fun r h' n' => r = some (if P.1.2.1 = 0 then .ref n else .null) ∧ n' = n + 9 + P.2 1 ∧ h' a = some (.inr (7, gd_tpc a 0 P.1)) ∧ gd_T h' n P.2 0 ∧ gd_AX h' n (P.2, (fun _ _ => 0), 0) ∧ ∀ q, q ≠ a → q < n → h' q = h q) := by
  obtain ⟨p1, hp1⟩ : ∃ p, Unit → gd_p1 c L = p := ⟨_, fun _ => rfl⟩
  obtain ⟨p2, hp2⟩ : ∃ p, Unit → gd_p2 c L = p := ⟨_, fun _ => rfl⟩
  obtain ⟨p3, hp3⟩ : ∃ p, Unit → gd_p3 c L = p := ⟨_, fun _ => rfl⟩
  obtain ⟨w1, v1, v2⟩ := gd_p1_W c L
  obtain ⟨w2, v3⟩ := gd_p2_W c L
  have w3 := gd_p3_W c L
  have w4 := gd_parse_W c L
  rw [hp1 ()] at w1 v1 v2
  rw [hp2 ()] at w2 v3
  rw [hp3 ()] at w3
  rw [hP] at w4
  have e2 : Unit → gd_ths c L 8 (gd_tb c L 59 p1.1, p1.2) = p2 := fun _ => by rw [← hp2 (), gd_p2, hp1 ()]
  have e3 : Unit → gd_prs c L 9 p2 = p3 := fun _ => by rw [← hp3 (), gd_p3, hp2 ()]
  have q2 : P.2 = p3.2 := by rw [← hP, gd_parse, hp3 ()]
  have q1 : P.1 = if p3.1.1 < L then gd_fa p3.1 p3.1.1 1 else p3.1 := by rw [← hP, gd_parse, hp3 ()]
  clear hP
  refine pj_in rfl (ls := [some (.ref a), none]) rfl (Nat.le_of_ble_eq_true rfl) ?_
  refine pj_ald0 (q := 1) (pj_d p_X7_read 0 rfl) rfl ?_
  refine pj_iconst (q := 2) (v := nI 0) (pj_d p_X7_read 1 rfl) rfl (by decide) ?_
  refine pj_pf (q := 5) (k := 2) (fs' := gd_tpc a L (0, S.2)) (pj_d p_X7_read 2 rfl) rfl kX7_23 (by first | assumption | exact pj_up_s | exact (pj_up_n (by omega)).trans (by assumption)) (by rfl) (Or.inl rfl) (by rfl) (by rfl) (by rfl) (by show 2 < 5; decide) (by rfl) ?_
  refine pj_ald0 (q := 6) (pj_d p_X7_read 3 rfl) rfl ?_
  refine pj_iconst (q := 7) (v := nI 0) (pj_d p_X7_read 4 rfl) rfl (by decide) ?_
  refine pj_pf (q := 10) (k := 3) (fs' := gd_tpc a L (0, 0, S.2.2)) (pj_d p_X7_read 5 rfl) rfl kX7_17 (by first | assumption | exact pj_up_s | exact (pj_up_n (by omega)).trans (by assumption)) (by rfl) (Or.inl rfl) (by rfl) (by rfl) (by rfl) (by show 3 < 5; decide) (by rfl) ?_
  refine pj_ald0 (q := 11) (pj_d p_X7_read 6 rfl) rfl ?_
  refine pj_iconst (q := 12) (v := nI 0) (pj_d p_X7_read 7 rfl) rfl (by decide) ?_
  refine pj_pf (q := 15) (k := 4) (fs' := gd_tpc a L (0, 0, 0)) (pj_d p_X7_read 8 rfl) rfl kX7_20 (by first | assumption | exact pj_up_s | exact (pj_up_n (by omega)).trans (by assumption)) (by rfl) (Or.inl rfl) (by rfl) (by rfl) (by rfl) (by show 4 < 5; decide) (by rfl) ?_
  rw [pj_up_up, pj_up_up]
  refine pj_new (q := 18) (ci := 8) (fs := [.null, .null, .int 0, .null, .null, .null, .int 0, .int 0, .null, .null, .null, .int 0]) (pj_d p_X7_read 9 rfl) rfl kX7_26 iX9 zX9 rfl tyX9 tyX9_ok (fun j hj => by match j, hj with | 0, _ => rfl | 1, _ => rfl | 2, _ => rfl | 3, _ => rfl | 4, _ => rfl | 5, _ => rfl | 6, _ => rfl | 7, _ => rfl | 8, _ => rfl | 9, _ => rfl | 10, _ => rfl | 11, _ => rfl | j + 12, hj => exact absurd hj (by omega)) (by omega) (by omega) (by omega) ?_
  refine pj_dup (q := 19) (pj_d p_X7_read 10 rfl) rfl rfl ?_
  refine pj_cv (pj_rIN (q := 22) (c_X9_init pj_up_s rfl hB) (pj_d p_X7_read 11 rfl) rfl kX7_28 o_X9_init (by rfl) (by rfl) (Nat.le_of_ble_eq_true rfl) (by decide)) (by decide) (by decide) ?_
  rintro r1 h1 n1 ⟨rfl, rfl, T1, A1, Q1⟩
  have u1 : ∀ q, q ≠ a → q < n → h1 q = h q := fun q e1 e2 => by rw [Q1 q e2, pj_up_n (by omega), pj_up_n e1]
  have x0 : h1 a = some (.inr (7, gd_tpc a L (0, 0, 0))) := by rw [Q1 a (by omega), pj_up_n (by omega), pj_up_s]
  have xb : h1 (a + 1) = some (.inl (0, 120, .inl (fun j => nI (c j)))) := by rw [u1 _ (by omega) (by omega)]; exact hb
  have T1' : gd_T h1 n gd_z0 0 := by
    obtain ⟨d0, ⟨f1, b1, c1⟩, ⟨f2, b2, c2⟩, d3, ⟨f3, b3, c3⟩, ⟨f4, b4, c4⟩, ⟨f5, b5, c5⟩⟩ := T1
    exact ⟨d0, ⟨f1, b1, fun j hj => by rw [c1 j hj, gd_z0, gd_set_n (by omega)]⟩, ⟨f2, b2, c2⟩, fun i hi => absurd hi (Nat.not_lt_zero i), ⟨f3, b3, fun i hi => absurd hi (Nat.not_lt_zero i)⟩, ⟨f4, b4, fun i hi => absurd hi (Nat.not_lt_zero i)⟩, ⟨f5, b5, fun i hi => absurd hi (Nat.not_lt_zero i)⟩⟩
  clear Q1 T1
  have RL := c_X7_readLaw (E := E) (B := B) (l := l) x0 xb hL hc T1' han rfl
  rw [hp1 ()] at RL
  clear hp1 hp2 hp3
  refine pj_ast1 (q := 23) (pj_d p_X7_read 12 rfl) rfl (by first | rfl | assumption) ?_
  refine pj_ald0 (q := 24) (pj_d p_X7_read 13 rfl) rfl ?_
  refine pj_ald1 (q := 25) (pj_d p_X7_read 14 rfl) rfl ?_
  refine pj_cv (pj_rV (q := 28) RL (pj_d p_X7_read 15 rfl) rfl kX7_29 o_X7_readLaw (by first | assumption | exact pj_up_s | exact (pj_up_n (by omega)).trans (by assumption)) (by rfl) (by rfl) (by rfl) (by rfl) (Nat.le_of_ble_eq_true rfl) (by decide)) (by decide) (by decide) ?_
  rintro r2 h2 n2 ⟨rfl, rfl, y0, yT, yQ⟩
  have yb : h2 (a + 1) = some (.inl (0, 120, .inl (fun j => nI (c j)))) := by rw [yQ _ (by omega) (by omega)]; exact xb
  have RT := c_X7_readThings (E := E) (B := B) (l := l) (n := n + 9 + p1.2 1) y0 yb hL hc w1 yT han rfl hB v1
  rw [e2 ()] at RT
  clear e2 RL
  refine pj_ald0 (q := 29) (pj_d p_X7_read 16 rfl) rfl ?_
  refine pj_ald1 (q := 30) (pj_d p_X7_read 17 rfl) rfl ?_
  refine pj_cv (pj_rV (q := 33) RT (pj_d p_X7_read 18 rfl) rfl kX7_33 o_X7_readThings (by first | assumption | exact pj_up_s | exact (pj_up_n (by omega)).trans (by assumption)) (by rfl) (by rfl) (by rfl) (by rfl) (Nat.le_of_ble_eq_true rfl) (by decide)) (by decide) (by decide) ?_
  rintro r3 h3 n3 ⟨rfl, rfl, z0, zT, zQ⟩
  have zb : h3 (a + 1) = some (.inl (0, 120, .inl (fun j => nI (c j)))) := by rw [zQ _ (by omega) (by omega)]; exact yb
  have RP := c_X7_readPairs (E := E) (B := B) (l := l) (n := n + 9 + p2.2 1) z0 zb hL hc w2 zT han rfl v3
  rw [e3 ()] at RP
  clear e3 RT
  refine pj_ald0 (q := 34) (pj_d p_X7_read 19 rfl) rfl ?_
  refine pj_ald1 (q := 35) (pj_d p_X7_read 20 rfl) rfl ?_
  refine pj_cv (pj_rV (q := 38) RP (pj_d p_X7_read 21 rfl) rfl kX7_36 o_X7_readPairs (by first | assumption | exact pj_up_s | exact (pj_up_n (by omega)).trans (by assumption)) (by rfl) (by rfl) (by rfl) (by rfl) (Nat.le_of_ble_eq_true rfl) (by decide)) (by decide) (by decide) ?_
  rintro r4 h4 n4 ⟨rfl, rfl, u0, uT, uQ⟩
  clear RP
  have hQ : ∀ q, q ≠ a → (q < n ∨ (n + 6 ≤ q ∧ q ≤ n + 8)) → h4 q = h1 q := fun q e1 e2 => by rw [uQ q e1 e2, zQ q e1 e2, yQ q e1 e2]
  rw [q2]
  have fin : ∀ h5, h5 a = some (.inr (7, gd_tpc a L P.1)) → (∀ q, q ≠ a → h5 q = h4 q) → pj_V E B l Y_X7_read 7 16 143 58 [some (.ref a), some (.ref n)] [] h5 (n + 9 + p3.2 1) 16 143 (fun r h' n' => r = some (if P.1.2.1 = 0 then .ref n else .null) ∧ n' = n + 9 + p3.2 1 ∧ h' a = some (.inr (7, gd_tpc a 0 P.1)) ∧ gd_T h' n p3.2 0 ∧ gd_AX h' n (p3.2, (fun _ _ => 0), 0) ∧ ∀ q, q ≠ a → q < n → h' q = h q) := by
    intro h5 t0 tq
    refine pj_ald0 (q := 59) (pj_d p_X7_read 32 rfl) rfl ?_
    refine pj_iconst (q := 60) (v := nI 0) (pj_d p_X7_read 33 rfl) rfl (by decide) ?_
    refine pj_pf (q := 63) (k := 1) (fs' := gd_tpc a 0 P.1) (pj_d p_X7_read 34 rfl) rfl kX7_13 (by first | assumption | exact pj_up_s | exact (pj_up_n (by omega)).trans (by assumption)) (by rfl) (Or.inl rfl) (by rfl) (by rfl) (by rfl) (by show 1 < 5; decide) (by rfl) ?_
    have hT5 : gd_T (pj_up h5 a (.inr (7, gd_tpc a 0 P.1))) n p3.2 0 := uT.out (fun q q1 q2 => by rw [pj_up_n (by omega), tq q (by omega)])
    have hA5 : gd_AX (pj_up h5 a (.inr (7, gd_tpc a 0 P.1))) n (p3.2, (fun _ _ => 0), 0) := gd_AX0 (A1.out (fun q q1 q2 => by rw [pj_up_n (by omega), tq q (by omega), hQ q (by omega) (by omega)]))
    have hQ5 : ∀ q, q ≠ a → q < n → pj_up h5 a (.inr (7, gd_tpc a 0 P.1)) q = h q := fun q e1 e2 => by rw [pj_up_n e1, tq q e1, hQ q e1 (by omega), u1 q e1 e2]
    have t5 : pj_up h5 a (.inr (7, gd_tpc a 0 P.1)) a = some (.inr (7, gd_tpc a 0 P.1)) := pj_up_s
    refine pj_ald0 (q := 64) (pj_d p_X7_read 35 rfl) rfl ?_
    refine pj_cp (pj_rV (q := 67) (c_X7_isSound' t5 w4.1.2.1) (pj_d p_X7_read 36 rfl) rfl kX7_43 o_X7_isSound (by first | assumption | exact pj_up_s | exact (pj_up_n (by omega)).trans (by assumption)) (by rfl) (by rfl) (by rfl) (by rfl) (Nat.le_of_ble_eq_true rfl) (by decide)) (by decide) (by decide) ?_
    refine pj_if_eq (t := 74) (q := 70) (pj_d p_X7_read 37 rfl) rfl (by decide) (fun c5 => ?_) (fun c5 => ?_)
    · have e := gd_dec_f c5
      refine pj_null (q := 75) (pj_d p_X7_read 40 rfl) rfl ?_
      refine pj_aretN rfl (pj_d p_X7_read 41 rfl) (by first | decide | omega) (by first | decide | omega) ?_
      exact ⟨by rw [if_neg e], rfl, pj_up_s, hT5, hA5, hQ5⟩
    · have e := gd_dec_t c5
      refine pj_ald1 (q := 71) (pj_d p_X7_read 38 rfl) rfl ?_
      refine pj_goto (t := 75) (pj_d p_X7_read 39 rfl) (by decide) ?_
      refine pj_aret rfl (pj_d p_X7_read 41 rfl) (by first | decide | omega) (by first | decide | omega) ?_
      exact ⟨by rw [if_pos e], rfl, pj_up_s, hT5, hA5, hQ5⟩
  have b1 := w3.1.1
  refine pj_ald0 (q := 39) (pj_d p_X7_read 22 rfl) rfl ?_
  refine pj_gf (q := 42) (k := 2) (pj_d p_X7_read 23 rfl) rfl kX7_23 (by first | assumption | exact pj_up_s | exact (pj_up_n (by omega)).trans (by assumption)) (by rfl) (by rfl) ?_
  refine pj_ald0 (q := 43) (pj_d p_X7_read 24 rfl) rfl ?_
  refine pj_gf (q := 46) (k := 1) (pj_d p_X7_read 25 rfl) rfl kX7_13 (by first | assumption | exact pj_up_s | exact (pj_up_n (by omega)).trans (by assumption)) (by rfl) (by rfl) ?_
  refine pj_icmp_ge (t := 58) (q := 49) (pj_d p_X7_read 26 rfl) rfl (by decide) (fun c4 => ?_) (fun c4 => ?_)
  · have := gd_ge c4 (by omega) (by omega)
    rw [if_neg (by omega)] at q1
    exact fin h4 (by rw [q1]; exact u0) (fun _ _ => rfl)
  · have hlt := gd_lt c4 (by omega)
    rw [if_pos hlt] at q1
    refine pj_ald0 (q := 50) (pj_d p_X7_read 27 rfl) rfl ?_
    refine pj_ald0 (q := 51) (pj_d p_X7_read 28 rfl) rfl ?_
    refine pj_gf (q := 54) (k := 2) (pj_d p_X7_read 29 rfl) rfl kX7_23 (by first | assumption | exact pj_up_s | exact (pj_up_n (by omega)).trans (by assumption)) (by rfl) (by rfl) ?_
    refine pj_iconst (q := 55) (v := nI 1) (pj_d p_X7_read 30 rfl) rfl (by decide) ?_
    refine pj_cv (pj_rV (q := 58) (c_X7_faultAt u0 w3.1 p3.1.1 1) (pj_d p_X7_read 31 rfl) rfl kX7_39 o_X7_faultAt (by first | assumption | exact pj_up_s | exact (pj_up_n (by omega)).trans (by assumption)) (by rfl) (by rfl) (by rfl) (by rfl) (Nat.le_of_ble_eq_true rfl) (by decide)) (by decide) (by decide) ?_
    rintro r5 h5 n5 ⟨rfl, rfl, rfl⟩
    rw [← q1]
    exact fin _ pj_up_s (fun q hq => pj_up_n hq)
theorem c_X7_faultNumber (h0 : h a = some (.inr (7, gd_tpc a L S))) : pj_Ct E B l Y_X7_faultNumber 1 0 0 [.ref a] h n (pj_is (some (.int (nI S.2.1))) h n) := by
  refine pj_in rfl (ls := [some (.ref a)]) rfl (Nat.le_of_ble_eq_true rfl) ?_
  refine pj_ald0 (q := 1) (pj_d p_X7_faultNumber 0 rfl) rfl ?_
  refine pj_gf (q := 4) (k := 3) (pj_d p_X7_faultNumber 1 rfl) rfl kX7_17 (by first | assumption | exact pj_up_s | exact (pj_up_n (by omega)).trans (by assumption)) (by rfl) (by rfl) ?_
  refine pj_iret rfl (pj_d p_X7_faultNumber 2 rfl) (by decide) (by decide) ?_
  exact ⟨rfl, rfl, rfl⟩
theorem c_X7_faultPlace (h0 : h a = some (.inr (7, gd_tpc a L S))) : pj_Ct E B l Y_X7_faultPlace 1 0 0 [.ref a] h n (pj_is (some (.int (nI S.2.2))) h n) := by
  refine pj_in rfl (ls := [some (.ref a)]) rfl (Nat.le_of_ble_eq_true rfl) ?_
  refine pj_ald0 (q := 1) (pj_d p_X7_faultPlace 0 rfl) rfl ?_
  refine pj_gf (q := 4) (k := 4) (pj_d p_X7_faultPlace 1 rfl) rfl kX7_20 (by first | assumption | exact pj_up_s | exact (pj_up_n (by omega)).trans (by assumption)) (by rfl) (by rfl) ?_
  refine pj_iret rfl (pj_d p_X7_faultPlace 2 rfl) (by decide) (by decide) ?_
  exact ⟨rfl, rfl, rfl⟩
theorem c_X11_town {P : gd_RS} (hP : gd_parse c L = P) (hx : h b = some (.inr (10, gd_XO b po lf st))) (h0 : h (b + 13) = some (.inr (7, gd_tpc (b + 13) L S))) (hb : h (b + 14) = some (.inl (0, 120, .inl (fun j => nI (c j))))) (hL : L ≤ 120) (hc : ∀ j, c j < 256) (hbn : b + 35 ≤ n) (hB : B ≤ n) : pj_Ct E B l Y_X11_town 8 16 143 [.ref b] h n (fun r h' n' => n' = n + 9 + P.2 1 ∧ h' (b + 13) = some (.inr (7, gd_tpc (b + 13) 0 P.1)) ∧ (∀ q, q < n → q ≠ b → q ≠ b + 13 → h' q = h q) ∧ ((P.1.2.1 = 0 ∧ r = some (.int (nI (P.2 1))) ∧ h' b = some (.inr (10, gd_XO b (some n) lf st)) ∧ gd_T h' n P.2 0 ∧ gd_AX h' n (P.2, (fun _ _ => 0), 0)) ∨ (¬ P.1.2.1 = 0 ∧ r = some (.int (-1000100 - nI P.1.2.2)) ∧ h' b = some (.inr (10, gd_XO b po (nI P.1.2.1) st))))) := by
  have RR := fun han => c_X7_read (E := E) (B := B) (l := l) (n := n) hP h0 hb hL hc han hB
  clear hP
  refine pj_in rfl (ls := [some (.ref b), none]) rfl (Nat.le_of_ble_eq_true rfl) ?_
  refine pj_ald0 (q := 1) (pj_d p_X11_town 0 rfl) rfl ?_
  refine pj_gf (q := 4) (k := 1) (pj_d p_X11_town 1 rfl) rfl kX11_19 (by first | assumption | exact pj_up_s | exact (pj_up_n (by omega)).trans (by assumption)) (by rfl) (by rfl) ?_
  refine pj_cv (pj_rV (q := 7) (RR (by omega)) (pj_d p_X11_town 2 rfl) rfl kX11_87 o_X7_read (by first | assumption | exact pj_up_s | exact (pj_up_n (by omega)).trans (by assumption)) (by rfl) (by rfl) (by rfl) (by rfl) (Nat.le_of_ble_eq_true rfl) (by decide)) (by decide) (by decide) ?_
  rintro r1 h1 n1 ⟨rfl, rfl, x0, xT, xA, xQ⟩
  have hx1 : h1 b = some (.inr (10, gd_XO b po lf st)) := by rw [xQ b (by omega) (by omega)]; exact hx
  by_cases e : P.1.2.1 = 0
  · rw [if_pos e]
    show pj_V E B l _ _ _ _ _ _ [.ref n] _ _ _ _ _
    refine pj_ast1 (q := 8) (pj_d p_X11_town 3 rfl) rfl (by first | rfl | assumption) ?_
    refine pj_ald1 (q := 9) (pj_d p_X11_town 4 rfl) rfl ?_
    refine pj_ifnonnull (t := 34) (pj_d p_X11_town 5 rfl) (by decide) ?_
    refine pj_ald0 (q := 35) (pj_d p_X11_town 17 rfl) rfl ?_
    refine pj_ald1 (q := 36) (pj_d p_X11_town 18 rfl) rfl ?_
    refine pj_pf (q := 39) (k := 5) (fs' := gd_XO b (some n) lf st) (pj_d p_X11_town 19 rfl) rfl kX11_102 (by first | assumption | exact pj_up_s | exact (pj_up_n (by omega)).trans (by assumption)) (by rfl) (Or.inl rfl) (by rfl) (by rfl) (by rfl) (by show 5 < 8; decide) (by rfl) ?_
    have T2 : gd_T (pj_up h1 b (.inr (10, gd_XO b (some n) lf st))) n P.2 0 := xT.out (fun q _ _ => pj_up_n (by omega))
    have k2 := T2.1
    refine pj_ald1 (q := 40) (pj_d p_X11_town 20 rfl) rfl ?_
    refine pj_cp (pj_rV (q := 43) (c_X9_thingCount T2) (pj_d p_X11_town 21 rfl) rfl kX11_106 o_X9_thingCount (by first | assumption | exact pj_up_s | exact (pj_up_n (by omega)).trans (by assumption)) (by rfl) (by rfl) (by rfl) (by rfl) (Nat.le_of_ble_eq_true rfl) (by decide)) (by decide) (by decide) ?_
    refine pj_iret rfl (pj_d p_X11_town 22 rfl) (by decide) (by decide) ?_
    exact ⟨rfl, (pj_up_n (by omega)).trans x0, fun q e1 e2 e3 => by rw [pj_up_n e2, xQ q e3 e1], Or.inl ⟨e, rfl, pj_up_s, T2, xA.out (fun q _ _ => pj_up_n (by omega))⟩⟩
  · rw [if_neg e]
    show pj_V E B l _ _ _ _ _ _ [.null] _ _ _ _ _
    refine pj_astN1 (q := 8) (pj_d p_X11_town 3 rfl) rfl (by first | rfl | assumption) ?_
    refine pj_aldN1 (q := 9) (pj_d p_X11_town 4 rfl) rfl ?_
    refine pj_ifnonnullN (q := 12) (pj_d p_X11_town 5 rfl) rfl ?_
    refine pj_ald0 (q := 13) (pj_d p_X11_town 6 rfl) rfl ?_
    refine pj_ald0 (q := 14) (pj_d p_X11_town 7 rfl) rfl ?_
    refine pj_gf (q := 17) (k := 1) (pj_d p_X11_town 8 rfl) rfl kX11_19 (by first | assumption | exact pj_up_s | exact (pj_up_n (by omega)).trans (by assumption)) (by rfl) (by rfl) ?_
    refine pj_cp (pj_rV (q := 20) (c_X7_faultNumber x0) (pj_d p_X11_town 9 rfl) rfl kX11_91 o_X7_faultNumber (by first | assumption | exact pj_up_s | exact (pj_up_n (by omega)).trans (by assumption)) (by rfl) (by rfl) (by rfl) (by rfl) (Nat.le_of_ble_eq_true rfl) (by decide)) (by decide) (by decide) ?_
    refine pj_pf (q := 23) (k := 6) (fs' := gd_XO b po (nI P.1.2.1) st) (pj_d p_X11_town 10 rfl) rfl kX11_94 (by first | assumption | exact pj_up_s | exact (pj_up_n (by omega)).trans (by assumption)) (by rfl) (Or.inl rfl) (by rfl) (by rfl) (by rfl) (by show 6 < 8; decide) (by rfl) ?_
    refine pj_ldc (q := 25) (pj_d p_X11_town 11 rfl) rfl kX11_98 ?_
    refine pj_ald0 (q := 26) (pj_d p_X11_town 12 rfl) rfl ?_
    refine pj_gf (q := 29) (k := 1) (pj_d p_X11_town 13 rfl) rfl kX11_19 (by first | assumption | exact pj_up_s | exact (pj_up_n (by omega)).trans (by assumption)) (by rfl) (by rfl) ?_
    refine pj_cp (pj_rV (q := 32) (c_X7_faultPlace (L := 0) ((pj_up_n (by omega)).trans x0)) (pj_d p_X11_town 14 rfl) rfl kX11_99 o_X7_faultPlace (by first | assumption | exact pj_up_s | exact (pj_up_n (by omega)).trans (by assumption)) (by rfl) (by rfl) (by rfl) (by rfl) (Nat.le_of_ble_eq_true rfl) (by decide)) (by decide) (by decide) ?_
    refine pj_isub (q := 33) (pj_d p_X11_town 15 rfl) rfl ?_
    refine pj_iret rfl (pj_d p_X11_town 16 rfl) (by decide) (by decide) ?_
    exact ⟨rfl, (pj_up_n (by omega)).trans x0, fun q e1 e2 e3 => by rw [pj_up_n e2, xQ q e3 e1], Or.inr ⟨e, rfl, pj_up_s⟩⟩
theorem c_X7_put (h0 : h a = some (.inr (7, gd_tpc a L S))) (hb : h (a + 1) = some (.inl (0, 120, .inl (fun j => nI (c j))))) (hL : L ≤ 120) (x : Nat) : pj_Ct E B l Y_X7_put 1 0 0 [.ref a, .int (nI x)] h n (fun r h' n' => r = some (.int (gd_b (decide (L < 120)))) ∧ n' = n ∧ h' = if L < 120 then pj_up (pj_up h (a + 1) (.inl (0, 120, .inl (fun j => nI (gd_set c L x j))))) a (.inr (7, gd_tpc a (L + 1) S)) else h) := by
  refine pj_in rfl (ls := [some (.ref a), some (.int (nI x))]) rfl (Nat.le_of_ble_eq_true rfl) ?_
  refine pj_ald0 (q := 1) (pj_d p_X7_put 0 rfl) rfl ?_
  refine pj_gf (q := 4) (k := 1) (pj_d p_X7_put 1 rfl) rfl kX7_13 (by first | assumption | exact pj_up_s | exact (pj_up_n (by omega)).trans (by assumption)) (by rfl) (by rfl) ?_
  refine pj_bipush (q := 6) (v := nI 120) (pj_d p_X7_put 2 rfl) rfl (by decide) ?_
  refine pj_icmp_lt (t := 11) (q := 9) (pj_d p_X7_put 3 rfl) rfl (by decide) (fun c1 => ?_) (fun c1 => ?_)
  rotate_left
  · have : ¬ L < 120 := fun q => c1 (nI_lt q (by omega))
    rw [if_neg this, decide_eq_false this]
    refine pj_iconst (q := 10) (v := nI 0) (pj_d p_X7_put 4 rfl) rfl (by decide) ?_
    refine pj_zret rfl (by first | rfl | decide | (split <;> rfl)) (pj_d p_X7_put 5 rfl) (by decide) (by decide) ?_
    exact ⟨rfl, rfl, rfl⟩
  have hlt : L < 120 := (nI_ltI (by omega) (by omega)).mp c1
  rw [if_pos hlt, decide_eq_true hlt]
  refine pj_ald0 (q := 12) (pj_d p_X7_put 6 rfl) rfl ?_
  refine pj_gf (q := 15) (k := 0) (pj_d p_X7_put 7 rfl) rfl kX7_9 (by first | assumption | exact pj_up_s | exact (pj_up_n (by omega)).trans (by assumption)) (by rfl) (by rfl) ?_
  refine pj_ald0 (q := 16) (pj_d p_X7_put 8 rfl) rfl ?_
  refine pj_gf (q := 19) (k := 1) (pj_d p_X7_put 9 rfl) rfl kX7_13 (by first | assumption | exact pj_up_s | exact (pj_up_n (by omega)).trans (by assumption)) (by rfl) (by rfl) ?_
  refine pj_ild1 (q := 20) (pj_d p_X7_put 10 rfl) rfl ?_
  refine pj_iast (q := 21) (pj_d p_X7_put 11 rfl) rfl (by first | assumption | exact pj_up_s | exact (pj_up_n (by omega)).trans (by assumption)) (by rfl) (by first | assumption | omega) (Nat.le_of_ble_eq_true rfl) ?_
  rw [gd_setI']
  refine pj_ald0 (q := 22) (pj_d p_X7_put 12 rfl) rfl ?_
  refine pj_dup (q := 23) (pj_d p_X7_put 13 rfl) rfl rfl ?_
  refine pj_gf (q := 26) (k := 1) (pj_d p_X7_put 14 rfl) rfl kX7_13 (by first | assumption | exact pj_up_s | exact (pj_up_n (by omega)).trans (by assumption)) (by rfl) (by rfl) ?_
  refine pj_iconst (q := 27) (v := nI 1) (pj_d p_X7_put 15 rfl) rfl (by decide) ?_
  refine pj_iadd (q := 28) (pj_d p_X7_put 16 rfl) rfl ?_
  rw [nI_add]
  refine pj_pf (q := 31) (k := 1) (fs' := gd_tpc a (L + 1) S) (pj_d p_X7_put 17 rfl) rfl kX7_13 (by first | assumption | exact pj_up_s | exact (pj_up_n (by omega)).trans (by assumption)) (by rfl) (Or.inl rfl) (by rfl) (by rfl) (by rfl) (by show 1 < 5; decide) (by rfl) ?_
  refine pj_iconst (q := 32) (v := nI 1) (pj_d p_X7_put 18 rfl) rfl (by decide) ?_
  refine pj_zret rfl (by first | rfl | decide | (split <;> rfl)) (pj_d p_X7_put 19 rfl) (by decide) (by decide) ?_
  exact ⟨rfl, rfl, rfl⟩
theorem c_X11_feed (hx : h b = some (.inr (10, gd_XO b po lf st))) (h0 : h (b + 13) = some (.inr (7, gd_tpc (b + 13) L S))) (hb : h (b + 14) = some (.inl (0, 120, .inl (fun j => nI (c j))))) (hL : L ≤ 120) (x : Int32) : pj_Ct E B l Y_X11_feed 2 0 0 [.ref b, .int x] h n (fun r h' n' => r = some (.int (sp_feed x (c, L)).1) ∧ n' = n ∧ h' (b + 13) = some (.inr (7, gd_tpc (b + 13) (sp_feed x (c, L)).2.2 S)) ∧ h' (b + 14) = some (.inl (0, 120, .inl (fun j => nI ((sp_feed x (c, L)).2.1 j)))) ∧ ∀ q, q ≠ b + 13 → q ≠ b + 14 → h' q = h q) := by
  refine pj_in rfl (ls := [some (.ref b), some (.int (x))]) rfl (Nat.le_of_ble_eq_true rfl) ?_
  have bad : gd_rng x 0 255 = false → pj_V E B l Y_X11_feed 2 0 0 11 [some (.ref b), some (.int (x))] [] h n 0 0 (fun r h' n' => r = some (.int (sp_feed x (c, L)).1) ∧ n' = n ∧ h' (b + 13) = some (.inr (7, gd_tpc (b + 13) (sp_feed x (c, L)).2.2 S)) ∧ h' (b + 14) = some (.inl (0, 120, .inl (fun j => nI ((sp_feed x (c, L)).2.1 j)))) ∧ ∀ q, q ≠ b + 13 → q ≠ b + 14 → h' q = h q) := by
    intro hd
    refine pj_ldc (q := 13) (pj_d p_X11_feed 5 rfl) rfl kX11_47 ?_
    refine pj_iret rfl (pj_d p_X11_feed 6 rfl) (by decide) (by decide) ?_
    have e : sp_feed x (c, L) = (-1000001, (c, L)) := by rw [sp_feed, hd, if_neg (by decide)]
    rw [e]
    exact ⟨rfl, rfl, h0, hb, fun _ _ _ => rfl⟩
  refine pj_ild1 (q := 1) (pj_d p_X11_feed 0 rfl) rfl ?_
  refine pj_if_lt (t := 11) (q := 4) (pj_d p_X11_feed 1 rfl) rfl (by decide) (fun c1 => ?_) (fun c1 => ?_)
  · exact bad (gd_rng_lo (by decide) c1)
  refine pj_ild1 (q := 5) (pj_d p_X11_feed 2 rfl) rfl ?_
  refine pj_sipush (q := 8) (v := nI 255) (pj_d p_X11_feed 3 rfl) rfl (by decide) ?_
  refine pj_icmp_le (t := 14) (q := 11) (pj_d p_X11_feed 4 rfl) rfl (by decide) (fun c2 => ?_) (fun c2 => ?_)
  rotate_left
  · rw [Int32.not_le] at c2
    exact bad (gd_rng_gt (hi := 255) (by decide) c2)
  have e1 : gd_rng x 0 255 = true := gd_rng_in (hi := 255) (by decide) c1 (by rw [Int32.not_lt]; exact c2)
  obtain ⟨j, hj, rfl, hd⟩ := gd_rng_of (hi := 255) e1
  refine pj_ald0 (q := 15) (pj_d p_X11_feed 7 rfl) rfl ?_
  refine pj_gf (q := 18) (k := 1) (pj_d p_X11_feed 8 rfl) rfl kX11_19 (by first | assumption | exact pj_up_s | exact (pj_up_n (by omega)).trans (by assumption)) (by rfl) (by rfl) ?_
  refine pj_ild1 (q := 19) (pj_d p_X11_feed 9 rfl) rfl ?_
  refine pj_cv (pj_rV (q := 22) (c_X7_put h0 hb hL j) (pj_d p_X11_feed 10 rfl) rfl kX11_81 o_X7_put (by first | assumption | exact pj_up_s | exact (pj_up_n (by omega)).trans (by assumption)) (by rfl) (by rfl) (by rfl) (by rfl) (Nat.le_of_ble_eq_true rfl) (by decide)) (by decide) (by decide) ?_
  rintro r1 h1 n1 ⟨rfl, rfl, hh⟩
  refine pj_if_eq (t := 35) (q := 25) (pj_d p_X11_feed 11 rfl) rfl (by decide) (fun c3 => ?_) (fun c3 => ?_)
  · have e := gd_dec_f c3
    rw [if_neg e] at hh
    subst hh
    refine pj_ldc (q := 37) (pj_d p_X11_feed 16 rfl) rfl kX11_86 ?_
    refine pj_iret rfl (pj_d p_X11_feed 17 rfl) (by decide) (by decide) ?_
    rw [show sp_feed (nI j) (c, L) = (-1000003, (c, L)) by rw [sp_feed, e1, if_pos rfl, if_neg e]]
    exact ⟨rfl, rfl, h0, hb, fun _ _ _ => rfl⟩
  · have e := gd_dec_t c3
    rw [if_pos e] at hh
    have x0 : h1 (b + 13) = some (.inr (7, gd_tpc (b + 13) (L + 1) S)) := by rw [hh, pj_up_s]
    have x1 : h1 (b + 14) = some (.inl (0, 120, .inl (fun i => nI (gd_set c L j i)))) := by rw [hh, pj_up_n (by omega), pj_up_s]
    have xq : ∀ q, q ≠ b + 13 → q ≠ b + 14 → h1 q = h q := fun q a1 a2 => by rw [hh, pj_up_n a1, pj_up_n a2]
    have hx1 : h1 b = some (.inr (10, gd_XO b po lf st)) := by rw [xq b (by omega) (by omega)]; exact hx
    refine pj_ald0 (q := 26) (pj_d p_X11_feed 12 rfl) rfl ?_
    refine pj_gf (q := 29) (k := 1) (pj_d p_X11_feed 13 rfl) rfl kX11_19 (by first | assumption | exact pj_up_s | exact (pj_up_n (by omega)).trans (by assumption)) (by rfl) (by rfl) ?_
    refine pj_cp (pj_rV (q := 32) (c_X7_length x0) (pj_d p_X11_feed 14 rfl) rfl kX11_83 o_X7_length (by first | assumption | exact pj_up_s | exact (pj_up_n (by omega)).trans (by assumption)) (by rfl) (by rfl) (by rfl) (by rfl) (Nat.le_of_ble_eq_true rfl) (by decide)) (by decide) (by decide) ?_
    refine pj_goto (t := 37) (pj_d p_X11_feed 15 rfl) (by decide) ?_
    refine pj_iret rfl (pj_d p_X11_feed 17 rfl) (by decide) (by decide) ?_
    rw [show sp_feed (nI j) (c, L) = (nI (L + 1), (gd_set c L j, L + 1)) by rw [sp_feed, e1, if_pos rfl, if_pos e, hd]]
    exact ⟨rfl, rfl, x0, x1, xq⟩
end
