/-! ===== the town: who looks alike, harm ===== -/
section
variable {E : pj_E} {B : Nat} {l : Launch} {h : pj_H} {n k ac : Nat} {τ : Nat → Nat}
theorem c_lw (hT : gd_T h k τ ac) (hW : gd_W τ) {i st : Nat} (hi : i < τ 1) (hs : st < 32) : pj_Ct E B l Y_X8_lookWithout 3 0 0 [.ref (k + 9 + i), .int (nI st)] h n (pj_is (some (.int (nI (gd_lk τ i st)))) h n) := by
  obtain ⟨g1, g2, g3⟩ := hW.2.2.2.2.1 i hi
  exact c_X8_lookWithout g1 (hT.2.2.2.1 i hi) st g2 hs
theorem c_X9_areAlike (hT : gd_T h k τ ac) (hW : gd_W τ) {a b st : Nat} (ha : a < τ 1) (hb : b < τ 1) (hs : st < 32) : pj_Ct E B l Y_X9_areAlike 4 0 0 [.ref k, .int (nI a), .int (nI b), .int (nI st)] h n (pj_is (some (.int (gd_b (decide (gd_lk τ a st = gd_lk τ b st))))) h n) := by
  have h0 := hT.1
  obtain ⟨f, h2, hf⟩ := hT.2.2.1
  have h7 := hW.1
  have ea : gd_has τ (nI a) = true := (gd_has_iff h7).mpr ⟨a, ha, rfl⟩
  have eb : gd_has τ (nI b) = true := (gd_has_iff h7).mpr ⟨b, hb, rfl⟩
  obtain ⟨ka, -⟩ := hW.2.2.2.2.1 a ha
  obtain ⟨kb, -⟩ := hW.2.2.2.2.1 b hb
  refine pj_in rfl (ls := [some (.ref k), some (.int (nI a)), some (.int (nI b)), some (.int (nI st))]) rfl (Nat.le_of_ble_eq_true rfl) ?_
  refine pj_ald0 (q := 1) (pj_d p_X9_areAlike 0 rfl) rfl ?_
  refine pj_ild1 (q := 2) (pj_d p_X9_areAlike 1 rfl) rfl ?_
  refine pj_cp (pj_rV (q := 5) (c_X9_hasThing hT h7 (nI a)) (pj_d p_X9_areAlike 2 rfl) rfl kX9_91 o_X9_hasThing (by assumption) (by rfl) (by rfl) (by rfl) (by rfl) (Nat.le_of_ble_eq_true rfl) (by decide)) (by decide) (by decide) ?_
  refine pj_if_eq (t := 43) (q := 8) (pj_d p_X9_areAlike 3 rfl) rfl (by decide) (fun c1 => ?_) (fun c1 => ?_)
  · exact absurd ((gd_b_z _).mp c1) (by rw [ea]; decide)
  refine pj_ald0 (q := 9) (pj_d p_X9_areAlike 4 rfl) rfl ?_
  refine pj_ild2 (q := 10) (pj_d p_X9_areAlike 5 rfl) rfl ?_
  refine pj_cp (pj_rV (q := 13) (c_X9_hasThing hT h7 (nI b)) (pj_d p_X9_areAlike 6 rfl) rfl kX9_91 o_X9_hasThing (by assumption) (by rfl) (by rfl) (by rfl) (by rfl) (Nat.le_of_ble_eq_true rfl) (by decide)) (by decide) (by decide) ?_
  refine pj_if_eq (t := 43) (q := 16) (pj_d p_X9_areAlike 7 rfl) rfl (by decide) (fun c2 => ?_) (fun c2 => ?_)
  · exact absurd ((gd_b_z _).mp c2) (by rw [eb]; decide)
  refine pj_ald0 (q := 17) (pj_d p_X9_areAlike 8 rfl) rfl ?_
  refine pj_gf (q := 20) (k := 1) (pj_d p_X9_areAlike 9 rfl) rfl kX9_15 (by assumption) (by rfl) (by rfl) ?_
  refine pj_ild1 (q := 21) (pj_d p_X9_areAlike 10 rfl) rfl ?_
  refine pj_aald (t := 2) (q := 22) rfl rfl (pj_d p_X9_areAlike 11 rfl) rfl h2 rfl (by omega) (Nat.le_of_ble_eq_true rfl) ?_
  rw [hf a ha]
  refine pj_ild3 (q := 23) (pj_d p_X9_areAlike 12 rfl) rfl ?_
  refine pj_cp (vX9_95 (q := 26) rfl (hT.2.2.2.1 a ha) ka (c_lw hT hW ha hs) (pj_d p_X9_areAlike 13 rfl) rfl rfl rfl (Nat.le_of_ble_eq_true rfl) (by decide)) (by decide) (by decide) ?_
  refine pj_ald0 (q := 27) (pj_d p_X9_areAlike 14 rfl) rfl ?_
  refine pj_gf (q := 30) (k := 1) (pj_d p_X9_areAlike 15 rfl) rfl kX9_15 (by assumption) (by rfl) (by rfl) ?_
  refine pj_ild2 (q := 31) (pj_d p_X9_areAlike 16 rfl) rfl ?_
  refine pj_aald (t := 2) (q := 32) rfl rfl (pj_d p_X9_areAlike 17 rfl) rfl h2 rfl (by omega) (Nat.le_of_ble_eq_true rfl) ?_
  rw [hf b hb]
  refine pj_ild3 (q := 33) (pj_d p_X9_areAlike 18 rfl) rfl ?_
  refine pj_cp (vX9_95 (q := 36) rfl (hT.2.2.2.1 b hb) kb (c_lw hT hW hb hs) (pj_d p_X9_areAlike 19 rfl) rfl rfl rfl (Nat.le_of_ble_eq_true rfl) (by decide)) (by decide) (by decide) ?_
  have la := gd_lk_lt hW ha hs
  have lb := gd_lk_lt hW hb hs
  refine pj_icmp_ne (t := 43) (q := 39) (pj_d p_X9_areAlike 20 rfl) rfl (by decide) (fun c3 => ?_) (fun c3 => ?_)
  · have hne : ¬ gd_lk τ a st = gd_lk τ b st := fun q => c3 (by rw [q])
    refine pj_iconst (q := 44) (v := nI 0) (pj_d p_X9_areAlike 23 rfl) rfl (by decide) ?_
    refine pj_zret rfl (by first | rfl | decide | (split <;> rfl)) (pj_d p_X9_areAlike 24 rfl) (by decide) (by decide) ?_
    exact ⟨by rw [decide_eq_false hne]; rfl, rfl, rfl⟩
  · have heq : gd_lk τ a st = gd_lk τ b st := (nI_eq (by omega) (by omega)).mp c3
    refine pj_iconst (q := 40) (v := nI 1) (pj_d p_X9_areAlike 21 rfl) rfl (by decide) ?_
    refine pj_goto (t := 44) (pj_d p_X9_areAlike 22 rfl) (by decide) ?_
    refine pj_zret rfl (by first | rfl | decide | (split <;> rfl)) (pj_d p_X9_areAlike 24 rfl) (by decide) (by decide) ?_
    exact ⟨by rw [decide_eq_true heq]; rfl, rfl, rfl⟩
theorem c_X9_harmWithout (hT : gd_T h k τ ac) (hW : gd_W τ) {st : Nat} (hs : st < 32) : pj_Ct E B l Y_X9_harmWithout 5 0 0 [.ref k, .int (nI st)] h n (pj_is (some (.int (nI (gd_harm τ st)))) h n) := by
  have h0 := hT.1
  obtain ⟨fa, h3, hfa⟩ := hT.2.2.2.2.1
  obtain ⟨fb, h4, hfb⟩ := hT.2.2.2.2.2.1
  obtain ⟨fh, h5, hfh⟩ := hT.2.2.2.2.2.2
  have h8 := hW.2.1
  refine pj_in rfl (ls := [some (.ref k), some (.int (nI st)), none, none]) rfl (Nat.le_of_ble_eq_true rfl) ?_
  refine pj_iconst (q := 1) (v := nI 0) (pj_d p_X9_harmWithout 0 rfl) rfl (by decide) ?_
  refine pj_ist2 (q := 2) (pj_d p_X9_harmWithout 1 rfl) rfl (by first | rfl | assumption) ?_
  refine pj_iconst (q := 3) (v := nI 0) (pj_d p_X9_harmWithout 2 rfl) rfl (by decide) ?_
  refine pj_ist3 (q := 4) (pj_d p_X9_harmWithout 3 rfl) rfl (by first | rfl | assumption) ?_
  have loop : ∀ m i, τ 2 - i < m → i ≤ τ 2 → pj_V E B l Y_X9_harmWithout 5 0 0 4 [some (.ref k), some (.int (nI st)), some (.int (nI (gd_sm (gd_hf τ st) i))), some (.int (nI i))] [] h n 0 0 (pj_is (some (.int (nI (gd_harm τ st)))) h n) := by
    intro m
    induction m with
    | zero => intro i hi; omega
    | succ m ih =>
      intro i hi hle
      refine pj_ild3 (q := 5) (pj_d p_X9_harmWithout 4 rfl) rfl ?_
      refine pj_ald0 (q := 6) (pj_d p_X9_harmWithout 5 rfl) rfl ?_
      refine pj_gf (q := 9) (k := 6) (pj_d p_X9_harmWithout 6 rfl) rfl kX9_56 (by assumption) (by rfl) (by rfl) ?_
      refine pj_icmp_ge (t := 47) (q := 12) (pj_d p_X9_harmWithout 7 rfl) rfl (by decide) (fun c1 => ?_) (fun c1 => ?_)
      · have hge := (nI_leI (by omega) (by omega)).mp c1
        have he : i = τ 2 := by omega
        subst he
        refine pj_ild2 (q := 48) (pj_d p_X9_harmWithout 29 rfl) rfl ?_
        refine pj_iret rfl (pj_d p_X9_harmWithout 30 rfl) (by decide) (by decide) ?_
        exact ⟨rfl, rfl, rfl⟩
      · have hlt : i < τ 2 := by
          rcases Nat.lt_or_ge i (τ 2) with q | q
          · exact q
          · exact absurd (nI_le q (by omega)) c1
        obtain ⟨g1, g2, -⟩ := hW.2.2.2.2.2.1 i hlt
        refine pj_ald0 (q := 13) (pj_d p_X9_harmWithout 8 rfl) rfl ?_
        refine pj_ald0 (q := 14) (pj_d p_X9_harmWithout 9 rfl) rfl ?_
        refine pj_gf (q := 17) (k := 3) (pj_d p_X9_harmWithout 10 rfl) rfl kX9_19 (by assumption) (by rfl) (by rfl) ?_
        refine pj_ild3 (q := 18) (pj_d p_X9_harmWithout 11 rfl) rfl ?_
        refine pj_ialdN (q := 19) (pj_d p_X9_harmWithout 12 rfl) rfl (by assumption) (by rfl) (by first | assumption | omega) (Nat.le_of_ble_eq_true rfl) ?_
        rw [hfa i hlt]
        refine pj_ald0 (q := 20) (pj_d p_X9_harmWithout 13 rfl) rfl ?_
        refine pj_gf (q := 23) (k := 4) (pj_d p_X9_harmWithout 14 rfl) rfl kX9_22 (by assumption) (by rfl) (by rfl) ?_
        refine pj_ild3 (q := 24) (pj_d p_X9_harmWithout 15 rfl) rfl ?_
        refine pj_ialdN (q := 25) (pj_d p_X9_harmWithout 16 rfl) rfl (by assumption) (by rfl) (by first | assumption | omega) (Nat.le_of_ble_eq_true rfl) ?_
        rw [hfb i hlt]
        refine pj_ild1 (q := 26) (pj_d p_X9_harmWithout 17 rfl) rfl ?_
        refine pj_cp (pj_rV (q := 29) (c_X9_areAlike hT hW g1 g2 hs) (pj_d p_X9_harmWithout 18 rfl) rfl kX9_98 o_X9_areAlike (by assumption) (by rfl) (by rfl) (by rfl) (by rfl) (Nat.le_of_ble_eq_true rfl) (by decide)) (by decide) (by decide) ?_
        have go : ∀ x, x = gd_sm (gd_hf τ st) (i + 1) → pj_V E B l Y_X9_harmWithout 5 0 0 41 [some (.ref k), some (.int (nI st)), some (.int (nI x)), some (.int (nI i))] [] h n 0 0 (pj_is (some (.int (nI (gd_harm τ st)))) h n) := by
          intro x hx
          subst hx
          refine pj_iinc3 (q := 44) (v := 1) (pj_d p_X9_harmWithout 27 rfl) rfl (by first | rfl | assumption) (by decide) ?_
          refine pj_goto (t := 4) (pj_d p_X9_harmWithout 28 rfl) (by decide) ?_
          rw [nI_1]
          exact ih (i + 1) (by omega) (by omega)
        refine pj_if_eq (t := 41) (q := 32) (pj_d p_X9_harmWithout 19 rfl) rfl (by decide) (fun c2 => ?_) (fun c2 => ?_)
        · have hne := of_decide_eq_false ((gd_b_z _).mp c2)
          exact go _ (by rw [gd_sm, gd_hf, if_neg hne]; rfl)
        · have heq := of_decide_eq_true ((gd_b_n _).mp c2)
          refine pj_ild2 (q := 33) (pj_d p_X9_harmWithout 20 rfl) rfl ?_
          refine pj_ald0 (q := 34) (pj_d p_X9_harmWithout 21 rfl) rfl ?_
          refine pj_gf (q := 37) (k := 5) (pj_d p_X9_harmWithout 22 rfl) rfl kX9_25 (by assumption) (by rfl) (by rfl) ?_
          refine pj_ild3 (q := 38) (pj_d p_X9_harmWithout 23 rfl) rfl ?_
          refine pj_ialdN (q := 39) (pj_d p_X9_harmWithout 24 rfl) rfl (by assumption) (by rfl) (by first | assumption | omega) (Nat.le_of_ble_eq_true rfl) ?_
          rw [hfh i hlt]
          refine pj_iadd (q := 40) (pj_d p_X9_harmWithout 25 rfl) rfl ?_
          rw [nI_add]
          refine pj_ist2 (q := 41) (pj_d p_X9_harmWithout 26 rfl) rfl (by first | rfl | assumption) ?_
          exact go _ (by rw [gd_sm, gd_hf, if_pos heq])
  exact loop (τ 2 + 1) 0 (by omega) (by omega)
theorem c_X9_isOfPair (hT : gd_T h k τ ac) (hW : gd_W τ) {a j : Nat} (ha : a < 1000) (hj : j < τ 2) : pj_Ct E B l Y_X9_isOfPair 1 0 0 [.ref k, .int (nI a), .int (nI j)] h n (pj_is (some (.int (gd_b (gd_of τ a j)))) h n) := by
  have h0 := hT.1
  obtain ⟨fa, h3, hfa⟩ := hT.2.2.2.2.1
  obtain ⟨fb, h4, hfb⟩ := hT.2.2.2.2.2.1
  have h8 := hW.2.1
  have h7 := hW.1
  obtain ⟨g1, g2, -⟩ := hW.2.2.2.2.2.1 j hj
  refine pj_in rfl (ls := [some (.ref k), some (.int (nI a)), some (.int (nI j))]) rfl (Nat.le_of_ble_eq_true rfl) ?_
  refine pj_ald0 (q := 1) (pj_d p_X9_isOfPair 0 rfl) rfl ?_
  refine pj_gf (q := 4) (k := 3) (pj_d p_X9_isOfPair 1 rfl) rfl kX9_19 (by assumption) (by rfl) (by rfl) ?_
  refine pj_ild2 (q := 5) (pj_d p_X9_isOfPair 2 rfl) rfl ?_
  refine pj_ialdN (q := 6) (pj_d p_X9_isOfPair 3 rfl) rfl (by assumption) (by rfl) (by first | assumption | omega) (Nat.le_of_ble_eq_true rfl) ?_
  rw [hfa j hj]
  refine pj_ild1 (q := 7) (pj_d p_X9_isOfPair 4 rfl) rfl ?_
  have yes : gd_of τ a j = true → pj_V E B l Y_X9_isOfPair 1 0 0 20 [some (.ref k), some (.int (nI a)), some (.int (nI j))] [] h n 0 0 (pj_is (some (.int (gd_b (gd_of τ a j)))) h n) := by
    intro hy
    rw [hy]
    refine pj_iconst (q := 21) (v := nI 1) (pj_d p_X9_isOfPair 12 rfl) rfl (by decide) ?_
    refine pj_goto (t := 25) (pj_d p_X9_isOfPair 13 rfl) (by decide) ?_
    refine pj_zret rfl (by first | rfl | decide | (split <;> rfl)) (pj_d p_X9_isOfPair 15 rfl) (by decide) (by decide) ?_
    exact ⟨rfl, rfl, rfl⟩
  refine pj_icmp_eq (t := 20) (q := 10) (pj_d p_X9_isOfPair 5 rfl) rfl (by decide) (fun c1 => ?_) (fun c1 => ?_)
  · exact yes (by rw [gd_of, decide_eq_true ((nI_eq (by omega) (by omega)).mp c1)]; rfl)
  refine pj_ald0 (q := 11) (pj_d p_X9_isOfPair 6 rfl) rfl ?_
  refine pj_gf (q := 14) (k := 4) (pj_d p_X9_isOfPair 7 rfl) rfl kX9_22 (by assumption) (by rfl) (by rfl) ?_
  refine pj_ild2 (q := 15) (pj_d p_X9_isOfPair 8 rfl) rfl ?_
  refine pj_ialdN (q := 16) (pj_d p_X9_isOfPair 9 rfl) rfl (by assumption) (by rfl) (by first | assumption | omega) (Nat.le_of_ble_eq_true rfl) ?_
  rw [hfb j hj]
  refine pj_ild1 (q := 17) (pj_d p_X9_isOfPair 10 rfl) rfl ?_
  refine pj_icmp_ne (t := 24) (q := 20) (pj_d p_X9_isOfPair 11 rfl) rfl (by decide) (fun c2 => ?_) (fun c2 => ?_)
  · have e1 : ¬ τ (32 + 3 * j) = a := fun q => c1 (by rw [q])
    have e2 : ¬ τ (33 + 3 * j) = a := fun q => c2 (by rw [q])
    refine pj_iconst (q := 25) (v := nI 0) (pj_d p_X9_isOfPair 14 rfl) rfl (by decide) ?_
    refine pj_zret rfl (by first | rfl | decide | (split <;> rfl)) (pj_d p_X9_isOfPair 15 rfl) (by decide) (by decide) ?_
    exact ⟨by rw [gd_of, decide_eq_false e1, decide_eq_false e2]; rfl, rfl, rfl⟩
  · exact yes (by rw [gd_of, decide_eq_true ((nI_eq (by omega) (by omega)).mp c2)]; simp)
theorem c_X9_harmOfPair (hT : gd_T h k τ ac) (hW : gd_W τ) {a b : Nat} (ha : a < 1000) (hb : b < 1000) : pj_Ct E B l Y_X9_harmOfPair 2 0 0 [.ref k, .int (nI a), .int (nI b)] h n (pj_is (some (.int (nI (gd_pair τ a b)))) h n) := by
  have h0 := hT.1
  obtain ⟨fh, h5, hfh⟩ := hT.2.2.2.2.2.2
  have h8 := hW.2.1
  refine pj_in rfl (ls := [some (.ref k), some (.int (nI a)), some (.int (nI b)), none]) rfl (Nat.le_of_ble_eq_true rfl) ?_
  refine pj_iconst (q := 1) (v := nI 0) (pj_d p_X9_harmOfPair 0 rfl) rfl (by decide) ?_
  refine pj_ist3 (q := 2) (pj_d p_X9_harmOfPair 1 rfl) rfl (by first | rfl | assumption) ?_
  have loop : ∀ m i, i + m = τ 2 → gd_pair τ a b = gd_pairF τ a b m i → pj_V E B l Y_X9_harmOfPair 2 0 0 2 [some (.ref k), some (.int (nI a)), some (.int (nI b)), some (.int (nI i))] [] h n 0 0 (pj_is (some (.int (nI (gd_pair τ a b)))) h n) := by
    intro m
    induction m with
    | zero =>
      intro i hi he
      refine pj_ild3 (q := 3) (pj_d p_X9_harmOfPair 2 rfl) rfl ?_
      refine pj_ald0 (q := 4) (pj_d p_X9_harmOfPair 3 rfl) rfl ?_
      refine pj_gf (q := 7) (k := 6) (pj_d p_X9_harmOfPair 4 rfl) rfl kX9_56 (by assumption) (by rfl) (by rfl) ?_
      refine pj_icmp_ge (t := 41) (q := 10) (pj_d p_X9_harmOfPair 5 rfl) rfl (by decide) (fun c1 => ?_) (fun c1 => ?_)
      · refine pj_iconst (q := 42) (v := nI 0) (pj_d p_X9_harmOfPair 23 rfl) rfl (by decide) ?_
        refine pj_iret rfl (pj_d p_X9_harmOfPair 24 rfl) (by decide) (by decide) ?_
        exact ⟨by rw [he]; rfl, rfl, rfl⟩
      · exact absurd (nI_le (show τ 2 ≤ i by omega) (by omega)) c1
    | succ m ih =>
      intro i hi he
      have hlt : i < τ 2 := by omega
      rw [gd_pairF] at he
      have next : ¬ (gd_of τ a i && gd_of τ b i) = true → pj_V E B l Y_X9_harmOfPair 2 0 0 35 [some (.ref k), some (.int (nI a)), some (.int (nI b)), some (.int (nI i))] [] h n 0 0 (pj_is (some (.int (nI (gd_pair τ a b)))) h n) := by
        intro hno
        refine pj_iinc3 (q := 38) (v := 1) (pj_d p_X9_harmOfPair 21 rfl) rfl (by first | rfl | assumption) (by decide) ?_
        refine pj_goto (t := 2) (pj_d p_X9_harmOfPair 22 rfl) (by decide) ?_
        rw [nI_1]
        exact ih (i + 1) (by omega) (by rw [he, if_neg hno])
      refine pj_ild3 (q := 3) (pj_d p_X9_harmOfPair 2 rfl) rfl ?_
      refine pj_ald0 (q := 4) (pj_d p_X9_harmOfPair 3 rfl) rfl ?_
      refine pj_gf (q := 7) (k := 6) (pj_d p_X9_harmOfPair 4 rfl) rfl kX9_56 (by assumption) (by rfl) (by rfl) ?_
      refine pj_icmp_ge (t := 41) (q := 10) (pj_d p_X9_harmOfPair 5 rfl) rfl (by decide) (fun c1 => ?_) (fun c1 => ?_)
      · exact absurd ((nI_leI (by omega) (by omega)).mp c1) (by omega)
      refine pj_ald0 (q := 11) (pj_d p_X9_harmOfPair 6 rfl) rfl ?_
      refine pj_ild1 (q := 12) (pj_d p_X9_harmOfPair 7 rfl) rfl ?_
      refine pj_ild3 (q := 13) (pj_d p_X9_harmOfPair 8 rfl) rfl ?_
      refine pj_cp (pj_rV (q := 16) (c_X9_isOfPair hT hW ha hlt) (pj_d p_X9_harmOfPair 9 rfl) rfl kX9_102 o_X9_isOfPair (by assumption) (by rfl) (by rfl) (by rfl) (by rfl) (Nat.le_of_ble_eq_true rfl) (by decide)) (by decide) (by decide) ?_
      refine pj_if_eq (t := 35) (q := 19) (pj_d p_X9_harmOfPair 10 rfl) rfl (by decide) (fun c2 => ?_) (fun c2 => ?_)
      · exact next (by rw [(gd_b_z _).mp c2]; simp)
      refine pj_ald0 (q := 20) (pj_d p_X9_harmOfPair 11 rfl) rfl ?_
      refine pj_ild2 (q := 21) (pj_d p_X9_harmOfPair 12 rfl) rfl ?_
      refine pj_ild3 (q := 22) (pj_d p_X9_harmOfPair 13 rfl) rfl ?_
      refine pj_cp (pj_rV (q := 25) (c_X9_isOfPair hT hW hb hlt) (pj_d p_X9_harmOfPair 14 rfl) rfl kX9_102 o_X9_isOfPair (by assumption) (by rfl) (by rfl) (by rfl) (by rfl) (Nat.le_of_ble_eq_true rfl) (by decide)) (by decide) (by decide) ?_
      refine pj_if_eq (t := 35) (q := 28) (pj_d p_X9_harmOfPair 15 rfl) rfl (by decide) (fun c3 => ?_) (fun c3 => ?_)
      · exact next (by rw [(gd_b_z _).mp c3]; simp)
      refine pj_ald0 (q := 29) (pj_d p_X9_harmOfPair 16 rfl) rfl ?_
      refine pj_gf (q := 32) (k := 5) (pj_d p_X9_harmOfPair 17 rfl) rfl kX9_25 (by assumption) (by rfl) (by rfl) ?_
      refine pj_ild3 (q := 33) (pj_d p_X9_harmOfPair 18 rfl) rfl ?_
      refine pj_ialdN (q := 34) (pj_d p_X9_harmOfPair 19 rfl) rfl (by assumption) (by rfl) (by first | assumption | omega) (Nat.le_of_ble_eq_true rfl) ?_
      rw [hfh i hlt]
      refine pj_iret rfl (pj_d p_X9_harmOfPair 20 rfl) (by decide) (by decide) ?_
      exact ⟨by rw [he, if_pos (by rw [(gd_b_n _).mp c2, (gd_b_n _).mp c3]; rfl)], rfl, rfl⟩
  exact loop (τ 2) 0 (by omega) rfl
theorem c_X9_harmOfPairsWith (hT : gd_T h k τ ac) (hW : gd_W τ) {a : Nat} (ha : a < 1000) : pj_Ct E B l Y_X9_harmOfPairsWith 2 0 0 [.ref k, .int (nI a)] h n (pj_is (some (.int (nI (gd_with τ a)))) h n) := by
  have h0 := hT.1
  obtain ⟨fh, h5, hfh⟩ := hT.2.2.2.2.2.2
  have h8 := hW.2.1
  refine pj_in rfl (ls := [some (.ref k), some (.int (nI a)), none, none]) rfl (Nat.le_of_ble_eq_true rfl) ?_
  refine pj_iconst (q := 1) (v := nI 0) (pj_d p_X9_harmOfPairsWith 0 rfl) rfl (by decide) ?_
  refine pj_ist2 (q := 2) (pj_d p_X9_harmOfPairsWith 1 rfl) rfl (by first | rfl | assumption) ?_
  refine pj_iconst (q := 3) (v := nI 0) (pj_d p_X9_harmOfPairsWith 2 rfl) rfl (by decide) ?_
  refine pj_ist3 (q := 4) (pj_d p_X9_harmOfPairsWith 3 rfl) rfl (by first | rfl | assumption) ?_
  have loop : ∀ m i, τ 2 - i < m → i ≤ τ 2 → pj_V E B l Y_X9_harmOfPairsWith 2 0 0 4 [some (.ref k), some (.int (nI a)), some (.int (nI (gd_sm (fun j => if gd_of τ a j then τ (34 + 3 * j) else 0) i))), some (.int (nI i))] [] h n 0 0 (pj_is (some (.int (nI (gd_with τ a)))) h n) := by
    intro m
    induction m with
    | zero => intro i hi; omega
    | succ m ih =>
      intro i hi hle
      refine pj_ild3 (q := 5) (pj_d p_X9_harmOfPairsWith 4 rfl) rfl ?_
      refine pj_ald0 (q := 6) (pj_d p_X9_harmOfPairsWith 5 rfl) rfl ?_
      refine pj_gf (q := 9) (k := 6) (pj_d p_X9_harmOfPairsWith 6 rfl) rfl kX9_56 (by assumption) (by rfl) (by rfl) ?_
      refine pj_icmp_ge (t := 36) (q := 12) (pj_d p_X9_harmOfPairsWith 7 rfl) rfl (by decide) (fun c1 => ?_) (fun c1 => ?_)
      · have hge := (nI_leI (by omega) (by omega)).mp c1
        have he : i = τ 2 := by omega
        subst he
        refine pj_ild2 (q := 37) (pj_d p_X9_harmOfPairsWith 22 rfl) rfl ?_
        refine pj_iret rfl (pj_d p_X9_harmOfPairsWith 23 rfl) (by decide) (by decide) ?_
        exact ⟨rfl, rfl, rfl⟩
      · have hlt : i < τ 2 := by
          rcases Nat.lt_or_ge i (τ 2) with q | q
          · exact q
          · exact absurd (nI_le q (by omega)) c1
        refine pj_ald0 (q := 13) (pj_d p_X9_harmOfPairsWith 8 rfl) rfl ?_
        refine pj_ild1 (q := 14) (pj_d p_X9_harmOfPairsWith 9 rfl) rfl ?_
        refine pj_ild3 (q := 15) (pj_d p_X9_harmOfPairsWith 10 rfl) rfl ?_
        refine pj_cp (pj_rV (q := 18) (c_X9_isOfPair hT hW ha hlt) (pj_d p_X9_harmOfPairsWith 11 rfl) rfl kX9_102 o_X9_isOfPair (by assumption) (by rfl) (by rfl) (by rfl) (by rfl) (Nat.le_of_ble_eq_true rfl) (by decide)) (by decide) (by decide) ?_
        have go : ∀ x, x = gd_sm (fun j => if gd_of τ a j then τ (34 + 3 * j) else 0) (i + 1) → pj_V E B l Y_X9_harmOfPairsWith 2 0 0 30 [some (.ref k), some (.int (nI a)), some (.int (nI x)), some (.int (nI i))] [] h n 0 0 (pj_is (some (.int (nI (gd_with τ a)))) h n) := by
          intro x hx
          subst hx
          refine pj_iinc3 (q := 33) (v := 1) (pj_d p_X9_harmOfPairsWith 20 rfl) rfl (by first | rfl | assumption) (by decide) ?_
          refine pj_goto (t := 4) (pj_d p_X9_harmOfPairsWith 21 rfl) (by decide) ?_
          rw [nI_1]
          exact ih (i + 1) (by omega) (by omega)
        refine pj_if_eq (t := 30) (q := 21) (pj_d p_X9_harmOfPairsWith 12 rfl) rfl (by decide) (fun c2 => ?_) (fun c2 => ?_)
        · exact go _ (by rw [gd_sm, (gd_b_z _).mp c2]; rfl)
        · refine pj_ild2 (q := 22) (pj_d p_X9_harmOfPairsWith 13 rfl) rfl ?_
          refine pj_ald0 (q := 23) (pj_d p_X9_harmOfPairsWith 14 rfl) rfl ?_
          refine pj_gf (q := 26) (k := 5) (pj_d p_X9_harmOfPairsWith 15 rfl) rfl kX9_25 (by assumption) (by rfl) (by rfl) ?_
          refine pj_ild3 (q := 27) (pj_d p_X9_harmOfPairsWith 16 rfl) rfl ?_
          refine pj_ialdN (q := 28) (pj_d p_X9_harmOfPairsWith 17 rfl) rfl (by assumption) (by rfl) (by first | assumption | omega) (Nat.le_of_ble_eq_true rfl) ?_
          rw [hfh i hlt]
          refine pj_iadd (q := 29) (pj_d p_X9_harmOfPairsWith 18 rfl) rfl ?_
          rw [nI_add]
          refine pj_ist2 (q := 30) (pj_d p_X9_harmOfPairsWith 19 rfl) rfl (by first | rfl | assumption) ?_
          exact go _ (by rw [gd_sm, (gd_b_n _).mp c2]; rfl)
  exact loop (τ 2 + 1) 0 (by omega) (by omega)
end
