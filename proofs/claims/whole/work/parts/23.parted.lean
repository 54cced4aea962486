/-! ===== the class: parted, thief ===== -/
section
variable {E : pj_E} {B : Nat} {l : Launch} {h : pj_H} {n k ac f0 : Nat} {τ : Nat → Nat}
theorem c_X3_partsBy (hT : gd_T h k τ ac) (hW : gd_W τ) {a b d e : Nat} (ha : a < τ 1) (hb : b < τ 1) (hd : d ≤ 100) (he : e ≤ 100) : pj_Ct E B l Y_X3_partsBy 5 0 0 [.ref k, .int (nI a), .int (nI b), .int (nI d), .int (nI e)] h n (pj_is (some (.int (gd_b (gd_pp τ d e a b)))) h n) := by
  have t0 := hT.1
  refine pj_in rfl (ls := [some (.ref k), some (.int (nI a)), some (.int (nI b)), some (.int (nI d)), some (.int (nI e))]) rfl (Nat.le_of_ble_eq_true rfl) ?_
  have no : gd_pp τ d e a b = false → pj_V E B l Y_X3_partsBy 5 0 0 33 [some (.ref k), some (.int (nI a)), some (.int (nI b)), some (.int (nI d)), some (.int (nI e))] [] h n 0 0 (pj_is (some (.int (gd_b (gd_pp τ d e a b)))) h n) := by
    intro hn
    rw [hn]
    refine pj_iconst (q := 34) (v := nI 0) (pj_d p_X3_partsBy 18 rfl) rfl (by decide) ?_
    refine pj_zret rfl (by first | rfl | decide | (split <;> rfl)) (pj_d p_X3_partsBy 19 rfl) (by decide) (by decide) ?_
    exact ⟨rfl, rfl, rfl⟩
  refine pj_ald0 (q := 1) (pj_d p_X3_partsBy 0 rfl) rfl ?_
  refine pj_ild1 (q := 2) (pj_d p_X3_partsBy 1 rfl) rfl ?_
  refine pj_ild2 (q := 3) (pj_d p_X3_partsBy 2 rfl) rfl ?_
  refine pj_ald0 (q := 4) (pj_d p_X3_partsBy 3 rfl) rfl ?_
  refine pj_ild3 (q := 5) (pj_d p_X3_partsBy 4 rfl) rfl ?_
  refine pj_cp (pj_rV (q := 8) (c_X9_missingIn hT hW (d := d) (by omega)) (pj_d p_X3_partsBy 5 rfl) rfl kX3_37 o_X9_missingIn (by assumption) (by rfl) (by rfl) (by rfl) (by rfl) (Nat.le_of_ble_eq_true rfl) (by decide)) (by decide) (by decide) ?_
  refine pj_cp (pj_rV (q := 11) (c_X9_areAlike hT hW ha hb (gd_miss_lt hW d)) (pj_d p_X3_partsBy 6 rfl) rfl kX3_120 o_X9_areAlike (by assumption) (by rfl) (by rfl) (by rfl) (by rfl) (Nat.le_of_ble_eq_true rfl) (by decide)) (by decide) (by decide) ?_
  refine pj_if_eq (t := 33) (q := 14) (pj_d p_X3_partsBy 7 rfl) rfl (by decide) (fun c1 => ?_) (fun c1 => ?_)
  · exact no (by rw [gd_pp, (gd_b_z _).mp c1]; rfl)
  refine pj_ald0 (q := 15) (pj_d p_X3_partsBy 8 rfl) rfl ?_
  refine pj_ild1 (q := 16) (pj_d p_X3_partsBy 9 rfl) rfl ?_
  refine pj_ild2 (q := 17) (pj_d p_X3_partsBy 10 rfl) rfl ?_
  refine pj_ald0 (q := 18) (pj_d p_X3_partsBy 11 rfl) rfl ?_
  refine pj_ild4 (q := 20) (pj_d p_X3_partsBy 12 rfl) rfl ?_
  refine pj_cp (pj_rV (q := 23) (c_X9_missingIn hT hW (d := e) (by omega)) (pj_d p_X3_partsBy 13 rfl) rfl kX3_37 o_X9_missingIn (by assumption) (by rfl) (by rfl) (by rfl) (by rfl) (Nat.le_of_ble_eq_true rfl) (by decide)) (by decide) (by decide) ?_
  refine pj_cp (pj_rV (q := 26) (c_X9_areAlike hT hW ha hb (gd_miss_lt hW e)) (pj_d p_X3_partsBy 14 rfl) rfl kX3_120 o_X9_areAlike (by assumption) (by rfl) (by rfl) (by rfl) (by rfl) (Nat.le_of_ble_eq_true rfl) (by decide)) (by decide) (by decide) ?_
  refine pj_if_ne (t := 33) (q := 29) (pj_d p_X3_partsBy 15 rfl) rfl (by decide) (fun c2 => ?_) (fun c2 => ?_)
  · exact no (by rw [gd_pp, (gd_b_n _).mp c2]; simp)
  · rw [show gd_pp τ d e a b = true by rw [gd_pp, (gd_b_n _).mp c1, (gd_b_z _).mp c2]; rfl]
    refine pj_iconst (q := 30) (v := nI 1) (pj_d p_X3_partsBy 16 rfl) rfl (by decide) ?_
    refine pj_goto (t := 34) (pj_d p_X3_partsBy 17 rfl) (by decide) ?_
    refine pj_zret rfl (by first | rfl | decide | (split <;> rfl)) (pj_d p_X3_partsBy 19 rfl) (by decide) (by decide) ?_
    exact ⟨rfl, rfl, rfl⟩
theorem c_X3_countParting (hT : gd_T h k τ ac) (hW : gd_W τ) {d e : Nat} (hd : d ≤ 100) (he : e ≤ 100) : pj_Ct E B l Y_X3_countParting 6 0 0 [.ref f0, .ref k, .int (nI d), .int (nI e)] h n (pj_is (some (.int (nI (gd_ct (gd_pc τ d e) 49)))) h n) := by
  have t0 := hT.1
  have h7 := hW.1
  generalize hp : gd_pc τ d e = p
  refine pj_in rfl (ls := [some (.ref f0), some (.ref k), some (.int (nI d)), some (.int (nI e)), none, none, none]) rfl (Nat.le_of_ble_eq_true rfl) ?_
  refine pj_iconst (q := 1) (v := nI 0) (pj_d p_X3_countParting 0 rfl) rfl (by decide) ?_
  refine pj_ist4 (q := 3) (pj_d p_X3_countParting 1 rfl) rfl (by first | rfl | assumption) ?_
  refine pj_iconst (q := 4) (v := nI 0) (pj_d p_X3_countParting 2 rfl) rfl (by decide) ?_
  refine pj_ist5 (q := 6) (pj_d p_X3_countParting 3 rfl) rfl (by first | rfl | assumption) ?_
  have outer : ∀ m a o6, pj_c1 o6 = true → τ 1 - a < m → a ≤ τ 1 → pj_V E B l Y_X3_countParting 6 0 0 6 [some (.ref f0), some (.ref k), some (.int (nI d)), some (.int (nI e)), some (.int (nI (gd_ct p (7 * a)))), some (.int (nI a)), o6] [] h n 0 0 (pj_is (some (.int (nI (gd_ct p 49)))) h n) := by
    intro m
    induction m with
    | zero => intro a o6 _ hi; omega
    | succ m ih =>
      intro a o6 k6 hi hle
      refine pj_ild5 (q := 8) (pj_d p_X3_countParting 4 rfl) rfl ?_
      refine pj_ald1 (q := 9) (pj_d p_X3_countParting 5 rfl) rfl ?_
      refine pj_cp (pj_rV (q := 12) (c_X9_thingCount hT) (pj_d p_X3_countParting 6 rfl) rfl kX3_23 o_X9_thingCount (by assumption) (by rfl) (by rfl) (by rfl) (by rfl) (Nat.le_of_ble_eq_true rfl) (by decide)) (by decide) (by decide) ?_
      refine pj_icmp_ge (t := 58) (q := 15) (pj_d p_X3_countParting 7 rfl) rfl (by decide) (fun c5 => ?_) (fun c5 => ?_)
      · have he : a = (τ 1) := by have := gd_ge c5 (by omega) (by omega); omega
        subst he
        obtain ⟨s1, s2⟩ := gd_ct_to (p := p) (i := 7 * τ 1) (j := 49) (by omega) (fun c h1 h2 => by rw [← hp]; exact gd_pc_out (by omega))
        refine pj_ild4 (q := 60) (pj_d p_X3_countParting 28 rfl) rfl ?_
        refine pj_iret rfl (pj_d p_X3_countParting 29 rfl) (by decide) (by decide) ?_
        exact ⟨by rw [s1], rfl, rfl⟩
      have ha : a < τ 1 := gd_lt c5 (by omega)
      refine pj_ild5 (q := 17) (pj_d p_X3_countParting 8 rfl) rfl ?_
      refine pj_iconst (q := 18) (v := nI 1) (pj_d p_X3_countParting 9 rfl) rfl (by decide) ?_
      refine pj_iadd (q := 19) (pj_d p_X3_countParting 10 rfl) rfl ?_
      rw [nI_add]
      refine pj_ist6 (q := 21) (pj_d p_X3_countParting 11 rfl) rfl (by first | rfl | assumption) ?_
      have inner : ∀ m2 b, a < b → τ 1 - b < m2 → b ≤ τ 1 → pj_V E B l Y_X3_countParting 6 0 0 21 [some (.ref f0), some (.ref k), some (.int (nI d)), some (.int (nI e)), some (.int (nI (gd_ct p (7 * a + b)))), some (.int (nI a)), some (.int (nI b))] [] h n 0 0 (pj_is (some (.int (nI (gd_ct p 49)))) h n) := by
        intro m2
        induction m2 with
        | zero => intro b _ hb; omega
        | succ m2 ih2 =>
          intro b hab hb hble
          refine pj_ild6 (q := 23) (pj_d p_X3_countParting 12 rfl) rfl ?_
          refine pj_ald1 (q := 24) (pj_d p_X3_countParting 13 rfl) rfl ?_
          refine pj_cp (pj_rV (q := 27) (c_X9_thingCount hT) (pj_d p_X3_countParting 14 rfl) rfl kX3_23 o_X9_thingCount (by assumption) (by rfl) (by rfl) (by rfl) (by rfl) (Nat.le_of_ble_eq_true rfl) (by decide)) (by decide) (by decide) ?_
          refine pj_icmp_ge (t := 52) (q := 30) (pj_d p_X3_countParting 15 rfl) rfl (by decide) (fun c6 => ?_) (fun c6 => ?_)
          · have he : b = (τ 1) := by have := gd_ge c6 (by omega) (by omega); omega
            subst he
            obtain ⟨s1, s2⟩ := gd_ct_to (p := p) (i := 7 * a + τ 1) (j := 7 * (a + 1)) (by omega) (fun c h1 h2 => by rw [← hp]; exact gd_pc_out (by omega))
            rw [← s1]
            refine pj_iinc5 (q := 55) (v := 1) (pj_d p_X3_countParting 26 rfl) rfl (by first | rfl | assumption) (by decide) ?_
            refine pj_goto (t := 6) (pj_d p_X3_countParting 27 rfl) (by decide) ?_
            rw [nI_1]
            exact ih (a + 1) _ rfl (by omega) (by omega)
          have hbt : b < τ 1 := gd_lt c6 (by omega)
          have hpp : p (7 * a + b) = gd_pp τ d e a b := by rw [← hp]; exact gd_pc_in h7 hab hbt
          refine pj_ald1 (q := 31) (pj_d p_X3_countParting 16 rfl) rfl ?_
          refine pj_ild5 (q := 33) (pj_d p_X3_countParting 17 rfl) rfl ?_
          refine pj_ild6 (q := 35) (pj_d p_X3_countParting 18 rfl) rfl ?_
          refine pj_ild2 (q := 36) (pj_d p_X3_countParting 19 rfl) rfl ?_
          refine pj_ild3 (q := 37) (pj_d p_X3_countParting 20 rfl) rfl ?_
          refine pj_cp (pj_rS (q := 40) (c_X3_partsBy hT hW ha hbt hd he) (pj_d p_X3_countParting 21 rfl) rfl kX3_116 o_X3_partsBy (by rfl) (by rfl) (Nat.le_of_ble_eq_true rfl) (by decide)) (by decide) (by decide) ?_
          have fin : ∀ z, z = gd_ct p (7 * a + b + 1) → pj_V E B l Y_X3_countParting 6 0 0 46 [some (.ref f0), some (.ref k), some (.int (nI d)), some (.int (nI e)), some (.int (nI z)), some (.int (nI a)), some (.int (nI b))] [] h n 0 0 (pj_is (some (.int (nI (gd_ct p 49)))) h n) := by
            intro z hz
            subst hz
            refine pj_iinc6 (q := 49) (v := 1) (pj_d p_X3_countParting 24 rfl) rfl (by first | rfl | assumption) (by decide) ?_
            refine pj_goto (t := 21) (pj_d p_X3_countParting 25 rfl) (by decide) ?_
            rw [nI_1]
            exact ih2 (b + 1) (by omega) (by omega) (by omega)
          refine pj_if_eq (t := 46) (q := 43) (pj_d p_X3_countParting 22 rfl) rfl (by decide) (fun c7 => ?_) (fun c7 => ?_)
          · exact fin _ (by rw [gd_ct, hpp, (gd_b_z _).mp c7]; rfl)
          · refine pj_iinc4 (q := 46) (v := 1) (pj_d p_X3_countParting 23 rfl) rfl (by first | rfl | assumption) (by decide) ?_
            rw [nI_1]
            exact fin _ (by rw [gd_ct, hpp, (gd_b_n _).mp c7]; rfl)
      obtain ⟨s1, s2⟩ := gd_ct_to (p := p) (i := 7 * a) (j := 7 * a + (a + 1)) (by omega) (fun c h1 h2 => by rw [← hp]; exact gd_pc_out (by omega))
      rw [← s1]
      exact inner (τ 1 + 1) (a + 1) (by omega) (by omega) (by omega)
  exact outer (τ 1 + 1) 0 none rfl (by omega) (by omega)
theorem c_X3_firstParting (hT : gd_T h k τ ac) (hW : gd_W τ) {d e : Nat} (hd : d ≤ 100) (he : e ≤ 100) : pj_Ct E B l Y_X3_firstParting 6 0 0 [.ref f0, .ref k, .int (nI d), .int (nI e)] h n (pj_is (some (.int (gd_fs (gd_pc τ d e) 49))) h n) := by
  have t0 := hT.1
  have h7 := hW.1
  generalize hp : gd_pc τ d e = p
  refine pj_in rfl (ls := [some (.ref f0), some (.ref k), some (.int (nI d)), some (.int (nI e)), none, none]) rfl (Nat.le_of_ble_eq_true rfl) ?_
  refine pj_iconst (q := 1) (v := nI 0) (pj_d p_X3_firstParting 0 rfl) rfl (by decide) ?_
  refine pj_ist4 (q := 3) (pj_d p_X3_firstParting 1 rfl) rfl (by first | rfl | assumption) ?_
  have outer : ∀ m a o5, pj_c1 o5 = true → gd_ct p (7 * a) = 0 → gd_fs p (7 * a) = -1000000 → τ 1 - a < m → a ≤ τ 1 → pj_V E B l Y_X3_firstParting 6 0 0 3 [some (.ref f0), some (.ref k), some (.int (nI d)), some (.int (nI e)), some (.int (nI a)), o5] [] h n 0 0 (pj_is (some (.int (gd_fs p 49))) h n) := by
    intro m
    induction m with
    | zero => intro a o5 _ _ _ hi; omega
    | succ m ih =>
      intro a o5 k5 hz hy hi hle
      refine pj_ild4 (q := 5) (pj_d p_X3_firstParting 2 rfl) rfl ?_
      refine pj_ald1 (q := 6) (pj_d p_X3_firstParting 3 rfl) rfl ?_
      refine pj_cp (pj_rV (q := 9) (c_X9_thingCount hT) (pj_d p_X3_firstParting 4 rfl) rfl kX3_23 o_X9_thingCount (by assumption) (by rfl) (by rfl) (by rfl) (by rfl) (Nat.le_of_ble_eq_true rfl) (by decide)) (by decide) (by decide) ?_
      refine pj_icmp_ge (t := 61) (q := 12) (pj_d p_X3_firstParting 5 rfl) rfl (by decide) (fun c5 => ?_) (fun c5 => ?_)
      · have he : a = (τ 1) := by have := gd_ge c5 (by omega) (by omega); omega
        subst he
        obtain ⟨s1, s2⟩ := gd_ct_to (p := p) (i := 7 * τ 1) (j := 49) (by omega) (fun c h1 h2 => by rw [← hp]; exact gd_pc_out (by omega))
        refine pj_ldc (q := 63) (pj_d p_X3_firstParting 31 rfl) rfl kX3_55 ?_
        refine pj_iret rfl (pj_d p_X3_firstParting 32 rfl) (by decide) (by decide) ?_
        exact ⟨by rw [s2, hy], rfl, rfl⟩
      have ha : a < τ 1 := gd_lt c5 (by omega)
      refine pj_ild4 (q := 14) (pj_d p_X3_firstParting 6 rfl) rfl ?_
      refine pj_iconst (q := 15) (v := nI 1) (pj_d p_X3_firstParting 7 rfl) rfl (by decide) ?_
      refine pj_iadd (q := 16) (pj_d p_X3_firstParting 8 rfl) rfl ?_
      rw [nI_add]
      refine pj_ist5 (q := 18) (pj_d p_X3_firstParting 9 rfl) rfl (by first | rfl | assumption) ?_
      have inner : ∀ m2 b, gd_ct p (7 * a + b) = 0 → gd_fs p (7 * a + b) = -1000000 → a < b → τ 1 - b < m2 → b ≤ τ 1 → pj_V E B l Y_X3_firstParting 6 0 0 18 [some (.ref f0), some (.ref k), some (.int (nI d)), some (.int (nI e)), some (.int (nI a)), some (.int (nI b))] [] h n 0 0 (pj_is (some (.int (gd_fs p 49))) h n) := by
        intro m2
        induction m2 with
        | zero => intro b _ _ _ hb; omega
        | succ m2 ih2 =>
          intro b hz hy hab hb hble
          refine pj_ild5 (q := 20) (pj_d p_X3_firstParting 10 rfl) rfl ?_
          refine pj_ald1 (q := 21) (pj_d p_X3_firstParting 11 rfl) rfl ?_
          refine pj_cp (pj_rV (q := 24) (c_X9_thingCount hT) (pj_d p_X3_firstParting 12 rfl) rfl kX3_23 o_X9_thingCount (by assumption) (by rfl) (by rfl) (by rfl) (by rfl) (Nat.le_of_ble_eq_true rfl) (by decide)) (by decide) (by decide) ?_
          refine pj_icmp_ge (t := 55) (q := 27) (pj_d p_X3_firstParting 13 rfl) rfl (by decide) (fun c6 => ?_) (fun c6 => ?_)
          · have he : b = (τ 1) := by have := gd_ge c6 (by omega) (by omega); omega
            subst he
            obtain ⟨s1, s2⟩ := gd_ct_to (p := p) (i := 7 * a + τ 1) (j := 7 * (a + 1)) (by omega) (fun c h1 h2 => by rw [← hp]; exact gd_pc_out (by omega))
            refine pj_iinc4 (q := 58) (v := 1) (pj_d p_X3_firstParting 29 rfl) rfl (by first | rfl | assumption) (by decide) ?_
            refine pj_goto (t := 3) (pj_d p_X3_firstParting 30 rfl) (by decide) ?_
            rw [nI_1]
            exact ih (a + 1) _ rfl (by rw [s1, hz]) (by rw [s2, hy]) (by omega) (by omega)
          have hbt : b < τ 1 := gd_lt c6 (by omega)
          have hpp : p (7 * a + b) = gd_pp τ d e a b := by rw [← hp]; exact gd_pc_in h7 hab hbt
          refine pj_ald1 (q := 28) (pj_d p_X3_firstParting 14 rfl) rfl ?_
          refine pj_ild4 (q := 30) (pj_d p_X3_firstParting 15 rfl) rfl ?_
          refine pj_ild5 (q := 32) (pj_d p_X3_firstParting 16 rfl) rfl ?_
          refine pj_ild2 (q := 33) (pj_d p_X3_firstParting 17 rfl) rfl ?_
          refine pj_ild3 (q := 34) (pj_d p_X3_firstParting 18 rfl) rfl ?_
          refine pj_cp (pj_rS (q := 37) (c_X3_partsBy hT hW ha hbt hd he) (pj_d p_X3_firstParting 19 rfl) rfl kX3_116 o_X3_partsBy (by rfl) (by rfl) (Nat.le_of_ble_eq_true rfl) (by decide)) (by decide) (by decide) ?_
          refine pj_if_eq (t := 49) (q := 40) (pj_d p_X3_firstParting 20 rfl) rfl (by decide) (fun c7 => ?_) (fun c7 => ?_)
          · have hf : p (7 * a + b) = false := by rw [hpp]; exact (gd_b_z _).mp c7
            refine pj_iinc5 (q := 52) (v := 1) (pj_d p_X3_firstParting 27 rfl) rfl (by first | rfl | assumption) (by decide) ?_
            refine pj_goto (t := 18) (pj_d p_X3_firstParting 28 rfl) (by decide) ?_
            rw [nI_1]
            exact ih2 (b + 1) (by rw [← Nat.add_assoc, gd_ct, hz, hf]; rfl) (by rw [← Nat.add_assoc, gd_fs, hf, if_neg (by simp), hy]) (by omega) (by omega) (by omega)
          · refine pj_bipush (q := 42) (v := nI 7) (pj_d p_X3_firstParting 21 rfl) rfl (by decide) ?_
            refine pj_ild4 (q := 44) (pj_d p_X3_firstParting 22 rfl) rfl ?_
            refine pj_imul (q := 45) (pj_d p_X3_firstParting 23 rfl) rfl ?_
            refine pj_ild5 (q := 47) (pj_d p_X3_firstParting 24 rfl) rfl ?_
            refine pj_iadd (q := 48) (pj_d p_X3_firstParting 25 rfl) rfl ?_
            rw [pk_mul, nI_add]
            refine pj_iret rfl (pj_d p_X3_firstParting 26 rfl) (by decide) (by decide) ?_
            have := gd_fs_at hz (by rw [hpp]; exact (gd_b_n _).mp c7) (48 - (7 * a + b))
            rw [show 7 * a + b + 1 + (48 - (7 * a + b)) = 49 by omega] at this
            exact ⟨by rw [this], rfl, rfl⟩
      obtain ⟨s1, s2⟩ := gd_ct_to (p := p) (i := 7 * a) (j := 7 * a + (a + 1)) (by omega) (fun c h1 h2 => by rw [← hp]; exact gd_pc_out (by omega))
      exact inner (τ 1 + 1) (a + 1) (by rw [s1, hz]) (by rw [s2, hy]) (by omega) (by omega) (by omega)
  exact outer (τ 1 + 1) 0 none rfl rfl rfl (by omega) (by omega)
theorem c_X3_bestHiding (hF : gd_F h f0) (hT : gd_T h k τ ac) (hW : gd_W τ) (hk : f0 + 3 < k) {j : Nat} (hj : j ≤ 1) : pj_Ct E B l Y_X3_bestHiding 6 0 0 [.ref f0, .ref k, .int (nI j)] h n (gd_sc (if j = 0 then gd_o1 (gd_tf τ 49) else gd_o2 (gd_tf τ 49)) h f0 n) := by
  have h7 := hW.1
  obtain ⟨f, hf⟩ := hF.2.1
  refine pj_in rfl (ls := [some (.ref f0), some (.ref k), some (.int (nI j)), none, none, none, none, none]) rfl (Nat.le_of_ble_eq_true rfl) ?_
  refine pj_ldc (q := 2) (pj_d p_X3_bestHiding 0 rfl) rfl kX3_55 ?_
  refine pj_ist3 (q := 3) (pj_d p_X3_bestHiding 1 rfl) rfl (by first | rfl | assumption) ?_
  refine pj_ldc (q := 5) (pj_d p_X3_bestHiding 2 rfl) rfl kX3_55 ?_
  refine pj_ist4 (q := 7) (pj_d p_X3_bestHiding 3 rfl) rfl (by first | rfl | assumption) ?_
  refine pj_iconst (q := 8) (v := nI 0) (pj_d p_X3_bestHiding 4 rfl) rfl (by decide) ?_
  refine pj_ist5 (q := 10) (pj_d p_X3_bestHiding 5 rfl) rfl (by first | rfl | assumption) ?_
  have outer : ∀ m d f o6 o7, pj_c1 o6 = true → pj_c1 o7 = true → 7 - d < m → d ≤ 7 → pj_V E B l Y_X3_bestHiding 6 0 0 10 [some (.ref f0), some (.ref k), some (.int (nI j)), some (.int (gd_o1 (gd_tf τ (7 * d)))), some (.int (gd_o2 (gd_tf τ (7 * d)))), some (.int (nI d)), o6, o7] [] (pj_up h (f0 + 1) (.inl (0, 7, .inl f))) n 0 0 (gd_sc (if j = 0 then gd_o1 (gd_tf τ 49) else gd_o2 (gd_tf τ 49)) h f0 n) := by
    intro m
    induction m with
    | zero => intro d f o6 o7 _ _ hi; omega
    | succ m ih =>
      intro d f o6 o7 k6 k7 hi hle
      refine pj_ild5 (q := 12) (pj_d p_X3_bestHiding 6 rfl) rfl ?_
      refine pj_bipush (q := 14) (v := nI 7) (pj_d p_X3_bestHiding 7 rfl) rfl (by decide) ?_
      refine pj_icmp_ge (t := 77) (q := 17) (pj_d p_X3_bestHiding 8 rfl) rfl (by decide) (fun c5 => ?_) (fun c5 => ?_)
      · have he : d = 7 := by have := gd_ge c5 (by omega) (by omega); omega
        subst he
        refine pj_ild2 (q := 78) (pj_d p_X3_bestHiding 39 rfl) rfl ?_
        refine pj_if_ne (t := 85) (q := 81) (pj_d p_X3_bestHiding 40 rfl) rfl (by decide) (fun c6 => ?_) (fun c6 => ?_)
        · have hj0 : ¬ j = 0 := fun q => c6 (by rw [q]; rfl)
          refine pj_ild4 (q := 87) (pj_d p_X3_bestHiding 43 rfl) rfl ?_
          refine pj_iret rfl (pj_d p_X3_bestHiding 44 rfl) (by decide) (by decide) ?_
          exact ⟨by rw [if_neg hj0], rfl, f, rfl⟩
        · have hj0 : j = 0 := (nI_eq (by omega) (by omega)).mp (c6.trans nI_0.symm)
          refine pj_ild3 (q := 82) (pj_d p_X3_bestHiding 41 rfl) rfl ?_
          refine pj_goto (t := 87) (pj_d p_X3_bestHiding 42 rfl) (by decide) ?_
          refine pj_iret rfl (pj_d p_X3_bestHiding 44 rfl) (by decide) (by decide) ?_
          exact ⟨by rw [if_pos hj0], rfl, f, rfl⟩
      have hd : d < 7 := gd_lt c5 (by omega)
      refine pj_iconst (q := 18) (v := nI 0) (pj_d p_X3_bestHiding 9 rfl) rfl (by decide) ?_
      refine pj_ist6 (q := 20) (pj_d p_X3_bestHiding 10 rfl) rfl (by first | rfl | assumption) ?_
      have inner : ∀ m2 t f o7, pj_c1 o7 = true → τ 1 - t < m2 → t ≤ τ 1 → pj_V E B l Y_X3_bestHiding 6 0 0 20 [some (.ref f0), some (.ref k), some (.int (nI j)), some (.int (gd_o1 (gd_tf τ (7 * d + t)))), some (.int (gd_o2 (gd_tf τ (7 * d + t)))), some (.int (nI d)), some (.int (nI t)), o7] [] (pj_up h (f0 + 1) (.inl (0, 7, .inl f))) n 0 0 (gd_sc (if j = 0 then gd_o1 (gd_tf τ 49) else gd_o2 (gd_tf τ 49)) h f0 n) := by
        intro m2
        induction m2 with
        | zero => intro t f o7 _ hb; omega
        | succ m2 ih2 =>
          intro t f o7 k7 hb hble
          have hT1 : gd_T (pj_up h (f0 + 1) (.inl (0, 7, .inl f))) k τ ac := hT.up (by omega)
          have t0 := hT1.1
          have F0 := (hF.up (f := f)).1
          refine pj_ild6 (q := 22) (pj_d p_X3_bestHiding 11 rfl) rfl ?_
          refine pj_ald1 (q := 23) (pj_d p_X3_bestHiding 12 rfl) rfl ?_
          refine pj_cp (pj_rV (q := 26) (c_X9_thingCount hT1) (pj_d p_X3_bestHiding 13 rfl) rfl kX3_23 o_X9_thingCount (by assumption) (by rfl) (by rfl) (by rfl) (by rfl) (Nat.le_of_ble_eq_true rfl) (by decide)) (by decide) (by decide) ?_
          refine pj_icmp_ge (t := 71) (q := 29) (pj_d p_X3_bestHiding 14 rfl) rfl (by decide) (fun c6 => ?_) (fun c6 => ?_)
          · have he : t = (τ 1) := by have := gd_ge c6 (by omega) (by omega); omega
            subst he
            rw [← gd_tf_skip (τ := τ) (i := 7 * d + τ 1) (j := 7 * (d + 1)) (by omega) (fun c h1 h2 => by omega)]
            refine pj_iinc5 (q := 74) (v := 1) (pj_d p_X3_bestHiding 37 rfl) rfl (by first | rfl | assumption) (by decide) ?_
            refine pj_goto (t := 10) (pj_d p_X3_bestHiding 38 rfl) (by decide) ?_
            rw [nI_1]
            exact ih (d + 1) f _ _ rfl k7 (by omega) (by omega)
          have ht' : t < τ 1 := gd_lt c6 (by omega)
          refine pj_ald0 (q := 30) (pj_d p_X3_bestHiding 15 rfl) rfl ?_
          refine pj_ald1 (q := 31) (pj_d p_X3_bestHiding 16 rfl) rfl ?_
          refine pj_ild6 (q := 33) (pj_d p_X3_bestHiding 17 rfl) rfl ?_
          refine pj_ild5 (q := 35) (pj_d p_X3_bestHiding 18 rfl) rfl ?_
          refine pj_cv (pj_rV (q := 38) (c_X3_alikeWith (hF.up (f := f)) hT1 hW hk ht' (d := d) (by omega)) (pj_d p_X3_bestHiding 19 rfl) rfl kX3_44 o_X3_alikeWith (by assumption) (by rfl) (by rfl) (by rfl) (by rfl) (Nat.le_of_ble_eq_true rfl) (by decide)) (by decide) (by decide) ?_
          rintro r h' n' ⟨rfl, rfl, f2, rfl⟩
          rw [pj_up_up]
          show pj_V E B l Y_X3_bestHiding 6 0 0 38 [some (.ref f0), some (.ref k), some (.int (nI j)), some (.int (gd_o1 (gd_tf τ (7 * d + t)))), some (.int (gd_o2 (gd_tf τ (7 * d + t)))), some (.int (nI d)), some (.int (nI t)), o7] [.int (nI (gd_like τ t (gd_miss τ d)))] (pj_up h (f0 + 1) (.inl (0, 7, .inl f2))) n' 0 0 (gd_sc (if j = 0 then gd_o1 (gd_tf τ 49) else gd_o2 (gd_tf τ 49)) h f0 n')
          refine pj_cp (pj_rS (q := 41) (c_J6_bitCount _ (gd_like128 h7 _ _)) (pj_d p_X3_bestHiding 20 rfl) rfl kX3_90 o_J6_bitCount_0f7a4 (by rfl) (by rfl) (Nat.le_of_ble_eq_true rfl) (by decide)) (by decide) (by decide) ?_
          refine pj_iconst (q := 42) (v := nI 1) (pj_d p_X3_bestHiding 21 rfl) rfl (by decide) ?_
          refine pj_isub (q := 43) (pj_d p_X3_bestHiding 22 rfl) rfl ?_
          rw [gd_otI h7 ht']
          refine pj_ist7 (q := 45) (pj_d p_X3_bestHiding 23 rfl) rfl (by first | rfl | assumption) ?_
          refine pj_ild7 (q := 47) (pj_d p_X3_bestHiding 24 rfl) rfl ?_
          refine pj_ild4 (q := 49) (pj_d p_X3_bestHiding 25 rfl) rfl ?_
          have e7 : (7 * d + t) % 7 = t := by omega
          have next : ∀ x y, x = gd_o1 (gd_tf τ (7 * d + t + 1)) → y = gd_o2 (gd_tf τ (7 * d + t + 1)) → pj_V E B l Y_X3_bestHiding 6 0 0 65 [some (.ref f0), some (.ref k), some (.int (nI j)), some (.int (x)), some (.int (y)), some (.int (nI d)), some (.int (nI t)), some (.int (nI (gd_ot τ (7 * d + t))))] [] (pj_up h (f0 + 1) (.inl (0, 7, .inl f2))) n' 0 0 (gd_sc (if j = 0 then gd_o1 (gd_tf τ 49) else gd_o2 (gd_tf τ 49)) h f0 n') := by
            intro x y hx hy
            subst hx
            subst hy
            refine pj_iinc6 (q := 68) (v := 1) (pj_d p_X3_bestHiding 35 rfl) rfl (by first | rfl | assumption) (by decide) ?_
            refine pj_goto (t := 20) (pj_d p_X3_bestHiding 36 rfl) (by decide) ?_
            rw [nI_1]
            exact ih2 (t + 1) f2 _ rfl (by omega) (by omega)
          refine pj_icmp_le (t := 65) (q := 52) (pj_d p_X3_bestHiding 26 rfl) rfl (by decide) (fun c7 => ?_) (fun c7 => ?_)
          · have hno := (gd_more _).mp c7
            have hst : gd_tf τ (7 * d + t + 1) = gd_tf τ (7 * d + t) := by rw [gd_tf, if_neg (fun q => hno q.2)]
            exact next _ _ (by rw [hst]) (by rw [hst])
          · have hyes : ∀ q, gd_tf τ (7 * d + t) = some q → q.2 < gd_ot τ (7 * d + t) := Classical.byContradiction fun q => c7 ((gd_more _).mpr q)
            have hst : gd_tf τ (7 * d + t + 1) = some (7 * d + t, gd_ot τ (7 * d + t)) := by rw [gd_tf, if_pos ⟨by rw [e7]; exact ht', hyes⟩]
            refine pj_bipush (q := 54) (v := nI 7) (pj_d p_X3_bestHiding 27 rfl) rfl (by decide) ?_
            refine pj_ild5 (q := 56) (pj_d p_X3_bestHiding 28 rfl) rfl ?_
            refine pj_imul (q := 57) (pj_d p_X3_bestHiding 29 rfl) rfl ?_
            refine pj_ild6 (q := 59) (pj_d p_X3_bestHiding 30 rfl) rfl ?_
            refine pj_iadd (q := 60) (pj_d p_X3_bestHiding 31 rfl) rfl ?_
            rw [pk_mul, nI_add]
            refine pj_ist3 (q := 61) (pj_d p_X3_bestHiding 32 rfl) rfl (by first | rfl | assumption) ?_
            refine pj_ild7 (q := 63) (pj_d p_X3_bestHiding 33 rfl) rfl ?_
            refine pj_ist4 (q := 65) (pj_d p_X3_bestHiding 34 rfl) rfl (by first | rfl | assumption) ?_
            exact next _ _ (by rw [hst]; rfl) (by rw [hst]; rfl)
      exact inner (τ 1 + 1) 0 f _ k7 (by omega) (by omega)
  have := outer 8 0 f none none rfl rfl (by omega) (by omega)
  rw [pj_up_id hf] at this
  exact this
end
section
variable {E : pj_E} {B : Nat} {l : Launch} {h : pj_H} {n b ac : Nat} {po : Option Nat} {lf st : Int32} {τ : Nat → Nat}
theorem c_X11_parted (hX : gd_XR h b po lf st τ ac) (d e w : Int32) : pj_Ct E B l Y_X11_parted 7 0 0 [.ref b, .int d, .int e, .int w] h n (pj_is (some (.int (sp_parted τ d e w))) h n) := by
  obtain ⟨hx, hF, hW, hp⟩ := hX
  have h7 := hW.1
  have F0 := hF.1
  refine pj_in rfl (ls := [some (.ref b), some (.int (d)), some (.int (e)), some (.int (w))]) rfl (Nat.le_of_ble_eq_true rfl) ?_
  cases po with
  | none =>
    obtain ⟨p0, p1⟩ := hp
    have hx : h b = some (.inr (10, [.ref (b + 1), .ref (b + 13), .ref (b + 15), .ref (b + 19), .ref (b + 21), .null, .int lf, .int st])) := hx
    refine pj_ald0 (q := 1) (pj_d p_X11_parted 0 rfl) rfl ?_
    refine pj_gf (q := 4) (k := 5) (pj_d p_X11_parted 1 rfl) rfl kX11_102 (by assumption) (by rfl) (by rfl) ?_
    refine pj_ifnonnullN (q := 7) (pj_d p_X11_parted 2 rfl) rfl ?_
    refine pj_ldc (q := 9) (pj_d p_X11_parted 3 rfl) rfl kX11_112 ?_
    refine pj_iret rfl (pj_d p_X11_parted 4 rfl) (by decide) (by decide) ?_
    exact ⟨by simp [sp_parted, p0], rfl, rfl⟩
  | some k =>
    obtain ⟨hk, p0, hT⟩ := hp
    have hx : h b = some (.inr (10, [.ref (b + 1), .ref (b + 13), .ref (b + 15), .ref (b + 19), .ref (b + 21), .ref k, .int lf, .int st])) := hx
    have t0 := hT.1
    refine pj_ald0 (q := 1) (pj_d p_X11_parted 0 rfl) rfl ?_
    refine pj_gf (q := 4) (k := 5) (pj_d p_X11_parted 1 rfl) rfl kX11_102 (by assumption) (by rfl) (by rfl) ?_
    refine pj_ifnonnull (t := 10) (pj_d p_X11_parted 2 rfl) (by decide) ?_
    have bad : (gd_rng d 0 100 && gd_rng e 0 100 && gd_rng w 0 1) = false → pj_V E B l Y_X11_parted 7 0 0 31 [some (.ref b), some (.int (d)), some (.int (e)), some (.int (w))] [] h n 0 0 (pj_is (some (.int (sp_parted τ d e w))) h n) := by
      intro hx
      refine pj_ldc (q := 33) (pj_d p_X11_parted 14 rfl) rfl kX11_47 ?_
      refine pj_iret rfl (pj_d p_X11_parted 15 rfl) (by decide) (by decide) ?_
      exact ⟨by rw [sp_parted, if_pos p0, hx]; rfl, rfl, rfl⟩
    refine pj_ild1 (q := 11) (pj_d p_X11_parted 5 rfl) rfl ?_
    refine pj_cp (pj_rS (q := 14) (c_X11_isAhead d) (pj_d p_X11_parted 6 rfl) rfl kX11_174 o_X11_isAhead (by rfl) (by rfl) (Nat.le_of_ble_eq_true rfl) (by decide)) (by decide) (by decide) ?_
    refine pj_if_eq (t := 31) (q := 17) (pj_d p_X11_parted 7 rfl) rfl (by decide) (fun c2 => ?_) (fun c2 => ?_)
    · exact bad (by rw [(gd_b_z _).mp c2]; rfl)
    refine pj_ild2 (q := 18) (pj_d p_X11_parted 8 rfl) rfl ?_
    refine pj_cp (pj_rS (q := 21) (c_X11_isAhead e) (pj_d p_X11_parted 9 rfl) rfl kX11_174 o_X11_isAhead (by rfl) (by rfl) (Nat.le_of_ble_eq_true rfl) (by decide)) (by decide) (by decide) ?_
    refine pj_if_eq (t := 31) (q := 24) (pj_d p_X11_parted 10 rfl) rfl (by decide) (fun c3 => ?_) (fun c3 => ?_)
    · exact bad (by rw [(gd_b_z _).mp c3]; simp)
    refine pj_ild3 (q := 25) (pj_d p_X11_parted 11 rfl) rfl ?_
    refine pj_cp (pj_rS (q := 28) (c_X11_isChoice w) (pj_d p_X11_parted 12 rfl) rfl kX11_195 o_X11_isChoice (by rfl) (by rfl) (Nat.le_of_ble_eq_true rfl) (by decide)) (by decide) (by decide) ?_
    refine pj_if_ne (t := 34) (q := 31) (pj_d p_X11_parted 13 rfl) rfl (by decide) (fun c4 => ?_) (fun c4 => ?_)
    · have e1 := (gd_b_n _).mp c2
      have e2 := (gd_b_n _).mp c3
      have e3 := (gd_b_n _).mp c4
      obtain ⟨d', hd, rfl, hdc⟩ := gd_rng_of (hi := 100) e1
      obtain ⟨e', he, rfl, hec⟩ := gd_rng_of (hi := 100) e2
      obtain ⟨j, hj, rfl, hjc⟩ := gd_rng_of (hi := 1) e3
      have hji : (nI j).toInt = (j : Int) := nI_toInt (by omega)
      have hsp : sp_parted τ (nI d') (nI e') (nI j) = if j = 0 then nI (gd_ct (gd_pc τ d' e') 49) else gd_fs (gd_pc τ d' e') 49 := by
        rw [sp_parted, if_pos p0, e1, e2, e3, hdc, hec, hji]
        simp
      rw [hsp]
      refine pj_ild3 (q := 35) (pj_d p_X11_parted 16 rfl) rfl ?_
      refine pj_if_ne (t := 54) (q := 38) (pj_d p_X11_parted 17 rfl) rfl (by decide) (fun c5 => ?_) (fun c5 => ?_)
      · have hj0 : ¬ j = 0 := fun q => c5 (by rw [q]; rfl)
        refine pj_ald0 (q := 55) (pj_d p_X11_parted 26 rfl) rfl ?_
        refine pj_gf (q := 58) (k := 2) (pj_d p_X11_parted 27 rfl) rfl kX11_26 (by assumption) (by rfl) (by rfl) ?_
        refine pj_ald0 (q := 59) (pj_d p_X11_parted 28 rfl) rfl ?_
        refine pj_gf (q := 62) (k := 5) (pj_d p_X11_parted 29 rfl) rfl kX11_102 (by assumption) (by rfl) (by rfl) ?_
        refine pj_ild1 (q := 63) (pj_d p_X11_parted 30 rfl) rfl ?_
        refine pj_ild2 (q := 64) (pj_d p_X11_parted 31 rfl) rfl ?_
        refine pj_cp (pj_rV (q := 67) (c_X3_firstParting (f0 := b + 15) hT hW hd he) (pj_d p_X11_parted 32 rfl) rfl kX11_230 o_X3_firstParting (by assumption) (by rfl) (by rfl) (by rfl) (by rfl) (Nat.le_of_ble_eq_true rfl) (by decide)) (by decide) (by decide) ?_
        refine pj_iret rfl (pj_d p_X11_parted 33 rfl) (by decide) (by decide) ?_
        exact ⟨by rw [if_neg hj0], rfl, rfl⟩
      · have hj0 : j = 0 := (nI_eq (by omega) (by omega)).mp (c5.trans nI_0.symm)
        refine pj_ald0 (q := 39) (pj_d p_X11_parted 18 rfl) rfl ?_
        refine pj_gf (q := 42) (k := 2) (pj_d p_X11_parted 19 rfl) rfl kX11_26 (by assumption) (by rfl) (by rfl) ?_
        refine pj_ald0 (q := 43) (pj_d p_X11_parted 20 rfl) rfl ?_
        refine pj_gf (q := 46) (k := 5) (pj_d p_X11_parted 21 rfl) rfl kX11_102 (by assumption) (by rfl) (by rfl) ?_
        refine pj_ild1 (q := 47) (pj_d p_X11_parted 22 rfl) rfl ?_
        refine pj_ild2 (q := 48) (pj_d p_X11_parted 23 rfl) rfl ?_
        refine pj_cp (pj_rV (q := 51) (c_X3_countParting (f0 := b + 15) hT hW hd he) (pj_d p_X11_parted 24 rfl) rfl kX11_227 o_X3_countParting (by assumption) (by rfl) (by rfl) (by rfl) (by rfl) (Nat.le_of_ble_eq_true rfl) (by decide)) (by decide) (by decide) ?_
        refine pj_goto (t := 67) (pj_d p_X11_parted 25 rfl) (by decide) ?_
        refine pj_iret rfl (pj_d p_X11_parted 33 rfl) (by decide) (by decide) ?_
        exact ⟨by rw [if_pos hj0], rfl, rfl⟩
    · exact bad (by rw [(gd_b_z _).mp c4]; simp)
theorem c_X11_thief (hX : gd_XR h b po lf st τ ac) (w : Int32) : pj_Ct E B l Y_X11_thief 7 0 0 [.ref b, .int w] h n (gd_sc (sp_thief τ w) h (b + 15) n) := by
  obtain ⟨hx, hF, hW, hp⟩ := hX
  have h7 := hW.1
  have F0 := hF.1
  refine pj_in rfl (ls := [some (.ref b), some (.int (w))]) rfl (Nat.le_of_ble_eq_true rfl) ?_
  cases po with
  | none =>
    obtain ⟨p0, p1⟩ := hp
    have hx : h b = some (.inr (10, [.ref (b + 1), .ref (b + 13), .ref (b + 15), .ref (b + 19), .ref (b + 21), .null, .int lf, .int st])) := hx
    refine pj_ald0 (q := 1) (pj_d p_X11_thief 0 rfl) rfl ?_
    refine pj_gf (q := 4) (k := 5) (pj_d p_X11_thief 1 rfl) rfl kX11_102 (by assumption) (by rfl) (by rfl) ?_
    refine pj_ifnonnullN (q := 7) (pj_d p_X11_thief 2 rfl) rfl ?_
    refine pj_ldc (q := 9) (pj_d p_X11_thief 3 rfl) rfl kX11_112 ?_
    refine pj_iret rfl (pj_d p_X11_thief 4 rfl) (by decide) (by decide) ?_
    exact gd_sc_same hF (by simp [sp_thief, p0])
  | some k =>
    obtain ⟨hk, p0, hT⟩ := hp
    have hx : h b = some (.inr (10, [.ref (b + 1), .ref (b + 13), .ref (b + 15), .ref (b + 19), .ref (b + 21), .ref k, .int lf, .int st])) := hx
    have t0 := hT.1
    refine pj_ald0 (q := 1) (pj_d p_X11_thief 0 rfl) rfl ?_
    refine pj_gf (q := 4) (k := 5) (pj_d p_X11_thief 1 rfl) rfl kX11_102 (by assumption) (by rfl) (by rfl) ?_
    refine pj_ifnonnull (t := 10) (pj_d p_X11_thief 2 rfl) (by decide) ?_
    refine pj_ild1 (q := 11) (pj_d p_X11_thief 5 rfl) rfl ?_
    refine pj_cp (pj_rS (q := 14) (c_X11_isChoice w) (pj_d p_X11_thief 6 rfl) rfl kX11_195 o_X11_isChoice (by rfl) (by rfl) (Nat.le_of_ble_eq_true rfl) (by decide)) (by decide) (by decide) ?_
    refine pj_if_eq (t := 32) (q := 17) (pj_d p_X11_thief 7 rfl) rfl (by decide) (fun c1 => ?_) (fun c1 => ?_)
    · refine pj_ldc (q := 34) (pj_d p_X11_thief 15 rfl) rfl kX11_47 ?_
      refine pj_iret rfl (pj_d p_X11_thief 16 rfl) (by decide) (by decide) ?_
      exact gd_sc_same hF (by simp [sp_thief, p0, (gd_b_z _).mp c1])
    · have e3 := (gd_b_n _).mp c1
      obtain ⟨j, hj, rfl, hjc⟩ := gd_rng_of (hi := 1) e3
      have hji : (nI j).toInt = (j : Int) := nI_toInt (by omega)
      refine pj_ald0 (q := 18) (pj_d p_X11_thief 8 rfl) rfl ?_
      refine pj_gf (q := 21) (k := 2) (pj_d p_X11_thief 9 rfl) rfl kX11_26 (by assumption) (by rfl) (by rfl) ?_
      refine pj_ald0 (q := 22) (pj_d p_X11_thief 10 rfl) rfl ?_
      refine pj_gf (q := 25) (k := 5) (pj_d p_X11_thief 11 rfl) rfl kX11_102 (by assumption) (by rfl) (by rfl) ?_
      refine pj_ild1 (q := 26) (pj_d p_X11_thief 12 rfl) rfl ?_
      refine pj_cv (pj_rV (q := 29) (c_X3_bestHiding hF hT hW (by omega) hj) (pj_d p_X11_thief 13 rfl) rfl kX11_214 o_X3_bestHiding (by assumption) (by rfl) (by rfl) (by rfl) (by rfl) (Nat.le_of_ble_eq_true rfl) (by decide)) (by decide) (by decide) ?_
      rintro r h' n' ⟨rfl, rfl, f, rfl⟩
      refine pj_goto (t := 34) (pj_d p_X11_thief 14 rfl) (by decide) ?_
      refine pj_iret rfl (pj_d p_X11_thief 16 rfl) (by decide) (by decide) ?_
      refine ⟨?_, rfl, f, rfl⟩
      rw [sp_thief, if_pos p0, e3, hji]
      simp
end
