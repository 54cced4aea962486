/-! ===== how a town is read: the class's feed, town ===== -/
section
variable {E : pj_E} {B : Nat} {l : Launch} {h : pj_H} {n a k L : Nat} {c : Nat → Nat} {s : gd_RS}
theorem gd_tpc_out {h h' : pj_H} {q : Nat} (e : h' q = h q) {x : Option pj_C} (hx : h q = x) : h' q = x := e.trans hx
theorem gd_ths_bad {c : Nat → Nat} {L m : Nat} {s : gd_RS} (h : ¬ s.1.2.1 = 0) : gd_ths c L m s = s := by
  cases m with
  | zero => rfl
  | succ m => rw [gd_ths, if_neg h]
theorem gd_prs_bad {c : Nat → Nat} {L m : Nat} {s : gd_RS} (h : ¬ (s.1.2.1 = 0 ∧ s.1.1 < L ∧ c s.1.1 = 109)) : gd_prs c L m s = s := by
  cases m with
  | zero => rfl
  | succ m => rw [gd_prs, if_neg h]
theorem c_X7_readThings (h0 : h a = some (.inr (7, gd_tpc a L s.1))) (hb : h (a + 1) = some (.inl (0, 120, .inl (fun j => nI (c j))))) (hL : L ≤ 120) (hc : ∀ j, c j < 256) (hS : gd_RW L s) (hT : gd_T h k s.2 0) (hak : a + 1 < k) (hn : n = k + 9 + s.2 1) (hB : B ≤ k) (hs1 : s.2 1 = 0) : pj_Ct E B l Y_X7_readThings 6 7 21 [.ref a, .ref k] h n (gd_Pr (gd_ths c L 8 s) h a k L) := by
  refine pj_in rfl (ls := [some (.ref a), some (.ref k), none, none]) rfl (Nat.le_of_ble_eq_true rfl) ?_
  refine pj_iconst (q := 1) (v := nI 0) (pj_d p_X7_readThings 0 rfl) rfl (by decide) ?_
  refine pj_ist2 (q := 2) (pj_d p_X7_readThings 1 rfl) rfl (by first | rfl | assumption) ?_
  have loop : ∀ m i s' h' ce sl (o3 : Option Value), pj_c1 o3 = true → 9 - i < m → i ≤ 8 → ce ≤ 7 → sl ≤ 21 → ce ≤ i → sl ≤ 3 * i → gd_RW L s' → (s'.1.2.1 = 0 → s'.2 1 = i ∧ i ≤ 7) → gd_ths c L (8 - i) s' = gd_ths c L 8 s → h' a = some (.inr (7, gd_tpc a L s'.1)) → gd_T h' k s'.2 0 → (∀ q, q ≠ a → (q < k ∨ (k + 6 ≤ q ∧ q ≤ k + 8)) → h' q = h q) → pj_V E B l Y_X7_readThings 6 7 21 2 [some (.ref a), some (.ref k), some (.int (nI i)), o3] [] h' (k + 9 + s'.2 1) ce sl (gd_Pr (gd_ths c L 8 s) h a k L) := by
    intro m
    induction m with
    | zero => intro i s' h' ce sl o3 _ hi; omega
    | succ m ih =>
      intro i s' h' ce sl o3 ho3 hi hi8 hc7 hs21 hci hsi hW hcnt hF h0' hT' hQ
      have hb' : h' (a + 1) = some (.inl (0, 120, .inl (fun j => nI (c j)))) := by rw [hQ _ (by omega) (by omega)]; exact hb
      refine pj_ild2 (q := 3) (pj_d p_X7_readThings 2 rfl) rfl ?_
      refine pj_bipush (q := 5) (v := nI 7) (pj_d p_X7_readThings 3 rfl) rfl (by decide) ?_
      refine pj_icmp_gt (t := 58) (q := 8) (pj_d p_X7_readThings 4 rfl) rfl (by decide) (fun c1 => ?_) (fun c1 => ?_)
      · have i8 : i = 8 := by
          have : 7 < i := (nI_ltI (by omega) (by omega)).mp c1
          omega
        have bad : ¬ s'.1.2.1 = 0 := fun q => by have := (hcnt q).2; omega
        rw [gd_ths_bad bad] at hF
        refine pj_vret rfl (pj_d p_X7_readThings 30 rfl) (by omega) (by omega) ?_
        rw [← hF]
        exact ⟨rfl, rfl, h0', hT', hQ⟩
      have i7 : i ≤ 7 := by
        have : ¬ 7 < i := fun q => c1 (nI_lt q (by omega))
        omega
      refine pj_ald0 (q := 9) (pj_d p_X7_readThings 5 rfl) rfl ?_
      refine pj_cp (pj_rV (q := 12) (c_X7_isSound h0' hW.1) (pj_d p_X7_readThings 6 rfl) rfl kX7_43 o_X7_isSound h0' (by rfl) (by rfl) (by rfl) (by rfl) (Nat.le_of_ble_eq_true rfl) (by decide)) (by omega) (by omega) ?_
      refine pj_if_eq (t := 58) (q := 15) (pj_d p_X7_readThings 7 rfl) rfl (by decide) (fun c2 => ?_) (fun c2 => ?_)
      · have e := gd_dec_f c2
        rw [gd_ths_bad e] at hF
        refine pj_vret rfl (pj_d p_X7_readThings 30 rfl) (by omega) (by omega) ?_
        rw [← hF]
        exact ⟨rfl, rfl, h0', hT', hQ⟩
      have e := gd_dec_t c2
      have ecnt := (hcnt e).1
      refine pj_ald0 (q := 16) (pj_d p_X7_readThings 8 rfl) rfl ?_
      refine pj_cp (pj_rV (q := 19) (c_X7_byteHere h0' hb' hL hW.1) (pj_d p_X7_readThings 9 rfl) rfl kX7_58 o_X7_byteHere h0' (by rfl) (by rfl) (by rfl) (by rfl) (Nat.le_of_ble_eq_true rfl) (by decide)) (by omega) (by omega) ?_
      refine pj_cp (pj_rS (q := 22) (c_X7_kindOfSort hc s'.1.1) (pj_d p_X7_readThings 10 rfl) rfl kX7_62 o_X7_kindOfSort (by rfl) (by rfl) (Nat.le_of_ble_eq_true rfl) (by decide)) (by omega) (by omega) ?_
      refine pj_ist3 (q := 23) (pj_d p_X7_readThings 11 rfl) rfl rfl ?_
      refine pj_ild3 (q := 24) (pj_d p_X7_readThings 12 rfl) rfl ?_
      rw [show 8 - i = (7 - i) + 1 by omega, gd_ths, if_pos e] at hF
      refine pj_if_ne (t := 28) (q := 27) (pj_d p_X7_readThings 13 rfl) rfl (by decide) (fun c3 => ?_) (fun c3 => ?_)
      rotate_left
      · have k0 : gd_ks c L s'.1.1 = 0 := by
          have := gd_kl_le (c s'.1.1)
          have : gd_ks c L s'.1.1 ≤ 5 := by rw [gd_ks]; split <;> omega
          exact (nI_eq (by omega) (by omega)).mp (c3.trans nI_0.symm)
        rw [if_pos k0] at hF
        refine pj_vret rfl (pj_d p_X7_readThings 14 rfl) (by omega) (by omega) ?_
        rw [← hF]
        exact ⟨rfl, rfl, h0', hT', hQ⟩
      have k0 : ¬ gd_ks c L s'.1.1 = 0 := fun q => c3 (by rw [q]; rfl)
      obtain ⟨hp, hk⟩ := gd_ks_in k0
      rw [if_neg k0] at hF
      refine pj_ild2 (q := 29) (pj_d p_X7_readThings 15 rfl) rfl ?_
      refine pj_bipush (q := 31) (v := nI 7) (pj_d p_X7_readThings 16 rfl) rfl (by decide) ?_
      refine pj_icmp_ne (t := 46) (q := 34) (pj_d p_X7_readThings 17 rfl) rfl (by decide) (fun c4 => ?_) (fun c4 => ?_)
      · have i7' : ¬ i = 7 := fun q => c4 (by rw [q])
        rw [if_neg (by omega)] at hF
        refine pj_ald0 (q := 47) (pj_d p_X7_readThings 24 rfl) rfl ?_
        refine pj_ald1 (q := 48) (pj_d p_X7_readThings 25 rfl) rfl ?_
        refine pj_ild3 (q := 49) (pj_d p_X7_readThings 26 rfl) rfl ?_
        refine pj_cv (pj_rV (q := 52) (c_X7_readThing h0' hb' hL hc hW hT' hak rfl hB hp (by omega) hk) (pj_d p_X7_readThings 27 rfl) rfl kX7_66 o_X7_readThing (by first | assumption | exact pj_up_s | exact (pj_up_n (by omega)).trans (by assumption)) (by rfl) (by rfl) (by rfl) (by rfl) (Nat.le_of_ble_eq_true rfl) (by decide)) (by omega) (by omega) ?_
        rintro r1 h1 n1 ⟨rfl, rfl, x1, x2, x3⟩
        refine pj_iinc2 (q := 55) (v := 1) (pj_d p_X7_readThings 28 rfl) rfl (by first | rfl | assumption) (by decide) ?_
        refine pj_goto (t := 2) (pj_d p_X7_readThings 29 rfl) (by decide) ?_
        rw [nI_1]
        refine ih (i + 1) (gd_rT c L (gd_ks c L s'.1.1) s') h1 _ _ _ rfl (by omega) (by omega) (by omega) (by omega) (by omega) (by omega) (gd_RW_rT hW hp (by omega) hk) (fun q => ?_) (by rw [show 8 - (i + 1) = 7 - i by omega]; exact hF) x1 x2 (fun q q1 q2 => by rw [x3 q q1 q2, hQ q q1 q2])
        have q' : (gd_rT3 c L s'.1).2.1 = 0 := q
        rw [gd_rT, if_pos q']
        refine ⟨?_, by omega⟩
        show s'.2 1 + 1 = i + 1
        omega
      · have i7' : i = 7 := (nI_eq (by omega) (by omega)).mp c4
        rw [if_pos (by omega)] at hF
        refine pj_ald0 (q := 35) (pj_d p_X7_readThings 18 rfl) rfl ?_
        refine pj_ald0 (q := 36) (pj_d p_X7_readThings 19 rfl) rfl ?_
        refine pj_gf (q := 39) (k := 2) (pj_d p_X7_readThings 20 rfl) rfl kX7_23 (by first | assumption | exact pj_up_s | exact (pj_up_n (by omega)).trans (by assumption)) (by rfl) (by rfl) ?_
        refine pj_iconst (q := 40) (v := nI 3) (pj_d p_X7_readThings 21 rfl) rfl (by decide) ?_
        refine pj_cv (pj_rV (q := 43) (c_X7_faultAt h0' hW.1 s'.1.1 3) (pj_d p_X7_readThings 22 rfl) rfl kX7_39 o_X7_faultAt (by first | assumption | exact pj_up_s | exact (pj_up_n (by omega)).trans (by assumption)) (by rfl) (by rfl) (by rfl) (by rfl) (Nat.le_of_ble_eq_true rfl) (by decide)) (by omega) (by omega) ?_
        rintro r1 h1 n1 ⟨rfl, rfl, rfl⟩
        refine pj_goto (t := 52) (pj_d p_X7_readThings 23 rfl) (by decide) ?_
        refine pj_iinc2 (q := 55) (v := 1) (pj_d p_X7_readThings 28 rfl) rfl (by first | rfl | assumption) (by decide) ?_
        refine pj_goto (t := 2) (pj_d p_X7_readThings 29 rfl) (by decide) ?_
        rw [nI_1]
        have hbad : ¬ (gd_fa s'.1 s'.1.1 3).2.1 = 0 := fun q => gd_fa_ok (by decide) q
        refine ih (i + 1) (gd_fa s'.1 s'.1.1 3, s'.2) _ _ _ _ rfl (by omega) (by omega) (by omega) (by omega) (by omega) (by omega) ⟨gd_PB_fa hW.1 hW.1.1 (by omega), hW.2⟩ (fun q => absurd q hbad) ?_ pj_up_s (hT'.out (fun q _ _ => pj_up_n (by omega))) (fun q q1 q2 => by rw [pj_up_n q1, hQ q q1 q2])
        rw [gd_ths_bad (s := (gd_fa s'.1 s'.1.1 3, s'.2)) hbad]
        exact hF
  subst hn
  exact loop 10 0 s h 0 0 none rfl (by omega) (by omega) (by omega) (by omega) (by omega) (by omega) hS (fun _ => ⟨hs1, by omega⟩) rfl h0 hT (fun _ _ _ => rfl)
theorem c_X7_readPairs (h0 : h a = some (.inr (7, gd_tpc a L s.1))) (hb : h (a + 1) = some (.inl (0, 120, .inl (fun j => nI (c j))))) (hL : L ≤ 120) (hc : ∀ j, c j < 256) (hS : gd_RW L s) (hT : gd_T h k s.2 0) (hak : a + 1 < k) (hn : n = k + 9 + s.2 1) (hs2 : s.2 2 = 0) : pj_Ct E B l Y_X7_readPairs 5 0 0 [.ref a, .ref k] h n (gd_Pr (gd_prs c L 9 s) h a k L) := by
  refine pj_in rfl (ls := [some (.ref a), some (.ref k), none]) rfl (Nat.le_of_ble_eq_true rfl) ?_
  refine pj_iconst (q := 1) (v := nI 0) (pj_d p_X7_readPairs 0 rfl) rfl (by decide) ?_
  refine pj_ist2 (q := 2) (pj_d p_X7_readPairs 1 rfl) rfl (by first | rfl | assumption) ?_
  have loop : ∀ m i s' h', 10 - i < m → i ≤ 9 → gd_RW L s' → (s'.1.2.1 = 0 → s'.2 2 = i ∧ i ≤ 8) → gd_prs c L (9 - i) s' = gd_prs c L 9 s → h' a = some (.inr (7, gd_tpc a L s'.1)) → gd_T h' k s'.2 0 → (∀ q, q ≠ a → (q < k ∨ (k + 6 ≤ q ∧ q ≤ k + 8)) → h' q = h q) → pj_V E B l Y_X7_readPairs 5 0 0 2 [some (.ref a), some (.ref k), some (.int (nI i))] [] h' (k + 9 + s'.2 1) 0 0 (gd_Pr (gd_prs c L 9 s) h a k L) := by
    intro m
    induction m with
    | zero => intro i s' h' hi; omega
    | succ m ih =>
      intro i s' h' hi hi8 hW hcnt hF h0' hT' hQ
      have hb' : h' (a + 1) = some (.inl (0, 120, .inl (fun j => nI (c j)))) := by rw [hQ _ (by omega) (by omega)]; exact hb
      have stop : ¬ (s'.1.2.1 = 0 ∧ s'.1.1 < L ∧ c s'.1.1 = 109) → pj_V E B l Y_X7_readPairs 5 0 0 53 [some (.ref a), some (.ref k), some (.int (nI i))] [] h' (k + 9 + s'.2 1) 0 0 (gd_Pr (gd_prs c L 9 s) h a k L) := by
        intro bad
        rw [gd_prs_bad bad] at hF
        refine pj_vret rfl (pj_d p_X7_readPairs 26 rfl) (by decide) (by decide) ?_
        rw [← hF]
        exact ⟨rfl, rfl, h0', hT', hQ⟩
      refine pj_ild2 (q := 3) (pj_d p_X7_readPairs 2 rfl) rfl ?_
      refine pj_bipush (q := 5) (v := nI 8) (pj_d p_X7_readPairs 3 rfl) rfl (by decide) ?_
      refine pj_icmp_gt (t := 53) (q := 8) (pj_d p_X7_readPairs 4 rfl) rfl (by decide) (fun c1 => ?_) (fun c1 => ?_)
      · have i9 : i = 9 := by
          have : 8 < i := (nI_ltI (by omega) (by omega)).mp c1
          omega
        exact stop (fun q => by have := (hcnt q.1).2; omega)
      have i7 : i ≤ 8 := by
        have : ¬ 8 < i := fun q => c1 (nI_lt q (by omega))
        omega
      refine pj_ald0 (q := 9) (pj_d p_X7_readPairs 5 rfl) rfl ?_
      refine pj_cp (pj_rV (q := 12) (c_X7_isSound h0' hW.1) (pj_d p_X7_readPairs 6 rfl) rfl kX7_43 o_X7_isSound (by first | assumption | exact pj_up_s | exact (pj_up_n (by omega)).trans (by assumption)) (by rfl) (by rfl) (by rfl) (by rfl) (Nat.le_of_ble_eq_true rfl) (by decide)) (by decide) (by decide) ?_
      refine pj_if_eq (t := 53) (q := 15) (pj_d p_X7_readPairs 7 rfl) rfl (by decide) (fun c2 => ?_) (fun c2 => ?_)
      · have e := gd_dec_f c2
        exact stop (fun q => e q.1)
      have e := gd_dec_t c2
      have ecnt := (hcnt e).1
      refine pj_ald0 (q := 16) (pj_d p_X7_readPairs 8 rfl) rfl ?_
      refine pj_cp (pj_rV (q := 19) (c_X7_byteHere h0' hb' hL hW.1) (pj_d p_X7_readPairs 9 rfl) rfl kX7_58 o_X7_byteHere (by first | assumption | exact pj_up_s | exact (pj_up_n (by omega)).trans (by assumption)) (by rfl) (by rfl) (by rfl) (by rfl) (Nat.le_of_ble_eq_true rfl) (by decide)) (by decide) (by decide) ?_
      refine pj_bipush (q := 21) (v := nI 109) (pj_d p_X7_readPairs 10 rfl) rfl (by decide) ?_
      refine pj_icmp_ne (t := 53) (q := 24) (pj_d p_X7_readPairs 11 rfl) rfl (by decide) (fun c3 => ?_) (fun c3 => ?_)
      · rw [gd_bhI (by omega) hc] at c3
        exact stop (fun q => c3 q.2)
      rw [gd_bhI (by omega) hc] at c3
      rw [show 9 - i = (8 - i) + 1 by omega, gd_prs, if_pos ⟨e, c3⟩] at hF
      refine pj_ild2 (q := 25) (pj_d p_X7_readPairs 12 rfl) rfl ?_
      refine pj_bipush (q := 27) (v := nI 8) (pj_d p_X7_readPairs 13 rfl) rfl (by decide) ?_
      refine pj_icmp_ne (t := 42) (q := 30) (pj_d p_X7_readPairs 14 rfl) rfl (by decide) (fun c4 => ?_) (fun c4 => ?_)
      · have i7' : ¬ i = 8 := fun q => c4 (by rw [q])
        rw [if_neg (by omega)] at hF
        refine pj_ald0 (q := 43) (pj_d p_X7_readPairs 21 rfl) rfl ?_
        refine pj_ald1 (q := 44) (pj_d p_X7_readPairs 22 rfl) rfl ?_
        refine pj_cv (pj_rV (q := 47) (c_X7_readPair h0' hb' hL hc hW hT' hak rfl c3.1 (by omega)) (pj_d p_X7_readPairs 23 rfl) rfl kX7_74 o_X7_readPair (by first | assumption | exact pj_up_s | exact (pj_up_n (by omega)).trans (by assumption)) (by rfl) (by rfl) (by rfl) (by rfl) (Nat.le_of_ble_eq_true rfl) (by decide)) (by decide) (by decide) ?_
        rintro r1 h1 n1 ⟨rfl, rfl, x1, x2, x3⟩
        refine pj_iinc2 (q := 50) (v := 1) (pj_d p_X7_readPairs 24 rfl) rfl (by first | rfl | assumption) (by decide) ?_
        refine pj_goto (t := 2) (pj_d p_X7_readPairs 25 rfl) (by decide) ?_
        rw [nI_1]
        refine ih (i + 1) (gd_rP c L s') h1 (by omega) (by omega) (gd_RW_rP hW c3.1 (by omega)) (fun q => ?_) (by rw [show 9 - (i + 1) = 8 - i by omega]; exact hF) x1 x2 (fun q q1 q2 => by rw [x3 q q1 q2, hQ q q1 q2])
        have q' : (gd_rP6 c L s').2.1 = 0 := q
        rw [gd_rP, if_pos q']
        refine ⟨?_, by omega⟩
        show s'.2 2 + 1 = i + 1
        omega
      · have i7' : i = 8 := (nI_eq (by omega) (by omega)).mp c4
        rw [if_pos (by omega)] at hF
        refine pj_ald0 (q := 31) (pj_d p_X7_readPairs 15 rfl) rfl ?_
        refine pj_ald0 (q := 32) (pj_d p_X7_readPairs 16 rfl) rfl ?_
        refine pj_gf (q := 35) (k := 2) (pj_d p_X7_readPairs 17 rfl) rfl kX7_23 (by first | assumption | exact pj_up_s | exact (pj_up_n (by omega)).trans (by assumption)) (by rfl) (by rfl) ?_
        refine pj_iconst (q := 36) (v := nI 3) (pj_d p_X7_readPairs 18 rfl) rfl (by decide) ?_
        refine pj_cv (pj_rV (q := 39) (c_X7_faultAt h0' hW.1 s'.1.1 3) (pj_d p_X7_readPairs 19 rfl) rfl kX7_39 o_X7_faultAt (by first | assumption | exact pj_up_s | exact (pj_up_n (by omega)).trans (by assumption)) (by rfl) (by rfl) (by rfl) (by rfl) (Nat.le_of_ble_eq_true rfl) (by decide)) (by decide) (by decide) ?_
        rintro r1 h1 n1 ⟨rfl, rfl, rfl⟩
        refine pj_goto (t := 47) (pj_d p_X7_readPairs 20 rfl) (by decide) ?_
        refine pj_iinc2 (q := 50) (v := 1) (pj_d p_X7_readPairs 24 rfl) rfl (by first | rfl | assumption) (by decide) ?_
        refine pj_goto (t := 2) (pj_d p_X7_readPairs 25 rfl) (by decide) ?_
        rw [nI_1]
        have hbad : ¬ (gd_fa s'.1 s'.1.1 3).2.1 = 0 := fun q => gd_fa_ok (by decide) q
        refine ih (i + 1) (gd_fa s'.1 s'.1.1 3, s'.2) _ (by omega) (by omega) ⟨gd_PB_fa hW.1 hW.1.1 (by omega), hW.2⟩ (fun q => absurd q hbad) ?_ pj_up_s (hT'.out (fun q _ _ => pj_up_n (by omega))) (fun q q1 q2 => by rw [pj_up_n q1, hQ q q1 q2])
        rw [gd_prs_bad (s := (gd_fa s'.1 s'.1.1 3, s'.2)) (fun q => hbad q.1)]
        exact hF
  subst hn
  exact loop 11 0 s h (by omega) (by omega) hS (fun _ => ⟨hs2, by omega⟩) rfl h0 hT (fun _ _ _ => rfl)
theorem c_X7_readLaw (h0 : h a = some (.inr (7, gd_tpc a L (0, 0, 0)))) (hb : h (a + 1) = some (.inl (0, 120, .inl (fun j => nI (c j))))) (hL : L ≤ 120) (hc : ∀ j, c j < 256) (hT : gd_T h k gd_z0 0) (hak : a + 1 < k) (hn : n = k + 9) : pj_Ct E B l Y_X7_readLaw 4 0 0 [.ref a, .ref k] h n (gd_Pr (gd_tb c L 59 (gd_p1 c L).1, (gd_p1 c L).2) h a k L) := by
  subst hn
  have W0 : gd_RW L (gd_tb c L 99 (0, 0, 0), gd_z0) := ⟨gd_PB_tb ⟨Nat.zero_le _, Nat.zero_le _, Nat.zero_le _⟩, ⟨Nat.zero_le _, Nat.zero_le _, Nat.zero_le _, fun j hj => by show gd_z0 (4 + j) ≤ 5; rw [gd_z0, gd_set_n (by omega)]; omega, fun i hi => absurd hi (Nat.not_lt_zero i), fun i hi => absurd hi (Nat.not_lt_zero i), fun i j _ hi => absurd hi (Nat.not_lt_zero j)⟩, rfl, rfl⟩
  obtain ⟨s0, hs0⟩ : ∃ s0 : gd_RS, s0 = (gd_tb c L 99 (0, 0, 0), gd_z0) := ⟨_, rfl⟩
  have hp1 : gd_p1 c L = gd_wk c L 7 s0 := by rw [gd_p1, hs0]
  have hs01 : s0.1 = gd_tb c L 99 (0, 0, 0) := by rw [hs0]
  have hs02 : s0.2 = gd_z0 := by rw [hs0]
  rw [← hs0] at W0
  have Wi := gd_RW_wk (c := c) W0 (by rw [hs02]; rfl) (by rw [hs02]; rfl)
  rw [hp1]
  clear hs0 hp1
  refine pj_in rfl (ls := [some (.ref a), some (.ref k), none]) rfl (Nat.le_of_ble_eq_true rfl) ?_
  refine pj_ald0 (q := 1) (pj_d p_X7_readLaw 0 rfl) rfl ?_
  refine pj_bipush (q := 3) (v := nI 99) (pj_d p_X7_readLaw 1 rfl) rfl (by decide) ?_
  refine pj_cv (pj_rV (q := 6) (c_X7_takeByte h0 hb hL hc ⟨Nat.zero_le _, Nat.zero_le _, Nat.zero_le _⟩ (x := 99) (by omega)) (pj_d p_X7_readLaw 2 rfl) rfl kX7_47 o_X7_takeByte (by first | assumption | exact pj_up_s | exact (pj_up_n (by omega)).trans (by assumption)) (by rfl) (by rfl) (by rfl) (by rfl) (Nat.le_of_ble_eq_true rfl) (by decide)) (by decide) (by decide) ?_
  rintro r1 h1 n1 ⟨rfl, rfl, rfl⟩
  refine pj_iconst (q := 7) (v := nI 0) (pj_d p_X7_readLaw 3 rfl) rfl (by decide) ?_
  refine pj_ist2 (q := 8) (pj_d p_X7_readLaw 4 rfl) rfl (by first | rfl | assumption) ?_
  have loop : ∀ m i h', 7 - i < m → i ≤ 7 → h' a = some (.inr (7, gd_tpc a L (gd_wk c L i s0).1)) → gd_T h' k (gd_wk c L i s0).2 0 → (∀ q, q ≠ a → (q < k ∨ (k + 6 ≤ q ∧ q ≤ k + 8)) → h' q = h q) → pj_V E B l Y_X7_readLaw 4 0 0 8 [some (.ref a), some (.ref k), some (.int (nI i))] [] h' (k + 9) 0 0 (gd_Pr (gd_tb c L 59 (gd_wk c L 7 s0).1, (gd_wk c L 7 s0).2) h a k L) := by
    intro m
    induction m with
    | zero => intro i h' hi; omega
    | succ m ih =>
      intro i h' hi hle h0' hT' hQ
      obtain ⟨⟨w1, w2, w3, w4⟩, y1, y2⟩ := Wi i hle
      have hb' : h' (a + 1) = some (.inl (0, 120, .inl (fun j => nI (c j)))) := by rw [hQ _ (by omega) (by omega)]; exact hb
      have hbu : ∀ cell, pj_up h' a cell (a + 1) = some (.inl (0, 120, .inl (fun j => nI (c j)))) := fun cell => (pj_up_n (by omega)).trans hb'
      refine pj_ild2 (q := 9) (pj_d p_X7_readLaw 5 rfl) rfl ?_
      refine pj_bipush (q := 11) (v := nI 7) (pj_d p_X7_readLaw 6 rfl) rfl (by decide) ?_
      refine pj_icmp_ge (t := 41) (q := 14) (pj_d p_X7_readLaw 7 rfl) rfl (by decide) (fun c1 => ?_) (fun c1 => ?_)
      · have he : i = 7 := by have := gd_ge c1 (by omega) (by omega); omega
        subst he
        generalize gd_wk c L 7 s0 = w at *
        refine pj_ald0 (q := 42) (pj_d p_X7_readLaw 22 rfl) rfl ?_
        refine pj_bipush (q := 44) (v := nI 59) (pj_d p_X7_readLaw 23 rfl) rfl (by decide) ?_
        refine pj_cv (pj_rV (q := 47) (c_X7_takeByte h0' hb' hL hc w1 (x := 59) (by omega)) (pj_d p_X7_readLaw 24 rfl) rfl kX7_47 o_X7_takeByte (by first | assumption | exact pj_up_s | exact (pj_up_n (by omega)).trans (by assumption)) (by rfl) (by rfl) (by rfl) (by rfl) (Nat.le_of_ble_eq_true rfl) (by decide)) (by decide) (by decide) ?_
        rintro r1 h1 n1 ⟨rfl, rfl, rfl⟩
        refine pj_vret rfl (pj_d p_X7_readLaw 25 rfl) (by decide) (by decide) ?_
        refine ⟨rfl, ?_, pj_up_s, hT'.out (fun q _ _ => pj_up_n (by omega)), fun q q1 q2 => by rw [pj_up_n q1, hQ q q1 q2]⟩
        show k + 9 = k + 9 + w.2 1
        rw [y1]
      have hlt : i < 7 := gd_lt c1 (by omega)
      have go : ∀ h2, h2 a = some (.inr (7, gd_tpc a L (gd_wS c L i (gd_wk c L i s0).1))) → (∀ q, q ≠ a → h2 q = h' q) → pj_V E B l Y_X7_readLaw 4 0 0 24 [some (.ref a), some (.ref k), some (.int (nI i))] [] h2 (k + 9) 0 0 (gd_Pr (gd_tb c L 59 (gd_wk c L 7 s0).1, (gd_wk c L 7 s0).2) h a k L) := by
        intro h2 x0 xq
        have bS : gd_PB L (gd_wS c L i (gd_wk c L i s0).1) := by
          rw [gd_wS]
          split
          · exact gd_PB_tb w1
          · exact w1
        have hb2 : h2 (a + 1) = some (.inl (0, 120, .inl (fun j => nI (c j)))) := by rw [xq _ (by omega)]; exact hb'
        have hT2 : gd_T h2 k (gd_wk c L i s0).2 0 := hT'.out (fun q q1 q2 => xq q (by omega))
        refine pj_ald1 (q := 25) (pj_d p_X7_readLaw 13 rfl) rfl ?_
        refine pj_ild2 (q := 26) (pj_d p_X7_readLaw 14 rfl) rfl ?_
        refine pj_ald0 (q := 27) (pj_d p_X7_readLaw 15 rfl) rfl ?_
        refine pj_iconst (q := 28) (v := nI 0) (pj_d p_X7_readLaw 16 rfl) rfl (by decide) ?_
        refine pj_iconst (q := 29) (v := nI 5) (pj_d p_X7_readLaw 17 rfl) rfl (by decide) ?_
        refine pj_cv (pj_rV (q := 32) (c_X7_takeNumber x0 hb2 hL hc bS (lo := 0) (hi := nI 5) (hiI := 5) (by omega) (by decide)) (pj_d p_X7_readLaw 18 rfl) rfl kX7_51 o_X7_takeNumber (by first | assumption | exact pj_up_s | exact (pj_up_n (by omega)).trans (by assumption)) (by rfl) (by rfl) (by rfl) (by rfl) (Nat.le_of_ble_eq_true rfl) (by decide)) (by decide) (by decide) ?_
        rintro r1 h1 n1 ⟨rfl, rfl, rfl⟩
        have hT3 : gd_T (pj_up h2 a (.inr (7, gd_tpc a L (gd_tn c L 0 5 (gd_wS c L i (gd_wk c L i s0).1)).2))) k (gd_wk c L i s0).2 0 := hT2.out (fun q _ _ => pj_up_n (by omega))
        obtain ⟨f1, z1, z2⟩ := hT3.2.1
        have k3 : pj_up h2 a (.inr (7, gd_tpc a L (gd_tn c L 0 5 (gd_wS c L i (gd_wk c L i s0).1)).2)) k = some (.inr (8, gd_To k (gd_wk c L i s0).2 0)) := hT3.1
        refine pj_cv (pj_rV (q := 35) (c_X9_setColourOn k3 z1 hlt _) (pj_d p_X7_readLaw 19 rfl) rfl kX7_55 o_X9_setColourOn (by first | assumption | exact pj_up_s | exact (pj_up_n (by omega)).trans (by assumption)) (by rfl) (by rfl) (by rfl) (by rfl) (Nat.le_of_ble_eq_true rfl) (by decide)) (by decide) (by decide) ?_
        rintro r1 h1 n1 ⟨rfl, rfl, rfl⟩
        refine pj_iinc2 (q := 38) (v := 1) (pj_d p_X7_readLaw 20 rfl) rfl (by first | rfl | assumption) (by decide) ?_
        refine pj_goto (t := 8) (pj_d p_X7_readLaw 21 rfl) (by decide) ?_
        rw [nI_1]
        refine ih (i + 1) _ (by omega) (by omega) ((pj_up_n (by omega)).trans pj_up_s) ?_ (fun q q1 q2 => by rw [pj_up_n (by omega), pj_up_n q1, xq q q1, hQ q q1 q2])
        rw [gd_wk]
        refine hT3.of w2.2.1 ?_ (gd_set_n (by omega)) (gd_set_n (by omega)) (fun j hj => gd_set_n (by omega)) ⟨_, pj_up_s, fun j hj => ?_⟩ (fun z hz => absurd hz (by rw [y1]; exact Nat.not_lt_zero z)) (fun q q1 q2 => pj_up_n (by omega))
        · rw [pj_up_n (by omega), k3, gd_To, gd_To]
          dsimp only
          rw [gd_set_n (by omega), gd_set_n (by omega), gd_set_n (by omega)]
        · rw [gd_upd]
          dsimp only
          by_cases e : j = i
          · rw [if_pos e, e, gd_set_s]
          · rw [if_neg e, gd_set_n (by omega), z2 j hj]
      refine pj_ild2 (q := 15) (pj_d p_X7_readLaw 8 rfl) rfl ?_
      refine pj_if_le (t := 24) (q := 18) (pj_d p_X7_readLaw 9 rfl) rfl (by decide) (fun c2 => ?_) (fun c2 => ?_)
      · have i0 : i = 0 := by
          have : i ≤ 0 := (nI_leI (by omega) (by omega)).mp (by rw [nI_0]; exact c2)
          omega
        exact go h' (by rw [gd_wS, if_neg (by omega)]; exact h0') (fun _ _ => rfl)
      · have i0 : 0 < i := by
          have : ¬ i ≤ 0 := fun q => c2 (by rw [← nI_0]; exact nI_le q (by omega))
          omega
        refine pj_ald0 (q := 19) (pj_d p_X7_readLaw 10 rfl) rfl ?_
        refine pj_bipush (q := 21) (v := nI 44) (pj_d p_X7_readLaw 11 rfl) rfl (by decide) ?_
        refine pj_cv (pj_rV (q := 24) (c_X7_takeByte h0' hb' hL hc w1 (x := 44) (by omega)) (pj_d p_X7_readLaw 12 rfl) rfl kX7_47 o_X7_takeByte (by first | assumption | exact pj_up_s | exact (pj_up_n (by omega)).trans (by assumption)) (by rfl) (by rfl) (by rfl) (by rfl) (Nat.le_of_ble_eq_true rfl) (by decide)) (by decide) (by decide) ?_
        rintro r1 h1 n1 ⟨rfl, rfl, rfl⟩
        exact go _ (by rw [gd_wS, if_pos i0]; exact pj_up_s) (fun q hq => pj_up_n hq)
  exact loop 8 0 _ (by omega) (by omega) (by rw [gd_wk, hs01]; exact pj_up_s) (by rw [gd_wk, hs02]; exact hT.out (fun q _ _ => pj_up_n (by omega))) (fun q q1 _ => pj_up_n q1)
end
