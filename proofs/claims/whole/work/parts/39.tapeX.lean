/-! ===== the tape: what is told, in pure words; the class's small readers ===== -/
abbrev gd_PS : Type := Nat × Nat × Nat
def gd_dg (x : Nat) : Bool := decide (48 ≤ x ∧ x ≤ 57)
def gd_fgn (c : Nat → Nat) (L : Nat) : Nat → Nat → Nat
  | 0, _ => 0
  | m + 1, p => if p < L ∧ gd_dg (c p) = true then gd_fgn c L m (p + 1) + 1 else 0
def gd_fg (c : Nat → Nat) (L p : Nat) : Nat := gd_fgn c L (L - p) p
theorem gd_fgn_in {c : Nat → Nat} {L : Nat} : ∀ m p i, i < gd_fgn c L m p → p + i < L ∧ gd_dg (c (p + i)) = true
  | 0, p, i, h => absurd h (Nat.not_lt_zero i)
  | m + 1, p, i, h => by
    rw [gd_fgn] at h
    split at h
    · rename_i q
      cases i with
      | zero => exact q
      | succ i =>
        have := gd_fgn_in (c := c) (L := L) m (p + 1) i (by omega)
        rw [show p + (i + 1) = p + 1 + i by omega]
        exact this
    · exact absurd h (Nat.not_lt_zero i)
theorem gd_fgn_le {c : Nat → Nat} {L : Nat} : ∀ m p, gd_fgn c L m p ≤ m
  | 0, p => Nat.le_refl _
  | m + 1, p => by
    rw [gd_fgn]
    split
    · have := gd_fgn_le (c := c) (L := L) m (p + 1); omega
    · omega
theorem gd_fgn_out {c : Nat → Nat} {L : Nat} : ∀ m p, L ≤ p + m → ¬ (p + gd_fgn c L m p < L ∧ gd_dg (c (p + gd_fgn c L m p)) = true)
  | 0, p, h => fun q => by have := q.1; rw [gd_fgn] at this; omega
  | m + 1, p, h => by
    rw [gd_fgn]
    split
    · have := gd_fgn_out (c := c) (L := L) m (p + 1) (by omega)
      rw [show p + (gd_fgn c L m (p + 1) + 1) = p + 1 + gd_fgn c L m (p + 1) by omega]
      exact this
    · rename_i q
      exact q
theorem gd_fg_in {c : Nat → Nat} {L p i : Nat} (h : i < gd_fg c L p) : p + i < L ∧ gd_dg (c (p + i)) = true := gd_fgn_in _ _ _ h
theorem gd_fg_out {c : Nat → Nat} {L p : Nat} : ¬ (p + gd_fg c L p < L ∧ gd_dg (c (p + gd_fg c L p)) = true) := by
  by_cases h : p ≤ L
  · exact gd_fgn_out _ _ (by omega)
  · intro q; have := q.1; omega
theorem gd_fg_le {c : Nat → Nat} {L p : Nat} : gd_fg c L p ≤ L - p := gd_fgn_le _ _
def gd_nv (c : Nat → Nat) (p m : Nat) : Nat := if m = 1 then c p - 48 else 10 * (c p - 48) + (c (p + 1) - 48)
def gd_fa (S : gd_PS) (w k : Nat) : gd_PS := if S.2.1 = 0 then (S.1, k, w) else S
def gd_tb (c : Nat → Nat) (L x : Nat) (S : gd_PS) : gd_PS := if S.2.1 = 0 then (if S.1 < L ∧ c S.1 = x then (S.1 + 1, 0, S.2.2) else (S.1, 1, S.1)) else S
def gd_tn (c : Nat → Nat) (L lo : Nat) (hi : Int) (S : gd_PS) : Nat × gd_PS := if S.2.1 = 0 then (if gd_fg c L S.1 = 1 ∨ gd_fg c L S.1 = 2 then (if lo ≤ gd_nv c S.1 (gd_fg c L S.1) ∧ (gd_nv c S.1 (gd_fg c L S.1) : Int) ≤ hi then (gd_nv c S.1 (gd_fg c L S.1), (S.1 + gd_fg c L S.1, 0, S.2.2)) else (0, (S.1, 2, S.1))) else (0, (S.1, 1, S.1))) else (0, S)
def gd_PB (L : Nat) (S : gd_PS) : Prop := S.1 ≤ L ∧ S.2.1 ≤ 3 ∧ S.2.2 ≤ L
theorem gd_PB_tb {c : Nat → Nat} {L x : Nat} {S : gd_PS} (h : gd_PB L S) : gd_PB L (gd_tb c L x S) := by
  obtain ⟨h1, h2, h3⟩ := h
  rw [gd_tb]
  split
  · split
    · exact ⟨by show S.1 + 1 ≤ L; omega, Nat.le_of_ble_eq_true rfl, h3⟩
    · exact ⟨h1, Nat.le_of_ble_eq_true rfl, h1⟩
  · exact ⟨h1, h2, h3⟩
theorem gd_PB_tn {c : Nat → Nat} {L lo : Nat} {hi : Int} {S : gd_PS} (h : gd_PB L S) : gd_PB L (gd_tn c L lo hi S).2 := by
  obtain ⟨h1, h2, h3⟩ := h
  have := gd_fg_le (c := c) (L := L) (p := S.1)
  rw [gd_tn]
  split
  · split
    · split
      · exact ⟨by show S.1 + gd_fg c L S.1 ≤ L; omega, Nat.le_of_ble_eq_true rfl, h3⟩
      · exact ⟨h1, Nat.le_of_ble_eq_true rfl, h1⟩
    · exact ⟨h1, Nat.le_of_ble_eq_true rfl, h1⟩
  · exact ⟨h1, h2, h3⟩
theorem gd_PB_fa {L w k : Nat} {S : gd_PS} (h : gd_PB L S) (hw : w ≤ L) (hk : k ≤ 3) : gd_PB L (gd_fa S w k) := by
  rw [gd_fa]
  split
  · exact ⟨h.1, hk, hw⟩
  · exact h
def gd_kl (x : Nat) : Nat := if x = 100 then 1 else if x = 119 then 2 else if x = 115 then 3 else if x = 105 then 4 else if x = 102 then 5 else 0
def gd_ks (c : Nat → Nat) (L p : Nat) : Nat := if p < L then gd_kl (c p) else 0
def gd_bh (c : Nat → Nat) (L p : Nat) : Int32 := if p < L then nI (c p) else -1
def gd_tpc (a L : Nat) (S : gd_PS) : List Value := [.ref (a + 1), .int (nI L), .int (nI S.1), .int (nI S.2.1), .int (nI S.2.2)]
theorem gd_nv_lt {c : Nat → Nat} {p m : Nat} (hc : ∀ j, c j < 256) : gd_nv c p m < 5000 := by
  have h1 := hc p
  have h2 := hc (p + 1)
  rw [gd_nv]
  split <;> omega
theorem gd_ksw' : ∀ x : Nat, x < 256 → (x = 100 ∨ x = 119 ∨ x = 115 ∨ x = 105 ∨ x = 102 ∨ decide (Op.lookupswitch.offset [(100, 51), (102, 59), (105, 57), (115, 55), (119, 53)] 61 (x : Int) = 61) = true) := by decide +kernel
theorem gd_ksw (x : Nat) (h : x < 256) (h1 : x ≠ 100) (h2 : x ≠ 119) (h3 : x ≠ 115) (h4 : x ≠ 105) (h5 : x ≠ 102) : Op.lookupswitch.offset [(100, 51), (102, 59), (105, 57), (115, 55), (119, 53)] 61 (x : Int) = 61 := by
  rcases gd_ksw' x h with e | e | e | e | e | e
  · exact absurd e h1
  · exact absurd e h2
  · exact absurd e h3
  · exact absurd e h4
  · exact absurd e h5
  · exact of_decide_eq_true e
theorem gd_dgI {x : Nat} (hx : x < 256) : gd_rng (nI x) 48 57 = gd_dg x := by
  rw [gd_rng_nI (by omega), gd_dg]
  by_cases e : 48 ≤ x ∧ x ≤ 57
  · rw [decide_eq_true e, decide_eq_true (by omega)]
  · rw [decide_eq_false e, decide_eq_false (by omega)]
section
variable {E : pj_E} {B : Nat} {l : Launch} {h : pj_H} {n a L : Nat} {c : Nat → Nat} {S : gd_PS}
theorem c_X7_isSound (h0 : h a = some (.inr (7, gd_tpc a L S))) (hS : gd_PB L S) : pj_Ct E B l Y_X7_isSound 1 0 0 [.ref a] h n (pj_is (some (.int (gd_b (decide (S.2.1 = 0))))) h n) := by
  have := hS.2.1
  refine pj_in rfl (ls := [some (.ref a)]) rfl (Nat.le_of_ble_eq_true rfl) ?_
  refine pj_ald0 (q := 1) (pj_d p_X7_isSound 0 rfl) rfl ?_
  refine pj_gf (q := 4) (k := 3) (pj_d p_X7_isSound 1 rfl) rfl kX7_17 (by first | assumption | exact pj_up_s | exact (pj_up_n (by omega)).trans (by assumption)) (by rfl) (by rfl) ?_
  refine pj_if_ne (t := 11) (q := 7) (pj_d p_X7_isSound 2 rfl) rfl (by decide) (fun c1 => ?_) (fun c1 => ?_)
  · have : ¬ S.2.1 = 0 := fun q => c1 (by rw [q]; rfl)
    rw [decide_eq_false this]
    refine pj_iconst (q := 12) (v := nI 0) (pj_d p_X7_isSound 5 rfl) rfl (by decide) ?_
    refine pj_zret rfl (by first | rfl | decide | (split <;> rfl)) (pj_d p_X7_isSound 6 rfl) (by decide) (by decide) ?_
    exact ⟨rfl, rfl, rfl⟩
  · have : S.2.1 = 0 := (nI_eq (by omega) (by omega)).mp (c1.trans nI_0.symm)
    rw [decide_eq_true this]
    refine pj_iconst (q := 8) (v := nI 1) (pj_d p_X7_isSound 3 rfl) rfl (by decide) ?_
    refine pj_goto (t := 12) (pj_d p_X7_isSound 4 rfl) (by decide) ?_
    refine pj_zret rfl (by first | rfl | decide | (split <;> rfl)) (pj_d p_X7_isSound 6 rfl) (by decide) (by decide) ?_
    exact ⟨rfl, rfl, rfl⟩
theorem c_X7_faultAt (h0 : h a = some (.inr (7, gd_tpc a L S))) (hS : gd_PB L S) (w k : Nat) : pj_Ct E B l Y_X7_faultAt 2 0 0 [.ref a, .int (nI w), .int (nI k)] h n (pj_is none (pj_up h a (.inr (7, gd_tpc a L (gd_fa S w k)))) n) := by
  refine pj_in rfl (ls := [some (.ref a), some (.int (nI w)), some (.int (nI k))]) rfl (Nat.le_of_ble_eq_true rfl) ?_
  refine pj_ald0 (q := 1) (pj_d p_X7_faultAt 0 rfl) rfl ?_
  refine pj_cp (pj_rV (q := 4) (c_X7_isSound h0 hS) (pj_d p_X7_faultAt 1 rfl) rfl kX7_43 o_X7_isSound (by first | assumption | exact pj_up_s | exact (pj_up_n (by omega)).trans (by assumption)) (by rfl) (by rfl) (by rfl) (by rfl) (Nat.le_of_ble_eq_true rfl) (by decide)) (by decide) (by decide) ?_
  refine pj_if_eq (t := 17) (q := 7) (pj_d p_X7_faultAt 2 rfl) rfl (by decide) (fun c1 => ?_) (fun c1 => ?_)
  · have e := gd_dec_f c1
    refine pj_vret rfl (pj_d p_X7_faultAt 9 rfl) (by decide) (by decide) ?_
    exact ⟨rfl, by rw [gd_fa, if_neg e, pj_up_id h0], rfl⟩
  have e := gd_dec_t c1
  refine pj_ald0 (q := 8) (pj_d p_X7_faultAt 3 rfl) rfl ?_
  refine pj_ild1 (q := 9) (pj_d p_X7_faultAt 4 rfl) rfl ?_
  refine pj_pf (q := 12) (k := 4) (fs' := gd_tpc a L (S.1, S.2.1, w)) (pj_d p_X7_faultAt 5 rfl) rfl kX7_20 (by first | assumption | exact pj_up_s | exact (pj_up_n (by omega)).trans (by assumption)) (by rfl) (Or.inl rfl) (by rfl) (by rfl) (by rfl) (by show 4 < 5; decide) (by rfl) ?_
  refine pj_ald0 (q := 13) (pj_d p_X7_faultAt 6 rfl) rfl ?_
  refine pj_ild2 (q := 14) (pj_d p_X7_faultAt 7 rfl) rfl ?_
  refine pj_pf (q := 17) (k := 3) (fs' := gd_tpc a L (S.1, k, w)) (pj_d p_X7_faultAt 8 rfl) rfl kX7_17 (by first | assumption | exact pj_up_s | exact (pj_up_n (by omega)).trans (by assumption)) (by rfl) (Or.inl rfl) (by rfl) (by rfl) (by rfl) (by show 3 < 5; decide) (by rfl) ?_
  refine pj_vret rfl (pj_d p_X7_faultAt 9 rfl) (by decide) (by decide) ?_
  exact ⟨rfl, by rw [gd_fa, if_pos e, pj_up_up], rfl⟩
theorem c_X7_byteHere (h0 : h a = some (.inr (7, gd_tpc a L S))) (hb : h (a + 1) = some (.inl (0, 120, .inl (fun j => nI (c j))))) (hL : L ≤ 120) (hS : gd_PB L S) : pj_Ct E B l Y_X7_byteHere 1 0 0 [.ref a] h n (pj_is (some (.int (gd_bh c L S.1))) h n) := by
  have := hS.1
  refine pj_in rfl (ls := [some (.ref a)]) rfl (Nat.le_of_ble_eq_true rfl) ?_
  refine pj_ald0 (q := 1) (pj_d p_X7_byteHere 0 rfl) rfl ?_
  refine pj_gf (q := 4) (k := 2) (pj_d p_X7_byteHere 1 rfl) rfl kX7_23 (by first | assumption | exact pj_up_s | exact (pj_up_n (by omega)).trans (by assumption)) (by rfl) (by rfl) ?_
  refine pj_ald0 (q := 5) (pj_d p_X7_byteHere 2 rfl) rfl ?_
  refine pj_gf (q := 8) (k := 1) (pj_d p_X7_byteHere 3 rfl) rfl kX7_13 (by first | assumption | exact pj_up_s | exact (pj_up_n (by omega)).trans (by assumption)) (by rfl) (by rfl) ?_
  refine pj_icmp_ge (t := 23) (q := 11) (pj_d p_X7_byteHere 4 rfl) rfl (by decide) (fun c1 => ?_) (fun c1 => ?_)
  · have := gd_ge c1 (by omega) (by omega)
    refine pj_iconst (q := 24) (v := (-1)) (pj_d p_X7_byteHere 11 rfl) rfl (by decide) ?_
    refine pj_iret rfl (pj_d p_X7_byteHere 12 rfl) (by decide) (by decide) ?_
    exact ⟨by rw [gd_bh, if_neg (by omega)], rfl, rfl⟩
  have hlt : S.1 < L := gd_lt c1 (by omega)
  have h120 : S.1 < 120 := by omega
  refine pj_ald0 (q := 12) (pj_d p_X7_byteHere 5 rfl) rfl ?_
  refine pj_gf (q := 15) (k := 0) (pj_d p_X7_byteHere 6 rfl) rfl kX7_9 (by first | assumption | exact pj_up_s | exact (pj_up_n (by omega)).trans (by assumption)) (by rfl) (by rfl) ?_
  refine pj_ald0 (q := 16) (pj_d p_X7_byteHere 7 rfl) rfl ?_
  refine pj_gf (q := 19) (k := 2) (pj_d p_X7_byteHere 8 rfl) rfl kX7_23 (by first | assumption | exact pj_up_s | exact (pj_up_n (by omega)).trans (by assumption)) (by rfl) (by rfl) ?_
  refine pj_ialdN (q := 20) (pj_d p_X7_byteHere 9 rfl) rfl (by first | assumption | exact pj_up_s | exact (pj_up_n (by omega)).trans (by assumption)) (by rfl) (by first | assumption | omega) (Nat.le_of_ble_eq_true rfl) ?_
  refine pj_goto (t := 24) (pj_d p_X7_byteHere 10 rfl) (by decide) ?_
  refine pj_iret rfl (pj_d p_X7_byteHere 12 rfl) (by decide) (by decide) ?_
  exact ⟨by rw [gd_bh, if_pos hlt], rfl, rfl⟩
theorem gd_bhI {x : Nat} (hx : x < 256) (hc : ∀ j, c j < 256) : gd_bh c L S.1 = nI x ↔ S.1 < L ∧ c S.1 = x := by
  have := hc S.1
  rw [gd_bh]
  by_cases e : S.1 < L
  · rw [if_pos e, nI_eq (by omega) (by omega)]
    exact ⟨fun q => ⟨e, q⟩, fun q => q.2⟩
  · rw [if_neg e]
    refine ⟨fun q => ?_, fun q => absurd q.1 e⟩
    have h1 : (nI x).toInt = (x : Int) := nI_toInt (by omega)
    rw [← q] at h1
    have : ((-1 : Int32)).toInt = -1 := by decide
    omega
theorem c_X7_takeByte (h0 : h a = some (.inr (7, gd_tpc a L S))) (hb : h (a + 1) = some (.inl (0, 120, .inl (fun j => nI (c j))))) (hL : L ≤ 120) (hc : ∀ j, c j < 256) (hS : gd_PB L S) {x : Nat} (hx : x < 256) : pj_Ct E B l Y_X7_takeByte 3 0 0 [.ref a, .int (nI x)] h n (pj_is none (pj_up h a (.inr (7, gd_tpc a L (gd_tb c L x S)))) n) := by
  refine pj_in rfl (ls := [some (.ref a), some (.int (nI x))]) rfl (Nat.le_of_ble_eq_true rfl) ?_
  refine pj_ald0 (q := 1) (pj_d p_X7_takeByte 0 rfl) rfl ?_
  refine pj_cp (pj_rV (q := 4) (c_X7_isSound h0 hS) (pj_d p_X7_takeByte 1 rfl) rfl kX7_43 o_X7_isSound (by first | assumption | exact pj_up_s | exact (pj_up_n (by omega)).trans (by assumption)) (by rfl) (by rfl) (by rfl) (by rfl) (Nat.le_of_ble_eq_true rfl) (by decide)) (by decide) (by decide) ?_
  refine pj_if_ne (t := 8) (q := 7) (pj_d p_X7_takeByte 2 rfl) rfl (by decide) (fun c1 => ?_) (fun c1 => ?_)
  rotate_left
  · have e := gd_dec_f c1
    refine pj_vret rfl (pj_d p_X7_takeByte 3 rfl) (by decide) (by decide) ?_
    exact ⟨rfl, by rw [gd_tb, if_neg e, pj_up_id h0], rfl⟩
  have e := gd_dec_t c1
  refine pj_ald0 (q := 9) (pj_d p_X7_takeByte 4 rfl) rfl ?_
  refine pj_cp (pj_rV (q := 12) (c_X7_byteHere h0 hb hL hS) (pj_d p_X7_takeByte 5 rfl) rfl kX7_58 o_X7_byteHere (by first | assumption | exact pj_up_s | exact (pj_up_n (by omega)).trans (by assumption)) (by rfl) (by rfl) (by rfl) (by rfl) (Nat.le_of_ble_eq_true rfl) (by decide)) (by decide) (by decide) ?_
  refine pj_ild1 (q := 13) (pj_d p_X7_takeByte 6 rfl) rfl ?_
  refine pj_icmp_ne (t := 29) (q := 16) (pj_d p_X7_takeByte 7 rfl) rfl (by decide) (fun c2 => ?_) (fun c2 => ?_)
  · rw [gd_bhI hx hc] at c2
    refine pj_ald0 (q := 30) (pj_d p_X7_takeByte 15 rfl) rfl ?_
    refine pj_ald0 (q := 31) (pj_d p_X7_takeByte 16 rfl) rfl ?_
    refine pj_gf (q := 34) (k := 2) (pj_d p_X7_takeByte 17 rfl) rfl kX7_23 (by first | assumption | exact pj_up_s | exact (pj_up_n (by omega)).trans (by assumption)) (by rfl) (by rfl) ?_
    refine pj_iconst (q := 35) (v := nI 1) (pj_d p_X7_takeByte 18 rfl) rfl (by decide) ?_
    refine pj_cv (pj_rV (q := 38) (c_X7_faultAt h0 hS S.1 1) (pj_d p_X7_takeByte 19 rfl) rfl kX7_39 o_X7_faultAt (by first | assumption | exact pj_up_s | exact (pj_up_n (by omega)).trans (by assumption)) (by rfl) (by rfl) (by rfl) (by rfl) (Nat.le_of_ble_eq_true rfl) (by decide)) (by decide) (by decide) ?_
    rintro r1 h1 n1 ⟨rfl, rfl, rfl⟩
    refine pj_vret rfl (pj_d p_X7_takeByte 20 rfl) (by decide) (by decide) ?_
    exact ⟨rfl, by rw [gd_tb, if_pos e, if_neg c2, gd_fa, if_pos e], rfl⟩
  · rw [gd_bhI hx hc] at c2
    refine pj_ald0 (q := 17) (pj_d p_X7_takeByte 8 rfl) rfl ?_
    refine pj_dup (q := 18) (pj_d p_X7_takeByte 9 rfl) rfl rfl ?_
    refine pj_gf (q := 21) (k := 2) (pj_d p_X7_takeByte 10 rfl) rfl kX7_23 (by first | assumption | exact pj_up_s | exact (pj_up_n (by omega)).trans (by assumption)) (by rfl) (by rfl) ?_
    refine pj_iconst (q := 22) (v := nI 1) (pj_d p_X7_takeByte 11 rfl) rfl (by decide) ?_
    refine pj_iadd (q := 23) (pj_d p_X7_takeByte 12 rfl) rfl ?_
    rw [nI_add]
    refine pj_pf (q := 26) (k := 2) (fs' := gd_tpc a L (S.1 + 1, S.2.1, S.2.2)) (pj_d p_X7_takeByte 13 rfl) rfl kX7_23 (by first | assumption | exact pj_up_s | exact (pj_up_n (by omega)).trans (by assumption)) (by rfl) (Or.inl rfl) (by rfl) (by rfl) (by rfl) (by show 2 < 5; decide) (by rfl) ?_
    refine pj_goto (t := 38) (pj_d p_X7_takeByte 14 rfl) (by decide) ?_
    refine pj_vret rfl (pj_d p_X7_takeByte 20 rfl) (by decide) (by decide) ?_
    exact ⟨rfl, by rw [gd_tb, if_pos e, if_pos c2, e], rfl⟩
theorem c_X7_figuresHere (h0 : h a = some (.inr (7, gd_tpc a L S))) (hb : h (a + 1) = some (.inl (0, 120, .inl (fun j => nI (c j))))) (hL : L ≤ 120) (hc : ∀ j, c j < 256) (hS : gd_PB L S) : pj_Ct E B l Y_X7_figuresHere 1 0 0 [.ref a] h n (pj_is (some (.int (nI (gd_fg c L S.1)))) h n) := by
  have p0 := hS.1
  have fl := gd_fg_le (c := c) (L := L) (p := S.1)
  refine pj_in rfl (ls := [some (.ref a), none, none]) rfl (Nat.le_of_ble_eq_true rfl) ?_
  refine pj_ald0 (q := 1) (pj_d p_X7_figuresHere 0 rfl) rfl ?_
  refine pj_gf (q := 4) (k := 2) (pj_d p_X7_figuresHere 1 rfl) rfl kX7_23 (by first | assumption | exact pj_up_s | exact (pj_up_n (by omega)).trans (by assumption)) (by rfl) (by rfl) ?_
  refine pj_ist1 (q := 5) (pj_d p_X7_figuresHere 2 rfl) rfl (by first | rfl | assumption) ?_
  refine pj_ald0 (q := 6) (pj_d p_X7_figuresHere 3 rfl) rfl ?_
  refine pj_gf (q := 9) (k := 2) (pj_d p_X7_figuresHere 4 rfl) rfl kX7_23 (by first | assumption | exact pj_up_s | exact (pj_up_n (by omega)).trans (by assumption)) (by rfl) (by rfl) ?_
  refine pj_ist2 (q := 10) (pj_d p_X7_figuresHere 5 rfl) rfl (by first | rfl | assumption) ?_
  have stop : pj_V E B l Y_X7_figuresHere 1 0 0 50 [some (.ref a), some (.int (nI (S.1 + gd_fg c L S.1))), some (.int (nI (S.1 + gd_fg c L S.1)))] [] h n 0 0 (pj_is (some (.int (nI (gd_fg c L S.1)))) h n) := by
    refine pj_ild1 (q := 51) (pj_d p_X7_figuresHere 28 rfl) rfl ?_
    refine pj_ald0 (q := 52) (pj_d p_X7_figuresHere 29 rfl) rfl ?_
    refine pj_gf (q := 55) (k := 2) (pj_d p_X7_figuresHere 30 rfl) rfl kX7_23 (by first | assumption | exact pj_up_s | exact (pj_up_n (by omega)).trans (by assumption)) (by rfl) (by rfl) ?_
    refine pj_isub (q := 56) (pj_d p_X7_figuresHere 31 rfl) rfl ?_
    rw [gd_sub (by omega), show S.1 + gd_fg c L S.1 - S.1 = gd_fg c L S.1 by omega]
    refine pj_iret rfl (pj_d p_X7_figuresHere 32 rfl) (by decide) (by decide) ?_
    exact ⟨rfl, rfl, rfl⟩
  have loop : ∀ m i, gd_fg c L S.1 - i < m → i ≤ gd_fg c L S.1 → pj_V E B l Y_X7_figuresHere 1 0 0 10 [some (.ref a), some (.int (nI (S.1 + i))), some (.int (nI (S.1 + i)))] [] h n 0 0 (pj_is (some (.int (nI (gd_fg c L S.1)))) h n) := by
    intro m
    induction m with
    | zero => intro i hi; omega
    | succ m ih =>
      intro i hi hle
      by_cases he : i = gd_fg c L S.1
      · subst he
        have out := gd_fg_out (c := c) (L := L) (p := S.1)
        have zl : S.1 + gd_fg c L S.1 ≤ L := by omega
        generalize S.1 + gd_fg c L S.1 = z at out stop zl ⊢
        refine pj_ild2 (q := 11) (pj_d p_X7_figuresHere 6 rfl) rfl ?_
        refine pj_ald0 (q := 12) (pj_d p_X7_figuresHere 7 rfl) rfl ?_
        refine pj_gf (q := 15) (k := 1) (pj_d p_X7_figuresHere 8 rfl) rfl kX7_13 (by first | assumption | exact pj_up_s | exact (pj_up_n (by omega)).trans (by assumption)) (by rfl) (by rfl) ?_
        refine pj_icmp_ge (t := 50) (q := 18) (pj_d p_X7_figuresHere 9 rfl) rfl (by decide) (fun c1 => ?_) (fun c1 => ?_)
        · exact stop
        have hz : z < L := gd_lt c1 (by omega)
        have z120 : z < 120 := by omega
        have cz := hc z
        refine pj_ald0 (q := 19) (pj_d p_X7_figuresHere 10 rfl) rfl ?_
        refine pj_gf (q := 22) (k := 0) (pj_d p_X7_figuresHere 11 rfl) rfl kX7_9 (by first | assumption | exact pj_up_s | exact (pj_up_n (by omega)).trans (by assumption)) (by rfl) (by rfl) ?_
        refine pj_ild2 (q := 23) (pj_d p_X7_figuresHere 12 rfl) rfl ?_
        refine pj_ialdN (q := 24) (pj_d p_X7_figuresHere 13 rfl) rfl (by first | assumption | exact pj_up_s | exact (pj_up_n (by omega)).trans (by assumption)) (by rfl) (by first | assumption | omega) (Nat.le_of_ble_eq_true rfl) ?_
        refine pj_bipush (q := 26) (v := nI 48) (pj_d p_X7_figuresHere 14 rfl) rfl (by decide) ?_
        refine pj_icmp_lt (t := 50) (q := 29) (pj_d p_X7_figuresHere 15 rfl) rfl (by decide) (fun c2 => ?_) (fun c2 => ?_)
        · exact stop
        have d1 : 48 ≤ c z := by
          have : ¬ c z < 48 := fun q => c2 (nI_lt q (by omega))
          omega
        refine pj_ald0 (q := 30) (pj_d p_X7_figuresHere 16 rfl) rfl ?_
        refine pj_gf (q := 33) (k := 0) (pj_d p_X7_figuresHere 17 rfl) rfl kX7_9 (by first | assumption | exact pj_up_s | exact (pj_up_n (by omega)).trans (by assumption)) (by rfl) (by rfl) ?_
        refine pj_ild2 (q := 34) (pj_d p_X7_figuresHere 18 rfl) rfl ?_
        refine pj_ialdN (q := 35) (pj_d p_X7_figuresHere 19 rfl) rfl (by first | assumption | exact pj_up_s | exact (pj_up_n (by omega)).trans (by assumption)) (by rfl) (by first | assumption | omega) (Nat.le_of_ble_eq_true rfl) ?_
        refine pj_bipush (q := 37) (v := nI 57) (pj_d p_X7_figuresHere 20 rfl) rfl (by decide) ?_
        refine pj_icmp_gt (t := 50) (q := 40) (pj_d p_X7_figuresHere 21 rfl) rfl (by decide) (fun c3 => ?_) (fun c3 => ?_)
        · exact stop
        have d2 : c z ≤ 57 := by
          have : ¬ 57 < c z := fun q => c3 (nI_lt q (by omega))
          omega
        exact absurd ⟨hz, decide_eq_true ⟨d1, d2⟩⟩ out
      · have hlt : i < gd_fg c L S.1 := by omega
        obtain ⟨q1, q2⟩ := gd_fg_in hlt
        have q3 := of_decide_eq_true q2
        have z120 : S.1 + i < 120 := by omega
        have cz := hc (S.1 + i)
        refine pj_ild2 (q := 11) (pj_d p_X7_figuresHere 6 rfl) rfl ?_
        refine pj_ald0 (q := 12) (pj_d p_X7_figuresHere 7 rfl) rfl ?_
        refine pj_gf (q := 15) (k := 1) (pj_d p_X7_figuresHere 8 rfl) rfl kX7_13 (by first | assumption | exact pj_up_s | exact (pj_up_n (by omega)).trans (by assumption)) (by rfl) (by rfl) ?_
        refine pj_icmp_ge (t := 50) (q := 18) (pj_d p_X7_figuresHere 9 rfl) rfl (by decide) (fun c1 => ?_) (fun c1 => ?_)
        · exact absurd (gd_ge c1 (by omega) (by omega)) (by omega)
        refine pj_ald0 (q := 19) (pj_d p_X7_figuresHere 10 rfl) rfl ?_
        refine pj_gf (q := 22) (k := 0) (pj_d p_X7_figuresHere 11 rfl) rfl kX7_9 (by first | assumption | exact pj_up_s | exact (pj_up_n (by omega)).trans (by assumption)) (by rfl) (by rfl) ?_
        refine pj_ild2 (q := 23) (pj_d p_X7_figuresHere 12 rfl) rfl ?_
        refine pj_ialdN (q := 24) (pj_d p_X7_figuresHere 13 rfl) rfl (by first | assumption | exact pj_up_s | exact (pj_up_n (by omega)).trans (by assumption)) (by rfl) (by first | assumption | omega) (Nat.le_of_ble_eq_true rfl) ?_
        refine pj_bipush (q := 26) (v := nI 48) (pj_d p_X7_figuresHere 14 rfl) rfl (by decide) ?_
        refine pj_icmp_lt (t := 50) (q := 29) (pj_d p_X7_figuresHere 15 rfl) rfl (by decide) (fun c2 => ?_) (fun c2 => ?_)
        · exact absurd ((nI_ltI (by omega) (by omega)).mp c2) (by omega)
        refine pj_ald0 (q := 30) (pj_d p_X7_figuresHere 16 rfl) rfl ?_
        refine pj_gf (q := 33) (k := 0) (pj_d p_X7_figuresHere 17 rfl) rfl kX7_9 (by first | assumption | exact pj_up_s | exact (pj_up_n (by omega)).trans (by assumption)) (by rfl) (by rfl) ?_
        refine pj_ild2 (q := 34) (pj_d p_X7_figuresHere 18 rfl) rfl ?_
        refine pj_ialdN (q := 35) (pj_d p_X7_figuresHere 19 rfl) rfl (by first | assumption | exact pj_up_s | exact (pj_up_n (by omega)).trans (by assumption)) (by rfl) (by first | assumption | omega) (Nat.le_of_ble_eq_true rfl) ?_
        refine pj_bipush (q := 37) (v := nI 57) (pj_d p_X7_figuresHere 20 rfl) rfl (by decide) ?_
        refine pj_icmp_gt (t := 50) (q := 40) (pj_d p_X7_figuresHere 21 rfl) rfl (by decide) (fun c3 => ?_) (fun c3 => ?_)
        · exact absurd ((nI_ltI (by omega) (by omega)).mp c3) (by omega)
        refine pj_ild2 (q := 41) (pj_d p_X7_figuresHere 22 rfl) rfl ?_
        refine pj_iconst (q := 42) (v := nI 1) (pj_d p_X7_figuresHere 23 rfl) rfl (by decide) ?_
        refine pj_iadd (q := 43) (pj_d p_X7_figuresHere 24 rfl) rfl ?_
        rw [nI_add]
        refine pj_ist1 (q := 44) (pj_d p_X7_figuresHere 25 rfl) rfl (by first | rfl | assumption) ?_
        refine pj_iinc2 (q := 47) (v := 1) (pj_d p_X7_figuresHere 26 rfl) rfl (by first | rfl | assumption) (by decide) ?_
        refine pj_goto (t := 10) (pj_d p_X7_figuresHere 27 rfl) (by decide) ?_
        rw [nI_1]
        exact ih (i + 1) (by omega) (by omega)
  have := loop (gd_fg c L S.1 + 1) 0 (by omega) (by omega)
  exact this
theorem c_X7_kindOfSort (hc : ∀ j, c j < 256) (p : Nat) : pj_Ct E B l Y_X7_kindOfSort 1 0 0 [.int (gd_bh c L p)] h n (pj_is (some (.int (nI (gd_ks c L p)))) h n) := by
  refine pj_in rfl (ls := [some (.int (gd_bh c L p))]) rfl (Nat.le_of_ble_eq_true rfl) ?_
  refine pj_ild0 (q := 1) (pj_d p_X7_kindOfSort 0 rfl) rfl ?_
  rw [gd_bh, gd_ks]
  by_cases e : p < L
  rotate_left
  · rw [if_neg e, if_neg e]
    refine pj_lookup (t := 62) (dflt := 61) (ps := #[(100, 51), (102, 59), (105, 57), (115, 55), (119, 53)]) (off := 61) (pj_d p_X7_kindOfSort 1 rfl) (by decide) (by rfl) (by decide) ?_
    refine pj_iconst (q := 63) (v := nI 0) (pj_d p_X7_kindOfSort 12 rfl) rfl (by decide) ?_
    refine pj_iret rfl (pj_d p_X7_kindOfSort 13 rfl) (by decide) (by decide) ?_
    exact ⟨rfl, rfl, rfl⟩
  rw [if_pos e, if_pos e]
  have hx := hc p
  generalize c p = x at hx ⊢
  by_cases e1 : x = 100
  · subst e1
    refine pj_lookup (t := 52) (dflt := 61) (ps := #[(100, 51), (102, 59), (105, 57), (115, 55), (119, 53)]) (off := 51) (pj_d p_X7_kindOfSort 1 rfl) (by decide) (by rfl) (by decide) ?_
    refine pj_iconst (q := 53) (v := nI 1) (pj_d p_X7_kindOfSort 2 rfl) rfl (by decide) ?_
    refine pj_iret rfl (pj_d p_X7_kindOfSort 3 rfl) (by decide) (by decide) ?_
    exact ⟨rfl, rfl, rfl⟩
  by_cases e2 : x = 119
  · subst e2
    refine pj_lookup (t := 54) (dflt := 61) (ps := #[(100, 51), (102, 59), (105, 57), (115, 55), (119, 53)]) (off := 53) (pj_d p_X7_kindOfSort 1 rfl) (by decide) (by rfl) (by decide) ?_
    refine pj_iconst (q := 55) (v := nI 2) (pj_d p_X7_kindOfSort 4 rfl) rfl (by decide) ?_
    refine pj_iret rfl (pj_d p_X7_kindOfSort 5 rfl) (by decide) (by decide) ?_
    exact ⟨rfl, rfl, rfl⟩
  by_cases e3 : x = 115
  · subst e3
    refine pj_lookup (t := 56) (dflt := 61) (ps := #[(100, 51), (102, 59), (105, 57), (115, 55), (119, 53)]) (off := 55) (pj_d p_X7_kindOfSort 1 rfl) (by decide) (by rfl) (by decide) ?_
    refine pj_iconst (q := 57) (v := nI 3) (pj_d p_X7_kindOfSort 6 rfl) rfl (by decide) ?_
    refine pj_iret rfl (pj_d p_X7_kindOfSort 7 rfl) (by decide) (by decide) ?_
    exact ⟨rfl, rfl, rfl⟩
  by_cases e4 : x = 105
  · subst e4
    refine pj_lookup (t := 58) (dflt := 61) (ps := #[(100, 51), (102, 59), (105, 57), (115, 55), (119, 53)]) (off := 57) (pj_d p_X7_kindOfSort 1 rfl) (by decide) (by rfl) (by decide) ?_
    refine pj_iconst (q := 59) (v := nI 4) (pj_d p_X7_kindOfSort 8 rfl) rfl (by decide) ?_
    refine pj_iret rfl (pj_d p_X7_kindOfSort 9 rfl) (by decide) (by decide) ?_
    exact ⟨rfl, rfl, rfl⟩
  by_cases e5 : x = 102
  · subst e5
    refine pj_lookup (t := 60) (dflt := 61) (ps := #[(100, 51), (102, 59), (105, 57), (115, 55), (119, 53)]) (off := 59) (pj_d p_X7_kindOfSort 1 rfl) (by decide) (by rfl) (by decide) ?_
    refine pj_iconst (q := 61) (v := nI 5) (pj_d p_X7_kindOfSort 10 rfl) rfl (by decide) ?_
    refine pj_iret rfl (pj_d p_X7_kindOfSort 11 rfl) (by decide) (by decide) ?_
    exact ⟨rfl, rfl, rfl⟩
  refine pj_lookup (t := 62) (dflt := 61) (ps := #[(100, 51), (102, 59), (105, 57), (115, 55), (119, 53)]) (off := 61) (pj_d p_X7_kindOfSort 1 rfl) (by decide) (by rw [nI_toInt (by omega)]; exact gd_ksw x hx e1 e2 e3 e4 e5) (by decide) ?_
  refine pj_iconst (q := 63) (v := nI 0) (pj_d p_X7_kindOfSort 12 rfl) rfl (by decide) ?_
  refine pj_iret rfl (pj_d p_X7_kindOfSort 13 rfl) (by decide) (by decide) ?_
  exact ⟨by rw [gd_kl, if_neg e1, if_neg e2, if_neg e3, if_neg e4, if_neg e5], rfl, rfl⟩
theorem c_X7_takeNumber (h0 : h a = some (.inr (7, gd_tpc a L S))) (hb : h (a + 1) = some (.inl (0, 120, .inl (fun j => nI (c j))))) (hL : L ≤ 120) (hc : ∀ j, c j < 256) (hS : gd_PB L S) {lo : Nat} {hi : Int32} {hiI : Int} (hlo : lo < 1000) (hhi : hi.toInt = hiI) : pj_Ct E B l Y_X7_takeNumber 3 0 0 [.ref a, .int (nI lo), .int hi] h n (pj_is (some (.int (nI (gd_tn c L lo hiI S).1))) (pj_up h a (.inr (7, gd_tpc a L (gd_tn c L lo hiI S).2))) n) := by
  have p0 := hS.1
  have fl := gd_fg_le (c := c) (L := L) (p := S.1)
  refine pj_in rfl (ls := [some (.ref a), some (.int (nI lo)), some (.int (hi)), none, none, none]) rfl (Nat.le_of_ble_eq_true rfl) ?_
  refine pj_ald0 (q := 1) (pj_d p_X7_takeNumber 0 rfl) rfl ?_
  refine pj_cp (pj_rV (q := 4) (c_X7_isSound h0 hS) (pj_d p_X7_takeNumber 1 rfl) rfl kX7_43 o_X7_isSound (by first | assumption | exact pj_up_s | exact (pj_up_n (by omega)).trans (by assumption)) (by rfl) (by rfl) (by rfl) (by rfl) (Nat.le_of_ble_eq_true rfl) (by decide)) (by decide) (by decide) ?_
  refine pj_if_ne (t := 9) (q := 7) (pj_d p_X7_takeNumber 2 rfl) rfl (by decide) (fun c1 => ?_) (fun c1 => ?_)
  rotate_left
  · have e := gd_dec_f c1
    refine pj_iconst (q := 8) (v := nI 0) (pj_d p_X7_takeNumber 3 rfl) rfl (by decide) ?_
    refine pj_iret rfl (pj_d p_X7_takeNumber 4 rfl) (by decide) (by decide) ?_
    exact ⟨by rw [gd_tn, if_neg e], by rw [gd_tn, if_neg e, pj_up_id h0], rfl⟩
  have e := gd_dec_t c1
  refine pj_ald0 (q := 10) (pj_d p_X7_takeNumber 5 rfl) rfl ?_
  refine pj_cp (pj_rV (q := 13) (c_X7_figuresHere h0 hb hL hc hS) (pj_d p_X7_takeNumber 6 rfl) rfl kX7_86 o_X7_figuresHere (by first | assumption | exact pj_up_s | exact (pj_up_n (by omega)).trans (by assumption)) (by rfl) (by rfl) (by rfl) (by rfl) (Nat.le_of_ble_eq_true rfl) (by decide)) (by decide) (by decide) ?_
  have bad : ¬ (gd_fg c L S.1 = 1 ∨ gd_fg c L S.1 = 2) → pj_V E B l Y_X7_takeNumber 3 0 0 24 [some (.ref a), some (.int (nI lo)), some (.int (hi)), some (.int (nI (gd_fg c L S.1))), none, none] [] h n 0 0 (pj_is (some (.int (nI (gd_tn c L lo hiI S).1))) (pj_up h a (.inr (7, gd_tpc a L (gd_tn c L lo hiI S).2))) n) := by
    intro hn
    refine pj_ald0 (q := 25) (pj_d p_X7_takeNumber 14 rfl) rfl ?_
    refine pj_ald0 (q := 26) (pj_d p_X7_takeNumber 15 rfl) rfl ?_
    refine pj_gf (q := 29) (k := 2) (pj_d p_X7_takeNumber 16 rfl) rfl kX7_23 (by first | assumption | exact pj_up_s | exact (pj_up_n (by omega)).trans (by assumption)) (by rfl) (by rfl) ?_
    refine pj_iconst (q := 30) (v := nI 1) (pj_d p_X7_takeNumber 17 rfl) rfl (by decide) ?_
    refine pj_cv (pj_rV (q := 33) (c_X7_faultAt h0 hS S.1 1) (pj_d p_X7_takeNumber 18 rfl) rfl kX7_39 o_X7_faultAt (by first | assumption | exact pj_up_s | exact (pj_up_n (by omega)).trans (by assumption)) (by rfl) (by rfl) (by rfl) (by rfl) (Nat.le_of_ble_eq_true rfl) (by decide)) (by decide) (by decide) ?_
    rintro r1 h1 n1 ⟨rfl, rfl, rfl⟩
    refine pj_iconst (q := 34) (v := nI 0) (pj_d p_X7_takeNumber 19 rfl) rfl (by decide) ?_
    refine pj_iret rfl (pj_d p_X7_takeNumber 20 rfl) (by decide) (by decide) ?_
    exact ⟨by rw [gd_tn, if_pos e, if_neg hn], by rw [gd_tn, if_pos e, if_neg hn, gd_fa, if_pos e], rfl⟩
  refine pj_ist3 (q := 14) (pj_d p_X7_takeNumber 7 rfl) rfl (by first | rfl | assumption) ?_
  refine pj_ild3 (q := 15) (pj_d p_X7_takeNumber 8 rfl) rfl ?_
  refine pj_iconst (q := 16) (v := nI 1) (pj_d p_X7_takeNumber 9 rfl) rfl (by decide) ?_
  refine pj_icmp_lt (t := 24) (q := 19) (pj_d p_X7_takeNumber 10 rfl) rfl (by decide) (fun c2 => ?_) (fun c2 => ?_)
  · have := (nI_ltI (by omega) (by omega)).mp c2
    exact bad (by omega)
  have f1 : ¬ gd_fg c L S.1 < 1 := fun q => c2 (nI_lt q (by omega))
  refine pj_ild3 (q := 20) (pj_d p_X7_takeNumber 11 rfl) rfl ?_
  refine pj_iconst (q := 21) (v := nI 2) (pj_d p_X7_takeNumber 12 rfl) rfl (by decide) ?_
  refine pj_icmp_le (t := 35) (q := 24) (pj_d p_X7_takeNumber 13 rfl) rfl (by decide) (fun c3 => ?_) (fun c3 => ?_)
  rotate_left
  · have f2 : ¬ gd_fg c L S.1 ≤ 2 := fun q => c3 (nI_le q (by omega))
    exact bad (by omega)
  have f2 := (nI_leI (by omega) (by omega)).mp c3
  have f12 : gd_fg c L S.1 = 1 ∨ gd_fg c L S.1 = 2 := by omega
  have fin : pj_V E B l Y_X7_takeNumber 3 0 0 88 [some (.ref a), some (.int (nI lo)), some (.int (hi)), some (.int (nI (gd_fg c L S.1))), some (.int (nI (gd_nv c S.1 (gd_fg c L S.1)))), some (.int (nI (S.1 + gd_fg c L S.1)))] [] h n 0 0 (pj_is (some (.int (nI (gd_tn c L lo hiI S).1))) (pj_up h a (.inr (7, gd_tpc a L (gd_tn c L lo hiI S).2))) n) := by
    have vl := gd_nv_lt (p := S.1) (m := gd_fg c L S.1) hc
    have bad2 : ¬ (lo ≤ gd_nv c S.1 (gd_fg c L S.1) ∧ (gd_nv c S.1 (gd_fg c L S.1) : Int) ≤ hiI) → pj_V E B l Y_X7_takeNumber 3 0 0 100 [some (.ref a), some (.int (nI lo)), some (.int (hi)), some (.int (nI (gd_fg c L S.1))), some (.int (nI (gd_nv c S.1 (gd_fg c L S.1)))), some (.int (nI (S.1 + gd_fg c L S.1)))] [] h n 0 0 (pj_is (some (.int (nI (gd_tn c L lo hiI S).1))) (pj_up h a (.inr (7, gd_tpc a L (gd_tn c L lo hiI S).2))) n) := by
      intro hn
      refine pj_ald0 (q := 101) (pj_d p_X7_takeNumber 55 rfl) rfl ?_
      refine pj_ald0 (q := 102) (pj_d p_X7_takeNumber 56 rfl) rfl ?_
      refine pj_gf (q := 105) (k := 2) (pj_d p_X7_takeNumber 57 rfl) rfl kX7_23 (by first | assumption | exact pj_up_s | exact (pj_up_n (by omega)).trans (by assumption)) (by rfl) (by rfl) ?_
      refine pj_iconst (q := 106) (v := nI 2) (pj_d p_X7_takeNumber 58 rfl) rfl (by decide) ?_
      refine pj_cv (pj_rV (q := 109) (c_X7_faultAt h0 hS S.1 2) (pj_d p_X7_takeNumber 59 rfl) rfl kX7_39 o_X7_faultAt (by first | assumption | exact pj_up_s | exact (pj_up_n (by omega)).trans (by assumption)) (by rfl) (by rfl) (by rfl) (by rfl) (Nat.le_of_ble_eq_true rfl) (by decide)) (by decide) (by decide) ?_
      rintro r1 h1 n1 ⟨rfl, rfl, rfl⟩
      refine pj_iconst (q := 110) (v := nI 0) (pj_d p_X7_takeNumber 60 rfl) rfl (by decide) ?_
      refine pj_iret rfl (pj_d p_X7_takeNumber 61 rfl) (by decide) (by decide) ?_
      exact ⟨by rw [gd_tn, if_pos e, if_pos f12, if_neg hn], by rw [gd_tn, if_pos e, if_pos f12, if_neg hn, gd_fa, if_pos e], rfl⟩
    refine pj_ild4 (q := 90) (pj_d p_X7_takeNumber 49 rfl) rfl ?_
    refine pj_ild1 (q := 91) (pj_d p_X7_takeNumber 50 rfl) rfl ?_
    refine pj_icmp_lt (t := 100) (q := 94) (pj_d p_X7_takeNumber 51 rfl) rfl (by decide) (fun c4 => ?_) (fun c4 => ?_)
    · have := (nI_ltI (by omega) (by omega)).mp c4
      exact bad2 (by omega)
    have g1 : ¬ gd_nv c S.1 (gd_fg c L S.1) < lo := fun q => c4 (nI_lt q (by omega))
    refine pj_ild4 (q := 96) (pj_d p_X7_takeNumber 52 rfl) rfl ?_
    refine pj_ild2 (q := 97) (pj_d p_X7_takeNumber 53 rfl) rfl ?_
    refine pj_icmp_le (t := 111) (q := 100) (pj_d p_X7_takeNumber 54 rfl) rfl (by decide) (fun c5 => ?_) (fun c5 => ?_)
    rotate_left
    · refine bad2 ?_
      rw [Int32.le_iff_toInt_le, nI_toInt (by omega), hhi] at c5
      omega
    rw [Int32.le_iff_toInt_le, nI_toInt (by omega), hhi] at c5
    have g2 : lo ≤ gd_nv c S.1 (gd_fg c L S.1) ∧ (gd_nv c S.1 (gd_fg c L S.1) : Int) ≤ hiI := ⟨by omega, c5⟩
    refine pj_ald0 (q := 112) (pj_d p_X7_takeNumber 62 rfl) rfl ?_
    refine pj_dup (q := 113) (pj_d p_X7_takeNumber 63 rfl) rfl rfl ?_
    refine pj_gf (q := 116) (k := 2) (pj_d p_X7_takeNumber 64 rfl) rfl kX7_23 (by first | assumption | exact pj_up_s | exact (pj_up_n (by omega)).trans (by assumption)) (by rfl) (by rfl) ?_
    refine pj_ild3 (q := 117) (pj_d p_X7_takeNumber 65 rfl) rfl ?_
    refine pj_iadd (q := 118) (pj_d p_X7_takeNumber 66 rfl) rfl ?_
    rw [nI_add]
    refine pj_pf (q := 121) (k := 2) (fs' := gd_tpc a L (S.1 + gd_fg c L S.1, S.2.1, S.2.2)) (pj_d p_X7_takeNumber 67 rfl) rfl kX7_23 (by first | assumption | exact pj_up_s | exact (pj_up_n (by omega)).trans (by assumption)) (by rfl) (Or.inl rfl) (by rfl) (by rfl) (by rfl) (by show 2 < 5; decide) (by rfl) ?_
    refine pj_ild4 (q := 123) (pj_d p_X7_takeNumber 68 rfl) rfl ?_
    refine pj_iret rfl (pj_d p_X7_takeNumber 69 rfl) (by decide) (by decide) ?_
    exact ⟨by rw [gd_tn, if_pos e, if_pos f12, if_pos g2], by rw [gd_tn, if_pos e, if_pos f12, if_pos g2, e], rfl⟩
  obtain ⟨i1, i2⟩ := gd_fg_in (c := c) (L := L) (p := S.1) (i := 0) (by omega)
  have i3 := of_decide_eq_true i2
  rw [Nat.add_zero] at i1 i3
  have z120 : S.1 < 120 := by omega
  have cz := hc S.1
  refine pj_iconst (q := 36) (v := nI 0) (pj_d p_X7_takeNumber 21 rfl) rfl (by decide) ?_
  refine pj_ist4 (q := 38) (pj_d p_X7_takeNumber 22 rfl) rfl (by first | rfl | assumption) ?_
  refine pj_ald0 (q := 39) (pj_d p_X7_takeNumber 23 rfl) rfl ?_
  refine pj_gf (q := 42) (k := 2) (pj_d p_X7_takeNumber 24 rfl) rfl kX7_23 (by first | assumption | exact pj_up_s | exact (pj_up_n (by omega)).trans (by assumption)) (by rfl) (by rfl) ?_
  refine pj_ist5 (q := 44) (pj_d p_X7_takeNumber 25 rfl) rfl (by first | rfl | assumption) ?_
  refine pj_ild5 (q := 46) (pj_d p_X7_takeNumber 26 rfl) rfl ?_
  refine pj_ald0 (q := 47) (pj_d p_X7_takeNumber 27 rfl) rfl ?_
  refine pj_gf (q := 50) (k := 2) (pj_d p_X7_takeNumber 28 rfl) rfl kX7_23 (by first | assumption | exact pj_up_s | exact (pj_up_n (by omega)).trans (by assumption)) (by rfl) (by rfl) ?_
  refine pj_ild3 (q := 51) (pj_d p_X7_takeNumber 29 rfl) rfl ?_
  refine pj_iadd (q := 52) (pj_d p_X7_takeNumber 30 rfl) rfl ?_
  rw [nI_add]
  refine pj_icmp_ge (t := 88) (q := 55) (pj_d p_X7_takeNumber 31 rfl) rfl (by decide) (fun c4 => ?_) (fun c4 => ?_)
  · exact absurd (gd_ge c4 (by omega) (by omega)) (by omega)
  refine pj_ild5 (q := 57) (pj_d p_X7_takeNumber 32 rfl) rfl ?_
  refine pj_ald0 (q := 58) (pj_d p_X7_takeNumber 33 rfl) rfl ?_
  refine pj_gf (q := 61) (k := 1) (pj_d p_X7_takeNumber 34 rfl) rfl kX7_13 (by first | assumption | exact pj_up_s | exact (pj_up_n (by omega)).trans (by assumption)) (by rfl) (by rfl) ?_
  refine pj_icmp_ge (t := 88) (q := 64) (pj_d p_X7_takeNumber 35 rfl) rfl (by decide) (fun c5 => ?_) (fun c5 => ?_)
  · exact absurd (gd_ge c5 (by omega) (by omega)) (by omega)
  refine pj_ild4 (q := 66) (pj_d p_X7_takeNumber 36 rfl) rfl ?_
  refine pj_bipush (q := 68) (v := nI 10) (pj_d p_X7_takeNumber 37 rfl) rfl (by decide) ?_
  refine pj_imul (q := 69) (pj_d p_X7_takeNumber 38 rfl) rfl ?_
  refine pj_ald0 (q := 70) (pj_d p_X7_takeNumber 39 rfl) rfl ?_
  refine pj_gf (q := 73) (k := 0) (pj_d p_X7_takeNumber 40 rfl) rfl kX7_9 (by first | assumption | exact pj_up_s | exact (pj_up_n (by omega)).trans (by assumption)) (by rfl) (by rfl) ?_
  refine pj_ild5 (q := 75) (pj_d p_X7_takeNumber 41 rfl) rfl ?_
  refine pj_ialdN (q := 76) (pj_d p_X7_takeNumber 42 rfl) rfl (by first | assumption | exact pj_up_s | exact (pj_up_n (by omega)).trans (by assumption)) (by rfl) (by first | assumption | omega) (Nat.le_of_ble_eq_true rfl) ?_
  refine pj_iadd (q := 77) (pj_d p_X7_takeNumber 43 rfl) rfl ?_
  refine pj_bipush (q := 79) (v := nI 48) (pj_d p_X7_takeNumber 44 rfl) rfl (by decide) ?_
  refine pj_isub (q := 80) (pj_d p_X7_takeNumber 45 rfl) rfl ?_
  rw [pk_mul, nI_add, gd_sub (by omega), show 0 * 10 + c S.1 - 48 = c S.1 - 48 by omega]
  refine pj_ist4 (q := 82) (pj_d p_X7_takeNumber 46 rfl) rfl (by first | rfl | assumption) ?_
  refine pj_iinc5 (q := 85) (v := 1) (pj_d p_X7_takeNumber 47 rfl) rfl (by first | rfl | assumption) (by decide) ?_
  refine pj_goto (t := 44) (pj_d p_X7_takeNumber 48 rfl) (by decide) ?_
  rw [nI_1]
  rcases f12 with f12 | f12
  · refine pj_ild5 (q := 46) (pj_d p_X7_takeNumber 26 rfl) rfl ?_
    refine pj_ald0 (q := 47) (pj_d p_X7_takeNumber 27 rfl) rfl ?_
    refine pj_gf (q := 50) (k := 2) (pj_d p_X7_takeNumber 28 rfl) rfl kX7_23 (by first | assumption | exact pj_up_s | exact (pj_up_n (by omega)).trans (by assumption)) (by rfl) (by rfl) ?_
    refine pj_ild3 (q := 51) (pj_d p_X7_takeNumber 29 rfl) rfl ?_
    refine pj_iadd (q := 52) (pj_d p_X7_takeNumber 30 rfl) rfl ?_
    rw [nI_add]
    refine pj_icmp_ge (t := 88) (q := 55) (pj_d p_X7_takeNumber 31 rfl) rfl (by decide) (fun c6 => ?_) (fun c6 => ?_)
    · rw [f12] at fin ⊢
      have : gd_nv c S.1 1 = c S.1 - 48 := if_pos rfl
      rw [this] at fin
      exact fin
    · exact absurd (gd_lt c6 (by omega)) (by omega)
  · obtain ⟨j1, j2⟩ := gd_fg_in (c := c) (L := L) (p := S.1) (i := 1) (by omega)
    have j3 := of_decide_eq_true j2
    have y120 : S.1 + 1 < 120 := by omega
    have cy := hc (S.1 + 1)
    refine pj_ild5 (q := 46) (pj_d p_X7_takeNumber 26 rfl) rfl ?_
    refine pj_ald0 (q := 47) (pj_d p_X7_takeNumber 27 rfl) rfl ?_
    refine pj_gf (q := 50) (k := 2) (pj_d p_X7_takeNumber 28 rfl) rfl kX7_23 (by first | assumption | exact pj_up_s | exact (pj_up_n (by omega)).trans (by assumption)) (by rfl) (by rfl) ?_
    refine pj_ild3 (q := 51) (pj_d p_X7_takeNumber 29 rfl) rfl ?_
    refine pj_iadd (q := 52) (pj_d p_X7_takeNumber 30 rfl) rfl ?_
    rw [nI_add]
    refine pj_icmp_ge (t := 88) (q := 55) (pj_d p_X7_takeNumber 31 rfl) rfl (by decide) (fun c6 => ?_) (fun c6 => ?_)
    · exact absurd (gd_ge c6 (by omega) (by omega)) (by omega)
    refine pj_ild5 (q := 57) (pj_d p_X7_takeNumber 32 rfl) rfl ?_
    refine pj_ald0 (q := 58) (pj_d p_X7_takeNumber 33 rfl) rfl ?_
    refine pj_gf (q := 61) (k := 1) (pj_d p_X7_takeNumber 34 rfl) rfl kX7_13 (by first | assumption | exact pj_up_s | exact (pj_up_n (by omega)).trans (by assumption)) (by rfl) (by rfl) ?_
    refine pj_icmp_ge (t := 88) (q := 64) (pj_d p_X7_takeNumber 35 rfl) rfl (by decide) (fun c7 => ?_) (fun c7 => ?_)
    · exact absurd (gd_ge c7 (by omega) (by omega)) (by omega)
    refine pj_ild4 (q := 66) (pj_d p_X7_takeNumber 36 rfl) rfl ?_
    refine pj_bipush (q := 68) (v := nI 10) (pj_d p_X7_takeNumber 37 rfl) rfl (by decide) ?_
    refine pj_imul (q := 69) (pj_d p_X7_takeNumber 38 rfl) rfl ?_
    refine pj_ald0 (q := 70) (pj_d p_X7_takeNumber 39 rfl) rfl ?_
    refine pj_gf (q := 73) (k := 0) (pj_d p_X7_takeNumber 40 rfl) rfl kX7_9 (by first | assumption | exact pj_up_s | exact (pj_up_n (by omega)).trans (by assumption)) (by rfl) (by rfl) ?_
    refine pj_ild5 (q := 75) (pj_d p_X7_takeNumber 41 rfl) rfl ?_
    refine pj_ialdN (q := 76) (pj_d p_X7_takeNumber 42 rfl) rfl (by first | assumption | exact pj_up_s | exact (pj_up_n (by omega)).trans (by assumption)) (by rfl) (by first | assumption | omega) (Nat.le_of_ble_eq_true rfl) ?_
    refine pj_iadd (q := 77) (pj_d p_X7_takeNumber 43 rfl) rfl ?_
    refine pj_bipush (q := 79) (v := nI 48) (pj_d p_X7_takeNumber 44 rfl) rfl (by decide) ?_
    refine pj_isub (q := 80) (pj_d p_X7_takeNumber 45 rfl) rfl ?_
    rw [pk_mul, nI_add, gd_sub (by omega)]
    refine pj_ist4 (q := 82) (pj_d p_X7_takeNumber 46 rfl) rfl (by first | rfl | assumption) ?_
    refine pj_iinc5 (q := 85) (v := 1) (pj_d p_X7_takeNumber 47 rfl) rfl (by first | rfl | assumption) (by decide) ?_
    refine pj_goto (t := 44) (pj_d p_X7_takeNumber 48 rfl) (by decide) ?_
    rw [nI_1]
    refine pj_ild5 (q := 46) (pj_d p_X7_takeNumber 26 rfl) rfl ?_
    refine pj_ald0 (q := 47) (pj_d p_X7_takeNumber 27 rfl) rfl ?_
    refine pj_gf (q := 50) (k := 2) (pj_d p_X7_takeNumber 28 rfl) rfl kX7_23 (by first | assumption | exact pj_up_s | exact (pj_up_n (by omega)).trans (by assumption)) (by rfl) (by rfl) ?_
    refine pj_ild3 (q := 51) (pj_d p_X7_takeNumber 29 rfl) rfl ?_
    refine pj_iadd (q := 52) (pj_d p_X7_takeNumber 30 rfl) rfl ?_
    rw [nI_add]
    refine pj_icmp_ge (t := 88) (q := 55) (pj_d p_X7_takeNumber 31 rfl) rfl (by decide) (fun c8 => ?_) (fun c8 => ?_)
    · rw [f12] at fin ⊢
      have : gd_nv c S.1 2 = (c S.1 - 48) * 10 + c (S.1 + 1) - 48 := by rw [gd_nv, if_neg (by decide)]; omega
      rw [this] at fin
      exact fin
    · exact absurd (gd_lt c8 (by omega)) (by omega)
end
