/-! ===== rows, of the class ===== -/
abbrev gd_S : Type := Int32 × (Nat → Int32) × (Nat → Nat) × (Nat → Nat → Int32)
def gd_RX (h : pj_H) (b : Nat) (ln : Nat → Int32) (mn : Nat → Nat) (it : Nat → Nat → Int32) : Prop :=
  h (b + 1) = some (.inr (5, [.ref (b + 2), .ref (b + 11), .ref (b + 12)])) ∧
  (∃ f, h (b + 2) = some (.inl (4, 8, .inr (.inr (.inr (.inr f))))) ∧ ∀ r, r < 8 → f r = some (b + 3 + r)) ∧
  (∀ r, r < 8 → ∃ f, h (b + 3 + r) = some (.inl (0, 40, .inl f)) ∧ ∀ i, i < 40 → f i = it r i) ∧
  (∃ f, h (b + 11) = some (.inl (0, 8, .inl f)) ∧ ∀ r, r < 8 → f r = ln r) ∧
  (∃ f, h (b + 12) = some (.inl (0, 8, .inl f)) ∧ ∀ r, r < 8 → f r = nI (mn r))
def gd_RB (ln : Nat → Int32) (mn : Nat → Nat) : Prop := ∀ r, r < 8 → (ln r = -1 ∨ ∃ j, j ≤ 2 ∧ ln r = nI j) ∧ mn r ≤ 40
def gd_th (ln : Nat → Int32) (r : Int32) : Bool := gd_rng r 0 7 && !decide (ln r.toNatClampNeg = -1)
def gd_hp (ln : Nat → Int32) (mn : Nat → Nat) (r i c : Int32) : Bool := gd_th ln r && decide (0 ≤ i.toInt ∧ 0 ≤ c.toInt ∧ i.toInt + c.toInt ≤ (mn r.toNatClampNeg : Int))
def gd_XO (b : Nat) (po : Option Nat) (lf st : Int32) : List Value := [.ref (b + 1), .ref (b + 13), .ref (b + 15), .ref (b + 19), .ref (b + 21), va_rf po, .int lf, .int st]
theorem gd_th_of {ln : Nat → Int32} {r : Int32} (h : gd_th ln r = true) : ∃ j, j < 8 ∧ r = nI j ∧ r.toNatClampNeg = j ∧ ¬ ln j = -1 := by
  rw [gd_th, Bool.and_eq_true] at h
  obtain ⟨j, hj, rfl, hc⟩ := gd_rng_of (hi := 7) h.1
  rw [hc] at h
  exact ⟨j, by omega, rfl, hc, by simpa using h.2⟩
theorem gd_RX.out {h h' : pj_H} {b : Nat} {ln : Nat → Int32} {mn : Nat → Nat} {it : Nat → Nat → Int32} (hR : gd_RX h b ln mn it) (hq : ∀ q, b + 1 ≤ q → q ≤ b + 12 → h' q = h q) : gd_RX h' b ln mn it := by
  obtain ⟨h1, ⟨f2, h2, g2⟩, h3, ⟨f4, h4, g4⟩, ⟨f5, h5, g5⟩⟩ := hR
  refine ⟨by rw [hq _ (by omega) (by omega)]; exact h1, ⟨f2, by rw [hq _ (by omega) (by omega)]; exact h2, g2⟩, fun r hr => ?_, ⟨f4, by rw [hq _ (by omega) (by omega)]; exact h4, g4⟩, ⟨f5, by rw [hq _ (by omega) (by omega)]; exact h5, g5⟩⟩
  obtain ⟨f, e1, e2⟩ := h3 r hr
  exact ⟨f, by rw [hq _ (by omega) (by omega)]; exact e1, e2⟩
theorem gd_upd {f : Nat → Int32} {k j : Nat} {x : Int32} : upd f k x j = if j = k then x else f j := rfl
theorem fb_rng' (x : Int32) : -2147483648 ≤ x.toInt ∧ x.toInt < 2147483648 := by
  have h1 := Int32.minValue_le_toInt x
  have h2 := Int32.toInt_le x
  have e1 : Int32.minValue.toInt = -2147483648 := by decide
  have e2 : Int32.maxValue.toInt = 2147483647 := by decide
  omega
theorem fb_bmod' {z : Int} (h1 : -2147483648 ≤ z) (h2 : z < 2147483648) : z.bmod (2 ^ 32) = z := by
  exact Int.bmod_eq_of_le (by omega) (by omega)
section
variable {E : pj_E} {B : Nat} {l : Launch} {h : pj_H} {n b : Nat} {ln : Nat → Int32} {mn : Nat → Nat} {it : Nat → Nat → Int32} {po : Option Nat} {lf st : Int32}
theorem c_X5_isNumber (x : Int32) : pj_Ct E B l Y_X5_isNumber 1 0 0 [.int x] h n (pj_is (some (.int (gd_b (gd_rng x 0 7)))) h n) := by
  refine pj_in rfl (ls := [some (.int x)]) rfl (Nat.le_of_ble_eq_true rfl) ?_
  have no : gd_rng x 0 7 = false → pj_V E B l Y_X5_isNumber 1 0 0 14 [some (.int x)] [] h n 0 0 (pj_is (some (.int (gd_b (gd_rng x 0 7)))) h n) := by
    intro hn
    rw [hn]
    refine pj_iconst (q := 15) (v := nI 0) (pj_d p_X5_isNumber 7 rfl) rfl (by decide) ?_
    refine pj_zret rfl (by first | rfl | decide | (split <;> rfl)) (pj_d p_X5_isNumber 8 rfl) (by decide) (by decide) ?_
    exact ⟨rfl, rfl, rfl⟩
  refine pj_ild0 (q := 1) (pj_d p_X5_isNumber 0 rfl) rfl ?_
  refine pj_if_lt (t := 14) (q := 4) (pj_d p_X5_isNumber 1 rfl) rfl (by decide) (fun c1 => ?_) (fun c1 => ?_)
  · exact no (gd_rng_lo (by decide) c1)
  refine pj_ild0 (q := 5) (pj_d p_X5_isNumber 2 rfl) rfl ?_
  refine pj_bipush (q := 7) (v := nI 8) (pj_d p_X5_isNumber 3 rfl) rfl (by decide) ?_
  refine pj_icmp_ge (t := 14) (q := 10) (pj_d p_X5_isNumber 4 rfl) rfl (by decide) (fun c2 => ?_) (fun c2 => ?_)
  · exact no (gd_rng_ge (by decide) (hi := 7) c2)
  · rw [show gd_rng x 0 7 = true from gd_rng_in' (by decide) (hi := 7) c1 c2]
    refine pj_iconst (q := 11) (v := nI 1) (pj_d p_X5_isNumber 5 rfl) rfl (by decide) ?_
    refine pj_goto (t := 15) (pj_d p_X5_isNumber 6 rfl) (by decide) ?_
    refine pj_zret rfl (by first | rfl | decide | (split <;> rfl)) (pj_d p_X5_isNumber 8 rfl) (by decide) (by decide) ?_
    exact ⟨rfl, rfl, rfl⟩
theorem c_X5_isThere (hR : gd_RX h b ln mn it) (r : Int32) : pj_Ct E B l Y_X5_isThere 2 0 0 [.ref (b + 1), .int r] h n (pj_is (some (.int (gd_b (gd_th ln r)))) h n) := by
  obtain ⟨R0, -, -, ⟨f, R4, g4⟩, -⟩ := hR
  refine pj_in rfl (ls := [some (.ref (b + 1)), some (.int (r))]) rfl (Nat.le_of_ble_eq_true rfl) ?_
  have no : gd_th ln r = false → pj_V E B l Y_X5_isThere 2 0 0 21 [some (.ref (b + 1)), some (.int (r))] [] h n 0 0 (pj_is (some (.int (gd_b (gd_th ln r)))) h n) := by
    intro hn
    rw [hn]
    refine pj_iconst (q := 22) (v := nI 0) (pj_d p_X5_isThere 11 rfl) rfl (by decide) ?_
    refine pj_zret rfl (by first | rfl | decide | (split <;> rfl)) (pj_d p_X5_isThere 12 rfl) (by decide) (by decide) ?_
    exact ⟨rfl, rfl, rfl⟩
  refine pj_ild1 (q := 1) (pj_d p_X5_isThere 0 rfl) rfl ?_
  refine pj_cp (pj_rS (q := 4) (c_X5_isNumber r) (pj_d p_X5_isThere 1 rfl) rfl kX5_27 o_X5_isNumber (by rfl) (by rfl) (Nat.le_of_ble_eq_true rfl) (by decide)) (by decide) (by decide) ?_
  refine pj_if_eq (t := 21) (q := 7) (pj_d p_X5_isThere 2 rfl) rfl (by decide) (fun c1 => ?_) (fun c1 => ?_)
  · exact no (by rw [gd_th, (gd_b_z _).mp c1]; rfl)
  have e := (gd_b_n _).mp c1
  obtain ⟨j, hj, rfl, hc⟩ := gd_rng_of (hi := 7) e
  refine pj_ald0 (q := 8) (pj_d p_X5_isThere 3 rfl) rfl ?_
  refine pj_gf (q := 11) (k := 1) (pj_d p_X5_isThere 4 rfl) rfl kX5_14 (by assumption) (by rfl) (by rfl) ?_
  refine pj_ild1 (q := 12) (pj_d p_X5_isThere 5 rfl) rfl ?_
  refine pj_ialdN (q := 13) (pj_d p_X5_isThere 6 rfl) rfl (by assumption) (by rfl) (by first | assumption | omega) (Nat.le_of_ble_eq_true rfl) ?_
  rw [g4 j (by omega)]
  refine pj_iconst (q := 14) (v := (-1)) (pj_d p_X5_isThere 7 rfl) rfl (by decide) ?_
  refine pj_icmp_eq (t := 21) (q := 17) (pj_d p_X5_isThere 8 rfl) rfl (by decide) (fun c2 => ?_) (fun c2 => ?_)
  · exact no (by rw [gd_th, hc, decide_eq_true c2]; simp)
  · rw [show gd_th ln (nI j) = true by rw [gd_th, e, hc, decide_eq_false c2]; rfl]
    refine pj_iconst (q := 18) (v := nI 1) (pj_d p_X5_isThere 9 rfl) rfl (by decide) ?_
    refine pj_goto (t := 22) (pj_d p_X5_isThere 10 rfl) (by decide) ?_
    refine pj_zret rfl (by first | rfl | decide | (split <;> rfl)) (pj_d p_X5_isThere 12 rfl) (by decide) (by decide) ?_
    exact ⟨rfl, rfl, rfl⟩
theorem c_X5_haveOneLane (hR : gd_RX h b ln mn it) {x y : Int32} (hx : gd_th ln x = true) (hy : gd_th ln y = true) : pj_Ct E B l Y_X5_haveOneLane 3 0 0 [.ref (b + 1), .int x, .int y] h n (pj_is (some (.int (gd_b (decide (ln x.toNatClampNeg = ln y.toNatClampNeg))))) h n) := by
  have hR' := hR
  obtain ⟨R0, -, -, ⟨f, R4, g4⟩, -⟩ := hR
  obtain ⟨i, hi, rfl, hic, -⟩ := gd_th_of hx
  obtain ⟨j, hj, rfl, hjc, -⟩ := gd_th_of hy
  rw [hic, hjc]
  refine pj_in rfl (ls := [some (.ref (b + 1)), some (.int (nI i)), some (.int (nI j))]) rfl (Nat.le_of_ble_eq_true rfl) ?_
  refine pj_ald0 (q := 1) (pj_d p_X5_haveOneLane 0 rfl) rfl ?_
  refine pj_ild1 (q := 2) (pj_d p_X5_haveOneLane 1 rfl) rfl ?_
  refine pj_cp (pj_rV (q := 5) (c_X5_isThere hR' (nI i)) (pj_d p_X5_haveOneLane 2 rfl) rfl kX5_31 o_X5_isThere (by assumption) (by rfl) (by rfl) (by rfl) (by rfl) (Nat.le_of_ble_eq_true rfl) (by decide)) (by decide) (by decide) ?_
  rw [hx]
  refine pj_if_eq (t := 35) (q := 8) (pj_d p_X5_haveOneLane 3 rfl) rfl (by decide) (fun c1 => ?_) (fun c1 => ?_)
  · exact absurd c1 (by decide)
  refine pj_ald0 (q := 9) (pj_d p_X5_haveOneLane 4 rfl) rfl ?_
  refine pj_ild2 (q := 10) (pj_d p_X5_haveOneLane 5 rfl) rfl ?_
  refine pj_cp (pj_rV (q := 13) (c_X5_isThere hR' (nI j)) (pj_d p_X5_haveOneLane 6 rfl) rfl kX5_31 o_X5_isThere (by assumption) (by rfl) (by rfl) (by rfl) (by rfl) (Nat.le_of_ble_eq_true rfl) (by decide)) (by decide) (by decide) ?_
  rw [hy]
  refine pj_if_eq (t := 35) (q := 16) (pj_d p_X5_haveOneLane 7 rfl) rfl (by decide) (fun c2 => ?_) (fun c2 => ?_)
  · exact absurd c2 (by decide)
  refine pj_ald0 (q := 17) (pj_d p_X5_haveOneLane 8 rfl) rfl ?_
  refine pj_gf (q := 20) (k := 1) (pj_d p_X5_haveOneLane 9 rfl) rfl kX5_14 (by assumption) (by rfl) (by rfl) ?_
  refine pj_ild1 (q := 21) (pj_d p_X5_haveOneLane 10 rfl) rfl ?_
  refine pj_ialdN (q := 22) (pj_d p_X5_haveOneLane 11 rfl) rfl (by assumption) (by rfl) (by first | assumption | omega) (Nat.le_of_ble_eq_true rfl) ?_
  rw [g4 i hi]
  refine pj_ald0 (q := 23) (pj_d p_X5_haveOneLane 12 rfl) rfl ?_
  refine pj_gf (q := 26) (k := 1) (pj_d p_X5_haveOneLane 13 rfl) rfl kX5_14 (by assumption) (by rfl) (by rfl) ?_
  refine pj_ild2 (q := 27) (pj_d p_X5_haveOneLane 14 rfl) rfl ?_
  refine pj_ialdN (q := 28) (pj_d p_X5_haveOneLane 15 rfl) rfl (by assumption) (by rfl) (by first | assumption | omega) (Nat.le_of_ble_eq_true rfl) ?_
  rw [g4 j hj]
  refine pj_icmp_ne (t := 35) (q := 31) (pj_d p_X5_haveOneLane 16 rfl) rfl (by decide) (fun c3 => ?_) (fun c3 => ?_)
  · rw [decide_eq_false c3]
    refine pj_iconst (q := 36) (v := nI 0) (pj_d p_X5_haveOneLane 19 rfl) rfl (by decide) ?_
    refine pj_zret rfl (by first | rfl | decide | (split <;> rfl)) (pj_d p_X5_haveOneLane 20 rfl) (by decide) (by decide) ?_
    exact ⟨rfl, rfl, rfl⟩
  · rw [decide_eq_true c3]
    refine pj_iconst (q := 32) (v := nI 1) (pj_d p_X5_haveOneLane 17 rfl) rfl (by decide) ?_
    refine pj_goto (t := 36) (pj_d p_X5_haveOneLane 18 rfl) (by decide) ?_
    refine pj_zret rfl (by first | rfl | decide | (split <;> rfl)) (pj_d p_X5_haveOneLane 20 rfl) (by decide) (by decide) ?_
    exact ⟨rfl, rfl, rfl⟩
theorem c_X5_hasPlaces (hR : gd_RX h b ln mn it) (hB : gd_RB ln mn) (r i c : Int32) : pj_Ct E B l Y_X5_hasPlaces 3 0 0 [.ref (b + 1), .int r, .int i, .int c] h n (pj_is (some (.int (gd_b (gd_hp ln mn r i c)))) h n) := by
  have hR' := hR
  obtain ⟨R0, -, -, -, ⟨f, R5, g5⟩⟩ := hR
  refine pj_in rfl (ls := [some (.ref (b + 1)), some (.int (r)), some (.int (i)), some (.int (c))]) rfl (Nat.le_of_ble_eq_true rfl) ?_
  have no : gd_hp ln mn r i c = false → pj_V E B l Y_X5_hasPlaces 3 0 0 32 [some (.ref (b + 1)), some (.int (r)), some (.int (i)), some (.int (c))] [] h n 0 0 (pj_is (some (.int (gd_b (gd_hp ln mn r i c)))) h n) := by
    intro hn
    rw [hn]
    refine pj_iconst (q := 33) (v := nI 0) (pj_d p_X5_hasPlaces 18 rfl) rfl (by decide) ?_
    refine pj_zret rfl (by first | rfl | decide | (split <;> rfl)) (pj_d p_X5_hasPlaces 19 rfl) (by decide) (by decide) ?_
    exact ⟨rfl, rfl, rfl⟩
  have z0 : (0 : Int32).toInt = 0 := by decide
  refine pj_ald0 (q := 1) (pj_d p_X5_hasPlaces 0 rfl) rfl ?_
  refine pj_ild1 (q := 2) (pj_d p_X5_hasPlaces 1 rfl) rfl ?_
  refine pj_cp (pj_rV (q := 5) (c_X5_isThere hR' r) (pj_d p_X5_hasPlaces 2 rfl) rfl kX5_31 o_X5_isThere (by assumption) (by rfl) (by rfl) (by rfl) (by rfl) (Nat.le_of_ble_eq_true rfl) (by decide)) (by decide) (by decide) ?_
  refine pj_if_eq (t := 32) (q := 8) (pj_d p_X5_hasPlaces 3 rfl) rfl (by decide) (fun c1 => ?_) (fun c1 => ?_)
  · exact no (by rw [gd_hp, (gd_b_z _).mp c1]; rfl)
  have e := (gd_b_n _).mp c1
  obtain ⟨j, hj, rfl, hc, -⟩ := gd_th_of e
  have hm := (hB j hj).2
  refine pj_ild2 (q := 9) (pj_d p_X5_hasPlaces 4 rfl) rfl ?_
  refine pj_if_lt (t := 32) (q := 12) (pj_d p_X5_hasPlaces 5 rfl) rfl (by decide) (fun c2 => ?_) (fun c2 => ?_)
  · rw [Int32.lt_iff_toInt_lt, z0] at c2
    exact no (by rw [gd_hp, decide_eq_false (by omega)]; simp)
  rw [Int32.lt_iff_toInt_lt, z0] at c2
  refine pj_ild3 (q := 13) (pj_d p_X5_hasPlaces 6 rfl) rfl ?_
  refine pj_if_lt (t := 32) (q := 16) (pj_d p_X5_hasPlaces 7 rfl) rfl (by decide) (fun c3 => ?_) (fun c3 => ?_)
  · rw [Int32.lt_iff_toInt_lt, z0] at c3
    exact no (by rw [gd_hp, decide_eq_false (by omega)]; simp)
  rw [Int32.lt_iff_toInt_lt, z0] at c3
  refine pj_ild2 (q := 17) (pj_d p_X5_hasPlaces 8 rfl) rfl ?_
  refine pj_ald0 (q := 18) (pj_d p_X5_hasPlaces 9 rfl) rfl ?_
  refine pj_gf (q := 21) (k := 2) (pj_d p_X5_hasPlaces 10 rfl) rfl kX5_18 (by assumption) (by rfl) (by rfl) ?_
  refine pj_ild1 (q := 22) (pj_d p_X5_hasPlaces 11 rfl) rfl ?_
  refine pj_ialdN (q := 23) (pj_d p_X5_hasPlaces 12 rfl) rfl (by assumption) (by rfl) (by first | assumption | omega) (Nat.le_of_ble_eq_true rfl) ?_
  rw [g5 j hj]
  refine pj_ild3 (q := 24) (pj_d p_X5_hasPlaces 13 rfl) rfl ?_
  refine pj_isub (q := 25) (pj_d p_X5_hasPlaces 14 rfl) rfl ?_
  have hmi : (nI (mn j)).toInt = (mn j : Int) := nI_toInt (by omega)
  have rc := fb_rng' c
  have es : (nI (mn j) - c).toInt = (mn j : Int) - c.toInt := by
    rw [Int32.toInt_sub, hmi]
    exact fb_bmod' (by omega) (by omega)
  refine pj_icmp_gt (t := 32) (q := 28) (pj_d p_X5_hasPlaces 15 rfl) rfl (by decide) (fun c4 => ?_) (fun c4 => ?_)
  · rw [Int32.lt_iff_toInt_lt, es] at c4
    exact no (by rw [gd_hp, hc, decide_eq_false (by omega)]; simp)
  · rw [Int32.lt_iff_toInt_lt, es] at c4
    rw [show gd_hp ln mn (nI j) i c = true by rw [gd_hp, e, hc, decide_eq_true (by omega)]; rfl]
    refine pj_iconst (q := 29) (v := nI 1) (pj_d p_X5_hasPlaces 16 rfl) rfl (by decide) ?_
    refine pj_goto (t := 33) (pj_d p_X5_hasPlaces 17 rfl) (by decide) ?_
    refine pj_zret rfl (by first | rfl | decide | (split <;> rfl)) (pj_d p_X5_hasPlaces 19 rfl) (by decide) (by decide) ?_
    exact ⟨rfl, rfl, rfl⟩
end
