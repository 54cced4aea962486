/-! ===== the model: harm, likeness; its calls that only read ===== -/
theorem gd_lt {a b : Nat} (c : ¬ nI b ≤ nI a) (ha : a < 2 ^ 31) : a < b := by
  rcases Nat.lt_or_ge a b with q | q
  · exact q
  · exact absurd (nI_le q ha) c
theorem gd_ge {a b : Nat} (c : nI b ≤ nI a) (ha : a < 2 ^ 31) (hb : b < 2 ^ 31) : b ≤ a := (nI_leI hb ha).mp c
theorem gd_rng_of {x : Int32} {hi : Nat} (h : gd_rng x 0 hi = true) : ∃ j, j ≤ hi ∧ x = nI j ∧ x.toNatClampNeg = j := by
  rw [gd_rng, decide_eq_true_eq] at h
  have h0 : ¬ x < 0 := by rw [Int32.lt_iff_toInt_lt]; simp; omega
  obtain ⟨j, hj, rfl⟩ := nI_of h0
  rw [nI_toInt hj] at h
  exact ⟨j, by omega, rfl, nI_clamp hj⟩
theorem gd_rng_of1 {x : Int32} {hi : Nat} (h : gd_rng x 1 hi = true) : ∃ j, 1 ≤ j ∧ j ≤ hi ∧ x = nI j ∧ x.toNatClampNeg = j := by
  rw [gd_rng, decide_eq_true_eq] at h
  have h0 : ¬ x < 0 := by rw [Int32.lt_iff_toInt_lt]; simp; omega
  obtain ⟨j, hj, rfl⟩ := nI_of h0
  rw [nI_toInt hj] at h
  exact ⟨j, by omega, by omega, rfl, nI_clamp hj⟩
theorem gd_has_of {τ : Nat → Nat} {x : Int32} (hW : τ 1 ≤ 7) (h : gd_has τ x = true) : ∃ j, j < τ 1 ∧ x = nI j ∧ x.toNatClampNeg = j := by
  obtain ⟨j, hj, rfl⟩ := (gd_has_iff hW).mp h
  exact ⟨j, hj, rfl, nI_clamp (by omega)⟩
theorem gd_sw (x : Int32) (N : Nat) (hN : N < 1000) : (∃ j, j ≤ N ∧ x = nI j ∧ x.toInt = (j : Int)) ∨ (x.toInt < 0 ∨ (N : Int) < x.toInt) := by
  by_cases h : 0 ≤ x.toInt ∧ x.toInt ≤ N
  · obtain ⟨j, h1, h2, -⟩ := gd_rng_of (x := x) (hi := N) (by rw [gd_rng, decide_eq_true_eq]; exact h)
    refine Or.inl ⟨j, h1, h2, ?_⟩
    rw [h2, nI_toInt (by omega)]
  · right; omega
def gd_looks (τ : Nat → Nat) (st : Nat) : Nat := gd_sm (fun i => if gd_like τ i st % 2 ^ i = 0 then 1 else 0) (τ 1)
theorem gd_andm : ∀ i, i < 7 → ∀ x, x < 128 → nI x &&& (nI (2 ^ i) - nI 1) = nI (x % 2 ^ i) := by decide +kernel
def sp_missing (τ : Nat → Nat) (w : Int32) : Int32 := if τ 0 = 1 then (if gd_rng w 0 6 then nI (τ (4 + w.toNatClampNeg)) else -1000001) else -1000002
def sp_look (τ : Nat → Nat) (t st : Int32) : Int32 := if gd_has τ t && gd_rng st 0 31 then nI (gd_lk τ t.toNatClampNeg st.toNatClampNeg) else -1000001
def sp_two (τ : Nat → Nat) (a b : Int32) : Bool := gd_has τ a && gd_has τ b && !decide (a = b)
def sp_alike (τ : Nat → Nat) (a b d : Int32) : Int32 := if sp_two τ a b && gd_rng d 0 100 then gd_b (decide (gd_lk τ a.toNatClampNeg (gd_miss τ d.toNatClampNeg) = gd_lk τ b.toNatClampNeg (gd_miss τ d.toNatClampNeg))) else -1000001
def sp_like (τ : Nat → Nat) (t d : Int32) : Int32 := if gd_has τ t && gd_rng d 0 100 then nI (gd_like τ t.toNatClampNeg (gd_miss τ d.toNatClampNeg)) else -1000001
def sp_looks (τ : Nat → Nat) (d : Int32) : Int32 := if τ 0 = 1 then (if gd_rng d 0 100 then nI (gd_looks τ (gd_miss τ d.toNatClampNeg)) else -1000001) else -1000002
def sp_harm (τ : Nat → Nat) (d : Int32) : Int32 := if τ 0 = 1 then (if gd_rng d 0 100 then nI (gd_harm τ (gd_miss τ d.toNatClampNeg)) else -1000001) else -1000002
def sp_harms (τ : Nat → Nat) (m : Int32) : Int32 := if τ 0 = 1 then (if gd_rng m 1 100 then nI (gd_harms τ m.toNatClampNeg) else -1000001) else -1000002
def sp_kind (τ : Nat → Nat) (t : Int32) : Int32 := if gd_has τ t then nI (τ (11 + 3 * t.toNatClampNeg)) else -1000001
def sp_pair (τ : Nat → Nat) (a b : Int32) : Int32 := if sp_two τ a b then nI (gd_pair τ a.toNatClampNeg b.toNatClampNeg) else -1000001
def sp_thing (τ : Nat → Nat) (t w : Int32) : Int32 := if gd_has τ t then (if w.toInt = 0 then nI (τ (12 + 3 * t.toNatClampNeg)) else if w.toInt = 1 then nI (τ (13 + 3 * t.toNatClampNeg)) else if w.toInt = 2 then nI (gd_lk τ t.toNatClampNeg (gd_miss τ 0)) else if w.toInt = 3 then nI (gd_with τ t.toNatClampNeg) else -1000001) else -1000001
section
variable {E : pj_E} {B : Nat} {l : Launch} {h : pj_H} {n g : Nat} {τ : Nat → Nat} {v : Nat → Int32}
theorem c_X12_missingOn (hM : h g = some (.inr (11, gd_Mo g v))) (hT : h (g + 4) = some (.inl (0, 56, .inl (fun j => nI (τ j))))) (hW : gd_W τ) {d : Nat} (hd : d ≤ 1000) : pj_Ct E B l Y_X12_missingOn 2 0 0 [.ref g, .int (nI d)] h n (pj_is (some (.int (nI (gd_miss τ d)))) h n) := by
  have h3 := hW.2.2.1
  refine pj_in rfl (ls := [some (.ref g), some (.int (nI d))]) rfl (Nat.le_of_ble_eq_true rfl) ?_
  refine pj_ald0 (q := 1) (pj_d p_X12_missingOn 0 rfl) rfl ?_
  refine pj_gf (q := 4) (k := 5) (pj_d p_X12_missingOn 1 rfl) rfl kX12_19 (by assumption) (by rfl) (by rfl) ?_
  refine pj_iconst (q := 5) (v := nI 4) (pj_d p_X12_missingOn 2 rfl) rfl (by decide) ?_
  refine pj_ald0 (q := 6) (pj_d p_X12_missingOn 3 rfl) rfl ?_
  refine pj_gf (q := 9) (k := 5) (pj_d p_X12_missingOn 4 rfl) rfl kX12_19 (by assumption) (by rfl) (by rfl) ?_
  refine pj_iconst (q := 10) (v := nI 3) (pj_d p_X12_missingOn 5 rfl) rfl (by decide) ?_
  refine pj_ialdN (q := 11) (pj_d p_X12_missingOn 6 rfl) rfl (by assumption) (by rfl) (by first | assumption | omega) (Nat.le_of_ble_eq_true rfl) ?_
  refine pj_ild1 (q := 12) (pj_d p_X12_missingOn 7 rfl) rfl ?_
  refine pj_iadd (q := 13) (pj_d p_X12_missingOn 8 rfl) rfl ?_
  refine pj_bipush (q := 15) (v := nI 7) (pj_d p_X12_missingOn 9 rfl) rfl (by decide) ?_
  refine pj_irem (q := 16) (pj_d p_X12_missingOn 10 rfl) rfl (by decide) ?_
  rw [nI_add, gd_rem7 (by omega)]
  refine pj_iadd (q := 17) (pj_d p_X12_missingOn 11 rfl) rfl ?_
  rw [nI_add]
  have hm := Nat.mod_lt (τ 3 + d) (show 0 < 7 by omega)
  refine pj_ialdN (q := 18) (pj_d p_X12_missingOn 12 rfl) rfl (by assumption) (by rfl) (by first | assumption | omega) (Nat.le_of_ble_eq_true rfl) ?_
  refine pj_cp (pj_rS (q := 21) (c_X12_setOf _ (hW.2.2.2.1 _ hm)) (pj_d p_X12_missingOn 13 rfl) rfl kX12_164 o_X12_setOf (by rfl) (by rfl) (Nat.le_of_ble_eq_true rfl) (by decide)) (by decide) (by decide) ?_
  refine pj_iret rfl (pj_d p_X12_missingOn 14 rfl) (by decide) (by decide) ?_
  exact ⟨rfl, rfl, rfl⟩
theorem c_X12_harmBy (hM : h g = some (.inr (11, gd_Mo g v))) (hT : h (g + 4) = some (.inl (0, 56, .inl (fun j => nI (τ j))))) (hW : gd_W τ) {st : Nat} (hs : st < 32) : pj_Ct E B l Y_X12_harmBy 3 0 0 [.ref g, .int (nI st)] h n (pj_is (some (.int (nI (gd_harm τ st)))) h n) := by
  have h8 := hW.2.1
  refine pj_in rfl (ls := [some (.ref g), some (.int (nI st)), none, none, none, none]) rfl (Nat.le_of_ble_eq_true rfl) ?_
  refine pj_iconst (q := 1) (v := nI 0) (pj_d p_X12_harmBy 0 rfl) rfl (by decide) ?_
  refine pj_ist2 (q := 2) (pj_d p_X12_harmBy 1 rfl) rfl (by first | rfl | assumption) ?_
  refine pj_iconst (q := 3) (v := nI 0) (pj_d p_X12_harmBy 2 rfl) rfl (by decide) ?_
  refine pj_ist3 (q := 4) (pj_d p_X12_harmBy 3 rfl) rfl (by first | rfl | assumption) ?_
  have loop : ∀ m i o4 o5, pj_c1 o4 = true → pj_c1 o5 = true → τ 2 - i < m → i ≤ τ 2 → pj_V E B l Y_X12_harmBy 3 0 0 4 [some (.ref g), some (.int (nI st)), some (.int (nI (gd_sm (gd_hf τ st) i))), some (.int (nI i)), o4, o5] [] h n 0 0 (pj_is (some (.int (nI (gd_harm τ st)))) h n) := by
    intro m
    induction m with
    | zero => intro i o4 o5 _ _ hi; omega
    | succ m ih =>
      intro i o4 o5 k4 k5 hi hle
      refine pj_ild3 (q := 5) (pj_d p_X12_harmBy 4 rfl) rfl ?_
      refine pj_ald0 (q := 6) (pj_d p_X12_harmBy 5 rfl) rfl ?_
      refine pj_gf (q := 9) (k := 5) (pj_d p_X12_harmBy 6 rfl) rfl kX12_19 (by assumption) (by rfl) (by rfl) ?_
      refine pj_iconst (q := 10) (v := nI 2) (pj_d p_X12_harmBy 7 rfl) rfl (by decide) ?_
      refine pj_ialdN (q := 11) (pj_d p_X12_harmBy 8 rfl) rfl (by assumption) (by rfl) (by first | assumption | omega) (Nat.le_of_ble_eq_true rfl) ?_
      refine pj_icmp_ge (t := 85) (q := 14) (pj_d p_X12_harmBy 9 rfl) rfl (by decide) (fun c1 => ?_) (fun c1 => ?_)
      · have he : i = τ 2 := by have := gd_ge c1 (by omega) (by omega); omega
        subst he
        refine pj_ild2 (q := 86) (pj_d p_X12_harmBy 56 rfl) rfl ?_
        refine pj_iret rfl (pj_d p_X12_harmBy 57 rfl) (by decide) (by decide) ?_
        exact ⟨rfl, rfl, rfl⟩
      · have hlt : i < τ 2 := gd_lt c1 (by omega)
        obtain ⟨g1, g2, -⟩ := hW.2.2.2.2.2.1 i hlt
        refine pj_ald0 (q := 15) (pj_d p_X12_harmBy 10 rfl) rfl ?_
        refine pj_gf (q := 18) (k := 5) (pj_d p_X12_harmBy 11 rfl) rfl kX12_19 (by assumption) (by rfl) (by rfl) ?_
        refine pj_bipush (q := 20) (v := nI 32) (pj_d p_X12_harmBy 12 rfl) rfl (by decide) ?_
        refine pj_iconst (q := 21) (v := nI 3) (pj_d p_X12_harmBy 13 rfl) rfl (by decide) ?_
        refine pj_ild3 (q := 22) (pj_d p_X12_harmBy 14 rfl) rfl ?_
        refine pj_imul (q := 23) (pj_d p_X12_harmBy 15 rfl) rfl ?_
        refine pj_iadd (q := 24) (pj_d p_X12_harmBy 16 rfl) rfl ?_
        rw [pk_mul, nI_add]
        refine pj_ialdN (q := 25) (pj_d p_X12_harmBy 17 rfl) rfl (by assumption) (by rfl) (by first | assumption | omega) (Nat.le_of_ble_eq_true rfl) ?_
        refine pj_ist4 (q := 27) (pj_d p_X12_harmBy 18 rfl) rfl (by first | rfl | assumption) ?_
        refine pj_ald0 (q := 28) (pj_d p_X12_harmBy 19 rfl) rfl ?_
        refine pj_gf (q := 31) (k := 5) (pj_d p_X12_harmBy 20 rfl) rfl kX12_19 (by assumption) (by rfl) (by rfl) ?_
        refine pj_bipush (q := 33) (v := nI 32) (pj_d p_X12_harmBy 21 rfl) rfl (by decide) ?_
        refine pj_iconst (q := 34) (v := nI 3) (pj_d p_X12_harmBy 22 rfl) rfl (by decide) ?_
        refine pj_ild3 (q := 35) (pj_d p_X12_harmBy 23 rfl) rfl ?_
        refine pj_imul (q := 36) (pj_d p_X12_harmBy 24 rfl) rfl ?_
        refine pj_iadd (q := 37) (pj_d p_X12_harmBy 25 rfl) rfl ?_
        refine pj_iconst (q := 38) (v := nI 1) (pj_d p_X12_harmBy 26 rfl) rfl (by decide) ?_
        refine pj_iadd (q := 39) (pj_d p_X12_harmBy 27 rfl) rfl ?_
        rw [pk_mul, nI_add, nI_add]
        refine pj_ialdN (q := 40) (pj_d p_X12_harmBy 28 rfl) rfl (by assumption) (by rfl) (by first | assumption | omega) (Nat.le_of_ble_eq_true rfl) ?_
        rw [show 32 + 3 * i + 1 = 33 + 3 * i by omega]
        refine pj_ist5 (q := 42) (pj_d p_X12_harmBy 29 rfl) rfl (by first | rfl | assumption) ?_
        refine pj_ild2 (q := 43) (pj_d p_X12_harmBy 30 rfl) rfl ?_
        refine pj_ald0 (q := 44) (pj_d p_X12_harmBy 31 rfl) rfl ?_
        refine pj_ild4 (q := 46) (pj_d p_X12_harmBy 32 rfl) rfl ?_
        refine pj_ild1 (q := 47) (pj_d p_X12_harmBy 33 rfl) rfl ?_
        refine pj_cp (pj_rV (q := 50) (c_X12_lookOf hM hT hW g1 hs) (pj_d p_X12_harmBy 34 rfl) rfl kX12_167 o_X12_lookOf (by assumption) (by rfl) (by rfl) (by rfl) (by rfl) (Nat.le_of_ble_eq_true rfl) (by decide)) (by decide) (by decide) ?_
        refine pj_ald0 (q := 51) (pj_d p_X12_harmBy 35 rfl) rfl ?_
        refine pj_ild5 (q := 53) (pj_d p_X12_harmBy 36 rfl) rfl ?_
        refine pj_ild1 (q := 54) (pj_d p_X12_harmBy 37 rfl) rfl ?_
        refine pj_cp (pj_rV (q := 57) (c_X12_lookOf hM hT hW g2 hs) (pj_d p_X12_harmBy 38 rfl) rfl kX12_167 o_X12_lookOf (by assumption) (by rfl) (by rfl) (by rfl) (by rfl) (Nat.le_of_ble_eq_true rfl) (by decide)) (by decide) (by decide) ?_
        have la := gd_lk_lt hW g1 hs
        have lb := gd_lk_lt hW g2 hs
        have go : ∀ x, gd_sm (gd_hf τ st) i + x = gd_sm (gd_hf τ st) (i + 1) → pj_V E B l Y_X12_harmBy 3 0 0 77 [some (.ref g), some (.int (nI st)), some (.int (nI (gd_sm (gd_hf τ st) i))), some (.int (nI i)), some (.int (nI (τ (32 + 3 * i)))), some (.int (nI (τ (33 + 3 * i))))] [.int (nI x), .int (nI (gd_sm (gd_hf τ st) i))] h n 0 0 (pj_is (some (.int (nI (gd_harm τ st)))) h n) := by
          intro x hx
          refine pj_iadd (q := 78) (pj_d p_X12_harmBy 52 rfl) rfl ?_
          rw [nI_add, hx]
          refine pj_ist2 (q := 79) (pj_d p_X12_harmBy 53 rfl) rfl (by first | rfl | assumption) ?_
          refine pj_iinc3 (q := 82) (v := 1) (pj_d p_X12_harmBy 54 rfl) rfl (by first | rfl | assumption) (by decide) ?_
          refine pj_goto (t := 4) (pj_d p_X12_harmBy 55 rfl) (by decide) ?_
          rw [nI_1]
          exact ih (i + 1) _ _ rfl rfl (by omega) (by omega)
        refine pj_icmp_ne (t := 76) (q := 60) (pj_d p_X12_harmBy 39 rfl) rfl (by decide) (fun c2 => ?_) (fun c2 => ?_)
        · have hne : ¬ gd_lk τ (τ (32 + 3 * i)) st = gd_lk τ (τ (33 + 3 * i)) st := fun q => c2 (by rw [q])
          refine pj_iconst (q := 77) (v := nI 0) (pj_d p_X12_harmBy 51 rfl) rfl (by decide) ?_
          exact go 0 (by rw [gd_sm, gd_hf, if_neg hne])
        · have heq := (nI_eq (by omega) (by omega)).mp c2
          refine pj_ald0 (q := 61) (pj_d p_X12_harmBy 40 rfl) rfl ?_
          refine pj_gf (q := 64) (k := 5) (pj_d p_X12_harmBy 41 rfl) rfl kX12_19 (by assumption) (by rfl) (by rfl) ?_
          refine pj_bipush (q := 66) (v := nI 32) (pj_d p_X12_harmBy 42 rfl) rfl (by decide) ?_
          refine pj_iconst (q := 67) (v := nI 3) (pj_d p_X12_harmBy 43 rfl) rfl (by decide) ?_
          refine pj_ild3 (q := 68) (pj_d p_X12_harmBy 44 rfl) rfl ?_
          refine pj_imul (q := 69) (pj_d p_X12_harmBy 45 rfl) rfl ?_
          refine pj_iadd (q := 70) (pj_d p_X12_harmBy 46 rfl) rfl ?_
          refine pj_iconst (q := 71) (v := nI 2) (pj_d p_X12_harmBy 47 rfl) rfl (by decide) ?_
          refine pj_iadd (q := 72) (pj_d p_X12_harmBy 48 rfl) rfl ?_
          rw [pk_mul, nI_add, nI_add]
          refine pj_ialdN (q := 73) (pj_d p_X12_harmBy 49 rfl) rfl (by assumption) (by rfl) (by first | assumption | omega) (Nat.le_of_ble_eq_true rfl) ?_
          rw [show 32 + 3 * i + 2 = 34 + 3 * i by omega]
          refine pj_goto (t := 77) (pj_d p_X12_harmBy 50 rfl) (by decide) ?_
          exact go _ (by rw [gd_sm, gd_hf, if_pos heq])
  exact loop (τ 2 + 1) 0 _ _ rfl rfl (by omega) (by omega)
theorem c_X12_harmsOf (hM : h g = some (.inr (11, gd_Mo g v))) (hT : h (g + 4) = some (.inl (0, 56, .inl (fun j => nI (τ j))))) (hW : gd_W τ) {c : Nat} (hc : c ≤ 1000) : pj_Ct E B l Y_X12_harmsOf 4 0 0 [.ref g, .int (nI c)] h n (pj_is (some (.int (nI (gd_harms τ c)))) h n) := by
  refine pj_in rfl (ls := [some (.ref g), some (.int (nI c)), none, none]) rfl (Nat.le_of_ble_eq_true rfl) ?_
  refine pj_iconst (q := 1) (v := nI 0) (pj_d p_X12_harmsOf 0 rfl) rfl (by decide) ?_
  refine pj_ist2 (q := 2) (pj_d p_X12_harmsOf 1 rfl) rfl (by first | rfl | assumption) ?_
  refine pj_iconst (q := 3) (v := nI 0) (pj_d p_X12_harmsOf 2 rfl) rfl (by decide) ?_
  refine pj_ist3 (q := 4) (pj_d p_X12_harmsOf 3 rfl) rfl (by first | rfl | assumption) ?_
  have loop : ∀ m i, c - i < m → i ≤ c → pj_V E B l Y_X12_harmsOf 4 0 0 4 [some (.ref g), some (.int (nI c)), some (.int (nI (gd_harms τ i))), some (.int (nI i))] [] h n 0 0 (pj_is (some (.int (nI (gd_harms τ c)))) h n) := by
    intro m
    induction m with
    | zero => intro i hi; omega
    | succ m ih =>
      intro i hi hle
      refine pj_ild3 (q := 5) (pj_d p_X12_harmsOf 4 rfl) rfl ?_
      refine pj_ild1 (q := 6) (pj_d p_X12_harmsOf 5 rfl) rfl ?_
      refine pj_icmp_ge (t := 27) (q := 9) (pj_d p_X12_harmsOf 6 rfl) rfl (by decide) (fun c1 => ?_) (fun c1 => ?_)
      · have he : i = c := by have := gd_ge c1 (by omega) (by omega); omega
        subst he
        refine pj_ild2 (q := 28) (pj_d p_X12_harmsOf 17 rfl) rfl ?_
        refine pj_iret rfl (pj_d p_X12_harmsOf 18 rfl) (by decide) (by decide) ?_
        exact ⟨rfl, rfl, rfl⟩
      · have hlt : i < c := gd_lt c1 (by omega)
        refine pj_ild2 (q := 10) (pj_d p_X12_harmsOf 7 rfl) rfl ?_
        refine pj_ald0 (q := 11) (pj_d p_X12_harmsOf 8 rfl) rfl ?_
        refine pj_ald0 (q := 12) (pj_d p_X12_harmsOf 9 rfl) rfl ?_
        refine pj_ild3 (q := 13) (pj_d p_X12_harmsOf 10 rfl) rfl ?_
        refine pj_cp (pj_rV (q := 16) (c_X12_missingOn hM hT hW (d := i) (by omega)) (pj_d p_X12_harmsOf 11 rfl) rfl kX12_170 o_X12_missingOn (by assumption) (by rfl) (by rfl) (by rfl) (by rfl) (Nat.le_of_ble_eq_true rfl) (by decide)) (by decide) (by decide) ?_
        refine pj_cp (pj_rV (q := 19) (c_X12_harmBy hM hT hW (gd_miss_lt hW i)) (pj_d p_X12_harmsOf 12 rfl) rfl kX12_173 o_X12_harmBy (by assumption) (by rfl) (by rfl) (by rfl) (by rfl) (Nat.le_of_ble_eq_true rfl) (by decide)) (by decide) (by decide) ?_
        refine pj_iadd (q := 20) (pj_d p_X12_harmsOf 13 rfl) rfl ?_
        rw [nI_add]
        refine pj_ist2 (q := 21) (pj_d p_X12_harmsOf 14 rfl) rfl (by first | rfl | assumption) ?_
        refine pj_iinc3 (q := 24) (v := 1) (pj_d p_X12_harmsOf 15 rfl) rfl (by first | rfl | assumption) (by decide) ?_
        refine pj_goto (t := 4) (pj_d p_X12_harmsOf 16 rfl) (by decide) ?_
        rw [nI_1]
        exact ih (i + 1) (by omega) (by omega)
  exact loop (c + 1) 0 (by omega) (by omega)
theorem c_X12_likeBy (hM : h g = some (.inr (11, gd_Mo g v))) (hT : h (g + 4) = some (.inl (0, 56, .inl (fun j => nI (τ j))))) (hW : gd_W τ) {t st : Nat} (ht : t < τ 1) (hs : st < 32) : pj_Ct E B l Y_X12_likeBy 3 0 0 [.ref g, .int (nI t), .int (nI st)] h n (pj_is (some (.int (nI (gd_like τ t st)))) h n) := by
  have h7 := hW.1
  refine pj_in rfl (ls := [some (.ref g), some (.int (nI t)), some (.int (nI st)), none, none]) rfl (Nat.le_of_ble_eq_true rfl) ?_
  refine pj_iconst (q := 1) (v := nI 0) (pj_d p_X12_likeBy 0 rfl) rfl (by decide) ?_
  refine pj_ist3 (q := 2) (pj_d p_X12_likeBy 1 rfl) rfl (by first | rfl | assumption) ?_
  refine pj_iconst (q := 3) (v := nI 0) (pj_d p_X12_likeBy 2 rfl) rfl (by decide) ?_
  refine pj_ist4 (q := 5) (pj_d p_X12_likeBy 3 rfl) rfl (by first | rfl | assumption) ?_
  generalize hf : (fun k => if gd_lk τ k st = gd_lk τ t st then 2 ^ k else 0) = f
  have hg : gd_like τ t st = gd_sm f (τ 1) := by rw [← hf]; rfl
  have hlt2 : ∀ m, gd_sm f m < 2 ^ m := by rw [← hf]; exact gd_like_lt τ t st
  have loop : ∀ m i, τ 1 - i < m → i ≤ τ 1 → pj_V E B l Y_X12_likeBy 3 0 0 5 [some (.ref g), some (.int (nI t)), some (.int (nI st)), some (.int (nI (gd_sm f i))), some (.int (nI i))] [] h n 0 0 (pj_is (some (.int (nI (gd_like τ t st)))) h n) := by
    intro m
    induction m with
    | zero => intro i hi; omega
    | succ m ih =>
      intro i hi hle
      refine pj_ild4 (q := 7) (pj_d p_X12_likeBy 4 rfl) rfl ?_
      refine pj_ald0 (q := 8) (pj_d p_X12_likeBy 5 rfl) rfl ?_
      refine pj_gf (q := 11) (k := 5) (pj_d p_X12_likeBy 6 rfl) rfl kX12_19 (by assumption) (by rfl) (by rfl) ?_
      refine pj_iconst (q := 12) (v := nI 1) (pj_d p_X12_likeBy 7 rfl) rfl (by decide) ?_
      refine pj_ialdN (q := 13) (pj_d p_X12_likeBy 8 rfl) rfl (by assumption) (by rfl) (by first | assumption | omega) (Nat.le_of_ble_eq_true rfl) ?_
      refine pj_icmp_ge (t := 49) (q := 16) (pj_d p_X12_likeBy 9 rfl) rfl (by decide) (fun c1 => ?_) (fun c1 => ?_)
      · have he : i = τ 1 := by have := gd_ge c1 (by omega) (by omega); omega
        subst he
        refine pj_ild3 (q := 50) (pj_d p_X12_likeBy 29 rfl) rfl ?_
        refine pj_iret rfl (pj_d p_X12_likeBy 30 rfl) (by decide) (by decide) ?_
        exact ⟨by rw [hg], rfl, rfl⟩
      · have hlt : i < τ 1 := gd_lt c1 (by omega)
        refine pj_ild3 (q := 17) (pj_d p_X12_likeBy 10 rfl) rfl ?_
        refine pj_ald0 (q := 18) (pj_d p_X12_likeBy 11 rfl) rfl ?_
        refine pj_ild4 (q := 20) (pj_d p_X12_likeBy 12 rfl) rfl ?_
        refine pj_ild2 (q := 21) (pj_d p_X12_likeBy 13 rfl) rfl ?_
        refine pj_cp (pj_rV (q := 24) (c_X12_lookOf hM hT hW hlt hs) (pj_d p_X12_likeBy 14 rfl) rfl kX12_167 o_X12_lookOf (by assumption) (by rfl) (by rfl) (by rfl) (by rfl) (Nat.le_of_ble_eq_true rfl) (by decide)) (by decide) (by decide) ?_
        refine pj_ald0 (q := 25) (pj_d p_X12_likeBy 15 rfl) rfl ?_
        refine pj_ild1 (q := 26) (pj_d p_X12_likeBy 16 rfl) rfl ?_
        refine pj_ild2 (q := 27) (pj_d p_X12_likeBy 17 rfl) rfl ?_
        refine pj_cp (pj_rV (q := 30) (c_X12_lookOf hM hT hW ht hs) (pj_d p_X12_likeBy 18 rfl) rfl kX12_167 o_X12_lookOf (by assumption) (by rfl) (by rfl) (by rfl) (by rfl) (Nat.le_of_ble_eq_true rfl) (by decide)) (by decide) (by decide) ?_
        have la := gd_lk_lt hW hlt hs
        have lb := gd_lk_lt hW ht hs
        have go : ∀ x, nI (gd_sm f i) ||| nI x = nI (gd_sm f (i + 1)) → pj_V E B l Y_X12_likeBy 3 0 0 41 [some (.ref g), some (.int (nI t)), some (.int (nI st)), some (.int (nI (gd_sm f i))), some (.int (nI i))] [.int (nI x), .int (nI (gd_sm f i))] h n 0 0 (pj_is (some (.int (nI (gd_like τ t st)))) h n) := by
          intro x hx
          refine pj_ior (q := 42) (pj_d p_X12_likeBy 25 rfl) rfl ?_
          rw [hx]
          refine pj_ist3 (q := 43) (pj_d p_X12_likeBy 26 rfl) rfl (by first | rfl | assumption) ?_
          refine pj_iinc4 (q := 46) (v := 1) (pj_d p_X12_likeBy 27 rfl) rfl (by first | rfl | assumption) (by decide) ?_
          refine pj_goto (t := 5) (pj_d p_X12_likeBy 28 rfl) (by decide) ?_
          rw [nI_1]
          exact ih (i + 1) (by omega) (by omega)
        refine pj_icmp_ne (t := 40) (q := 33) (pj_d p_X12_likeBy 19 rfl) rfl (by decide) (fun c2 => ?_) (fun c2 => ?_)
        · have hne : ¬ gd_lk τ i st = gd_lk τ t st := fun q => c2 (by rw [q])
          refine pj_iconst (q := 41) (v := nI 0) (pj_d p_X12_likeBy 24 rfl) rfl (by decide) ?_
          exact go 0 (by rw [gd_or0, gd_sm, ← hf]; simp only [if_neg hne]; rfl)
        · have heq := (nI_eq (by omega) (by omega)).mp c2
          refine pj_iconst (q := 34) (v := nI 1) (pj_d p_X12_likeBy 20 rfl) rfl (by decide) ?_
          refine pj_ild4 (q := 36) (pj_d p_X12_likeBy 21 rfl) rfl ?_
          refine pj_ishl (q := 37) (pj_d p_X12_likeBy 22 rfl) rfl ?_
          rw [gd_shl1 i (by omega)]
          refine pj_goto (t := 41) (pj_d p_X12_likeBy 23 rfl) (by decide) ?_
          exact go _ (by rw [gd_or2 i (by omega) _ (hlt2 i), gd_sm, ← hf]; simp only [if_pos heq])
  exact loop (τ 1 + 1) 0 (by omega) (by omega)
theorem c_X12_areAlike (hM : h g = some (.inr (11, gd_Mo g v))) (hT : h (g + 4) = some (.inl (0, 56, .inl (fun j => nI (τ j))))) (hW : gd_W τ) {a b d : Nat} (ha : a < τ 1) (hb : b < τ 1) (hd : d ≤ 1000) : pj_Ct E B l Y_X12_areAlike 3 0 0 [.ref g, .int (nI a), .int (nI b), .int (nI d)] h n (pj_is (some (.int (gd_b (decide (gd_lk τ a (gd_miss τ d) = gd_lk τ b (gd_miss τ d)))))) h n) := by
  have hs := gd_miss_lt hW d
  refine pj_in rfl (ls := [some (.ref g), some (.int (nI a)), some (.int (nI b)), some (.int (nI d))]) rfl (Nat.le_of_ble_eq_true rfl) ?_
  refine pj_ald0 (q := 1) (pj_d p_X12_areAlike 0 rfl) rfl ?_
  refine pj_ild1 (q := 2) (pj_d p_X12_areAlike 1 rfl) rfl ?_
  refine pj_ald0 (q := 3) (pj_d p_X12_areAlike 2 rfl) rfl ?_
  refine pj_ild3 (q := 4) (pj_d p_X12_areAlike 3 rfl) rfl ?_
  refine pj_cp (pj_rV (q := 7) (c_X12_missingOn hM hT hW hd) (pj_d p_X12_areAlike 4 rfl) rfl kX12_170 o_X12_missingOn (by assumption) (by rfl) (by rfl) (by rfl) (by rfl) (Nat.le_of_ble_eq_true rfl) (by decide)) (by decide) (by decide) ?_
  refine pj_cp (pj_rV (q := 10) (c_X12_lookOf hM hT hW ha hs) (pj_d p_X12_areAlike 5 rfl) rfl kX12_167 o_X12_lookOf (by assumption) (by rfl) (by rfl) (by rfl) (by rfl) (Nat.le_of_ble_eq_true rfl) (by decide)) (by decide) (by decide) ?_
  refine pj_ald0 (q := 11) (pj_d p_X12_areAlike 6 rfl) rfl ?_
  refine pj_ild2 (q := 12) (pj_d p_X12_areAlike 7 rfl) rfl ?_
  refine pj_ald0 (q := 13) (pj_d p_X12_areAlike 8 rfl) rfl ?_
  refine pj_ild3 (q := 14) (pj_d p_X12_areAlike 9 rfl) rfl ?_
  refine pj_cp (pj_rV (q := 17) (c_X12_missingOn hM hT hW hd) (pj_d p_X12_areAlike 10 rfl) rfl kX12_170 o_X12_missingOn (by assumption) (by rfl) (by rfl) (by rfl) (by rfl) (Nat.le_of_ble_eq_true rfl) (by decide)) (by decide) (by decide) ?_
  refine pj_cp (pj_rV (q := 20) (c_X12_lookOf hM hT hW hb hs) (pj_d p_X12_areAlike 11 rfl) rfl kX12_167 o_X12_lookOf (by assumption) (by rfl) (by rfl) (by rfl) (by rfl) (Nat.le_of_ble_eq_true rfl) (by decide)) (by decide) (by decide) ?_
  have la := gd_lk_lt hW ha hs
  have lb := gd_lk_lt hW hb hs
  refine pj_icmp_ne (t := 27) (q := 23) (pj_d p_X12_areAlike 12 rfl) rfl (by decide) (fun c2 => ?_) (fun c2 => ?_)
  · have hne : ¬ gd_lk τ a (gd_miss τ d) = gd_lk τ b (gd_miss τ d) := fun q => c2 (by rw [q])
    rw [decide_eq_false hne]
    refine pj_iconst (q := 28) (v := nI 0) (pj_d p_X12_areAlike 15 rfl) rfl (by decide) ?_
    refine pj_zret rfl (by first | rfl | decide | (split <;> rfl)) (pj_d p_X12_areAlike 16 rfl) (by decide) (by decide) ?_
    exact ⟨rfl, rfl, rfl⟩
  · have heq := (nI_eq (by omega) (by omega)).mp c2
    rw [decide_eq_true heq]
    refine pj_iconst (q := 24) (v := nI 1) (pj_d p_X12_areAlike 13 rfl) rfl (by decide) ?_
    refine pj_goto (t := 28) (pj_d p_X12_areAlike 14 rfl) (by decide) ?_
    refine pj_zret rfl (by first | rfl | decide | (split <;> rfl)) (pj_d p_X12_areAlike 16 rfl) (by decide) (by decide) ?_
    exact ⟨rfl, rfl, rfl⟩
end
