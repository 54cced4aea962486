/-! ===== the town: what its cells are; what is read of it ===== -/
def gd_b (b : Bool) : Int32 := if b then nI 1 else nI 0
theorem gd_b_z (b : Bool) : gd_b b = 0 ↔ b = false := by cases b <;> decide
theorem gd_b_n (b : Bool) : ¬ gd_b b = 0 ↔ b = true := by cases b <;> decide
theorem gd_b_nar (b : Bool) : narrow .boolean (.int (gd_b b)) = .int (gd_b b) := by cases b <;> rfl
def gd_sm (f : Nat → Nat) : Nat → Nat
  | 0 => 0
  | i + 1 => gd_sm f i + f i
theorem gd_sm_cong {f g : Nat → Nat} : ∀ {i : Nat}, (∀ j, j < i → f j = g j) → gd_sm f i = gd_sm g i
  | 0, _ => rfl
  | i + 1, h => by rw [gd_sm, gd_sm, gd_sm_cong (fun j hj => h j (by omega)), h i (by omega)]
theorem gd_sm_le {f : Nat → Nat} {c : Nat} : ∀ {i : Nat}, (∀ j, j < i → f j ≤ c) → gd_sm f i ≤ i * c
  | 0, _ => Nat.zero_le _
  | i + 1, h => by
    have h1 := gd_sm_le (i := i) (fun j hj => h j (by omega))
    have h2 := h i (by omega)
    rw [gd_sm, Nat.succ_mul]
    omega
def gd_T (h : pj_H) (k : Nat) (τ : Nat → Nat) (ac : Nat) : Prop :=
  h k = some (.inr (8, [.ref (k + 1), .ref (k + 2), .int (nI (τ 1)), .ref (k + 3), .ref (k + 4), .ref (k + 5), .int (nI (τ 2)), .int (nI (τ 3)), .ref (k + 6), .ref (k + 7), .ref (k + 8), .int (nI ac)])) ∧
  (∃ f, h (k + 1) = some (.inl (0, 7, .inl f)) ∧ ∀ j, j < 7 → f j = nI (τ (4 + j))) ∧
  (∃ f, h (k + 2) = some (.inl (2, 7, .inr (.inr (.inr (.inr f))))) ∧ ∀ i, i < τ 1 → f i = some (k + 9 + i)) ∧
  (∀ i, i < τ 1 → h (k + 9 + i) = some (.inr (gd_tc (τ (11 + 3 * i)), [.int (nI i), .int (nI (τ (13 + 3 * i))), .int (nI (τ (12 + 3 * i)))]))) ∧
  (∃ f, h (k + 3) = some (.inl (0, 8, .inl f)) ∧ ∀ j, j < τ 2 → f j = nI (τ (32 + 3 * j))) ∧
  (∃ f, h (k + 4) = some (.inl (0, 8, .inl f)) ∧ ∀ j, j < τ 2 → f j = nI (τ (33 + 3 * j))) ∧
  (∃ f, h (k + 5) = some (.inl (0, 8, .inl f)) ∧ ∀ j, j < τ 2 → f j = nI (τ (34 + 3 * j)))
/-- what holds of the numbers of a town, told or being told -/
def gd_W (τ : Nat → Nat) : Prop :=
  τ 1 ≤ 7 ∧ τ 2 ≤ 8 ∧ τ 3 ≤ 999 ∧ (∀ j, j < 7 → τ (4 + j) ≤ 5) ∧ (∀ i, i < τ 1 → (1 ≤ τ (11 + 3 * i) ∧ τ (11 + 3 * i) ≤ 5) ∧ τ (12 + 3 * i) < 32 ∧ τ (13 + 3 * i) < 4) ∧
  (∀ j, j < τ 2 → τ (32 + 3 * j) < τ 1 ∧ τ (33 + 3 * j) < τ 1 ∧ τ (32 + 3 * j) ≠ τ (33 + 3 * j) ∧ 1 ≤ τ (34 + 3 * j) ∧ τ (34 + 3 * j) ≤ 20) ∧
  (∀ i j, i < j → j < τ 2 → ¬ (τ (32 + 3 * i) = τ (32 + 3 * j) ∧ τ (33 + 3 * i) = τ (33 + 3 * j)) ∧ ¬ (τ (32 + 3 * i) = τ (33 + 3 * j) ∧ τ (33 + 3 * i) = τ (32 + 3 * j)))
def gd_has (τ : Nat → Nat) (i : Int32) : Bool := decide (0 ≤ i.toInt ∧ i.toInt < (τ 1 : Int))
def gd_lk (τ : Nat → Nat) (i st : Nat) : Nat := gd_look (τ (11 + 3 * i)) (τ (12 + 3 * i)) (τ (13 + 3 * i)) st
def gd_miss (τ : Nat → Nat) (d : Nat) : Nat := gd_setOf (τ (4 + (τ 3 + d) % 7))
def gd_hf (τ : Nat → Nat) (st j : Nat) : Nat := if gd_lk τ (τ (32 + 3 * j)) st = gd_lk τ (τ (33 + 3 * j)) st then τ (34 + 3 * j) else 0
def gd_harm (τ : Nat → Nat) (st : Nat) : Nat := gd_sm (gd_hf τ st) (τ 2)
def gd_of (τ : Nat → Nat) (a j : Nat) : Bool := decide (τ (32 + 3 * j) = a) || decide (τ (33 + 3 * j) = a)
def gd_pairF (τ : Nat → Nat) (a b : Nat) : Nat → Nat → Nat
  | 0, _ => 0
  | m + 1, j => if gd_of τ a j && gd_of τ b j then τ (34 + 3 * j) else gd_pairF τ a b m (j + 1)
def gd_pair (τ : Nat → Nat) (a b : Nat) : Nat := gd_pairF τ a b (τ 2) 0
def gd_with (τ : Nat → Nat) (a : Nat) : Nat := gd_sm (fun j => if gd_of τ a j then τ (34 + 3 * j) else 0) (τ 2)
theorem gd_miss_lt {τ : Nat → Nat} (hW : gd_W τ) (d : Nat) : gd_miss τ d < 32 := gd_setOf_lt _ (hW.2.2.2.1 _ (Nat.mod_lt _ (by omega)))
theorem gd_lk_lt {τ : Nat → Nat} (hW : gd_W τ) {i st : Nat} (hi : i < τ 1) (hs : st < 32) : gd_lk τ i st < 160 := by
  obtain ⟨-, h2, h3⟩ := hW.2.2.2.2.1 i hi
  exact gd_look_lt h2 hs h3
theorem gd_has_iff {τ : Nat → Nat} (hW : τ 1 ≤ 7) {i : Int32} : gd_has τ i = true ↔ ∃ j, j < τ 1 ∧ i = nI j := by
  unfold gd_has
  rw [decide_eq_true_eq]
  constructor
  · rintro ⟨h1, h2⟩
    have h0 : ¬ i < 0 := by rw [Int32.lt_iff_toInt_lt]; simp; omega
    obtain ⟨j, hj, rfl⟩ := nI_of h0
    rw [nI_toInt hj] at h2
    exact ⟨j, by omega, rfl⟩
  · rintro ⟨j, hj, rfl⟩
    rw [nI_toInt (by omega)]
    omega
section
variable {E : pj_E} {B : Nat} {l : Launch} {h : pj_H} {n k ac : Nat} {τ : Nat → Nat}
theorem c_X9_thingCount (hT : gd_T h k τ ac) : pj_Ct E B l Y_X9_thingCount 1 0 0 [.ref k] h n (pj_is (some (.int (nI (τ 1)))) h n) := by
  have h0 := hT.1
  refine pj_in rfl (ls := [some (.ref k)]) rfl (Nat.le_of_ble_eq_true rfl) ?_
  refine pj_ald0 (q := 1) (pj_d p_X9_thingCount 0 rfl) rfl ?_
  refine pj_gf (q := 4) (k := 2) (pj_d p_X9_thingCount 1 rfl) rfl kX9_38 (by assumption) (by rfl) (by rfl) ?_
  refine pj_iret rfl (pj_d p_X9_thingCount 2 rfl) (by decide) (by decide) ?_
  exact ⟨rfl, rfl, rfl⟩
theorem c_X9_pairCount (hT : gd_T h k τ ac) : pj_Ct E B l Y_X9_pairCount 1 0 0 [.ref k] h n (pj_is (some (.int (nI (τ 2)))) h n) := by
  have h0 := hT.1
  refine pj_in rfl (ls := [some (.ref k)]) rfl (Nat.le_of_ble_eq_true rfl) ?_
  refine pj_ald0 (q := 1) (pj_d p_X9_pairCount 0 rfl) rfl ?_
  refine pj_gf (q := 4) (k := 6) (pj_d p_X9_pairCount 1 rfl) rfl kX9_56 (by assumption) (by rfl) (by rfl) ?_
  refine pj_iret rfl (pj_d p_X9_pairCount 2 rfl) (by decide) (by decide) ?_
  exact ⟨rfl, rfl, rfl⟩
theorem c_X9_actCount (hT : gd_T h k τ ac) : pj_Ct E B l Y_X9_actCount 1 0 0 [.ref k] h n (pj_is (some (.int (nI ac))) h n) := by
  have h0 := hT.1
  refine pj_in rfl (ls := [some (.ref k)]) rfl (Nat.le_of_ble_eq_true rfl) ?_
  refine pj_ald0 (q := 1) (pj_d p_X9_actCount 0 rfl) rfl ?_
  refine pj_gf (q := 4) (k := 11) (pj_d p_X9_actCount 1 rfl) rfl kX9_81 (by assumption) (by rfl) (by rfl) ?_
  refine pj_iret rfl (pj_d p_X9_actCount 2 rfl) (by decide) (by decide) ?_
  exact ⟨rfl, rfl, rfl⟩
theorem c_X9_today (hT : gd_T h k τ ac) : pj_Ct E B l Y_X9_today 1 0 0 [.ref k] h n (pj_is (some (.int (nI (τ 3)))) h n) := by
  have h0 := hT.1
  refine pj_in rfl (ls := [some (.ref k)]) rfl (Nat.le_of_ble_eq_true rfl) ?_
  refine pj_ald0 (q := 1) (pj_d p_X9_today 0 rfl) rfl ?_
  refine pj_gf (q := 4) (k := 7) (pj_d p_X9_today 1 rfl) rfl kX9_62 (by assumption) (by rfl) (by rfl) ?_
  refine pj_iret rfl (pj_d p_X9_today 2 rfl) (by decide) (by decide) ?_
  exact ⟨rfl, rfl, rfl⟩
theorem c_X9_hasThing (hT : gd_T h k τ ac) (hW : τ 1 ≤ 7) (i : Int32) : pj_Ct E B l Y_X9_hasThing 1 0 0 [.ref k, .int i] h n (pj_is (some (.int (gd_b (gd_has τ i)))) h n) := by
  have h0 := hT.1
  refine pj_in rfl (ls := [some (.ref k), some (.int i)]) rfl (Nat.le_of_ble_eq_true rfl) ?_
  refine pj_ild1 (q := 1) (pj_d p_X9_hasThing 0 rfl) rfl ?_
  have no : ¬ gd_has τ i = true → pj_V E B l Y_X9_hasThing 1 0 0 16 [some (.ref k), some (.int i)] [] h n 0 0 (pj_is (some (.int (gd_b (gd_has τ i)))) h n) := by
    intro hn
    refine pj_iconst (q := 17) (v := nI 0) (pj_d p_X9_hasThing 8 rfl) rfl (by decide) ?_
    refine pj_zret rfl (by first | rfl | decide | (split <;> rfl)) (pj_d p_X9_hasThing 9 rfl) (by decide) (by decide) ?_
    exact ⟨by rw [Bool.eq_false_iff.mpr hn]; rfl, rfl, rfl⟩
  refine pj_if_lt (t := 16) (q := 4) (pj_d p_X9_hasThing 1 rfl) rfl (by decide) (fun c1 => ?_) (fun c1 => ?_)
  · exact no (fun hh => by obtain ⟨j, hj, rfl⟩ := (gd_has_iff hW).mp hh; exact nI_pos (by omega) c1)
  refine pj_ild1 (q := 5) (pj_d p_X9_hasThing 2 rfl) rfl ?_
  refine pj_ald0 (q := 6) (pj_d p_X9_hasThing 3 rfl) rfl ?_
  refine pj_gf (q := 9) (k := 2) (pj_d p_X9_hasThing 4 rfl) rfl kX9_38 (by assumption) (by rfl) (by rfl) ?_
  refine pj_icmp_ge (t := 16) (q := 12) (pj_d p_X9_hasThing 5 rfl) rfl (by decide) (fun c2 => ?_) (fun c2 => ?_)
  · exact no (fun hh => by obtain ⟨j, hj, rfl⟩ := (gd_has_iff hW).mp hh; have := (nI_leI (by omega) (by omega)).mp c2; omega)
  · have hh : gd_has τ i = true := by
      obtain ⟨j, hj, rfl⟩ := nI_of c1
      exact (gd_has_iff hW).mpr ⟨j, by
        rcases Nat.lt_or_ge j (τ 1) with q | q
        · exact q
        · exact absurd (nI_le q hj) c2, rfl⟩
    refine pj_iconst (q := 13) (v := nI 1) (pj_d p_X9_hasThing 6 rfl) rfl (by decide) ?_
    refine pj_goto (t := 17) (pj_d p_X9_hasThing 7 rfl) (by decide) ?_
    refine pj_zret rfl (by first | rfl | decide | (split <;> rfl)) (pj_d p_X9_hasThing 9 rfl) (by decide) (by decide) ?_
    exact ⟨by rw [hh]; rfl, rfl, rfl⟩
theorem c_X9_thingAt (hT : gd_T h k τ ac) (hW : τ 1 ≤ 7) {i : Nat} (hi : i < τ 1) : pj_Ct E B l Y_X9_thingAt 1 0 0 [.ref k, .int (nI i)] h n (pj_is (some (.ref (k + 9 + i))) h n) := by
  have h0 := hT.1
  obtain ⟨f, h2, hf⟩ := hT.2.2.1
  refine pj_in rfl (ls := [some (.ref k), some (.int (nI i))]) rfl (Nat.le_of_ble_eq_true rfl) ?_
  refine pj_ald0 (q := 1) (pj_d p_X9_thingAt 0 rfl) rfl ?_
  refine pj_gf (q := 4) (k := 1) (pj_d p_X9_thingAt 1 rfl) rfl kX9_15 (by assumption) (by rfl) (by rfl) ?_
  refine pj_ild1 (q := 5) (pj_d p_X9_thingAt 2 rfl) rfl ?_
  refine pj_aald (t := 2) (q := 6) rfl rfl (pj_d p_X9_thingAt 3 rfl) rfl h2 rfl (by omega) (Nat.le_of_ble_eq_true rfl) ?_
  rw [hf i hi]
  refine pj_aret rfl (pj_d p_X9_thingAt 4 rfl) (by first | decide | omega) (by first | decide | omega) ?_
  exact ⟨rfl, rfl, rfl⟩
theorem c_X9_colourOn (hT : gd_T h k τ ac) {j : Nat} (hj : j < 7) : pj_Ct E B l Y_X9_colourOn 1 0 0 [.ref k, .int (nI j)] h n (pj_is (some (.int (nI (τ (4 + j))))) h n) := by
  have h0 := hT.1
  obtain ⟨f, h1, hf⟩ := hT.2.1
  refine pj_in rfl (ls := [some (.ref k), some (.int (nI j))]) rfl (Nat.le_of_ble_eq_true rfl) ?_
  refine pj_ild1 (q := 1) (pj_d p_X9_colourOn 0 rfl) rfl ?_
  refine pj_if_lt (t := 19) (q := 4) (pj_d p_X9_colourOn 1 rfl) rfl (by decide) (fun c1 => ?_) (fun c1 => ?_)
  · exact absurd c1 (nI_pos (by omega))
  refine pj_ild1 (q := 5) (pj_d p_X9_colourOn 2 rfl) rfl ?_
  refine pj_bipush (q := 7) (v := nI 7) (pj_d p_X9_colourOn 3 rfl) rfl (by decide) ?_
  refine pj_icmp_ge (t := 19) (q := 10) (pj_d p_X9_colourOn 4 rfl) rfl (by decide) (fun c2 => ?_) (fun c2 => ?_)
  · exact absurd ((nI_leI (by omega) (by omega)).mp c2) (by omega)
  refine pj_ald0 (q := 11) (pj_d p_X9_colourOn 5 rfl) rfl ?_
  refine pj_gf (q := 14) (k := 0) (pj_d p_X9_colourOn 6 rfl) rfl kX9_9 (by assumption) (by rfl) (by rfl) ?_
  refine pj_ild1 (q := 15) (pj_d p_X9_colourOn 7 rfl) rfl ?_
  refine pj_ialdN (q := 16) (pj_d p_X9_colourOn 8 rfl) rfl (by assumption) (by rfl) (by first | assumption | omega) (Nat.le_of_ble_eq_true rfl) ?_
  refine pj_goto (t := 20) (pj_d p_X9_colourOn 9 rfl) (by decide) ?_
  rw [hf j hj]
  refine pj_iret rfl (pj_d p_X9_colourOn 11 rfl) (by decide) (by decide) ?_
  exact ⟨rfl, rfl, rfl⟩
theorem c_X9_missingOn (hT : gd_T h k τ ac) (hW : gd_W τ) {j : Nat} (hj : j < 7) : pj_Ct E B l Y_X9_missingOn 2 0 0 [.ref k, .int (nI j)] h n (pj_is (some (.int (nI (gd_setOf (τ (4 + j)))))) h n) := by
  have h0 := hT.1
  obtain ⟨f, h1, hf⟩ := hT.2.1
  refine pj_in rfl (ls := [some (.ref k), some (.int (nI j))]) rfl (Nat.le_of_ble_eq_true rfl) ?_
  refine pj_ild1 (q := 1) (pj_d p_X9_missingOn 0 rfl) rfl ?_
  refine pj_if_lt (t := 22) (q := 4) (pj_d p_X9_missingOn 1 rfl) rfl (by decide) (fun c1 => ?_) (fun c1 => ?_)
  · exact absurd c1 (nI_pos (by omega))
  refine pj_ild1 (q := 5) (pj_d p_X9_missingOn 2 rfl) rfl ?_
  refine pj_bipush (q := 7) (v := nI 7) (pj_d p_X9_missingOn 3 rfl) rfl (by decide) ?_
  refine pj_icmp_ge (t := 22) (q := 10) (pj_d p_X9_missingOn 4 rfl) rfl (by decide) (fun c2 => ?_) (fun c2 => ?_)
  · exact absurd ((nI_leI (by omega) (by omega)).mp c2) (by omega)
  refine pj_ald0 (q := 11) (pj_d p_X9_missingOn 5 rfl) rfl ?_
  refine pj_gf (q := 14) (k := 0) (pj_d p_X9_missingOn 6 rfl) rfl kX9_9 (by assumption) (by rfl) (by rfl) ?_
  refine pj_ild1 (q := 15) (pj_d p_X9_missingOn 7 rfl) rfl ?_
  refine pj_ialdN (q := 16) (pj_d p_X9_missingOn 8 rfl) rfl (by assumption) (by rfl) (by first | assumption | omega) (Nat.le_of_ble_eq_true rfl) ?_
  rw [hf j hj]
  refine pj_cp (pj_rS (q := 19) (c_X9_setOf (τ (4 + j)) (hW.2.2.2.1 j hj)) (pj_d p_X9_missingOn 9 rfl) rfl kX9_88 o_X9_setOf (by rfl) (by rfl) (Nat.le_of_ble_eq_true rfl) (by decide)) (by decide) (by decide) ?_
  refine pj_goto (t := 23) (pj_d p_X9_missingOn 10 rfl) (by decide) ?_
  refine pj_iret rfl (pj_d p_X9_missingOn 12 rfl) (by decide) (by decide) ?_
  exact ⟨rfl, rfl, rfl⟩
theorem gd_rem7 {a : Nat} (ha : a < 2 ^ 31) : nI a - nI a / nI 7 * nI 7 = nI (a % 7) := pk_rem ha (by omega) (by omega)
theorem c_X9_missingIn (hT : gd_T h k τ ac) (hW : gd_W τ) {d : Nat} (hd : d ≤ 1000) : pj_Ct E B l Y_X9_missingIn 3 0 0 [.ref k, .int (nI d)] h n (pj_is (some (.int (nI (gd_miss τ d)))) h n) := by
  have h0 := hT.1
  refine pj_in rfl (ls := [some (.ref k), some (.int (nI d))]) rfl (Nat.le_of_ble_eq_true rfl) ?_
  refine pj_ald0 (q := 1) (pj_d p_X9_missingIn 0 rfl) rfl ?_
  refine pj_ald0 (q := 2) (pj_d p_X9_missingIn 1 rfl) rfl ?_
  refine pj_gf (q := 5) (k := 7) (pj_d p_X9_missingIn 2 rfl) rfl kX9_62 (by assumption) (by rfl) (by rfl) ?_
  refine pj_ild1 (q := 6) (pj_d p_X9_missingIn 3 rfl) rfl ?_
  refine pj_iadd (q := 7) (pj_d p_X9_missingIn 4 rfl) rfl ?_
  refine pj_bipush (q := 9) (v := nI 7) (pj_d p_X9_missingIn 5 rfl) rfl (by decide) ?_
  refine pj_irem (q := 10) (pj_d p_X9_missingIn 6 rfl) rfl (by decide) ?_
  have h3 := hW.2.2.1
  rw [nI_add, gd_rem7 (by omega)]
  refine pj_cp (pj_rV (q := 13) (c_X9_missingOn hT hW (j := (τ 3 + d) % 7) (Nat.mod_lt _ (by omega))) (pj_d p_X9_missingIn 7 rfl) rfl kX9_84 o_X9_missingOn (by assumption) (by rfl) (by rfl) (by rfl) (by rfl) (Nat.le_of_ble_eq_true rfl) (by decide)) (by decide) (by decide) ?_
  refine pj_iret rfl (pj_d p_X9_missingIn 8 rfl) (by decide) (by decide) ?_
  exact ⟨rfl, rfl, rfl⟩
end
