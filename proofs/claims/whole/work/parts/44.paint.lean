/-! ===== bestPaint: sums; the harm of a week by the painted one's pairs ===== -/
theorem gd_sm_add {f g : Nat → Nat} : ∀ m, gd_sm (fun i => f i + g i) m = gd_sm f m + gd_sm g m
  | 0 => rfl
  | m + 1 => by
    rw [gd_sm, gd_sm, gd_sm, gd_sm_add m]
    omega
theorem gd_sm_0 {f : Nat → Nat} : ∀ m, (∀ j, j < m → f j = 0) → gd_sm f m = 0
  | 0, _ => rfl
  | m + 1, h => by rw [gd_sm, gd_sm_0 m (fun j hj => h j (by omega)), h m (by omega)]
theorem gd_sm_mul {f : Nat → Nat} {c : Nat} : ∀ m, gd_sm (fun i => c * f i) m = c * gd_sm f m
  | 0 => rfl
  | m + 1 => by rw [gd_sm, gd_sm, gd_sm_mul m, Nat.mul_add]
theorem gd_sm_one {f : Nat → Nat} {o : Nat} : ∀ m, o < m → (∀ j, j < m → j ≠ o → f j = 0) → gd_sm f m = f o
  | 0, h, _ => absurd h (Nat.not_lt_zero o)
  | m + 1, h, h0 => by
    rw [gd_sm]
    by_cases e : o = m
    · rw [gd_sm_0 m (fun j hj => h0 j (by omega) (by omega)), e, Nat.zero_add]
    · rw [gd_sm_one m (by omega) (fun j hj hne => h0 j (by omega) hne), h0 m (by omega) (fun q => e q.symm), Nat.add_zero]
theorem gd_sm_swap {f : Nat → Nat → Nat} (b : Nat) : ∀ a, gd_sm (fun i => gd_sm (fun j => f i j) b) a = gd_sm (fun j => gd_sm (fun i => f i j) a) b
  | 0 => by rw [gd_sm, gd_sm_0 (f := fun j => gd_sm (fun i => f i j) 0) b (fun j _ => rfl)]
  | a + 1 => by
    rw [gd_sm, gd_sm_swap b a, ← gd_sm_add]
    rfl
theorem gd_rot (F : Nat → Nat) (s : Nat) : gd_sm (fun d => F ((s + d) % 7)) 7 = gd_sm F 7 := by
  have e : ∀ d, (s + d) % 7 = (s % 7 + d) % 7 := fun d => by omega
  have hs := Nat.mod_lt s (show 0 < 7 by omega)
  simp only [gd_sm, e]
  generalize s % 7 = z at hs ⊢
  rcases (show z = 0 ∨ z = 1 ∨ z = 2 ∨ z = 3 ∨ z = 4 ∨ z = 5 ∨ z = 6 by omega) with rfl | rfl | rfl | rfl | rfl | rfl | rfl <;> simp only [Nat.reduceAdd, Nat.reduceMod] <;> omega
theorem gd_lk_set_s {τ : Nat → Nat} {i m st : Nat} : gd_lk (gd_set τ (12 + 3 * i) m) i st = gd_look (τ (11 + 3 * i)) m (τ (13 + 3 * i)) st := by
  rw [gd_lk, gd_set_n (by omega), gd_set_s, gd_set_n (by omega)]
theorem gd_lk_set_n {τ : Nat → Nat} {i m st t : Nat} (h : t ≠ i) : gd_lk (gd_set τ (12 + 3 * i) m) t st = gd_lk τ t st := by
  rw [gd_lk, gd_set_n (by omega), gd_set_n (by omega), gd_set_n (by omega), gd_lk]
def gd_oth (τ : Nat → Nat) (i j : Nat) : Nat := if τ (32 + 3 * j) = i then τ (33 + 3 * j) else τ (32 + 3 * j)
def gd_S7 (τ : Nat → Nat) (w : Nat) : Nat := gd_setOf (τ (4 + w))
def gd_da (τ : Nat → Nat) (i m o c : Nat) : Nat := gd_sm (fun w => if gd_look (τ (11 + 3 * i)) m (τ (13 + 3 * i)) (gd_S7 τ w) = gd_lk τ o (gd_S7 τ w) then 1 else 0) c
def gd_wf1 (τ : Nat → Nat) (i m o : Nat) : Nat := (if o = i then 0 else gd_pair τ i o) * gd_da τ i m o 7
def gd_ww (τ : Nat → Nat) (i m c : Nat) : Nat := gd_sm (gd_wf1 τ i m) c
theorem gd_hf_set {τ : Nat → Nat} (hW : gd_W τ) {i m st j : Nat} (hi : i < τ 1) (hj : j < τ 2) : gd_hf (gd_set τ (12 + 3 * i) m) st j = if gd_of τ i j = true then (if gd_look (τ (11 + 3 * i)) m (τ (13 + 3 * i)) st = gd_lk τ (gd_oth τ i j) st then τ (34 + 3 * j) else 0) else gd_hf τ st j := by
  have h7 := hW.1
  obtain ⟨-, -, hne, -⟩ := hW.2.2.2.2.2.1 j hj
  rw [gd_hf, gd_set_n (by omega), gd_set_n (by omega), gd_set_n (by omega)]
  by_cases ea : τ (32 + 3 * j) = i
  · have eb : ¬ τ (33 + 3 * j) = i := fun q => hne (ea.trans q.symm)
    rw [if_pos (gd_of_iff.mpr (Or.inl ea)), gd_oth, if_pos ea, ea, gd_lk_set_s, gd_lk_set_n eb]
  · by_cases eb : τ (33 + 3 * j) = i
    · rw [if_pos (gd_of_iff.mpr (Or.inr eb)), gd_oth, if_neg ea, eb, gd_lk_set_s, gd_lk_set_n ea]
      by_cases q : gd_lk τ (τ (32 + 3 * j)) st = gd_look (τ (11 + 3 * i)) m (τ (13 + 3 * i)) st
      · rw [if_pos q, if_pos q.symm]
      · rw [if_neg q, if_neg (fun z => q z.symm)]
    · have hno : ¬ gd_of τ i j = true := fun q => by
        rcases gd_of_iff.mp q with q | q
        · exact ea q
        · exact eb q
      rw [if_neg hno, gd_lk_set_n ea, gd_lk_set_n eb, gd_hf]
theorem gd_pairF_hit {τ : Nat → Nat} {a b j0 : Nat} : ∀ m i, i ≤ j0 → j0 < i + m → (gd_of τ a j0 && gd_of τ b j0) = true → (∀ j, i ≤ j → j < i + m → j ≠ j0 → ¬ (gd_of τ a j && gd_of τ b j) = true) → gd_pairF τ a b m i = τ (34 + 3 * j0)
  | 0, i, h1, h2, _, _ => by omega
  | m + 1, i, h1, h2, hm, hu => by
    rw [gd_pairF]
    by_cases e : i = j0
    · rw [e, if_pos hm]
    · rw [if_neg (hu i (by omega) (by omega) e)]
      exact gd_pairF_hit m (i + 1) (by omega) (by omega) hm (fun j a1 a2 a3 => hu j (by omega) (by omega) a3)
theorem gd_pair_hit {τ : Nat → Nat} (hW : gd_W τ) {a b j0 : Nat} (hab : a ≠ b) (hj : j0 < τ 2) (hm : (gd_of τ a j0 && gd_of τ b j0) = true) : (∀ j, j < τ 2 → j ≠ j0 → ¬ (gd_of τ a j && gd_of τ b j) = true) ∧ gd_pair τ a b = τ (34 + 3 * j0) := by
  have hu : ∀ j, j < τ 2 → j ≠ j0 → ¬ (gd_of τ a j && gd_of τ b j) = true := by
    intro j hjt hne q
    rw [gd_two_of hab] at q
    have hm' := (gd_two_of hab).mp hm
    rcases Nat.lt_or_gt_of_ne hne with hlt | hlt
    · have w7 := hW.2.2.2.2.2.2 j j0 hlt hj
      rcases q with q | q <;> rcases hm' with p | p
      · exact w7.1 ⟨q.1.trans p.1.symm, q.2.trans p.2.symm⟩
      · exact w7.2 ⟨q.1.trans p.2.symm, q.2.trans p.1.symm⟩
      · exact w7.2 ⟨q.1.trans p.2.symm, q.2.trans p.1.symm⟩
      · exact w7.1 ⟨q.1.trans p.1.symm, q.2.trans p.2.symm⟩
    · have w7 := hW.2.2.2.2.2.2 j0 j hlt hjt
      rcases q with q | q <;> rcases hm' with p | p
      · exact w7.1 ⟨p.1.trans q.1.symm, p.2.trans q.2.symm⟩
      · exact w7.2 ⟨p.1.trans q.2.symm, p.2.trans q.1.symm⟩
      · exact w7.2 ⟨p.1.trans q.2.symm, p.2.trans q.1.symm⟩
      · exact w7.1 ⟨p.1.trans q.1.symm, p.2.trans q.2.symm⟩
  refine ⟨hu, ?_⟩
  rw [gd_pair]
  exact gd_pairF_hit (τ 2) 0 (by omega) (by omega) hm (fun j _ a2 a3 => hu j (by omega) a3)
def gd_wj (τ : Nat → Nat) (i m j : Nat) : Nat := if gd_of τ i j = true then τ (34 + 3 * j) * gd_da τ i m (gd_oth τ i j) 7 else 0
def gd_oj (τ : Nat → Nat) (i m o j : Nat) : Nat := if o ≠ i ∧ (gd_of τ i j && gd_of τ o j) = true then τ (34 + 3 * j) * gd_da τ i m o 7 else 0
theorem gd_oth_of {τ : Nat → Nat} {i j o : Nat} (hne : τ (32 + 3 * j) ≠ τ (33 + 3 * j)) (hio : o ≠ i) : (gd_of τ i j && gd_of τ o j) = true ↔ (gd_of τ i j = true ∧ o = gd_oth τ i j) := by
  rw [gd_two_of (fun q => hio q.symm), gd_of_iff, gd_oth]
  by_cases e : τ (32 + 3 * j) = i
  · rw [if_pos e]
    constructor
    · rintro (q | q)
      · exact ⟨Or.inl e, q.2.symm⟩
      · exact absurd (q.1.symm.trans e) hio
    · rintro ⟨-, q⟩
      exact Or.inl ⟨e, q.symm⟩
  · rw [if_neg e]
    constructor
    · rintro (q | q)
      · exact absurd q.1 e
      · exact ⟨Or.inr q.2, q.1.symm⟩
    · rintro ⟨q | q, q2⟩
      · exact absurd q e
      · exact Or.inr ⟨q2.symm, q⟩
theorem gd_wf_sum {τ : Nat → Nat} (hW : gd_W τ) {i m o : Nat} : gd_wf1 τ i m o = gd_sm (gd_oj τ i m o) (τ 2) := by
  rw [gd_wf1]
  by_cases e : o = i
  · rw [if_pos e, Nat.zero_mul, gd_sm_0 _ (fun j _ => by rw [gd_oj, if_neg (fun q => q.1 e)])]
  · rw [if_neg e]
    by_cases q : ∃ j0, j0 < τ 2 ∧ (gd_of τ i j0 && gd_of τ o j0) = true
    · obtain ⟨j0, hj, hm⟩ := q
      obtain ⟨hu, hp⟩ := gd_pair_hit hW (fun z => e z.symm) hj hm
      rw [hp, gd_sm_one (o := j0) _ hj (fun j h1 h2 => by rw [gd_oj, if_neg (fun z => hu j h1 h2 z.2)]), gd_oj, if_pos ⟨e, hm⟩]
    · have h0 : gd_pair τ i o = 0 := (gd_pair_0 hW).mpr (fun j hj z => q ⟨j, hj, z⟩)
      rw [h0, Nat.zero_mul, gd_sm_0 _ (fun j hj => by rw [gd_oj, if_neg (fun z => q ⟨j, hj, z.2⟩)])]
theorem gd_ww_sum {τ : Nat → Nat} (hW : gd_W τ) {i m : Nat} : gd_ww τ i m (τ 1) = gd_sm (gd_wj τ i m) (τ 2) := by
  have e1 : gd_ww τ i m (τ 1) = gd_sm (fun o => gd_sm (fun j => gd_oj τ i m o j) (τ 2)) (τ 1) := by
    rw [gd_ww]
    exact gd_sm_cong (fun o _ => gd_wf_sum hW)
  rw [e1, gd_sm_swap (f := fun o j => gd_oj τ i m o j) (τ 2) (τ 1)]
  refine gd_sm_cong (fun j hj => ?_)
  obtain ⟨g1, g2, hne, -⟩ := hW.2.2.2.2.2.1 j hj
  rw [gd_wj]
  by_cases e : gd_of τ i j = true
  · rw [if_pos e]
    have ho : gd_oth τ i j < τ 1 ∧ gd_oth τ i j ≠ i := by
      rw [gd_oth]
      by_cases q : τ (32 + 3 * j) = i
      · rw [if_pos q]; exact ⟨g2, fun z => hne (q.trans z.symm)⟩
      · rw [if_neg q]; exact ⟨g1, q⟩
    rw [gd_sm_one (o := gd_oth τ i j) _ ho.1 (fun o h1 h2 => by rw [gd_oj, if_neg (fun z => h2 ((gd_oth_of hne z.1).mp z.2).2)]), gd_oj, if_pos ⟨ho.2, (gd_oth_of hne ho.2).mpr ⟨e, rfl⟩⟩]
  · rw [if_neg e, gd_sm_0 _ (fun o _ => by rw [gd_oj, if_neg (fun z => e ((gd_oth_of hne z.1).mp z.2).1)])]
def gd_rj (τ : Nat → Nat) (i j : Nat) : Nat := if gd_of τ i j = true then 0 else gd_sm (fun w => gd_hf τ (gd_S7 τ w) j) 7
theorem gd_sm_ite {c : Nat} (p : Nat → Prop) [DecidablePred p] (m : Nat) : gd_sm (fun w => if p w then c else 0) m = c * gd_sm (fun w => if p w then 1 else 0) m := by
  rw [← gd_sm_mul]
  refine gd_sm_cong (fun j _ => ?_)
  by_cases e : p j
  · rw [if_pos e, if_pos e, Nat.mul_one]
  · rw [if_neg e, if_neg e, Nat.mul_zero]
theorem gd_harms_set {τ : Nat → Nat} (hW : gd_W τ) {i : Nat} (hi : i < τ 1) (m : Nat) : gd_harms (gd_set τ (12 + 3 * i) m) 7 = gd_sm (gd_rj τ i) (τ 2) + gd_ww τ i m (τ 1) := by
  have h7 := hW.1
  have e1 : gd_harms (gd_set τ (12 + 3 * i) m) 7 = gd_sm (fun d => (fun w => gd_sm (fun j => gd_hf (gd_set τ (12 + 3 * i) m) (gd_S7 τ w) j) (τ 2)) ((τ 3 + d) % 7)) 7 := by
    rw [gd_harms]
    refine gd_sm_cong (fun d _ => ?_)
    have := Nat.mod_lt (τ 3 + d) (show 0 < 7 by omega)
    rw [gd_miss, gd_set_n (by omega), gd_set_n (by omega), gd_harm, gd_set_n (by omega)]
    rfl
  rw [e1, gd_rot (fun w => gd_sm (fun j => gd_hf (gd_set τ (12 + 3 * i) m) (gd_S7 τ w) j) (τ 2)) (τ 3), gd_sm_swap (f := fun w j => gd_hf (gd_set τ (12 + 3 * i) m) (gd_S7 τ w) j) (τ 2) 7, gd_ww_sum hW, ← gd_sm_add]
  refine gd_sm_cong (fun j hj => ?_)
  have e2 : gd_sm (fun w => gd_hf (gd_set τ (12 + 3 * i) m) (gd_S7 τ w) j) 7 = gd_sm (fun w => if gd_of τ i j = true then (if gd_look (τ (11 + 3 * i)) m (τ (13 + 3 * i)) (gd_S7 τ w) = gd_lk τ (gd_oth τ i j) (gd_S7 τ w) then τ (34 + 3 * j) else 0) else gd_hf τ (gd_S7 τ w) j) 7 := gd_sm_cong (fun w _ => gd_hf_set hW hi hj)
  rw [e2, gd_rj, gd_wj]
  by_cases e : gd_of τ i j = true
  · simp only [if_pos e]
    rw [gd_sm_ite (fun w => gd_look (τ (11 + 3 * i)) m (τ (13 + 3 * i)) (gd_S7 τ w) = gd_lk τ (gd_oth τ i j) (gd_S7 τ w)), Nat.zero_add, gd_da]
  · simp only [if_neg e, Nat.add_zero]
theorem gd_set_id {τ : Nat → Nat} {i : Nat} : gd_set τ i (τ i) = τ := by
  funext j
  rw [gd_set]
  split
  · rename_i e; rw [e]
  · rfl
theorem gd_set_set {τ : Nat → Nat} {i x y : Nat} : gd_set (gd_set τ i x) i y = gd_set τ i y := by
  funext j
  rw [gd_set, gd_set, gd_set]
  split <;> rfl
theorem gd_harms_le {τ : Nat → Nat} (hW : gd_W τ) : gd_harms τ 7 ≤ 1120 := gd_sm_le (c := 160) (i := 7) (fun j _ => gd_harm_le hW _)
def gd_bpH (τ : Nat → Nat) (c : Nat) : Nat := gd_harms (gd_set τ (12 + 3 * (c / 32)) (c % 32)) 7
def gd_bp (τ : Nat → Nat) : Nat → Option (Nat × Nat)
  | 0 => none
  | c + 1 => if (1 ≤ c % 32 ∧ τ (11 + 3 * (c / 32)) < 4) ∧ (∀ q, gd_bp τ c = some q → gd_bpH τ c < q.2) then some (c, gd_bpH τ c) else gd_bp τ c
def sp_bestPaint (τ : Nat → Nat) (w : Int32) : Int32 := if τ 0 = 1 then (if gd_rng w 0 1 then (if w.toInt = 0 then gd_o1 (gd_bp τ (32 * τ 1)) else gd_o2 (gd_bp τ (32 * τ 1))) else -1000001) else -1000002
theorem gd_bp_skip {τ : Nat → Nat} {i j : Nat} (hij : i ≤ j) (h : ∀ c, i ≤ c → c < j → ¬ (1 ≤ c % 32 ∧ τ (11 + 3 * (c / 32)) < 4)) : gd_bp τ j = gd_bp τ i := by
  obtain ⟨d, rfl⟩ := Nat.le.dest hij
  induction d with
  | zero => rfl
  | succ d ih =>
    rw [← Nat.add_assoc, gd_bp, if_neg (fun q => h (i + d) (by omega) (by omega) q.1)]
    exact ih (by omega) (fun c h1 h2 => h c h1 (by omega))
theorem gd_bpH_at {τ : Nat → Nat} {i m : Nat} (hm : m < 32) : gd_bpH τ (32 * i + m) = gd_harms (gd_set τ (12 + 3 * i) m) 7 := by
  rw [gd_bpH, show (32 * i + m) / 32 = i by omega, show (32 * i + m) % 32 = m by omega]
theorem gd_bp_le {τ : Nat → Nat} (hW : gd_W τ) : ∀ c q, c ≤ 32 * τ 1 → gd_bp τ c = some q → q.1 < 224 ∧ q.2 ≤ 1120
  | 0, q, _, h => by cases h
  | c + 1, q, hc, h => by
    have h7 := hW.1
    rw [gd_bp] at h
    split at h
    · cases h
      exact ⟨by show c < 224; omega, gd_harms_le (gd_W_mix hW (by omega) (Nat.mod_lt _ (by omega)))⟩
    · exact gd_bp_le hW c q (by omega) h
/-- the test that both sides make -/
theorem gd_bp_test {τ : Nat → Nat} (hW : gd_W τ) {c H : Nat} (hc : c ≤ 32 * τ 1) (hv : 1 ≤ c % 32 ∧ τ (11 + 3 * (c / 32)) < 4) (hH : H = gd_bpH τ c) (hl : H ≤ 1120) : (gd_o1 (gd_bp τ c) = -1000000 → gd_bp τ (c + 1) = some (c, H)) ∧ (¬ gd_o1 (gd_bp τ c) = -1000000 → ((gd_o2 (gd_bp τ c) ≤ nI H → gd_bp τ (c + 1) = gd_bp τ c) ∧ (¬ gd_o2 (gd_bp τ c) ≤ nI H → gd_bp τ (c + 1) = some (c, H)))) := by
  subst hH
  cases e : gd_bp τ c with
  | none =>
    refine ⟨fun _ => ?_, fun q => absurd rfl q⟩
    rw [gd_bp, if_pos ⟨hv, fun q hq => by rw [e] at hq; cases hq⟩]
  | some q =>
    obtain ⟨l1, l2⟩ := gd_bp_le hW c q hc e
    refine ⟨fun z => absurd z (gd_neg (by omega)), fun _ => ⟨fun z => ?_, fun z => ?_⟩⟩
    · have : q.2 ≤ gd_bpH τ c := (nI_leI (by omega) (by omega)).mp z
      rw [gd_bp, if_neg (fun y => by have := y.2 q e; omega), e]
    · have : ¬ q.2 ≤ gd_bpH τ c := fun y => z (nI_le y (by omega))
      rw [gd_bp, if_pos ⟨hv, fun y hy => by rw [e] at hy; cases hy; omega⟩]
section
variable {E : pj_E} {B : Nat} {l : Launch} {h : pj_H} {n b k ac g f0 : Nat} {po : Option Nat} {lf st : Int32} {τ : Nat → Nat} {v : Nat → Int32}
theorem c_X3_daysAlike (hT : gd_T h k τ ac) (hW : gd_W τ) {i m o : Nat} (hi : i < τ 1) (ho : o < τ 1) (hm : m < 32) : pj_Ct E B l Y_X3_daysAlike 4 0 0 [.ref k, .int (nI i), .int (nI m), .int (nI o)] h n (pj_is (some (.int (nI (gd_da τ i m o 7)))) h n) := by
  have h7 := hW.1
  have t0 := hT.1
  obtain ⟨ki, -, si⟩ := hW.2.2.2.2.1 i hi
  obtain ⟨ko, -⟩ := hW.2.2.2.2.1 o ho
  refine pj_in rfl (ls := [some (.ref k), some (.int (nI i)), some (.int (nI m)), some (.int (nI o)), none, none, none]) rfl (Nat.le_of_ble_eq_true rfl) ?_
  refine pj_iconst (q := 1) (v := nI 0) (pj_d p_X3_daysAlike 0 rfl) rfl (by decide) ?_
  refine pj_ist4 (q := 3) (pj_d p_X3_daysAlike 1 rfl) rfl (by first | rfl | assumption) ?_
  refine pj_iconst (q := 4) (v := nI 0) (pj_d p_X3_daysAlike 2 rfl) rfl (by decide) ?_
  refine pj_ist5 (q := 6) (pj_d p_X3_daysAlike 3 rfl) rfl (by first | rfl | assumption) ?_
  have loop : ∀ m2 w o6, pj_c1 o6 = true → 7 - w < m2 → w ≤ 7 → pj_V E B l Y_X3_daysAlike 4 0 0 6 [some (.ref k), some (.int (nI i)), some (.int (nI m)), some (.int (nI o)), some (.int (nI (gd_da τ i m o w))), some (.int (nI w)), o6] [] h n 0 0 (pj_is (some (.int (nI (gd_da τ i m o 7)))) h n) := by
    intro m2
    induction m2 with
    | zero => intro w o6 _ hi; omega
    | succ m2 ih =>
      intro w o6 k6 hw hle
      refine pj_ild5 (q := 8) (pj_d p_X3_daysAlike 4 rfl) rfl ?_
      refine pj_bipush (q := 10) (v := nI 7) (pj_d p_X3_daysAlike 5 rfl) rfl (by decide) ?_
      refine pj_icmp_ge (t := 54) (q := 13) (pj_d p_X3_daysAlike 6 rfl) rfl (by decide) (fun c1 => ?_) (fun c1 => ?_)
      · have he : w = 7 := by have := gd_ge c1 (by omega) (by omega); omega
        subst he
        refine pj_ild4 (q := 56) (pj_d p_X3_daysAlike 26 rfl) rfl ?_
        refine pj_iret rfl (pj_d p_X3_daysAlike 27 rfl) (by decide) (by decide) ?_
        exact ⟨rfl, rfl, rfl⟩
      have hlt : w < 7 := gd_lt c1 (by omega)
      have hst : gd_setOf (τ (4 + w)) < 32 := gd_setOf_lt _ (hW.2.2.2.1 w hlt)
      refine pj_ald0 (q := 14) (pj_d p_X3_daysAlike 7 rfl) rfl ?_
      refine pj_ild5 (q := 16) (pj_d p_X3_daysAlike 8 rfl) rfl ?_
      refine pj_cp (pj_rV (q := 19) (c_X9_missingOn hT hW hlt) (pj_d p_X3_daysAlike 9 rfl) rfl kX3_74 o_X9_missingOn (by assumption) (by rfl) (by rfl) (by rfl) (by rfl) (Nat.le_of_ble_eq_true rfl) (by decide)) (by decide) (by decide) ?_
      refine pj_ist6 (q := 21) (pj_d p_X3_daysAlike 10 rfl) rfl (by first | rfl | assumption) ?_
      refine pj_ald0 (q := 22) (pj_d p_X3_daysAlike 11 rfl) rfl ?_
      refine pj_ild1 (q := 23) (pj_d p_X3_daysAlike 12 rfl) rfl ?_
      refine pj_cp (pj_rV (q := 26) (c_X9_thingAt hT h7 hi) (pj_d p_X3_daysAlike 13 rfl) rfl kX3_27 o_X9_thingAt (by assumption) (by rfl) (by rfl) (by rfl) (by rfl) (Nat.le_of_ble_eq_true rfl) (by decide)) (by decide) (by decide) ?_
      refine pj_ild2 (q := 27) (pj_d p_X3_daysAlike 14 rfl) rfl ?_
      refine pj_ild6 (q := 29) (pj_d p_X3_daysAlike 15 rfl) rfl ?_
      refine pj_cp (vX3_77 (q := 32) rfl (hT.2.2.2.1 i hi) ki (c_lookOf ki (hT.2.2.2.1 i hi) m (gd_setOf (τ (4 + w))) hm hst) (pj_d p_X3_daysAlike 16 rfl) rfl rfl rfl (Nat.le_of_ble_eq_true rfl) (by decide)) (by decide) (by decide) ?_
      refine pj_ald0 (q := 33) (pj_d p_X3_daysAlike 17 rfl) rfl ?_
      refine pj_ild3 (q := 34) (pj_d p_X3_daysAlike 18 rfl) rfl ?_
      refine pj_cp (pj_rV (q := 37) (c_X9_thingAt hT h7 ho) (pj_d p_X3_daysAlike 19 rfl) rfl kX3_27 o_X9_thingAt (by assumption) (by rfl) (by rfl) (by rfl) (by rfl) (Nat.le_of_ble_eq_true rfl) (by decide)) (by decide) (by decide) ?_
      refine pj_ild6 (q := 39) (pj_d p_X3_daysAlike 20 rfl) rfl ?_
      refine pj_cp (vX3_31 (q := 42) rfl (hT.2.2.2.1 o ho) ko (c_lw hT hW ho hst) (pj_d p_X3_daysAlike 21 rfl) rfl rfl rfl (Nat.le_of_ble_eq_true rfl) (by decide)) (by decide) (by decide) ?_
      have la : gd_look (τ (11 + 3 * i)) m (τ (13 + 3 * i)) (gd_setOf (τ (4 + w))) < 160 := gd_look_lt hm hst si
      have lb := gd_lk_lt hW ho hst
      have hs1 : gd_da τ i m o (w + 1) = gd_da τ i m o w + (if gd_look (τ (11 + 3 * i)) m (τ (13 + 3 * i)) (gd_setOf (τ (4 + w))) = gd_lk τ o (gd_setOf (τ (4 + w))) then 1 else 0) := rfl
      have go : ∀ x, x = gd_da τ i m o (w + 1) → pj_V E B l Y_X3_daysAlike 4 0 0 48 [some (.ref k), some (.int (nI i)), some (.int (nI m)), some (.int (nI o)), some (.int (nI x)), some (.int (nI w)), some (.int (nI (gd_setOf (τ (4 + w)))))] [] h n 0 0 (pj_is (some (.int (nI (gd_da τ i m o 7)))) h n) := by
        intro x hx
        subst hx
        refine pj_iinc5 (q := 51) (v := 1) (pj_d p_X3_daysAlike 24 rfl) rfl (by first | rfl | assumption) (by decide) ?_
        refine pj_goto (t := 6) (pj_d p_X3_daysAlike 25 rfl) (by decide) ?_
        rw [nI_1]
        exact ih (w + 1) _ rfl (by omega) (by omega)
      refine pj_icmp_ne (t := 48) (q := 45) (pj_d p_X3_daysAlike 22 rfl) rfl (by decide) (fun c2 => ?_) (fun c2 => ?_)
      · have hne : ¬ gd_look (τ (11 + 3 * i)) m (τ (13 + 3 * i)) (gd_setOf (τ (4 + w))) = gd_lk τ o (gd_setOf (τ (4 + w))) := fun q => c2 (by rw [q])
        exact go _ (by rw [hs1, if_neg hne]; rfl)
      · have heq := (nI_eq (by omega) (by omega)).mp c2
        refine pj_iinc4 (q := 48) (v := 1) (pj_d p_X3_daysAlike 23 rfl) rfl (by first | rfl | assumption) (by decide) ?_
        rw [nI_1]
        exact go _ (by rw [hs1, if_pos heq])
  exact loop 8 0 none rfl (by omega) (by omega)
theorem c_X3_weekHarmWith (hT : gd_T h k τ ac) (hW : gd_W τ) {i m : Nat} (hi : i < τ 1) (hm : m < 32) : pj_Ct E B l Y_X3_weekHarmWith 5 0 0 [.ref k, .int (nI i), .int (nI m)] h n (pj_is (some (.int (nI (gd_ww τ i m (τ 1))))) h n) := by
  have h7 := hW.1
  have t0 := hT.1
  refine pj_in rfl (ls := [some (.ref k), some (.int (nI i)), some (.int (nI m)), none, none, none]) rfl (Nat.le_of_ble_eq_true rfl) ?_
  refine pj_iconst (q := 1) (v := nI 0) (pj_d p_X3_weekHarmWith 0 rfl) rfl (by decide) ?_
  refine pj_ist3 (q := 2) (pj_d p_X3_weekHarmWith 1 rfl) rfl (by first | rfl | assumption) ?_
  refine pj_iconst (q := 3) (v := nI 0) (pj_d p_X3_weekHarmWith 2 rfl) rfl (by decide) ?_
  refine pj_ist4 (q := 5) (pj_d p_X3_weekHarmWith 3 rfl) rfl (by first | rfl | assumption) ?_
  have loop : ∀ m2 o o5, pj_c1 o5 = true → τ 1 - o < m2 → o ≤ τ 1 → pj_V E B l Y_X3_weekHarmWith 5 0 0 5 [some (.ref k), some (.int (nI i)), some (.int (nI m)), some (.int (nI (gd_ww τ i m o))), some (.int (nI o)), o5] [] h n 0 0 (pj_is (some (.int (nI (gd_ww τ i m (τ 1))))) h n) := by
    intro m2
    induction m2 with
    | zero => intro o o5 _ hi; omega
    | succ m2 ih =>
      intro o o5 k5 hw hle
      refine pj_ild4 (q := 7) (pj_d p_X3_weekHarmWith 4 rfl) rfl ?_
      refine pj_ald0 (q := 8) (pj_d p_X3_weekHarmWith 5 rfl) rfl ?_
      refine pj_cp (pj_rV (q := 11) (c_X9_thingCount hT) (pj_d p_X3_weekHarmWith 6 rfl) rfl kX3_23 o_X9_thingCount (by assumption) (by rfl) (by rfl) (by rfl) (by rfl) (Nat.le_of_ble_eq_true rfl) (by decide)) (by decide) (by decide) ?_
      refine pj_icmp_ge (t := 58) (q := 14) (pj_d p_X3_weekHarmWith 7 rfl) rfl (by decide) (fun c1 => ?_) (fun c1 => ?_)
      · have he : o = (τ 1) := by have := gd_ge c1 (by omega) (by omega); omega
        subst he
        refine pj_ild3 (q := 59) (pj_d p_X3_weekHarmWith 32 rfl) rfl ?_
        refine pj_iret rfl (pj_d p_X3_weekHarmWith 33 rfl) (by decide) (by decide) ?_
        exact ⟨rfl, rfl, rfl⟩
      have hlt : o < τ 1 := gd_lt c1 (by omega)
      have hs1 : gd_ww τ i m (o + 1) = gd_ww τ i m o + (if o = i then 0 else gd_pair τ i o) * gd_da τ i m o 7 := rfl
      have pl := gd_pair_lt hW (a := i) (b := o)
      have nx : ∀ y x, x = gd_ww τ i m (o + 1) → pj_V E B l Y_X3_weekHarmWith 5 0 0 52 [some (.ref k), some (.int (nI i)), some (.int (nI m)), some (.int (nI x)), some (.int (nI o)), some (.int (y))] [] h n 0 0 (pj_is (some (.int (nI (gd_ww τ i m (τ 1))))) h n) := by
        intro y x hx
        subst hx
        refine pj_iinc4 (q := 55) (v := 1) (pj_d p_X3_weekHarmWith 30 rfl) rfl (by first | rfl | assumption) (by decide) ?_
        refine pj_goto (t := 5) (pj_d p_X3_weekHarmWith 31 rfl) (by decide) ?_
        rw [nI_1]
        exact ih (o + 1) _ rfl (by omega) (by omega)
      have go : ∀ y, y = (if o = i then 0 else gd_pair τ i o) → y < 2 ^ 31 → pj_V E B l Y_X3_weekHarmWith 5 0 0 31 [some (.ref k), some (.int (nI i)), some (.int (nI m)), some (.int (nI (gd_ww τ i m o))), some (.int (nI o)), o5] [.int (nI y)] h n 0 0 (pj_is (some (.int (nI (gd_ww τ i m (τ 1))))) h n) := by
        intro y hy hyl
        refine pj_ist5 (q := 33) (pj_d p_X3_weekHarmWith 17 rfl) rfl (by first | rfl | assumption) ?_
        refine pj_ild5 (q := 35) (pj_d p_X3_weekHarmWith 18 rfl) rfl ?_
        refine pj_if_eq (t := 52) (q := 38) (pj_d p_X3_weekHarmWith 19 rfl) rfl (by decide) (fun c3 => ?_) (fun c3 => ?_)
        · have y0 : y = 0 := (nI_eq (by omega) (by omega)).mp (c3.trans nI_0.symm)
          exact nx _ _ (by rw [hs1, ← hy, y0, Nat.zero_mul]; rfl)
        · refine pj_ild3 (q := 39) (pj_d p_X3_weekHarmWith 20 rfl) rfl ?_
          refine pj_ild5 (q := 41) (pj_d p_X3_weekHarmWith 21 rfl) rfl ?_
          refine pj_ald0 (q := 42) (pj_d p_X3_weekHarmWith 22 rfl) rfl ?_
          refine pj_ild1 (q := 43) (pj_d p_X3_weekHarmWith 23 rfl) rfl ?_
          refine pj_ild2 (q := 44) (pj_d p_X3_weekHarmWith 24 rfl) rfl ?_
          refine pj_ild4 (q := 46) (pj_d p_X3_weekHarmWith 25 rfl) rfl ?_
          refine pj_cp (pj_rS (q := 49) (c_X3_daysAlike hT hW hi hlt hm) (pj_d p_X3_weekHarmWith 26 rfl) rfl kX3_70 o_X3_daysAlike (by rfl) (by rfl) (Nat.le_of_ble_eq_true rfl) (by decide)) (by decide) (by decide) ?_
          refine pj_imul (q := 50) (pj_d p_X3_weekHarmWith 27 rfl) rfl ?_
          rw [pk_mul]
          refine pj_iadd (q := 51) (pj_d p_X3_weekHarmWith 28 rfl) rfl ?_
          rw [nI_add]
          refine pj_ist3 (q := 52) (pj_d p_X3_weekHarmWith 29 rfl) rfl (by first | rfl | assumption) ?_
          exact nx _ _ (by rw [hs1, ← hy])
      refine pj_ild4 (q := 16) (pj_d p_X3_weekHarmWith 8 rfl) rfl ?_
      refine pj_ild1 (q := 17) (pj_d p_X3_weekHarmWith 9 rfl) rfl ?_
      refine pj_icmp_ne (t := 24) (q := 20) (pj_d p_X3_weekHarmWith 10 rfl) rfl (by decide) (fun c2 => ?_) (fun c2 => ?_)
      · have hne : ¬ o = i := fun q => c2 (by rw [q])
        refine pj_ald0 (q := 25) (pj_d p_X3_weekHarmWith 13 rfl) rfl ?_
        refine pj_ild1 (q := 26) (pj_d p_X3_weekHarmWith 14 rfl) rfl ?_
        refine pj_ild4 (q := 28) (pj_d p_X3_weekHarmWith 15 rfl) rfl ?_
        refine pj_cp (pj_rV (q := 31) (c_X9_harmOfPair hT hW (a := i) (b := o) (by omega) (by omega)) (pj_d p_X3_weekHarmWith 16 rfl) rfl kX3_66 o_X9_harmOfPair (by assumption) (by rfl) (by rfl) (by rfl) (by rfl) (Nat.le_of_ble_eq_true rfl) (by decide)) (by decide) (by decide) ?_
        exact go _ (by rw [if_neg hne]) pl
      · have heq : o = i := (nI_eq (by omega) (by omega)).mp c2
        refine pj_iconst (q := 21) (v := nI 0) (pj_d p_X3_weekHarmWith 11 rfl) rfl (by decide) ?_
        refine pj_goto (t := 31) (pj_d p_X3_weekHarmWith 12 rfl) (by decide) ?_
        exact go 0 (by rw [if_pos heq]) (by omega)
  exact loop (τ 1 + 1) 0 none rfl (by omega) (by omega)
theorem c_X3_leastHarmPaint (hF : gd_F h f0) (hT : gd_T h k τ ac) (hW : gd_W τ) {w : Nat} (hw : w ≤ 1) : pj_Ct E B l Y_X3_leastHarmPaint 7 0 0 [.ref f0, .ref k, .int (nI w)] h n (pj_is (some (.int (if w = 0 then gd_o1 (gd_bp τ (32 * τ 1)) else gd_o2 (gd_bp τ (32 * τ 1))))) h n) := by
  have h7 := hW.1
  have t0 := hT.1
  have F0 := hF.1
  refine pj_in rfl (ls := [some (.ref f0), some (.ref k), some (.int (nI w)), none, none, none, none, none, none, none]) rfl (Nat.le_of_ble_eq_true rfl) ?_
  refine pj_ald0 (q := 1) (pj_d p_X3_leastHarmPaint 0 rfl) rfl ?_
  refine pj_ald1 (q := 2) (pj_d p_X3_leastHarmPaint 1 rfl) rfl ?_
  refine pj_bipush (q := 4) (v := nI 7) (pj_d p_X3_leastHarmPaint 2 rfl) rfl (by decide) ?_
  refine pj_cp (pj_rV (q := 7) (c_X3_harmOfDays hT hW (c := 7) (by omega)) (pj_d p_X3_leastHarmPaint 3 rfl) rfl kX3_51 o_X3_harmOfDays (by assumption) (by rfl) (by rfl) (by rfl) (by rfl) (Nat.le_of_ble_eq_true rfl) (by decide)) (by decide) (by decide) ?_
  refine pj_ist3 (q := 8) (pj_d p_X3_leastHarmPaint 4 rfl) rfl (by first | rfl | assumption) ?_
  refine pj_ldc (q := 10) (pj_d p_X3_leastHarmPaint 5 rfl) rfl kX3_55 ?_
  refine pj_ist4 (q := 12) (pj_d p_X3_leastHarmPaint 6 rfl) rfl (by first | rfl | assumption) ?_
  refine pj_ldc (q := 14) (pj_d p_X3_leastHarmPaint 7 rfl) rfl kX3_55 ?_
  refine pj_ist5 (q := 16) (pj_d p_X3_leastHarmPaint 8 rfl) rfl (by first | rfl | assumption) ?_
  refine pj_iconst (q := 17) (v := nI 0) (pj_d p_X3_leastHarmPaint 9 rfl) rfl (by decide) ?_
  refine pj_ist6 (q := 19) (pj_d p_X3_leastHarmPaint 10 rfl) rfl (by first | rfl | assumption) ?_
  have loop : ∀ m2 i o7 o8 o9, pj_c1 o7 = true → pj_c1 o8 = true → pj_c1 o9 = true → τ 1 - i < m2 → i ≤ τ 1 → pj_V E B l Y_X3_leastHarmPaint 7 0 0 19 [some (.ref f0), some (.ref k), some (.int (nI w)), some (.int (nI (gd_harms τ 7))), some (.int (gd_o1 (gd_bp τ (32 * i)))), some (.int (gd_o2 (gd_bp τ (32 * i)))), some (.int (nI i)), o7, o8, o9] [] h n 0 0 (pj_is (some (.int (if w = 0 then gd_o1 (gd_bp τ (32 * τ 1)) else gd_o2 (gd_bp τ (32 * τ 1))))) h n) := by
    intro m2
    induction m2 with
    | zero => intro i o7 o8 o9 _ _ _ hi; omega
    | succ m2 ih =>
      intro i o7 o8 o9 k7 k8 k9 hi hle
      refine pj_ild6 (q := 21) (pj_d p_X3_leastHarmPaint 11 rfl) rfl ?_
      refine pj_ald1 (q := 22) (pj_d p_X3_leastHarmPaint 12 rfl) rfl ?_
      refine pj_cp (pj_rV (q := 25) (c_X9_thingCount hT) (pj_d p_X3_leastHarmPaint 13 rfl) rfl kX3_23 o_X9_thingCount (by assumption) (by rfl) (by rfl) (by rfl) (by rfl) (Nat.le_of_ble_eq_true rfl) (by decide)) (by decide) (by decide) ?_
      refine pj_icmp_ge (t := 125) (q := 28) (pj_d p_X3_leastHarmPaint 14 rfl) rfl (by decide) (fun c1 => ?_) (fun c1 => ?_)
      · have he : i = (τ 1) := by have := gd_ge c1 (by omega) (by omega); omega
        subst he
        refine pj_ild2 (q := 126) (pj_d p_X3_leastHarmPaint 61 rfl) rfl ?_
        refine pj_if_ne (t := 134) (q := 129) (pj_d p_X3_leastHarmPaint 62 rfl) rfl (by decide) (fun c2 => ?_) (fun c2 => ?_)
        · have : ¬ w = 0 := fun q => c2 (by rw [q]; rfl)
          rw [if_neg this]
          refine pj_ild5 (q := 136) (pj_d p_X3_leastHarmPaint 65 rfl) rfl ?_
          refine pj_iret rfl (pj_d p_X3_leastHarmPaint 66 rfl) (by decide) (by decide) ?_
          exact ⟨rfl, rfl, rfl⟩
        · have : w = 0 := (nI_eq (by omega) (by omega)).mp (c2.trans nI_0.symm)
          rw [if_pos this]
          refine pj_ild4 (q := 131) (pj_d p_X3_leastHarmPaint 63 rfl) rfl ?_
          refine pj_goto (t := 136) (pj_d p_X3_leastHarmPaint 64 rfl) (by decide) ?_
          refine pj_iret rfl (pj_d p_X3_leastHarmPaint 66 rfl) (by decide) (by decide) ?_
          exact ⟨rfl, rfl, rfl⟩
      have hlt : i < τ 1 := gd_lt c1 (by omega)
      obtain ⟨ki, mi, si⟩ := hW.2.2.2.2.1 i hlt
      refine pj_ald1 (q := 29) (pj_d p_X3_leastHarmPaint 15 rfl) rfl ?_
      refine pj_ild6 (q := 31) (pj_d p_X3_leastHarmPaint 16 rfl) rfl ?_
      refine pj_cp (pj_rV (q := 34) (c_X9_thingAt hT h7 hlt) (pj_d p_X3_leastHarmPaint 17 rfl) rfl kX3_27 o_X9_thingAt (by assumption) (by rfl) (by rfl) (by rfl) (by rfl) (Nat.le_of_ble_eq_true rfl) (by decide)) (by decide) (by decide) ?_
      refine pj_cp (vX3_56 (q := 37) rfl (hT.2.2.2.1 i hlt) ki (c_X8_takesPaint ki (hT.2.2.2.1 i hlt)) (pj_d p_X3_leastHarmPaint 18 rfl) rfl rfl rfl (Nat.le_of_ble_eq_true rfl) (by decide)) (by decide) (by decide) ?_
      refine pj_if_ne (t := 43) (q := 40) (pj_d p_X3_leastHarmPaint 19 rfl) rfl (by decide) (fun c2 => ?_) (fun c2 => ?_)
      rotate_left
      · have hk4 := gd_dec_f c2
        refine pj_goto (t := 119) (pj_d p_X3_leastHarmPaint 20 rfl) (by decide) ?_
        refine pj_iinc6 (q := 122) (v := 1) (pj_d p_X3_leastHarmPaint 59 rfl) rfl (by first | rfl | assumption) (by decide) ?_
        refine pj_goto (t := 19) (pj_d p_X3_leastHarmPaint 60 rfl) (by decide) ?_
        rw [nI_1]
        have := ih (i + 1) o7 o8 o9 k7 k8 k9 (by omega) (by omega)
        rw [gd_bp_skip (τ := τ) (i := 32 * i) (j := 32 * (i + 1)) (by omega) (fun c a1 a2 q => by rw [show c / 32 = i by omega] at q; exact hk4 q.2)] at this
        exact this
      have hk4 := gd_dec_t c2
      have hR := gd_harms_set hW hlt
      generalize gd_sm (gd_rj τ i) (τ 2) = R at hR
      have hR0 : gd_harms τ 7 = R + gd_ww τ i (τ (12 + 3 * i)) (τ 1) := by rw [← hR, gd_set_id]
      refine pj_ild3 (q := 44) (pj_d p_X3_leastHarmPaint 21 rfl) rfl ?_
      refine pj_ald1 (q := 45) (pj_d p_X3_leastHarmPaint 22 rfl) rfl ?_
      refine pj_ild6 (q := 47) (pj_d p_X3_leastHarmPaint 23 rfl) rfl ?_
      refine pj_ald1 (q := 48) (pj_d p_X3_leastHarmPaint 24 rfl) rfl ?_
      refine pj_ild6 (q := 50) (pj_d p_X3_leastHarmPaint 25 rfl) rfl ?_
      refine pj_cp (pj_rV (q := 53) (c_X9_thingAt hT h7 hlt) (pj_d p_X3_leastHarmPaint 26 rfl) rfl kX3_27 o_X9_thingAt (by assumption) (by rfl) (by rfl) (by rfl) (by rfl) (Nat.le_of_ble_eq_true rfl) (by decide)) (by decide) (by decide) ?_
      refine pj_cp (vX3_60 (q := 56) rfl (hT.2.2.2.1 i hlt) ki (c_X8_mixed (hT.2.2.2.1 i hlt) ki) (pj_d p_X3_leastHarmPaint 27 rfl) rfl rfl rfl (Nat.le_of_ble_eq_true rfl) (by decide)) (by decide) (by decide) ?_
      refine pj_cp (pj_rS (q := 59) (c_X3_weekHarmWith hT hW hlt mi) (pj_d p_X3_leastHarmPaint 28 rfl) rfl kX3_63 o_X3_weekHarmWith (by rfl) (by rfl) (Nat.le_of_ble_eq_true rfl) (by decide)) (by decide) (by decide) ?_
      refine pj_isub (q := 60) (pj_d p_X3_leastHarmPaint 29 rfl) rfl ?_
      rw [gd_sub (by omega), show gd_harms τ 7 - gd_ww τ i (τ (12 + 3 * i)) (τ 1) = R by omega]
      refine pj_ist7 (q := 62) (pj_d p_X3_leastHarmPaint 30 rfl) rfl (by first | rfl | assumption) ?_
      refine pj_iconst (q := 63) (v := nI 1) (pj_d p_X3_leastHarmPaint 31 rfl) rfl (by decide) ?_
      refine pj_ist8 (q := 65) (pj_d p_X3_leastHarmPaint 32 rfl) rfl (by first | rfl | assumption) ?_
      have e1 : gd_bp τ (32 * i + 1) = gd_bp τ (32 * i) := gd_bp_skip (by omega) (fun c a1 a2 q => by have := q.1; omega)
      rw [← e1]
      have inner : ∀ m3 m o9, pj_c1 o9 = true → 32 - m < m3 → m ≤ 32 → 1 ≤ m → pj_V E B l Y_X3_leastHarmPaint 7 0 0 65 [some (.ref f0), some (.ref k), some (.int (nI w)), some (.int (nI (gd_harms τ 7))), some (.int (gd_o1 (gd_bp τ (32 * i + m)))), some (.int (gd_o2 (gd_bp τ (32 * i + m)))), some (.int (nI i)), some (.int (nI R)), some (.int (nI m)), o9] [] h n 0 0 (pj_is (some (.int (if w = 0 then gd_o1 (gd_bp τ (32 * τ 1)) else gd_o2 (gd_bp τ (32 * τ 1))))) h n) := by
        intro m3
        induction m3 with
        | zero => intro m o9 _ hi; omega
        | succ m3 ih3 =>
          intro m o9 k9 hm hmle hm1
          refine pj_ild8 (q := 67) (pj_d p_X3_leastHarmPaint 33 rfl) rfl ?_
          refine pj_bipush (q := 69) (v := nI 31) (pj_d p_X3_leastHarmPaint 34 rfl) rfl (by decide) ?_
          refine pj_icmp_gt (t := 119) (q := 72) (pj_d p_X3_leastHarmPaint 35 rfl) rfl (by decide) (fun c3 => ?_) (fun c3 => ?_)
          · have m32 : m = 32 := by
              have : 31 < m := (nI_ltI (by omega) (by omega)).mp c3
              omega
            subst m32
            refine pj_iinc6 (q := 122) (v := 1) (pj_d p_X3_leastHarmPaint 59 rfl) rfl (by first | rfl | assumption) (by decide) ?_
            refine pj_goto (t := 19) (pj_d p_X3_leastHarmPaint 60 rfl) (by decide) ?_
            rw [nI_1]
            exact ih (i + 1) _ _ _ rfl rfl k9 (by omega) (by omega)
          have m31 : m < 32 := by
            have : ¬ 31 < m := fun q => c3 (nI_lt q (by omega))
            omega
          refine pj_ild7 (q := 74) (pj_d p_X3_leastHarmPaint 36 rfl) rfl ?_
          refine pj_ald1 (q := 75) (pj_d p_X3_leastHarmPaint 37 rfl) rfl ?_
          refine pj_ild6 (q := 77) (pj_d p_X3_leastHarmPaint 38 rfl) rfl ?_
          refine pj_ild8 (q := 79) (pj_d p_X3_leastHarmPaint 39 rfl) rfl ?_
          refine pj_cp (pj_rS (q := 82) (c_X3_weekHarmWith hT hW hlt m31) (pj_d p_X3_leastHarmPaint 40 rfl) rfl kX3_63 o_X3_weekHarmWith (by rfl) (by rfl) (Nat.le_of_ble_eq_true rfl) (by decide)) (by decide) (by decide) ?_
          refine pj_iadd (q := 83) (pj_d p_X3_leastHarmPaint 41 rfl) rfl ?_
          rw [nI_add, ← hR m]
          have hH := gd_bpH_at (τ := τ) (i := i) m31
          have hl : gd_harms (gd_set τ (12 + 3 * i) m) 7 ≤ 1120 := gd_harms_le (gd_W_mix hW hlt m31)
          obtain ⟨T1, T2⟩ := gd_bp_test hW (c := 32 * i + m) (by omega) ⟨by omega, by rw [show (32 * i + m) / 32 = i by omega]; exact hk4⟩ hH.symm hl
          generalize gd_harms (gd_set τ (12 + 3 * i) m) 7 = H at *
          refine pj_ist9 (q := 85) (pj_d p_X3_leastHarmPaint 42 rfl) rfl (by first | rfl | assumption) ?_
          refine pj_ild4 (q := 87) (pj_d p_X3_leastHarmPaint 43 rfl) rfl ?_
          refine pj_ldc (q := 89) (pj_d p_X3_leastHarmPaint 44 rfl) rfl kX3_55 ?_
          have put : gd_bp τ (32 * i + m + 1) = some (32 * i + m, H) → pj_V E B l Y_X3_leastHarmPaint 7 0 0 99 [some (.ref f0), some (.ref k), some (.int (nI w)), some (.int (nI (gd_harms τ 7))), some (.int (gd_o1 (gd_bp τ (32 * i + m)))), some (.int (gd_o2 (gd_bp τ (32 * i + m)))), some (.int (nI i)), some (.int (nI R)), some (.int (nI m)), some (.int (nI H))] [] h n 0 0 (pj_is (some (.int (if w = 0 then gd_o1 (gd_bp τ (32 * τ 1)) else gd_o2 (gd_bp τ (32 * τ 1))))) h n) := by
            intro e
            refine pj_bipush (q := 101) (v := nI 32) (pj_d p_X3_leastHarmPaint 49 rfl) rfl (by decide) ?_
            refine pj_ild6 (q := 103) (pj_d p_X3_leastHarmPaint 50 rfl) rfl ?_
            refine pj_imul (q := 104) (pj_d p_X3_leastHarmPaint 51 rfl) rfl ?_
            refine pj_ild8 (q := 106) (pj_d p_X3_leastHarmPaint 52 rfl) rfl ?_
            refine pj_iadd (q := 107) (pj_d p_X3_leastHarmPaint 53 rfl) rfl ?_
            rw [pk_mul, nI_add]
            refine pj_ist4 (q := 109) (pj_d p_X3_leastHarmPaint 54 rfl) rfl (by first | rfl | assumption) ?_
            refine pj_ild9 (q := 111) (pj_d p_X3_leastHarmPaint 55 rfl) rfl ?_
            refine pj_ist5 (q := 113) (pj_d p_X3_leastHarmPaint 56 rfl) rfl (by first | rfl | assumption) ?_
            refine pj_iinc8 (q := 116) (v := 1) (pj_d p_X3_leastHarmPaint 57 rfl) rfl (by first | rfl | assumption) (by decide) ?_
            refine pj_goto (t := 65) (pj_d p_X3_leastHarmPaint 58 rfl) (by decide) ?_
            rw [nI_1]
            have := ih3 (m + 1) (some (.int (nI H))) rfl (by omega) (by omega) (by omega)
            rw [← Nat.add_assoc, e] at this
            exact this
          refine pj_icmp_eq (t := 99) (q := 92) (pj_d p_X3_leastHarmPaint 45 rfl) rfl (by decide) (fun c4 => ?_) (fun c4 => ?_)
          · exact put (T1 c4)
          refine pj_ild9 (q := 94) (pj_d p_X3_leastHarmPaint 46 rfl) rfl ?_
          refine pj_ild5 (q := 96) (pj_d p_X3_leastHarmPaint 47 rfl) rfl ?_
          refine pj_icmp_ge (t := 113) (q := 99) (pj_d p_X3_leastHarmPaint 48 rfl) rfl (by decide) (fun c5 => ?_) (fun c5 => ?_)
          · have e := (T2 c4).1 c5
            refine pj_iinc8 (q := 116) (v := 1) (pj_d p_X3_leastHarmPaint 57 rfl) rfl (by first | rfl | assumption) (by decide) ?_
            refine pj_goto (t := 65) (pj_d p_X3_leastHarmPaint 58 rfl) (by decide) ?_
            rw [nI_1]
            have := ih3 (m + 1) (some (.int (nI H))) rfl (by omega) (by omega) (by omega)
            rw [← Nat.add_assoc, e] at this
            exact this
          · exact put ((T2 c4).2 c5)
      exact inner 33 1 _ k9 (by omega) (by omega) (by omega)
  exact loop (τ 1 + 1) 0 none none none rfl rfl rfl (by omega) (by omega)
theorem c_X11_bestPaint (hX : gd_XR h b po lf st τ ac) (w : Int32) : pj_Ct E B l Y_X11_bestPaint 8 0 0 [.ref b, .int w] h n (pj_is (some (.int (sp_bestPaint τ w))) h n) := by
  obtain ⟨hx, hF, hW, hp⟩ := hX
  have h7 := hW.1
  have F0 := hF.1
  refine pj_in rfl (ls := [some (.ref b), some (.int (w))]) rfl (Nat.le_of_ble_eq_true rfl) ?_
  cases po with
  | none =>
    obtain ⟨p0, p1⟩ := hp
    have hx : h b = some (.inr (10, [.ref (b + 1), .ref (b + 13), .ref (b + 15), .ref (b + 19), .ref (b + 21), .null, .int lf, .int st])) := hx
    refine pj_ald0 (q := 1) (pj_d p_X11_bestPaint 0 rfl) rfl ?_
    refine pj_gf (q := 4) (k := 5) (pj_d p_X11_bestPaint 1 rfl) rfl kX11_102 (by assumption) (by rfl) (by rfl) ?_
    refine pj_ifnonnullN (q := 7) (pj_d p_X11_bestPaint 2 rfl) rfl ?_
    refine pj_ldc (q := 9) (pj_d p_X11_bestPaint 3 rfl) rfl kX11_112 ?_
    refine pj_iret rfl (pj_d p_X11_bestPaint 4 rfl) (by decide) (by decide) ?_
    exact ⟨by simp [sp_bestPaint, p0], rfl, rfl⟩
  | some k =>
    obtain ⟨hk, p0, hT⟩ := hp
    have hx : h b = some (.inr (10, [.ref (b + 1), .ref (b + 13), .ref (b + 15), .ref (b + 19), .ref (b + 21), .ref k, .int lf, .int st])) := hx
    have t0 := hT.1
    refine pj_ald0 (q := 1) (pj_d p_X11_bestPaint 0 rfl) rfl ?_
    refine pj_gf (q := 4) (k := 5) (pj_d p_X11_bestPaint 1 rfl) rfl kX11_102 (by assumption) (by rfl) (by rfl) ?_
    refine pj_ifnonnull (t := 10) (pj_d p_X11_bestPaint 2 rfl) (by decide) ?_
    refine pj_ild1 (q := 11) (pj_d p_X11_bestPaint 5 rfl) rfl ?_
    refine pj_cp (pj_rS (q := 14) (c_X11_isChoice w) (pj_d p_X11_bestPaint 6 rfl) rfl kX11_195 o_X11_isChoice (by rfl) (by rfl) (Nat.le_of_ble_eq_true rfl) (by decide)) (by decide) (by decide) ?_
    refine pj_if_eq (t := 32) (q := 17) (pj_d p_X11_bestPaint 7 rfl) rfl (by decide) (fun c1 => ?_) (fun c1 => ?_)
    · refine pj_ldc (q := 34) (pj_d p_X11_bestPaint 15 rfl) rfl kX11_47 ?_
      refine pj_iret rfl (pj_d p_X11_bestPaint 16 rfl) (by decide) (by decide) ?_
      exact ⟨by simp [sp_bestPaint, p0, (gd_b_z _).mp c1], rfl, rfl⟩
    · have e := (gd_b_n _).mp c1
      obtain ⟨j, hj, rfl, hc⟩ := gd_rng_of (hi := 1) e
      refine pj_ald0 (q := 18) (pj_d p_X11_bestPaint 8 rfl) rfl ?_
      refine pj_gf (q := 21) (k := 2) (pj_d p_X11_bestPaint 9 rfl) rfl kX11_26 (by assumption) (by rfl) (by rfl) ?_
      refine pj_ald0 (q := 22) (pj_d p_X11_bestPaint 10 rfl) rfl ?_
      refine pj_gf (q := 25) (k := 5) (pj_d p_X11_bestPaint 11 rfl) rfl kX11_102 (by assumption) (by rfl) (by rfl) ?_
      refine pj_ild1 (q := 26) (pj_d p_X11_bestPaint 12 rfl) rfl ?_
      refine pj_cp (pj_rV (q := 29) (c_X3_leastHarmPaint hF hT hW hj) (pj_d p_X11_bestPaint 13 rfl) rfl kX11_205 o_X3_leastHarmPaint (by assumption) (by rfl) (by rfl) (by rfl) (by rfl) (Nat.le_of_ble_eq_true rfl) (by decide)) (by decide) (by decide) ?_
      refine pj_goto (t := 34) (pj_d p_X11_bestPaint 14 rfl) (by decide) ?_
      refine pj_iret rfl (pj_d p_X11_bestPaint 16 rfl) (by decide) (by decide) ?_
      refine ⟨?_, rfl, rfl⟩
      rw [sp_bestPaint, if_pos p0, if_pos e, nI_toInt (by omega)]
      by_cases q : j = 0
      · rw [if_pos q, if_pos (by omega)]
      · rw [if_neg q, if_neg (by omega)]
theorem c_X12_bestPaint (hR : gd_MR h g v τ) (w : Int32) : pj_Ct E B l Y_X12_bestPaint 5 0 0 [.ref g, .int w] h n (pj_is (some (.int (sp_bestPaint τ w))) h n) := by
  obtain ⟨hM, hT, hv, hW, h1⟩ := hR
  have h7 := hW.1
  have h8 := hW.2.1
  refine pj_in rfl (ls := [some (.ref g), some (.int (w)), none, none, none, none, none, none, none]) rfl (Nat.le_of_ble_eq_true rfl) ?_
  refine gd_thr (pj_d p_X12_bestPaint 0 rfl) (pj_d p_X12_bestPaint 1 rfl) (pj_d p_X12_bestPaint 2 rfl) rfl hM hv ?_
  refine pj_ald0 (q := 6) (pj_d p_X12_bestPaint 3 rfl) rfl ?_
  refine pj_cp (pj_rV (q := 9) (c_X12_isThere hM hT h1) (pj_d p_X12_bestPaint 4 rfl) rfl kX12_176 o_X12_isThere (by assumption) (by rfl) (by rfl) (by rfl) (by rfl) (Nat.le_of_ble_eq_true rfl) (by decide)) (by decide) (by decide) ?_
  refine pj_if_ne (t := 15) (q := 12) (pj_d p_X12_bestPaint 5 rfl) rfl (by decide) (fun c1 => ?_) (fun c1 => ?_)
  rotate_left
  · have ht := gd_dec_f c1
    refine pj_ldc (q := 14) (pj_d p_X12_bestPaint 6 rfl) rfl kX12_179 ?_
    refine pj_iret rfl (pj_d p_X12_bestPaint 7 rfl) (by decide) (by decide) ?_
    exact ⟨by simp [sp_bestPaint, ht], rfl, rfl⟩
  have ht := gd_dec_t c1
  refine pj_ild1 (q := 16) (pj_d p_X12_bestPaint 8 rfl) rfl ?_
  refine pj_i2l (q := 17) (pj_d p_X12_bestPaint 9 rfl) rfl ?_
  refine pj_lconst (q := 18) (v := lN 0) (pj_d p_X12_bestPaint 10 rfl) rfl (by decide) ?_
  refine pj_lconst (q := 19) (v := lN 1) (pj_d p_X12_bestPaint 11 rfl) rfl (by decide) ?_
  refine pj_cp (pj_rS (q := 22) (c_X12_in w (lN 0) (lN 1) 0 1 (by decide) (by decide)) (pj_d p_X12_bestPaint 12 rfl) rfl kX12_57 o_X12_in (by rfl) (by rfl) (Nat.le_of_ble_eq_true rfl) (by decide)) (by decide) (by decide) ?_
  refine pj_if_ne (t := 28) (q := 25) (pj_d p_X12_bestPaint 13 rfl) rfl (by decide) (fun c2 => ?_) (fun c2 => ?_)
  rotate_left
  · refine pj_ldc (q := 27) (pj_d p_X12_bestPaint 14 rfl) rfl kX12_67 ?_
    refine pj_iret rfl (pj_d p_X12_bestPaint 15 rfl) (by decide) (by decide) ?_
    exact ⟨by simp [sp_bestPaint, ht, (gd_b_z _).mp c2], rfl, rfl⟩
  have e := (gd_b_n _).mp c2
  obtain ⟨j, hj, rfl, hc⟩ := gd_rng_of (hi := 1) e
  have hsp : sp_bestPaint τ (nI j) = if j = 0 then gd_o1 (gd_bp τ (32 * τ 1)) else gd_o2 (gd_bp τ (32 * τ 1)) := by
    rw [sp_bestPaint, if_pos ht, if_pos e, nI_toInt (by omega)]
    by_cases q : j = 0
    · rw [if_pos q, if_pos (by omega)]
    · rw [if_neg q, if_neg (by omega)]
  rw [hsp]
  refine pj_ldc (q := 30) (pj_d p_X12_bestPaint 16 rfl) rfl kX12_90 ?_
  refine pj_ist2 (q := 31) (pj_d p_X12_bestPaint 17 rfl) rfl (by first | rfl | assumption) ?_
  refine pj_ldc (q := 33) (pj_d p_X12_bestPaint 18 rfl) rfl kX12_90 ?_
  refine pj_ist3 (q := 34) (pj_d p_X12_bestPaint 19 rfl) rfl (by first | rfl | assumption) ?_
  refine pj_iconst (q := 35) (v := nI 0) (pj_d p_X12_bestPaint 20 rfl) rfl (by decide) ?_
  refine pj_ist4 (q := 37) (pj_d p_X12_bestPaint 21 rfl) rfl (by first | rfl | assumption) ?_
  have loop : ∀ m2 t o5 o6 o7 o8, pj_c1 o5 = true → pj_c1 o6 = true → pj_c1 o7 = true → pj_c1 o8 = true → τ 1 - t < m2 → t ≤ τ 1 → pj_V E B l Y_X12_bestPaint 5 0 0 37 [some (.ref g), some (.int (nI j)), some (.int (gd_o1 (gd_bp τ (32 * t)))), some (.int (gd_o2 (gd_bp τ (32 * t)))), some (.int (nI t)), o5, o6, o7, o8] [] h n 0 0 (pj_is (some (.int (if j = 0 then gd_o1 (gd_bp τ (32 * τ 1)) else gd_o2 (gd_bp τ (32 * τ 1))))) h n) := by
    intro m2
    induction m2 with
    | zero => intro t o5 o6 o7 o8 _ _ _ _ hi; omega
    | succ m2 ih =>
      intro t o5 o6 o7 o8 k5 k6 k7 k8 hi hle
      refine pj_ild4 (q := 39) (pj_d p_X12_bestPaint 22 rfl) rfl ?_
      refine pj_ald0 (q := 40) (pj_d p_X12_bestPaint 23 rfl) rfl ?_
      refine pj_gf (q := 43) (k := 5) (pj_d p_X12_bestPaint 24 rfl) rfl kX12_19 (by assumption) (by rfl) (by rfl) ?_
      refine pj_iconst (q := 44) (v := nI 1) (pj_d p_X12_bestPaint 25 rfl) rfl (by decide) ?_
      refine pj_ialdN (q := 45) (pj_d p_X12_bestPaint 26 rfl) rfl (by assumption) (by rfl) (by first | assumption | omega) (Nat.le_of_ble_eq_true rfl) ?_
      refine pj_icmp_ge (t := 179) (q := 48) (pj_d p_X12_bestPaint 27 rfl) rfl (by decide) (fun c3 => ?_) (fun c3 => ?_)
      · have he : t = (τ 1) := by have := gd_ge c3 (by omega) (by omega); omega
        subst he
        refine pj_ild1 (q := 180) (pj_d p_X12_bestPaint 100 rfl) rfl ?_
        refine pj_if_ne (t := 187) (q := 183) (pj_d p_X12_bestPaint 101 rfl) rfl (by decide) (fun c4 => ?_) (fun c4 => ?_)
        · have : ¬ j = 0 := fun q => c4 (by rw [q]; rfl)
          rw [if_neg this]
          refine pj_ild3 (q := 188) (pj_d p_X12_bestPaint 104 rfl) rfl ?_
          refine pj_iret rfl (pj_d p_X12_bestPaint 105 rfl) (by decide) (by decide) ?_
          exact ⟨rfl, rfl, rfl⟩
        · have : j = 0 := (nI_eq (by omega) (by omega)).mp (c4.trans nI_0.symm)
          rw [if_pos this]
          refine pj_ild2 (q := 184) (pj_d p_X12_bestPaint 102 rfl) rfl ?_
          refine pj_goto (t := 188) (pj_d p_X12_bestPaint 103 rfl) (by decide) ?_
          refine pj_iret rfl (pj_d p_X12_bestPaint 105 rfl) (by decide) (by decide) ?_
          exact ⟨rfl, rfl, rfl⟩
      have hlt : t < τ 1 := gd_lt c3 (by omega)
      obtain ⟨ki, mi, si⟩ := hW.2.2.2.2.1 t hlt
      refine pj_ald0 (q := 49) (pj_d p_X12_bestPaint 28 rfl) rfl ?_
      refine pj_ild4 (q := 51) (pj_d p_X12_bestPaint 29 rfl) rfl ?_
      refine pj_iconst (q := 52) (v := nI 1) (pj_d p_X12_bestPaint 30 rfl) rfl (by decide) ?_
      refine pj_cp (pj_rV (q := 55) (c_X12_of hM hT (t := t) (w := 1) (by omega) (by omega)) (pj_d p_X12_bestPaint 31 rfl) rfl kX12_158 o_X12_of (by assumption) (by rfl) (by rfl) (by rfl) (by rfl) (Nat.le_of_ble_eq_true rfl) (by decide)) (by decide) (by decide) ?_
      rw [show 11 + 3 * t + 1 = 12 + 3 * t by omega]
      refine pj_ist5 (q := 57) (pj_d p_X12_bestPaint 32 rfl) rfl (by first | rfl | assumption) ?_
      refine pj_iconst (q := 58) (v := nI 1) (pj_d p_X12_bestPaint 33 rfl) rfl (by decide) ?_
      refine pj_ist6 (q := 60) (pj_d p_X12_bestPaint 34 rfl) rfl (by first | rfl | assumption) ?_
      have e1 : gd_bp τ (32 * t + 1) = gd_bp τ (32 * t) := gd_bp_skip (by omega) (fun c a1 a2 q => by have := q.1; omega)
      rw [← e1]
      have inner : ∀ m3 m x o7 o8, pj_c1 o7 = true → pj_c1 o8 = true → 32 - m < m3 → m ≤ 32 → 1 ≤ m → x < 32 → pj_V E B l Y_X12_bestPaint 5 0 0 60 [some (.ref g), some (.int (nI j)), some (.int (gd_o1 (gd_bp τ (32 * t + m)))), some (.int (gd_o2 (gd_bp τ (32 * t + m)))), some (.int (nI t)), some (.int (nI (τ (12 + 3 * t)))), some (.int (nI m)), o7, o8] [] (pj_up h (g + 4) (.inl (0, 56, .inl (fun j => nI (gd_set τ (12 + 3 * t) x j))))) n 0 0 (pj_is (some (.int (if j = 0 then gd_o1 (gd_bp τ (32 * τ 1)) else gd_o2 (gd_bp τ (32 * τ 1))))) h n) := by
        intro m3
        induction m3 with
        | zero => intro m x o7 o8 _ _ hi; omega
        | succ m3 ih3 =>
          intro m x o7 o8 k7 k8 hm hmle hm1 hx
          have hM1 : (pj_up h (g + 4) (.inl (0, 56, .inl (fun j => nI (gd_set τ (12 + 3 * t) x j))))) g = some (.inr (11, gd_Mo g v)) := (pj_up_n (by omega)).trans hM
          have hT1 : (pj_up h (g + 4) (.inl (0, 56, .inl (fun j => nI (gd_set τ (12 + 3 * t) x j))))) (g + 4) = some (.inl (0, 56, .inl (fun j => nI (gd_set τ (12 + 3 * t) x j)))) := pj_up_s
          have out : gd_bp τ (32 * t + m) = gd_bp τ (32 * (t + 1)) → pj_V E B l Y_X12_bestPaint 5 0 0 157 [some (.ref g), some (.int (nI j)), some (.int (gd_o1 (gd_bp τ (32 * t + m)))), some (.int (gd_o2 (gd_bp τ (32 * t + m)))), some (.int (nI t)), some (.int (nI (τ (12 + 3 * t)))), some (.int (nI m)), o7, o8] [] (pj_up h (g + 4) (.inl (0, 56, .inl (fun j => nI (gd_set τ (12 + 3 * t) x j))))) n 0 0 (pj_is (some (.int (if j = 0 then gd_o1 (gd_bp τ (32 * τ 1)) else gd_o2 (gd_bp τ (32 * τ 1))))) h n) := by
            intro eq
            refine pj_ald0 (q := 158) (pj_d p_X12_bestPaint 87 rfl) rfl ?_
            refine pj_gf (q := 161) (k := 5) (pj_d p_X12_bestPaint 88 rfl) rfl kX12_19 (by assumption) (by rfl) (by rfl) ?_
            refine pj_bipush (q := 163) (v := nI 11) (pj_d p_X12_bestPaint 89 rfl) rfl (by decide) ?_
            refine pj_iconst (q := 164) (v := nI 3) (pj_d p_X12_bestPaint 90 rfl) rfl (by decide) ?_
            refine pj_ild4 (q := 166) (pj_d p_X12_bestPaint 91 rfl) rfl ?_
            refine pj_imul (q := 167) (pj_d p_X12_bestPaint 92 rfl) rfl ?_
            refine pj_iadd (q := 168) (pj_d p_X12_bestPaint 93 rfl) rfl ?_
            refine pj_iconst (q := 169) (v := nI 1) (pj_d p_X12_bestPaint 94 rfl) rfl (by decide) ?_
            refine pj_iadd (q := 170) (pj_d p_X12_bestPaint 95 rfl) rfl ?_
            refine pj_ild5 (q := 172) (pj_d p_X12_bestPaint 96 rfl) rfl ?_
            rw [pk_mul, nI_add, nI_add]
            have hix : 11 + 3 * t + 1 < 56 := by omega
            refine pj_iast (q := 173) (pj_d p_X12_bestPaint 97 rfl) rfl (by assumption) (by rfl) (by first | assumption | omega) (Nat.le_of_ble_eq_true rfl) ?_
            rw [pj_up_up, gd_setI', show 11 + 3 * t + 1 = 12 + 3 * t by omega, gd_set_set, gd_set_id, pj_up_id hT]
            refine pj_iinc4 (q := 176) (v := 1) (pj_d p_X12_bestPaint 98 rfl) rfl (by first | rfl | assumption) (by decide) ?_
            refine pj_goto (t := 37) (pj_d p_X12_bestPaint 99 rfl) (by decide) ?_
            rw [nI_1, eq]
            exact ih (t + 1) _ _ _ _ rfl rfl k7 k8 (by omega) (by omega)
          refine pj_ild6 (q := 62) (pj_d p_X12_bestPaint 35 rfl) rfl ?_
          refine pj_bipush (q := 64) (v := nI 32) (pj_d p_X12_bestPaint 36 rfl) rfl (by decide) ?_
          refine pj_icmp_ge (t := 157) (q := 67) (pj_d p_X12_bestPaint 37 rfl) rfl (by decide) (fun c4 => ?_) (fun c4 => ?_)
          · have m32 : m = 32 := by have := gd_ge c4 (by omega) (by omega); omega
            exact out (by rw [m32]; rfl)
          have m31 : m < 32 := gd_lt c4 (by omega)
          refine pj_ald0 (q := 68) (pj_d p_X12_bestPaint 38 rfl) rfl ?_
          refine pj_ild4 (q := 70) (pj_d p_X12_bestPaint 39 rfl) rfl ?_
          refine pj_iconst (q := 71) (v := nI 0) (pj_d p_X12_bestPaint 40 rfl) rfl (by decide) ?_
          refine pj_cp (pj_rV (q := 74) (c_X12_of hM1 hT1 (t := t) (w := 0) (by omega) (by omega)) (pj_d p_X12_bestPaint 41 rfl) rfl kX12_158 o_X12_of (by assumption) (by rfl) (by rfl) (by rfl) (by rfl) (Nat.le_of_ble_eq_true rfl) (by decide)) (by decide) (by decide) ?_
          rw [show 11 + 3 * t + 0 = 11 + 3 * t by omega, gd_set_n (show 11 + 3 * t ≠ 12 + 3 * t by omega)]
          refine pj_iconst (q := 75) (v := nI 4) (pj_d p_X12_bestPaint 42 rfl) rfl (by decide) ?_
          refine pj_icmp_ge (t := 157) (q := 78) (pj_d p_X12_bestPaint 43 rfl) rfl (by decide) (fun c5 => ?_) (fun c5 => ?_)
          · have hk4 : ¬ τ (11 + 3 * t) < 4 := by have := gd_ge c5 (by omega) (by omega); omega
            exact out (gd_bp_skip (by omega) (fun c a1 a2 q => by rw [show c / 32 = t by omega] at q; exact hk4 q.2)).symm
          have hk4 : τ (11 + 3 * t) < 4 := gd_lt c5 (by omega)
          refine pj_ald0 (q := 79) (pj_d p_X12_bestPaint 44 rfl) rfl ?_
          refine pj_gf (q := 82) (k := 5) (pj_d p_X12_bestPaint 45 rfl) rfl kX12_19 (by assumption) (by rfl) (by rfl) ?_
          refine pj_bipush (q := 84) (v := nI 11) (pj_d p_X12_bestPaint 46 rfl) rfl (by decide) ?_
          refine pj_iconst (q := 85) (v := nI 3) (pj_d p_X12_bestPaint 47 rfl) rfl (by decide) ?_
          refine pj_ild4 (q := 87) (pj_d p_X12_bestPaint 48 rfl) rfl ?_
          refine pj_imul (q := 88) (pj_d p_X12_bestPaint 49 rfl) rfl ?_
          refine pj_iadd (q := 89) (pj_d p_X12_bestPaint 50 rfl) rfl ?_
          refine pj_iconst (q := 90) (v := nI 1) (pj_d p_X12_bestPaint 51 rfl) rfl (by decide) ?_
          refine pj_iadd (q := 91) (pj_d p_X12_bestPaint 52 rfl) rfl ?_
          refine pj_ild6 (q := 93) (pj_d p_X12_bestPaint 53 rfl) rfl ?_
          rw [pk_mul, nI_add, nI_add]
          have hix : 11 + 3 * t + 1 < 56 := by omega
          refine pj_iast (q := 94) (pj_d p_X12_bestPaint 54 rfl) rfl (by assumption) (by rfl) (by first | assumption | omega) (Nat.le_of_ble_eq_true rfl) ?_
          rw [pj_up_up, gd_setI', show 11 + 3 * t + 1 = 12 + 3 * t by omega, gd_set_set]
          clear hM1 hT1 out
          have hM1 : (pj_up h (g + 4) (.inl (0, 56, .inl (fun j => nI (gd_set τ (12 + 3 * t) m j))))) g = some (.inr (11, gd_Mo g v)) := (pj_up_n (by omega)).trans hM
          have hT1 : (pj_up h (g + 4) (.inl (0, 56, .inl (fun j => nI (gd_set τ (12 + 3 * t) m j))))) (g + 4) = some (.inl (0, 56, .inl (fun j => nI (gd_set τ (12 + 3 * t) m j)))) := pj_up_s
          refine pj_ald0 (q := 95) (pj_d p_X12_bestPaint 55 rfl) rfl ?_
          refine pj_bipush (q := 97) (v := nI 7) (pj_d p_X12_bestPaint 56 rfl) rfl (by decide) ?_
          refine pj_cp (pj_rV (q := 100) (c_X12_harmsOf hM1 hT1 (gd_W_mix hW hlt m31) (c := 7) (by omega)) (pj_d p_X12_bestPaint 57 rfl) rfl kX12_205 o_X12_harmsOf (by assumption) (by rfl) (by rfl) (by rfl) (by rfl) (Nat.le_of_ble_eq_true rfl) (by decide)) (by decide) (by decide) ?_
          have hH := gd_bpH_at (τ := τ) (i := t) m31
          have hl : gd_harms (gd_set τ (12 + 3 * t) m) 7 ≤ 1120 := gd_harms_le (gd_W_mix hW hlt m31)
          obtain ⟨T1, T2⟩ := gd_bp_test hW (c := 32 * t + m) (by omega) ⟨by omega, by rw [show (32 * t + m) / 32 = t by omega]; exact hk4⟩ hH.symm hl
          generalize gd_harms (gd_set τ (12 + 3 * t) m) 7 = H at *
          refine pj_ist7 (q := 102) (pj_d p_X12_bestPaint 58 rfl) rfl (by first | rfl | assumption) ?_
          refine pj_ild2 (q := 103) (pj_d p_X12_bestPaint 59 rfl) rfl ?_
          refine pj_ldc (q := 105) (pj_d p_X12_bestPaint 60 rfl) rfl kX12_90 ?_
          have nx : ∀ (z : Bool), gd_bp τ (32 * t + m + 1) = (if z = true then some (32 * t + m, H) else gd_bp τ (32 * t + m)) → pj_V E B l Y_X12_bestPaint 5 0 0 119 [some (.ref g), some (.int (nI j)), some (.int (gd_o1 (gd_bp τ (32 * t + m)))), some (.int (gd_o2 (gd_bp τ (32 * t + m)))), some (.int (nI t)), some (.int (nI (τ (12 + 3 * t)))), some (.int (nI m)), some (.int (nI H)), o8] [.int (gd_b z)] (pj_up h (g + 4) (.inl (0, 56, .inl (fun j => nI (gd_set τ (12 + 3 * t) m j))))) n 0 0 (pj_is (some (.int (if j = 0 then gd_o1 (gd_bp τ (32 * τ 1)) else gd_o2 (gd_bp τ (32 * τ 1))))) h n) := by
            intro z hz
            have go := ih3 (m + 1) m (some (.int (nI H))) (some (.int (gd_b z))) rfl rfl (by omega) (by omega) (by omega) m31
            rw [← Nat.add_assoc, hz] at go
            refine pj_ist8 (q := 121) (pj_d p_X12_bestPaint 68 rfl) rfl (by first | rfl | assumption) ?_
            refine pj_ild8 (q := 123) (pj_d p_X12_bestPaint 69 rfl) rfl ?_
            cases z with
            | false =>
              refine pj_if_eq (t := 137) (q := 126) (x := gd_b false) (pj_d p_X12_bestPaint 70 rfl) rfl (by decide) (fun _ => ?_) (fun z => absurd rfl z)
              refine pj_ild2 (q := 138) (pj_d p_X12_bestPaint 77 rfl) rfl ?_
              refine pj_ist2 (q := 139) (pj_d p_X12_bestPaint 78 rfl) rfl (by first | rfl | assumption) ?_
              refine pj_ild8 (q := 141) (pj_d p_X12_bestPaint 79 rfl) rfl ?_
              refine pj_if_eq (t := 149) (q := 144) (x := gd_b false) (pj_d p_X12_bestPaint 80 rfl) rfl (by decide) (fun _ => ?_) (fun z => absurd rfl z)
              refine pj_ild3 (q := 150) (pj_d p_X12_bestPaint 83 rfl) rfl ?_
              refine pj_ist3 (q := 151) (pj_d p_X12_bestPaint 84 rfl) rfl (by first | rfl | assumption) ?_
              refine pj_iinc6 (q := 154) (v := 1) (pj_d p_X12_bestPaint 85 rfl) rfl (by first | rfl | assumption) (by decide) ?_
              refine pj_goto (t := 60) (pj_d p_X12_bestPaint 86 rfl) (by decide) ?_
              rw [nI_1]
              exact go
            | true =>
              refine pj_if_eq (t := 137) (q := 126) (x := gd_b true) (pj_d p_X12_bestPaint 70 rfl) rfl (by decide) (fun z => absurd z (by decide)) (fun _ => ?_)
              refine pj_bipush (q := 128) (v := nI 32) (pj_d p_X12_bestPaint 71 rfl) rfl (by decide) ?_
              refine pj_ild4 (q := 130) (pj_d p_X12_bestPaint 72 rfl) rfl ?_
              refine pj_imul (q := 131) (pj_d p_X12_bestPaint 73 rfl) rfl ?_
              refine pj_ild6 (q := 133) (pj_d p_X12_bestPaint 74 rfl) rfl ?_
              refine pj_iadd (q := 134) (pj_d p_X12_bestPaint 75 rfl) rfl ?_
              refine pj_goto (t := 138) (pj_d p_X12_bestPaint 76 rfl) (by decide) ?_
              rw [pk_mul, nI_add]
              refine pj_ist2 (q := 139) (pj_d p_X12_bestPaint 78 rfl) rfl (by first | rfl | assumption) ?_
              refine pj_ild8 (q := 141) (pj_d p_X12_bestPaint 79 rfl) rfl ?_
              refine pj_if_eq (t := 149) (q := 144) (x := gd_b true) (pj_d p_X12_bestPaint 80 rfl) rfl (by decide) (fun z => absurd z (by decide)) (fun _ => ?_)
              refine pj_ild7 (q := 146) (pj_d p_X12_bestPaint 81 rfl) rfl ?_
              refine pj_goto (t := 150) (pj_d p_X12_bestPaint 82 rfl) (by decide) ?_
              refine pj_ist3 (q := 151) (pj_d p_X12_bestPaint 84 rfl) rfl (by first | rfl | assumption) ?_
              refine pj_iinc6 (q := 154) (v := 1) (pj_d p_X12_bestPaint 85 rfl) rfl (by first | rfl | assumption) (by decide) ?_
              refine pj_goto (t := 60) (pj_d p_X12_bestPaint 86 rfl) (by decide) ?_
              rw [nI_1]
              exact go
          refine pj_icmp_eq (t := 114) (q := 108) (pj_d p_X12_bestPaint 61 rfl) rfl (by decide) (fun c6 => ?_) (fun c6 => ?_)
          · refine pj_iconst (q := 115) (v := nI 1) (pj_d p_X12_bestPaint 65 rfl) rfl (by decide) ?_
            refine pj_goto (t := 119) (pj_d p_X12_bestPaint 66 rfl) (by decide) ?_
            exact nx true (by rw [T1 c6]; rfl)
          refine pj_ild7 (q := 110) (pj_d p_X12_bestPaint 62 rfl) rfl ?_
          refine pj_ild3 (q := 111) (pj_d p_X12_bestPaint 63 rfl) rfl ?_
          refine pj_icmp_ge (t := 118) (q := 114) (pj_d p_X12_bestPaint 64 rfl) rfl (by decide) (fun c7 => ?_) (fun c7 => ?_)
          · refine pj_iconst (q := 119) (v := nI 0) (pj_d p_X12_bestPaint 67 rfl) rfl (by decide) ?_
            exact nx false (by rw [(T2 c6).1 c7]; rfl)
          · refine pj_iconst (q := 115) (v := nI 1) (pj_d p_X12_bestPaint 65 rfl) rfl (by decide) ?_
            refine pj_goto (t := 119) (pj_d p_X12_bestPaint 66 rfl) (by decide) ?_
            exact nx true (by rw [(T2 c6).2 c7]; rfl)
      have := inner 33 1 (τ (12 + 3 * t)) o7 o8 k7 k8 (by omega) (by omega) (by omega) mi
      rw [gd_set_id, pj_up_id hT] at this
      exact this
  exact loop (τ 1 + 1) 0 none none none none rfl rfl rfl rfl (by omega) (by omega)
end
