/-! ===== the model: its cells; what is read of its town ===== -/
theorem pj_up_id {h : pj_H} {a : Nat} {c : pj_C} (ha : h a = some c) : pj_up h a c = h := by
  funext q
  by_cases hq : q = a
  · subst hq; rw [pj_up_s, ha]
  · rw [pj_up_n hq]
def gd_Mo (g : Nat) (v : Nat → Int32) : List Value := [.int (v 0), .int (v 1), .ref (g + 1), .ref (g + 2), .ref (g + 3), .ref (g + 4), .ref (g + 5), .ref (g + 6), .int (v 8), .ref (g + 7), .int (v 10), .int (v 11), .int (v 12), .int (v 13), .int (v 14), .int (v 15), .int (v 16), .int (v 17), .ref (g + 8), .ref (g + 9), .ref (g + 10), .ref (g + 11), .ref (g + 12), .int (v 23)]
def gd_rng (x : Int32) (lo hi : Int) : Bool := decide (lo ≤ x.toInt ∧ x.toInt ≤ hi)
def gd_bits (x : Nat) : Nat := gd_sm (fun k => x / 2 ^ k % 2) 7
def gd_like (τ : Nat → Nat) (t st : Nat) : Nat := gd_sm (fun k => if gd_lk τ k st = gd_lk τ t st then 2 ^ k else 0) (τ 1)
def gd_harms (τ : Nat → Nat) (m : Nat) : Nat := gd_sm (fun d => gd_harm τ (gd_miss τ d)) m
theorem gd_shr1 : ∀ x, x < 128 → ∀ k, k < 7 → (nI x >>> (nI k &&& 31)) &&& nI 1 = nI (x / 2 ^ k % 2) := by decide +kernel
theorem gd_shl1 : ∀ k, k < 8 → nI 1 <<< (nI k &&& 31) = nI (2 ^ k) := by decide +kernel
theorem gd_or2 : ∀ k, k < 7 → ∀ a, a < 2 ^ k → nI a ||| nI (2 ^ k) = nI (a + 2 ^ k) := by decide +kernel
theorem gd_or0 (a : Nat) : nI a ||| nI 0 = nI a := by
  rw [nI_0]; exact Int32.or_zero
theorem gd_twb : ∀ x, x < 32 → (gd_bits x ≤ 1 ↔ x &&& (x - 1) = 0) := by decide +kernel
theorem gd_like_lt (τ : Nat → Nat) (t st : Nat) : ∀ m, gd_sm (fun k => if gd_lk τ k st = gd_lk τ t st then 2 ^ k else 0) m < 2 ^ m
  | 0 => Nat.one_pos
  | m + 1 => by
    have := gd_like_lt τ t st m
    rw [gd_sm, Nat.pow_succ]
    split <;> omega
theorem gd_rng_nI {a : Nat} (ha : a < 2 ^ 31) (lo hi : Int) : gd_rng (nI a) lo hi = decide (lo ≤ (a : Int) ∧ (a : Int) ≤ hi) := by rw [gd_rng, nI_toInt ha]
theorem gd_rng_has {τ : Nat → Nat} (x : Int32) : gd_rng x 0 ((τ 1 : Int) - 1) = gd_has τ x := by
  unfold gd_rng gd_has
  rw [decide_eq_decide]
  omega
section
variable {E : pj_E} {B : Nat} {l : Launch} {h : pj_H} {n g : Nat} {τ : Nat → Nat} {v : Nat → Int32}
theorem gd_thr {Y : pj_Y} {d mc ms ce sl : Nat} {tl : List (Option Value)} {Q : Option Value → pj_H → Nat → Prop} (d0 : decode Y.2.1 0 = .ok (.aload_n 0, 1)) (d1 : decode Y.2.1 1 = .ok (.iconst 0, 1)) (d2 : decode Y.2.1 2 = .ok (.putfield 47, 3)) (hY : Y.1.cls = RX12) (hM : h g = some (.inr (11, gd_Mo g v))) (hv : v 0 = nI 0) (kk : pj_V E B l Y d mc ms 5 (some (.ref g) :: tl) [] h n ce sl Q) : pj_V E B l Y d mc ms 0 (some (.ref g) :: tl) [] h n ce sl Q := by
  refine pj_ald0 (q := 1) d0 rfl ?_
  refine pj_iconst (q := 2) (v := nI 0) d1 rfl (by decide) ?_
  refine pj_pf (q := 5) (k := 0) (fs' := gd_Mo g v) d2 rfl (by rw [hY]; exact kX12_47) hM rfl (Or.inl rfl) rfl rfl rfl (by show 0 < 24; decide) ?_ ?_
  · show (gd_Mo g v).set 0 (.int (nI 0)) = gd_Mo g v
    rw [← hv]; rfl
  · rw [pj_up_id hM]
    exact kk
theorem c_X12_in (x : Int32) (a b : Int64) (lo hi : Int) (ha : a.toInt = lo) (hb : b.toInt = hi) : pj_Ct E B l Y_X12_in 1 0 0 [.long x.toInt64, .long a, .long b] h n (pj_is (some (.int (gd_b (gd_rng x lo hi)))) h n) := by
  subst ha
  subst hb
  refine pj_in rfl (ls := [some (.long x.toInt64), none, some (.long a), none, some (.long b), none]) rfl (Nat.le_of_ble_eq_true rfl) ?_
  refine pj_lld0 (q := 1) (pj_d p_X12_in 0 rfl) rfl ?_
  refine pj_lld2 (q := 2) (pj_d p_X12_in 1 rfl) rfl ?_
  refine pj_lcmp (q := 3) (pj_d p_X12_in 2 rfl) rfl ?_
  have no : ¬ gd_rng x a.toInt b.toInt = true → pj_V E B l Y_X12_in 1 0 0 17 [some (.long x.toInt64), none, some (.long a), none, some (.long b), none] [] h n 0 0 (pj_is (some (.int (gd_b (gd_rng x a.toInt b.toInt)))) h n) := by
    intro hn
    rw [Bool.eq_false_iff.mpr hn]
    refine pj_iconst (q := 18) (v := nI 0) (pj_d p_X12_in 10 rfl) rfl (by decide) ?_
    refine pj_zret rfl (by first | rfl | decide | (split <;> rfl)) (pj_d p_X12_in 11 rfl) (by decide) (by decide) ?_
    exact ⟨rfl, rfl, rfl⟩
  have e : x.toInt64.toInt = x.toInt := by simp
  refine pj_if_lt (t := 17) (q := 6) (pj_d p_X12_in 3 rfl) rfl (by decide) (fun c1 => ?_) (fun c1 => ?_)
  · rw [lg_cmp_lt, Int64.lt_iff_toInt_lt, e] at c1
    exact no (by rw [gd_rng, decide_eq_true_eq]; omega)
  refine pj_lld0 (q := 7) (pj_d p_X12_in 4 rfl) rfl ?_
  refine pj_lld4 (q := 9) (pj_d p_X12_in 5 rfl) rfl ?_
  refine pj_lcmp (q := 10) (pj_d p_X12_in 6 rfl) rfl ?_
  rw [lg_cmp_lt, Int64.lt_iff_toInt_lt, e] at c1
  refine pj_if_gt (t := 17) (q := 13) (pj_d p_X12_in 7 rfl) rfl (by decide) (fun c2 => ?_) (fun c2 => ?_)
  · rw [lg_cmp_gt, Int64.lt_iff_toInt_lt, e] at c2
    exact no (by rw [gd_rng, decide_eq_true_eq]; omega)
  · rw [lg_cmp_gt, Int64.lt_iff_toInt_lt, e] at c2
    have hy : gd_rng x a.toInt b.toInt = true := by rw [gd_rng, decide_eq_true_eq]; omega
    rw [hy]
    refine pj_iconst (q := 14) (v := nI 1) (pj_d p_X12_in 8 rfl) rfl (by decide) ?_
    refine pj_goto (t := 18) (pj_d p_X12_in 9 rfl) (by decide) ?_
    refine pj_zret rfl (by first | rfl | decide | (split <;> rfl)) (pj_d p_X12_in 11 rfl) (by decide) (by decide) ?_
    exact ⟨rfl, rfl, rfl⟩
theorem c_X12_isRow (r : Int32) : pj_Ct E B l Y_X12_isRow 2 0 0 [.int r] h n (pj_is (some (.int (gd_b (gd_rng r 0 7)))) h n) := by
  refine pj_in rfl (ls := [some (.int r)]) rfl (Nat.le_of_ble_eq_true rfl) ?_
  refine pj_ild0 (q := 1) (pj_d p_X12_isRow 0 rfl) rfl ?_
  refine pj_i2l (q := 2) (pj_d p_X12_isRow 1 rfl) rfl ?_
  refine pj_lconst (q := 3) (v := lN 0) (pj_d p_X12_isRow 2 rfl) rfl (by decide) ?_
  refine pj_ldc2 (q := 6) (pj_d p_X12_isRow 3 rfl) rfl kX12_55 ?_
  refine pj_cp (pj_rS (q := 9) (c_X12_in r (lN 0) 7 0 7 (by decide) (by decide)) (pj_d p_X12_isRow 4 rfl) rfl kX12_57 o_X12_in (by rfl) (by rfl) (Nat.le_of_ble_eq_true rfl) (by decide)) (by decide) (by decide) ?_
  refine pj_zret rfl (gd_b_nar _) (pj_d p_X12_isRow 5 rfl) (by decide) (by decide) ⟨rfl, rfl, rfl⟩
theorem c_X12_isFar (r : Int32) : pj_Ct E B l Y_X12_isFar 2 0 0 [.int r] h n (pj_is (some (.int (gd_b (gd_rng r 0 100)))) h n) := by
  refine pj_in rfl (ls := [some (.int r)]) rfl (Nat.le_of_ble_eq_true rfl) ?_
  refine pj_ild0 (q := 1) (pj_d p_X12_isFar 0 rfl) rfl ?_
  refine pj_i2l (q := 2) (pj_d p_X12_isFar 1 rfl) rfl ?_
  refine pj_lconst (q := 3) (v := lN 0) (pj_d p_X12_isFar 2 rfl) rfl (by decide) ?_
  refine pj_ldc2 (q := 6) (pj_d p_X12_isFar 3 rfl) rfl kX12_156 ?_
  refine pj_cp (pj_rS (q := 9) (c_X12_in r (lN 0) 100 0 100 (by decide) (by decide)) (pj_d p_X12_isFar 4 rfl) rfl kX12_57 o_X12_in (by rfl) (by rfl) (Nat.le_of_ble_eq_true rfl) (by decide)) (by decide) (by decide) ?_
  refine pj_zret rfl (gd_b_nar _) (pj_d p_X12_isFar 5 rfl) (by decide) (by decide) ⟨rfl, rfl, rfl⟩
theorem c_X12_setOf (c : Nat) (hc : c ≤ 5) : pj_Ct E B l Y_X12_setOf 1 0 0 [.int (nI c)] h n (pj_is (some (.int (nI (gd_setOf c)))) h n) := by
  refine pj_in rfl (ls := [some (.int (nI c))]) rfl (Nat.le_of_ble_eq_true rfl) ?_
  refine pj_ild0 (q := 1) (pj_d p_X12_setOf 0 rfl) rfl ?_
  refine pj_iconst (q := 2) (v := nI 5) (pj_d p_X12_setOf 1 rfl) rfl (by decide) ?_
  refine pj_icmp_ge (t := 11) (q := 5) (pj_d p_X12_setOf 2 rfl) rfl (by decide) (fun c2 => ?_) (fun c2 => ?_)
  · have hc5 : ¬ c < 5 := by have := (nI_leI (by omega) (by omega)).mp c2; omega
    refine pj_iconst (q := 12) (v := nI 0) (pj_d p_X12_setOf 7 rfl) rfl (by decide) ?_
    refine pj_iret rfl (pj_d p_X12_setOf 8 rfl) (by decide) (by decide) ?_
    exact ⟨by simp only [gd_setOf, if_neg hc5], rfl, rfl⟩
  · have hc5 : c < 5 := by
      rcases Nat.lt_or_ge c 5 with q | q
      · exact q
      · exact absurd (nI_le q (by omega)) c2
    refine pj_iconst (q := 6) (v := nI 1) (pj_d p_X12_setOf 3 rfl) rfl (by decide) ?_
    refine pj_ild0 (q := 7) (pj_d p_X12_setOf 4 rfl) rfl ?_
    refine pj_ishl (q := 8) (pj_d p_X12_setOf 5 rfl) rfl ?_
    refine pj_goto (t := 12) (pj_d p_X12_setOf 6 rfl) (by decide) ?_
    refine pj_iret rfl (pj_d p_X12_setOf 8 rfl) (by decide) (by decide) ?_
    exact ⟨by rw [gd_setI c hc5, gd_setOf, if_pos hc5], rfl, rfl⟩
theorem c_X12_bits (x : Nat) (hx : x < 128) : pj_Ct E B l Y_X12_bits 1 0 0 [.int (nI x)] h n (pj_is (some (.int (nI (gd_bits x)))) h n) := by
  refine pj_in rfl (ls := [some (.int (nI x)), none, none]) rfl (Nat.le_of_ble_eq_true rfl) ?_
  refine pj_iconst (q := 1) (v := nI 0) (pj_d p_X12_bits 0 rfl) rfl (by decide) ?_
  refine pj_ist1 (q := 2) (pj_d p_X12_bits 1 rfl) rfl (by first | rfl | assumption) ?_
  refine pj_iconst (q := 3) (v := nI 0) (pj_d p_X12_bits 2 rfl) rfl (by decide) ?_
  refine pj_ist2 (q := 4) (pj_d p_X12_bits 3 rfl) rfl (by first | rfl | assumption) ?_
  have loop : ∀ m i, 7 - i < m → i ≤ 7 → pj_V E B l Y_X12_bits 1 0 0 4 [some (.int (nI x)), some (.int (nI (gd_sm (fun k => x / 2 ^ k % 2) i))), some (.int (nI i))] [] h n 0 0 (pj_is (some (.int (nI (gd_bits x)))) h n) := by
    intro m
    induction m with
    | zero => intro i hi; omega
    | succ m ih =>
      intro i hi hle
      refine pj_ild2 (q := 5) (pj_d p_X12_bits 4 rfl) rfl ?_
      refine pj_bipush (q := 7) (v := nI 7) (pj_d p_X12_bits 5 rfl) rfl (by decide) ?_
      refine pj_icmp_ge (t := 24) (q := 10) (pj_d p_X12_bits 6 rfl) rfl (by decide) (fun c1 => ?_) (fun c1 => ?_)
      · have hge := (nI_leI (by omega) (by omega)).mp c1
        have he : i = 7 := by omega
        subst he
        refine pj_ild1 (q := 25) (pj_d p_X12_bits 17 rfl) rfl ?_
        refine pj_iret rfl (pj_d p_X12_bits 18 rfl) (by decide) (by decide) ?_
        exact ⟨rfl, rfl, rfl⟩
      · have hlt : i < 7 := by
          rcases Nat.lt_or_ge i 7 with q | q
          · exact q
          · exact absurd (nI_le q (by omega)) c1
        refine pj_ild1 (q := 11) (pj_d p_X12_bits 7 rfl) rfl ?_
        refine pj_ild0 (q := 12) (pj_d p_X12_bits 8 rfl) rfl ?_
        refine pj_ild2 (q := 13) (pj_d p_X12_bits 9 rfl) rfl ?_
        refine pj_ishr (q := 14) (pj_d p_X12_bits 10 rfl) rfl ?_
        refine pj_iconst (q := 15) (v := nI 1) (pj_d p_X12_bits 11 rfl) rfl (by decide) ?_
        refine pj_iand (q := 16) (pj_d p_X12_bits 12 rfl) rfl ?_
        rw [gd_shr1 x hx i hlt]
        refine pj_iadd (q := 17) (pj_d p_X12_bits 13 rfl) rfl ?_
        rw [nI_add]
        refine pj_ist1 (q := 18) (pj_d p_X12_bits 14 rfl) rfl (by first | rfl | assumption) ?_
        refine pj_iinc2 (q := 21) (v := 1) (pj_d p_X12_bits 15 rfl) rfl (by first | rfl | assumption) (by decide) ?_
        refine pj_goto (t := 4) (pj_d p_X12_bits 16 rfl) (by decide) ?_
        rw [nI_1]
        exact ih (i + 1) (by omega) (by omega)
  exact loop 8 0 (by omega) (by omega)
theorem c_X12_isThere (hM : h g = some (.inr (11, gd_Mo g v))) (hT : h (g + 4) = some (.inl (0, 56, .inl (fun j => nI (τ j))))) (h1 : τ 0 ≤ 1) : pj_Ct E B l Y_X12_isThere 1 0 0 [.ref g] h n (pj_is (some (.int (gd_b (decide (τ 0 = 1))))) h n) := by
  refine pj_in rfl (ls := [some (.ref g)]) rfl (Nat.le_of_ble_eq_true rfl) ?_
  refine pj_ald0 (q := 1) (pj_d p_X12_isThere 0 rfl) rfl ?_
  refine pj_gf (q := 4) (k := 5) (pj_d p_X12_isThere 1 rfl) rfl kX12_19 (by assumption) (by rfl) (by rfl) ?_
  refine pj_iconst (q := 5) (v := nI 0) (pj_d p_X12_isThere 2 rfl) rfl (by decide) ?_
  refine pj_ialdN (q := 6) (pj_d p_X12_isThere 3 rfl) rfl (by assumption) (by rfl) (by first | assumption | omega) (Nat.le_of_ble_eq_true rfl) ?_
  refine pj_iconst (q := 7) (v := nI 1) (pj_d p_X12_isThere 4 rfl) rfl (by decide) ?_
  refine pj_icmp_ne (t := 14) (q := 10) (pj_d p_X12_isThere 5 rfl) rfl (by decide) (fun c1 => ?_) (fun c1 => ?_)
  · have hne : ¬ τ 0 = 1 := fun q => c1 (by rw [q])
    rw [decide_eq_false hne]
    refine pj_iconst (q := 15) (v := nI 0) (pj_d p_X12_isThere 8 rfl) rfl (by decide) ?_
    refine pj_zret rfl (by first | rfl | decide | (split <;> rfl)) (pj_d p_X12_isThere 9 rfl) (by decide) (by decide) ?_
    exact ⟨rfl, rfl, rfl⟩
  · have heq : τ 0 = 1 := (nI_eq (by omega) (by omega)).mp c1
    rw [decide_eq_true heq]
    refine pj_iconst (q := 11) (v := nI 1) (pj_d p_X12_isThere 6 rfl) rfl (by decide) ?_
    refine pj_goto (t := 15) (pj_d p_X12_isThere 7 rfl) (by decide) ?_
    refine pj_zret rfl (by first | rfl | decide | (split <;> rfl)) (pj_d p_X12_isThere 9 rfl) (by decide) (by decide) ?_
    exact ⟨rfl, rfl, rfl⟩
theorem gd_cm1 {c : Nat} (hc : c ≤ 7) : (nI c - nI 1).toInt64.toInt = (c : Int) - 1 := by
  rw [Int32.toInt_toInt64, pk_sub_toInt (by omega) (by omega)]; rfl
theorem c_X12_isThing (hM : h g = some (.inr (11, gd_Mo g v))) (hT : h (g + 4) = some (.inl (0, 56, .inl (fun j => nI (τ j))))) (hW : τ 1 ≤ 7) (t : Int32) : pj_Ct E B l Y_X12_isThing 2 0 0 [.ref g, .int t] h n (pj_is (some (.int (gd_b (gd_has τ t)))) h n) := by
  refine pj_in rfl (ls := [some (.ref g), some (.int t)]) rfl (Nat.le_of_ble_eq_true rfl) ?_
  refine pj_ild1 (q := 1) (pj_d p_X12_isThing 0 rfl) rfl ?_
  refine pj_i2l (q := 2) (pj_d p_X12_isThing 1 rfl) rfl ?_
  refine pj_lconst (q := 3) (v := lN 0) (pj_d p_X12_isThing 2 rfl) rfl (by decide) ?_
  refine pj_ald0 (q := 4) (pj_d p_X12_isThing 3 rfl) rfl ?_
  refine pj_gf (q := 7) (k := 5) (pj_d p_X12_isThing 4 rfl) rfl kX12_19 (by assumption) (by rfl) (by rfl) ?_
  refine pj_iconst (q := 8) (v := nI 1) (pj_d p_X12_isThing 5 rfl) rfl (by decide) ?_
  refine pj_ialdN (q := 9) (pj_d p_X12_isThing 6 rfl) rfl (by assumption) (by rfl) (by first | assumption | omega) (Nat.le_of_ble_eq_true rfl) ?_
  refine pj_iconst (q := 10) (v := nI 1) (pj_d p_X12_isThing 7 rfl) rfl (by decide) ?_
  refine pj_isub (q := 11) (pj_d p_X12_isThing 8 rfl) rfl ?_
  refine pj_i2l (q := 12) (pj_d p_X12_isThing 9 rfl) rfl ?_
  refine pj_cp (pj_rS (q := 15) (c_X12_in t (lN 0) (nI (τ 1) - nI 1).toInt64 0 ((τ 1 : Int) - 1) (by decide) (gd_cm1 hW)) (pj_d p_X12_isThing 10 rfl) rfl kX12_57 o_X12_in (by rfl) (by rfl) (Nat.le_of_ble_eq_true rfl) (by decide)) (by decide) (by decide) ?_
  rw [gd_rng_has]
  refine pj_zret rfl (gd_b_nar _) (pj_d p_X12_isThing 11 rfl) (by decide) (by decide) ⟨rfl, rfl, rfl⟩
theorem c_X12_areTwo (hM : h g = some (.inr (11, gd_Mo g v))) (hT : h (g + 4) = some (.inl (0, 56, .inl (fun j => nI (τ j))))) (hW : τ 1 ≤ 7) (a b : Int32) : pj_Ct E B l Y_X12_areTwo 3 0 0 [.ref g, .int a, .int b] h n (pj_is (some (.int (gd_b (gd_has τ a && gd_has τ b && !decide (a = b))))) h n) := by
  refine pj_in rfl (ls := [some (.ref g), some (.int a), some (.int b)]) rfl (Nat.le_of_ble_eq_true rfl) ?_
  have no : (gd_has τ a && gd_has τ b && !decide (a = b)) = false → pj_V E B l Y_X12_areTwo 3 0 0 25 [some (.ref g), some (.int a), some (.int b)] [] h n 0 0 (pj_is (some (.int (gd_b (gd_has τ a && gd_has τ b && !decide (a = b))))) h n) := by
    intro hn
    rw [hn]
    refine pj_iconst (q := 26) (v := nI 0) (pj_d p_X12_areTwo 13 rfl) rfl (by decide) ?_
    refine pj_zret rfl (by first | rfl | decide | (split <;> rfl)) (pj_d p_X12_areTwo 14 rfl) (by decide) (by decide) ?_
    exact ⟨rfl, rfl, rfl⟩
  refine pj_ald0 (q := 1) (pj_d p_X12_areTwo 0 rfl) rfl ?_
  refine pj_ild1 (q := 2) (pj_d p_X12_areTwo 1 rfl) rfl ?_
  refine pj_cp (pj_rV (q := 5) (c_X12_isThing hM hT hW a) (pj_d p_X12_areTwo 2 rfl) rfl kX12_153 o_X12_isThing (by assumption) (by rfl) (by rfl) (by rfl) (by rfl) (Nat.le_of_ble_eq_true rfl) (by decide)) (by decide) (by decide) ?_
  refine pj_if_eq (t := 25) (q := 8) (pj_d p_X12_areTwo 3 rfl) rfl (by decide) (fun c1 => ?_) (fun c1 => ?_)
  · exact no (by rw [(gd_b_z _).mp c1]; rfl)
  refine pj_ald0 (q := 9) (pj_d p_X12_areTwo 4 rfl) rfl ?_
  refine pj_ild2 (q := 10) (pj_d p_X12_areTwo 5 rfl) rfl ?_
  refine pj_cp (pj_rV (q := 13) (c_X12_isThing hM hT hW b) (pj_d p_X12_areTwo 6 rfl) rfl kX12_153 o_X12_isThing (by assumption) (by rfl) (by rfl) (by rfl) (by rfl) (Nat.le_of_ble_eq_true rfl) (by decide)) (by decide) (by decide) ?_
  refine pj_if_eq (t := 25) (q := 16) (pj_d p_X12_areTwo 7 rfl) rfl (by decide) (fun c2 => ?_) (fun c2 => ?_)
  · exact no (by rw [(gd_b_z _).mp c2]; simp)
  refine pj_ild1 (q := 17) (pj_d p_X12_areTwo 8 rfl) rfl ?_
  refine pj_ild2 (q := 18) (pj_d p_X12_areTwo 9 rfl) rfl ?_
  refine pj_icmp_eq (t := 25) (q := 21) (pj_d p_X12_areTwo 10 rfl) rfl (by decide) (fun c3 => ?_) (fun c3 => ?_)
  · exact no (by rw [decide_eq_true c3]; simp)
  · rw [(gd_b_n _).mp c1, (gd_b_n _).mp c2, decide_eq_false c3]
    refine pj_iconst (q := 22) (v := nI 1) (pj_d p_X12_areTwo 11 rfl) rfl (by decide) ?_
    refine pj_goto (t := 26) (pj_d p_X12_areTwo 12 rfl) (by decide) ?_
    refine pj_zret rfl (by first | rfl | decide | (split <;> rfl)) (pj_d p_X12_areTwo 14 rfl) (by decide) (by decide) ?_
    exact ⟨rfl, rfl, rfl⟩
theorem c_X12_of (hM : h g = some (.inr (11, gd_Mo g v))) (hT : h (g + 4) = some (.inl (0, 56, .inl (fun j => nI (τ j))))) {t w : Nat} (ht : t < 7) (hw : w < 3) : pj_Ct E B l Y_X12_of 1 0 0 [.ref g, .int (nI t), .int (nI w)] h n (pj_is (some (.int (nI (τ (11 + 3 * t + w))))) h n) := by
  refine pj_in rfl (ls := [some (.ref g), some (.int (nI t)), some (.int (nI w))]) rfl (Nat.le_of_ble_eq_true rfl) ?_
  refine pj_ald0 (q := 1) (pj_d p_X12_of 0 rfl) rfl ?_
  refine pj_gf (q := 4) (k := 5) (pj_d p_X12_of 1 rfl) rfl kX12_19 (by assumption) (by rfl) (by rfl) ?_
  refine pj_bipush (q := 6) (v := nI 11) (pj_d p_X12_of 2 rfl) rfl (by decide) ?_
  refine pj_iconst (q := 7) (v := nI 3) (pj_d p_X12_of 3 rfl) rfl (by decide) ?_
  refine pj_ild1 (q := 8) (pj_d p_X12_of 4 rfl) rfl ?_
  refine pj_imul (q := 9) (pj_d p_X12_of 5 rfl) rfl ?_
  refine pj_iadd (q := 10) (pj_d p_X12_of 6 rfl) rfl ?_
  refine pj_ild2 (q := 11) (pj_d p_X12_of 7 rfl) rfl ?_
  refine pj_iadd (q := 12) (pj_d p_X12_of 8 rfl) rfl ?_
  rw [pk_mul, nI_add, nI_add]
  refine pj_ialdN (q := 13) (pj_d p_X12_of 9 rfl) rfl (by assumption) (by rfl) (by first | assumption | omega) (Nat.le_of_ble_eq_true rfl) ?_
  refine pj_iret rfl (pj_d p_X12_of 10 rfl) (by decide) (by decide) ?_
  exact ⟨rfl, rfl, rfl⟩
theorem c_X12_lookOf (hM : h g = some (.inr (11, gd_Mo g v))) (hT : h (g + 4) = some (.inl (0, 56, .inl (fun j => nI (τ j))))) (hW : gd_W τ) {t st : Nat} (ht : t < τ 1) (hs : st < 32) : pj_Ct E B l Y_X12_lookOf 2 0 0 [.ref g, .int (nI t), .int (nI st)] h n (pj_is (some (.int (nI (gd_lk τ t st)))) h n) := by
  have h7 := hW.1
  obtain ⟨hk, hm, hsh⟩ := hW.2.2.2.2.1 t ht
  refine pj_in rfl (ls := [some (.ref g), some (.int (nI t)), some (.int (nI st)), none]) rfl (Nat.le_of_ble_eq_true rfl) ?_
  refine pj_ald0 (q := 1) (pj_d p_X12_lookOf 0 rfl) rfl ?_
  refine pj_ild1 (q := 2) (pj_d p_X12_lookOf 1 rfl) rfl ?_
  refine pj_iconst (q := 3) (v := nI 1) (pj_d p_X12_lookOf 2 rfl) rfl (by decide) ?_
  refine pj_cp (pj_rV (q := 6) (c_X12_of hM hT (t := t) (w := 1) (by omega) (by omega)) (pj_d p_X12_lookOf 3 rfl) rfl kX12_158 o_X12_of (by assumption) (by rfl) (by rfl) (by rfl) (by rfl) (Nat.le_of_ble_eq_true rfl) (by decide)) (by decide) (by decide) ?_
  rw [show 11 + 3 * t + 1 = 12 + 3 * t by omega]
  refine pj_ild2 (q := 7) (pj_d p_X12_lookOf 4 rfl) rfl ?_
  refine pj_iconst (q := 8) (v := (-1)) (pj_d p_X12_lookOf 5 rfl) rfl (by decide) ?_
  refine pj_ixor (q := 9) (pj_d p_X12_lookOf 6 rfl) rfl ?_
  refine pj_iand (q := 10) (pj_d p_X12_lookOf 7 rfl) rfl ?_
  rw [gd_leftI _ hm st hs]
  refine pj_ist3 (q := 11) (pj_d p_X12_lookOf 8 rfl) rfl (by first | rfl | assumption) ?_
  refine pj_ald0 (q := 12) (pj_d p_X12_lookOf 9 rfl) rfl ?_
  refine pj_ild1 (q := 13) (pj_d p_X12_lookOf 10 rfl) rfl ?_
  refine pj_iconst (q := 14) (v := nI 0) (pj_d p_X12_lookOf 11 rfl) rfl (by decide) ?_
  refine pj_cp (pj_rV (q := 17) (c_X12_of hM hT (t := t) (w := 0) (by omega) (by omega)) (pj_d p_X12_lookOf 12 rfl) rfl kX12_158 o_X12_of (by assumption) (by rfl) (by rfl) (by rfl) (by rfl) (Nat.le_of_ble_eq_true rfl) (by decide)) (by decide) (by decide) ?_
  have hlk : gd_lk τ t st = gd_look (τ (11 + 3 * t)) (τ (12 + 3 * t)) (τ (13 + 3 * t)) st := rfl
  rw [hlk, show 11 + 3 * t + 0 = 11 + 3 * t by omega]
  have hl := gd_left_lt _ hm st hs
  rcases gd_kd hk.1 hk.2 with e | e | e | e | e
  · rw [e]
    refine pj_tabIn (t := 48) (dflt := 72) (lo := 1) (hi := 4) (offs := #[31, 33, 51, 65]) (off := 31) (pj_d p_X12_lookOf 13 rfl) (by decide) (by decide) (by rfl) (by decide) ?_
    refine pj_ild3 (q := 49) (pj_d p_X12_lookOf 14 rfl) rfl ?_
    refine pj_iret rfl (pj_d p_X12_lookOf 15 rfl) (by decide) (by decide) ?_
    exact ⟨rfl, rfl, rfl⟩
  · rw [e]
    refine pj_tabIn (t := 50) (dflt := 72) (lo := 1) (hi := 4) (offs := #[31, 33, 51, 65]) (off := 33) (pj_d p_X12_lookOf 13 rfl) (by decide) (by decide) (by rfl) (by decide) ?_
    refine pj_ild3 (q := 51) (pj_d p_X12_lookOf 16 rfl) rfl ?_
    refine pj_cp (pj_rS (q := 54) (c_X12_bits (gd_left (τ (12 + 3 * t)) st) (by omega)) (pj_d p_X12_lookOf 17 rfl) rfl kX12_161 o_X12_bits (by rfl) (by rfl) (Nat.le_of_ble_eq_true rfl) (by decide)) (by decide) (by decide) ?_
    refine pj_iconst (q := 55) (v := nI 1) (pj_d p_X12_lookOf 18 rfl) rfl (by decide) ?_
    have hb : gd_bits (gd_left (τ (12 + 3 * t)) st) ≤ 7 * 1 := gd_sm_le (fun j _ => by omega)
    refine pj_icmp_le (t := 66) (q := 58) (pj_d p_X12_lookOf 19 rfl) rfl (by decide) (fun c1 => ?_) (fun c1 => ?_)
    · have hz := (gd_twb _ hl).mp ((nI_leI (by omega) (by omega)).mp c1)
      refine pj_ild3 (q := 67) (pj_d p_X12_lookOf 26 rfl) rfl ?_
      refine pj_iret rfl (pj_d p_X12_lookOf 27 rfl) (by decide) (by decide) ?_
      exact ⟨by simp only [gd_look, gd_twin, hz]; rfl, rfl, rfl⟩
    · have hz : ¬ (gd_left (τ (12 + 3 * t)) st &&& (gd_left (τ (12 + 3 * t)) st - 1) = 0) := fun q => c1 (nI_le ((gd_twb _ hl).mpr q) (by omega))
      refine pj_ild3 (q := 59) (pj_d p_X12_lookOf 20 rfl) rfl ?_
      refine pj_ild3 (q := 60) (pj_d p_X12_lookOf 21 rfl) rfl ?_
      refine pj_iconst (q := 61) (v := nI 1) (pj_d p_X12_lookOf 22 rfl) rfl (by decide) ?_
      refine pj_isub (q := 62) (pj_d p_X12_lookOf 23 rfl) rfl ?_
      refine pj_iand (q := 63) (pj_d p_X12_lookOf 24 rfl) rfl ?_
      rw [gd_twinI _ hl]
      refine pj_goto (t := 67) (pj_d p_X12_lookOf 25 rfl) (by decide) ?_
      refine pj_iret rfl (pj_d p_X12_lookOf 27 rfl) (by decide) (by decide) ?_
      exact ⟨by simp only [gd_look, gd_twin, if_neg hz]; rfl, rfl, rfl⟩
  · rw [e]
    refine pj_tabIn (t := 68) (dflt := 72) (lo := 1) (hi := 4) (offs := #[31, 33, 51, 65]) (off := 51) (pj_d p_X12_lookOf 13 rfl) (by decide) (by decide) (by rfl) (by decide) ?_
    refine pj_ild3 (q := 69) (pj_d p_X12_lookOf 28 rfl) rfl ?_
    refine pj_bipush (q := 71) (v := nI 32) (pj_d p_X12_lookOf 29 rfl) rfl (by decide) ?_
    refine pj_iconst (q := 72) (v := nI 1) (pj_d p_X12_lookOf 30 rfl) rfl (by decide) ?_
    refine pj_ald0 (q := 73) (pj_d p_X12_lookOf 31 rfl) rfl ?_
    refine pj_ild1 (q := 74) (pj_d p_X12_lookOf 32 rfl) rfl ?_
    refine pj_iconst (q := 75) (v := nI 2) (pj_d p_X12_lookOf 33 rfl) rfl (by decide) ?_
    refine pj_cp (pj_rV (q := 78) (c_X12_of hM hT (t := t) (w := 2) (by omega) (by omega)) (pj_d p_X12_lookOf 34 rfl) rfl kX12_158 o_X12_of (by assumption) (by rfl) (by rfl) (by rfl) (by rfl) (Nat.le_of_ble_eq_true rfl) (by decide)) (by decide) (by decide) ?_
    rw [show 11 + 3 * t + 2 = 13 + 3 * t by omega]
    refine pj_iadd (q := 79) (pj_d p_X12_lookOf 35 rfl) rfl ?_
    refine pj_imul (q := 80) (pj_d p_X12_lookOf 36 rfl) rfl ?_
    refine pj_iadd (q := 81) (pj_d p_X12_lookOf 37 rfl) rfl ?_
    rw [nI_add, pk_mul, nI_add]
    refine pj_iret rfl (pj_d p_X12_lookOf 38 rfl) (by decide) (by decide) ?_
    exact ⟨rfl, rfl, rfl⟩
  · rw [e]
    refine pj_tabIn (t := 82) (dflt := 72) (lo := 1) (hi := 4) (offs := #[31, 33, 51, 65]) (off := 65) (pj_d p_X12_lookOf 13 rfl) (by decide) (by decide) (by rfl) (by decide) ?_
    refine pj_ald0 (q := 83) (pj_d p_X12_lookOf 39 rfl) rfl ?_
    refine pj_ild1 (q := 84) (pj_d p_X12_lookOf 40 rfl) rfl ?_
    refine pj_iconst (q := 85) (v := nI 1) (pj_d p_X12_lookOf 41 rfl) rfl (by decide) ?_
    refine pj_cp (pj_rV (q := 88) (c_X12_of hM hT (t := t) (w := 1) (by omega) (by omega)) (pj_d p_X12_lookOf 42 rfl) rfl kX12_158 o_X12_of (by assumption) (by rfl) (by rfl) (by rfl) (by rfl) (Nat.le_of_ble_eq_true rfl) (by decide)) (by decide) (by decide) ?_
    rw [show 11 + 3 * t + 1 = 12 + 3 * t by omega]
    refine pj_iret rfl (pj_d p_X12_lookOf 43 rfl) (by decide) (by decide) ?_
    exact ⟨rfl, rfl, rfl⟩
  · rw [e]
    refine pj_tabOut (t := 89) (dflt := 72) (lo := 1) (hi := 4) (offs := #[31, 33, 51, 65]) (pj_d p_X12_lookOf 13 rfl) (by decide) (by decide) ?_
    refine pj_iconst (q := 90) (v := nI 0) (pj_d p_X12_lookOf 44 rfl) rfl (by decide) ?_
    refine pj_iret rfl (pj_d p_X12_lookOf 45 rfl) (by decide) (by decide) ?_
    exact ⟨rfl, rfl, rfl⟩
end
