/-! ===== how the model reads things and pairs ===== -/
def gd_MP (c : Nat → Nat) (L g : Nat) (s : gd_RS) (v : Nat → Int32) (h h' : pj_H) : Prop := ∃ v' F, h' g = some (.inr (11, gd_Mo g v')) ∧ h' (g + 5) = some (.inl (0, 56, .inl F)) ∧ gd_pv v v' ∧ gd_MS c L v' s.1 ∧ (s.1.2.1 = 0 → ∀ j, j < 56 → F j = nI (s.2 j)) ∧ ∀ q, q ≠ g → q ≠ g + 5 → h' q = h q
theorem gd_MS_eq {c : Nat → Nat} {L : Nat} {v : Nat → Int32} {S S' : gd_PS} (h : gd_MS c L v S) (e : S.2 = S'.2) (e1 : S.2.1 = 0 → S.1 = S'.1) : gd_MS c L v S' := by
  obtain ⟨a1, a2, a3, a4⟩ := h
  refine ⟨a1, by rw [← e]; exact a2, fun q => ?_, fun q => ?_⟩
  · rw [← e] at q
    have := a3 q
    rw [e1 q] at this
    exact this
  · rw [← e] at q ⊢
    exact a4 q
def gd_kv (x : Nat) : Int32 := if gd_kl x = 0 then -1000000 else nI (gd_kl x)
def gd_itb (τ : Nat → Nat) (a b k : Nat) : Bool := decide ((τ (32 + 3 * k) = a ∧ τ (33 + 3 * k) = b) ∨ (τ (32 + 3 * k) = b ∧ τ (33 + 3 * k) = a))
def gd_itd (τ : Nat → Nat) (a b : Nat) : Nat → Bool
  | 0 => false
  | k + 1 => gd_itd τ a b k || gd_itb τ a b k
theorem gd_itd_iff {τ : Nat → Nat} {a b : Nat} : ∀ {m : Nat}, gd_itd τ a b m = true ↔ ∃ k, k < m ∧ gd_itb τ a b k = true
  | 0 => ⟨fun q => by rw [gd_itd] at q; exact absurd q (by decide), fun ⟨k, hk, _⟩ => absurd hk (Nat.not_lt_zero k)⟩
  | m + 1 => by
    rw [gd_itd, Bool.or_eq_true, gd_itd_iff (m := m)]
    constructor
    · rintro (⟨k, h1, h2⟩ | q)
      · exact ⟨k, by omega, h2⟩
      · exact ⟨m, by omega, q⟩
    · rintro ⟨k, h1, h2⟩
      by_cases e : k = m
      · rw [e] at h2; exact Or.inr h2
      · exact Or.inl ⟨k, by omega, h2⟩
theorem gd_itd_pair {τ : Nat → Nat} (hW : gd_W τ) {a b : Nat} (hab : a ≠ b) : gd_itd τ a b (τ 2) = true ↔ gd_pair τ a b ≠ 0 := by
  rw [gd_itd_iff, Ne, gd_pair_0 hW]
  constructor
  · rintro ⟨k, h1, h2⟩ q
    exact q k h1 ((gd_two_of hab).mpr (of_decide_eq_true h2))
  · intro q
    by_cases e : ∃ k, k < τ 2 ∧ gd_itb τ a b k = true
    · exact e
    · exact absurd (fun j hj z => e ⟨j, hj, decide_eq_true ((gd_two_of hab).mp z)⟩) q
theorem gd_itd_out {τ : Nat → Nat} (hW : gd_W τ) {a b : Nat} (hb : ¬ b < τ 1) : gd_itd τ a b (τ 2) = false := by
  rw [Bool.eq_false_iff]
  intro q
  obtain ⟨k, h1, h2⟩ := gd_itd_iff.mp q
  obtain ⟨w1, w2, -⟩ := hW.2.2.2.2.2.1 k h1
  rcases of_decide_eq_true h2 with z | z <;> omega
theorem gd_tn_bad {c : Nat → Nat} {L lo : Nat} {hi : Int} {S : gd_PS} (e : ¬ S.2.1 = 0) : gd_tn c L lo hi S = (0, S) := by rw [gd_tn, if_neg e]
theorem gd_tb_bad {c : Nat → Nat} {L x : Nat} {S : gd_PS} (e : ¬ S.2.1 = 0) : gd_tb c L x S = S := by rw [gd_tb, if_neg e]
theorem gd_fa_bad {w k : Nat} {S : gd_PS} (e : ¬ S.2.1 = 0) : gd_fa S w k = S := by rw [gd_fa, if_neg e]
section
variable {E : pj_E} {B : Nat} {l : Launch} {h : pj_H} {n g L : Nat} {c : Nat → Nat} {v : Nat → Int32} {S : gd_PS} {s : gd_RS} {F : Nat → Int32}
theorem c_X12_kindBy (x : Nat) (hx : x < 256) : pj_Ct E B l Y_X12_kindBy 1 0 0 [.int (nI x)] h n (pj_is (some (.int (gd_kv x))) h n) := by
  refine pj_in rfl (ls := [some (.int (nI x))]) rfl (Nat.le_of_ble_eq_true rfl) ?_
  refine pj_ild0 (q := 1) (pj_d p_X12_kindBy 0 rfl) rfl ?_
  refine pj_bipush (q := 3) (v := nI 100) (pj_d p_X12_kindBy 1 rfl) rfl (by decide) ?_
  refine pj_icmp_ne (t := 10) (q := 6) (pj_d p_X12_kindBy 2 rfl) rfl (by decide) (fun c1 => ?_) (fun c1 => ?_)
  rotate_left
  · have e : x = 100 := (nI_eq (by omega) (by omega)).mp c1
    refine pj_iconst (q := 7) (v := nI 1) (pj_d p_X12_kindBy 3 rfl) rfl (by decide) ?_
    refine pj_goto (t := 52) (pj_d p_X12_kindBy 4 rfl) (by decide) ?_
    refine pj_iret rfl (pj_d p_X12_kindBy 26 rfl) (by decide) (by decide) ?_
    exact ⟨by rw [e]; rfl, rfl, rfl⟩
  have e1 : ¬ x = 100 := fun q => c1 (by rw [q])
  refine pj_ild0 (q := 11) (pj_d p_X12_kindBy 5 rfl) rfl ?_
  refine pj_bipush (q := 13) (v := nI 119) (pj_d p_X12_kindBy 6 rfl) rfl (by decide) ?_
  refine pj_icmp_ne (t := 20) (q := 16) (pj_d p_X12_kindBy 7 rfl) rfl (by decide) (fun c2 => ?_) (fun c2 => ?_)
  rotate_left
  · have e : x = 119 := (nI_eq (by omega) (by omega)).mp c2
    refine pj_iconst (q := 17) (v := nI 2) (pj_d p_X12_kindBy 8 rfl) rfl (by decide) ?_
    refine pj_goto (t := 52) (pj_d p_X12_kindBy 9 rfl) (by decide) ?_
    refine pj_iret rfl (pj_d p_X12_kindBy 26 rfl) (by decide) (by decide) ?_
    exact ⟨by rw [e]; rfl, rfl, rfl⟩
  have e2 : ¬ x = 119 := fun q => c2 (by rw [q])
  refine pj_ild0 (q := 21) (pj_d p_X12_kindBy 10 rfl) rfl ?_
  refine pj_bipush (q := 23) (v := nI 115) (pj_d p_X12_kindBy 11 rfl) rfl (by decide) ?_
  refine pj_icmp_ne (t := 30) (q := 26) (pj_d p_X12_kindBy 12 rfl) rfl (by decide) (fun c3 => ?_) (fun c3 => ?_)
  rotate_left
  · have e : x = 115 := (nI_eq (by omega) (by omega)).mp c3
    refine pj_iconst (q := 27) (v := nI 3) (pj_d p_X12_kindBy 13 rfl) rfl (by decide) ?_
    refine pj_goto (t := 52) (pj_d p_X12_kindBy 14 rfl) (by decide) ?_
    refine pj_iret rfl (pj_d p_X12_kindBy 26 rfl) (by decide) (by decide) ?_
    exact ⟨by rw [e]; rfl, rfl, rfl⟩
  have e3 : ¬ x = 115 := fun q => c3 (by rw [q])
  refine pj_ild0 (q := 31) (pj_d p_X12_kindBy 15 rfl) rfl ?_
  refine pj_bipush (q := 33) (v := nI 105) (pj_d p_X12_kindBy 16 rfl) rfl (by decide) ?_
  refine pj_icmp_ne (t := 40) (q := 36) (pj_d p_X12_kindBy 17 rfl) rfl (by decide) (fun c4 => ?_) (fun c4 => ?_)
  rotate_left
  · have e : x = 105 := (nI_eq (by omega) (by omega)).mp c4
    refine pj_iconst (q := 37) (v := nI 4) (pj_d p_X12_kindBy 18 rfl) rfl (by decide) ?_
    refine pj_goto (t := 52) (pj_d p_X12_kindBy 19 rfl) (by decide) ?_
    refine pj_iret rfl (pj_d p_X12_kindBy 26 rfl) (by decide) (by decide) ?_
    exact ⟨by rw [e]; rfl, rfl, rfl⟩
  have e4 : ¬ x = 105 := fun q => c4 (by rw [q])
  refine pj_ild0 (q := 41) (pj_d p_X12_kindBy 20 rfl) rfl ?_
  refine pj_bipush (q := 43) (v := nI 102) (pj_d p_X12_kindBy 21 rfl) rfl (by decide) ?_
  refine pj_icmp_ne (t := 50) (q := 46) (pj_d p_X12_kindBy 22 rfl) rfl (by decide) (fun c5 => ?_) (fun c5 => ?_)
  rotate_left
  · have e : x = 102 := (nI_eq (by omega) (by omega)).mp c5
    refine pj_iconst (q := 47) (v := nI 5) (pj_d p_X12_kindBy 23 rfl) rfl (by decide) ?_
    refine pj_goto (t := 52) (pj_d p_X12_kindBy 24 rfl) (by decide) ?_
    refine pj_iret rfl (pj_d p_X12_kindBy 26 rfl) (by decide) (by decide) ?_
    exact ⟨by rw [e]; rfl, rfl, rfl⟩
  have e5 : ¬ x = 102 := fun q => c5 (by rw [q])
  have ek : gd_kl x = 0 := by rw [gd_kl, if_neg e1, if_neg e2, if_neg e3, if_neg e4, if_neg e5]
  refine pj_ldc (q := 52) (pj_d p_X12_kindBy 25 rfl) rfl kX12_90 ?_
  refine pj_iret rfl (pj_d p_X12_kindBy 26 rfl) (by decide) (by decide) ?_
  exact ⟨by rw [gd_kv, if_pos ek], rfl, rfl⟩
theorem c_X12_isTold {τ : Nat → Nat} {a b : Nat} (hF : h (g + 5) = some (.inl (0, 56, .inl F))) (hj : ∀ j, j < 56 → F j = nI (τ j)) (hW : gd_W τ) (ha : a < 5000) (hb : b < 5000) : pj_Ct E B l Y_X12_isTold 1 0 0 [.ref (g + 5), .int (nI a), .int (nI b)] h n (pj_is (some (.int (gd_b (gd_itd τ a b (τ 2))))) h n) := by
  have h8 := hW.2.1
  refine pj_in rfl (ls := [some (.ref (g + 5)), some (.int (nI a)), some (.int (nI b)), none, none, none, none]) rfl (Nat.le_of_ble_eq_true rfl) ?_
  refine pj_iconst (q := 1) (v := nI 0) (pj_d p_X12_isTold 0 rfl) rfl (by decide) ?_
  refine pj_ist3 (q := 2) (pj_d p_X12_isTold 1 rfl) rfl (by first | rfl | assumption) ?_
  refine pj_iconst (q := 3) (v := nI 0) (pj_d p_X12_isTold 2 rfl) rfl (by decide) ?_
  refine pj_ist4 (q := 5) (pj_d p_X12_isTold 3 rfl) rfl (by first | rfl | assumption) ?_
  have loop : ∀ m k (o5 o6 : Option Value), τ 2 - k < m → k ≤ τ 2 → pj_V E B l Y_X12_isTold 1 0 0 5 [some (.ref (g + 5)), some (.int (nI a)), some (.int (nI b)), some (.int (gd_b (gd_itd τ a b k))), some (.int (nI k)), o5, o6] [] h n 0 0 (pj_is (some (.int (gd_b (gd_itd τ a b (τ 2))))) h n) := by
    intro m
    induction m with
    | zero => intro k o5 o6 hi; omega
    | succ m ih =>
      intro k o5 o6 hi hle
      refine pj_ild4 (q := 7) (pj_d p_X12_isTold 4 rfl) rfl ?_
      refine pj_ald0 (q := 8) (pj_d p_X12_isTold 5 rfl) rfl ?_
      refine pj_iconst (q := 9) (v := nI 2) (pj_d p_X12_isTold 6 rfl) rfl (by decide) ?_
      refine pj_ialdN (q := 10) (pj_d p_X12_isTold 7 rfl) rfl (by first | assumption | exact pj_up_s | exact (pj_up_n (by omega)).trans (by assumption) | exact (pj_up_n (by omega)).trans pj_up_s) (by rfl) (by first | assumption | omega) (Nat.le_of_ble_eq_true rfl) ?_
      rw [hj 2 (by omega)]
      refine pj_icmp_ge (t := 77) (q := 13) (pj_d p_X12_isTold 8 rfl) rfl (by decide) (fun c1 => ?_) (fun c1 => ?_)
      · have he : k = τ 2 := by have := gd_ge c1 (by omega) (by omega); omega
        rw [he]
        refine pj_ild3 (q := 78) (pj_d p_X12_isTold 47 rfl) rfl ?_
        exact pj_zret rfl (gd_b_nar _) (pj_d p_X12_isTold 48 rfl) (by decide) (by decide) ⟨rfl, rfl, rfl⟩
      have hlt : k < τ 2 := gd_lt c1 (by omega)
      obtain ⟨w1, w2, -⟩ := hW.2.2.2.2.2.1 k hlt
      have w7 := hW.1
      have i1 : 32 + 3 * k < 56 := by omega
      have i2 : 32 + 3 * k + 1 < 56 := by omega
      refine pj_ald0 (q := 14) (pj_d p_X12_isTold 9 rfl) rfl ?_
      refine pj_bipush (q := 16) (v := nI 32) (pj_d p_X12_isTold 10 rfl) rfl (by decide) ?_
      refine pj_iconst (q := 17) (v := nI 3) (pj_d p_X12_isTold 11 rfl) rfl (by decide) ?_
      refine pj_ild4 (q := 19) (pj_d p_X12_isTold 12 rfl) rfl ?_
      refine pj_imul (q := 20) (pj_d p_X12_isTold 13 rfl) rfl ?_
      refine pj_iadd (q := 21) (pj_d p_X12_isTold 14 rfl) rfl ?_
      rw [pk_mul, nI_add]
      refine pj_ialdN (q := 22) (pj_d p_X12_isTold 15 rfl) rfl (by first | assumption | exact pj_up_s | exact (pj_up_n (by omega)).trans (by assumption) | exact (pj_up_n (by omega)).trans pj_up_s) (by rfl) (by first | assumption | omega) (Nat.le_of_ble_eq_true rfl) ?_
      rw [hj _ i1]
      refine pj_ist5 (q := 24) (pj_d p_X12_isTold 16 rfl) rfl (by first | rfl | assumption) ?_
      refine pj_ald0 (q := 25) (pj_d p_X12_isTold 17 rfl) rfl ?_
      refine pj_bipush (q := 27) (v := nI 32) (pj_d p_X12_isTold 18 rfl) rfl (by decide) ?_
      refine pj_iconst (q := 28) (v := nI 3) (pj_d p_X12_isTold 19 rfl) rfl (by decide) ?_
      refine pj_ild4 (q := 30) (pj_d p_X12_isTold 20 rfl) rfl ?_
      refine pj_imul (q := 31) (pj_d p_X12_isTold 21 rfl) rfl ?_
      refine pj_iadd (q := 32) (pj_d p_X12_isTold 22 rfl) rfl ?_
      refine pj_iconst (q := 33) (v := nI 1) (pj_d p_X12_isTold 23 rfl) rfl (by decide) ?_
      refine pj_iadd (q := 34) (pj_d p_X12_isTold 24 rfl) rfl ?_
      rw [pk_mul, nI_add, nI_add]
      refine pj_ialdN (q := 35) (pj_d p_X12_isTold 25 rfl) rfl (by first | assumption | exact pj_up_s | exact (pj_up_n (by omega)).trans (by assumption) | exact (pj_up_n (by omega)).trans pj_up_s) (by rfl) (by first | assumption | omega) (Nat.le_of_ble_eq_true rfl) ?_
      rw [hj _ i2, show 32 + 3 * k + 1 = 33 + 3 * k by omega]
      refine pj_ist6 (q := 37) (pj_d p_X12_isTold 26 rfl) rfl (by first | rfl | assumption) ?_
      have nx : ∀ z, z = gd_itd τ a b (k + 1) → pj_V E B l Y_X12_isTold 1 0 0 70 [some (.ref (g + 5)), some (.int (nI a)), some (.int (nI b)), some (.int (gd_b (gd_itd τ a b k))), some (.int (nI k)), some (.int (nI (τ (32 + 3 * k)))), some (.int (nI (τ (33 + 3 * k))))] [.int (gd_b z)] h n 0 0 (pj_is (some (.int (gd_b (gd_itd τ a b (τ 2))))) h n) := by
        intro z hz
        subst hz
        refine pj_ist3 (q := 71) (pj_d p_X12_isTold 44 rfl) rfl (by first | rfl | assumption) ?_
        refine pj_iinc4 (q := 74) (v := 1) (pj_d p_X12_isTold 45 rfl) rfl (by first | rfl | assumption) (by decide) ?_
        refine pj_goto (t := 5) (pj_d p_X12_isTold 46 rfl) (by decide) ?_
        rw [nI_1]
        exact ih (k + 1) _ _ (by omega) (by omega)
      have yes : gd_itd τ a b (k + 1) = true → pj_V E B l Y_X12_isTold 1 0 0 65 [some (.ref (g + 5)), some (.int (nI a)), some (.int (nI b)), some (.int (gd_b (gd_itd τ a b k))), some (.int (nI k)), some (.int (nI (τ (32 + 3 * k)))), some (.int (nI (τ (33 + 3 * k))))] [] h n 0 0 (pj_is (some (.int (gd_b (gd_itd τ a b (τ 2))))) h n) := by
        intro z
        refine pj_iconst (q := 66) (v := nI 1) (pj_d p_X12_isTold 41 rfl) rfl (by decide) ?_
        refine pj_goto (t := 70) (pj_d p_X12_isTold 42 rfl) (by decide) ?_
        exact nx true z.symm
      have no : gd_itd τ a b (k + 1) = false → pj_V E B l Y_X12_isTold 1 0 0 69 [some (.ref (g + 5)), some (.int (nI a)), some (.int (nI b)), some (.int (gd_b (gd_itd τ a b k))), some (.int (nI k)), some (.int (nI (τ (32 + 3 * k)))), some (.int (nI (τ (33 + 3 * k))))] [] h n 0 0 (pj_is (some (.int (gd_b (gd_itd τ a b (τ 2))))) h n) := by
        intro z
        refine pj_iconst (q := 70) (v := nI 0) (pj_d p_X12_isTold 43 rfl) rfl (by decide) ?_
        exact nx false z.symm
      refine pj_ild3 (q := 38) (pj_d p_X12_isTold 27 rfl) rfl ?_
      refine pj_if_ne (t := 65) (q := 41) (pj_d p_X12_isTold 28 rfl) rfl (by decide) (fun c2 => ?_) (fun c2 => ?_)
      · exact yes (by rw [gd_itd, (gd_b_n _).mp c2, Bool.true_or])
      have e0 := (gd_b_z _).mp c2
      have snd : ¬ (τ (32 + 3 * k) = a ∧ τ (33 + 3 * k) = b) → pj_V E B l Y_X12_isTold 1 0 0 53 [some (.ref (g + 5)), some (.int (nI a)), some (.int (nI b)), some (.int (gd_b (gd_itd τ a b k))), some (.int (nI k)), some (.int (nI (τ (32 + 3 * k)))), some (.int (nI (τ (33 + 3 * k))))] [] h n 0 0 (pj_is (some (.int (gd_b (gd_itd τ a b (τ 2))))) h n) := by
        intro q1
        refine pj_ild5 (q := 55) (pj_d p_X12_isTold 35 rfl) rfl ?_
        refine pj_ild2 (q := 56) (pj_d p_X12_isTold 36 rfl) rfl ?_
        refine pj_icmp_ne (t := 69) (q := 59) (pj_d p_X12_isTold 37 rfl) rfl (by decide) (fun c3 => ?_) (fun c3 => ?_)
        · have : ¬ τ (32 + 3 * k) = b := fun q => c3 (by rw [q])
          exact no (by rw [gd_itd, e0, gd_itb, decide_eq_false (fun q => by rcases q with q | q; exact q1 q; exact this q.1)]; rfl)
        have e3 := (nI_eq (by omega) (by omega)).mp c3
        refine pj_ild6 (q := 61) (pj_d p_X12_isTold 38 rfl) rfl ?_
        refine pj_ild1 (q := 62) (pj_d p_X12_isTold 39 rfl) rfl ?_
        refine pj_icmp_ne (t := 69) (q := 65) (pj_d p_X12_isTold 40 rfl) rfl (by decide) (fun c4 => ?_) (fun c4 => ?_)
        · have : ¬ τ (33 + 3 * k) = a := fun q => c4 (by rw [q])
          exact no (by rw [gd_itd, e0, gd_itb, decide_eq_false (fun q => by rcases q with q | q; exact q1 q; exact this q.2)]; rfl)
        have e4 := (nI_eq (by omega) (by omega)).mp c4
        exact yes (by rw [gd_itd, gd_itb, decide_eq_true (Or.inr ⟨e3, e4⟩), Bool.or_true])
      refine pj_ild5 (q := 43) (pj_d p_X12_isTold 29 rfl) rfl ?_
      refine pj_ild1 (q := 44) (pj_d p_X12_isTold 30 rfl) rfl ?_
      refine pj_icmp_ne (t := 53) (q := 47) (pj_d p_X12_isTold 31 rfl) rfl (by decide) (fun c3 => ?_) (fun c3 => ?_)
      · exact snd (fun q => c3 (by rw [q.1]))
      have e3 := (nI_eq (by omega) (by omega)).mp c3
      refine pj_ild6 (q := 49) (pj_d p_X12_isTold 32 rfl) rfl ?_
      refine pj_ild2 (q := 50) (pj_d p_X12_isTold 33 rfl) rfl ?_
      refine pj_icmp_eq (t := 65) (q := 53) (pj_d p_X12_isTold 34 rfl) rfl (by decide) (fun c4 => ?_) (fun c4 => ?_)
      · have e4 := (nI_eq (by omega) (by omega)).mp c4
        exact yes (by rw [gd_itd, gd_itb, decide_eq_true (Or.inl ⟨e3, e4⟩), Bool.or_true])
      · exact snd (fun q => c4 (by rw [q.2]))
  exact loop (τ 2 + 1) 0 none none (by omega) (by omega)
theorem gd_rdT {τ : Nat → Nat} {kd : Nat} {v1 : Nat → Int32} (hF : h (g + 5) = some (.inl (0, 56, .inl F))) (hj : ∀ j, j < 56 → F j = nI (τ j)) (h7 : τ 1 ≤ 7) (hb : h (g + 7) = some (.inl (0, 120, .inl (fun j => nI (c j))))) (hL : L ≤ 120) (hc : ∀ j, c j < 256) (p1 : gd_pv v v1) (s1 : gd_MS c L v1 S) (pb : gd_PB L S) : pj_V E B l Y_X12_readThing 5 0 0 29 [some (.ref g), some (.int (nI kd)), none, none, none] [] (pj_up h g (.inr (11, gd_Mo g v1))) n 0 0 (fun r h' n' => r = none ∧ n' = n ∧ gd_MP c L g (gd_tb c L 59 (gd_tn c L 0 3 (gd_tb c L 44 (gd_tn c L 0 31 S).2)).2, if (gd_tb c L 59 (gd_tn c L 0 3 (gd_tb c L 44 (gd_tn c L 0 31 S).2)).2).2.1 = 0 then gd_addT τ kd (gd_tn c L 0 31 S).1 (gd_tn c L 0 3 (gd_tb c L 44 (gd_tn c L 0 31 S).2)).1 else τ) v h h') := by
  have HB : ∀ u, pj_up h g (.inr (11, gd_Mo g u)) (g + 7) = some (.inl (0, 120, .inl (fun j => nI (c j)))) := fun u => (pj_up_n (by omega)).trans hb
  refine pj_ald0 (q := 30) (pj_d p_X12_readThing 16 rfl) rfl ?_
  refine pj_iconst (q := 31) (v := nI 0) (pj_d p_X12_readThing 17 rfl) rfl (by decide) ?_
  refine pj_bipush (q := 33) (v := nI 31) (pj_d p_X12_readThing 18 rfl) rfl (by decide) ?_
  refine pj_cv (pj_rV (q := 36) (c_X12_number (S := S) (lo := 0) (hi := nI 31) (hiI := 31) pj_up_s (HB _) hL hc s1 pb (by omega) (by decide)) (pj_d p_X12_readThing 19 rfl) rfl kX12_122 o_X12_number (by first | assumption | exact pj_up_s | exact (pj_up_n (by omega)).trans (by assumption) | exact (pj_up_n (by omega)).trans pj_up_s) (by rfl) (by rfl) (by rfl) (by rfl) (Nat.le_of_ble_eq_true rfl) (by decide)) (by decide) (by decide) ?_
  rintro r1 h1 n1 ⟨⟨x1, rfl, g1⟩, rfl, v2, rfl, p2, s2⟩
  have pb2 := gd_PB_tn (c := c) (lo := 0) (hi := 31) pb
  have ok1 := @gd_tn_ok c L 0 31 S
  generalize gd_tn c L 0 31 S = R1 at *
  rw [pj_up_up]
  refine pj_ist2 (q := 37) (pj_d p_X12_readThing 20 rfl) rfl (by first | rfl | assumption) ?_
  refine pj_ald0 (q := 38) (pj_d p_X12_readThing 21 rfl) rfl ?_
  refine pj_bipush (q := 40) (v := nI 44) (pj_d p_X12_readThing 22 rfl) rfl (by decide) ?_
  refine pj_cv (pj_rV (q := 43) (c_X12_mustSign (S := R1.2) (x := 44) pj_up_s (HB _) hL hc s2 pb2 (Or.inl rfl)) (pj_d p_X12_readThing 23 rfl) rfl kX12_126 o_X12_mustSign (by first | assumption | exact pj_up_s | exact (pj_up_n (by omega)).trans (by assumption) | exact (pj_up_n (by omega)).trans pj_up_s) (by rfl) (by rfl) (by rfl) (by rfl) (Nat.le_of_ble_eq_true rfl) (by decide)) (by decide) (by decide) ?_
  rintro r1 h1 n1 ⟨rfl, rfl, v3, rfl, p3, s3⟩
  have pb3 := gd_PB_tb (c := c) (x := 44) pb2
  have ok2 := @gd_tb_ok c L 44 R1.2
  generalize gd_tb c L 44 R1.2 = R2 at *
  rw [pj_up_up]
  refine pj_ald0 (q := 44) (pj_d p_X12_readThing 24 rfl) rfl ?_
  refine pj_iconst (q := 45) (v := nI 0) (pj_d p_X12_readThing 25 rfl) rfl (by decide) ?_
  refine pj_iconst (q := 46) (v := nI 3) (pj_d p_X12_readThing 26 rfl) rfl (by decide) ?_
  refine pj_cv (pj_rV (q := 49) (c_X12_number (S := R2) (lo := 0) (hi := nI 3) (hiI := 3) pj_up_s (HB _) hL hc s3 pb3 (by omega) (by decide)) (pj_d p_X12_readThing 27 rfl) rfl kX12_122 o_X12_number (by first | assumption | exact pj_up_s | exact (pj_up_n (by omega)).trans (by assumption) | exact (pj_up_n (by omega)).trans pj_up_s) (by rfl) (by rfl) (by rfl) (by rfl) (Nat.le_of_ble_eq_true rfl) (by decide)) (by decide) (by decide) ?_
  rintro r1 h1 n1 ⟨⟨x2, rfl, g2⟩, rfl, v4, rfl, p4, s4⟩
  have pb4 := gd_PB_tn (c := c) (lo := 0) (hi := 3) pb3
  have ok3 := @gd_tn_ok c L 0 3 R2
  generalize gd_tn c L 0 3 R2 = R3 at *
  rw [pj_up_up]
  refine pj_ist3 (q := 50) (pj_d p_X12_readThing 28 rfl) rfl (by first | rfl | assumption) ?_
  refine pj_ald0 (q := 51) (pj_d p_X12_readThing 29 rfl) rfl ?_
  refine pj_bipush (q := 53) (v := nI 59) (pj_d p_X12_readThing 30 rfl) rfl (by decide) ?_
  refine pj_cv (pj_rV (q := 56) (c_X12_mustSign (S := R3.2) (x := 59) pj_up_s (HB _) hL hc s4 pb4 (Or.inr rfl)) (pj_d p_X12_readThing 31 rfl) rfl kX12_126 o_X12_mustSign (by first | assumption | exact pj_up_s | exact (pj_up_n (by omega)).trans (by assumption) | exact (pj_up_n (by omega)).trans pj_up_s) (by rfl) (by rfl) (by rfl) (by rfl) (Nat.le_of_ble_eq_true rfl) (by decide)) (by decide) (by decide) ?_
  rintro r1 h1 n1 ⟨rfl, rfl, v5, rfl, p5, s5⟩
  have pb5 := gd_PB_tb (c := c) (x := 59) pb4
  have ok4 := @gd_tb_ok c L 59 R3.2
  generalize gd_tb c L 59 R3.2 = R4 at *
  rw [pj_up_up]
  have pv : gd_pv v v5 := fun i hi => by rw [p5 i hi, p4 i hi, p3 i hi, p2 i hi, p1 i hi]
  have b5 := pb5.2.1
  refine pj_ald0 (q := 57) (pj_d p_X12_readThing 32 rfl) rfl ?_
  refine pj_gf (q := 60) (k := 15) (pj_d p_X12_readThing 33 rfl) rfl kX12_78 (by first | assumption | exact pj_up_s | exact (pj_up_n (by omega)).trans (by assumption) | exact (pj_up_n (by omega)).trans pj_up_s) (by rfl) (by rfl) ?_
  rw [s5.2.1]
  refine pj_if_ne (t := 114) (q := 63) (pj_d p_X12_readThing 34 rfl) rfl (by decide) (fun c1 => ?_) (fun c1 => ?_)
  · have e : ¬ R4.2.1 = 0 := fun q => c1 (by rw [q]; rfl)
    refine pj_vret rfl (pj_d p_X12_readThing 71 rfl) (by decide) (by decide) ?_
    exact ⟨rfl, rfl, v5, F, pj_up_s, (pj_up_n (by omega)).trans hF, pv, s5, fun q => absurd q e, fun q q1 _ => pj_up_n q1⟩
  have e : R4.2.1 = 0 := (nI_eq (by omega) (by omega)).mp (c1.trans nI_0.symm)
  have o4 := ok4 e
  have o3 := (ok3 o4).1
  have o2 := ok2 o3
  rw [g2 o4, g1 o2]
  have i1 : 11 + 3 * τ 1 < 56 := by omega
  have i2 : 11 + 3 * τ 1 + 1 < 56 := by omega
  have i3 : 11 + 3 * τ 1 + 2 < 56 := by omega
  have z1 : (1 : Nat) < 56 := by omega
  refine pj_bipush (q := 65) (v := nI 11) (pj_d p_X12_readThing 35 rfl) rfl (by decide) ?_
  refine pj_iconst (q := 66) (v := nI 3) (pj_d p_X12_readThing 36 rfl) rfl (by decide) ?_
  refine pj_ald0 (q := 67) (pj_d p_X12_readThing 37 rfl) rfl ?_
  refine pj_gf (q := 70) (k := 6) (pj_d p_X12_readThing 38 rfl) rfl kX12_22 (by first | assumption | exact pj_up_s | exact (pj_up_n (by omega)).trans (by assumption) | exact (pj_up_n (by omega)).trans pj_up_s) (by rfl) (by rfl) ?_
  refine pj_iconst (q := 71) (v := nI 1) (pj_d p_X12_readThing 39 rfl) rfl (by decide) ?_
  refine pj_ialdN (q := 72) (pj_d p_X12_readThing 40 rfl) rfl (by first | assumption | exact pj_up_s | exact (pj_up_n (by omega)).trans (by assumption) | exact (pj_up_n (by omega)).trans pj_up_s) (by rfl) (by first | assumption | omega) (Nat.le_of_ble_eq_true rfl) ?_
  rw [hj 1 (by omega)]
  refine pj_imul (q := 73) (pj_d p_X12_readThing 41 rfl) rfl ?_
  refine pj_iadd (q := 74) (pj_d p_X12_readThing 42 rfl) rfl ?_
  rw [pk_mul, nI_add]
  refine pj_ist4 (q := 76) (pj_d p_X12_readThing 43 rfl) rfl (by first | rfl | assumption) ?_
  refine pj_ald0 (q := 77) (pj_d p_X12_readThing 44 rfl) rfl ?_
  refine pj_gf (q := 80) (k := 6) (pj_d p_X12_readThing 45 rfl) rfl kX12_22 (by first | assumption | exact pj_up_s | exact (pj_up_n (by omega)).trans (by assumption) | exact (pj_up_n (by omega)).trans pj_up_s) (by rfl) (by rfl) ?_
  refine pj_ild4 (q := 82) (pj_d p_X12_readThing 46 rfl) rfl ?_
  refine pj_ild1 (q := 83) (pj_d p_X12_readThing 47 rfl) rfl ?_
  refine pj_iast (q := 84) (pj_d p_X12_readThing 48 rfl) rfl (by first | assumption | exact pj_up_s | exact (pj_up_n (by omega)).trans (by assumption) | exact (pj_up_n (by omega)).trans pj_up_s) (by rfl) (by first | assumption | omega) (Nat.le_of_ble_eq_true rfl) ?_
  refine pj_ald0 (q := 85) (pj_d p_X12_readThing 49 rfl) rfl ?_
  refine pj_gf (q := 88) (k := 6) (pj_d p_X12_readThing 50 rfl) rfl kX12_22 (by first | assumption | exact pj_up_s | exact (pj_up_n (by omega)).trans (by assumption) | exact (pj_up_n (by omega)).trans pj_up_s) (by rfl) (by rfl) ?_
  refine pj_ild4 (q := 90) (pj_d p_X12_readThing 51 rfl) rfl ?_
  refine pj_iconst (q := 91) (v := nI 1) (pj_d p_X12_readThing 52 rfl) rfl (by decide) ?_
  refine pj_iadd (q := 92) (pj_d p_X12_readThing 53 rfl) rfl ?_
  rw [nI_add]
  refine pj_ild2 (q := 93) (pj_d p_X12_readThing 54 rfl) rfl ?_
  refine pj_iast (q := 94) (pj_d p_X12_readThing 55 rfl) rfl (by first | assumption | exact pj_up_s | exact (pj_up_n (by omega)).trans (by assumption) | exact (pj_up_n (by omega)).trans pj_up_s) (by rfl) (by first | assumption | omega) (Nat.le_of_ble_eq_true rfl) ?_
  rw [pj_up_up]
  refine pj_ald0 (q := 95) (pj_d p_X12_readThing 56 rfl) rfl ?_
  refine pj_gf (q := 98) (k := 6) (pj_d p_X12_readThing 57 rfl) rfl kX12_22 (by first | assumption | exact pj_up_s | exact (pj_up_n (by omega)).trans (by assumption) | exact (pj_up_n (by omega)).trans pj_up_s) (by rfl) (by rfl) ?_
  refine pj_ild4 (q := 100) (pj_d p_X12_readThing 58 rfl) rfl ?_
  refine pj_iconst (q := 101) (v := nI 2) (pj_d p_X12_readThing 59 rfl) rfl (by decide) ?_
  refine pj_iadd (q := 102) (pj_d p_X12_readThing 60 rfl) rfl ?_
  rw [nI_add]
  refine pj_ild3 (q := 103) (pj_d p_X12_readThing 61 rfl) rfl ?_
  refine pj_iast (q := 104) (pj_d p_X12_readThing 62 rfl) rfl (by first | assumption | exact pj_up_s | exact (pj_up_n (by omega)).trans (by assumption) | exact (pj_up_n (by omega)).trans pj_up_s) (by rfl) (by first | assumption | omega) (Nat.le_of_ble_eq_true rfl) ?_
  rw [pj_up_up]
  refine pj_ald0 (q := 105) (pj_d p_X12_readThing 63 rfl) rfl ?_
  refine pj_gf (q := 108) (k := 6) (pj_d p_X12_readThing 64 rfl) rfl kX12_22 (by first | assumption | exact pj_up_s | exact (pj_up_n (by omega)).trans (by assumption) | exact (pj_up_n (by omega)).trans pj_up_s) (by rfl) (by rfl) ?_
  refine pj_iconst (q := 109) (v := nI 1) (pj_d p_X12_readThing 65 rfl) rfl (by decide) ?_
  refine pj_dup2 (q := 110) (pj_d p_X12_readThing 66 rfl) rfl rfl rfl ?_
  refine pj_ialdN (q := 111) (pj_d p_X12_readThing 67 rfl) rfl (by first | assumption | exact pj_up_s | exact (pj_up_n (by omega)).trans (by assumption) | exact (pj_up_n (by omega)).trans pj_up_s) (by rfl) (by first | assumption | omega) (Nat.le_of_ble_eq_true rfl) ?_
  rw [gd_upd_n (by omega), gd_upd_n (by omega), gd_upd_n (by omega), hj 1 (by omega)]
  refine pj_iconst (q := 112) (v := nI 1) (pj_d p_X12_readThing 68 rfl) rfl (by decide) ?_
  refine pj_iadd (q := 113) (pj_d p_X12_readThing 69 rfl) rfl ?_
  rw [nI_add]
  refine pj_iast (q := 114) (pj_d p_X12_readThing 70 rfl) rfl (by first | assumption | exact pj_up_s | exact (pj_up_n (by omega)).trans (by assumption) | exact (pj_up_n (by omega)).trans pj_up_s) (by rfl) (by first | assumption | omega) (Nat.le_of_ble_eq_true rfl) ?_
  rw [pj_up_up]
  refine pj_vret rfl (pj_d p_X12_readThing 71 rfl) (by decide) (by decide) ?_
  refine ⟨rfl, rfl, v5, _, (pj_up_n (by omega)).trans pj_up_s, pj_up_s, pv, s5, fun _ j h56 => ?_, fun q q1 q2 => by rw [pj_up_n q2, pj_up_n q1]⟩
  rw [if_pos e, gd_addT, show 11 + 3 * τ 1 + 2 = 13 + 3 * τ 1 by omega, show 11 + 3 * τ 1 + 1 = 12 + 3 * τ 1 by omega]
  dsimp only
  by_cases e1 : j = 1
  · rw [e1, gd_upd_s, gd_set_s]
  rw [gd_upd_n e1, gd_set_n e1]
  by_cases e2 : j = 13 + 3 * τ 1
  · rw [e2, gd_upd_s, gd_set_s]
  rw [gd_upd_n e2, gd_set_n e2]
  by_cases e3 : j = 12 + 3 * τ 1
  · rw [e3, gd_upd_s, gd_set_s]
  rw [gd_upd_n e3, gd_set_n e3]
  by_cases e4 : j = 11 + 3 * τ 1
  · rw [e4, gd_upd_s, gd_set_s]
  rw [gd_upd_n e4, gd_set_n e4]
  exact hj j h56
theorem c_X12_readThing (hM : h g = some (.inr (11, gd_Mo g v))) (hF : h (g + 5) = some (.inl (0, 56, .inl F))) (hj : ∀ j, j < 56 → F j = nI (s.2 j)) (hb : h (g + 7) = some (.inl (0, 120, .inl (fun j => nI (c j))))) (hL : L ≤ 120) (hc : ∀ j, c j < 256) (hS : gd_MS c L v s.1) (hW : gd_RW L s) (e : s.1.2.1 = 0) (hk : ¬ gd_ks c L s.1.1 = 0) (tk : gd_tok c L s.1.1 = 2) : pj_Ct E B l Y_X12_readThing 5 0 0 [.ref g] h n (fun r h' n' => r = none ∧ n' = n ∧ gd_MP c L g (if s.2 1 = 7 then (gd_fa s.1 s.1.1 3, s.2) else gd_rT c L (gd_ks c L s.1.1) s) v h h') := by
  have h7 := hW.2.1.1
  obtain ⟨y1, y2, y3, y4⟩ := hS.2.2.1 e
  have ek : gd_kv (c s.1.1) = nI (gd_ks c L s.1.1) := by
    have hp := (gd_ks_in hk).1
    rw [gd_ks, if_pos hp] at hk ⊢
    rw [gd_kv, if_neg hk]
  have HB : ∀ u, pj_up h g (.inr (11, gd_Mo g u)) (g + 7) = some (.inl (0, 120, .inl (fun j => nI (c j)))) := fun u => (pj_up_n (by omega)).trans hb
  refine pj_in rfl (ls := [some (.ref g), none, none, none, none]) rfl (Nat.le_of_ble_eq_true rfl) ?_
  refine pj_ald0 (q := 1) (pj_d p_X12_readThing 0 rfl) rfl ?_
  refine pj_gf (q := 4) (k := 14) (pj_d p_X12_readThing 1 rfl) rfl kX12_91 (by first | assumption | exact pj_up_s | exact (pj_up_n (by omega)).trans (by assumption) | exact (pj_up_n (by omega)).trans pj_up_s) (by rfl) (by rfl) ?_
  rw [y4, gd_tv2 tk]
  refine pj_cp (pj_rS (q := 7) (c_X12_kindBy (c s.1.1) (hc _)) (pj_d p_X12_readThing 2 rfl) rfl kX12_119 o_X12_kindBy (by rfl) (by rfl) (Nat.le_of_ble_eq_true rfl) (by decide)) (by decide) (by decide) ?_
  rw [ek]
  refine pj_ist1 (q := 8) (pj_d p_X12_readThing 3 rfl) rfl (by first | rfl | assumption) ?_
  refine pj_ald0 (q := 9) (pj_d p_X12_readThing 4 rfl) rfl ?_
  refine pj_gf (q := 12) (k := 6) (pj_d p_X12_readThing 5 rfl) rfl kX12_22 (by first | assumption | exact pj_up_s | exact (pj_up_n (by omega)).trans (by assumption) | exact (pj_up_n (by omega)).trans pj_up_s) (by rfl) (by rfl) ?_
  refine pj_iconst (q := 13) (v := nI 1) (pj_d p_X12_readThing 6 rfl) rfl (by decide) ?_
  refine pj_ialdN (q := 14) (pj_d p_X12_readThing 7 rfl) rfl (by first | assumption | exact pj_up_s | exact (pj_up_n (by omega)).trans (by assumption) | exact (pj_up_n (by omega)).trans pj_up_s) (by rfl) (by first | assumption | omega) (Nat.le_of_ble_eq_true rfl) ?_
  rw [hj 1 (by omega)]
  refine pj_bipush (q := 16) (v := nI 7) (pj_d p_X12_readThing 8 rfl) rfl (by decide) ?_
  by_cases e7 : s.2 1 = 7
  · rw [if_pos e7]
    refine pj_icmp_ne (t := 24) (q := 19) (pj_d p_X12_readThing 9 rfl) rfl (by decide) (fun c1 => ?_) (fun c1 => ?_)
    · exact absurd (by rw [e7]) c1
    refine pj_ald0 (q := 20) (pj_d p_X12_readThing 10 rfl) rfl ?_
    refine pj_iconst (q := 21) (v := nI 3) (pj_d p_X12_readThing 11 rfl) rfl (by decide) ?_
    refine pj_cv (pj_rV (q := 24) (c_X12_bad hM hS hW.1 (k := 3) (by decide)) (pj_d p_X12_readThing 12 rfl) rfl kX12_105 o_X12_bad (by first | assumption | exact pj_up_s | exact (pj_up_n (by omega)).trans (by assumption) | exact (pj_up_n (by omega)).trans pj_up_s) (by rfl) (by rfl) (by rfl) (by rfl) (Nat.le_of_ble_eq_true rfl) (by decide)) (by decide) (by decide) ?_
    rintro r1 h1 n1 ⟨rfl, rfl, v1, rfl, p1, s1⟩
    have pb := gd_PB_fa (w := s.1.1) (k := 3) hW.1 hW.1.1 (by omega)
    have ne : ¬ (gd_fa s.1 s.1.1 3).2.1 = 0 := fun q => gd_fa_ok (by decide) q
    refine pj_ald0 (q := 25) (pj_d p_X12_readThing 13 rfl) rfl ?_
    refine pj_iconst (q := 26) (v := nI 1) (pj_d p_X12_readThing 14 rfl) rfl (by decide) ?_
    refine pj_cv (pj_rV (q := 29) (c_X12_must pj_up_s (HB _) hL hc s1 pb true) (pj_d p_X12_readThing 15 rfl) rfl kX12_112 o_X12_must (by first | assumption | exact pj_up_s | exact (pj_up_n (by omega)).trans (by assumption) | exact (pj_up_n (by omega)).trans pj_up_s) (by rfl) (by rfl) (by rfl) (by rfl) (Nat.le_of_ble_eq_true rfl) (by decide)) (by decide) (by decide) ?_
    rintro r1 h1 n1 ⟨rfl, rfl, v2, rfl, p2, s2⟩
    rw [gd_mu_bad ne] at s2
    rw [pj_up_up]
    have T := gd_rdT (E := E) (B := B) (l := l) (n := n1) (kd := gd_ks c L s.1.1) (v := v) (v1 := v2) hF hj h7 hb hL hc (fun i hi => by rw [p2 i hi, p1 i hi]) s2 pb
    rw [gd_tn_bad ne, gd_tb_bad ne, gd_tn_bad ne, gd_tb_bad ne, if_neg ne] at T
    exact T
  · rw [if_neg e7]
    refine pj_icmp_ne (t := 24) (q := 19) (pj_d p_X12_readThing 9 rfl) rfl (by decide) (fun c1 => ?_) (fun c1 => ?_)
    rotate_left
    · exact absurd ((nI_eq (by omega) (by omega)).mp c1) e7
    refine pj_ald0 (q := 25) (pj_d p_X12_readThing 13 rfl) rfl ?_
    refine pj_iconst (q := 26) (v := nI 1) (pj_d p_X12_readThing 14 rfl) rfl (by decide) ?_
    refine pj_cv (pj_rV (q := 29) (c_X12_must hM hb hL hc hS hW.1 true) (pj_d p_X12_readThing 15 rfl) rfl kX12_112 o_X12_must (by first | assumption | exact pj_up_s | exact (pj_up_n (by omega)).trans (by assumption) | exact (pj_up_n (by omega)).trans pj_up_s) (by rfl) (by rfl) (by rfl) (by rfl) (Nat.le_of_ble_eq_true rfl) (by decide)) (by decide) (by decide) ?_
    rintro r1 h1 n1 ⟨rfl, rfl, v2, rfl, p2, s2⟩
    have t2 := gd_tok2.mp tk
    rw [show gd_mu c L true s.1 = (s.1.1 + 1, s.1.2) by rw [gd_mu, if_pos rfl, if_pos e, gd_cu, if_pos t2.1, if_neg (fun q => by have := gd_dg_iff.mp q; omega)]] at s2
    have pb : gd_PB L (s.1.1 + 1, s.1.2) := ⟨by show s.1.1 + 1 ≤ L; omega, hW.1.2⟩
    exact gd_rdT (E := E) (B := B) (l := l) (n := n1) (kd := gd_ks c L s.1.1) (v := v) (v1 := v2) hF hj h7 hb hL hc p2 s2 pb
end
